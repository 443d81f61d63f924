/-! Trace: a quotient, a thousandfold -/
theorem d2f_v {x y : UInt64} (h : FP.Core.val64 x = FP.Core.val64 y) : FP.Core.val32 (FP.d2f x) = FP.Core.val32 (FP.d2f y) := by
  by_cases q : FP.Core.val64 x = .nan
  · have q2 : FP.Core.val64 y = .nan := h ▸ q
    have e1 : FP.Core.val32 (FP.d2f x) = .nan := by
      refine Classical.byContradiction fun z => ?_
      exact (Jvm.Free.Fl.val64_no (x := x)).mp (Jvm.Free.Fl.d2f_in ((Jvm.Free.Fl.val32_no).mpr z)) q
    have e2 : FP.Core.val32 (FP.d2f y) = .nan := by
      refine Classical.byContradiction fun z => ?_
      exact (Jvm.Free.Fl.val64_no (x := y)).mp (Jvm.Free.Fl.d2f_in ((Jvm.Free.Fl.val32_no).mpr z)) q2
    rw [e1, e2]
  · rw [FP.Core.val64_inj q h]
theorem fmul_v {a b a' b' : UInt32} (h1 : FP.Core.val32 a = FP.Core.val32 a') (h2 : FP.Core.val32 b = FP.Core.val32 b') : FP.Core.val32 (FP.fmul a b) = FP.Core.val32 (FP.fmul a' b') := by
  show FP.Core.val32 (FP.Core.fmul a b) = FP.Core.val32 (FP.Core.fmul a' b')
  rw [FP.Core.val32_fmul, FP.Core.val32_fmul, h1, h2]
theorem t_cut_v {x x' : UInt64} (hx : FP.Core.val64 x = FP.Core.val64 x') : t_cut x = t_cut x' := by
  unfold t_cut
  rw [dcV_v (op := .l) (y := 4696837146684686336) hx rfl, dcV_v (op := .g) (y := 13920209183539462144) hx rfl, d2V_v hx]
def taV (m s : Int) (v : UInt64) : Int := if m = 0 then (if s = 0 then t_cut (FP.f2d (FP.fmul (FP.d2f v) 1148846080)) else t_cut (FP.dmul v 4652007308841189376)) else 2000000
set_option maxRecDepth 100000 in
set_option maxHeartbeats 4000000 in
theorem c_X5_thousandAt (l : Launch) (D : va_G) (Y : Nat → ClassId) {E : (Nat → Prop) → State → Heap → Prop} (hE : g_Stab E) (q : Nat → Nat) (I : Nat → Int) (V : Nat → UInt64) (N : Nat → Int) (k : Int) (hsI : smI I) (hB : bN01 N) (hk : 0 ≤ k ∧ k < 8) : g_Ct l yX5_thousandAt cX5_thousandAt 2 (some FieldType.int) ({ frames := 1, cells := 0, slots := 0, locals := 21 } : Room) D (tysY Y) E [.ref (q 99), .int (iI k)] (wTrace q Y I V N) 0 0 (g_det (some (.int (iI (taV (N k.toNat) (I 3) (V k.toNat))))) (wTrace q Y I V N)) := by
  refine g_ofG (own := RX5) hE (by decide) rfl (Nat.le_of_ble_eq_true rfl) [(0, .ref (q 99)), (1, .int (iI k))] rfl ?_
  intro p9 e9 s9 m9 b9 t9 c9 A9 C hr hlk hnm
  have hI := hsI
  unfold smI at hI
  refine g_aload_n C (n' := 1) 0 rfl dX5_thousandAt_0 rfl rfl ?_
  refine g_get C (n' := 4) (Cn := RX5) (T := TX5) (N := 5) (ci := 4) (v := .ref (q 1)) ga_X5 0 rfl rfl 1 (by decide) kw_169 rfl rfl dX5_thousandAt_1 rfl ?_
  refine g_iload_n C (n' := 5) 1 rfl dX5_thousandAt_4 rfl rfl ?_
  refine g_zald C (n' := 6) (f := N) 2 2 rfl rfl (by omega) (by omega) (by decide) rfl dX5_thousandAt_5 rfl ?_
  have h_5 := hB k.toNat
  refine g_if_eq C (n' := 9) 12 dX5_thousandAt_6 (by decide) rfl (by unfold inR; omega) (fun c1 => ?_) (fun c1 => ?_)
  · skip
    refine g_aload_n C (n' := 13) 0 rfl dX5_thousandAt_12 rfl rfl ?_
    refine g_get C (n' := 16) (Cn := RX5) (T := TX5) (N := 5) (ci := 4) (v := .int (iI (I 3))) ga_X5 0 rfl rfl 3 (by decide) kw_171 rfl rfl dX5_thousandAt_13 rfl ?_
    have h_13 := hI 3
    refine g_if_ne C (n' := 19) 34 dX5_thousandAt_16 (by decide) rfl (by unfold inR; omega) (fun c2 => ?_) (fun c2 => ?_)
    · skip
      refine g_aload_n C (n' := 35) 0 rfl dX5_thousandAt_34 rfl rfl ?_
      refine g_get C (n' := 38) (Cn := RX5) (T := TX5) (N := 5) (ci := 4) (v := .ref (q 0)) ga_X5 0 rfl rfl 0 (by decide) kw_168 rfl rfl dX5_thousandAt_35 rfl ?_
      refine g_iload_n C (n' := 39) 1 rfl dX5_thousandAt_38 rfl rfl ?_
      refine g_dald C (n' := 40) (f := V) 1 3 rfl rfl (by omega) (by omega) (by decide) dX5_thousandAt_39 rfl ?_
      refine g_ldc2d C (n' := 43) kw_607 dX5_thousandAt_40 rfl ?_
      refine g_dmul C (n' := 44) dX5_thousandAt_43 rfl (fun r3 hr3 => ?_)
      refine g_cSv C (n' := 47) (v := .int (iI (t_cut r3))) (c_X5_cutThousand l D Y C.2.2.2.2.2.2.2.2.1 r3) 1 kw_600 kc_X5_cutThousand (by decide +kernel) (pm_n _) rfl ⟨Nat.le_of_ble_eq_true rfl, Nat.le_of_ble_eq_true rfl⟩ ⟨rfl, rfl⟩ ⟨Nat.le_of_ble_eq_true rfl, Nat.le_of_ble_eq_true rfl⟩ (Nat.le_of_ble_eq_true rfl) dX5_thousandAt_44 rfl rfl (wTrace q Y I V N) (pm_n _) ?_
      refine g_iret C hr hlk rfl ⟨congrArg (fun z : Int => some (Value.int (iI z))) ?_, rfl⟩ dX5_thousandAt_47
      unfold taV
      rw [if_pos (by omega), if_neg (by omega)]
      exact t_cut_v (al64_v hr3)
    · skip
      refine g_aload_n C (n' := 20) 0 rfl dX5_thousandAt_19 rfl rfl ?_
      refine g_get C (n' := 23) (Cn := RX5) (T := TX5) (N := 5) (ci := 4) (v := .ref (q 0)) ga_X5 0 rfl rfl 0 (by decide) kw_168 rfl rfl dX5_thousandAt_20 rfl ?_
      refine g_iload_n C (n' := 24) 1 rfl dX5_thousandAt_23 rfl rfl ?_
      refine g_dald C (n' := 25) (f := V) 1 3 rfl rfl (by omega) (by omega) (by decide) dX5_thousandAt_24 rfl ?_
      refine g_d2f C (n' := 26) dX5_thousandAt_25 rfl (fun r4 hr4 => ?_)
      refine g_ldcf C (n' := 28) kw_599 dX5_thousandAt_26 rfl ?_
      refine g_fmul C (n' := 29) dX5_thousandAt_28 rfl (fun r5 hr5 => ?_)
      refine g_f2d C (n' := 30) dX5_thousandAt_29 rfl (fun r6 hr6 => ?_)
      refine g_cSv C (n' := 33) (v := .int (iI (t_cut r6))) (c_X5_cutThousand l D Y C.2.2.2.2.2.2.2.2.1 r6) 1 kw_600 kc_X5_cutThousand (by decide +kernel) (pm_n _) rfl ⟨Nat.le_of_ble_eq_true rfl, Nat.le_of_ble_eq_true rfl⟩ ⟨rfl, rfl⟩ ⟨Nat.le_of_ble_eq_true rfl, Nat.le_of_ble_eq_true rfl⟩ (Nat.le_of_ble_eq_true rfl) dX5_thousandAt_30 rfl rfl (wTrace q Y I V N) (pm_n _) ?_
      refine g_iret C hr hlk rfl ⟨congrArg (fun z : Int => some (Value.int (iI z))) ?_, rfl⟩ dX5_thousandAt_33
      unfold taV
      rw [if_pos (by omega), if_pos (by omega)]
      exact t_cut_v ((al64_v hr6).trans (f2d_v ((al32_v hr5).trans (fmul_v (al32_v hr4) rfl))))
  · skip
    refine g_ldc C (n' := 11) 2000000 (by decide) kw_598 dX5_thousandAt_9 rfl ?_
    refine g_iret C hr hlk rfl ⟨congrArg (fun z : Int => some (Value.int (iI z))) ?_, rfl⟩ dX5_thousandAt_11
    unfold taV
    rw [if_neg (by omega)]
