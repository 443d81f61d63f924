/-! the reference: values of places -/
theorem f2d_v {x y : UInt32} (h : FP.Core.val32 x = FP.Core.val32 y) : FP.Core.val64 (FP.f2d x) = FP.Core.val64 (FP.f2d y) := by
  by_cases q : FP.Core.val32 x = .nan
  · have q2 : FP.Core.val32 y = .nan := h ▸ q
    have e1 : FP.Core.val64 (FP.f2d x) = .nan := by
      refine Classical.byContradiction fun z => ?_
      exact (Jvm.Free.Fl.val32_no (x := x)).mp (Jvm.Free.Fl.f2d_in ((Jvm.Free.Fl.val64_no).mpr z)) q
    have e2 : FP.Core.val64 (FP.f2d y) = .nan := by
      refine Classical.byContradiction fun z => ?_
      exact (Jvm.Free.Fl.val32_no (x := y)).mp (Jvm.Free.Fl.f2d_in ((Jvm.Free.Fl.val64_no).mpr z)) q2
    rw [e1, e2]
  · rw [FP.Core.val32_inj q h]
def thV (s : Int) (f : UInt32) (d : UInt64) : Int := if s = 0 then m_cut (FP.f2d (FP.fmul 1148846080 f)) else m_cut (FP.dmul 4652007308841189376 d)
def voV (s : Int) (f : UInt32) (d : UInt64) : UInt64 := if s = 0 then FP.f2d f else d
set_option maxRecDepth 100000 in
set_option maxHeartbeats 4000000 in
theorem c_X8_thousand (l : Launch) (D : va_G) (Y : Nat → ClassId) {E : (Nat → Prop) → State → Heap → Prop} (hE : g_Stab E) (q : Nat → Nat) (I : Nat → Int) (A : Nat → Nat → Int) (F : Nat → UInt32) (Dd : Nat → UInt64) (t : Int) (i : Int) (hsI : smI I) (hsA : smA A) (ht : 0 ≤ t ∧ t < 3) (hi : 0 ≤ i ∧ i < 8) : g_Ct l yX8_thousand cX8_thousand 3 (some FieldType.int) ({ frames := 1, cells := 0, slots := 0, locals := 21 } : Room) D (tysY Y) E [.ref (q 99), .int (iI t), .int (iI i)] (wMod q Y I A F Dd) 0 0 (g_det (some (.int (iI (thV (A 12 t.toNat) (F (8 * t + i).toNat) (Dd (8 * t + i).toNat))))) (wMod q Y I A F Dd)) := by
  refine g_ofG (own := RX8) hE (by decide) rfl (Nat.le_of_ble_eq_true rfl) [(0, .ref (q 99)), (1, .int (iI t)), (2, .int (iI i))] rfl ?_
  intro p9 e9 s9 m9 b9 t9 c9 A9 C hr hlk hnm
  have hI := hsI
  have hA := hsA
  unfold smI at hI
  unfold smA at hA
  refine g_aload_n C (n' := 1) 0 rfl dX8_thousand_0 rfl rfl ?_
  refine g_get C (n' := 4) (Cn := RX8) (T := TX8) (N := 35) (ci := 6) (v := .ref (q 12)) ga_X8 0 rfl rfl 12 (by decide) kw_702 rfl rfl dX8_thousand_1 rfl ?_
  refine g_iload_n C (n' := 5) 1 rfl dX8_thousand_4 rfl rfl ?_
  refine g_iald C (n' := 6) (f := (A 12)) 6 0 rfl rfl (by omega) (by omega) (by decide) rfl dX8_thousand_5 rfl ?_
  have h_5 := hA 12 t.toNat
  refine g_if_ne C (n' := 9) 30 dX8_thousand_6 (by decide) rfl (by unfold inR; omega) (fun c1 => ?_) (fun c1 => ?_)
  · skip
    refine g_ldc2d C (n' := 33) kw_1016 dX8_thousand_30 rfl ?_
    refine g_aload_n C (n' := 34) 0 rfl dX8_thousand_33 rfl rfl ?_
    refine g_get C (n' := 37) (Cn := RX8) (T := TX8) (N := 35) (ci := 6) (v := .ref (q 15)) ga_X8 0 rfl rfl 15 (by decide) kw_705 rfl rfl dX8_thousand_34 rfl ?_
    refine g_bipush C (n' := 39) (by decide) dX8_thousand_37 rfl ?_
    refine g_iload_n C (n' := 40) 1 rfl dX8_thousand_39 rfl rfl ?_
    refine g_imul C (n' := 41) dX8_thousand_40 rfl ?_
    refine g_iload_n C (n' := 42) 2 rfl dX8_thousand_41 rfl rfl ?_
    refine g_iadd C (n' := 43) dX8_thousand_42 rfl ?_
    refine g_dald C (n' := 44) (f := Dd) 9 3 rfl rfl (by omega) (by omega) (by decide) dX8_thousand_43 rfl ?_
    refine g_dmul C (n' := 45) dX8_thousand_44 rfl (fun r2 hr2 => ?_)
    refine g_cSv C (n' := 48) (v := .int (iI (m_cut r2))) (c_X8_cut l D Y C.2.2.2.2.2.2.2.2.1 r2) 1 kw_1008 kc_X8_cut (by decide +kernel) (pm_n _) rfl ⟨Nat.le_of_ble_eq_true rfl, Nat.le_of_ble_eq_true rfl⟩ ⟨rfl, rfl⟩ ⟨Nat.le_of_ble_eq_true rfl, Nat.le_of_ble_eq_true rfl⟩ (Nat.le_of_ble_eq_true rfl) dX8_thousand_45 rfl rfl (wMod q Y I A F Dd) (pm_n _) ?_
    refine g_iret C hr hlk rfl ⟨congrArg (fun z : Int => some (Value.int (iI z))) ?_, rfl⟩ dX8_thousand_48
    unfold thV
    rw [if_neg (by omega)]
    exact m_cut_v (al64_v hr2)
  · skip
    refine g_ldcf C (n' := 11) kw_1007 dX8_thousand_9 rfl ?_
    refine g_aload_n C (n' := 12) 0 rfl dX8_thousand_11 rfl rfl ?_
    refine g_get C (n' := 15) (Cn := RX8) (T := TX8) (N := 35) (ci := 6) (v := .ref (q 14)) ga_X8 0 rfl rfl 14 (by decide) kw_704 rfl rfl dX8_thousand_12 rfl ?_
    refine g_bipush C (n' := 17) (by decide) dX8_thousand_15 rfl ?_
    refine g_iload_n C (n' := 18) 1 rfl dX8_thousand_17 rfl rfl ?_
    refine g_imul C (n' := 19) dX8_thousand_18 rfl ?_
    refine g_iload_n C (n' := 20) 2 rfl dX8_thousand_19 rfl rfl ?_
    refine g_iadd C (n' := 21) dX8_thousand_20 rfl ?_
    refine g_fald C (n' := 22) (f := F) 8 4 rfl rfl (by omega) (by omega) (by decide) dX8_thousand_21 rfl ?_
    refine g_fmul C (n' := 23) dX8_thousand_22 rfl (fun r3 hr3 => ?_)
    refine g_f2d C (n' := 24) dX8_thousand_23 rfl (fun r4 hr4 => ?_)
    refine g_cSv C (n' := 27) (v := .int (iI (m_cut r4))) (c_X8_cut l D Y C.2.2.2.2.2.2.2.2.1 r4) 1 kw_1008 kc_X8_cut (by decide +kernel) (pm_n _) rfl ⟨Nat.le_of_ble_eq_true rfl, Nat.le_of_ble_eq_true rfl⟩ ⟨rfl, rfl⟩ ⟨Nat.le_of_ble_eq_true rfl, Nat.le_of_ble_eq_true rfl⟩ (Nat.le_of_ble_eq_true rfl) dX8_thousand_24 rfl rfl (wMod q Y I A F Dd) (pm_n _) ?_
    refine g_goto C 48 dX8_thousand_27 (by decide) ?_
    refine g_iret C hr hlk rfl ⟨congrArg (fun z : Int => some (Value.int (iI z))) ?_, rfl⟩ dX8_thousand_48
    unfold thV
    rw [if_pos (by omega)]
    exact m_cut_v ((al64_v hr4).trans (f2d_v (al32_v hr3)))
set_option maxRecDepth 100000 in
set_option maxHeartbeats 4000000 in
theorem c_X8_valueOf (l : Launch) (D : va_G) (Y : Nat → ClassId) {E : (Nat → Prop) → State → Heap → Prop} (hE : g_Stab E) (q : Nat → Nat) (I : Nat → Int) (A : Nat → Nat → Int) (F : Nat → UInt32) (Dd : Nat → UInt64) (t : Int) (i : Int) (hsI : smI I) (hsA : smA A) (ht : 0 ≤ t ∧ t < 3) (hi : 0 ≤ i ∧ i < 8) : g_Ct l yX8_valueOf cX8_valueOf 3 (some FieldType.double) ({ frames := 0, cells := 0, slots := 0, locals := 0 } : Room) D (tysY Y) E [.ref (q 99), .int (iI t), .int (iI i)] (wMod q Y I A F Dd) 0 0 (fun r9 w9 => w9 = wMod q Y I A F Dd ∧ ∃ r : UInt64, r9 = some (.double r) ∧ alike64 r (voV (A 12 t.toNat) (F (8 * t + i).toNat) (Dd (8 * t + i).toNat)) = true) := by
  refine g_ofG (own := RX8) hE (by decide) rfl (Nat.le_of_ble_eq_true rfl) [(0, .ref (q 99)), (1, .int (iI t)), (2, .int (iI i))] rfl ?_
  intro p9 e9 s9 m9 b9 t9 c9 A9 C hr hlk hnm
  have hI := hsI
  have hA := hsA
  unfold smI at hI
  unfold smA at hA
  refine g_aload_n C (n' := 1) 0 rfl dX8_valueOf_0 rfl rfl ?_
  refine g_get C (n' := 4) (Cn := RX8) (T := TX8) (N := 35) (ci := 6) (v := .ref (q 12)) ga_X8 0 rfl rfl 12 (by decide) kw_702 rfl rfl dX8_valueOf_1 rfl ?_
  refine g_iload_n C (n' := 5) 1 rfl dX8_valueOf_4 rfl rfl ?_
  refine g_iald C (n' := 6) (f := (A 12)) 6 0 rfl rfl (by omega) (by omega) (by decide) rfl dX8_valueOf_5 rfl ?_
  have h_5 := hA 12 t.toNat
  refine g_if_ne C (n' := 9) 24 dX8_valueOf_6 (by decide) rfl (by unfold inR; omega) (fun c1 => ?_) (fun c1 => ?_)
  · skip
    refine g_aload_n C (n' := 25) 0 rfl dX8_valueOf_24 rfl rfl ?_
    refine g_get C (n' := 28) (Cn := RX8) (T := TX8) (N := 35) (ci := 6) (v := .ref (q 15)) ga_X8 0 rfl rfl 15 (by decide) kw_705 rfl rfl dX8_valueOf_25 rfl ?_
    refine g_bipush C (n' := 30) (by decide) dX8_valueOf_28 rfl ?_
    refine g_iload_n C (n' := 31) 1 rfl dX8_valueOf_30 rfl rfl ?_
    refine g_imul C (n' := 32) dX8_valueOf_31 rfl ?_
    refine g_iload_n C (n' := 33) 2 rfl dX8_valueOf_32 rfl rfl ?_
    refine g_iadd C (n' := 34) dX8_valueOf_33 rfl ?_
    refine g_dald C (n' := 35) (f := Dd) 9 3 rfl rfl (by omega) (by omega) (by decide) dX8_valueOf_34 rfl ?_
    exact g_dret C hr hlk ⟨rfl, _, rfl, by unfold voV; rw [if_neg (by omega)]; exact alike64_refl _⟩ dX8_valueOf_35
  · skip
    refine g_aload_n C (n' := 10) 0 rfl dX8_valueOf_9 rfl rfl ?_
    refine g_get C (n' := 13) (Cn := RX8) (T := TX8) (N := 35) (ci := 6) (v := .ref (q 14)) ga_X8 0 rfl rfl 14 (by decide) kw_704 rfl rfl dX8_valueOf_10 rfl ?_
    refine g_bipush C (n' := 15) (by decide) dX8_valueOf_13 rfl ?_
    refine g_iload_n C (n' := 16) 1 rfl dX8_valueOf_15 rfl rfl ?_
    refine g_imul C (n' := 17) dX8_valueOf_16 rfl ?_
    refine g_iload_n C (n' := 18) 2 rfl dX8_valueOf_17 rfl rfl ?_
    refine g_iadd C (n' := 19) dX8_valueOf_18 rfl ?_
    refine g_fald C (n' := 20) (f := F) 8 4 rfl rfl (by omega) (by omega) (by decide) dX8_valueOf_19 rfl ?_
    refine g_f2d C (n' := 21) dX8_valueOf_20 rfl (fun r2 hr2 => ?_)
    refine g_goto C 35 dX8_valueOf_21 (by decide) ?_
    exact g_dret C hr hlk ⟨rfl, r2, rfl, by unfold voV; rw [if_pos (by omega)]; exact hr2⟩ dX8_valueOf_35
theorem npV_r (z s x i j : Int) : npV z s x i j = -11 ∨ npV z s x i j = -13 ∨ npV z s x i j = -14 ∨ (npV z s x i j = 0 ∧ 0 ≤ z ∧ s = x ∧ (0 ≤ i ∧ i < z) ∧ (0 ≤ j ∧ j < z)) := by
  unfold npV
  (repeat' split) <;> omega
set_option maxRecDepth 100000 in
set_option maxHeartbeats 4000000 in
theorem c_X8_get (l : Launch) (D : va_G) (Y : Nat → ClassId) {E : (Nat → Prop) → State → Heap → Prop} (hE : g_Stab E) (q : Nat → Nat) (I : Nat → Int) (A : Nat → Nat → Int) (F : Nat → UInt32) (Dd : Nat → UInt64) (t : Int) (x : Int) (i : Int) (hsI : smI I) (hsA : smA A) (hz : szOK A) (ht : inR t) (hx : inR x) (hi : inR i) : g_Ct l yX8_get cX8_get 5 (some FieldType.int) ({ frames := 2, cells := 0, slots := 0, locals := 49 } : Room) D (tysY Y) E [.ref (q 99), .int (iI t), .int (iI x), .int (iI i)] (wMod q Y I A F Dd) 0 0 (g_det (some (.int (iI (if 0 ≤ t ∧ t ≤ 2 then (if 0 ≤ x ∧ x ≤ 1 then (if npV (A 13 t.toNat) (A 12 t.toNat) x i i ≠ 0 then npV (A 13 t.toNat) (A 12 t.toNat) x i i else thV (A 12 t.toNat) (F (8 * t + i).toNat) (Dd (8 * t + i).toNat)) else -3) else -2)))) (wMod q Y I A F Dd)) := by
  refine g_ofG (own := RX8) hE (by decide) rfl (Nat.le_of_ble_eq_true rfl) [(0, .ref (q 99)), (1, .int (iI t)), (2, .int (iI x)), (3, .int (iI i))] rfl ?_
  intro p9 e9 s9 m9 b9 t9 c9 A9 C hr hlk hnm
  have hI := hsI
  have hA := hsA
  unfold smI at hI
  unfold smA at hA
  have ht9 := ht
  have hx9 := hx
  have hi9 := hi
  unfold inR at ht9 hx9 hi9
  refine g_iload_n C (n' := 1) 1 rfl dX8_get_0 rfl rfl ?_
  refine g_cSv C (n' := 4) (v := .int (iI (if 0 ≤ t ∧ t ≤ 2 then 1 else 0))) (c_X8_isTrace l D Y C.2.2.2.2.2.2.2.2.1 t ht) 1 kw_989 kc_X8_isTrace (by decide +kernel) (pm_n _) rfl ⟨Nat.le_of_ble_eq_true rfl, Nat.le_of_ble_eq_true rfl⟩ ⟨rfl, rfl⟩ ⟨Nat.le_of_ble_eq_true rfl, Nat.le_of_ble_eq_true rfl⟩ (Nat.le_of_ble_eq_true rfl) dX8_get_1 rfl rfl (wMod q Y I A F Dd) (pm_n _) ?_
  refine g_if_ne C (n' := 7) 10 dX8_get_4 (by decide) rfl bz_r (fun c1 => ?_) (fun c1 => ?_)
  · skip
    replace c1 := bz_ne.mp c1
    refine g_iload_n C (n' := 11) 2 rfl dX8_get_10 rfl rfl ?_
    refine g_i2l C (n' := 12) (by unfold inR; omega) dX8_get_11 rfl ?_
    refine g_lconst C (n' := 13) 0 (by decide) dX8_get_12 rfl ?_
    refine g_lconst C (n' := 14) 1 (by decide) dX8_get_13 rfl ?_
    refine g_cSv C (n' := 17) (v := .int (iI (if 0 ≤ x ∧ x ≤ 1 then 1 else 0))) (c_X8_in l D Y C.2.2.2.2.2.2.2.2.1 x 0 1 hx (by unfold inR at *; omega) (by unfold inR at *; omega)) 3 kw_802 kc_X8_in (by decide +kernel) (pm_n _) rfl ⟨Nat.le_of_ble_eq_true rfl, Nat.le_of_ble_eq_true rfl⟩ ⟨rfl, rfl⟩ ⟨Nat.le_of_ble_eq_true rfl, Nat.le_of_ble_eq_true rfl⟩ (Nat.le_of_ble_eq_true rfl) dX8_get_14 rfl rfl (wMod q Y I A F Dd) (pm_n _) ?_
    refine g_if_ne C (n' := 20) 23 dX8_get_17 (by decide) rfl bz_r (fun c2 => ?_) (fun c2 => ?_)
    · skip
      replace c2 := bz_ne.mp c2
      refine g_aload_n C (n' := 24) 0 rfl dX8_get_23 rfl rfl ?_
      refine g_iload_n C (n' := 25) 1 rfl dX8_get_24 rfl rfl ?_
      refine g_iload_n C (n' := 26) 2 rfl dX8_get_25 rfl rfl ?_
      refine g_iload_n C (n' := 27) 3 rfl dX8_get_26 rfl rfl ?_
      refine g_iload_n C (n' := 28) 3 rfl dX8_get_27 rfl rfl ?_
      refine g_cVv C (n' := 31) (v := .int (iI (npV ((A 13) t.toNat) ((A 12) t.toNat) x i i))) (c_X8_noPlace l D Y C.2.2.2.2.2.2.2.2.1 q I A F Dd t x i i hsI hsA hz (by omega) hx hi hi) 4 kw_999 kc_X8_noPlace (by decide +kernel) (pm0 _) 0 (ci := 6) rfl rfl rfl rfl ⟨Nat.le_of_ble_eq_true rfl, Nat.le_of_ble_eq_true rfl⟩ ⟨rfl, rfl⟩ ⟨Nat.le_of_ble_eq_true rfl, Nat.le_of_ble_eq_true rfl⟩ (Nat.le_of_ble_eq_true rfl) dX8_get_28 rfl rfl (wMod q Y I A F Dd) (pm0' _) ?_
      have hnp := npV_r (A 13 t.toNat) (A 12 t.toNat) x i i
      have hzt := hz t.toNat
      refine g_istore C (n' := 33) [(4, .int (iI (npV ((A 13) t.toNat) ((A 12) t.toNat) x i i))), (0, .ref (q 99)), (1, .int (iI t)), (2, .int (iI x)), (3, .int (iI i))] dX8_get_31 rfl (by decide) rfl ?_
      refine g_iload C (n' := 35) 0 rfl dX8_get_33 rfl ?_
      refine g_if_eq C (n' := 38) 43 dX8_get_35 (by decide) rfl (by unfold inR; omega) (fun c3 => ?_) (fun c3 => ?_)
      · skip
        refine g_aload_n C (n' := 44) 1 rfl dX8_get_43 rfl rfl ?_
        refine g_iload_n C (n' := 45) 2 rfl dX8_get_44 rfl rfl ?_
        refine g_iload_n C (n' := 46) 4 rfl dX8_get_45 rfl rfl ?_
        refine g_cVv C (n' := 49) (v := .int (iI (thV ((A 12) t.toNat) (F (8 * t + i).toNat) (Dd (8 * t + i).toNat)))) (c_X8_thousand l D Y C.2.2.2.2.2.2.2.2.1 q I A F Dd t i hsI hsA (by omega) (by omega)) 2 kw_1003 kc_X8_thousand (by decide +kernel) (pm0 _) 0 (ci := 6) rfl rfl rfl rfl ⟨Nat.le_of_ble_eq_true rfl, Nat.le_of_ble_eq_true rfl⟩ ⟨rfl, rfl⟩ ⟨Nat.le_of_ble_eq_true rfl, Nat.le_of_ble_eq_true rfl⟩ (Nat.le_of_ble_eq_true rfl) dX8_get_46 rfl rfl (wMod q Y I A F Dd) (pm0' _) ?_
        refine g_iret C hr hlk rfl ⟨congrArg (fun z : Int => some (Value.int (iI z))) ?_, rfl⟩ dX8_get_49
        rw [if_pos (by omega), if_pos (by omega), if_neg (by omega)]
      · skip
        refine g_iload C (n' := 40) 0 rfl dX8_get_38 rfl ?_
        refine g_goto C 49 dX8_get_40 (by decide) ?_
        refine g_iret C hr hlk rfl ⟨congrArg (fun z : Int => some (Value.int (iI z))) ?_, rfl⟩ dX8_get_49
        rw [if_pos (by omega), if_pos (by omega), if_pos (by omega)]
    · skip
      replace c2 := bz_nne.mp c2
      refine g_bipush C (n' := 22) (by decide) dX8_get_20 rfl ?_
      refine g_iret C hr hlk rfl ⟨congrArg (fun z : Int => some (Value.int (iI z))) ?_, rfl⟩ dX8_get_22
      rw [if_pos (by omega), if_neg (by omega)]
  · skip
    replace c1 := bz_nne.mp c1
    refine g_bipush C (n' := 9) (by decide) dX8_get_7 rfl ?_
    refine g_iret C hr hlk rfl ⟨congrArg (fun z : Int => some (Value.int (iI z))) ?_, rfl⟩ dX8_get_9
    rw [if_neg (by omega)]
