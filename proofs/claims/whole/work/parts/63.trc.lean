/-! Trace: a quotient -/
set_option maxRecDepth 100000 in
set_option maxHeartbeats 4000000 in
theorem c_X5_putQuotient (l : Launch) (D : va_G) (Y : Nat → ClassId) {E : (Nat → Prop) → State → Heap → Prop} (hE : g_Stab E) (q : Nat → Nat) (I : Nat → Int) (V : Nat → UInt64) (N : Nat → Int) (i : Int) (a : Int) (b : Int) (hsI : smI I) (hB : bN01 N) (hi : 0 ≤ i ∧ i < 8) (ha : inR a) (hb : inR b) : g_Ct l yX5_putQuotient cX5_putQuotient 4 none ({ frames := 1, cells := 0, slots := 0, locals := 23 } : Room) D (tysY Y) E [.ref (q 99), .int (iI i), .int (iI a), .int (iI b)] (wTrace q Y I V N) 0 0 (fun r9 w9 => r9 = none ∧ ((((a = 0 ∧ b = 0) ∧ w9 = wTrace q Y I (sU V i.toNat 0) (sU N i.toNat 1))) ∨ (¬ (a = 0 ∧ b = 0) ∧ ((I 3 = 0 ∧ ∃ (m : UInt32) (r : UInt64), alike32 m (FP.fdiv (FP.i2f (iI a)) (FP.i2f (iI b))) = true ∧ alike64 r (FP.f2d m) = true ∧ w9 = wTrace q Y I (sU V i.toNat r) (sU N i.toNat 0)) ∨ (I 3 ≠ 0 ∧ ∃ r : UInt64, alike64 r (FP.ddiv (FP.i2d (iI a)) (FP.i2d (iI b))) = true ∧ w9 = wTrace q Y I (sU V i.toNat r) (sU N i.toNat 0)))))) := by
  refine g_ofG (own := RX5) hE (by decide) rfl (Nat.le_of_ble_eq_true rfl) [(0, .ref (q 99)), (1, .int (iI i)), (2, .int (iI a)), (3, .int (iI b))] rfl ?_
  intro p9 e9 s9 m9 b9 t9 c9 A9 C hr hlk hnm
  have hI := hsI
  unfold smI at hI
  have ha9 := ha
  have hb9 := hb
  unfold inR at ha9 hb9
  refine g_iload_n C (n' := 1) 2 rfl dX5_putQuotient_0 rfl rfl ?_
  refine g_if_ne C (n' := 4) 16 dX5_putQuotient_1 (by decide) rfl (by unfold inR; omega) (fun c1 => ?_) (fun c1 => ?_)
  · skip
    refine g_aload_n C (n' := 17) 0 rfl dX5_putQuotient_16 rfl rfl ?_
    refine g_get C (n' := 20) (Cn := RX5) (T := TX5) (N := 5) (ci := 4) (v := .int (iI (I 3))) ga_X5 0 rfl rfl 3 (by decide) kw_171 rfl rfl dX5_putQuotient_17 rfl ?_
    have h_17 := hI 3
    refine g_if_ne C (n' := 23) 37 dX5_putQuotient_20 (by decide) rfl (by unfold inR; omega) (fun c2 => ?_) (fun c2 => ?_)
    · skip
      refine g_aload_n C (n' := 38) 0 rfl dX5_putQuotient_37 rfl rfl ?_
      refine g_iload_n C (n' := 39) 1 rfl dX5_putQuotient_38 rfl rfl ?_
      refine g_iload_n C (n' := 40) 2 rfl dX5_putQuotient_39 rfl rfl ?_
      refine g_i2d C (n' := 41) dX5_putQuotient_40 rfl ?_
      refine g_iload_n C (n' := 42) 3 rfl dX5_putQuotient_41 rfl rfl ?_
      refine g_i2d C (n' := 43) dX5_putQuotient_42 rfl ?_
      refine g_ddiv C (n' := 44) dX5_putQuotient_43 rfl (fun r3 hr3 => ?_)
      refine g_cVn C (n' := 47) (c_X5_putNumber l D Y C.2.2.2.2.2.2.2.2.1 q I V N i r3 hi) 2 kw_570 kc_X5_putNumber (by decide +kernel) (pm0 _) 0 (ci := 4) rfl rfl rfl rfl ⟨Nat.le_of_ble_eq_true rfl, Nat.le_of_ble_eq_true rfl⟩ ⟨rfl, rfl⟩ ⟨Nat.le_of_ble_eq_true rfl, Nat.le_of_ble_eq_true rfl⟩ (Nat.le_of_ble_eq_true rfl) dX5_putQuotient_44 rfl rfl (wTrace q Y I (sU V i.toNat r3) (sU N i.toNat 0)) (pm0' _) ?_
      exact g_vret C hr hlk ⟨rfl, Or.inr ⟨by omega, Or.inr ⟨by omega, r3, hr3, rfl⟩⟩⟩ dX5_putQuotient_47
    · skip
      refine g_aload_n C (n' := 24) 0 rfl dX5_putQuotient_23 rfl rfl ?_
      refine g_iload_n C (n' := 25) 1 rfl dX5_putQuotient_24 rfl rfl ?_
      refine g_iload_n C (n' := 26) 2 rfl dX5_putQuotient_25 rfl rfl ?_
      refine g_i2f C (n' := 27) dX5_putQuotient_26 rfl ?_
      refine g_iload_n C (n' := 28) 3 rfl dX5_putQuotient_27 rfl rfl ?_
      refine g_i2f C (n' := 29) dX5_putQuotient_28 rfl ?_
      refine g_fdiv C (n' := 30) dX5_putQuotient_29 rfl (fun r4 hr4 => ?_)
      refine g_f2d C (n' := 31) dX5_putQuotient_30 rfl (fun r5 hr5 => ?_)
      refine g_cVn C (n' := 34) (c_X5_putNumber l D Y C.2.2.2.2.2.2.2.2.1 q I V N i r5 hi) 2 kw_570 kc_X5_putNumber (by decide +kernel) (pm0 _) 0 (ci := 4) rfl rfl rfl rfl ⟨Nat.le_of_ble_eq_true rfl, Nat.le_of_ble_eq_true rfl⟩ ⟨rfl, rfl⟩ ⟨Nat.le_of_ble_eq_true rfl, Nat.le_of_ble_eq_true rfl⟩ (Nat.le_of_ble_eq_true rfl) dX5_putQuotient_31 rfl rfl (wTrace q Y I (sU V i.toNat r5) (sU N i.toNat 0)) (pm0' _) ?_
      refine g_goto C 47 dX5_putQuotient_34 (by decide) ?_
      exact g_vret C hr hlk ⟨rfl, Or.inr ⟨by omega, Or.inl ⟨by omega, r4, r5, hr4, hr5, rfl⟩⟩⟩ dX5_putQuotient_47
  · skip
    refine g_iload_n C (n' := 5) 3 rfl dX5_putQuotient_4 rfl rfl ?_
    refine g_if_ne C (n' := 8) 16 dX5_putQuotient_5 (by decide) rfl (by unfold inR; omega) (fun c6 => ?_) (fun c6 => ?_)
    · skip
      refine g_aload_n C (n' := 17) 0 rfl dX5_putQuotient_16 rfl rfl ?_
      refine g_get C (n' := 20) (Cn := RX5) (T := TX5) (N := 5) (ci := 4) (v := .int (iI (I 3))) ga_X5 0 rfl rfl 3 (by decide) kw_171 rfl rfl dX5_putQuotient_17 rfl ?_
      have h_17 := hI 3
      refine g_if_ne C (n' := 23) 37 dX5_putQuotient_20 (by decide) rfl (by unfold inR; omega) (fun c7 => ?_) (fun c7 => ?_)
      · skip
        refine g_aload_n C (n' := 38) 0 rfl dX5_putQuotient_37 rfl rfl ?_
        refine g_iload_n C (n' := 39) 1 rfl dX5_putQuotient_38 rfl rfl ?_
        refine g_iload_n C (n' := 40) 2 rfl dX5_putQuotient_39 rfl rfl ?_
        refine g_i2d C (n' := 41) dX5_putQuotient_40 rfl ?_
        refine g_iload_n C (n' := 42) 3 rfl dX5_putQuotient_41 rfl rfl ?_
        refine g_i2d C (n' := 43) dX5_putQuotient_42 rfl ?_
        refine g_ddiv C (n' := 44) dX5_putQuotient_43 rfl (fun r8 hr8 => ?_)
        refine g_cVn C (n' := 47) (c_X5_putNumber l D Y C.2.2.2.2.2.2.2.2.1 q I V N i r8 hi) 2 kw_570 kc_X5_putNumber (by decide +kernel) (pm0 _) 0 (ci := 4) rfl rfl rfl rfl ⟨Nat.le_of_ble_eq_true rfl, Nat.le_of_ble_eq_true rfl⟩ ⟨rfl, rfl⟩ ⟨Nat.le_of_ble_eq_true rfl, Nat.le_of_ble_eq_true rfl⟩ (Nat.le_of_ble_eq_true rfl) dX5_putQuotient_44 rfl rfl (wTrace q Y I (sU V i.toNat r8) (sU N i.toNat 0)) (pm0' _) ?_
        exact g_vret C hr hlk ⟨rfl, Or.inr ⟨by omega, Or.inr ⟨by omega, r8, hr8, rfl⟩⟩⟩ dX5_putQuotient_47
      · skip
        refine g_aload_n C (n' := 24) 0 rfl dX5_putQuotient_23 rfl rfl ?_
        refine g_iload_n C (n' := 25) 1 rfl dX5_putQuotient_24 rfl rfl ?_
        refine g_iload_n C (n' := 26) 2 rfl dX5_putQuotient_25 rfl rfl ?_
        refine g_i2f C (n' := 27) dX5_putQuotient_26 rfl ?_
        refine g_iload_n C (n' := 28) 3 rfl dX5_putQuotient_27 rfl rfl ?_
        refine g_i2f C (n' := 29) dX5_putQuotient_28 rfl ?_
        refine g_fdiv C (n' := 30) dX5_putQuotient_29 rfl (fun r9 hr9 => ?_)
        refine g_f2d C (n' := 31) dX5_putQuotient_30 rfl (fun r10 hr10 => ?_)
        refine g_cVn C (n' := 34) (c_X5_putNumber l D Y C.2.2.2.2.2.2.2.2.1 q I V N i r10 hi) 2 kw_570 kc_X5_putNumber (by decide +kernel) (pm0 _) 0 (ci := 4) rfl rfl rfl rfl ⟨Nat.le_of_ble_eq_true rfl, Nat.le_of_ble_eq_true rfl⟩ ⟨rfl, rfl⟩ ⟨Nat.le_of_ble_eq_true rfl, Nat.le_of_ble_eq_true rfl⟩ (Nat.le_of_ble_eq_true rfl) dX5_putQuotient_31 rfl rfl (wTrace q Y I (sU V i.toNat r10) (sU N i.toNat 0)) (pm0' _) ?_
        refine g_goto C 47 dX5_putQuotient_34 (by decide) ?_
        exact g_vret C hr hlk ⟨rfl, Or.inr ⟨by omega, Or.inl ⟨by omega, r9, r10, hr9, hr10, rfl⟩⟩⟩ dX5_putQuotient_47
    · skip
      refine g_aload_n C (n' := 9) 0 rfl dX5_putQuotient_8 rfl rfl ?_
      refine g_iload_n C (n' := 10) 1 rfl dX5_putQuotient_9 rfl rfl ?_
      refine g_cVn C (n' := 13) (c_X5_putNoNumber l D Y C.2.2.2.2.2.2.2.2.1 q I V N i hi) 1 kw_590 kc_X5_putNoNumber (by decide +kernel) (pm0 _) 0 (ci := 4) rfl rfl rfl rfl ⟨Nat.le_of_ble_eq_true rfl, Nat.le_of_ble_eq_true rfl⟩ ⟨rfl, rfl⟩ ⟨Nat.le_of_ble_eq_true rfl, Nat.le_of_ble_eq_true rfl⟩ (Nat.le_of_ble_eq_true rfl) dX5_putQuotient_10 rfl rfl (wTrace q Y I (sU V i.toNat 0) (sU N i.toNat 1)) (pm0' _) ?_
      refine g_goto C 47 dX5_putQuotient_13 (by decide) ?_
      exact g_vret C hr hlk ⟨rfl, Or.inl ⟨by omega, rfl⟩⟩ dX5_putQuotient_47
