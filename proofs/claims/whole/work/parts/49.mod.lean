/-! the reference: undo, keep, back, count -/
set_option maxRecDepth 100000 in
set_option maxHeartbeats 4000000 in
theorem c_X8_undo (l : Launch) (D : va_G) (Y : Nat → ClassId) {E : (Nat → Prop) → State → Heap → Prop} (hE : g_Stab E) (q : Nat → Nat) (I : Nat → Int) (A : Nat → Nat → Int) (F : Nat → UInt32) (Dd : Nat → UInt64) (hsI : smI I) (hsA : smA A) (hN : okN (mJ I A) (mN A)) (h8 : 0 ≤ I 8 ∧ I 8 ≤ 8) : g_Ct l yX8_undo cX8_undo 1 (some FieldType.int) ({ frames := 1, cells := 0, slots := 0, locals := 23 } : Room) D (tysY Y) E [.ref (q 99)] (wMod q Y I A F Dd) 0 0 (fun r9 w9 => (I 8 = 0 ∧ r9 = some (.int (iI (-4))) ∧ w9 = wMod q Y I A F Dd) ∨ (I 8 ≠ 0 ∧ r9 = some (.int (iI (I 8 - 1))) ∧ w9 = wMod q Y (sU I 8 (I 8 - 1)) (sU A 0 (m_cp (A 0) (Int.toNat (33 + 33 * (I 8 - 1))) (Int.toNat 0) 33)) F Dd)) := by
  refine g_ofG (own := RX8) hE (by decide) rfl (Nat.le_of_ble_eq_true rfl) [(0, .ref (q 99))] rfl ?_
  intro p9 e9 s9 m9 b9 t9 c9 A9 C hr hlk hnm
  have hI := hsI
  have hA := hsA
  unfold smI at hI
  unfold smA at hA
  have hN9 := hN
  unfold okN at hN9
  simp only [mJ, mN] at hN9
  refine g_aload_n C (n' := 1) 0 rfl dX8_undo_0 rfl rfl ?_
  refine g_get C (n' := 4) (Cn := RX8) (T := TX8) (N := 35) (ci := 6) (v := .int (iI (I 8))) ga_X8 0 rfl rfl 8 (by decide) kw_698 rfl rfl dX8_undo_1 rfl ?_
  have h_1 := hI 8
  refine g_if_ne C (n' := 7) 10 dX8_undo_4 (by decide) rfl (by unfold inR; omega) (fun c1 => ?_) (fun c1 => ?_)
  · skip
    refine g_aload_n C (n' := 11) 0 rfl dX8_undo_10 rfl rfl ?_
    refine g_dup C (n' := 12) rfl dX8_undo_11 rfl ?_
    refine g_get C (n' := 15) (Cn := RX8) (T := TX8) (N := 35) (ci := 6) (v := .int (iI (I 8))) ga_X8 0 rfl rfl 8 (by decide) kw_698 rfl rfl dX8_undo_12 rfl ?_
    have h_12 := hI 8
    refine g_iconst C (n' := 16) dX8_undo_15 rfl ?_
    refine g_isub C (n' := 17) dX8_undo_16 rfl ?_
    refine g_put C (n' := 20) (Cn := RX8) (T := TX8) (N := 35) (ci := 6) (v := .int (iI ((I 8) - 1))) ga_X8 0 rfl rfl 8 (by decide) kw_698 rfl tyX8 tyX8_ok nmX8 rfl rfl rfl rfl (Nat.le_of_ble_eq_true rfl) (wMod q Y (sU I 8 ((I 8) - 1)) A F Dd) rfl dX8_undo_17 rfl ?_
    refine g_aload_n C (n' := 21) 0 rfl dX8_undo_20 rfl rfl ?_
    refine g_bipush C (n' := 23) (by decide) dX8_undo_21 rfl ?_
    refine g_bipush C (n' := 25) (by decide) dX8_undo_23 rfl ?_
    refine g_aload_n C (n' := 26) 0 rfl dX8_undo_25 rfl rfl ?_
    refine g_get C (n' := 29) (Cn := RX8) (T := TX8) (N := 35) (ci := 6) (v := .int (iI ((I 8) - 1))) ga_X8 0 rfl rfl 8 (by decide) kw_698 rfl rfl dX8_undo_26 rfl ?_
    refine g_imul C (n' := 30) dX8_undo_29 rfl ?_
    refine g_iadd C (n' := 31) dX8_undo_30 rfl ?_
    refine g_iconst C (n' := 32) dX8_undo_31 rfl ?_
    refine g_cVn C (n' := 35) (c_X8_copyRow l D Y C.2.2.2.2.2.2.2.2.1 q (sU I 8 ((I 8) - 1)) A F Dd (33 + (33 * ((I 8) - 1))) 0 (sm_put hsI (by omega)) hsA (by omega) (by omega) (by omega)) 2 kw_686 kc_X8_copyRow (by decide +kernel) (pm0 _) 0 (ci := 6) rfl rfl rfl rfl ⟨Nat.le_of_ble_eq_true rfl, Nat.le_of_ble_eq_true rfl⟩ ⟨rfl, rfl⟩ ⟨Nat.le_of_ble_eq_true rfl, Nat.le_of_ble_eq_true rfl⟩ (Nat.le_of_ble_eq_true rfl) dX8_undo_32 rfl rfl (wMod q Y (sU I 8 ((I 8) - 1)) (sU A 0 (m_cp ((A 0)) (Int.toNat (33 + (33 * ((I 8) - 1)))) (Int.toNat 0) 33)) F Dd) (pm0' _) ?_
    refine g_aload_n C (n' := 36) 0 rfl dX8_undo_35 rfl rfl ?_
    refine g_get C (n' := 39) (Cn := RX8) (T := TX8) (N := 35) (ci := 6) (v := .int (iI ((I 8) - 1))) ga_X8 0 rfl rfl 8 (by decide) kw_698 rfl rfl dX8_undo_36 rfl ?_
    exact g_iret C hr hlk rfl (Or.inr ⟨by omega, rfl, rfl⟩) dX8_undo_39
  · skip
    refine g_bipush C (n' := 9) (by decide) dX8_undo_7 rfl ?_
    exact g_iret C hr hlk rfl (Or.inl ⟨by omega, rfl, rfl⟩) dX8_undo_9
set_option maxRecDepth 100000 in
set_option maxHeartbeats 4000000 in
theorem c_X8_keep (l : Launch) (D : va_G) (Y : Nat → ClassId) {E : (Nat → Prop) → State → Heap → Prop} (hE : g_Stab E) (q : Nat → Nat) (I : Nat → Int) (A : Nat → Nat → Int) (F : Nat → UInt32) (Dd : Nat → UInt64) (x : Int) (hsI : smI I) (hsA : smA A) (hN : okN (mJ I A) (mN A)) (hx : inR x) : g_Ct l yX8_keep cX8_keep 2 (some FieldType.int) ({ frames := 1, cells := 0, slots := 0, locals := 25 } : Room) D (tysY Y) E [.ref (q 99), .int (iI x)] (wMod q Y I A F Dd) 0 0 (fun r9 w9 => (¬ (0 ≤ x ∧ x ≤ 1) ∧ r9 = some (.int (iI (-2))) ∧ w9 = wMod q Y I A F Dd) ∨ ((0 ≤ x ∧ x ≤ 1) ∧ r9 = some (.int (iI (A 0 0))) ∧ w9 = wMod q Y I (sU (sU A 0 (m_cp (A 0) (Int.toNat 0) (Int.toNat (297 + 33 * x)) 33)) 9 (sU (A 9) x.toNat 1)) F Dd)) := by
  refine g_ofG (own := RX8) hE (by decide) rfl (Nat.le_of_ble_eq_true rfl) [(0, .ref (q 99)), (1, .int (iI x))] rfl ?_
  intro p9 e9 s9 m9 b9 t9 c9 A9 C hr hlk hnm
  have hI := hsI
  have hA := hsA
  unfold smI at hI
  unfold smA at hA
  have hN9 := hN
  unfold okN at hN9
  simp only [mJ, mN] at hN9
  have hx9 := hx
  unfold inR at hx9
  refine g_iload_n C (n' := 1) 1 rfl dX8_keep_0 rfl rfl ?_
  refine g_i2l C (n' := 2) (by unfold inR; omega) dX8_keep_1 rfl ?_
  refine g_lconst C (n' := 3) 0 (by decide) dX8_keep_2 rfl ?_
  refine g_lconst C (n' := 4) 1 (by decide) dX8_keep_3 rfl ?_
  refine g_cSv C (n' := 7) (v := .int (iI (if 0 ≤ x ∧ x ≤ 1 then 1 else 0))) (c_X8_in l D Y C.2.2.2.2.2.2.2.2.1 x 0 1 hx (by unfold inR at *; omega) (by unfold inR at *; omega)) 3 kw_802 kc_X8_in (by decide +kernel) (pm_n _) rfl ⟨Nat.le_of_ble_eq_true rfl, Nat.le_of_ble_eq_true rfl⟩ ⟨rfl, rfl⟩ ⟨Nat.le_of_ble_eq_true rfl, Nat.le_of_ble_eq_true rfl⟩ (Nat.le_of_ble_eq_true rfl) dX8_keep_4 rfl rfl (wMod q Y I A F Dd) (pm_n _) ?_
  refine g_if_ne C (n' := 10) 13 dX8_keep_7 (by decide) rfl bz_r (fun c1 => ?_) (fun c1 => ?_)
  · skip
    replace c1 := bz_ne.mp c1
    refine g_aload_n C (n' := 14) 0 rfl dX8_keep_13 rfl rfl ?_
    refine g_iconst C (n' := 15) dX8_keep_14 rfl ?_
    refine g_sipush C (n' := 18) (by decide) dX8_keep_15 rfl ?_
    refine g_bipush C (n' := 20) (by decide) dX8_keep_18 rfl ?_
    refine g_iload_n C (n' := 21) 1 rfl dX8_keep_20 rfl rfl ?_
    refine g_imul C (n' := 22) dX8_keep_21 rfl ?_
    refine g_iadd C (n' := 23) dX8_keep_22 rfl ?_
    refine g_cVn C (n' := 26) (c_X8_copyRow l D Y C.2.2.2.2.2.2.2.2.1 q I A F Dd 0 (297 + (33 * x)) hsI hsA (by omega) (by omega) (by omega)) 2 kw_686 kc_X8_copyRow (by decide +kernel) (pm0 _) 0 (ci := 6) rfl rfl rfl rfl ⟨Nat.le_of_ble_eq_true rfl, Nat.le_of_ble_eq_true rfl⟩ ⟨rfl, rfl⟩ ⟨Nat.le_of_ble_eq_true rfl, Nat.le_of_ble_eq_true rfl⟩ (Nat.le_of_ble_eq_true rfl) dX8_keep_23 rfl rfl (wMod q Y I (sU A 0 (m_cp ((A 0)) (Int.toNat 0) (Int.toNat (297 + (33 * x))) 33)) F Dd) (pm0' _) ?_
    refine g_aload_n C (n' := 27) 0 rfl dX8_keep_26 rfl rfl ?_
    refine g_get C (n' := 30) (Cn := RX8) (T := TX8) (N := 35) (ci := 6) (v := .ref (q 9)) ga_X8 0 rfl rfl 9 (by decide) kw_699 rfl rfl dX8_keep_27 rfl ?_
    refine g_iload_n C (n' := 31) 1 rfl dX8_keep_30 rfl rfl ?_
    refine g_iconst C (n' := 32) dX8_keep_31 rfl ?_
    refine g_zast C (n' := 33) (f := (A 9)) 4 2 rfl rfl (by omega) (by omega) (by decide) (by omega) rfl dX8_keep_32 rfl (wMod q Y I (sU (sU A 0 (m_cp ((A 0)) (Int.toNat 0) (Int.toNat (297 + (33 * x))) 33)) 9 (sU (A 9) x.toNat 1)) F Dd) rfl ?_
    refine g_aload_n C (n' := 34) 0 rfl dX8_keep_33 rfl rfl ?_
    refine g_get C (n' := 37) (Cn := RX8) (T := TX8) (N := 35) (ci := 6) (v := .ref (q 0)) ga_X8 0 rfl rfl 0 (by decide) kw_690 rfl rfl dX8_keep_34 rfl ?_
    refine g_iconst C (n' := 38) dX8_keep_37 rfl ?_
    refine g_ialdN C (n' := 39) (f := (m_cp ((A 0)) (Int.toNat 0) (Int.toNat (297 + (33 * x))) 33)) (j := 0) 1 0 rfl rfl (by omega) (by decide) rfl dX8_keep_38 rfl ?_
    have e9 : ((m_cp ((A 0)) (Int.toNat 0) (Int.toNat (297 + (33 * x))) 33) 0) = A 0 0 := m_cp_out (by omega)
    exact g_iret C hr hlk rfl (Or.inr ⟨by omega, by rw [e9], rfl⟩) dX8_keep_39
  · skip
    replace c1 := bz_nne.mp c1
    refine g_bipush C (n' := 12) (by decide) dX8_keep_10 rfl ?_
    exact g_iret C hr hlk rfl (Or.inl ⟨by omega, rfl, rfl⟩) dX8_keep_12
set_option maxRecDepth 100000 in
set_option maxHeartbeats 4000000 in
theorem c_X8_back (l : Launch) (D : va_G) (Y : Nat → ClassId) {E : (Nat → Prop) → State → Heap → Prop} (hE : g_Stab E) (q : Nat → Nat) (I : Nat → Int) (A : Nat → Nat → Int) (F : Nat → UInt32) (Dd : Nat → UInt64) (x : Int) (hsI : smI I) (hsA : smA A) (hN : okN (mJ I A) (mN A)) (hx : inR x) (h9 : ∀ k : Nat, A 9 k = 0 ∨ A 9 k = 1) : g_Ct l yX8_back cX8_back 2 (some FieldType.int) ({ frames := 1, cells := 0, slots := 0, locals := 25 } : Room) D (tysY Y) E [.ref (q 99), .int (iI x)] (wMod q Y I A F Dd) 0 0 (fun r9 w9 => (¬ (0 ≤ x ∧ x ≤ 1) ∧ r9 = some (.int (iI (-2))) ∧ w9 = wMod q Y I A F Dd) ∨ ((0 ≤ x ∧ x ≤ 1) ∧ ((A 9 x.toNat = 0 ∧ r9 = some (.int (iI (-4))) ∧ w9 = wMod q Y I A F Dd) ∨ (A 9 x.toNat = 1 ∧ r9 = some (.int (iI (A 0 (Int.toNat (297 + 33 * x))))) ∧ w9 = wMod q Y (sU I 8 0) (sU A 0 (m_cp (A 0) (Int.toNat (297 + 33 * x)) (Int.toNat 0) 33)) F Dd)))) := by
  refine g_ofG (own := RX8) hE (by decide) rfl (Nat.le_of_ble_eq_true rfl) [(0, .ref (q 99)), (1, .int (iI x))] rfl ?_
  intro p9 e9 s9 m9 b9 t9 c9 A9 C hr hlk hnm
  have hI := hsI
  have hA := hsA
  unfold smI at hI
  unfold smA at hA
  have hN9 := hN
  unfold okN at hN9
  simp only [mJ, mN] at hN9
  have hx9 := hx
  unfold inR at hx9
  refine g_iload_n C (n' := 1) 1 rfl dX8_back_0 rfl rfl ?_
  refine g_i2l C (n' := 2) (by unfold inR; omega) dX8_back_1 rfl ?_
  refine g_lconst C (n' := 3) 0 (by decide) dX8_back_2 rfl ?_
  refine g_lconst C (n' := 4) 1 (by decide) dX8_back_3 rfl ?_
  refine g_cSv C (n' := 7) (v := .int (iI (if 0 ≤ x ∧ x ≤ 1 then 1 else 0))) (c_X8_in l D Y C.2.2.2.2.2.2.2.2.1 x 0 1 hx (by unfold inR at *; omega) (by unfold inR at *; omega)) 3 kw_802 kc_X8_in (by decide +kernel) (pm_n _) rfl ⟨Nat.le_of_ble_eq_true rfl, Nat.le_of_ble_eq_true rfl⟩ ⟨rfl, rfl⟩ ⟨Nat.le_of_ble_eq_true rfl, Nat.le_of_ble_eq_true rfl⟩ (Nat.le_of_ble_eq_true rfl) dX8_back_4 rfl rfl (wMod q Y I A F Dd) (pm_n _) ?_
  refine g_if_ne C (n' := 10) 13 dX8_back_7 (by decide) rfl bz_r (fun c1 => ?_) (fun c1 => ?_)
  · skip
    replace c1 := bz_ne.mp c1
    refine g_aload_n C (n' := 14) 0 rfl dX8_back_13 rfl rfl ?_
    refine g_get C (n' := 17) (Cn := RX8) (T := TX8) (N := 35) (ci := 6) (v := .ref (q 9)) ga_X8 0 rfl rfl 9 (by decide) kw_699 rfl rfl dX8_back_14 rfl ?_
    refine g_iload_n C (n' := 18) 1 rfl dX8_back_17 rfl rfl ?_
    refine g_zald C (n' := 19) (f := (A 9)) 4 2 rfl rfl (by omega) (by omega) (by decide) rfl dX8_back_18 rfl ?_
    have h_18 := hA 9 x.toNat
    refine g_if_ne C (n' := 22) 25 dX8_back_19 (by decide) rfl (by unfold inR; omega) (fun c2 => ?_) (fun c2 => ?_)
    · skip
      refine g_aload_n C (n' := 26) 0 rfl dX8_back_25 rfl rfl ?_
      refine g_sipush C (n' := 29) (by decide) dX8_back_26 rfl ?_
      refine g_bipush C (n' := 31) (by decide) dX8_back_29 rfl ?_
      refine g_iload_n C (n' := 32) 1 rfl dX8_back_31 rfl rfl ?_
      refine g_imul C (n' := 33) dX8_back_32 rfl ?_
      refine g_iadd C (n' := 34) dX8_back_33 rfl ?_
      refine g_iconst C (n' := 35) dX8_back_34 rfl ?_
      refine g_cVn C (n' := 38) (c_X8_copyRow l D Y C.2.2.2.2.2.2.2.2.1 q I A F Dd (297 + (33 * x)) 0 hsI hsA (by omega) (by omega) (by omega)) 2 kw_686 kc_X8_copyRow (by decide +kernel) (pm0 _) 0 (ci := 6) rfl rfl rfl rfl ⟨Nat.le_of_ble_eq_true rfl, Nat.le_of_ble_eq_true rfl⟩ ⟨rfl, rfl⟩ ⟨Nat.le_of_ble_eq_true rfl, Nat.le_of_ble_eq_true rfl⟩ (Nat.le_of_ble_eq_true rfl) dX8_back_35 rfl rfl (wMod q Y I (sU A 0 (m_cp ((A 0)) (Int.toNat (297 + (33 * x))) (Int.toNat 0) 33)) F Dd) (pm0' _) ?_
      refine g_aload_n C (n' := 39) 0 rfl dX8_back_38 rfl rfl ?_
      refine g_iconst C (n' := 40) dX8_back_39 rfl ?_
      refine g_put C (n' := 43) (Cn := RX8) (T := TX8) (N := 35) (ci := 6) (v := .int (iI 0)) ga_X8 0 rfl rfl 8 (by decide) kw_698 rfl tyX8 tyX8_ok nmX8 rfl rfl rfl rfl (Nat.le_of_ble_eq_true rfl) (wMod q Y (sU I 8 0) (sU A 0 (m_cp ((A 0)) (Int.toNat (297 + (33 * x))) (Int.toNat 0) 33)) F Dd) rfl dX8_back_40 rfl ?_
      refine g_aload_n C (n' := 44) 0 rfl dX8_back_43 rfl rfl ?_
      refine g_get C (n' := 47) (Cn := RX8) (T := TX8) (N := 35) (ci := 6) (v := .ref (q 0)) ga_X8 0 rfl rfl 0 (by decide) kw_690 rfl rfl dX8_back_44 rfl ?_
      refine g_iconst C (n' := 48) dX8_back_47 rfl ?_
      refine g_ialdN C (n' := 49) (f := (m_cp ((A 0)) (Int.toNat (297 + (33 * x))) (Int.toNat 0) 33)) (j := 0) 1 0 rfl rfl (by omega) (by decide) rfl dX8_back_48 rfl ?_
      have h9x := h9 x.toNat
      have e9 : ((m_cp ((A 0)) (Int.toNat (297 + (33 * x))) (Int.toNat 0) 33) 0) = A 0 (Int.toNat (297 + 33 * x)) := m_cp_in (j := 0) (by omega)
      exact g_iret C hr hlk rfl (Or.inr ⟨by omega, Or.inr ⟨by omega, by rw [e9], rfl⟩⟩) dX8_back_49
    · skip
      refine g_bipush C (n' := 24) (by decide) dX8_back_22 rfl ?_
      have h9x := h9 x.toNat
      exact g_iret C hr hlk rfl (Or.inr ⟨by omega, Or.inl ⟨by omega, rfl, rfl⟩⟩) dX8_back_24
  · skip
    replace c1 := bz_nne.mp c1
    refine g_bipush C (n' := 12) (by decide) dX8_back_10 rfl ?_
    exact g_iret C hr hlk rfl (Or.inl ⟨by omega, rfl, rfl⟩) dX8_back_12
