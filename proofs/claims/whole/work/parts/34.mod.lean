/-! the reference: feasible, shift, least, margin, spare -/
def shIs (J : Nat → Int) (N : Nat → Nat → Int) (x z : Int) : Prop := (¬ (0 ≤ x ∧ x < J 0) ∧ z = -2) ∨ ((0 ≤ x ∧ x < J 0) ∧ ((¬ feas J N (J 4) 1 0 (J 3) ∧ z = -4) ∨ ∃ S, bG (J 0).toNat (nEd J N (J 4) 1 0 (J 3)) S ∧ z = -(S x.toNat) * J 3))
def spIs (J : Nat → Int) (N : Nat → Nat → Int) (p w z : Int) : Prop := (¬ (0 ≤ p ∧ p < J 5) ∧ z = -2) ∨ ((0 ≤ p ∧ p < J 5) ∧ ((¬ (0 ≤ w ∧ w ≤ 1) ∧ z = -3) ∨ ((0 ≤ w ∧ w ≤ 1) ∧ ((¬ feas J N (J 4) 1 0 (J 3) ∧ z = -4) ∨ ∃ S, bG (J 0).toNat (nEd J N (J 4) 1 0 (J 3)) S ∧ z = if w = 0 then J 4 - N 8 p.toNat - J 1 - (S (N 6 p.toNat).toNat - S (N 7 p.toNat).toNat) * J 3 else N 9 p.toNat - J 2 + (S (N 6 p.toNat).toNat - S (N 7 p.toNat).toNat) * J 3))))
def feIs (J : Nat → Int) (N : Nat → Nat → Int) (z : Int) : Prop := (z = 1 ∧ feas J N (J 4) 1 0 (J 3)) ∨ (z = 0 ∧ ¬ feas J N (J 4) 1 0 (J 3))
theorem feas_of {n : Nat} {J : Nat → Int} {N : Nat → Nat → Int} {u v g t : Int} {S : Nat → Int} (h : bG n (nEd J N u v g t) S) : feas J N u v g t := ⟨S, h.1⟩
set_option maxRecDepth 100000 in
set_option maxHeartbeats 4000000 in
theorem c_X8_isPath (l : Launch) (D : va_G) (Y : Nat → ClassId) {E : (Nat → Prop) → State → Heap → Prop} (hE : g_Stab E) (q : Nat → Nat) (I : Nat → Int) (A : Nat → Nat → Int) (F : Nat → UInt32) (Dd : Nat → UInt64) (x : Int) (hsI : smI I) (hsA : smA A) (hN : okN (mJ I A) (mN A)) (hx : inR x) : g_Ct l yX8_isPath cX8_isPath 2 (some FieldType.boolean) ({ frames := 1, cells := 0, slots := 0, locals := 25 } : Room) D (tysY Y) E [.ref (q 99), .int (iI x)] (wMod q Y I A F Dd) 0 0 (g_det (some (.int (iI (if 0 ≤ x ∧ x ≤ I 2 - 1 then 1 else 0)))) (wMod q Y I A F Dd)) := by
  refine g_ofG (own := RX8) hE (by decide) rfl (Nat.le_of_ble_eq_true rfl) [(0, .ref (q 99)), (1, .int (iI x))] rfl ?_
  intro p9 e9 s9 m9 b9 t9 c9 A9 C hr hlk hnm
  have hI := hsI
  have hA := hsA
  unfold smI at hI
  unfold smA at hA
  have hN9 := hN
  unfold okN at hN9
  simp only [mJ, mN] at hN9
  unfold inR at hx
  refine g_iload_n C (n' := 1) 1 rfl dX8_isPath_0 rfl rfl ?_
  refine g_i2l C (n' := 2) (by unfold inR; omega) dX8_isPath_1 rfl ?_
  refine g_lconst C (n' := 3) 0 (by decide) dX8_isPath_2 rfl ?_
  refine g_aload_n C (n' := 4) 0 rfl dX8_isPath_3 rfl rfl ?_
  refine g_get C (n' := 7) (Cn := RX8) (T := TX8) (N := 35) (ci := 6) (v := .int (iI (I 2))) ga_X8 0 rfl rfl 2 (by decide) kw_692 rfl rfl dX8_isPath_4 rfl ?_
  have h_4 := hI 2
  refine g_iconst C (n' := 8) dX8_isPath_7 rfl ?_
  refine g_isub C (n' := 9) dX8_isPath_8 rfl ?_
  refine g_i2l C (n' := 10) (by unfold inR; omega) dX8_isPath_9 rfl ?_
  refine g_cSv C (n' := 13) (v := .int (iI (if 0 ≤ x ∧ x ≤ ((I 2) - 1) then 1 else 0))) (c_X8_in l D Y C.2.2.2.2.2.2.2.2.1 x 0 ((I 2) - 1) hx (by unfold inR at *; omega) (by unfold inR at *; omega)) 3 kw_802 kc_X8_in (by decide +kernel) (pm_n _) rfl ⟨Nat.le_of_ble_eq_true rfl, Nat.le_of_ble_eq_true rfl⟩ ⟨rfl, rfl⟩ ⟨Nat.le_of_ble_eq_true rfl, Nat.le_of_ble_eq_true rfl⟩ (Nat.le_of_ble_eq_true rfl) dX8_isPath_10 rfl rfl (wMod q Y I A F Dd) (pm_n _) ?_
  refine g_iret C hr hlk (nar_z bz_01) ⟨congrArg (fun z : Int => some (Value.int (iI z))) ?_, ?_⟩ dX8_isPath_13
  · first | rfl | omega | ((repeat' split) <;> first | rfl | omega | (exfalso; omega))
  · first | rfl | omega | ((repeat' split) <;> first | rfl | omega | (exfalso; omega))
set_option maxRecDepth 100000 in
set_option maxHeartbeats 4000000 in
theorem c_X8_isRegister (l : Launch) (D : va_G) (Y : Nat → ClassId) {E : (Nat → Prop) → State → Heap → Prop} (hE : g_Stab E) (q : Nat → Nat) (I : Nat → Int) (A : Nat → Nat → Int) (F : Nat → UInt32) (Dd : Nat → UInt64) (x : Int) (hsI : smI I) (hsA : smA A) (hN : okN (mJ I A) (mN A)) (hx : inR x) : g_Ct l yX8_isRegister cX8_isRegister 2 (some FieldType.boolean) ({ frames := 1, cells := 0, slots := 0, locals := 25 } : Room) D (tysY Y) E [.ref (q 99), .int (iI x)] (wMod q Y I A F Dd) 0 0 (g_det (some (.int (iI (if 0 ≤ x ∧ x ≤ I 1 - 1 then 1 else 0)))) (wMod q Y I A F Dd)) := by
  refine g_ofG (own := RX8) hE (by decide) rfl (Nat.le_of_ble_eq_true rfl) [(0, .ref (q 99)), (1, .int (iI x))] rfl ?_
  intro p9 e9 s9 m9 b9 t9 c9 A9 C hr hlk hnm
  have hI := hsI
  have hA := hsA
  unfold smI at hI
  unfold smA at hA
  have hN9 := hN
  unfold okN at hN9
  simp only [mJ, mN] at hN9
  unfold inR at hx
  refine g_iload_n C (n' := 1) 1 rfl dX8_isRegister_0 rfl rfl ?_
  refine g_i2l C (n' := 2) (by unfold inR; omega) dX8_isRegister_1 rfl ?_
  refine g_lconst C (n' := 3) 0 (by decide) dX8_isRegister_2 rfl ?_
  refine g_aload_n C (n' := 4) 0 rfl dX8_isRegister_3 rfl rfl ?_
  refine g_get C (n' := 7) (Cn := RX8) (T := TX8) (N := 35) (ci := 6) (v := .int (iI (I 1))) ga_X8 0 rfl rfl 1 (by decide) kw_691 rfl rfl dX8_isRegister_4 rfl ?_
  have h_4 := hI 1
  refine g_iconst C (n' := 8) dX8_isRegister_7 rfl ?_
  refine g_isub C (n' := 9) dX8_isRegister_8 rfl ?_
  refine g_i2l C (n' := 10) (by unfold inR; omega) dX8_isRegister_9 rfl ?_
  refine g_cSv C (n' := 13) (v := .int (iI (if 0 ≤ x ∧ x ≤ ((I 1) - 1) then 1 else 0))) (c_X8_in l D Y C.2.2.2.2.2.2.2.2.1 x 0 ((I 1) - 1) hx (by unfold inR at *; omega) (by unfold inR at *; omega)) 3 kw_802 kc_X8_in (by decide +kernel) (pm_n _) rfl ⟨Nat.le_of_ble_eq_true rfl, Nat.le_of_ble_eq_true rfl⟩ ⟨rfl, rfl⟩ ⟨Nat.le_of_ble_eq_true rfl, Nat.le_of_ble_eq_true rfl⟩ (Nat.le_of_ble_eq_true rfl) dX8_isRegister_10 rfl rfl (wMod q Y I A F Dd) (pm_n _) ?_
  refine g_iret C hr hlk (nar_z bz_01) ⟨congrArg (fun z : Int => some (Value.int (iI z))) ?_, ?_⟩ dX8_isRegister_13
  · first | rfl | omega | ((repeat' split) <;> first | rfl | omega | (exfalso; omega))
  · first | rfl | omega | ((repeat' split) <;> first | rfl | omega | (exfalso; omega))
set_option maxRecDepth 100000 in
set_option maxHeartbeats 4000000 in
theorem c_X8_feasible (l : Launch) (D : va_G) (Y : Nat → ClassId) {E : (Nat → Prop) → State → Heap → Prop} (hE : g_Stab E) (q : Nat → Nat) (I : Nat → Int) (A : Nat → Nat → Int) (F : Nat → UInt32) (Dd : Nat → UInt64) (hsI : smI I) (hsA : smA A) (hN : okN (mJ I A) (mN A)) : g_Ct l yX8_feasible cX8_feasible 1 (some FieldType.int) ({ frames := 3, cells := 0, slots := 0, locals := 69 } : Room) D (tysY Y) E [.ref (q 99)] (wMod q Y I A F Dd) 0 0 (fun r9 w9 => ∃ A1 : Nat → Nat → Int, w9 = wMod q Y I A1 F Dd ∧ smA A1 ∧ kpA A A1 ∧ ∃ z : Int, r9 = some (.int (iI z)) ∧ feIs (mJ I A) (mN A) z) := by
  refine g_ofG (own := RX8) hE (by decide) rfl (Nat.le_of_ble_eq_true rfl) [(0, .ref (q 99))] rfl ?_
  intro p9 e9 s9 m9 b9 t9 c9 A9 C hr hlk hnm
  have hI := hsI
  have hA := hsA
  unfold smI at hI
  unfold smA at hA
  have hN9 := hN
  unfold okN at hN9
  simp only [mJ, mN] at hN9
  refine g_aload_n C (n' := 1) 0 rfl dX8_feasible_0 rfl rfl ?_
  refine g_aload_n C (n' := 2) 0 rfl dX8_feasible_1 rfl rfl ?_
  refine g_get C (n' := 5) (Cn := RX8) (T := TX8) (N := 35) (ci := 6) (v := .ref (q 0)) ga_X8 0 rfl rfl 0 (by decide) kw_690 rfl rfl dX8_feasible_2 rfl ?_
  refine g_iconst C (n' := 6) dX8_feasible_5 rfl ?_
  refine g_ialdN C (n' := 7) (f := (A 0)) (j := 0) 1 0 rfl rfl (by omega) (by decide) rfl dX8_feasible_6 rfl ?_
  have h_6 := hA 0 0
  refine g_iconst C (n' := 8) dX8_feasible_7 rfl ?_
  refine g_callV C (n' := 11) (c_X8_isFeasible l D Y C.2.2.2.2.2.2.2.2.1 q I A F Dd ((A 0) 0) 0 hsI hsA hN (by omega) (by omega)) 2 kw_905 kc_X8_isFeasible (by decide +kernel) (pm0 _) 0 (ci := 6) rfl rfl rfl rfl ⟨Nat.le_of_ble_eq_true rfl, Nat.le_of_ble_eq_true rfl⟩ ⟨rfl, rfl⟩ ⟨Nat.le_of_ble_eq_true rfl, Nat.le_of_ble_eq_true rfl⟩ (Nat.le_of_ble_eq_true rfl) dX8_feasible_8 rfl (fun r9 w9 hp1 => ?_)
  obtain ⟨A2, rfl, hsA2, hkA2, (⟨rfl, hGA2⟩ | ⟨rfl, hGA2⟩)⟩ := hp1
  have hA2 := hsA2
  unfold smA at hA2
  · skip
    refine g_perm (w' := (wMod q Y I A2 F Dd)) (pm0' _) ?_
    refine g_st (st' := [.int (iI 1)]) rfl ?_
    refine g_if_eq C (n' := 14) 18 dX8_feasible_11 (by decide) rfl (by unfold inR; omega) (fun c3 => ?_) (fun c3 => ?_)
    · skip
      exfalso
      omega
    · skip
      refine g_iconst C (n' := 15) dX8_feasible_14 rfl ?_
      refine g_goto C 19 dX8_feasible_15 (by decide) ?_
      exact g_iret C hr hlk rfl ⟨_, rfl, hsA2, hkA2, _, rfl, Or.inl ⟨rfl, feas_of hGA2⟩⟩ dX8_feasible_19
  · skip
    refine g_perm (w' := (wMod q Y I A2 F Dd)) (pm0' _) ?_
    refine g_st (st' := [.int (iI 0)]) rfl ?_
    refine g_if_eq C (n' := 14) 18 dX8_feasible_11 (by decide) rfl (by unfold inR; omega) (fun c4 => ?_) (fun c4 => ?_)
    · skip
      refine g_iconst C (n' := 19) dX8_feasible_18 rfl ?_
      exact g_iret C hr hlk rfl ⟨_, rfl, hsA2, hkA2, _, rfl, Or.inr ⟨rfl, hGA2⟩⟩ dX8_feasible_19
    · skip
      exfalso
      omega
set_option maxRecDepth 100000 in
set_option maxHeartbeats 4000000 in
theorem c_X8_shift (l : Launch) (D : va_G) (Y : Nat → ClassId) {E : (Nat → Prop) → State → Heap → Prop} (hE : g_Stab E) (q : Nat → Nat) (I : Nat → Int) (A : Nat → Nat → Int) (F : Nat → UInt32) (Dd : Nat → UInt64) (x : Int) (hsI : smI I) (hsA : smA A) (hN : okN (mJ I A) (mN A)) (hx : inR x) : g_Ct l yX8_shift cX8_shift 2 (some FieldType.int) ({ frames := 3, cells := 0, slots := 0, locals := 69 } : Room) D (tysY Y) E [.ref (q 99), .int (iI x)] (wMod q Y I A F Dd) 0 0 (fun r9 w9 => ∃ A1 : Nat → Nat → Int, w9 = wMod q Y I A1 F Dd ∧ smA A1 ∧ kpA A A1 ∧ ∃ z : Int, r9 = some (.int (iI z)) ∧ shIs (mJ I A) (mN A) x z) := by
  refine g_ofG (own := RX8) hE (by decide) rfl (Nat.le_of_ble_eq_true rfl) [(0, .ref (q 99)), (1, .int (iI x))] rfl ?_
  intro p9 e9 s9 m9 b9 t9 c9 A9 C hr hlk hnm
  have hI := hsI
  have hA := hsA
  unfold smI at hI
  unfold smA at hA
  have hN9 := hN
  unfold okN at hN9
  simp only [mJ, mN] at hN9
  have hx9 := hx
  unfold inR at hx9
  refine g_aload_n C (n' := 1) 0 rfl dX8_shift_0 rfl rfl ?_
  refine g_iload_n C (n' := 2) 1 rfl dX8_shift_1 rfl rfl ?_
  refine g_cVv C (n' := 5) (v := .int (iI (if 0 ≤ x ∧ x ≤ (I 1) - 1 then 1 else 0))) (c_X8_isRegister l D Y C.2.2.2.2.2.2.2.2.1 q I A F Dd x hsI hsA hN hx) 1 kw_928 kc_X8_isRegister (by decide +kernel) (pm0 _) 0 (ci := 6) rfl rfl rfl rfl ⟨Nat.le_of_ble_eq_true rfl, Nat.le_of_ble_eq_true rfl⟩ ⟨rfl, rfl⟩ ⟨Nat.le_of_ble_eq_true rfl, Nat.le_of_ble_eq_true rfl⟩ (Nat.le_of_ble_eq_true rfl) dX8_shift_2 rfl rfl (wMod q Y I A F Dd) (pm0' _) ?_
  refine g_if_ne C (n' := 8) 13 dX8_shift_5 (by decide) rfl bz_r (fun c1 => ?_) (fun c1 => ?_)
  · skip
    replace c1 := bz_ne.mp c1
    refine g_aload_n C (n' := 14) 0 rfl dX8_shift_13 rfl rfl ?_
    refine g_aload_n C (n' := 15) 0 rfl dX8_shift_14 rfl rfl ?_
    refine g_get C (n' := 18) (Cn := RX8) (T := TX8) (N := 35) (ci := 6) (v := .ref (q 0)) ga_X8 0 rfl rfl 0 (by decide) kw_690 rfl rfl dX8_shift_15 rfl ?_
    refine g_iconst C (n' := 19) dX8_shift_18 rfl ?_
    refine g_ialdN C (n' := 20) (f := (A 0)) (j := 0) 1 0 rfl rfl (by omega) (by decide) rfl dX8_shift_19 rfl ?_
    have h_19 := hA 0 0
    refine g_iconst C (n' := 21) dX8_shift_20 rfl ?_
    refine g_callV C (n' := 24) (c_X8_isFeasible l D Y C.2.2.2.2.2.2.2.2.1 q I A F Dd ((A 0) 0) 0 hsI hsA hN (by omega) (by omega)) 2 kw_905 kc_X8_isFeasible (by decide +kernel) (pm0 _) 0 (ci := 6) rfl rfl rfl rfl ⟨Nat.le_of_ble_eq_true rfl, Nat.le_of_ble_eq_true rfl⟩ ⟨rfl, rfl⟩ ⟨Nat.le_of_ble_eq_true rfl, Nat.le_of_ble_eq_true rfl⟩ (Nat.le_of_ble_eq_true rfl) dX8_shift_21 rfl (fun r9 w9 hp2 => ?_)
    obtain ⟨A3, rfl, hsA3, hkA3, (⟨rfl, hGA3⟩ | ⟨rfl, hGA3⟩)⟩ := hp2
    have hA3 := hsA3
    unfold smA at hA3
    · skip
      refine g_perm (w' := (wMod q Y I A3 F Dd)) (pm0' _) ?_
      refine g_st (st' := [.int (iI 1)]) rfl ?_
      refine g_if_eq C (n' := 27) 42 dX8_shift_24 (by decide) rfl (by unfold inR; omega) (fun c4 => ?_) (fun c4 => ?_)
      · skip
        exfalso
        omega
      · skip
        refine g_aload_n C (n' := 28) 0 rfl dX8_shift_27 rfl rfl ?_
        refine g_get C (n' := 31) (Cn := RX8) (T := TX8) (N := 35) (ci := 6) (v := .ref (q 31)) ga_X8 0 rfl rfl 31 (by decide) kw_721 rfl rfl dX8_shift_28 rfl ?_
        refine g_iload_n C (n' := 32) 1 rfl dX8_shift_31 rfl rfl ?_
        refine g_iald C (n' := 33) (f := (A3 31)) 19 0 rfl rfl (by omega) (by omega) (by decide) rfl dX8_shift_32 rfl ?_
        have h_32 := hA3 31 x.toNat
        refine g_ineg C (n' := 34) dX8_shift_33 rfl ?_
        refine g_aload_n C (n' := 35) 0 rfl dX8_shift_34 rfl rfl ?_
        refine g_get C (n' := 38) (Cn := RX8) (T := TX8) (N := 35) (ci := 6) (v := .int (iI (I 7))) ga_X8 0 rfl rfl 7 (by decide) kw_697 rfl rfl dX8_shift_35 rfl ?_
        have h_35 := hI 7
        refine g_imul C (n' := 39) dX8_shift_38 rfl ?_
        refine g_goto C 44 dX8_shift_39 (by decide) ?_
        exact g_iret C hr hlk rfl ⟨_, rfl, hsA3, hkA3, _, rfl, Or.inr ⟨by show 0 ≤ x ∧ x < I 1; omega, Or.inr ⟨_, hGA3, rfl⟩⟩⟩ dX8_shift_44
    · skip
      refine g_perm (w' := (wMod q Y I A3 F Dd)) (pm0' _) ?_
      refine g_st (st' := [.int (iI 0)]) rfl ?_
      refine g_if_eq C (n' := 27) 42 dX8_shift_24 (by decide) rfl (by unfold inR; omega) (fun c5 => ?_) (fun c5 => ?_)
      · skip
        refine g_bipush C (n' := 44) (by decide) dX8_shift_42 rfl ?_
        exact g_iret C hr hlk rfl ⟨_, rfl, hsA3, hkA3, _, rfl, Or.inr ⟨by show 0 ≤ x ∧ x < I 1; omega, Or.inl ⟨hGA3, rfl⟩⟩⟩ dX8_shift_44
      · skip
        exfalso
        omega
  · skip
    replace c1 := bz_nne.mp c1
    refine g_bipush C (n' := 10) (by decide) dX8_shift_8 rfl ?_
    refine g_goto C 44 dX8_shift_10 (by decide) ?_
    exact g_iret C hr hlk rfl ⟨_, rfl, hsA, kpA_refl A, _, rfl, Or.inl ⟨by show ¬ (0 ≤ x ∧ x < I 1); omega, rfl⟩⟩ dX8_shift_44
set_option maxRecDepth 100000 in
set_option maxHeartbeats 4000000 in
theorem lp_X8_lo {p9 : Program} {l : Launch} {e9 : Env} {s9 : State} {m9 : MethodId} {a9 : Array Value} {b9 : List Frame} {t9 : Method} {c9 : Code} {D : va_G} {A9 : Nat → Prop} {Q9 : State → Prop} {E : (Nat → Prop) → State → Heap → Prop} {Y : Nat → ClassId} (C : g_Cx p9 s9 m9 a9 c9 cX8_leastOf 5 RX8 D (tysY Y) A9 E) (q : Nat → Nat) (I : Nat → Int) (A : Nat → Nat → Int) (F : Nat → UInt32) (Dd : Nat → UInt64) (hsI : smI I) (hsA : smA A) (hN : okN (mJ I A) (mN A)) : ∀ (n9 : Nat) (A1 : Nat → Nat → Int) (lo hi : Int), smA A1 → kpA A A1 → hi - lo ≤ n9 → 0 ≤ lo → lo ≤ hi → hi ≤ 999 → feas (mJ I A) (mN A) hi 1 0 (I 7) → (∀ x, 0 ≤ x → x < lo → ¬ feas (mJ I A) (mN A) x 1 0 (I 7)) → (∀ (A1 : Nat → Nat → Int) (lo hi : Int), smA A1 → kpA A A1 → lpIs (mJ I A) (mN A) 1 (I 7) 999 lo → g_G p9 l e9 ({ frames := 3, cells := 0, slots := 0, locals := 69 } : Room) s9 m9 a9 b9 t9 c9 5 D A9 Q9 0 0 (wMod q Y I A1 F Dd) [(2, .int (iI hi)), (1, .int (iI lo)), (0, .ref (q 99))] 65 []) → g_G p9 l e9 ({ frames := 3, cells := 0, slots := 0, locals := 69 } : Room) s9 m9 a9 b9 t9 c9 5 D A9 Q9 0 0 (wMod q Y I A1 F Dd) [(2, .int (iI hi)), (1, .int (iI lo)), (0, .ref (q 99))] 19 [] := by
  have hE := C.2.2.2.2.2.2.2.2.1
  intro n9
  induction n9 with
  | zero =>
    intro A1 lo hi hsA1 hkA hm h0 h1 h2 hf hlo K
    have hI := hsI
    have hA := hsA
    unfold smI at hI
    unfold smA at hA
    have hN9 := hN
    unfold okN at hN9
    simp only [mJ, mN] at hN9
    have hA1 := hsA1
    unfold smA at hA1
    have hN1 := kpA_ok hkA hN
    refine g_iload_n C (n' := 20) 1 rfl dX8_leastOf_19 rfl rfl ?_
    refine g_iload_n C (n' := 21) 0 rfl dX8_leastOf_20 rfl rfl ?_
    refine g_icmp_ge C (n' := 24) 65 dX8_leastOf_21 (by decide) rfl (by unfold inR; omega) (by unfold inR; omega) (fun c1 => ?_) (fun c1 => ?_)
    · skip
      have e9 : lo = hi := by omega
      exact K A1 lo hi hsA1 hkA (Or.inr ⟨by omega, by omega, by rw [e9]; exact hf, hlo⟩)
    · skip
      exfalso
      omega
  | succ n9 ih =>
    intro A1 lo hi hsA1 hkA hm h0 h1 h2 hf hlo K
    have hI := hsI
    have hA := hsA
    unfold smI at hI
    unfold smA at hA
    have hN9 := hN
    unfold okN at hN9
    simp only [mJ, mN] at hN9
    have hA1 := hsA1
    unfold smA at hA1
    have hN1 := kpA_ok hkA hN
    refine g_iload_n C (n' := 20) 1 rfl dX8_leastOf_19 rfl rfl ?_
    refine g_iload_n C (n' := 21) 0 rfl dX8_leastOf_20 rfl rfl ?_
    refine g_icmp_ge C (n' := 24) 65 dX8_leastOf_21 (by decide) rfl (by unfold inR; omega) (by unfold inR; omega) (fun c1 => ?_) (fun c1 => ?_)
    · skip
      have e9 : lo = hi := by omega
      exact K A1 lo hi hsA1 hkA (Or.inr ⟨by omega, by omega, by rw [e9]; exact hf, hlo⟩)
    · skip
      refine g_iload_n C (n' := 25) 1 rfl dX8_leastOf_24 rfl rfl ?_
      refine g_iload_n C (n' := 26) 0 rfl dX8_leastOf_25 rfl rfl ?_
      refine g_iadd C (n' := 27) dX8_leastOf_26 rfl ?_
      refine g_iconst C (n' := 28) dX8_leastOf_27 rfl ?_
      refine g_idiv C (n' := 29) (by unfold inR; omega) (by unfold inR; omega) (by omega) (fd_r (by unfold inR; omega) (by omega)) dX8_leastOf_28 rfl ?_
      rw [Int.tdiv_eq_ediv_of_nonneg (show 0 ≤ lo + hi by omega)]
      refine g_istore_n C (n' := 30) [(3, .int (iI ((lo + hi) / 2))), (2, .int (iI hi)), (1, .int (iI lo)), (0, .ref (q 99))] dX8_leastOf_29 rfl rfl (by decide) rfl ?_
      refine g_aload_n C (n' := 31) 3 rfl dX8_leastOf_30 rfl rfl ?_
      refine g_iload_n C (n' := 32) 0 rfl dX8_leastOf_31 rfl rfl ?_
      refine g_iconst C (n' := 33) dX8_leastOf_32 rfl ?_
      refine g_callV C (n' := 36) (c_X8_isFeasible l D Y C.2.2.2.2.2.2.2.2.1 q I A1 F Dd ((lo + hi) / 2) 0 hsI hsA1 hN1 (by omega) (by omega)) 2 kw_905 kc_X8_isFeasible (by decide +kernel) (pm0 _) 0 (ci := 6) rfl rfl rfl rfl ⟨Nat.le_of_ble_eq_true rfl, Nat.le_of_ble_eq_true rfl⟩ ⟨rfl, rfl⟩ ⟨Nat.le_of_ble_eq_true rfl, Nat.le_of_ble_eq_true rfl⟩ (Nat.le_of_ble_eq_true rfl) dX8_leastOf_33 rfl (fun r9 w9 hp2 => ?_)
      obtain ⟨A3, rfl, hsA3, hkA3, (⟨rfl, hGA3⟩ | ⟨rfl, hGA3⟩)⟩ := hp2
      have hA3 := hsA3
      unfold smA at hA3
      · skip
        refine g_perm (w' := (wMod q Y I A3 F Dd)) (pm0' _) ?_
        refine g_st (st' := [.int (iI 1)]) rfl ?_
        refine g_istore C (n' := 38) [(4, .int (iI 1)), (3, .int (iI ((lo + hi) / 2))), (2, .int (iI hi)), (1, .int (iI lo)), (0, .ref (q 99))] dX8_leastOf_36 rfl (by decide) rfl ?_
        refine g_iload C (n' := 40) 0 rfl dX8_leastOf_38 rfl ?_
        refine g_if_eq C (n' := 43) 47 dX8_leastOf_40 (by decide) rfl (by unfold inR; omega) (fun c4 => ?_) (fun c4 => ?_)
        · skip
          exfalso
          omega
        · skip
          refine g_iload_n C (n' := 44) 1 rfl dX8_leastOf_43 rfl rfl ?_
          refine g_goto C 48 dX8_leastOf_44 (by decide) ?_
          refine g_istore_n C (n' := 49) [(2, .int (iI ((lo + hi) / 2))), (4, .int (iI 1)), (3, .int (iI ((lo + hi) / 2))), (1, .int (iI lo)), (0, .ref (q 99))] dX8_leastOf_48 rfl rfl (by decide) rfl ?_
          refine g_iload C (n' := 51) 1 rfl dX8_leastOf_49 rfl ?_
          refine g_if_eq C (n' := 54) 58 dX8_leastOf_51 (by decide) rfl (by unfold inR; omega) (fun c5 => ?_) (fun c5 => ?_)
          · skip
            exfalso
            omega
          · skip
            refine g_iload_n C (n' := 55) 3 rfl dX8_leastOf_54 rfl rfl ?_
            refine g_goto C 61 dX8_leastOf_55 (by decide) ?_
            refine g_istore_n C (n' := 62) [(1, .int (iI lo)), (2, .int (iI ((lo + hi) / 2))), (4, .int (iI 1)), (3, .int (iI ((lo + hi) / 2))), (0, .ref (q 99))] dX8_leastOf_61 rfl rfl (by decide) rfl ?_
            refine g_goto C 19 dX8_leastOf_62 (by decide) ?_
            refine g_lv (lv' := [(2, .int (iI ((lo + hi) / 2))), (1, .int (iI lo)), (0, .ref (q 99))]) [1, 0, 4] rfl ?_
            rw [kpA_J hkA, kpA_N hkA] at hGA3
            exact ih A3 lo ((lo + hi) / 2) hsA3 (kpA_trans hkA hkA3) (by omega) (by omega) (by omega) (by omega) (feas_of hGA3) hlo K
      · skip
        refine g_perm (w' := (wMod q Y I A3 F Dd)) (pm0' _) ?_
        refine g_st (st' := [.int (iI 0)]) rfl ?_
        refine g_istore C (n' := 38) [(4, .int (iI 0)), (3, .int (iI ((lo + hi) / 2))), (2, .int (iI hi)), (1, .int (iI lo)), (0, .ref (q 99))] dX8_leastOf_36 rfl (by decide) rfl ?_
        refine g_iload C (n' := 40) 0 rfl dX8_leastOf_38 rfl ?_
        refine g_if_eq C (n' := 43) 47 dX8_leastOf_40 (by decide) rfl (by unfold inR; omega) (fun c6 => ?_) (fun c6 => ?_)
        · skip
          refine g_iload_n C (n' := 48) 2 rfl dX8_leastOf_47 rfl rfl ?_
          refine g_istore_n C (n' := 49) [(2, .int (iI hi)), (4, .int (iI 0)), (3, .int (iI ((lo + hi) / 2))), (1, .int (iI lo)), (0, .ref (q 99))] dX8_leastOf_48 rfl rfl (by decide) rfl ?_
          refine g_iload C (n' := 51) 1 rfl dX8_leastOf_49 rfl ?_
          refine g_if_eq C (n' := 54) 58 dX8_leastOf_51 (by decide) rfl (by unfold inR; omega) (fun c7 => ?_) (fun c7 => ?_)
          · skip
            refine g_iload_n C (n' := 59) 2 rfl dX8_leastOf_58 rfl rfl ?_
            refine g_iconst C (n' := 60) dX8_leastOf_59 rfl ?_
            refine g_iadd C (n' := 61) dX8_leastOf_60 rfl ?_
            refine g_istore_n C (n' := 62) [(1, .int (iI (((lo + hi) / 2) + 1))), (2, .int (iI hi)), (4, .int (iI 0)), (3, .int (iI ((lo + hi) / 2))), (0, .ref (q 99))] dX8_leastOf_61 rfl rfl (by decide) rfl ?_
            refine g_goto C 19 dX8_leastOf_62 (by decide) ?_
            refine g_lv (lv' := [(2, .int (iI hi)), (1, .int (iI (((lo + hi) / 2) + 1))), (0, .ref (q 99))]) [1, 0, 4] rfl ?_
            rw [kpA_J hkA, kpA_N hkA] at hGA3
            exact ih A3 (((lo + hi) / 2) + 1) hi hsA3 (kpA_trans hkA hkA3) (by omega) (by omega) (by omega) (by omega) hf (fun x h1 h2 h3 => hGA3 (feas_up (by omega) (by omega) h3)) K
          · skip
            exfalso
            omega
        · skip
          exfalso
          omega
set_option maxRecDepth 100000 in
set_option maxHeartbeats 4000000 in
theorem c_X8_leastOf (l : Launch) (D : va_G) (Y : Nat → ClassId) {E : (Nat → Prop) → State → Heap → Prop} (hE : g_Stab E) (q : Nat → Nat) (I : Nat → Int) (A : Nat → Nat → Int) (F : Nat → UInt32) (Dd : Nat → UInt64) (hsI : smI I) (hsA : smA A) (hN : okN (mJ I A) (mN A)) : g_Ct l yX8_leastOf cX8_leastOf 5 (some FieldType.int) ({ frames := 3, cells := 0, slots := 0, locals := 69 } : Room) D (tysY Y) E [.ref (q 99)] (wMod q Y I A F Dd) 0 0 (fun r9 w9 => ∃ A1 : Nat → Nat → Int, w9 = wMod q Y I A1 F Dd ∧ smA A1 ∧ kpA A A1 ∧ ∃ z : Int, r9 = some (.int (iI z)) ∧ lpIs (mJ I A) (mN A) 1 (I 7) 999 z) := by
  refine g_ofG (own := RX8) hE (by decide) rfl (Nat.le_of_ble_eq_true rfl) [(0, .ref (q 99))] rfl ?_
  intro p9 e9 s9 m9 b9 t9 c9 A9 C hr hlk hnm
  have hI := hsI
  have hA := hsA
  unfold smI at hI
  unfold smA at hA
  have hN9 := hN
  unfold okN at hN9
  simp only [mJ, mN] at hN9
  refine g_aload_n C (n' := 1) 0 rfl dX8_leastOf_0 rfl rfl ?_
  refine g_sipush C (n' := 4) (by decide) dX8_leastOf_1 rfl ?_
  refine g_iconst C (n' := 5) dX8_leastOf_4 rfl ?_
  refine g_callV C (n' := 8) (c_X8_isFeasible l D Y C.2.2.2.2.2.2.2.2.1 q I A F Dd 999 0 hsI hsA hN (by omega) (by omega)) 2 kw_905 kc_X8_isFeasible (by decide +kernel) (pm0 _) 0 (ci := 6) rfl rfl rfl rfl ⟨Nat.le_of_ble_eq_true rfl, Nat.le_of_ble_eq_true rfl⟩ ⟨rfl, rfl⟩ ⟨Nat.le_of_ble_eq_true rfl, Nat.le_of_ble_eq_true rfl⟩ (Nat.le_of_ble_eq_true rfl) dX8_leastOf_5 rfl (fun r9 w9 hp1 => ?_)
  obtain ⟨A2, rfl, hsA2, hkA2, (⟨rfl, hGA2⟩ | ⟨rfl, hGA2⟩)⟩ := hp1
  have hA2 := hsA2
  unfold smA at hA2
  · skip
    refine g_perm (w' := (wMod q Y I A2 F Dd)) (pm0' _) ?_
    refine g_st (st' := [.int (iI 1)]) rfl ?_
    refine g_if_ne C (n' := 11) 13 dX8_leastOf_8 (by decide) rfl (by unfold inR; omega) (fun c3 => ?_) (fun c3 => ?_)
    · skip
      refine g_iconst C (n' := 14) dX8_leastOf_13 rfl ?_
      refine g_istore_n C (n' := 15) [(1, .int (iI 0)), (0, .ref (q 99))] dX8_leastOf_14 rfl rfl (by decide) rfl ?_
      refine g_sipush C (n' := 18) (by decide) dX8_leastOf_15 rfl ?_
      refine g_istore_n C (n' := 19) [(2, .int (iI 999)), (1, .int (iI 0)), (0, .ref (q 99))] dX8_leastOf_18 rfl rfl (by decide) rfl ?_
      refine g_lv (lv' := [(2, .int (iI 999)), (1, .int (iI 0)), (0, .ref (q 99))]) [0, 1, 2] rfl ?_
      refine lp_X8_lo C q I A F Dd hsI hsA hN 999 A2 0 999 hsA2 hkA2 (by omega) (by omega) (by omega) (by omega) (feas_of hGA2) (fun x h1 h2 => by omega) (fun A1 lo hi hsA1 hkA hz => ?_)
      refine g_iload_n C (n' := 66) 1 rfl dX8_leastOf_65 rfl rfl ?_
      exact g_iret C hr hlk rfl ⟨_, rfl, hsA1, hkA, _, rfl, hz⟩ dX8_leastOf_66
    · skip
      exfalso
      omega
  · skip
    refine g_perm (w' := (wMod q Y I A2 F Dd)) (pm0' _) ?_
    refine g_st (st' := [.int (iI 0)]) rfl ?_
    refine g_if_ne C (n' := 11) 13 dX8_leastOf_8 (by decide) rfl (by unfold inR; omega) (fun c4 => ?_) (fun c4 => ?_)
    · skip
      exfalso
      omega
    · skip
      refine g_iconst C (n' := 12) dX8_leastOf_11 rfl ?_
      exact g_iret C hr hlk rfl ⟨_, rfl, hsA2, hkA2, _, rfl, Or.inl ⟨rfl, hGA2⟩⟩ dX8_leastOf_12
set_option maxRecDepth 100000 in
set_option maxHeartbeats 4000000 in
theorem c_X8_least (l : Launch) (D : va_G) (Y : Nat → ClassId) {E : (Nat → Prop) → State → Heap → Prop} (hE : g_Stab E) (q : Nat → Nat) (I : Nat → Int) (A : Nat → Nat → Int) (F : Nat → UInt32) (Dd : Nat → UInt64) (hsI : smI I) (hsA : smA A) (hN : okN (mJ I A) (mN A)) : g_Ct l yX8_least cX8_least 1 (some FieldType.int) ({ frames := 4, cells := 0, slots := 0, locals := 93 } : Room) D (tysY Y) E [.ref (q 99)] (wMod q Y I A F Dd) 0 0 (fun r9 w9 => ∃ A1 : Nat → Nat → Int, w9 = wMod q Y I A1 F Dd ∧ smA A1 ∧ kpA A A1 ∧ ∃ z : Int, r9 = some (.int (iI z)) ∧ lpIs (mJ I A) (mN A) 1 (I 7) 999 z) := by
  refine g_ofG (own := RX8) hE (by decide) rfl (Nat.le_of_ble_eq_true rfl) [(0, .ref (q 99))] rfl ?_
  intro p9 e9 s9 m9 b9 t9 c9 A9 C hr hlk hnm
  have hI := hsI
  have hA := hsA
  unfold smI at hI
  unfold smA at hA
  have hN9 := hN
  unfold okN at hN9
  simp only [mJ, mN] at hN9
  refine g_aload_n C (n' := 1) 0 rfl dX8_least_0 rfl rfl ?_
  refine g_callV C (n' := 4) (c_X8_leastOf l D Y C.2.2.2.2.2.2.2.2.1 q I A F Dd hsI hsA hN) 0 kw_936 kc_X8_leastOf (by decide +kernel) (pm0 _) 0 (ci := 6) rfl rfl rfl rfl ⟨Nat.le_of_ble_eq_true rfl, Nat.le_of_ble_eq_true rfl⟩ ⟨rfl, rfl⟩ ⟨Nat.le_of_ble_eq_true rfl, Nat.le_of_ble_eq_true rfl⟩ (Nat.le_of_ble_eq_true rfl) dX8_least_1 rfl (fun r9 w9 hp1 => ?_)
  obtain ⟨A2, rfl, hsA2, hkA2, z3, rfl, hz3⟩ := hp1
  have hA2 := hsA2
  unfold smA at hA2
  refine g_perm (w' := (wMod q Y I A2 F Dd)) (pm0' _) ?_
  refine g_st (st' := [.int (iI z3)]) rfl ?_
  exact g_iret C hr hlk rfl ⟨_, rfl, hsA2, hkA2, _, rfl, hz3⟩ dX8_least_4
set_option maxRecDepth 100000 in
set_option maxHeartbeats 4000000 in
theorem lp_X8_mg {p9 : Program} {l : Launch} {e9 : Env} {s9 : State} {m9 : MethodId} {a9 : Array Value} {b9 : List Frame} {t9 : Method} {c9 : Code} {D : va_G} {A9 : Nat → Prop} {Q9 : State → Prop} {E : (Nat → Prop) → State → Heap → Prop} {Y : Nat → ClassId} (C : g_Cx p9 s9 m9 a9 c9 cX8_margin 5 RX8 D (tysY Y) A9 E) (q : Nat → Nat) (I : Nat → Int) (A : Nat → Nat → Int) (F : Nat → UInt32) (Dd : Nat → UInt64) (hsI : smI I) (hsA : smA A) (hN : okN (mJ I A) (mN A)) : ∀ (n9 : Nat) (A1 : Nat → Nat → Int) (lo hi : Int), smA A1 → kpA A A1 → hi - lo ≤ n9 → -1200 ≤ lo → lo ≤ hi → hi ≤ 1200 → feas (mJ I A) (mN A) (A 0 0) 1 lo (I 7) → (∀ x, hi < x → x ≤ 1200 → ¬ feas (mJ I A) (mN A) (A 0 0) 1 x (I 7)) → (∀ (A1 : Nat → Nat → Int) (lo hi : Int), smA A1 → kpA A A1 → mgIs (mJ I A) (mN A) lo → g_G p9 l e9 ({ frames := 3, cells := 0, slots := 0, locals := 69 } : Room) s9 m9 a9 b9 t9 c9 5 D A9 Q9 0 0 (wMod q Y I A1 F Dd) [(2, .int (iI hi)), (1, .int (iI lo)), (0, .ref (q 99))] 63 []) → g_G p9 l e9 ({ frames := 3, cells := 0, slots := 0, locals := 69 } : Room) s9 m9 a9 b9 t9 c9 5 D A9 Q9 0 0 (wMod q Y I A1 F Dd) [(2, .int (iI hi)), (1, .int (iI lo)), (0, .ref (q 99))] 8 [] := by
  have hE := C.2.2.2.2.2.2.2.2.1
  intro n9
  induction n9 with
  | zero =>
    intro A1 lo hi hsA1 hkA hm h0 h1 h2 hf hhi K
    have hI := hsI
    have hA := hsA
    unfold smI at hI
    unfold smA at hA
    have hN9 := hN
    unfold okN at hN9
    simp only [mJ, mN] at hN9
    have hA1 := hsA1
    unfold smA at hA1
    have hN1 := kpA_ok hkA hN
    refine g_iload_n C (n' := 9) 1 rfl dX8_margin_8 rfl rfl ?_
    refine g_iload_n C (n' := 10) 0 rfl dX8_margin_9 rfl rfl ?_
    refine g_icmp_ge C (n' := 13) 63 dX8_margin_10 (by decide) rfl (by unfold inR; omega) (by unfold inR; omega) (fun c1 => ?_) (fun c1 => ?_)
    · skip
      have e9 : lo = hi := by omega
      exact K A1 lo hi hsA1 hkA ⟨by omega, by omega, hf, by rw [e9]; exact hhi⟩
    · skip
      exfalso
      omega
  | succ n9 ih =>
    intro A1 lo hi hsA1 hkA hm h0 h1 h2 hf hhi K
    have hI := hsI
    have hA := hsA
    unfold smI at hI
    unfold smA at hA
    have hN9 := hN
    unfold okN at hN9
    simp only [mJ, mN] at hN9
    have hA1 := hsA1
    unfold smA at hA1
    have hN1 := kpA_ok hkA hN
    have h00 : A1 0 0 = A 0 0 := by rw [hkA 0 (by omega) (by omega) (by omega)]
    refine g_iload_n C (n' := 9) 1 rfl dX8_margin_8 rfl rfl ?_
    refine g_iload_n C (n' := 10) 0 rfl dX8_margin_9 rfl rfl ?_
    refine g_icmp_ge C (n' := 13) 63 dX8_margin_10 (by decide) rfl (by unfold inR; omega) (by unfold inR; omega) (fun c1 => ?_) (fun c1 => ?_)
    · skip
      have e9 : lo = hi := by omega
      exact K A1 lo hi hsA1 hkA ⟨by omega, by omega, hf, by rw [e9]; exact hhi⟩
    · skip
      refine g_iload_n C (n' := 14) 1 rfl dX8_margin_13 rfl rfl ?_
      refine g_iload_n C (n' := 15) 0 rfl dX8_margin_14 rfl rfl ?_
      refine g_iload_n C (n' := 16) 1 rfl dX8_margin_15 rfl rfl ?_
      refine g_isub C (n' := 17) dX8_margin_16 rfl ?_
      refine g_iconst C (n' := 18) dX8_margin_17 rfl ?_
      refine g_iadd C (n' := 19) dX8_margin_18 rfl ?_
      refine g_iconst C (n' := 20) dX8_margin_19 rfl ?_
      refine g_idiv C (n' := 21) (by unfold inR; omega) (by unfold inR; omega) (by omega) (fd_r (by unfold inR; omega) (by omega)) dX8_margin_20 rfl ?_
      rw [Int.tdiv_eq_ediv_of_nonneg (show 0 ≤ hi - lo + 1 by omega)]
      refine g_iadd C (n' := 22) dX8_margin_21 rfl ?_
      refine g_istore_n C (n' := 23) [(3, .int (iI (lo + ((hi - lo + 1) / 2)))), (2, .int (iI hi)), (1, .int (iI lo)), (0, .ref (q 99))] dX8_margin_22 rfl rfl (by decide) rfl ?_
      refine g_aload_n C (n' := 24) 3 rfl dX8_margin_23 rfl rfl ?_
      refine g_aload_n C (n' := 25) 3 rfl dX8_margin_24 rfl rfl ?_
      refine g_get C (n' := 28) (Cn := RX8) (T := TX8) (N := 35) (ci := 6) (v := .ref (q 0)) ga_X8 0 rfl rfl 0 (by decide) kw_690 rfl rfl dX8_margin_25 rfl ?_
      refine g_iconst C (n' := 29) dX8_margin_28 rfl ?_
      refine g_ialdN C (n' := 30) (f := (A1 0)) (j := 0) 1 0 rfl rfl (by omega) (by decide) rfl dX8_margin_29 rfl ?_
      have h_29 := hA1 0 0
      refine g_iload_n C (n' := 31) 0 rfl dX8_margin_30 rfl rfl ?_
      refine g_callV C (n' := 34) (c_X8_isFeasible l D Y C.2.2.2.2.2.2.2.2.1 q I A1 F Dd ((A1 0) 0) (lo + ((hi - lo + 1) / 2)) hsI hsA1 hN1 (by omega) (by omega)) 2 kw_905 kc_X8_isFeasible (by decide +kernel) (pm0 _) 0 (ci := 6) rfl rfl rfl rfl ⟨Nat.le_of_ble_eq_true rfl, Nat.le_of_ble_eq_true rfl⟩ ⟨rfl, rfl⟩ ⟨Nat.le_of_ble_eq_true rfl, Nat.le_of_ble_eq_true rfl⟩ (Nat.le_of_ble_eq_true rfl) dX8_margin_31 rfl (fun r9 w9 hp2 => ?_)
      obtain ⟨A3, rfl, hsA3, hkA3, (⟨rfl, hGA3⟩ | ⟨rfl, hGA3⟩)⟩ := hp2
      have hA3 := hsA3
      unfold smA at hA3
      · skip
        refine g_perm (w' := (wMod q Y I A3 F Dd)) (pm0' _) ?_
        refine g_st (st' := [.int (iI 1)]) rfl ?_
        refine g_istore C (n' := 36) [(4, .int (iI 1)), (3, .int (iI (lo + ((hi - lo + 1) / 2)))), (2, .int (iI hi)), (1, .int (iI lo)), (0, .ref (q 99))] dX8_margin_34 rfl (by decide) rfl ?_
        refine g_iload C (n' := 38) 0 rfl dX8_margin_36 rfl ?_
        refine g_if_eq C (n' := 41) 45 dX8_margin_38 (by decide) rfl (by unfold inR; omega) (fun c4 => ?_) (fun c4 => ?_)
        · skip
          exfalso
          omega
        · skip
          refine g_iload_n C (n' := 42) 1 rfl dX8_margin_41 rfl rfl ?_
          refine g_goto C 46 dX8_margin_42 (by decide) ?_
          refine g_istore_n C (n' := 47) [(1, .int (iI (lo + ((hi - lo + 1) / 2)))), (4, .int (iI 1)), (3, .int (iI (lo + ((hi - lo + 1) / 2)))), (2, .int (iI hi)), (0, .ref (q 99))] dX8_margin_46 rfl rfl (by decide) rfl ?_
          refine g_iload C (n' := 49) 1 rfl dX8_margin_47 rfl ?_
          refine g_if_eq C (n' := 52) 56 dX8_margin_49 (by decide) rfl (by unfold inR; omega) (fun c5 => ?_) (fun c5 => ?_)
          · skip
            exfalso
            omega
          · skip
            refine g_iload_n C (n' := 53) 3 rfl dX8_margin_52 rfl rfl ?_
            refine g_goto C 59 dX8_margin_53 (by decide) ?_
            refine g_istore_n C (n' := 60) [(2, .int (iI hi)), (1, .int (iI (lo + ((hi - lo + 1) / 2)))), (4, .int (iI 1)), (3, .int (iI (lo + ((hi - lo + 1) / 2)))), (0, .ref (q 99))] dX8_margin_59 rfl rfl (by decide) rfl ?_
            refine g_goto C 8 dX8_margin_60 (by decide) ?_
            refine g_lv (lv' := [(2, .int (iI hi)), (1, .int (iI (lo + ((hi - lo + 1) / 2)))), (0, .ref (q 99))]) [0, 1, 4] rfl ?_
            rw [kpA_J hkA, kpA_N hkA, h00] at hGA3
            exact ih A3 (lo + ((hi - lo + 1) / 2)) hi hsA3 (kpA_trans hkA hkA3) (by omega) (by omega) (by omega) (by omega) (feas_of hGA3) hhi K
      · skip
        refine g_perm (w' := (wMod q Y I A3 F Dd)) (pm0' _) ?_
        refine g_st (st' := [.int (iI 0)]) rfl ?_
        refine g_istore C (n' := 36) [(4, .int (iI 0)), (3, .int (iI (lo + ((hi - lo + 1) / 2)))), (2, .int (iI hi)), (1, .int (iI lo)), (0, .ref (q 99))] dX8_margin_34 rfl (by decide) rfl ?_
        refine g_iload C (n' := 38) 0 rfl dX8_margin_36 rfl ?_
        refine g_if_eq C (n' := 41) 45 dX8_margin_38 (by decide) rfl (by unfold inR; omega) (fun c6 => ?_) (fun c6 => ?_)
        · skip
          refine g_iload_n C (n' := 46) 3 rfl dX8_margin_45 rfl rfl ?_
          refine g_istore_n C (n' := 47) [(1, .int (iI lo)), (4, .int (iI 0)), (3, .int (iI (lo + ((hi - lo + 1) / 2)))), (2, .int (iI hi)), (0, .ref (q 99))] dX8_margin_46 rfl rfl (by decide) rfl ?_
          refine g_iload C (n' := 49) 1 rfl dX8_margin_47 rfl ?_
          refine g_if_eq C (n' := 52) 56 dX8_margin_49 (by decide) rfl (by unfold inR; omega) (fun c7 => ?_) (fun c7 => ?_)
          · skip
            refine g_iload_n C (n' := 57) 2 rfl dX8_margin_56 rfl rfl ?_
            refine g_iconst C (n' := 58) dX8_margin_57 rfl ?_
            refine g_isub C (n' := 59) dX8_margin_58 rfl ?_
            refine g_istore_n C (n' := 60) [(2, .int (iI ((lo + ((hi - lo + 1) / 2)) - 1))), (1, .int (iI lo)), (4, .int (iI 0)), (3, .int (iI (lo + ((hi - lo + 1) / 2)))), (0, .ref (q 99))] dX8_margin_59 rfl rfl (by decide) rfl ?_
            refine g_goto C 8 dX8_margin_60 (by decide) ?_
            refine g_lv (lv' := [(2, .int (iI ((lo + ((hi - lo + 1) / 2)) - 1))), (1, .int (iI lo)), (0, .ref (q 99))]) [0, 1, 4] rfl ?_
            rw [kpA_J hkA, kpA_N hkA, h00] at hGA3
            exact ih A3 lo ((lo + ((hi - lo + 1) / 2)) - 1) hsA3 (kpA_trans hkA hkA3) (by omega) (by omega) (by omega) (by omega) hf (fun x h1 h2 h3 => hGA3 (feas_dn (by omega) (by omega) h3)) K
          · skip
            exfalso
            omega
        · skip
          exfalso
          omega
set_option maxRecDepth 100000 in
set_option maxHeartbeats 4000000 in
theorem c_X8_margin (l : Launch) (D : va_G) (Y : Nat → ClassId) {E : (Nat → Prop) → State → Heap → Prop} (hE : g_Stab E) (q : Nat → Nat) (I : Nat → Int) (A : Nat → Nat → Int) (F : Nat → UInt32) (Dd : Nat → UInt64) (hsI : smI I) (hsA : smA A) (hN : okN (mJ I A) (mN A)) : g_Ct l yX8_margin cX8_margin 5 (some FieldType.int) ({ frames := 3, cells := 0, slots := 0, locals := 69 } : Room) D (tysY Y) E [.ref (q 99)] (wMod q Y I A F Dd) 0 0 (fun r9 w9 => ∃ A1 : Nat → Nat → Int, w9 = wMod q Y I A1 F Dd ∧ smA A1 ∧ kpA A A1 ∧ ∃ z : Int, r9 = some (.int (iI z)) ∧ ∃ y : Int, z = y + 2000 ∧ mgIs (mJ I A) (mN A) y) := by
  refine g_ofG (own := RX8) hE (by decide) rfl (Nat.le_of_ble_eq_true rfl) [(0, .ref (q 99))] rfl ?_
  intro p9 e9 s9 m9 b9 t9 c9 A9 C hr hlk hnm
  have hI := hsI
  have hA := hsA
  unfold smI at hI
  unfold smA at hA
  have hN9 := hN
  unfold okN at hN9
  simp only [mJ, mN] at hN9
  refine g_sipush C (n' := 3) (by decide) dX8_margin_0 rfl ?_
  refine g_istore_n C (n' := 4) [(1, .int (iI (-1200))), (0, .ref (q 99))] dX8_margin_3 rfl rfl (by decide) rfl ?_
  refine g_sipush C (n' := 7) (by decide) dX8_margin_4 rfl ?_
  refine g_istore_n C (n' := 8) [(2, .int (iI 1200)), (1, .int (iI (-1200))), (0, .ref (q 99))] dX8_margin_7 rfl rfl (by decide) rfl ?_
  refine g_lv (lv' := [(2, .int (iI 1200)), (1, .int (iI (-1200))), (0, .ref (q 99))]) [0, 1, 2] rfl ?_
  refine lp_X8_mg C q I A F Dd hsI hsA hN 2400 A (-1200) 1200 hsA (kpA_refl A) (by omega) (by omega) (by omega) (by omega) (feas_lo hN) (fun x h1 h2 => by omega) (fun A1 lo hi hsA1 hkA hz => ?_)
  refine g_iload_n C (n' := 64) 1 rfl dX8_margin_63 rfl rfl ?_
  refine g_sipush C (n' := 67) (by decide) dX8_margin_64 rfl ?_
  refine g_iadd C (n' := 68) dX8_margin_67 rfl ?_
  exact g_iret C hr hlk rfl ⟨_, rfl, hsA1, hkA, _, rfl, _, rfl, hz⟩ dX8_margin_68
