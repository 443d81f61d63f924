/-! Trace: the remainder by doublings -/
set_option maxRecDepth 100000 in
set_option maxHeartbeats 4000000 in
theorem lp_X5_r1 {p9 : Program} {l : Launch} {e9 : Env} {s9 : State} {m9 : MethodId} {a9 : Array Value} {b9 : List Frame} {t9 : Method} {c9 : Code} {D : va_G} {A9 : Nat → Prop} {Q9 : State → Prop} {E : (Nat → Prop) → State → Heap → Prop} {Y : Nat → ClassId} (C : g_Cx p9 s9 m9 a9 c9 cX5_remainder 10 RX5 D (tysY Y) A9 E) (v1 L : UInt64) (n m : Nat) (hL : pF L false n) (hgx : gG ∣ n) (hn : n < gT) (h0 : 0 < m) : ∀ (n9 : Nat) (k x : Nat) (P : UInt64), k + n9 = 1100 → x = m * 2 ^ k → pF P false x → x ≤ n → (∀ (k x : Nat) (P : UInt64), k ≤ 1100 → x = m * 2 ^ k → pF P false x → x ≤ n → n < 2 * x → g_G p9 l e9 ({ frames := 0, cells := 0, slots := 0, locals := 0 } : Room) s9 m9 a9 b9 t9 c9 10 D A9 Q9 0 0 [] [(8, .int (iI ((k : Nat) : Int))), (6, .double P), (4, .double L), (0, .double v1)] 65 []) → g_G p9 l e9 ({ frames := 0, cells := 0, slots := 0, locals := 0 } : Room) s9 m9 a9 b9 t9 c9 10 D A9 Q9 0 0 [] [(8, .int (iI ((k : Nat) : Int))), (6, .double P), (4, .double L), (0, .double v1)] 31 [] := by
  have hE := C.2.2.2.2.2.2.2.2.1
  intro n9
  induction n9 with
  | zero =>
    intro k x P hk hx hP hle K
    exfalso
    have h9 : gT ≤ x := by
      rw [hx, show k = 1100 by omega]
      exact Nat.le_mul_of_pos_left (2 ^ 1100) h0
    exact Nat.lt_irrefl _ (Nat.lt_of_lt_of_le hn (Nat.le_trans h9 hle))
  | succ n9 ih =>
    intro k x P hk hx hP hle K
    have hk9 : k < 1100 := by omega
    refine g_iload C (n' := 33) 0 rfl dX5_remainder_31 rfl ?_
    refine g_sipush C (n' := 36) (by decide) dX5_remainder_33 rfl ?_
    refine g_icmp_ge C (n' := 39) 65 dX5_remainder_36 (by decide) rfl (by unfold inR; omega) (by unfold inR; omega) (fun c1 => ?_) (fun c1 => ?_)
    · skip
      exfalso
      omega
    · skip
      refine g_dload C (n' := 41) 1 rfl dX5_remainder_39 rfl ?_
      refine g_dload C (n' := 43) 2 rfl dX5_remainder_41 rfl ?_
      refine g_ldc2d C (n' := 46) kw_630 dX5_remainder_43 rfl ?_
      refine g_ddiv C (n' := 47) dX5_remainder_46 rfl (fun r2 hr2 => ?_)
      refine g_dcmp C (n' := 48) (dcV .g P r2) (dcV_e _ _ _) dX5_remainder_47 rfl ?_
      have h_47 := dcV_r .g P r2
      refine g_if_gt C (n' := 51) 65 dX5_remainder_48 (by decide) rfl (by unfold inR; omega) (fun c3 => ?_) (fun c3 => ?_)
      · skip
        have hq := pF_v (al64_v hr2) (pF_hlf hL hgx)
        have hz := dcV_z (op := .g) (pF_nn hP) (pF_nn hq)
        rw [pF_zf hP, pF_zf hq] at hz
        exact K k x P (by omega) hx hP hle (by
          split at hz
          · omega
          · split at hz <;> omega)
      · skip
        refine g_dload C (n' := 53) 1 rfl dX5_remainder_51 rfl ?_
        refine g_ldc2d C (n' := 56) kw_630 dX5_remainder_53 rfl ?_
        refine g_dmul C (n' := 57) dX5_remainder_56 rfl (fun r4 hr4 => ?_)
        refine g_dstore C (n' := 59) [(6, .double r4), (8, .int (iI ((k : Nat) : Int))), (4, .double L), (0, .double v1)] dX5_remainder_57 rfl (by decide) rfl ?_
        refine g_iinc C (n' := 62) 1 [(8, .int (iI (((k : Nat) : Int) + 1))), (6, .double r4), (4, .double L), (0, .double v1)] rfl dX5_remainder_59 rfl (by decide) rfl ?_
        refine g_goto C 31 dX5_remainder_62 (by decide) ?_
        have hq := pF_v (al64_v hr2) (pF_hlf hL hgx)
        have hz := dcV_z (op := .g) (pF_nn hP) (pF_nn hq)
        rw [pF_zf hP, pF_zf hq] at hz
        have hle2 : x ≤ n / 2 := by
          split at hz
          · omega
          · split at hz <;> omega
        have hx2 : pF r4 false (2 * x) := pF_v (al64_v hr4) (pF_dbl hP (by rw [hx]; exact Nat.mul_pos h0 (Nat.two_pow_pos _)) (by omega))
        refine g_lv (lv' := [(8, .int (iI ((k + 1 : Nat) : Int))), (6, .double r4), (4, .double L), (0, .double v1)]) [0, 1, 2, 3] rfl ?_
        exact ih (k + 1) (2 * x) r4 (by omega) (by rw [hx, Nat.pow_succ, ← Nat.mul_assoc m, Nat.mul_comm 2 (m * 2 ^ k)]) hx2 (by omega) K
set_option maxRecDepth 100000 in
set_option maxHeartbeats 4000000 in
theorem lp_X5_r2 {p9 : Program} {l : Launch} {e9 : Env} {s9 : State} {m9 : MethodId} {a9 : Array Value} {b9 : List Frame} {t9 : Method} {c9 : Code} {D : va_G} {A9 : Nat → Prop} {Q9 : State → Prop} {E : (Nat → Prop) → State → Heap → Prop} {Y : Nat → ClassId} (C : g_Cx p9 s9 m9 a9 c9 cX5_remainder 10 RX5 D (tysY Y) A9 E) (v1 : UInt64) (m z : Nat) (h0 : 0 < m) (hgm : gG ∣ m) : ∀ (n9 : Nat) (t : Int) (lf : Nat) (L P : UInt64), t = (n9 : Int) - 1 → n9 ≤ 1101 → pF L false lf → lf < m * 2 ^ n9 → lf % m = z → (∀ j : Nat, n9 = j + 1 → pF P false (m * 2 ^ j)) → (∀ L : UInt64, pF L false z → g_G p9 l e9 ({ frames := 0, cells := 0, slots := 0, locals := 0 } : Room) s9 m9 a9 b9 t9 c9 10 D A9 Q9 0 0 [] [(4, .double L), (0, .double v1)] 103 []) → g_G p9 l e9 ({ frames := 0, cells := 0, slots := 0, locals := 0 } : Room) s9 m9 a9 b9 t9 c9 10 D A9 Q9 0 0 [] [(9, .int (iI t)), (6, .double P), (4, .double L), (0, .double v1)] 69 [] := by
  have hE := C.2.2.2.2.2.2.2.2.1
  intro n9
  induction n9 with
  | zero =>
    intro t lf L P ht hn9 hL hlt hmod hP K
    refine g_iload C (n' := 71) 0 rfl dX5_remainder_69 rfl ?_
    refine g_if_lt C (n' := 74) 103 dX5_remainder_71 (by decide) rfl (by unfold inR; omega) (fun c1 => ?_) (fun c1 => ?_)
    · skip
      refine g_lv (lv' := [(4, .double L), (0, .double v1)]) [2, 3] rfl ?_
      refine K L ?_
      rw [Nat.pow_zero, Nat.mul_one] at hlt
      rw [← hmod, Nat.mod_eq_of_lt hlt]
      exact hL
    · skip
      exfalso
      omega
  | succ n9 ih =>
    intro t lf L P ht hn9 hL hlt hmod hP K
    have hPx := hP n9 rfl
    have hlt2 : lf < 2 * (m * 2 ^ n9) := by
      rw [Nat.pow_succ, ← Nat.mul_assoc] at hlt
      omega
    generalize hx : m * 2 ^ n9 = x at hPx hlt2
    replace hx := hx.symm
    refine g_iload C (n' := 71) 0 rfl dX5_remainder_69 rfl ?_
    refine g_if_lt C (n' := 74) 103 dX5_remainder_71 (by decide) rfl (by unfold inR; omega) (fun c1 => ?_) (fun c1 => ?_)
    · skip
      exfalso
      omega
    · skip
      refine g_dload C (n' := 76) 2 rfl dX5_remainder_74 rfl ?_
      refine g_dload C (n' := 78) 1 rfl dX5_remainder_76 rfl ?_
      refine g_dcmp C (n' := 79) (dcV .l L P) (dcV_e _ _ _) dX5_remainder_78 rfl ?_
      have h_78 := dcV_r .l L P
      refine g_if_lt C (n' := 82) 89 dX5_remainder_79 (by decide) rfl (by unfold inR; omega) (fun c2 => ?_) (fun c2 => ?_)
      · skip
        refine g_dload C (n' := 91) 1 rfl dX5_remainder_89 rfl ?_
        refine g_ldc2d C (n' := 94) kw_630 dX5_remainder_91 rfl ?_
        refine g_ddiv C (n' := 95) dX5_remainder_94 rfl (fun r3 hr3 => ?_)
        refine g_dstore C (n' := 97) [(6, .double r3), (9, .int (iI t)), (4, .double L), (0, .double v1)] dX5_remainder_95 rfl (by decide) rfl ?_
        refine g_iinc C (n' := 100) 1 [(9, .int (iI (t + (-1)))), (6, .double r3), (4, .double L), (0, .double v1)] rfl dX5_remainder_97 rfl (by decide) rfl ?_
        refine g_goto C 69 dX5_remainder_100 (by decide) ?_
        have hz := dcV_z (op := .l) (pF_nn hL) (pF_nn hPx)
        rw [pF_zf hPx, pF_zf hL] at hz
        have hP2 : ∀ j : Nat, n9 = j + 1 → pF r3 false (m * 2 ^ j) := fun j hj => by
          have e := pF_v (al64_v hr3) (pF_hlf hPx (hx ▸ Nat.dvd_trans hgm (Nat.dvd_mul_right _ _)))
          rw [hx, hj, Nat.pow_succ, ← Nat.mul_assoc, Nat.mul_div_cancel _ (by decide)] at e
          exact e
        refine g_lv (lv' := [(9, .int (iI (t + (-1)))), (6, .double r3), (4, .double L), (0, .double v1)]) [0, 1, 2, 3] rfl ?_
        have hlt2 : lf < x := by
          split at hz
          · omega
          · split at hz <;> omega
        exact ih _ lf L r3 (by omega) (by omega) hL (by rw [← hx]; exact hlt2) hmod hP2 K
      · skip
        refine g_dload C (n' := 84) 2 rfl dX5_remainder_82 rfl ?_
        refine g_dload C (n' := 86) 1 rfl dX5_remainder_84 rfl ?_
        refine g_dsub C (n' := 87) dX5_remainder_86 rfl (fun r4 hr4 => ?_)
        refine g_dstore C (n' := 89) [(4, .double r4), (9, .int (iI t)), (6, .double P), (0, .double v1)] dX5_remainder_87 rfl (by decide) rfl ?_
        refine g_dload C (n' := 91) 2 rfl dX5_remainder_89 rfl ?_
        refine g_ldc2d C (n' := 94) kw_630 dX5_remainder_91 rfl ?_
        refine g_ddiv C (n' := 95) dX5_remainder_94 rfl (fun r5 hr5 => ?_)
        refine g_dstore C (n' := 97) [(6, .double r5), (4, .double r4), (9, .int (iI t)), (0, .double v1)] dX5_remainder_95 rfl (by decide) rfl ?_
        refine g_iinc C (n' := 100) 2 [(9, .int (iI (t + (-1)))), (6, .double r5), (4, .double r4), (0, .double v1)] rfl dX5_remainder_97 rfl (by decide) rfl ?_
        refine g_goto C 69 dX5_remainder_100 (by decide) ?_
        have hz := dcV_z (op := .l) (pF_nn hL) (pF_nn hPx)
        rw [pF_zf hPx, pF_zf hL] at hz
        have hP2 : ∀ j : Nat, n9 = j + 1 → pF r5 false (m * 2 ^ j) := fun j hj => by
          have e := pF_v (al64_v hr5) (pF_hlf hPx (hx ▸ Nat.dvd_trans hgm (Nat.dvd_mul_right _ _)))
          rw [hx, hj, Nat.pow_succ, ← Nat.mul_assoc, Nat.mul_div_cancel _ (by decide)] at e
          exact e
        refine g_lv (lv' := [(9, .int (iI (t + (-1)))), (6, .double r5), (4, .double r4), (0, .double v1)]) [0, 1, 2, 3] rfl ?_
        have hge : x ≤ lf := by
          split at hz
          · omega
          · split at hz <;> omega
        have hl2 := pF_v (al64_v hr4) (pF_sub hL hPx hge hlt2)
        exact ih _ (lf - x) r4 r5 (by omega) (by omega) hl2 (by rw [← hx]; omega) (by rw [hx, Nat.sub_mul_mod (by rw [← hx]; exact hge)]; exact hmod) hP2 K
set_option maxRecDepth 100000 in
set_option maxHeartbeats 4000000 in
theorem rm_31 {p9 : Program} {l : Launch} {e9 : Env} {s9 : State} {m9 : MethodId} {a9 : Array Value} {b9 : List Frame} {t9 : Method} {c9 : Code} {D : va_G} {A9 : Nat → Prop} {Q9 : State → Prop} {E : (Nat → Prop) → State → Heap → Prop} {Y : Nat → ClassId} (C : g_Cx p9 s9 m9 a9 c9 cX5_remainder 10 RX5 D (tysY Y) A9 E) (v1 L P : UInt64) (sL : Bool) (n m : Nat) (hL : pF L sL n) (hsL : sL = false ∨ n = 0) (hgx : gG ∣ n) (hn : n < gT) (hP : FP.Core.val64 P ≠ .nan) (hPz : zz P = (m : Int)) (h0 : 0 < m) (hgm : gG ∣ m) (K : ∀ X : UInt64, ((m ≤ n ∧ pF X false (n % m)) ∨ (X = L ∧ n < m)) → g_G p9 l e9 ({ frames := 0, cells := 0, slots := 0, locals := 0 } : Room) s9 m9 a9 b9 t9 c9 10 D A9 Q9 0 0 [] [(4, .double X), (0, .double v1)] 103 []) : g_G p9 l e9 ({ frames := 0, cells := 0, slots := 0, locals := 0 } : Room) s9 m9 a9 b9 t9 c9 10 D A9 Q9 0 0 [] [(8, .int (iI 0)), (6, .double P), (4, .double L), (0, .double v1)] 31 [] := by
  have hE := C.2.2.2.2.2.2.2.2.1
  by_cases hnm : m ≤ n
  · skip
    have hs : sL = false := hsL.resolve_right (by omega)
    subst hs
    have hPf := pF_of hP hPz h0 (Nat.lt_of_le_of_lt hnm hn)
    refine g_lv (lv' := [(8, .int (iI ((0 : Nat) : Int))), (6, .double P), (4, .double L), (0, .double v1)]) [0, 1, 2, 3] rfl ?_
    refine lp_X5_r1 C v1 L n m hL hgx hn h0 1100 0 m P rfl (by rw [Nat.pow_zero, Nat.mul_one]) hPf hnm (fun k x P hk hx hP hle hlt => ?_)
    refine g_iload C (n' := 67) 0 rfl dX5_remainder_65 rfl ?_
    refine g_istore C (n' := 69) [(9, .int (iI ((k : Nat) : Int))), (8, .int (iI ((k : Nat) : Int))), (6, .double P), (4, .double L), (0, .double v1)] dX5_remainder_67 rfl (by decide) rfl ?_
    refine g_lv (lv' := [(9, .int (iI ((k : Nat) : Int))), (6, .double P), (4, .double L), (0, .double v1)]) [0, 2, 3, 4] rfl ?_
    exact lp_X5_r2 C v1 m (n % m) h0 hgm (k + 1) ((k : Nat) : Int) n L P (by omega) (by omega) hL (by rw [Nat.pow_succ, ← Nat.mul_assoc, ← hx]; omega) rfl (fun j hj => by
      have ej : j = k := by omega
      rw [ej, ← hx]
      exact hP) (fun X hX => K X (Or.inl ⟨hnm, hX⟩))
  · skip
    refine g_iload C (n' := 33) 0 rfl dX5_remainder_31 rfl ?_
    refine g_sipush C (n' := 36) (by decide) dX5_remainder_33 rfl ?_
    refine g_icmp_ge C (n' := 39) 65 dX5_remainder_36 (by decide) rfl (by unfold inR; omega) (by unfold inR; omega) (fun c1 => ?_) (fun c1 => ?_)
    · skip
      exfalso
      omega
    · skip
      refine g_dload C (n' := 41) 1 rfl dX5_remainder_39 rfl ?_
      refine g_dload C (n' := 43) 2 rfl dX5_remainder_41 rfl ?_
      refine g_ldc2d C (n' := 46) kw_630 dX5_remainder_43 rfl ?_
      refine g_ddiv C (n' := 47) dX5_remainder_46 rfl (fun r2 hr2 => ?_)
      have hq := pF_v (al64_v hr2) (pF_hlf hL hgx)
      have hz := dcV_z (op := .g) hP (pF_nn hq)
      rw [hPz, pF_z hq] at hz
      have hy9 : (if sL = true then -((n / 2 : Nat) : Int) else ((n / 2 : Nat) : Int)) ≤ ((n / 2 : Nat) : Int) := by split <;> omega
      generalize (if sL = true then -((n / 2 : Nat) : Int) else ((n / 2 : Nat) : Int)) = y9 at hz hy9
      rw [if_neg (by omega), if_neg (by omega)] at hz
      refine g_dcmp C (n' := 48) (dcV .g P r2) (dcV_e _ _ _) dX5_remainder_47 rfl ?_
      have h_47 := dcV_r .g P r2
      refine g_if_gt C (n' := 51) 65 dX5_remainder_48 (by decide) rfl (by unfold inR; omega) (fun c3 => ?_) (fun c3 => ?_)
      · skip
        refine g_iload C (n' := 67) 0 rfl dX5_remainder_65 rfl ?_
        refine g_istore C (n' := 69) [(9, .int (iI 0)), (8, .int (iI 0)), (6, .double P), (4, .double L), (0, .double v1)] dX5_remainder_67 rfl (by decide) rfl ?_
        refine g_iload C (n' := 71) 0 rfl dX5_remainder_69 rfl ?_
        refine g_if_lt C (n' := 74) 103 dX5_remainder_71 (by decide) rfl (by unfold inR; omega) (fun c4 => ?_) (fun c4 => ?_)
        · skip
          exfalso
          omega
        · skip
          refine g_dload C (n' := 76) 3 rfl dX5_remainder_74 rfl ?_
          refine g_dload C (n' := 78) 2 rfl dX5_remainder_76 rfl ?_
          have hz2 := dcV_z (op := .l) (pF_nn hL) hP
          rw [hPz, pF_z hL] at hz2
          have hy8 : (if sL = true then -(n : Int) else (n : Int)) ≤ (n : Int) := by split <;> omega
          generalize (if sL = true then -(n : Int) else (n : Int)) = y8 at hz2 hy8
          rw [if_pos (by omega)] at hz2
          refine g_dcmp C (n' := 79) (dcV .l L P) (dcV_e _ _ _) dX5_remainder_78 rfl ?_
          have h_78 := dcV_r .l L P
          refine g_if_lt C (n' := 82) 89 dX5_remainder_79 (by decide) rfl (by unfold inR; omega) (fun c5 => ?_) (fun c5 => ?_)
          · skip
            refine g_dload C (n' := 91) 2 rfl dX5_remainder_89 rfl ?_
            refine g_ldc2d C (n' := 94) kw_630 dX5_remainder_91 rfl ?_
            refine g_ddiv C (n' := 95) dX5_remainder_94 rfl (fun r6 hr6 => ?_)
            refine g_dstore C (n' := 97) [(6, .double r6), (9, .int (iI 0)), (8, .int (iI 0)), (4, .double L), (0, .double v1)] dX5_remainder_95 rfl (by decide) rfl ?_
            refine g_iinc C (n' := 100) 1 [(9, .int (iI (0 + (-1)))), (6, .double r6), (8, .int (iI 0)), (4, .double L), (0, .double v1)] rfl dX5_remainder_97 rfl (by decide) rfl ?_
            refine g_goto C 69 dX5_remainder_100 (by decide) ?_
            refine g_iload C (n' := 71) 0 rfl dX5_remainder_69 rfl ?_
            refine g_if_lt C (n' := 74) 103 dX5_remainder_71 (by decide) rfl (by unfold inR; omega) (fun c7 => ?_) (fun c7 => ?_)
            · skip
              refine g_lv (lv' := [(4, .double L), (0, .double v1)]) [3, 4] rfl ?_
              exact K L (Or.inr ⟨rfl, by omega⟩)
            · skip
              exfalso
              omega
          · skip
            exfalso
            omega
      · skip
        exfalso
        omega
theorem rm_neg {v1 v2 X : UInt64} {s : Bool} {n m : Nat} (hx : pF v1 s n) (hs : s = true) (hy : FP.Core.val64 v2 ≠ .nan) (hm : zm v2 = m) (h0 : 0 < m) (hX : (m ≤ n ∧ pF X false (n % m)) ∨ (X = FP.dneg v1 ∧ n < m)) : FP.dneg X = FP.drem v1 v2 := by
  have hD := drem_pF hx hy hm h0
  subst hs
  rcases hX with ⟨-, h⟩ | ⟨e, h⟩
  · exact pF_eq (pF_neg h) hD
  · rw [e]
    rw [Nat.mod_eq_of_lt h] at hD
    have h2 := pF_neg (pF_neg hx)
    exact pF_eq (by simpa using h2) hD
theorem rm_pos {v1 v2 X : UInt64} {s : Bool} {n m : Nat} (hx : pF v1 s n) (hs : s = false ∨ n = 0) (hy : FP.Core.val64 v2 ≠ .nan) (hm : zm v2 = m) (h0 : 0 < m) (hX : (m ≤ n ∧ pF X false (n % m)) ∨ (X = v1 ∧ n < m)) : X = FP.drem v1 v2 := by
  have hD := drem_pF hx hy hm h0
  rcases hX with ⟨h9, h⟩ | ⟨e, h⟩
  · have e := hs.resolve_right (by omega)
    subst e
    exact pF_eq h hD
  · rw [Nat.mod_eq_of_lt h] at hD
    rw [e]
    exact pF_eq hx hD
theorem zz_pos {x : UInt64} {m : Nat} (hm : zm x = m) (h : ¬ zz x < 0) : zz x = (m : Int) := by
  rcases zz_of x with e | e
  · rw [e, hm]
  · rw [hm] at e
    omega
theorem zz_negv {x : UInt64} {m : Nat} (hm : zm x = m) (h : zz x < 0) : zz (FP.dneg x) = (m : Int) := by
  rw [zz_neg]
  rcases zz_of x with e | e
  · rw [hm] at e
    omega
  · rw [e, hm]
    omega
set_option maxRecDepth 100000 in
set_option maxHeartbeats 4000000 in
theorem c_X5_remainder (l : Launch) (D : va_G) (Y : Nat → ClassId) {E : (Nat → Prop) → State → Heap → Prop} (hE : g_Stab E) (v1 : UInt64) (v2 : UInt64) (s : Bool) (n m : Nat) (hx : pF v1 s n) (hgx : gG ∣ n) (hn : n < gT) (hy : FP.Core.val64 v2 ≠ .nan) (hm : zm v2 = m) (h0 : 0 < m) (hgm : gG ∣ m) : g_Ct l yX5_remainder cX5_remainder 10 (some FieldType.double) ({ frames := 0, cells := 0, slots := 0, locals := 0 } : Room) D (tysY Y) E [.double v1, .double v2] [] 0 0 (g_det (some (.double (FP.drem v1 v2))) []) := by
  refine g_ofG (own := RX5) hE (by decide) rfl (Nat.le_of_ble_eq_true rfl) [(0, .double v1), (2, .double v2)] rfl ?_
  intro p9 e9 s9 m9 b9 t9 c9 A9 C hr hlk hnm
  refine g_dload_n C (n' := 1) 0 rfl dX5_remainder_0 rfl rfl ?_
  refine g_dconst0 C (n' := 2) dX5_remainder_1 rfl ?_
  refine g_dcmp C (n' := 3) (dcV .g v1 0) (dcV_e _ _ _) dX5_remainder_2 rfl ?_
  have h_2 := dcV_r .g v1 0
  refine g_if_ge C (n' := 6) 11 dX5_remainder_3 (by decide) rfl (by unfold inR; omega) (fun c1 => ?_) (fun c1 => ?_)
  · skip
    refine g_dload_n C (n' := 12) 0 rfl dX5_remainder_11 rfl rfl ?_
    refine g_dstore C (n' := 14) [(4, .double v1), (0, .double v1), (2, .double v2)] dX5_remainder_12 rfl (by decide) rfl ?_
    refine g_dload_n C (n' := 15) 2 rfl dX5_remainder_14 rfl rfl ?_
    refine g_dconst0 C (n' := 16) dX5_remainder_15 rfl ?_
    refine g_dcmp C (n' := 17) (dcV .g v2 0) (dcV_e _ _ _) dX5_remainder_16 rfl ?_
    have h_16 := dcV_r .g v2 0
    refine g_if_ge C (n' := 20) 25 dX5_remainder_17 (by decide) rfl (by unfold inR; omega) (fun c2 => ?_) (fun c2 => ?_)
    · skip
      refine g_dload_n C (n' := 26) 2 rfl dX5_remainder_25 rfl rfl ?_
      refine g_dstore C (n' := 28) [(6, .double v2), (4, .double v1), (0, .double v1), (2, .double v2)] dX5_remainder_26 rfl (by decide) rfl ?_
      refine g_iconst C (n' := 29) dX5_remainder_28 rfl ?_
      refine g_istore C (n' := 31) [(8, .int (iI 0)), (6, .double v2), (4, .double v1), (0, .double v1), (2, .double v2)] dX5_remainder_29 rfl (by decide) rfl ?_
      have hz1 := dcV_z (op := .g) (pF_nn hx) nn_0
      rw [zz_0] at hz1
      have hz2 := dcV_z (op := .g) hy nn_0
      rw [zz_0] at hz2
      have hzx := pF_z hx
      have hv1 : ¬ zz v1 < 0 := by
        split at hz1
        · omega
        · assumption
      have hsL : s = false ∨ n = 0 := by
        cases s with
        | false => exact Or.inl rfl
        | true =>
          rw [if_pos rfl] at hzx
          exact Or.inr (by omega)
      have hv2 : ¬ zz v2 < 0 := by
        split at hz2
        · omega
        · assumption
      refine g_lv (lv' := [(8, .int (iI 0)), (6, .double v2), (4, .double v1), (0, .double v1)]) [0, 1, 2, 3] rfl ?_
      refine rm_31 C v1 v1 v2 s n m hx hsL hgx hn hy (zz_pos hm hv2) h0 hgm (fun X hX => ?_)
      refine g_dload_n C (n' := 104) 1 rfl dX5_remainder_103 rfl rfl ?_
      refine g_dconst0 C (n' := 105) dX5_remainder_104 rfl ?_
      refine g_dcmp C (n' := 106) (dcV .g v1 0) (dcV_e _ _ _) dX5_remainder_105 rfl ?_
      have h_105 := dcV_r .g v1 0
      refine g_if_ge C (n' := 109) 115 dX5_remainder_106 (by decide) rfl (by unfold inR; omega) (fun c3 => ?_) (fun c3 => ?_)
      · skip
        refine g_dload C (n' := 117) 0 rfl dX5_remainder_115 rfl ?_
        refine g_dret C hr hlk ⟨congrArg (fun z : UInt64 => some (Value.double z)) ?_, rfl⟩ dX5_remainder_117
        exact rm_pos hx hsL hy hm h0 hX
      · skip
        exfalso
        omega
    · skip
      refine g_dload_n C (n' := 21) 2 rfl dX5_remainder_20 rfl rfl ?_
      refine g_dneg C (n' := 22) dX5_remainder_21 rfl ?_
      refine g_goto C 26 dX5_remainder_22 (by decide) ?_
      refine g_dstore C (n' := 28) [(6, .double (FP.dneg v2)), (4, .double v1), (0, .double v1), (2, .double v2)] dX5_remainder_26 rfl (by decide) rfl ?_
      refine g_iconst C (n' := 29) dX5_remainder_28 rfl ?_
      refine g_istore C (n' := 31) [(8, .int (iI 0)), (6, .double (FP.dneg v2)), (4, .double v1), (0, .double v1), (2, .double v2)] dX5_remainder_29 rfl (by decide) rfl ?_
      have hz1 := dcV_z (op := .g) (pF_nn hx) nn_0
      rw [zz_0] at hz1
      have hz2 := dcV_z (op := .g) hy nn_0
      rw [zz_0] at hz2
      have hzx := pF_z hx
      have hv1 : ¬ zz v1 < 0 := by
        split at hz1
        · omega
        · assumption
      have hsL : s = false ∨ n = 0 := by
        cases s with
        | false => exact Or.inl rfl
        | true =>
          rw [if_pos rfl] at hzx
          exact Or.inr (by omega)
      have hv2 : zz v2 < 0 := by
        split at hz2
        · assumption
        · split at hz2 <;> omega
      refine g_lv (lv' := [(8, .int (iI 0)), (6, .double (FP.dneg v2)), (4, .double v1), (0, .double v1)]) [0, 1, 2, 3] rfl ?_
      refine rm_31 C v1 v1 (FP.dneg v2) s n m hx hsL hgx hn (nn_neg hy) (zz_negv hm hv2) h0 hgm (fun X hX => ?_)
      refine g_dload_n C (n' := 104) 1 rfl dX5_remainder_103 rfl rfl ?_
      refine g_dconst0 C (n' := 105) dX5_remainder_104 rfl ?_
      refine g_dcmp C (n' := 106) (dcV .g v1 0) (dcV_e _ _ _) dX5_remainder_105 rfl ?_
      have h_105 := dcV_r .g v1 0
      refine g_if_ge C (n' := 109) 115 dX5_remainder_106 (by decide) rfl (by unfold inR; omega) (fun c4 => ?_) (fun c4 => ?_)
      · skip
        refine g_dload C (n' := 117) 0 rfl dX5_remainder_115 rfl ?_
        refine g_dret C hr hlk ⟨congrArg (fun z : UInt64 => some (Value.double z)) ?_, rfl⟩ dX5_remainder_117
        exact rm_pos hx hsL hy hm h0 hX
      · skip
        exfalso
        omega
  · skip
    refine g_dload_n C (n' := 7) 0 rfl dX5_remainder_6 rfl rfl ?_
    refine g_dneg C (n' := 8) dX5_remainder_7 rfl ?_
    refine g_goto C 12 dX5_remainder_8 (by decide) ?_
    refine g_dstore C (n' := 14) [(4, .double (FP.dneg v1)), (0, .double v1), (2, .double v2)] dX5_remainder_12 rfl (by decide) rfl ?_
    refine g_dload_n C (n' := 15) 2 rfl dX5_remainder_14 rfl rfl ?_
    refine g_dconst0 C (n' := 16) dX5_remainder_15 rfl ?_
    refine g_dcmp C (n' := 17) (dcV .g v2 0) (dcV_e _ _ _) dX5_remainder_16 rfl ?_
    have h_16 := dcV_r .g v2 0
    refine g_if_ge C (n' := 20) 25 dX5_remainder_17 (by decide) rfl (by unfold inR; omega) (fun c5 => ?_) (fun c5 => ?_)
    · skip
      refine g_dload_n C (n' := 26) 2 rfl dX5_remainder_25 rfl rfl ?_
      refine g_dstore C (n' := 28) [(6, .double v2), (4, .double (FP.dneg v1)), (0, .double v1), (2, .double v2)] dX5_remainder_26 rfl (by decide) rfl ?_
      refine g_iconst C (n' := 29) dX5_remainder_28 rfl ?_
      refine g_istore C (n' := 31) [(8, .int (iI 0)), (6, .double v2), (4, .double (FP.dneg v1)), (0, .double v1), (2, .double v2)] dX5_remainder_29 rfl (by decide) rfl ?_
      have hz1 := dcV_z (op := .g) (pF_nn hx) nn_0
      rw [zz_0] at hz1
      have hz2 := dcV_z (op := .g) hy nn_0
      rw [zz_0] at hz2
      have hzx := pF_z hx
      have hv1 : zz v1 < 0 := by
        split at hz1
        · assumption
        · split at hz1 <;> omega
      have hst : s = true := by
        cases s with
        | false =>
          rw [if_neg (by decide)] at hzx
          omega
        | true => rfl
      have hL9 : pF (FP.dneg v1) false n := by
        have := pF_neg hx
        rw [hst] at this
        exact this
      have hv2 : ¬ zz v2 < 0 := by
        split at hz2
        · omega
        · assumption
      refine g_lv (lv' := [(8, .int (iI 0)), (6, .double v2), (4, .double (FP.dneg v1)), (0, .double v1)]) [0, 1, 2, 3] rfl ?_
      refine rm_31 C v1 (FP.dneg v1) v2 false n m hL9 (Or.inl rfl) hgx hn hy (zz_pos hm hv2) h0 hgm (fun X hX => ?_)
      refine g_dload_n C (n' := 104) 1 rfl dX5_remainder_103 rfl rfl ?_
      refine g_dconst0 C (n' := 105) dX5_remainder_104 rfl ?_
      refine g_dcmp C (n' := 106) (dcV .g v1 0) (dcV_e _ _ _) dX5_remainder_105 rfl ?_
      have h_105 := dcV_r .g v1 0
      refine g_if_ge C (n' := 109) 115 dX5_remainder_106 (by decide) rfl (by unfold inR; omega) (fun c6 => ?_) (fun c6 => ?_)
      · skip
        exfalso
        omega
      · skip
        refine g_dload C (n' := 111) 0 rfl dX5_remainder_109 rfl ?_
        refine g_dneg C (n' := 112) dX5_remainder_111 rfl ?_
        refine g_goto C 117 dX5_remainder_112 (by decide) ?_
        refine g_dret C hr hlk ⟨congrArg (fun z : UInt64 => some (Value.double z)) ?_, rfl⟩ dX5_remainder_117
        exact rm_neg hx hst hy hm h0 hX
    · skip
      refine g_dload_n C (n' := 21) 2 rfl dX5_remainder_20 rfl rfl ?_
      refine g_dneg C (n' := 22) dX5_remainder_21 rfl ?_
      refine g_goto C 26 dX5_remainder_22 (by decide) ?_
      refine g_dstore C (n' := 28) [(6, .double (FP.dneg v2)), (4, .double (FP.dneg v1)), (0, .double v1), (2, .double v2)] dX5_remainder_26 rfl (by decide) rfl ?_
      refine g_iconst C (n' := 29) dX5_remainder_28 rfl ?_
      refine g_istore C (n' := 31) [(8, .int (iI 0)), (6, .double (FP.dneg v2)), (4, .double (FP.dneg v1)), (0, .double v1), (2, .double v2)] dX5_remainder_29 rfl (by decide) rfl ?_
      have hz1 := dcV_z (op := .g) (pF_nn hx) nn_0
      rw [zz_0] at hz1
      have hz2 := dcV_z (op := .g) hy nn_0
      rw [zz_0] at hz2
      have hzx := pF_z hx
      have hv1 : zz v1 < 0 := by
        split at hz1
        · assumption
        · split at hz1 <;> omega
      have hst : s = true := by
        cases s with
        | false =>
          rw [if_neg (by decide)] at hzx
          omega
        | true => rfl
      have hL9 : pF (FP.dneg v1) false n := by
        have := pF_neg hx
        rw [hst] at this
        exact this
      have hv2 : zz v2 < 0 := by
        split at hz2
        · assumption
        · split at hz2 <;> omega
      refine g_lv (lv' := [(8, .int (iI 0)), (6, .double (FP.dneg v2)), (4, .double (FP.dneg v1)), (0, .double v1)]) [0, 1, 2, 3] rfl ?_
      refine rm_31 C v1 (FP.dneg v1) (FP.dneg v2) false n m hL9 (Or.inl rfl) hgx hn (nn_neg hy) (zz_negv hm hv2) h0 hgm (fun X hX => ?_)
      refine g_dload_n C (n' := 104) 1 rfl dX5_remainder_103 rfl rfl ?_
      refine g_dconst0 C (n' := 105) dX5_remainder_104 rfl ?_
      refine g_dcmp C (n' := 106) (dcV .g v1 0) (dcV_e _ _ _) dX5_remainder_105 rfl ?_
      have h_105 := dcV_r .g v1 0
      refine g_if_ge C (n' := 109) 115 dX5_remainder_106 (by decide) rfl (by unfold inR; omega) (fun c7 => ?_) (fun c7 => ?_)
      · skip
        exfalso
        omega
      · skip
        refine g_dload C (n' := 111) 0 rfl dX5_remainder_109 rfl ?_
        refine g_dneg C (n' := 112) dX5_remainder_111 rfl ?_
        refine g_goto C 117 dX5_remainder_112 (by decide) ?_
        refine g_dret C hr hlk ⟨congrArg (fun z : UInt64 => some (Value.double z)) ?_, rfl⟩ dX5_remainder_117
        exact rm_neg hx hst hy hm h0 hX
