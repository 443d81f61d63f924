/-! Planner: rounds come to rest at the greatest solution; bounds laid -/
def pEd (n : Nat) (B : Nat → Nat → Int) (a b : Nat) (c : Int) : Prop := a < n ∧ b < n ∧ B a b ≠ 1000000000 ∧ c = B a b
/-- what a stretch of lowerings does -/
def pT (n : Nat) (B : Nat → Nat → Int) (x y : (Nat → Int) × Int) : Prop := (∀ k, y.1 k ≤ x.1 k) ∧ (y = x ∨ (y.2 = 1 ∧ ∃ k, k < n ∧ y.1 k < x.1 k)) ∧ (∀ g : Nat → Int, bsol (pEd n B) g → (∀ k, k < n → g k ≤ x.1 k) → ∀ k, k < n → g k ≤ y.1 k) ∧ ∀ k, n ≤ k → y.1 k = x.1 k
theorem pT_refl {n : Nat} {B : Nat → Nat → Int} (x : (Nat → Int) × Int) : pT n B x x := ⟨fun _ => Int.le_refl _, Or.inl rfl, fun _ _ h => h, fun _ _ => rfl⟩
theorem pT_trans {n : Nat} {B : Nat → Nat → Int} {x y z : (Nat → Int) × Int} (h1 : pT n B x y) (h2 : pT n B y z) : pT n B x z := by
  refine ⟨fun k => Int.le_trans (h2.1 k) (h1.1 k), ?_, fun g hg h => h2.2.2.1 g hg (h1.2.2.1 g hg h), fun k hk => (h2.2.2.2 k hk).trans (h1.2.2.2 k hk)⟩
  rcases h2.2.1 with e | ⟨e, k, hk, h3⟩
  · rw [e]
    exact h1.2.1
  · exact Or.inr ⟨e, k, hk, by have := h1.1 k; omega⟩
theorem pT_rel {n : Nat} {B : Nat → Nat → Int} {a b : Nat} (ha : a < n) (hb : b < n) (x : (Nat → Int) × Int) : pT n B x (p_rel B a b x) := by
  unfold p_rel
  split
  · next q =>
    refine ⟨fun k => ?_, Or.inr ⟨rfl, a, ha, ?_⟩, fun g hg h k hk => ?_, fun k hk => ?_⟩
    · show sU x.1 a (x.1 b + B a b) k ≤ x.1 k
      unfold sU
      split
      · next e => rw [e]; omega
      · omega
    · show sU x.1 a (x.1 b + B a b) a < x.1 a
      rw [sU_s]
      exact q.2
    · show g k ≤ sU x.1 a (x.1 b + B a b) k
      unfold sU
      split
      · next e =>
        rw [e]
        have h1 := hg a b (B a b) ⟨ha, hb, q.1, rfl⟩
        have h2 := h b hb
        omega
      · exact h k hk
    · exact sU_n _ _ (by omega)
  · exact pT_refl x
theorem pT_row {n : Nat} {B : Nat → Nat → Int} {a : Nat} (ha : a < n) (x : (Nat → Int) × Int) : ∀ b, b ≤ n → pT n B x (p_row B a b x)
  | 0, _ => pT_refl x
  | b + 1, hb => pT_trans (pT_row ha x b (by omega)) (pT_rel ha (by omega) _)
theorem pT_mat {n : Nat} {B : Nat → Nat → Int} (x : (Nat → Int) × Int) : ∀ a, a ≤ n → pT n B x (p_mat B n a x)
  | 0, _ => pT_refl x
  | a + 1, ha => pT_trans (pT_mat x a (by omega)) (pT_row (by omega) _ n (Nat.le_refl n))
theorem p_row_e {n : Nat} {B : Nat → Nat → Int} {a : Nat} (ha : a < n) (x : (Nat → Int) × Int) : ∀ b', b' ≤ n → ∀ b, b < b' → B a b ≠ 1000000000 → (p_row B a b' x).1 a ≤ x.1 b + B a b
  | 0, _, b, hb, _ => by omega
  | b' + 1, h', b, hb, hc => by
    have t1 := pT_row (B := B) ha x b' (by omega)
    have t2 := pT_rel (B := B) ha (show b' < n by omega) (p_row B a b' x)
    by_cases e : b = b'
    · subst e
      have h1 := t1.1 b
      rw [p_row, p_rel]
      split
      · show sU (p_row B a b x).1 a ((p_row B a b x).1 b + B a b) a ≤ _
        rw [sU_s]
        omega
      · next q =>
        have : ¬ ((p_row B a b x).1 b + B a b < (p_row B a b x).1 a) := fun z => q ⟨hc, z⟩
        omega
    · have h1 := p_row_e ha x b' (by omega) b (by omega) hc
      have h2 := t2.1 a
      rw [p_row]
      omega
theorem p_mat_e {n : Nat} {B : Nat → Nat → Int} (x : (Nat → Int) × Int) : ∀ a', a' ≤ n → ∀ a b, a < a' → b < n → B a b ≠ 1000000000 → (p_mat B n a' x).1 a ≤ x.1 b + B a b
  | 0, _, a, b, ha, _, _ => by omega
  | a' + 1, h', a, b, ha, hb, hc => by
    have t1 := pT_mat (B := B) x a' (show a' ≤ n by omega)
    have t2 := pT_row (B := B) (show a' < n by omega) (p_mat B n a' x) n (Nat.le_refl n)
    rw [p_mat]
    by_cases e : a = a'
    · subst e
      have h1 := p_row_e (B := B) (show a < n by omega) (p_mat B n a x) n (Nat.le_refl n) b hb hc
      have h2 := t1.1 b
      omega
    · have h1 := p_mat_e x a' (by omega) a b (by omega) hb hc
      have h2 := t2.1 a
      omega
/-- the rounds of settle, from noughts -/
def p_S (B : Nat → Nat → Int) (n : Nat) (S0 : Nat → Int) : Nat → Nat → Int
  | 0 => S0
  | k + 1 => (p_mat B n n (p_S B n S0 k, 0)).1
theorem p_S_rd {B : Nat → Nat → Int} {n : Nat} {S0 : Nat → Int} (h0 : ∀ k, k < n → S0 k = 0) : bRd n (pEd n B) (p_S B n S0) := by
  refine ⟨h0, fun k a ha => ?_, fun k g hg h => ?_, fun k a b c hc => ?_⟩
  · exact (pT_mat (B := B) (p_S B n S0 k, 0) n (Nat.le_refl n)).1 a
  · exact (pT_mat (B := B) (p_S B n S0 k, 0) n (Nat.le_refl n)).2.2.1 g hg h
  · obtain ⟨h1, h2, h3, rfl⟩ := hc
    exact p_mat_e (p_S B n S0 k, 0) n (Nat.le_refl n) a b h1 h2 h3
theorem pEd_lt {n : Nat} {B : Nat → Nat → Int} : ∀ a b c, pEd n B a b c → a < n ∧ b < n := fun _ _ _ h => ⟨h.1, h.2.1⟩
theorem p_S_fl {B : Nat → Nat → Int} {n : Nat} {S0 : Nat → Int} (k : Nat) : ((p_mat B n n (p_S B n S0 k, 0)).2 = 0 ∧ p_S B n S0 (k + 1) = p_S B n S0 k) ∨ ((p_mat B n n (p_S B n S0 k, 0)).2 = 1 ∧ ∃ a, a < n ∧ p_S B n S0 (k + 1) a ≠ p_S B n S0 k a) := by
  rcases (pT_mat (B := B) (p_S B n S0 k, 0) n (Nat.le_refl n)).2.1 with e | ⟨e, a, ha, h⟩
  · left
    exact ⟨by rw [e], by rw [p_S, e]⟩
  · exact Or.inr ⟨e, a, ha, by rw [p_S]; have h2 : (p_mat B n n (p_S B n S0 k, 0)).1 a < p_S B n S0 k a := h; omega⟩
theorem p_S_bd {B : Nat → Nat → Int} (hB : okB B) {n : Nat} (hn : n ≤ 8) {S0 : Nat → Int} (h0 : ∀ k, k < n → S0 k = 0) : ∀ k : Nat, p_bd n (108800 * k) (p_S B n S0 k, 0)
  | 0 => ⟨fun a ha => by show -(108800 * ((0 : Nat) : Int)) ≤ S0 a ∧ S0 a ≤ 0; rw [h0 a ha]; omega, Or.inl rfl⟩
  | k + 1 => by
    have h1 := p_mat_r hB n (p_S_bd hB hn h0 k) n (Nat.le_refl n)
    have h2 : n * n ≤ 8 * 8 := Nat.mul_le_mul hn hn
    have h3 := p_bd_le h1 (m2 := 108800 * ((k + 1 : Nat) : Int)) (by omega)
    exact ⟨h3.1, Or.inl rfl⟩
theorem p_S_out {B : Nat → Nat → Int} {n : Nat} {S0 : Nat → Int} : ∀ k a, n ≤ a → p_S B n S0 k a = S0 a
  | 0, _, _ => rfl
  | k + 1, a, ha => ((pT_mat (B := B) (p_S B n S0 k, 0) n (Nat.le_refl n)).2.2.2 a ha).trans (p_S_out k a ha)
def p_z (f : Nat → Int) (n : Nat) : Nat → Int := fun k => if k < n then 0 else f k
theorem p_S_sm {B : Nat → Nat → Int} (hB : okB B) {n : Nat} (hn : n ≤ 8) {f : Nat → Int} (hf : smR f) {k : Nat} (hk : k ≤ 8) : smR (p_S B n (p_z f n) k) := fun a => by
  by_cases q : a < n
  · have := (p_S_bd hB hn (S0 := p_z f n) (fun k hk => if_pos hk) k).1 a q
    simp only at this
    omega
  · rw [p_S_out k a (by omega)]
    show -1000000 ≤ (if a < n then 0 else f a) ∧ (if a < n then 0 else f a) ≤ 1000000
    rw [if_neg q]
    exact hf a
theorem smA_R {A : Nat → Nat → Int} (h : smA A) (s : Nat) : smR (A s) := h s
set_option maxRecDepth 100000 in
set_option maxHeartbeats 4000000 in
theorem lp_X3_se_z {p9 : Program} {l : Launch} {e9 : Env} {s9 : State} {m9 : MethodId} {a9 : Array Value} {b9 : List Frame} {t9 : Method} {c9 : Code} {D : va_G} {A9 : Nat → Prop} {Q9 : State → Prop} {E : (Nat → Prop) → State → Heap → Prop} {Y : Nat → ClassId} (C : g_Cx p9 s9 m9 a9 c9 cX3_settle 2 RX3 D (tysY Y) A9 E) (q : Nat → Nat) (I : Nat → Int) (A B : Nat → Nat → Int) (hsI : smI I) (hsA : smA A) (hsB : okB B) (hn : 2 ≤ I 3 ∧ I 3 ≤ 8) : ∀ (n9 : Nat) (k : Nat), (k : Int) + n9 = I 3 → (g_G p9 l e9 ({ frames := 1, cells := 0, slots := 0, locals := 24 } : Room) s9 m9 a9 b9 t9 c9 2 D A9 Q9 0 0 (wPlan q Y I (sU A 1 (p_z (A 1) (I 3).toNat)) B) [(1, .int (iI (((I 3).toNat : Nat) : Int))), (0, .ref (q 99))] 23 []) → g_G p9 l e9 ({ frames := 1, cells := 0, slots := 0, locals := 24 } : Room) s9 m9 a9 b9 t9 c9 2 D A9 Q9 0 0 (wPlan q Y I (sU A 1 (p_z (A 1) k)) B) [(1, .int (iI ((k : Nat) : Int))), (0, .ref (q 99))] 2 [] := by
  have hE := C.2.2.2.2.2.2.2.2.1
  intro n9
  induction n9 with
  | zero =>
    intro k hk K
    have hI := hsI
    have hA := hsA
    have hB := hsB
    unfold smI at hI
    unfold smA at hA
    unfold okB at hB
    refine g_iload_n C (n' := 3) 0 rfl dX3_settle_2 rfl rfl ?_
    refine g_aload_n C (n' := 4) 1 rfl dX3_settle_3 rfl rfl ?_
    refine g_get C (n' := 7) (Cn := RX3) (T := TX3) (N := 7) (ci := 2) (v := .int (iI (I 3))) ga_X3 0 rfl rfl 3 (by decide) kw_142 rfl rfl dX3_settle_4 rfl ?_
    have h_4 := hI 3
    refine g_icmp_ge C (n' := 10) 23 dX3_settle_7 (by decide) rfl (by unfold inR; omega) (by unfold inR; omega) (fun c1 => ?_) (fun c1 => ?_)
    · skip
      have ek : (I 3).toNat = k := by omega
      rw [ek] at K
      exact K
    · skip
      exfalso
      omega
  | succ n9 ih =>
    intro k hk K
    have hI := hsI
    have hA := hsA
    have hB := hsB
    unfold smI at hI
    unfold smA at hA
    unfold okB at hB
    refine g_iload_n C (n' := 3) 0 rfl dX3_settle_2 rfl rfl ?_
    refine g_aload_n C (n' := 4) 1 rfl dX3_settle_3 rfl rfl ?_
    refine g_get C (n' := 7) (Cn := RX3) (T := TX3) (N := 7) (ci := 2) (v := .int (iI (I 3))) ga_X3 0 rfl rfl 3 (by decide) kw_142 rfl rfl dX3_settle_4 rfl ?_
    have h_4 := hI 3
    refine g_icmp_ge C (n' := 10) 23 dX3_settle_7 (by decide) rfl (by unfold inR; omega) (by unfold inR; omega) (fun c1 => ?_) (fun c1 => ?_)
    · skip
      exfalso
      omega
    · skip
      refine g_aload_n C (n' := 11) 1 rfl dX3_settle_10 rfl rfl ?_
      refine g_get C (n' := 14) (Cn := RX3) (T := TX3) (N := 7) (ci := 2) (v := .ref (q 1)) ga_X3 0 rfl rfl 1 (by decide) kw_140 rfl rfl dX3_settle_11 rfl ?_
      refine g_iload_n C (n' := 15) 0 rfl dX3_settle_14 rfl rfl ?_
      refine g_iconst C (n' := 16) dX3_settle_15 rfl ?_
      refine g_iastN C (n' := 17) (f := (p_z (A 1) k)) (j := k) 2 0 rfl rfl (by omega) (by decide) rfl dX3_settle_16 rfl (wPlan q Y I (sU A 1 (sU (p_z (A 1) k) k 0)) B) rfl ?_
      refine g_iinc C (n' := 20) 0 [(1, .int (iI (((k : Nat) : Int) + 1))), (0, .ref (q 99))] rfl dX3_settle_17 rfl (by decide) rfl ?_
      refine g_goto C 2 dX3_settle_20 (by decide) ?_
      rw [show ((sU (p_z (A 1) k) k 0) : Nat → Int) = p_z (A 1) (k + 1) from by
        funext j
        unfold sU p_z
        (repeat' split) <;> first | rfl | omega]
      refine g_lv (lv' := [(1, .int (iI ((k + 1 : Nat) : Int))), (0, .ref (q 99))]) [0, 1] rfl ?_
      exact ih (k + 1) (by omega) K
set_option maxRecDepth 100000 in
set_option maxHeartbeats 4000000 in
theorem lp_X3_se_r {p9 : Program} {l : Launch} {e9 : Env} {s9 : State} {m9 : MethodId} {a9 : Array Value} {b9 : List Frame} {t9 : Method} {c9 : Code} {D : va_G} {A9 : Nat → Prop} {Q9 : State → Prop} {E : (Nat → Prop) → State → Heap → Prop} {Y : Nat → ClassId} (C : g_Cx p9 s9 m9 a9 c9 cX3_settle 2 RX3 D (tysY Y) A9 E) (q : Nat → Nat) (I : Nat → Int) (A B : Nat → Nat → Int) (hsI : smI I) (hsA : smA A) (hsB : okB B) (hn : 2 ≤ I 3 ∧ I 3 ≤ 8) : ∀ (n9 : Nat) (k : Nat), (k : Int) + n9 = I 3 → (∀ j, j < k → ∃ a, a < (I 3).toNat ∧ p_S B (I 3).toNat (p_z (A 1) (I 3).toNat) (j + 1) a ≠ p_S B (I 3).toNat (p_z (A 1) (I 3).toNat) j a) → (∀ k : Nat, k < (I 3).toNat → p_S B (I 3).toNat (p_z (A 1) (I 3).toNat) (k + 1) = p_S B (I 3).toNat (p_z (A 1) (I 3).toNat) k → g_G p9 l e9 ({ frames := 1, cells := 0, slots := 0, locals := 24 } : Room) s9 m9 a9 b9 t9 c9 2 D A9 Q9 0 0 (wPlan q Y I (sU A 1 (p_S B (I 3).toNat (p_z (A 1) (I 3).toNat) (k + 1))) B) [(1, .int (iI ((k : Nat) : Int))), (0, .ref (q 99))] 40 []) → ((∀ j, j < (I 3).toNat → ∃ a, a < (I 3).toNat ∧ p_S B (I 3).toNat (p_z (A 1) (I 3).toNat) (j + 1) a ≠ p_S B (I 3).toNat (p_z (A 1) (I 3).toNat) j a) → g_G p9 l e9 ({ frames := 1, cells := 0, slots := 0, locals := 24 } : Room) s9 m9 a9 b9 t9 c9 2 D A9 Q9 0 0 (wPlan q Y I (sU A 1 (p_S B (I 3).toNat (p_z (A 1) (I 3).toNat) (I 3).toNat)) B) [(1, .int (iI (((I 3).toNat : Nat) : Int))), (0, .ref (q 99))] 48 []) → g_G p9 l e9 ({ frames := 1, cells := 0, slots := 0, locals := 24 } : Room) s9 m9 a9 b9 t9 c9 2 D A9 Q9 0 0 (wPlan q Y I (sU A 1 (p_S B (I 3).toNat (p_z (A 1) (I 3).toNat) k)) B) [(1, .int (iI ((k : Nat) : Int))), (0, .ref (q 99))] 25 [] := by
  have hE := C.2.2.2.2.2.2.2.2.1
  intro n9
  induction n9 with
  | zero =>
    intro k hk hj K1 K0
    have hI := hsI
    have hA := hsA
    have hB := hsB
    unfold smI at hI
    unfold smA at hA
    unfold okB at hB
    refine g_iload_n C (n' := 26) 0 rfl dX3_settle_25 rfl rfl ?_
    refine g_aload_n C (n' := 27) 1 rfl dX3_settle_26 rfl rfl ?_
    refine g_get C (n' := 30) (Cn := RX3) (T := TX3) (N := 7) (ci := 2) (v := .int (iI (I 3))) ga_X3 0 rfl rfl 3 (by decide) kw_142 rfl rfl dX3_settle_27 rfl ?_
    have h_27 := hI 3
    refine g_icmp_ge C (n' := 33) 48 dX3_settle_30 (by decide) rfl (by unfold inR; omega) (by unfold inR; omega) (fun c1 => ?_) (fun c1 => ?_)
    · skip
      have ek : (I 3).toNat = k := by omega
      rw [ek] at K0 hj ⊢
      exact K0 hj
    · skip
      exfalso
      omega
  | succ n9 ih =>
    intro k hk hj K1 K0
    have hI := hsI
    have hA := hsA
    have hB := hsB
    unfold smI at hI
    unfold smA at hA
    unfold okB at hB
    refine g_iload_n C (n' := 26) 0 rfl dX3_settle_25 rfl rfl ?_
    refine g_aload_n C (n' := 27) 1 rfl dX3_settle_26 rfl rfl ?_
    refine g_get C (n' := 30) (Cn := RX3) (T := TX3) (N := 7) (ci := 2) (v := .int (iI (I 3))) ga_X3 0 rfl rfl 3 (by decide) kw_142 rfl rfl dX3_settle_27 rfl ?_
    have h_27 := hI 3
    refine g_icmp_ge C (n' := 33) 48 dX3_settle_30 (by decide) rfl (by unfold inR; omega) (by unfold inR; omega) (fun c1 => ?_) (fun c1 => ?_)
    · skip
      exfalso
      omega
    · skip
      refine g_aload_n C (n' := 34) 1 rfl dX3_settle_33 rfl rfl ?_
      refine g_cVv C (n' := 37) (v := .int (iI ((p_mat B ((I 3)).toNat ((I 3)).toNat ((p_S B (I 3).toNat (p_z (A 1) (I 3).toNat) k), 0)).2))) (c_X3_lowerOnce l D Y C.2.2.2.2.2.2.2.2.1 q I (sU A 1 (p_S B (I 3).toNat (p_z (A 1) (I 3).toNat) k)) B (108800 * ((k : Nat) : Int)) hsI (sm_putA hsA (p_S_sm hsB (by omega) (smA_R hsA 1) (by omega))) hsB hn (p_S_bd hsB (by omega) (fun j hj9 => if_pos hj9) k) (by omega)) 0 kw_469 kc_X3_lowerOnce (by decide +kernel) (pm0 _) 0 (ci := 2) rfl rfl rfl rfl ⟨Nat.le_of_ble_eq_true rfl, Nat.le_of_ble_eq_true rfl⟩ ⟨rfl, rfl⟩ ⟨Nat.le_of_ble_eq_true rfl, Nat.le_of_ble_eq_true rfl⟩ (Nat.le_of_ble_eq_true rfl) dX3_settle_34 rfl rfl (wPlan q Y I (sU A 1 (p_mat B ((I 3)).toNat ((I 3)).toNat ((p_S B (I 3).toNat (p_z (A 1) (I 3).toNat) k), 0)).1) B) (pm0' _) ?_
      have hfl : (p_mat B (I 3).toNat (I 3).toNat (p_S B (I 3).toNat (p_z (A 1) (I 3).toNat) k, 0)).2 = 0 ∨ (p_mat B (I 3).toNat (I 3).toNat (p_S B (I 3).toNat (p_z (A 1) (I 3).toNat) k, 0)).2 = 1 := (p_mat_r hsB _ (p_S_bd hsB (show (I 3).toNat ≤ 8 by omega) (S0 := p_z (A 1) (I 3).toNat) (fun j hj9 => if_pos hj9) k) _ (Nat.le_refl _)).2
      refine g_if_ne C (n' := 40) 42 dX3_settle_37 (by decide) rfl (by unfold inR; omega) (fun c2 => ?_) (fun c2 => ?_)
      · skip
        refine g_iinc C (n' := 45) 0 [(1, .int (iI (((k : Nat) : Int) + 1))), (0, .ref (q 99))] rfl dX3_settle_42 rfl (by decide) rfl ?_
        refine g_goto C 25 dX3_settle_45 (by decide) ?_
        rcases p_S_fl (B := B) (n := (I 3).toNat) (S0 := p_z (A 1) (I 3).toNat) k with ⟨q1, q2⟩ | ⟨q1, q2⟩
        · exfalso
          omega
        · skip
          refine g_lv (lv' := [(1, .int (iI ((k + 1 : Nat) : Int))), (0, .ref (q 99))]) [0, 1] rfl ?_
          refine ih (k + 1) (by omega) (fun j h9 => ?_) K1 K0
          by_cases e : j = k
          · rw [e]
            exact q2
          · exact hj j (by omega)
      · skip
        rcases p_S_fl (B := B) (n := (I 3).toNat) (S0 := p_z (A 1) (I 3).toNat) k with ⟨q1, q2⟩ | ⟨q1, q2⟩
        · exact K1 k (by omega) q2
        · exfalso
          omega
set_option maxRecDepth 100000 in
set_option maxHeartbeats 4000000 in
theorem c_X3_settle (l : Launch) (D : va_G) (Y : Nat → ClassId) {E : (Nat → Prop) → State → Heap → Prop} (hE : g_Stab E) (q : Nat → Nat) (I : Nat → Int) (A : Nat → Nat → Int) (B : Nat → Nat → Int) (hsI : smI I) (hsA : smA A) (hsB : okB B) (hn : 2 ≤ I 3 ∧ I 3 ≤ 8) : g_Ct l yX3_settle cX3_settle 2 (some FieldType.boolean) ({ frames := 1, cells := 0, slots := 0, locals := 24 } : Room) D (tysY Y) E [.ref (q 99)] (wPlan q Y I A B) 0 0 (fun r9 w9 => ∃ S : Nat → Int, w9 = wPlan q Y I (sU A 1 S) B ∧ smR S ∧ ((r9 = some (.int (iI 1)) ∧ bG (I 3).toNat (pEd (I 3).toNat B) S) ∨ (r9 = some (.int (iI 0)) ∧ ¬ ∃ z, bsol (pEd (I 3).toNat B) z))) := by
  refine g_ofG (own := RX3) hE (by decide) rfl (Nat.le_of_ble_eq_true rfl) [(0, .ref (q 99))] rfl ?_
  intro p9 e9 s9 m9 b9 t9 c9 A9 C hr hlk hnm
  have hI := hsI
  have hA := hsA
  have hB := hsB
  unfold smI at hI
  unfold smA at hA
  unfold okB at hB
  refine g_iconst C (n' := 1) dX3_settle_0 rfl ?_
  refine g_istore_n C (n' := 2) [(1, .int (iI 0)), (0, .ref (q 99))] dX3_settle_1 rfl rfl (by decide) rfl ?_
  refine g_wd (w' := (wPlan q Y I (sU A 1 (p_z (A 1) 0)) B)) (by rw [show p_z (A 1) 0 = A 1 from funext fun j => if_neg (by omega), sU_id]) ?_
  refine g_lv (lv' := [(1, .int (iI ((0 : Nat) : Int))), (0, .ref (q 99))]) [0, 1] rfl ?_
  refine lp_X3_se_z C q I A B hsI hsA hsB hn (I 3).toNat 0 (by omega) ?_
  refine g_iconst C (n' := 24) dX3_settle_23 rfl ?_
  refine g_istore_n C (n' := 25) [(1, .int (iI 0)), (0, .ref (q 99))] dX3_settle_24 rfl rfl (by decide) rfl ?_
  refine g_lv (lv' := [(1, .int (iI ((0 : Nat) : Int))), (0, .ref (q 99))]) [0, 1] rfl ?_
  refine lp_X3_se_r C q I A B hsI hsA hsB hn (I 3).toNat 0 (by omega) (fun j h9 => absurd h9 (Nat.not_lt_zero j)) (fun k hk he => ?_) (fun hj => ?_)
  · skip
    refine g_iconst C (n' := 41) dX3_settle_40 rfl ?_
    refine g_iret C hr hlk (nar_z (Or.inr rfl)) ⟨_, rfl, p_S_sm hsB (by omega) (smA_R hsA 1) (by omega), Or.inl ⟨rfl, ?_⟩⟩ dX3_settle_41
    have hz : ∀ j, j < (I 3).toNat → p_z (A 1) (I 3).toNat j = 0 := fun j h9 => if_pos h9
    rw [he]
    exact bRd_rest pEd_lt (p_S_rd hz) (fun a _ => by rw [he])
  · skip
    refine g_iconst C (n' := 49) dX3_settle_48 rfl ?_
    refine g_iret C hr hlk (nar_z (Or.inl rfl)) ⟨_, rfl, p_S_sm hsB (by omega) (smA_R hsA 1) (by omega), Or.inr ⟨rfl, fun hs => ?_⟩⟩ dX3_settle_49
    have hz : ∀ j, j < (I 3).toNat → p_z (A 1) (I 3).toNat j = 0 := fun j h9 => if_pos h9
    obtain ⟨a, ha, hne⟩ := hj ((I 3).toNat - 1) (by omega)
    exact hne (bRd_done pEd_lt (p_S_rd hz) (by omega) hs _ (by omega) a ha)
