/-! rows of registers in their order: the next one, and what is found from one on -/
def rg_nx (r : List Int) : Nat → Int → Int
  | 0, _ => -1
  | c + 1, j => if j ∈ r ∨ j < rg_f r then rg_nx r c (j + 1) else j
def rg_pop (n : Int) : Nat → List Int → List Int
  | 0, _ => []
  | c + 1, r => if 1 < r.length then (if rg_nx r.dropLast (n - (rg_l r + 1)).toNat (rg_l r + 1) = -1 then rg_pop n c r.dropLast else r.dropLast ++ [rg_nx r.dropLast (n - (rg_l r + 1)).toNat (rg_l r + 1)]) else if rg_f r + 1 < n then [rg_f r + 1] else []
def rg_next (n : Int) (r : List Int) : List Int := if rg_nx r n.toNat 0 = -1 then rg_pop n r.length r else r ++ [rg_nx r n.toNat 0]
def rg_or (a b : Option (List Int)) : Option (List Int) := match a with
  | some x => some x
  | none => b
def rg_up (P : List Int → Bool) (n : Int) : Nat → List Int → Option (List Int)
  | 0, _ => none
  | c + 1, r => if 1 < r.length then rg_or (rg_loop (rg_fr P n (8 - r.length)) r.dropLast (n - (rg_l r + 1)).toNat (rg_l r + 1)) (rg_up P n c r.dropLast) else rg_top P n (n - (rg_f r + 1)).toNat (rg_f r + 1)
def rg_W (P : List Int → Bool) (n : Int) (r : List Int) : Option (List Int) := rg_or (rg_fr P n (8 - r.length) r) (rg_up P n r.length r)
def rg_G (n : Int) (r : List Int) : Prop := 0 < r.length ∧ r.length ≤ 8 ∧ r.Nodup ∧ (∀ x ∈ r, 0 ≤ x ∧ x < n) ∧ ∀ x ∈ r, rg_f r ≤ x
theorem rg_nx_r {r : List Int} {n : Int} : ∀ (c : Nat) (j : Int), j + c = n → rg_nx r c j = -1 ∨ ((j ≤ rg_nx r c j ∧ rg_nx r c j < n) ∧ rg_nx r c j ∉ r ∧ rg_f r ≤ rg_nx r c j)
  | 0, _, _ => Or.inl rfl
  | c + 1, j, h => by
    rw [rg_nx]
    split
    · rcases rg_nx_r (r := r) (n := n) c (j + 1) (by omega) with e | e
      · exact Or.inl e
      · exact Or.inr ⟨by omega, e.2⟩
    · next q => exact Or.inr ⟨by omega, fun z => q (Or.inl z), by
        have : ¬ j < rg_f r := fun z => q (Or.inr z)
        omega⟩
theorem rg_nx_skip {r : List Int} (h : ∀ j, 0 ≤ j → j ≤ rg_f r → j ∈ r ∨ j < rg_f r) : ∀ (m c : Nat) (j : Int), 0 ≤ j → j + m = rg_f r + 1 → rg_nx r (m + c) j = rg_nx r c (rg_f r + 1)
  | 0, c, j, _, e => by
    rw [show j = rg_f r + 1 by omega, Nat.zero_add]
  | m + 1, c, j, h0, e => by
    rw [show m + 1 + c = (m + c) + 1 by omega, rg_nx, if_pos (h j h0 (by omega))]
    exact rg_nx_skip h m c (j + 1) (by omega) (by omega)
theorem rg_nx_0 {n : Int} {r : List Int} (G : rg_G n r) : rg_nx r n.toNat 0 = rg_nx r (n - (rg_f r + 1)).toNat (rg_f r + 1) := by
  have h1 := G.2.2.2.1 _ (rg_f_mem G.1)
  have h2 := rg_nx_skip (r := r) (fun j h0 hj => by
    by_cases e : j = rg_f r
    · exact Or.inl (e ▸ rg_f_mem G.1)
    · exact Or.inr (by omega)) (rg_f r + 1).toNat (n - (rg_f r + 1)).toNat 0 (by omega) (by omega)
  rw [← h2]
  congr 1
  omega
theorem rg_dl {r : List Int} (h : 0 < r.length) : r.dropLast ++ [rg_l r] = r := by
  have h1 : r ≠ [] := by
    intro e
    rw [e] at h
    exact absurd h (by decide)
  have h2 : rg_l r = r.getLast h1 := by
    unfold rg_l
    rw [List.getLastD_eq_getLast?, List.getLast?_eq_some_getLast h1]
    rfl
  rw [h2]
  exact List.dropLast_concat_getLast h1
theorem rg_dl_f {r : List Int} (h : 1 < r.length) : rg_f r.dropLast = rg_f r := by
  match r, h with
  | a :: b :: t, _ => rfl
theorem rg_dl_a (r : List Int) (k : Int) : (r ++ [k]).dropLast = r := List.dropLast_concat
theorem rg_G_dl {n : Int} {r : List Int} (G : rg_G n r) (h : 1 < r.length) : rg_G n r.dropLast :=
  ⟨by rw [List.length_dropLast]; omega, by rw [List.length_dropLast]; have := G.2.1; omega, G.2.2.1.sublist (List.dropLast_sublist r), fun x hx => G.2.2.2.1 x (List.dropLast_subset r hx), fun x hx => by rw [rg_dl_f h]; exact G.2.2.2.2 x (List.dropLast_subset r hx)⟩
theorem rg_G_app {n : Int} {r : List Int} (G : rg_G n r) (h8 : n ≤ 8) {k : Int} (hk : 0 ≤ k ∧ k < n) (hn : k ∉ r) (hf : rg_f r ≤ k) : rg_G n (r ++ [k]) := by
  refine ⟨?_, ?_, ?_, ?_, ?_⟩
  · rw [List.length_append]; have := G.1; omega
  · rw [List.length_append]
    refine Classical.byContradiction fun q => hn ?_
    have := G.2.1
    have e1 : ([k] : List Int).length = 1 := rfl
    exact rg_full G.2.2.1 G.2.2.2.1 (by omega) hk
  · exact ring_nd G.2.2.1 hn
  · exact ring_in G.2.2.2.1 hk.1 hk.2
  · intro x hx
    have h0 : r ≠ [] := by
      intro e
      have := G.1
      rw [e] at this
      exact absurd this (by decide)
    rw [rg_f_app h0]
    rcases List.mem_append.mp hx with z | z
    · exact G.2.2.2.2 x z
    · rw [List.mem_singleton.mp z]; exact hf
theorem rg_G_one {n k : Int} (hk : 0 ≤ k ∧ k < n) : rg_G n [k] :=
  ⟨by simp, by simp, by simp, fun x hx => by rw [List.mem_singleton.mp hx]; exact hk, fun x hx => by rw [List.mem_singleton.mp hx]; exact Int.le_refl _⟩
theorem rg_G_pop {n : Int} (h8 : n ≤ 8) : ∀ (c : Nat) (r : List Int), rg_G n r → rg_pop n c r = [] ∨ rg_G n (rg_pop n c r)
  | 0, _, _ => Or.inl rfl
  | c + 1, r, G => by
    rw [rg_pop]
    split
    · next h =>
      have hl := G.2.2.2.1 _ (rg_l_mem G.1)
      split
      · exact rg_G_pop h8 c _ (rg_G_dl G h)
      · next q =>
        rcases rg_nx_r (r := r.dropLast) (n := n) (n - (rg_l r + 1)).toNat (rg_l r + 1) (by omega) with e | e
        · exact absurd e q
        · exact Or.inr (rg_G_app (rg_G_dl G h) h8 (by omega) e.2.1 e.2.2)
    · have hl := G.2.2.2.1 _ (rg_f_mem G.1)
      split
      · exact Or.inr (rg_G_one (by omega))
      · exact Or.inl rfl
theorem rg_G_next {n : Int} (h8 : n ≤ 8) (h0 : 0 ≤ n) {r : List Int} (G : rg_G n r) : rg_next n r = [] ∨ rg_G n (rg_next n r) := by
  unfold rg_next
  split
  · exact rg_G_pop h8 _ _ G
  · next q =>
    rcases rg_nx_r (r := r) (n := n) n.toNat 0 (by omega) with e | e
    · exact absurd e q
    · exact Or.inr (rg_G_app G h8 (by omega) e.2.1 e.2.2)
/-- the search among those that follow r, from j on -/
def rg_L (P : List Int → Bool) (n : Int) (r : List Int) (j : Int) : Option (List Int) := rg_or (rg_loop (rg_fr P n (7 - r.length)) r (n - j).toNat j) (rg_up P n r.length r)
theorem rg_or_or (a b c : Option (List Int)) : rg_or (rg_or a b) c = rg_or a (rg_or b c) := by cases a <;> rfl
theorem rg_up_app {P : List Int → Bool} {n : Int} {r : List Int} (hp : 0 < r.length) (k : Int) : rg_up P n (r ++ [k]).length (r ++ [k]) = rg_L P n r (k + 1) := by
  have e1 : (r ++ [k]).length = r.length + 1 := by rw [List.length_append]; rfl
  rw [e1, rg_up, e1, if_pos (by omega), rg_dl_a, rg_l_app]
  unfold rg_L
  rw [show 8 - (r.length + 1) = 7 - r.length by omega]
theorem rg_L_nx {P : List Int → Bool} {n : Int} {r : List Int} (G : rg_G n r) : ∀ (c : Nat) (j : Int), c = (n - j).toNat → rg_f r < j → j ≤ n → rg_L P n r j = if rg_nx r c j = -1 then rg_up P n r.length r else rg_W P n (r ++ [rg_nx r c j])
  | 0, j, h, _, _ => by
    unfold rg_L
    rw [← h]
    rfl
  | c + 1, j, h, hf, hj => by
    have e1 : (n - j).toNat = (n - (j + 1)).toNat + 1 := by omega
    have h0 := G.2.2.2.1 _ (rg_f_mem G.1)
    unfold rg_L
    rw [e1, rg_loop, rg_nx]
    by_cases q : j ∈ r
    · rw [if_pos q, if_pos (Or.inl q)]
      exact rg_L_nx G c (j + 1) (by omega) (by omega) (by omega)
    · rw [if_neg q, if_neg (show ¬ (j ∈ r ∨ j < rg_f r) from fun z => z.elim q (fun y => by omega)), if_neg (show ¬ j = -1 by omega)]
      unfold rg_W
      rw [rg_up_app G.1 j, show 8 - (r ++ [j]).length = 7 - r.length by rw [List.length_append, show ([j] : List Int).length = 1 from rfl]; omega]
      unfold rg_L
      cases rg_fr P n (7 - r.length) (r ++ [j]) <;> rfl
theorem rg_W_hit {P : List Int → Bool} {n : Int} {r : List Int} (h : P r = true) : rg_W P n r = some r := by
  unfold rg_W
  cases 8 - r.length <;> rw [rg_fr, if_pos h] <;> rfl
theorem rg_W_miss {P : List Int → Bool} {n : Int} (h8 : n ≤ 8) {r : List Int} (G : rg_G n r) (h : ¬ P r = true) : rg_W P n r = rg_L P n r (rg_f r + 1) := by
  have h0 := G.2.2.2.1 _ (rg_f_mem G.1)
  have hl := G.2.1
  unfold rg_W rg_L
  by_cases e : r.length = 8
  · rw [e, show 8 - 8 = 0 from rfl, rg_fr, if_neg h, rg_loop_full (n := n) (fun j h0 h1 => rg_full G.2.2.1 G.2.2.2.1 (by omega) ⟨h0, h1⟩) _ _ (by omega) (by omega)]
  · rw [show 8 - r.length = (7 - r.length) + 1 by omega, rg_fr, if_neg h]
theorem rg_W_pop {P : List Int → Bool} {n : Int} : ∀ (r : List Int) (c : Nat), c = r.length → rg_G n r → rg_up P n c r = if rg_pop n c r = [] then none else rg_W P n (rg_pop n c r)
  | r, 0, _, _ => rfl
  | r, c + 1, hc, G => by
    rw [rg_up, rg_pop]
    have hl := G.2.2.2.1 _ (rg_l_mem G.1)
    have hf := G.2.2.2.1 _ (rg_f_mem G.1)
    by_cases h : 1 < r.length
    · rw [if_pos h, if_pos h]
      have e1 : r.dropLast.length = c := by rw [List.length_dropLast]; omega
      have h2 := rg_L_nx (P := P) (rg_G_dl G h) (n - (rg_l r + 1)).toNat (rg_l r + 1) rfl (by rw [rg_dl_f h]; have := G.2.2.2.2 _ (rg_l_mem G.1); omega) (by omega)
      have e2 : rg_or (rg_loop (rg_fr P n (8 - r.length)) r.dropLast (n - (rg_l r + 1)).toNat (rg_l r + 1)) (rg_up P n c r.dropLast) = rg_L P n r.dropLast (rg_l r + 1) := by
        unfold rg_L
        rw [e1, show 8 - r.length = 7 - c by omega]
      rw [e2, h2, e1]
      by_cases q : rg_nx r.dropLast (n - (rg_l r + 1)).toNat (rg_l r + 1) = -1
      · rw [if_pos q, if_pos q]
        exact rg_W_pop r.dropLast c e1.symm (rg_G_dl G h)
      · rw [if_neg q, if_neg q, if_neg (by simp)]
    · rw [if_neg h, if_neg h]
      by_cases q : rg_f r + 1 < n
      · rw [if_pos q, if_neg (by simp), show (n - (rg_f r + 1)).toNat = (n - (rg_f r + 1 + 1)).toNat + 1 by omega, rg_top]
        unfold rg_W
        rw [show ([rg_f r + 1] : List Int).length = 1 from rfl, rg_up, if_neg (by simp)]
        show _ = rg_or (rg_fr P n 7 [rg_f r + 1]) (rg_top P n (n - (rg_f r + 1 + 1)).toNat (rg_f r + 1 + 1))
        cases rg_fr P n 7 [rg_f r + 1] <;> rfl
      · rw [if_neg q, if_pos rfl, show (n - (rg_f r + 1)).toNat = 0 by omega]
        rfl
theorem rg_W_next {P : List Int → Bool} {n : Int} (h8 : n ≤ 8) {r : List Int} (G : rg_G n r) (h : ¬ P r = true) : rg_W P n r = if rg_next n r = [] then none else rg_W P n (rg_next n r) := by
  have hf := G.2.2.2.1 _ (rg_f_mem G.1)
  rw [rg_W_miss h8 G h, rg_L_nx G _ _ rfl (by omega) (by omega)]
  unfold rg_next
  rw [rg_nx_0 G]
  split
  · exact rg_W_pop r _ rfl G
  · rw [if_neg (by simp)]
theorem rg_W_0 {P : List Int → Bool} {n : Int} (h : 1 ≤ n) : rg_top P n n.toNat 0 = rg_W P n [0] := by
  rw [show n.toNat = (n - 1).toNat + 1 by omega, rg_top]
  unfold rg_W
  show _ = rg_or (rg_fr P n 7 [0]) (rg_top P n (n - 1).toNat 1)
  cases rg_fr P n 7 [0] <;> rfl
/-- the number of a row: it grows -/
def rg_cd : Nat → List Int → Int
  | _, [] => 0
  | p, a :: t => (a + 1) * 9 ^ p + rg_cd (p - 1) t
theorem rg_cd_app (k : Int) : ∀ (p : Nat) (r : List Int), r.length ≤ p → rg_cd p (r ++ [k]) = rg_cd p r + (k + 1) * 9 ^ (p - r.length)
  | p, [], _ => by simp [rg_cd]
  | p, a :: t, h => by
    have e : (a :: t).length = t.length + 1 := rfl
    show (a + 1) * 9 ^ p + rg_cd (p - 1) (t ++ [k]) = (a + 1) * 9 ^ p + rg_cd (p - 1) t + (k + 1) * 9 ^ (p - (a :: t).length)
    rw [rg_cd_app k (p - 1) t (by omega), e, show p - (t.length + 1) = p - 1 - t.length by omega]
    omega
theorem rg_p9 (k : Nat) : (0 : Int) < 9 ^ k := Int.pow_pos (by decide)
theorem rg_cd_lt {n : Int} (h8 : n ≤ 8) : ∀ (p : Nat) (r : List Int), (∀ x ∈ r, 0 ≤ x ∧ x < n) → r.length ≤ p + 1 → 0 ≤ rg_cd p r ∧ rg_cd p r < 9 ^ (p + 1)
  | p, [], _, _ => ⟨Int.le_refl _, rg_p9 _⟩
  | p, a :: t, h, hl => by
    have h1 := h a List.mem_cons_self
    have hw := rg_p9 p
    have e1 : (9 : Int) ^ (p + 1) = 9 ^ p * 9 := Int.pow_succ 9 p
    have h2 : (a + 1) * 9 ^ p ≤ 8 * 9 ^ p := Int.mul_le_mul_of_nonneg_right (by omega) (by omega)
    have h3 : 0 ≤ (a + 1) * 9 ^ p := Int.mul_nonneg (by omega) (by omega)
    show 0 ≤ (a + 1) * 9 ^ p + rg_cd (p - 1) t ∧ (a + 1) * 9 ^ p + rg_cd (p - 1) t < 9 ^ (p + 1)
    rw [e1]
    cases p with
    | zero =>
      have : t = [] := by
        cases t with
        | nil => rfl
        | cons b u => simp at hl
      subst this
      simp only [rg_cd]
      omega
    | succ p =>
      have h4 := rg_cd_lt h8 p t (fun x hx => h x (List.mem_cons_of_mem a hx)) (by simpa using hl)
      rw [show p + 1 - 1 = p from rfl]
      omega
theorem rg_cd_pop {n : Int} (h8 : n ≤ 8) : ∀ (r : List Int) (c : Nat), c = r.length → rg_G n r → rg_pop n c r = [] ∨ rg_cd 7 r + 9 ^ (8 - r.length) ≤ rg_cd 7 (rg_pop n c r)
  | r, 0, _, _ => Or.inl rfl
  | r, c + 1, hc, G => by
    rw [rg_pop]
    have hl := G.2.2.2.1 _ (rg_l_mem G.1)
    have hf := G.2.2.2.1 _ (rg_f_mem G.1)
    have h9 := G.2.1
    by_cases h : 1 < r.length
    · rw [if_pos h]
      have e1 : r.dropLast.length = c := by rw [List.length_dropLast]; omega
      have e2 : rg_cd 7 r = rg_cd 7 r.dropLast + (rg_l r + 1) * 9 ^ (7 - c) := by
        have := rg_cd_app (rg_l r) 7 r.dropLast (by omega)
        rw [rg_dl (by omega), e1] at this
        exact this
      have hw := rg_p9 (7 - c)
      rw [e2, show 8 - r.length = 7 - c by omega]
      by_cases q : rg_nx r.dropLast (n - (rg_l r + 1)).toNat (rg_l r + 1) = -1
      · rw [if_pos q]
        rcases rg_cd_pop h8 r.dropLast c e1.symm (rg_G_dl G h) with e | e
        · exact Or.inl e
        · refine Or.inr ?_
          rw [e1, show 8 - c = (7 - c) + 1 by omega, Int.pow_succ] at e
          have h2 : (rg_l r + 1) * 9 ^ (7 - c) ≤ 8 * 9 ^ (7 - c) := Int.mul_le_mul_of_nonneg_right (by omega) (by omega)
          omega
      · rw [if_neg q]
        rcases rg_nx_r (r := r.dropLast) (n := n) (n - (rg_l r + 1)).toNat (rg_l r + 1) (by omega) with e | e
        · exact absurd e q
        · refine Or.inr ?_
          rw [rg_cd_app _ 7 r.dropLast (by omega), e1]
          generalize rg_nx r.dropLast (n - (rg_l r + 1)).toNat (rg_l r + 1) = k at *
          have h2 : (rg_l r + 1 + 1) * 9 ^ (7 - c) ≤ (k + 1) * 9 ^ (7 - c) := Int.mul_le_mul_of_nonneg_right (by omega) (by omega)
          rw [Int.add_mul (rg_l r + 1) 1, Int.one_mul] at h2
          omega
    · rw [if_neg h]
      have e3 : r.length = 1 := by have := G.1; omega
      have e4 : r = [rg_f r] := by
        match r, e3 with
        | [a], _ => rfl
      by_cases q : rg_f r + 1 < n
      · rw [if_pos q]
        refine Or.inr ?_
        rw [e3]
        generalize rg_f r = a at e4
        subst e4
        show (a + 1) * 9 ^ 7 + 0 + 9 ^ 7 ≤ (a + 1 + 1) * 9 ^ 7 + 0
        omega
      · rw [if_neg q]
        exact Or.inl rfl
theorem rg_cd_next {n : Int} (h8 : n ≤ 8) (h0 : 0 ≤ n) {r : List Int} (G : rg_G n r) : rg_next n r = [] ∨ rg_cd 7 r + 1 ≤ rg_cd 7 (rg_next n r) := by
  unfold rg_next
  split
  · rcases rg_cd_pop h8 r _ rfl G with e | e
    · exact Or.inl e
    · have := rg_p9 (8 - r.length)
      exact Or.inr (by omega)
  · next q =>
    rcases rg_nx_r (r := r) (n := n) n.toNat 0 (by omega) with e | e
    · exact absurd e q
    · have h1 := (rg_G_app G h8 (by omega) e.2.1 e.2.2).2.1
      rw [List.length_append] at h1
      have e1 : ([rg_nx r n.toNat 0] : List Int).length = 1 := rfl
      refine Or.inr ?_
      rw [rg_cd_app _ 7 r (by omega)]
      have hw := rg_p9 (7 - r.length)
      generalize rg_nx r n.toNat 0 = k at *
      have h2 : (1 : Int) * 9 ^ (7 - r.length) ≤ (k + 1) * 9 ^ (7 - r.length) := Int.mul_le_mul_of_nonneg_right (by omega) (by omega)
      omega
theorem rg_cd_8 {n : Int} (h8 : n ≤ 8) {r : List Int} (G : rg_G n r) : 0 ≤ rg_cd 7 r ∧ rg_cd 7 r < 43046721 := rg_cd_lt h8 7 r G.2.2.2.1 G.2.1
