/-! the buffer, the cycle: one answer -/
theorem bN_q {J J2 : Nat → Int} {N N2 : Nat → Nat → Int} (h : netQ J N J2 N2) (k : Nat) (n : Int) : netQ J (bN N k n) J2 (bN N2 k n) := by
  refine ⟨h.1, fun p hp => ?_⟩
  obtain ⟨e6, e7, e8, e9⟩ := h.2 p hp
  unfold bN
  rw [e6, e7, e8, e9]
  exact ⟨rfl, rfl, rfl, rfl⟩
theorem bf_u {J J2 : Nat → Int} {N N2 : Nat → Nat → Int} (hQ : netQ J N J2 N2) (hO : okN J N) {n : Int} : ∀ (k : Nat) (b l c m : Int), (k : Int) ≤ J 5 → bfIs J N n 1000 k b l → bfIs J2 N2 n 99999 k c m → b = c ∧ (l = m ∨ (l = 1000 ∧ m = 99999))
  | 0, b, l, c, m, _, ⟨h1, z, h2, h3⟩, ⟨k1, y, k2, k3⟩ => by
    rw [← lpIs_q hQ, ← hQ.1.2.2.2.1] at k2
    have e := lpIs_u (by have := hO.2.2.2.1; omega) h2 k2
    subst e
    refine ⟨by omega, ?_⟩
    rw [h3, k3]
    split
    · exact Or.inr ⟨rfl, rfl⟩
    · exact Or.inl rfl
  | k + 1, b, l, c, m, hk, ⟨b0, l0, h1, h2⟩, ⟨c0, m0, k1, k2⟩ => by
    obtain ⟨e1, e2⟩ := bf_u hQ hO k b0 l0 c0 m0 (by omega) h1 k1
    have e8 := (hQ.2 k (by omega)).2.2.1
    rw [← e8] at k2
    rcases h2 with ⟨h2, h3, h4⟩ | ⟨h2, z, h3, h4⟩ <;> rcases k2 with ⟨k2, k3, k4⟩ | ⟨k2, y, k3, k4⟩
    · exact ⟨by omega, by omega⟩
    · exact absurd k2 h2
    · exact absurd h2 k2
    · rw [← lpIs_q (bN_q hQ k n), ← hQ.1.2.2.2.1] at k3
      have e := lpIs_u (by have := hO.2.2.2.1; omega) h3 k3
      subst e
      have hr := lpIs_r h3 (by omega)
      rcases h4 with ⟨p1, p2, p3, p4⟩ | ⟨p1, p2, p3⟩ <;> rcases k4 with ⟨q1, q2, q3, q4⟩ | ⟨q1, q2, q3⟩ <;> omega
theorem bfM_u {J J2 : Nat → Int} {N N2 : Nat → Nat → Int} (hQ : netQ J N J2 N2) (hO : okN J N) {n y z : Int} (h : bfM J N 1000 n y) (k : bfM J2 N2 99999 n z) : y = z := by
  rcases h with ⟨h1, h2⟩ | ⟨h1, l, h2⟩ <;> rcases k with ⟨k1, k2⟩ | ⟨k1, m, k2⟩
  · omega
  · exact absurd k1 h1
  · exact absurd h1 k1
  · rw [← hQ.1.2.2.2.2.2] at k2
    exact (bf_u hQ hO _ _ _ _ _ (by have := hO.2.2.2.2.2.1; omega) h2 k2).1
/-! bounds as both lay them -/
def bdR (u v : Int) : Prop := (u = 1000000000 ∧ v = 99999) ∨ (u = v ∧ -1700 ≤ u ∧ u ≤ 10000)
def bdA (n : Nat) (B : Nat → Nat → Int) (M : Nat → Int) : Prop := ∀ a b : Nat, a < n → b < n → bdR (B a b) (M (8 * a + b))
theorem bdA_t {n : Nat} (hn : n ≤ 8) {B : Nat → Nat → Int} {M : Nat → Int} (h : bdA n B M) {a b : Nat} (ha : a < n) (hb : b < n) {x : Int} (hx : -1700 ≤ x ∧ x ≤ 10000) : bdA n (p_tight B a b x) (m_lo M (8 * a + b) x) := by
  intro i j hi hj
  have h0 := h a b ha hb
  have h1 := h i j hi hj
  unfold p_tight m_lo
  by_cases e : i = a
  · subst e
    rw [sU_s]
    by_cases e2 : j = b
    · subst e2
      rw [sU_s, sU_s]
      unfold bdR at *
      split <;> split <;> omega
    · rw [sU_n _ _ e2, sU_n _ _ (by omega)]
      exact h1
  · rw [sU_n _ _ e, sU_n _ _ (by omega)]
    exact h1
theorem bd_lay {J : Nat → Int} {N : Nat → Nat → Int} {I : Nat → Int} {A : Nat → Nat → Int} (hm : mNet J N I A) (hO : okN J N) (B : Nat → Nat → Int) : bdA (J 0).toNat (p_lay J N (J 4) 1 0 (J 3) B) (m_low I A) := by
  have hl := layR_1 hO (u := J 4) (g := 0) hO.2.2.2.2.1 (by omega)
  obtain ⟨h0, h1, h2, h3, h4, h5, h6⟩ := hO
  obtain ⟨e0, e1, e2, e3, e4, e5, e6⟩ := hm
  have key : ∀ k : Nat, (k : Int) ≤ J 5 → bdA (J 0).toNat (p_lb J N (J 4) 1 0 (J 3) (p_ini B (J 0).toNat (J 0).toNat 0) k) (m_ly (m_lt I A (A 0 0) 0) (m_so I A 0) (A 3) (A 4) (m_much (A 32)) k) := by
    intro k
    induction k with
    | zero =>
      intro _ a b ha hb
      left
      refine ⟨?_, ?_⟩
      · show (if (a < (J 0).toNat ∧ b < (J 0).toNat) ∨ (a = (J 0).toNat ∧ b < 0) then 1000000000 else B a b) = 1000000000
        exact if_pos (Or.inl ⟨ha, hb⟩)
      · show (if 8 * a + b < 64 then (99999 : Int) else A 32 (8 * a + b)) = 99999
        exact if_pos (by omega)
    | succ k ih =>
      intro hk
      have hp := h6 k (by omega)
      have hlk := hl k (by omega)
      obtain ⟨f6, f7, f8, f9⟩ := e6 k (by rw [← e5]; omega)
      have i1 : (8 * A 3 k + A 4 k).toNat = 8 * (N 6 k).toNat + (N 7 k).toNat := by rw [← f6, ← f7]; omega
      have i2 : (8 * A 4 k + A 3 k).toNat = 8 * (N 7 k).toNat + (N 6 k).toNat := by rw [← f6, ← f7]; omega
      have v1 : m_lt I A (A 0 0) 0 k = p_late J N (J 4) 1 0 k / J 3 := by
        unfold m_lt p_late
        rw [← f8, ← e1, ← e3, ← e4]
        congr 1
        omega
      have v2 : m_so I A 0 k = p_soon J N 1 0 k / J 3 := by
        unfold m_so p_soon
        rw [← f9, ← e2, ← e3]
        congr 1
        omega
      rw [p_lb, m_ly, i1, i2, v1, v2]
      exact bdA_t (by omega) (bdA_t (by omega) (ih (by omega)) (by omega) (by omega) (ed_r hlk.1 h3.1)) (by omega) (by omega) (ed_r hlk.2 h3.1)
  unfold p_lay m_low
  have := key (J 5).toNat (by omega)
  rw [show (I 2).toNat = (J 5).toNat by rw [e5]]
  exact this
theorem es_rel {n : Nat} {B : Nat → Nat → Int} {M : Nat → Int} (h : bdA n B M) : ∀ r : List Int, (∀ x ∈ r, 0 ≤ x ∧ x < (n : Int)) → ((rg_ok B r = true ∧ rg_es B r = rg_es (fun i j => M (8 * i + j)) r) ∧ -1700 * (r.length : Int) ≤ rg_es (fun i j => M (8 * i + j)) r) ∨ (rg_ok B r = false ∧ 99999 - 1700 * (r.length : Int) ≤ rg_es (fun i j => M (8 * i + j)) r)
  | [], _ => Or.inl ⟨⟨rfl, rfl⟩, by simp [rg_es]⟩
  | [a], _ => Or.inl ⟨⟨rfl, rfl⟩, by simp [rg_es]⟩
  | a :: b :: t, hr => by
    have ha := hr a (by simp)
    have hb := hr b (by simp)
    have hab := h a.toNat b.toNat (by omega) (by omega)
    have ih := es_rel h (b :: t) (fun x hx => hr x (List.mem_cons_of_mem _ hx))
    have l1 : ((a :: b :: t).length : Int) = ((b :: t).length : Int) + 1 := by simp
    rw [l1]
    simp only [rg_ok, rg_es]
    generalize rg_es (fun i j => M (8 * i + j)) (b :: t) = x at *
    generalize rg_es B (b :: t) = y at *
    generalize ((b :: t).length : Int) = z at *
    generalize B a.toNat b.toNat = u at *
    generalize M (8 * a.toNat + b.toNat) = v at *
    rcases hab with ⟨rfl, rfl⟩ | ⟨rfl, h1, h2⟩
    · right
      refine ⟨by simp, ?_⟩
      rcases ih with ⟨-, h3⟩ | ⟨-, h3⟩ <;> omega
    · rcases ih with ⟨⟨h3, h4⟩, h5⟩ | ⟨h3, h4⟩
      · left
        refine ⟨⟨?_, by omega⟩, by omega⟩
        rw [h3]
        simp
        omega
      · right
        refine ⟨by rw [h3]; simp, by omega⟩
theorem rg_bm {n : Nat} {B : Nat → Nat → Int} {M : Nat → Int} (h : bdA n B M) {r : List Int} (hr : ∀ x ∈ r, 0 ≤ x ∧ x < (n : Int)) (h0 : 0 < r.length) (h8 : r.length ≤ 8) : rg_b B r = rg_m M r := by
  have hl := hr _ (rg_l_mem h0)
  have hf := hr _ (rg_f_mem h0)
  have hc := h (rg_l r).toNat (rg_f r).toNat (by omega) (by omega)
  unfold rg_b rg_m
  rcases es_rel h r hr with ⟨⟨h1, h2⟩, h3⟩ | ⟨h1, h2⟩
  · rw [h1, h2, Bool.true_and]
    rcases hc with ⟨e1, e2⟩ | ⟨e1, e2, e3⟩
    · rw [e1, e2]
      have : ¬ rg_es (fun i j => M (8 * i + j)) r + 99999 < 0 := by omega
      simp
      omega
    · rw [← e1]
      have : B (rg_l r).toNat (rg_f r).toNat ≠ 1000000000 := by omega
      simp [this]
  · rw [h1, Bool.false_and]
    have : ¬ rg_es (fun i j => M (8 * i + j)) r + M (8 * (rg_l r).toNat + (rg_f r).toNat) < 0 := by
      rcases hc with ⟨e1, e2⟩ | ⟨e1, e2, e3⟩ <;> omega
    simp [this]
theorem rg_loop_q {g h : List Int → Option (List Int)} {r : List Int} {n : Int} (e : ∀ j : Int, 0 ≤ j → j < n → g (r ++ [j]) = h (r ++ [j])) : ∀ (c : Nat) (j : Int), 0 ≤ j → j + c ≤ n → rg_loop g r c j = rg_loop h r c j
  | 0, _, _, _ => rfl
  | c + 1, j, h0, h1 => by
    rw [rg_loop, rg_loop, e j h0 (by omega), rg_loop_q e c (j + 1) (by omega) (by omega)]
theorem rg_fr_q {P Q : List Int → Bool} {n : Int} (e : ∀ r : List Int, (∀ x ∈ r, 0 ≤ x ∧ x < n) → 0 < r.length → r.length ≤ 8 → P r = Q r) : ∀ (f : Nat) (r : List Int), (∀ x ∈ r, 0 ≤ x ∧ x < n) → 0 < r.length → r.length + f ≤ 8 → rg_fr P n f r = rg_fr Q n f r
  | 0, r, h1, h2, h3 => by rw [rg_fr, rg_fr, e r h1 h2 h3]
  | f + 1, r, h1, h2, h3 => by
    have hf := h1 _ (rg_f_mem h2)
    rw [rg_fr, rg_fr, e r h1 h2 (by omega)]
    rw [rg_loop_q (n := n) (fun j hj0 hj1 => rg_fr_q e f (r ++ [j]) (fun x hx => by
      rcases List.mem_append.mp hx with q | q
      · exact h1 x q
      · rw [List.mem_singleton.mp q]
        exact ⟨hj0, hj1⟩) (by simp) (by simp; omega)) _ _ (by omega) (by omega)]
theorem rg_top_q {P Q : List Int → Bool} {n : Int} (e : ∀ r : List Int, (∀ x ∈ r, 0 ≤ x ∧ x < n) → 0 < r.length → r.length ≤ 8 → P r = Q r) : ∀ (c : Nat) (j : Int), 0 ≤ j → j + c ≤ n → rg_top P n c j = rg_top Q n c j
  | 0, _, _, _ => rfl
  | c + 1, j, h0, h1 => by
    rw [rg_top, rg_top, rg_fr_q e 7 [j] (fun x hx => by rw [List.mem_singleton.mp hx]; omega) (by simp) (by simp), rg_top_q e c (j + 1) (by omega) (by omega)]
theorem cy_u {J : Nat → Int} {N B : Nat → Nat → Int} {I : Nat → Int} {A : Nat → Nat → Int} (hm : mNet J N I A) (hO : okN J N) {k y z : Int} (h : cyP J N B k y) (c : cyIs I A k z) : y = z := by
  have hQ := net_q hm
  have hb := bd_lay hm hO B
  unfold cyIs at c
  rw [← feas_q hQ, ← hm.1, ← hm.2.2.2.1, ← hm.2.2.2.2.1] at c
  have e : rg_top (rg_b (p_lay J N (J 4) 1 0 (J 3) B)) (J 0) (J 0).toNat 0 = rg_top (rg_m (m_low I A)) (J 0) (J 0).toNat 0 := by
    have h0 := hO.1
    exact rg_top_q (fun r h1 h2 h3 => rg_bm hb (fun x hx => by have := h1 x hx; omega) h2 h3) _ _ (by omega) (by omega)
  unfold cyP at h
  rw [e] at h
  rcases h with ⟨h1, h2⟩ | ⟨h1, h2⟩ <;> rcases c with ⟨k1, k2⟩ | ⟨k1, k2⟩
  · omega
  · omega
  · omega
  · rcases h2 with ⟨h2, h3⟩ | ⟨h2, h3⟩ <;> rcases k2 with ⟨k2, k3⟩ | ⟨k2, k3⟩
    · omega
    · exact absurd h2 k2
    · exact absurd k2 h2
    · rw [h3, k3]
