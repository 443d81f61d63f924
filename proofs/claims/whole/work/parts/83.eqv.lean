/-! what is foretold: one answer for nets that agree -/
theorem net_q {J : Nat → Int} {N : Nat → Nat → Int} {I : Nat → Int} {A : Nat → Nat → Int} (h : mNet J N I A) : netQ J N (mJ I A) (mN A) := by
  obtain ⟨e0, e1, e2, e3, e4, e5, e6⟩ := h
  exact ⟨⟨e0, e1, e2, e3, e4, e5⟩, fun p hp => e6 p (by rw [← e5]; exact hp)⟩
theorem feIs_q {J J2 : Nat → Int} {N N2 : Nat → Nat → Int} (h : netQ J N J2 N2) {z : Int} (k : feIs J2 N2 z) : feIs J N z := by
  unfold feIs at *
  rw [feas_q h, h.1.2.2.2.2.1, h.1.2.2.2.1]
  exact k
theorem feIs_u {J : Nat → Int} {N : Nat → Nat → Int} {y z : Int} (h : feIs J N y) (k : feIs J N z) : y = z := by
  rcases h with ⟨h1, h2⟩ | ⟨h1, h2⟩ <;> rcases k with ⟨k1, k2⟩ | ⟨k1, k2⟩
  · omega
  · exact absurd h2 k2
  · exact absurd k2 h2
  · omega
theorem shIs_q {J J2 : Nat → Int} {N N2 : Nat → Nat → Int} (h : netQ J N J2 N2) {x z : Int} (k : shIs J2 N2 x z) : shIs J N x z := by
  unfold shIs at *
  simp only [nEd_q h, feas_q h, h.1.1, h.1.2.2.2.2.1, h.1.2.2.2.1]
  exact k
theorem shIs_u {J : Nat → Int} {N : Nat → Nat → Int} {x y z : Int} (h : shIs J N x y) (k : shIs J N x z) : y = z := by
  rcases h with ⟨h1, h2⟩ | ⟨h1, h2⟩ <;> rcases k with ⟨k1, k2⟩ | ⟨k1, k2⟩
  · omega
  · exact absurd k1 h1
  · exact absurd h1 k1
  · rcases h2 with ⟨h2, h3⟩ | ⟨S, h2, h3⟩ <;> rcases k2 with ⟨k2, k3⟩ | ⟨T, k2, k3⟩
    · omega
    · exact absurd (feas_of k2) h2
    · exact absurd (feas_of h2) k2
    · rw [h3, k3, bG_one h2 k2 x.toNat (by omega)]
theorem lpIs_u {J : Nat → Int} {N : Nat → Nat → Int} {v t M y z : Int} (ht : 1 ≤ t) (h : lpIs J N v t M y) (k : lpIs J N v t M z) : y = z := lpIs_one (lpIs_M ht) h k
theorem mgIs_q {J J2 : Nat → Int} {N N2 : Nat → Nat → Int} (h : netQ J N J2 N2) {z : Int} (k : mgIs J2 N2 z) : mgIs J N z := by
  unfold mgIs at *
  simp only [feas_q h, h.1.2.2.2.2.1, h.1.2.2.2.1]
  exact k
theorem spIs_q {J J2 : Nat → Int} {N N2 : Nat → Nat → Int} (h : netQ J N J2 N2) {x w z : Int} (k : spIs J2 N2 x w z) : spIs J N x w z := by
  unfold spIs at *
  have e := h.1
  rw [← e.2.2.2.2.2] at k
  rcases k with k | ⟨k1, k2⟩
  · exact Or.inl k
  · refine Or.inr ⟨k1, ?_⟩
    rcases k2 with k2 | ⟨k2, k3⟩
    · exact Or.inl k2
    · refine Or.inr ⟨k2, ?_⟩
      obtain ⟨e6, e7, e8, e9⟩ := h.2 x.toNat (by omega)
      rw [← e.1, ← e.2.1, ← e.2.2.1, ← e.2.2.2.1, ← e.2.2.2.2.1, ← nEd_q h, ← feas_q h, ← e6, ← e7, ← e8, ← e9] at k3
      exact k3
theorem spIs_u {J : Nat → Int} {N : Nat → Nat → Int} (hO : okN J N) {x w y z : Int} (h : spIs J N x w y) (k : spIs J N x w z) : y = z := by
  rcases h with ⟨h1, h2⟩ | ⟨h1, h2⟩ <;> rcases k with ⟨k1, k2⟩ | ⟨k1, k2⟩
  · omega
  · exact absurd k1 h1
  · exact absurd h1 k1
  · rcases h2 with ⟨h2, h3⟩ | ⟨h2, h3⟩ <;> rcases k2 with ⟨k2, k3⟩ | ⟨k2, k3⟩
    · omega
    · exact absurd k2 h2
    · exact absurd h2 k2
    · rcases h3 with ⟨h3, h4⟩ | ⟨S, h3, h4⟩ <;> rcases k3 with ⟨k3, k4⟩ | ⟨T, k3, k4⟩
      · omega
      · exact absurd (feas_of k3) h3
      · exact absurd (feas_of h3) k3
      · have hp := hO.2.2.2.2.2.2 x.toNat (by omega)
        rw [h4, k4, bG_one h3 k3 (N 6 x.toNat).toNat (by omega), bG_one h3 k3 (N 7 x.toNat).toNat (by omega)]
/-! the rate -/
theorem b_gap {n : Nat} {Ed : Nat → Nat → Int → Prop} (hE : ∀ a b c, Ed a b c → (a < n ∧ b < n) ∧ -9 ≤ c) {g : Nat → Int} (hg : bG n Ed g) {a : Nat} (ha : a < n) (h0 : g a < 0) : ∃ b, b < n ∧ g a < g b ∧ g b ≤ g a + 9 := by
  by_cases q : ∃ b, b < n ∧ g a < g b ∧ g b ≤ g a + 9
  · exact q
  exfalso
  have no : ∀ b, b < n → g a < g b → g a + 9 < g b := fun b hb h1 => by
    by_cases e : g b ≤ g a + 9
    · exact absurd ⟨b, hb, h1, e⟩ q
    · omega
  have u := hg.2.2 (fun x => if g x ≤ g a then g x + 1 else g x) (fun x y c hc => by
    have h1 := hg.1 x y c hc
    have h2 := hE x y c hc
    have h3 := no y h2.1.2
    show (if g x ≤ g a then g x + 1 else g x) ≤ (if g y ≤ g a then g y + 1 else g y) + c
    split <;> split <;> omega) (fun x hx => by
    have h1 := hg.2.1 x hx
    show (if g x ≤ g a then g x + 1 else g x) ≤ 0
    split <;> omega) a ha
  have u4 : (if g a ≤ g a then g a + 1 else g a) ≤ g a := u
  rw [if_pos (Int.le_refl _)] at u4
  omega
theorem b_low {n : Nat} {Ed : Nat → Nat → Int → Prop} (hE : ∀ a b c, Ed a b c → (a < n ∧ b < n) ∧ -9 ≤ c) {g : Nat → Int} (hg : bG n Ed g) : ∀ (m a : Nat), a < n → bc (fun b => decide (g a < g b)) n ≤ m → -9 * (m : Int) ≤ g a
  | m, a, ha, hm => by
    by_cases h0 : g a < 0
    · obtain ⟨b, hb, h1, h2⟩ := b_gap hE hg ha h0
      have h3 : bc (fun x => decide (g b < g x)) n < bc (fun x => decide (g a < g x)) n := bc_lt (fun k _ q => by
        simp at q ⊢
        omega) ⟨b, hb, by simpa using h1, by simp⟩
      cases m with
      | zero => omega
      | succ m =>
        have := b_low hE hg m b hb (by omega)
        omega
    · omega
theorem feas_999 {J : Nat → Int} {N : Nat → Nat → Int} (hO : okN J N) {u : Int} (h : feas J N u 1 0 1) : feas J N 999 1 0 1 := by
  obtain ⟨h0, h1, h2, h3, h4, h5, h6⟩ := hO
  obtain ⟨s, hs⟩ := h
  obtain ⟨g, hg⟩ := b_has (n := (J 0).toNat) (Ed := fun a b c => ∃ p : Nat, (p : Int) < J 5 ∧ a = (N 7 p).toNat ∧ b = (N 6 p).toNat ∧ c = p_soon J N 1 0 p / 1) ⟨s, fun a b c ⟨p, hp, q⟩ => hs a b c ⟨p, hp, Or.inr q⟩⟩
  have hE : ∀ a b c, (∃ p : Nat, (p : Int) < J 5 ∧ a = (N 7 p).toNat ∧ b = (N 6 p).toNat ∧ c = p_soon J N 1 0 p / 1) → (a < (J 0).toNat ∧ b < (J 0).toNat) ∧ -9 ≤ c := by
    rintro a b c ⟨p, hp, rfl, rfl, rfl⟩
    have k := h6 p hp
    unfold p_soon
    omega
  have lo : ∀ a, a < (J 0).toNat → -72 ≤ g a := fun a ha => by
    have k1 := bc_le (fun b => decide (g a < g b)) (J 0).toNat
    have k2 := b_low hE hg 8 a ha (by omega)
    omega
  refine ⟨g, fun a b c ⟨p, hp, q⟩ => ?_⟩
  rcases q with ⟨rfl, rfl, rfl⟩ | q
  · have k := h6 p hp
    have k1 := lo (N 7 p).toNat (by omega)
    have k2 := hg.2.1 (N 6 p).toNat (by omega)
    unfold p_late
    omega
  · exact hg.1 a b c ⟨p, hp, q⟩
theorem feas_div {J : Nat → Int} {N : Nat → Nat → Int} {u v d : Int} (hd : 1 ≤ d) (h : feas J N (d * u) (d * v) 0 1) : feas J N u v 0 1 := by
  obtain ⟨s, hs⟩ := h
  have key : ∀ x y c : Int, x ≤ y + d * c → x / d ≤ y / d + c := fun x y c h1 => by
    have h2 := ed_mono h1 hd
    rw [Int.add_mul_ediv_left _ _ (by omega)] at h2
    exact h2
  refine ⟨fun a => s a / d, fun a b c ⟨p, hp, q⟩ => ?_⟩
  rcases q with ⟨rfl, rfl, rfl⟩ | ⟨rfl, rfl, rfl⟩
  · refine key _ _ _ ?_
    have h1 := hs _ _ _ ⟨p, hp, Or.inl ⟨rfl, rfl, rfl⟩⟩
    have e : p_late J N (d * u) (d * v) 0 p = d * p_late J N u v 0 p := by
      unfold p_late
      rw [Int.mul_sub, Int.mul_assoc]
    rw [Int.ediv_one] at h1 ⊢
    rw [e] at h1
    exact h1
  · refine key _ _ _ ?_
    have h1 := hs _ _ _ ⟨p, hp, Or.inr ⟨rfl, rfl, rfl⟩⟩
    have e : p_soon J N (d * v) 0 p = d * p_soon J N v 0 p := by
      unfold p_soon
      rw [Int.mul_assoc]
    rw [Int.ediv_one] at h1 ⊢
    rw [e] at h1
    exact h1
/-- the least is the least, however far one looks -/
theorem lp_far {J : Nat → Int} {N : Nat → Nat → Int} {v z : Int} (hv : 1 ≤ v) (h : feas J N 999 1 0 1) : lpIs J N v 1 (4000 * v) z ↔ lpIs J N v 1 (999 * v) z := by
  have h1 := feas_sc hv h
  constructor
  · rintro (⟨k1, k2⟩ | ⟨k1, k2, k3, k4⟩)
    · exact absurd (feas_up (by omega) (by omega) h1) k2
    · refine Or.inr ⟨k1, ?_, k3, k4⟩
      by_cases e : z ≤ 999 * v
      · exact e
      · exact absurd h1 (k4 _ (by omega) (by omega))
  · rintro (⟨k1, k2⟩ | ⟨k1, k2, k3, k4⟩)
    · exact absurd h1 k2
    · exact Or.inr ⟨k1, by omega, k3, k4⟩
theorem rt_far {J : Nat → Int} {N : Nat → Nat → Int} {a b k : Int} (h : feas J N 999 1 0 1) (hq : rtQ J N 4000 a b k) : rtP J N a b k := by
  obtain ⟨⟨b1, b2⟩, ⟨b3, b6⟩, b4, b5⟩ := hq
  have k4 := (lp_far b1 h).mp b4
  exact ⟨⟨b1, b2⟩, ⟨b3, (lpIs_r k4 (by omega)).2⟩, k4, fun v z h1 h2 h3 => b5 v z h1 h2 ((lp_far h1 h).mpr h3)⟩
theorem rt_one {J : Nat → Int} {N : Nat → Nat → Int} {a b a2 b2 k : Int} (h : rtP J N a b k) (h2 : rtP J N a2 b2 k) : a = a2 ∧ b = b2 := by
  obtain ⟨⟨p1, p2⟩, p3, p4, p5⟩ := h
  obtain ⟨⟨q1, q2⟩, q3, q4, q5⟩ := h2
  have r1 := p5 b2 a2 q1 q2 q4
  have r2 := q5 b a p1 p2 p4
  have e : b = b2 := by
    rcases Int.lt_trichotomy b b2 with z | z | z
    · have := r2.2 z
      omega
    · exact z
    · have := r1.2 z
      omega
  subst e
  exact ⟨lpIs_u (by omega) p4 q4, rfl⟩
theorem rt_gcd {J : Nat → Int} {N : Nat → Nat → Int} {a b k : Int} (hf : feas J N 999 1 0 1) (h : rtP J N a b k) : Nat.gcd a.toNat b.toNat = 1 := by
  obtain ⟨⟨p1, p2⟩, ⟨p3, p6⟩, p4, p5⟩ := h
  have hg0 : 0 < Nat.gcd a.toNat b.toNat := Nat.gcd_pos_of_pos_right _ (by omega)
  obtain ⟨x, hx⟩ := Nat.gcd_dvd_left a.toNat b.toNat
  obtain ⟨y, hy⟩ := Nat.gcd_dvd_right a.toNat b.toNat
  generalize Nat.gcd a.toNat b.toNat = g at *
  have ea : a = (g : Int) * (x : Int) := by
    rw [← Int.natCast_mul, ← hx]
    omega
  have eb : b = (g : Int) * (y : Int) := by
    rw [← Int.natCast_mul, ← hy]
    omega
  have hy0 : 0 < y := Nat.pos_of_ne_zero fun e => by
    rw [e, Nat.mul_zero] at hy
    omega
  refine Classical.byContradiction fun hne => ?_
  have hlt : (y : Int) < b := by
    have : y < g * y := by
      have : 2 * y ≤ g * y := Nat.mul_le_mul_right y (by omega)
      omega
    rw [← hy] at this
    omega
  have hfe : feas J N (x : Int) (y : Int) 0 1 := by
    rcases p4 with ⟨r1, r2⟩ | ⟨r1, r2, r3, r4⟩
    · omega
    · refine feas_div (d := (g : Int)) (by omega) ?_
      rw [← ea, ← eb]
      exact r3
  have hsc := feas_sc (show 1 ≤ (y : Int) by omega) hf
  -- the least above y
  have hex : ∃ z, lpIs J N (y : Int) 1 (999 * (y : Int)) z ∧ z ≤ (x : Int) := by
    have hmin : ∀ m : Nat, feas J N (m : Int) (y : Int) 0 1 → ∃ z : Nat, z ≤ m ∧ feas J N (z : Int) (y : Int) 0 1 ∧ ∀ w : Int, 0 ≤ w → w < (z : Int) → ¬ feas J N w (y : Int) 0 1 := by
      intro m
      induction m with
      | zero => exact fun hm => ⟨0, Nat.le_refl _, hm, fun w h1 h2 => by omega⟩
      | succ m ih =>
        intro hm
        by_cases e : feas J N (m : Int) (y : Int) 0 1
        · obtain ⟨z, h1, h2, h3⟩ := ih e
          exact ⟨z, by omega, h2, h3⟩
        · exact ⟨m + 1, Nat.le_refl _, hm, fun w h1 h2 h3 => e (feas_up (by omega) (by omega) h3)⟩
    obtain ⟨z, h1, h2, h3⟩ := hmin x hfe
    refine ⟨z, Or.inr ⟨by omega, ?_, h2, h3⟩, by omega⟩
    by_cases e : (z : Int) ≤ 999 * (y : Int)
    · exact e
    · exact absurd hsc (h3 _ (by omega) (by omega))
  obtain ⟨z, hz, hzx⟩ := hex
  have r := (p5 (y : Int) z (by omega) (by omega) hz).2 hlt
  have r2 : z * b ≤ (x : Int) * b := Int.mul_le_mul_of_nonneg_right hzx (by omega)
  rw [ea, eb] at r
  rw [eb] at r2
  have e3 : (g : Int) * (x : Int) * (y : Int) = (x : Int) * ((g : Int) * (y : Int)) := by
    rw [Int.mul_comm (g : Int) (x : Int), Int.mul_assoc]
  omega
theorem feas_any {J : Nat → Int} {N : Nat → Nat → Int} {u v M : Int} (hv : 1 ≤ v) (hu : u ≤ M * v) (h : feas J N u v 0 1) : feas J N M 1 0 1 := by
  refine feas_div (d := v) hv ?_
  rw [Int.mul_one, Int.mul_comm v M]
  exact feas_up (by omega) hu h
theorem ra_u {J J2 : Nat → Int} {N N2 : Nat → Nat → Int} (hQ : netQ J N J2 N2) (hO : okN J N) {w y z : Int} (h : raP J N w y) (k : raM J2 N2 w z) : y = z := by
  rcases h with ⟨h1, h2⟩ | ⟨h1, h2⟩ <;> rcases k with ⟨k1, k2⟩ | ⟨k1, k2⟩
  · omega
  · exact absurd k1 h1
  · exact absurd h1 k1
  · rw [← feas_q hQ, ← hQ.1.1] at k2
    have hq : ∀ c d, rtQ J2 N2 4000 c d (J 0 + 1) → rtQ J N 4000 c d (J 0 + 1) := fun c d k => by
      unfold rtQ at *
      simp only [lpIs_q hQ]
      exact k
    rcases h2 with ⟨h2, h3⟩ | ⟨a, b, h2, h3⟩ <;> rcases k2 with ⟨k2, k3⟩ | ⟨c, d, k2, k3⟩
    · omega
    · exfalso
      obtain ⟨⟨d1, -⟩, ⟨c1, c2⟩, k4, -⟩ := hq c d k2
      rcases k4 with ⟨r1, r2⟩ | ⟨r1, r2, r3, r4⟩
      · omega
      · exact h2 (feas_999 hO (feas_any d1 c2 r3))
    · exfalso
      obtain ⟨⟨b1, -⟩, ⟨a1, a2⟩, h4, -⟩ := h2
      rcases h4 with ⟨r1, r2⟩ | ⟨r1, r2, r3, r4⟩
      · omega
      · exact k2 (feas_up (by omega) (by omega) (feas_any b1 a2 r3))
    · have hf : feas J N 999 1 0 1 := by
        obtain ⟨⟨b1, -⟩, ⟨a1, a2⟩, h4, -⟩ := h2
        rcases h4 with ⟨r1, r2⟩ | ⟨r1, r2, r3, r4⟩
        · omega
        · exact feas_any b1 a2 r3
      have k5 := rt_far hf (hq c d k2)
      obtain ⟨rfl, rfl⟩ := rt_one h2 k5
      rw [rt_gcd hf h2] at k3
      rw [h3, k3]
      simp
