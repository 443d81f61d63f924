/-! difference bounds: shifts lowered from 0 come to the greatest solution, in as many rounds as there are registers -/
def bc (p : Nat → Bool) : Nat → Nat
  | 0 => 0
  | n + 1 => bc p n + (if p n then 1 else 0)
theorem bc_le (p : Nat → Bool) : ∀ n, bc p n ≤ n
  | 0 => Nat.le_refl _
  | n + 1 => by
    have h := bc_le p n
    rw [bc]
    split <;> omega
theorem bc_sub {p q : Nat → Bool} : ∀ {n : Nat}, (∀ k, k < n → p k = true → q k = true) → bc p n ≤ bc q n
  | 0, _ => Nat.le_refl _
  | n + 1, h => by
    have h1 := bc_sub (n := n) (p := p) (q := q) (fun k hk => h k (by omega))
    have h2 := h n (by omega)
    rw [bc, bc]
    by_cases a : p n = true
    · rw [a, h2 a]
      omega
    · rw [if_neg a]
      split <;> omega
theorem bc_lt {p q : Nat → Bool} : ∀ {n : Nat}, (∀ k, k < n → p k = true → q k = true) → (∃ i, i < n ∧ q i = true ∧ p i = false) → bc p n < bc q n
  | 0, _, h => by
    obtain ⟨i, hi, -⟩ := h
    omega
  | n + 1, h, ⟨i, hi, h1, h2⟩ => by
    rw [bc, bc]
    by_cases e : i = n
    · subst e
      have h3 := bc_sub (n := i) (p := p) (q := q) (fun k hk => h k (by omega))
      rw [h1, h2]
      simp
      omega
    · have h3 := bc_lt (n := n) (p := p) (q := q) (fun k hk => h k (by omega)) ⟨i, by omega, h1, h2⟩
      have h4 := h n (by omega)
      by_cases a : p n = true
      · rw [a, h4 a]
        omega
      · rw [if_neg a]
        split <;> omega
theorem bc_all {p : Nat → Bool} : ∀ {n : Nat}, bc p n = n → ∀ k, k < n → p k = true
  | 0, _, k, hk => by omega
  | n + 1, h, k, hk => by
    rw [bc] at h
    have h1 := bc_le p n
    by_cases a : p n = true
    · rw [if_pos a] at h
      by_cases e : k = n
      · rw [e]
        exact a
      · exact bc_all (n := n) (by omega) k (by omega)
    · rw [if_neg a] at h
      omega
def bsum (f : Nat → Int) : Nat → Int
  | 0 => 0
  | n + 1 => bsum f n + f n
theorem bsum_le {f g : Nat → Int} : ∀ {n : Nat}, (∀ k, k < n → f k ≤ g k) → bsum f n ≤ bsum g n
  | 0, _ => Int.le_refl _
  | n + 1, h => by
    have h1 := bsum_le (n := n) (f := f) (g := g) (fun k hk => h k (by omega))
    have h2 := h n (by omega)
    rw [bsum, bsum]
    omega
theorem bsum_lt {f g : Nat → Int} : ∀ {n : Nat}, (∀ k, k < n → f k ≤ g k) → (∃ i, i < n ∧ f i < g i) → bsum f n < bsum g n
  | 0, _, ⟨i, hi, _⟩ => by omega
  | n + 1, h, ⟨i, hi, h1⟩ => by
    have h2 := h n (by omega)
    rw [bsum, bsum]
    by_cases e : i = n
    · subst e
      have h3 := bsum_le (n := i) (f := f) (g := g) (fun k hk => h k (by omega))
      omega
    · have h3 := bsum_lt (n := n) (f := f) (g := g) (fun k hk => h k (by omega)) ⟨i, by omega, h1⟩
      omega
theorem bsum_np {f : Nat → Int} : ∀ {n : Nat}, (∀ k, k < n → f k ≤ 0) → bsum f n ≤ 0
  | 0, _ => Int.le_refl _
  | n + 1, h => by
    have h1 := bsum_np (n := n) (f := f) (fun k hk => h k (by omega))
    have h2 := h n (by omega)
    rw [bsum]
    omega
/-- a solution of the bounds -/
def bsol (Ed : Nat → Nat → Int → Prop) (s : Nat → Int) : Prop := ∀ (a b : Nat) (c : Int), Ed a b c → s a ≤ s b + c
/-- the greatest solution of those that are nowhere above 0 -/
def bG (n : Nat) (Ed : Nat → Nat → Int → Prop) (g : Nat → Int) : Prop := bsol Ed g ∧ (∀ a, a < n → g a ≤ 0) ∧ ∀ s : Nat → Int, bsol Ed s → (∀ a, a < n → s a ≤ 0) → ∀ a, a < n → s a ≤ g a
theorem bG_one {n : Nat} {Ed : Nat → Nat → Int → Prop} {g h : Nat → Int} (hg : bG n Ed g) (hh : bG n Ed h) : ∀ a, a < n → g a = h a := fun a ha => by
  have h1 := hg.2.2 h hh.1 hh.2.1 a ha
  have h2 := hh.2.2 g hg.1 hg.2.1 a ha
  omega
theorem b_max (f : Nat → Int) : ∀ n : Nat, ∃ m : Int, ∀ a, a < n → f a ≤ m
  | 0 => ⟨0, fun a ha => by omega⟩
  | n + 1 => by
    obtain ⟨m, hm⟩ := b_max f n
    refine ⟨if f n ≤ m then m else f n, fun a ha => ?_⟩
    by_cases e : a = n
    · subst e
      split <;> omega
    · have := hm a (by omega)
      split <;> omega
theorem b_has {n : Nat} {Ed : Nat → Nat → Int → Prop} (h : ∃ s, bsol Ed s) : ∃ g, bG n Ed g := by
  obtain ⟨s, hs⟩ := h
  obtain ⟨m, hm⟩ := b_max s n
  have h0 : ∃ k : Nat, ∃ s : Nat → Int, bsol Ed s ∧ (∀ a, a < n → s a ≤ 0) ∧ bsum s n = -(k : Int) := by
    refine ⟨(-(bsum (fun a => s a - m) n)).toNat, fun a => s a - m, fun a b c hc => ?_, fun a ha => ?_, ?_⟩
    · have := hs a b c hc
      show s a - m ≤ s b - m + c
      omega
    · have := hm a ha
      show s a - m ≤ 0
      omega
    · have := bsum_np (f := fun a => s a - m) (n := n) (fun a ha => by have := hm a ha; show s a - m ≤ 0; omega)
      omega
  obtain ⟨k, ⟨g, g1, g2, g3⟩, hk⟩ := pk_least _ h0
  refine ⟨g, g1, g2, fun s' t1 t2 a ha => ?_⟩
  by_cases q : s' a ≤ g a
  · exact q
  exfalso
  have u1 : bsol Ed (fun x => if g x ≤ s' x then s' x else g x) := fun x y c hc => by
    have e1 := g1 x y c hc
    have e2 := t1 x y c hc
    show (if g x ≤ s' x then s' x else g x) ≤ (if g y ≤ s' y then s' y else g y) + c
    split <;> split <;> omega
  have u2 : ∀ x, x < n → (fun x => if g x ≤ s' x then s' x else g x) x ≤ 0 := fun x hx => by
    have e1 := g2 x hx
    have e2 := t2 x hx
    show (if g x ≤ s' x then s' x else g x) ≤ 0
    split <;> omega
  have u3 : bsum g n < bsum (fun x => if g x ≤ s' x then s' x else g x) n := bsum_lt (fun x hx => by
    show g x ≤ (if g x ≤ s' x then s' x else g x)
    split <;> omega) ⟨a, ha, by
    show g a < (if g a ≤ s' a then s' a else g a)
    rw [if_pos (by omega)]
    omega⟩
  have u4 := bsum_np u2
  refine hk (-(bsum (fun x => if g x ≤ s' x then s' x else g x) n)).toNat ?_ ⟨_, u1, u2, ?_⟩
  · omega
  · omega
/-- rounds S 0, S 1 ..: from 0 on, each lowers, stays above every solution, and keeps each bound by the round before -/
def bRd (n : Nat) (Ed : Nat → Nat → Int → Prop) (S : Nat → Nat → Int) : Prop := (∀ a, a < n → S 0 a = 0) ∧ (∀ k a, a < n → S (k + 1) a ≤ S k a) ∧ (∀ k g, bsol Ed g → (∀ a, a < n → g a ≤ S k a) → ∀ a, a < n → g a ≤ S (k + 1) a) ∧ ∀ k a b c, Ed a b c → S (k + 1) a ≤ S k b + c
theorem bRd_np {n : Nat} {Ed : Nat → Nat → Int → Prop} {S : Nat → Nat → Int} (h : bRd n Ed S) : ∀ k a, a < n → S k a ≤ 0
  | 0, a, ha => by rw [h.1 a ha]; omega
  | k + 1, a, ha => by
    have h1 := bRd_np h k a ha
    have h2 := h.2.1 k a ha
    omega
theorem bRd_ge {n : Nat} {Ed : Nat → Nat → Int → Prop} {S : Nat → Nat → Int} (h : bRd n Ed S) {g : Nat → Int} (hg : bsol Ed g) (h0 : ∀ a, a < n → g a ≤ 0) : ∀ k a, a < n → g a ≤ S k a
  | 0, a, ha => by rw [h.1 a ha]; exact h0 a ha
  | k + 1, a, ha => h.2.2.1 k g hg (bRd_ge h hg h0 k) a ha
/-- a round that changes nothing: the greatest solution stands -/
theorem bRd_rest {n : Nat} {Ed : Nat → Nat → Int → Prop} {S : Nat → Nat → Int} (hE : ∀ a b c, Ed a b c → a < n ∧ b < n) (h : bRd n Ed S) {k : Nat} (hk : ∀ a, a < n → S (k + 1) a = S k a) : bG n Ed (S k) :=
  ⟨fun a b c hc => by rw [← hk a (hE a b c hc).1]; exact h.2.2.2 k a b c hc, bRd_np h k, fun s s1 s2 a ha => bRd_ge h s1 s2 k a ha⟩
theorem bRd_grow {n : Nat} {Ed : Nat → Nat → Int → Prop} {S : Nat → Nat → Int} (hE : ∀ a b c, Ed a b c → a < n ∧ b < n) (h : bRd n Ed S) {g : Nat → Int} (hg : bG n Ed g) (k : Nat) (hn : ∃ a, a < n ∧ S k a ≠ g a) : ∃ a, a < n ∧ S (k + 1) a = g a ∧ S k a ≠ g a := by
  obtain ⟨z, hz, hz2⟩ := hn
  have ge := bRd_ge h hg.1 hg.2.1
  have np := bRd_np h
  by_cases q : ∃ a, a < n ∧ S (k + 1) a = g a ∧ S k a ≠ g a
  · exact q
  exfalso
  have no : ∀ a, a < n → S k a ≠ g a → g a + 1 ≤ S (k + 1) a := fun a ha h1 => by
    have h2 := ge (k + 1) a ha
    by_cases e : S (k + 1) a = g a
    · exact absurd ⟨a, ha, e, h1⟩ q
    · omega
  have u1 : bsol Ed (fun a => if S k a = g a then g a else g a + 1) := fun a b c hc => by
    have ha := (hE a b c hc).1
    have e1 := hg.1 a b c hc
    have e2 := h.2.2.2 k a b c hc
    have e3 := no a ha
    show (if S k a = g a then g a else g a + 1) ≤ (if S k b = g b then g b else g b + 1) + c
    split <;> split
    · omega
    · omega
    · next x y =>
      have := e3 x
      omega
    · omega
  have u2 : ∀ a, a < n → (fun a => if S k a = g a then g a else g a + 1) a ≤ 0 := fun a ha => by
    have e1 := ge k a ha
    have e2 := np k a ha
    have e3 := hg.2.1 a ha
    show (if S k a = g a then g a else g a + 1) ≤ 0
    split <;> omega
  have u3 := hg.2.2 _ u1 u2 z hz
  have u4 : (if S k z = g z then g z else g z + 1) ≤ g z := u3
  rw [if_neg hz2] at u4
  omega
theorem bRd_first {n : Nat} {Ed : Nat → Nat → Int → Prop} {S : Nat → Nat → Int} (h : bRd n Ed S) {g : Nat → Int} (hg : bG n Ed g) (hn : 0 < n) : ∃ a, a < n ∧ S 0 a = g a := by
  by_cases q : ∃ a, a < n ∧ S 0 a = g a
  · exact q
  exfalso
  have u0 : ∀ a, a < n → g a + 1 ≤ 0 := fun a ha => by
    have h1 := h.1 a ha
    have h2 := hg.2.1 a ha
    by_cases e : S 0 a = g a
    · exact absurd ⟨a, ha, e⟩ q
    · omega
  have u3 := hg.2.2 (fun a => g a + 1) (fun a b c hc => by
    have := hg.1 a b c hc
    show g a + 1 ≤ g b + 1 + c
    omega) u0 0 hn
  have u4 : g 0 + 1 ≤ g 0 := u3
  omega
theorem bRd_count {n : Nat} {Ed : Nat → Nat → Int → Prop} {S : Nat → Nat → Int} (hE : ∀ a b c, Ed a b c → a < n ∧ b < n) (h : bRd n Ed S) {g : Nat → Int} (hg : bG n Ed g) (hn : 0 < n) : ∀ k : Nat, k + 1 ≤ bc (fun a => decide (S k a = g a)) n ∨ bc (fun a => decide (S k a = g a)) n = n
  | 0 => by
    obtain ⟨a, ha, e⟩ := bRd_first h hg hn
    left
    have h1 := bc_lt (n := n) (p := fun _ => false) (q := fun a => decide (S 0 a = g a)) (fun k hk q => by cases q) ⟨a, ha, by simpa using e, rfl⟩
    omega
  | k + 1 => by
    have ge := bRd_ge h hg.1 hg.2.1
    have sub : ∀ a, a < n → decide (S k a = g a) = true → decide (S (k + 1) a = g a) = true := fun a ha e => by
      have e1 : S k a = g a := by simpa using e
      have e2 := h.2.1 k a ha
      have e3 := ge (k + 1) a ha
      simp
      omega
    rcases bRd_count hE h hg hn k with q | q
    · by_cases z : ∃ a, a < n ∧ S k a ≠ g a
      · obtain ⟨a, ha, e1, e2⟩ := bRd_grow hE h hg k z
        left
        have := bc_lt (n := n) sub ⟨a, ha, by simpa using e1, by simpa using e2⟩
        omega
      · right
        have h1 : ∀ a, a < n → S k a = g a := fun a ha => by
          by_cases e : S k a = g a
          · exact e
          · exact absurd ⟨a, ha, e⟩ z
        have h2 := bc_sub (n := n) (p := fun _ => true) (q := fun a => decide (S (k + 1) a = g a)) (fun a ha _ => sub a ha (by simpa using h1 a ha))
        have h3 := bc_le (fun a => decide (S (k + 1) a = g a)) n
        have h4 : ∀ m : Nat, bc (fun _ => true) m = m := fun m => by
          induction m with
          | zero => rfl
          | succ m ih => rw [bc, ih]; rfl
        rw [h4] at h2
        omega
    · right
      have h2 := bc_sub (n := n) sub
      have h3 := bc_le (fun a => decide (S (k + 1) a = g a)) n
      omega
/-- if there is a solution, the round behind the first n - 1 rounds changes nothing -/
theorem bRd_done {n : Nat} {Ed : Nat → Nat → Int → Prop} {S : Nat → Nat → Int} (hE : ∀ a b c, Ed a b c → a < n ∧ b < n) (h : bRd n Ed S) (hn : 0 < n) (hs : ∃ s, bsol Ed s) : ∀ k, n ≤ k + 1 → ∀ a, a < n → S (k + 1) a = S k a := by
  obtain ⟨g, hg⟩ := b_has (n := n) hs
  intro k hk a ha
  have ge := bRd_ge h hg.1 hg.2.1
  have h1 : bc (fun a => decide (S k a = g a)) n = n := by
    have h2 := bc_le (fun a => decide (S k a = g a)) n
    rcases bRd_count hE h hg hn k with q | q <;> omega
  have h2 : S k a = g a := by simpa using bc_all h1 a ha
  have h3 := h.2.1 k a ha
  have h4 := ge (k + 1) a ha
  omega
