/-! one state: the ring of changes against the rows that the reference keeps -/
/-- the row at depth d (0: the present one) of c kept rows -/
def hrow (f : Nat → Int) (c d j : Nat) : Int := if d = 0 then f j else f (33 + 33 * (c - d) + j)
/-- b is a with the change (x, y) taken back -/
def hrv (n x y : Int) (a b : Nat → Int) : Prop := (x = -1 ∧ b 0 = y ∧ ∀ p : Nat, (p : Int) < n → b (1 + p) = a (1 + p) ∧ b (17 + p) = a (17 + p)) ∨ ((0 ≤ x ∧ x < n) ∧ b 0 = a 0 ∧ ∀ p : Nat, (p : Int) < n → b (1 + p) = a (1 + p) - (if p = x.toNat then y else 0) ∧ b (17 + p) = a (17 + p) - (if p = x.toNat then y else 0))
def hrOK (n : Int) (g : Nat → Int) : Prop := (0 ≤ g 0 ∧ g 0 ≤ 999) ∧ ∀ p : Nat, (p : Int) < n → 0 ≤ g (17 + p) ∧ g (17 + p) ≤ g (1 + p) ∧ g (1 + p) ≤ 199
def hring (h : Int) (Ah : Nat → Nat → Int) (n : Int) (f : Nat → Int) (c : Nat) : Prop := ∀ d : Nat, d < c → hrv n (Ah 0 ((h + 7 - (d : Int)) % 8).toNat) (Ah 1 ((h + 7 - (d : Int)) % 8).toNat) (hrow f c d) (hrow f c (d + 1)) ∧ hrOK n (hrow f c (d + 1))
theorem hrv_c {n x y : Int} {a b a2 b2 : Nat → Int} (hn : n ≤ 16) (ha : ∀ j, j < 33 → a2 j = a j) (hb : ∀ j, j < 33 → b2 j = b j) (h : hrv n x y a b) : hrv n x y a2 b2 := by
  rcases h with ⟨h1, h2, h3⟩ | ⟨h1, h2, h3⟩
  · refine Or.inl ⟨h1, by rw [hb 0 (by omega)]; exact h2, fun p hp => ?_⟩
    rw [hb (1 + p) (by omega), hb (17 + p) (by omega), ha (1 + p) (by omega), ha (17 + p) (by omega)]
    exact h3 p hp
  · refine Or.inr ⟨h1, by rw [hb 0 (by omega), ha 0 (by omega)]; exact h2, fun p hp => ?_⟩
    rw [hb (1 + p) (by omega), hb (17 + p) (by omega), ha (1 + p) (by omega), ha (17 + p) (by omega)]
    exact h3 p hp
theorem hrOK_c {n : Int} {a a2 : Nat → Int} (hn : n ≤ 16) (ha : ∀ j, j < 33 → a2 j = a j) (h : hrOK n a) : hrOK n a2 := by
  refine ⟨by rw [ha 0 (by omega)]; exact h.1, fun p hp => ?_⟩
  rw [ha (1 + p) (by omega), ha (17 + p) (by omega)]
  exact h.2 p hp
/-- a change: the row before it is kept, and the change in the ring -/
theorem hring_push {h : Int} {Ah : Nat → Nat → Int} {n x y u : Int} {f g : Nat → Int} (hh : 0 ≤ h ∧ h < 8) (hu : 0 ≤ u ∧ u ≤ 8) (hn : n ≤ 16) (hg : ∀ j, 33 ≤ j → g j = m_kp u f j) (h0 : hrv n x y g f) (h1 : hrOK n f) (hr : hring h Ah n f u.toNat) : hring ((h + 1).tmod 8) (sU (sU Ah 0 (sU (Ah 0) h.toNat x)) 1 (sU (Ah 1) h.toNat y)) n g (if u = 8 then 8 else u + 1).toNat := by
  have hb : ∀ d j : Nat, d < (if u = 8 then 8 else u + 1).toNat → j < 33 → hrow g (if u = 8 then 8 else u + 1).toNat (d + 1) j = hrow f u.toNat d j := by
    intro d j hd hj
    by_cases hu8 : u = 8
    · subst hu8
      rw [if_pos rfl] at hd ⊢
      have hd8 : d < 8 := hd
      unfold hrow
      rw [if_neg (Nat.succ_ne_zero d), hg _ (by omega)]
      unfold m_kp
      rw [if_pos rfl]
      unfold m_cp m_sh
      have e1 : Int.toNat (33 + 33 * 7) = 264 := by decide
      have e2 : Int.toNat 0 = 0 := by decide
      have e3 : Int.toNat 8 = 8 := by decide
      rw [e1, e2, e3]
      by_cases hd0 : d = 0
      · subst hd0
        rw [if_pos rfl, if_pos (by omega), if_neg (by omega)]
        exact congrArg f (by omega)
      · rw [if_neg hd0, if_neg (by omega), if_pos (by omega)]
        exact congrArg f (by omega)
    · rw [if_neg hu8] at hd ⊢
      unfold hrow
      rw [if_neg (Nat.succ_ne_zero d), hg _ (by omega)]
      unfold m_kp
      rw [if_neg hu8]
      unfold m_cp
      have e2 : Int.toNat 0 = 0 := by decide
      rw [e2]
      by_cases hd0 : d = 0
      · subst hd0
        rw [if_pos rfl, if_pos (by omega)]
        exact congrArg f (by omega)
      · rw [if_neg hd0, if_neg (by omega)]
        exact congrArg f (by omega)
  have hc : (if u = 8 then 8 else u + 1).toNat ≤ u.toNat + 1 ∧ (if u = 8 then 8 else u + 1).toNat ≤ 8 := by
    split <;> omega
  have et : (h + 1).tmod 8 = (h + 1) % 8 := Int.tmod_eq_emod_of_nonneg (by omega)
  intro d hd
  rw [et]
  have e0 : ∀ s : Nat, s = 0 ∨ s = 1 → True := fun _ _ => trivial
  by_cases hd0 : d = 0
  · subst hd0
    have ep : (((h + 1) % 8 + 7 - ((0 : Nat) : Int)) % 8).toNat = h.toNat := by omega
    rw [ep, sU_n _ _ (by decide : (0 : Nat) ≠ 1), sU_s, sU_s, sU_s, sU_s]
    exact ⟨hrv_c hn (fun j hj => rfl) (fun j hj => hb 0 j hd hj) h0, hrOK_c hn (fun j hj => hb 0 j hd hj) h1⟩
  · obtain ⟨k, rfl⟩ : ∃ k, d = k + 1 := ⟨d - 1, by omega⟩
    have ep : (((h + 1) % 8 + 7 - ((k + 1 : Nat) : Int)) % 8).toNat = ((h + 7 - (k : Int)) % 8).toNat := by omega
    have ene : ((h + 7 - (k : Int)) % 8).toNat ≠ h.toNat := by omega
    rw [ep, sU_n _ _ (by decide : (0 : Nat) ≠ 1), sU_s, sU_s, sU_n _ _ ene, sU_n _ _ ene]
    obtain ⟨a1, a2⟩ := hr k (by omega)
    exact ⟨hrv_c hn (fun j hj => hb k j (by omega) hj) (fun j hj => hb (k + 1) j hd hj) a1, hrOK_c hn (fun j hj => hb (k + 1) j hd hj) a2⟩
/-- a change taken back -/
theorem hring_pop {h : Int} {Ah : Nat → Nat → Int} {n u : Int} {f : Nat → Int} (hh : 0 ≤ h ∧ h < 8) (hu : 0 < u ∧ u ≤ 8) (hn : n ≤ 16) (hr : hring h Ah n f u.toNat) : hring ((h + 8 - 1).tmod 8) Ah n (m_cp f (Int.toNat (33 + 33 * (u - 1))) (Int.toNat 0) 33) (u - 1).toNat := by
  have et : (h + 8 - 1).tmod 8 = (h + 8 - 1) % 8 := Int.tmod_eq_emod_of_nonneg (by omega)
  have e2 : Int.toNat 0 = 0 := by decide
  have hb : ∀ d j : Nat, d ≤ (u - 1).toNat → j < 33 → hrow (m_cp f (Int.toNat (33 + 33 * (u - 1))) (Int.toNat 0) 33) (u - 1).toNat d j = hrow f u.toNat (d + 1) j := by
    intro d j hd hj
    unfold hrow m_cp
    rw [e2, if_neg (Nat.succ_ne_zero d)]
    by_cases hd0 : d = 0
    · subst hd0
      rw [if_pos rfl, if_pos (by omega)]
      exact congrArg f (by omega)
    · rw [if_neg hd0, if_neg (by omega)]
      exact congrArg f (by omega)
  intro d hd
  obtain ⟨a1, a2⟩ := hr (d + 1) (by omega)
  rw [et]
  have ep : (((h + 8 - 1) % 8 + 7 - (d : Int)) % 8).toNat = ((h + 7 - ((d + 1 : Nat) : Int)) % 8).toNat := by omega
  rw [ep]
  exact ⟨hrv_c hn (fun j hj => hb d j (by omega) hj) (fun j hj => hb (d + 1) j (by omega) hj) a1, hrOK_c hn (fun j hj => hb (d + 1) j (by omega) hj) a2⟩
theorem hring_0 {h : Int} {Ah : Nat → Nat → Int} {n : Int} {f : Nat → Int} : hring h Ah n f (Int.toNat 0) := fun d hd => absurd hd (Nat.not_lt_zero d)
theorem hring_f {h : Int} {Ah : Nat → Nat → Int} {n : Int} {f g : Nat → Int} {c : Nat} (hn : n ≤ 16) (hc : c ≤ 8) (hg : ∀ j, j < 297 → g j = f j) (hr : hring h Ah n f c) : hring h Ah n g c := by
  intro d hd
  obtain ⟨a1, a2⟩ := hr d hd
  have hb : ∀ e j : Nat, e ≤ c → j < 33 → hrow g c e j = hrow f c e j := by
    intro e j he hj
    unfold hrow
    by_cases he0 : e = 0
    · rw [if_pos he0, if_pos he0]
      exact hg j (by omega)
    · rw [if_neg he0, if_neg he0]
      exact hg _ (by omega)
  exact ⟨hrv_c hn (fun j hj => hb d j (by omega) hj) (fun j hj => hb (d + 1) j (by omega) hj) a1, hrOK_c hn (fun j hj => hb (d + 1) j (by omega) hj) a2⟩
