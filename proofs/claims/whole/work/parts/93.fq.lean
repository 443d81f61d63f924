/-! numbers of traces: remainders -/
def gM : Nat := 2 ^ 925
theorem gM_0 : 0 < gM := Nat.two_pow_pos _
theorem gM_G : gG ∣ gM := by
  have e : gM = gG * 2 ^ 25 := by decide +kernel
  exact ⟨2 ^ 25, e⟩
theorem gM_p : (2 : Nat) ^ (FP.Core.b32.qmin - FP.Core.b64.qmin).toNat = gM := by decide +kernel
theorem q32_lo : FP.Core.b32.qmin = -149 := by decide
theorem q32_hi : FP.Core.b32.qmax = 104 := by decide
theorem p32 : FP.Core.b32.p = 24 := by decide
theorem f2d_pF {f : UInt32} {s : Bool} {c : Nat} {q : Int} (h : FP.Core.val32 f = .fin s c q) : pF (FP.f2d f) s (FP.Core.inUnits c q FP.Core.b32.qmin * gM) := by
  have hf := FP.Core.val32_fits f
  rw [h] at hf
  obtain ⟨a1, a2, a3, a4⟩ := hf
  have hn : FP.Core.val32 f ≠ .nan := by rw [h]; exact fun z => FP.Core.Datum.noConfusion z
  have a1' : c < 2 ^ 24 := a1
  have ql := q32_lo
  have qh := q32_hi
  have q6 := q_lo
  have q7 := q_hi
  obtain ⟨c', q', e1, e2⟩ := FP.Core.round_exact FP.Core.good_b64 s (c := c) (q := q) (Nat.lt_of_lt_of_le a1' (Nat.pow_le_pow_right (by decide) (by decide))) (by omega) (by omega)
  refine ⟨c', q', ?_, ?_⟩
  · rw [f2d_val hn, h, e1]
  · rw [e2, ← gM_p]
    exact FP.Core.inUnits_move c (by omega) a2
theorem f2d_inf {f : UInt32} {s : Bool} (h : FP.Core.val32 f = .inf s) : FP.Core.val64 (FP.f2d f) = .inf s := by
  rw [f2d_val (by rw [h]; exact fun z => FP.Core.Datum.noConfusion z), h]
  rfl
theorem drem_val (x y : UInt64) : FP.Core.val64 (FP.drem x y) = FP.Core.round FP.Core.b64 (FP.Core.exactRemainder (FP.Core.val64 x) (FP.Core.val64 y)) := FP.Core.val64_drem x y
theorem frem_val (x y : UInt32) : FP.Core.val32 (FP.frem x y) = FP.Core.round FP.Core.b32 (FP.Core.exactRemainder (FP.Core.val32 x) (FP.Core.val32 y)) := FP.Core.val32_frem x y
theorem rem_n {x y : FP.Core.Datum} (h : x = .nan ∨ y = .nan ∨ (∃ s, x = .inf s) ∨ ∃ t r, y = .fin t 0 r) : FP.Core.exactRemainder x y = .nan := by
  rcases h with rfl | rfl | ⟨s, rfl⟩ | ⟨t, r, rfl⟩
  · rfl
  · cases x <;> rfl
  · rfl
  · cases x with
    | nan => rfl
    | inf s => rfl
    | fin s c q => simp [FP.Core.exactRemainder]
/-- a remainder by a place that gives no number -/
theorem rem_nan {x y : UInt64} (h : FP.Core.val64 x = .nan ∨ FP.Core.val64 y = .nan ∨ (∃ s, FP.Core.val64 x = .inf s) ∨ ∃ t r, FP.Core.val64 y = .fin t 0 r) : FP.Core.val64 (FP.drem x y) = .nan := by
  rw [drem_val, rem_n h]
  rfl
theorem rem_nan32 {x y : UInt32} (h : FP.Core.val32 x = .nan ∨ FP.Core.val32 y = .nan ∨ (∃ s, FP.Core.val32 x = .inf s) ∨ ∃ t r, FP.Core.val32 y = .fin t 0 r) : FP.Core.val32 (FP.frem x y) = .nan := by
  rw [frem_val, rem_n h]
  rfl
theorem zm_fin {s : Bool} {c : Nat} {q : Int} {x : UInt64} (h : FP.Core.val64 x = .fin s c q) : zm x = FP.Core.inUnits c q FP.Core.b64.qmin := by
  unfold zm
  rw [h]
  rfl
theorem iu_0 {c : Nat} {q e : Int} : FP.Core.inUnits c q e = 0 ↔ c = 0 := by
  unfold FP.Core.inUnits
  have := Nat.two_pow_pos (q - e).toNat
  constructor
  · intro h
    rcases Nat.mul_eq_zero.mp h with h | h
    · exact h
    · omega
  · intro h
    rw [h, Nat.zero_mul]
theorem not_good {s mi mj : Int} {vi vj di dj : UInt64} {fi fj : UInt32} (hs : s = 0 ∨ s = 1) (hi : plR mi vi (voV s fi di)) (hj : plR mj vj (voV s fj dj)) (oi : mi = 0 → plOK vi) (oj : mj = 0 → plOK vj) (h : ¬ (mi = 0 ∧ mj = 0 ∧ ¬ endV vi ∧ dcV .l vj 0 ≠ 0)) : (s = 0 → FP.Core.val32 (FP.frem fi fj) = .nan) ∧ (s = 1 → FP.Core.val64 (FP.drem di dj) = .nan) := by
  have key : FP.Core.val64 (voV s fi di) = .nan ∨ FP.Core.val64 (voV s fj dj) = .nan ∨ (∃ b, FP.Core.val64 (voV s fi di) = .inf b) ∨ ∃ t r, FP.Core.val64 (voV s fj dj) = .fin t 0 r := by
    rcases hi with ⟨-, h2⟩ | ⟨h1, h2⟩
    · exact Or.inl h2
    rcases hj with ⟨-, k2⟩ | ⟨k1, k2⟩
    · exact Or.inr (Or.inl k2)
    by_cases he : endV vi
    · refine Or.inr (Or.inr (Or.inl ?_))
      rcases oi h1 with ⟨b, n, p1, p2, p3⟩ | ⟨b, p⟩
      · exact absurd he (endV_fin p1 (by omega))
      · exact ⟨b, by rw [← h2]; exact p⟩
    · have hz : dcV .l vj 0 = 0 := Classical.byContradiction fun z => h ⟨h1, k1, he, z⟩
      have hn := plOK_nn (oj k1)
      rw [dcV_z hn nn_0, zz_0] at hz
      have hz0 : zz vj = 0 := by
        split at hz
        · exact absurd hz (by decide)
        · split at hz
          · assumption
          · exact absurd hz (by decide)
      refine Or.inr (Or.inr (Or.inr ?_))
      rcases oj k1 with ⟨b, n, ⟨c, q, p1, p2⟩, -, -⟩ | ⟨b, p⟩
      · have e1 := pF_z ⟨c, q, p1, p2⟩
        rw [hz0] at e1
        have e2 : n = 0 := by
          cases b <;> simp at e1 <;> omega
        rw [e2] at p2
        rw [iu_0] at p2
        subst p2
        exact ⟨b, q, by rw [← k2]; exact p1⟩
      · exfalso
        have e3 := endV_inf p
        rw [endV_z hn, hz0] at e3
        have : (0 : Int) ≤ (gO : Int) := Int.natCast_nonneg _
        omega
  constructor
  · rintro rfl
    unfold voV at key
    simp only [if_true] at key
    refine rem_nan32 ?_
    rcases key with k | k | ⟨b, k⟩ | ⟨t, r, k⟩
    · exact Or.inl (f2d_nn.mp k)
    · exact Or.inr (Or.inl (f2d_nn.mp k))
    · refine Or.inr (Or.inr (Or.inl ?_))
      cases hv : FP.Core.val32 fi with
      | nan => rw [f2d_nn.mpr hv] at k; exact FP.Core.Datum.noConfusion k
      | inf b2 => exact ⟨b2, rfl⟩
      | fin b2 c q =>
        obtain ⟨c', q', e, -⟩ := f2d_pF hv
        rw [e] at k
        exact FP.Core.Datum.noConfusion k
    · refine Or.inr (Or.inr (Or.inr ?_))
      cases hv : FP.Core.val32 fj with
      | nan => rw [f2d_nn.mpr hv] at k; exact FP.Core.Datum.noConfusion k
      | inf b2 => rw [f2d_inf hv] at k; exact FP.Core.Datum.noConfusion k
      | fin b2 c q =>
        have e := pF_m (f2d_pF hv)
        rw [zm_fin k, (iu_0 (c := 0)).mpr rfl] at e
        have hg := gM_0
        have e0 : FP.Core.inUnits c q FP.Core.b32.qmin = 0 := by
          rcases Nat.mul_eq_zero.mp e.symm with h | h
          · exact h
          · omega
        rw [iu_0] at e0
        subst e0
        exact ⟨b2, q, rfl⟩
  · rintro rfl
    unfold voV at key
    simp only [show ¬ (1 : Int) = 0 by decide, if_false] at key
    exact rem_nan key
/-- remainders of floats, in doubles -/
theorem frem_d {f g : UInt32} {s : Bool} {c : Nat} {q : Int} (hf : FP.Core.val32 f = .fin s c q) (hg : FP.Core.val32 g ≠ .nan) (hz : ∀ t r, FP.Core.val32 g ≠ .fin t 0 r) : FP.Core.val64 (FP.drem (FP.f2d f) (FP.f2d g)) = FP.Core.val64 (FP.f2d (FP.frem f g)) := by
  cases hv : FP.Core.val32 g with
  | nan => exact absurd hv hg
  | inf t =>
    have e1 : FP.Core.val32 (FP.frem f g) = FP.Core.val32 f := by
      rw [frem_val, hf, hv]
      show FP.Core.round FP.Core.b32 (.fin s c q) = .fin s c q
      have hh := FP.Core.val32_fits f
      rw [hf] at hh
      exact FP.Core.round_of_fits FP.Core.good_b32 hh
    rw [f2d_v e1, drem_val, f2d_inf hv]
    obtain ⟨c', q', e, -⟩ := f2d_pF hf
    have hh := FP.Core.val64_fits (FP.f2d f)
    rw [e] at hh ⊢
    exact FP.Core.round_of_fits FP.Core.good_b64 hh
  | fin t d r =>
    have hd : d ≠ 0 := fun e => hz t r (by rw [hv, e])
    obtain ⟨c', q', e1, e2⟩ := FP.Core.frem_exact hf hv hd
    have p1 := f2d_pF (f := FP.frem f g) e1
    rw [e2] at p1
    have p2 := drem_pF (f2d_pF hf) (pF_nn (f2d_pF hv)) (pF_m (f2d_pF hv)) (Nat.mul_pos (Nat.pos_of_ne_zero fun e => hd (iu_0.mp e)) gM_0)
    rw [Nat.mul_mod_mul_right] at p2
    rw [pF_eq p2 p1]
