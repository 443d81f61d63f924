/-! numbers of traces: sums -/
def sInv (k : Nat) (v : UInt64) : Prop := (∃ s, FP.Core.val64 v = .inf s) ∨ ((∃ s c q, FP.Core.val64 v = .fin s c q) ∧ zz v ≤ 9999 * (k : Int) * (gO : Int) ∧ -(9999 * (k : Int) * (gO : Int)) ≤ zz v)
theorem dadd_val (x y : UInt64) : FP.Core.val64 (FP.dadd x y) = FP.Core.round FP.Core.b64 (FP.Core.exactSum (FP.Core.val64 x) (FP.Core.val64 y)) := FP.Core.val64_dadd x y
theorem gO_1 : FP.Core.one64 = gO := by decide +kernel
theorem gO_0 : 0 < gO := Nat.two_pow_pos _
theorem gO_8 : 80000 * gO < gT := by
  have h1 : gT = 67108864 * gO := by decide +kernel
  have h2 := gO_0
  omega
theorem sInv_end {k : Nat} {v : UInt64} (hk : k ≤ 8) (h : sInv k v) (he : endV v) : ∃ s, FP.Core.val64 v = .inf s := by
  rcases h with h | ⟨⟨s, c, q, h1⟩, h2, h3⟩
  · exact h
  · exfalso
    rw [endV_z (by rw [h1]; exact fun z => FP.Core.Datum.noConfusion z)] at he
    have hg : (0 : Int) ≤ (gO : Int) := Int.natCast_nonneg _
    have hm : 9999 * (k : Int) * (gO : Int) ≤ 79992 * (gO : Int) := Int.mul_le_mul_of_nonneg_right (by omega) hg
    omega
theorem sInv_0 : sInv 0 0 := by
  refine Or.inr ⟨⟨_, _, _, FP.Core.val64_zero⟩, ?_, ?_⟩
  · rw [zz_0]; omega
  · rw [zz_0]; omega
theorem sum_fin {k : Nat} {a b : UInt64} (hk : k + 1 ≤ 8) {s t : Bool} {c d : Nat} {q r : Int} (ha : FP.Core.val64 a = .fin s c q) (hb : FP.Core.val64 b = .fin t d r) (h1 : zz a ≤ 9999 * (k : Int) * (gO : Int) ∧ -(9999 * (k : Int) * (gO : Int)) ≤ zz a) (h2 : zz b ≤ 9999 * (gO : Int) ∧ -(9999 * (gO : Int)) ≤ zz b) : sInv (k + 1) (FP.dadd a b) := by
  have hi : ∀ z : Int, inR z → zz (FP.i2d (iI z)) = z * (gO : Int) ∧ FP.Core.val64 (FP.i2d (iI z)) ≠ .nan := by
    intro z hz
    have e : FP.Core.DInt (iI z).toInt (FP.i2d (iI z)) := FP.Core.i2d_int (iI z)
    have e2 := FP.Core.DInt_zval e
    rw [iI_toInt hz, gO_1] at e2
    exact ⟨e2, FP.Core.DInt_ne_nan e⟩
  have fa := FP.Core.val64_fits a
  have fb := FP.Core.val64_fits b
  obtain ⟨p1, p2⟩ := hi (9999 * ((k : Int) + 1)) (by unfold inR; omega)
  obtain ⟨n1, n2⟩ := hi (-(9999 * ((k : Int) + 1))) (by unfold inR; omega)
  have em : 9999 * ((k : Int) + 1) * (gO : Int) = 9999 * (k : Int) * (gO : Int) + 9999 * (gO : Int) := by
    rw [Int.mul_add, Int.add_mul]
    omega
  have en : -(9999 * ((k : Int) + 1)) * (gO : Int) = -(9999 * (k : Int) * (gO : Int) + 9999 * (gO : Int)) := by
    rw [Int.neg_mul, em]
  have u1 := FP.Core.sum_le FP.Core.good_b64 ⟨s, c, q, ha⟩ ⟨t, d, r, hb⟩ fa fb (FP.Core.val64_fits (FP.i2d (iI (9999 * ((k : Int) + 1))))) p2 (by
    show zz a + zz b ≤ zz _
    rw [p1, em]
    omega)
  have u2 := FP.Core.sum_ge FP.Core.good_b64 ⟨s, c, q, ha⟩ ⟨t, d, r, hb⟩ fa fb (FP.Core.val64_fits (FP.i2d (iI (-(9999 * ((k : Int) + 1)))))) n2 (by
    show zz _ ≤ zz a + zz b
    rw [n1, en]
    omega)
  rw [← dadd_val] at u1 u2
  have v1 : zz (FP.dadd a b) ≤ 9999 * ((k : Int) + 1) * (gO : Int) := by rw [← p1]; exact u1
  have v2 : -(9999 * ((k : Int) + 1) * (gO : Int)) ≤ zz (FP.dadd a b) := by rw [← Int.neg_mul, ← n1]; exact u2
  have hg : (0 : Int) ≤ (gO : Int) := Int.natCast_nonneg _
  have hm : 9999 * ((k : Int) + 1) * (gO : Int) ≤ 79992 * (gO : Int) := Int.mul_le_mul_of_nonneg_right (by omega) hg
  cases hv : FP.Core.val64 (FP.dadd a b) with
  | nan =>
    exfalso
    rw [dadd_val, FP.Core.round_nan, ha, hb] at hv
    simp [FP.Core.exactSum] at hv
  | inf u => exact Or.inl ⟨u, hv⟩
  | fin u c1 q1 =>
    refine Or.inr ⟨⟨u, c1, q1, hv⟩, ?_, ?_⟩
    · rw [Int.natCast_add]; exact v1
    · rw [Int.natCast_add]; exact v2
theorem sum_step {k : Nat} {a b : UInt64} (hk : k + 1 ≤ 8) (ha : sInv k a) (hb : plOK b) (hn : ¬ (endV a ∧ endV b ∧ dcV .l a b ≠ 0)) : sInv (k + 1) (FP.dadd a b) := by
  rcases ha with ⟨s, ha⟩ | ⟨⟨s, c, q, ha⟩, h1, h2⟩
  · rcases hb with ⟨t, n, ⟨d, r, hb, -⟩, -, -⟩ | ⟨t, hb⟩
    · refine Or.inl ⟨s, ?_⟩
      rw [dadd_val, ha, hb]
      rfl
    · by_cases hst : s = t
      · subst hst
        refine Or.inl ⟨s, ?_⟩
        rw [dadd_val, ha, hb]
        simp [FP.Core.exactSum, FP.Core.round]
      · exfalso
        refine hn ⟨endV_inf ha, endV_inf hb, ?_⟩
        rw [dcV_z (by rw [ha]; exact fun z => FP.Core.Datum.noConfusion z) (by rw [hb]; exact fun z => FP.Core.Datum.noConfusion z), zz_inf ha, zz_inf hb]
        have ht : (0 : Int) < ((FP.Core.b64.tails * 2 ^ (FP.Core.b64.exps - 2) : Nat) : Int) := by
          have := gT_top
          omega
        generalize ((FP.Core.b64.tails * 2 ^ (FP.Core.b64.exps - 2) : Nat) : Int) = T at *
        cases s <;> cases t
        · exact absurd rfl hst
        · simp only [Bool.false_eq_true, if_false, if_true]
          rw [if_neg (by omega), if_neg (by omega)]
          decide
        · simp only [Bool.false_eq_true, if_false, if_true]
          rw [if_pos (by omega)]
          decide
        · exact absurd rfl hst
  · rcases hb with ⟨t, n, hp, -, hle⟩ | ⟨t, hb⟩
    · have hz := pF_z hp
      obtain ⟨d, r, hb, -⟩ := id hp
      refine sum_fin hk ha hb ⟨h1, h2⟩ ?_
      have hg : (n : Int) ≤ 9999 * (gO : Int) := by
        have : ((n : Nat) : Int) ≤ ((9999 * gO : Nat) : Int) := Int.ofNat_le.mpr hle
        rw [Int.natCast_mul] at this
        exact this
      rw [hz]
      cases t
      · rw [if_neg (by decide)]; omega
      · rw [if_pos rfl]; omega
    · refine Or.inl ⟨t, ?_⟩
      rw [dadd_val, ha, hb]
      rfl
theorem sInv_nn {k : Nat} {v : UInt64} (h : sInv k v) : FP.Core.val64 v ≠ .nan := by
  rcases h with ⟨s, h⟩ | ⟨⟨s, c, q, h⟩, -⟩
  · rw [h]; exact fun z => FP.Core.Datum.noConfusion z
  · rw [h]; exact fun z => FP.Core.Datum.noConfusion z
theorem sum_sum {V x : Nat → UInt64} {M : Nat → Int} (hv : ∀ k : Nat, M k = 0 → plOK (V k)) : ∀ n : Nat, n ≤ 8 → (∀ k : Nat, k < n → plR (M k) (V k) (x k)) → ((∃ k : Nat, k < n ∧ badA V M k) → FP.Core.val64 (sumD x n) = .nan) ∧ ((∀ k : Nat, k < n → ¬ badA V M k) → FP.Core.val64 (sumD V n) = FP.Core.val64 (sumD x n) ∧ sInv n (sumD V n))
  | 0, _, _ => ⟨fun ⟨k, hk, _⟩ => absurd hk (Nat.not_lt_zero k), fun _ => ⟨rfl, sInv_0⟩⟩
  | n + 1, hn, h => by
    obtain ⟨i1, i2⟩ := sum_sum hv n (by omega) fun k hk => h k (by omega)
    have hx := h n (by omega)
    constructor
    · rintro ⟨k, hk, hb⟩
      show FP.Core.val64 (FP.dadd (sumD x n) (x n)) = .nan
      by_cases ho : ∃ k : Nat, k < n ∧ badA V M k
      · exact FP.Core.dadd_nan (Or.inl (i1 ho))
      · have hkn : k = n := by
          refine Classical.byContradiction fun z => ho ⟨k, by omega, hb⟩
        subst hkn
        obtain ⟨j1, j2⟩ := i2 fun j hj hb2 => ho ⟨j, hj, hb2⟩
        rcases hx with ⟨-, h2⟩ | ⟨h1, h2⟩
        · exact FP.Core.dadd_nan (Or.inr h2)
        · rcases hb with hb | ⟨b1, b2, b3⟩
          · exact absurd h1 hb
          · obtain ⟨s, es⟩ := sInv_end (by omega) j2 b1
            rcases hv k h1 with ⟨t, m, p1, p2, p3⟩ | ⟨t, et⟩
            · exact absurd b2 (endV_fin p1 (by omega))
            · rw [dadd_val, ← j1, ← h2, es, et]
              have hst : s ≠ t := by
                intro e
                subst e
                refine b3 ?_
                rw [dcV_z (by rw [es]; exact fun z => FP.Core.Datum.noConfusion z) (by rw [et]; exact fun z => FP.Core.Datum.noConfusion z), zz_inf es, zz_inf et, if_neg (by omega), if_pos rfl]
              cases s <;> cases t
              · exact absurd rfl hst
              · rfl
              · rfl
              · exact absurd rfl hst
    · intro hg
      obtain ⟨j1, j2⟩ := i2 fun j hj => hg j (by omega)
      have hgn := hg n (by omega)
      have hm : M n = 0 := Classical.byContradiction fun z => hgn (Or.inl z)
      have h2 : FP.Core.val64 (V n) = FP.Core.val64 (x n) := by
        rcases hx with ⟨h1, -⟩ | ⟨-, h2⟩
        · exact absurd hm h1
        · exact h2
      refine ⟨?_, sum_step hn j2 (hv n hm) fun e => hgn (Or.inr e)⟩
      show FP.Core.val64 (FP.dadd (sumD V n) (V n)) = FP.Core.val64 (FP.dadd (sumD x n) (x n))
      rw [dadd_val, dadd_val, j1, h2]
