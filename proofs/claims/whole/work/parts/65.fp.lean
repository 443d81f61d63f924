/-! floats: exact steps -/
theorem zm_round {s : Bool} {c : Nat} {q : Int} (hc : c < 2 ^ 53) (h1 : FP.Core.b64.qmin ≤ q) (h2 : q ≤ FP.Core.b64.qmax) : FP.Core.sgn (FP.Core.round FP.Core.b64 (.fin s c q)) = s ∧ FP.Core.zmag FP.Core.b64 (FP.Core.round FP.Core.b64 (.fin s c q)) = FP.Core.inUnits c q FP.Core.b64.qmin ∧ ∃ c' q', FP.Core.round FP.Core.b64 (.fin s c q) = .fin s c' q' := by
  obtain ⟨c', q', e1, e2⟩ := FP.Core.round_exact FP.Core.good_b64 s (c := c) (q := q) hc h1 h2
  rw [e1]
  exact ⟨rfl, e2, c', q', rfl⟩
theorem iu_move (c : Nat) {q e : Int} (h1 : FP.Core.b64.qmin ≤ e) (h2 : e ≤ q) : FP.Core.inUnits c q FP.Core.b64.qmin = FP.Core.inUnits c q e * 2 ^ (e - FP.Core.b64.qmin).toNat := FP.Core.inUnits_move c h1 h2
theorem dsub_ex {a b : UInt64} {c d : Nat} {q r : Int} (ha : FP.Core.val64 a = .fin false c q) (hb : FP.Core.val64 b = .fin false d r) (h1 : FP.Core.inUnits d r FP.Core.b64.qmin ≤ FP.Core.inUnits c q FP.Core.b64.qmin) (h2 : FP.Core.inUnits c q FP.Core.b64.qmin < 2 * FP.Core.inUnits d r FP.Core.b64.qmin) : ∃ c' q', FP.Core.val64 (FP.dsub a b) = .fin false c' q' ∧ FP.Core.inUnits c' q' FP.Core.b64.qmin = FP.Core.inUnits c q FP.Core.b64.qmin - FP.Core.inUnits d r FP.Core.b64.qmin := by
  have fa := FP.Core.val64_fits a
  have fb := FP.Core.val64_fits b
  rw [ha] at fa
  rw [hb] at fb
  obtain ⟨a1, a2, a3, a4⟩ := fa
  obtain ⟨b1, b2, b3, b4⟩ := fb
  have hm1 : FP.Core.b64.qmin ≤ min q r := by omega
  have ec := iu_move c hm1 (show min q r ≤ q by omega)
  have ed := iu_move d hm1 (show min q r ≤ r by omega)
  have hp : 0 < 2 ^ (min q r - FP.Core.b64.qmin).toNat := Nat.two_pow_pos _
  generalize hx : FP.Core.inUnits c q (min q r) = x at ec
  generalize hy : FP.Core.inUnits d r (min q r) = y at ed
  generalize hw : 2 ^ (min q r - FP.Core.b64.qmin).toNat = w at ec ed hp
  rw [ec, ed] at h1 h2
  have k1 : y ≤ x := Nat.le_of_mul_le_mul_right h1 hp
  have k2 : x < 2 * y := by
    rw [← Nat.mul_assoc] at h2
    exact Nat.lt_of_mul_lt_mul_right h2
  have hy53 : x - y < 2 ^ 53 := by
    by_cases e : r ≤ q
    · have : y = d := by rw [← hy]; unfold FP.Core.inUnits; rw [show (r - min q r).toNat = 0 by omega]; simp
      have b5 : d < 2 ^ 53 := b1
      omega
    · have : x = c := by rw [← hx]; unfold FP.Core.inUnits; rw [show (q - min q r).toNat = 0 by omega]; simp
      have a5 : c < 2 ^ 53 := a1
      omega
  have ev : FP.Core.sumUnits false c q true d r (min q r) = ((x - y : Nat) : Int) := by
    unfold FP.Core.sumUnits FP.Core.signed
    rw [hx, hy]
    simp
    omega
  obtain ⟨c', q', e1, e2⟩ := FP.Core.round_exact FP.Core.good_b64 false (c := x - y) (q := min q r) hy53 hm1 (by omega)
  refine ⟨c', q', ?_, ?_⟩
  · show FP.Core.val64 (FP.Core.dsub a b) = _
    rw [FP.Core.val64_dsub, ha, hb, ← e1]
    show FP.Core.round FP.Core.b64 (.fin (FP.Core.sumSign false (!false) (FP.Core.sumUnits false c q (!false) d r (min q r))) (FP.Core.sumUnits false c q (!false) d r (min q r)).natAbs (min q r)) = _
    have ev2 : FP.Core.sumUnits false c q (!false) d r (min q r) = ((x - y : Nat) : Int) := ev
    rw [ev2, Int.natAbs_natCast]
    have es : FP.Core.sumSign false (!false) ((x - y : Nat) : Int) = false := by
      unfold FP.Core.sumSign
      split
      · rfl
      · exact decide_eq_false (by omega)
    rw [es]
  · rw [e2, ec, ed]
    have := iu_move (x - y) hm1 (show min q r ≤ min q r by omega)
    rw [this]
    unfold FP.Core.inUnits
    rw [Int.sub_self, hw]
    simp [Nat.sub_mul]
theorem val_two : FP.Core.val64 4611686018427387904 = .fin false 4503599627370496 (-51) := by decide +kernel
theorem ddbl_ex {a : UInt64} {s : Bool} {c : Nat} {q : Int} (ha : FP.Core.val64 a = .fin s c q) (hq : q + 1 ≤ FP.Core.b64.qmax) : ∃ c' q', FP.Core.val64 (FP.dmul a 4611686018427387904) = .fin s c' q' ∧ FP.Core.inUnits c' q' FP.Core.b64.qmin = 2 * FP.Core.inUnits c q FP.Core.b64.qmin := by
  have fa := FP.Core.val64_fits a
  rw [ha] at fa
  obtain ⟨a1, a2, a3, a4⟩ := fa
  obtain ⟨c', q', e1, e2⟩ := FP.Core.round_exact FP.Core.good_b64 s (c := c) (q := q + 1) a1 (by omega) hq
  refine ⟨c', q', ?_, ?_⟩
  · show FP.Core.val64 (FP.Core.dmul a 4611686018427387904) = _
    rw [FP.Core.val64_dmul, ha, val_two, ← e1]
    show FP.Core.roundRatio FP.Core.b64 (s != false) (c * 4503599627370496) 1 (q + -51) = FP.Core.roundRatio FP.Core.b64 s c 1 (q + 1)
    rw [show (s != false) = s by cases s <;> rfl]
    refine FP.Core.roundRatio_congr (by decide) (by decide) ?_
    rw [show (q + -51 - (q + 1)).toNat = 0 by omega, show (q + 1 - (q + -51)).toNat = 52 by omega]
    omega
  · rw [e2]
    unfold FP.Core.inUnits
    rw [show (q + 1 - FP.Core.b64.qmin).toNat = (q - FP.Core.b64.qmin).toNat + 1 by omega, Nat.pow_succ]
    generalize 2 ^ (q - FP.Core.b64.qmin).toNat = w
    rw [← Nat.mul_assoc, Nat.mul_comm]
theorem dhlf_ex {a : UInt64} {s : Bool} {c : Nat} {q : Int} (ha : FP.Core.val64 a = .fin s c q) (hq : FP.Core.b64.qmin ≤ q - 1) : ∃ c' q', FP.Core.val64 (FP.ddiv a 4611686018427387904) = .fin s c' q' ∧ 2 * FP.Core.inUnits c' q' FP.Core.b64.qmin = FP.Core.inUnits c q FP.Core.b64.qmin := by
  have fa := FP.Core.val64_fits a
  rw [ha] at fa
  obtain ⟨a1, a2, a3, a4⟩ := fa
  obtain ⟨c', q', e1, e2⟩ := FP.Core.round_exact FP.Core.good_b64 s (c := c) (q := q - 1) a1 hq (by omega)
  refine ⟨c', q', ?_, ?_⟩
  · show FP.Core.val64 (FP.Core.ddiv a 4611686018427387904) = _
    rw [FP.Core.val64_ddiv, ha, val_two, ← e1]
    show (if (4503599627370496 : Nat) = 0 then (if c = 0 then FP.Core.Datum.nan else .inf (s != false)) else FP.Core.roundRatio FP.Core.b64 (s != false) c 4503599627370496 (q - -51)) = FP.Core.roundRatio FP.Core.b64 s c 1 (q - 1)
    rw [if_neg (by decide), show (s != false) = s by cases s <;> rfl]
    refine FP.Core.roundRatio_congr (by decide) (by decide) ?_
    rw [show (q - -51 - (q - 1)).toNat = 52 by omega, show (q - 1 - (q - -51)).toNat = 0 by omega]
    omega
  · rw [e2]
    unfold FP.Core.inUnits
    rw [show (q - FP.Core.b64.qmin).toNat = (q - 1 - FP.Core.b64.qmin).toNat + 1 by omega, Nat.pow_succ]
    generalize 2 ^ (q - 1 - FP.Core.b64.qmin).toNat = w
    rw [← Nat.mul_assoc c w 2, Nat.mul_comm 2]
