/-! floats: exact steps -/
theorem zm_round {s : Bool} {c : Nat} {q : Int} (hc : c < 2 ^ 53) (h1 : FP.Core.b64.qmin ≤ q) (h2 : q ≤ FP.Core.b64.qmax) : FP.Core.sgn (FP.Core.round FP.Core.b64 (.fin s c q)) = s ∧ FP.Core.zmag FP.Core.b64 (FP.Core.round FP.Core.b64 (.fin s c q)) = FP.Core.inUnits c q FP.Core.b64.qmin ∧ ∃ c' q', FP.Core.round FP.Core.b64 (.fin s c q) = .fin s c' q' := by
  obtain ⟨c', q', e1, e2⟩ := FP.Core.round_exact FP.Core.good_b64 s (c := c) (q := q) hc h1 h2
  rw [e1]
  exact ⟨rfl, e2, c', q', rfl⟩
