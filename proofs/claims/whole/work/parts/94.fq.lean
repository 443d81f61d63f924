/-! numbers of traces: quotients -/
theorem quo_eq {f : FP.Core.Fmt} {c d A B W : Nat} {q r : Int} (h0 : f.qmin ≤ 0) (hq : f.qmin ≤ q) (hr : f.qmin ≤ r) (ha : FP.Core.inUnits c q f.qmin = A * 2 ^ (-f.qmin).toNat) (hb : FP.Core.inUnits d r f.qmin = B * 2 ^ (-f.qmin).toNat) : FP.Core.inUnits c (q - r) (2 * f.qmin - r) = A * (2 ^ (-f.qmin).toNat * 2 ^ (-f.qmin).toNat) ∧ W * 2 ^ (f.qmin - (2 * f.qmin - r)).toNat * d = W * (B * 2 ^ (-f.qmin).toNat) := by
  have e1 : FP.Core.inUnits c (q - r) (2 * f.qmin - r) = FP.Core.inUnits c q f.qmin * 2 ^ (-f.qmin).toNat := by
    unfold FP.Core.inUnits
    rw [show (q - r - (2 * f.qmin - r)).toNat = (q - f.qmin).toNat + (-f.qmin).toNat by omega, Nat.pow_add, Nat.mul_assoc]
  have e2 : 2 ^ (f.qmin - (2 * f.qmin - r)).toNat * d = FP.Core.inUnits d r f.qmin := by
    unfold FP.Core.inUnits
    rw [show (f.qmin - (2 * f.qmin - r)).toNat = (r - f.qmin).toNat by omega, Nat.mul_comm]
  refine ⟨?_, ?_⟩
  · rw [e1, ha, Nat.mul_assoc]
  · rw [Nat.mul_assoc, e2, hb]
theorem quo_le {f : FP.Core.Fmt} (hf : FP.Core.Good f) {u : Bool} {c d A B W : Nat} {q r : Int} {V : FP.Core.Datum} (h0 : f.qmin ≤ 0) (hq : f.qmin ≤ q) (hr : f.qmin ≤ r) (ha : FP.Core.inUnits c q f.qmin = A * 2 ^ (-f.qmin).toNat) (hb : FP.Core.inUnits d r f.qmin = B * 2 ^ (-f.qmin).toNat) (hd : 0 < d) (fV : FP.Core.fits f V) (nV : V ≠ .nan) (hV : FP.Core.zmag f V = W * 2 ^ (-f.qmin).toNat) (h : A ≤ W * B) : FP.Core.zmag f (FP.Core.roundRatio f u c d (q - r)) ≤ FP.Core.zmag f V := by
  obtain ⟨e1, e2⟩ := quo_eq (W := FP.Core.zmag f V) h0 hq hr ha hb
  refine FP.Core.zmag_roundRatio_le hf hd fV nV (e0 := 2 * f.qmin - r) (by omega) (by omega) ?_
  rw [e1, e2, hV]
  calc A * (2 ^ (-f.qmin).toNat * 2 ^ (-f.qmin).toNat) ≤ (W * B) * (2 ^ (-f.qmin).toNat * 2 ^ (-f.qmin).toNat) := Nat.mul_le_mul_right _ h
    _ = W * 2 ^ (-f.qmin).toNat * (B * 2 ^ (-f.qmin).toNat) := by
      rw [Nat.mul_assoc, Nat.mul_assoc, Nat.mul_left_comm B]
/-- no less than 2^-14 -/
theorem quo_ge {u : Bool} {c d A B : Nat} {q r : Int} (hq : FP.Core.b64.qmin ≤ q) (hr : FP.Core.b64.qmin ≤ r) (ha : FP.Core.inUnits c q FP.Core.b64.qmin = A * 2 ^ (-FP.Core.b64.qmin).toNat) (hb : FP.Core.inUnits d r FP.Core.b64.qmin = B * 2 ^ (-FP.Core.b64.qmin).toNat) (hd : 0 < d) (h : B ≤ A * 16384) : 2 ^ 1060 ≤ FP.Core.zmag FP.Core.b64 (FP.Core.roundRatio FP.Core.b64 u c d (q - r)) := by
  have hV : FP.Core.zmag FP.Core.b64 (FP.Core.val64 4544132024016830464) = 2 ^ 1060 := by decide +kernel
  have h0 : FP.Core.b64.qmin ≤ 0 := by decide
  rw [← hV]
  obtain ⟨e1, e2⟩ := quo_eq (W := FP.Core.zmag FP.Core.b64 (FP.Core.val64 4544132024016830464)) h0 hq hr ha hb
  refine FP.Core.zmag_roundRatio_ge FP.Core.good_b64 hd (FP.Core.val64_fits _) (e0 := 2 * FP.Core.b64.qmin - r) (by omega) (by omega) ?_
  rw [e1, e2, hV]
  have e3 : (2 : Nat) ^ (-FP.Core.b64.qmin).toNat = 2 ^ 1060 * 16384 := by decide +kernel
  generalize hG : (2 : Nat) ^ (-FP.Core.b64.qmin).toNat = G at *
  generalize (2 : Nat) ^ 1060 = P at *
  calc P * (B * G) ≤ P * ((A * 16384) * G) := Nat.mul_le_mul_left _ (Nat.mul_le_mul_right _ h)
    _ = A * (P * 16384 * G) := by
      rw [Nat.mul_assoc A, Nat.mul_left_comm P A, Nat.mul_assoc P 16384 G]
    _ = A * (G * G) := by rw [← e3]
