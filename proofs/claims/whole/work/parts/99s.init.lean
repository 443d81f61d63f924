/-! one state at the start -/
theorem R_init : REL (fun _ => 0) (fun _ => 0) (fun _ => 0) (n_begin (fun _ => 0) 2) (fun _ _ => 0) (n_begin (fun _ => 0) 2) (fun _ _ => 0) (n_begin (fun _ => 0) 2) (fun _ _ => 0) (fun _ => n_begin (fun _ => 0) 2) (fun _ _ _ => 0) (fun _ => 0) (fun _ _ => 0) (fun _ => 0) (fun _ _ => 0) (fun _ _ => 0) (fun _ _ => 0) (fun _ _ => 0) (fun _ _ => 0) mI0 mA2 (fun _ => 0) (fun _ => 0) := by
  have hs : smI (fun _ => 0) := sm_0I
  have hsA : smA (fun _ _ => 0) := sm_0A
  have hb : smI (n_begin (fun _ => 0) 2) := sm_put (sm_put (sm_put (sm_put (sm_put (sm_put hs (by decide)) (by decide)) (by decide)) (by decide)) (by decide)) (by decide)
  have hO : okN (n_begin (fun _ => 0) 2) (fun _ _ => 0) := ⟨by decide, by decide, by decide, by decide, by decide, by decide, fun p hp => absurd (show (p : Int) < 0 from hp) (by omega)⟩
  have hm : ∀ a : Nat → Int, a 0 = 99 → mNv (n_begin (fun _ => 0) 2) (fun _ _ => 0) (mI0 1) (mI0 2) (mI0 5) (mI0 6) (mI0 7) a (mA2 3) (mA2 4) := fun a h => ⟨rfl, rfl, rfl, rfl, h.symm, rfl, fun p hp => absurd (show (p : Int) < 0 from hp) (by omega)⟩
  have e10 : mA2 10 = fun _ => 0 := rfl
  have e9 : mA2 9 = fun _ => 0 := rfl
  refine ⟨⟨hs, fun _ => (show (0 : Int) ≤ 0 ∧ (0 : Int) < 65536 by decide), by decide, rfl, e10.symm⟩, ⟨hb, hsA, hO, hm _ rfl⟩, ⟨hb, hsA, hO, hm _ rfl⟩, ⟨hb, hsA⟩, ⟨fun _ => Or.inl rfl, fun k => by rw [e9]; exact Or.inl rfl, fun k hk => ⟨by rw [e9], hb, hsA, fun e => absurd (show (0 : Int) = 1 from e) (by decide)⟩⟩, ⟨hs, hsA, by decide, by decide, rfl, fun _ => Or.inr (show (0 : Int) ≤ 0 ∧ (0 : Int) < 16 by decide), hring_0⟩, ⟨hs, hsA, fun _ _ => Or.inr (show (-1700 : Int) ≤ 0 ∧ (0 : Int) ≤ 10000 by decide)⟩, ⟨mI0_sm, mA2_sm, ?_, ?_⟩, ?_⟩
  · unfold mwOK
    decide +kernel
  · intro t
    show -1 ≤ sU (sU (sU (fun _ => 0) 0 (-1)) 1 (-1)) 2 (-1) t ∧ sU (sU (sU (fun _ => 0) 0 (-1)) 1 (-1)) 2 (-1) t ≤ 8
    unfold sU
    split
    · decide
    · split
      · decide
      · split
        · decide
        · exact (show (-1 : Int) ≤ 0 ∧ (0 : Int) ≤ 8 by decide)
  · intro t ht
    refine ⟨hs, fun _ => Or.inl rfl, Or.inl rfl, (show (0 : Int) ≤ 0 ∧ (0 : Int) ≤ 8 by decide), fun _ => ⟨?_, rfl⟩, fun e => absurd (show (0 : Int) = 1 from e) (by decide), fun _ _ => pl_0⟩
    rcases (show t = 0 ∨ t = 1 ∨ t = 2 by omega) with rfl | rfl | rfl <;> rfl
