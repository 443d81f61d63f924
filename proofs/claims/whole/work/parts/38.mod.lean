/-! the reference: rings in their order -/
def rg_m (b : Nat → Int) (r : List Int) : Bool := decide (rg_es (fun i j => b (8 * i + j)) r + b (8 * (rg_l r).toNat + (rg_f r).toNat) < 0)
def rg_sm (b R : Nat → Int) (m : Int) : Nat → Int
  | 0 => 0
  | k + 1 => rg_sm b R m k + b (8 * R k + R (((k : Int) + 1).tmod m).toNat).toNat
theorem rg_sm_r {b R : Nat → Int} {m : Int} (hb : smR b) : ∀ k : Nat, -1000000 * (k : Int) ≤ rg_sm b R m k ∧ rg_sm b R m k ≤ 1000000 * (k : Int)
  | 0 => by simp [rg_sm]
  | k + 1 => by
    have h1 := rg_sm_r (R := R) (m := m) hb k
    have h2 := hb (8 * R k + R (((k : Int) + 1).tmod m).toNat).toNat
    rw [rg_sm]
    omega
theorem rg_take {R : Nat → Int} {r : List Int} (h : rg_at R r) {k : Nat} (hk : k < r.length) : r.take (k + 1) = r.take k ++ [R k] := by
  rw [h k hk, List.take_add_one, List.getElem?_eq_getElem hk, List.getD_eq_getElem?_getD, List.getElem?_eq_getElem hk]
  rfl
theorem rg_sm_es {b R : Nat → Int} {r : List Int} (h : rg_at R r) (h0 : ∀ x ∈ r, 0 ≤ x) : ∀ k : Nat, k + 1 ≤ r.length → rg_sm b R (r.length : Int) k = rg_es (fun i j => b (8 * i + j)) (r.take (k + 1))
  | 0, hk => by
    rw [rg_take h (by omega)]
    rfl
  | k + 1, hk => by
    have e1 : ((k : Int) + 1).tmod (r.length : Int) = ((k + 1 : Nat) : Int) := Int.tmod_eq_of_lt (by omega) (by omega)
    have m1 : 0 ≤ R k := h0 _ ((rg_mem h (R k)).mpr ⟨k, by omega, rfl⟩)
    have m2 : 0 ≤ R (k + 1) := h0 _ ((rg_mem h (R (k + 1))).mpr ⟨k + 1, by omega, rfl⟩)
    have e2 : rg_l (r.take (k + 1)) = R k := by rw [rg_take h (by omega), rg_l_app]
    rw [rg_sm, rg_sm_es h h0 k (by omega), e1, Int.toNat_natCast, rg_take h (k := k + 1) (by omega), rg_es_app _ _ (by rw [rg_take h (by omega)]; simp), e2]
    congr 2
    omega
theorem rg_m_iff {b R : Nat → Int} {r : List Int} (h : rg_at R r) (h0 : ∀ x ∈ r, 0 ≤ x) (hp : 0 < r.length) : rg_m b r = true ↔ rg_sm b R (r.length : Int) r.length < 0 := by
  have e : rg_sm b R (r.length : Int) r.length = rg_es (fun i j => b (8 * i + j)) r + b (8 * (rg_l r).toNat + (rg_f r).toNat) := by
    have h1 := rg_sm_es (b := b) h h0 (r.length - 1) (by omega)
    rw [show r.length - 1 + 1 = r.length by omega, List.take_length] at h1
    have m1 := h0 _ (rg_l_mem hp)
    have m2 := h0 _ (rg_f_mem hp)
    have e1 : (((r.length - 1 : Nat) : Int) + 1).tmod (r.length : Int) = 0 := by
      rw [show ((r.length - 1 : Nat) : Int) + 1 = (r.length : Int) by omega]
      exact Int.tmod_self
    have h2 : rg_sm b R (r.length : Int) (r.length - 1 + 1) = rg_sm b R (r.length : Int) (r.length - 1) + b (8 * R (r.length - 1) + R 0).toNat := by
      rw [rg_sm, e1]
      rfl
    rw [show r.length - 1 + 1 = r.length by omega] at h2
    rw [h2, h1, rg_at_l h hp, rg_at_f h hp]
    congr 2
    omega
  unfold rg_m
  rw [decide_eq_true_iff, e]
set_option maxRecDepth 100000 in
set_option maxHeartbeats 4000000 in
theorem lp_X8_ir {p9 : Program} {l : Launch} {e9 : Env} {s9 : State} {m9 : MethodId} {a9 : Array Value} {b9 : List Frame} {t9 : Method} {c9 : Code} {D : va_G} {A9 : Nat → Prop} {Q9 : State → Prop} {E : (Nat → Prop) → State → Heap → Prop} {Y : Nat → ClassId} (C : g_Cx p9 s9 m9 a9 c9 cX8_isInRing 4 RX8 D (tysY Y) A9 E) (q : Nat → Nat) (I : Nat → Int) (A : Nat → Nat → Int) (F : Nat → UInt32) (Dd : Nat → UInt64) (r : List Int) (x : Int) (hsI : smI I) (hsA : smA A) (hN : okN (mJ I A) (mN A)) (hr9 : rg_at (A 33) r) (hm : I 34 = (r.length : Int)) (hG : rg_G (I 1) r) (hx : inR x) : ∀ (n9 : Nat) (k : Nat) (v : Int), (k : Int) + n9 = I 34 → ((v = 0 ∧ ∀ i, i < k → A 33 i ≠ x) ∨ (v = 1 ∧ x ∈ r)) → (∀ k : Nat, g_G p9 l e9 ({ frames := 0, cells := 0, slots := 0, locals := 0 } : Room) s9 m9 a9 b9 t9 c9 4 D A9 Q9 0 0 (wMod q Y I A F Dd) [(3, .int (iI ((k : Nat) : Int))), (2, .int (iI (if x ∈ r then 1 else 0))), (0, .ref (q 99)), (1, .int (iI x))] 38 []) → g_G p9 l e9 ({ frames := 0, cells := 0, slots := 0, locals := 0 } : Room) s9 m9 a9 b9 t9 c9 4 D A9 Q9 0 0 (wMod q Y I A F Dd) [(3, .int (iI ((k : Nat) : Int))), (2, .int (iI v)), (0, .ref (q 99)), (1, .int (iI x))] 4 [] := by
  have hE := C.2.2.2.2.2.2.2.2.1
  intro n9
  induction n9 with
  | zero =>
    intro k v hk hv K
    have hI := hsI
    have hA := hsA
    unfold smI at hI
    unfold smA at hA
    have hN9 := hN
    unfold okN at hN9
    simp only [mJ, mN] at hN9
    have hG1 := hG.1
    have hG2 := hG.2.1
    have hx9 := hx
    unfold inR at hx9
    refine g_iload_n C (n' := 5) 0 rfl dX8_isInRing_4 rfl rfl ?_
    refine g_aload_n C (n' := 6) 2 rfl dX8_isInRing_5 rfl rfl ?_
    refine g_get C (n' := 9) (Cn := RX8) (T := TX8) (N := 35) (ci := 6) (v := .int (iI (I 34))) ga_X8 0 rfl rfl 34 (by decide) kw_724 rfl rfl dX8_isInRing_6 rfl ?_
    have h_6 := hI 34
    refine g_icmp_ge C (n' := 12) 38 dX8_isInRing_9 (by decide) rfl (by unfold inR; omega) (by unfold inR; omega) (fun c1 => ?_) (fun c1 => ?_)
    · skip
      have ev : v = (if x ∈ r then 1 else 0) := by
        rcases hv with ⟨e, h⟩ | ⟨e, h⟩
        · rw [e, if_neg (fun q => by
            obtain ⟨i, hi, e2⟩ := (rg_mem hr9 x).mp q
            exact h i (by omega) e2)]
        · rw [e, if_pos h]
      rw [ev]
      exact K k
    · skip
      exfalso
      omega
  | succ n9 ih =>
    intro k v hk hv K
    have hI := hsI
    have hA := hsA
    unfold smI at hI
    unfold smA at hA
    have hN9 := hN
    unfold okN at hN9
    simp only [mJ, mN] at hN9
    have hG1 := hG.1
    have hG2 := hG.2.1
    have hx9 := hx
    unfold inR at hx9
    refine g_iload_n C (n' := 5) 0 rfl dX8_isInRing_4 rfl rfl ?_
    refine g_aload_n C (n' := 6) 2 rfl dX8_isInRing_5 rfl rfl ?_
    refine g_get C (n' := 9) (Cn := RX8) (T := TX8) (N := 35) (ci := 6) (v := .int (iI (I 34))) ga_X8 0 rfl rfl 34 (by decide) kw_724 rfl rfl dX8_isInRing_6 rfl ?_
    have h_6 := hI 34
    refine g_icmp_ge C (n' := 12) 38 dX8_isInRing_9 (by decide) rfl (by unfold inR; omega) (by unfold inR; omega) (fun c1 => ?_) (fun c1 => ?_)
    · skip
      exfalso
      omega
    · skip
      refine g_iload_n C (n' := 13) 1 rfl dX8_isInRing_12 rfl rfl ?_
      refine g_if_ne C (n' := 16) 26 dX8_isInRing_13 (by decide) rfl (by unfold inR; omega) (fun c2 => ?_) (fun c2 => ?_)
      · skip
        refine g_iconst C (n' := 27) dX8_isInRing_26 rfl ?_
        refine g_goto C 31 dX8_isInRing_27 (by decide) ?_
        refine g_istore_n C (n' := 32) [(2, .int (iI 1)), (3, .int (iI ((k : Nat) : Int))), (0, .ref (q 99)), (1, .int (iI x))] dX8_isInRing_31 rfl rfl (by decide) rfl ?_
        refine g_iinc C (n' := 35) 1 [(3, .int (iI (((k : Nat) : Int) + 1))), (2, .int (iI 1)), (0, .ref (q 99)), (1, .int (iI x))] rfl dX8_isInRing_32 rfl (by decide) rfl ?_
        refine g_goto C 4 dX8_isInRing_35 (by decide) ?_
        refine g_lv (lv' := [(3, .int (iI (((k : Nat) : Int) + 1))), (2, .int (iI 1)), (0, .ref (q 99)), (1, .int (iI x))]) [0, 1, 2, 3] rfl ?_
        exact ih (k + 1) 1 (by omega) (Or.inr ⟨rfl, by rcases hv with h | h; exact absurd h.1 c2; exact h.2⟩) K
      · skip
        refine g_aload_n C (n' := 17) 2 rfl dX8_isInRing_16 rfl rfl ?_
        refine g_get C (n' := 20) (Cn := RX8) (T := TX8) (N := 35) (ci := 6) (v := .ref (q 33)) ga_X8 0 rfl rfl 33 (by decide) kw_723 rfl rfl dX8_isInRing_17 rfl ?_
        refine g_iload_n C (n' := 21) 0 rfl dX8_isInRing_20 rfl rfl ?_
        refine g_ialdN C (n' := 22) (f := (A 33)) (j := k) 21 0 rfl rfl (by omega) (by decide) rfl dX8_isInRing_21 rfl ?_
        have h_21 := hA 33 k
        refine g_iload_n C (n' := 23) 3 rfl dX8_isInRing_22 rfl rfl ?_
        refine g_icmp_ne C (n' := 26) 30 dX8_isInRing_23 (by decide) rfl (by unfold inR; omega) (by unfold inR; omega) (fun c3 => ?_) (fun c3 => ?_)
        · skip
          refine g_iconst C (n' := 31) dX8_isInRing_30 rfl ?_
          refine g_istore_n C (n' := 32) [(2, .int (iI 0)), (3, .int (iI ((k : Nat) : Int))), (0, .ref (q 99)), (1, .int (iI x))] dX8_isInRing_31 rfl rfl (by decide) rfl ?_
          refine g_iinc C (n' := 35) 1 [(3, .int (iI (((k : Nat) : Int) + 1))), (2, .int (iI 0)), (0, .ref (q 99)), (1, .int (iI x))] rfl dX8_isInRing_32 rfl (by decide) rfl ?_
          refine g_goto C 4 dX8_isInRing_35 (by decide) ?_
          refine g_lv (lv' := [(3, .int (iI (((k : Nat) : Int) + 1))), (2, .int (iI 0)), (0, .ref (q 99)), (1, .int (iI x))]) [0, 1, 2, 3] rfl ?_
          exact ih (k + 1) 0 (by omega) (Or.inl ⟨rfl, fun i hi => by
            rcases hv with h | h
            · by_cases e : i = k
              · rw [e]
                exact c3
              · exact h.2 i (by omega)
            · exact absurd h.1 (by omega)⟩) K
        · skip
          refine g_iconst C (n' := 27) dX8_isInRing_26 rfl ?_
          refine g_goto C 31 dX8_isInRing_27 (by decide) ?_
          refine g_istore_n C (n' := 32) [(2, .int (iI 1)), (3, .int (iI ((k : Nat) : Int))), (0, .ref (q 99)), (1, .int (iI x))] dX8_isInRing_31 rfl rfl (by decide) rfl ?_
          refine g_iinc C (n' := 35) 1 [(3, .int (iI (((k : Nat) : Int) + 1))), (2, .int (iI 1)), (0, .ref (q 99)), (1, .int (iI x))] rfl dX8_isInRing_32 rfl (by decide) rfl ?_
          refine g_goto C 4 dX8_isInRing_35 (by decide) ?_
          refine g_lv (lv' := [(3, .int (iI (((k : Nat) : Int) + 1))), (2, .int (iI 1)), (0, .ref (q 99)), (1, .int (iI x))]) [0, 1, 2, 3] rfl ?_
          exact ih (k + 1) 1 (by omega) (Or.inr ⟨rfl, (rg_mem hr9 x).mpr ⟨k, by omega, Decidable.not_not.mp c3⟩⟩) K
set_option maxRecDepth 100000 in
set_option maxHeartbeats 4000000 in
theorem c_X8_isInRing (l : Launch) (D : va_G) (Y : Nat → ClassId) {E : (Nat → Prop) → State → Heap → Prop} (hE : g_Stab E) (q : Nat → Nat) (I : Nat → Int) (A : Nat → Nat → Int) (F : Nat → UInt32) (Dd : Nat → UInt64) (x : Int) (r : List Int) (hsI : smI I) (hsA : smA A) (hN : okN (mJ I A) (mN A)) (hr9 : rg_at (A 33) r) (hm : I 34 = (r.length : Int)) (hG : rg_G (I 1) r) (hx : inR x) : g_Ct l yX8_isInRing cX8_isInRing 4 (some FieldType.boolean) ({ frames := 0, cells := 0, slots := 0, locals := 0 } : Room) D (tysY Y) E [.ref (q 99), .int (iI x)] (wMod q Y I A F Dd) 0 0 (g_det (some (.int (iI (if x ∈ r then 1 else 0)))) (wMod q Y I A F Dd)) := by
  refine g_ofG (own := RX8) hE (by decide) rfl (Nat.le_of_ble_eq_true rfl) [(0, .ref (q 99)), (1, .int (iI x))] rfl ?_
  intro p9 e9 s9 m9 b9 t9 c9 A9 C hr hlk hnm
  have hI := hsI
  have hA := hsA
  unfold smI at hI
  unfold smA at hA
  have hN9 := hN
  unfold okN at hN9
  simp only [mJ, mN] at hN9
  have hG1 := hG.1
  have hG2 := hG.2.1
  have hx9 := hx
  unfold inR at hx9
  refine g_iconst C (n' := 1) dX8_isInRing_0 rfl ?_
  refine g_istore_n C (n' := 2) [(2, .int (iI 0)), (0, .ref (q 99)), (1, .int (iI x))] dX8_isInRing_1 rfl rfl (by decide) rfl ?_
  refine g_iconst C (n' := 3) dX8_isInRing_2 rfl ?_
  refine g_istore_n C (n' := 4) [(3, .int (iI 0)), (2, .int (iI 0)), (0, .ref (q 99)), (1, .int (iI x))] dX8_isInRing_3 rfl rfl (by decide) rfl ?_
  refine g_lv (lv' := [(3, .int (iI ((0 : Nat) : Int))), (2, .int (iI 0)), (0, .ref (q 99)), (1, .int (iI x))]) [0, 1, 2, 3] rfl ?_
  refine lp_X8_ir C q I A F Dd r x hsI hsA hN hr9 hm hG hx r.length 0 0 (by omega) (Or.inl ⟨rfl, fun i hi => absurd hi (Nat.not_lt_zero i)⟩) (fun k => ?_)
  refine g_iload_n C (n' := 39) 1 rfl dX8_isInRing_38 rfl rfl ?_
  refine g_iret C hr hlk (nar_z bz_01) ⟨congrArg (fun z : Int => some (Value.int (iI z))) ?_, ?_⟩ dX8_isInRing_39
  · first | rfl | omega | ((repeat' split) <;> first | rfl | omega | (exfalso; omega))
  · first | rfl | omega | ((repeat' split) <;> first | rfl | omega | (exfalso; omega))
set_option maxRecDepth 100000 in
set_option maxHeartbeats 4000000 in
theorem lp_X8_ibl {p9 : Program} {l : Launch} {e9 : Env} {s9 : State} {m9 : MethodId} {a9 : Array Value} {b9 : List Frame} {t9 : Method} {c9 : Code} {D : va_G} {A9 : Nat → Prop} {Q9 : State → Prop} {E : (Nat → Prop) → State → Heap → Prop} {Y : Nat → ClassId} (C : g_Cx p9 s9 m9 a9 c9 cX8_isBelow 3 RX8 D (tysY Y) A9 E) (q : Nat → Nat) (I : Nat → Int) (A : Nat → Nat → Int) (F : Nat → UInt32) (Dd : Nat → UInt64) (r : List Int) (hsI : smI I) (hsA : smA A) (hN : okN (mJ I A) (mN A)) (hr9 : rg_at (A 33) r) (hm : I 34 = (r.length : Int)) (hG : rg_G (I 1) r) : ∀ (n9 : Nat) (k : Nat), (k : Int) + n9 = I 34 → (g_G p9 l e9 ({ frames := 0, cells := 0, slots := 0, locals := 0 } : Room) s9 m9 a9 b9 t9 c9 3 D A9 Q9 0 0 (wMod q Y I A F Dd) [(2, .int (iI ((r.length : Nat) : Int))), (1, .int (iI (rg_sm (A 32) (A 33) (I 34) r.length))), (0, .ref (q 99))] 49 []) → g_G p9 l e9 ({ frames := 0, cells := 0, slots := 0, locals := 0 } : Room) s9 m9 a9 b9 t9 c9 3 D A9 Q9 0 0 (wMod q Y I A F Dd) [(2, .int (iI ((k : Nat) : Int))), (1, .int (iI (rg_sm (A 32) (A 33) (I 34) k))), (0, .ref (q 99))] 4 [] := by
  have hE := C.2.2.2.2.2.2.2.2.1
  intro n9
  induction n9 with
  | zero =>
    intro k hk K
    have hI := hsI
    have hA := hsA
    unfold smI at hI
    unfold smA at hA
    have hN9 := hN
    unfold okN at hN9
    simp only [mJ, mN] at hN9
    have hG1 := hG.1
    have hG2 := hG.2.1
    refine g_iload_n C (n' := 5) 0 rfl dX8_isBelow_4 rfl rfl ?_
    refine g_aload_n C (n' := 6) 2 rfl dX8_isBelow_5 rfl rfl ?_
    refine g_get C (n' := 9) (Cn := RX8) (T := TX8) (N := 35) (ci := 6) (v := .int (iI (I 34))) ga_X8 0 rfl rfl 34 (by decide) kw_724 rfl rfl dX8_isBelow_6 rfl ?_
    have h_6 := hI 34
    refine g_icmp_ge C (n' := 12) 49 dX8_isBelow_9 (by decide) rfl (by unfold inR; omega) (by unfold inR; omega) (fun c1 => ?_) (fun c1 => ?_)
    · skip
      have ek : k = r.length := by omega
      subst ek
      exact K
    · skip
      exfalso
      omega
  | succ n9 ih =>
    intro k hk K
    have hI := hsI
    have hA := hsA
    unfold smI at hI
    unfold smA at hA
    have hN9 := hN
    unfold okN at hN9
    simp only [mJ, mN] at hN9
    have hG1 := hG.1
    have hG2 := hG.2.1
    refine g_iload_n C (n' := 5) 0 rfl dX8_isBelow_4 rfl rfl ?_
    refine g_aload_n C (n' := 6) 2 rfl dX8_isBelow_5 rfl rfl ?_
    refine g_get C (n' := 9) (Cn := RX8) (T := TX8) (N := 35) (ci := 6) (v := .int (iI (I 34))) ga_X8 0 rfl rfl 34 (by decide) kw_724 rfl rfl dX8_isBelow_6 rfl ?_
    have h_6 := hI 34
    refine g_icmp_ge C (n' := 12) 49 dX8_isBelow_9 (by decide) rfl (by unfold inR; omega) (by unfold inR; omega) (fun c1 => ?_) (fun c1 => ?_)
    · skip
      exfalso
      omega
    · skip
      have hs9 := rg_sm_r (R := A 33) (m := I 34) (fun j => hA 32 j) k
      have hk9 := hG.2.2.2.1 _ ((rg_mem hr9 (A 33 k)).mpr ⟨k, by omega, rfl⟩)
      refine g_iload_n C (n' := 13) 1 rfl dX8_isBelow_12 rfl rfl ?_
      refine g_aload_n C (n' := 14) 2 rfl dX8_isBelow_13 rfl rfl ?_
      refine g_get C (n' := 17) (Cn := RX8) (T := TX8) (N := 35) (ci := 6) (v := .ref (q 32)) ga_X8 0 rfl rfl 32 (by decide) kw_722 rfl rfl dX8_isBelow_14 rfl ?_
      refine g_bipush C (n' := 19) (by decide) dX8_isBelow_17 rfl ?_
      refine g_aload_n C (n' := 20) 2 rfl dX8_isBelow_19 rfl rfl ?_
      refine g_get C (n' := 23) (Cn := RX8) (T := TX8) (N := 35) (ci := 6) (v := .ref (q 33)) ga_X8 0 rfl rfl 33 (by decide) kw_723 rfl rfl dX8_isBelow_20 rfl ?_
      refine g_iload_n C (n' := 24) 0 rfl dX8_isBelow_23 rfl rfl ?_
      refine g_ialdN C (n' := 25) (f := (A 33)) (j := k) 21 0 rfl rfl (by omega) (by decide) rfl dX8_isBelow_24 rfl ?_
      have h_24 := hA 33 k
      refine g_imul C (n' := 26) dX8_isBelow_25 rfl ?_
      refine g_aload_n C (n' := 27) 2 rfl dX8_isBelow_26 rfl rfl ?_
      refine g_get C (n' := 30) (Cn := RX8) (T := TX8) (N := 35) (ci := 6) (v := .ref (q 33)) ga_X8 0 rfl rfl 33 (by decide) kw_723 rfl rfl dX8_isBelow_27 rfl ?_
      refine g_iload_n C (n' := 31) 0 rfl dX8_isBelow_30 rfl rfl ?_
      refine g_iconst C (n' := 32) dX8_isBelow_31 rfl ?_
      refine g_iadd C (n' := 33) dX8_isBelow_32 rfl ?_
      refine g_aload_n C (n' := 34) 2 rfl dX8_isBelow_33 rfl rfl ?_
      refine g_get C (n' := 37) (Cn := RX8) (T := TX8) (N := 35) (ci := 6) (v := .int (iI (I 34))) ga_X8 0 rfl rfl 34 (by decide) kw_724 rfl rfl dX8_isBelow_34 rfl ?_
      have h_34 := hI 34
      refine g_irem C (n' := 38) (by unfold inR; omega) (by unfold inR; omega) (by omega) (fd_r (by unfold inR; omega) (by omega)) dX8_isBelow_37 rfl ?_
      have ht1 := Int.tmod_nonneg (I 34) (show 0 ≤ (k : Int) + 1 by omega)
      have ht2 := Int.tmod_lt_of_pos ((k : Int) + 1) (show 0 < I 34 by omega)
      have ht3 := hG.2.2.2.1 _ ((rg_mem hr9 (A 33 (((k : Int) + 1).tmod (I 34)).toNat)).mpr ⟨(((k : Int) + 1).tmod (I 34)).toNat, by omega, rfl⟩)
      refine g_iald C (n' := 39) (f := (A 33)) 21 0 rfl rfl (by omega) (by omega) (by decide) rfl dX8_isBelow_38 rfl ?_
      have h_38 := hA 33 (((((k : Nat) : Int) + 1).tmod (I 34)).toNat)
      refine g_iadd C (n' := 40) dX8_isBelow_39 rfl ?_
      refine g_iald C (n' := 41) (f := (A 32)) 20 0 rfl rfl (by omega) (by omega) (by decide) rfl dX8_isBelow_40 rfl ?_
      have h_40 := hA 32 (((8 * ((A 33) k)) + ((A 33) ((((k : Nat) : Int) + 1).tmod (I 34)).toNat)).toNat)
      refine g_iadd C (n' := 42) dX8_isBelow_41 rfl ?_
      refine g_istore_n C (n' := 43) [(1, .int (iI ((rg_sm (A 32) (A 33) (I 34) k) + ((A 32) ((8 * ((A 33) k)) + ((A 33) ((((k : Nat) : Int) + 1).tmod (I 34)).toNat)).toNat)))), (2, .int (iI ((k : Nat) : Int))), (0, .ref (q 99))] dX8_isBelow_42 rfl rfl (by decide) rfl ?_
      refine g_iinc C (n' := 46) 1 [(2, .int (iI (((k : Nat) : Int) + 1))), (1, .int (iI ((rg_sm (A 32) (A 33) (I 34) k) + ((A 32) ((8 * ((A 33) k)) + ((A 33) ((((k : Nat) : Int) + 1).tmod (I 34)).toNat)).toNat)))), (0, .ref (q 99))] rfl dX8_isBelow_43 rfl (by decide) rfl ?_
      refine g_goto C 4 dX8_isBelow_46 (by decide) ?_
      refine g_lv (lv' := [(2, .int (iI (((k + 1) : Nat) : Int))), (1, .int (iI (rg_sm (A 32) (A 33) (I 34) (k + 1)))), (0, .ref (q 99))]) [0, 1, 2] rfl ?_
      exact ih (k + 1) (by omega) K
set_option maxRecDepth 100000 in
set_option maxHeartbeats 4000000 in
theorem c_X8_isBelow (l : Launch) (D : va_G) (Y : Nat → ClassId) {E : (Nat → Prop) → State → Heap → Prop} (hE : g_Stab E) (q : Nat → Nat) (I : Nat → Int) (A : Nat → Nat → Int) (F : Nat → UInt32) (Dd : Nat → UInt64) (r : List Int) (hsI : smI I) (hsA : smA A) (hN : okN (mJ I A) (mN A)) (hr9 : rg_at (A 33) r) (hm : I 34 = (r.length : Int)) (hG : rg_G (I 1) r) : g_Ct l yX8_isBelow cX8_isBelow 3 (some FieldType.boolean) ({ frames := 0, cells := 0, slots := 0, locals := 0 } : Room) D (tysY Y) E [.ref (q 99)] (wMod q Y I A F Dd) 0 0 (g_det (some (.int (iI (if rg_m (A 32) r = true then 1 else 0)))) (wMod q Y I A F Dd)) := by
  refine g_ofG (own := RX8) hE (by decide) rfl (Nat.le_of_ble_eq_true rfl) [(0, .ref (q 99))] rfl ?_
  intro p9 e9 s9 m9 b9 t9 c9 A9 C hr hlk hnm
  have hI := hsI
  have hA := hsA
  unfold smI at hI
  unfold smA at hA
  have hN9 := hN
  unfold okN at hN9
  simp only [mJ, mN] at hN9
  have hG1 := hG.1
  have hG2 := hG.2.1
  refine g_iconst C (n' := 1) dX8_isBelow_0 rfl ?_
  refine g_istore_n C (n' := 2) [(1, .int (iI 0)), (0, .ref (q 99))] dX8_isBelow_1 rfl rfl (by decide) rfl ?_
  refine g_iconst C (n' := 3) dX8_isBelow_2 rfl ?_
  refine g_istore_n C (n' := 4) [(2, .int (iI 0)), (1, .int (iI 0)), (0, .ref (q 99))] dX8_isBelow_3 rfl rfl (by decide) rfl ?_
  refine g_lv (lv' := [(2, .int (iI ((0 : Nat) : Int))), (1, .int (iI (rg_sm (A 32) (A 33) (I 34) 0))), (0, .ref (q 99))]) [0, 1, 2] rfl ?_
  refine lp_X8_ibl C q I A F Dd r hsI hsA hN hr9 hm hG r.length 0 (by omega) ?_
  have hs9 := rg_sm_r (R := A 33) (m := I 34) (fun j => hA 32 j) r.length
  have hi9 := rg_m_iff (b := A 32) hr9 (fun x hx => (hG.2.2.2.1 x hx).1) hG1
  rw [← hm] at hi9
  refine g_iload_n C (n' := 50) 1 rfl dX8_isBelow_49 rfl rfl ?_
  refine g_if_ge C (n' := 53) 57 dX8_isBelow_50 (by decide) rfl (by unfold inR; omega) (fun c1 => ?_) (fun c1 => ?_)
  · skip
    refine g_iconst C (n' := 58) dX8_isBelow_57 rfl ?_
    refine g_iret C hr hlk (nar_z (by omega)) ⟨congrArg (fun z : Int => some (Value.int (iI z))) ?_, rfl⟩ dX8_isBelow_58
    rw [if_neg (fun q => absurd (hi9.mp q) (by omega))]
  · skip
    refine g_iconst C (n' := 54) dX8_isBelow_53 rfl ?_
    refine g_goto C 58 dX8_isBelow_54 (by decide) ?_
    refine g_iret C hr hlk (nar_z (by omega)) ⟨congrArg (fun z : Int => some (Value.int (iI z))) ?_, rfl⟩ dX8_isBelow_58
    rw [if_pos (hi9.mpr (by omega))]
set_option maxRecDepth 100000 in
set_option maxHeartbeats 4000000 in
theorem lp_X8_nf {p9 : Program} {l : Launch} {e9 : Env} {s9 : State} {m9 : MethodId} {a9 : Array Value} {b9 : List Frame} {t9 : Method} {c9 : Code} {D : va_G} {A9 : Nat → Prop} {Q9 : State → Prop} {E : (Nat → Prop) → State → Heap → Prop} {Y : Nat → ClassId} (C : g_Cx p9 s9 m9 a9 c9 cX8_nextFrom 3 RX8 D (tysY Y) A9 E) (q : Nat → Nat) (I : Nat → Int) (A : Nat → Nat → Int) (F : Nat → UInt32) (Dd : Nat → UInt64) (r : List Int) (x : Int) (hsI : smI I) (hsA : smA A) (hN : okN (mJ I A) (mN A)) (hr9 : rg_at (A 33) r) (hm : I 34 = (r.length : Int)) (hG : rg_G (I 1) r) (hx : 0 ≤ x ∧ x ≤ I 1) : ∀ (n9 : Nat) (k : Int), k + n9 = I 1 → 0 ≤ k → rg_nx r n9 k = rg_nx r (I 1 - x).toNat x → (∀ k : Int, ((0 ≤ k ∧ k < I 1 ∧ rg_nx r (I 1 - x).toNat x = k) ∨ (I 1 = k ∧ rg_nx r (I 1 - x).toNat x = -1)) → g_G p9 l e9 ({ frames := 1, cells := 0, slots := 0, locals := 23 } : Room) s9 m9 a9 b9 t9 c9 3 D A9 Q9 0 0 (wMod q Y I A F Dd) [(2, .int (iI k)), (0, .ref (q 99)), (1, .int (iI x))] 34 []) → g_G p9 l e9 ({ frames := 1, cells := 0, slots := 0, locals := 23 } : Room) s9 m9 a9 b9 t9 c9 3 D A9 Q9 0 0 (wMod q Y I A F Dd) [(2, .int (iI k)), (0, .ref (q 99)), (1, .int (iI x))] 2 [] := by
  have hE := C.2.2.2.2.2.2.2.2.1
  intro n9
  induction n9 with
  | zero =>
    intro k hk h0 hn K
    have hI := hsI
    have hA := hsA
    unfold smI at hI
    unfold smA at hA
    have hN9 := hN
    unfold okN at hN9
    simp only [mJ, mN] at hN9
    have hG1 := hG.1
    have hG2 := hG.2.1
    have hF9 := rg_at_f hr9 hG1
    refine g_iload_n C (n' := 3) 0 rfl dX8_nextFrom_2 rfl rfl ?_
    refine g_aload_n C (n' := 4) 1 rfl dX8_nextFrom_3 rfl rfl ?_
    refine g_get C (n' := 7) (Cn := RX8) (T := TX8) (N := 35) (ci := 6) (v := .int (iI (I 1))) ga_X8 0 rfl rfl 1 (by decide) kw_691 rfl rfl dX8_nextFrom_4 rfl ?_
    have h_4 := hI 1
    refine g_icmp_ge C (n' := 10) 34 dX8_nextFrom_7 (by decide) rfl (by unfold inR; omega) (by unfold inR; omega) (fun c1 => ?_) (fun c1 => ?_)
    · skip
      have e0 : k = I 1 := by omega
      exact K k (Or.inr ⟨e0.symm, by rw [← hn]; rfl⟩)
    · skip
      exfalso
      omega
  | succ n9 ih =>
    intro k hk h0 hn K
    have hI := hsI
    have hA := hsA
    unfold smI at hI
    unfold smA at hA
    have hN9 := hN
    unfold okN at hN9
    simp only [mJ, mN] at hN9
    have hG1 := hG.1
    have hG2 := hG.2.1
    have hF9 := rg_at_f hr9 hG1
    refine g_iload_n C (n' := 3) 0 rfl dX8_nextFrom_2 rfl rfl ?_
    refine g_aload_n C (n' := 4) 1 rfl dX8_nextFrom_3 rfl rfl ?_
    refine g_get C (n' := 7) (Cn := RX8) (T := TX8) (N := 35) (ci := 6) (v := .int (iI (I 1))) ga_X8 0 rfl rfl 1 (by decide) kw_691 rfl rfl dX8_nextFrom_4 rfl ?_
    have h_4 := hI 1
    refine g_icmp_ge C (n' := 10) 34 dX8_nextFrom_7 (by decide) rfl (by unfold inR; omega) (by unfold inR; omega) (fun c1 => ?_) (fun c1 => ?_)
    · skip
      exfalso
      omega
    · skip
      refine g_aload_n C (n' := 11) 1 rfl dX8_nextFrom_10 rfl rfl ?_
      refine g_iload_n C (n' := 12) 0 rfl dX8_nextFrom_11 rfl rfl ?_
      refine g_cVv C (n' := 15) (v := .int (iI (if k ∈ r then 1 else 0))) (c_X8_isInRing l D Y C.2.2.2.2.2.2.2.2.1 q I A F Dd k r hsI hsA hN hr9 hm hG (by unfold inR; omega)) 1 kw_977 kc_X8_isInRing (by decide +kernel) (pm0 _) 0 (ci := 6) rfl rfl rfl rfl ⟨Nat.le_of_ble_eq_true rfl, Nat.le_of_ble_eq_true rfl⟩ ⟨rfl, rfl⟩ ⟨Nat.le_of_ble_eq_true rfl, Nat.le_of_ble_eq_true rfl⟩ (Nat.le_of_ble_eq_true rfl) dX8_nextFrom_12 rfl rfl (wMod q Y I A F Dd) (pm0' _) ?_
      refine g_if_ne C (n' := 18) 28 dX8_nextFrom_15 (by decide) rfl bz_r (fun c2 => ?_) (fun c2 => ?_)
      · skip
        replace c2 := bz_ne.mp c2
        refine g_iinc C (n' := 31) 0 [(2, .int (iI (k + 1))), (0, .ref (q 99)), (1, .int (iI x))] rfl dX8_nextFrom_28 rfl (by decide) rfl ?_
        refine g_goto C 2 dX8_nextFrom_31 (by decide) ?_
        refine g_lv (lv' := [(2, .int (iI (k + 1))), (0, .ref (q 99)), (1, .int (iI x))]) [0, 1, 2] rfl ?_
        exact ih (k + 1) (by omega) (by omega) (by rw [← hn, rg_nx, if_pos (Or.inl c2)]) K
      · skip
        replace c2 := bz_nne.mp c2
        refine g_iload_n C (n' := 19) 0 rfl dX8_nextFrom_18 rfl rfl ?_
        refine g_aload_n C (n' := 20) 1 rfl dX8_nextFrom_19 rfl rfl ?_
        refine g_get C (n' := 23) (Cn := RX8) (T := TX8) (N := 35) (ci := 6) (v := .ref (q 33)) ga_X8 0 rfl rfl 33 (by decide) kw_723 rfl rfl dX8_nextFrom_20 rfl ?_
        refine g_iconst C (n' := 24) dX8_nextFrom_23 rfl ?_
        refine g_ialdN C (n' := 25) (f := (A 33)) (j := 0) 21 0 rfl rfl (by omega) (by decide) rfl dX8_nextFrom_24 rfl ?_
        have h_24 := hA 33 0
        refine g_icmp_ge C (n' := 28) 34 dX8_nextFrom_25 (by decide) rfl (by unfold inR; omega) (by unfold inR; omega) (fun c3 => ?_) (fun c3 => ?_)
        · skip
          exact K k (Or.inl ⟨h0, by omega, by rw [← hn, rg_nx, if_neg (fun q => q.elim c2 (fun y => by omega))]⟩)
        · skip
          refine g_iinc C (n' := 31) 0 [(2, .int (iI (k + 1))), (0, .ref (q 99)), (1, .int (iI x))] rfl dX8_nextFrom_28 rfl (by decide) rfl ?_
          refine g_goto C 2 dX8_nextFrom_31 (by decide) ?_
          refine g_lv (lv' := [(2, .int (iI (k + 1))), (0, .ref (q 99)), (1, .int (iI x))]) [0, 1, 2] rfl ?_
          exact ih (k + 1) (by omega) (by omega) (by rw [← hn, rg_nx, if_pos (Or.inr (by omega))]) K
set_option maxRecDepth 100000 in
set_option maxHeartbeats 4000000 in
theorem c_X8_nextFrom (l : Launch) (D : va_G) (Y : Nat → ClassId) {E : (Nat → Prop) → State → Heap → Prop} (hE : g_Stab E) (q : Nat → Nat) (I : Nat → Int) (A : Nat → Nat → Int) (F : Nat → UInt32) (Dd : Nat → UInt64) (x : Int) (r : List Int) (hsI : smI I) (hsA : smA A) (hN : okN (mJ I A) (mN A)) (hr9 : rg_at (A 33) r) (hm : I 34 = (r.length : Int)) (hG : rg_G (I 1) r) (hx : 0 ≤ x ∧ x ≤ I 1) : g_Ct l yX8_nextFrom cX8_nextFrom 3 (some FieldType.int) ({ frames := 1, cells := 0, slots := 0, locals := 23 } : Room) D (tysY Y) E [.ref (q 99), .int (iI x)] (wMod q Y I A F Dd) 0 0 (g_det (some (.int (iI (rg_nx r (I 1 - x).toNat x)))) (wMod q Y I A F Dd)) := by
  refine g_ofG (own := RX8) hE (by decide) rfl (Nat.le_of_ble_eq_true rfl) [(0, .ref (q 99)), (1, .int (iI x))] rfl ?_
  intro p9 e9 s9 m9 b9 t9 c9 A9 C hr hlk hnm
  have hI := hsI
  have hA := hsA
  unfold smI at hI
  unfold smA at hA
  have hN9 := hN
  unfold okN at hN9
  simp only [mJ, mN] at hN9
  have hG1 := hG.1
  have hG2 := hG.2.1
  have hF9 := rg_at_f hr9 hG1
  refine g_iload_n C (n' := 1) 1 rfl dX8_nextFrom_0 rfl rfl ?_
  refine g_istore_n C (n' := 2) [(2, .int (iI x)), (0, .ref (q 99)), (1, .int (iI x))] dX8_nextFrom_1 rfl rfl (by decide) rfl ?_
  refine g_lv (lv' := [(2, .int (iI x)), (0, .ref (q 99)), (1, .int (iI x))]) [0, 1, 2] rfl ?_
  refine lp_X8_nf C q I A F Dd r x hsI hsA hN hr9 hm hG hx (I 1 - x).toNat x (by omega) (by omega) rfl (fun k hk => ?_)
  refine g_iload_n C (n' := 35) 0 rfl dX8_nextFrom_34 rfl rfl ?_
  refine g_aload_n C (n' := 36) 1 rfl dX8_nextFrom_35 rfl rfl ?_
  refine g_get C (n' := 39) (Cn := RX8) (T := TX8) (N := 35) (ci := 6) (v := .int (iI (I 1))) ga_X8 0 rfl rfl 1 (by decide) kw_691 rfl rfl dX8_nextFrom_36 rfl ?_
  have h_36 := hI 1
  refine g_icmp_ge C (n' := 42) 46 dX8_nextFrom_39 (by decide) rfl (by unfold inR; omega) (by unfold inR; omega) (fun c1 => ?_) (fun c1 => ?_)
  · skip
    refine g_iconst C (n' := 47) dX8_nextFrom_46 rfl ?_
    refine g_iret C hr hlk rfl ⟨congrArg (fun z : Int => some (Value.int (iI z))) ?_, ?_⟩ dX8_nextFrom_47
    · first | rfl | omega | ((repeat' split) <;> first | rfl | omega | (exfalso; omega))
    · first | rfl | omega | ((repeat' split) <;> first | rfl | omega | (exfalso; omega))
  · skip
    refine g_iload_n C (n' := 43) 0 rfl dX8_nextFrom_42 rfl rfl ?_
    refine g_goto C 47 dX8_nextFrom_43 (by decide) ?_
    refine g_iret C hr hlk rfl ⟨congrArg (fun z : Int => some (Value.int (iI z))) ?_, ?_⟩ dX8_nextFrom_47
    · first | rfl | omega | ((repeat' split) <;> first | rfl | omega | (exfalso; omega))
    · first | rfl | omega | ((repeat' split) <;> first | rfl | omega | (exfalso; omega))
