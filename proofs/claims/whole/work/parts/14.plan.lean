/-! Planner -/
def wPlan (q : Nat → Nat) (Y : Nat → ClassId) (I : Nat → Int) (A B : Nat → Nat → Int) : va_W := [(q 99, .inr (2, [.ref (q 0), .ref (q 1), .ref (q 2), .int (iI (I 3)), .int (iI (I 4)), .int (iI (I 5)), .int (iI (I 6))])), (q 0, .inl (Y 7, 8, .inr (.inr (.inr (.inr (fun i => if i < 8 then some (q (20 + i)) else none)))))), (q 1, .inl (Y 0, 8, .inl (iA (A 1)))), (q 2, .inl (Y 0, 8, .inl (iA (A 2)))), (q (20 + 0), .inl (Y 0, 8, .inl (iA (B 0)))), (q (20 + 1), .inl (Y 0, 8, .inl (iA (B 1)))), (q (20 + 2), .inl (Y 0, 8, .inl (iA (B 2)))), (q (20 + 3), .inl (Y 0, 8, .inl (iA (B 3)))), (q (20 + 4), .inl (Y 0, 8, .inl (iA (B 4)))), (q (20 + 5), .inl (Y 0, 8, .inl (iA (B 5)))), (q (20 + 6), .inl (Y 0, 8, .inl (iA (B 6)))), (q (20 + 7), .inl (Y 0, 8, .inl (iA (B 7))))]
theorem pl_row {q : Nat → Nat} {Y : Nat → ClassId} {I : Nat → Int} {A B : Nat → Nat → Int} {a : Nat} (h : a < 8) : (wPlan q Y I A B)[4 + a]? = some (q (20 + a), .inl (Y 0, 8, .inl (iA (B a)))) := by
  rcases (show a = 0 ∨ a = 1 ∨ a = 2 ∨ a = 3 ∨ a = 4 ∨ a = 5 ∨ a = 6 ∨ a = 7 by omega) with rfl | rfl | rfl | rfl | rfl | rfl | rfl | rfl <;> rfl
theorem pl_set {q : Nat → Nat} {Y : Nat → ClassId} {I : Nat → Int} {A B : Nat → Nat → Int} {a : Nat} {f : Nat → Int} (h : a < 8) : (wPlan q Y I A B).set (4 + a) (q (20 + a), .inl (Y 0, 8, .inl (iA f))) = wPlan q Y I A (sU B a f) := by
  rcases (show a = 0 ∨ a = 1 ∨ a = 2 ∨ a = 3 ∨ a = 4 ∨ a = 5 ∨ a = 6 ∨ a = 7 by omega) with rfl | rfl | rfl | rfl | rfl | rfl | rfl | rfl <;> rfl
theorem pl_row2 {q : Nat → Nat} {Y : Nat → ClassId} {I : Nat → Int} {A B : Nat → Nat → Int} {w : va_W} {a : Nat} (h : a < 8) : (wPlan q Y I A B ++ w)[4 + a]? = some (q (20 + a), .inl (Y 0, 8, .inl (iA (B a)))) := by
  rw [List.getElem?_append_left (by show 4 + a < 12; omega)]
  exact pl_row h
theorem pl_set2 {q : Nat → Nat} {Y : Nat → ClassId} {I : Nat → Int} {A B : Nat → Nat → Int} {w : va_W} {a : Nat} {f : Nat → Int} (h : a < 8) : (wPlan q Y I A B ++ w).set (4 + a) (q (20 + a), .inl (Y 0, 8, .inl (iA f))) = wPlan q Y I A (sU B a f) ++ w := by
  rw [List.set_append_left _ _ (by show 4 + a < 12; omega), pl_set h]
def okB (B : Nat → Nat → Int) : Prop := ∀ a b : Nat, B a b = 1000000000 ∨ (-1700 ≤ B a b ∧ B a b ≤ 10000)
def p_tight (B : Nat → Nat → Int) (a b : Nat) (x : Int) : Nat → Nat → Int := sU B a (sU (B a) b (if B a b ≤ x then B a b else x))
theorem ed_r {x s : Int} (h1 : -1700 ≤ x ∧ x ≤ 10000) (hs : 1 ≤ s) : -1700 ≤ x / s ∧ x / s ≤ 10000 := by
  constructor
  · exact Int.le_ediv_of_mul_le (by omega) (by omega)
  · by_cases q : 0 ≤ x
    · have := Int.ediv_le_self s q
      omega
    · have := Int.ediv_neg_of_neg_of_pos (show x < 0 by omega) (show 0 < s by omega)
      omega
theorem p_tight_ok {B : Nat → Nat → Int} (h : okB B) {a b : Nat} {x : Int} (hx : -1700 ≤ x ∧ x ≤ 10000) : okB (p_tight B a b x) := by
  intro i j
  unfold p_tight
  by_cases e : i = a
  · subst e
    rw [sU_s]
    by_cases e2 : j = b
    · subst e2
      rw [sU_s]
      have := h i j
      split <;> omega
    · rw [sU_n _ _ e2]
      exact h i j
  · rw [sU_n _ _ e]
    exact h i j
set_option maxRecDepth 100000 in
set_option maxHeartbeats 4000000 in
theorem c_X3_shiftOf (l : Launch) (D : va_G) (Y : Nat → ClassId) {E : (Nat → Prop) → State → Heap → Prop} (hE : g_Stab E) (q : Nat → Nat) (I : Nat → Int) (A : Nat → Nat → Int) (B : Nat → Nat → Int) (r : Int) (hr : 0 ≤ r ∧ r < 8) : g_Ct l yX3_shiftOf cX3_shiftOf 2 (some FieldType.int) ({ frames := 0, cells := 0, slots := 0, locals := 0 } : Room) D (tysY Y) E [.ref (q 99), .int (iI r)] (wPlan q Y I A B) 0 0 (g_det (some (.int (iI (A 1 r.toNat)))) (wPlan q Y I A B)) := by
  refine g_ofG (own := RX3) hE (by decide) rfl (Nat.le_of_ble_eq_true rfl) [(0, .ref (q 99)), (1, .int (iI r))] rfl ?_
  intro p9 e9 s9 m9 b9 t9 c9 A9 C hr hlk hnm
  refine g_aload_n C (n' := 1) 0 rfl dX3_shiftOf_0 rfl rfl ?_
  refine g_get C (n' := 4) (Cn := RX3) (T := TX3) (N := 7) (ci := 2) (v := .ref (q 1)) ga_X3 0 rfl rfl 1 (by decide) kw_140 rfl rfl dX3_shiftOf_1 rfl ?_
  refine g_iload_n C (n' := 5) 1 rfl dX3_shiftOf_4 rfl rfl ?_
  refine g_iald C (n' := 6) (f := (A 1)) 2 0 rfl rfl (by omega) (by omega) (by decide) rfl dX3_shiftOf_5 rfl ?_
  refine g_iret C hr hlk rfl ⟨congrArg (fun z : Int => some (Value.int (iI z))) ?_, ?_⟩ dX3_shiftOf_6
  · first | rfl | omega | ((repeat' split) <;> first | rfl | omega | (exfalso; omega))
  · first | rfl | omega | ((repeat' split) <;> first | rfl | omega | (exfalso; omega))
set_option maxRecDepth 100000 in
set_option maxHeartbeats 4000000 in
theorem c_X3_ringLength (l : Launch) (D : va_G) (Y : Nat → ClassId) {E : (Nat → Prop) → State → Heap → Prop} (hE : g_Stab E) (q : Nat → Nat) (I : Nat → Int) (A : Nat → Nat → Int) (B : Nat → Nat → Int) : g_Ct l yX3_ringLength cX3_ringLength 1 (some FieldType.int) ({ frames := 0, cells := 0, slots := 0, locals := 0 } : Room) D (tysY Y) E [.ref (q 99)] (wPlan q Y I A B) 0 0 (g_det (some (.int (iI (I 4)))) (wPlan q Y I A B)) := by
  refine g_ofG (own := RX3) hE (by decide) rfl (Nat.le_of_ble_eq_true rfl) [(0, .ref (q 99))] rfl ?_
  intro p9 e9 s9 m9 b9 t9 c9 A9 C hr hlk hnm
  refine g_aload_n C (n' := 1) 0 rfl dX3_ringLength_0 rfl rfl ?_
  refine g_get C (n' := 4) (Cn := RX3) (T := TX3) (N := 7) (ci := 2) (v := .int (iI (I 4))) ga_X3 0 rfl rfl 4 (by decide) kw_143 rfl rfl dX3_ringLength_1 rfl ?_
  refine g_iret C hr hlk rfl ⟨congrArg (fun z : Int => some (Value.int (iI z))) ?_, ?_⟩ dX3_ringLength_4
  · first | rfl | omega | ((repeat' split) <;> first | rfl | omega | (exfalso; omega))
  · first | rfl | omega | ((repeat' split) <;> first | rfl | omega | (exfalso; omega))
set_option maxRecDepth 100000 in
set_option maxHeartbeats 4000000 in
theorem c_X3_ringRegister (l : Launch) (D : va_G) (Y : Nat → ClassId) {E : (Nat → Prop) → State → Heap → Prop} (hE : g_Stab E) (q : Nat → Nat) (I : Nat → Int) (A : Nat → Nat → Int) (B : Nat → Nat → Int) (r : Int) (hr : 0 ≤ r ∧ r < 8) : g_Ct l yX3_ringRegister cX3_ringRegister 2 (some FieldType.int) ({ frames := 0, cells := 0, slots := 0, locals := 0 } : Room) D (tysY Y) E [.ref (q 99), .int (iI r)] (wPlan q Y I A B) 0 0 (g_det (some (.int (iI (A 2 r.toNat)))) (wPlan q Y I A B)) := by
  refine g_ofG (own := RX3) hE (by decide) rfl (Nat.le_of_ble_eq_true rfl) [(0, .ref (q 99)), (1, .int (iI r))] rfl ?_
  intro p9 e9 s9 m9 b9 t9 c9 A9 C hr hlk hnm
  refine g_aload_n C (n' := 1) 0 rfl dX3_ringRegister_0 rfl rfl ?_
  refine g_get C (n' := 4) (Cn := RX3) (T := TX3) (N := 7) (ci := 2) (v := .ref (q 2)) ga_X3 0 rfl rfl 2 (by decide) kw_141 rfl rfl dX3_ringRegister_1 rfl ?_
  refine g_iload_n C (n' := 5) 1 rfl dX3_ringRegister_4 rfl rfl ?_
  refine g_iald C (n' := 6) (f := (A 2)) 3 0 rfl rfl (by omega) (by omega) (by decide) rfl dX3_ringRegister_5 rfl ?_
  refine g_iret C hr hlk rfl ⟨congrArg (fun z : Int => some (Value.int (iI z))) ?_, ?_⟩ dX3_ringRegister_6
  · first | rfl | omega | ((repeat' split) <;> first | rfl | omega | (exfalso; omega))
  · first | rfl | omega | ((repeat' split) <;> first | rfl | omega | (exfalso; omega))
set_option maxRecDepth 100000 in
set_option maxHeartbeats 4000000 in
theorem c_X3_rateAbove (l : Launch) (D : va_G) (Y : Nat → ClassId) {E : (Nat → Prop) → State → Heap → Prop} (hE : g_Stab E) (q : Nat → Nat) (I : Nat → Int) (A : Nat → Nat → Int) (B : Nat → Nat → Int) : g_Ct l yX3_rateAbove cX3_rateAbove 1 (some FieldType.int) ({ frames := 0, cells := 0, slots := 0, locals := 0 } : Room) D (tysY Y) E [.ref (q 99)] (wPlan q Y I A B) 0 0 (g_det (some (.int (iI (I 5)))) (wPlan q Y I A B)) := by
  refine g_ofG (own := RX3) hE (by decide) rfl (Nat.le_of_ble_eq_true rfl) [(0, .ref (q 99))] rfl ?_
  intro p9 e9 s9 m9 b9 t9 c9 A9 C hr hlk hnm
  refine g_aload_n C (n' := 1) 0 rfl dX3_rateAbove_0 rfl rfl ?_
  refine g_get C (n' := 4) (Cn := RX3) (T := TX3) (N := 7) (ci := 2) (v := .int (iI (I 5))) ga_X3 0 rfl rfl 5 (by decide) kw_144 rfl rfl dX3_rateAbove_1 rfl ?_
  refine g_iret C hr hlk rfl ⟨congrArg (fun z : Int => some (Value.int (iI z))) ?_, ?_⟩ dX3_rateAbove_4
  · first | rfl | omega | ((repeat' split) <;> first | rfl | omega | (exfalso; omega))
  · first | rfl | omega | ((repeat' split) <;> first | rfl | omega | (exfalso; omega))
set_option maxRecDepth 100000 in
set_option maxHeartbeats 4000000 in
theorem c_X3_rateBelow (l : Launch) (D : va_G) (Y : Nat → ClassId) {E : (Nat → Prop) → State → Heap → Prop} (hE : g_Stab E) (q : Nat → Nat) (I : Nat → Int) (A : Nat → Nat → Int) (B : Nat → Nat → Int) : g_Ct l yX3_rateBelow cX3_rateBelow 1 (some FieldType.int) ({ frames := 0, cells := 0, slots := 0, locals := 0 } : Room) D (tysY Y) E [.ref (q 99)] (wPlan q Y I A B) 0 0 (g_det (some (.int (iI (I 6)))) (wPlan q Y I A B)) := by
  refine g_ofG (own := RX3) hE (by decide) rfl (Nat.le_of_ble_eq_true rfl) [(0, .ref (q 99))] rfl ?_
  intro p9 e9 s9 m9 b9 t9 c9 A9 C hr hlk hnm
  refine g_aload_n C (n' := 1) 0 rfl dX3_rateBelow_0 rfl rfl ?_
  refine g_get C (n' := 4) (Cn := RX3) (T := TX3) (N := 7) (ci := 2) (v := .int (iI (I 6))) ga_X3 0 rfl rfl 6 (by decide) kw_145 rfl rfl dX3_rateBelow_1 rfl ?_
  refine g_iret C hr hlk rfl ⟨congrArg (fun z : Int => some (Value.int (iI z))) ?_, ?_⟩ dX3_rateBelow_4
  · first | rfl | omega | ((repeat' split) <;> first | rfl | omega | (exfalso; omega))
  · first | rfl | omega | ((repeat' split) <;> first | rfl | omega | (exfalso; omega))
set_option maxRecDepth 100000 in
set_option maxHeartbeats 4000000 in
theorem c_X3_tighten (l : Launch) (D : va_G) (Y : Nat → ClassId) {E : (Nat → Prop) → State → Heap → Prop} (hE : g_Stab E) (q : Nat → Nat) (I : Nat → Int) (A : Nat → Nat → Int) (B : Nat → Nat → Int) (a : Int) (b : Int) (x : Int) (t : Int) (hsI : smI I) (hsA : smA A) (hsB : okB B) (ha : 0 ≤ a ∧ a < 8) (hb : 0 ≤ b ∧ b < 8) (hx : -1700 ≤ x ∧ x ≤ 10000) (ht : 1 ≤ t ∧ t ≤ 9) : g_Ct l yX3_tighten cX3_tighten 5 none ({ frames := 1, cells := 0, slots := 0, locals := 22 } : Room) D (tysY Y) E [.ref (q 99), .int (iI a), .int (iI b), .int (iI x), .int (iI t)] (wPlan q Y I A B) 0 0 (g_det none (wPlan q Y I A (p_tight B a.toNat b.toNat (x / t)))) := by
  refine g_ofG (own := RX3) hE (by decide) rfl (Nat.le_of_ble_eq_true rfl) [(0, .ref (q 99)), (1, .int (iI a)), (2, .int (iI b)), (3, .int (iI x)), (4, .int (iI t))] rfl ?_
  intro p9 e9 s9 m9 b9 t9 c9 A9 C hr hlk hnm
  have hI := hsI
  have hA := hsA
  have hB := hsB
  unfold smI at hI
  unfold smA at hA
  unfold okB at hB
  refine g_iload C (n' := 2) 4 rfl dX3_tighten_0 rfl ?_
  refine g_if_le C (n' := 5) 30 dX3_tighten_2 (by decide) rfl (by unfold inR; omega) (fun c1 => ?_) (fun c1 => ?_)
  · skip
    exfalso
    omega
  · skip
    refine g_aload_n C (n' := 6) 0 rfl dX3_tighten_5 rfl rfl ?_
    refine g_get C (n' := 9) (Cn := RX3) (T := TX3) (N := 7) (ci := 2) (v := .ref (q 0)) ga_X3 0 rfl rfl 0 (by decide) kw_139 rfl rfl dX3_tighten_6 rfl ?_
    refine g_iload_n C (n' := 10) 1 rfl dX3_tighten_9 rfl rfl ?_
    refine g_aalA C (n' := 11) (v := q (20 + a.toNat)) 1 7 rfl rfl (by omega) (by omega) (by decide) (if_pos (by omega)) dX3_tighten_10 rfl ?_
    refine g_iload_n C (n' := 12) 2 rfl dX3_tighten_11 rfl rfl ?_
    refine g_aload_n C (n' := 13) 0 rfl dX3_tighten_12 rfl rfl ?_
    refine g_get C (n' := 16) (Cn := RX3) (T := TX3) (N := 7) (ci := 2) (v := .ref (q 0)) ga_X3 0 rfl rfl 0 (by decide) kw_139 rfl rfl dX3_tighten_13 rfl ?_
    refine g_iload_n C (n' := 17) 1 rfl dX3_tighten_16 rfl rfl ?_
    refine g_aalA C (n' := 18) (v := q (20 + a.toNat)) 1 7 rfl rfl (by omega) (by omega) (by decide) (if_pos (by omega)) dX3_tighten_17 rfl ?_
    refine g_iload_n C (n' := 19) 2 rfl dX3_tighten_18 rfl rfl ?_
    refine g_iald C (n' := 20) (4 + a.toNat) 0 (pl_row (by omega)) rfl (by omega) (by omega) (by decide) rfl dX3_tighten_19 rfl ?_
    have hb_19 := hB a.toNat b.toNat
    refine g_iload_n C (n' := 21) 3 rfl dX3_tighten_20 rfl rfl ?_
    refine g_iload C (n' := 23) 4 rfl dX3_tighten_21 rfl ?_
    refine g_cSv C (n' := 26) (v := .int (iI (x / t))) (c_J9_floorDiv_7cf53 l D Y C.2.2.2.2.2.2.2.2.1 x t (by unfold inR at *; omega) (by omega) (by omega)) 2 kw_461 kc_J9_floorDiv_7cf53 (by decide +kernel) (pm_n _) rfl ⟨Nat.le_of_ble_eq_true rfl, Nat.le_of_ble_eq_true rfl⟩ ⟨rfl, rfl⟩ ⟨Nat.le_of_ble_eq_true rfl, Nat.le_of_ble_eq_true rfl⟩ (Nat.le_of_ble_eq_true rfl) dX3_tighten_23 rfl rfl (wPlan q Y I A B) (pm_n _) ?_
    have hxt := ed_r hx ht.1
    refine g_cSv C (n' := 29) (v := .int (iI (if (B a.toNat b.toNat) ≤ (x / t) then (B a.toNat b.toNat) else (x / t)))) (c_J9_min_7cf53 l D Y C.2.2.2.2.2.2.2.2.1 (B a.toNat b.toNat) (x / t) (by unfold inR at *; omega) (by unfold inR at *; omega)) 2 kw_464 kc_J9_min_7cf53 (by decide +kernel) (pm_n _) rfl ⟨Nat.le_of_ble_eq_true rfl, Nat.le_of_ble_eq_true rfl⟩ ⟨rfl, rfl⟩ ⟨Nat.le_of_ble_eq_true rfl, Nat.le_of_ble_eq_true rfl⟩ (Nat.le_of_ble_eq_true rfl) dX3_tighten_26 rfl rfl (wPlan q Y I A B) (pm_n _) ?_
    refine g_iast C (n' := 30) (4 + a.toNat) 0 (pl_row (by omega)) rfl (by omega) (by omega) (by decide) rfl dX3_tighten_29 rfl (wPlan q Y I A (sU B a.toNat (sU (B a.toNat) b.toNat (if (B a.toNat b.toNat) ≤ (x / t) then (B a.toNat b.toNat) else (x / t))))) (pl_set (by omega)) ?_
    refine g_vret C hr hlk ⟨rfl, rfl⟩ dX3_tighten_30
def p_rel (B : Nat → Nat → Int) (a b : Nat) (x : (Nat → Int) × Int) : (Nat → Int) × Int := if B a b ≠ 1000000000 ∧ x.1 b + B a b < x.1 a then (sU x.1 a (x.1 b + B a b), 1) else x
def p_row (B : Nat → Nat → Int) (a : Nat) : Nat → (Nat → Int) × Int → (Nat → Int) × Int
  | 0, x => x
  | b + 1, x => p_rel B a b (p_row B a b x)
def p_mat (B : Nat → Nat → Int) (n : Nat) : Nat → (Nat → Int) × Int → (Nat → Int) × Int
  | 0, x => x
  | a + 1, x => p_row B a n (p_mat B n a x)
def p_bd (n : Nat) (m : Int) (x : (Nat → Int) × Int) : Prop := (∀ k : Nat, k < n → -m ≤ x.1 k ∧ x.1 k ≤ 0) ∧ (x.2 = 0 ∨ x.2 = 1)
theorem p_rel_r {B : Nat → Nat → Int} (hB : okB B) {a b n : Nat} (ha : a < n) (hb0 : b < n) {x : (Nat → Int) × Int} {m : Int} (h : p_bd n m x) : p_bd n (m + 1700) (p_rel B a b x) := by
  unfold p_rel
  have hb := hB a b
  have h1 := h.1 b hb0
  have h2 := h.1 a ha
  split
  · next q =>
    refine ⟨fun k hk => ?_, Or.inr rfl⟩
    show -(m + 1700) ≤ sU x.1 a (x.1 b + B a b) k ∧ sU x.1 a (x.1 b + B a b) k ≤ 0
    unfold sU
    split
    · omega
    · have := h.1 k hk
      omega
  · exact ⟨fun k hk => by have := h.1 k hk; omega, h.2⟩
theorem p_row_r {B : Nat → Nat → Int} (hB : okB B) {a n : Nat} (ha : a < n) {x : (Nat → Int) × Int} {m : Int} (h : p_bd n m x) : ∀ b : Nat, b ≤ n → p_bd n (m + 1700 * b) (p_row B a b x)
  | 0, _ => by simpa [p_row] using h
  | b + 1, hb => by
    have h1 := p_rel_r hB ha (show b < n by omega) (p_row_r hB ha h b (by omega))
    rw [p_row]
    rw [show m + 1700 * ((b + 1 : Nat) : Int) = m + 1700 * (b : Int) + 1700 by omega]
    exact h1
theorem p_mat_r {B : Nat → Nat → Int} (hB : okB B) (n : Nat) {x : (Nat → Int) × Int} {m : Int} (h : p_bd n m x) : ∀ a : Nat, a ≤ n → p_bd n (m + 1700 * (n * a : Nat)) (p_mat B n a x)
  | 0, _ => by simpa [p_mat] using h
  | a + 1, ha => by
    have h1 := p_row_r hB (show a < n by omega) (p_mat_r hB n h a (by omega)) n (Nat.le_refl n)
    rw [p_mat]
    rw [show m + 1700 * ((n * (a + 1) : Nat) : Int) = m + 1700 * (n * a : Nat) + 1700 * (n : Int) by rw [Nat.mul_succ]; omega]
    exact h1
theorem p_bd_le {n : Nat} {m m2 : Int} {x : (Nat → Int) × Int} (h : p_bd n m x) (hm : m ≤ m2) : p_bd n m2 x := ⟨fun k hk => by have := h.1 k hk; omega, h.2⟩
set_option maxRecDepth 100000 in
set_option maxHeartbeats 4000000 in
theorem lp_X3_lo_in {p9 : Program} {l : Launch} {e9 : Env} {s9 : State} {m9 : MethodId} {a9 : Array Value} {b9 : List Frame} {t9 : Method} {c9 : Code} {D : va_G} {A9 : Nat → Prop} {Q9 : State → Prop} {E : (Nat → Prop) → State → Heap → Prop} {Y : Nat → ClassId} (C : g_Cx p9 s9 m9 a9 c9 cX3_lowerOnce 5 RX3 D (tysY Y) A9 E) (q : Nat → Nat) (I : Nat → Int) (A B : Nat → Nat → Int) (a : Nat) (x : (Nat → Int) × Int) (m : Int) (hsI : smI I) (hsA : smA A) (hsB : okB B) (hn : 2 ≤ I 3 ∧ I 3 ≤ 8) (ha : a < (I 3).toNat) (hx : p_bd (I 3).toNat m x) (hm2 : 0 ≤ m ∧ m ≤ 860000) : ∀ (n9 : Nat) (b : Nat), (b : Int) + n9 = I 3 → (g_G p9 l e9 ({ frames := 0, cells := 0, slots := 0, locals := 0 } : Room) s9 m9 a9 b9 t9 c9 5 D A9 Q9 0 0 (wPlan q Y I (sU A 1 (p_row B a (I 3).toNat x).1) B) [(3, .int (iI (((I 3).toNat : Nat) : Int))), (2, .int (iI ((a : Nat) : Int))), (1, .int (iI ((p_row B a (I 3).toNat x).2))), (0, .ref (q 99))] 80 []) → g_G p9 l e9 ({ frames := 0, cells := 0, slots := 0, locals := 0 } : Room) s9 m9 a9 b9 t9 c9 5 D A9 Q9 0 0 (wPlan q Y I (sU A 1 (p_row B a b x).1) B) [(3, .int (iI ((b : Nat) : Int))), (2, .int (iI ((a : Nat) : Int))), (1, .int (iI ((p_row B a b x).2))), (0, .ref (q 99))] 14 [] := by
  have hE := C.2.2.2.2.2.2.2.2.1
  intro n9
  induction n9 with
  | zero =>
    intro b hb K
    have hI := hsI
    have hA := hsA
    have hB := hsB
    unfold smI at hI
    unfold smA at hA
    unfold okB at hB
    have hbd := p_row_r hsB ha hx b (by omega)
    have hrb := hbd.1 b
    have hra := hbd.1 a ha
    have hr2 := hbd.2
    refine g_iload_n C (n' := 15) 0 rfl dX3_lowerOnce_14 rfl rfl ?_
    refine g_aload_n C (n' := 16) 3 rfl dX3_lowerOnce_15 rfl rfl ?_
    refine g_get C (n' := 19) (Cn := RX3) (T := TX3) (N := 7) (ci := 2) (v := .int (iI (I 3))) ga_X3 0 rfl rfl 3 (by decide) kw_142 rfl rfl dX3_lowerOnce_16 rfl ?_
    have h_16 := hI 3
    refine g_icmp_ge C (n' := 22) 80 dX3_lowerOnce_19 (by decide) rfl (by unfold inR; omega) (by unfold inR; omega) (fun c1 => ?_) (fun c1 => ?_)
    · skip
      have eb : (I 3).toNat = b := by omega
      rw [eb] at K
      exact K
    · skip
      exfalso
      omega
  | succ n9 ih =>
    intro b hb K
    have hI := hsI
    have hA := hsA
    have hB := hsB
    unfold smI at hI
    unfold smA at hA
    unfold okB at hB
    have hbd := p_row_r hsB ha hx b (by omega)
    have hrb := hbd.1 b
    have hra := hbd.1 a ha
    have hr2 := hbd.2
    refine g_iload_n C (n' := 15) 0 rfl dX3_lowerOnce_14 rfl rfl ?_
    refine g_aload_n C (n' := 16) 3 rfl dX3_lowerOnce_15 rfl rfl ?_
    refine g_get C (n' := 19) (Cn := RX3) (T := TX3) (N := 7) (ci := 2) (v := .int (iI (I 3))) ga_X3 0 rfl rfl 3 (by decide) kw_142 rfl rfl dX3_lowerOnce_16 rfl ?_
    have h_16 := hI 3
    refine g_icmp_ge C (n' := 22) 80 dX3_lowerOnce_19 (by decide) rfl (by unfold inR; omega) (by unfold inR; omega) (fun c1 => ?_) (fun c1 => ?_)
    · skip
      exfalso
      omega
    · skip
      have hrb := hrb (by omega)
      refine g_aload_n C (n' := 23) 3 rfl dX3_lowerOnce_22 rfl rfl ?_
      refine g_get C (n' := 26) (Cn := RX3) (T := TX3) (N := 7) (ci := 2) (v := .ref (q 0)) ga_X3 0 rfl rfl 0 (by decide) kw_139 rfl rfl dX3_lowerOnce_23 rfl ?_
      refine g_iload_n C (n' := 27) 1 rfl dX3_lowerOnce_26 rfl rfl ?_
      refine g_aalAN C (n' := 28) (v := q (20 + a)) 1 7 rfl rfl (by omega) (by decide) (if_pos (by omega)) dX3_lowerOnce_27 rfl ?_
      refine g_iload_n C (n' := 29) 0 rfl dX3_lowerOnce_28 rfl rfl ?_
      refine g_ialdN C (n' := 30) (4 + a) 0 (pl_row (by omega)) rfl (by omega) (by decide) rfl dX3_lowerOnce_29 rfl ?_
      have hb_29 := hB a b
      refine g_istore C (n' := 32) [(4, .int (iI (B a b))), (3, .int (iI ((b : Nat) : Int))), (2, .int (iI ((a : Nat) : Int))), (1, .int (iI ((p_row B a b x).2))), (0, .ref (q 99))] dX3_lowerOnce_30 rfl (by decide) rfl ?_
      refine g_iload C (n' := 34) 0 rfl dX3_lowerOnce_32 rfl ?_
      refine g_ldc C (n' := 36) 1000000000 (by decide) kw_455 dX3_lowerOnce_34 rfl ?_
      refine g_icmp_eq C (n' := 39) 74 dX3_lowerOnce_36 (by decide) rfl (by unfold inR; omega) (by unfold inR; omega) (fun c2 => ?_) (fun c2 => ?_)
      · skip
        refine g_iinc C (n' := 77) 1 [(3, .int (iI (((b : Nat) : Int) + 1))), (4, .int (iI (B a b))), (2, .int (iI ((a : Nat) : Int))), (1, .int (iI ((p_row B a b x).2))), (0, .ref (q 99))] rfl dX3_lowerOnce_74 rfl (by decide) rfl ?_
        refine g_goto C 14 dX3_lowerOnce_77 (by decide) ?_
        have e1 : p_row B a b x = p_row B a (b + 1) x := by rw [p_row, p_rel, if_neg (by omega)]
        rw [e1]
        refine g_lv (lv' := [(3, .int (iI ((b + 1 : Nat) : Int))), (2, .int (iI ((a : Nat) : Int))), (1, .int (iI ((p_row B a (b + 1) x).2))), (0, .ref (q 99))]) [0, 2, 3, 4] rfl ?_
        exact ih (b + 1) (by omega) K
      · skip
        refine g_aload_n C (n' := 40) 4 rfl dX3_lowerOnce_39 rfl rfl ?_
        refine g_get C (n' := 43) (Cn := RX3) (T := TX3) (N := 7) (ci := 2) (v := .ref (q 1)) ga_X3 0 rfl rfl 1 (by decide) kw_140 rfl rfl dX3_lowerOnce_40 rfl ?_
        refine g_iload_n C (n' := 44) 1 rfl dX3_lowerOnce_43 rfl rfl ?_
        refine g_ialdN C (n' := 45) (f := (p_row B a b x).1) (j := b) 2 0 rfl rfl (by omega) (by decide) rfl dX3_lowerOnce_44 rfl ?_
        refine g_iload C (n' := 47) 0 rfl dX3_lowerOnce_45 rfl ?_
        refine g_iadd C (n' := 48) dX3_lowerOnce_47 rfl ?_
        refine g_aload_n C (n' := 49) 4 rfl dX3_lowerOnce_48 rfl rfl ?_
        refine g_get C (n' := 52) (Cn := RX3) (T := TX3) (N := 7) (ci := 2) (v := .ref (q 1)) ga_X3 0 rfl rfl 1 (by decide) kw_140 rfl rfl dX3_lowerOnce_49 rfl ?_
        refine g_iload_n C (n' := 53) 2 rfl dX3_lowerOnce_52 rfl rfl ?_
        refine g_ialdN C (n' := 54) (f := (p_row B a b x).1) (j := a) 2 0 rfl rfl (by omega) (by decide) rfl dX3_lowerOnce_53 rfl ?_
        refine g_icmp_ge C (n' := 57) 74 dX3_lowerOnce_54 (by decide) rfl (by unfold inR; omega) (by unfold inR; omega) (fun c3 => ?_) (fun c3 => ?_)
        · skip
          refine g_iinc C (n' := 77) 1 [(3, .int (iI (((b : Nat) : Int) + 1))), (4, .int (iI (B a b))), (2, .int (iI ((a : Nat) : Int))), (1, .int (iI ((p_row B a b x).2))), (0, .ref (q 99))] rfl dX3_lowerOnce_74 rfl (by decide) rfl ?_
          refine g_goto C 14 dX3_lowerOnce_77 (by decide) ?_
          have e1 : p_row B a b x = p_row B a (b + 1) x := by rw [p_row, p_rel, if_neg (by omega)]
          rw [e1]
          refine g_lv (lv' := [(3, .int (iI ((b + 1 : Nat) : Int))), (2, .int (iI ((a : Nat) : Int))), (1, .int (iI ((p_row B a (b + 1) x).2))), (0, .ref (q 99))]) [0, 2, 3, 4] rfl ?_
          exact ih (b + 1) (by omega) K
        · skip
          refine g_aload_n C (n' := 58) 4 rfl dX3_lowerOnce_57 rfl rfl ?_
          refine g_get C (n' := 61) (Cn := RX3) (T := TX3) (N := 7) (ci := 2) (v := .ref (q 1)) ga_X3 0 rfl rfl 1 (by decide) kw_140 rfl rfl dX3_lowerOnce_58 rfl ?_
          refine g_iload_n C (n' := 62) 2 rfl dX3_lowerOnce_61 rfl rfl ?_
          refine g_aload_n C (n' := 63) 4 rfl dX3_lowerOnce_62 rfl rfl ?_
          refine g_get C (n' := 66) (Cn := RX3) (T := TX3) (N := 7) (ci := 2) (v := .ref (q 1)) ga_X3 0 rfl rfl 1 (by decide) kw_140 rfl rfl dX3_lowerOnce_63 rfl ?_
          refine g_iload_n C (n' := 67) 1 rfl dX3_lowerOnce_66 rfl rfl ?_
          refine g_ialdN C (n' := 68) (f := (p_row B a b x).1) (j := b) 2 0 rfl rfl (by omega) (by decide) rfl dX3_lowerOnce_67 rfl ?_
          refine g_iload C (n' := 70) 0 rfl dX3_lowerOnce_68 rfl ?_
          refine g_iadd C (n' := 71) dX3_lowerOnce_70 rfl ?_
          refine g_iastN C (n' := 72) (f := (p_row B a b x).1) (j := a) 2 0 rfl rfl (by omega) (by decide) rfl dX3_lowerOnce_71 rfl (wPlan q Y I (sU A 1 (sU (p_row B a b x).1 a (((p_row B a b x).1 b) + (B a b)))) B) rfl ?_
          refine g_iconst C (n' := 73) dX3_lowerOnce_72 rfl ?_
          refine g_istore_n C (n' := 74) [(1, .int (iI 1)), (4, .int (iI (B a b))), (3, .int (iI ((b : Nat) : Int))), (2, .int (iI ((a : Nat) : Int))), (0, .ref (q 99))] dX3_lowerOnce_73 rfl rfl (by decide) rfl ?_
          refine g_iinc C (n' := 77) 2 [(3, .int (iI (((b : Nat) : Int) + 1))), (1, .int (iI 1)), (4, .int (iI (B a b))), (2, .int (iI ((a : Nat) : Int))), (0, .ref (q 99))] rfl dX3_lowerOnce_74 rfl (by decide) rfl ?_
          refine g_goto C 14 dX3_lowerOnce_77 (by decide) ?_
          rw [show ((sU (p_row B a b x).1 a (((p_row B a b x).1 b) + (B a b))) : Nat → Int) = (p_row B a (b + 1) x).1 from by rw [p_row, p_rel, if_pos ⟨by omega, by omega⟩]]
          have e2 : (1 : Int) = (p_row B a (b + 1) x).2 := by rw [p_row, p_rel, if_pos ⟨by omega, by omega⟩]
          refine g_lv (lv' := [(3, .int (iI ((b + 1 : Nat) : Int))), (2, .int (iI ((a : Nat) : Int))), (1, .int (iI ((p_row B a (b + 1) x).2))), (0, .ref (q 99))]) [0, 3, 1, 4] (by rw [← e2]; rfl) ?_
          exact ih (b + 1) (by omega) K
set_option maxRecDepth 100000 in
set_option maxHeartbeats 4000000 in
theorem lp_X3_lo_out {p9 : Program} {l : Launch} {e9 : Env} {s9 : State} {m9 : MethodId} {a9 : Array Value} {b9 : List Frame} {t9 : Method} {c9 : Code} {D : va_G} {A9 : Nat → Prop} {Q9 : State → Prop} {E : (Nat → Prop) → State → Heap → Prop} {Y : Nat → ClassId} (C : g_Cx p9 s9 m9 a9 c9 cX3_lowerOnce 5 RX3 D (tysY Y) A9 E) (q : Nat → Nat) (I : Nat → Int) (A B : Nat → Nat → Int) (m : Int) (hsI : smI I) (hsA : smA A) (hsB : okB B) (hn : 2 ≤ I 3 ∧ I 3 ≤ 8) (hm : p_bd (I 3).toNat m (A 1, 0)) (hm2 : 0 ≤ m ∧ m ≤ 761600) : ∀ (n9 : Nat) (a : Nat), (a : Int) + n9 = I 3 → (g_G p9 l e9 ({ frames := 0, cells := 0, slots := 0, locals := 0 } : Room) s9 m9 a9 b9 t9 c9 5 D A9 Q9 0 0 (wPlan q Y I (sU A 1 (p_mat B (I 3).toNat (I 3).toNat (A 1, (0 : Int))).1) B) [(2, .int (iI (((I 3).toNat : Nat) : Int))), (1, .int (iI ((p_mat B (I 3).toNat ((I 3).toNat) (A 1, (0 : Int))).2))), (0, .ref (q 99))] 86 []) → g_G p9 l e9 ({ frames := 0, cells := 0, slots := 0, locals := 0 } : Room) s9 m9 a9 b9 t9 c9 5 D A9 Q9 0 0 (wPlan q Y I (sU A 1 (p_mat B (I 3).toNat a (A 1, (0 : Int))).1) B) [(2, .int (iI ((a : Nat) : Int))), (1, .int (iI ((p_mat B (I 3).toNat a (A 1, (0 : Int))).2))), (0, .ref (q 99))] 4 [] := by
  have hE := C.2.2.2.2.2.2.2.2.1
  intro n9
  induction n9 with
  | zero =>
    intro a ha K
    have hI := hsI
    have hA := hsA
    have hB := hsB
    unfold smI at hI
    unfold smA at hA
    unfold okB at hB
    have hbd := p_mat_r hsB (I 3).toNat hm a (by omega)
    refine g_iload_n C (n' := 5) 0 rfl dX3_lowerOnce_4 rfl rfl ?_
    refine g_aload_n C (n' := 6) 2 rfl dX3_lowerOnce_5 rfl rfl ?_
    refine g_get C (n' := 9) (Cn := RX3) (T := TX3) (N := 7) (ci := 2) (v := .int (iI (I 3))) ga_X3 0 rfl rfl 3 (by decide) kw_142 rfl rfl dX3_lowerOnce_6 rfl ?_
    have h_6 := hI 3
    refine g_icmp_ge C (n' := 12) 86 dX3_lowerOnce_9 (by decide) rfl (by unfold inR; omega) (by unfold inR; omega) (fun c1 => ?_) (fun c1 => ?_)
    · skip
      have ea : (I 3).toNat = a := by omega
      rw [ea] at K
      rw [ea]
      exact K
    · skip
      exfalso
      omega
  | succ n9 ih =>
    intro a ha K
    have hI := hsI
    have hA := hsA
    have hB := hsB
    unfold smI at hI
    unfold smA at hA
    unfold okB at hB
    have hbd := p_mat_r hsB (I 3).toNat hm a (by omega)
    refine g_iload_n C (n' := 5) 0 rfl dX3_lowerOnce_4 rfl rfl ?_
    refine g_aload_n C (n' := 6) 2 rfl dX3_lowerOnce_5 rfl rfl ?_
    refine g_get C (n' := 9) (Cn := RX3) (T := TX3) (N := 7) (ci := 2) (v := .int (iI (I 3))) ga_X3 0 rfl rfl 3 (by decide) kw_142 rfl rfl dX3_lowerOnce_6 rfl ?_
    have h_6 := hI 3
    refine g_icmp_ge C (n' := 12) 86 dX3_lowerOnce_9 (by decide) rfl (by unfold inR; omega) (by unfold inR; omega) (fun c1 => ?_) (fun c1 => ?_)
    · skip
      exfalso
      omega
    · skip
      refine g_iconst C (n' := 13) dX3_lowerOnce_12 rfl ?_
      refine g_istore_n C (n' := 14) [(3, .int (iI 0)), (2, .int (iI ((a : Nat) : Int))), (1, .int (iI ((p_mat B (I 3).toNat a (A 1, (0 : Int))).2))), (0, .ref (q 99))] dX3_lowerOnce_13 rfl rfl (by decide) rfl ?_
      refine g_lv (lv' := [(3, .int (iI ((0 : Nat) : Int))), (2, .int (iI ((a : Nat) : Int))), (1, .int (iI ((p_row B a 0 (p_mat B (I 3).toNat a (A 1, (0 : Int)))).2))), (0, .ref (q 99))]) [0, 1, 2, 3] rfl ?_
      have hle : (I 3).toNat * a ≤ 8 * 7 := Nat.mul_le_mul (by omega) (by omega)
      refine lp_X3_lo_in C q I A B a (p_mat B (I 3).toNat a (A 1, (0 : Int))) _ hsI hsA hsB hn (by omega) hbd (by omega) (I 3).toNat 0 (by omega) ?_
      refine g_iinc C (n' := 83) 1 [(2, .int (iI (((a : Nat) : Int) + 1))), (3, .int (iI (((I 3).toNat : Nat) : Int))), (1, .int (iI ((p_row B a (I 3).toNat (p_mat B (I 3).toNat a (A 1, (0 : Int)))).2))), (0, .ref (q 99))] rfl dX3_lowerOnce_80 rfl (by decide) rfl ?_
      refine g_goto C 4 dX3_lowerOnce_83 (by decide) ?_
      have e1 : p_row B a (I 3).toNat (p_mat B (I 3).toNat a (A 1, (0 : Int))) = p_mat B (I 3).toNat (a + 1) (A 1, (0 : Int)) := rfl
      rw [e1]
      refine g_lv (lv' := [(2, .int (iI ((a + 1 : Nat) : Int))), (1, .int (iI ((p_mat B (I 3).toNat (a + 1) (A 1, (0 : Int))).2))), (0, .ref (q 99))]) [0, 2, 3] rfl ?_
      exact ih (a + 1) (by omega) K
set_option maxRecDepth 100000 in
set_option maxHeartbeats 4000000 in
theorem c_X3_lowerOnce (l : Launch) (D : va_G) (Y : Nat → ClassId) {E : (Nat → Prop) → State → Heap → Prop} (hE : g_Stab E) (q : Nat → Nat) (I : Nat → Int) (A : Nat → Nat → Int) (B : Nat → Nat → Int) (m : Int) (hsI : smI I) (hsA : smA A) (hsB : okB B) (hn : 2 ≤ I 3 ∧ I 3 ≤ 8) (hm : p_bd (I 3).toNat m (A 1, 0)) (hm2 : 0 ≤ m ∧ m ≤ 761600) : g_Ct l yX3_lowerOnce cX3_lowerOnce 5 (some FieldType.boolean) ({ frames := 0, cells := 0, slots := 0, locals := 0 } : Room) D (tysY Y) E [.ref (q 99)] (wPlan q Y I A B) 0 0 (g_det (some (.int (iI ((p_mat B (I 3).toNat (I 3).toNat (A 1, 0)).2)))) (wPlan q Y I (sU A 1 (p_mat B (I 3).toNat (I 3).toNat (A 1, 0)).1) B)) := by
  refine g_ofG (own := RX3) hE (by decide) rfl (Nat.le_of_ble_eq_true rfl) [(0, .ref (q 99))] rfl ?_
  intro p9 e9 s9 m9 b9 t9 c9 A9 C hr hlk hnm
  have hI := hsI
  have hA := hsA
  have hB := hsB
  unfold smI at hI
  unfold smA at hA
  unfold okB at hB
  refine g_iconst C (n' := 1) dX3_lowerOnce_0 rfl ?_
  refine g_istore_n C (n' := 2) [(1, .int (iI 0)), (0, .ref (q 99))] dX3_lowerOnce_1 rfl rfl (by decide) rfl ?_
  refine g_iconst C (n' := 3) dX3_lowerOnce_2 rfl ?_
  refine g_istore_n C (n' := 4) [(2, .int (iI 0)), (1, .int (iI 0)), (0, .ref (q 99))] dX3_lowerOnce_3 rfl rfl (by decide) rfl ?_
  refine g_wd (w' := (wPlan q Y I (sU A 1 (p_mat B (I 3).toNat 0 (A 1, (0 : Int))).1) B)) (by rw [show (p_mat B (I 3).toNat 0 (A 1, (0 : Int))).1 = A 1 from rfl, sU_id]) ?_
  refine g_lv (lv' := [(2, .int (iI ((0 : Nat) : Int))), (1, .int (iI ((p_mat B (I 3).toNat 0 (A 1, (0 : Int))).2))), (0, .ref (q 99))]) [0, 1, 2] rfl ?_
  refine lp_X3_lo_out C q I A B m hsI hsA hsB hn hm hm2 (I 3).toNat 0 (by omega) ?_
  have hbd := p_mat_r hsB (I 3).toNat hm (I 3).toNat (Nat.le_refl _)
  refine g_iload_n C (n' := 87) 1 rfl dX3_lowerOnce_86 rfl rfl ?_
  refine g_iret C hr hlk (nar_z hbd.2) ⟨congrArg (fun z : Int => some (Value.int (iI z))) ?_, ?_⟩ dX3_lowerOnce_87
  · first | rfl | omega | ((repeat' split) <;> first | rfl | omega | (exfalso; omega))
  · first | rfl | omega | ((repeat' split) <;> first | rfl | omega | (exfalso; omega))
