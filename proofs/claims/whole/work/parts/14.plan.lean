/-! Planner -/
def wPlan (q : Nat → Nat) (Y : Nat → ClassId) (I : Nat → Int) (A B : Nat → Nat → Int) : va_W := [(q 99, .inr (2, [.ref (q 0), .ref (q 1), .ref (q 2), .int (iI (I 3)), .int (iI (I 4)), .int (iI (I 5)), .int (iI (I 6))])), (q 0, .inl (Y 7, 8, .inr (.inr (.inr (.inr (fun i => if i < 8 then some (q (20 + i)) else none)))))), (q 1, .inl (Y 0, 8, .inl (iA (A 1)))), (q 2, .inl (Y 0, 8, .inl (iA (A 2)))), (q (20 + 0), .inl (Y 0, 8, .inl (iA (B 0)))), (q (20 + 1), .inl (Y 0, 8, .inl (iA (B 1)))), (q (20 + 2), .inl (Y 0, 8, .inl (iA (B 2)))), (q (20 + 3), .inl (Y 0, 8, .inl (iA (B 3)))), (q (20 + 4), .inl (Y 0, 8, .inl (iA (B 4)))), (q (20 + 5), .inl (Y 0, 8, .inl (iA (B 5)))), (q (20 + 6), .inl (Y 0, 8, .inl (iA (B 6)))), (q (20 + 7), .inl (Y 0, 8, .inl (iA (B 7))))]
theorem pl_row {q : Nat → Nat} {Y : Nat → ClassId} {I : Nat → Int} {A B : Nat → Nat → Int} {a : Nat} (h : a < 8) : (wPlan q Y I A B)[4 + a]? = some (q (20 + a), .inl (Y 0, 8, .inl (iA (B a)))) := by
  rcases (show a = 0 ∨ a = 1 ∨ a = 2 ∨ a = 3 ∨ a = 4 ∨ a = 5 ∨ a = 6 ∨ a = 7 by omega) with rfl | rfl | rfl | rfl | rfl | rfl | rfl | rfl <;> rfl
theorem pl_set {q : Nat → Nat} {Y : Nat → ClassId} {I : Nat → Int} {A B : Nat → Nat → Int} {a : Nat} {f : Nat → Int} (h : a < 8) : (wPlan q Y I A B).set (4 + a) (q (20 + a), .inl (Y 0, 8, .inl (iA f))) = wPlan q Y I A (sU B a f) := by
  rcases (show a = 0 ∨ a = 1 ∨ a = 2 ∨ a = 3 ∨ a = 4 ∨ a = 5 ∨ a = 6 ∨ a = 7 by omega) with rfl | rfl | rfl | rfl | rfl | rfl | rfl | rfl <;> rfl
theorem pl_row2 {q : Nat → Nat} {Y : Nat → ClassId} {I : Nat → Int} {A B : Nat → Nat → Int} {w : va_W} {a : Nat} (h : a < 8) : (wPlan q Y I A B ++ w)[4 + a]? = some (q (20 + a), .inl (Y 0, 8, .inl (iA (B a)))) := by
  rw [List.getElem?_append_left (by show 4 + a < 12; omega)]
  exact pl_row h
theorem pl_set2 {q : Nat → Nat} {Y : Nat → ClassId} {I : Nat → Int} {A B : Nat → Nat → Int} {w : va_W} {a : Nat} {f : Nat → Int} (h : a < 8) : (wPlan q Y I A B ++ w).set (4 + a) (q (20 + a), .inl (Y 0, 8, .inl (iA f))) = wPlan q Y I A (sU B a f) ++ w := by
  rw [List.set_append_left _ _ (by show 4 + a < 12; omega), pl_set h]
def okB (B : Nat → Nat → Int) : Prop := ∀ a b : Nat, B a b = 2147483647 ∨ (-1700 ≤ B a b ∧ B a b ≤ 10000)
def p_tight (B : Nat → Nat → Int) (a b : Nat) (x : Int) : Nat → Nat → Int := sU B a (sU (B a) b (if B a b ≤ x then B a b else x))
theorem ed_r {x s : Int} (h1 : -1700 ≤ x ∧ x ≤ 10000) (hs : 1 ≤ s) : -1700 ≤ x / s ∧ x / s ≤ 10000 := by
  constructor
  · exact Int.le_ediv_of_mul_le (by omega) (by omega)
  · by_cases q : 0 ≤ x
    · have := Int.ediv_le_self s q
      omega
    · have := Int.ediv_neg_of_neg_of_pos (show x < 0 by omega) (show 0 < s by omega)
      omega
theorem p_tight_ok {B : Nat → Nat → Int} (h : okB B) {a b : Nat} {x : Int} (hx : -1700 ≤ x ∧ x ≤ 10000) : okB (p_tight B a b x) := by
  intro i j
  unfold p_tight
  by_cases e : i = a
  · subst e
    rw [sU_s]
    by_cases e2 : j = b
    · subst e2
      rw [sU_s]
      have := h i j
      split <;> omega
    · rw [sU_n _ _ e2]
      exact h i j
  · rw [sU_n _ _ e]
    exact h i j
set_option maxRecDepth 100000 in
set_option maxHeartbeats 4000000 in
theorem c_X3_shiftOf (l : Launch) (D : va_G) (Y : Nat → ClassId) {E : (Nat → Prop) → State → Heap → Prop} (hE : g_Stab E) (q : Nat → Nat) (I : Nat → Int) (A : Nat → Nat → Int) (B : Nat → Nat → Int) (r : Int) (hr : 0 ≤ r ∧ r < 8) : g_Ct l yX3_shiftOf cX3_shiftOf 2 (some FieldType.int) ({ frames := 0, cells := 0, slots := 0, locals := 0 } : Room) D (tysY Y) E [.ref (q 99), .int (iI r)] (wPlan q Y I A B) 0 0 (g_det (some (.int (iI (A 1 r.toNat)))) (wPlan q Y I A B)) := by
  refine g_ofG (own := RX3) hE (by decide) rfl (Nat.le_of_ble_eq_true rfl) [(0, .ref (q 99)), (1, .int (iI r))] rfl ?_
  intro p9 e9 s9 m9 b9 t9 c9 A9 C hr hlk hnm
  refine g_aload_n C (n' := 1) 0 rfl dX3_shiftOf_0 rfl rfl ?_
  refine g_get C (n' := 4) (Cn := RX3) (T := TX3) (N := 7) (ci := 2) (v := .ref (q 1)) ga_X3 0 rfl rfl 1 (by decide) kw_140 rfl rfl dX3_shiftOf_1 rfl ?_
  refine g_iload_n C (n' := 5) 1 rfl dX3_shiftOf_4 rfl rfl ?_
  refine g_iald C (n' := 6) 2 0 rfl rfl (by omega) (by omega) (by decide) rfl dX3_shiftOf_5 rfl ?_
  refine g_iret C hr hlk rfl ⟨congrArg (fun z : Int => some (Value.int (iI z))) ?_, ?_⟩ dX3_shiftOf_6
  · first | rfl | omega | ((repeat' split) <;> first | rfl | omega | (exfalso; omega))
  · first | rfl | omega | ((repeat' split) <;> first | rfl | omega | (exfalso; omega))
set_option maxRecDepth 100000 in
set_option maxHeartbeats 4000000 in
theorem c_X3_ringLength (l : Launch) (D : va_G) (Y : Nat → ClassId) {E : (Nat → Prop) → State → Heap → Prop} (hE : g_Stab E) (q : Nat → Nat) (I : Nat → Int) (A : Nat → Nat → Int) (B : Nat → Nat → Int) : g_Ct l yX3_ringLength cX3_ringLength 1 (some FieldType.int) ({ frames := 0, cells := 0, slots := 0, locals := 0 } : Room) D (tysY Y) E [.ref (q 99)] (wPlan q Y I A B) 0 0 (g_det (some (.int (iI (I 4)))) (wPlan q Y I A B)) := by
  refine g_ofG (own := RX3) hE (by decide) rfl (Nat.le_of_ble_eq_true rfl) [(0, .ref (q 99))] rfl ?_
  intro p9 e9 s9 m9 b9 t9 c9 A9 C hr hlk hnm
  refine g_aload_n C (n' := 1) 0 rfl dX3_ringLength_0 rfl rfl ?_
  refine g_get C (n' := 4) (Cn := RX3) (T := TX3) (N := 7) (ci := 2) (v := .int (iI (I 4))) ga_X3 0 rfl rfl 4 (by decide) kw_143 rfl rfl dX3_ringLength_1 rfl ?_
  refine g_iret C hr hlk rfl ⟨congrArg (fun z : Int => some (Value.int (iI z))) ?_, ?_⟩ dX3_ringLength_4
  · first | rfl | omega | ((repeat' split) <;> first | rfl | omega | (exfalso; omega))
  · first | rfl | omega | ((repeat' split) <;> first | rfl | omega | (exfalso; omega))
set_option maxRecDepth 100000 in
set_option maxHeartbeats 4000000 in
theorem c_X3_ringRegister (l : Launch) (D : va_G) (Y : Nat → ClassId) {E : (Nat → Prop) → State → Heap → Prop} (hE : g_Stab E) (q : Nat → Nat) (I : Nat → Int) (A : Nat → Nat → Int) (B : Nat → Nat → Int) (r : Int) (hr : 0 ≤ r ∧ r < 8) : g_Ct l yX3_ringRegister cX3_ringRegister 2 (some FieldType.int) ({ frames := 0, cells := 0, slots := 0, locals := 0 } : Room) D (tysY Y) E [.ref (q 99), .int (iI r)] (wPlan q Y I A B) 0 0 (g_det (some (.int (iI (A 2 r.toNat)))) (wPlan q Y I A B)) := by
  refine g_ofG (own := RX3) hE (by decide) rfl (Nat.le_of_ble_eq_true rfl) [(0, .ref (q 99)), (1, .int (iI r))] rfl ?_
  intro p9 e9 s9 m9 b9 t9 c9 A9 C hr hlk hnm
  refine g_aload_n C (n' := 1) 0 rfl dX3_ringRegister_0 rfl rfl ?_
  refine g_get C (n' := 4) (Cn := RX3) (T := TX3) (N := 7) (ci := 2) (v := .ref (q 2)) ga_X3 0 rfl rfl 2 (by decide) kw_141 rfl rfl dX3_ringRegister_1 rfl ?_
  refine g_iload_n C (n' := 5) 1 rfl dX3_ringRegister_4 rfl rfl ?_
  refine g_iald C (n' := 6) 3 0 rfl rfl (by omega) (by omega) (by decide) rfl dX3_ringRegister_5 rfl ?_
  refine g_iret C hr hlk rfl ⟨congrArg (fun z : Int => some (Value.int (iI z))) ?_, ?_⟩ dX3_ringRegister_6
  · first | rfl | omega | ((repeat' split) <;> first | rfl | omega | (exfalso; omega))
  · first | rfl | omega | ((repeat' split) <;> first | rfl | omega | (exfalso; omega))
set_option maxRecDepth 100000 in
set_option maxHeartbeats 4000000 in
theorem c_X3_rateAbove (l : Launch) (D : va_G) (Y : Nat → ClassId) {E : (Nat → Prop) → State → Heap → Prop} (hE : g_Stab E) (q : Nat → Nat) (I : Nat → Int) (A : Nat → Nat → Int) (B : Nat → Nat → Int) : g_Ct l yX3_rateAbove cX3_rateAbove 1 (some FieldType.int) ({ frames := 0, cells := 0, slots := 0, locals := 0 } : Room) D (tysY Y) E [.ref (q 99)] (wPlan q Y I A B) 0 0 (g_det (some (.int (iI (I 5)))) (wPlan q Y I A B)) := by
  refine g_ofG (own := RX3) hE (by decide) rfl (Nat.le_of_ble_eq_true rfl) [(0, .ref (q 99))] rfl ?_
  intro p9 e9 s9 m9 b9 t9 c9 A9 C hr hlk hnm
  refine g_aload_n C (n' := 1) 0 rfl dX3_rateAbove_0 rfl rfl ?_
  refine g_get C (n' := 4) (Cn := RX3) (T := TX3) (N := 7) (ci := 2) (v := .int (iI (I 5))) ga_X3 0 rfl rfl 5 (by decide) kw_144 rfl rfl dX3_rateAbove_1 rfl ?_
  refine g_iret C hr hlk rfl ⟨congrArg (fun z : Int => some (Value.int (iI z))) ?_, ?_⟩ dX3_rateAbove_4
  · first | rfl | omega | ((repeat' split) <;> first | rfl | omega | (exfalso; omega))
  · first | rfl | omega | ((repeat' split) <;> first | rfl | omega | (exfalso; omega))
set_option maxRecDepth 100000 in
set_option maxHeartbeats 4000000 in
theorem c_X3_rateBelow (l : Launch) (D : va_G) (Y : Nat → ClassId) {E : (Nat → Prop) → State → Heap → Prop} (hE : g_Stab E) (q : Nat → Nat) (I : Nat → Int) (A : Nat → Nat → Int) (B : Nat → Nat → Int) : g_Ct l yX3_rateBelow cX3_rateBelow 1 (some FieldType.int) ({ frames := 0, cells := 0, slots := 0, locals := 0 } : Room) D (tysY Y) E [.ref (q 99)] (wPlan q Y I A B) 0 0 (g_det (some (.int (iI (I 6)))) (wPlan q Y I A B)) := by
  refine g_ofG (own := RX3) hE (by decide) rfl (Nat.le_of_ble_eq_true rfl) [(0, .ref (q 99))] rfl ?_
  intro p9 e9 s9 m9 b9 t9 c9 A9 C hr hlk hnm
  refine g_aload_n C (n' := 1) 0 rfl dX3_rateBelow_0 rfl rfl ?_
  refine g_get C (n' := 4) (Cn := RX3) (T := TX3) (N := 7) (ci := 2) (v := .int (iI (I 6))) ga_X3 0 rfl rfl 6 (by decide) kw_145 rfl rfl dX3_rateBelow_1 rfl ?_
  refine g_iret C hr hlk rfl ⟨congrArg (fun z : Int => some (Value.int (iI z))) ?_, ?_⟩ dX3_rateBelow_4
  · first | rfl | omega | ((repeat' split) <;> first | rfl | omega | (exfalso; omega))
  · first | rfl | omega | ((repeat' split) <;> first | rfl | omega | (exfalso; omega))
set_option maxRecDepth 100000 in
set_option maxHeartbeats 4000000 in
theorem c_X3_tighten (l : Launch) (D : va_G) (Y : Nat → ClassId) {E : (Nat → Prop) → State → Heap → Prop} (hE : g_Stab E) (q : Nat → Nat) (I : Nat → Int) (A : Nat → Nat → Int) (B : Nat → Nat → Int) (a : Int) (b : Int) (x : Int) (t : Int) (hsI : smI I) (hsA : smA A) (hsB : okB B) (ha : 0 ≤ a ∧ a < 8) (hb : 0 ≤ b ∧ b < 8) (hx : -1700 ≤ x ∧ x ≤ 10000) (ht : 1 ≤ t ∧ t ≤ 9) : g_Ct l yX3_tighten cX3_tighten 5 none ({ frames := 1, cells := 0, slots := 0, locals := 22 } : Room) D (tysY Y) E [.ref (q 99), .int (iI a), .int (iI b), .int (iI x), .int (iI t)] (wPlan q Y I A B) 0 0 (g_det none (wPlan q Y I A (p_tight B a.toNat b.toNat (x / t)))) := by
  refine g_ofG (own := RX3) hE (by decide) rfl (Nat.le_of_ble_eq_true rfl) [(0, .ref (q 99)), (1, .int (iI a)), (2, .int (iI b)), (3, .int (iI x)), (4, .int (iI t))] rfl ?_
  intro p9 e9 s9 m9 b9 t9 c9 A9 C hr hlk hnm
  have hI := hsI
  have hA := hsA
  have hB := hsB
  unfold smI at hI
  unfold smA at hA
  unfold okB at hB
  refine g_iload C (n' := 2) 4 rfl dX3_tighten_0 rfl ?_
  refine g_if_le C (n' := 5) 30 dX3_tighten_2 (by decide) rfl (by unfold inR; omega) (fun c1 => ?_) (fun c1 => ?_)
  · skip
    exfalso
    omega
  · skip
    refine g_aload_n C (n' := 6) 0 rfl dX3_tighten_5 rfl rfl ?_
    refine g_get C (n' := 9) (Cn := RX3) (T := TX3) (N := 7) (ci := 2) (v := .ref (q 0)) ga_X3 0 rfl rfl 0 (by decide) kw_139 rfl rfl dX3_tighten_6 rfl ?_
    refine g_iload_n C (n' := 10) 1 rfl dX3_tighten_9 rfl rfl ?_
    refine g_aalA C (n' := 11) (v := q (20 + a.toNat)) 1 7 rfl rfl (by omega) (by omega) (by decide) (if_pos (by omega)) dX3_tighten_10 rfl ?_
    refine g_iload_n C (n' := 12) 2 rfl dX3_tighten_11 rfl rfl ?_
    refine g_aload_n C (n' := 13) 0 rfl dX3_tighten_12 rfl rfl ?_
    refine g_get C (n' := 16) (Cn := RX3) (T := TX3) (N := 7) (ci := 2) (v := .ref (q 0)) ga_X3 0 rfl rfl 0 (by decide) kw_139 rfl rfl dX3_tighten_13 rfl ?_
    refine g_iload_n C (n' := 17) 1 rfl dX3_tighten_16 rfl rfl ?_
    refine g_aalA C (n' := 18) (v := q (20 + a.toNat)) 1 7 rfl rfl (by omega) (by omega) (by decide) (if_pos (by omega)) dX3_tighten_17 rfl ?_
    refine g_iload_n C (n' := 19) 2 rfl dX3_tighten_18 rfl rfl ?_
    refine g_iald C (n' := 20) (4 + a.toNat) 0 (pl_row (by omega)) rfl (by omega) (by omega) (by decide) rfl dX3_tighten_19 rfl ?_
    have hb_19 := hB a.toNat b.toNat
    refine g_iload_n C (n' := 21) 3 rfl dX3_tighten_20 rfl rfl ?_
    refine g_iload C (n' := 23) 4 rfl dX3_tighten_21 rfl ?_
    refine g_cSv C (n' := 26) (v := .int (iI (x / t))) (c_J9_floorDiv_7cf53 l D Y C.2.2.2.2.2.2.2.2.1 x t (by unfold inR at *; omega) (by omega) (by omega)) 2 kw_461 kc_J9_floorDiv_7cf53 (by decide +kernel) (pm_n _) rfl ⟨Nat.le_of_ble_eq_true rfl, Nat.le_of_ble_eq_true rfl⟩ ⟨rfl, rfl⟩ ⟨Nat.le_of_ble_eq_true rfl, Nat.le_of_ble_eq_true rfl⟩ (Nat.le_of_ble_eq_true rfl) dX3_tighten_23 rfl rfl (wPlan q Y I A B) (pm_n _) ?_
    have hxt := ed_r hx ht.1
    refine g_cSv C (n' := 29) (v := .int (iI (if (B a.toNat b.toNat) ≤ (x / t) then (B a.toNat b.toNat) else (x / t)))) (c_J9_min_7cf53 l D Y C.2.2.2.2.2.2.2.2.1 (B a.toNat b.toNat) (x / t) (by unfold inR at *; omega) (by unfold inR at *; omega)) 2 kw_464 kc_J9_min_7cf53 (by decide +kernel) (pm_n _) rfl ⟨Nat.le_of_ble_eq_true rfl, Nat.le_of_ble_eq_true rfl⟩ ⟨rfl, rfl⟩ ⟨Nat.le_of_ble_eq_true rfl, Nat.le_of_ble_eq_true rfl⟩ (Nat.le_of_ble_eq_true rfl) dX3_tighten_26 rfl rfl (wPlan q Y I A B) (pm_n _) ?_
    refine g_iast C (n' := 30) (4 + a.toNat) 0 (pl_row (by omega)) rfl (by omega) (by omega) (by decide) rfl dX3_tighten_29 rfl (wPlan q Y I A (sU B a.toNat (sU (B a.toNat) b.toNat (if (B a.toNat b.toNat) ≤ (x / t) then (B a.toNat b.toNat) else (x / t))))) (pl_set (by omega)) ?_
    refine g_vret C hr hlk ⟨rfl, rfl⟩ dX3_tighten_30
