/-! static helpers -/
theorem lc_r {a b : Int} : inR (if a < b then -1 else if a = b then 0 else 1) := by
  unfold inR
  (repeat' split) <;> omega
theorem sm_put {I : Nat → Int} {k : Nat} {v : Int} (h : smI I) (hv : -1000000 ≤ v ∧ v ≤ 1000000) : smI (sU I k v) := fun j => by
  unfold sU
  split
  · exact hv
  · exact h j
def smR (f : Nat → Int) : Prop := ∀ k : Nat, -1000000 ≤ f k ∧ f k ≤ 1000000
theorem sm_putR {f : Nat → Int} {k : Nat} {v : Int} (h : smR f) (hv : -1000000 ≤ v ∧ v ≤ 1000000) : smR (sU f k v) := fun j => by
  unfold sU
  split
  · exact hv
  · exact h j
theorem sm_putA {A : Nat → Nat → Int} {k : Nat} {f : Nat → Int} (h : smA A) (hv : smR f) : smA (sU A k f) := fun j => by
  unfold sU
  split
  · exact hv
  · exact h j
theorem hf_of {I : Nat → Int} (h : smI I) : ∀ k : Nat, -1000000 ≤ I k ∧ I k ≤ 1000000 := h
theorem bz_r {c : Prop} [Decidable c] : inR (if c then 1 else 0) := by
  unfold inR
  split <;> omega
theorem bz_01 {c : Prop} [Decidable c] : (if c then 1 else 0 : Int) = 0 ∨ (if c then 1 else 0 : Int) = 1 := by
  split <;> omega
theorem bz_iff {c d : Prop} [Decidable c] [Decidable d] : (if c then 1 else 0 : Int) = (if d then 1 else 0) ↔ (c ↔ d) := by
  by_cases h : c <;> by_cases k : d <;> simp [h, k]
theorem bz_eq {c : Prop} [Decidable c] : (if c then 1 else 0 : Int) = 0 ↔ ¬ c := by
  split <;> simp_all
theorem bz_neq {c : Prop} [Decidable c] : ¬ (if c then 1 else 0 : Int) = 0 ↔ c := by
  split <;> simp_all
theorem bz_ne {c : Prop} [Decidable c] : (if c then 1 else 0 : Int) ≠ 0 ↔ c := by
  split <;> simp_all
theorem bz_nne {c : Prop} [Decidable c] : ¬ (if c then 1 else 0 : Int) ≠ 0 ↔ ¬ c := by
  split <;> simp_all
theorem lc_lt {a b : Int} : (if a < b then -1 else if a = b then 0 else 1 : Int) < 0 ↔ a < b := by
  (repeat' split) <;> omega
theorem lc_le {a b : Int} : (if a < b then -1 else if a = b then 0 else 1 : Int) ≤ 0 ↔ a ≤ b := by
  (repeat' split) <;> omega
theorem lc_eq {a b : Int} : (if a < b then -1 else if a = b then 0 else 1 : Int) = 0 ↔ a = b := by
  (repeat' split) <;> omega
theorem lc_ne {a b : Int} : (if a < b then -1 else if a = b then 0 else 1 : Int) ≠ 0 ↔ a ≠ b := by
  (repeat' split) <;> omega
theorem lc_ge {a b : Int} : 0 ≤ (if a < b then -1 else if a = b then 0 else 1 : Int) ↔ b ≤ a := by
  (repeat' split) <;> omega
theorem lc_gt {a b : Int} : 0 < (if a < b then -1 else if a = b then 0 else 1 : Int) ↔ b < a := by
  (repeat' split) <;> omega
set_option maxRecDepth 100000 in
set_option maxHeartbeats 4000000 in
theorem c_X7_isWithin (l : Launch) (D : va_G) (Y : Nat → ClassId) {E : (Nat → Prop) → State → Heap → Prop} (hE : g_Stab E) (n : Int) (lo : Int) (hi : Int) (hn : inR n) (hlo : inR lo) (hhi : inR hi) : g_Ct l yX7_isWithin cX7_isWithin 3 (some FieldType.boolean) ({ frames := 0, cells := 0, slots := 0, locals := 0 } : Room) D (tysY Y) E [.int (iI n), .int (iI lo), .int (iI hi)] [] 0 0 (g_det (some (.int (iI (if lo ≤ n ∧ n ≤ hi then 1 else 0)))) []) := by
  refine g_ofG (own := RX7) hE (by decide) rfl (Nat.le_of_ble_eq_true rfl) [(0, .int (iI n)), (1, .int (iI lo)), (2, .int (iI hi))] rfl ?_
  intro p9 e9 s9 m9 b9 t9 c9 A9 C hr hlk hnm
  unfold inR at *
  refine g_iload_n C (n' := 1) 0 rfl dX7_isWithin_0 rfl rfl ?_
  refine g_iload_n C (n' := 2) 1 rfl dX7_isWithin_1 rfl rfl ?_
  refine g_icmp_lt C (n' := 5) 14 dX7_isWithin_2 (by decide) rfl (by unfold inR; omega) (by unfold inR; omega) (fun c1 => ?_) (fun c1 => ?_)
  · skip
    refine g_iconst C (n' := 15) dX7_isWithin_14 rfl ?_
    refine g_iret C hr hlk (nar_z (by omega)) ⟨congrArg (fun z : Int => some (Value.int (iI z))) ?_, ?_⟩ dX7_isWithin_15
    · first | rfl | omega | ((repeat' split) <;> first | rfl | omega | (exfalso; omega))
    · first | rfl | omega | ((repeat' split) <;> first | rfl | omega | (exfalso; omega))
  · skip
    refine g_iload_n C (n' := 6) 0 rfl dX7_isWithin_5 rfl rfl ?_
    refine g_iload_n C (n' := 7) 2 rfl dX7_isWithin_6 rfl rfl ?_
    refine g_icmp_gt C (n' := 10) 14 dX7_isWithin_7 (by decide) rfl (by unfold inR; omega) (by unfold inR; omega) (fun c2 => ?_) (fun c2 => ?_)
    · skip
      refine g_iconst C (n' := 15) dX7_isWithin_14 rfl ?_
      refine g_iret C hr hlk (nar_z (by omega)) ⟨congrArg (fun z : Int => some (Value.int (iI z))) ?_, ?_⟩ dX7_isWithin_15
      · first | rfl | omega | ((repeat' split) <;> first | rfl | omega | (exfalso; omega))
      · first | rfl | omega | ((repeat' split) <;> first | rfl | omega | (exfalso; omega))
    · skip
      refine g_iconst C (n' := 11) dX7_isWithin_10 rfl ?_
      refine g_goto C 15 dX7_isWithin_11 (by decide) ?_
      refine g_iret C hr hlk (nar_z (by omega)) ⟨congrArg (fun z : Int => some (Value.int (iI z))) ?_, ?_⟩ dX7_isWithin_15
      · first | rfl | omega | ((repeat' split) <;> first | rfl | omega | (exfalso; omega))
      · first | rfl | omega | ((repeat' split) <;> first | rfl | omega | (exfalso; omega))
set_option maxRecDepth 100000 in
set_option maxHeartbeats 4000000 in
theorem c_X7_isKeptPlace (l : Launch) (D : va_G) (Y : Nat → ClassId) {E : (Nat → Prop) → State → Heap → Prop} (hE : g_Stab E) (k : Int) (hk : inR k) : g_Ct l yX7_isKeptPlace cX7_isKeptPlace 1 (some FieldType.boolean) ({ frames := 1, cells := 0, slots := 0, locals := 22 } : Room) D (tysY Y) E [.int (iI k)] [] 0 0 (g_det (some (.int (iI (if 0 ≤ k ∧ k ≤ 1 then 1 else 0)))) []) := by
  refine g_ofG (own := RX7) hE (by decide) rfl (Nat.le_of_ble_eq_true rfl) [(0, .int (iI k))] rfl ?_
  intro p9 e9 s9 m9 b9 t9 c9 A9 C hr hlk hnm
  unfold inR at *
  refine g_iload_n C (n' := 1) 0 rfl dX7_isKeptPlace_0 rfl rfl ?_
  refine g_iconst C (n' := 2) dX7_isKeptPlace_1 rfl ?_
  refine g_iconst C (n' := 3) dX7_isKeptPlace_2 rfl ?_
  refine g_cSv C (n' := 6) (v := .int (iI (if 0 ≤ k ∧ k ≤ 1 then 1 else 0))) (c_X7_isWithin l D Y C.2.2.2.2.2.2.2.2.1 k 0 1 hk (by unfold inR at *; omega) (by unfold inR at *; omega)) 3 kw_217 kc_X7_isWithin (by decide +kernel) (pm0 _) rfl ⟨Nat.le_of_ble_eq_true rfl, Nat.le_of_ble_eq_true rfl⟩ ⟨rfl, rfl⟩ ⟨Nat.le_of_ble_eq_true rfl, Nat.le_of_ble_eq_true rfl⟩ (Nat.le_of_ble_eq_true rfl) dX7_isKeptPlace_3 rfl rfl [] (pm0' _) ?_
  refine g_iret C hr hlk (nar_z bz_01) ⟨congrArg (fun z : Int => some (Value.int (iI z))) ?_, ?_⟩ dX7_isKeptPlace_6
  · first | rfl | omega | ((repeat' split) <;> first | rfl | omega | (exfalso; omega))
  · first | rfl | omega | ((repeat' split) <;> first | rfl | omega | (exfalso; omega))
set_option maxRecDepth 100000 in
set_option maxHeartbeats 4000000 in
theorem c_X7_isTrace (l : Launch) (D : va_G) (Y : Nat → ClassId) {E : (Nat → Prop) → State → Heap → Prop} (hE : g_Stab E) (k : Int) (hk : inR k) : g_Ct l yX7_isTrace cX7_isTrace 1 (some FieldType.boolean) ({ frames := 1, cells := 0, slots := 0, locals := 22 } : Room) D (tysY Y) E [.int (iI k)] [] 0 0 (g_det (some (.int (iI (if 0 ≤ k ∧ k ≤ 2 then 1 else 0)))) []) := by
  refine g_ofG (own := RX7) hE (by decide) rfl (Nat.le_of_ble_eq_true rfl) [(0, .int (iI k))] rfl ?_
  intro p9 e9 s9 m9 b9 t9 c9 A9 C hr hlk hnm
  unfold inR at *
  refine g_iload_n C (n' := 1) 0 rfl dX7_isTrace_0 rfl rfl ?_
  refine g_iconst C (n' := 2) dX7_isTrace_1 rfl ?_
  refine g_iconst C (n' := 3) dX7_isTrace_2 rfl ?_
  refine g_cSv C (n' := 6) (v := .int (iI (if 0 ≤ k ∧ k ≤ 2 then 1 else 0))) (c_X7_isWithin l D Y C.2.2.2.2.2.2.2.2.1 k 0 2 hk (by unfold inR at *; omega) (by unfold inR at *; omega)) 3 kw_217 kc_X7_isWithin (by decide +kernel) (pm0 _) rfl ⟨Nat.le_of_ble_eq_true rfl, Nat.le_of_ble_eq_true rfl⟩ ⟨rfl, rfl⟩ ⟨Nat.le_of_ble_eq_true rfl, Nat.le_of_ble_eq_true rfl⟩ (Nat.le_of_ble_eq_true rfl) dX7_isTrace_3 rfl rfl [] (pm0' _) ?_
  refine g_iret C hr hlk (nar_z bz_01) ⟨congrArg (fun z : Int => some (Value.int (iI z))) ?_, ?_⟩ dX7_isTrace_6
  · first | rfl | omega | ((repeat' split) <;> first | rfl | omega | (exfalso; omega))
  · first | rfl | omega | ((repeat' split) <;> first | rfl | omega | (exfalso; omega))
set_option maxRecDepth 100000 in
set_option maxHeartbeats 4000000 in
theorem c_X7_isSort (l : Launch) (D : va_G) (Y : Nat → ClassId) {E : (Nat → Prop) → State → Heap → Prop} (hE : g_Stab E) (k : Int) (hk : inR k) : g_Ct l yX7_isSort cX7_isSort 1 (some FieldType.boolean) ({ frames := 0, cells := 0, slots := 0, locals := 0 } : Room) D (tysY Y) E [.int (iI k)] [] 0 0 (g_det (some (.int (iI (if k = 0 ∨ k = 1 then 1 else 0)))) []) := by
  refine g_ofG (own := RX7) hE (by decide) rfl (Nat.le_of_ble_eq_true rfl) [(0, .int (iI k))] rfl ?_
  intro p9 e9 s9 m9 b9 t9 c9 A9 C hr hlk hnm
  unfold inR at *
  refine g_iload_n C (n' := 1) 0 rfl dX7_isSort_0 rfl rfl ?_
  refine g_if_eq C (n' := 4) 9 dX7_isSort_1 (by decide) rfl (by unfold inR; omega) (fun c1 => ?_) (fun c1 => ?_)
  · skip
    refine g_iconst C (n' := 10) dX7_isSort_9 rfl ?_
    refine g_goto C 14 dX7_isSort_10 (by decide) ?_
    refine g_iret C hr hlk (nar_z (by omega)) ⟨congrArg (fun z : Int => some (Value.int (iI z))) ?_, ?_⟩ dX7_isSort_14
    · first | rfl | omega | ((repeat' split) <;> first | rfl | omega | (exfalso; omega))
    · first | rfl | omega | ((repeat' split) <;> first | rfl | omega | (exfalso; omega))
  · skip
    refine g_iload_n C (n' := 5) 0 rfl dX7_isSort_4 rfl rfl ?_
    refine g_iconst C (n' := 6) dX7_isSort_5 rfl ?_
    refine g_icmp_ne C (n' := 9) 13 dX7_isSort_6 (by decide) rfl (by unfold inR; omega) (by unfold inR; omega) (fun c2 => ?_) (fun c2 => ?_)
    · skip
      refine g_iconst C (n' := 14) dX7_isSort_13 rfl ?_
      refine g_iret C hr hlk (nar_z (by omega)) ⟨congrArg (fun z : Int => some (Value.int (iI z))) ?_, ?_⟩ dX7_isSort_14
      · first | rfl | omega | ((repeat' split) <;> first | rfl | omega | (exfalso; omega))
      · first | rfl | omega | ((repeat' split) <;> first | rfl | omega | (exfalso; omega))
    · skip
      refine g_iconst C (n' := 10) dX7_isSort_9 rfl ?_
      refine g_goto C 14 dX7_isSort_10 (by decide) ?_
      refine g_iret C hr hlk (nar_z (by omega)) ⟨congrArg (fun z : Int => some (Value.int (iI z))) ?_, ?_⟩ dX7_isSort_14
      · first | rfl | omega | ((repeat' split) <;> first | rfl | omega | (exfalso; omega))
      · first | rfl | omega | ((repeat' split) <;> first | rfl | omega | (exfalso; omega))
set_option maxRecDepth 100000 in
set_option maxHeartbeats 4000000 in
theorem c_X7_isQuotientPart (l : Launch) (D : va_G) (Y : Nat → ClassId) {E : (Nat → Prop) → State → Heap → Prop} (hE : g_Stab E) (k : Int) (hk : inR k) : g_Ct l yX7_isQuotientPart cX7_isQuotientPart 1 (some FieldType.boolean) ({ frames := 1, cells := 0, slots := 0, locals := 22 } : Room) D (tysY Y) E [.int (iI k)] [] 0 0 (g_det (some (.int (iI (if -9999 ≤ k ∧ k ≤ 9999 then 1 else 0)))) []) := by
  refine g_ofG (own := RX7) hE (by decide) rfl (Nat.le_of_ble_eq_true rfl) [(0, .int (iI k))] rfl ?_
  intro p9 e9 s9 m9 b9 t9 c9 A9 C hr hlk hnm
  unfold inR at *
  refine g_iload_n C (n' := 1) 0 rfl dX7_isQuotientPart_0 rfl rfl ?_
  refine g_sipush C (n' := 4) (by decide) dX7_isQuotientPart_1 rfl ?_
  refine g_sipush C (n' := 7) (by decide) dX7_isQuotientPart_4 rfl ?_
  refine g_cSv C (n' := 10) (v := .int (iI (if (-9999) ≤ k ∧ k ≤ 9999 then 1 else 0))) (c_X7_isWithin l D Y C.2.2.2.2.2.2.2.2.1 k (-9999) 9999 hk (by unfold inR at *; omega) (by unfold inR at *; omega)) 3 kw_217 kc_X7_isWithin (by decide +kernel) (pm0 _) rfl ⟨Nat.le_of_ble_eq_true rfl, Nat.le_of_ble_eq_true rfl⟩ ⟨rfl, rfl⟩ ⟨Nat.le_of_ble_eq_true rfl, Nat.le_of_ble_eq_true rfl⟩ (Nat.le_of_ble_eq_true rfl) dX7_isQuotientPart_7 rfl rfl [] (pm0' _) ?_
  refine g_iret C hr hlk (nar_z bz_01) ⟨congrArg (fun z : Int => some (Value.int (iI z))) ?_, ?_⟩ dX7_isQuotientPart_10
  · first | rfl | omega | ((repeat' split) <;> first | rfl | omega | (exfalso; omega))
  · first | rfl | omega | ((repeat' split) <;> first | rfl | omega | (exfalso; omega))
set_option maxRecDepth 100000 in
set_option maxHeartbeats 4000000 in
theorem c_X7_orAboveAll (l : Launch) (D : va_G) (Y : Nat → ClassId) {E : (Nat → Prop) → State → Heap → Prop} (hE : g_Stab E) (k : Int) (hk : inR k) : g_Ct l yX7_orAboveAll cX7_orAboveAll 1 (some FieldType.int) ({ frames := 0, cells := 0, slots := 0, locals := 0 } : Room) D (tysY Y) E [.int (iI k)] [] 0 0 (g_det (some (.int (iI (if k = -1 then 1000 else k)))) []) := by
  refine g_ofG (own := RX7) hE (by decide) rfl (Nat.le_of_ble_eq_true rfl) [(0, .int (iI k))] rfl ?_
  intro p9 e9 s9 m9 b9 t9 c9 A9 C hr hlk hnm
  unfold inR at *
  refine g_iload_n C (n' := 1) 0 rfl dX7_orAboveAll_0 rfl rfl ?_
  refine g_iconst C (n' := 2) dX7_orAboveAll_1 rfl ?_
  refine g_icmp_ne C (n' := 5) 11 dX7_orAboveAll_2 (by decide) rfl (by unfold inR; omega) (by unfold inR; omega) (fun c1 => ?_) (fun c1 => ?_)
  · skip
    refine g_iload_n C (n' := 12) 0 rfl dX7_orAboveAll_11 rfl rfl ?_
    refine g_iret C hr hlk rfl ⟨congrArg (fun z : Int => some (Value.int (iI z))) ?_, ?_⟩ dX7_orAboveAll_12
    · first | rfl | omega | ((repeat' split) <;> first | rfl | omega | (exfalso; omega))
    · first | rfl | omega | ((repeat' split) <;> first | rfl | omega | (exfalso; omega))
  · skip
    refine g_sipush C (n' := 8) (by decide) dX7_orAboveAll_5 rfl ?_
    refine g_goto C 12 dX7_orAboveAll_8 (by decide) ?_
    refine g_iret C hr hlk rfl ⟨congrArg (fun z : Int => some (Value.int (iI z))) ?_, ?_⟩ dX7_orAboveAll_12
    · first | rfl | omega | ((repeat' split) <;> first | rfl | omega | (exfalso; omega))
    · first | rfl | omega | ((repeat' split) <;> first | rfl | omega | (exfalso; omega))
set_option maxRecDepth 100000 in
set_option maxHeartbeats 4000000 in
theorem c_X8_in (l : Launch) (D : va_G) (Y : Nat → ClassId) {E : (Nat → Prop) → State → Heap → Prop} (hE : g_Stab E) (n : Int) (lo : Int) (hi : Int) (hn : inR n) (hlo : inR lo) (hhi : inR hi) : g_Ct l yX8_in cX8_in 6 (some FieldType.boolean) ({ frames := 0, cells := 0, slots := 0, locals := 0 } : Room) D (tysY Y) E [.long (lL n), .long (lL lo), .long (lL hi)] [] 0 0 (g_det (some (.int (iI (if lo ≤ n ∧ n ≤ hi then 1 else 0)))) []) := by
  refine g_ofG (own := RX8) hE (by decide) rfl (Nat.le_of_ble_eq_true rfl) [(0, .long (lL n)), (2, .long (lL lo)), (4, .long (lL hi))] rfl ?_
  intro p9 e9 s9 m9 b9 t9 c9 A9 C hr hlk hnm
  unfold inR at *
  refine g_lload_n C (n' := 1) 0 rfl dX8_in_0 rfl rfl ?_
  refine g_lload_n C (n' := 2) 1 rfl dX8_in_1 rfl rfl ?_
  refine g_lcmp C (n' := 3) (by unfold inR; omega) (by unfold inR; omega) dX8_in_2 rfl ?_
  refine g_if_lt C (n' := 6) 17 dX8_in_3 (by decide) rfl lc_r (fun c2 => ?_) (fun c2 => ?_)
  · skip
    replace c2 := lc_lt.mp c2
    refine g_iconst C (n' := 18) dX8_in_17 rfl ?_
    refine g_iret C hr hlk (nar_z (by omega)) ⟨congrArg (fun z : Int => some (Value.int (iI z))) ?_, ?_⟩ dX8_in_18
    · first | rfl | omega | ((repeat' split) <;> first | rfl | omega | (exfalso; omega))
    · first | rfl | omega | ((repeat' split) <;> first | rfl | omega | (exfalso; omega))
  · skip
    replace c2 := (not_congr lc_lt).mp c2
    refine g_lload_n C (n' := 7) 0 rfl dX8_in_6 rfl rfl ?_
    refine g_lload C (n' := 9) 2 rfl dX8_in_7 rfl ?_
    refine g_lcmp C (n' := 10) (by unfold inR; omega) (by unfold inR; omega) dX8_in_9 rfl ?_
    refine g_if_gt C (n' := 13) 17 dX8_in_10 (by decide) rfl lc_r (fun c4 => ?_) (fun c4 => ?_)
    · skip
      replace c4 := lc_gt.mp c4
      refine g_iconst C (n' := 18) dX8_in_17 rfl ?_
      refine g_iret C hr hlk (nar_z (by omega)) ⟨congrArg (fun z : Int => some (Value.int (iI z))) ?_, ?_⟩ dX8_in_18
      · first | rfl | omega | ((repeat' split) <;> first | rfl | omega | (exfalso; omega))
      · first | rfl | omega | ((repeat' split) <;> first | rfl | omega | (exfalso; omega))
    · skip
      replace c4 := (not_congr lc_gt).mp c4
      refine g_iconst C (n' := 14) dX8_in_13 rfl ?_
      refine g_goto C 18 dX8_in_14 (by decide) ?_
      refine g_iret C hr hlk (nar_z (by omega)) ⟨congrArg (fun z : Int => some (Value.int (iI z))) ?_, ?_⟩ dX8_in_18
      · first | rfl | omega | ((repeat' split) <;> first | rfl | omega | (exfalso; omega))
      · first | rfl | omega | ((repeat' split) <;> first | rfl | omega | (exfalso; omega))
set_option maxRecDepth 100000 in
set_option maxHeartbeats 4000000 in
theorem c_X8_isLetter (l : Launch) (D : va_G) (Y : Nat → ClassId) {E : (Nat → Prop) → State → Heap → Prop} (hE : g_Stab E) (k : Int) (hk : inR k) : g_Ct l yX8_isLetter cX8_isLetter 1 (some FieldType.boolean) ({ frames := 1, cells := 0, slots := 0, locals := 25 } : Room) D (tysY Y) E [.int (iI k)] [] 0 0 (g_det (some (.int (iI (if 97 ≤ k ∧ k ≤ 122 then 1 else 0)))) []) := by
  refine g_ofG (own := RX8) hE (by decide) rfl (Nat.le_of_ble_eq_true rfl) [(0, .int (iI k))] rfl ?_
  intro p9 e9 s9 m9 b9 t9 c9 A9 C hr hlk hnm
  unfold inR at *
  refine g_iload_n C (n' := 1) 0 rfl dX8_isLetter_0 rfl rfl ?_
  refine g_i2l C (n' := 2) (by unfold inR; omega) dX8_isLetter_1 rfl ?_
  refine g_ldc2l C (n' := 5) 97 (by decide) kw_824 dX8_isLetter_2 rfl ?_
  refine g_ldc2l C (n' := 8) 122 (by decide) kw_825 dX8_isLetter_5 rfl ?_
  refine g_cSv C (n' := 11) (v := .int (iI (if 97 ≤ k ∧ k ≤ 122 then 1 else 0))) (c_X8_in l D Y C.2.2.2.2.2.2.2.2.1 k 97 122 hk (by unfold inR at *; omega) (by unfold inR at *; omega)) 3 kw_802 kc_X8_in (by decide +kernel) (pm0 _) rfl ⟨Nat.le_of_ble_eq_true rfl, Nat.le_of_ble_eq_true rfl⟩ ⟨rfl, rfl⟩ ⟨Nat.le_of_ble_eq_true rfl, Nat.le_of_ble_eq_true rfl⟩ (Nat.le_of_ble_eq_true rfl) dX8_isLetter_8 rfl rfl [] (pm0' _) ?_
  refine g_iret C hr hlk (nar_z bz_01) ⟨congrArg (fun z : Int => some (Value.int (iI z))) ?_, ?_⟩ dX8_isLetter_11
  · first | rfl | omega | ((repeat' split) <;> first | rfl | omega | (exfalso; omega))
  · first | rfl | omega | ((repeat' split) <;> first | rfl | omega | (exfalso; omega))
set_option maxRecDepth 100000 in
set_option maxHeartbeats 4000000 in
theorem c_X8_isDigit (l : Launch) (D : va_G) (Y : Nat → ClassId) {E : (Nat → Prop) → State → Heap → Prop} (hE : g_Stab E) (k : Int) (hk : inR k) : g_Ct l yX8_isDigit cX8_isDigit 1 (some FieldType.boolean) ({ frames := 1, cells := 0, slots := 0, locals := 25 } : Room) D (tysY Y) E [.int (iI k)] [] 0 0 (g_det (some (.int (iI (if 48 ≤ k ∧ k ≤ 57 then 1 else 0)))) []) := by
  refine g_ofG (own := RX8) hE (by decide) rfl (Nat.le_of_ble_eq_true rfl) [(0, .int (iI k))] rfl ?_
  intro p9 e9 s9 m9 b9 t9 c9 A9 C hr hlk hnm
  unfold inR at *
  refine g_iload_n C (n' := 1) 0 rfl dX8_isDigit_0 rfl rfl ?_
  refine g_i2l C (n' := 2) (by unfold inR; omega) dX8_isDigit_1 rfl ?_
  refine g_ldc2l C (n' := 5) 48 (by decide) kw_829 dX8_isDigit_2 rfl ?_
  refine g_ldc2l C (n' := 8) 57 (by decide) kw_830 dX8_isDigit_5 rfl ?_
  refine g_cSv C (n' := 11) (v := .int (iI (if 48 ≤ k ∧ k ≤ 57 then 1 else 0))) (c_X8_in l D Y C.2.2.2.2.2.2.2.2.1 k 48 57 hk (by unfold inR at *; omega) (by unfold inR at *; omega)) 3 kw_802 kc_X8_in (by decide +kernel) (pm0 _) rfl ⟨Nat.le_of_ble_eq_true rfl, Nat.le_of_ble_eq_true rfl⟩ ⟨rfl, rfl⟩ ⟨Nat.le_of_ble_eq_true rfl, Nat.le_of_ble_eq_true rfl⟩ (Nat.le_of_ble_eq_true rfl) dX8_isDigit_8 rfl rfl [] (pm0' _) ?_
  refine g_iret C hr hlk (nar_z bz_01) ⟨congrArg (fun z : Int => some (Value.int (iI z))) ?_, ?_⟩ dX8_isDigit_11
  · first | rfl | omega | ((repeat' split) <;> first | rfl | omega | (exfalso; omega))
  · first | rfl | omega | ((repeat' split) <;> first | rfl | omega | (exfalso; omega))
set_option maxRecDepth 100000 in
set_option maxHeartbeats 4000000 in
theorem c_X8_isTrace (l : Launch) (D : va_G) (Y : Nat → ClassId) {E : (Nat → Prop) → State → Heap → Prop} (hE : g_Stab E) (k : Int) (hk : inR k) : g_Ct l yX8_isTrace cX8_isTrace 1 (some FieldType.boolean) ({ frames := 1, cells := 0, slots := 0, locals := 25 } : Room) D (tysY Y) E [.int (iI k)] [] 0 0 (g_det (some (.int (iI (if 0 ≤ k ∧ k ≤ 2 then 1 else 0)))) []) := by
  refine g_ofG (own := RX8) hE (by decide) rfl (Nat.le_of_ble_eq_true rfl) [(0, .int (iI k))] rfl ?_
  intro p9 e9 s9 m9 b9 t9 c9 A9 C hr hlk hnm
  unfold inR at *
  refine g_iload_n C (n' := 1) 0 rfl dX8_isTrace_0 rfl rfl ?_
  refine g_i2l C (n' := 2) (by unfold inR; omega) dX8_isTrace_1 rfl ?_
  refine g_lconst C (n' := 3) 0 (by decide) dX8_isTrace_2 rfl ?_
  refine g_ldc2l C (n' := 6) 2 (by decide) kw_992 dX8_isTrace_3 rfl ?_
  refine g_cSv C (n' := 9) (v := .int (iI (if 0 ≤ k ∧ k ≤ 2 then 1 else 0))) (c_X8_in l D Y C.2.2.2.2.2.2.2.2.1 k 0 2 hk (by unfold inR at *; omega) (by unfold inR at *; omega)) 3 kw_802 kc_X8_in (by decide +kernel) (pm0 _) rfl ⟨Nat.le_of_ble_eq_true rfl, Nat.le_of_ble_eq_true rfl⟩ ⟨rfl, rfl⟩ ⟨Nat.le_of_ble_eq_true rfl, Nat.le_of_ble_eq_true rfl⟩ (Nat.le_of_ble_eq_true rfl) dX8_isTrace_6 rfl rfl [] (pm0' _) ?_
  refine g_iret C hr hlk (nar_z bz_01) ⟨congrArg (fun z : Int => some (Value.int (iI z))) ?_, ?_⟩ dX8_isTrace_9
  · first | rfl | omega | ((repeat' split) <;> first | rfl | omega | (exfalso; omega))
  · first | rfl | omega | ((repeat' split) <;> first | rfl | omega | (exfalso; omega))
set_option maxRecDepth 100000 in
set_option maxHeartbeats 4000000 in
theorem c_X4_isSmall (l : Launch) (D : va_G) (Y : Nat → ClassId) {E : (Nat → Prop) → State → Heap → Prop} (hE : g_Stab E) (k : Int) (hk : inR k) : g_Ct l yX4_isSmall cX4_isSmall 1 (some FieldType.boolean) ({ frames := 0, cells := 0, slots := 0, locals := 0 } : Room) D (tysY Y) E [.int (iI k)] [] 0 0 (g_det (some (.int (iI (if 97 ≤ k ∧ k ≤ 122 then 1 else 0)))) []) := by
  refine g_ofG (own := RX4) hE (by decide) rfl (Nat.le_of_ble_eq_true rfl) [(0, .int (iI k))] rfl ?_
  intro p9 e9 s9 m9 b9 t9 c9 A9 C hr hlk hnm
  unfold inR at *
  refine g_iload_n C (n' := 1) 0 rfl dX4_isSmall_0 rfl rfl ?_
  refine g_bipush C (n' := 3) (by decide) dX4_isSmall_1 rfl ?_
  refine g_icmp_lt C (n' := 6) 16 dX4_isSmall_3 (by decide) rfl (by unfold inR; omega) (by unfold inR; omega) (fun c1 => ?_) (fun c1 => ?_)
  · skip
    refine g_iconst C (n' := 17) dX4_isSmall_16 rfl ?_
    refine g_iret C hr hlk (nar_z (by omega)) ⟨congrArg (fun z : Int => some (Value.int (iI z))) ?_, ?_⟩ dX4_isSmall_17
    · first | rfl | omega | ((repeat' split) <;> first | rfl | omega | (exfalso; omega))
    · first | rfl | omega | ((repeat' split) <;> first | rfl | omega | (exfalso; omega))
  · skip
    refine g_iload_n C (n' := 7) 0 rfl dX4_isSmall_6 rfl rfl ?_
    refine g_bipush C (n' := 9) (by decide) dX4_isSmall_7 rfl ?_
    refine g_icmp_gt C (n' := 12) 16 dX4_isSmall_9 (by decide) rfl (by unfold inR; omega) (by unfold inR; omega) (fun c2 => ?_) (fun c2 => ?_)
    · skip
      refine g_iconst C (n' := 17) dX4_isSmall_16 rfl ?_
      refine g_iret C hr hlk (nar_z (by omega)) ⟨congrArg (fun z : Int => some (Value.int (iI z))) ?_, ?_⟩ dX4_isSmall_17
      · first | rfl | omega | ((repeat' split) <;> first | rfl | omega | (exfalso; omega))
      · first | rfl | omega | ((repeat' split) <;> first | rfl | omega | (exfalso; omega))
    · skip
      refine g_iconst C (n' := 13) dX4_isSmall_12 rfl ?_
      refine g_goto C 17 dX4_isSmall_13 (by decide) ?_
      refine g_iret C hr hlk (nar_z (by omega)) ⟨congrArg (fun z : Int => some (Value.int (iI z))) ?_, ?_⟩ dX4_isSmall_17
      · first | rfl | omega | ((repeat' split) <;> first | rfl | omega | (exfalso; omega))
      · first | rfl | omega | ((repeat' split) <;> first | rfl | omega | (exfalso; omega))
set_option maxRecDepth 100000 in
set_option maxHeartbeats 4000000 in
theorem c_X4_isDigit (l : Launch) (D : va_G) (Y : Nat → ClassId) {E : (Nat → Prop) → State → Heap → Prop} (hE : g_Stab E) (k : Int) (hk : inR k) : g_Ct l yX4_isDigit cX4_isDigit 1 (some FieldType.boolean) ({ frames := 0, cells := 0, slots := 0, locals := 0 } : Room) D (tysY Y) E [.int (iI k)] [] 0 0 (g_det (some (.int (iI (if 48 ≤ k ∧ k ≤ 57 then 1 else 0)))) []) := by
  refine g_ofG (own := RX4) hE (by decide) rfl (Nat.le_of_ble_eq_true rfl) [(0, .int (iI k))] rfl ?_
  intro p9 e9 s9 m9 b9 t9 c9 A9 C hr hlk hnm
  unfold inR at *
  refine g_iload_n C (n' := 1) 0 rfl dX4_isDigit_0 rfl rfl ?_
  refine g_bipush C (n' := 3) (by decide) dX4_isDigit_1 rfl ?_
  refine g_icmp_lt C (n' := 6) 16 dX4_isDigit_3 (by decide) rfl (by unfold inR; omega) (by unfold inR; omega) (fun c1 => ?_) (fun c1 => ?_)
  · skip
    refine g_iconst C (n' := 17) dX4_isDigit_16 rfl ?_
    refine g_iret C hr hlk (nar_z (by omega)) ⟨congrArg (fun z : Int => some (Value.int (iI z))) ?_, ?_⟩ dX4_isDigit_17
    · first | rfl | omega | ((repeat' split) <;> first | rfl | omega | (exfalso; omega))
    · first | rfl | omega | ((repeat' split) <;> first | rfl | omega | (exfalso; omega))
  · skip
    refine g_iload_n C (n' := 7) 0 rfl dX4_isDigit_6 rfl rfl ?_
    refine g_bipush C (n' := 9) (by decide) dX4_isDigit_7 rfl ?_
    refine g_icmp_gt C (n' := 12) 16 dX4_isDigit_9 (by decide) rfl (by unfold inR; omega) (by unfold inR; omega) (fun c2 => ?_) (fun c2 => ?_)
    · skip
      refine g_iconst C (n' := 17) dX4_isDigit_16 rfl ?_
      refine g_iret C hr hlk (nar_z (by omega)) ⟨congrArg (fun z : Int => some (Value.int (iI z))) ?_, ?_⟩ dX4_isDigit_17
      · first | rfl | omega | ((repeat' split) <;> first | rfl | omega | (exfalso; omega))
      · first | rfl | omega | ((repeat' split) <;> first | rfl | omega | (exfalso; omega))
    · skip
      refine g_iconst C (n' := 13) dX4_isDigit_12 rfl ?_
      refine g_goto C 17 dX4_isDigit_13 (by decide) ?_
      refine g_iret C hr hlk (nar_z (by omega)) ⟨congrArg (fun z : Int => some (Value.int (iI z))) ?_, ?_⟩ dX4_isDigit_17
      · first | rfl | omega | ((repeat' split) <;> first | rfl | omega | (exfalso; omega))
      · first | rfl | omega | ((repeat' split) <;> first | rfl | omega | (exfalso; omega))
