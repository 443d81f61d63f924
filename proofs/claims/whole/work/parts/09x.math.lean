/-! Math -/
theorem xr_neg {x y : Int} (hx : inR x) (hy : inR y) : (iI x ^^^ iI y).toInt < 0 ↔ (x < 0 ↔ ¬ y < 0) := by
  have h : ∀ a : Int32, a.toInt < 0 ↔ a.toBitVec.msb = true := fun a => by
    rw [← Int32.toInt_toBitVec, BitVec.msb_eq_toInt]
    simp
  have h1 := h (iI x ^^^ iI y)
  have h2 := h (iI x)
  have h3 := h (iI y)
  rw [iI_toInt hx] at h2
  rw [iI_toInt hy] at h3
  rw [h1, h2, h3, Int32.toBitVec_xor, BitVec.msb_xor]
  cases (iI x).toBitVec.msb <;> cases (iI y).toBitVec.msb <;> simp
theorem fd_1 {x y : Int} (hy : 0 < y) (h : ¬ (x < 0 ↔ ¬ y < 0)) : x.tdiv y = x / y := by
  have hx : 0 ≤ x := by
    by_cases q : x < 0
    · exact absurd ⟨fun _ => by omega, fun _ => q⟩ h
    · omega
  rw [Int.tdiv_eq_ediv, if_pos (Or.inl hx), Int.add_zero]
theorem fd_2 {x y : Int} (h : x.tdiv y * y = x) (hy : 0 < y) : x.tdiv y = x / y := by
  rw [Int.tdiv_eq_ediv, if_pos (Or.inr ⟨x.tdiv y, by rw [Int.mul_comm]; exact h.symm⟩), Int.add_zero]
theorem fd_3 {x y : Int} (h : ¬ x.tdiv y * y = x) (hy : 0 < y) (hx : x < 0) : x.tdiv y - 1 = x / y := by
  have hn : ¬ (0 ≤ x ∨ y ∣ x) := by
    rintro (q | q)
    · omega
    · exact h (Int.tdiv_mul_cancel q)
  rw [Int.tdiv_eq_ediv, if_neg hn, Int.sign_eq_one_of_pos hy]
  omega
theorem fd_n {x y : Int} (hx : ¬ 0 ≤ x) (hy : 0 < y) : x.tdiv y ≤ 0 := by
  have h := Int.ediv_neg_of_neg_of_pos (show x < 0 by omega) hy
  rw [Int.tdiv_eq_ediv, Int.sign_eq_one_of_pos hy]
  split <;> omega
theorem fd_r {x y : Int} (hx : inR x) (hy : 0 < y) : inR (x.tdiv y) := by
  have a := Int.natAbs_tdiv_le_natAbs x y
  by_cases q : 0 ≤ x
  · have b := Int.tdiv_nonneg q (show 0 ≤ y by omega)
    unfold inR at *
    omega
  · have b := fd_n q hy
    unfold inR at *
    omega
theorem fd_m {x y : Int} (hx : inR x) (hy : 0 < y) : inR (x.tdiv y * y) := by
  have a : (x.tdiv y * y).natAbs ≤ x.natAbs := by
    rw [Int.natAbs_mul, Int.natAbs_tdiv]
    exact Nat.div_mul_le_self _ _
  by_cases q : 0 ≤ x
  · have b := Int.mul_nonneg (Int.tdiv_nonneg q (show 0 ≤ y by omega)) (show 0 ≤ y by omega)
    unfold inR at *
    omega
  · have b := Int.mul_nonneg (show 0 ≤ -(x.tdiv y) by have := fd_n q hy; omega) (show 0 ≤ y by omega)
    rw [Int.neg_mul] at b
    unfold inR at *
    omega
set_option maxRecDepth 100000 in
set_option maxHeartbeats 4000000 in
theorem c_J9_min_7cf53 (l : Launch) (D : va_G) (Y : Nat → ClassId) {E : (Nat → Prop) → State → Heap → Prop} (hE : g_Stab E) (x : Int) (y : Int) (hx : inR x) (hy : inR y) : g_Ct l yJ9_min_7cf53 cJ9_min_7cf53 2 (some FieldType.int) ({ frames := 0, cells := 0, slots := 0, locals := 0 } : Room) D (tysY Y) E [.int (iI x), .int (iI y)] [] 0 0 (g_det (some (.int (iI (if x ≤ y then x else y)))) []) := by
  refine g_ofGF (own := RJ9) hE (by decide +kernel) rfl (Nat.le_of_ble_eq_true rfl) [(0, .int (iI x)), (1, .int (iI y))] rfl ?_
  intro p9 e9 s9 m9 b9 t9 c9 A9 C hr hlk hnm
  unfold inR at *
  refine g_iload_n C (n' := 1) 0 rfl dJ9_min_7cf53_0 rfl rfl ?_
  refine g_iload_n C (n' := 2) 1 rfl dJ9_min_7cf53_1 rfl rfl ?_
  refine g_icmp_gt C (n' := 5) 9 dJ9_min_7cf53_2 (by decide) rfl (by unfold inR; omega) (by unfold inR; omega) (fun c1 => ?_) (fun c1 => ?_)
  · skip
    refine g_iload_n C (n' := 10) 1 rfl dJ9_min_7cf53_9 rfl rfl ?_
    refine g_iret C hr hlk rfl ⟨congrArg (fun z : Int => some (Value.int (iI z))) ?_, ?_⟩ dJ9_min_7cf53_10
    · first | rfl | omega | ((repeat' split) <;> first | rfl | omega | (exfalso; omega))
    · first | rfl | omega | ((repeat' split) <;> first | rfl | omega | (exfalso; omega))
  · skip
    refine g_iload_n C (n' := 6) 0 rfl dJ9_min_7cf53_5 rfl rfl ?_
    refine g_goto C 10 dJ9_min_7cf53_6 (by decide) ?_
    refine g_iret C hr hlk rfl ⟨congrArg (fun z : Int => some (Value.int (iI z))) ?_, ?_⟩ dJ9_min_7cf53_10
    · first | rfl | omega | ((repeat' split) <;> first | rfl | omega | (exfalso; omega))
    · first | rfl | omega | ((repeat' split) <;> first | rfl | omega | (exfalso; omega))
set_option maxRecDepth 100000 in
set_option maxHeartbeats 4000000 in
theorem c_J9_floorDiv_7cf53 (l : Launch) (D : va_G) (Y : Nat → ClassId) {E : (Nat → Prop) → State → Heap → Prop} (hE : g_Stab E) (x : Int) (y : Int) (hx : inR x) (hy : 0 < y) (hy1 : y < 2147483648) : g_Ct l yJ9_floorDiv_7cf53 cJ9_floorDiv_7cf53 3 (some FieldType.int) ({ frames := 0, cells := 0, slots := 0, locals := 0 } : Room) D (tysY Y) E [.int (iI x), .int (iI y)] [] 0 0 (g_det (some (.int (iI (x / y)))) []) := by
  refine g_ofGF (own := RJ9) hE (by decide +kernel) rfl (Nat.le_of_ble_eq_true rfl) [(0, .int (iI x)), (1, .int (iI y))] rfl ?_
  intro p9 e9 s9 m9 b9 t9 c9 A9 C hr hlk hnm
  have hy2 : inR y := ⟨by omega, by omega⟩
  have hx9 := hx
  unfold inR at hx9
  refine g_iload_n C (n' := 1) 0 rfl dJ9_floorDiv_7cf53_0 rfl rfl ?_
  refine g_iload_n C (n' := 2) 1 rfl dJ9_floorDiv_7cf53_1 rfl rfl ?_
  refine g_idiv C (n' := 3) (by unfold inR; omega) (by unfold inR; omega) (by omega) (fd_r hx hy) dJ9_floorDiv_7cf53_2 rfl ?_
  refine g_istore_n C (n' := 4) [(2, .int (iI (x.tdiv y))), (0, .int (iI x)), (1, .int (iI y))] dJ9_floorDiv_7cf53_3 rfl rfl (by decide) rfl ?_
  refine g_iload_n C (n' := 5) 1 rfl dJ9_floorDiv_7cf53_4 rfl rfl ?_
  refine g_iload_n C (n' := 6) 2 rfl dJ9_floorDiv_7cf53_5 rfl rfl ?_
  refine g_ixor C (n' := 7) (iI x ^^^ iI y).toInt (iI_of _) dJ9_floorDiv_7cf53_6 rfl ?_
  have hq := inR_of (iI x ^^^ iI y)
  unfold inR at hq
  refine g_if_ge C (n' := 10) 21 dJ9_floorDiv_7cf53_7 (by decide) rfl (by unfold inR; omega) (fun c1 => ?_) (fun c1 => ?_)
  · skip
    refine g_iload_n C (n' := 22) 0 rfl dJ9_floorDiv_7cf53_21 rfl rfl ?_
    refine g_iret C hr hlk rfl ⟨congrArg (fun z : Int => some (Value.int (iI z))) ?_, rfl⟩ dJ9_floorDiv_7cf53_22
    exact fd_1 hy (fun q => absurd ((xr_neg hx hy2).mpr q) (by omega))
  · skip
    refine g_iload_n C (n' := 11) 0 rfl dJ9_floorDiv_7cf53_10 rfl rfl ?_
    refine g_iload_n C (n' := 12) 2 rfl dJ9_floorDiv_7cf53_11 rfl rfl ?_
    refine g_imul C (n' := 13) dJ9_floorDiv_7cf53_12 rfl ?_
    refine g_iload_n C (n' := 14) 1 rfl dJ9_floorDiv_7cf53_13 rfl rfl ?_
    have hm := fd_m hx hy
    unfold inR at hm
    refine g_icmp_eq C (n' := 17) 21 dJ9_floorDiv_7cf53_14 (by decide) rfl (by unfold inR; omega) (by unfold inR; omega) (fun c2 => ?_) (fun c2 => ?_)
    · skip
      refine g_iload_n C (n' := 22) 0 rfl dJ9_floorDiv_7cf53_21 rfl rfl ?_
      refine g_iret C hr hlk rfl ⟨congrArg (fun z : Int => some (Value.int (iI z))) ?_, rfl⟩ dJ9_floorDiv_7cf53_22
      exact fd_2 c2 hy
    · skip
      refine g_iload_n C (n' := 18) 0 rfl dJ9_floorDiv_7cf53_17 rfl rfl ?_
      refine g_iconst C (n' := 19) dJ9_floorDiv_7cf53_18 rfl ?_
      refine g_isub C (n' := 20) dJ9_floorDiv_7cf53_19 rfl ?_
      refine g_iret C hr hlk rfl ⟨congrArg (fun z : Int => some (Value.int (iI z))) ?_, rfl⟩ dJ9_floorDiv_7cf53_20
      exact fd_3 c2 hy (((xr_neg hx hy2).mp (by omega)).mpr (by omega))
