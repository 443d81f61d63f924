/-! the reference: rows are copied -/
def m_cp (f : Nat → Int) (a b n : Nat) : Nat → Int := fun j => if b ≤ j ∧ j < b + n then f (a + (j - b)) else f j
theorem m_cp_0 (f : Nat → Int) (a b : Nat) : m_cp f a b 0 = f := funext fun j => if_neg (by omega)
theorem m_cp_s {f : Nat → Int} {a b k : Nat} (h : a + 33 ≤ b ∨ b + 33 ≤ a) (hk : k < 33) : sU (m_cp f a b k) (b + k) (m_cp f a b k (a + k)) = m_cp f a b (k + 1) := by
  funext j
  unfold sU
  by_cases e : j = b + k
  · rw [if_pos e]
    unfold m_cp
    rw [if_neg (by omega), if_pos (by omega)]
    congr 1
    omega
  · rw [if_neg e]
    unfold m_cp
    by_cases q : b ≤ j ∧ j < b + k
    · rw [if_pos q, if_pos (by omega)]
    · rw [if_neg q, if_neg (by omega)]
theorem m_cp_r {f : Nat → Int} (h : smR f) (a b n : Nat) : smR (m_cp f a b n) := fun j => by
  unfold m_cp
  split
  · exact h _
  · exact h _
theorem m_cp_in {f : Nat → Int} {a b n j : Nat} (h : j < n) : m_cp f a b n (b + j) = f (a + j) := by
  unfold m_cp
  rw [if_pos (by omega)]
  congr 1
  omega
theorem m_cp_out {f : Nat → Int} {a b n j : Nat} (h : j < b ∨ b + n ≤ j) : m_cp f a b n j = f j := if_neg (by omega)
set_option maxRecDepth 100000 in
set_option maxHeartbeats 4000000 in
theorem lp_X8_cr {p9 : Program} {l : Launch} {e9 : Env} {s9 : State} {m9 : MethodId} {a9 : Array Value} {b9 : List Frame} {t9 : Method} {c9 : Code} {D : va_G} {A9 : Nat → Prop} {Q9 : State → Prop} {E : (Nat → Prop) → State → Heap → Prop} {Y : Nat → ClassId} (C : g_Cx p9 s9 m9 a9 c9 cX8_copyRow 4 RX8 D (tysY Y) A9 E) (q : Nat → Nat) (I : Nat → Int) (A : Nat → Nat → Int) (F : Nat → UInt32) (Dd : Nat → UInt64) (a b : Int) (hsI : smI I) (hsA : smA A) (ha : 0 ≤ a ∧ a ≤ 363) (hb : 0 ≤ b ∧ b ≤ 363) (hab : a + 33 ≤ b ∨ b + 33 ≤ a) : ∀ (n9 : Nat) (k : Nat), k + n9 = 33 → (g_G p9 l e9 ({ frames := 0, cells := 0, slots := 0, locals := 0 } : Room) s9 m9 a9 b9 t9 c9 4 D A9 Q9 0 0 (wMod q Y I (sU A 0 (m_cp (A 0) (Int.toNat a) (Int.toNat b) 33)) F Dd) [(3, .int (iI ((33 : Nat) : Int))), (0, .ref (q 99)), (1, .int (iI a)), (2, .int (iI b))] 30 []) → g_G p9 l e9 ({ frames := 0, cells := 0, slots := 0, locals := 0 } : Room) s9 m9 a9 b9 t9 c9 4 D A9 Q9 0 0 (wMod q Y I (sU A 0 (m_cp (A 0) (Int.toNat a) (Int.toNat b) k)) F Dd) [(3, .int (iI ((k : Nat) : Int))), (0, .ref (q 99)), (1, .int (iI a)), (2, .int (iI b))] 2 [] := by
  have hE := C.2.2.2.2.2.2.2.2.1
  intro n9
  induction n9 with
  | zero =>
    intro k hk K
    have hI := hsI
    have hA := hsA
    unfold smI at hI
    unfold smA at hA
    refine g_iload_n C (n' := 3) 0 rfl dX8_copyRow_2 rfl rfl ?_
    refine g_bipush C (n' := 5) (by decide) dX8_copyRow_3 rfl ?_
    refine g_icmp_ge C (n' := 8) 30 dX8_copyRow_5 (by decide) rfl (by unfold inR; omega) (by unfold inR; omega) (fun c1 => ?_) (fun c1 => ?_)
    · skip
      have ek : k = 33 := by omega
      subst ek
      exact K
    · skip
      exfalso
      omega
  | succ n9 ih =>
    intro k hk K
    have hI := hsI
    have hA := hsA
    unfold smI at hI
    unfold smA at hA
    refine g_iload_n C (n' := 3) 0 rfl dX8_copyRow_2 rfl rfl ?_
    refine g_bipush C (n' := 5) (by decide) dX8_copyRow_3 rfl ?_
    refine g_icmp_ge C (n' := 8) 30 dX8_copyRow_5 (by decide) rfl (by unfold inR; omega) (by unfold inR; omega) (fun c1 => ?_) (fun c1 => ?_)
    · skip
      exfalso
      omega
    · skip
      refine g_aload_n C (n' := 9) 1 rfl dX8_copyRow_8 rfl rfl ?_
      refine g_get C (n' := 12) (Cn := RX8) (T := TX8) (N := 35) (ci := 6) (v := .ref (q 0)) ga_X8 0 rfl rfl 0 (by decide) kw_690 rfl rfl dX8_copyRow_9 rfl ?_
      refine g_iload_n C (n' := 13) 3 rfl dX8_copyRow_12 rfl rfl ?_
      refine g_iload_n C (n' := 14) 0 rfl dX8_copyRow_13 rfl rfl ?_
      refine g_iadd C (n' := 15) dX8_copyRow_14 rfl ?_
      refine g_aload_n C (n' := 16) 1 rfl dX8_copyRow_15 rfl rfl ?_
      refine g_get C (n' := 19) (Cn := RX8) (T := TX8) (N := 35) (ci := 6) (v := .ref (q 0)) ga_X8 0 rfl rfl 0 (by decide) kw_690 rfl rfl dX8_copyRow_16 rfl ?_
      refine g_iload_n C (n' := 20) 2 rfl dX8_copyRow_19 rfl rfl ?_
      refine g_iload_n C (n' := 21) 0 rfl dX8_copyRow_20 rfl rfl ?_
      refine g_iadd C (n' := 22) dX8_copyRow_21 rfl ?_
      have h22 := m_cp_r (fun j => hA 0 j) (Int.toNat a) (Int.toNat b) k (a + ((k : Nat) : Int)).toNat
      refine g_iald C (n' := 23) (f := (m_cp (A 0) (Int.toNat a) (Int.toNat b) k)) 1 0 rfl rfl (by omega) (by omega) (by decide) rfl dX8_copyRow_22 rfl ?_
      refine g_iast C (n' := 24) (f := (m_cp (A 0) (Int.toNat a) (Int.toNat b) k)) 1 0 rfl rfl (by omega) (by omega) (by decide) rfl dX8_copyRow_23 rfl (wMod q Y I (sU A 0 (sU (m_cp (A 0) (Int.toNat a) (Int.toNat b) k) (b + ((k : Nat) : Int)).toNat ((m_cp (A 0) (Int.toNat a) (Int.toNat b) k) (a + ((k : Nat) : Int)).toNat))) F Dd) rfl ?_
      refine g_iinc C (n' := 27) 0 [(3, .int (iI (((k : Nat) : Int) + 1))), (0, .ref (q 99)), (1, .int (iI a)), (2, .int (iI b))] rfl dX8_copyRow_24 rfl (by decide) rfl ?_
      refine g_goto C 2 dX8_copyRow_27 (by decide) ?_
      have e9 : (sU (m_cp (A 0) (Int.toNat a) (Int.toNat b) k) (b + ((k : Nat) : Int)).toNat ((m_cp (A 0) (Int.toNat a) (Int.toNat b) k) (a + ((k : Nat) : Int)).toNat)) = m_cp (A 0) (Int.toNat a) (Int.toNat b) (k + 1) := by
        rw [show (b + ((k : Nat) : Int)).toNat = Int.toNat b + k by omega, show (a + ((k : Nat) : Int)).toNat = Int.toNat a + k by omega]
        exact m_cp_s (by omega) (by omega)
      rw [e9]
      refine g_lv (lv' := [(3, .int (iI ((k + 1 : Nat) : Int))), (0, .ref (q 99)), (1, .int (iI a)), (2, .int (iI b))]) [0, 1, 2, 3] rfl ?_
      exact ih (k + 1) (by omega) K
set_option maxRecDepth 100000 in
set_option maxHeartbeats 4000000 in
theorem c_X8_copyRow (l : Launch) (D : va_G) (Y : Nat → ClassId) {E : (Nat → Prop) → State → Heap → Prop} (hE : g_Stab E) (q : Nat → Nat) (I : Nat → Int) (A : Nat → Nat → Int) (F : Nat → UInt32) (Dd : Nat → UInt64) (a : Int) (b : Int) (hsI : smI I) (hsA : smA A) (ha : 0 ≤ a ∧ a ≤ 363) (hb : 0 ≤ b ∧ b ≤ 363) (hab : a + 33 ≤ b ∨ b + 33 ≤ a) : g_Ct l yX8_copyRow cX8_copyRow 4 none ({ frames := 0, cells := 0, slots := 0, locals := 0 } : Room) D (tysY Y) E [.ref (q 99), .int (iI a), .int (iI b)] (wMod q Y I A F Dd) 0 0 (g_det none (wMod q Y I (sU A 0 (m_cp (A 0) (Int.toNat a) (Int.toNat b) 33)) F Dd)) := by
  refine g_ofG (own := RX8) hE (by decide) rfl (Nat.le_of_ble_eq_true rfl) [(0, .ref (q 99)), (1, .int (iI a)), (2, .int (iI b))] rfl ?_
  intro p9 e9 s9 m9 b9 t9 c9 A9 C hr hlk hnm
  have hI := hsI
  have hA := hsA
  unfold smI at hI
  unfold smA at hA
  refine g_iconst C (n' := 1) dX8_copyRow_0 rfl ?_
  refine g_istore_n C (n' := 2) [(3, .int (iI 0)), (0, .ref (q 99)), (1, .int (iI a)), (2, .int (iI b))] dX8_copyRow_1 rfl rfl (by decide) rfl ?_
  refine g_wd (w' := (wMod q Y I (sU A 0 (m_cp (A 0) (Int.toNat a) (Int.toNat b) 0)) F Dd)) (by rw [m_cp_0, sU_id]) ?_
  refine g_lv (lv' := [(3, .int (iI ((0 : Nat) : Int))), (0, .ref (q 99)), (1, .int (iI a)), (2, .int (iI b))]) [0, 1, 2, 3] rfl ?_
  refine lp_X8_cr C q I A F Dd a b hsI hsA ha hb hab 33 0 rfl ?_
  refine g_vret C hr hlk ⟨rfl, ?_⟩ dX8_copyRow_30
  first | rfl | omega | ((repeat' split) <;> first | rfl | omega | (exfalso; omega))
def m_wrI (I : Nat → Int) (x : Int) : Nat → Int := if 0 ≤ x ∧ x ≤ 255 ∧ I 11 ≠ 200 then sU I 11 (I 11 + 1) else I
def m_wrA (I : Nat → Int) (A : Nat → Nat → Int) (x : Int) : Nat → Nat → Int := if 0 ≤ x ∧ x ≤ 255 ∧ I 11 ≠ 200 then sU A 10 (sU (A 10) (I 11).toNat x) else A
set_option maxRecDepth 100000 in
set_option maxHeartbeats 4000000 in
theorem c_X8_write (l : Launch) (D : va_G) (Y : Nat → ClassId) {E : (Nat → Prop) → State → Heap → Prop} (hE : g_Stab E) (q : Nat → Nat) (I : Nat → Int) (A : Nat → Nat → Int) (F : Nat → UInt32) (Dd : Nat → UInt64) (x : Int) (hsI : smI I) (hsA : smA A) (hx : inR x) (h11 : 0 ≤ I 11 ∧ I 11 ≤ 200) : g_Ct l yX8_write cX8_write 2 (some FieldType.int) ({ frames := 1, cells := 0, slots := 0, locals := 25 } : Room) D (tysY Y) E [.ref (q 99), .int (iI x)] (wMod q Y I A F Dd) 0 0 (g_det (some (.int (iI (if 0 ≤ x ∧ x ≤ 255 then (if I 11 = 200 then -5 else I 11 + 1) else -3)))) (wMod q Y (m_wrI I x) (m_wrA I A x) F Dd)) := by
  refine g_ofG (own := RX8) hE (by decide) rfl (Nat.le_of_ble_eq_true rfl) [(0, .ref (q 99)), (1, .int (iI x))] rfl ?_
  intro p9 e9 s9 m9 b9 t9 c9 A9 C hr hlk hnm
  have hI := hsI
  have hA := hsA
  unfold smI at hI
  unfold smA at hA
  have hx9 := hx
  unfold inR at hx9
  refine g_iload_n C (n' := 1) 1 rfl dX8_write_0 rfl rfl ?_
  refine g_i2l C (n' := 2) (by unfold inR; omega) dX8_write_1 rfl ?_
  refine g_lconst C (n' := 3) 0 (by decide) dX8_write_2 rfl ?_
  refine g_ldc2l C (n' := 6) 255 (by decide) kw_801 dX8_write_3 rfl ?_
  refine g_cSv C (n' := 9) (v := .int (iI (if 0 ≤ x ∧ x ≤ 255 then 1 else 0))) (c_X8_in l D Y C.2.2.2.2.2.2.2.2.1 x 0 255 hx (by unfold inR at *; omega) (by unfold inR at *; omega)) 3 kw_802 kc_X8_in (by decide +kernel) (pm_n _) rfl ⟨Nat.le_of_ble_eq_true rfl, Nat.le_of_ble_eq_true rfl⟩ ⟨rfl, rfl⟩ ⟨Nat.le_of_ble_eq_true rfl, Nat.le_of_ble_eq_true rfl⟩ (Nat.le_of_ble_eq_true rfl) dX8_write_6 rfl rfl (wMod q Y I A F Dd) (pm_n _) ?_
  refine g_if_ne C (n' := 12) 15 dX8_write_9 (by decide) rfl bz_r (fun c1 => ?_) (fun c1 => ?_)
  · skip
    replace c1 := bz_ne.mp c1
    refine g_aload_n C (n' := 16) 0 rfl dX8_write_15 rfl rfl ?_
    refine g_get C (n' := 19) (Cn := RX8) (T := TX8) (N := 35) (ci := 6) (v := .int (iI (I 11))) ga_X8 0 rfl rfl 11 (by decide) kw_701 rfl rfl dX8_write_16 rfl ?_
    have h_16 := hI 11
    refine g_sipush C (n' := 22) (by decide) dX8_write_19 rfl ?_
    refine g_icmp_ne C (n' := 25) 28 dX8_write_22 (by decide) rfl (by unfold inR; omega) (by unfold inR; omega) (fun c2 => ?_) (fun c2 => ?_)
    · skip
      refine g_aload_n C (n' := 29) 0 rfl dX8_write_28 rfl rfl ?_
      refine g_get C (n' := 32) (Cn := RX8) (T := TX8) (N := 35) (ci := 6) (v := .ref (q 10)) ga_X8 0 rfl rfl 10 (by decide) kw_700 rfl rfl dX8_write_29 rfl ?_
      refine g_aload_n C (n' := 33) 0 rfl dX8_write_32 rfl rfl ?_
      refine g_get C (n' := 36) (Cn := RX8) (T := TX8) (N := 35) (ci := 6) (v := .int (iI (I 11))) ga_X8 0 rfl rfl 11 (by decide) kw_701 rfl rfl dX8_write_33 rfl ?_
      have h_33 := hI 11
      refine g_iload_n C (n' := 37) 1 rfl dX8_write_36 rfl rfl ?_
      refine g_iast C (n' := 38) (f := (A 10)) 5 0 rfl rfl (by omega) (by omega) (by decide) rfl dX8_write_37 rfl (wMod q Y I (sU A 10 (sU (A 10) (I 11).toNat x)) F Dd) rfl ?_
      refine g_aload_n C (n' := 39) 0 rfl dX8_write_38 rfl rfl ?_
      refine g_dup C (n' := 40) rfl dX8_write_39 rfl ?_
      refine g_get C (n' := 43) (Cn := RX8) (T := TX8) (N := 35) (ci := 6) (v := .int (iI (I 11))) ga_X8 0 rfl rfl 11 (by decide) kw_701 rfl rfl dX8_write_40 rfl ?_
      have h_40 := hI 11
      refine g_iconst C (n' := 44) dX8_write_43 rfl ?_
      refine g_iadd C (n' := 45) dX8_write_44 rfl ?_
      refine g_put C (n' := 48) (Cn := RX8) (T := TX8) (N := 35) (ci := 6) (v := .int (iI ((I 11) + 1))) ga_X8 0 rfl rfl 11 (by decide) kw_701 rfl tyX8 tyX8_ok nmX8 rfl rfl rfl rfl (Nat.le_of_ble_eq_true rfl) (wMod q Y (sU I 11 ((I 11) + 1)) (sU A 10 (sU (A 10) (I 11).toNat x)) F Dd) rfl dX8_write_45 rfl ?_
      refine g_aload_n C (n' := 49) 0 rfl dX8_write_48 rfl rfl ?_
      refine g_get C (n' := 52) (Cn := RX8) (T := TX8) (N := 35) (ci := 6) (v := .int (iI ((I 11) + 1))) ga_X8 0 rfl rfl 11 (by decide) kw_701 rfl rfl dX8_write_49 rfl ?_
      refine g_iret C hr hlk rfl ⟨congrArg (fun z : Int => some (Value.int (iI z))) ?_, ?_⟩ dX8_write_52
      · (try unfold m_wrI m_wrA) <;> (repeat' split) <;> first | rfl | omega | (exfalso; omega)
      · (try unfold m_wrI m_wrA) <;> (repeat' split) <;> first | rfl | omega | (exfalso; omega)
    · skip
      refine g_bipush C (n' := 27) (by decide) dX8_write_25 rfl ?_
      refine g_iret C hr hlk rfl ⟨congrArg (fun z : Int => some (Value.int (iI z))) ?_, ?_⟩ dX8_write_27
      · (try unfold m_wrI m_wrA) <;> (repeat' split) <;> first | rfl | omega | (exfalso; omega)
      · (try unfold m_wrI m_wrA) <;> (repeat' split) <;> first | rfl | omega | (exfalso; omega)
  · skip
    replace c1 := bz_nne.mp c1
    refine g_bipush C (n' := 14) (by decide) dX8_write_12 rfl ?_
    refine g_iret C hr hlk rfl ⟨congrArg (fun z : Int => some (Value.int (iI z))) ?_, ?_⟩ dX8_write_14
    · (try unfold m_wrI m_wrA) <;> (repeat' split) <;> first | rfl | omega | (exfalso; omega)
    · (try unfold m_wrI m_wrA) <;> (repeat' split) <;> first | rfl | omega | (exfalso; omega)
set_option maxRecDepth 100000 in
set_option maxHeartbeats 4000000 in
theorem c_X8_erase (l : Launch) (D : va_G) (Y : Nat → ClassId) {E : (Nat → Prop) → State → Heap → Prop} (hE : g_Stab E) (q : Nat → Nat) (I : Nat → Int) (A : Nat → Nat → Int) (F : Nat → UInt32) (Dd : Nat → UInt64) (hsI : smI I) (hsA : smA A) : g_Ct l yX8_erase cX8_erase 2 (some FieldType.int) ({ frames := 0, cells := 0, slots := 0, locals := 0 } : Room) D (tysY Y) E [.ref (q 99)] (wMod q Y I A F Dd) 0 0 (g_det (some (.int (iI (I 11)))) (wMod q Y (sU I 11 0) A F Dd)) := by
  refine g_ofG (own := RX8) hE (by decide) rfl (Nat.le_of_ble_eq_true rfl) [(0, .ref (q 99))] rfl ?_
  intro p9 e9 s9 m9 b9 t9 c9 A9 C hr hlk hnm
  have hI := hsI
  have hA := hsA
  unfold smI at hI
  unfold smA at hA
  refine g_aload_n C (n' := 1) 0 rfl dX8_erase_0 rfl rfl ?_
  refine g_get C (n' := 4) (Cn := RX8) (T := TX8) (N := 35) (ci := 6) (v := .int (iI (I 11))) ga_X8 0 rfl rfl 11 (by decide) kw_701 rfl rfl dX8_erase_1 rfl ?_
  have h_1 := hI 11
  refine g_istore_n C (n' := 5) [(1, .int (iI (I 11))), (0, .ref (q 99))] dX8_erase_4 rfl rfl (by decide) rfl ?_
  refine g_aload_n C (n' := 6) 1 rfl dX8_erase_5 rfl rfl ?_
  refine g_iconst C (n' := 7) dX8_erase_6 rfl ?_
  refine g_put C (n' := 10) (Cn := RX8) (T := TX8) (N := 35) (ci := 6) (v := .int (iI 0)) ga_X8 0 rfl rfl 11 (by decide) kw_701 rfl tyX8 tyX8_ok nmX8 rfl rfl rfl rfl (Nat.le_of_ble_eq_true rfl) (wMod q Y (sU I 11 0) A F Dd) rfl dX8_erase_7 rfl ?_
  refine g_iload_n C (n' := 11) 0 rfl dX8_erase_10 rfl rfl ?_
  refine g_iret C hr hlk rfl ⟨congrArg (fun z : Int => some (Value.int (iI z))) ?_, ?_⟩ dX8_erase_11
  · first | rfl | omega | ((repeat' split) <;> first | rfl | omega | (exfalso; omega))
  · first | rfl | omega | ((repeat' split) <;> first | rfl | omega | (exfalso; omega))
