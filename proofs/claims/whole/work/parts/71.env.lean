/-! texts: their lengths, their letters -/
def sLn (i : Nat) : Nat := eLn.getD i 0
def sBy (i k : Nat) : Int32 := (eBy.getD i []).getD k 0
def sCh (i k : Nat) : Int := (sBy i k).toInt
def tW (i : Nat) : List Int := [t_w0, t_w1, t_w2, t_w3, t_w4, t_w5].getD i []
theorem sLn_e (i : Nat) : Int32.ofNat (eLn.getD i 0) = iI ((sLn i : Nat) : Int) := by
  unfold iI sLn
  exact Int32.ofInt_eq_ofNat.symm
theorem sLn_le {i : Nat} (hi : i < 6) : sLn i ≤ 6 := by
  rcases (show i = 0 ∨ i = 1 ∨ i = 2 ∨ i = 3 ∨ i = 4 ∨ i = 5 by omega) with rfl | rfl | rfl | rfl | rfl | rfl <;> decide
theorem sLn_r (i : Nat) : ((eLn.getD i 0 : Nat) : Int) < 2147483648 := by
  by_cases hi : i < 6
  · have := sLn_le hi
    unfold sLn at this
    omega
  · rw [List.getD_eq_getElem?_getD, List.getElem?_eq_none (show eLn.length ≤ i from by show 6 ≤ i; omega)]
    decide
theorem sBy_all : ∀ i : Fin 6, ∀ k : Fin 6, (sBy i k &&& 255 = iI (sCh i k)) ∧ (0 ≤ sCh i k ∧ sCh i k < 65536) := by decide +kernel
theorem sBy_c {i k : Nat} (hi : i < 6) (hk : k < sLn i) : (sBy i k &&& 255 = iI (sCh i k)) ∧ (0 ≤ sCh i k ∧ sCh i k < 65536) := sBy_all ⟨i, hi⟩ ⟨k, Nat.lt_of_lt_of_le hk (sLn_le hi)⟩
theorem tW_len {i : Nat} (hi : i < 6) : (tW i).length = sLn i := by
  rcases (show i = 0 ∨ i = 1 ∨ i = 2 ∨ i = 3 ∨ i = 4 ∨ i = 5 by omega) with rfl | rfl | rfl | rfl | rfl | rfl <;> decide
theorem tW_all : ∀ i : Fin 6, ∀ k : Fin 6, k.val < sLn i → (tW i).getD k 0 = sCh i k := by decide +kernel
theorem tW_c {i k : Nat} (hi : i < 6) (hk : k < sLn i) : (tW i).getD k 0 = sCh i k := tW_all ⟨i, hi⟩ ⟨k, Nat.lt_of_lt_of_le hk (sLn_le hi)⟩ hk
theorem t_eqB_iff (L : Nat → Int) (s : Int) : ∀ (w : List Int) (k : Nat), t_eqB L s k w = true ↔ ∀ j, j < w.length → L (s + ((k + j : Nat) : Int)).toNat = w.getD j 0
  | [], k => by simp [t_eqB]
  | a :: t, k => by
    rw [t_eqB, Bool.and_eq_true, decide_eq_true_iff, t_eqB_iff L s t (k + 1)]
    constructor
    · rintro ⟨h1, h2⟩ j hj
      cases j with
      | zero => exact h1
      | succ j =>
        have := h2 j (by simp at hj; omega)
        rw [show k + 1 + j = k + (j + 1) by omega] at this
        exact this
    · intro h
      refine ⟨h 0 (by simp), fun j hj => ?_⟩
      have := h (j + 1) (by simp; omega)
      rw [show k + (j + 1) = k + 1 + j by omega] at this
      exact this
theorem t_is_iff {L : Nat → Int} {s e : Int} {i : Nat} (hi : i < 6) : t_is L s e (tW i) = true ↔ e - s = (sLn i : Int) ∧ ∀ j, j < sLn i → L (s + ((j : Nat) : Int)).toNat = sCh i j := by
  unfold t_is
  rw [Bool.and_eq_true, decide_eq_true_iff, t_eqB_iff, tW_len hi]
  constructor
  · rintro ⟨h1, h2⟩
    refine ⟨h1, fun j hj => ?_⟩
    have := h2 j hj
    rw [Nat.zero_add, tW_c hi hj] at this
    exact this
  · rintro ⟨h1, h2⟩
    refine ⟨h1, fun j hj => ?_⟩
    rw [Nat.zero_add, tW_c hi hj]
    exact h2 j hj
theorem ev_ord {i q : Nat} {A : Nat → Prop} {U : State} {H : Heap} (h : va_OF "java/lang/Enum" "ordinal" "I" (.int (([0, 1, 2, 3, 4, 5] : List Int32).getD i 0)) q A U H) (hi : i < 6) : va_OF "java/lang/Enum" "ordinal" "I" (.int (iI ((i : Nat) : Int))) q A U H := by
  rcases (show i = 0 ∨ i = 1 ∨ i = 2 ∨ i = 3 ∨ i = 4 ∨ i = 5 by omega) with rfl | rfl | rfl | rfl | rfl | rfl <;> exact h
theorem sh_0 (x : Int32) : x >>> (iI 0 &&& 31) = x := by
  rw [show (iI 0 &&& 31 : Int32) = 0 by decide]
  simp
theorem nar_c {v : Int} (h0 : 0 ≤ v) (h1 : v < 65536) : narrow .char (.int (iI v)) = .int (iI v) := by
  have e : iI v = nI v.toNat := by
    apply Int32.toInt_inj.mp
    rw [iI_toInt ⟨by omega, by omega⟩, nI_toInt (by omega)]
    omega
  rw [e]
  exact (pk_charN (q := v.toNat) (by omega)).1
set_option maxRecDepth 100000 in
set_option maxHeartbeats 4000000 in
theorem c_Jx29ce0_ordinal_8abf5 (l : Launch) (D : va_G) (Y : Nat → ClassId) {E : (Nat → Prop) → State → Heap → Prop} (hE : g_Stab E) (e : Nat → Nat) (i : Nat) (hW : g_Env E e) (hi : i < 6) : g_Ct l yJx29ce0_ordinal_8abf5 cJx29ce0_ordinal_8abf5 1 (some FieldType.int) ({ frames := 0, cells := 0, slots := 0, locals := 0 } : Room) D (tysY Y) E [.ref (e (10 + i))] [] 0 0 (g_det (some (.int (iI ((i : Nat) : Int)))) []) := by
  refine g_ofG (own := RJx29ce0) hE (by decide) rfl (Nat.le_of_ble_eq_true rfl) [(0, .ref (e (10 + i)))] rfl ?_
  intro p9 e9 s9 m9 b9 t9 c9 A9 C hr hlk hnm
  have hv := hW _ _ _ C.2.2.2.2.2.2.2.2.2
  refine g_aload_n C (n' := 1) 0 rfl dJx29ce0_ordinal_8abf5_0 rfl rfl ?_
  refine g_getfE C (n' := 4) (v := .int (iI ((i : Nat) : Int))) (ev_ord ((hv.2.2.1.1 i hi).2.2 _ (List.mem_of_getElem? (i := 0) rfl)) hi) kw_1058 rfl dJx29ce0_ordinal_8abf5_1 rfl ?_
  refine g_iret C hr hlk rfl ⟨congrArg (fun z : Int => some (Value.int (iI z))) ?_, ?_⟩ dJx29ce0_ordinal_8abf5_4
  · first | rfl | omega | ((repeat' split) <;> first | rfl | omega | (exfalso; omega))
  · first | rfl | omega | ((repeat' split) <;> first | rfl | omega | (exfalso; omega))
set_option maxRecDepth 100000 in
set_option maxHeartbeats 4000000 in
theorem c_J0_coder_7d493 (l : Launch) (D : va_G) (Y : Nat → ClassId) {E : (Nat → Prop) → State → Heap → Prop} (hE : g_Stab E) (e : Nat → Nat) (i : Nat) (hW : g_Env E e) (hi : i < 6) : g_Ct l yJ0_coder_7d493 cJ0_coder_7d493 1 (some FieldType.byte) ({ frames := 0, cells := 0, slots := 0, locals := 0 } : Room) D (tysY Y) E [.ref (e (20 + i))] [] 0 0 (g_det (some (.int (iI 0))) []) := by
  refine g_ofG (own := RJ0) hE (by decide) rfl (Nat.le_of_ble_eq_true rfl) [(0, .ref (e (20 + i)))] rfl ?_
  intro p9 e9 s9 m9 b9 t9 c9 A9 C hr hlk hnm
  have hv := hW _ _ _ C.2.2.2.2.2.2.2.2.2
  refine g_gets C (n' := 3) (v := .int (iI 1)) hv.2.2.2.2.2.2.1 kw_287 rfl dJ0_coder_7d493_0 rfl ?_
  refine g_if_eq C (n' := 6) 13 dJ0_coder_7d493_3 (by decide) rfl (by unfold inR; omega) (fun c1 => ?_) (fun c1 => ?_)
  · skip
    exfalso
    omega
  · skip
    refine g_aload_n C (n' := 7) 0 rfl dJ0_coder_7d493_6 rfl rfl ?_
    refine g_getfE C (n' := 10) (v := .int (iI 0)) (hv.2.2.2.2.2.2.2.2.1 i hi).2.1 kw_1055 rfl dJ0_coder_7d493_7 rfl ?_
    refine g_goto C 14 dJ0_coder_7d493_10 (by decide) ?_
    refine g_iret C hr hlk rfl ⟨congrArg (fun z : Int => some (Value.int (iI z))) ?_, ?_⟩ dJ0_coder_7d493_14
    · first | rfl | omega | ((repeat' split) <;> first | rfl | omega | (exfalso; omega))
    · first | rfl | omega | ((repeat' split) <;> first | rfl | omega | (exfalso; omega))
set_option maxRecDepth 100000 in
set_option maxHeartbeats 4000000 in
theorem c_J0_length_8abf5 (l : Launch) (D : va_G) (Y : Nat → ClassId) {E : (Nat → Prop) → State → Heap → Prop} (hE : g_Stab E) (e : Nat → Nat) (i : Nat) (hW : g_Env E e) (hi : i < 6) : g_Ct l yJ0_length_8abf5 cJ0_length_8abf5 1 (some FieldType.int) ({ frames := 1, cells := 0, slots := 0, locals := 20 } : Room) D (tysY Y) E [.ref (e (20 + i))] [] 0 0 (g_det (some (.int (iI ((sLn i : Nat) : Int)))) []) := by
  refine g_ofG (own := RJ0) hE (by decide) rfl (Nat.le_of_ble_eq_true rfl) [(0, .ref (e (20 + i)))] rfl ?_
  intro p9 e9 s9 m9 b9 t9 c9 A9 C hr hlk hnm
  have hv := hW _ _ _ C.2.2.2.2.2.2.2.2.2
  refine g_aload_n C (n' := 1) 0 rfl dJ0_length_8abf5_0 rfl rfl ?_
  refine g_getfE C (n' := 4) (v := .ref (e (30 + i))) (hv.2.2.2.2.2.2.2.2.1 i hi).2.2.1 kw_1054 rfl dJ0_length_8abf5_1 rfl ?_
  refine g_tlen C (n' := 5) (hv.2.2.2.2.2.2.2.2.1 i hi).2.2.2 (v := ((sLn i : Nat) : Int)) (sLn_e _) dJ0_length_8abf5_4 rfl ?_
  refine g_aload_n C (n' := 6) 0 rfl dJ0_length_8abf5_5 rfl rfl ?_
  refine g_cOv C (n' := 9) (v := .int (iI 0)) (c_J0_coder_7d493 l D Y C.2.2.2.2.2.2.2.2.1 e i hW hi) 0 kw_283 kc_J0_coder_7d493 (by decide +kernel) (fun A U H h => ((hW A U H h).2.2.2.2.2.2.2.2.1 i (by first | assumption | decide)).1) rfl ⟨Nat.le_of_ble_eq_true rfl, Nat.le_of_ble_eq_true rfl⟩ ⟨rfl, rfl⟩ ⟨Nat.le_of_ble_eq_true rfl, Nat.le_of_ble_eq_true rfl⟩ (Nat.le_of_ble_eq_true rfl) dJ0_length_8abf5_6 rfl rfl ?_
  refine g_ishr C (n' := 10) ((sLn i : Nat) : Int) (sh_0 _) dJ0_length_8abf5_9 rfl ?_
  refine g_iret C hr hlk rfl ⟨congrArg (fun z : Int => some (Value.int (iI z))) ?_, ?_⟩ dJ0_length_8abf5_10
  · first | rfl | omega | ((repeat' split) <;> first | rfl | omega | (exfalso; omega))
  · first | rfl | omega | ((repeat' split) <;> first | rfl | omega | (exfalso; omega))
set_option maxRecDepth 100000 in
set_option maxHeartbeats 4000000 in
theorem c_J0_isLatin1_aae02 (l : Launch) (D : va_G) (Y : Nat → ClassId) {E : (Nat → Prop) → State → Heap → Prop} (hE : g_Stab E) (e : Nat → Nat) (i : Nat) (hW : g_Env E e) (hi : i < 6) : g_Ct l yJ0_isLatin1_aae02 cJ0_isLatin1_aae02 1 (some FieldType.boolean) ({ frames := 0, cells := 0, slots := 0, locals := 0 } : Room) D (tysY Y) E [.ref (e (20 + i))] [] 0 0 (g_det (some (.int (iI 1))) []) := by
  refine g_ofG (own := RJ0) hE (by decide) rfl (Nat.le_of_ble_eq_true rfl) [(0, .ref (e (20 + i)))] rfl ?_
  intro p9 e9 s9 m9 b9 t9 c9 A9 C hr hlk hnm
  have hv := hW _ _ _ C.2.2.2.2.2.2.2.2.2
  refine g_gets C (n' := 3) (v := .int (iI 1)) hv.2.2.2.2.2.2.1 kw_287 rfl dJ0_isLatin1_aae02_0 rfl ?_
  refine g_if_eq C (n' := 6) 17 dJ0_isLatin1_aae02_3 (by decide) rfl (by unfold inR; omega) (fun c1 => ?_) (fun c1 => ?_)
  · skip
    exfalso
    omega
  · skip
    refine g_aload_n C (n' := 7) 0 rfl dJ0_isLatin1_aae02_6 rfl rfl ?_
    refine g_getfE C (n' := 10) (v := .int (iI 0)) (hv.2.2.2.2.2.2.2.2.1 i hi).2.1 kw_1055 rfl dJ0_isLatin1_aae02_7 rfl ?_
    refine g_if_ne C (n' := 13) 17 dJ0_isLatin1_aae02_10 (by decide) rfl (by unfold inR; omega) (fun c2 => ?_) (fun c2 => ?_)
    · skip
      exfalso
      omega
    · skip
      refine g_iconst C (n' := 14) dJ0_isLatin1_aae02_13 rfl ?_
      refine g_goto C 18 dJ0_isLatin1_aae02_14 (by decide) ?_
      exact g_iret C hr hlk (nar_z (by omega)) ⟨rfl, rfl⟩ dJ0_isLatin1_aae02_18
set_option maxRecDepth 100000 in
set_option maxHeartbeats 4000000 in
theorem c_J3_checkIndex_8e157 (l : Launch) (D : va_G) (Y : Nat → ClassId) {E : (Nat → Prop) → State → Heap → Prop} (hE : g_Stab E) (k : Int) (n : Int) (z : Value) (hk : 0 ≤ k ∧ k < n) (hn : inR n) (hz : z.category = 1) : g_Ct l yJ3_checkIndex_8e157 cJ3_checkIndex_8e157 3 (some FieldType.int) ({ frames := 2, cells := 0, slots := 0, locals := 60 } : Room) D (tysY Y) E [.int (iI k), .int (iI n), z] [] 0 0 (g_det (some (.int (iI k))) []) := by
  refine g_ofG (own := RJ3) hE (by decide) rfl (by cases z <;> first | exact Nat.le_of_ble_eq_true rfl | (simp [Value.category] at hz)) [(0, .int (iI k)), (1, .int (iI n)), (2, z)] rfl ?_
  intro p9 e9 s9 m9 b9 t9 c9 A9 C hr hlk hnm
  have hn9 := hn
  unfold inR at hn9
  refine g_iload_n C (n' := 1) 0 rfl dJ3_checkIndex_8e157_0 rfl rfl ?_
  refine g_if_lt C (n' := 4) 9 dJ3_checkIndex_8e157_1 (by decide) rfl (by unfold inR; omega) (fun c1 => ?_) (fun c1 => ?_)
  · skip
    exfalso
    omega
  · skip
    refine g_iload_n C (n' := 5) 0 rfl dJ3_checkIndex_8e157_4 rfl rfl ?_
    refine g_iload_n C (n' := 6) 1 rfl dJ3_checkIndex_8e157_5 rfl rfl ?_
    refine g_icmp_lt C (n' := 9) 16 dJ3_checkIndex_8e157_6 (by decide) rfl (by unfold inR; omega) (by unfold inR; omega) (fun c2 => ?_) (fun c2 => ?_)
    · skip
      refine g_iload_n C (n' := 17) 0 rfl dJ3_checkIndex_8e157_16 rfl rfl ?_
      refine g_iret C hr hlk rfl ⟨congrArg (fun z : Int => some (Value.int (iI z))) ?_, ?_⟩ dJ3_checkIndex_8e157_17
      · first | rfl | omega | ((repeat' split) <;> first | rfl | omega | (exfalso; omega))
      · first | rfl | omega | ((repeat' split) <;> first | rfl | omega | (exfalso; omega))
    · skip
      exfalso
      omega
set_option maxRecDepth 100000 in
set_option maxHeartbeats 4000000 in
theorem c_J0_checkIndex_df160 (l : Launch) (D : va_G) (Y : Nat → ClassId) {E : (Nat → Prop) → State → Heap → Prop} (hE : g_Stab E) (k : Int) (n : Int) (e : Nat → Nat) (hW : g_Env E e) (hk : 0 ≤ k ∧ k < n) (hn : inR n) : g_Ct l yJ0_checkIndex_df160 cJ0_checkIndex_df160 2 none ({ frames := 3, cells := 0, slots := 0, locals := 82 } : Room) D (tysY Y) E [.int (iI k), .int (iI n)] [] 0 0 (g_det none []) := by
  refine g_ofG (own := RJ0) hE (by decide) rfl (Nat.le_of_ble_eq_true rfl) [(0, .int (iI k)), (1, .int (iI n))] rfl ?_
  intro p9 e9 s9 m9 b9 t9 c9 A9 C hr hlk hnm
  have hv := hW _ _ _ C.2.2.2.2.2.2.2.2.2
  have hn9 := hn
  unfold inR at hn9
  refine g_iload_n C (n' := 1) 0 rfl dJ0_checkIndex_df160_0 rfl rfl ?_
  refine g_iload_n C (n' := 2) 1 rfl dJ0_checkIndex_df160_1 rfl rfl ?_
  obtain ⟨fz, hfc, hfz⟩ := ev_sio hv
  refine g_gets C (n' := 5) (v := fz) hfz kw_303 rfl dJ0_checkIndex_df160_2 rfl ?_
  refine g_cSv C (n' := 8) (v := .int (iI k)) (c_J3_checkIndex_8e157 l D Y C.2.2.2.2.2.2.2.2.1 k n fz hk hn hfc) 3 kw_305 kc_J3_checkIndex_8e157 (by decide +kernel) (pm0 _) rfl ⟨Nat.le_of_ble_eq_true rfl, Nat.le_of_ble_eq_true rfl⟩ ⟨rfl, rfl⟩ ⟨Nat.le_of_ble_eq_true rfl, Nat.le_of_ble_eq_true rfl⟩ (Nat.le_of_ble_eq_true rfl) dJ0_checkIndex_df160_5 rfl rfl [] (pm0' _) ?_
  refine g_pop C (n' := 9) rfl dJ0_checkIndex_df160_8 rfl ?_
  refine g_vret C hr hlk ⟨rfl, ?_⟩ dJ0_checkIndex_df160_9
  first | rfl | omega | ((repeat' split) <;> first | rfl | omega | (exfalso; omega))
set_option maxRecDepth 100000 in
set_option maxHeartbeats 4000000 in
theorem c_J1_charAt_3b067 (l : Launch) (D : va_G) (Y : Nat → ClassId) {E : (Nat → Prop) → State → Heap → Prop} (hE : g_Stab E) (k : Int) (e : Nat → Nat) (i : Nat) (hW : g_Env E e) (hi : i < 6) (hk : 0 ≤ k ∧ k < (sLn i : Int)) : g_Ct l yJ1_charAt_3b067 cJ1_charAt_3b067 2 (some FieldType.char) ({ frames := 4, cells := 0, slots := 0, locals := 103 } : Room) D (tysY Y) E [.ref (e (30 + i)), .int (iI k)] [] 0 0 (g_det (some (.int (iI (sCh i k.toNat)))) []) := by
  refine g_ofG (own := RJ1) hE (by decide) rfl (Nat.le_of_ble_eq_true rfl) [(0, .ref (e (30 + i))), (1, .int (iI k))] rfl ?_
  intro p9 e9 s9 m9 b9 t9 c9 A9 C hr hlk hnm
  have hv := hW _ _ _ C.2.2.2.2.2.2.2.2.2
  have hc9 := sBy_c hi (show k.toNat < sLn i by omega)
  have hl9 := sLn_le hi
  have hs9 : eLn.getD i 0 = sLn i := rfl
  refine g_iload_n C (n' := 1) 1 rfl dJ1_charAt_3b067_0 rfl rfl ?_
  refine g_aload_n C (n' := 2) 0 rfl dJ1_charAt_3b067_1 rfl rfl ?_
  refine g_tlen C (n' := 3) (hv.2.2.2.2.2.2.2.2.1 i hi).2.2.2 (v := ((sLn i : Nat) : Int)) (sLn_e _) dJ1_charAt_3b067_2 rfl ?_
  refine g_cSn C (n' := 6) (c_J0_checkIndex_df160 l D Y C.2.2.2.2.2.2.2.2.1 k ((sLn i : Nat) : Int) e hW (by omega) (by unfold inR; omega)) 2 kw_300 kc_J0_checkIndex_df160 (by decide +kernel) (pm0 _) rfl ⟨Nat.le_of_ble_eq_true rfl, Nat.le_of_ble_eq_true rfl⟩ ⟨rfl, rfl⟩ ⟨Nat.le_of_ble_eq_true rfl, Nat.le_of_ble_eq_true rfl⟩ (Nat.le_of_ble_eq_true rfl) dJ1_charAt_3b067_3 rfl rfl [] (pm0' _) ?_
  refine g_aload_n C (n' := 7) 0 rfl dJ1_charAt_3b067_6 rfl rfl ?_
  refine g_iload_n C (n' := 8) 1 rfl dJ1_charAt_3b067_7 rfl rfl ?_
  refine g_tb C (n' := 9) (hv.2.2.2.2.2.2.2.2.1 i hi).2.2.2 (v := .int (sBy i k.toNat)) (by omega) (by omega) (sLn_r _) rfl dJ1_charAt_3b067_8 rfl ?_
  refine g_sipush C (n' := 12) (by decide) dJ1_charAt_3b067_9 rfl ?_
  refine g_iand C (n' := 13) (sCh i k.toNat) hc9.1 dJ1_charAt_3b067_12 rfl ?_
  refine g_i2c C (n' := 14) (by omega) (by omega) dJ1_charAt_3b067_13 rfl ?_
  exact g_iret C hr hlk (nar_c hc9.2.1 hc9.2.2) ⟨rfl, rfl⟩ dJ1_charAt_3b067_14
set_option maxRecDepth 100000 in
set_option maxHeartbeats 4000000 in
theorem c_J0_charAt_5068e (l : Launch) (D : va_G) (Y : Nat → ClassId) {E : (Nat → Prop) → State → Heap → Prop} (hE : g_Stab E) (k : Int) (e : Nat → Nat) (i : Nat) (hW : g_Env E e) (hi : i < 6) (hk : 0 ≤ k ∧ k < (sLn i : Int)) : g_Ct l yJ0_charAt_5068e cJ0_charAt_5068e 2 (some FieldType.char) ({ frames := 6, cells := 0, slots := 0, locals := 145 } : Room) D (tysY Y) E [.ref (e (20 + i)), .int (iI k)] [] 0 0 (g_det (some (.int (iI (sCh i k.toNat)))) []) := by
  refine g_ofG (own := RJ0) hE (by decide) rfl (Nat.le_of_ble_eq_true rfl) [(0, .ref (e (20 + i))), (1, .int (iI k))] rfl ?_
  intro p9 e9 s9 m9 b9 t9 c9 A9 C hr hlk hnm
  have hv := hW _ _ _ C.2.2.2.2.2.2.2.2.2
  have hc9 := sBy_c hi (show k.toNat < sLn i by omega)
  have hl9 := sLn_le hi
  refine g_aload_n C (n' := 1) 0 rfl dJ0_charAt_5068e_0 rfl rfl ?_
  refine g_cOv C (n' := 4) (v := .int (iI 1)) (c_J0_isLatin1_aae02 l D Y C.2.2.2.2.2.2.2.2.1 e i hW hi) 0 kw_293 kc_J0_isLatin1_aae02 (by decide +kernel) (fun A U H h => ((hW A U H h).2.2.2.2.2.2.2.2.1 i (by first | assumption | decide)).1) rfl ⟨Nat.le_of_ble_eq_true rfl, Nat.le_of_ble_eq_true rfl⟩ ⟨rfl, rfl⟩ ⟨Nat.le_of_ble_eq_true rfl, Nat.le_of_ble_eq_true rfl⟩ (Nat.le_of_ble_eq_true rfl) dJ0_charAt_5068e_1 rfl rfl ?_
  refine g_if_eq C (n' := 7) 16 dJ0_charAt_5068e_4 (by decide) rfl (by unfold inR; omega) (fun c1 => ?_) (fun c1 => ?_)
  · skip
    exfalso
    omega
  · skip
    refine g_aload_n C (n' := 8) 0 rfl dJ0_charAt_5068e_7 rfl rfl ?_
    refine g_getfE C (n' := 11) (v := .ref (e (30 + i))) (hv.2.2.2.2.2.2.2.2.1 i hi).2.2.1 kw_1054 rfl dJ0_charAt_5068e_8 rfl ?_
    refine g_iload_n C (n' := 12) 1 rfl dJ0_charAt_5068e_11 rfl rfl ?_
    refine g_cSv C (n' := 15) (v := .int (iI (sCh i k.toNat))) (c_J1_charAt_3b067 l D Y C.2.2.2.2.2.2.2.2.1 k e i hW hi hk) 2 kw_297 kc_J1_charAt_3b067 (by decide +kernel) (pm0 _) rfl ⟨Nat.le_of_ble_eq_true rfl, Nat.le_of_ble_eq_true rfl⟩ ⟨rfl, rfl⟩ ⟨Nat.le_of_ble_eq_true rfl, Nat.le_of_ble_eq_true rfl⟩ (Nat.le_of_ble_eq_true rfl) dJ0_charAt_5068e_12 rfl rfl [] (pm0' _) ?_
    exact g_iret C hr hlk (nar_c hc9.2.1 hc9.2.2) ⟨rfl, rfl⟩ dJ0_charAt_5068e_15
set_option maxRecDepth 100000 in
set_option maxHeartbeats 4000000 in
theorem lp_X4_is {p9 : Program} {l : Launch} {e9 : Env} {s9 : State} {m9 : MethodId} {a9 : Array Value} {b9 : List Frame} {t9 : Method} {c9 : Code} {D : va_G} {A9 : Nat → Prop} {Q9 : State → Prop} {E : (Nat → Prop) → State → Heap → Prop} {Y : Nat → ClassId} (C : g_Cx p9 s9 m9 a9 c9 cX4_isSpelled 3 RX4 D (tysY Y) A9 E) (q : Nat → Nat) (I L : Nat → Int) (e : Nat → Nat) (i : Nat) (hsI : smI I) (hsL : smL L) (hT : tokOK I) (hW : g_Env E e) (hi : i < 6) (h4 : I 4 - I 3 = (sLn i : Int)) : ∀ (n9 : Nat) (k : Nat), k + n9 = sLn i → (∀ j, j < k → L (I 3 + ((j : Nat) : Int)).toNat = sCh i j) → ((¬ ∀ j, j < sLn i → L (I 3 + ((j : Nat) : Int)).toNat = sCh i j) → g_G p9 l e9 ({ frames := 7, cells := 0, slots := 0, locals := 166 } : Room) s9 m9 a9 b9 t9 c9 3 D A9 Q9 0 0 (wText q Y I L) [(0, .ref (q 99))] 47 []) → ((∀ j, j < sLn i → L (I 3 + ((j : Nat) : Int)).toNat = sCh i j) → g_G p9 l e9 ({ frames := 7, cells := 0, slots := 0, locals := 166 } : Room) s9 m9 a9 b9 t9 c9 3 D A9 Q9 0 0 (wText q Y I L) [(0, .ref (q 99))] 55 []) → g_G p9 l e9 ({ frames := 7, cells := 0, slots := 0, locals := 166 } : Room) s9 m9 a9 b9 t9 c9 3 D A9 Q9 0 0 (wText q Y I L) [(2, .int (iI ((k : Nat) : Int))), (1, .ref (e (20 + i))), (0, .ref (q 99))] 20 [] := by
  have hE := C.2.2.2.2.2.2.2.2.1
  intro n9
  induction n9 with
  | zero =>
    intro k hk hb K0 K1
    have hI := hsI
    have hL := hsL
    unfold smI at hI
    unfold smL at hL
    have hT9 := hT
    unfold tokOK at hT9
    have hv := hW _ _ _ C.2.2.2.2.2.2.2.2.2
    have hl9 := sLn_le hi
    refine g_iload_n C (n' := 21) 0 rfl dX4_isSpelled_20 rfl rfl ?_
    refine g_aload_n C (n' := 22) 1 rfl dX4_isSpelled_21 rfl rfl ?_
    refine g_cOv C (n' := 25) (v := .int (iI ((sLn i : Nat) : Int))) (c_J0_length_8abf5 l D Y C.2.2.2.2.2.2.2.2.1 e i hW hi) 0 kw_279 kc_J0_length_8abf5 (by decide +kernel) (fun A U H h => ((hW A U H h).2.2.2.2.2.2.2.2.1 i (by first | assumption | decide)).1) rfl ⟨Nat.le_of_ble_eq_true rfl, Nat.le_of_ble_eq_true rfl⟩ ⟨rfl, rfl⟩ ⟨Nat.le_of_ble_eq_true rfl, Nat.le_of_ble_eq_true rfl⟩ (Nat.le_of_ble_eq_true rfl) dX4_isSpelled_22 rfl rfl ?_
    refine g_icmp_ge C (n' := 28) 55 dX4_isSpelled_25 (by decide) rfl (by unfold inR; omega) (by unfold inR; omega) (fun c1 => ?_) (fun c1 => ?_)
    · skip
      have ek : k = sLn i := by omega
      refine g_lv [2] rfl ?_
      exact K1 (ek ▸ hb)
    · skip
      exfalso
      omega
  | succ n9 ih =>
    intro k hk hb K0 K1
    have hI := hsI
    have hL := hsL
    unfold smI at hI
    unfold smL at hL
    have hT9 := hT
    unfold tokOK at hT9
    have hv := hW _ _ _ C.2.2.2.2.2.2.2.2.2
    have hl9 := sLn_le hi
    refine g_iload_n C (n' := 21) 0 rfl dX4_isSpelled_20 rfl rfl ?_
    refine g_aload_n C (n' := 22) 1 rfl dX4_isSpelled_21 rfl rfl ?_
    refine g_cOv C (n' := 25) (v := .int (iI ((sLn i : Nat) : Int))) (c_J0_length_8abf5 l D Y C.2.2.2.2.2.2.2.2.1 e i hW hi) 0 kw_279 kc_J0_length_8abf5 (by decide +kernel) (fun A U H h => ((hW A U H h).2.2.2.2.2.2.2.2.1 i (by first | assumption | decide)).1) rfl ⟨Nat.le_of_ble_eq_true rfl, Nat.le_of_ble_eq_true rfl⟩ ⟨rfl, rfl⟩ ⟨Nat.le_of_ble_eq_true rfl, Nat.le_of_ble_eq_true rfl⟩ (Nat.le_of_ble_eq_true rfl) dX4_isSpelled_22 rfl rfl ?_
    refine g_icmp_ge C (n' := 28) 55 dX4_isSpelled_25 (by decide) rfl (by unfold inR; omega) (by unfold inR; omega) (fun c1 => ?_) (fun c1 => ?_)
    · skip
      exfalso
      omega
    · skip
      refine g_aload_n C (n' := 29) 2 rfl dX4_isSpelled_28 rfl rfl ?_
      refine g_get C (n' := 32) (Cn := RX4) (T := TX4) (N := 5) (ci := 3) (v := .ref (q 0)) ga_X4 0 rfl rfl 0 (by decide) kw_31 rfl rfl dX4_isSpelled_29 rfl ?_
      refine g_aload_n C (n' := 33) 2 rfl dX4_isSpelled_32 rfl rfl ?_
      refine g_get C (n' := 36) (Cn := RX4) (T := TX4) (N := 5) (ci := 3) (v := .int (iI (I 3))) ga_X4 0 rfl rfl 3 (by decide) kw_34 rfl rfl dX4_isSpelled_33 rfl ?_
      have h_33 := hI 3
      refine g_iload_n C (n' := 37) 0 rfl dX4_isSpelled_36 rfl rfl ?_
      refine g_iadd C (n' := 38) dX4_isSpelled_37 rfl ?_
      refine g_cald C (n' := 39) (f := L) 1 1 rfl rfl (by omega) (by omega) (by decide) rfl dX4_isSpelled_38 rfl ?_
      have h_38 := hL (((I 3) + ((k : Nat) : Int)).toNat)
      refine g_aload_n C (n' := 40) 1 rfl dX4_isSpelled_39 rfl rfl ?_
      refine g_iload_n C (n' := 41) 0 rfl dX4_isSpelled_40 rfl rfl ?_
      refine g_cOv C (n' := 44) (v := .int (iI (sCh i k))) (c_J0_charAt_5068e l D Y C.2.2.2.2.2.2.2.2.1 ((k : Nat) : Int) e i hW hi (by omega)) 1 kw_289 kc_J0_charAt_5068e (by decide +kernel) (fun A U H h => ((hW A U H h).2.2.2.2.2.2.2.2.1 i (by first | assumption | decide)).1) rfl ⟨Nat.le_of_ble_eq_true rfl, Nat.le_of_ble_eq_true rfl⟩ ⟨rfl, rfl⟩ ⟨Nat.le_of_ble_eq_true rfl, Nat.le_of_ble_eq_true rfl⟩ (Nat.le_of_ble_eq_true rfl) dX4_isSpelled_41 rfl rfl ?_
      have hc9 := sBy_c hi (show k < sLn i by omega)
      refine g_icmp_eq C (n' := 47) 49 dX4_isSpelled_44 (by decide) rfl (by unfold inR; omega) (by unfold inR; omega) (fun c2 => ?_) (fun c2 => ?_)
      · skip
        refine g_iinc C (n' := 52) 0 [(2, .int (iI (((k : Nat) : Int) + 1))), (1, .ref (e (20 + i))), (0, .ref (q 99))] rfl dX4_isSpelled_49 rfl (by decide) rfl ?_
        refine g_goto C 20 dX4_isSpelled_52 (by decide) ?_
        refine g_lv (lv' := [(2, .int (iI ((k + 1 : Nat) : Int))), (1, .ref (e (20 + i))), (0, .ref (q 99))]) [0, 1, 2] rfl ?_
        exact ih (k + 1) (by omega) (fun j hj => by
          by_cases e : j = k
          · rw [e]
            exact c2
          · exact hb j (by omega)) K0 K1
      · skip
        refine g_lv [2] rfl ?_
        exact K0 (fun z => c2 (z k (by omega)))
set_option maxRecDepth 100000 in
set_option maxHeartbeats 4000000 in
theorem c_X4_isSpelled (l : Launch) (D : va_G) (Y : Nat → ClassId) {E : (Nat → Prop) → State → Heap → Prop} (hE : g_Stab E) (q : Nat → Nat) (I : Nat → Int) (L : Nat → Int) (e : Nat → Nat) (i : Nat) (hsI : smI I) (hsL : smL L) (hT : tokOK I) (hW : g_Env E e) (hi : i < 6) : g_Ct l yX4_isSpelled cX4_isSpelled 3 (some FieldType.boolean) ({ frames := 7, cells := 0, slots := 0, locals := 166 } : Room) D (tysY Y) E [.ref (q 99), .ref (e (20 + i))] (wText q Y I L) 0 0 (g_det (some (.int (iI (if t_is L (I 3) (I 4) (tW i) = true then 1 else 0)))) (wText q Y I L)) := by
  refine g_ofG (own := RX4) hE (by decide) rfl (Nat.le_of_ble_eq_true rfl) [(0, .ref (q 99)), (1, .ref (e (20 + i)))] rfl ?_
  intro p9 e9 s9 m9 b9 t9 c9 A9 C hr hlk hnm
  have hI := hsI
  have hL := hsL
  unfold smI at hI
  unfold smL at hL
  have hT9 := hT
  unfold tokOK at hT9
  have hv := hW _ _ _ C.2.2.2.2.2.2.2.2.2
  have hl9 := sLn_le hi
  refine g_aload_n C (n' := 1) 0 rfl dX4_isSpelled_0 rfl rfl ?_
  refine g_get C (n' := 4) (Cn := RX4) (T := TX4) (N := 5) (ci := 3) (v := .int (iI (I 4))) ga_X4 0 rfl rfl 4 (by decide) kw_35 rfl rfl dX4_isSpelled_1 rfl ?_
  have h_1 := hI 4
  refine g_aload_n C (n' := 5) 0 rfl dX4_isSpelled_4 rfl rfl ?_
  refine g_get C (n' := 8) (Cn := RX4) (T := TX4) (N := 5) (ci := 3) (v := .int (iI (I 3))) ga_X4 0 rfl rfl 3 (by decide) kw_34 rfl rfl dX4_isSpelled_5 rfl ?_
  have h_5 := hI 3
  refine g_isub C (n' := 9) dX4_isSpelled_8 rfl ?_
  refine g_aload_n C (n' := 10) 1 rfl dX4_isSpelled_9 rfl rfl ?_
  refine g_cOv C (n' := 13) (v := .int (iI ((sLn i : Nat) : Int))) (c_J0_length_8abf5 l D Y C.2.2.2.2.2.2.2.2.1 e i hW hi) 0 kw_279 kc_J0_length_8abf5 (by decide +kernel) (fun A U H h => ((hW A U H h).2.2.2.2.2.2.2.2.1 i (by first | assumption | decide)).1) rfl ⟨Nat.le_of_ble_eq_true rfl, Nat.le_of_ble_eq_true rfl⟩ ⟨rfl, rfl⟩ ⟨Nat.le_of_ble_eq_true rfl, Nat.le_of_ble_eq_true rfl⟩ (Nat.le_of_ble_eq_true rfl) dX4_isSpelled_10 rfl rfl ?_
  refine g_icmp_eq C (n' := 16) 18 dX4_isSpelled_13 (by decide) rfl (by unfold inR; omega) (by unfold inR; omega) (fun c1 => ?_) (fun c1 => ?_)
  · skip
    refine g_iconst C (n' := 19) dX4_isSpelled_18 rfl ?_
    refine g_istore_n C (n' := 20) [(2, .int (iI 0)), (0, .ref (q 99)), (1, .ref (e (20 + i)))] dX4_isSpelled_19 rfl rfl (by decide) rfl ?_
    refine g_lv (lv' := [(2, .int (iI ((0 : Nat) : Int))), (1, .ref (e (20 + i))), (0, .ref (q 99))]) [0, 2, 1] rfl ?_
    refine lp_X4_is C q I L e i hsI hsL hT hW hi c1 (sLn i) 0 (by omega) (fun j hj => absurd hj (Nat.not_lt_zero j)) (fun hx => ?_) (fun hx => ?_)
    · skip
      refine g_iconst C (n' := 48) dX4_isSpelled_47 rfl ?_
      exact g_iret C hr hlk (nar_z (by omega)) ⟨by rw [if_neg (fun z => hx ((t_is_iff hi).mp z).2)], rfl⟩ dX4_isSpelled_48
    · skip
      refine g_iconst C (n' := 56) dX4_isSpelled_55 rfl ?_
      exact g_iret C hr hlk (nar_z (by omega)) ⟨by rw [if_pos ((t_is_iff hi).mpr ⟨c1, hx⟩)], rfl⟩ dX4_isSpelled_56
  · skip
    refine g_iconst C (n' := 17) dX4_isSpelled_16 rfl ?_
    exact g_iret C hr hlk (nar_z (by omega)) ⟨by rw [if_neg (fun z => c1 ((t_is_iff hi).mp z).1)], rfl⟩ dX4_isSpelled_17
set_option maxRecDepth 100000 in
set_option maxHeartbeats 4000000 in
theorem c_X4_wordHere (l : Launch) (D : va_G) (Y : Nat → ClassId) {E : (Nat → Prop) → State → Heap → Prop} (hE : g_Stab E) (q : Nat → Nat) (I : Nat → Int) (L : Nat → Int) (e : Nat → Nat) (hsI : smI I) (hsL : smL L) (hT : tokOK I) (hW : g_Env E e) : g_Ct l yX4_wordHere cX4_wordHere 2 (some FieldType.int) ({ frames := 8, cells := 0, slots := 0, locals := 188 } : Room) D (tysY Y) E [.ref (q 99)] (wText q Y I L) 0 0 (g_det (some (.int (iI (t_word L (I 3) (I 4))))) (wText q Y I L)) := by
  refine g_ofG (own := RX4) hE (by decide) rfl (Nat.le_of_ble_eq_true rfl) [(0, .ref (q 99))] rfl ?_
  intro p9 e9 s9 m9 b9 t9 c9 A9 C hr hlk hnm
  have hI := hsI
  have hL := hsL
  unfold smI at hI
  unfold smL at hL
  have hT9 := hT
  unfold tokOK at hT9
  have hv := hW _ _ _ C.2.2.2.2.2.2.2.2.2
  refine g_iconst C (n' := 1) dX4_wordHere_0 rfl ?_
  refine g_istore_n C (n' := 2) [(1, .int (iI 0)), (0, .ref (q 99))] dX4_wordHere_1 rfl rfl (by decide) rfl ?_
  refine g_iload_n C (n' := 3) 0 rfl dX4_wordHere_2 rfl rfl ?_
  refine g_getsN C (n' := 6) (v := .ref (e 0)) hv.1 (List.mem_of_getElem? (i := 24) rfl) rfl dX4_wordHere_3 rfl ?_
  refine g_tlen C (n' := 7) hv.2.1 (v := 6) rfl dX4_wordHere_6 rfl ?_
  refine g_icmp_ge C (n' := 10) 33 dX4_wordHere_7 (by decide) rfl (by unfold inR; omega) (by unfold inR; omega) (fun c1 => ?_) (fun c1 => ?_)
  · skip
    exfalso
    omega
  · skip
    refine g_aload_n C (n' := 11) 1 rfl dX4_wordHere_10 rfl rfl ?_
    refine g_getsN C (n' := 14) (v := .ref (e 0)) hv.1 (List.mem_of_getElem? (i := 24) rfl) rfl dX4_wordHere_11 rfl ?_
    refine g_iload_n C (n' := 15) 0 rfl dX4_wordHere_14 rfl rfl ?_
    refine g_tq C (n' := 16) hv.2.1 (v := .ref (e (10 + 0))) (by decide) (by decide) (by decide) rfl dX4_wordHere_15 rfl ?_
    refine g_getfEN C (n' := 19) (v := .ref (e (20 + 0))) (hv.2.2.2.1 0 (by decide)) (List.mem_of_getElem? (i := 27) rfl) rfl dX4_wordHere_16 rfl ?_
    refine g_cVv C (n' := 22) (v := .int (iI (if t_is L ((I 3)) ((I 4)) (tW 0) = true then 1 else 0))) (c_X4_isSpelled l D Y C.2.2.2.2.2.2.2.2.1 q I L e 0 hsI hsL hT hW (by first | assumption | decide)) 1 kw_275 kc_X4_isSpelled (by decide +kernel) (pm0 _) 0 (ci := 3) rfl rfl rfl rfl ⟨Nat.le_of_ble_eq_true rfl, Nat.le_of_ble_eq_true rfl⟩ ⟨rfl, rfl⟩ ⟨Nat.le_of_ble_eq_true rfl, Nat.le_of_ble_eq_true rfl⟩ (Nat.le_of_ble_eq_true rfl) dX4_wordHere_19 rfl rfl (wText q Y I L) (pm0' _) ?_
    refine g_if_eq C (n' := 25) 27 dX4_wordHere_22 (by decide) rfl bz_r (fun c2 => ?_) (fun c2 => ?_)
    · skip
      replace c2 := bz_eq.mp c2
      refine g_iinc C (n' := 30) 0 [(1, .int (iI 1)), (0, .ref (q 99))] rfl dX4_wordHere_27 rfl (by decide) rfl ?_
      refine g_goto C 2 dX4_wordHere_30 (by decide) ?_
      refine g_iload_n C (n' := 3) 0 rfl dX4_wordHere_2 rfl rfl ?_
      refine g_getsN C (n' := 6) (v := .ref (e 0)) hv.1 (List.mem_of_getElem? (i := 24) rfl) rfl dX4_wordHere_3 rfl ?_
      refine g_tlen C (n' := 7) hv.2.1 (v := 6) rfl dX4_wordHere_6 rfl ?_
      refine g_icmp_ge C (n' := 10) 33 dX4_wordHere_7 (by decide) rfl (by unfold inR; omega) (by unfold inR; omega) (fun c3 => ?_) (fun c3 => ?_)
      · skip
        exfalso
        omega
      · skip
        refine g_aload_n C (n' := 11) 1 rfl dX4_wordHere_10 rfl rfl ?_
        refine g_getsN C (n' := 14) (v := .ref (e 0)) hv.1 (List.mem_of_getElem? (i := 24) rfl) rfl dX4_wordHere_11 rfl ?_
        refine g_iload_n C (n' := 15) 0 rfl dX4_wordHere_14 rfl rfl ?_
        refine g_tq C (n' := 16) hv.2.1 (v := .ref (e (10 + 1))) (by decide) (by decide) (by decide) rfl dX4_wordHere_15 rfl ?_
        refine g_getfEN C (n' := 19) (v := .ref (e (20 + 1))) (hv.2.2.2.1 1 (by decide)) (List.mem_of_getElem? (i := 27) rfl) rfl dX4_wordHere_16 rfl ?_
        refine g_cVv C (n' := 22) (v := .int (iI (if t_is L ((I 3)) ((I 4)) (tW 1) = true then 1 else 0))) (c_X4_isSpelled l D Y C.2.2.2.2.2.2.2.2.1 q I L e 1 hsI hsL hT hW (by first | assumption | decide)) 1 kw_275 kc_X4_isSpelled (by decide +kernel) (pm0 _) 0 (ci := 3) rfl rfl rfl rfl ⟨Nat.le_of_ble_eq_true rfl, Nat.le_of_ble_eq_true rfl⟩ ⟨rfl, rfl⟩ ⟨Nat.le_of_ble_eq_true rfl, Nat.le_of_ble_eq_true rfl⟩ (Nat.le_of_ble_eq_true rfl) dX4_wordHere_19 rfl rfl (wText q Y I L) (pm0' _) ?_
        refine g_if_eq C (n' := 25) 27 dX4_wordHere_22 (by decide) rfl bz_r (fun c4 => ?_) (fun c4 => ?_)
        · skip
          replace c4 := bz_eq.mp c4
          refine g_iinc C (n' := 30) 0 [(1, .int (iI 2)), (0, .ref (q 99))] rfl dX4_wordHere_27 rfl (by decide) rfl ?_
          refine g_goto C 2 dX4_wordHere_30 (by decide) ?_
          refine g_iload_n C (n' := 3) 0 rfl dX4_wordHere_2 rfl rfl ?_
          refine g_getsN C (n' := 6) (v := .ref (e 0)) hv.1 (List.mem_of_getElem? (i := 24) rfl) rfl dX4_wordHere_3 rfl ?_
          refine g_tlen C (n' := 7) hv.2.1 (v := 6) rfl dX4_wordHere_6 rfl ?_
          refine g_icmp_ge C (n' := 10) 33 dX4_wordHere_7 (by decide) rfl (by unfold inR; omega) (by unfold inR; omega) (fun c5 => ?_) (fun c5 => ?_)
          · skip
            exfalso
            omega
          · skip
            refine g_aload_n C (n' := 11) 1 rfl dX4_wordHere_10 rfl rfl ?_
            refine g_getsN C (n' := 14) (v := .ref (e 0)) hv.1 (List.mem_of_getElem? (i := 24) rfl) rfl dX4_wordHere_11 rfl ?_
            refine g_iload_n C (n' := 15) 0 rfl dX4_wordHere_14 rfl rfl ?_
            refine g_tq C (n' := 16) hv.2.1 (v := .ref (e (10 + 2))) (by decide) (by decide) (by decide) rfl dX4_wordHere_15 rfl ?_
            refine g_getfEN C (n' := 19) (v := .ref (e (20 + 2))) (hv.2.2.2.1 2 (by decide)) (List.mem_of_getElem? (i := 27) rfl) rfl dX4_wordHere_16 rfl ?_
            refine g_cVv C (n' := 22) (v := .int (iI (if t_is L ((I 3)) ((I 4)) (tW 2) = true then 1 else 0))) (c_X4_isSpelled l D Y C.2.2.2.2.2.2.2.2.1 q I L e 2 hsI hsL hT hW (by first | assumption | decide)) 1 kw_275 kc_X4_isSpelled (by decide +kernel) (pm0 _) 0 (ci := 3) rfl rfl rfl rfl ⟨Nat.le_of_ble_eq_true rfl, Nat.le_of_ble_eq_true rfl⟩ ⟨rfl, rfl⟩ ⟨Nat.le_of_ble_eq_true rfl, Nat.le_of_ble_eq_true rfl⟩ (Nat.le_of_ble_eq_true rfl) dX4_wordHere_19 rfl rfl (wText q Y I L) (pm0' _) ?_
            refine g_if_eq C (n' := 25) 27 dX4_wordHere_22 (by decide) rfl bz_r (fun c6 => ?_) (fun c6 => ?_)
            · skip
              replace c6 := bz_eq.mp c6
              refine g_iinc C (n' := 30) 0 [(1, .int (iI 3)), (0, .ref (q 99))] rfl dX4_wordHere_27 rfl (by decide) rfl ?_
              refine g_goto C 2 dX4_wordHere_30 (by decide) ?_
              refine g_iload_n C (n' := 3) 0 rfl dX4_wordHere_2 rfl rfl ?_
              refine g_getsN C (n' := 6) (v := .ref (e 0)) hv.1 (List.mem_of_getElem? (i := 24) rfl) rfl dX4_wordHere_3 rfl ?_
              refine g_tlen C (n' := 7) hv.2.1 (v := 6) rfl dX4_wordHere_6 rfl ?_
              refine g_icmp_ge C (n' := 10) 33 dX4_wordHere_7 (by decide) rfl (by unfold inR; omega) (by unfold inR; omega) (fun c7 => ?_) (fun c7 => ?_)
              · skip
                exfalso
                omega
              · skip
                refine g_aload_n C (n' := 11) 1 rfl dX4_wordHere_10 rfl rfl ?_
                refine g_getsN C (n' := 14) (v := .ref (e 0)) hv.1 (List.mem_of_getElem? (i := 24) rfl) rfl dX4_wordHere_11 rfl ?_
                refine g_iload_n C (n' := 15) 0 rfl dX4_wordHere_14 rfl rfl ?_
                refine g_tq C (n' := 16) hv.2.1 (v := .ref (e (10 + 3))) (by decide) (by decide) (by decide) rfl dX4_wordHere_15 rfl ?_
                refine g_getfEN C (n' := 19) (v := .ref (e (20 + 3))) (hv.2.2.2.1 3 (by decide)) (List.mem_of_getElem? (i := 27) rfl) rfl dX4_wordHere_16 rfl ?_
                refine g_cVv C (n' := 22) (v := .int (iI (if t_is L ((I 3)) ((I 4)) (tW 3) = true then 1 else 0))) (c_X4_isSpelled l D Y C.2.2.2.2.2.2.2.2.1 q I L e 3 hsI hsL hT hW (by first | assumption | decide)) 1 kw_275 kc_X4_isSpelled (by decide +kernel) (pm0 _) 0 (ci := 3) rfl rfl rfl rfl ⟨Nat.le_of_ble_eq_true rfl, Nat.le_of_ble_eq_true rfl⟩ ⟨rfl, rfl⟩ ⟨Nat.le_of_ble_eq_true rfl, Nat.le_of_ble_eq_true rfl⟩ (Nat.le_of_ble_eq_true rfl) dX4_wordHere_19 rfl rfl (wText q Y I L) (pm0' _) ?_
                refine g_if_eq C (n' := 25) 27 dX4_wordHere_22 (by decide) rfl bz_r (fun c8 => ?_) (fun c8 => ?_)
                · skip
                  replace c8 := bz_eq.mp c8
                  refine g_iinc C (n' := 30) 0 [(1, .int (iI 4)), (0, .ref (q 99))] rfl dX4_wordHere_27 rfl (by decide) rfl ?_
                  refine g_goto C 2 dX4_wordHere_30 (by decide) ?_
                  refine g_iload_n C (n' := 3) 0 rfl dX4_wordHere_2 rfl rfl ?_
                  refine g_getsN C (n' := 6) (v := .ref (e 0)) hv.1 (List.mem_of_getElem? (i := 24) rfl) rfl dX4_wordHere_3 rfl ?_
                  refine g_tlen C (n' := 7) hv.2.1 (v := 6) rfl dX4_wordHere_6 rfl ?_
                  refine g_icmp_ge C (n' := 10) 33 dX4_wordHere_7 (by decide) rfl (by unfold inR; omega) (by unfold inR; omega) (fun c9 => ?_) (fun c9 => ?_)
                  · skip
                    exfalso
                    omega
                  · skip
                    refine g_aload_n C (n' := 11) 1 rfl dX4_wordHere_10 rfl rfl ?_
                    refine g_getsN C (n' := 14) (v := .ref (e 0)) hv.1 (List.mem_of_getElem? (i := 24) rfl) rfl dX4_wordHere_11 rfl ?_
                    refine g_iload_n C (n' := 15) 0 rfl dX4_wordHere_14 rfl rfl ?_
                    refine g_tq C (n' := 16) hv.2.1 (v := .ref (e (10 + 4))) (by decide) (by decide) (by decide) rfl dX4_wordHere_15 rfl ?_
                    refine g_getfEN C (n' := 19) (v := .ref (e (20 + 4))) (hv.2.2.2.1 4 (by decide)) (List.mem_of_getElem? (i := 27) rfl) rfl dX4_wordHere_16 rfl ?_
                    refine g_cVv C (n' := 22) (v := .int (iI (if t_is L ((I 3)) ((I 4)) (tW 4) = true then 1 else 0))) (c_X4_isSpelled l D Y C.2.2.2.2.2.2.2.2.1 q I L e 4 hsI hsL hT hW (by first | assumption | decide)) 1 kw_275 kc_X4_isSpelled (by decide +kernel) (pm0 _) 0 (ci := 3) rfl rfl rfl rfl ⟨Nat.le_of_ble_eq_true rfl, Nat.le_of_ble_eq_true rfl⟩ ⟨rfl, rfl⟩ ⟨Nat.le_of_ble_eq_true rfl, Nat.le_of_ble_eq_true rfl⟩ (Nat.le_of_ble_eq_true rfl) dX4_wordHere_19 rfl rfl (wText q Y I L) (pm0' _) ?_
                    refine g_if_eq C (n' := 25) 27 dX4_wordHere_22 (by decide) rfl bz_r (fun c10 => ?_) (fun c10 => ?_)
                    · skip
                      replace c10 := bz_eq.mp c10
                      refine g_iinc C (n' := 30) 0 [(1, .int (iI 5)), (0, .ref (q 99))] rfl dX4_wordHere_27 rfl (by decide) rfl ?_
                      refine g_goto C 2 dX4_wordHere_30 (by decide) ?_
                      refine g_iload_n C (n' := 3) 0 rfl dX4_wordHere_2 rfl rfl ?_
                      refine g_getsN C (n' := 6) (v := .ref (e 0)) hv.1 (List.mem_of_getElem? (i := 24) rfl) rfl dX4_wordHere_3 rfl ?_
                      refine g_tlen C (n' := 7) hv.2.1 (v := 6) rfl dX4_wordHere_6 rfl ?_
                      refine g_icmp_ge C (n' := 10) 33 dX4_wordHere_7 (by decide) rfl (by unfold inR; omega) (by unfold inR; omega) (fun c11 => ?_) (fun c11 => ?_)
                      · skip
                        exfalso
                        omega
                      · skip
                        refine g_aload_n C (n' := 11) 1 rfl dX4_wordHere_10 rfl rfl ?_
                        refine g_getsN C (n' := 14) (v := .ref (e 0)) hv.1 (List.mem_of_getElem? (i := 24) rfl) rfl dX4_wordHere_11 rfl ?_
                        refine g_iload_n C (n' := 15) 0 rfl dX4_wordHere_14 rfl rfl ?_
                        refine g_tq C (n' := 16) hv.2.1 (v := .ref (e (10 + 5))) (by decide) (by decide) (by decide) rfl dX4_wordHere_15 rfl ?_
                        refine g_getfEN C (n' := 19) (v := .ref (e (20 + 5))) (hv.2.2.2.1 5 (by decide)) (List.mem_of_getElem? (i := 27) rfl) rfl dX4_wordHere_16 rfl ?_
                        refine g_cVv C (n' := 22) (v := .int (iI (if t_is L ((I 3)) ((I 4)) (tW 5) = true then 1 else 0))) (c_X4_isSpelled l D Y C.2.2.2.2.2.2.2.2.1 q I L e 5 hsI hsL hT hW (by first | assumption | decide)) 1 kw_275 kc_X4_isSpelled (by decide +kernel) (pm0 _) 0 (ci := 3) rfl rfl rfl rfl ⟨Nat.le_of_ble_eq_true rfl, Nat.le_of_ble_eq_true rfl⟩ ⟨rfl, rfl⟩ ⟨Nat.le_of_ble_eq_true rfl, Nat.le_of_ble_eq_true rfl⟩ (Nat.le_of_ble_eq_true rfl) dX4_wordHere_19 rfl rfl (wText q Y I L) (pm0' _) ?_
                        refine g_if_eq C (n' := 25) 27 dX4_wordHere_22 (by decide) rfl bz_r (fun c12 => ?_) (fun c12 => ?_)
                        · skip
                          replace c12 := bz_eq.mp c12
                          refine g_iinc C (n' := 30) 0 [(1, .int (iI 6)), (0, .ref (q 99))] rfl dX4_wordHere_27 rfl (by decide) rfl ?_
                          refine g_goto C 2 dX4_wordHere_30 (by decide) ?_
                          refine g_iload_n C (n' := 3) 0 rfl dX4_wordHere_2 rfl rfl ?_
                          refine g_getsN C (n' := 6) (v := .ref (e 0)) hv.1 (List.mem_of_getElem? (i := 24) rfl) rfl dX4_wordHere_3 rfl ?_
                          refine g_tlen C (n' := 7) hv.2.1 (v := 6) rfl dX4_wordHere_6 rfl ?_
                          refine g_icmp_ge C (n' := 10) 33 dX4_wordHere_7 (by decide) rfl (by unfold inR; omega) (by unfold inR; omega) (fun c13 => ?_) (fun c13 => ?_)
                          · skip
                            refine g_iconst C (n' := 34) dX4_wordHere_33 rfl ?_
                            refine g_iret C hr hlk rfl ⟨congrArg (fun z : Int => some (Value.int (iI z))) ?_, rfl⟩ dX4_wordHere_34
                            unfold t_word
                            rw [if_neg (show ¬ t_is L (I 3) (I 4) t_w0 = true from c2), if_neg (show ¬ t_is L (I 3) (I 4) t_w1 = true from c4), if_neg (show ¬ t_is L (I 3) (I 4) t_w2 = true from c6), if_neg (show ¬ t_is L (I 3) (I 4) t_w3 = true from c8), if_neg (show ¬ t_is L (I 3) (I 4) t_w4 = true from c10), if_neg (show ¬ t_is L (I 3) (I 4) t_w5 = true from c12)]
                          · skip
                            exfalso
                            omega
                        · skip
                          replace c12 := bz_neq.mp c12
                          refine g_iload_n C (n' := 26) 0 rfl dX4_wordHere_25 rfl rfl ?_
                          refine g_iret C hr hlk rfl ⟨congrArg (fun z : Int => some (Value.int (iI z))) ?_, rfl⟩ dX4_wordHere_26
                          unfold t_word
                          rw [if_neg (show ¬ t_is L (I 3) (I 4) t_w0 = true from c2), if_neg (show ¬ t_is L (I 3) (I 4) t_w1 = true from c4), if_neg (show ¬ t_is L (I 3) (I 4) t_w2 = true from c6), if_neg (show ¬ t_is L (I 3) (I 4) t_w3 = true from c8), if_neg (show ¬ t_is L (I 3) (I 4) t_w4 = true from c10), if_pos (show t_is L (I 3) (I 4) t_w5 = true from c12)]
                    · skip
                      replace c10 := bz_neq.mp c10
                      refine g_iload_n C (n' := 26) 0 rfl dX4_wordHere_25 rfl rfl ?_
                      refine g_iret C hr hlk rfl ⟨congrArg (fun z : Int => some (Value.int (iI z))) ?_, rfl⟩ dX4_wordHere_26
                      unfold t_word
                      rw [if_neg (show ¬ t_is L (I 3) (I 4) t_w0 = true from c2), if_neg (show ¬ t_is L (I 3) (I 4) t_w1 = true from c4), if_neg (show ¬ t_is L (I 3) (I 4) t_w2 = true from c6), if_neg (show ¬ t_is L (I 3) (I 4) t_w3 = true from c8), if_pos (show t_is L (I 3) (I 4) t_w4 = true from c10)]
                · skip
                  replace c8 := bz_neq.mp c8
                  refine g_iload_n C (n' := 26) 0 rfl dX4_wordHere_25 rfl rfl ?_
                  refine g_iret C hr hlk rfl ⟨congrArg (fun z : Int => some (Value.int (iI z))) ?_, rfl⟩ dX4_wordHere_26
                  unfold t_word
                  rw [if_neg (show ¬ t_is L (I 3) (I 4) t_w0 = true from c2), if_neg (show ¬ t_is L (I 3) (I 4) t_w1 = true from c4), if_neg (show ¬ t_is L (I 3) (I 4) t_w2 = true from c6), if_pos (show t_is L (I 3) (I 4) t_w3 = true from c8)]
            · skip
              replace c6 := bz_neq.mp c6
              refine g_iload_n C (n' := 26) 0 rfl dX4_wordHere_25 rfl rfl ?_
              refine g_iret C hr hlk rfl ⟨congrArg (fun z : Int => some (Value.int (iI z))) ?_, rfl⟩ dX4_wordHere_26
              unfold t_word
              rw [if_neg (show ¬ t_is L (I 3) (I 4) t_w0 = true from c2), if_neg (show ¬ t_is L (I 3) (I 4) t_w1 = true from c4), if_pos (show t_is L (I 3) (I 4) t_w2 = true from c6)]
        · skip
          replace c4 := bz_neq.mp c4
          refine g_iload_n C (n' := 26) 0 rfl dX4_wordHere_25 rfl rfl ?_
          refine g_iret C hr hlk rfl ⟨congrArg (fun z : Int => some (Value.int (iI z))) ?_, rfl⟩ dX4_wordHere_26
          unfold t_word
          rw [if_neg (show ¬ t_is L (I 3) (I 4) t_w0 = true from c2), if_pos (show t_is L (I 3) (I 4) t_w1 = true from c4)]
    · skip
      replace c2 := bz_neq.mp c2
      refine g_iload_n C (n' := 26) 0 rfl dX4_wordHere_25 rfl rfl ?_
      refine g_iret C hr hlk rfl ⟨congrArg (fun z : Int => some (Value.int (iI z))) ?_, rfl⟩ dX4_wordHere_26
      unfold t_word
      rw [if_pos (show t_is L (I 3) (I 4) t_w0 = true from c2)]
