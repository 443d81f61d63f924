/-! the reference: words and numbers -/
def t_eqB (L : Nat → Int) (s : Int) : Nat → List Int → Bool
  | _, [] => true
  | k, a :: t => decide (L (s + (k : Int)).toNat = a) && t_eqB L s (k + 1) t
def t_is (L : Nat → Int) (s e : Int) (w : List Int) : Bool := decide (e - s = (w.length : Int)) && t_eqB L s 0 w
def t_w0 : List Int := [110, 101, 116]
theorem t_is_0 (L : Nat → Int) (s e : Int) : t_is L s e t_w0 = true ↔ (e - s = 3 ∧ L (s + 0).toNat = 110 ∧ L (s + 1).toNat = 101 ∧ L (s + 2).toNat = 116) := by
  simp [t_is, t_eqB, t_w0]
def t_w1 : List Int := [112, 97, 116, 104]
theorem t_is_1 (L : Nat → Int) (s e : Int) : t_is L s e t_w1 = true ↔ (e - s = 4 ∧ L (s + 0).toNat = 112 ∧ L (s + 1).toNat = 97 ∧ L (s + 2).toNat = 116 ∧ L (s + 3).toNat = 104) := by
  simp [t_is, t_eqB, t_w1]
def t_w2 : List Int := [115, 101, 116, 117, 112]
theorem t_is_2 (L : Nat → Int) (s e : Int) : t_is L s e t_w2 = true ↔ (e - s = 5 ∧ L (s + 0).toNat = 115 ∧ L (s + 1).toNat = 101 ∧ L (s + 2).toNat = 116 ∧ L (s + 3).toNat = 117 ∧ L (s + 4).toNat = 112) := by
  simp [t_is, t_eqB, t_w2]
def t_w3 : List Int := [104, 111, 108, 100]
theorem t_is_3 (L : Nat → Int) (s e : Int) : t_is L s e t_w3 = true ↔ (e - s = 4 ∧ L (s + 0).toNat = 104 ∧ L (s + 1).toNat = 111 ∧ L (s + 2).toNat = 108 ∧ L (s + 3).toNat = 100) := by
  simp [t_is, t_eqB, t_w3]
def t_w4 : List Int := [115, 116, 101, 112]
theorem t_is_4 (L : Nat → Int) (s e : Int) : t_is L s e t_w4 = true ↔ (e - s = 4 ∧ L (s + 0).toNat = 115 ∧ L (s + 1).toNat = 116 ∧ L (s + 2).toNat = 101 ∧ L (s + 3).toNat = 112) := by
  simp [t_is, t_eqB, t_w4]
def t_w5 : List Int := [112, 101, 114, 105, 111, 100]
theorem t_is_5 (L : Nat → Int) (s e : Int) : t_is L s e t_w5 = true ↔ (e - s = 6 ∧ L (s + 0).toNat = 112 ∧ L (s + 1).toNat = 101 ∧ L (s + 2).toNat = 114 ∧ L (s + 3).toNat = 105 ∧ L (s + 4).toNat = 111 ∧ L (s + 5).toNat = 100) := by
  simp [t_is, t_eqB, t_w5]
def t_word (L : Nat → Int) (s e : Int) : Int := if t_is L s e t_w0 = true then 0 else if t_is L s e t_w1 = true then 1 else if t_is L s e t_w2 = true then 2 else if t_is L s e t_w3 = true then 3 else if t_is L s e t_w4 = true then 4 else if t_is L s e t_w5 = true then 5 else -1
theorem t_word_r (L : Nat → Int) (s e : Int) : t_word L s e = -1 ∨ t_word L s e = 0 ∨ t_word L s e = 1 ∨ t_word L s e = 2 ∨ t_word L s e = 3 ∨ t_word L s e = 4 ∨ t_word L s e = 5 := by
  unfold t_word
  (repeat' split) <;> omega
def mwOK (A : Nat → Nat → Int) : Prop := (A 23 0 = 110 ∧ A 23 1 = 101 ∧ A 23 2 = 116) ∧ (A 24 0 = 112 ∧ A 24 1 = 97 ∧ A 24 2 = 116 ∧ A 24 3 = 104) ∧ (A 25 0 = 115 ∧ A 25 1 = 101 ∧ A 25 2 = 116 ∧ A 25 3 = 117 ∧ A 25 4 = 112) ∧ (A 26 0 = 104 ∧ A 26 1 = 111 ∧ A 26 2 = 108 ∧ A 26 3 = 100) ∧ (A 27 0 = 115 ∧ A 27 1 = 116 ∧ A 27 2 = 101 ∧ A 27 3 = 112) ∧ (A 28 0 = 112 ∧ A 28 1 = 101 ∧ A 28 2 = 114 ∧ A 28 3 = 105 ∧ A 28 4 = 111 ∧ A 28 5 = 100)
def mtk (I : Nat → Int) : Prop := 0 ≤ I 16 ∧ I 16 ≤ I 17 ∧ I 17 ≤ I 11 ∧ I 11 ≤ 200
theorem tk_n {L : Nat → Int} {n e : Int} (he : 0 ≤ e ∧ e ≤ n) : 0 ≤ tk1 L n e ∧ tk1 L n e ≤ tk2 L n e ∧ tk2 L n e ≤ n := by
  have h1 := t_skip_r L n 200 e
  have h2 := t_end_r L n (t_skip L n 200 e)
  unfold tk1 tk2
  omega
theorem t_val_s {L : Nat → Int} (hL : smR L) (s : Nat) : ∀ k : Nat, k ≤ 3 → -112000000 ≤ t_val L s k ∧ t_val L s k ≤ 112000000 := by
  intro k hk
  have h0 := hL s
  have h1 := hL (s + 1)
  have h2 := hL (s + 2)
  rcases (show k = 0 ∨ k = 1 ∨ k = 2 ∨ k = 3 by omega) with rfl | rfl | rfl | rfl <;> simp only [t_val, Nat.add_zero] <;> omega
set_option maxRecDepth 100000 in
set_option maxHeartbeats 4000000 in
theorem c_X8_isWord_0 (l : Launch) (D : va_G) (Y : Nat → ClassId) {E : (Nat → Prop) → State → Heap → Prop} (hE : g_Stab E) (q : Nat → Nat) (I : Nat → Int) (A : Nat → Nat → Int) (F : Nat → UInt32) (Dd : Nat → UInt64) (hsI : smI I) (hsA : smA A) (hT : mtk I) (hw : mwOK A) : g_Ct l yX8_isWord cX8_isWord 4 (some FieldType.boolean) ({ frames := 0, cells := 0, slots := 0, locals := 0 } : Room) D (tysY Y) E [.ref (q 99), .ref (q 23)] (wMod q Y I A F Dd) 0 0 (g_det (some (.int (iI (if t_is (A 10) (I 16) (I 17) t_w0 = true then 1 else 0)))) (wMod q Y I A F Dd)) := by
  refine g_ofG (own := RX8) hE (by decide) rfl (Nat.le_of_ble_eq_true rfl) [(0, .ref (q 99)), (1, .ref (q 23))] rfl ?_
  intro p9 e9 s9 m9 b9 t9 c9 A9 C hr hlk hnm
  have hI := hsI
  have hA := hsA
  unfold smI at hI
  unfold smA at hA
  have hT9 := hT
  unfold mtk at hT9
  have hw9 := hw
  unfold mwOK at hw9
  obtain ⟨hw0, hw1, hw2, hw3, hw4, hw5⟩ := hw9
  refine g_aload_n C (n' := 1) 0 rfl dX8_isWord_0 rfl rfl ?_
  refine g_get C (n' := 4) (Cn := RX8) (T := TX8) (N := 35) (ci := 6) (v := .int (iI (I 17))) ga_X8 0 rfl rfl 17 (by decide) kw_707 rfl rfl dX8_isWord_1 rfl ?_
  have h_1 := hI 17
  refine g_aload_n C (n' := 5) 0 rfl dX8_isWord_4 rfl rfl ?_
  refine g_get C (n' := 8) (Cn := RX8) (T := TX8) (N := 35) (ci := 6) (v := .int (iI (I 16))) ga_X8 0 rfl rfl 16 (by decide) kw_706 rfl rfl dX8_isWord_5 rfl ?_
  have h_5 := hI 16
  refine g_isub C (n' := 9) dX8_isWord_8 rfl ?_
  refine g_aload_n C (n' := 10) 1 rfl dX8_isWord_9 rfl rfl ?_
  refine g_alen C (n' := 11) 11 0 rfl rfl (v := 3) rfl dX8_isWord_10 rfl ?_
  refine g_icmp_ne C (n' := 14) 18 dX8_isWord_11 (by decide) rfl (by unfold inR; omega) (by unfold inR; omega) (fun c1 => ?_) (fun c1 => ?_)
  · skip
    refine g_iconst C (n' := 19) dX8_isWord_18 rfl ?_
    refine g_istore_n C (n' := 20) [(2, .int (iI 0)), (0, .ref (q 99)), (1, .ref (q 23))] dX8_isWord_19 rfl rfl (by decide) rfl ?_
    refine g_iconst C (n' := 21) dX8_isWord_20 rfl ?_
    refine g_istore_n C (n' := 22) [(3, .int (iI 0)), (2, .int (iI 0)), (0, .ref (q 99)), (1, .ref (q 23))] dX8_isWord_21 rfl rfl (by decide) rfl ?_
    refine g_iload_n C (n' := 23) 0 rfl dX8_isWord_22 rfl rfl ?_
    refine g_aload_n C (n' := 24) 3 rfl dX8_isWord_23 rfl rfl ?_
    refine g_alen C (n' := 25) 11 0 rfl rfl (v := 3) rfl dX8_isWord_24 rfl ?_
    refine g_icmp_ge C (n' := 28) 61 dX8_isWord_25 (by decide) rfl (by unfold inR; omega) (by unfold inR; omega) (fun c2 => ?_) (fun c2 => ?_)
    · skip
      exfalso
      omega
    · skip
      refine g_iload_n C (n' := 29) 1 rfl dX8_isWord_28 rfl rfl ?_
      refine g_if_eq C (n' := 32) 61 dX8_isWord_29 (by decide) rfl (by unfold inR; omega) (fun c3 => ?_) (fun c3 => ?_)
      · skip
        refine g_iload_n C (n' := 62) 1 rfl dX8_isWord_61 rfl rfl ?_
        refine g_iret C hr hlk (nar_z (by omega)) ⟨congrArg (fun z : Int => some (Value.int (iI z))) ?_, rfl⟩ dX8_isWord_62
        exact (if_neg (fun z => by have z2 := (t_is_0 _ _ _).mp z; omega)).symm
      · skip
        exfalso
        omega
  · skip
    refine g_iconst C (n' := 15) dX8_isWord_14 rfl ?_
    refine g_goto C 19 dX8_isWord_15 (by decide) ?_
    refine g_istore_n C (n' := 20) [(2, .int (iI 1)), (0, .ref (q 99)), (1, .ref (q 23))] dX8_isWord_19 rfl rfl (by decide) rfl ?_
    refine g_iconst C (n' := 21) dX8_isWord_20 rfl ?_
    refine g_istore_n C (n' := 22) [(3, .int (iI 0)), (2, .int (iI 1)), (0, .ref (q 99)), (1, .ref (q 23))] dX8_isWord_21 rfl rfl (by decide) rfl ?_
    refine g_iload_n C (n' := 23) 0 rfl dX8_isWord_22 rfl rfl ?_
    refine g_aload_n C (n' := 24) 3 rfl dX8_isWord_23 rfl rfl ?_
    refine g_alen C (n' := 25) 11 0 rfl rfl (v := 3) rfl dX8_isWord_24 rfl ?_
    refine g_icmp_ge C (n' := 28) 61 dX8_isWord_25 (by decide) rfl (by unfold inR; omega) (by unfold inR; omega) (fun c4 => ?_) (fun c4 => ?_)
    · skip
      exfalso
      omega
    · skip
      refine g_iload_n C (n' := 29) 1 rfl dX8_isWord_28 rfl rfl ?_
      refine g_if_eq C (n' := 32) 61 dX8_isWord_29 (by decide) rfl (by unfold inR; omega) (fun c5 => ?_) (fun c5 => ?_)
      · skip
        exfalso
        omega
      · skip
        refine g_aload_n C (n' := 33) 2 rfl dX8_isWord_32 rfl rfl ?_
        refine g_get C (n' := 36) (Cn := RX8) (T := TX8) (N := 35) (ci := 6) (v := .ref (q 10)) ga_X8 0 rfl rfl 10 (by decide) kw_700 rfl rfl dX8_isWord_33 rfl ?_
        refine g_aload_n C (n' := 37) 2 rfl dX8_isWord_36 rfl rfl ?_
        refine g_get C (n' := 40) (Cn := RX8) (T := TX8) (N := 35) (ci := 6) (v := .int (iI (I 16))) ga_X8 0 rfl rfl 16 (by decide) kw_706 rfl rfl dX8_isWord_37 rfl ?_
        have h_37 := hI 16
        refine g_iload_n C (n' := 41) 0 rfl dX8_isWord_40 rfl rfl ?_
        refine g_iadd C (n' := 42) dX8_isWord_41 rfl ?_
        refine g_iald C (n' := 43) (f := (A 10)) 5 0 rfl rfl (by omega) (by omega) (by decide) rfl dX8_isWord_42 rfl ?_
        have h_42 := hA 10 (((I 16) + 0).toNat)
        refine g_aload_n C (n' := 44) 3 rfl dX8_isWord_43 rfl rfl ?_
        refine g_iload_n C (n' := 45) 0 rfl dX8_isWord_44 rfl rfl ?_
        refine g_ialdN C (n' := 46) (f := (A 23)) (j := 0) 11 0 rfl rfl (by omega) (by decide) rfl dX8_isWord_45 rfl ?_
        have h_45 := hA 23 0
        refine g_icmp_ne C (n' := 49) 53 dX8_isWord_46 (by decide) rfl (by unfold inR; omega) (by unfold inR; omega) (fun c6 => ?_) (fun c6 => ?_)
        · skip
          refine g_iconst C (n' := 54) dX8_isWord_53 rfl ?_
          refine g_istore_n C (n' := 55) [(2, .int (iI 0)), (3, .int (iI 0)), (0, .ref (q 99)), (1, .ref (q 23))] dX8_isWord_54 rfl rfl (by decide) rfl ?_
          refine g_iinc C (n' := 58) 1 [(3, .int (iI 1)), (2, .int (iI 0)), (0, .ref (q 99)), (1, .ref (q 23))] rfl dX8_isWord_55 rfl (by decide) rfl ?_
          refine g_goto C 22 dX8_isWord_58 (by decide) ?_
          refine g_iload_n C (n' := 23) 0 rfl dX8_isWord_22 rfl rfl ?_
          refine g_aload_n C (n' := 24) 3 rfl dX8_isWord_23 rfl rfl ?_
          refine g_alen C (n' := 25) 11 0 rfl rfl (v := 3) rfl dX8_isWord_24 rfl ?_
          refine g_icmp_ge C (n' := 28) 61 dX8_isWord_25 (by decide) rfl (by unfold inR; omega) (by unfold inR; omega) (fun c7 => ?_) (fun c7 => ?_)
          · skip
            exfalso
            omega
          · skip
            refine g_iload_n C (n' := 29) 1 rfl dX8_isWord_28 rfl rfl ?_
            refine g_if_eq C (n' := 32) 61 dX8_isWord_29 (by decide) rfl (by unfold inR; omega) (fun c8 => ?_) (fun c8 => ?_)
            · skip
              refine g_iload_n C (n' := 62) 1 rfl dX8_isWord_61 rfl rfl ?_
              refine g_iret C hr hlk (nar_z (by omega)) ⟨congrArg (fun z : Int => some (Value.int (iI z))) ?_, rfl⟩ dX8_isWord_62
              exact (if_neg (fun z => by have z2 := (t_is_0 _ _ _).mp z; omega)).symm
            · skip
              exfalso
              omega
        · skip
          refine g_iconst C (n' := 50) dX8_isWord_49 rfl ?_
          refine g_goto C 54 dX8_isWord_50 (by decide) ?_
          refine g_istore_n C (n' := 55) [(2, .int (iI 1)), (3, .int (iI 0)), (0, .ref (q 99)), (1, .ref (q 23))] dX8_isWord_54 rfl rfl (by decide) rfl ?_
          refine g_iinc C (n' := 58) 1 [(3, .int (iI 1)), (2, .int (iI 1)), (0, .ref (q 99)), (1, .ref (q 23))] rfl dX8_isWord_55 rfl (by decide) rfl ?_
          refine g_goto C 22 dX8_isWord_58 (by decide) ?_
          refine g_iload_n C (n' := 23) 0 rfl dX8_isWord_22 rfl rfl ?_
          refine g_aload_n C (n' := 24) 3 rfl dX8_isWord_23 rfl rfl ?_
          refine g_alen C (n' := 25) 11 0 rfl rfl (v := 3) rfl dX8_isWord_24 rfl ?_
          refine g_icmp_ge C (n' := 28) 61 dX8_isWord_25 (by decide) rfl (by unfold inR; omega) (by unfold inR; omega) (fun c9 => ?_) (fun c9 => ?_)
          · skip
            exfalso
            omega
          · skip
            refine g_iload_n C (n' := 29) 1 rfl dX8_isWord_28 rfl rfl ?_
            refine g_if_eq C (n' := 32) 61 dX8_isWord_29 (by decide) rfl (by unfold inR; omega) (fun c10 => ?_) (fun c10 => ?_)
            · skip
              exfalso
              omega
            · skip
              refine g_aload_n C (n' := 33) 2 rfl dX8_isWord_32 rfl rfl ?_
              refine g_get C (n' := 36) (Cn := RX8) (T := TX8) (N := 35) (ci := 6) (v := .ref (q 10)) ga_X8 0 rfl rfl 10 (by decide) kw_700 rfl rfl dX8_isWord_33 rfl ?_
              refine g_aload_n C (n' := 37) 2 rfl dX8_isWord_36 rfl rfl ?_
              refine g_get C (n' := 40) (Cn := RX8) (T := TX8) (N := 35) (ci := 6) (v := .int (iI (I 16))) ga_X8 0 rfl rfl 16 (by decide) kw_706 rfl rfl dX8_isWord_37 rfl ?_
              have h_37 := hI 16
              refine g_iload_n C (n' := 41) 0 rfl dX8_isWord_40 rfl rfl ?_
              refine g_iadd C (n' := 42) dX8_isWord_41 rfl ?_
              refine g_iald C (n' := 43) (f := (A 10)) 5 0 rfl rfl (by omega) (by omega) (by decide) rfl dX8_isWord_42 rfl ?_
              have h_42 := hA 10 (((I 16) + 1).toNat)
              refine g_aload_n C (n' := 44) 3 rfl dX8_isWord_43 rfl rfl ?_
              refine g_iload_n C (n' := 45) 0 rfl dX8_isWord_44 rfl rfl ?_
              refine g_ialdN C (n' := 46) (f := (A 23)) (j := 1) 11 0 rfl rfl (by omega) (by decide) rfl dX8_isWord_45 rfl ?_
              have h_45 := hA 23 1
              refine g_icmp_ne C (n' := 49) 53 dX8_isWord_46 (by decide) rfl (by unfold inR; omega) (by unfold inR; omega) (fun c11 => ?_) (fun c11 => ?_)
              · skip
                refine g_iconst C (n' := 54) dX8_isWord_53 rfl ?_
                refine g_istore_n C (n' := 55) [(2, .int (iI 0)), (3, .int (iI 1)), (0, .ref (q 99)), (1, .ref (q 23))] dX8_isWord_54 rfl rfl (by decide) rfl ?_
                refine g_iinc C (n' := 58) 1 [(3, .int (iI 2)), (2, .int (iI 0)), (0, .ref (q 99)), (1, .ref (q 23))] rfl dX8_isWord_55 rfl (by decide) rfl ?_
                refine g_goto C 22 dX8_isWord_58 (by decide) ?_
                refine g_iload_n C (n' := 23) 0 rfl dX8_isWord_22 rfl rfl ?_
                refine g_aload_n C (n' := 24) 3 rfl dX8_isWord_23 rfl rfl ?_
                refine g_alen C (n' := 25) 11 0 rfl rfl (v := 3) rfl dX8_isWord_24 rfl ?_
                refine g_icmp_ge C (n' := 28) 61 dX8_isWord_25 (by decide) rfl (by unfold inR; omega) (by unfold inR; omega) (fun c12 => ?_) (fun c12 => ?_)
                · skip
                  exfalso
                  omega
                · skip
                  refine g_iload_n C (n' := 29) 1 rfl dX8_isWord_28 rfl rfl ?_
                  refine g_if_eq C (n' := 32) 61 dX8_isWord_29 (by decide) rfl (by unfold inR; omega) (fun c13 => ?_) (fun c13 => ?_)
                  · skip
                    refine g_iload_n C (n' := 62) 1 rfl dX8_isWord_61 rfl rfl ?_
                    refine g_iret C hr hlk (nar_z (by omega)) ⟨congrArg (fun z : Int => some (Value.int (iI z))) ?_, rfl⟩ dX8_isWord_62
                    exact (if_neg (fun z => by have z2 := (t_is_0 _ _ _).mp z; omega)).symm
                  · skip
                    exfalso
                    omega
              · skip
                refine g_iconst C (n' := 50) dX8_isWord_49 rfl ?_
                refine g_goto C 54 dX8_isWord_50 (by decide) ?_
                refine g_istore_n C (n' := 55) [(2, .int (iI 1)), (3, .int (iI 1)), (0, .ref (q 99)), (1, .ref (q 23))] dX8_isWord_54 rfl rfl (by decide) rfl ?_
                refine g_iinc C (n' := 58) 1 [(3, .int (iI 2)), (2, .int (iI 1)), (0, .ref (q 99)), (1, .ref (q 23))] rfl dX8_isWord_55 rfl (by decide) rfl ?_
                refine g_goto C 22 dX8_isWord_58 (by decide) ?_
                refine g_iload_n C (n' := 23) 0 rfl dX8_isWord_22 rfl rfl ?_
                refine g_aload_n C (n' := 24) 3 rfl dX8_isWord_23 rfl rfl ?_
                refine g_alen C (n' := 25) 11 0 rfl rfl (v := 3) rfl dX8_isWord_24 rfl ?_
                refine g_icmp_ge C (n' := 28) 61 dX8_isWord_25 (by decide) rfl (by unfold inR; omega) (by unfold inR; omega) (fun c14 => ?_) (fun c14 => ?_)
                · skip
                  exfalso
                  omega
                · skip
                  refine g_iload_n C (n' := 29) 1 rfl dX8_isWord_28 rfl rfl ?_
                  refine g_if_eq C (n' := 32) 61 dX8_isWord_29 (by decide) rfl (by unfold inR; omega) (fun c15 => ?_) (fun c15 => ?_)
                  · skip
                    exfalso
                    omega
                  · skip
                    refine g_aload_n C (n' := 33) 2 rfl dX8_isWord_32 rfl rfl ?_
                    refine g_get C (n' := 36) (Cn := RX8) (T := TX8) (N := 35) (ci := 6) (v := .ref (q 10)) ga_X8 0 rfl rfl 10 (by decide) kw_700 rfl rfl dX8_isWord_33 rfl ?_
                    refine g_aload_n C (n' := 37) 2 rfl dX8_isWord_36 rfl rfl ?_
                    refine g_get C (n' := 40) (Cn := RX8) (T := TX8) (N := 35) (ci := 6) (v := .int (iI (I 16))) ga_X8 0 rfl rfl 16 (by decide) kw_706 rfl rfl dX8_isWord_37 rfl ?_
                    have h_37 := hI 16
                    refine g_iload_n C (n' := 41) 0 rfl dX8_isWord_40 rfl rfl ?_
                    refine g_iadd C (n' := 42) dX8_isWord_41 rfl ?_
                    refine g_iald C (n' := 43) (f := (A 10)) 5 0 rfl rfl (by omega) (by omega) (by decide) rfl dX8_isWord_42 rfl ?_
                    have h_42 := hA 10 (((I 16) + 2).toNat)
                    refine g_aload_n C (n' := 44) 3 rfl dX8_isWord_43 rfl rfl ?_
                    refine g_iload_n C (n' := 45) 0 rfl dX8_isWord_44 rfl rfl ?_
                    refine g_ialdN C (n' := 46) (f := (A 23)) (j := 2) 11 0 rfl rfl (by omega) (by decide) rfl dX8_isWord_45 rfl ?_
                    have h_45 := hA 23 2
                    refine g_icmp_ne C (n' := 49) 53 dX8_isWord_46 (by decide) rfl (by unfold inR; omega) (by unfold inR; omega) (fun c16 => ?_) (fun c16 => ?_)
                    · skip
                      refine g_iconst C (n' := 54) dX8_isWord_53 rfl ?_
                      refine g_istore_n C (n' := 55) [(2, .int (iI 0)), (3, .int (iI 2)), (0, .ref (q 99)), (1, .ref (q 23))] dX8_isWord_54 rfl rfl (by decide) rfl ?_
                      refine g_iinc C (n' := 58) 1 [(3, .int (iI 3)), (2, .int (iI 0)), (0, .ref (q 99)), (1, .ref (q 23))] rfl dX8_isWord_55 rfl (by decide) rfl ?_
                      refine g_goto C 22 dX8_isWord_58 (by decide) ?_
                      refine g_iload_n C (n' := 23) 0 rfl dX8_isWord_22 rfl rfl ?_
                      refine g_aload_n C (n' := 24) 3 rfl dX8_isWord_23 rfl rfl ?_
                      refine g_alen C (n' := 25) 11 0 rfl rfl (v := 3) rfl dX8_isWord_24 rfl ?_
                      refine g_icmp_ge C (n' := 28) 61 dX8_isWord_25 (by decide) rfl (by unfold inR; omega) (by unfold inR; omega) (fun c17 => ?_) (fun c17 => ?_)
                      · skip
                        refine g_iload_n C (n' := 62) 1 rfl dX8_isWord_61 rfl rfl ?_
                        refine g_iret C hr hlk (nar_z (by omega)) ⟨congrArg (fun z : Int => some (Value.int (iI z))) ?_, rfl⟩ dX8_isWord_62
                        exact (if_neg (fun z => by have z2 := (t_is_0 _ _ _).mp z; omega)).symm
                      · skip
                        exfalso
                        omega
                    · skip
                      refine g_iconst C (n' := 50) dX8_isWord_49 rfl ?_
                      refine g_goto C 54 dX8_isWord_50 (by decide) ?_
                      refine g_istore_n C (n' := 55) [(2, .int (iI 1)), (3, .int (iI 2)), (0, .ref (q 99)), (1, .ref (q 23))] dX8_isWord_54 rfl rfl (by decide) rfl ?_
                      refine g_iinc C (n' := 58) 1 [(3, .int (iI 3)), (2, .int (iI 1)), (0, .ref (q 99)), (1, .ref (q 23))] rfl dX8_isWord_55 rfl (by decide) rfl ?_
                      refine g_goto C 22 dX8_isWord_58 (by decide) ?_
                      refine g_iload_n C (n' := 23) 0 rfl dX8_isWord_22 rfl rfl ?_
                      refine g_aload_n C (n' := 24) 3 rfl dX8_isWord_23 rfl rfl ?_
                      refine g_alen C (n' := 25) 11 0 rfl rfl (v := 3) rfl dX8_isWord_24 rfl ?_
                      refine g_icmp_ge C (n' := 28) 61 dX8_isWord_25 (by decide) rfl (by unfold inR; omega) (by unfold inR; omega) (fun c18 => ?_) (fun c18 => ?_)
                      · skip
                        refine g_iload_n C (n' := 62) 1 rfl dX8_isWord_61 rfl rfl ?_
                        refine g_iret C hr hlk (nar_z (by omega)) ⟨congrArg (fun z : Int => some (Value.int (iI z))) ?_, rfl⟩ dX8_isWord_62
                        exact (if_pos ((t_is_0 _ _ _).mpr (by refine ⟨by omega, ?_⟩; omega))).symm
                      · skip
                        exfalso
                        omega
set_option maxRecDepth 100000 in
set_option maxHeartbeats 4000000 in
theorem c_X8_isWord_1 (l : Launch) (D : va_G) (Y : Nat → ClassId) {E : (Nat → Prop) → State → Heap → Prop} (hE : g_Stab E) (q : Nat → Nat) (I : Nat → Int) (A : Nat → Nat → Int) (F : Nat → UInt32) (Dd : Nat → UInt64) (hsI : smI I) (hsA : smA A) (hT : mtk I) (hw : mwOK A) : g_Ct l yX8_isWord cX8_isWord 4 (some FieldType.boolean) ({ frames := 0, cells := 0, slots := 0, locals := 0 } : Room) D (tysY Y) E [.ref (q 99), .ref (q 24)] (wMod q Y I A F Dd) 0 0 (g_det (some (.int (iI (if t_is (A 10) (I 16) (I 17) t_w1 = true then 1 else 0)))) (wMod q Y I A F Dd)) := by
  refine g_ofG (own := RX8) hE (by decide) rfl (Nat.le_of_ble_eq_true rfl) [(0, .ref (q 99)), (1, .ref (q 24))] rfl ?_
  intro p9 e9 s9 m9 b9 t9 c9 A9 C hr hlk hnm
  have hI := hsI
  have hA := hsA
  unfold smI at hI
  unfold smA at hA
  have hT9 := hT
  unfold mtk at hT9
  have hw9 := hw
  unfold mwOK at hw9
  obtain ⟨hw0, hw1, hw2, hw3, hw4, hw5⟩ := hw9
  refine g_aload_n C (n' := 1) 0 rfl dX8_isWord_0 rfl rfl ?_
  refine g_get C (n' := 4) (Cn := RX8) (T := TX8) (N := 35) (ci := 6) (v := .int (iI (I 17))) ga_X8 0 rfl rfl 17 (by decide) kw_707 rfl rfl dX8_isWord_1 rfl ?_
  have h_1 := hI 17
  refine g_aload_n C (n' := 5) 0 rfl dX8_isWord_4 rfl rfl ?_
  refine g_get C (n' := 8) (Cn := RX8) (T := TX8) (N := 35) (ci := 6) (v := .int (iI (I 16))) ga_X8 0 rfl rfl 16 (by decide) kw_706 rfl rfl dX8_isWord_5 rfl ?_
  have h_5 := hI 16
  refine g_isub C (n' := 9) dX8_isWord_8 rfl ?_
  refine g_aload_n C (n' := 10) 1 rfl dX8_isWord_9 rfl rfl ?_
  refine g_alen C (n' := 11) 12 0 rfl rfl (v := 4) rfl dX8_isWord_10 rfl ?_
  refine g_icmp_ne C (n' := 14) 18 dX8_isWord_11 (by decide) rfl (by unfold inR; omega) (by unfold inR; omega) (fun c1 => ?_) (fun c1 => ?_)
  · skip
    refine g_iconst C (n' := 19) dX8_isWord_18 rfl ?_
    refine g_istore_n C (n' := 20) [(2, .int (iI 0)), (0, .ref (q 99)), (1, .ref (q 24))] dX8_isWord_19 rfl rfl (by decide) rfl ?_
    refine g_iconst C (n' := 21) dX8_isWord_20 rfl ?_
    refine g_istore_n C (n' := 22) [(3, .int (iI 0)), (2, .int (iI 0)), (0, .ref (q 99)), (1, .ref (q 24))] dX8_isWord_21 rfl rfl (by decide) rfl ?_
    refine g_iload_n C (n' := 23) 0 rfl dX8_isWord_22 rfl rfl ?_
    refine g_aload_n C (n' := 24) 3 rfl dX8_isWord_23 rfl rfl ?_
    refine g_alen C (n' := 25) 12 0 rfl rfl (v := 4) rfl dX8_isWord_24 rfl ?_
    refine g_icmp_ge C (n' := 28) 61 dX8_isWord_25 (by decide) rfl (by unfold inR; omega) (by unfold inR; omega) (fun c2 => ?_) (fun c2 => ?_)
    · skip
      exfalso
      omega
    · skip
      refine g_iload_n C (n' := 29) 1 rfl dX8_isWord_28 rfl rfl ?_
      refine g_if_eq C (n' := 32) 61 dX8_isWord_29 (by decide) rfl (by unfold inR; omega) (fun c3 => ?_) (fun c3 => ?_)
      · skip
        refine g_iload_n C (n' := 62) 1 rfl dX8_isWord_61 rfl rfl ?_
        refine g_iret C hr hlk (nar_z (by omega)) ⟨congrArg (fun z : Int => some (Value.int (iI z))) ?_, rfl⟩ dX8_isWord_62
        exact (if_neg (fun z => by have z2 := (t_is_1 _ _ _).mp z; omega)).symm
      · skip
        exfalso
        omega
  · skip
    refine g_iconst C (n' := 15) dX8_isWord_14 rfl ?_
    refine g_goto C 19 dX8_isWord_15 (by decide) ?_
    refine g_istore_n C (n' := 20) [(2, .int (iI 1)), (0, .ref (q 99)), (1, .ref (q 24))] dX8_isWord_19 rfl rfl (by decide) rfl ?_
    refine g_iconst C (n' := 21) dX8_isWord_20 rfl ?_
    refine g_istore_n C (n' := 22) [(3, .int (iI 0)), (2, .int (iI 1)), (0, .ref (q 99)), (1, .ref (q 24))] dX8_isWord_21 rfl rfl (by decide) rfl ?_
    refine g_iload_n C (n' := 23) 0 rfl dX8_isWord_22 rfl rfl ?_
    refine g_aload_n C (n' := 24) 3 rfl dX8_isWord_23 rfl rfl ?_
    refine g_alen C (n' := 25) 12 0 rfl rfl (v := 4) rfl dX8_isWord_24 rfl ?_
    refine g_icmp_ge C (n' := 28) 61 dX8_isWord_25 (by decide) rfl (by unfold inR; omega) (by unfold inR; omega) (fun c4 => ?_) (fun c4 => ?_)
    · skip
      exfalso
      omega
    · skip
      refine g_iload_n C (n' := 29) 1 rfl dX8_isWord_28 rfl rfl ?_
      refine g_if_eq C (n' := 32) 61 dX8_isWord_29 (by decide) rfl (by unfold inR; omega) (fun c5 => ?_) (fun c5 => ?_)
      · skip
        exfalso
        omega
      · skip
        refine g_aload_n C (n' := 33) 2 rfl dX8_isWord_32 rfl rfl ?_
        refine g_get C (n' := 36) (Cn := RX8) (T := TX8) (N := 35) (ci := 6) (v := .ref (q 10)) ga_X8 0 rfl rfl 10 (by decide) kw_700 rfl rfl dX8_isWord_33 rfl ?_
        refine g_aload_n C (n' := 37) 2 rfl dX8_isWord_36 rfl rfl ?_
        refine g_get C (n' := 40) (Cn := RX8) (T := TX8) (N := 35) (ci := 6) (v := .int (iI (I 16))) ga_X8 0 rfl rfl 16 (by decide) kw_706 rfl rfl dX8_isWord_37 rfl ?_
        have h_37 := hI 16
        refine g_iload_n C (n' := 41) 0 rfl dX8_isWord_40 rfl rfl ?_
        refine g_iadd C (n' := 42) dX8_isWord_41 rfl ?_
        refine g_iald C (n' := 43) (f := (A 10)) 5 0 rfl rfl (by omega) (by omega) (by decide) rfl dX8_isWord_42 rfl ?_
        have h_42 := hA 10 (((I 16) + 0).toNat)
        refine g_aload_n C (n' := 44) 3 rfl dX8_isWord_43 rfl rfl ?_
        refine g_iload_n C (n' := 45) 0 rfl dX8_isWord_44 rfl rfl ?_
        refine g_ialdN C (n' := 46) (f := (A 24)) (j := 0) 12 0 rfl rfl (by omega) (by decide) rfl dX8_isWord_45 rfl ?_
        have h_45 := hA 24 0
        refine g_icmp_ne C (n' := 49) 53 dX8_isWord_46 (by decide) rfl (by unfold inR; omega) (by unfold inR; omega) (fun c6 => ?_) (fun c6 => ?_)
        · skip
          refine g_iconst C (n' := 54) dX8_isWord_53 rfl ?_
          refine g_istore_n C (n' := 55) [(2, .int (iI 0)), (3, .int (iI 0)), (0, .ref (q 99)), (1, .ref (q 24))] dX8_isWord_54 rfl rfl (by decide) rfl ?_
          refine g_iinc C (n' := 58) 1 [(3, .int (iI 1)), (2, .int (iI 0)), (0, .ref (q 99)), (1, .ref (q 24))] rfl dX8_isWord_55 rfl (by decide) rfl ?_
          refine g_goto C 22 dX8_isWord_58 (by decide) ?_
          refine g_iload_n C (n' := 23) 0 rfl dX8_isWord_22 rfl rfl ?_
          refine g_aload_n C (n' := 24) 3 rfl dX8_isWord_23 rfl rfl ?_
          refine g_alen C (n' := 25) 12 0 rfl rfl (v := 4) rfl dX8_isWord_24 rfl ?_
          refine g_icmp_ge C (n' := 28) 61 dX8_isWord_25 (by decide) rfl (by unfold inR; omega) (by unfold inR; omega) (fun c7 => ?_) (fun c7 => ?_)
          · skip
            exfalso
            omega
          · skip
            refine g_iload_n C (n' := 29) 1 rfl dX8_isWord_28 rfl rfl ?_
            refine g_if_eq C (n' := 32) 61 dX8_isWord_29 (by decide) rfl (by unfold inR; omega) (fun c8 => ?_) (fun c8 => ?_)
            · skip
              refine g_iload_n C (n' := 62) 1 rfl dX8_isWord_61 rfl rfl ?_
              refine g_iret C hr hlk (nar_z (by omega)) ⟨congrArg (fun z : Int => some (Value.int (iI z))) ?_, rfl⟩ dX8_isWord_62
              exact (if_neg (fun z => by have z2 := (t_is_1 _ _ _).mp z; omega)).symm
            · skip
              exfalso
              omega
        · skip
          refine g_iconst C (n' := 50) dX8_isWord_49 rfl ?_
          refine g_goto C 54 dX8_isWord_50 (by decide) ?_
          refine g_istore_n C (n' := 55) [(2, .int (iI 1)), (3, .int (iI 0)), (0, .ref (q 99)), (1, .ref (q 24))] dX8_isWord_54 rfl rfl (by decide) rfl ?_
          refine g_iinc C (n' := 58) 1 [(3, .int (iI 1)), (2, .int (iI 1)), (0, .ref (q 99)), (1, .ref (q 24))] rfl dX8_isWord_55 rfl (by decide) rfl ?_
          refine g_goto C 22 dX8_isWord_58 (by decide) ?_
          refine g_iload_n C (n' := 23) 0 rfl dX8_isWord_22 rfl rfl ?_
          refine g_aload_n C (n' := 24) 3 rfl dX8_isWord_23 rfl rfl ?_
          refine g_alen C (n' := 25) 12 0 rfl rfl (v := 4) rfl dX8_isWord_24 rfl ?_
          refine g_icmp_ge C (n' := 28) 61 dX8_isWord_25 (by decide) rfl (by unfold inR; omega) (by unfold inR; omega) (fun c9 => ?_) (fun c9 => ?_)
          · skip
            exfalso
            omega
          · skip
            refine g_iload_n C (n' := 29) 1 rfl dX8_isWord_28 rfl rfl ?_
            refine g_if_eq C (n' := 32) 61 dX8_isWord_29 (by decide) rfl (by unfold inR; omega) (fun c10 => ?_) (fun c10 => ?_)
            · skip
              exfalso
              omega
            · skip
              refine g_aload_n C (n' := 33) 2 rfl dX8_isWord_32 rfl rfl ?_
              refine g_get C (n' := 36) (Cn := RX8) (T := TX8) (N := 35) (ci := 6) (v := .ref (q 10)) ga_X8 0 rfl rfl 10 (by decide) kw_700 rfl rfl dX8_isWord_33 rfl ?_
              refine g_aload_n C (n' := 37) 2 rfl dX8_isWord_36 rfl rfl ?_
              refine g_get C (n' := 40) (Cn := RX8) (T := TX8) (N := 35) (ci := 6) (v := .int (iI (I 16))) ga_X8 0 rfl rfl 16 (by decide) kw_706 rfl rfl dX8_isWord_37 rfl ?_
              have h_37 := hI 16
              refine g_iload_n C (n' := 41) 0 rfl dX8_isWord_40 rfl rfl ?_
              refine g_iadd C (n' := 42) dX8_isWord_41 rfl ?_
              refine g_iald C (n' := 43) (f := (A 10)) 5 0 rfl rfl (by omega) (by omega) (by decide) rfl dX8_isWord_42 rfl ?_
              have h_42 := hA 10 (((I 16) + 1).toNat)
              refine g_aload_n C (n' := 44) 3 rfl dX8_isWord_43 rfl rfl ?_
              refine g_iload_n C (n' := 45) 0 rfl dX8_isWord_44 rfl rfl ?_
              refine g_ialdN C (n' := 46) (f := (A 24)) (j := 1) 12 0 rfl rfl (by omega) (by decide) rfl dX8_isWord_45 rfl ?_
              have h_45 := hA 24 1
              refine g_icmp_ne C (n' := 49) 53 dX8_isWord_46 (by decide) rfl (by unfold inR; omega) (by unfold inR; omega) (fun c11 => ?_) (fun c11 => ?_)
              · skip
                refine g_iconst C (n' := 54) dX8_isWord_53 rfl ?_
                refine g_istore_n C (n' := 55) [(2, .int (iI 0)), (3, .int (iI 1)), (0, .ref (q 99)), (1, .ref (q 24))] dX8_isWord_54 rfl rfl (by decide) rfl ?_
                refine g_iinc C (n' := 58) 1 [(3, .int (iI 2)), (2, .int (iI 0)), (0, .ref (q 99)), (1, .ref (q 24))] rfl dX8_isWord_55 rfl (by decide) rfl ?_
                refine g_goto C 22 dX8_isWord_58 (by decide) ?_
                refine g_iload_n C (n' := 23) 0 rfl dX8_isWord_22 rfl rfl ?_
                refine g_aload_n C (n' := 24) 3 rfl dX8_isWord_23 rfl rfl ?_
                refine g_alen C (n' := 25) 12 0 rfl rfl (v := 4) rfl dX8_isWord_24 rfl ?_
                refine g_icmp_ge C (n' := 28) 61 dX8_isWord_25 (by decide) rfl (by unfold inR; omega) (by unfold inR; omega) (fun c12 => ?_) (fun c12 => ?_)
                · skip
                  exfalso
                  omega
                · skip
                  refine g_iload_n C (n' := 29) 1 rfl dX8_isWord_28 rfl rfl ?_
                  refine g_if_eq C (n' := 32) 61 dX8_isWord_29 (by decide) rfl (by unfold inR; omega) (fun c13 => ?_) (fun c13 => ?_)
                  · skip
                    refine g_iload_n C (n' := 62) 1 rfl dX8_isWord_61 rfl rfl ?_
                    refine g_iret C hr hlk (nar_z (by omega)) ⟨congrArg (fun z : Int => some (Value.int (iI z))) ?_, rfl⟩ dX8_isWord_62
                    exact (if_neg (fun z => by have z2 := (t_is_1 _ _ _).mp z; omega)).symm
                  · skip
                    exfalso
                    omega
              · skip
                refine g_iconst C (n' := 50) dX8_isWord_49 rfl ?_
                refine g_goto C 54 dX8_isWord_50 (by decide) ?_
                refine g_istore_n C (n' := 55) [(2, .int (iI 1)), (3, .int (iI 1)), (0, .ref (q 99)), (1, .ref (q 24))] dX8_isWord_54 rfl rfl (by decide) rfl ?_
                refine g_iinc C (n' := 58) 1 [(3, .int (iI 2)), (2, .int (iI 1)), (0, .ref (q 99)), (1, .ref (q 24))] rfl dX8_isWord_55 rfl (by decide) rfl ?_
                refine g_goto C 22 dX8_isWord_58 (by decide) ?_
                refine g_iload_n C (n' := 23) 0 rfl dX8_isWord_22 rfl rfl ?_
                refine g_aload_n C (n' := 24) 3 rfl dX8_isWord_23 rfl rfl ?_
                refine g_alen C (n' := 25) 12 0 rfl rfl (v := 4) rfl dX8_isWord_24 rfl ?_
                refine g_icmp_ge C (n' := 28) 61 dX8_isWord_25 (by decide) rfl (by unfold inR; omega) (by unfold inR; omega) (fun c14 => ?_) (fun c14 => ?_)
                · skip
                  exfalso
                  omega
                · skip
                  refine g_iload_n C (n' := 29) 1 rfl dX8_isWord_28 rfl rfl ?_
                  refine g_if_eq C (n' := 32) 61 dX8_isWord_29 (by decide) rfl (by unfold inR; omega) (fun c15 => ?_) (fun c15 => ?_)
                  · skip
                    exfalso
                    omega
                  · skip
                    refine g_aload_n C (n' := 33) 2 rfl dX8_isWord_32 rfl rfl ?_
                    refine g_get C (n' := 36) (Cn := RX8) (T := TX8) (N := 35) (ci := 6) (v := .ref (q 10)) ga_X8 0 rfl rfl 10 (by decide) kw_700 rfl rfl dX8_isWord_33 rfl ?_
                    refine g_aload_n C (n' := 37) 2 rfl dX8_isWord_36 rfl rfl ?_
                    refine g_get C (n' := 40) (Cn := RX8) (T := TX8) (N := 35) (ci := 6) (v := .int (iI (I 16))) ga_X8 0 rfl rfl 16 (by decide) kw_706 rfl rfl dX8_isWord_37 rfl ?_
                    have h_37 := hI 16
                    refine g_iload_n C (n' := 41) 0 rfl dX8_isWord_40 rfl rfl ?_
                    refine g_iadd C (n' := 42) dX8_isWord_41 rfl ?_
                    refine g_iald C (n' := 43) (f := (A 10)) 5 0 rfl rfl (by omega) (by omega) (by decide) rfl dX8_isWord_42 rfl ?_
                    have h_42 := hA 10 (((I 16) + 2).toNat)
                    refine g_aload_n C (n' := 44) 3 rfl dX8_isWord_43 rfl rfl ?_
                    refine g_iload_n C (n' := 45) 0 rfl dX8_isWord_44 rfl rfl ?_
                    refine g_ialdN C (n' := 46) (f := (A 24)) (j := 2) 12 0 rfl rfl (by omega) (by decide) rfl dX8_isWord_45 rfl ?_
                    have h_45 := hA 24 2
                    refine g_icmp_ne C (n' := 49) 53 dX8_isWord_46 (by decide) rfl (by unfold inR; omega) (by unfold inR; omega) (fun c16 => ?_) (fun c16 => ?_)
                    · skip
                      refine g_iconst C (n' := 54) dX8_isWord_53 rfl ?_
                      refine g_istore_n C (n' := 55) [(2, .int (iI 0)), (3, .int (iI 2)), (0, .ref (q 99)), (1, .ref (q 24))] dX8_isWord_54 rfl rfl (by decide) rfl ?_
                      refine g_iinc C (n' := 58) 1 [(3, .int (iI 3)), (2, .int (iI 0)), (0, .ref (q 99)), (1, .ref (q 24))] rfl dX8_isWord_55 rfl (by decide) rfl ?_
                      refine g_goto C 22 dX8_isWord_58 (by decide) ?_
                      refine g_iload_n C (n' := 23) 0 rfl dX8_isWord_22 rfl rfl ?_
                      refine g_aload_n C (n' := 24) 3 rfl dX8_isWord_23 rfl rfl ?_
                      refine g_alen C (n' := 25) 12 0 rfl rfl (v := 4) rfl dX8_isWord_24 rfl ?_
                      refine g_icmp_ge C (n' := 28) 61 dX8_isWord_25 (by decide) rfl (by unfold inR; omega) (by unfold inR; omega) (fun c17 => ?_) (fun c17 => ?_)
                      · skip
                        exfalso
                        omega
                      · skip
                        refine g_iload_n C (n' := 29) 1 rfl dX8_isWord_28 rfl rfl ?_
                        refine g_if_eq C (n' := 32) 61 dX8_isWord_29 (by decide) rfl (by unfold inR; omega) (fun c18 => ?_) (fun c18 => ?_)
                        · skip
                          refine g_iload_n C (n' := 62) 1 rfl dX8_isWord_61 rfl rfl ?_
                          refine g_iret C hr hlk (nar_z (by omega)) ⟨congrArg (fun z : Int => some (Value.int (iI z))) ?_, rfl⟩ dX8_isWord_62
                          exact (if_neg (fun z => by have z2 := (t_is_1 _ _ _).mp z; omega)).symm
                        · skip
                          exfalso
                          omega
                    · skip
                      refine g_iconst C (n' := 50) dX8_isWord_49 rfl ?_
                      refine g_goto C 54 dX8_isWord_50 (by decide) ?_
                      refine g_istore_n C (n' := 55) [(2, .int (iI 1)), (3, .int (iI 2)), (0, .ref (q 99)), (1, .ref (q 24))] dX8_isWord_54 rfl rfl (by decide) rfl ?_
                      refine g_iinc C (n' := 58) 1 [(3, .int (iI 3)), (2, .int (iI 1)), (0, .ref (q 99)), (1, .ref (q 24))] rfl dX8_isWord_55 rfl (by decide) rfl ?_
                      refine g_goto C 22 dX8_isWord_58 (by decide) ?_
                      refine g_iload_n C (n' := 23) 0 rfl dX8_isWord_22 rfl rfl ?_
                      refine g_aload_n C (n' := 24) 3 rfl dX8_isWord_23 rfl rfl ?_
                      refine g_alen C (n' := 25) 12 0 rfl rfl (v := 4) rfl dX8_isWord_24 rfl ?_
                      refine g_icmp_ge C (n' := 28) 61 dX8_isWord_25 (by decide) rfl (by unfold inR; omega) (by unfold inR; omega) (fun c19 => ?_) (fun c19 => ?_)
                      · skip
                        exfalso
                        omega
                      · skip
                        refine g_iload_n C (n' := 29) 1 rfl dX8_isWord_28 rfl rfl ?_
                        refine g_if_eq C (n' := 32) 61 dX8_isWord_29 (by decide) rfl (by unfold inR; omega) (fun c20 => ?_) (fun c20 => ?_)
                        · skip
                          exfalso
                          omega
                        · skip
                          refine g_aload_n C (n' := 33) 2 rfl dX8_isWord_32 rfl rfl ?_
                          refine g_get C (n' := 36) (Cn := RX8) (T := TX8) (N := 35) (ci := 6) (v := .ref (q 10)) ga_X8 0 rfl rfl 10 (by decide) kw_700 rfl rfl dX8_isWord_33 rfl ?_
                          refine g_aload_n C (n' := 37) 2 rfl dX8_isWord_36 rfl rfl ?_
                          refine g_get C (n' := 40) (Cn := RX8) (T := TX8) (N := 35) (ci := 6) (v := .int (iI (I 16))) ga_X8 0 rfl rfl 16 (by decide) kw_706 rfl rfl dX8_isWord_37 rfl ?_
                          have h_37 := hI 16
                          refine g_iload_n C (n' := 41) 0 rfl dX8_isWord_40 rfl rfl ?_
                          refine g_iadd C (n' := 42) dX8_isWord_41 rfl ?_
                          refine g_iald C (n' := 43) (f := (A 10)) 5 0 rfl rfl (by omega) (by omega) (by decide) rfl dX8_isWord_42 rfl ?_
                          have h_42 := hA 10 (((I 16) + 3).toNat)
                          refine g_aload_n C (n' := 44) 3 rfl dX8_isWord_43 rfl rfl ?_
                          refine g_iload_n C (n' := 45) 0 rfl dX8_isWord_44 rfl rfl ?_
                          refine g_ialdN C (n' := 46) (f := (A 24)) (j := 3) 12 0 rfl rfl (by omega) (by decide) rfl dX8_isWord_45 rfl ?_
                          have h_45 := hA 24 3
                          refine g_icmp_ne C (n' := 49) 53 dX8_isWord_46 (by decide) rfl (by unfold inR; omega) (by unfold inR; omega) (fun c21 => ?_) (fun c21 => ?_)
                          · skip
                            refine g_iconst C (n' := 54) dX8_isWord_53 rfl ?_
                            refine g_istore_n C (n' := 55) [(2, .int (iI 0)), (3, .int (iI 3)), (0, .ref (q 99)), (1, .ref (q 24))] dX8_isWord_54 rfl rfl (by decide) rfl ?_
                            refine g_iinc C (n' := 58) 1 [(3, .int (iI 4)), (2, .int (iI 0)), (0, .ref (q 99)), (1, .ref (q 24))] rfl dX8_isWord_55 rfl (by decide) rfl ?_
                            refine g_goto C 22 dX8_isWord_58 (by decide) ?_
                            refine g_iload_n C (n' := 23) 0 rfl dX8_isWord_22 rfl rfl ?_
                            refine g_aload_n C (n' := 24) 3 rfl dX8_isWord_23 rfl rfl ?_
                            refine g_alen C (n' := 25) 12 0 rfl rfl (v := 4) rfl dX8_isWord_24 rfl ?_
                            refine g_icmp_ge C (n' := 28) 61 dX8_isWord_25 (by decide) rfl (by unfold inR; omega) (by unfold inR; omega) (fun c22 => ?_) (fun c22 => ?_)
                            · skip
                              refine g_iload_n C (n' := 62) 1 rfl dX8_isWord_61 rfl rfl ?_
                              refine g_iret C hr hlk (nar_z (by omega)) ⟨congrArg (fun z : Int => some (Value.int (iI z))) ?_, rfl⟩ dX8_isWord_62
                              exact (if_neg (fun z => by have z2 := (t_is_1 _ _ _).mp z; omega)).symm
                            · skip
                              exfalso
                              omega
                          · skip
                            refine g_iconst C (n' := 50) dX8_isWord_49 rfl ?_
                            refine g_goto C 54 dX8_isWord_50 (by decide) ?_
                            refine g_istore_n C (n' := 55) [(2, .int (iI 1)), (3, .int (iI 3)), (0, .ref (q 99)), (1, .ref (q 24))] dX8_isWord_54 rfl rfl (by decide) rfl ?_
                            refine g_iinc C (n' := 58) 1 [(3, .int (iI 4)), (2, .int (iI 1)), (0, .ref (q 99)), (1, .ref (q 24))] rfl dX8_isWord_55 rfl (by decide) rfl ?_
                            refine g_goto C 22 dX8_isWord_58 (by decide) ?_
                            refine g_iload_n C (n' := 23) 0 rfl dX8_isWord_22 rfl rfl ?_
                            refine g_aload_n C (n' := 24) 3 rfl dX8_isWord_23 rfl rfl ?_
                            refine g_alen C (n' := 25) 12 0 rfl rfl (v := 4) rfl dX8_isWord_24 rfl ?_
                            refine g_icmp_ge C (n' := 28) 61 dX8_isWord_25 (by decide) rfl (by unfold inR; omega) (by unfold inR; omega) (fun c23 => ?_) (fun c23 => ?_)
                            · skip
                              refine g_iload_n C (n' := 62) 1 rfl dX8_isWord_61 rfl rfl ?_
                              refine g_iret C hr hlk (nar_z (by omega)) ⟨congrArg (fun z : Int => some (Value.int (iI z))) ?_, rfl⟩ dX8_isWord_62
                              exact (if_pos ((t_is_1 _ _ _).mpr (by refine ⟨by omega, ?_⟩; omega))).symm
                            · skip
                              exfalso
                              omega
set_option maxRecDepth 100000 in
set_option maxHeartbeats 4000000 in
theorem c_X8_isWord_2 (l : Launch) (D : va_G) (Y : Nat → ClassId) {E : (Nat → Prop) → State → Heap → Prop} (hE : g_Stab E) (q : Nat → Nat) (I : Nat → Int) (A : Nat → Nat → Int) (F : Nat → UInt32) (Dd : Nat → UInt64) (hsI : smI I) (hsA : smA A) (hT : mtk I) (hw : mwOK A) : g_Ct l yX8_isWord cX8_isWord 4 (some FieldType.boolean) ({ frames := 0, cells := 0, slots := 0, locals := 0 } : Room) D (tysY Y) E [.ref (q 99), .ref (q 25)] (wMod q Y I A F Dd) 0 0 (g_det (some (.int (iI (if t_is (A 10) (I 16) (I 17) t_w2 = true then 1 else 0)))) (wMod q Y I A F Dd)) := by
  refine g_ofG (own := RX8) hE (by decide) rfl (Nat.le_of_ble_eq_true rfl) [(0, .ref (q 99)), (1, .ref (q 25))] rfl ?_
  intro p9 e9 s9 m9 b9 t9 c9 A9 C hr hlk hnm
  have hI := hsI
  have hA := hsA
  unfold smI at hI
  unfold smA at hA
  have hT9 := hT
  unfold mtk at hT9
  have hw9 := hw
  unfold mwOK at hw9
  obtain ⟨hw0, hw1, hw2, hw3, hw4, hw5⟩ := hw9
  refine g_aload_n C (n' := 1) 0 rfl dX8_isWord_0 rfl rfl ?_
  refine g_get C (n' := 4) (Cn := RX8) (T := TX8) (N := 35) (ci := 6) (v := .int (iI (I 17))) ga_X8 0 rfl rfl 17 (by decide) kw_707 rfl rfl dX8_isWord_1 rfl ?_
  have h_1 := hI 17
  refine g_aload_n C (n' := 5) 0 rfl dX8_isWord_4 rfl rfl ?_
  refine g_get C (n' := 8) (Cn := RX8) (T := TX8) (N := 35) (ci := 6) (v := .int (iI (I 16))) ga_X8 0 rfl rfl 16 (by decide) kw_706 rfl rfl dX8_isWord_5 rfl ?_
  have h_5 := hI 16
  refine g_isub C (n' := 9) dX8_isWord_8 rfl ?_
  refine g_aload_n C (n' := 10) 1 rfl dX8_isWord_9 rfl rfl ?_
  refine g_alen C (n' := 11) 13 0 rfl rfl (v := 5) rfl dX8_isWord_10 rfl ?_
  refine g_icmp_ne C (n' := 14) 18 dX8_isWord_11 (by decide) rfl (by unfold inR; omega) (by unfold inR; omega) (fun c1 => ?_) (fun c1 => ?_)
  · skip
    refine g_iconst C (n' := 19) dX8_isWord_18 rfl ?_
    refine g_istore_n C (n' := 20) [(2, .int (iI 0)), (0, .ref (q 99)), (1, .ref (q 25))] dX8_isWord_19 rfl rfl (by decide) rfl ?_
    refine g_iconst C (n' := 21) dX8_isWord_20 rfl ?_
    refine g_istore_n C (n' := 22) [(3, .int (iI 0)), (2, .int (iI 0)), (0, .ref (q 99)), (1, .ref (q 25))] dX8_isWord_21 rfl rfl (by decide) rfl ?_
    refine g_iload_n C (n' := 23) 0 rfl dX8_isWord_22 rfl rfl ?_
    refine g_aload_n C (n' := 24) 3 rfl dX8_isWord_23 rfl rfl ?_
    refine g_alen C (n' := 25) 13 0 rfl rfl (v := 5) rfl dX8_isWord_24 rfl ?_
    refine g_icmp_ge C (n' := 28) 61 dX8_isWord_25 (by decide) rfl (by unfold inR; omega) (by unfold inR; omega) (fun c2 => ?_) (fun c2 => ?_)
    · skip
      exfalso
      omega
    · skip
      refine g_iload_n C (n' := 29) 1 rfl dX8_isWord_28 rfl rfl ?_
      refine g_if_eq C (n' := 32) 61 dX8_isWord_29 (by decide) rfl (by unfold inR; omega) (fun c3 => ?_) (fun c3 => ?_)
      · skip
        refine g_iload_n C (n' := 62) 1 rfl dX8_isWord_61 rfl rfl ?_
        refine g_iret C hr hlk (nar_z (by omega)) ⟨congrArg (fun z : Int => some (Value.int (iI z))) ?_, rfl⟩ dX8_isWord_62
        exact (if_neg (fun z => by have z2 := (t_is_2 _ _ _).mp z; omega)).symm
      · skip
        exfalso
        omega
  · skip
    refine g_iconst C (n' := 15) dX8_isWord_14 rfl ?_
    refine g_goto C 19 dX8_isWord_15 (by decide) ?_
    refine g_istore_n C (n' := 20) [(2, .int (iI 1)), (0, .ref (q 99)), (1, .ref (q 25))] dX8_isWord_19 rfl rfl (by decide) rfl ?_
    refine g_iconst C (n' := 21) dX8_isWord_20 rfl ?_
    refine g_istore_n C (n' := 22) [(3, .int (iI 0)), (2, .int (iI 1)), (0, .ref (q 99)), (1, .ref (q 25))] dX8_isWord_21 rfl rfl (by decide) rfl ?_
    refine g_iload_n C (n' := 23) 0 rfl dX8_isWord_22 rfl rfl ?_
    refine g_aload_n C (n' := 24) 3 rfl dX8_isWord_23 rfl rfl ?_
    refine g_alen C (n' := 25) 13 0 rfl rfl (v := 5) rfl dX8_isWord_24 rfl ?_
    refine g_icmp_ge C (n' := 28) 61 dX8_isWord_25 (by decide) rfl (by unfold inR; omega) (by unfold inR; omega) (fun c4 => ?_) (fun c4 => ?_)
    · skip
      exfalso
      omega
    · skip
      refine g_iload_n C (n' := 29) 1 rfl dX8_isWord_28 rfl rfl ?_
      refine g_if_eq C (n' := 32) 61 dX8_isWord_29 (by decide) rfl (by unfold inR; omega) (fun c5 => ?_) (fun c5 => ?_)
      · skip
        exfalso
        omega
      · skip
        refine g_aload_n C (n' := 33) 2 rfl dX8_isWord_32 rfl rfl ?_
        refine g_get C (n' := 36) (Cn := RX8) (T := TX8) (N := 35) (ci := 6) (v := .ref (q 10)) ga_X8 0 rfl rfl 10 (by decide) kw_700 rfl rfl dX8_isWord_33 rfl ?_
        refine g_aload_n C (n' := 37) 2 rfl dX8_isWord_36 rfl rfl ?_
        refine g_get C (n' := 40) (Cn := RX8) (T := TX8) (N := 35) (ci := 6) (v := .int (iI (I 16))) ga_X8 0 rfl rfl 16 (by decide) kw_706 rfl rfl dX8_isWord_37 rfl ?_
        have h_37 := hI 16
        refine g_iload_n C (n' := 41) 0 rfl dX8_isWord_40 rfl rfl ?_
        refine g_iadd C (n' := 42) dX8_isWord_41 rfl ?_
        refine g_iald C (n' := 43) (f := (A 10)) 5 0 rfl rfl (by omega) (by omega) (by decide) rfl dX8_isWord_42 rfl ?_
        have h_42 := hA 10 (((I 16) + 0).toNat)
        refine g_aload_n C (n' := 44) 3 rfl dX8_isWord_43 rfl rfl ?_
        refine g_iload_n C (n' := 45) 0 rfl dX8_isWord_44 rfl rfl ?_
        refine g_ialdN C (n' := 46) (f := (A 25)) (j := 0) 13 0 rfl rfl (by omega) (by decide) rfl dX8_isWord_45 rfl ?_
        have h_45 := hA 25 0
        refine g_icmp_ne C (n' := 49) 53 dX8_isWord_46 (by decide) rfl (by unfold inR; omega) (by unfold inR; omega) (fun c6 => ?_) (fun c6 => ?_)
        · skip
          refine g_iconst C (n' := 54) dX8_isWord_53 rfl ?_
          refine g_istore_n C (n' := 55) [(2, .int (iI 0)), (3, .int (iI 0)), (0, .ref (q 99)), (1, .ref (q 25))] dX8_isWord_54 rfl rfl (by decide) rfl ?_
          refine g_iinc C (n' := 58) 1 [(3, .int (iI 1)), (2, .int (iI 0)), (0, .ref (q 99)), (1, .ref (q 25))] rfl dX8_isWord_55 rfl (by decide) rfl ?_
          refine g_goto C 22 dX8_isWord_58 (by decide) ?_
          refine g_iload_n C (n' := 23) 0 rfl dX8_isWord_22 rfl rfl ?_
          refine g_aload_n C (n' := 24) 3 rfl dX8_isWord_23 rfl rfl ?_
          refine g_alen C (n' := 25) 13 0 rfl rfl (v := 5) rfl dX8_isWord_24 rfl ?_
          refine g_icmp_ge C (n' := 28) 61 dX8_isWord_25 (by decide) rfl (by unfold inR; omega) (by unfold inR; omega) (fun c7 => ?_) (fun c7 => ?_)
          · skip
            exfalso
            omega
          · skip
            refine g_iload_n C (n' := 29) 1 rfl dX8_isWord_28 rfl rfl ?_
            refine g_if_eq C (n' := 32) 61 dX8_isWord_29 (by decide) rfl (by unfold inR; omega) (fun c8 => ?_) (fun c8 => ?_)
            · skip
              refine g_iload_n C (n' := 62) 1 rfl dX8_isWord_61 rfl rfl ?_
              refine g_iret C hr hlk (nar_z (by omega)) ⟨congrArg (fun z : Int => some (Value.int (iI z))) ?_, rfl⟩ dX8_isWord_62
              exact (if_neg (fun z => by have z2 := (t_is_2 _ _ _).mp z; omega)).symm
            · skip
              exfalso
              omega
        · skip
          refine g_iconst C (n' := 50) dX8_isWord_49 rfl ?_
          refine g_goto C 54 dX8_isWord_50 (by decide) ?_
          refine g_istore_n C (n' := 55) [(2, .int (iI 1)), (3, .int (iI 0)), (0, .ref (q 99)), (1, .ref (q 25))] dX8_isWord_54 rfl rfl (by decide) rfl ?_
          refine g_iinc C (n' := 58) 1 [(3, .int (iI 1)), (2, .int (iI 1)), (0, .ref (q 99)), (1, .ref (q 25))] rfl dX8_isWord_55 rfl (by decide) rfl ?_
          refine g_goto C 22 dX8_isWord_58 (by decide) ?_
          refine g_iload_n C (n' := 23) 0 rfl dX8_isWord_22 rfl rfl ?_
          refine g_aload_n C (n' := 24) 3 rfl dX8_isWord_23 rfl rfl ?_
          refine g_alen C (n' := 25) 13 0 rfl rfl (v := 5) rfl dX8_isWord_24 rfl ?_
          refine g_icmp_ge C (n' := 28) 61 dX8_isWord_25 (by decide) rfl (by unfold inR; omega) (by unfold inR; omega) (fun c9 => ?_) (fun c9 => ?_)
          · skip
            exfalso
            omega
          · skip
            refine g_iload_n C (n' := 29) 1 rfl dX8_isWord_28 rfl rfl ?_
            refine g_if_eq C (n' := 32) 61 dX8_isWord_29 (by decide) rfl (by unfold inR; omega) (fun c10 => ?_) (fun c10 => ?_)
            · skip
              exfalso
              omega
            · skip
              refine g_aload_n C (n' := 33) 2 rfl dX8_isWord_32 rfl rfl ?_
              refine g_get C (n' := 36) (Cn := RX8) (T := TX8) (N := 35) (ci := 6) (v := .ref (q 10)) ga_X8 0 rfl rfl 10 (by decide) kw_700 rfl rfl dX8_isWord_33 rfl ?_
              refine g_aload_n C (n' := 37) 2 rfl dX8_isWord_36 rfl rfl ?_
              refine g_get C (n' := 40) (Cn := RX8) (T := TX8) (N := 35) (ci := 6) (v := .int (iI (I 16))) ga_X8 0 rfl rfl 16 (by decide) kw_706 rfl rfl dX8_isWord_37 rfl ?_
              have h_37 := hI 16
              refine g_iload_n C (n' := 41) 0 rfl dX8_isWord_40 rfl rfl ?_
              refine g_iadd C (n' := 42) dX8_isWord_41 rfl ?_
              refine g_iald C (n' := 43) (f := (A 10)) 5 0 rfl rfl (by omega) (by omega) (by decide) rfl dX8_isWord_42 rfl ?_
              have h_42 := hA 10 (((I 16) + 1).toNat)
              refine g_aload_n C (n' := 44) 3 rfl dX8_isWord_43 rfl rfl ?_
              refine g_iload_n C (n' := 45) 0 rfl dX8_isWord_44 rfl rfl ?_
              refine g_ialdN C (n' := 46) (f := (A 25)) (j := 1) 13 0 rfl rfl (by omega) (by decide) rfl dX8_isWord_45 rfl ?_
              have h_45 := hA 25 1
              refine g_icmp_ne C (n' := 49) 53 dX8_isWord_46 (by decide) rfl (by unfold inR; omega) (by unfold inR; omega) (fun c11 => ?_) (fun c11 => ?_)
              · skip
                refine g_iconst C (n' := 54) dX8_isWord_53 rfl ?_
                refine g_istore_n C (n' := 55) [(2, .int (iI 0)), (3, .int (iI 1)), (0, .ref (q 99)), (1, .ref (q 25))] dX8_isWord_54 rfl rfl (by decide) rfl ?_
                refine g_iinc C (n' := 58) 1 [(3, .int (iI 2)), (2, .int (iI 0)), (0, .ref (q 99)), (1, .ref (q 25))] rfl dX8_isWord_55 rfl (by decide) rfl ?_
                refine g_goto C 22 dX8_isWord_58 (by decide) ?_
                refine g_iload_n C (n' := 23) 0 rfl dX8_isWord_22 rfl rfl ?_
                refine g_aload_n C (n' := 24) 3 rfl dX8_isWord_23 rfl rfl ?_
                refine g_alen C (n' := 25) 13 0 rfl rfl (v := 5) rfl dX8_isWord_24 rfl ?_
                refine g_icmp_ge C (n' := 28) 61 dX8_isWord_25 (by decide) rfl (by unfold inR; omega) (by unfold inR; omega) (fun c12 => ?_) (fun c12 => ?_)
                · skip
                  exfalso
                  omega
                · skip
                  refine g_iload_n C (n' := 29) 1 rfl dX8_isWord_28 rfl rfl ?_
                  refine g_if_eq C (n' := 32) 61 dX8_isWord_29 (by decide) rfl (by unfold inR; omega) (fun c13 => ?_) (fun c13 => ?_)
                  · skip
                    refine g_iload_n C (n' := 62) 1 rfl dX8_isWord_61 rfl rfl ?_
                    refine g_iret C hr hlk (nar_z (by omega)) ⟨congrArg (fun z : Int => some (Value.int (iI z))) ?_, rfl⟩ dX8_isWord_62
                    exact (if_neg (fun z => by have z2 := (t_is_2 _ _ _).mp z; omega)).symm
                  · skip
                    exfalso
                    omega
              · skip
                refine g_iconst C (n' := 50) dX8_isWord_49 rfl ?_
                refine g_goto C 54 dX8_isWord_50 (by decide) ?_
                refine g_istore_n C (n' := 55) [(2, .int (iI 1)), (3, .int (iI 1)), (0, .ref (q 99)), (1, .ref (q 25))] dX8_isWord_54 rfl rfl (by decide) rfl ?_
                refine g_iinc C (n' := 58) 1 [(3, .int (iI 2)), (2, .int (iI 1)), (0, .ref (q 99)), (1, .ref (q 25))] rfl dX8_isWord_55 rfl (by decide) rfl ?_
                refine g_goto C 22 dX8_isWord_58 (by decide) ?_
                refine g_iload_n C (n' := 23) 0 rfl dX8_isWord_22 rfl rfl ?_
                refine g_aload_n C (n' := 24) 3 rfl dX8_isWord_23 rfl rfl ?_
                refine g_alen C (n' := 25) 13 0 rfl rfl (v := 5) rfl dX8_isWord_24 rfl ?_
                refine g_icmp_ge C (n' := 28) 61 dX8_isWord_25 (by decide) rfl (by unfold inR; omega) (by unfold inR; omega) (fun c14 => ?_) (fun c14 => ?_)
                · skip
                  exfalso
                  omega
                · skip
                  refine g_iload_n C (n' := 29) 1 rfl dX8_isWord_28 rfl rfl ?_
                  refine g_if_eq C (n' := 32) 61 dX8_isWord_29 (by decide) rfl (by unfold inR; omega) (fun c15 => ?_) (fun c15 => ?_)
                  · skip
                    exfalso
                    omega
                  · skip
                    refine g_aload_n C (n' := 33) 2 rfl dX8_isWord_32 rfl rfl ?_
                    refine g_get C (n' := 36) (Cn := RX8) (T := TX8) (N := 35) (ci := 6) (v := .ref (q 10)) ga_X8 0 rfl rfl 10 (by decide) kw_700 rfl rfl dX8_isWord_33 rfl ?_
                    refine g_aload_n C (n' := 37) 2 rfl dX8_isWord_36 rfl rfl ?_
                    refine g_get C (n' := 40) (Cn := RX8) (T := TX8) (N := 35) (ci := 6) (v := .int (iI (I 16))) ga_X8 0 rfl rfl 16 (by decide) kw_706 rfl rfl dX8_isWord_37 rfl ?_
                    have h_37 := hI 16
                    refine g_iload_n C (n' := 41) 0 rfl dX8_isWord_40 rfl rfl ?_
                    refine g_iadd C (n' := 42) dX8_isWord_41 rfl ?_
                    refine g_iald C (n' := 43) (f := (A 10)) 5 0 rfl rfl (by omega) (by omega) (by decide) rfl dX8_isWord_42 rfl ?_
                    have h_42 := hA 10 (((I 16) + 2).toNat)
                    refine g_aload_n C (n' := 44) 3 rfl dX8_isWord_43 rfl rfl ?_
                    refine g_iload_n C (n' := 45) 0 rfl dX8_isWord_44 rfl rfl ?_
                    refine g_ialdN C (n' := 46) (f := (A 25)) (j := 2) 13 0 rfl rfl (by omega) (by decide) rfl dX8_isWord_45 rfl ?_
                    have h_45 := hA 25 2
                    refine g_icmp_ne C (n' := 49) 53 dX8_isWord_46 (by decide) rfl (by unfold inR; omega) (by unfold inR; omega) (fun c16 => ?_) (fun c16 => ?_)
                    · skip
                      refine g_iconst C (n' := 54) dX8_isWord_53 rfl ?_
                      refine g_istore_n C (n' := 55) [(2, .int (iI 0)), (3, .int (iI 2)), (0, .ref (q 99)), (1, .ref (q 25))] dX8_isWord_54 rfl rfl (by decide) rfl ?_
                      refine g_iinc C (n' := 58) 1 [(3, .int (iI 3)), (2, .int (iI 0)), (0, .ref (q 99)), (1, .ref (q 25))] rfl dX8_isWord_55 rfl (by decide) rfl ?_
                      refine g_goto C 22 dX8_isWord_58 (by decide) ?_
                      refine g_iload_n C (n' := 23) 0 rfl dX8_isWord_22 rfl rfl ?_
                      refine g_aload_n C (n' := 24) 3 rfl dX8_isWord_23 rfl rfl ?_
                      refine g_alen C (n' := 25) 13 0 rfl rfl (v := 5) rfl dX8_isWord_24 rfl ?_
                      refine g_icmp_ge C (n' := 28) 61 dX8_isWord_25 (by decide) rfl (by unfold inR; omega) (by unfold inR; omega) (fun c17 => ?_) (fun c17 => ?_)
                      · skip
                        exfalso
                        omega
                      · skip
                        refine g_iload_n C (n' := 29) 1 rfl dX8_isWord_28 rfl rfl ?_
                        refine g_if_eq C (n' := 32) 61 dX8_isWord_29 (by decide) rfl (by unfold inR; omega) (fun c18 => ?_) (fun c18 => ?_)
                        · skip
                          refine g_iload_n C (n' := 62) 1 rfl dX8_isWord_61 rfl rfl ?_
                          refine g_iret C hr hlk (nar_z (by omega)) ⟨congrArg (fun z : Int => some (Value.int (iI z))) ?_, rfl⟩ dX8_isWord_62
                          exact (if_neg (fun z => by have z2 := (t_is_2 _ _ _).mp z; omega)).symm
                        · skip
                          exfalso
                          omega
                    · skip
                      refine g_iconst C (n' := 50) dX8_isWord_49 rfl ?_
                      refine g_goto C 54 dX8_isWord_50 (by decide) ?_
                      refine g_istore_n C (n' := 55) [(2, .int (iI 1)), (3, .int (iI 2)), (0, .ref (q 99)), (1, .ref (q 25))] dX8_isWord_54 rfl rfl (by decide) rfl ?_
                      refine g_iinc C (n' := 58) 1 [(3, .int (iI 3)), (2, .int (iI 1)), (0, .ref (q 99)), (1, .ref (q 25))] rfl dX8_isWord_55 rfl (by decide) rfl ?_
                      refine g_goto C 22 dX8_isWord_58 (by decide) ?_
                      refine g_iload_n C (n' := 23) 0 rfl dX8_isWord_22 rfl rfl ?_
                      refine g_aload_n C (n' := 24) 3 rfl dX8_isWord_23 rfl rfl ?_
                      refine g_alen C (n' := 25) 13 0 rfl rfl (v := 5) rfl dX8_isWord_24 rfl ?_
                      refine g_icmp_ge C (n' := 28) 61 dX8_isWord_25 (by decide) rfl (by unfold inR; omega) (by unfold inR; omega) (fun c19 => ?_) (fun c19 => ?_)
                      · skip
                        exfalso
                        omega
                      · skip
                        refine g_iload_n C (n' := 29) 1 rfl dX8_isWord_28 rfl rfl ?_
                        refine g_if_eq C (n' := 32) 61 dX8_isWord_29 (by decide) rfl (by unfold inR; omega) (fun c20 => ?_) (fun c20 => ?_)
                        · skip
                          exfalso
                          omega
                        · skip
                          refine g_aload_n C (n' := 33) 2 rfl dX8_isWord_32 rfl rfl ?_
                          refine g_get C (n' := 36) (Cn := RX8) (T := TX8) (N := 35) (ci := 6) (v := .ref (q 10)) ga_X8 0 rfl rfl 10 (by decide) kw_700 rfl rfl dX8_isWord_33 rfl ?_
                          refine g_aload_n C (n' := 37) 2 rfl dX8_isWord_36 rfl rfl ?_
                          refine g_get C (n' := 40) (Cn := RX8) (T := TX8) (N := 35) (ci := 6) (v := .int (iI (I 16))) ga_X8 0 rfl rfl 16 (by decide) kw_706 rfl rfl dX8_isWord_37 rfl ?_
                          have h_37 := hI 16
                          refine g_iload_n C (n' := 41) 0 rfl dX8_isWord_40 rfl rfl ?_
                          refine g_iadd C (n' := 42) dX8_isWord_41 rfl ?_
                          refine g_iald C (n' := 43) (f := (A 10)) 5 0 rfl rfl (by omega) (by omega) (by decide) rfl dX8_isWord_42 rfl ?_
                          have h_42 := hA 10 (((I 16) + 3).toNat)
                          refine g_aload_n C (n' := 44) 3 rfl dX8_isWord_43 rfl rfl ?_
                          refine g_iload_n C (n' := 45) 0 rfl dX8_isWord_44 rfl rfl ?_
                          refine g_ialdN C (n' := 46) (f := (A 25)) (j := 3) 13 0 rfl rfl (by omega) (by decide) rfl dX8_isWord_45 rfl ?_
                          have h_45 := hA 25 3
                          refine g_icmp_ne C (n' := 49) 53 dX8_isWord_46 (by decide) rfl (by unfold inR; omega) (by unfold inR; omega) (fun c21 => ?_) (fun c21 => ?_)
                          · skip
                            refine g_iconst C (n' := 54) dX8_isWord_53 rfl ?_
                            refine g_istore_n C (n' := 55) [(2, .int (iI 0)), (3, .int (iI 3)), (0, .ref (q 99)), (1, .ref (q 25))] dX8_isWord_54 rfl rfl (by decide) rfl ?_
                            refine g_iinc C (n' := 58) 1 [(3, .int (iI 4)), (2, .int (iI 0)), (0, .ref (q 99)), (1, .ref (q 25))] rfl dX8_isWord_55 rfl (by decide) rfl ?_
                            refine g_goto C 22 dX8_isWord_58 (by decide) ?_
                            refine g_iload_n C (n' := 23) 0 rfl dX8_isWord_22 rfl rfl ?_
                            refine g_aload_n C (n' := 24) 3 rfl dX8_isWord_23 rfl rfl ?_
                            refine g_alen C (n' := 25) 13 0 rfl rfl (v := 5) rfl dX8_isWord_24 rfl ?_
                            refine g_icmp_ge C (n' := 28) 61 dX8_isWord_25 (by decide) rfl (by unfold inR; omega) (by unfold inR; omega) (fun c22 => ?_) (fun c22 => ?_)
                            · skip
                              exfalso
                              omega
                            · skip
                              refine g_iload_n C (n' := 29) 1 rfl dX8_isWord_28 rfl rfl ?_
                              refine g_if_eq C (n' := 32) 61 dX8_isWord_29 (by decide) rfl (by unfold inR; omega) (fun c23 => ?_) (fun c23 => ?_)
                              · skip
                                refine g_iload_n C (n' := 62) 1 rfl dX8_isWord_61 rfl rfl ?_
                                refine g_iret C hr hlk (nar_z (by omega)) ⟨congrArg (fun z : Int => some (Value.int (iI z))) ?_, rfl⟩ dX8_isWord_62
                                exact (if_neg (fun z => by have z2 := (t_is_2 _ _ _).mp z; omega)).symm
                              · skip
                                exfalso
                                omega
                          · skip
                            refine g_iconst C (n' := 50) dX8_isWord_49 rfl ?_
                            refine g_goto C 54 dX8_isWord_50 (by decide) ?_
                            refine g_istore_n C (n' := 55) [(2, .int (iI 1)), (3, .int (iI 3)), (0, .ref (q 99)), (1, .ref (q 25))] dX8_isWord_54 rfl rfl (by decide) rfl ?_
                            refine g_iinc C (n' := 58) 1 [(3, .int (iI 4)), (2, .int (iI 1)), (0, .ref (q 99)), (1, .ref (q 25))] rfl dX8_isWord_55 rfl (by decide) rfl ?_
                            refine g_goto C 22 dX8_isWord_58 (by decide) ?_
                            refine g_iload_n C (n' := 23) 0 rfl dX8_isWord_22 rfl rfl ?_
                            refine g_aload_n C (n' := 24) 3 rfl dX8_isWord_23 rfl rfl ?_
                            refine g_alen C (n' := 25) 13 0 rfl rfl (v := 5) rfl dX8_isWord_24 rfl ?_
                            refine g_icmp_ge C (n' := 28) 61 dX8_isWord_25 (by decide) rfl (by unfold inR; omega) (by unfold inR; omega) (fun c24 => ?_) (fun c24 => ?_)
                            · skip
                              exfalso
                              omega
                            · skip
                              refine g_iload_n C (n' := 29) 1 rfl dX8_isWord_28 rfl rfl ?_
                              refine g_if_eq C (n' := 32) 61 dX8_isWord_29 (by decide) rfl (by unfold inR; omega) (fun c25 => ?_) (fun c25 => ?_)
                              · skip
                                exfalso
                                omega
                              · skip
                                refine g_aload_n C (n' := 33) 2 rfl dX8_isWord_32 rfl rfl ?_
                                refine g_get C (n' := 36) (Cn := RX8) (T := TX8) (N := 35) (ci := 6) (v := .ref (q 10)) ga_X8 0 rfl rfl 10 (by decide) kw_700 rfl rfl dX8_isWord_33 rfl ?_
                                refine g_aload_n C (n' := 37) 2 rfl dX8_isWord_36 rfl rfl ?_
                                refine g_get C (n' := 40) (Cn := RX8) (T := TX8) (N := 35) (ci := 6) (v := .int (iI (I 16))) ga_X8 0 rfl rfl 16 (by decide) kw_706 rfl rfl dX8_isWord_37 rfl ?_
                                have h_37 := hI 16
                                refine g_iload_n C (n' := 41) 0 rfl dX8_isWord_40 rfl rfl ?_
                                refine g_iadd C (n' := 42) dX8_isWord_41 rfl ?_
                                refine g_iald C (n' := 43) (f := (A 10)) 5 0 rfl rfl (by omega) (by omega) (by decide) rfl dX8_isWord_42 rfl ?_
                                have h_42 := hA 10 (((I 16) + 4).toNat)
                                refine g_aload_n C (n' := 44) 3 rfl dX8_isWord_43 rfl rfl ?_
                                refine g_iload_n C (n' := 45) 0 rfl dX8_isWord_44 rfl rfl ?_
                                refine g_ialdN C (n' := 46) (f := (A 25)) (j := 4) 13 0 rfl rfl (by omega) (by decide) rfl dX8_isWord_45 rfl ?_
                                have h_45 := hA 25 4
                                refine g_icmp_ne C (n' := 49) 53 dX8_isWord_46 (by decide) rfl (by unfold inR; omega) (by unfold inR; omega) (fun c26 => ?_) (fun c26 => ?_)
                                · skip
                                  refine g_iconst C (n' := 54) dX8_isWord_53 rfl ?_
                                  refine g_istore_n C (n' := 55) [(2, .int (iI 0)), (3, .int (iI 4)), (0, .ref (q 99)), (1, .ref (q 25))] dX8_isWord_54 rfl rfl (by decide) rfl ?_
                                  refine g_iinc C (n' := 58) 1 [(3, .int (iI 5)), (2, .int (iI 0)), (0, .ref (q 99)), (1, .ref (q 25))] rfl dX8_isWord_55 rfl (by decide) rfl ?_
                                  refine g_goto C 22 dX8_isWord_58 (by decide) ?_
                                  refine g_iload_n C (n' := 23) 0 rfl dX8_isWord_22 rfl rfl ?_
                                  refine g_aload_n C (n' := 24) 3 rfl dX8_isWord_23 rfl rfl ?_
                                  refine g_alen C (n' := 25) 13 0 rfl rfl (v := 5) rfl dX8_isWord_24 rfl ?_
                                  refine g_icmp_ge C (n' := 28) 61 dX8_isWord_25 (by decide) rfl (by unfold inR; omega) (by unfold inR; omega) (fun c27 => ?_) (fun c27 => ?_)
                                  · skip
                                    refine g_iload_n C (n' := 62) 1 rfl dX8_isWord_61 rfl rfl ?_
                                    refine g_iret C hr hlk (nar_z (by omega)) ⟨congrArg (fun z : Int => some (Value.int (iI z))) ?_, rfl⟩ dX8_isWord_62
                                    exact (if_neg (fun z => by have z2 := (t_is_2 _ _ _).mp z; omega)).symm
                                  · skip
                                    exfalso
                                    omega
                                · skip
                                  refine g_iconst C (n' := 50) dX8_isWord_49 rfl ?_
                                  refine g_goto C 54 dX8_isWord_50 (by decide) ?_
                                  refine g_istore_n C (n' := 55) [(2, .int (iI 1)), (3, .int (iI 4)), (0, .ref (q 99)), (1, .ref (q 25))] dX8_isWord_54 rfl rfl (by decide) rfl ?_
                                  refine g_iinc C (n' := 58) 1 [(3, .int (iI 5)), (2, .int (iI 1)), (0, .ref (q 99)), (1, .ref (q 25))] rfl dX8_isWord_55 rfl (by decide) rfl ?_
                                  refine g_goto C 22 dX8_isWord_58 (by decide) ?_
                                  refine g_iload_n C (n' := 23) 0 rfl dX8_isWord_22 rfl rfl ?_
                                  refine g_aload_n C (n' := 24) 3 rfl dX8_isWord_23 rfl rfl ?_
                                  refine g_alen C (n' := 25) 13 0 rfl rfl (v := 5) rfl dX8_isWord_24 rfl ?_
                                  refine g_icmp_ge C (n' := 28) 61 dX8_isWord_25 (by decide) rfl (by unfold inR; omega) (by unfold inR; omega) (fun c28 => ?_) (fun c28 => ?_)
                                  · skip
                                    refine g_iload_n C (n' := 62) 1 rfl dX8_isWord_61 rfl rfl ?_
                                    refine g_iret C hr hlk (nar_z (by omega)) ⟨congrArg (fun z : Int => some (Value.int (iI z))) ?_, rfl⟩ dX8_isWord_62
                                    exact (if_pos ((t_is_2 _ _ _).mpr (by refine ⟨by omega, ?_⟩; omega))).symm
                                  · skip
                                    exfalso
                                    omega
set_option maxRecDepth 100000 in
set_option maxHeartbeats 4000000 in
theorem c_X8_isWord_3 (l : Launch) (D : va_G) (Y : Nat → ClassId) {E : (Nat → Prop) → State → Heap → Prop} (hE : g_Stab E) (q : Nat → Nat) (I : Nat → Int) (A : Nat → Nat → Int) (F : Nat → UInt32) (Dd : Nat → UInt64) (hsI : smI I) (hsA : smA A) (hT : mtk I) (hw : mwOK A) : g_Ct l yX8_isWord cX8_isWord 4 (some FieldType.boolean) ({ frames := 0, cells := 0, slots := 0, locals := 0 } : Room) D (tysY Y) E [.ref (q 99), .ref (q 26)] (wMod q Y I A F Dd) 0 0 (g_det (some (.int (iI (if t_is (A 10) (I 16) (I 17) t_w3 = true then 1 else 0)))) (wMod q Y I A F Dd)) := by
  refine g_ofG (own := RX8) hE (by decide) rfl (Nat.le_of_ble_eq_true rfl) [(0, .ref (q 99)), (1, .ref (q 26))] rfl ?_
  intro p9 e9 s9 m9 b9 t9 c9 A9 C hr hlk hnm
  have hI := hsI
  have hA := hsA
  unfold smI at hI
  unfold smA at hA
  have hT9 := hT
  unfold mtk at hT9
  have hw9 := hw
  unfold mwOK at hw9
  obtain ⟨hw0, hw1, hw2, hw3, hw4, hw5⟩ := hw9
  refine g_aload_n C (n' := 1) 0 rfl dX8_isWord_0 rfl rfl ?_
  refine g_get C (n' := 4) (Cn := RX8) (T := TX8) (N := 35) (ci := 6) (v := .int (iI (I 17))) ga_X8 0 rfl rfl 17 (by decide) kw_707 rfl rfl dX8_isWord_1 rfl ?_
  have h_1 := hI 17
  refine g_aload_n C (n' := 5) 0 rfl dX8_isWord_4 rfl rfl ?_
  refine g_get C (n' := 8) (Cn := RX8) (T := TX8) (N := 35) (ci := 6) (v := .int (iI (I 16))) ga_X8 0 rfl rfl 16 (by decide) kw_706 rfl rfl dX8_isWord_5 rfl ?_
  have h_5 := hI 16
  refine g_isub C (n' := 9) dX8_isWord_8 rfl ?_
  refine g_aload_n C (n' := 10) 1 rfl dX8_isWord_9 rfl rfl ?_
  refine g_alen C (n' := 11) 14 0 rfl rfl (v := 4) rfl dX8_isWord_10 rfl ?_
  refine g_icmp_ne C (n' := 14) 18 dX8_isWord_11 (by decide) rfl (by unfold inR; omega) (by unfold inR; omega) (fun c1 => ?_) (fun c1 => ?_)
  · skip
    refine g_iconst C (n' := 19) dX8_isWord_18 rfl ?_
    refine g_istore_n C (n' := 20) [(2, .int (iI 0)), (0, .ref (q 99)), (1, .ref (q 26))] dX8_isWord_19 rfl rfl (by decide) rfl ?_
    refine g_iconst C (n' := 21) dX8_isWord_20 rfl ?_
    refine g_istore_n C (n' := 22) [(3, .int (iI 0)), (2, .int (iI 0)), (0, .ref (q 99)), (1, .ref (q 26))] dX8_isWord_21 rfl rfl (by decide) rfl ?_
    refine g_iload_n C (n' := 23) 0 rfl dX8_isWord_22 rfl rfl ?_
    refine g_aload_n C (n' := 24) 3 rfl dX8_isWord_23 rfl rfl ?_
    refine g_alen C (n' := 25) 14 0 rfl rfl (v := 4) rfl dX8_isWord_24 rfl ?_
    refine g_icmp_ge C (n' := 28) 61 dX8_isWord_25 (by decide) rfl (by unfold inR; omega) (by unfold inR; omega) (fun c2 => ?_) (fun c2 => ?_)
    · skip
      exfalso
      omega
    · skip
      refine g_iload_n C (n' := 29) 1 rfl dX8_isWord_28 rfl rfl ?_
      refine g_if_eq C (n' := 32) 61 dX8_isWord_29 (by decide) rfl (by unfold inR; omega) (fun c3 => ?_) (fun c3 => ?_)
      · skip
        refine g_iload_n C (n' := 62) 1 rfl dX8_isWord_61 rfl rfl ?_
        refine g_iret C hr hlk (nar_z (by omega)) ⟨congrArg (fun z : Int => some (Value.int (iI z))) ?_, rfl⟩ dX8_isWord_62
        exact (if_neg (fun z => by have z2 := (t_is_3 _ _ _).mp z; omega)).symm
      · skip
        exfalso
        omega
  · skip
    refine g_iconst C (n' := 15) dX8_isWord_14 rfl ?_
    refine g_goto C 19 dX8_isWord_15 (by decide) ?_
    refine g_istore_n C (n' := 20) [(2, .int (iI 1)), (0, .ref (q 99)), (1, .ref (q 26))] dX8_isWord_19 rfl rfl (by decide) rfl ?_
    refine g_iconst C (n' := 21) dX8_isWord_20 rfl ?_
    refine g_istore_n C (n' := 22) [(3, .int (iI 0)), (2, .int (iI 1)), (0, .ref (q 99)), (1, .ref (q 26))] dX8_isWord_21 rfl rfl (by decide) rfl ?_
    refine g_iload_n C (n' := 23) 0 rfl dX8_isWord_22 rfl rfl ?_
    refine g_aload_n C (n' := 24) 3 rfl dX8_isWord_23 rfl rfl ?_
    refine g_alen C (n' := 25) 14 0 rfl rfl (v := 4) rfl dX8_isWord_24 rfl ?_
    refine g_icmp_ge C (n' := 28) 61 dX8_isWord_25 (by decide) rfl (by unfold inR; omega) (by unfold inR; omega) (fun c4 => ?_) (fun c4 => ?_)
    · skip
      exfalso
      omega
    · skip
      refine g_iload_n C (n' := 29) 1 rfl dX8_isWord_28 rfl rfl ?_
      refine g_if_eq C (n' := 32) 61 dX8_isWord_29 (by decide) rfl (by unfold inR; omega) (fun c5 => ?_) (fun c5 => ?_)
      · skip
        exfalso
        omega
      · skip
        refine g_aload_n C (n' := 33) 2 rfl dX8_isWord_32 rfl rfl ?_
        refine g_get C (n' := 36) (Cn := RX8) (T := TX8) (N := 35) (ci := 6) (v := .ref (q 10)) ga_X8 0 rfl rfl 10 (by decide) kw_700 rfl rfl dX8_isWord_33 rfl ?_
        refine g_aload_n C (n' := 37) 2 rfl dX8_isWord_36 rfl rfl ?_
        refine g_get C (n' := 40) (Cn := RX8) (T := TX8) (N := 35) (ci := 6) (v := .int (iI (I 16))) ga_X8 0 rfl rfl 16 (by decide) kw_706 rfl rfl dX8_isWord_37 rfl ?_
        have h_37 := hI 16
        refine g_iload_n C (n' := 41) 0 rfl dX8_isWord_40 rfl rfl ?_
        refine g_iadd C (n' := 42) dX8_isWord_41 rfl ?_
        refine g_iald C (n' := 43) (f := (A 10)) 5 0 rfl rfl (by omega) (by omega) (by decide) rfl dX8_isWord_42 rfl ?_
        have h_42 := hA 10 (((I 16) + 0).toNat)
        refine g_aload_n C (n' := 44) 3 rfl dX8_isWord_43 rfl rfl ?_
        refine g_iload_n C (n' := 45) 0 rfl dX8_isWord_44 rfl rfl ?_
        refine g_ialdN C (n' := 46) (f := (A 26)) (j := 0) 14 0 rfl rfl (by omega) (by decide) rfl dX8_isWord_45 rfl ?_
        have h_45 := hA 26 0
        refine g_icmp_ne C (n' := 49) 53 dX8_isWord_46 (by decide) rfl (by unfold inR; omega) (by unfold inR; omega) (fun c6 => ?_) (fun c6 => ?_)
        · skip
          refine g_iconst C (n' := 54) dX8_isWord_53 rfl ?_
          refine g_istore_n C (n' := 55) [(2, .int (iI 0)), (3, .int (iI 0)), (0, .ref (q 99)), (1, .ref (q 26))] dX8_isWord_54 rfl rfl (by decide) rfl ?_
          refine g_iinc C (n' := 58) 1 [(3, .int (iI 1)), (2, .int (iI 0)), (0, .ref (q 99)), (1, .ref (q 26))] rfl dX8_isWord_55 rfl (by decide) rfl ?_
          refine g_goto C 22 dX8_isWord_58 (by decide) ?_
          refine g_iload_n C (n' := 23) 0 rfl dX8_isWord_22 rfl rfl ?_
          refine g_aload_n C (n' := 24) 3 rfl dX8_isWord_23 rfl rfl ?_
          refine g_alen C (n' := 25) 14 0 rfl rfl (v := 4) rfl dX8_isWord_24 rfl ?_
          refine g_icmp_ge C (n' := 28) 61 dX8_isWord_25 (by decide) rfl (by unfold inR; omega) (by unfold inR; omega) (fun c7 => ?_) (fun c7 => ?_)
          · skip
            exfalso
            omega
          · skip
            refine g_iload_n C (n' := 29) 1 rfl dX8_isWord_28 rfl rfl ?_
            refine g_if_eq C (n' := 32) 61 dX8_isWord_29 (by decide) rfl (by unfold inR; omega) (fun c8 => ?_) (fun c8 => ?_)
            · skip
              refine g_iload_n C (n' := 62) 1 rfl dX8_isWord_61 rfl rfl ?_
              refine g_iret C hr hlk (nar_z (by omega)) ⟨congrArg (fun z : Int => some (Value.int (iI z))) ?_, rfl⟩ dX8_isWord_62
              exact (if_neg (fun z => by have z2 := (t_is_3 _ _ _).mp z; omega)).symm
            · skip
              exfalso
              omega
        · skip
          refine g_iconst C (n' := 50) dX8_isWord_49 rfl ?_
          refine g_goto C 54 dX8_isWord_50 (by decide) ?_
          refine g_istore_n C (n' := 55) [(2, .int (iI 1)), (3, .int (iI 0)), (0, .ref (q 99)), (1, .ref (q 26))] dX8_isWord_54 rfl rfl (by decide) rfl ?_
          refine g_iinc C (n' := 58) 1 [(3, .int (iI 1)), (2, .int (iI 1)), (0, .ref (q 99)), (1, .ref (q 26))] rfl dX8_isWord_55 rfl (by decide) rfl ?_
          refine g_goto C 22 dX8_isWord_58 (by decide) ?_
          refine g_iload_n C (n' := 23) 0 rfl dX8_isWord_22 rfl rfl ?_
          refine g_aload_n C (n' := 24) 3 rfl dX8_isWord_23 rfl rfl ?_
          refine g_alen C (n' := 25) 14 0 rfl rfl (v := 4) rfl dX8_isWord_24 rfl ?_
          refine g_icmp_ge C (n' := 28) 61 dX8_isWord_25 (by decide) rfl (by unfold inR; omega) (by unfold inR; omega) (fun c9 => ?_) (fun c9 => ?_)
          · skip
            exfalso
            omega
          · skip
            refine g_iload_n C (n' := 29) 1 rfl dX8_isWord_28 rfl rfl ?_
            refine g_if_eq C (n' := 32) 61 dX8_isWord_29 (by decide) rfl (by unfold inR; omega) (fun c10 => ?_) (fun c10 => ?_)
            · skip
              exfalso
              omega
            · skip
              refine g_aload_n C (n' := 33) 2 rfl dX8_isWord_32 rfl rfl ?_
              refine g_get C (n' := 36) (Cn := RX8) (T := TX8) (N := 35) (ci := 6) (v := .ref (q 10)) ga_X8 0 rfl rfl 10 (by decide) kw_700 rfl rfl dX8_isWord_33 rfl ?_
              refine g_aload_n C (n' := 37) 2 rfl dX8_isWord_36 rfl rfl ?_
              refine g_get C (n' := 40) (Cn := RX8) (T := TX8) (N := 35) (ci := 6) (v := .int (iI (I 16))) ga_X8 0 rfl rfl 16 (by decide) kw_706 rfl rfl dX8_isWord_37 rfl ?_
              have h_37 := hI 16
              refine g_iload_n C (n' := 41) 0 rfl dX8_isWord_40 rfl rfl ?_
              refine g_iadd C (n' := 42) dX8_isWord_41 rfl ?_
              refine g_iald C (n' := 43) (f := (A 10)) 5 0 rfl rfl (by omega) (by omega) (by decide) rfl dX8_isWord_42 rfl ?_
              have h_42 := hA 10 (((I 16) + 1).toNat)
              refine g_aload_n C (n' := 44) 3 rfl dX8_isWord_43 rfl rfl ?_
              refine g_iload_n C (n' := 45) 0 rfl dX8_isWord_44 rfl rfl ?_
              refine g_ialdN C (n' := 46) (f := (A 26)) (j := 1) 14 0 rfl rfl (by omega) (by decide) rfl dX8_isWord_45 rfl ?_
              have h_45 := hA 26 1
              refine g_icmp_ne C (n' := 49) 53 dX8_isWord_46 (by decide) rfl (by unfold inR; omega) (by unfold inR; omega) (fun c11 => ?_) (fun c11 => ?_)
              · skip
                refine g_iconst C (n' := 54) dX8_isWord_53 rfl ?_
                refine g_istore_n C (n' := 55) [(2, .int (iI 0)), (3, .int (iI 1)), (0, .ref (q 99)), (1, .ref (q 26))] dX8_isWord_54 rfl rfl (by decide) rfl ?_
                refine g_iinc C (n' := 58) 1 [(3, .int (iI 2)), (2, .int (iI 0)), (0, .ref (q 99)), (1, .ref (q 26))] rfl dX8_isWord_55 rfl (by decide) rfl ?_
                refine g_goto C 22 dX8_isWord_58 (by decide) ?_
                refine g_iload_n C (n' := 23) 0 rfl dX8_isWord_22 rfl rfl ?_
                refine g_aload_n C (n' := 24) 3 rfl dX8_isWord_23 rfl rfl ?_
                refine g_alen C (n' := 25) 14 0 rfl rfl (v := 4) rfl dX8_isWord_24 rfl ?_
                refine g_icmp_ge C (n' := 28) 61 dX8_isWord_25 (by decide) rfl (by unfold inR; omega) (by unfold inR; omega) (fun c12 => ?_) (fun c12 => ?_)
                · skip
                  exfalso
                  omega
                · skip
                  refine g_iload_n C (n' := 29) 1 rfl dX8_isWord_28 rfl rfl ?_
                  refine g_if_eq C (n' := 32) 61 dX8_isWord_29 (by decide) rfl (by unfold inR; omega) (fun c13 => ?_) (fun c13 => ?_)
                  · skip
                    refine g_iload_n C (n' := 62) 1 rfl dX8_isWord_61 rfl rfl ?_
                    refine g_iret C hr hlk (nar_z (by omega)) ⟨congrArg (fun z : Int => some (Value.int (iI z))) ?_, rfl⟩ dX8_isWord_62
                    exact (if_neg (fun z => by have z2 := (t_is_3 _ _ _).mp z; omega)).symm
                  · skip
                    exfalso
                    omega
              · skip
                refine g_iconst C (n' := 50) dX8_isWord_49 rfl ?_
                refine g_goto C 54 dX8_isWord_50 (by decide) ?_
                refine g_istore_n C (n' := 55) [(2, .int (iI 1)), (3, .int (iI 1)), (0, .ref (q 99)), (1, .ref (q 26))] dX8_isWord_54 rfl rfl (by decide) rfl ?_
                refine g_iinc C (n' := 58) 1 [(3, .int (iI 2)), (2, .int (iI 1)), (0, .ref (q 99)), (1, .ref (q 26))] rfl dX8_isWord_55 rfl (by decide) rfl ?_
                refine g_goto C 22 dX8_isWord_58 (by decide) ?_
                refine g_iload_n C (n' := 23) 0 rfl dX8_isWord_22 rfl rfl ?_
                refine g_aload_n C (n' := 24) 3 rfl dX8_isWord_23 rfl rfl ?_
                refine g_alen C (n' := 25) 14 0 rfl rfl (v := 4) rfl dX8_isWord_24 rfl ?_
                refine g_icmp_ge C (n' := 28) 61 dX8_isWord_25 (by decide) rfl (by unfold inR; omega) (by unfold inR; omega) (fun c14 => ?_) (fun c14 => ?_)
                · skip
                  exfalso
                  omega
                · skip
                  refine g_iload_n C (n' := 29) 1 rfl dX8_isWord_28 rfl rfl ?_
                  refine g_if_eq C (n' := 32) 61 dX8_isWord_29 (by decide) rfl (by unfold inR; omega) (fun c15 => ?_) (fun c15 => ?_)
                  · skip
                    exfalso
                    omega
                  · skip
                    refine g_aload_n C (n' := 33) 2 rfl dX8_isWord_32 rfl rfl ?_
                    refine g_get C (n' := 36) (Cn := RX8) (T := TX8) (N := 35) (ci := 6) (v := .ref (q 10)) ga_X8 0 rfl rfl 10 (by decide) kw_700 rfl rfl dX8_isWord_33 rfl ?_
                    refine g_aload_n C (n' := 37) 2 rfl dX8_isWord_36 rfl rfl ?_
                    refine g_get C (n' := 40) (Cn := RX8) (T := TX8) (N := 35) (ci := 6) (v := .int (iI (I 16))) ga_X8 0 rfl rfl 16 (by decide) kw_706 rfl rfl dX8_isWord_37 rfl ?_
                    have h_37 := hI 16
                    refine g_iload_n C (n' := 41) 0 rfl dX8_isWord_40 rfl rfl ?_
                    refine g_iadd C (n' := 42) dX8_isWord_41 rfl ?_
                    refine g_iald C (n' := 43) (f := (A 10)) 5 0 rfl rfl (by omega) (by omega) (by decide) rfl dX8_isWord_42 rfl ?_
                    have h_42 := hA 10 (((I 16) + 2).toNat)
                    refine g_aload_n C (n' := 44) 3 rfl dX8_isWord_43 rfl rfl ?_
                    refine g_iload_n C (n' := 45) 0 rfl dX8_isWord_44 rfl rfl ?_
                    refine g_ialdN C (n' := 46) (f := (A 26)) (j := 2) 14 0 rfl rfl (by omega) (by decide) rfl dX8_isWord_45 rfl ?_
                    have h_45 := hA 26 2
                    refine g_icmp_ne C (n' := 49) 53 dX8_isWord_46 (by decide) rfl (by unfold inR; omega) (by unfold inR; omega) (fun c16 => ?_) (fun c16 => ?_)
                    · skip
                      refine g_iconst C (n' := 54) dX8_isWord_53 rfl ?_
                      refine g_istore_n C (n' := 55) [(2, .int (iI 0)), (3, .int (iI 2)), (0, .ref (q 99)), (1, .ref (q 26))] dX8_isWord_54 rfl rfl (by decide) rfl ?_
                      refine g_iinc C (n' := 58) 1 [(3, .int (iI 3)), (2, .int (iI 0)), (0, .ref (q 99)), (1, .ref (q 26))] rfl dX8_isWord_55 rfl (by decide) rfl ?_
                      refine g_goto C 22 dX8_isWord_58 (by decide) ?_
                      refine g_iload_n C (n' := 23) 0 rfl dX8_isWord_22 rfl rfl ?_
                      refine g_aload_n C (n' := 24) 3 rfl dX8_isWord_23 rfl rfl ?_
                      refine g_alen C (n' := 25) 14 0 rfl rfl (v := 4) rfl dX8_isWord_24 rfl ?_
                      refine g_icmp_ge C (n' := 28) 61 dX8_isWord_25 (by decide) rfl (by unfold inR; omega) (by unfold inR; omega) (fun c17 => ?_) (fun c17 => ?_)
                      · skip
                        exfalso
                        omega
                      · skip
                        refine g_iload_n C (n' := 29) 1 rfl dX8_isWord_28 rfl rfl ?_
                        refine g_if_eq C (n' := 32) 61 dX8_isWord_29 (by decide) rfl (by unfold inR; omega) (fun c18 => ?_) (fun c18 => ?_)
                        · skip
                          refine g_iload_n C (n' := 62) 1 rfl dX8_isWord_61 rfl rfl ?_
                          refine g_iret C hr hlk (nar_z (by omega)) ⟨congrArg (fun z : Int => some (Value.int (iI z))) ?_, rfl⟩ dX8_isWord_62
                          exact (if_neg (fun z => by have z2 := (t_is_3 _ _ _).mp z; omega)).symm
                        · skip
                          exfalso
                          omega
                    · skip
                      refine g_iconst C (n' := 50) dX8_isWord_49 rfl ?_
                      refine g_goto C 54 dX8_isWord_50 (by decide) ?_
                      refine g_istore_n C (n' := 55) [(2, .int (iI 1)), (3, .int (iI 2)), (0, .ref (q 99)), (1, .ref (q 26))] dX8_isWord_54 rfl rfl (by decide) rfl ?_
                      refine g_iinc C (n' := 58) 1 [(3, .int (iI 3)), (2, .int (iI 1)), (0, .ref (q 99)), (1, .ref (q 26))] rfl dX8_isWord_55 rfl (by decide) rfl ?_
                      refine g_goto C 22 dX8_isWord_58 (by decide) ?_
                      refine g_iload_n C (n' := 23) 0 rfl dX8_isWord_22 rfl rfl ?_
                      refine g_aload_n C (n' := 24) 3 rfl dX8_isWord_23 rfl rfl ?_
                      refine g_alen C (n' := 25) 14 0 rfl rfl (v := 4) rfl dX8_isWord_24 rfl ?_
                      refine g_icmp_ge C (n' := 28) 61 dX8_isWord_25 (by decide) rfl (by unfold inR; omega) (by unfold inR; omega) (fun c19 => ?_) (fun c19 => ?_)
                      · skip
                        exfalso
                        omega
                      · skip
                        refine g_iload_n C (n' := 29) 1 rfl dX8_isWord_28 rfl rfl ?_
                        refine g_if_eq C (n' := 32) 61 dX8_isWord_29 (by decide) rfl (by unfold inR; omega) (fun c20 => ?_) (fun c20 => ?_)
                        · skip
                          exfalso
                          omega
                        · skip
                          refine g_aload_n C (n' := 33) 2 rfl dX8_isWord_32 rfl rfl ?_
                          refine g_get C (n' := 36) (Cn := RX8) (T := TX8) (N := 35) (ci := 6) (v := .ref (q 10)) ga_X8 0 rfl rfl 10 (by decide) kw_700 rfl rfl dX8_isWord_33 rfl ?_
                          refine g_aload_n C (n' := 37) 2 rfl dX8_isWord_36 rfl rfl ?_
                          refine g_get C (n' := 40) (Cn := RX8) (T := TX8) (N := 35) (ci := 6) (v := .int (iI (I 16))) ga_X8 0 rfl rfl 16 (by decide) kw_706 rfl rfl dX8_isWord_37 rfl ?_
                          have h_37 := hI 16
                          refine g_iload_n C (n' := 41) 0 rfl dX8_isWord_40 rfl rfl ?_
                          refine g_iadd C (n' := 42) dX8_isWord_41 rfl ?_
                          refine g_iald C (n' := 43) (f := (A 10)) 5 0 rfl rfl (by omega) (by omega) (by decide) rfl dX8_isWord_42 rfl ?_
                          have h_42 := hA 10 (((I 16) + 3).toNat)
                          refine g_aload_n C (n' := 44) 3 rfl dX8_isWord_43 rfl rfl ?_
                          refine g_iload_n C (n' := 45) 0 rfl dX8_isWord_44 rfl rfl ?_
                          refine g_ialdN C (n' := 46) (f := (A 26)) (j := 3) 14 0 rfl rfl (by omega) (by decide) rfl dX8_isWord_45 rfl ?_
                          have h_45 := hA 26 3
                          refine g_icmp_ne C (n' := 49) 53 dX8_isWord_46 (by decide) rfl (by unfold inR; omega) (by unfold inR; omega) (fun c21 => ?_) (fun c21 => ?_)
                          · skip
                            refine g_iconst C (n' := 54) dX8_isWord_53 rfl ?_
                            refine g_istore_n C (n' := 55) [(2, .int (iI 0)), (3, .int (iI 3)), (0, .ref (q 99)), (1, .ref (q 26))] dX8_isWord_54 rfl rfl (by decide) rfl ?_
                            refine g_iinc C (n' := 58) 1 [(3, .int (iI 4)), (2, .int (iI 0)), (0, .ref (q 99)), (1, .ref (q 26))] rfl dX8_isWord_55 rfl (by decide) rfl ?_
                            refine g_goto C 22 dX8_isWord_58 (by decide) ?_
                            refine g_iload_n C (n' := 23) 0 rfl dX8_isWord_22 rfl rfl ?_
                            refine g_aload_n C (n' := 24) 3 rfl dX8_isWord_23 rfl rfl ?_
                            refine g_alen C (n' := 25) 14 0 rfl rfl (v := 4) rfl dX8_isWord_24 rfl ?_
                            refine g_icmp_ge C (n' := 28) 61 dX8_isWord_25 (by decide) rfl (by unfold inR; omega) (by unfold inR; omega) (fun c22 => ?_) (fun c22 => ?_)
                            · skip
                              refine g_iload_n C (n' := 62) 1 rfl dX8_isWord_61 rfl rfl ?_
                              refine g_iret C hr hlk (nar_z (by omega)) ⟨congrArg (fun z : Int => some (Value.int (iI z))) ?_, rfl⟩ dX8_isWord_62
                              exact (if_neg (fun z => by have z2 := (t_is_3 _ _ _).mp z; omega)).symm
                            · skip
                              exfalso
                              omega
                          · skip
                            refine g_iconst C (n' := 50) dX8_isWord_49 rfl ?_
                            refine g_goto C 54 dX8_isWord_50 (by decide) ?_
                            refine g_istore_n C (n' := 55) [(2, .int (iI 1)), (3, .int (iI 3)), (0, .ref (q 99)), (1, .ref (q 26))] dX8_isWord_54 rfl rfl (by decide) rfl ?_
                            refine g_iinc C (n' := 58) 1 [(3, .int (iI 4)), (2, .int (iI 1)), (0, .ref (q 99)), (1, .ref (q 26))] rfl dX8_isWord_55 rfl (by decide) rfl ?_
                            refine g_goto C 22 dX8_isWord_58 (by decide) ?_
                            refine g_iload_n C (n' := 23) 0 rfl dX8_isWord_22 rfl rfl ?_
                            refine g_aload_n C (n' := 24) 3 rfl dX8_isWord_23 rfl rfl ?_
                            refine g_alen C (n' := 25) 14 0 rfl rfl (v := 4) rfl dX8_isWord_24 rfl ?_
                            refine g_icmp_ge C (n' := 28) 61 dX8_isWord_25 (by decide) rfl (by unfold inR; omega) (by unfold inR; omega) (fun c23 => ?_) (fun c23 => ?_)
                            · skip
                              refine g_iload_n C (n' := 62) 1 rfl dX8_isWord_61 rfl rfl ?_
                              refine g_iret C hr hlk (nar_z (by omega)) ⟨congrArg (fun z : Int => some (Value.int (iI z))) ?_, rfl⟩ dX8_isWord_62
                              exact (if_pos ((t_is_3 _ _ _).mpr (by refine ⟨by omega, ?_⟩; omega))).symm
                            · skip
                              exfalso
                              omega
set_option maxRecDepth 100000 in
set_option maxHeartbeats 4000000 in
theorem c_X8_isWord_4 (l : Launch) (D : va_G) (Y : Nat → ClassId) {E : (Nat → Prop) → State → Heap → Prop} (hE : g_Stab E) (q : Nat → Nat) (I : Nat → Int) (A : Nat → Nat → Int) (F : Nat → UInt32) (Dd : Nat → UInt64) (hsI : smI I) (hsA : smA A) (hT : mtk I) (hw : mwOK A) : g_Ct l yX8_isWord cX8_isWord 4 (some FieldType.boolean) ({ frames := 0, cells := 0, slots := 0, locals := 0 } : Room) D (tysY Y) E [.ref (q 99), .ref (q 27)] (wMod q Y I A F Dd) 0 0 (g_det (some (.int (iI (if t_is (A 10) (I 16) (I 17) t_w4 = true then 1 else 0)))) (wMod q Y I A F Dd)) := by
  refine g_ofG (own := RX8) hE (by decide) rfl (Nat.le_of_ble_eq_true rfl) [(0, .ref (q 99)), (1, .ref (q 27))] rfl ?_
  intro p9 e9 s9 m9 b9 t9 c9 A9 C hr hlk hnm
  have hI := hsI
  have hA := hsA
  unfold smI at hI
  unfold smA at hA
  have hT9 := hT
  unfold mtk at hT9
  have hw9 := hw
  unfold mwOK at hw9
  obtain ⟨hw0, hw1, hw2, hw3, hw4, hw5⟩ := hw9
  refine g_aload_n C (n' := 1) 0 rfl dX8_isWord_0 rfl rfl ?_
  refine g_get C (n' := 4) (Cn := RX8) (T := TX8) (N := 35) (ci := 6) (v := .int (iI (I 17))) ga_X8 0 rfl rfl 17 (by decide) kw_707 rfl rfl dX8_isWord_1 rfl ?_
  have h_1 := hI 17
  refine g_aload_n C (n' := 5) 0 rfl dX8_isWord_4 rfl rfl ?_
  refine g_get C (n' := 8) (Cn := RX8) (T := TX8) (N := 35) (ci := 6) (v := .int (iI (I 16))) ga_X8 0 rfl rfl 16 (by decide) kw_706 rfl rfl dX8_isWord_5 rfl ?_
  have h_5 := hI 16
  refine g_isub C (n' := 9) dX8_isWord_8 rfl ?_
  refine g_aload_n C (n' := 10) 1 rfl dX8_isWord_9 rfl rfl ?_
  refine g_alen C (n' := 11) 15 0 rfl rfl (v := 4) rfl dX8_isWord_10 rfl ?_
  refine g_icmp_ne C (n' := 14) 18 dX8_isWord_11 (by decide) rfl (by unfold inR; omega) (by unfold inR; omega) (fun c1 => ?_) (fun c1 => ?_)
  · skip
    refine g_iconst C (n' := 19) dX8_isWord_18 rfl ?_
    refine g_istore_n C (n' := 20) [(2, .int (iI 0)), (0, .ref (q 99)), (1, .ref (q 27))] dX8_isWord_19 rfl rfl (by decide) rfl ?_
    refine g_iconst C (n' := 21) dX8_isWord_20 rfl ?_
    refine g_istore_n C (n' := 22) [(3, .int (iI 0)), (2, .int (iI 0)), (0, .ref (q 99)), (1, .ref (q 27))] dX8_isWord_21 rfl rfl (by decide) rfl ?_
    refine g_iload_n C (n' := 23) 0 rfl dX8_isWord_22 rfl rfl ?_
    refine g_aload_n C (n' := 24) 3 rfl dX8_isWord_23 rfl rfl ?_
    refine g_alen C (n' := 25) 15 0 rfl rfl (v := 4) rfl dX8_isWord_24 rfl ?_
    refine g_icmp_ge C (n' := 28) 61 dX8_isWord_25 (by decide) rfl (by unfold inR; omega) (by unfold inR; omega) (fun c2 => ?_) (fun c2 => ?_)
    · skip
      exfalso
      omega
    · skip
      refine g_iload_n C (n' := 29) 1 rfl dX8_isWord_28 rfl rfl ?_
      refine g_if_eq C (n' := 32) 61 dX8_isWord_29 (by decide) rfl (by unfold inR; omega) (fun c3 => ?_) (fun c3 => ?_)
      · skip
        refine g_iload_n C (n' := 62) 1 rfl dX8_isWord_61 rfl rfl ?_
        refine g_iret C hr hlk (nar_z (by omega)) ⟨congrArg (fun z : Int => some (Value.int (iI z))) ?_, rfl⟩ dX8_isWord_62
        exact (if_neg (fun z => by have z2 := (t_is_4 _ _ _).mp z; omega)).symm
      · skip
        exfalso
        omega
  · skip
    refine g_iconst C (n' := 15) dX8_isWord_14 rfl ?_
    refine g_goto C 19 dX8_isWord_15 (by decide) ?_
    refine g_istore_n C (n' := 20) [(2, .int (iI 1)), (0, .ref (q 99)), (1, .ref (q 27))] dX8_isWord_19 rfl rfl (by decide) rfl ?_
    refine g_iconst C (n' := 21) dX8_isWord_20 rfl ?_
    refine g_istore_n C (n' := 22) [(3, .int (iI 0)), (2, .int (iI 1)), (0, .ref (q 99)), (1, .ref (q 27))] dX8_isWord_21 rfl rfl (by decide) rfl ?_
    refine g_iload_n C (n' := 23) 0 rfl dX8_isWord_22 rfl rfl ?_
    refine g_aload_n C (n' := 24) 3 rfl dX8_isWord_23 rfl rfl ?_
    refine g_alen C (n' := 25) 15 0 rfl rfl (v := 4) rfl dX8_isWord_24 rfl ?_
    refine g_icmp_ge C (n' := 28) 61 dX8_isWord_25 (by decide) rfl (by unfold inR; omega) (by unfold inR; omega) (fun c4 => ?_) (fun c4 => ?_)
    · skip
      exfalso
      omega
    · skip
      refine g_iload_n C (n' := 29) 1 rfl dX8_isWord_28 rfl rfl ?_
      refine g_if_eq C (n' := 32) 61 dX8_isWord_29 (by decide) rfl (by unfold inR; omega) (fun c5 => ?_) (fun c5 => ?_)
      · skip
        exfalso
        omega
      · skip
        refine g_aload_n C (n' := 33) 2 rfl dX8_isWord_32 rfl rfl ?_
        refine g_get C (n' := 36) (Cn := RX8) (T := TX8) (N := 35) (ci := 6) (v := .ref (q 10)) ga_X8 0 rfl rfl 10 (by decide) kw_700 rfl rfl dX8_isWord_33 rfl ?_
        refine g_aload_n C (n' := 37) 2 rfl dX8_isWord_36 rfl rfl ?_
        refine g_get C (n' := 40) (Cn := RX8) (T := TX8) (N := 35) (ci := 6) (v := .int (iI (I 16))) ga_X8 0 rfl rfl 16 (by decide) kw_706 rfl rfl dX8_isWord_37 rfl ?_
        have h_37 := hI 16
        refine g_iload_n C (n' := 41) 0 rfl dX8_isWord_40 rfl rfl ?_
        refine g_iadd C (n' := 42) dX8_isWord_41 rfl ?_
        refine g_iald C (n' := 43) (f := (A 10)) 5 0 rfl rfl (by omega) (by omega) (by decide) rfl dX8_isWord_42 rfl ?_
        have h_42 := hA 10 (((I 16) + 0).toNat)
        refine g_aload_n C (n' := 44) 3 rfl dX8_isWord_43 rfl rfl ?_
        refine g_iload_n C (n' := 45) 0 rfl dX8_isWord_44 rfl rfl ?_
        refine g_ialdN C (n' := 46) (f := (A 27)) (j := 0) 15 0 rfl rfl (by omega) (by decide) rfl dX8_isWord_45 rfl ?_
        have h_45 := hA 27 0
        refine g_icmp_ne C (n' := 49) 53 dX8_isWord_46 (by decide) rfl (by unfold inR; omega) (by unfold inR; omega) (fun c6 => ?_) (fun c6 => ?_)
        · skip
          refine g_iconst C (n' := 54) dX8_isWord_53 rfl ?_
          refine g_istore_n C (n' := 55) [(2, .int (iI 0)), (3, .int (iI 0)), (0, .ref (q 99)), (1, .ref (q 27))] dX8_isWord_54 rfl rfl (by decide) rfl ?_
          refine g_iinc C (n' := 58) 1 [(3, .int (iI 1)), (2, .int (iI 0)), (0, .ref (q 99)), (1, .ref (q 27))] rfl dX8_isWord_55 rfl (by decide) rfl ?_
          refine g_goto C 22 dX8_isWord_58 (by decide) ?_
          refine g_iload_n C (n' := 23) 0 rfl dX8_isWord_22 rfl rfl ?_
          refine g_aload_n C (n' := 24) 3 rfl dX8_isWord_23 rfl rfl ?_
          refine g_alen C (n' := 25) 15 0 rfl rfl (v := 4) rfl dX8_isWord_24 rfl ?_
          refine g_icmp_ge C (n' := 28) 61 dX8_isWord_25 (by decide) rfl (by unfold inR; omega) (by unfold inR; omega) (fun c7 => ?_) (fun c7 => ?_)
          · skip
            exfalso
            omega
          · skip
            refine g_iload_n C (n' := 29) 1 rfl dX8_isWord_28 rfl rfl ?_
            refine g_if_eq C (n' := 32) 61 dX8_isWord_29 (by decide) rfl (by unfold inR; omega) (fun c8 => ?_) (fun c8 => ?_)
            · skip
              refine g_iload_n C (n' := 62) 1 rfl dX8_isWord_61 rfl rfl ?_
              refine g_iret C hr hlk (nar_z (by omega)) ⟨congrArg (fun z : Int => some (Value.int (iI z))) ?_, rfl⟩ dX8_isWord_62
              exact (if_neg (fun z => by have z2 := (t_is_4 _ _ _).mp z; omega)).symm
            · skip
              exfalso
              omega
        · skip
          refine g_iconst C (n' := 50) dX8_isWord_49 rfl ?_
          refine g_goto C 54 dX8_isWord_50 (by decide) ?_
          refine g_istore_n C (n' := 55) [(2, .int (iI 1)), (3, .int (iI 0)), (0, .ref (q 99)), (1, .ref (q 27))] dX8_isWord_54 rfl rfl (by decide) rfl ?_
          refine g_iinc C (n' := 58) 1 [(3, .int (iI 1)), (2, .int (iI 1)), (0, .ref (q 99)), (1, .ref (q 27))] rfl dX8_isWord_55 rfl (by decide) rfl ?_
          refine g_goto C 22 dX8_isWord_58 (by decide) ?_
          refine g_iload_n C (n' := 23) 0 rfl dX8_isWord_22 rfl rfl ?_
          refine g_aload_n C (n' := 24) 3 rfl dX8_isWord_23 rfl rfl ?_
          refine g_alen C (n' := 25) 15 0 rfl rfl (v := 4) rfl dX8_isWord_24 rfl ?_
          refine g_icmp_ge C (n' := 28) 61 dX8_isWord_25 (by decide) rfl (by unfold inR; omega) (by unfold inR; omega) (fun c9 => ?_) (fun c9 => ?_)
          · skip
            exfalso
            omega
          · skip
            refine g_iload_n C (n' := 29) 1 rfl dX8_isWord_28 rfl rfl ?_
            refine g_if_eq C (n' := 32) 61 dX8_isWord_29 (by decide) rfl (by unfold inR; omega) (fun c10 => ?_) (fun c10 => ?_)
            · skip
              exfalso
              omega
            · skip
              refine g_aload_n C (n' := 33) 2 rfl dX8_isWord_32 rfl rfl ?_
              refine g_get C (n' := 36) (Cn := RX8) (T := TX8) (N := 35) (ci := 6) (v := .ref (q 10)) ga_X8 0 rfl rfl 10 (by decide) kw_700 rfl rfl dX8_isWord_33 rfl ?_
              refine g_aload_n C (n' := 37) 2 rfl dX8_isWord_36 rfl rfl ?_
              refine g_get C (n' := 40) (Cn := RX8) (T := TX8) (N := 35) (ci := 6) (v := .int (iI (I 16))) ga_X8 0 rfl rfl 16 (by decide) kw_706 rfl rfl dX8_isWord_37 rfl ?_
              have h_37 := hI 16
              refine g_iload_n C (n' := 41) 0 rfl dX8_isWord_40 rfl rfl ?_
              refine g_iadd C (n' := 42) dX8_isWord_41 rfl ?_
              refine g_iald C (n' := 43) (f := (A 10)) 5 0 rfl rfl (by omega) (by omega) (by decide) rfl dX8_isWord_42 rfl ?_
              have h_42 := hA 10 (((I 16) + 1).toNat)
              refine g_aload_n C (n' := 44) 3 rfl dX8_isWord_43 rfl rfl ?_
              refine g_iload_n C (n' := 45) 0 rfl dX8_isWord_44 rfl rfl ?_
              refine g_ialdN C (n' := 46) (f := (A 27)) (j := 1) 15 0 rfl rfl (by omega) (by decide) rfl dX8_isWord_45 rfl ?_
              have h_45 := hA 27 1
              refine g_icmp_ne C (n' := 49) 53 dX8_isWord_46 (by decide) rfl (by unfold inR; omega) (by unfold inR; omega) (fun c11 => ?_) (fun c11 => ?_)
              · skip
                refine g_iconst C (n' := 54) dX8_isWord_53 rfl ?_
                refine g_istore_n C (n' := 55) [(2, .int (iI 0)), (3, .int (iI 1)), (0, .ref (q 99)), (1, .ref (q 27))] dX8_isWord_54 rfl rfl (by decide) rfl ?_
                refine g_iinc C (n' := 58) 1 [(3, .int (iI 2)), (2, .int (iI 0)), (0, .ref (q 99)), (1, .ref (q 27))] rfl dX8_isWord_55 rfl (by decide) rfl ?_
                refine g_goto C 22 dX8_isWord_58 (by decide) ?_
                refine g_iload_n C (n' := 23) 0 rfl dX8_isWord_22 rfl rfl ?_
                refine g_aload_n C (n' := 24) 3 rfl dX8_isWord_23 rfl rfl ?_
                refine g_alen C (n' := 25) 15 0 rfl rfl (v := 4) rfl dX8_isWord_24 rfl ?_
                refine g_icmp_ge C (n' := 28) 61 dX8_isWord_25 (by decide) rfl (by unfold inR; omega) (by unfold inR; omega) (fun c12 => ?_) (fun c12 => ?_)
                · skip
                  exfalso
                  omega
                · skip
                  refine g_iload_n C (n' := 29) 1 rfl dX8_isWord_28 rfl rfl ?_
                  refine g_if_eq C (n' := 32) 61 dX8_isWord_29 (by decide) rfl (by unfold inR; omega) (fun c13 => ?_) (fun c13 => ?_)
                  · skip
                    refine g_iload_n C (n' := 62) 1 rfl dX8_isWord_61 rfl rfl ?_
                    refine g_iret C hr hlk (nar_z (by omega)) ⟨congrArg (fun z : Int => some (Value.int (iI z))) ?_, rfl⟩ dX8_isWord_62
                    exact (if_neg (fun z => by have z2 := (t_is_4 _ _ _).mp z; omega)).symm
                  · skip
                    exfalso
                    omega
              · skip
                refine g_iconst C (n' := 50) dX8_isWord_49 rfl ?_
                refine g_goto C 54 dX8_isWord_50 (by decide) ?_
                refine g_istore_n C (n' := 55) [(2, .int (iI 1)), (3, .int (iI 1)), (0, .ref (q 99)), (1, .ref (q 27))] dX8_isWord_54 rfl rfl (by decide) rfl ?_
                refine g_iinc C (n' := 58) 1 [(3, .int (iI 2)), (2, .int (iI 1)), (0, .ref (q 99)), (1, .ref (q 27))] rfl dX8_isWord_55 rfl (by decide) rfl ?_
                refine g_goto C 22 dX8_isWord_58 (by decide) ?_
                refine g_iload_n C (n' := 23) 0 rfl dX8_isWord_22 rfl rfl ?_
                refine g_aload_n C (n' := 24) 3 rfl dX8_isWord_23 rfl rfl ?_
                refine g_alen C (n' := 25) 15 0 rfl rfl (v := 4) rfl dX8_isWord_24 rfl ?_
                refine g_icmp_ge C (n' := 28) 61 dX8_isWord_25 (by decide) rfl (by unfold inR; omega) (by unfold inR; omega) (fun c14 => ?_) (fun c14 => ?_)
                · skip
                  exfalso
                  omega
                · skip
                  refine g_iload_n C (n' := 29) 1 rfl dX8_isWord_28 rfl rfl ?_
                  refine g_if_eq C (n' := 32) 61 dX8_isWord_29 (by decide) rfl (by unfold inR; omega) (fun c15 => ?_) (fun c15 => ?_)
                  · skip
                    exfalso
                    omega
                  · skip
                    refine g_aload_n C (n' := 33) 2 rfl dX8_isWord_32 rfl rfl ?_
                    refine g_get C (n' := 36) (Cn := RX8) (T := TX8) (N := 35) (ci := 6) (v := .ref (q 10)) ga_X8 0 rfl rfl 10 (by decide) kw_700 rfl rfl dX8_isWord_33 rfl ?_
                    refine g_aload_n C (n' := 37) 2 rfl dX8_isWord_36 rfl rfl ?_
                    refine g_get C (n' := 40) (Cn := RX8) (T := TX8) (N := 35) (ci := 6) (v := .int (iI (I 16))) ga_X8 0 rfl rfl 16 (by decide) kw_706 rfl rfl dX8_isWord_37 rfl ?_
                    have h_37 := hI 16
                    refine g_iload_n C (n' := 41) 0 rfl dX8_isWord_40 rfl rfl ?_
                    refine g_iadd C (n' := 42) dX8_isWord_41 rfl ?_
                    refine g_iald C (n' := 43) (f := (A 10)) 5 0 rfl rfl (by omega) (by omega) (by decide) rfl dX8_isWord_42 rfl ?_
                    have h_42 := hA 10 (((I 16) + 2).toNat)
                    refine g_aload_n C (n' := 44) 3 rfl dX8_isWord_43 rfl rfl ?_
                    refine g_iload_n C (n' := 45) 0 rfl dX8_isWord_44 rfl rfl ?_
                    refine g_ialdN C (n' := 46) (f := (A 27)) (j := 2) 15 0 rfl rfl (by omega) (by decide) rfl dX8_isWord_45 rfl ?_
                    have h_45 := hA 27 2
                    refine g_icmp_ne C (n' := 49) 53 dX8_isWord_46 (by decide) rfl (by unfold inR; omega) (by unfold inR; omega) (fun c16 => ?_) (fun c16 => ?_)
                    · skip
                      refine g_iconst C (n' := 54) dX8_isWord_53 rfl ?_
                      refine g_istore_n C (n' := 55) [(2, .int (iI 0)), (3, .int (iI 2)), (0, .ref (q 99)), (1, .ref (q 27))] dX8_isWord_54 rfl rfl (by decide) rfl ?_
                      refine g_iinc C (n' := 58) 1 [(3, .int (iI 3)), (2, .int (iI 0)), (0, .ref (q 99)), (1, .ref (q 27))] rfl dX8_isWord_55 rfl (by decide) rfl ?_
                      refine g_goto C 22 dX8_isWord_58 (by decide) ?_
                      refine g_iload_n C (n' := 23) 0 rfl dX8_isWord_22 rfl rfl ?_
                      refine g_aload_n C (n' := 24) 3 rfl dX8_isWord_23 rfl rfl ?_
                      refine g_alen C (n' := 25) 15 0 rfl rfl (v := 4) rfl dX8_isWord_24 rfl ?_
                      refine g_icmp_ge C (n' := 28) 61 dX8_isWord_25 (by decide) rfl (by unfold inR; omega) (by unfold inR; omega) (fun c17 => ?_) (fun c17 => ?_)
                      · skip
                        exfalso
                        omega
                      · skip
                        refine g_iload_n C (n' := 29) 1 rfl dX8_isWord_28 rfl rfl ?_
                        refine g_if_eq C (n' := 32) 61 dX8_isWord_29 (by decide) rfl (by unfold inR; omega) (fun c18 => ?_) (fun c18 => ?_)
                        · skip
                          refine g_iload_n C (n' := 62) 1 rfl dX8_isWord_61 rfl rfl ?_
                          refine g_iret C hr hlk (nar_z (by omega)) ⟨congrArg (fun z : Int => some (Value.int (iI z))) ?_, rfl⟩ dX8_isWord_62
                          exact (if_neg (fun z => by have z2 := (t_is_4 _ _ _).mp z; omega)).symm
                        · skip
                          exfalso
                          omega
                    · skip
                      refine g_iconst C (n' := 50) dX8_isWord_49 rfl ?_
                      refine g_goto C 54 dX8_isWord_50 (by decide) ?_
                      refine g_istore_n C (n' := 55) [(2, .int (iI 1)), (3, .int (iI 2)), (0, .ref (q 99)), (1, .ref (q 27))] dX8_isWord_54 rfl rfl (by decide) rfl ?_
                      refine g_iinc C (n' := 58) 1 [(3, .int (iI 3)), (2, .int (iI 1)), (0, .ref (q 99)), (1, .ref (q 27))] rfl dX8_isWord_55 rfl (by decide) rfl ?_
                      refine g_goto C 22 dX8_isWord_58 (by decide) ?_
                      refine g_iload_n C (n' := 23) 0 rfl dX8_isWord_22 rfl rfl ?_
                      refine g_aload_n C (n' := 24) 3 rfl dX8_isWord_23 rfl rfl ?_
                      refine g_alen C (n' := 25) 15 0 rfl rfl (v := 4) rfl dX8_isWord_24 rfl ?_
                      refine g_icmp_ge C (n' := 28) 61 dX8_isWord_25 (by decide) rfl (by unfold inR; omega) (by unfold inR; omega) (fun c19 => ?_) (fun c19 => ?_)
                      · skip
                        exfalso
                        omega
                      · skip
                        refine g_iload_n C (n' := 29) 1 rfl dX8_isWord_28 rfl rfl ?_
                        refine g_if_eq C (n' := 32) 61 dX8_isWord_29 (by decide) rfl (by unfold inR; omega) (fun c20 => ?_) (fun c20 => ?_)
                        · skip
                          exfalso
                          omega
                        · skip
                          refine g_aload_n C (n' := 33) 2 rfl dX8_isWord_32 rfl rfl ?_
                          refine g_get C (n' := 36) (Cn := RX8) (T := TX8) (N := 35) (ci := 6) (v := .ref (q 10)) ga_X8 0 rfl rfl 10 (by decide) kw_700 rfl rfl dX8_isWord_33 rfl ?_
                          refine g_aload_n C (n' := 37) 2 rfl dX8_isWord_36 rfl rfl ?_
                          refine g_get C (n' := 40) (Cn := RX8) (T := TX8) (N := 35) (ci := 6) (v := .int (iI (I 16))) ga_X8 0 rfl rfl 16 (by decide) kw_706 rfl rfl dX8_isWord_37 rfl ?_
                          have h_37 := hI 16
                          refine g_iload_n C (n' := 41) 0 rfl dX8_isWord_40 rfl rfl ?_
                          refine g_iadd C (n' := 42) dX8_isWord_41 rfl ?_
                          refine g_iald C (n' := 43) (f := (A 10)) 5 0 rfl rfl (by omega) (by omega) (by decide) rfl dX8_isWord_42 rfl ?_
                          have h_42 := hA 10 (((I 16) + 3).toNat)
                          refine g_aload_n C (n' := 44) 3 rfl dX8_isWord_43 rfl rfl ?_
                          refine g_iload_n C (n' := 45) 0 rfl dX8_isWord_44 rfl rfl ?_
                          refine g_ialdN C (n' := 46) (f := (A 27)) (j := 3) 15 0 rfl rfl (by omega) (by decide) rfl dX8_isWord_45 rfl ?_
                          have h_45 := hA 27 3
                          refine g_icmp_ne C (n' := 49) 53 dX8_isWord_46 (by decide) rfl (by unfold inR; omega) (by unfold inR; omega) (fun c21 => ?_) (fun c21 => ?_)
                          · skip
                            refine g_iconst C (n' := 54) dX8_isWord_53 rfl ?_
                            refine g_istore_n C (n' := 55) [(2, .int (iI 0)), (3, .int (iI 3)), (0, .ref (q 99)), (1, .ref (q 27))] dX8_isWord_54 rfl rfl (by decide) rfl ?_
                            refine g_iinc C (n' := 58) 1 [(3, .int (iI 4)), (2, .int (iI 0)), (0, .ref (q 99)), (1, .ref (q 27))] rfl dX8_isWord_55 rfl (by decide) rfl ?_
                            refine g_goto C 22 dX8_isWord_58 (by decide) ?_
                            refine g_iload_n C (n' := 23) 0 rfl dX8_isWord_22 rfl rfl ?_
                            refine g_aload_n C (n' := 24) 3 rfl dX8_isWord_23 rfl rfl ?_
                            refine g_alen C (n' := 25) 15 0 rfl rfl (v := 4) rfl dX8_isWord_24 rfl ?_
                            refine g_icmp_ge C (n' := 28) 61 dX8_isWord_25 (by decide) rfl (by unfold inR; omega) (by unfold inR; omega) (fun c22 => ?_) (fun c22 => ?_)
                            · skip
                              refine g_iload_n C (n' := 62) 1 rfl dX8_isWord_61 rfl rfl ?_
                              refine g_iret C hr hlk (nar_z (by omega)) ⟨congrArg (fun z : Int => some (Value.int (iI z))) ?_, rfl⟩ dX8_isWord_62
                              exact (if_neg (fun z => by have z2 := (t_is_4 _ _ _).mp z; omega)).symm
                            · skip
                              exfalso
                              omega
                          · skip
                            refine g_iconst C (n' := 50) dX8_isWord_49 rfl ?_
                            refine g_goto C 54 dX8_isWord_50 (by decide) ?_
                            refine g_istore_n C (n' := 55) [(2, .int (iI 1)), (3, .int (iI 3)), (0, .ref (q 99)), (1, .ref (q 27))] dX8_isWord_54 rfl rfl (by decide) rfl ?_
                            refine g_iinc C (n' := 58) 1 [(3, .int (iI 4)), (2, .int (iI 1)), (0, .ref (q 99)), (1, .ref (q 27))] rfl dX8_isWord_55 rfl (by decide) rfl ?_
                            refine g_goto C 22 dX8_isWord_58 (by decide) ?_
                            refine g_iload_n C (n' := 23) 0 rfl dX8_isWord_22 rfl rfl ?_
                            refine g_aload_n C (n' := 24) 3 rfl dX8_isWord_23 rfl rfl ?_
                            refine g_alen C (n' := 25) 15 0 rfl rfl (v := 4) rfl dX8_isWord_24 rfl ?_
                            refine g_icmp_ge C (n' := 28) 61 dX8_isWord_25 (by decide) rfl (by unfold inR; omega) (by unfold inR; omega) (fun c23 => ?_) (fun c23 => ?_)
                            · skip
                              refine g_iload_n C (n' := 62) 1 rfl dX8_isWord_61 rfl rfl ?_
                              refine g_iret C hr hlk (nar_z (by omega)) ⟨congrArg (fun z : Int => some (Value.int (iI z))) ?_, rfl⟩ dX8_isWord_62
                              exact (if_pos ((t_is_4 _ _ _).mpr (by refine ⟨by omega, ?_⟩; omega))).symm
                            · skip
                              exfalso
                              omega
set_option maxRecDepth 100000 in
set_option maxHeartbeats 4000000 in
theorem c_X8_isWord_5 (l : Launch) (D : va_G) (Y : Nat → ClassId) {E : (Nat → Prop) → State → Heap → Prop} (hE : g_Stab E) (q : Nat → Nat) (I : Nat → Int) (A : Nat → Nat → Int) (F : Nat → UInt32) (Dd : Nat → UInt64) (hsI : smI I) (hsA : smA A) (hT : mtk I) (hw : mwOK A) : g_Ct l yX8_isWord cX8_isWord 4 (some FieldType.boolean) ({ frames := 0, cells := 0, slots := 0, locals := 0 } : Room) D (tysY Y) E [.ref (q 99), .ref (q 28)] (wMod q Y I A F Dd) 0 0 (g_det (some (.int (iI (if t_is (A 10) (I 16) (I 17) t_w5 = true then 1 else 0)))) (wMod q Y I A F Dd)) := by
  refine g_ofG (own := RX8) hE (by decide) rfl (Nat.le_of_ble_eq_true rfl) [(0, .ref (q 99)), (1, .ref (q 28))] rfl ?_
  intro p9 e9 s9 m9 b9 t9 c9 A9 C hr hlk hnm
  have hI := hsI
  have hA := hsA
  unfold smI at hI
  unfold smA at hA
  have hT9 := hT
  unfold mtk at hT9
  have hw9 := hw
  unfold mwOK at hw9
  obtain ⟨hw0, hw1, hw2, hw3, hw4, hw5⟩ := hw9
  refine g_aload_n C (n' := 1) 0 rfl dX8_isWord_0 rfl rfl ?_
  refine g_get C (n' := 4) (Cn := RX8) (T := TX8) (N := 35) (ci := 6) (v := .int (iI (I 17))) ga_X8 0 rfl rfl 17 (by decide) kw_707 rfl rfl dX8_isWord_1 rfl ?_
  have h_1 := hI 17
  refine g_aload_n C (n' := 5) 0 rfl dX8_isWord_4 rfl rfl ?_
  refine g_get C (n' := 8) (Cn := RX8) (T := TX8) (N := 35) (ci := 6) (v := .int (iI (I 16))) ga_X8 0 rfl rfl 16 (by decide) kw_706 rfl rfl dX8_isWord_5 rfl ?_
  have h_5 := hI 16
  refine g_isub C (n' := 9) dX8_isWord_8 rfl ?_
  refine g_aload_n C (n' := 10) 1 rfl dX8_isWord_9 rfl rfl ?_
  refine g_alen C (n' := 11) 16 0 rfl rfl (v := 6) rfl dX8_isWord_10 rfl ?_
  refine g_icmp_ne C (n' := 14) 18 dX8_isWord_11 (by decide) rfl (by unfold inR; omega) (by unfold inR; omega) (fun c1 => ?_) (fun c1 => ?_)
  · skip
    refine g_iconst C (n' := 19) dX8_isWord_18 rfl ?_
    refine g_istore_n C (n' := 20) [(2, .int (iI 0)), (0, .ref (q 99)), (1, .ref (q 28))] dX8_isWord_19 rfl rfl (by decide) rfl ?_
    refine g_iconst C (n' := 21) dX8_isWord_20 rfl ?_
    refine g_istore_n C (n' := 22) [(3, .int (iI 0)), (2, .int (iI 0)), (0, .ref (q 99)), (1, .ref (q 28))] dX8_isWord_21 rfl rfl (by decide) rfl ?_
    refine g_iload_n C (n' := 23) 0 rfl dX8_isWord_22 rfl rfl ?_
    refine g_aload_n C (n' := 24) 3 rfl dX8_isWord_23 rfl rfl ?_
    refine g_alen C (n' := 25) 16 0 rfl rfl (v := 6) rfl dX8_isWord_24 rfl ?_
    refine g_icmp_ge C (n' := 28) 61 dX8_isWord_25 (by decide) rfl (by unfold inR; omega) (by unfold inR; omega) (fun c2 => ?_) (fun c2 => ?_)
    · skip
      exfalso
      omega
    · skip
      refine g_iload_n C (n' := 29) 1 rfl dX8_isWord_28 rfl rfl ?_
      refine g_if_eq C (n' := 32) 61 dX8_isWord_29 (by decide) rfl (by unfold inR; omega) (fun c3 => ?_) (fun c3 => ?_)
      · skip
        refine g_iload_n C (n' := 62) 1 rfl dX8_isWord_61 rfl rfl ?_
        refine g_iret C hr hlk (nar_z (by omega)) ⟨congrArg (fun z : Int => some (Value.int (iI z))) ?_, rfl⟩ dX8_isWord_62
        exact (if_neg (fun z => by have z2 := (t_is_5 _ _ _).mp z; omega)).symm
      · skip
        exfalso
        omega
  · skip
    refine g_iconst C (n' := 15) dX8_isWord_14 rfl ?_
    refine g_goto C 19 dX8_isWord_15 (by decide) ?_
    refine g_istore_n C (n' := 20) [(2, .int (iI 1)), (0, .ref (q 99)), (1, .ref (q 28))] dX8_isWord_19 rfl rfl (by decide) rfl ?_
    refine g_iconst C (n' := 21) dX8_isWord_20 rfl ?_
    refine g_istore_n C (n' := 22) [(3, .int (iI 0)), (2, .int (iI 1)), (0, .ref (q 99)), (1, .ref (q 28))] dX8_isWord_21 rfl rfl (by decide) rfl ?_
    refine g_iload_n C (n' := 23) 0 rfl dX8_isWord_22 rfl rfl ?_
    refine g_aload_n C (n' := 24) 3 rfl dX8_isWord_23 rfl rfl ?_
    refine g_alen C (n' := 25) 16 0 rfl rfl (v := 6) rfl dX8_isWord_24 rfl ?_
    refine g_icmp_ge C (n' := 28) 61 dX8_isWord_25 (by decide) rfl (by unfold inR; omega) (by unfold inR; omega) (fun c4 => ?_) (fun c4 => ?_)
    · skip
      exfalso
      omega
    · skip
      refine g_iload_n C (n' := 29) 1 rfl dX8_isWord_28 rfl rfl ?_
      refine g_if_eq C (n' := 32) 61 dX8_isWord_29 (by decide) rfl (by unfold inR; omega) (fun c5 => ?_) (fun c5 => ?_)
      · skip
        exfalso
        omega
      · skip
        refine g_aload_n C (n' := 33) 2 rfl dX8_isWord_32 rfl rfl ?_
        refine g_get C (n' := 36) (Cn := RX8) (T := TX8) (N := 35) (ci := 6) (v := .ref (q 10)) ga_X8 0 rfl rfl 10 (by decide) kw_700 rfl rfl dX8_isWord_33 rfl ?_
        refine g_aload_n C (n' := 37) 2 rfl dX8_isWord_36 rfl rfl ?_
        refine g_get C (n' := 40) (Cn := RX8) (T := TX8) (N := 35) (ci := 6) (v := .int (iI (I 16))) ga_X8 0 rfl rfl 16 (by decide) kw_706 rfl rfl dX8_isWord_37 rfl ?_
        have h_37 := hI 16
        refine g_iload_n C (n' := 41) 0 rfl dX8_isWord_40 rfl rfl ?_
        refine g_iadd C (n' := 42) dX8_isWord_41 rfl ?_
        refine g_iald C (n' := 43) (f := (A 10)) 5 0 rfl rfl (by omega) (by omega) (by decide) rfl dX8_isWord_42 rfl ?_
        have h_42 := hA 10 (((I 16) + 0).toNat)
        refine g_aload_n C (n' := 44) 3 rfl dX8_isWord_43 rfl rfl ?_
        refine g_iload_n C (n' := 45) 0 rfl dX8_isWord_44 rfl rfl ?_
        refine g_ialdN C (n' := 46) (f := (A 28)) (j := 0) 16 0 rfl rfl (by omega) (by decide) rfl dX8_isWord_45 rfl ?_
        have h_45 := hA 28 0
        refine g_icmp_ne C (n' := 49) 53 dX8_isWord_46 (by decide) rfl (by unfold inR; omega) (by unfold inR; omega) (fun c6 => ?_) (fun c6 => ?_)
        · skip
          refine g_iconst C (n' := 54) dX8_isWord_53 rfl ?_
          refine g_istore_n C (n' := 55) [(2, .int (iI 0)), (3, .int (iI 0)), (0, .ref (q 99)), (1, .ref (q 28))] dX8_isWord_54 rfl rfl (by decide) rfl ?_
          refine g_iinc C (n' := 58) 1 [(3, .int (iI 1)), (2, .int (iI 0)), (0, .ref (q 99)), (1, .ref (q 28))] rfl dX8_isWord_55 rfl (by decide) rfl ?_
          refine g_goto C 22 dX8_isWord_58 (by decide) ?_
          refine g_iload_n C (n' := 23) 0 rfl dX8_isWord_22 rfl rfl ?_
          refine g_aload_n C (n' := 24) 3 rfl dX8_isWord_23 rfl rfl ?_
          refine g_alen C (n' := 25) 16 0 rfl rfl (v := 6) rfl dX8_isWord_24 rfl ?_
          refine g_icmp_ge C (n' := 28) 61 dX8_isWord_25 (by decide) rfl (by unfold inR; omega) (by unfold inR; omega) (fun c7 => ?_) (fun c7 => ?_)
          · skip
            exfalso
            omega
          · skip
            refine g_iload_n C (n' := 29) 1 rfl dX8_isWord_28 rfl rfl ?_
            refine g_if_eq C (n' := 32) 61 dX8_isWord_29 (by decide) rfl (by unfold inR; omega) (fun c8 => ?_) (fun c8 => ?_)
            · skip
              refine g_iload_n C (n' := 62) 1 rfl dX8_isWord_61 rfl rfl ?_
              refine g_iret C hr hlk (nar_z (by omega)) ⟨congrArg (fun z : Int => some (Value.int (iI z))) ?_, rfl⟩ dX8_isWord_62
              exact (if_neg (fun z => by have z2 := (t_is_5 _ _ _).mp z; omega)).symm
            · skip
              exfalso
              omega
        · skip
          refine g_iconst C (n' := 50) dX8_isWord_49 rfl ?_
          refine g_goto C 54 dX8_isWord_50 (by decide) ?_
          refine g_istore_n C (n' := 55) [(2, .int (iI 1)), (3, .int (iI 0)), (0, .ref (q 99)), (1, .ref (q 28))] dX8_isWord_54 rfl rfl (by decide) rfl ?_
          refine g_iinc C (n' := 58) 1 [(3, .int (iI 1)), (2, .int (iI 1)), (0, .ref (q 99)), (1, .ref (q 28))] rfl dX8_isWord_55 rfl (by decide) rfl ?_
          refine g_goto C 22 dX8_isWord_58 (by decide) ?_
          refine g_iload_n C (n' := 23) 0 rfl dX8_isWord_22 rfl rfl ?_
          refine g_aload_n C (n' := 24) 3 rfl dX8_isWord_23 rfl rfl ?_
          refine g_alen C (n' := 25) 16 0 rfl rfl (v := 6) rfl dX8_isWord_24 rfl ?_
          refine g_icmp_ge C (n' := 28) 61 dX8_isWord_25 (by decide) rfl (by unfold inR; omega) (by unfold inR; omega) (fun c9 => ?_) (fun c9 => ?_)
          · skip
            exfalso
            omega
          · skip
            refine g_iload_n C (n' := 29) 1 rfl dX8_isWord_28 rfl rfl ?_
            refine g_if_eq C (n' := 32) 61 dX8_isWord_29 (by decide) rfl (by unfold inR; omega) (fun c10 => ?_) (fun c10 => ?_)
            · skip
              exfalso
              omega
            · skip
              refine g_aload_n C (n' := 33) 2 rfl dX8_isWord_32 rfl rfl ?_
              refine g_get C (n' := 36) (Cn := RX8) (T := TX8) (N := 35) (ci := 6) (v := .ref (q 10)) ga_X8 0 rfl rfl 10 (by decide) kw_700 rfl rfl dX8_isWord_33 rfl ?_
              refine g_aload_n C (n' := 37) 2 rfl dX8_isWord_36 rfl rfl ?_
              refine g_get C (n' := 40) (Cn := RX8) (T := TX8) (N := 35) (ci := 6) (v := .int (iI (I 16))) ga_X8 0 rfl rfl 16 (by decide) kw_706 rfl rfl dX8_isWord_37 rfl ?_
              have h_37 := hI 16
              refine g_iload_n C (n' := 41) 0 rfl dX8_isWord_40 rfl rfl ?_
              refine g_iadd C (n' := 42) dX8_isWord_41 rfl ?_
              refine g_iald C (n' := 43) (f := (A 10)) 5 0 rfl rfl (by omega) (by omega) (by decide) rfl dX8_isWord_42 rfl ?_
              have h_42 := hA 10 (((I 16) + 1).toNat)
              refine g_aload_n C (n' := 44) 3 rfl dX8_isWord_43 rfl rfl ?_
              refine g_iload_n C (n' := 45) 0 rfl dX8_isWord_44 rfl rfl ?_
              refine g_ialdN C (n' := 46) (f := (A 28)) (j := 1) 16 0 rfl rfl (by omega) (by decide) rfl dX8_isWord_45 rfl ?_
              have h_45 := hA 28 1
              refine g_icmp_ne C (n' := 49) 53 dX8_isWord_46 (by decide) rfl (by unfold inR; omega) (by unfold inR; omega) (fun c11 => ?_) (fun c11 => ?_)
              · skip
                refine g_iconst C (n' := 54) dX8_isWord_53 rfl ?_
                refine g_istore_n C (n' := 55) [(2, .int (iI 0)), (3, .int (iI 1)), (0, .ref (q 99)), (1, .ref (q 28))] dX8_isWord_54 rfl rfl (by decide) rfl ?_
                refine g_iinc C (n' := 58) 1 [(3, .int (iI 2)), (2, .int (iI 0)), (0, .ref (q 99)), (1, .ref (q 28))] rfl dX8_isWord_55 rfl (by decide) rfl ?_
                refine g_goto C 22 dX8_isWord_58 (by decide) ?_
                refine g_iload_n C (n' := 23) 0 rfl dX8_isWord_22 rfl rfl ?_
                refine g_aload_n C (n' := 24) 3 rfl dX8_isWord_23 rfl rfl ?_
                refine g_alen C (n' := 25) 16 0 rfl rfl (v := 6) rfl dX8_isWord_24 rfl ?_
                refine g_icmp_ge C (n' := 28) 61 dX8_isWord_25 (by decide) rfl (by unfold inR; omega) (by unfold inR; omega) (fun c12 => ?_) (fun c12 => ?_)
                · skip
                  exfalso
                  omega
                · skip
                  refine g_iload_n C (n' := 29) 1 rfl dX8_isWord_28 rfl rfl ?_
                  refine g_if_eq C (n' := 32) 61 dX8_isWord_29 (by decide) rfl (by unfold inR; omega) (fun c13 => ?_) (fun c13 => ?_)
                  · skip
                    refine g_iload_n C (n' := 62) 1 rfl dX8_isWord_61 rfl rfl ?_
                    refine g_iret C hr hlk (nar_z (by omega)) ⟨congrArg (fun z : Int => some (Value.int (iI z))) ?_, rfl⟩ dX8_isWord_62
                    exact (if_neg (fun z => by have z2 := (t_is_5 _ _ _).mp z; omega)).symm
                  · skip
                    exfalso
                    omega
              · skip
                refine g_iconst C (n' := 50) dX8_isWord_49 rfl ?_
                refine g_goto C 54 dX8_isWord_50 (by decide) ?_
                refine g_istore_n C (n' := 55) [(2, .int (iI 1)), (3, .int (iI 1)), (0, .ref (q 99)), (1, .ref (q 28))] dX8_isWord_54 rfl rfl (by decide) rfl ?_
                refine g_iinc C (n' := 58) 1 [(3, .int (iI 2)), (2, .int (iI 1)), (0, .ref (q 99)), (1, .ref (q 28))] rfl dX8_isWord_55 rfl (by decide) rfl ?_
                refine g_goto C 22 dX8_isWord_58 (by decide) ?_
                refine g_iload_n C (n' := 23) 0 rfl dX8_isWord_22 rfl rfl ?_
                refine g_aload_n C (n' := 24) 3 rfl dX8_isWord_23 rfl rfl ?_
                refine g_alen C (n' := 25) 16 0 rfl rfl (v := 6) rfl dX8_isWord_24 rfl ?_
                refine g_icmp_ge C (n' := 28) 61 dX8_isWord_25 (by decide) rfl (by unfold inR; omega) (by unfold inR; omega) (fun c14 => ?_) (fun c14 => ?_)
                · skip
                  exfalso
                  omega
                · skip
                  refine g_iload_n C (n' := 29) 1 rfl dX8_isWord_28 rfl rfl ?_
                  refine g_if_eq C (n' := 32) 61 dX8_isWord_29 (by decide) rfl (by unfold inR; omega) (fun c15 => ?_) (fun c15 => ?_)
                  · skip
                    exfalso
                    omega
                  · skip
                    refine g_aload_n C (n' := 33) 2 rfl dX8_isWord_32 rfl rfl ?_
                    refine g_get C (n' := 36) (Cn := RX8) (T := TX8) (N := 35) (ci := 6) (v := .ref (q 10)) ga_X8 0 rfl rfl 10 (by decide) kw_700 rfl rfl dX8_isWord_33 rfl ?_
                    refine g_aload_n C (n' := 37) 2 rfl dX8_isWord_36 rfl rfl ?_
                    refine g_get C (n' := 40) (Cn := RX8) (T := TX8) (N := 35) (ci := 6) (v := .int (iI (I 16))) ga_X8 0 rfl rfl 16 (by decide) kw_706 rfl rfl dX8_isWord_37 rfl ?_
                    have h_37 := hI 16
                    refine g_iload_n C (n' := 41) 0 rfl dX8_isWord_40 rfl rfl ?_
                    refine g_iadd C (n' := 42) dX8_isWord_41 rfl ?_
                    refine g_iald C (n' := 43) (f := (A 10)) 5 0 rfl rfl (by omega) (by omega) (by decide) rfl dX8_isWord_42 rfl ?_
                    have h_42 := hA 10 (((I 16) + 2).toNat)
                    refine g_aload_n C (n' := 44) 3 rfl dX8_isWord_43 rfl rfl ?_
                    refine g_iload_n C (n' := 45) 0 rfl dX8_isWord_44 rfl rfl ?_
                    refine g_ialdN C (n' := 46) (f := (A 28)) (j := 2) 16 0 rfl rfl (by omega) (by decide) rfl dX8_isWord_45 rfl ?_
                    have h_45 := hA 28 2
                    refine g_icmp_ne C (n' := 49) 53 dX8_isWord_46 (by decide) rfl (by unfold inR; omega) (by unfold inR; omega) (fun c16 => ?_) (fun c16 => ?_)
                    · skip
                      refine g_iconst C (n' := 54) dX8_isWord_53 rfl ?_
                      refine g_istore_n C (n' := 55) [(2, .int (iI 0)), (3, .int (iI 2)), (0, .ref (q 99)), (1, .ref (q 28))] dX8_isWord_54 rfl rfl (by decide) rfl ?_
                      refine g_iinc C (n' := 58) 1 [(3, .int (iI 3)), (2, .int (iI 0)), (0, .ref (q 99)), (1, .ref (q 28))] rfl dX8_isWord_55 rfl (by decide) rfl ?_
                      refine g_goto C 22 dX8_isWord_58 (by decide) ?_
                      refine g_iload_n C (n' := 23) 0 rfl dX8_isWord_22 rfl rfl ?_
                      refine g_aload_n C (n' := 24) 3 rfl dX8_isWord_23 rfl rfl ?_
                      refine g_alen C (n' := 25) 16 0 rfl rfl (v := 6) rfl dX8_isWord_24 rfl ?_
                      refine g_icmp_ge C (n' := 28) 61 dX8_isWord_25 (by decide) rfl (by unfold inR; omega) (by unfold inR; omega) (fun c17 => ?_) (fun c17 => ?_)
                      · skip
                        exfalso
                        omega
                      · skip
                        refine g_iload_n C (n' := 29) 1 rfl dX8_isWord_28 rfl rfl ?_
                        refine g_if_eq C (n' := 32) 61 dX8_isWord_29 (by decide) rfl (by unfold inR; omega) (fun c18 => ?_) (fun c18 => ?_)
                        · skip
                          refine g_iload_n C (n' := 62) 1 rfl dX8_isWord_61 rfl rfl ?_
                          refine g_iret C hr hlk (nar_z (by omega)) ⟨congrArg (fun z : Int => some (Value.int (iI z))) ?_, rfl⟩ dX8_isWord_62
                          exact (if_neg (fun z => by have z2 := (t_is_5 _ _ _).mp z; omega)).symm
                        · skip
                          exfalso
                          omega
                    · skip
                      refine g_iconst C (n' := 50) dX8_isWord_49 rfl ?_
                      refine g_goto C 54 dX8_isWord_50 (by decide) ?_
                      refine g_istore_n C (n' := 55) [(2, .int (iI 1)), (3, .int (iI 2)), (0, .ref (q 99)), (1, .ref (q 28))] dX8_isWord_54 rfl rfl (by decide) rfl ?_
                      refine g_iinc C (n' := 58) 1 [(3, .int (iI 3)), (2, .int (iI 1)), (0, .ref (q 99)), (1, .ref (q 28))] rfl dX8_isWord_55 rfl (by decide) rfl ?_
                      refine g_goto C 22 dX8_isWord_58 (by decide) ?_
                      refine g_iload_n C (n' := 23) 0 rfl dX8_isWord_22 rfl rfl ?_
                      refine g_aload_n C (n' := 24) 3 rfl dX8_isWord_23 rfl rfl ?_
                      refine g_alen C (n' := 25) 16 0 rfl rfl (v := 6) rfl dX8_isWord_24 rfl ?_
                      refine g_icmp_ge C (n' := 28) 61 dX8_isWord_25 (by decide) rfl (by unfold inR; omega) (by unfold inR; omega) (fun c19 => ?_) (fun c19 => ?_)
                      · skip
                        exfalso
                        omega
                      · skip
                        refine g_iload_n C (n' := 29) 1 rfl dX8_isWord_28 rfl rfl ?_
                        refine g_if_eq C (n' := 32) 61 dX8_isWord_29 (by decide) rfl (by unfold inR; omega) (fun c20 => ?_) (fun c20 => ?_)
                        · skip
                          exfalso
                          omega
                        · skip
                          refine g_aload_n C (n' := 33) 2 rfl dX8_isWord_32 rfl rfl ?_
                          refine g_get C (n' := 36) (Cn := RX8) (T := TX8) (N := 35) (ci := 6) (v := .ref (q 10)) ga_X8 0 rfl rfl 10 (by decide) kw_700 rfl rfl dX8_isWord_33 rfl ?_
                          refine g_aload_n C (n' := 37) 2 rfl dX8_isWord_36 rfl rfl ?_
                          refine g_get C (n' := 40) (Cn := RX8) (T := TX8) (N := 35) (ci := 6) (v := .int (iI (I 16))) ga_X8 0 rfl rfl 16 (by decide) kw_706 rfl rfl dX8_isWord_37 rfl ?_
                          have h_37 := hI 16
                          refine g_iload_n C (n' := 41) 0 rfl dX8_isWord_40 rfl rfl ?_
                          refine g_iadd C (n' := 42) dX8_isWord_41 rfl ?_
                          refine g_iald C (n' := 43) (f := (A 10)) 5 0 rfl rfl (by omega) (by omega) (by decide) rfl dX8_isWord_42 rfl ?_
                          have h_42 := hA 10 (((I 16) + 3).toNat)
                          refine g_aload_n C (n' := 44) 3 rfl dX8_isWord_43 rfl rfl ?_
                          refine g_iload_n C (n' := 45) 0 rfl dX8_isWord_44 rfl rfl ?_
                          refine g_ialdN C (n' := 46) (f := (A 28)) (j := 3) 16 0 rfl rfl (by omega) (by decide) rfl dX8_isWord_45 rfl ?_
                          have h_45 := hA 28 3
                          refine g_icmp_ne C (n' := 49) 53 dX8_isWord_46 (by decide) rfl (by unfold inR; omega) (by unfold inR; omega) (fun c21 => ?_) (fun c21 => ?_)
                          · skip
                            refine g_iconst C (n' := 54) dX8_isWord_53 rfl ?_
                            refine g_istore_n C (n' := 55) [(2, .int (iI 0)), (3, .int (iI 3)), (0, .ref (q 99)), (1, .ref (q 28))] dX8_isWord_54 rfl rfl (by decide) rfl ?_
                            refine g_iinc C (n' := 58) 1 [(3, .int (iI 4)), (2, .int (iI 0)), (0, .ref (q 99)), (1, .ref (q 28))] rfl dX8_isWord_55 rfl (by decide) rfl ?_
                            refine g_goto C 22 dX8_isWord_58 (by decide) ?_
                            refine g_iload_n C (n' := 23) 0 rfl dX8_isWord_22 rfl rfl ?_
                            refine g_aload_n C (n' := 24) 3 rfl dX8_isWord_23 rfl rfl ?_
                            refine g_alen C (n' := 25) 16 0 rfl rfl (v := 6) rfl dX8_isWord_24 rfl ?_
                            refine g_icmp_ge C (n' := 28) 61 dX8_isWord_25 (by decide) rfl (by unfold inR; omega) (by unfold inR; omega) (fun c22 => ?_) (fun c22 => ?_)
                            · skip
                              exfalso
                              omega
                            · skip
                              refine g_iload_n C (n' := 29) 1 rfl dX8_isWord_28 rfl rfl ?_
                              refine g_if_eq C (n' := 32) 61 dX8_isWord_29 (by decide) rfl (by unfold inR; omega) (fun c23 => ?_) (fun c23 => ?_)
                              · skip
                                refine g_iload_n C (n' := 62) 1 rfl dX8_isWord_61 rfl rfl ?_
                                refine g_iret C hr hlk (nar_z (by omega)) ⟨congrArg (fun z : Int => some (Value.int (iI z))) ?_, rfl⟩ dX8_isWord_62
                                exact (if_neg (fun z => by have z2 := (t_is_5 _ _ _).mp z; omega)).symm
                              · skip
                                exfalso
                                omega
                          · skip
                            refine g_iconst C (n' := 50) dX8_isWord_49 rfl ?_
                            refine g_goto C 54 dX8_isWord_50 (by decide) ?_
                            refine g_istore_n C (n' := 55) [(2, .int (iI 1)), (3, .int (iI 3)), (0, .ref (q 99)), (1, .ref (q 28))] dX8_isWord_54 rfl rfl (by decide) rfl ?_
                            refine g_iinc C (n' := 58) 1 [(3, .int (iI 4)), (2, .int (iI 1)), (0, .ref (q 99)), (1, .ref (q 28))] rfl dX8_isWord_55 rfl (by decide) rfl ?_
                            refine g_goto C 22 dX8_isWord_58 (by decide) ?_
                            refine g_iload_n C (n' := 23) 0 rfl dX8_isWord_22 rfl rfl ?_
                            refine g_aload_n C (n' := 24) 3 rfl dX8_isWord_23 rfl rfl ?_
                            refine g_alen C (n' := 25) 16 0 rfl rfl (v := 6) rfl dX8_isWord_24 rfl ?_
                            refine g_icmp_ge C (n' := 28) 61 dX8_isWord_25 (by decide) rfl (by unfold inR; omega) (by unfold inR; omega) (fun c24 => ?_) (fun c24 => ?_)
                            · skip
                              exfalso
                              omega
                            · skip
                              refine g_iload_n C (n' := 29) 1 rfl dX8_isWord_28 rfl rfl ?_
                              refine g_if_eq C (n' := 32) 61 dX8_isWord_29 (by decide) rfl (by unfold inR; omega) (fun c25 => ?_) (fun c25 => ?_)
                              · skip
                                exfalso
                                omega
                              · skip
                                refine g_aload_n C (n' := 33) 2 rfl dX8_isWord_32 rfl rfl ?_
                                refine g_get C (n' := 36) (Cn := RX8) (T := TX8) (N := 35) (ci := 6) (v := .ref (q 10)) ga_X8 0 rfl rfl 10 (by decide) kw_700 rfl rfl dX8_isWord_33 rfl ?_
                                refine g_aload_n C (n' := 37) 2 rfl dX8_isWord_36 rfl rfl ?_
                                refine g_get C (n' := 40) (Cn := RX8) (T := TX8) (N := 35) (ci := 6) (v := .int (iI (I 16))) ga_X8 0 rfl rfl 16 (by decide) kw_706 rfl rfl dX8_isWord_37 rfl ?_
                                have h_37 := hI 16
                                refine g_iload_n C (n' := 41) 0 rfl dX8_isWord_40 rfl rfl ?_
                                refine g_iadd C (n' := 42) dX8_isWord_41 rfl ?_
                                refine g_iald C (n' := 43) (f := (A 10)) 5 0 rfl rfl (by omega) (by omega) (by decide) rfl dX8_isWord_42 rfl ?_
                                have h_42 := hA 10 (((I 16) + 4).toNat)
                                refine g_aload_n C (n' := 44) 3 rfl dX8_isWord_43 rfl rfl ?_
                                refine g_iload_n C (n' := 45) 0 rfl dX8_isWord_44 rfl rfl ?_
                                refine g_ialdN C (n' := 46) (f := (A 28)) (j := 4) 16 0 rfl rfl (by omega) (by decide) rfl dX8_isWord_45 rfl ?_
                                have h_45 := hA 28 4
                                refine g_icmp_ne C (n' := 49) 53 dX8_isWord_46 (by decide) rfl (by unfold inR; omega) (by unfold inR; omega) (fun c26 => ?_) (fun c26 => ?_)
                                · skip
                                  refine g_iconst C (n' := 54) dX8_isWord_53 rfl ?_
                                  refine g_istore_n C (n' := 55) [(2, .int (iI 0)), (3, .int (iI 4)), (0, .ref (q 99)), (1, .ref (q 28))] dX8_isWord_54 rfl rfl (by decide) rfl ?_
                                  refine g_iinc C (n' := 58) 1 [(3, .int (iI 5)), (2, .int (iI 0)), (0, .ref (q 99)), (1, .ref (q 28))] rfl dX8_isWord_55 rfl (by decide) rfl ?_
                                  refine g_goto C 22 dX8_isWord_58 (by decide) ?_
                                  refine g_iload_n C (n' := 23) 0 rfl dX8_isWord_22 rfl rfl ?_
                                  refine g_aload_n C (n' := 24) 3 rfl dX8_isWord_23 rfl rfl ?_
                                  refine g_alen C (n' := 25) 16 0 rfl rfl (v := 6) rfl dX8_isWord_24 rfl ?_
                                  refine g_icmp_ge C (n' := 28) 61 dX8_isWord_25 (by decide) rfl (by unfold inR; omega) (by unfold inR; omega) (fun c27 => ?_) (fun c27 => ?_)
                                  · skip
                                    exfalso
                                    omega
                                  · skip
                                    refine g_iload_n C (n' := 29) 1 rfl dX8_isWord_28 rfl rfl ?_
                                    refine g_if_eq C (n' := 32) 61 dX8_isWord_29 (by decide) rfl (by unfold inR; omega) (fun c28 => ?_) (fun c28 => ?_)
                                    · skip
                                      refine g_iload_n C (n' := 62) 1 rfl dX8_isWord_61 rfl rfl ?_
                                      refine g_iret C hr hlk (nar_z (by omega)) ⟨congrArg (fun z : Int => some (Value.int (iI z))) ?_, rfl⟩ dX8_isWord_62
                                      exact (if_neg (fun z => by have z2 := (t_is_5 _ _ _).mp z; omega)).symm
                                    · skip
                                      exfalso
                                      omega
                                · skip
                                  refine g_iconst C (n' := 50) dX8_isWord_49 rfl ?_
                                  refine g_goto C 54 dX8_isWord_50 (by decide) ?_
                                  refine g_istore_n C (n' := 55) [(2, .int (iI 1)), (3, .int (iI 4)), (0, .ref (q 99)), (1, .ref (q 28))] dX8_isWord_54 rfl rfl (by decide) rfl ?_
                                  refine g_iinc C (n' := 58) 1 [(3, .int (iI 5)), (2, .int (iI 1)), (0, .ref (q 99)), (1, .ref (q 28))] rfl dX8_isWord_55 rfl (by decide) rfl ?_
                                  refine g_goto C 22 dX8_isWord_58 (by decide) ?_
                                  refine g_iload_n C (n' := 23) 0 rfl dX8_isWord_22 rfl rfl ?_
                                  refine g_aload_n C (n' := 24) 3 rfl dX8_isWord_23 rfl rfl ?_
                                  refine g_alen C (n' := 25) 16 0 rfl rfl (v := 6) rfl dX8_isWord_24 rfl ?_
                                  refine g_icmp_ge C (n' := 28) 61 dX8_isWord_25 (by decide) rfl (by unfold inR; omega) (by unfold inR; omega) (fun c29 => ?_) (fun c29 => ?_)
                                  · skip
                                    exfalso
                                    omega
                                  · skip
                                    refine g_iload_n C (n' := 29) 1 rfl dX8_isWord_28 rfl rfl ?_
                                    refine g_if_eq C (n' := 32) 61 dX8_isWord_29 (by decide) rfl (by unfold inR; omega) (fun c30 => ?_) (fun c30 => ?_)
                                    · skip
                                      exfalso
                                      omega
                                    · skip
                                      refine g_aload_n C (n' := 33) 2 rfl dX8_isWord_32 rfl rfl ?_
                                      refine g_get C (n' := 36) (Cn := RX8) (T := TX8) (N := 35) (ci := 6) (v := .ref (q 10)) ga_X8 0 rfl rfl 10 (by decide) kw_700 rfl rfl dX8_isWord_33 rfl ?_
                                      refine g_aload_n C (n' := 37) 2 rfl dX8_isWord_36 rfl rfl ?_
                                      refine g_get C (n' := 40) (Cn := RX8) (T := TX8) (N := 35) (ci := 6) (v := .int (iI (I 16))) ga_X8 0 rfl rfl 16 (by decide) kw_706 rfl rfl dX8_isWord_37 rfl ?_
                                      have h_37 := hI 16
                                      refine g_iload_n C (n' := 41) 0 rfl dX8_isWord_40 rfl rfl ?_
                                      refine g_iadd C (n' := 42) dX8_isWord_41 rfl ?_
                                      refine g_iald C (n' := 43) (f := (A 10)) 5 0 rfl rfl (by omega) (by omega) (by decide) rfl dX8_isWord_42 rfl ?_
                                      have h_42 := hA 10 (((I 16) + 5).toNat)
                                      refine g_aload_n C (n' := 44) 3 rfl dX8_isWord_43 rfl rfl ?_
                                      refine g_iload_n C (n' := 45) 0 rfl dX8_isWord_44 rfl rfl ?_
                                      refine g_ialdN C (n' := 46) (f := (A 28)) (j := 5) 16 0 rfl rfl (by omega) (by decide) rfl dX8_isWord_45 rfl ?_
                                      have h_45 := hA 28 5
                                      refine g_icmp_ne C (n' := 49) 53 dX8_isWord_46 (by decide) rfl (by unfold inR; omega) (by unfold inR; omega) (fun c31 => ?_) (fun c31 => ?_)
                                      · skip
                                        refine g_iconst C (n' := 54) dX8_isWord_53 rfl ?_
                                        refine g_istore_n C (n' := 55) [(2, .int (iI 0)), (3, .int (iI 5)), (0, .ref (q 99)), (1, .ref (q 28))] dX8_isWord_54 rfl rfl (by decide) rfl ?_
                                        refine g_iinc C (n' := 58) 1 [(3, .int (iI 6)), (2, .int (iI 0)), (0, .ref (q 99)), (1, .ref (q 28))] rfl dX8_isWord_55 rfl (by decide) rfl ?_
                                        refine g_goto C 22 dX8_isWord_58 (by decide) ?_
                                        refine g_iload_n C (n' := 23) 0 rfl dX8_isWord_22 rfl rfl ?_
                                        refine g_aload_n C (n' := 24) 3 rfl dX8_isWord_23 rfl rfl ?_
                                        refine g_alen C (n' := 25) 16 0 rfl rfl (v := 6) rfl dX8_isWord_24 rfl ?_
                                        refine g_icmp_ge C (n' := 28) 61 dX8_isWord_25 (by decide) rfl (by unfold inR; omega) (by unfold inR; omega) (fun c32 => ?_) (fun c32 => ?_)
                                        · skip
                                          refine g_iload_n C (n' := 62) 1 rfl dX8_isWord_61 rfl rfl ?_
                                          refine g_iret C hr hlk (nar_z (by omega)) ⟨congrArg (fun z : Int => some (Value.int (iI z))) ?_, rfl⟩ dX8_isWord_62
                                          exact (if_neg (fun z => by have z2 := (t_is_5 _ _ _).mp z; omega)).symm
                                        · skip
                                          exfalso
                                          omega
                                      · skip
                                        refine g_iconst C (n' := 50) dX8_isWord_49 rfl ?_
                                        refine g_goto C 54 dX8_isWord_50 (by decide) ?_
                                        refine g_istore_n C (n' := 55) [(2, .int (iI 1)), (3, .int (iI 5)), (0, .ref (q 99)), (1, .ref (q 28))] dX8_isWord_54 rfl rfl (by decide) rfl ?_
                                        refine g_iinc C (n' := 58) 1 [(3, .int (iI 6)), (2, .int (iI 1)), (0, .ref (q 99)), (1, .ref (q 28))] rfl dX8_isWord_55 rfl (by decide) rfl ?_
                                        refine g_goto C 22 dX8_isWord_58 (by decide) ?_
                                        refine g_iload_n C (n' := 23) 0 rfl dX8_isWord_22 rfl rfl ?_
                                        refine g_aload_n C (n' := 24) 3 rfl dX8_isWord_23 rfl rfl ?_
                                        refine g_alen C (n' := 25) 16 0 rfl rfl (v := 6) rfl dX8_isWord_24 rfl ?_
                                        refine g_icmp_ge C (n' := 28) 61 dX8_isWord_25 (by decide) rfl (by unfold inR; omega) (by unfold inR; omega) (fun c33 => ?_) (fun c33 => ?_)
                                        · skip
                                          refine g_iload_n C (n' := 62) 1 rfl dX8_isWord_61 rfl rfl ?_
                                          refine g_iret C hr hlk (nar_z (by omega)) ⟨congrArg (fun z : Int => some (Value.int (iI z))) ?_, rfl⟩ dX8_isWord_62
                                          exact (if_pos ((t_is_5 _ _ _).mpr (by refine ⟨by omega, ?_⟩; omega))).symm
                                        · skip
                                          exfalso
                                          omega
set_option maxRecDepth 100000 in
set_option maxHeartbeats 4000000 in
theorem c_X8_wordHere (l : Launch) (D : va_G) (Y : Nat → ClassId) {E : (Nat → Prop) → State → Heap → Prop} (hE : g_Stab E) (q : Nat → Nat) (I : Nat → Int) (A : Nat → Nat → Int) (F : Nat → UInt32) (Dd : Nat → UInt64) (hsI : smI I) (hsA : smA A) (hT : mtk I) (hw : mwOK A) : g_Ct l yX8_wordHere cX8_wordHere 1 (some FieldType.int) ({ frames := 1, cells := 0, slots := 0, locals := 23 } : Room) D (tysY Y) E [.ref (q 99)] (wMod q Y I A F Dd) 0 0 (g_det (some (.int (iI (t_word (A 10) (I 16) (I 17))))) (wMod q Y I A F Dd)) := by
  refine g_ofG (own := RX8) hE (by decide) rfl (Nat.le_of_ble_eq_true rfl) [(0, .ref (q 99))] rfl ?_
  intro p9 e9 s9 m9 b9 t9 c9 A9 C hr hlk hnm
  have hI := hsI
  have hA := hsA
  unfold smI at hI
  unfold smA at hA
  have hT9 := hT
  unfold mtk at hT9
  refine g_aload_n C (n' := 1) 0 rfl dX8_wordHere_0 rfl rfl ?_
  refine g_aload_n C (n' := 2) 0 rfl dX8_wordHere_1 rfl rfl ?_
  refine g_get C (n' := 5) (Cn := RX8) (T := TX8) (N := 35) (ci := 6) (v := .ref (q 23)) ga_X8 0 rfl rfl 23 (by decide) kw_713 rfl rfl dX8_wordHere_2 rfl ?_
  refine g_cVv C (n' := 8) (v := .int (iI (if t_is ((A 10)) ((I 16)) ((I 17)) t_w0 = true then 1 else 0))) (c_X8_isWord_0 l D Y C.2.2.2.2.2.2.2.2.1 q I A F Dd hsI hsA hT hw) 1 kw_839 kc_X8_isWord (by decide +kernel) (pm0 _) 0 (ci := 6) rfl rfl rfl rfl ⟨Nat.le_of_ble_eq_true rfl, Nat.le_of_ble_eq_true rfl⟩ ⟨rfl, rfl⟩ ⟨Nat.le_of_ble_eq_true rfl, Nat.le_of_ble_eq_true rfl⟩ (Nat.le_of_ble_eq_true rfl) dX8_wordHere_5 rfl rfl (wMod q Y I A F Dd) (pm0' _) ?_
  refine g_if_eq C (n' := 11) 15 dX8_wordHere_8 (by decide) rfl bz_r (fun c1 => ?_) (fun c1 => ?_)
  · skip
    replace c1 := bz_eq.mp c1
    refine g_aload_n C (n' := 16) 0 rfl dX8_wordHere_15 rfl rfl ?_
    refine g_aload_n C (n' := 17) 0 rfl dX8_wordHere_16 rfl rfl ?_
    refine g_get C (n' := 20) (Cn := RX8) (T := TX8) (N := 35) (ci := 6) (v := .ref (q 24)) ga_X8 0 rfl rfl 24 (by decide) kw_714 rfl rfl dX8_wordHere_17 rfl ?_
    refine g_cVv C (n' := 23) (v := .int (iI (if t_is ((A 10)) ((I 16)) ((I 17)) t_w1 = true then 1 else 0))) (c_X8_isWord_1 l D Y C.2.2.2.2.2.2.2.2.1 q I A F Dd hsI hsA hT hw) 1 kw_839 kc_X8_isWord (by decide +kernel) (pm0 _) 0 (ci := 6) rfl rfl rfl rfl ⟨Nat.le_of_ble_eq_true rfl, Nat.le_of_ble_eq_true rfl⟩ ⟨rfl, rfl⟩ ⟨Nat.le_of_ble_eq_true rfl, Nat.le_of_ble_eq_true rfl⟩ (Nat.le_of_ble_eq_true rfl) dX8_wordHere_20 rfl rfl (wMod q Y I A F Dd) (pm0' _) ?_
    refine g_if_eq C (n' := 26) 30 dX8_wordHere_23 (by decide) rfl bz_r (fun c2 => ?_) (fun c2 => ?_)
    · skip
      replace c2 := bz_eq.mp c2
      refine g_aload_n C (n' := 31) 0 rfl dX8_wordHere_30 rfl rfl ?_
      refine g_aload_n C (n' := 32) 0 rfl dX8_wordHere_31 rfl rfl ?_
      refine g_get C (n' := 35) (Cn := RX8) (T := TX8) (N := 35) (ci := 6) (v := .ref (q 25)) ga_X8 0 rfl rfl 25 (by decide) kw_715 rfl rfl dX8_wordHere_32 rfl ?_
      refine g_cVv C (n' := 38) (v := .int (iI (if t_is ((A 10)) ((I 16)) ((I 17)) t_w2 = true then 1 else 0))) (c_X8_isWord_2 l D Y C.2.2.2.2.2.2.2.2.1 q I A F Dd hsI hsA hT hw) 1 kw_839 kc_X8_isWord (by decide +kernel) (pm0 _) 0 (ci := 6) rfl rfl rfl rfl ⟨Nat.le_of_ble_eq_true rfl, Nat.le_of_ble_eq_true rfl⟩ ⟨rfl, rfl⟩ ⟨Nat.le_of_ble_eq_true rfl, Nat.le_of_ble_eq_true rfl⟩ (Nat.le_of_ble_eq_true rfl) dX8_wordHere_35 rfl rfl (wMod q Y I A F Dd) (pm0' _) ?_
      refine g_if_eq C (n' := 41) 45 dX8_wordHere_38 (by decide) rfl bz_r (fun c3 => ?_) (fun c3 => ?_)
      · skip
        replace c3 := bz_eq.mp c3
        refine g_aload_n C (n' := 46) 0 rfl dX8_wordHere_45 rfl rfl ?_
        refine g_aload_n C (n' := 47) 0 rfl dX8_wordHere_46 rfl rfl ?_
        refine g_get C (n' := 50) (Cn := RX8) (T := TX8) (N := 35) (ci := 6) (v := .ref (q 26)) ga_X8 0 rfl rfl 26 (by decide) kw_716 rfl rfl dX8_wordHere_47 rfl ?_
        refine g_cVv C (n' := 53) (v := .int (iI (if t_is ((A 10)) ((I 16)) ((I 17)) t_w3 = true then 1 else 0))) (c_X8_isWord_3 l D Y C.2.2.2.2.2.2.2.2.1 q I A F Dd hsI hsA hT hw) 1 kw_839 kc_X8_isWord (by decide +kernel) (pm0 _) 0 (ci := 6) rfl rfl rfl rfl ⟨Nat.le_of_ble_eq_true rfl, Nat.le_of_ble_eq_true rfl⟩ ⟨rfl, rfl⟩ ⟨Nat.le_of_ble_eq_true rfl, Nat.le_of_ble_eq_true rfl⟩ (Nat.le_of_ble_eq_true rfl) dX8_wordHere_50 rfl rfl (wMod q Y I A F Dd) (pm0' _) ?_
        refine g_if_eq C (n' := 56) 60 dX8_wordHere_53 (by decide) rfl bz_r (fun c4 => ?_) (fun c4 => ?_)
        · skip
          replace c4 := bz_eq.mp c4
          refine g_aload_n C (n' := 61) 0 rfl dX8_wordHere_60 rfl rfl ?_
          refine g_aload_n C (n' := 62) 0 rfl dX8_wordHere_61 rfl rfl ?_
          refine g_get C (n' := 65) (Cn := RX8) (T := TX8) (N := 35) (ci := 6) (v := .ref (q 27)) ga_X8 0 rfl rfl 27 (by decide) kw_717 rfl rfl dX8_wordHere_62 rfl ?_
          refine g_cVv C (n' := 68) (v := .int (iI (if t_is ((A 10)) ((I 16)) ((I 17)) t_w4 = true then 1 else 0))) (c_X8_isWord_4 l D Y C.2.2.2.2.2.2.2.2.1 q I A F Dd hsI hsA hT hw) 1 kw_839 kc_X8_isWord (by decide +kernel) (pm0 _) 0 (ci := 6) rfl rfl rfl rfl ⟨Nat.le_of_ble_eq_true rfl, Nat.le_of_ble_eq_true rfl⟩ ⟨rfl, rfl⟩ ⟨Nat.le_of_ble_eq_true rfl, Nat.le_of_ble_eq_true rfl⟩ (Nat.le_of_ble_eq_true rfl) dX8_wordHere_65 rfl rfl (wMod q Y I A F Dd) (pm0' _) ?_
          refine g_if_eq C (n' := 71) 75 dX8_wordHere_68 (by decide) rfl bz_r (fun c5 => ?_) (fun c5 => ?_)
          · skip
            replace c5 := bz_eq.mp c5
            refine g_aload_n C (n' := 76) 0 rfl dX8_wordHere_75 rfl rfl ?_
            refine g_aload_n C (n' := 77) 0 rfl dX8_wordHere_76 rfl rfl ?_
            refine g_get C (n' := 80) (Cn := RX8) (T := TX8) (N := 35) (ci := 6) (v := .ref (q 28)) ga_X8 0 rfl rfl 28 (by decide) kw_718 rfl rfl dX8_wordHere_77 rfl ?_
            refine g_cVv C (n' := 83) (v := .int (iI (if t_is ((A 10)) ((I 16)) ((I 17)) t_w5 = true then 1 else 0))) (c_X8_isWord_5 l D Y C.2.2.2.2.2.2.2.2.1 q I A F Dd hsI hsA hT hw) 1 kw_839 kc_X8_isWord (by decide +kernel) (pm0 _) 0 (ci := 6) rfl rfl rfl rfl ⟨Nat.le_of_ble_eq_true rfl, Nat.le_of_ble_eq_true rfl⟩ ⟨rfl, rfl⟩ ⟨Nat.le_of_ble_eq_true rfl, Nat.le_of_ble_eq_true rfl⟩ (Nat.le_of_ble_eq_true rfl) dX8_wordHere_80 rfl rfl (wMod q Y I A F Dd) (pm0' _) ?_
            refine g_if_eq C (n' := 86) 90 dX8_wordHere_83 (by decide) rfl bz_r (fun c6 => ?_) (fun c6 => ?_)
            · skip
              replace c6 := bz_eq.mp c6
              refine g_iconst C (n' := 91) dX8_wordHere_90 rfl ?_
              refine g_iret C hr hlk rfl ⟨congrArg (fun z : Int => some (Value.int (iI z))) ?_, rfl⟩ dX8_wordHere_91
              unfold t_word
              rw [if_neg c1]
              rw [if_neg c2]
              rw [if_neg c3]
              rw [if_neg c4]
              rw [if_neg c5]
              rw [if_neg c6]
            · skip
              replace c6 := bz_neq.mp c6
              refine g_iconst C (n' := 87) dX8_wordHere_86 rfl ?_
              refine g_goto C 91 dX8_wordHere_87 (by decide) ?_
              refine g_iret C hr hlk rfl ⟨congrArg (fun z : Int => some (Value.int (iI z))) ?_, rfl⟩ dX8_wordHere_91
              unfold t_word
              rw [if_neg c1]
              rw [if_neg c2]
              rw [if_neg c3]
              rw [if_neg c4]
              rw [if_neg c5]
              rw [if_pos c6]
          · skip
            replace c5 := bz_neq.mp c5
            refine g_iconst C (n' := 72) dX8_wordHere_71 rfl ?_
            refine g_goto C 91 dX8_wordHere_72 (by decide) ?_
            refine g_iret C hr hlk rfl ⟨congrArg (fun z : Int => some (Value.int (iI z))) ?_, rfl⟩ dX8_wordHere_91
            unfold t_word
            rw [if_neg c1]
            rw [if_neg c2]
            rw [if_neg c3]
            rw [if_neg c4]
            rw [if_pos c5]
        · skip
          replace c4 := bz_neq.mp c4
          refine g_iconst C (n' := 57) dX8_wordHere_56 rfl ?_
          refine g_goto C 91 dX8_wordHere_57 (by decide) ?_
          refine g_iret C hr hlk rfl ⟨congrArg (fun z : Int => some (Value.int (iI z))) ?_, rfl⟩ dX8_wordHere_91
          unfold t_word
          rw [if_neg c1]
          rw [if_neg c2]
          rw [if_neg c3]
          rw [if_pos c4]
      · skip
        replace c3 := bz_neq.mp c3
        refine g_iconst C (n' := 42) dX8_wordHere_41 rfl ?_
        refine g_goto C 91 dX8_wordHere_42 (by decide) ?_
        refine g_iret C hr hlk rfl ⟨congrArg (fun z : Int => some (Value.int (iI z))) ?_, rfl⟩ dX8_wordHere_91
        unfold t_word
        rw [if_neg c1]
        rw [if_neg c2]
        rw [if_pos c3]
    · skip
      replace c2 := bz_neq.mp c2
      refine g_iconst C (n' := 27) dX8_wordHere_26 rfl ?_
      refine g_goto C 91 dX8_wordHere_27 (by decide) ?_
      refine g_iret C hr hlk rfl ⟨congrArg (fun z : Int => some (Value.int (iI z))) ?_, rfl⟩ dX8_wordHere_91
      unfold t_word
      rw [if_neg c1]
      rw [if_pos c2]
  · skip
    replace c1 := bz_neq.mp c1
    refine g_iconst C (n' := 12) dX8_wordHere_11 rfl ?_
    refine g_goto C 91 dX8_wordHere_12 (by decide) ?_
    refine g_iret C hr hlk rfl ⟨congrArg (fun z : Int => some (Value.int (iI z))) ?_, rfl⟩ dX8_wordHere_91
    unfold t_word
    rw [if_pos c1]
set_option maxRecDepth 100000 in
set_option maxHeartbeats 4000000 in
theorem lp_X8_num_0 {p9 : Program} {l : Launch} {e9 : Env} {s9 : State} {m9 : MethodId} {a9 : Array Value} {b9 : List Frame} {t9 : Method} {c9 : Code} {D : va_G} {A9 : Nat → Prop} {Q9 : State → Prop} {E : (Nat → Prop) → State → Heap → Prop} {Y : Nat → ClassId} (C : g_Cx p9 s9 m9 a9 c9 cX8_number 6 RX8 D (tysY Y) A9 E) (q : Nat → Nat) (I : Nat → Int) (A : Nat → Nat → Int) (F : Nat → UInt32) (Dd : Nat → UInt64) (lo hi : Int) (hsI : smI I) (hsA : smA A) (hT : mtk I) (h3 : I 17 - I 16 ≤ 3) : ∀ (n9 : Nat) (k : Nat), (k : Int) + n9 = I 17 - I 16 → (g_G p9 l e9 ({ frames := 3, cells := 0, slots := 0, locals := 65 } : Room) s9 m9 a9 b9 t9 c9 6 D A9 Q9 0 0 (wMod q Y I A F Dd) [(5, .int (iI (I 16 + (((I 17 - I 16).toNat : Nat) : Int)))), (4, .int (iI (t_val (A 10) (I 16).toNat ((I 17 - I 16).toNat)))), (0, .ref (q 99)), (1, .int (iI 0)), (2, .int (iI lo)), (3, .int (iI hi))] 83 []) → g_G p9 l e9 ({ frames := 3, cells := 0, slots := 0, locals := 65 } : Room) s9 m9 a9 b9 t9 c9 6 D A9 Q9 0 0 (wMod q Y I A F Dd) [(5, .int (iI (I 16 + ((k : Nat) : Int)))), (4, .int (iI (t_val (A 10) (I 16).toNat k))), (0, .ref (q 99)), (1, .int (iI 0)), (2, .int (iI lo)), (3, .int (iI hi))] 50 [] := by
  have hE := C.2.2.2.2.2.2.2.2.1
  intro n9
  induction n9 with
  | zero =>
    intro k hk K
    have hI := hsI
    have hA := hsA
    unfold smI at hI
    unfold smA at hA
    have hT9 := hT
    unfold mtk at hT9
    refine g_iload C (n' := 52) 0 rfl dX8_number_50 rfl ?_
    refine g_aload_n C (n' := 53) 2 rfl dX8_number_52 rfl rfl ?_
    refine g_get C (n' := 56) (Cn := RX8) (T := TX8) (N := 35) (ci := 6) (v := .int (iI (I 17))) ga_X8 0 rfl rfl 17 (by decide) kw_707 rfl rfl dX8_number_53 rfl ?_
    have h_53 := hI 17
    refine g_icmp_ge C (n' := 59) 83 dX8_number_56 (by decide) rfl (by unfold inR; omega) (by unfold inR; omega) (fun c1 => ?_) (fun c1 => ?_)
    · skip
      have ek : (I 17 - I 16).toNat = k := by omega
      rw [ek] at K
      exact K
    · skip
      exfalso
      omega
  | succ n9 ih =>
    intro k hk K
    have hI := hsI
    have hA := hsA
    unfold smI at hI
    unfold smA at hA
    have hT9 := hT
    unfold mtk at hT9
    have hv := t_val_s (fun j => hA 10 j) (I 16).toNat k (by omega)
    refine g_iload C (n' := 52) 0 rfl dX8_number_50 rfl ?_
    refine g_aload_n C (n' := 53) 2 rfl dX8_number_52 rfl rfl ?_
    refine g_get C (n' := 56) (Cn := RX8) (T := TX8) (N := 35) (ci := 6) (v := .int (iI (I 17))) ga_X8 0 rfl rfl 17 (by decide) kw_707 rfl rfl dX8_number_53 rfl ?_
    have h_53 := hI 17
    refine g_icmp_ge C (n' := 59) 83 dX8_number_56 (by decide) rfl (by unfold inR; omega) (by unfold inR; omega) (fun c1 => ?_) (fun c1 => ?_)
    · skip
      exfalso
      omega
    · skip
      refine g_bipush C (n' := 61) (by decide) dX8_number_59 rfl ?_
      refine g_iload C (n' := 63) 1 rfl dX8_number_61 rfl ?_
      refine g_imul C (n' := 64) dX8_number_63 rfl ?_
      refine g_aload_n C (n' := 65) 2 rfl dX8_number_64 rfl rfl ?_
      refine g_get C (n' := 68) (Cn := RX8) (T := TX8) (N := 35) (ci := 6) (v := .ref (q 10)) ga_X8 0 rfl rfl 10 (by decide) kw_700 rfl rfl dX8_number_65 rfl ?_
      refine g_iload C (n' := 70) 0 rfl dX8_number_68 rfl ?_
      refine g_iald C (n' := 71) (f := (A 10)) 5 0 rfl rfl (by omega) (by omega) (by decide) rfl dX8_number_70 rfl ?_
      have h_70 := hA 10 ((I 16 + ((k : Nat) : Int)).toNat)
      refine g_iadd C (n' := 72) dX8_number_71 rfl ?_
      refine g_bipush C (n' := 74) (by decide) dX8_number_72 rfl ?_
      refine g_isub C (n' := 75) dX8_number_74 rfl ?_
      refine g_istore C (n' := 77) [(4, .int (iI (((10 * (t_val (A 10) (I 16).toNat k)) + ((A 10) (I 16 + ((k : Nat) : Int)).toNat)) - 48))), (5, .int (iI (I 16 + ((k : Nat) : Int)))), (0, .ref (q 99)), (1, .int (iI 0)), (2, .int (iI lo)), (3, .int (iI hi))] dX8_number_75 rfl (by decide) rfl ?_
      refine g_iinc C (n' := 80) 1 [(5, .int (iI ((I 16 + ((k : Nat) : Int)) + 1))), (4, .int (iI (((10 * (t_val (A 10) (I 16).toNat k)) + ((A 10) (I 16 + ((k : Nat) : Int)).toNat)) - 48))), (0, .ref (q 99)), (1, .int (iI 0)), (2, .int (iI lo)), (3, .int (iI hi))] rfl dX8_number_77 rfl (by decide) rfl ?_
      refine g_goto C 50 dX8_number_80 (by decide) ?_
      rw [show ((((10 * (t_val (A 10) (I 16).toNat k)) + ((A 10) (I 16 + ((k : Nat) : Int)).toNat)) - 48) : Int) = t_val (A 10) (I 16).toNat (k + 1) from by rw [t_val, show (I 16 + ((k : Nat) : Int)).toNat = (I 16).toNat + k by omega]; omega]
      rw [show (((I 16 + ((k : Nat) : Int)) + 1) : Int) = I 16 + ((k + 1 : Nat) : Int) from by omega]
      refine g_lv [0, 1, 2, 3, 4, 5] rfl ?_
      exact ih (k + 1) (by omega) K
set_option maxRecDepth 100000 in
set_option maxHeartbeats 4000000 in
theorem c_X8_number_0 (l : Launch) (D : va_G) (Y : Nat → ClassId) {E : (Nat → Prop) → State → Heap → Prop} (hE : g_Stab E) (q : Nat → Nat) (I : Nat → Int) (A : Nat → Nat → Int) (F : Nat → UInt32) (Dd : Nat → UInt64) (lo : Int) (hi : Int) (hsI : smI I) (hsA : smA A) (hT : mtk I) (hlo : 0 ≤ lo ∧ lo ≤ 1000) (hhi : -10 ≤ hi ∧ hi ≤ 1000) : g_Ct l yX8_number cX8_number 6 (some FieldType.boolean) ({ frames := 3, cells := 0, slots := 0, locals := 65 } : Room) D (tysY Y) E [.ref (q 99), .int (iI 0), .int (iI lo), .int (iI hi)] (wMod q Y I A F Dd) 0 0 (fun r9 w9 => ((t_num (A 10) (I 11) (I 16) (I 17) lo hi) = -1 ∧ r9 = some (.int (iI 0)) ∧ w9 = wMod q Y I A F Dd) ∨ (((t_num (A 10) (I 11) (I 16) (I 17) lo hi) ≠ -1 ∧ lo ≤ (t_num (A 10) (I 11) (I 16) (I 17) lo hi) ∧ (t_num (A 10) (I 11) (I 16) (I 17) lo hi) ≤ hi) ∧ r9 = some (.int (iI 1)) ∧ w9 = wMod q Y (sU (sU I 16 (tk1 (A 10) (I 11) (I 17))) 17 (tk2 (A 10) (I 11) (I 17))) (sU A 22 (sU (A 22) 0 (t_num (A 10) (I 11) (I 16) (I 17) lo hi))) F Dd)) := by
  refine g_ofG (own := RX8) hE (by decide) rfl (Nat.le_of_ble_eq_true rfl) [(0, .ref (q 99)), (1, .int (iI 0)), (2, .int (iI lo)), (3, .int (iI hi))] rfl ?_
  intro p9 e9 s9 m9 b9 t9 c9 A9 C hr hlk hnm
  have hI := hsI
  have hA := hsA
  unfold smI at hI
  unfold smA at hA
  have hT9 := hT
  unfold mtk at hT9
  refine g_aload_n C (n' := 1) 0 rfl dX8_number_0 rfl rfl ?_
  refine g_get C (n' := 4) (Cn := RX8) (T := TX8) (N := 35) (ci := 6) (v := .int (iI (I 16))) ga_X8 0 rfl rfl 16 (by decide) kw_706 rfl rfl dX8_number_1 rfl ?_
  have h_1 := hI 16
  refine g_aload_n C (n' := 5) 0 rfl dX8_number_4 rfl rfl ?_
  refine g_get C (n' := 8) (Cn := RX8) (T := TX8) (N := 35) (ci := 6) (v := .int (iI (I 11))) ga_X8 0 rfl rfl 11 (by decide) kw_701 rfl rfl dX8_number_5 rfl ?_
  have h_5 := hI 11
  refine g_icmp_eq C (n' := 11) 39 dX8_number_8 (by decide) rfl (by unfold inR; omega) (by unfold inR; omega) (fun c1 => ?_) (fun c1 => ?_)
  · skip
    refine g_iconst C (n' := 40) dX8_number_39 rfl ?_
    have hN : t_num (A 10) (I 11) (I 16) (I 17) lo hi = -1 := by
      unfold t_num
      (repeat' split) <;> first | rfl | omega
    exact g_iret C hr hlk (nar_z (by omega)) (Or.inl ⟨hN, rfl, rfl⟩) dX8_number_40
  · skip
    refine g_aload_n C (n' := 12) 0 rfl dX8_number_11 rfl rfl ?_
    refine g_get C (n' := 15) (Cn := RX8) (T := TX8) (N := 35) (ci := 6) (v := .ref (q 10)) ga_X8 0 rfl rfl 10 (by decide) kw_700 rfl rfl dX8_number_12 rfl ?_
    refine g_aload_n C (n' := 16) 0 rfl dX8_number_15 rfl rfl ?_
    refine g_get C (n' := 19) (Cn := RX8) (T := TX8) (N := 35) (ci := 6) (v := .int (iI (I 16))) ga_X8 0 rfl rfl 16 (by decide) kw_706 rfl rfl dX8_number_16 rfl ?_
    have h_16 := hI 16
    refine g_iald C (n' := 20) (f := (A 10)) 5 0 rfl rfl (by omega) (by omega) (by decide) rfl dX8_number_19 rfl ?_
    have h_19 := hA 10 ((I 16).toNat)
    refine g_cSv C (n' := 23) (v := .int (iI (if 48 ≤ ((A 10) (I 16).toNat) ∧ ((A 10) (I 16).toNat) ≤ 57 then 1 else 0))) (c_X8_isDigit l D Y C.2.2.2.2.2.2.2.2.1 ((A 10) (I 16).toNat) (by unfold inR at *; omega)) 1 kw_826 kc_X8_isDigit (by decide +kernel) (pm_n _) rfl ⟨Nat.le_of_ble_eq_true rfl, Nat.le_of_ble_eq_true rfl⟩ ⟨rfl, rfl⟩ ⟨Nat.le_of_ble_eq_true rfl, Nat.le_of_ble_eq_true rfl⟩ (Nat.le_of_ble_eq_true rfl) dX8_number_20 rfl rfl (wMod q Y I A F Dd) (pm_n _) ?_
    refine g_if_eq C (n' := 26) 39 dX8_number_23 (by decide) rfl bz_r (fun c2 => ?_) (fun c2 => ?_)
    · skip
      replace c2 := bz_eq.mp c2
      refine g_iconst C (n' := 40) dX8_number_39 rfl ?_
      have hN : t_num (A 10) (I 11) (I 16) (I 17) lo hi = -1 := by
        unfold t_num
        (repeat' split) <;> first | rfl | omega
      exact g_iret C hr hlk (nar_z (by omega)) (Or.inl ⟨hN, rfl, rfl⟩) dX8_number_40
    · skip
      replace c2 := bz_neq.mp c2
      refine g_aload_n C (n' := 27) 0 rfl dX8_number_26 rfl rfl ?_
      refine g_get C (n' := 30) (Cn := RX8) (T := TX8) (N := 35) (ci := 6) (v := .int (iI (I 17))) ga_X8 0 rfl rfl 17 (by decide) kw_707 rfl rfl dX8_number_27 rfl ?_
      have h_27 := hI 17
      refine g_aload_n C (n' := 31) 0 rfl dX8_number_30 rfl rfl ?_
      refine g_get C (n' := 34) (Cn := RX8) (T := TX8) (N := 35) (ci := 6) (v := .int (iI (I 16))) ga_X8 0 rfl rfl 16 (by decide) kw_706 rfl rfl dX8_number_31 rfl ?_
      have h_31 := hI 16
      refine g_isub C (n' := 35) dX8_number_34 rfl ?_
      refine g_iconst C (n' := 36) dX8_number_35 rfl ?_
      refine g_icmp_le C (n' := 39) 41 dX8_number_36 (by decide) rfl (by unfold inR; omega) (by unfold inR; omega) (fun c3 => ?_) (fun c3 => ?_)
      · skip
        refine g_iconst C (n' := 42) dX8_number_41 rfl ?_
        refine g_istore C (n' := 44) [(4, .int (iI 0)), (0, .ref (q 99)), (1, .int (iI 0)), (2, .int (iI lo)), (3, .int (iI hi))] dX8_number_42 rfl (by decide) rfl ?_
        refine g_aload_n C (n' := 45) 1 rfl dX8_number_44 rfl rfl ?_
        refine g_get C (n' := 48) (Cn := RX8) (T := TX8) (N := 35) (ci := 6) (v := .int (iI (I 16))) ga_X8 0 rfl rfl 16 (by decide) kw_706 rfl rfl dX8_number_45 rfl ?_
        have h_45 := hI 16
        refine g_istore C (n' := 50) [(5, .int (iI (I 16))), (4, .int (iI 0)), (0, .ref (q 99)), (1, .int (iI 0)), (2, .int (iI lo)), (3, .int (iI hi))] dX8_number_48 rfl (by decide) rfl ?_
        refine g_lv (lv' := [(5, .int (iI (I 16 + ((0 : Nat) : Int)))), (4, .int (iI (t_val (A 10) (I 16).toNat 0))), (0, .ref (q 99)), (1, .int (iI 0)), (2, .int (iI lo)), (3, .int (iI hi))]) [0, 1, 2, 3, 4, 5] (by simp only [lv_pick, List.filterMap]; rw [show (I 16 + ((0 : Nat) : Int)) = I 16 by omega]; rfl) ?_
        refine lp_X8_num_0 C q I A F Dd lo hi hsI hsA hT (by omega) (I 17 - I 16).toNat 0 (by omega) ?_
        have hv := t_val_s (fun j => hA 10 j) (I 16).toNat (I 17 - I 16).toNat (by omega)
        refine g_iload C (n' := 85) 1 rfl dX8_number_83 rfl ?_
        refine g_i2l C (n' := 86) (by unfold inR; omega) dX8_number_85 rfl ?_
        refine g_iload_n C (n' := 87) 4 rfl dX8_number_86 rfl rfl ?_
        refine g_i2l C (n' := 88) (by unfold inR; omega) dX8_number_87 rfl ?_
        refine g_iload_n C (n' := 89) 5 rfl dX8_number_88 rfl rfl ?_
        refine g_i2l C (n' := 90) (by unfold inR; omega) dX8_number_89 rfl ?_
        refine g_cSv C (n' := 93) (v := .int (iI (if lo ≤ (t_val (A 10) (I 16).toNat ((I 17 - I 16).toNat)) ∧ (t_val (A 10) (I 16).toNat ((I 17 - I 16).toNat)) ≤ hi then 1 else 0))) (c_X8_in l D Y C.2.2.2.2.2.2.2.2.1 (t_val (A 10) (I 16).toNat ((I 17 - I 16).toNat)) lo hi (by unfold inR at *; omega) (by unfold inR at *; omega) (by unfold inR at *; omega)) 3 kw_802 kc_X8_in (by decide +kernel) (pm_n _) rfl ⟨Nat.le_of_ble_eq_true rfl, Nat.le_of_ble_eq_true rfl⟩ ⟨rfl, rfl⟩ ⟨Nat.le_of_ble_eq_true rfl, Nat.le_of_ble_eq_true rfl⟩ (Nat.le_of_ble_eq_true rfl) dX8_number_90 rfl rfl (wMod q Y I A F Dd) (pm_n _) ?_
        refine g_istore C (n' := 95) [(5, .int (iI (if lo ≤ (t_val (A 10) (I 16).toNat ((I 17 - I 16).toNat)) ∧ (t_val (A 10) (I 16).toNat ((I 17 - I 16).toNat)) ≤ hi then 1 else 0))), (4, .int (iI (t_val (A 10) (I 16).toNat ((I 17 - I 16).toNat)))), (0, .ref (q 99)), (1, .int (iI 0)), (2, .int (iI lo)), (3, .int (iI hi))] dX8_number_93 rfl (by decide) rfl ?_
        refine g_iload C (n' := 97) 0 rfl dX8_number_95 rfl ?_
        refine g_if_eq C (n' := 100) 112 dX8_number_97 (by decide) rfl bz_r (fun c4 => ?_) (fun c4 => ?_)
        · skip
          replace c4 := bz_eq.mp c4
          refine g_iload C (n' := 114) 0 rfl dX8_number_112 rfl ?_
          have hN : t_num (A 10) (I 11) (I 16) (I 17) lo hi = -1 := by
            unfold t_num
            (repeat' split) <;> first | rfl | omega
          exact g_iret C hr hlk (nar_z bz_01) (Or.inl ⟨hN, by rw [if_neg (by omega)], rfl⟩) dX8_number_114
        · skip
          replace c4 := bz_neq.mp c4
          refine g_aload_n C (n' := 101) 2 rfl dX8_number_100 rfl rfl ?_
          refine g_get C (n' := 104) (Cn := RX8) (T := TX8) (N := 35) (ci := 6) (v := .ref (q 22)) ga_X8 0 rfl rfl 22 (by decide) kw_712 rfl rfl dX8_number_101 rfl ?_
          refine g_iload_n C (n' := 105) 3 rfl dX8_number_104 rfl rfl ?_
          refine g_iload C (n' := 107) 1 rfl dX8_number_105 rfl ?_
          refine g_iastN C (n' := 108) (f := (A 22)) (j := 0) 10 0 rfl rfl (by omega) (by decide) rfl dX8_number_107 rfl (wMod q Y I (sU A 22 (sU (A 22) 0 (t_val (A 10) (I 16).toNat ((I 17 - I 16).toNat)))) F Dd) rfl ?_
          refine g_aload_n C (n' := 109) 2 rfl dX8_number_108 rfl rfl ?_
          refine g_cVn C (n' := 112) (c_X8_nextToken l D Y C.2.2.2.2.2.2.2.2.1 q I (sU A 22 (sU (A 22) 0 (t_val (A 10) (I 16).toNat ((I 17 - I 16).toNat)))) F Dd hsI (sm_putA hsA (sm_putR (hsA 22) (by omega))) (by unfold mtok; show 0 ≤ I 17 ∧ I 17 ≤ 200 ∧ 0 ≤ I 11 ∧ I 11 ≤ 200; omega)) 0 kw_817 kc_X8_nextToken (by decide +kernel) (pm0 _) 0 (ci := 6) rfl rfl rfl rfl ⟨Nat.le_of_ble_eq_true rfl, Nat.le_of_ble_eq_true rfl⟩ ⟨rfl, rfl⟩ ⟨Nat.le_of_ble_eq_true rfl, Nat.le_of_ble_eq_true rfl⟩ (Nat.le_of_ble_eq_true rfl) dX8_number_109 rfl rfl (wMod q Y (sU (sU I 16 (tk1 ((A 10)) ((I 11)) ((I 17)))) 17 (tk2 ((A 10)) ((I 11)) ((I 17)))) (sU A 22 (sU (A 22) 0 (t_val (A 10) (I 16).toNat ((I 17 - I 16).toNat)))) F Dd) (pm0' _) ?_
          refine g_iload C (n' := 114) 0 rfl dX8_number_112 rfl ?_
          have hN : t_num (A 10) (I 11) (I 16) (I 17) lo hi = t_val (A 10) (I 16).toNat (I 17 - I 16).toNat := by
            unfold t_num
            (repeat' split) <;> first | rfl | omega
          refine g_iret C hr hlk (nar_z bz_01) (Or.inr ⟨by omega, by rw [if_pos (by omega)], ?_⟩) dX8_number_114
          rw [hN]
      · skip
        refine g_iconst C (n' := 40) dX8_number_39 rfl ?_
        have hN : t_num (A 10) (I 11) (I 16) (I 17) lo hi = -1 := by
          unfold t_num
          (repeat' split) <;> first | rfl | omega
        exact g_iret C hr hlk (nar_z (by omega)) (Or.inl ⟨hN, rfl, rfl⟩) dX8_number_40
set_option maxRecDepth 100000 in
set_option maxHeartbeats 4000000 in
theorem lp_X8_num_1 {p9 : Program} {l : Launch} {e9 : Env} {s9 : State} {m9 : MethodId} {a9 : Array Value} {b9 : List Frame} {t9 : Method} {c9 : Code} {D : va_G} {A9 : Nat → Prop} {Q9 : State → Prop} {E : (Nat → Prop) → State → Heap → Prop} {Y : Nat → ClassId} (C : g_Cx p9 s9 m9 a9 c9 cX8_number 6 RX8 D (tysY Y) A9 E) (q : Nat → Nat) (I : Nat → Int) (A : Nat → Nat → Int) (F : Nat → UInt32) (Dd : Nat → UInt64) (lo hi : Int) (hsI : smI I) (hsA : smA A) (hT : mtk I) (h3 : I 17 - I 16 ≤ 3) : ∀ (n9 : Nat) (k : Nat), (k : Int) + n9 = I 17 - I 16 → (g_G p9 l e9 ({ frames := 3, cells := 0, slots := 0, locals := 65 } : Room) s9 m9 a9 b9 t9 c9 6 D A9 Q9 0 0 (wMod q Y I A F Dd) [(5, .int (iI (I 16 + (((I 17 - I 16).toNat : Nat) : Int)))), (4, .int (iI (t_val (A 10) (I 16).toNat ((I 17 - I 16).toNat)))), (0, .ref (q 99)), (1, .int (iI 1)), (2, .int (iI lo)), (3, .int (iI hi))] 83 []) → g_G p9 l e9 ({ frames := 3, cells := 0, slots := 0, locals := 65 } : Room) s9 m9 a9 b9 t9 c9 6 D A9 Q9 0 0 (wMod q Y I A F Dd) [(5, .int (iI (I 16 + ((k : Nat) : Int)))), (4, .int (iI (t_val (A 10) (I 16).toNat k))), (0, .ref (q 99)), (1, .int (iI 1)), (2, .int (iI lo)), (3, .int (iI hi))] 50 [] := by
  have hE := C.2.2.2.2.2.2.2.2.1
  intro n9
  induction n9 with
  | zero =>
    intro k hk K
    have hI := hsI
    have hA := hsA
    unfold smI at hI
    unfold smA at hA
    have hT9 := hT
    unfold mtk at hT9
    refine g_iload C (n' := 52) 0 rfl dX8_number_50 rfl ?_
    refine g_aload_n C (n' := 53) 2 rfl dX8_number_52 rfl rfl ?_
    refine g_get C (n' := 56) (Cn := RX8) (T := TX8) (N := 35) (ci := 6) (v := .int (iI (I 17))) ga_X8 0 rfl rfl 17 (by decide) kw_707 rfl rfl dX8_number_53 rfl ?_
    have h_53 := hI 17
    refine g_icmp_ge C (n' := 59) 83 dX8_number_56 (by decide) rfl (by unfold inR; omega) (by unfold inR; omega) (fun c1 => ?_) (fun c1 => ?_)
    · skip
      have ek : (I 17 - I 16).toNat = k := by omega
      rw [ek] at K
      exact K
    · skip
      exfalso
      omega
  | succ n9 ih =>
    intro k hk K
    have hI := hsI
    have hA := hsA
    unfold smI at hI
    unfold smA at hA
    have hT9 := hT
    unfold mtk at hT9
    have hv := t_val_s (fun j => hA 10 j) (I 16).toNat k (by omega)
    refine g_iload C (n' := 52) 0 rfl dX8_number_50 rfl ?_
    refine g_aload_n C (n' := 53) 2 rfl dX8_number_52 rfl rfl ?_
    refine g_get C (n' := 56) (Cn := RX8) (T := TX8) (N := 35) (ci := 6) (v := .int (iI (I 17))) ga_X8 0 rfl rfl 17 (by decide) kw_707 rfl rfl dX8_number_53 rfl ?_
    have h_53 := hI 17
    refine g_icmp_ge C (n' := 59) 83 dX8_number_56 (by decide) rfl (by unfold inR; omega) (by unfold inR; omega) (fun c1 => ?_) (fun c1 => ?_)
    · skip
      exfalso
      omega
    · skip
      refine g_bipush C (n' := 61) (by decide) dX8_number_59 rfl ?_
      refine g_iload C (n' := 63) 1 rfl dX8_number_61 rfl ?_
      refine g_imul C (n' := 64) dX8_number_63 rfl ?_
      refine g_aload_n C (n' := 65) 2 rfl dX8_number_64 rfl rfl ?_
      refine g_get C (n' := 68) (Cn := RX8) (T := TX8) (N := 35) (ci := 6) (v := .ref (q 10)) ga_X8 0 rfl rfl 10 (by decide) kw_700 rfl rfl dX8_number_65 rfl ?_
      refine g_iload C (n' := 70) 0 rfl dX8_number_68 rfl ?_
      refine g_iald C (n' := 71) (f := (A 10)) 5 0 rfl rfl (by omega) (by omega) (by decide) rfl dX8_number_70 rfl ?_
      have h_70 := hA 10 ((I 16 + ((k : Nat) : Int)).toNat)
      refine g_iadd C (n' := 72) dX8_number_71 rfl ?_
      refine g_bipush C (n' := 74) (by decide) dX8_number_72 rfl ?_
      refine g_isub C (n' := 75) dX8_number_74 rfl ?_
      refine g_istore C (n' := 77) [(4, .int (iI (((10 * (t_val (A 10) (I 16).toNat k)) + ((A 10) (I 16 + ((k : Nat) : Int)).toNat)) - 48))), (5, .int (iI (I 16 + ((k : Nat) : Int)))), (0, .ref (q 99)), (1, .int (iI 1)), (2, .int (iI lo)), (3, .int (iI hi))] dX8_number_75 rfl (by decide) rfl ?_
      refine g_iinc C (n' := 80) 1 [(5, .int (iI ((I 16 + ((k : Nat) : Int)) + 1))), (4, .int (iI (((10 * (t_val (A 10) (I 16).toNat k)) + ((A 10) (I 16 + ((k : Nat) : Int)).toNat)) - 48))), (0, .ref (q 99)), (1, .int (iI 1)), (2, .int (iI lo)), (3, .int (iI hi))] rfl dX8_number_77 rfl (by decide) rfl ?_
      refine g_goto C 50 dX8_number_80 (by decide) ?_
      rw [show ((((10 * (t_val (A 10) (I 16).toNat k)) + ((A 10) (I 16 + ((k : Nat) : Int)).toNat)) - 48) : Int) = t_val (A 10) (I 16).toNat (k + 1) from by rw [t_val, show (I 16 + ((k : Nat) : Int)).toNat = (I 16).toNat + k by omega]; omega]
      rw [show (((I 16 + ((k : Nat) : Int)) + 1) : Int) = I 16 + ((k + 1 : Nat) : Int) from by omega]
      refine g_lv [0, 1, 2, 3, 4, 5] rfl ?_
      exact ih (k + 1) (by omega) K
set_option maxRecDepth 100000 in
set_option maxHeartbeats 4000000 in
theorem c_X8_number_1 (l : Launch) (D : va_G) (Y : Nat → ClassId) {E : (Nat → Prop) → State → Heap → Prop} (hE : g_Stab E) (q : Nat → Nat) (I : Nat → Int) (A : Nat → Nat → Int) (F : Nat → UInt32) (Dd : Nat → UInt64) (lo : Int) (hi : Int) (hsI : smI I) (hsA : smA A) (hT : mtk I) (hlo : 0 ≤ lo ∧ lo ≤ 1000) (hhi : -10 ≤ hi ∧ hi ≤ 1000) : g_Ct l yX8_number cX8_number 6 (some FieldType.boolean) ({ frames := 3, cells := 0, slots := 0, locals := 65 } : Room) D (tysY Y) E [.ref (q 99), .int (iI 1), .int (iI lo), .int (iI hi)] (wMod q Y I A F Dd) 0 0 (fun r9 w9 => ((t_num (A 10) (I 11) (I 16) (I 17) lo hi) = -1 ∧ r9 = some (.int (iI 0)) ∧ w9 = wMod q Y I A F Dd) ∨ (((t_num (A 10) (I 11) (I 16) (I 17) lo hi) ≠ -1 ∧ lo ≤ (t_num (A 10) (I 11) (I 16) (I 17) lo hi) ∧ (t_num (A 10) (I 11) (I 16) (I 17) lo hi) ≤ hi) ∧ r9 = some (.int (iI 1)) ∧ w9 = wMod q Y (sU (sU I 16 (tk1 (A 10) (I 11) (I 17))) 17 (tk2 (A 10) (I 11) (I 17))) (sU A 22 (sU (A 22) 1 (t_num (A 10) (I 11) (I 16) (I 17) lo hi))) F Dd)) := by
  refine g_ofG (own := RX8) hE (by decide) rfl (Nat.le_of_ble_eq_true rfl) [(0, .ref (q 99)), (1, .int (iI 1)), (2, .int (iI lo)), (3, .int (iI hi))] rfl ?_
  intro p9 e9 s9 m9 b9 t9 c9 A9 C hr hlk hnm
  have hI := hsI
  have hA := hsA
  unfold smI at hI
  unfold smA at hA
  have hT9 := hT
  unfold mtk at hT9
  refine g_aload_n C (n' := 1) 0 rfl dX8_number_0 rfl rfl ?_
  refine g_get C (n' := 4) (Cn := RX8) (T := TX8) (N := 35) (ci := 6) (v := .int (iI (I 16))) ga_X8 0 rfl rfl 16 (by decide) kw_706 rfl rfl dX8_number_1 rfl ?_
  have h_1 := hI 16
  refine g_aload_n C (n' := 5) 0 rfl dX8_number_4 rfl rfl ?_
  refine g_get C (n' := 8) (Cn := RX8) (T := TX8) (N := 35) (ci := 6) (v := .int (iI (I 11))) ga_X8 0 rfl rfl 11 (by decide) kw_701 rfl rfl dX8_number_5 rfl ?_
  have h_5 := hI 11
  refine g_icmp_eq C (n' := 11) 39 dX8_number_8 (by decide) rfl (by unfold inR; omega) (by unfold inR; omega) (fun c1 => ?_) (fun c1 => ?_)
  · skip
    refine g_iconst C (n' := 40) dX8_number_39 rfl ?_
    have hN : t_num (A 10) (I 11) (I 16) (I 17) lo hi = -1 := by
      unfold t_num
      (repeat' split) <;> first | rfl | omega
    exact g_iret C hr hlk (nar_z (by omega)) (Or.inl ⟨hN, rfl, rfl⟩) dX8_number_40
  · skip
    refine g_aload_n C (n' := 12) 0 rfl dX8_number_11 rfl rfl ?_
    refine g_get C (n' := 15) (Cn := RX8) (T := TX8) (N := 35) (ci := 6) (v := .ref (q 10)) ga_X8 0 rfl rfl 10 (by decide) kw_700 rfl rfl dX8_number_12 rfl ?_
    refine g_aload_n C (n' := 16) 0 rfl dX8_number_15 rfl rfl ?_
    refine g_get C (n' := 19) (Cn := RX8) (T := TX8) (N := 35) (ci := 6) (v := .int (iI (I 16))) ga_X8 0 rfl rfl 16 (by decide) kw_706 rfl rfl dX8_number_16 rfl ?_
    have h_16 := hI 16
    refine g_iald C (n' := 20) (f := (A 10)) 5 0 rfl rfl (by omega) (by omega) (by decide) rfl dX8_number_19 rfl ?_
    have h_19 := hA 10 ((I 16).toNat)
    refine g_cSv C (n' := 23) (v := .int (iI (if 48 ≤ ((A 10) (I 16).toNat) ∧ ((A 10) (I 16).toNat) ≤ 57 then 1 else 0))) (c_X8_isDigit l D Y C.2.2.2.2.2.2.2.2.1 ((A 10) (I 16).toNat) (by unfold inR at *; omega)) 1 kw_826 kc_X8_isDigit (by decide +kernel) (pm_n _) rfl ⟨Nat.le_of_ble_eq_true rfl, Nat.le_of_ble_eq_true rfl⟩ ⟨rfl, rfl⟩ ⟨Nat.le_of_ble_eq_true rfl, Nat.le_of_ble_eq_true rfl⟩ (Nat.le_of_ble_eq_true rfl) dX8_number_20 rfl rfl (wMod q Y I A F Dd) (pm_n _) ?_
    refine g_if_eq C (n' := 26) 39 dX8_number_23 (by decide) rfl bz_r (fun c2 => ?_) (fun c2 => ?_)
    · skip
      replace c2 := bz_eq.mp c2
      refine g_iconst C (n' := 40) dX8_number_39 rfl ?_
      have hN : t_num (A 10) (I 11) (I 16) (I 17) lo hi = -1 := by
        unfold t_num
        (repeat' split) <;> first | rfl | omega
      exact g_iret C hr hlk (nar_z (by omega)) (Or.inl ⟨hN, rfl, rfl⟩) dX8_number_40
    · skip
      replace c2 := bz_neq.mp c2
      refine g_aload_n C (n' := 27) 0 rfl dX8_number_26 rfl rfl ?_
      refine g_get C (n' := 30) (Cn := RX8) (T := TX8) (N := 35) (ci := 6) (v := .int (iI (I 17))) ga_X8 0 rfl rfl 17 (by decide) kw_707 rfl rfl dX8_number_27 rfl ?_
      have h_27 := hI 17
      refine g_aload_n C (n' := 31) 0 rfl dX8_number_30 rfl rfl ?_
      refine g_get C (n' := 34) (Cn := RX8) (T := TX8) (N := 35) (ci := 6) (v := .int (iI (I 16))) ga_X8 0 rfl rfl 16 (by decide) kw_706 rfl rfl dX8_number_31 rfl ?_
      have h_31 := hI 16
      refine g_isub C (n' := 35) dX8_number_34 rfl ?_
      refine g_iconst C (n' := 36) dX8_number_35 rfl ?_
      refine g_icmp_le C (n' := 39) 41 dX8_number_36 (by decide) rfl (by unfold inR; omega) (by unfold inR; omega) (fun c3 => ?_) (fun c3 => ?_)
      · skip
        refine g_iconst C (n' := 42) dX8_number_41 rfl ?_
        refine g_istore C (n' := 44) [(4, .int (iI 0)), (0, .ref (q 99)), (1, .int (iI 1)), (2, .int (iI lo)), (3, .int (iI hi))] dX8_number_42 rfl (by decide) rfl ?_
        refine g_aload_n C (n' := 45) 1 rfl dX8_number_44 rfl rfl ?_
        refine g_get C (n' := 48) (Cn := RX8) (T := TX8) (N := 35) (ci := 6) (v := .int (iI (I 16))) ga_X8 0 rfl rfl 16 (by decide) kw_706 rfl rfl dX8_number_45 rfl ?_
        have h_45 := hI 16
        refine g_istore C (n' := 50) [(5, .int (iI (I 16))), (4, .int (iI 0)), (0, .ref (q 99)), (1, .int (iI 1)), (2, .int (iI lo)), (3, .int (iI hi))] dX8_number_48 rfl (by decide) rfl ?_
        refine g_lv (lv' := [(5, .int (iI (I 16 + ((0 : Nat) : Int)))), (4, .int (iI (t_val (A 10) (I 16).toNat 0))), (0, .ref (q 99)), (1, .int (iI 1)), (2, .int (iI lo)), (3, .int (iI hi))]) [0, 1, 2, 3, 4, 5] (by simp only [lv_pick, List.filterMap]; rw [show (I 16 + ((0 : Nat) : Int)) = I 16 by omega]; rfl) ?_
        refine lp_X8_num_1 C q I A F Dd lo hi hsI hsA hT (by omega) (I 17 - I 16).toNat 0 (by omega) ?_
        have hv := t_val_s (fun j => hA 10 j) (I 16).toNat (I 17 - I 16).toNat (by omega)
        refine g_iload C (n' := 85) 1 rfl dX8_number_83 rfl ?_
        refine g_i2l C (n' := 86) (by unfold inR; omega) dX8_number_85 rfl ?_
        refine g_iload_n C (n' := 87) 4 rfl dX8_number_86 rfl rfl ?_
        refine g_i2l C (n' := 88) (by unfold inR; omega) dX8_number_87 rfl ?_
        refine g_iload_n C (n' := 89) 5 rfl dX8_number_88 rfl rfl ?_
        refine g_i2l C (n' := 90) (by unfold inR; omega) dX8_number_89 rfl ?_
        refine g_cSv C (n' := 93) (v := .int (iI (if lo ≤ (t_val (A 10) (I 16).toNat ((I 17 - I 16).toNat)) ∧ (t_val (A 10) (I 16).toNat ((I 17 - I 16).toNat)) ≤ hi then 1 else 0))) (c_X8_in l D Y C.2.2.2.2.2.2.2.2.1 (t_val (A 10) (I 16).toNat ((I 17 - I 16).toNat)) lo hi (by unfold inR at *; omega) (by unfold inR at *; omega) (by unfold inR at *; omega)) 3 kw_802 kc_X8_in (by decide +kernel) (pm_n _) rfl ⟨Nat.le_of_ble_eq_true rfl, Nat.le_of_ble_eq_true rfl⟩ ⟨rfl, rfl⟩ ⟨Nat.le_of_ble_eq_true rfl, Nat.le_of_ble_eq_true rfl⟩ (Nat.le_of_ble_eq_true rfl) dX8_number_90 rfl rfl (wMod q Y I A F Dd) (pm_n _) ?_
        refine g_istore C (n' := 95) [(5, .int (iI (if lo ≤ (t_val (A 10) (I 16).toNat ((I 17 - I 16).toNat)) ∧ (t_val (A 10) (I 16).toNat ((I 17 - I 16).toNat)) ≤ hi then 1 else 0))), (4, .int (iI (t_val (A 10) (I 16).toNat ((I 17 - I 16).toNat)))), (0, .ref (q 99)), (1, .int (iI 1)), (2, .int (iI lo)), (3, .int (iI hi))] dX8_number_93 rfl (by decide) rfl ?_
        refine g_iload C (n' := 97) 0 rfl dX8_number_95 rfl ?_
        refine g_if_eq C (n' := 100) 112 dX8_number_97 (by decide) rfl bz_r (fun c4 => ?_) (fun c4 => ?_)
        · skip
          replace c4 := bz_eq.mp c4
          refine g_iload C (n' := 114) 0 rfl dX8_number_112 rfl ?_
          have hN : t_num (A 10) (I 11) (I 16) (I 17) lo hi = -1 := by
            unfold t_num
            (repeat' split) <;> first | rfl | omega
          exact g_iret C hr hlk (nar_z bz_01) (Or.inl ⟨hN, by rw [if_neg (by omega)], rfl⟩) dX8_number_114
        · skip
          replace c4 := bz_neq.mp c4
          refine g_aload_n C (n' := 101) 2 rfl dX8_number_100 rfl rfl ?_
          refine g_get C (n' := 104) (Cn := RX8) (T := TX8) (N := 35) (ci := 6) (v := .ref (q 22)) ga_X8 0 rfl rfl 22 (by decide) kw_712 rfl rfl dX8_number_101 rfl ?_
          refine g_iload_n C (n' := 105) 3 rfl dX8_number_104 rfl rfl ?_
          refine g_iload C (n' := 107) 1 rfl dX8_number_105 rfl ?_
          refine g_iastN C (n' := 108) (f := (A 22)) (j := 1) 10 0 rfl rfl (by omega) (by decide) rfl dX8_number_107 rfl (wMod q Y I (sU A 22 (sU (A 22) 1 (t_val (A 10) (I 16).toNat ((I 17 - I 16).toNat)))) F Dd) rfl ?_
          refine g_aload_n C (n' := 109) 2 rfl dX8_number_108 rfl rfl ?_
          refine g_cVn C (n' := 112) (c_X8_nextToken l D Y C.2.2.2.2.2.2.2.2.1 q I (sU A 22 (sU (A 22) 1 (t_val (A 10) (I 16).toNat ((I 17 - I 16).toNat)))) F Dd hsI (sm_putA hsA (sm_putR (hsA 22) (by omega))) (by unfold mtok; show 0 ≤ I 17 ∧ I 17 ≤ 200 ∧ 0 ≤ I 11 ∧ I 11 ≤ 200; omega)) 0 kw_817 kc_X8_nextToken (by decide +kernel) (pm0 _) 0 (ci := 6) rfl rfl rfl rfl ⟨Nat.le_of_ble_eq_true rfl, Nat.le_of_ble_eq_true rfl⟩ ⟨rfl, rfl⟩ ⟨Nat.le_of_ble_eq_true rfl, Nat.le_of_ble_eq_true rfl⟩ (Nat.le_of_ble_eq_true rfl) dX8_number_109 rfl rfl (wMod q Y (sU (sU I 16 (tk1 ((A 10)) ((I 11)) ((I 17)))) 17 (tk2 ((A 10)) ((I 11)) ((I 17)))) (sU A 22 (sU (A 22) 1 (t_val (A 10) (I 16).toNat ((I 17 - I 16).toNat)))) F Dd) (pm0' _) ?_
          refine g_iload C (n' := 114) 0 rfl dX8_number_112 rfl ?_
          have hN : t_num (A 10) (I 11) (I 16) (I 17) lo hi = t_val (A 10) (I 16).toNat (I 17 - I 16).toNat := by
            unfold t_num
            (repeat' split) <;> first | rfl | omega
          refine g_iret C hr hlk (nar_z bz_01) (Or.inr ⟨by omega, by rw [if_pos (by omega)], ?_⟩) dX8_number_114
          rw [hN]
      · skip
        refine g_iconst C (n' := 40) dX8_number_39 rfl ?_
        have hN : t_num (A 10) (I 11) (I 16) (I 17) lo hi = -1 := by
          unfold t_num
          (repeat' split) <;> first | rfl | omega
        exact g_iret C hr hlk (nar_z (by omega)) (Or.inl ⟨hN, rfl, rfl⟩) dX8_number_40
set_option maxRecDepth 100000 in
set_option maxHeartbeats 4000000 in
theorem lp_X8_num_2 {p9 : Program} {l : Launch} {e9 : Env} {s9 : State} {m9 : MethodId} {a9 : Array Value} {b9 : List Frame} {t9 : Method} {c9 : Code} {D : va_G} {A9 : Nat → Prop} {Q9 : State → Prop} {E : (Nat → Prop) → State → Heap → Prop} {Y : Nat → ClassId} (C : g_Cx p9 s9 m9 a9 c9 cX8_number 6 RX8 D (tysY Y) A9 E) (q : Nat → Nat) (I : Nat → Int) (A : Nat → Nat → Int) (F : Nat → UInt32) (Dd : Nat → UInt64) (lo hi : Int) (hsI : smI I) (hsA : smA A) (hT : mtk I) (h3 : I 17 - I 16 ≤ 3) : ∀ (n9 : Nat) (k : Nat), (k : Int) + n9 = I 17 - I 16 → (g_G p9 l e9 ({ frames := 3, cells := 0, slots := 0, locals := 65 } : Room) s9 m9 a9 b9 t9 c9 6 D A9 Q9 0 0 (wMod q Y I A F Dd) [(5, .int (iI (I 16 + (((I 17 - I 16).toNat : Nat) : Int)))), (4, .int (iI (t_val (A 10) (I 16).toNat ((I 17 - I 16).toNat)))), (0, .ref (q 99)), (1, .int (iI 2)), (2, .int (iI lo)), (3, .int (iI hi))] 83 []) → g_G p9 l e9 ({ frames := 3, cells := 0, slots := 0, locals := 65 } : Room) s9 m9 a9 b9 t9 c9 6 D A9 Q9 0 0 (wMod q Y I A F Dd) [(5, .int (iI (I 16 + ((k : Nat) : Int)))), (4, .int (iI (t_val (A 10) (I 16).toNat k))), (0, .ref (q 99)), (1, .int (iI 2)), (2, .int (iI lo)), (3, .int (iI hi))] 50 [] := by
  have hE := C.2.2.2.2.2.2.2.2.1
  intro n9
  induction n9 with
  | zero =>
    intro k hk K
    have hI := hsI
    have hA := hsA
    unfold smI at hI
    unfold smA at hA
    have hT9 := hT
    unfold mtk at hT9
    refine g_iload C (n' := 52) 0 rfl dX8_number_50 rfl ?_
    refine g_aload_n C (n' := 53) 2 rfl dX8_number_52 rfl rfl ?_
    refine g_get C (n' := 56) (Cn := RX8) (T := TX8) (N := 35) (ci := 6) (v := .int (iI (I 17))) ga_X8 0 rfl rfl 17 (by decide) kw_707 rfl rfl dX8_number_53 rfl ?_
    have h_53 := hI 17
    refine g_icmp_ge C (n' := 59) 83 dX8_number_56 (by decide) rfl (by unfold inR; omega) (by unfold inR; omega) (fun c1 => ?_) (fun c1 => ?_)
    · skip
      have ek : (I 17 - I 16).toNat = k := by omega
      rw [ek] at K
      exact K
    · skip
      exfalso
      omega
  | succ n9 ih =>
    intro k hk K
    have hI := hsI
    have hA := hsA
    unfold smI at hI
    unfold smA at hA
    have hT9 := hT
    unfold mtk at hT9
    have hv := t_val_s (fun j => hA 10 j) (I 16).toNat k (by omega)
    refine g_iload C (n' := 52) 0 rfl dX8_number_50 rfl ?_
    refine g_aload_n C (n' := 53) 2 rfl dX8_number_52 rfl rfl ?_
    refine g_get C (n' := 56) (Cn := RX8) (T := TX8) (N := 35) (ci := 6) (v := .int (iI (I 17))) ga_X8 0 rfl rfl 17 (by decide) kw_707 rfl rfl dX8_number_53 rfl ?_
    have h_53 := hI 17
    refine g_icmp_ge C (n' := 59) 83 dX8_number_56 (by decide) rfl (by unfold inR; omega) (by unfold inR; omega) (fun c1 => ?_) (fun c1 => ?_)
    · skip
      exfalso
      omega
    · skip
      refine g_bipush C (n' := 61) (by decide) dX8_number_59 rfl ?_
      refine g_iload C (n' := 63) 1 rfl dX8_number_61 rfl ?_
      refine g_imul C (n' := 64) dX8_number_63 rfl ?_
      refine g_aload_n C (n' := 65) 2 rfl dX8_number_64 rfl rfl ?_
      refine g_get C (n' := 68) (Cn := RX8) (T := TX8) (N := 35) (ci := 6) (v := .ref (q 10)) ga_X8 0 rfl rfl 10 (by decide) kw_700 rfl rfl dX8_number_65 rfl ?_
      refine g_iload C (n' := 70) 0 rfl dX8_number_68 rfl ?_
      refine g_iald C (n' := 71) (f := (A 10)) 5 0 rfl rfl (by omega) (by omega) (by decide) rfl dX8_number_70 rfl ?_
      have h_70 := hA 10 ((I 16 + ((k : Nat) : Int)).toNat)
      refine g_iadd C (n' := 72) dX8_number_71 rfl ?_
      refine g_bipush C (n' := 74) (by decide) dX8_number_72 rfl ?_
      refine g_isub C (n' := 75) dX8_number_74 rfl ?_
      refine g_istore C (n' := 77) [(4, .int (iI (((10 * (t_val (A 10) (I 16).toNat k)) + ((A 10) (I 16 + ((k : Nat) : Int)).toNat)) - 48))), (5, .int (iI (I 16 + ((k : Nat) : Int)))), (0, .ref (q 99)), (1, .int (iI 2)), (2, .int (iI lo)), (3, .int (iI hi))] dX8_number_75 rfl (by decide) rfl ?_
      refine g_iinc C (n' := 80) 1 [(5, .int (iI ((I 16 + ((k : Nat) : Int)) + 1))), (4, .int (iI (((10 * (t_val (A 10) (I 16).toNat k)) + ((A 10) (I 16 + ((k : Nat) : Int)).toNat)) - 48))), (0, .ref (q 99)), (1, .int (iI 2)), (2, .int (iI lo)), (3, .int (iI hi))] rfl dX8_number_77 rfl (by decide) rfl ?_
      refine g_goto C 50 dX8_number_80 (by decide) ?_
      rw [show ((((10 * (t_val (A 10) (I 16).toNat k)) + ((A 10) (I 16 + ((k : Nat) : Int)).toNat)) - 48) : Int) = t_val (A 10) (I 16).toNat (k + 1) from by rw [t_val, show (I 16 + ((k : Nat) : Int)).toNat = (I 16).toNat + k by omega]; omega]
      rw [show (((I 16 + ((k : Nat) : Int)) + 1) : Int) = I 16 + ((k + 1 : Nat) : Int) from by omega]
      refine g_lv [0, 1, 2, 3, 4, 5] rfl ?_
      exact ih (k + 1) (by omega) K
set_option maxRecDepth 100000 in
set_option maxHeartbeats 4000000 in
theorem c_X8_number_2 (l : Launch) (D : va_G) (Y : Nat → ClassId) {E : (Nat → Prop) → State → Heap → Prop} (hE : g_Stab E) (q : Nat → Nat) (I : Nat → Int) (A : Nat → Nat → Int) (F : Nat → UInt32) (Dd : Nat → UInt64) (lo : Int) (hi : Int) (hsI : smI I) (hsA : smA A) (hT : mtk I) (hlo : 0 ≤ lo ∧ lo ≤ 1000) (hhi : -10 ≤ hi ∧ hi ≤ 1000) : g_Ct l yX8_number cX8_number 6 (some FieldType.boolean) ({ frames := 3, cells := 0, slots := 0, locals := 65 } : Room) D (tysY Y) E [.ref (q 99), .int (iI 2), .int (iI lo), .int (iI hi)] (wMod q Y I A F Dd) 0 0 (fun r9 w9 => ((t_num (A 10) (I 11) (I 16) (I 17) lo hi) = -1 ∧ r9 = some (.int (iI 0)) ∧ w9 = wMod q Y I A F Dd) ∨ (((t_num (A 10) (I 11) (I 16) (I 17) lo hi) ≠ -1 ∧ lo ≤ (t_num (A 10) (I 11) (I 16) (I 17) lo hi) ∧ (t_num (A 10) (I 11) (I 16) (I 17) lo hi) ≤ hi) ∧ r9 = some (.int (iI 1)) ∧ w9 = wMod q Y (sU (sU I 16 (tk1 (A 10) (I 11) (I 17))) 17 (tk2 (A 10) (I 11) (I 17))) (sU A 22 (sU (A 22) 2 (t_num (A 10) (I 11) (I 16) (I 17) lo hi))) F Dd)) := by
  refine g_ofG (own := RX8) hE (by decide) rfl (Nat.le_of_ble_eq_true rfl) [(0, .ref (q 99)), (1, .int (iI 2)), (2, .int (iI lo)), (3, .int (iI hi))] rfl ?_
  intro p9 e9 s9 m9 b9 t9 c9 A9 C hr hlk hnm
  have hI := hsI
  have hA := hsA
  unfold smI at hI
  unfold smA at hA
  have hT9 := hT
  unfold mtk at hT9
  refine g_aload_n C (n' := 1) 0 rfl dX8_number_0 rfl rfl ?_
  refine g_get C (n' := 4) (Cn := RX8) (T := TX8) (N := 35) (ci := 6) (v := .int (iI (I 16))) ga_X8 0 rfl rfl 16 (by decide) kw_706 rfl rfl dX8_number_1 rfl ?_
  have h_1 := hI 16
  refine g_aload_n C (n' := 5) 0 rfl dX8_number_4 rfl rfl ?_
  refine g_get C (n' := 8) (Cn := RX8) (T := TX8) (N := 35) (ci := 6) (v := .int (iI (I 11))) ga_X8 0 rfl rfl 11 (by decide) kw_701 rfl rfl dX8_number_5 rfl ?_
  have h_5 := hI 11
  refine g_icmp_eq C (n' := 11) 39 dX8_number_8 (by decide) rfl (by unfold inR; omega) (by unfold inR; omega) (fun c1 => ?_) (fun c1 => ?_)
  · skip
    refine g_iconst C (n' := 40) dX8_number_39 rfl ?_
    have hN : t_num (A 10) (I 11) (I 16) (I 17) lo hi = -1 := by
      unfold t_num
      (repeat' split) <;> first | rfl | omega
    exact g_iret C hr hlk (nar_z (by omega)) (Or.inl ⟨hN, rfl, rfl⟩) dX8_number_40
  · skip
    refine g_aload_n C (n' := 12) 0 rfl dX8_number_11 rfl rfl ?_
    refine g_get C (n' := 15) (Cn := RX8) (T := TX8) (N := 35) (ci := 6) (v := .ref (q 10)) ga_X8 0 rfl rfl 10 (by decide) kw_700 rfl rfl dX8_number_12 rfl ?_
    refine g_aload_n C (n' := 16) 0 rfl dX8_number_15 rfl rfl ?_
    refine g_get C (n' := 19) (Cn := RX8) (T := TX8) (N := 35) (ci := 6) (v := .int (iI (I 16))) ga_X8 0 rfl rfl 16 (by decide) kw_706 rfl rfl dX8_number_16 rfl ?_
    have h_16 := hI 16
    refine g_iald C (n' := 20) (f := (A 10)) 5 0 rfl rfl (by omega) (by omega) (by decide) rfl dX8_number_19 rfl ?_
    have h_19 := hA 10 ((I 16).toNat)
    refine g_cSv C (n' := 23) (v := .int (iI (if 48 ≤ ((A 10) (I 16).toNat) ∧ ((A 10) (I 16).toNat) ≤ 57 then 1 else 0))) (c_X8_isDigit l D Y C.2.2.2.2.2.2.2.2.1 ((A 10) (I 16).toNat) (by unfold inR at *; omega)) 1 kw_826 kc_X8_isDigit (by decide +kernel) (pm_n _) rfl ⟨Nat.le_of_ble_eq_true rfl, Nat.le_of_ble_eq_true rfl⟩ ⟨rfl, rfl⟩ ⟨Nat.le_of_ble_eq_true rfl, Nat.le_of_ble_eq_true rfl⟩ (Nat.le_of_ble_eq_true rfl) dX8_number_20 rfl rfl (wMod q Y I A F Dd) (pm_n _) ?_
    refine g_if_eq C (n' := 26) 39 dX8_number_23 (by decide) rfl bz_r (fun c2 => ?_) (fun c2 => ?_)
    · skip
      replace c2 := bz_eq.mp c2
      refine g_iconst C (n' := 40) dX8_number_39 rfl ?_
      have hN : t_num (A 10) (I 11) (I 16) (I 17) lo hi = -1 := by
        unfold t_num
        (repeat' split) <;> first | rfl | omega
      exact g_iret C hr hlk (nar_z (by omega)) (Or.inl ⟨hN, rfl, rfl⟩) dX8_number_40
    · skip
      replace c2 := bz_neq.mp c2
      refine g_aload_n C (n' := 27) 0 rfl dX8_number_26 rfl rfl ?_
      refine g_get C (n' := 30) (Cn := RX8) (T := TX8) (N := 35) (ci := 6) (v := .int (iI (I 17))) ga_X8 0 rfl rfl 17 (by decide) kw_707 rfl rfl dX8_number_27 rfl ?_
      have h_27 := hI 17
      refine g_aload_n C (n' := 31) 0 rfl dX8_number_30 rfl rfl ?_
      refine g_get C (n' := 34) (Cn := RX8) (T := TX8) (N := 35) (ci := 6) (v := .int (iI (I 16))) ga_X8 0 rfl rfl 16 (by decide) kw_706 rfl rfl dX8_number_31 rfl ?_
      have h_31 := hI 16
      refine g_isub C (n' := 35) dX8_number_34 rfl ?_
      refine g_iconst C (n' := 36) dX8_number_35 rfl ?_
      refine g_icmp_le C (n' := 39) 41 dX8_number_36 (by decide) rfl (by unfold inR; omega) (by unfold inR; omega) (fun c3 => ?_) (fun c3 => ?_)
      · skip
        refine g_iconst C (n' := 42) dX8_number_41 rfl ?_
        refine g_istore C (n' := 44) [(4, .int (iI 0)), (0, .ref (q 99)), (1, .int (iI 2)), (2, .int (iI lo)), (3, .int (iI hi))] dX8_number_42 rfl (by decide) rfl ?_
        refine g_aload_n C (n' := 45) 1 rfl dX8_number_44 rfl rfl ?_
        refine g_get C (n' := 48) (Cn := RX8) (T := TX8) (N := 35) (ci := 6) (v := .int (iI (I 16))) ga_X8 0 rfl rfl 16 (by decide) kw_706 rfl rfl dX8_number_45 rfl ?_
        have h_45 := hI 16
        refine g_istore C (n' := 50) [(5, .int (iI (I 16))), (4, .int (iI 0)), (0, .ref (q 99)), (1, .int (iI 2)), (2, .int (iI lo)), (3, .int (iI hi))] dX8_number_48 rfl (by decide) rfl ?_
        refine g_lv (lv' := [(5, .int (iI (I 16 + ((0 : Nat) : Int)))), (4, .int (iI (t_val (A 10) (I 16).toNat 0))), (0, .ref (q 99)), (1, .int (iI 2)), (2, .int (iI lo)), (3, .int (iI hi))]) [0, 1, 2, 3, 4, 5] (by simp only [lv_pick, List.filterMap]; rw [show (I 16 + ((0 : Nat) : Int)) = I 16 by omega]; rfl) ?_
        refine lp_X8_num_2 C q I A F Dd lo hi hsI hsA hT (by omega) (I 17 - I 16).toNat 0 (by omega) ?_
        have hv := t_val_s (fun j => hA 10 j) (I 16).toNat (I 17 - I 16).toNat (by omega)
        refine g_iload C (n' := 85) 1 rfl dX8_number_83 rfl ?_
        refine g_i2l C (n' := 86) (by unfold inR; omega) dX8_number_85 rfl ?_
        refine g_iload_n C (n' := 87) 4 rfl dX8_number_86 rfl rfl ?_
        refine g_i2l C (n' := 88) (by unfold inR; omega) dX8_number_87 rfl ?_
        refine g_iload_n C (n' := 89) 5 rfl dX8_number_88 rfl rfl ?_
        refine g_i2l C (n' := 90) (by unfold inR; omega) dX8_number_89 rfl ?_
        refine g_cSv C (n' := 93) (v := .int (iI (if lo ≤ (t_val (A 10) (I 16).toNat ((I 17 - I 16).toNat)) ∧ (t_val (A 10) (I 16).toNat ((I 17 - I 16).toNat)) ≤ hi then 1 else 0))) (c_X8_in l D Y C.2.2.2.2.2.2.2.2.1 (t_val (A 10) (I 16).toNat ((I 17 - I 16).toNat)) lo hi (by unfold inR at *; omega) (by unfold inR at *; omega) (by unfold inR at *; omega)) 3 kw_802 kc_X8_in (by decide +kernel) (pm_n _) rfl ⟨Nat.le_of_ble_eq_true rfl, Nat.le_of_ble_eq_true rfl⟩ ⟨rfl, rfl⟩ ⟨Nat.le_of_ble_eq_true rfl, Nat.le_of_ble_eq_true rfl⟩ (Nat.le_of_ble_eq_true rfl) dX8_number_90 rfl rfl (wMod q Y I A F Dd) (pm_n _) ?_
        refine g_istore C (n' := 95) [(5, .int (iI (if lo ≤ (t_val (A 10) (I 16).toNat ((I 17 - I 16).toNat)) ∧ (t_val (A 10) (I 16).toNat ((I 17 - I 16).toNat)) ≤ hi then 1 else 0))), (4, .int (iI (t_val (A 10) (I 16).toNat ((I 17 - I 16).toNat)))), (0, .ref (q 99)), (1, .int (iI 2)), (2, .int (iI lo)), (3, .int (iI hi))] dX8_number_93 rfl (by decide) rfl ?_
        refine g_iload C (n' := 97) 0 rfl dX8_number_95 rfl ?_
        refine g_if_eq C (n' := 100) 112 dX8_number_97 (by decide) rfl bz_r (fun c4 => ?_) (fun c4 => ?_)
        · skip
          replace c4 := bz_eq.mp c4
          refine g_iload C (n' := 114) 0 rfl dX8_number_112 rfl ?_
          have hN : t_num (A 10) (I 11) (I 16) (I 17) lo hi = -1 := by
            unfold t_num
            (repeat' split) <;> first | rfl | omega
          exact g_iret C hr hlk (nar_z bz_01) (Or.inl ⟨hN, by rw [if_neg (by omega)], rfl⟩) dX8_number_114
        · skip
          replace c4 := bz_neq.mp c4
          refine g_aload_n C (n' := 101) 2 rfl dX8_number_100 rfl rfl ?_
          refine g_get C (n' := 104) (Cn := RX8) (T := TX8) (N := 35) (ci := 6) (v := .ref (q 22)) ga_X8 0 rfl rfl 22 (by decide) kw_712 rfl rfl dX8_number_101 rfl ?_
          refine g_iload_n C (n' := 105) 3 rfl dX8_number_104 rfl rfl ?_
          refine g_iload C (n' := 107) 1 rfl dX8_number_105 rfl ?_
          refine g_iastN C (n' := 108) (f := (A 22)) (j := 2) 10 0 rfl rfl (by omega) (by decide) rfl dX8_number_107 rfl (wMod q Y I (sU A 22 (sU (A 22) 2 (t_val (A 10) (I 16).toNat ((I 17 - I 16).toNat)))) F Dd) rfl ?_
          refine g_aload_n C (n' := 109) 2 rfl dX8_number_108 rfl rfl ?_
          refine g_cVn C (n' := 112) (c_X8_nextToken l D Y C.2.2.2.2.2.2.2.2.1 q I (sU A 22 (sU (A 22) 2 (t_val (A 10) (I 16).toNat ((I 17 - I 16).toNat)))) F Dd hsI (sm_putA hsA (sm_putR (hsA 22) (by omega))) (by unfold mtok; show 0 ≤ I 17 ∧ I 17 ≤ 200 ∧ 0 ≤ I 11 ∧ I 11 ≤ 200; omega)) 0 kw_817 kc_X8_nextToken (by decide +kernel) (pm0 _) 0 (ci := 6) rfl rfl rfl rfl ⟨Nat.le_of_ble_eq_true rfl, Nat.le_of_ble_eq_true rfl⟩ ⟨rfl, rfl⟩ ⟨Nat.le_of_ble_eq_true rfl, Nat.le_of_ble_eq_true rfl⟩ (Nat.le_of_ble_eq_true rfl) dX8_number_109 rfl rfl (wMod q Y (sU (sU I 16 (tk1 ((A 10)) ((I 11)) ((I 17)))) 17 (tk2 ((A 10)) ((I 11)) ((I 17)))) (sU A 22 (sU (A 22) 2 (t_val (A 10) (I 16).toNat ((I 17 - I 16).toNat)))) F Dd) (pm0' _) ?_
          refine g_iload C (n' := 114) 0 rfl dX8_number_112 rfl ?_
          have hN : t_num (A 10) (I 11) (I 16) (I 17) lo hi = t_val (A 10) (I 16).toNat (I 17 - I 16).toNat := by
            unfold t_num
            (repeat' split) <;> first | rfl | omega
          refine g_iret C hr hlk (nar_z bz_01) (Or.inr ⟨by omega, by rw [if_pos (by omega)], ?_⟩) dX8_number_114
          rw [hN]
      · skip
        refine g_iconst C (n' := 40) dX8_number_39 rfl ?_
        have hN : t_num (A 10) (I 11) (I 16) (I 17) lo hi = -1 := by
          unfold t_num
          (repeat' split) <;> first | rfl | omega
        exact g_iret C hr hlk (nar_z (by omega)) (Or.inl ⟨hN, rfl, rfl⟩) dX8_number_40
set_option maxRecDepth 100000 in
set_option maxHeartbeats 4000000 in
theorem lp_X8_num_3 {p9 : Program} {l : Launch} {e9 : Env} {s9 : State} {m9 : MethodId} {a9 : Array Value} {b9 : List Frame} {t9 : Method} {c9 : Code} {D : va_G} {A9 : Nat → Prop} {Q9 : State → Prop} {E : (Nat → Prop) → State → Heap → Prop} {Y : Nat → ClassId} (C : g_Cx p9 s9 m9 a9 c9 cX8_number 6 RX8 D (tysY Y) A9 E) (q : Nat → Nat) (I : Nat → Int) (A : Nat → Nat → Int) (F : Nat → UInt32) (Dd : Nat → UInt64) (lo hi : Int) (hsI : smI I) (hsA : smA A) (hT : mtk I) (h3 : I 17 - I 16 ≤ 3) : ∀ (n9 : Nat) (k : Nat), (k : Int) + n9 = I 17 - I 16 → (g_G p9 l e9 ({ frames := 3, cells := 0, slots := 0, locals := 65 } : Room) s9 m9 a9 b9 t9 c9 6 D A9 Q9 0 0 (wMod q Y I A F Dd) [(5, .int (iI (I 16 + (((I 17 - I 16).toNat : Nat) : Int)))), (4, .int (iI (t_val (A 10) (I 16).toNat ((I 17 - I 16).toNat)))), (0, .ref (q 99)), (1, .int (iI 3)), (2, .int (iI lo)), (3, .int (iI hi))] 83 []) → g_G p9 l e9 ({ frames := 3, cells := 0, slots := 0, locals := 65 } : Room) s9 m9 a9 b9 t9 c9 6 D A9 Q9 0 0 (wMod q Y I A F Dd) [(5, .int (iI (I 16 + ((k : Nat) : Int)))), (4, .int (iI (t_val (A 10) (I 16).toNat k))), (0, .ref (q 99)), (1, .int (iI 3)), (2, .int (iI lo)), (3, .int (iI hi))] 50 [] := by
  have hE := C.2.2.2.2.2.2.2.2.1
  intro n9
  induction n9 with
  | zero =>
    intro k hk K
    have hI := hsI
    have hA := hsA
    unfold smI at hI
    unfold smA at hA
    have hT9 := hT
    unfold mtk at hT9
    refine g_iload C (n' := 52) 0 rfl dX8_number_50 rfl ?_
    refine g_aload_n C (n' := 53) 2 rfl dX8_number_52 rfl rfl ?_
    refine g_get C (n' := 56) (Cn := RX8) (T := TX8) (N := 35) (ci := 6) (v := .int (iI (I 17))) ga_X8 0 rfl rfl 17 (by decide) kw_707 rfl rfl dX8_number_53 rfl ?_
    have h_53 := hI 17
    refine g_icmp_ge C (n' := 59) 83 dX8_number_56 (by decide) rfl (by unfold inR; omega) (by unfold inR; omega) (fun c1 => ?_) (fun c1 => ?_)
    · skip
      have ek : (I 17 - I 16).toNat = k := by omega
      rw [ek] at K
      exact K
    · skip
      exfalso
      omega
  | succ n9 ih =>
    intro k hk K
    have hI := hsI
    have hA := hsA
    unfold smI at hI
    unfold smA at hA
    have hT9 := hT
    unfold mtk at hT9
    have hv := t_val_s (fun j => hA 10 j) (I 16).toNat k (by omega)
    refine g_iload C (n' := 52) 0 rfl dX8_number_50 rfl ?_
    refine g_aload_n C (n' := 53) 2 rfl dX8_number_52 rfl rfl ?_
    refine g_get C (n' := 56) (Cn := RX8) (T := TX8) (N := 35) (ci := 6) (v := .int (iI (I 17))) ga_X8 0 rfl rfl 17 (by decide) kw_707 rfl rfl dX8_number_53 rfl ?_
    have h_53 := hI 17
    refine g_icmp_ge C (n' := 59) 83 dX8_number_56 (by decide) rfl (by unfold inR; omega) (by unfold inR; omega) (fun c1 => ?_) (fun c1 => ?_)
    · skip
      exfalso
      omega
    · skip
      refine g_bipush C (n' := 61) (by decide) dX8_number_59 rfl ?_
      refine g_iload C (n' := 63) 1 rfl dX8_number_61 rfl ?_
      refine g_imul C (n' := 64) dX8_number_63 rfl ?_
      refine g_aload_n C (n' := 65) 2 rfl dX8_number_64 rfl rfl ?_
      refine g_get C (n' := 68) (Cn := RX8) (T := TX8) (N := 35) (ci := 6) (v := .ref (q 10)) ga_X8 0 rfl rfl 10 (by decide) kw_700 rfl rfl dX8_number_65 rfl ?_
      refine g_iload C (n' := 70) 0 rfl dX8_number_68 rfl ?_
      refine g_iald C (n' := 71) (f := (A 10)) 5 0 rfl rfl (by omega) (by omega) (by decide) rfl dX8_number_70 rfl ?_
      have h_70 := hA 10 ((I 16 + ((k : Nat) : Int)).toNat)
      refine g_iadd C (n' := 72) dX8_number_71 rfl ?_
      refine g_bipush C (n' := 74) (by decide) dX8_number_72 rfl ?_
      refine g_isub C (n' := 75) dX8_number_74 rfl ?_
      refine g_istore C (n' := 77) [(4, .int (iI (((10 * (t_val (A 10) (I 16).toNat k)) + ((A 10) (I 16 + ((k : Nat) : Int)).toNat)) - 48))), (5, .int (iI (I 16 + ((k : Nat) : Int)))), (0, .ref (q 99)), (1, .int (iI 3)), (2, .int (iI lo)), (3, .int (iI hi))] dX8_number_75 rfl (by decide) rfl ?_
      refine g_iinc C (n' := 80) 1 [(5, .int (iI ((I 16 + ((k : Nat) : Int)) + 1))), (4, .int (iI (((10 * (t_val (A 10) (I 16).toNat k)) + ((A 10) (I 16 + ((k : Nat) : Int)).toNat)) - 48))), (0, .ref (q 99)), (1, .int (iI 3)), (2, .int (iI lo)), (3, .int (iI hi))] rfl dX8_number_77 rfl (by decide) rfl ?_
      refine g_goto C 50 dX8_number_80 (by decide) ?_
      rw [show ((((10 * (t_val (A 10) (I 16).toNat k)) + ((A 10) (I 16 + ((k : Nat) : Int)).toNat)) - 48) : Int) = t_val (A 10) (I 16).toNat (k + 1) from by rw [t_val, show (I 16 + ((k : Nat) : Int)).toNat = (I 16).toNat + k by omega]; omega]
      rw [show (((I 16 + ((k : Nat) : Int)) + 1) : Int) = I 16 + ((k + 1 : Nat) : Int) from by omega]
      refine g_lv [0, 1, 2, 3, 4, 5] rfl ?_
      exact ih (k + 1) (by omega) K
set_option maxRecDepth 100000 in
set_option maxHeartbeats 4000000 in
theorem c_X8_number_3 (l : Launch) (D : va_G) (Y : Nat → ClassId) {E : (Nat → Prop) → State → Heap → Prop} (hE : g_Stab E) (q : Nat → Nat) (I : Nat → Int) (A : Nat → Nat → Int) (F : Nat → UInt32) (Dd : Nat → UInt64) (lo : Int) (hi : Int) (hsI : smI I) (hsA : smA A) (hT : mtk I) (hlo : 0 ≤ lo ∧ lo ≤ 1000) (hhi : -10 ≤ hi ∧ hi ≤ 1000) : g_Ct l yX8_number cX8_number 6 (some FieldType.boolean) ({ frames := 3, cells := 0, slots := 0, locals := 65 } : Room) D (tysY Y) E [.ref (q 99), .int (iI 3), .int (iI lo), .int (iI hi)] (wMod q Y I A F Dd) 0 0 (fun r9 w9 => ((t_num (A 10) (I 11) (I 16) (I 17) lo hi) = -1 ∧ r9 = some (.int (iI 0)) ∧ w9 = wMod q Y I A F Dd) ∨ (((t_num (A 10) (I 11) (I 16) (I 17) lo hi) ≠ -1 ∧ lo ≤ (t_num (A 10) (I 11) (I 16) (I 17) lo hi) ∧ (t_num (A 10) (I 11) (I 16) (I 17) lo hi) ≤ hi) ∧ r9 = some (.int (iI 1)) ∧ w9 = wMod q Y (sU (sU I 16 (tk1 (A 10) (I 11) (I 17))) 17 (tk2 (A 10) (I 11) (I 17))) (sU A 22 (sU (A 22) 3 (t_num (A 10) (I 11) (I 16) (I 17) lo hi))) F Dd)) := by
  refine g_ofG (own := RX8) hE (by decide) rfl (Nat.le_of_ble_eq_true rfl) [(0, .ref (q 99)), (1, .int (iI 3)), (2, .int (iI lo)), (3, .int (iI hi))] rfl ?_
  intro p9 e9 s9 m9 b9 t9 c9 A9 C hr hlk hnm
  have hI := hsI
  have hA := hsA
  unfold smI at hI
  unfold smA at hA
  have hT9 := hT
  unfold mtk at hT9
  refine g_aload_n C (n' := 1) 0 rfl dX8_number_0 rfl rfl ?_
  refine g_get C (n' := 4) (Cn := RX8) (T := TX8) (N := 35) (ci := 6) (v := .int (iI (I 16))) ga_X8 0 rfl rfl 16 (by decide) kw_706 rfl rfl dX8_number_1 rfl ?_
  have h_1 := hI 16
  refine g_aload_n C (n' := 5) 0 rfl dX8_number_4 rfl rfl ?_
  refine g_get C (n' := 8) (Cn := RX8) (T := TX8) (N := 35) (ci := 6) (v := .int (iI (I 11))) ga_X8 0 rfl rfl 11 (by decide) kw_701 rfl rfl dX8_number_5 rfl ?_
  have h_5 := hI 11
  refine g_icmp_eq C (n' := 11) 39 dX8_number_8 (by decide) rfl (by unfold inR; omega) (by unfold inR; omega) (fun c1 => ?_) (fun c1 => ?_)
  · skip
    refine g_iconst C (n' := 40) dX8_number_39 rfl ?_
    have hN : t_num (A 10) (I 11) (I 16) (I 17) lo hi = -1 := by
      unfold t_num
      (repeat' split) <;> first | rfl | omega
    exact g_iret C hr hlk (nar_z (by omega)) (Or.inl ⟨hN, rfl, rfl⟩) dX8_number_40
  · skip
    refine g_aload_n C (n' := 12) 0 rfl dX8_number_11 rfl rfl ?_
    refine g_get C (n' := 15) (Cn := RX8) (T := TX8) (N := 35) (ci := 6) (v := .ref (q 10)) ga_X8 0 rfl rfl 10 (by decide) kw_700 rfl rfl dX8_number_12 rfl ?_
    refine g_aload_n C (n' := 16) 0 rfl dX8_number_15 rfl rfl ?_
    refine g_get C (n' := 19) (Cn := RX8) (T := TX8) (N := 35) (ci := 6) (v := .int (iI (I 16))) ga_X8 0 rfl rfl 16 (by decide) kw_706 rfl rfl dX8_number_16 rfl ?_
    have h_16 := hI 16
    refine g_iald C (n' := 20) (f := (A 10)) 5 0 rfl rfl (by omega) (by omega) (by decide) rfl dX8_number_19 rfl ?_
    have h_19 := hA 10 ((I 16).toNat)
    refine g_cSv C (n' := 23) (v := .int (iI (if 48 ≤ ((A 10) (I 16).toNat) ∧ ((A 10) (I 16).toNat) ≤ 57 then 1 else 0))) (c_X8_isDigit l D Y C.2.2.2.2.2.2.2.2.1 ((A 10) (I 16).toNat) (by unfold inR at *; omega)) 1 kw_826 kc_X8_isDigit (by decide +kernel) (pm_n _) rfl ⟨Nat.le_of_ble_eq_true rfl, Nat.le_of_ble_eq_true rfl⟩ ⟨rfl, rfl⟩ ⟨Nat.le_of_ble_eq_true rfl, Nat.le_of_ble_eq_true rfl⟩ (Nat.le_of_ble_eq_true rfl) dX8_number_20 rfl rfl (wMod q Y I A F Dd) (pm_n _) ?_
    refine g_if_eq C (n' := 26) 39 dX8_number_23 (by decide) rfl bz_r (fun c2 => ?_) (fun c2 => ?_)
    · skip
      replace c2 := bz_eq.mp c2
      refine g_iconst C (n' := 40) dX8_number_39 rfl ?_
      have hN : t_num (A 10) (I 11) (I 16) (I 17) lo hi = -1 := by
        unfold t_num
        (repeat' split) <;> first | rfl | omega
      exact g_iret C hr hlk (nar_z (by omega)) (Or.inl ⟨hN, rfl, rfl⟩) dX8_number_40
    · skip
      replace c2 := bz_neq.mp c2
      refine g_aload_n C (n' := 27) 0 rfl dX8_number_26 rfl rfl ?_
      refine g_get C (n' := 30) (Cn := RX8) (T := TX8) (N := 35) (ci := 6) (v := .int (iI (I 17))) ga_X8 0 rfl rfl 17 (by decide) kw_707 rfl rfl dX8_number_27 rfl ?_
      have h_27 := hI 17
      refine g_aload_n C (n' := 31) 0 rfl dX8_number_30 rfl rfl ?_
      refine g_get C (n' := 34) (Cn := RX8) (T := TX8) (N := 35) (ci := 6) (v := .int (iI (I 16))) ga_X8 0 rfl rfl 16 (by decide) kw_706 rfl rfl dX8_number_31 rfl ?_
      have h_31 := hI 16
      refine g_isub C (n' := 35) dX8_number_34 rfl ?_
      refine g_iconst C (n' := 36) dX8_number_35 rfl ?_
      refine g_icmp_le C (n' := 39) 41 dX8_number_36 (by decide) rfl (by unfold inR; omega) (by unfold inR; omega) (fun c3 => ?_) (fun c3 => ?_)
      · skip
        refine g_iconst C (n' := 42) dX8_number_41 rfl ?_
        refine g_istore C (n' := 44) [(4, .int (iI 0)), (0, .ref (q 99)), (1, .int (iI 3)), (2, .int (iI lo)), (3, .int (iI hi))] dX8_number_42 rfl (by decide) rfl ?_
        refine g_aload_n C (n' := 45) 1 rfl dX8_number_44 rfl rfl ?_
        refine g_get C (n' := 48) (Cn := RX8) (T := TX8) (N := 35) (ci := 6) (v := .int (iI (I 16))) ga_X8 0 rfl rfl 16 (by decide) kw_706 rfl rfl dX8_number_45 rfl ?_
        have h_45 := hI 16
        refine g_istore C (n' := 50) [(5, .int (iI (I 16))), (4, .int (iI 0)), (0, .ref (q 99)), (1, .int (iI 3)), (2, .int (iI lo)), (3, .int (iI hi))] dX8_number_48 rfl (by decide) rfl ?_
        refine g_lv (lv' := [(5, .int (iI (I 16 + ((0 : Nat) : Int)))), (4, .int (iI (t_val (A 10) (I 16).toNat 0))), (0, .ref (q 99)), (1, .int (iI 3)), (2, .int (iI lo)), (3, .int (iI hi))]) [0, 1, 2, 3, 4, 5] (by simp only [lv_pick, List.filterMap]; rw [show (I 16 + ((0 : Nat) : Int)) = I 16 by omega]; rfl) ?_
        refine lp_X8_num_3 C q I A F Dd lo hi hsI hsA hT (by omega) (I 17 - I 16).toNat 0 (by omega) ?_
        have hv := t_val_s (fun j => hA 10 j) (I 16).toNat (I 17 - I 16).toNat (by omega)
        refine g_iload C (n' := 85) 1 rfl dX8_number_83 rfl ?_
        refine g_i2l C (n' := 86) (by unfold inR; omega) dX8_number_85 rfl ?_
        refine g_iload_n C (n' := 87) 4 rfl dX8_number_86 rfl rfl ?_
        refine g_i2l C (n' := 88) (by unfold inR; omega) dX8_number_87 rfl ?_
        refine g_iload_n C (n' := 89) 5 rfl dX8_number_88 rfl rfl ?_
        refine g_i2l C (n' := 90) (by unfold inR; omega) dX8_number_89 rfl ?_
        refine g_cSv C (n' := 93) (v := .int (iI (if lo ≤ (t_val (A 10) (I 16).toNat ((I 17 - I 16).toNat)) ∧ (t_val (A 10) (I 16).toNat ((I 17 - I 16).toNat)) ≤ hi then 1 else 0))) (c_X8_in l D Y C.2.2.2.2.2.2.2.2.1 (t_val (A 10) (I 16).toNat ((I 17 - I 16).toNat)) lo hi (by unfold inR at *; omega) (by unfold inR at *; omega) (by unfold inR at *; omega)) 3 kw_802 kc_X8_in (by decide +kernel) (pm_n _) rfl ⟨Nat.le_of_ble_eq_true rfl, Nat.le_of_ble_eq_true rfl⟩ ⟨rfl, rfl⟩ ⟨Nat.le_of_ble_eq_true rfl, Nat.le_of_ble_eq_true rfl⟩ (Nat.le_of_ble_eq_true rfl) dX8_number_90 rfl rfl (wMod q Y I A F Dd) (pm_n _) ?_
        refine g_istore C (n' := 95) [(5, .int (iI (if lo ≤ (t_val (A 10) (I 16).toNat ((I 17 - I 16).toNat)) ∧ (t_val (A 10) (I 16).toNat ((I 17 - I 16).toNat)) ≤ hi then 1 else 0))), (4, .int (iI (t_val (A 10) (I 16).toNat ((I 17 - I 16).toNat)))), (0, .ref (q 99)), (1, .int (iI 3)), (2, .int (iI lo)), (3, .int (iI hi))] dX8_number_93 rfl (by decide) rfl ?_
        refine g_iload C (n' := 97) 0 rfl dX8_number_95 rfl ?_
        refine g_if_eq C (n' := 100) 112 dX8_number_97 (by decide) rfl bz_r (fun c4 => ?_) (fun c4 => ?_)
        · skip
          replace c4 := bz_eq.mp c4
          refine g_iload C (n' := 114) 0 rfl dX8_number_112 rfl ?_
          have hN : t_num (A 10) (I 11) (I 16) (I 17) lo hi = -1 := by
            unfold t_num
            (repeat' split) <;> first | rfl | omega
          exact g_iret C hr hlk (nar_z bz_01) (Or.inl ⟨hN, by rw [if_neg (by omega)], rfl⟩) dX8_number_114
        · skip
          replace c4 := bz_neq.mp c4
          refine g_aload_n C (n' := 101) 2 rfl dX8_number_100 rfl rfl ?_
          refine g_get C (n' := 104) (Cn := RX8) (T := TX8) (N := 35) (ci := 6) (v := .ref (q 22)) ga_X8 0 rfl rfl 22 (by decide) kw_712 rfl rfl dX8_number_101 rfl ?_
          refine g_iload_n C (n' := 105) 3 rfl dX8_number_104 rfl rfl ?_
          refine g_iload C (n' := 107) 1 rfl dX8_number_105 rfl ?_
          refine g_iastN C (n' := 108) (f := (A 22)) (j := 3) 10 0 rfl rfl (by omega) (by decide) rfl dX8_number_107 rfl (wMod q Y I (sU A 22 (sU (A 22) 3 (t_val (A 10) (I 16).toNat ((I 17 - I 16).toNat)))) F Dd) rfl ?_
          refine g_aload_n C (n' := 109) 2 rfl dX8_number_108 rfl rfl ?_
          refine g_cVn C (n' := 112) (c_X8_nextToken l D Y C.2.2.2.2.2.2.2.2.1 q I (sU A 22 (sU (A 22) 3 (t_val (A 10) (I 16).toNat ((I 17 - I 16).toNat)))) F Dd hsI (sm_putA hsA (sm_putR (hsA 22) (by omega))) (by unfold mtok; show 0 ≤ I 17 ∧ I 17 ≤ 200 ∧ 0 ≤ I 11 ∧ I 11 ≤ 200; omega)) 0 kw_817 kc_X8_nextToken (by decide +kernel) (pm0 _) 0 (ci := 6) rfl rfl rfl rfl ⟨Nat.le_of_ble_eq_true rfl, Nat.le_of_ble_eq_true rfl⟩ ⟨rfl, rfl⟩ ⟨Nat.le_of_ble_eq_true rfl, Nat.le_of_ble_eq_true rfl⟩ (Nat.le_of_ble_eq_true rfl) dX8_number_109 rfl rfl (wMod q Y (sU (sU I 16 (tk1 ((A 10)) ((I 11)) ((I 17)))) 17 (tk2 ((A 10)) ((I 11)) ((I 17)))) (sU A 22 (sU (A 22) 3 (t_val (A 10) (I 16).toNat ((I 17 - I 16).toNat)))) F Dd) (pm0' _) ?_
          refine g_iload C (n' := 114) 0 rfl dX8_number_112 rfl ?_
          have hN : t_num (A 10) (I 11) (I 16) (I 17) lo hi = t_val (A 10) (I 16).toNat (I 17 - I 16).toNat := by
            unfold t_num
            (repeat' split) <;> first | rfl | omega
          refine g_iret C hr hlk (nar_z bz_01) (Or.inr ⟨by omega, by rw [if_pos (by omega)], ?_⟩) dX8_number_114
          rw [hN]
      · skip
        refine g_iconst C (n' := 40) dX8_number_39 rfl ?_
        have hN : t_num (A 10) (I 11) (I 16) (I 17) lo hi = -1 := by
          unfold t_num
          (repeat' split) <;> first | rfl | omega
        exact g_iret C hr hlk (nar_z (by omega)) (Or.inl ⟨hN, rfl, rfl⟩) dX8_number_40
