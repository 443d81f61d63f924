/-! the reference: the text is read -/
theorem okN_tell {J : Nat → Int} {N : Nat → Nat → Int} (h : okN J N) {w a : Int} (h1 : rcLo w ≤ a) (h2 : a ≤ rcHi w) : okN (n_tell w a J) N := by
  unfold okN at *
  obtain ⟨k0, k1, k2, k3, k4, k5, k6⟩ := h
  unfold rcLo at h1
  unfold rcHi at h2
  unfold n_tell
  split
  · next e =>
    rw [if_pos e] at h1 h2
    exact ⟨⟨h1, h2⟩, ⟨Int.le_refl _, by show (0 : Int) ≤ 9; omega⟩, ⟨Int.le_refl _, by show (0 : Int) ≤ 9; omega⟩, ⟨Int.le_refl _, by show (1 : Int) ≤ 9; omega⟩, ⟨by show (0 : Int) ≤ 99; omega, by show (99 : Int) ≤ 999; omega⟩, ⟨Int.le_refl _, by show (0 : Int) ≤ 16; omega⟩, fun p hp => by
      have : (p : Int) < 0 := hp
      omega⟩
  · next e0 =>
    rw [if_neg e0] at h1 h2
    split
    · next e =>
      rw [if_neg (by omega)] at h1 h2
      exact ⟨k0, ⟨h1, h2⟩, k2, k3, k4, k5, k6⟩
    · split
      · next e =>
        rw [if_neg (by omega)] at h1 h2
        exact ⟨k0, k1, ⟨h1, h2⟩, k3, k4, k5, k6⟩
      · split
        · next e =>
          rw [if_pos (by omega)] at h1
          rw [if_neg (by omega)] at h2
          exact ⟨k0, k1, k2, ⟨h1, h2⟩, k4, k5, k6⟩
        · next e =>
          rw [if_neg (by omega)] at h1
          exact ⟨k0, k1, k2, k3, ⟨h1, by show a ≤ 999; split at h2 <;> omega⟩, k5, k6⟩
theorem okN_add {J : Nat → Int} {N : Nat → Nat → Int} (h : okN J N) {a b u v : Int} (h5 : ¬ 16 ≤ J 5) (ha : 0 ≤ a ∧ a ≤ J 0 - 1) (hb : 0 ≤ b ∧ b ≤ J 0 - 1) (hu : 0 ≤ u ∧ u ≤ 99) (hv : 0 ≤ v ∧ v ≤ u) : okN (n_addI J) (n_addA J N a b u v) := by
  unfold okN at *
  obtain ⟨k0, k1, k2, k3, k4, k5, k6⟩ := h
  unfold n_addI n_addA
  rw [if_neg h5, if_neg h5]
  refine ⟨k0, k1, k2, k3, k4, ⟨by show 0 ≤ J 5 + 1; omega, by show J 5 + 1 ≤ 16; omega⟩, fun p hp => ?_⟩
  have hp2 : (p : Int) < J 5 + 1 := hp
  show (0 ≤ sU (N 6) (J 5).toNat a p ∧ sU (N 6) (J 5).toNat a p < J 0) ∧ (0 ≤ sU (N 7) (J 5).toNat b p ∧ sU (N 7) (J 5).toNat b p < J 0) ∧ (0 ≤ sU (N 9) (J 5).toNat v p ∧ sU (N 9) (J 5).toNat v p ≤ sU (N 8) (J 5).toNat u p ∧ sU (N 8) (J 5).toNat u p ≤ 199)
  by_cases e : p = (J 5).toNat
  · subst e
    simp only [sU_s]
    omega
  · rw [sU_n _ _ e, sU_n _ _ e, sU_n _ _ e, sU_n _ _ e]
    exact k6 p (by omega)
theorem t_num_in {L : Nat → Int} {n s e lo hi : Int} (h : ¬ t_num L n s e lo hi = -1) : lo ≤ t_num L n s e lo hi ∧ t_num L n s e lo hi ≤ hi := (t_num_r L n s e lo hi).resolve_left h
theorem rcF_ok {L : Nat → Int} {n s e : Int} {J : Nat → Int} {N : Nat → Nat → Int} (h : okN J N) : okN (rcF L n s e J N).2.2.2.1 (rcF L n s e J N).2.2.2.2 := by
  unfold rcF
  split
  · exact h
  · split
    · split
      · exact h
      · next h5 =>
        split
        · exact h
        · next a1 =>
          split
          · exact h
          · next a2 =>
            split
            · exact h
            · next a3 =>
              split
              · exact h
              · next a4 =>
                exact okN_add h h5 (t_num_in a1) (t_num_in a2) (t_num_in a3) (t_num_in a4)
    · split
      · exact h
      · next a1 => exact okN_tell h (t_num_in a1).1 (t_num_in a1).2
theorem rcF_tk {L : Nat → Int} {n s e : Int} {J : Nat → Int} {N : Nat → Nat → Int} (h : 0 ≤ s ∧ s ≤ e ∧ e ≤ n) : (0 ≤ (rcF L n s e J N).2.1 ∧ (rcF L n s e J N).2.1 ≤ (rcF L n s e J N).2.2.1 ∧ (rcF L n s e J N).2.2.1 ≤ n) ∧ ((rcF L n s e J N).1 = 0 ∨ (rcF L n s e J N).1 = 1) := by
  have h1 := tk_n (L := L) (n := n) (e := e) (by omega)
  have h2 := tk_n (L := L) (n := n) (e := tk2 L n e) (by omega)
  have h3 := tk_n (L := L) (n := n) (e := tk2 L n (tk2 L n e)) (by omega)
  have h4 := tk_n (L := L) (n := n) (e := tk2 L n (tk2 L n (tk2 L n e))) (by omega)
  have h5 := tk_n (L := L) (n := n) (e := tk2 L n (tk2 L n (tk2 L n (tk2 L n e)))) (by omega)
  unfold rcF
  (repeat' split) <;> exact ⟨⟨by dsimp only; omega, by dsimp only; omega, by dsimp only; omega⟩, by first | exact Or.inl rfl | exact Or.inr rfl⟩
/-- what is read after a clause: whether all is well, where it stands, how many clauses, the net -/
def rdE (n c : Int) (X : Int × Int × Int × (Nat → Int) × (Nat → Nat → Int)) : Int × Int × Int × (Nat → Int) × (Nat → Nat → Int) := (if X.1 = 0 then 0 else if n ≤ X.2.1 then 1 else 0, X.2.1, c, X.2.2.2.1, X.2.2.2.2)
def rdG (L : Nat → Int) (n : Int) : Nat → Int → Int × Int × Int × (Nat → Int) × (Nat → Nat → Int) → Int × Int × Int × (Nat → Int) × (Nat → Nat → Int)
  | 0, c, X => rdE n c X
  | f + 1, c, X => if X.1 = 0 ∨ n ≤ X.2.1 ∨ L X.2.1.toNat ≠ 59 then rdE n c X else rdG L n f (c + 1) (rcF L n (tk1 L n X.2.2.1) (tk2 L n X.2.2.1) X.2.2.2.1 X.2.2.2.2)
def rdA (L : Nat → Int) (n : Int) (J : Nat → Int) (N : Nat → Nat → Int) : Int × Int × Int × (Nat → Int) × (Nat → Nat → Int) := rdG L n 23 1 (rcF L n (tk1 L n 0) (tk2 L n 0) J N)
def rdP (x : Int) (I : Nat → Int) (A : Nat → Nat → Int) (I1 : Nat → Int) (A1 : Nat → Nat → Int) (X : Int × Int × Int × (Nat → Int) × (Nat → Nat → Int)) : Prop := (smI I1 ∧ smA A1) ∧ frR I A I1 A1 ∧ (I1 16 = X.2.1 ∧ I1 20 = X.2.2.1) ∧ (x = 1 → mNet X.2.2.2.1 X.2.2.2.2 I1 A1) ∧ (x = 0 → frN I A I1 A1)
theorem frR_trans {I I1 I2 : Nat → Int} {A A1 A2 : Nat → Nat → Int} (h : frR I A I1 A1) (k : frR I1 A1 I2 A2) : frR I A I2 A2 := by
  obtain ⟨⟨a1, a2, a3⟩, b1, b2, b3, b4, b5, b6, b7, b8, b9, b10, b11⟩ := h
  obtain ⟨⟨c1, c2, c3⟩, d1, d2, d3, d4, d5, d6, d7, d8, d9, d10, d11⟩ := k
  exact ⟨⟨c1.trans a1, c2.trans a2, c3.trans a3⟩, d1.trans b1, d2.trans b2, d3.trans b3, d4.trans b4, d5.trans b5, d6.trans b6, d7.trans b7, d8.trans b8, d9.trans b9, d10.trans b10, fun k hk => (d11 k hk).trans (b11 k hk)⟩
theorem frN_trans {I I1 I2 : Nat → Int} {A A1 A2 : Nat → Nat → Int} (h : frN I A I1 A1) (k : frN I1 A1 I2 A2) : frN I A I2 A2 := by
  obtain ⟨⟨a1, a2, a3, a4, a5⟩, b1, b2, b3⟩ := h
  obtain ⟨⟨c1, c2, c3, c4, c5⟩, d1, d2, d3⟩ := k
  exact ⟨⟨c1.trans a1, c2.trans a2, c3.trans a3, c4.trans a4, c5.trans a5⟩, d1.trans b1, d2.trans b2, d3.trans b3⟩
theorem frR_w {I I1 : Nat → Int} {A A1 : Nat → Nat → Int} (h : frR I A I1 A1) (k : mwOK A) : mwOK A1 := by
  obtain ⟨-, -, -, -, -, b5, b6, b7, b8, b9, b10, -⟩ := h
  unfold mwOK at *
  rw [b5, b6, b7, b8, b9, b10]
  exact k
set_option maxRecDepth 100000 in
set_option maxHeartbeats 4000000 in
theorem lp_X8_rd {p9 : Program} {l : Launch} {e9 : Env} {s9 : State} {m9 : MethodId} {a9 : Array Value} {b9 : List Frame} {t9 : Method} {c9 : Code} {D : va_G} {A9 : Nat → Prop} {Q9 : State → Prop} {E : (Nat → Prop) → State → Heap → Prop} {Y : Nat → ClassId} (C : g_Cx p9 s9 m9 a9 c9 cX8_reads 3 RX8 D (tysY Y) A9 E) (q : Nat → Nat) (I : Nat → Int) (A : Nat → Nat → Int) (F : Nat → UInt32) (Dd : Nat → UInt64) (x : Int) (hsI : smI I) (hsA : smA A) (hw : mwOK A) (h11 : 0 ≤ I 11 ∧ I 11 ≤ 200) (hx : x = 0 ∨ x = 1) : ∀ (n9 : Nat) (I1 : Nat → Int) (A1 : Nat → Nat → Int) (c : Int) (X : Int × Int × Int × (Nat → Int) × (Nat → Nat → Int)), smI I1 → smA A1 → frR I A I1 A1 → (I1 16 = X.2.1 ∧ I1 17 = X.2.2.1 ∧ I1 18 = X.2.2.2.1 0 ∧ I1 19 = X.2.2.2.1 5) → (I1 20 = c ∧ I1 21 = x) → (c + n9 = 24 ∧ 1 ≤ c) → ((0 ≤ X.2.1 ∧ X.2.1 ≤ X.2.2.1 ∧ X.2.2.1 ≤ I 11) ∧ (X.1 = 0 ∨ X.1 = 1)) → okN X.2.2.2.1 X.2.2.2.2 → (x = 1 → mNet X.2.2.2.1 X.2.2.2.2 I1 A1) → (x = 0 → frN I A I1 A1) → (∀ (I2 : Nat → Int) (A2 : Nat → Nat → Int), rdP x I A I2 A2 (rdG (A 10) (I 11) n9 c X) → g_G p9 l e9 ({ frames := 6, cells := 0, slots := 0, locals := 132 } : Room) s9 m9 a9 b9 t9 c9 3 D A9 Q9 0 0 (wMod q Y I2 A2 F Dd) [(2, .int (iI ((rdG (A 10) (I 11) n9 c X).1))), (0, .ref (q 99)), (1, .int (iI x))] 110 []) → g_G p9 l e9 ({ frames := 6, cells := 0, slots := 0, locals := 132 } : Room) s9 m9 a9 b9 t9 c9 3 D A9 Q9 0 0 (wMod q Y I1 A1 F Dd) [(2, .int (iI X.1)), (0, .ref (q 99)), (1, .int (iI x))] 40 [] := by
  have hE := C.2.2.2.2.2.2.2.2.1
  intro n9
  induction n9 with
  | zero =>
    intro I1 A1 c X hsI1 hsA1 hfr h16 h20 hc hX hok hm hn K
    have hI := hsI
    have hA := hsA
    unfold smI at hI
    unfold smA at hA
    have hI1 := hsI1
    unfold smI at hI1
    have hA1 := hsA1
    unfold smA at hA1
    have hf11 : I1 11 = I 11 := hfr.1.2.1
    have hf10 : A1 10 = A 10 := hfr.2.2.1
    have hw1 : mwOK A1 := frR_w hfr hw
    refine g_iload_n C (n' := 41) 0 rfl dX8_reads_40 rfl rfl ?_
    refine g_if_eq C (n' := 44) 110 dX8_reads_41 (by decide) rfl (by unfold inR; omega) (fun c1 => ?_) (fun c1 => ?_)
    · skip
      have e9 : rdG (A 10) (I 11) 0 c X = rdE (I 11) c X := rfl
      have e8 : (rdE (I 11) c X).1 = X.1 := by
        show (if X.1 = 0 then 0 else if I 11 ≤ X.2.1 then 1 else 0) = _
        rw [if_pos (by omega)]
        omega
      rw [e9, e8] at K
      exact K I1 A1 ⟨⟨hsI1, hsA1⟩, hfr, ⟨h16.1, h20.1⟩, hm, hn⟩
    · skip
      refine g_aload_n C (n' := 45) 1 rfl dX8_reads_44 rfl rfl ?_
      refine g_get C (n' := 48) (Cn := RX8) (T := TX8) (N := 35) (ci := 6) (v := .int (iI (I1 16))) ga_X8 0 rfl rfl 16 (by decide) kw_706 rfl rfl dX8_reads_45 rfl ?_
      have h_45 := hI1 16
      refine g_aload_n C (n' := 49) 1 rfl dX8_reads_48 rfl rfl ?_
      refine g_get C (n' := 52) (Cn := RX8) (T := TX8) (N := 35) (ci := 6) (v := .int (iI (I1 11))) ga_X8 0 rfl rfl 11 (by decide) kw_701 rfl rfl dX8_reads_49 rfl ?_
      have h_49 := hI1 11
      refine g_icmp_ge C (n' := 55) 110 dX8_reads_52 (by decide) rfl (by unfold inR; omega) (by unfold inR; omega) (fun c2 => ?_) (fun c2 => ?_)
      · skip
        have e9 : rdG (A 10) (I 11) 0 c X = rdE (I 11) c X := rfl
        have e8 : (rdE (I 11) c X).1 = X.1 := by
          show (if X.1 = 0 then 0 else if I 11 ≤ X.2.1 then 1 else 0) = _
          rw [if_neg (by omega), if_pos (by omega)]
          omega
        rw [e9, e8] at K
        exact K I1 A1 ⟨⟨hsI1, hsA1⟩, hfr, ⟨h16.1, h20.1⟩, hm, hn⟩
      · skip
        refine g_aload_n C (n' := 56) 1 rfl dX8_reads_55 rfl rfl ?_
        refine g_get C (n' := 59) (Cn := RX8) (T := TX8) (N := 35) (ci := 6) (v := .int (iI (I1 20))) ga_X8 0 rfl rfl 20 (by decide) kw_710 rfl rfl dX8_reads_56 rfl ?_
        have h_56 := hI1 20
        refine g_bipush C (n' := 61) (by decide) dX8_reads_59 rfl ?_
        refine g_icmp_ge C (n' := 64) 82 dX8_reads_61 (by decide) rfl (by unfold inR; omega) (by unfold inR; omega) (fun c3 => ?_) (fun c3 => ?_)
        · skip
          refine g_iconst C (n' := 83) dX8_reads_82 rfl ?_
          refine g_istore_n C (n' := 84) [(2, .int (iI 0)), (0, .ref (q 99)), (1, .int (iI x))] dX8_reads_83 rfl rfl (by decide) rfl ?_
          refine g_iload_n C (n' := 85) 0 rfl dX8_reads_84 rfl rfl ?_
          refine g_if_eq C (n' := 88) 40 dX8_reads_85 (by decide) rfl (by unfold inR; omega) (fun c4 => ?_) (fun c4 => ?_)
          · skip
            refine g_lv (lv' := [(2, .int (iI 0)), (0, .ref (q 99)), (1, .int (iI x))]) [0, 1, 2] rfl ?_
            refine g_iload_n C (n' := 41) 0 rfl dX8_reads_40 rfl rfl ?_
            refine g_if_eq C (n' := 44) 110 dX8_reads_41 (by decide) rfl (by unfold inR; omega) (fun c5 => ?_) (fun c5 => ?_)
            · skip
              have e9 : rdG (A 10) (I 11) 0 c X = rdE (I 11) c X := rfl
              have e8 : (rdE (I 11) c X).1 = 0 := by
                show (if X.1 = 0 then 0 else if I 11 ≤ X.2.1 then 1 else 0) = _
                rw [if_neg (by omega), if_neg (by omega)]
              rw [e9, e8] at K
              exact K I1 A1 ⟨⟨hsI1, hsA1⟩, hfr, ⟨h16.1, h20.1⟩, hm, hn⟩
            · skip
              exfalso
              omega
          · skip
            exfalso
            omega
        · skip
          exfalso
          omega
  | succ n9 ih =>
    intro I1 A1 c X hsI1 hsA1 hfr h16 h20 hc hX hok hm hn K
    have hI := hsI
    have hA := hsA
    unfold smI at hI
    unfold smA at hA
    have hI1 := hsI1
    unfold smI at hI1
    have hA1 := hsA1
    unfold smA at hA1
    have hf11 : I1 11 = I 11 := hfr.1.2.1
    have hf10 : A1 10 = A 10 := hfr.2.2.1
    have hw1 : mwOK A1 := frR_w hfr hw
    refine g_iload_n C (n' := 41) 0 rfl dX8_reads_40 rfl rfl ?_
    refine g_if_eq C (n' := 44) 110 dX8_reads_41 (by decide) rfl (by unfold inR; omega) (fun c1 => ?_) (fun c1 => ?_)
    · skip
      have e9 : rdG (A 10) (I 11) (n9 + 1) c X = rdE (I 11) c X := by rw [rdG, if_pos (Or.inl (by omega))]
      have e8 : (rdE (I 11) c X).1 = X.1 := by
        show (if X.1 = 0 then 0 else if I 11 ≤ X.2.1 then 1 else 0) = _
        rw [if_pos (by omega)]
        omega
      rw [e9, e8] at K
      exact K I1 A1 ⟨⟨hsI1, hsA1⟩, hfr, ⟨h16.1, h20.1⟩, hm, hn⟩
    · skip
      refine g_aload_n C (n' := 45) 1 rfl dX8_reads_44 rfl rfl ?_
      refine g_get C (n' := 48) (Cn := RX8) (T := TX8) (N := 35) (ci := 6) (v := .int (iI (I1 16))) ga_X8 0 rfl rfl 16 (by decide) kw_706 rfl rfl dX8_reads_45 rfl ?_
      have h_45 := hI1 16
      refine g_aload_n C (n' := 49) 1 rfl dX8_reads_48 rfl rfl ?_
      refine g_get C (n' := 52) (Cn := RX8) (T := TX8) (N := 35) (ci := 6) (v := .int (iI (I1 11))) ga_X8 0 rfl rfl 11 (by decide) kw_701 rfl rfl dX8_reads_49 rfl ?_
      have h_49 := hI1 11
      refine g_icmp_ge C (n' := 55) 110 dX8_reads_52 (by decide) rfl (by unfold inR; omega) (by unfold inR; omega) (fun c2 => ?_) (fun c2 => ?_)
      · skip
        have e9 : rdG (A 10) (I 11) (n9 + 1) c X = rdE (I 11) c X := by rw [rdG, if_pos (Or.inr (Or.inl (by omega)))]
        have e8 : (rdE (I 11) c X).1 = X.1 := by
          show (if X.1 = 0 then 0 else if I 11 ≤ X.2.1 then 1 else 0) = _
          rw [if_neg (by omega), if_pos (by omega)]
          omega
        rw [e9, e8] at K
        exact K I1 A1 ⟨⟨hsI1, hsA1⟩, hfr, ⟨h16.1, h20.1⟩, hm, hn⟩
      · skip
        refine g_aload_n C (n' := 56) 1 rfl dX8_reads_55 rfl rfl ?_
        refine g_get C (n' := 59) (Cn := RX8) (T := TX8) (N := 35) (ci := 6) (v := .int (iI (I1 20))) ga_X8 0 rfl rfl 20 (by decide) kw_710 rfl rfl dX8_reads_56 rfl ?_
        have h_56 := hI1 20
        refine g_bipush C (n' := 61) (by decide) dX8_reads_59 rfl ?_
        refine g_icmp_ge C (n' := 64) 82 dX8_reads_61 (by decide) rfl (by unfold inR; omega) (by unfold inR; omega) (fun c3 => ?_) (fun c3 => ?_)
        · skip
          exfalso
          omega
        · skip
          refine g_aload_n C (n' := 65) 1 rfl dX8_reads_64 rfl rfl ?_
          refine g_get C (n' := 68) (Cn := RX8) (T := TX8) (N := 35) (ci := 6) (v := .ref (q 10)) ga_X8 0 rfl rfl 10 (by decide) kw_700 rfl rfl dX8_reads_65 rfl ?_
          refine g_aload_n C (n' := 69) 1 rfl dX8_reads_68 rfl rfl ?_
          refine g_get C (n' := 72) (Cn := RX8) (T := TX8) (N := 35) (ci := 6) (v := .int (iI (I1 16))) ga_X8 0 rfl rfl 16 (by decide) kw_706 rfl rfl dX8_reads_69 rfl ?_
          have h_69 := hI1 16
          refine g_iald C (n' := 73) (f := (A1 10)) 5 0 rfl rfl (by omega) (by omega) (by decide) rfl dX8_reads_72 rfl ?_
          have h_72 := hA1 10 ((I1 16).toNat)
          refine g_bipush C (n' := 75) (by decide) dX8_reads_73 rfl ?_
          refine g_icmp_ne C (n' := 78) 82 dX8_reads_75 (by decide) rfl (by unfold inR; omega) (by unfold inR; omega) (fun c4 => ?_) (fun c4 => ?_)
          · skip
            refine g_iconst C (n' := 83) dX8_reads_82 rfl ?_
            refine g_istore_n C (n' := 84) [(2, .int (iI 0)), (0, .ref (q 99)), (1, .int (iI x))] dX8_reads_83 rfl rfl (by decide) rfl ?_
            refine g_iload_n C (n' := 85) 0 rfl dX8_reads_84 rfl rfl ?_
            refine g_if_eq C (n' := 88) 40 dX8_reads_85 (by decide) rfl (by unfold inR; omega) (fun c5 => ?_) (fun c5 => ?_)
            · skip
              refine g_lv (lv' := [(2, .int (iI 0)), (0, .ref (q 99)), (1, .int (iI x))]) [0, 1, 2] rfl ?_
              refine g_iload_n C (n' := 41) 0 rfl dX8_reads_40 rfl rfl ?_
              refine g_if_eq C (n' := 44) 110 dX8_reads_41 (by decide) rfl (by unfold inR; omega) (fun c6 => ?_) (fun c6 => ?_)
              · skip
                have e9 : rdG (A 10) (I 11) (n9 + 1) c X = rdE (I 11) c X := by rw [rdG, if_pos (Or.inr (Or.inr (by rw [← hf10, ← h16.1]; omega)))]
                have e8 : (rdE (I 11) c X).1 = 0 := by
                  show (if X.1 = 0 then 0 else if I 11 ≤ X.2.1 then 1 else 0) = _
                  rw [if_neg (by omega), if_neg (by omega)]
                rw [e9, e8] at K
                exact K I1 A1 ⟨⟨hsI1, hsA1⟩, hfr, ⟨h16.1, h20.1⟩, hm, hn⟩
              · skip
                exfalso
                omega
            · skip
              exfalso
              omega
          · skip
            refine g_iconst C (n' := 79) dX8_reads_78 rfl ?_
            refine g_goto C 83 dX8_reads_79 (by decide) ?_
            refine g_istore_n C (n' := 84) [(2, .int (iI 1)), (0, .ref (q 99)), (1, .int (iI x))] dX8_reads_83 rfl rfl (by decide) rfl ?_
            refine g_iload_n C (n' := 85) 0 rfl dX8_reads_84 rfl rfl ?_
            refine g_if_eq C (n' := 88) 40 dX8_reads_85 (by decide) rfl (by unfold inR; omega) (fun c7 => ?_) (fun c7 => ?_)
            · skip
              exfalso
              omega
            · skip
              refine g_aload_n C (n' := 89) 1 rfl dX8_reads_88 rfl rfl ?_
              refine g_cVn C (n' := 92) (c_X8_nextToken l D Y C.2.2.2.2.2.2.2.2.1 q I1 A1 F Dd hsI1 hsA1 (by unfold mtok; omega)) 0 kw_817 kc_X8_nextToken (by decide +kernel) (pm0 _) 0 (ci := 6) rfl rfl rfl rfl ⟨Nat.le_of_ble_eq_true rfl, Nat.le_of_ble_eq_true rfl⟩ ⟨rfl, rfl⟩ ⟨Nat.le_of_ble_eq_true rfl, Nat.le_of_ble_eq_true rfl⟩ (Nat.le_of_ble_eq_true rfl) dX8_reads_89 rfl rfl (wMod q Y (sU (sU I1 16 (tk1 ((A1 10)) ((I1 11)) ((I1 17)))) 17 (tk2 ((A1 10)) ((I1 11)) ((I1 17)))) A1 F Dd) (pm0' _) ?_
              have htk := tk_n (L := A1 10) (n := I1 11) (e := I1 17) (by omega)
              refine g_aload_n C (n' := 93) 1 rfl dX8_reads_92 rfl rfl ?_
              refine g_callV C (n' := 96) (c_X8_readsClause l D Y C.2.2.2.2.2.2.2.2.1 q (sU (sU I1 16 (tk1 ((A1 10)) ((I1 11)) ((I1 17)))) 17 (tk2 ((A1 10)) ((I1 11)) ((I1 17)))) A1 F Dd X.2.2.2.1 X.2.2.2.2 (sm_put (sm_put hsI1 (by omega)) (by omega)) hsA1 (by show mtk _; unfold mtk; show 0 ≤ tk1 (A1 10) (I1 11) (I1 17) ∧ tk1 (A1 10) (I1 11) (I1 17) ≤ tk2 (A1 10) (I1 11) (I1 17) ∧ tk2 (A1 10) (I1 11) (I1 17) ≤ I1 11 ∧ I1 11 ≤ 200; omega) hw1 hok h16.2.2.1 h16.2.2.2 (by rcases hx with hx | hx; exact Or.inl (by show I1 21 = 0; omega); exact Or.inr ⟨by show I1 21 = 1; omega, hm hx⟩)) 0 kw_831 kc_X8_readsClause (by decide +kernel) (pm0 _) 0 (ci := 6) rfl rfl rfl rfl ⟨Nat.le_of_ble_eq_true rfl, Nat.le_of_ble_eq_true rfl⟩ ⟨rfl, rfl⟩ ⟨Nat.le_of_ble_eq_true rfl, Nat.le_of_ble_eq_true rfl⟩ (Nat.le_of_ble_eq_true rfl) dX8_reads_93 rfl (fun r9 w9 hp8 => ?_)
              obtain ⟨I9, A10, rfl, rfl, hPX11⟩ := hp8
              replace hPX11 : rcP (sU (sU I1 16 (tk1 ((A1 10)) ((I1 11)) ((I1 17)))) 17 (tk2 ((A1 10)) ((I1 11)) ((I1 17)))) A1 I9 A10 (rcF (A1 10) (I1 11) (tk1 ((A1 10)) ((I1 11)) ((I1 17))) (tk2 ((A1 10)) ((I1 11)) ((I1 17))) X.2.2.2.1 X.2.2.2.2) := hPX11
              refine g_perm (w' := (wMod q Y I9 A10 F Dd)) (pm0' _) ?_
              refine g_st (st' := [.int (iI ((rcF (A1 10) (I1 11) (tk1 ((A1 10)) ((I1 11)) ((I1 17))) (tk2 ((A1 10)) ((I1 11)) ((I1 17))) X.2.2.2.1 X.2.2.2.2).1))]) rfl ?_
              have hI9 := hPX11.1.1
              unfold smI at hI9
              refine g_istore_n C (n' := 97) [(2, .int (iI ((rcF (A1 10) (I1 11) (tk1 ((A1 10)) ((I1 11)) ((I1 17))) (tk2 ((A1 10)) ((I1 11)) ((I1 17))) X.2.2.2.1 X.2.2.2.2).1))), (0, .ref (q 99)), (1, .int (iI x))] dX8_reads_96 rfl rfl (by decide) rfl ?_
              refine g_aload_n C (n' := 98) 1 rfl dX8_reads_97 rfl rfl ?_
              refine g_dup C (n' := 99) rfl dX8_reads_98 rfl ?_
              refine g_get C (n' := 102) (Cn := RX8) (T := TX8) (N := 35) (ci := 6) (v := .int (iI (I9 20))) ga_X8 0 rfl rfl 20 (by decide) kw_710 rfl rfl dX8_reads_99 rfl ?_
              have h_99 := hI9 20
              refine g_iconst C (n' := 103) dX8_reads_102 rfl ?_
              refine g_iadd C (n' := 104) dX8_reads_103 rfl ?_
              refine g_put C (n' := 107) (Cn := RX8) (T := TX8) (N := 35) (ci := 6) (v := .int (iI ((I9 20) + 1))) ga_X8 0 rfl rfl 20 (by decide) kw_710 rfl tyX8 tyX8_ok nmX8 rfl rfl rfl rfl (Nat.le_of_ble_eq_true rfl) (wMod q Y (sU I9 20 ((I9 20) + 1)) A10 F Dd) rfl dX8_reads_104 rfl ?_
              refine g_goto C 40 dX8_reads_107 (by decide) ?_
              refine g_lv (lv' := [(2, .int (iI ((rcF (A1 10) (I1 11) (tk1 ((A1 10)) ((I1 11)) ((I1 17))) (tk2 ((A1 10)) ((I1 11)) ((I1 17))) X.2.2.2.1 X.2.2.2.2).1))), (0, .ref (q 99)), (1, .int (iI x))]) [0, 1, 2] rfl ?_
              have e9 : rdG (A 10) (I 11) (n9 + 1) c X = rdG (A 10) (I 11) n9 (c + 1) (rcF (A 10) (I 11) (tk1 (A 10) (I 11) X.2.2.1) (tk2 (A 10) (I 11) X.2.2.1) X.2.2.2.1 X.2.2.2.2) := by
                rw [rdG, if_neg (fun z => by rcases z with z | z | z; omega; omega; exact z (by rw [← hf10, ← h16.1]; omega))]
              rw [e9] at K
              have e7 : rcF (A1 10) (I1 11) (tk1 ((A1 10)) ((I1 11)) ((I1 17))) (tk2 ((A1 10)) ((I1 11)) ((I1 17))) X.2.2.2.1 X.2.2.2.2 = rcF (A 10) (I 11) (tk1 (A 10) (I 11) X.2.2.1) (tk2 (A 10) (I 11) X.2.2.1) X.2.2.2.1 X.2.2.2.2 := by rw [hf10, hf11, h16.2.1]
              rw [e7] at hPX11 ⊢
              obtain ⟨⟨p1, p2⟩, p3, ⟨p4, p5⟩, p6, p7, p8⟩ := hPX11
              have p3b : frR I A I9 A10 := frR_trans hfr p3
              have hff : frR I A (sU I9 20 (I9 20 + 1)) A10 := p3b
              have p4c : I9 20 = c := p4.trans h20.1
              have p5c : I9 21 = x := p5.trans h20.2
              exact ih _ _ (c + 1) _ (sm_put p1 (by omega)) p2 hff p6 ⟨by show I9 20 + 1 = c + 1; omega, p5c⟩ (by omega) (rcF_tk (by have := tk_n (L := A 10) (n := I 11) (e := X.2.2.1) (by omega); omega)) (rcF_ok hok) (fun hx1 => p7 (by show I1 21 = 1; omega)) (fun hx0 => frN_trans (hn hx0) (p8 (by show I1 21 = 0; omega))) K
theorem rdG_01 {L : Nat → Int} {n : Int} : ∀ (f : Nat) (c : Int) (X : Int × Int × Int × (Nat → Int) × (Nat → Nat → Int)), (rdG L n f c X).1 = 0 ∨ (rdG L n f c X).1 = 1
  | 0, c, X => by
    show (if X.1 = 0 then (0 : Int) else if n ≤ X.2.1 then 1 else 0) = 0 ∨ (if X.1 = 0 then (0 : Int) else if n ≤ X.2.1 then 1 else 0) = 1
    (repeat' split) <;> omega
  | f + 1, c, X => by
    rw [rdG]
    split
    · exact rdG_01 (L := L) 0 c X
    · exact rdG_01 f _ _
theorem rdA_01 {L : Nat → Int} {n : Int} {J : Nat → Int} {N : Nat → Nat → Int} : (rdA L n J N).1 = 0 ∨ (rdA L n J N).1 = 1 := rdG_01 _ _ _
set_option maxRecDepth 100000 in
set_option maxHeartbeats 4000000 in
theorem c_X8_reads (l : Launch) (D : va_G) (Y : Nat → ClassId) {E : (Nat → Prop) → State → Heap → Prop} (hE : g_Stab E) (q : Nat → Nat) (I : Nat → Int) (A : Nat → Nat → Int) (F : Nat → UInt32) (Dd : Nat → UInt64) (x : Int) (J : Nat → Int) (N : Nat → Nat → Int) (hsI : smI I) (hsA : smA A) (hw : mwOK A) (h11 : 0 ≤ I 11 ∧ I 11 ≤ 200) (hx : x = 0 ∨ x = 1) (hO : okN J N) (hJ : J 0 = I 1 ∧ J 5 = I 2) (hD : x = 1 → mNet J N I A) : g_Ct l yX8_reads cX8_reads 3 (some FieldType.boolean) ({ frames := 6, cells := 0, slots := 0, locals := 132 } : Room) D (tysY Y) E [.ref (q 99), .int (iI x)] (wMod q Y I A F Dd) 0 0 (fun r9 w9 => ∃ (I1 : Nat → Int) (A1 : Nat → Nat → Int), w9 = wMod q Y I1 A1 F Dd ∧ r9 = some (.int (iI (rdA (A 10) (I 11) J N).1)) ∧ rdP x I A I1 A1 (rdA (A 10) (I 11) J N)) := by
  refine g_ofG (own := RX8) hE (by decide) rfl (Nat.le_of_ble_eq_true rfl) [(0, .ref (q 99)), (1, .int (iI x))] rfl ?_
  intro p9 e9 s9 m9 b9 t9 c9 A9 C hr hlk hnm
  have hI := hsI
  have hA := hsA
  unfold smI at hI
  unfold smA at hA
  refine g_aload_n C (n' := 1) 0 rfl dX8_reads_0 rfl rfl ?_
  refine g_iload_n C (n' := 2) 1 rfl dX8_reads_1 rfl rfl ?_
  refine g_put C (n' := 5) (Cn := RX8) (T := TX8) (N := 35) (ci := 6) (v := .int (iI x)) ga_X8 0 rfl rfl 21 (by decide) kw_711 rfl tyX8 tyX8_ok nmX8 rfl rfl (nar_z hx) (fit_z hx) (Nat.le_of_ble_eq_true rfl) (wMod q Y (sU I 21 x) A F Dd) rfl dX8_reads_2 rfl ?_
  refine g_aload_n C (n' := 6) 0 rfl dX8_reads_5 rfl rfl ?_
  refine g_iconst C (n' := 7) dX8_reads_6 rfl ?_
  refine g_put C (n' := 10) (Cn := RX8) (T := TX8) (N := 35) (ci := 6) (v := .int (iI 0)) ga_X8 0 rfl rfl 17 (by decide) kw_707 rfl tyX8 tyX8_ok nmX8 rfl rfl rfl rfl (Nat.le_of_ble_eq_true rfl) (wMod q Y (sU (sU I 21 x) 17 0) A F Dd) rfl dX8_reads_7 rfl ?_
  refine g_aload_n C (n' := 11) 0 rfl dX8_reads_10 rfl rfl ?_
  refine g_iconst C (n' := 12) dX8_reads_11 rfl ?_
  refine g_put C (n' := 15) (Cn := RX8) (T := TX8) (N := 35) (ci := 6) (v := .int (iI 1)) ga_X8 0 rfl rfl 20 (by decide) kw_710 rfl tyX8 tyX8_ok nmX8 rfl rfl rfl rfl (Nat.le_of_ble_eq_true rfl) (wMod q Y (sU (sU (sU I 21 x) 17 0) 20 1) A F Dd) rfl dX8_reads_12 rfl ?_
  refine g_aload_n C (n' := 16) 0 rfl dX8_reads_15 rfl rfl ?_
  refine g_aload_n C (n' := 17) 0 rfl dX8_reads_16 rfl rfl ?_
  refine g_get C (n' := 20) (Cn := RX8) (T := TX8) (N := 35) (ci := 6) (v := .int (iI (I 1))) ga_X8 0 rfl rfl 1 (by decide) kw_691 rfl rfl dX8_reads_17 rfl ?_
  have h_17 := hI 1
  refine g_put C (n' := 23) (Cn := RX8) (T := TX8) (N := 35) (ci := 6) (v := .int (iI (I 1))) ga_X8 0 rfl rfl 18 (by decide) kw_708 rfl tyX8 tyX8_ok nmX8 rfl rfl rfl rfl (Nat.le_of_ble_eq_true rfl) (wMod q Y (sU (sU (sU (sU I 21 x) 17 0) 20 1) 18 (I 1)) A F Dd) rfl dX8_reads_20 rfl ?_
  refine g_aload_n C (n' := 24) 0 rfl dX8_reads_23 rfl rfl ?_
  refine g_aload_n C (n' := 25) 0 rfl dX8_reads_24 rfl rfl ?_
  refine g_get C (n' := 28) (Cn := RX8) (T := TX8) (N := 35) (ci := 6) (v := .int (iI (I 2))) ga_X8 0 rfl rfl 2 (by decide) kw_692 rfl rfl dX8_reads_25 rfl ?_
  have h_25 := hI 2
  refine g_put C (n' := 31) (Cn := RX8) (T := TX8) (N := 35) (ci := 6) (v := .int (iI (I 2))) ga_X8 0 rfl rfl 19 (by decide) kw_709 rfl tyX8 tyX8_ok nmX8 rfl rfl rfl rfl (Nat.le_of_ble_eq_true rfl) (wMod q Y (sU (sU (sU (sU (sU I 21 x) 17 0) 20 1) 18 (I 1)) 19 (I 2)) A F Dd) rfl dX8_reads_28 rfl ?_
  refine g_aload_n C (n' := 32) 0 rfl dX8_reads_31 rfl rfl ?_
  refine g_cVn C (n' := 35) (c_X8_nextToken l D Y C.2.2.2.2.2.2.2.2.1 q (sU (sU (sU (sU (sU I 21 x) 17 0) 20 1) 18 (I 1)) 19 (I 2)) A F Dd (sm_put (sm_put (sm_put (sm_put (sm_put hsI (by omega)) (by omega)) (by omega)) (by omega)) (by omega)) hsA (by unfold mtok; show 0 ≤ (0 : Int) ∧ (0 : Int) ≤ 200 ∧ 0 ≤ I 11 ∧ I 11 ≤ 200; omega)) 0 kw_817 kc_X8_nextToken (by decide +kernel) (pm0 _) 0 (ci := 6) rfl rfl rfl rfl ⟨Nat.le_of_ble_eq_true rfl, Nat.le_of_ble_eq_true rfl⟩ ⟨rfl, rfl⟩ ⟨Nat.le_of_ble_eq_true rfl, Nat.le_of_ble_eq_true rfl⟩ (Nat.le_of_ble_eq_true rfl) dX8_reads_32 rfl rfl (wMod q Y (sU (sU (sU (sU (sU (sU I 21 x) 20 1) 18 (I 1)) 19 (I 2)) 16 (tk1 ((A 10)) ((I 11)) (0))) 17 (tk2 ((A 10)) ((I 11)) (0))) A F Dd) (pm0' _) ?_
  have htk := tk_n (L := A 10) (n := I 11) (e := 0) (by omega)
  have hJ0 := hO.1
  have hJ5 := hO.2.2.2.2.2.1
  refine g_aload_n C (n' := 36) 0 rfl dX8_reads_35 rfl rfl ?_
  refine g_callV C (n' := 39) (c_X8_readsClause l D Y C.2.2.2.2.2.2.2.2.1 q (sU (sU (sU (sU (sU (sU I 21 x) 20 1) 18 (I 1)) 19 (I 2)) 16 (tk1 ((A 10)) ((I 11)) (0))) 17 (tk2 ((A 10)) ((I 11)) (0))) A F Dd J N (sm_put (sm_put (sm_put (sm_put (sm_put (sm_put hsI (by omega)) (by omega)) (by omega)) (by omega)) (by omega)) (by omega)) hsA (by show mtk _; unfold mtk; show 0 ≤ tk1 (A 10) (I 11) 0 ∧ tk1 (A 10) (I 11) 0 ≤ tk2 (A 10) (I 11) 0 ∧ tk2 (A 10) (I 11) 0 ≤ I 11 ∧ I 11 ≤ 200; omega) hw hO hJ.1.symm hJ.2.symm (by rcases hx with hx | hx; exact Or.inl hx; exact Or.inr ⟨hx, hD hx⟩)) 0 kw_831 kc_X8_readsClause (by decide +kernel) (pm0 _) 0 (ci := 6) rfl rfl rfl rfl ⟨Nat.le_of_ble_eq_true rfl, Nat.le_of_ble_eq_true rfl⟩ ⟨rfl, rfl⟩ ⟨Nat.le_of_ble_eq_true rfl, Nat.le_of_ble_eq_true rfl⟩ (Nat.le_of_ble_eq_true rfl) dX8_reads_36 rfl (fun r9 w9 hp1 => ?_)
  obtain ⟨I2, A3, rfl, rfl, hPX4⟩ := hp1
  replace hPX4 : rcP (sU (sU (sU (sU (sU (sU I 21 x) 20 1) 18 (I 1)) 19 (I 2)) 16 (tk1 ((A 10)) ((I 11)) (0))) 17 (tk2 ((A 10)) ((I 11)) (0))) A I2 A3 (rcF (A 10) (I 11) (tk1 ((A 10)) ((I 11)) (0)) (tk2 ((A 10)) ((I 11)) (0)) J N) := hPX4
  refine g_perm (w' := (wMod q Y I2 A3 F Dd)) (pm0' _) ?_
  refine g_st (st' := [.int (iI ((rcF (A 10) (I 11) (tk1 ((A 10)) ((I 11)) (0)) (tk2 ((A 10)) ((I 11)) (0)) J N).1))]) rfl ?_
  have hI2 := hPX4.1.1
  unfold smI at hI2
  refine g_istore_n C (n' := 40) [(2, .int (iI ((rcF (A 10) (I 11) (tk1 ((A 10)) ((I 11)) (0)) (tk2 ((A 10)) ((I 11)) (0)) J N).1))), (0, .ref (q 99)), (1, .int (iI x))] dX8_reads_39 rfl rfl (by decide) rfl ?_
  refine g_lv (lv' := [(2, .int (iI ((rcF (A 10) (I 11) (tk1 ((A 10)) ((I 11)) (0)) (tk2 ((A 10)) ((I 11)) (0)) J N).1))), (0, .ref (q 99)), (1, .int (iI x))]) [0, 1, 2] rfl ?_
  obtain ⟨⟨p1, p2⟩, p3, ⟨p4, p5⟩, p6, p7, p8⟩ := hPX4
  have hfr : frR I A I2 A3 := p3
  refine lp_X8_rd C q I A F Dd x hsI hsA hw h11 hx 23 I2 A3 1 (rcF (A 10) (I 11) (tk1 ((A 10)) ((I 11)) (0)) (tk2 ((A 10)) ((I 11)) (0)) J N) p1 p2 hfr p6 ⟨p4, p5⟩ (by omega) (rcF_tk (by omega)) (rcF_ok hO) (fun hx1 => p7 hx1) (fun hx0 => p8 hx0) (fun I2 A2 hP => ?_)
  refine g_iload_n C (n' := 111) 0 rfl dX8_reads_110 rfl rfl ?_
  have hz9 := rdA_01 (L := A 10) (n := I 11) (J := J) (N := N)
  exact g_iret C hr hlk (nar_z hz9) ⟨I2, A2, rfl, rfl, hP⟩ dX8_reads_111
