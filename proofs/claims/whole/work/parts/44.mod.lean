/-! the reference: a clause -/
def rcLo (w : Int) : Int := if w = 0 then 2 else if w = 4 then 1 else 0
def rcHi (w : Int) : Int := if w = 0 then 8 else if w = 5 then 999 else 9
def n_tell (w a : Int) (J : Nat → Int) : Nat → Int := if w = 0 then n_begin J a else if w = 2 then sU J 1 a else if w = 3 then sU J 2 a else if w = 4 then sU J 3 a else sU J 4 a
def rcF (L : Nat → Int) (n s e : Int) (J : Nat → Int) (N : Nat → Nat → Int) : Int × Int × Int × (Nat → Int) × (Nat → Nat → Int) :=
  if t_word L s e = -1 then (0, s, e, J, N)
  else if t_word L s e = 1 then (if 16 ≤ J 5 then (0, s, e, J, N)
    else if (t_num L n (tk1 L n e) (tk2 L n e) 0 (J 0 - 1)) = -1 then (0, (tk1 L n e), (tk2 L n e), J, N)
    else if (t_num L n (tk1 L n (tk2 L n e)) (tk2 L n (tk2 L n e)) 0 (J 0 - 1)) = -1 then (0, (tk1 L n (tk2 L n e)), (tk2 L n (tk2 L n e)), J, N)
    else if (t_num L n (tk1 L n (tk2 L n (tk2 L n e))) (tk2 L n (tk2 L n (tk2 L n e))) 0 99) = -1 then (0, (tk1 L n (tk2 L n (tk2 L n e))), (tk2 L n (tk2 L n (tk2 L n e))), J, N)
    else if (t_num L n (tk1 L n (tk2 L n (tk2 L n (tk2 L n e)))) (tk2 L n (tk2 L n (tk2 L n (tk2 L n e)))) 0 (t_num L n (tk1 L n (tk2 L n (tk2 L n e))) (tk2 L n (tk2 L n (tk2 L n e))) 0 99)) = -1 then (0, (tk1 L n (tk2 L n (tk2 L n (tk2 L n e)))), (tk2 L n (tk2 L n (tk2 L n (tk2 L n e)))), J, N)
    else (1, (tk1 L n (tk2 L n (tk2 L n (tk2 L n (tk2 L n e))))), (tk2 L n (tk2 L n (tk2 L n (tk2 L n (tk2 L n e))))), n_addI J, n_addA J N (t_num L n (tk1 L n e) (tk2 L n e) 0 (J 0 - 1)) (t_num L n (tk1 L n (tk2 L n e)) (tk2 L n (tk2 L n e)) 0 (J 0 - 1)) (t_num L n (tk1 L n (tk2 L n (tk2 L n e))) (tk2 L n (tk2 L n (tk2 L n e))) 0 99) (t_num L n (tk1 L n (tk2 L n (tk2 L n (tk2 L n e)))) (tk2 L n (tk2 L n (tk2 L n (tk2 L n e)))) 0 (t_num L n (tk1 L n (tk2 L n (tk2 L n e))) (tk2 L n (tk2 L n (tk2 L n e))) 0 99))))
  else if (t_num L n (tk1 L n e) (tk2 L n e) (rcLo (t_word L s e)) (rcHi (t_word L s e))) = -1 then (0, tk1 L n e, tk2 L n e, J, N)
  else (1, tk1 L n (tk2 L n e), tk2 L n (tk2 L n e), n_tell (t_word L s e) (t_num L n (tk1 L n e) (tk2 L n e) (rcLo (t_word L s e)) (rcHi (t_word L s e))) J, N)
def mNv (J : Nat → Int) (N : Nat → Nat → Int) (i1 i2 i5 i6 i7 : Int) (a0 a3 a4 : Nat → Int) : Prop := J 0 = i1 ∧ J 1 = i5 ∧ J 2 = i6 ∧ J 3 = i7 ∧ J 4 = a0 0 ∧ J 5 = i2 ∧ ∀ p : Nat, (p : Int) < i2 → N 6 p = a3 p ∧ N 7 p = a4 p ∧ N 8 p = a0 (1 + p) ∧ N 9 p = a0 (17 + p)
def mNet (J : Nat → Int) (N : Nat → Nat → Int) (I : Nat → Int) (A : Nat → Nat → Int) : Prop := mNv J N (I 1) (I 2) (I 5) (I 6) (I 7) (A 0) (A 3) (A 4)
theorem mNv_begin {J : Nat → Int} {N : Nat → Nat → Int} {a0 a3 a4 : Nat → Int} (x : Int) : mNv (n_begin J x) N x 0 0 0 1 (sU a0 0 99) a3 a4 := ⟨rfl, rfl, rfl, rfl, rfl, rfl, fun p hp => by omega⟩
theorem mNv_1 {J : Nat → Int} {N : Nat → Nat → Int} {i1 i2 i5 i6 i7 : Int} {a0 a3 a4 : Nat → Int} (h : mNv J N i1 i2 i5 i6 i7 a0 a3 a4) (x : Int) : mNv (sU J 1 x) N i1 i2 x i6 i7 a0 a3 a4 := ⟨h.1, rfl, h.2.2.1, h.2.2.2.1, h.2.2.2.2.1, h.2.2.2.2.2.1, h.2.2.2.2.2.2⟩
theorem mNv_2 {J : Nat → Int} {N : Nat → Nat → Int} {i1 i2 i5 i6 i7 : Int} {a0 a3 a4 : Nat → Int} (h : mNv J N i1 i2 i5 i6 i7 a0 a3 a4) (x : Int) : mNv (sU J 2 x) N i1 i2 i5 x i7 a0 a3 a4 := ⟨h.1, h.2.1, rfl, h.2.2.2.1, h.2.2.2.2.1, h.2.2.2.2.2.1, h.2.2.2.2.2.2⟩
theorem mNv_3 {J : Nat → Int} {N : Nat → Nat → Int} {i1 i2 i5 i6 i7 : Int} {a0 a3 a4 : Nat → Int} (h : mNv J N i1 i2 i5 i6 i7 a0 a3 a4) (x : Int) : mNv (sU J 3 x) N i1 i2 i5 i6 x a0 a3 a4 := ⟨h.1, h.2.1, h.2.2.1, rfl, h.2.2.2.2.1, h.2.2.2.2.2.1, h.2.2.2.2.2.2⟩
theorem mNv_4 {J : Nat → Int} {N : Nat → Nat → Int} {i1 i2 i5 i6 i7 : Int} {a0 a3 a4 : Nat → Int} (h : mNv J N i1 i2 i5 i6 i7 a0 a3 a4) (x : Int) : mNv (sU J 4 x) N i1 i2 i5 i6 i7 (sU a0 0 x) a3 a4 := ⟨h.1, h.2.1, h.2.2.1, h.2.2.2.1, rfl, h.2.2.2.2.2.1, fun p hp => by
  rw [sU_n _ _ (by omega), sU_n _ _ (by omega)]
  exact h.2.2.2.2.2.2 p hp⟩
theorem mNv_add {J : Nat → Int} {N : Nat → Nat → Int} {i1 i2 i5 i6 i7 : Int} {a0 a3 a4 : Nat → Int} (h : mNv J N i1 i2 i5 i6 i7 a0 a3 a4) (h0 : 0 ≤ i2 ∧ i2 < 16) (a b u v : Int) : mNv (n_addI J) (n_addA J N a b u v) i1 (i2 + 1) i5 i6 i7 (sU (sU a0 (1 + i2).toNat u) (17 + i2).toNat v) (sU a3 i2.toNat a) (sU a4 i2.toNat b) := by
  obtain ⟨h1, h2, h3, h4, h5, h6, h7⟩ := h
  subst h6
  unfold n_addI n_addA
  rw [if_neg (by omega), if_neg (by omega)]
  refine ⟨h1, h2, h3, h4, ?_, rfl, fun p hp => ?_⟩
  · show J 4 = _
    rw [sU_n (sU a0 (1 + J 5).toNat u) _ (by omega), sU_n _ _ (by omega)]
    exact h5
  · show sU (N 6) (J 5).toNat a p = _ ∧ sU (N 7) (J 5).toNat b p = _ ∧ sU (N 8) (J 5).toNat u p = _ ∧ sU (N 9) (J 5).toNat v p = _
    by_cases e : p = (J 5).toNat
    · have e1 : 1 + p = (1 + J 5).toNat := by omega
      have e2 : 17 + p = (17 + J 5).toNat := by omega
      rw [e1, e2, sU_n (sU a0 (1 + J 5).toNat u) v (show (1 + J 5).toNat ≠ (17 + J 5).toNat by omega)]
      subst e
      simp only [sU_s]
      exact ⟨trivial, trivial, trivial, trivial⟩
    · have k := h7 p (by omega)
      rw [sU_n _ _ e, sU_n _ _ e, sU_n _ _ e, sU_n _ _ e, sU_n _ _ e, sU_n _ _ e, sU_n (sU a0 (1 + J 5).toNat u) v (show 1 + p ≠ (17 + J 5).toNat by omega), sU_n _ _ (show 1 + p ≠ (1 + J 5).toNat by omega), sU_n _ _ (show 17 + p ≠ (17 + J 5).toNat by omega), sU_n _ _ (show 17 + p ≠ (1 + J 5).toNat by omega)]
      exact k
def frN (I : Nat → Int) (A : Nat → Nat → Int) (I1 : Nat → Int) (A1 : Nat → Nat → Int) : Prop := (I1 1 = I 1 ∧ I1 2 = I 2 ∧ I1 5 = I 5 ∧ I1 6 = I 6 ∧ I1 7 = I 7) ∧ A1 0 = A 0 ∧ A1 3 = A 3 ∧ A1 4 = A 4
def frR (I : Nat → Int) (A : Nat → Nat → Int) (I1 : Nat → Int) (A1 : Nat → Nat → Int) : Prop := (I1 8 = I 8 ∧ I1 11 = I 11 ∧ I1 34 = I 34) ∧ (A1 9 = A 9 ∧ A1 10 = A 10 ∧ A1 12 = A 12 ∧ A1 13 = A 13 ∧ A1 23 = A 23 ∧ A1 24 = A 24 ∧ A1 25 = A 25 ∧ A1 26 = A 26 ∧ A1 27 = A 27 ∧ A1 28 = A 28 ∧ ∀ k, 33 ≤ k → A1 0 k = A 0 k)
def rcP (I : Nat → Int) (A : Nat → Nat → Int) (I1 : Nat → Int) (A1 : Nat → Nat → Int) (X : Int × Int × Int × (Nat → Int) × (Nat → Nat → Int)) : Prop := (smI I1 ∧ smA A1) ∧ frR I A I1 A1 ∧ (I1 20 = I 20 ∧ I1 21 = I 21) ∧ (I1 16 = X.2.1 ∧ I1 17 = X.2.2.1 ∧ I1 18 = X.2.2.2.1 0 ∧ I1 19 = X.2.2.2.1 5) ∧ (I 21 = 1 → mNet X.2.2.2.1 X.2.2.2.2 I1 A1) ∧ (I 21 = 0 → frN I A I1 A1)
set_option maxRecDepth 100000 in
set_option maxHeartbeats 4000000 in
theorem c_X8_readsClause (l : Launch) (D : va_G) (Y : Nat → ClassId) {E : (Nat → Prop) → State → Heap → Prop} (hE : g_Stab E) (q : Nat → Nat) (I : Nat → Int) (A : Nat → Nat → Int) (F : Nat → UInt32) (Dd : Nat → UInt64) (J : Nat → Int) (N : Nat → Nat → Int) (hsI : smI I) (hsA : smA A) (hT : mtk I) (hw : mwOK A) (hO : okN J N) (h18 : I 18 = J 0) (h19 : I 19 = J 5) (hD : I 21 = 0 ∨ (I 21 = 1 ∧ mNet J N I A)) : g_Ct l yX8_readsClause cX8_readsClause 2 (some FieldType.boolean) ({ frames := 5, cells := 0, slots := 0, locals := 111 } : Room) D (tysY Y) E [.ref (q 99)] (wMod q Y I A F Dd) 0 0 (fun r9 w9 => ∃ (I1 : Nat → Int) (A1 : Nat → Nat → Int), w9 = wMod q Y I1 A1 F Dd ∧ r9 = some (.int (iI (rcF (A 10) (I 11) (I 16) (I 17) J N).1)) ∧ rcP I A I1 A1 (rcF (A 10) (I 11) (I 16) (I 17) J N)) := by
  refine g_ofG (own := RX8) hE (by decide) rfl (Nat.le_of_ble_eq_true rfl) [(0, .ref (q 99))] rfl ?_
  intro p9 e9 s9 m9 b9 t9 c9 A9 C hr hlk hnm
  have hI := hsI
  have hA := hsA
  unfold smI at hI
  unfold smA at hA
  have hT9 := hT
  unfold mtk at hT9
  have hO9 := hO
  unfold okN at hO9
  have htk := tk_n (L := A 10) (n := I 11) (e := I 17) (by omega)
  have hd21 : I 21 = 0 ∨ I 21 = 1 := by omega
  have hdn : I 21 = 1 → I 2 = J 5 := fun h => (hD.resolve_left (by omega)).2.2.2.2.2.2.1.symm
  refine g_aload_n C (n' := 1) 0 rfl dX8_readsClause_0 rfl rfl ?_
  refine g_cVv C (n' := 4) (v := .int (iI (t_word ((A 10)) ((I 16)) ((I 17))))) (c_X8_wordHere l D Y C.2.2.2.2.2.2.2.2.1 q I A F Dd hsI hsA hT hw) 0 kw_835 kc_X8_wordHere (by decide +kernel) (pm0 _) 0 (ci := 6) rfl rfl rfl rfl ⟨Nat.le_of_ble_eq_true rfl, Nat.le_of_ble_eq_true rfl⟩ ⟨rfl, rfl⟩ ⟨Nat.le_of_ble_eq_true rfl, Nat.le_of_ble_eq_true rfl⟩ (Nat.le_of_ble_eq_true rfl) dX8_readsClause_1 rfl rfl (wMod q Y I A F Dd) (pm0' _) ?_
  rcases t_word_r (A 10) (I 16) (I 17) with hwd | hwd | hwd | hwd | hwd | hwd | hwd
  · skip
    rw [hwd]
    refine g_istore_n C (n' := 5) [(1, .int (iI (-1))), (0, .ref (q 99))] dX8_readsClause_4 rfl rfl (by decide) rfl ?_
    refine g_iload_n C (n' := 6) 0 rfl dX8_readsClause_5 rfl rfl ?_
    refine g_iconst C (n' := 7) dX8_readsClause_6 rfl ?_
    refine g_icmp_eq C (n' := 10) 24 dX8_readsClause_7 (by decide) rfl (by unfold inR; omega) (by unfold inR; omega) (fun c1 => ?_) (fun c1 => ?_)
    · skip
      refine g_iconst C (n' := 25) dX8_readsClause_24 rfl ?_
      have hX : rcF (A 10) (I 11) (I 16) (I 17) J N = (0, (I 16), (I 17), J, N) := by
        unfold rcF
        rw [hwd]
        rw [if_pos rfl]
      refine g_iret C hr hlk (nar_z (by omega)) ⟨I, A, rfl, by rw [hX], ?_⟩ dX8_readsClause_25
      rw [hX]
      exact ⟨⟨hsI, hsA⟩, ⟨⟨rfl, rfl, rfl⟩, rfl, rfl, rfl, rfl, rfl, rfl, rfl, rfl, rfl, rfl, fun _ _ => rfl⟩, ⟨rfl, rfl⟩, ⟨rfl, rfl, h18, h19⟩, fun h21 => (hD.resolve_left (by omega)).2, fun _ => ⟨⟨rfl, rfl, rfl, rfl, rfl⟩, rfl, rfl, rfl⟩⟩
    · skip
      exfalso
      omega
  · skip
    rw [hwd]
    refine g_istore_n C (n' := 5) [(1, .int (iI 0)), (0, .ref (q 99))] dX8_readsClause_4 rfl rfl (by decide) rfl ?_
    refine g_iload_n C (n' := 6) 0 rfl dX8_readsClause_5 rfl rfl ?_
    refine g_iconst C (n' := 7) dX8_readsClause_6 rfl ?_
    refine g_icmp_eq C (n' := 10) 24 dX8_readsClause_7 (by decide) rfl (by unfold inR; omega) (by unfold inR; omega) (fun c2 => ?_) (fun c2 => ?_)
    · skip
      exfalso
      omega
    · skip
      refine g_iload_n C (n' := 11) 0 rfl dX8_readsClause_10 rfl rfl ?_
      refine g_iconst C (n' := 12) dX8_readsClause_11 rfl ?_
      refine g_icmp_ne C (n' := 15) 26 dX8_readsClause_12 (by decide) rfl (by unfold inR; omega) (by unfold inR; omega) (fun c3 => ?_) (fun c3 => ?_)
      · skip
        refine g_aload_n C (n' := 27) 1 rfl dX8_readsClause_26 rfl rfl ?_
        refine g_cVn C (n' := 30) (c_X8_nextToken l D Y C.2.2.2.2.2.2.2.2.1 q I A F Dd hsI hsA (by unfold mtok; omega)) 0 kw_817 kc_X8_nextToken (by decide +kernel) (pm0 _) 0 (ci := 6) rfl rfl rfl rfl ⟨Nat.le_of_ble_eq_true rfl, Nat.le_of_ble_eq_true rfl⟩ ⟨rfl, rfl⟩ ⟨Nat.le_of_ble_eq_true rfl, Nat.le_of_ble_eq_true rfl⟩ (Nat.le_of_ble_eq_true rfl) dX8_readsClause_27 rfl rfl (wMod q Y (sU (sU I 16 (tk1 ((A 10)) ((I 11)) ((I 17)))) 17 (tk2 ((A 10)) ((I 11)) ((I 17)))) A F Dd) (pm0' _) ?_
        refine g_aload_n C (n' := 31) 1 rfl dX8_readsClause_30 rfl rfl ?_
        refine g_iload_n C (n' := 32) 0 rfl dX8_readsClause_31 rfl rfl ?_
        refine g_callV C (n' := 35) (c_X8_readsNumbers_0 l D Y C.2.2.2.2.2.2.2.2.1 q (sU (sU I 16 (tk1 ((A 10)) ((I 11)) ((I 17)))) 17 (tk2 ((A 10)) ((I 11)) ((I 17)))) A F Dd (sm_put (sm_put hsI (by omega)) (by omega)) hsA (by show mtk _; unfold mtk; show 0 ≤ tk1 (A 10) (I 11) (I 17) ∧ tk1 (A 10) (I 11) (I 17) ≤ tk2 (A 10) (I 11) (I 17) ∧ tk2 (A 10) (I 11) (I 17) ≤ I 11 ∧ I 11 ≤ 200; omega)) 1 kw_843 kc_X8_readsNumbers (by decide +kernel) (pm0 _) 0 (ci := 6) rfl rfl rfl rfl ⟨Nat.le_of_ble_eq_true rfl, Nat.le_of_ble_eq_true rfl⟩ ⟨rfl, rfl⟩ ⟨Nat.le_of_ble_eq_true rfl, Nat.le_of_ble_eq_true rfl⟩ (Nat.le_of_ble_eq_true rfl) dX8_readsClause_32 rfl (fun r9 w9 hp4 => ?_)
        obtain (⟨hn5, rfl, rfl⟩ | ⟨hn5, rfl, rfl⟩) := hp4
        · skip
          replace hn5 : (t_num (A 10) (I 11) (tk1 ((A 10)) ((I 11)) ((I 17))) (tk2 ((A 10)) ((I 11)) ((I 17))) 2 8) = -1 := hn5
          refine g_perm (w' := (wMod q Y (sU (sU I 16 (tk1 ((A 10)) ((I 11)) ((I 17)))) 17 (tk2 ((A 10)) ((I 11)) ((I 17)))) A F Dd)) (pm0' _) ?_
          refine g_st (st' := [.int (iI 0)]) rfl ?_
          refine g_if_ne C (n' := 38) 40 dX8_readsClause_35 (by decide) rfl (by unfold inR; omega) (fun c6 => ?_) (fun c6 => ?_)
          · skip
            exfalso
            omega
          · skip
            refine g_iconst C (n' := 39) dX8_readsClause_38 rfl ?_
            have hX : rcF (A 10) (I 11) (I 16) (I 17) J N = (0, (tk1 (A 10) (I 11) (I 17)), (tk2 (A 10) (I 11) (I 17)), J, N) := by
              unfold rcF
              rw [hwd]
              rw [if_neg (by decide), if_neg (by decide)]
              show (if (t_num (A 10) (I 11) (tk1 (A 10) (I 11) (I 17)) (tk2 (A 10) (I 11) (I 17)) 2 8) = -1 then _ else _) = _
              rw [if_pos hn5]
            refine g_iret C hr hlk (nar_z (by omega)) ⟨(sU (sU I 16 (tk1 ((A 10)) ((I 11)) ((I 17)))) 17 (tk2 ((A 10)) ((I 11)) ((I 17)))), A, rfl, by rw [hX], ?_⟩ dX8_readsClause_39
            rw [hX]
            exact ⟨⟨(sm_put (sm_put hsI (by omega)) (by omega)), hsA⟩, ⟨⟨rfl, rfl, rfl⟩, rfl, rfl, rfl, rfl, rfl, rfl, rfl, rfl, rfl, rfl, fun _ _ => rfl⟩, ⟨rfl, rfl⟩, ⟨rfl, rfl, h18, h19⟩, fun h21 => (hD.resolve_left (by omega)).2, fun _ => ⟨⟨rfl, rfl, rfl, rfl, rfl⟩, rfl, rfl, rfl⟩⟩
        · skip
          replace hn5 : (t_num (A 10) (I 11) (tk1 ((A 10)) ((I 11)) ((I 17))) (tk2 ((A 10)) ((I 11)) ((I 17))) 2 8) ≠ -1 ∧ 2 ≤ (t_num (A 10) (I 11) (tk1 ((A 10)) ((I 11)) ((I 17))) (tk2 ((A 10)) ((I 11)) ((I 17))) 2 8) ∧ (t_num (A 10) (I 11) (tk1 ((A 10)) ((I 11)) ((I 17))) (tk2 ((A 10)) ((I 11)) ((I 17))) 2 8) ≤ 8 := hn5
          have hthn5_0 := tk_n (L := (A 10)) (n := (I 11)) (e := (tk2 ((A 10)) ((I 11)) ((I 17)))) (by omega)
          refine g_perm (w' := (wMod q Y (sU (sU I 16 (tk1 (A 10) (I 11) (tk2 ((A 10)) ((I 11)) ((I 17))))) 17 (tk2 (A 10) (I 11) (tk2 ((A 10)) ((I 11)) ((I 17))))) (sU A 22 (sU (A 22) 0 (t_num (A 10) (I 11) (tk1 ((A 10)) ((I 11)) ((I 17))) (tk2 ((A 10)) ((I 11)) ((I 17))) 2 8))) F Dd)) (pm0' _) ?_
          refine g_st (st' := [.int (iI 1)]) rfl ?_
          refine g_if_ne C (n' := 38) 40 dX8_readsClause_35 (by decide) rfl (by unfold inR; omega) (fun c7 => ?_) (fun c7 => ?_)
          · skip
            refine g_aload_n C (n' := 41) 1 rfl dX8_readsClause_40 rfl rfl ?_
            refine g_iload_n C (n' := 42) 0 rfl dX8_readsClause_41 rfl rfl ?_
            refine g_if_ne C (n' := 45) 54 dX8_readsClause_42 (by decide) rfl (by unfold inR; omega) (fun c8 => ?_) (fun c8 => ?_)
            · skip
              exfalso
              omega
            · skip
              refine g_aload_n C (n' := 46) 1 rfl dX8_readsClause_45 rfl rfl ?_
              refine g_get C (n' := 49) (Cn := RX8) (T := TX8) (N := 35) (ci := 6) (v := .ref (q 22)) ga_X8 0 rfl rfl 22 (by decide) kw_712 rfl rfl dX8_readsClause_46 rfl ?_
              refine g_iconst C (n' := 50) dX8_readsClause_49 rfl ?_
              refine g_ialdN C (n' := 51) (f := (sU (A 22) 0 (t_num (A 10) (I 11) (tk1 ((A 10)) ((I 11)) ((I 17))) (tk2 ((A 10)) ((I 11)) ((I 17))) 2 8))) (j := 0) 10 0 rfl rfl (by omega) (by decide) rfl dX8_readsClause_50 rfl ?_
              refine g_st (st' := [.int (iI (t_num (A 10) (I 11) (tk1 ((A 10)) ((I 11)) ((I 17))) (tk2 ((A 10)) ((I 11)) ((I 17))) 2 8)), .ref (q 99)]) rfl ?_
              refine g_goto C 58 dX8_readsClause_51 (by decide) ?_
              refine g_put C (n' := 61) (Cn := RX8) (T := TX8) (N := 35) (ci := 6) (v := .int (iI (t_num (A 10) (I 11) (tk1 ((A 10)) ((I 11)) ((I 17))) (tk2 ((A 10)) ((I 11)) ((I 17))) 2 8))) ga_X8 0 rfl rfl 18 (by decide) kw_708 rfl tyX8 tyX8_ok nmX8 rfl rfl rfl rfl (Nat.le_of_ble_eq_true rfl) (wMod q Y (sU (sU (sU I 16 (tk1 (A 10) (I 11) (tk2 ((A 10)) ((I 11)) ((I 17))))) 17 (tk2 (A 10) (I 11) (tk2 ((A 10)) ((I 11)) ((I 17))))) 18 (t_num (A 10) (I 11) (tk1 ((A 10)) ((I 11)) ((I 17))) (tk2 ((A 10)) ((I 11)) ((I 17))) 2 8)) (sU A 22 (sU (A 22) 0 (t_num (A 10) (I 11) (tk1 ((A 10)) ((I 11)) ((I 17))) (tk2 ((A 10)) ((I 11)) ((I 17))) 2 8))) F Dd) rfl dX8_readsClause_58 rfl ?_
              refine g_aload_n C (n' := 62) 1 rfl dX8_readsClause_61 rfl rfl ?_
              refine g_iload_n C (n' := 63) 0 rfl dX8_readsClause_62 rfl rfl ?_
              refine g_if_ne C (n' := 66) 70 dX8_readsClause_63 (by decide) rfl (by unfold inR; omega) (fun c9 => ?_) (fun c9 => ?_)
              · skip
                exfalso
                omega
              · skip
                refine g_iconst C (n' := 67) dX8_readsClause_66 rfl ?_
                refine g_goto C 88 dX8_readsClause_67 (by decide) ?_
                refine g_put C (n' := 91) (Cn := RX8) (T := TX8) (N := 35) (ci := 6) (v := .int (iI 0)) ga_X8 0 rfl rfl 19 (by decide) kw_709 rfl tyX8 tyX8_ok nmX8 rfl rfl rfl rfl (Nat.le_of_ble_eq_true rfl) (wMod q Y (sU (sU (sU (sU I 16 (tk1 (A 10) (I 11) (tk2 ((A 10)) ((I 11)) ((I 17))))) 17 (tk2 (A 10) (I 11) (tk2 ((A 10)) ((I 11)) ((I 17))))) 18 (t_num (A 10) (I 11) (tk1 ((A 10)) ((I 11)) ((I 17))) (tk2 ((A 10)) ((I 11)) ((I 17))) 2 8)) 19 0) (sU A 22 (sU (A 22) 0 (t_num (A 10) (I 11) (tk1 ((A 10)) ((I 11)) ((I 17))) (tk2 ((A 10)) ((I 11)) ((I 17))) 2 8))) F Dd) rfl dX8_readsClause_88 rfl ?_
                refine g_aload_n C (n' := 92) 1 rfl dX8_readsClause_91 rfl rfl ?_
                refine g_get C (n' := 95) (Cn := RX8) (T := TX8) (N := 35) (ci := 6) (v := .int (iI (I 21))) ga_X8 0 rfl rfl 21 (by decide) kw_711 rfl rfl dX8_readsClause_92 rfl ?_
                have h_92 := hI 21
                refine g_if_eq C (n' := 98) 103 dX8_readsClause_95 (by decide) rfl (by unfold inR; omega) (fun c10 => ?_) (fun c10 => ?_)
                · skip
                  refine g_iconst C (n' := 104) dX8_readsClause_103 rfl ?_
                  have hX : rcF (A 10) (I 11) (I 16) (I 17) J N = (1, (tk1 (A 10) (I 11) (tk2 (A 10) (I 11) (I 17))), (tk2 (A 10) (I 11) (tk2 (A 10) (I 11) (I 17))), (n_tell 0 (t_num (A 10) (I 11) (tk1 (A 10) (I 11) (I 17)) (tk2 (A 10) (I 11) (I 17)) 2 8) J), N) := by
                    unfold rcF
                    rw [hwd]
                    rw [if_neg (by decide), if_neg (by decide)]
                    show (if (t_num (A 10) (I 11) (tk1 (A 10) (I 11) (I 17)) (tk2 (A 10) (I 11) (I 17)) 2 8) = -1 then _ else _) = _
                    rw [if_neg hn5.1]
                    rfl
                  refine g_iret C hr hlk (nar_z (by omega)) ⟨(sU (sU (sU (sU I 16 (tk1 (A 10) (I 11) (tk2 ((A 10)) ((I 11)) ((I 17))))) 17 (tk2 (A 10) (I 11) (tk2 ((A 10)) ((I 11)) ((I 17))))) 18 (t_num (A 10) (I 11) (tk1 ((A 10)) ((I 11)) ((I 17))) (tk2 ((A 10)) ((I 11)) ((I 17))) 2 8)) 19 0), (sU A 22 (sU (A 22) 0 (t_num (A 10) (I 11) (tk1 ((A 10)) ((I 11)) ((I 17))) (tk2 ((A 10)) ((I 11)) ((I 17))) 2 8))), rfl, by rw [hX], ?_⟩ dX8_readsClause_104
                  rw [hX]
                  exact ⟨⟨(sm_put (sm_put (sm_put (sm_put hsI (by omega)) (by omega)) (by omega)) (by omega)), (sm_putA hsA (sm_putR (hsA 22) (by omega)))⟩, ⟨⟨rfl, rfl, rfl⟩, rfl, rfl, rfl, rfl, rfl, rfl, rfl, rfl, rfl, rfl, fun _ _ => rfl⟩, ⟨rfl, rfl⟩, ⟨rfl, rfl, rfl, rfl⟩, fun h21 => absurd h21 (by omega), fun _ => ⟨⟨rfl, rfl, rfl, rfl, rfl⟩, rfl, rfl, rfl⟩⟩
                · skip
                  refine g_aload_n C (n' := 99) 1 rfl dX8_readsClause_98 rfl rfl ?_
                  refine g_iload_n C (n' := 100) 0 rfl dX8_readsClause_99 rfl rfl ?_
                  refine g_cVn C (n' := 103) (c_X8_does_0 l D Y C.2.2.2.2.2.2.2.2.1 q (sU (sU (sU (sU I 16 (tk1 (A 10) (I 11) (tk2 ((A 10)) ((I 11)) ((I 17))))) 17 (tk2 (A 10) (I 11) (tk2 ((A 10)) ((I 11)) ((I 17))))) 18 (t_num (A 10) (I 11) (tk1 ((A 10)) ((I 11)) ((I 17))) (tk2 ((A 10)) ((I 11)) ((I 17))) 2 8)) 19 0) (sU A 22 (sU (A 22) 0 (t_num (A 10) (I 11) (tk1 ((A 10)) ((I 11)) ((I 17))) (tk2 ((A 10)) ((I 11)) ((I 17))) 2 8))) F Dd (sm_put (sm_put (sm_put (sm_put hsI (by omega)) (by omega)) (by omega)) (by omega)) (sm_putA hsA (sm_putR (hsA 22) (by omega)))) 1 kw_851 kc_X8_does (by decide +kernel) (pm0 _) 0 (ci := 6) rfl rfl rfl rfl ⟨Nat.le_of_ble_eq_true rfl, Nat.le_of_ble_eq_true rfl⟩ ⟨rfl, rfl⟩ ⟨Nat.le_of_ble_eq_true rfl, Nat.le_of_ble_eq_true rfl⟩ (Nat.le_of_ble_eq_true rfl) dX8_readsClause_100 rfl rfl (wMod q Y (sU (sU (sU (sU (sU (sU (sU (sU (sU I 16 (tk1 (A 10) (I 11) (tk2 ((A 10)) ((I 11)) ((I 17))))) 17 (tk2 (A 10) (I 11) (tk2 ((A 10)) ((I 11)) ((I 17))))) 18 (t_num (A 10) (I 11) (tk1 ((A 10)) ((I 11)) ((I 17))) (tk2 ((A 10)) ((I 11)) ((I 17))) 2 8)) 19 0) 1 ((t_num (A 10) (I 11) (tk1 ((A 10)) ((I 11)) ((I 17))) (tk2 ((A 10)) ((I 11)) ((I 17))) 2 8))) 2 0) 5 0) 6 0) 7 1) (sU (sU A 22 (sU (A 22) 0 (t_num (A 10) (I 11) (tk1 ((A 10)) ((I 11)) ((I 17))) (tk2 ((A 10)) ((I 11)) ((I 17))) 2 8))) 0 (sU ((A 0)) 0 99)) F Dd) (pm0' _) ?_
                  refine g_iconst C (n' := 104) dX8_readsClause_103 rfl ?_
                  have hX : rcF (A 10) (I 11) (I 16) (I 17) J N = (1, (tk1 (A 10) (I 11) (tk2 (A 10) (I 11) (I 17))), (tk2 (A 10) (I 11) (tk2 (A 10) (I 11) (I 17))), (n_tell 0 (t_num (A 10) (I 11) (tk1 (A 10) (I 11) (I 17)) (tk2 (A 10) (I 11) (I 17)) 2 8) J), N) := by
                    unfold rcF
                    rw [hwd]
                    rw [if_neg (by decide), if_neg (by decide)]
                    show (if (t_num (A 10) (I 11) (tk1 (A 10) (I 11) (I 17)) (tk2 (A 10) (I 11) (I 17)) 2 8) = -1 then _ else _) = _
                    rw [if_neg hn5.1]
                    rfl
                  refine g_iret C hr hlk (nar_z (by omega)) ⟨(sU (sU (sU (sU (sU (sU (sU (sU (sU I 16 (tk1 (A 10) (I 11) (tk2 ((A 10)) ((I 11)) ((I 17))))) 17 (tk2 (A 10) (I 11) (tk2 ((A 10)) ((I 11)) ((I 17))))) 18 (t_num (A 10) (I 11) (tk1 ((A 10)) ((I 11)) ((I 17))) (tk2 ((A 10)) ((I 11)) ((I 17))) 2 8)) 19 0) 1 ((t_num (A 10) (I 11) (tk1 ((A 10)) ((I 11)) ((I 17))) (tk2 ((A 10)) ((I 11)) ((I 17))) 2 8))) 2 0) 5 0) 6 0) 7 1), (sU (sU A 22 (sU (A 22) 0 (t_num (A 10) (I 11) (tk1 ((A 10)) ((I 11)) ((I 17))) (tk2 ((A 10)) ((I 11)) ((I 17))) 2 8))) 0 (sU ((A 0)) 0 99)), rfl, by rw [hX], ?_⟩ dX8_readsClause_104
                  rw [hX]
                  exact ⟨⟨(sm_put (sm_put (sm_put (sm_put (sm_put (sm_put (sm_put (sm_put (sm_put hsI (by omega)) (by omega)) (by omega)) (by omega)) (by omega)) (by omega)) (by omega)) (by omega)) (by omega)), (sm_putA (sm_putA hsA (sm_putR (hsA 22) (by omega))) (sm_putR (hsA 0) (by omega)))⟩, ⟨⟨rfl, rfl, rfl⟩, rfl, rfl, rfl, rfl, rfl, rfl, rfl, rfl, rfl, rfl, fun k hk => sU_n _ _ (by omega)⟩, ⟨rfl, rfl⟩, ⟨rfl, rfl, rfl, rfl⟩, fun _ => mNv_begin _, fun h21 => absurd h21 (by omega)⟩
          · skip
            exfalso
            omega
      · skip
        exfalso
        omega
  · skip
    rw [hwd]
    refine g_istore_n C (n' := 5) [(1, .int (iI 1)), (0, .ref (q 99))] dX8_readsClause_4 rfl rfl (by decide) rfl ?_
    refine g_iload_n C (n' := 6) 0 rfl dX8_readsClause_5 rfl rfl ?_
    refine g_iconst C (n' := 7) dX8_readsClause_6 rfl ?_
    refine g_icmp_eq C (n' := 10) 24 dX8_readsClause_7 (by decide) rfl (by unfold inR; omega) (by unfold inR; omega) (fun c11 => ?_) (fun c11 => ?_)
    · skip
      exfalso
      omega
    · skip
      refine g_iload_n C (n' := 11) 0 rfl dX8_readsClause_10 rfl rfl ?_
      refine g_iconst C (n' := 12) dX8_readsClause_11 rfl ?_
      refine g_icmp_ne C (n' := 15) 26 dX8_readsClause_12 (by decide) rfl (by unfold inR; omega) (by unfold inR; omega) (fun c12 => ?_) (fun c12 => ?_)
      · skip
        exfalso
        omega
      · skip
        refine g_aload_n C (n' := 16) 1 rfl dX8_readsClause_15 rfl rfl ?_
        refine g_get C (n' := 19) (Cn := RX8) (T := TX8) (N := 35) (ci := 6) (v := .int (iI (I 19))) ga_X8 0 rfl rfl 19 (by decide) kw_709 rfl rfl dX8_readsClause_16 rfl ?_
        have h_16 := hI 19
        refine g_bipush C (n' := 21) (by decide) dX8_readsClause_19 rfl ?_
        refine g_icmp_ne C (n' := 24) 26 dX8_readsClause_21 (by decide) rfl (by unfold inR; omega) (by unfold inR; omega) (fun c13 => ?_) (fun c13 => ?_)
        · skip
          refine g_aload_n C (n' := 27) 1 rfl dX8_readsClause_26 rfl rfl ?_
          refine g_cVn C (n' := 30) (c_X8_nextToken l D Y C.2.2.2.2.2.2.2.2.1 q I A F Dd hsI hsA (by unfold mtok; omega)) 0 kw_817 kc_X8_nextToken (by decide +kernel) (pm0 _) 0 (ci := 6) rfl rfl rfl rfl ⟨Nat.le_of_ble_eq_true rfl, Nat.le_of_ble_eq_true rfl⟩ ⟨rfl, rfl⟩ ⟨Nat.le_of_ble_eq_true rfl, Nat.le_of_ble_eq_true rfl⟩ (Nat.le_of_ble_eq_true rfl) dX8_readsClause_27 rfl rfl (wMod q Y (sU (sU I 16 (tk1 ((A 10)) ((I 11)) ((I 17)))) 17 (tk2 ((A 10)) ((I 11)) ((I 17)))) A F Dd) (pm0' _) ?_
          refine g_aload_n C (n' := 31) 1 rfl dX8_readsClause_30 rfl rfl ?_
          refine g_iload_n C (n' := 32) 0 rfl dX8_readsClause_31 rfl rfl ?_
          refine g_callV C (n' := 35) (c_X8_readsNumbers_1 l D Y C.2.2.2.2.2.2.2.2.1 q (sU (sU I 16 (tk1 ((A 10)) ((I 11)) ((I 17)))) 17 (tk2 ((A 10)) ((I 11)) ((I 17)))) A F Dd (sm_put (sm_put hsI (by omega)) (by omega)) hsA (by show mtk _; unfold mtk; show 0 ≤ tk1 (A 10) (I 11) (I 17) ∧ tk1 (A 10) (I 11) (I 17) ≤ tk2 (A 10) (I 11) (I 17) ∧ tk2 (A 10) (I 11) (I 17) ≤ I 11 ∧ I 11 ≤ 200; omega) (by show 2 ≤ I 18 ∧ I 18 ≤ 8; omega)) 1 kw_843 kc_X8_readsNumbers (by decide +kernel) (pm0 _) 0 (ci := 6) rfl rfl rfl rfl ⟨Nat.le_of_ble_eq_true rfl, Nat.le_of_ble_eq_true rfl⟩ ⟨rfl, rfl⟩ ⟨Nat.le_of_ble_eq_true rfl, Nat.le_of_ble_eq_true rfl⟩ (Nat.le_of_ble_eq_true rfl) dX8_readsClause_32 rfl (fun r9 w9 hp14 => ?_)
          obtain (⟨hn15, rfl, rfl⟩ | ⟨hn15, hn16, rfl, rfl⟩ | ⟨hn15, hn16, hn17, rfl, rfl⟩ | ⟨hn15, hn16, hn17, hn18, rfl, rfl⟩ | ⟨hn15, hn16, hn17, hn18, rfl, rfl⟩) := hp14
          · skip
            replace hn15 : (t_num (A 10) (I 11) (tk1 ((A 10)) ((I 11)) ((I 17))) (tk2 ((A 10)) ((I 11)) ((I 17))) 0 ((I 18) - 1)) = -1 := hn15
            refine g_perm (w' := (wMod q Y (sU (sU I 16 (tk1 ((A 10)) ((I 11)) ((I 17)))) 17 (tk2 ((A 10)) ((I 11)) ((I 17)))) A F Dd)) (pm0' _) ?_
            refine g_st (st' := [.int (iI 0)]) rfl ?_
            refine g_if_ne C (n' := 38) 40 dX8_readsClause_35 (by decide) rfl (by unfold inR; omega) (fun c19 => ?_) (fun c19 => ?_)
            · skip
              exfalso
              omega
            · skip
              refine g_iconst C (n' := 39) dX8_readsClause_38 rfl ?_
              have hX : rcF (A 10) (I 11) (I 16) (I 17) J N = (0, (tk1 (A 10) (I 11) (I 17)), (tk2 (A 10) (I 11) (I 17)), J, N) := by
                unfold rcF
                rw [hwd]
                rw [← h18]
                rw [if_neg (by decide), if_pos rfl, if_neg (by omega)]
                rw [if_pos hn15]
              refine g_iret C hr hlk (nar_z (by omega)) ⟨(sU (sU I 16 (tk1 ((A 10)) ((I 11)) ((I 17)))) 17 (tk2 ((A 10)) ((I 11)) ((I 17)))), A, rfl, by rw [hX], ?_⟩ dX8_readsClause_39
              rw [hX]
              exact ⟨⟨(sm_put (sm_put hsI (by omega)) (by omega)), hsA⟩, ⟨⟨rfl, rfl, rfl⟩, rfl, rfl, rfl, rfl, rfl, rfl, rfl, rfl, rfl, rfl, fun _ _ => rfl⟩, ⟨rfl, rfl⟩, ⟨rfl, rfl, h18, h19⟩, fun h21 => (hD.resolve_left (by omega)).2, fun _ => ⟨⟨rfl, rfl, rfl, rfl, rfl⟩, rfl, rfl, rfl⟩⟩
          · skip
            replace hn15 : (t_num (A 10) (I 11) (tk1 ((A 10)) ((I 11)) ((I 17))) (tk2 ((A 10)) ((I 11)) ((I 17))) 0 ((I 18) - 1)) ≠ -1 ∧ 0 ≤ (t_num (A 10) (I 11) (tk1 ((A 10)) ((I 11)) ((I 17))) (tk2 ((A 10)) ((I 11)) ((I 17))) 0 ((I 18) - 1)) ∧ (t_num (A 10) (I 11) (tk1 ((A 10)) ((I 11)) ((I 17))) (tk2 ((A 10)) ((I 11)) ((I 17))) 0 ((I 18) - 1)) ≤ ((I 18) - 1) := hn15
            replace hn16 : (t_num (A 10) (I 11) (tk1 (A 10) (I 11) (tk2 ((A 10)) ((I 11)) ((I 17)))) (tk2 (A 10) (I 11) (tk2 ((A 10)) ((I 11)) ((I 17)))) 0 ((I 18) - 1)) = -1 := hn16
            have hthn15_0 := tk_n (L := (A 10)) (n := (I 11)) (e := (tk2 ((A 10)) ((I 11)) ((I 17)))) (by omega)
            refine g_perm (w' := (wMod q Y (sU (sU I 16 (tk1 (A 10) (I 11) (tk2 ((A 10)) ((I 11)) ((I 17))))) 17 (tk2 (A 10) (I 11) (tk2 ((A 10)) ((I 11)) ((I 17))))) (sU A 22 (sU (A 22) 0 (t_num (A 10) (I 11) (tk1 ((A 10)) ((I 11)) ((I 17))) (tk2 ((A 10)) ((I 11)) ((I 17))) 0 ((I 18) - 1)))) F Dd)) (pm0' _) ?_
            refine g_st (st' := [.int (iI 0)]) rfl ?_
            refine g_if_ne C (n' := 38) 40 dX8_readsClause_35 (by decide) rfl (by unfold inR; omega) (fun c20 => ?_) (fun c20 => ?_)
            · skip
              exfalso
              omega
            · skip
              refine g_iconst C (n' := 39) dX8_readsClause_38 rfl ?_
              have hX : rcF (A 10) (I 11) (I 16) (I 17) J N = (0, (tk1 (A 10) (I 11) (tk2 (A 10) (I 11) (I 17))), (tk2 (A 10) (I 11) (tk2 (A 10) (I 11) (I 17))), J, N) := by
                unfold rcF
                rw [hwd]
                rw [← h18]
                rw [if_neg (by decide), if_pos rfl, if_neg (by omega)]
                rw [if_neg hn15.1]
                rw [if_pos hn16]
              refine g_iret C hr hlk (nar_z (by omega)) ⟨(sU (sU I 16 (tk1 (A 10) (I 11) (tk2 ((A 10)) ((I 11)) ((I 17))))) 17 (tk2 (A 10) (I 11) (tk2 ((A 10)) ((I 11)) ((I 17))))), (sU A 22 (sU (A 22) 0 (t_num (A 10) (I 11) (tk1 ((A 10)) ((I 11)) ((I 17))) (tk2 ((A 10)) ((I 11)) ((I 17))) 0 ((I 18) - 1)))), rfl, by rw [hX], ?_⟩ dX8_readsClause_39
              rw [hX]
              exact ⟨⟨(sm_put (sm_put hsI (by omega)) (by omega)), (sm_putA hsA (sm_putR (hsA 22) (by omega)))⟩, ⟨⟨rfl, rfl, rfl⟩, rfl, rfl, rfl, rfl, rfl, rfl, rfl, rfl, rfl, rfl, fun _ _ => rfl⟩, ⟨rfl, rfl⟩, ⟨rfl, rfl, h18, h19⟩, fun h21 => (hD.resolve_left (by omega)).2, fun _ => ⟨⟨rfl, rfl, rfl, rfl, rfl⟩, rfl, rfl, rfl⟩⟩
          · skip
            replace hn15 : (t_num (A 10) (I 11) (tk1 ((A 10)) ((I 11)) ((I 17))) (tk2 ((A 10)) ((I 11)) ((I 17))) 0 ((I 18) - 1)) ≠ -1 ∧ 0 ≤ (t_num (A 10) (I 11) (tk1 ((A 10)) ((I 11)) ((I 17))) (tk2 ((A 10)) ((I 11)) ((I 17))) 0 ((I 18) - 1)) ∧ (t_num (A 10) (I 11) (tk1 ((A 10)) ((I 11)) ((I 17))) (tk2 ((A 10)) ((I 11)) ((I 17))) 0 ((I 18) - 1)) ≤ ((I 18) - 1) := hn15
            replace hn16 : (t_num (A 10) (I 11) (tk1 (A 10) (I 11) (tk2 ((A 10)) ((I 11)) ((I 17)))) (tk2 (A 10) (I 11) (tk2 ((A 10)) ((I 11)) ((I 17)))) 0 ((I 18) - 1)) ≠ -1 ∧ 0 ≤ (t_num (A 10) (I 11) (tk1 (A 10) (I 11) (tk2 ((A 10)) ((I 11)) ((I 17)))) (tk2 (A 10) (I 11) (tk2 ((A 10)) ((I 11)) ((I 17)))) 0 ((I 18) - 1)) ∧ (t_num (A 10) (I 11) (tk1 (A 10) (I 11) (tk2 ((A 10)) ((I 11)) ((I 17)))) (tk2 (A 10) (I 11) (tk2 ((A 10)) ((I 11)) ((I 17)))) 0 ((I 18) - 1)) ≤ ((I 18) - 1) := hn16
            replace hn17 : (t_num (A 10) (I 11) (tk1 (A 10) (I 11) (tk2 (A 10) (I 11) (tk2 ((A 10)) ((I 11)) ((I 17))))) (tk2 (A 10) (I 11) (tk2 (A 10) (I 11) (tk2 ((A 10)) ((I 11)) ((I 17))))) 0 99) = -1 := hn17
            have hthn15_0 := tk_n (L := (A 10)) (n := (I 11)) (e := (tk2 ((A 10)) ((I 11)) ((I 17)))) (by omega)
            have hthn15_1 := tk_n (L := (A 10)) (n := (I 11)) (e := (tk2 (A 10) (I 11) (tk2 ((A 10)) ((I 11)) ((I 17))))) (by omega)
            refine g_perm (w' := (wMod q Y (sU (sU I 16 (tk1 (A 10) (I 11) (tk2 (A 10) (I 11) (tk2 ((A 10)) ((I 11)) ((I 17)))))) 17 (tk2 (A 10) (I 11) (tk2 (A 10) (I 11) (tk2 ((A 10)) ((I 11)) ((I 17)))))) (sU A 22 (sU (sU (A 22) 0 (t_num (A 10) (I 11) (tk1 ((A 10)) ((I 11)) ((I 17))) (tk2 ((A 10)) ((I 11)) ((I 17))) 0 ((I 18) - 1))) 1 (t_num (A 10) (I 11) (tk1 (A 10) (I 11) (tk2 ((A 10)) ((I 11)) ((I 17)))) (tk2 (A 10) (I 11) (tk2 ((A 10)) ((I 11)) ((I 17)))) 0 ((I 18) - 1)))) F Dd)) (pm0' _) ?_
            refine g_st (st' := [.int (iI 0)]) rfl ?_
            refine g_if_ne C (n' := 38) 40 dX8_readsClause_35 (by decide) rfl (by unfold inR; omega) (fun c21 => ?_) (fun c21 => ?_)
            · skip
              exfalso
              omega
            · skip
              refine g_iconst C (n' := 39) dX8_readsClause_38 rfl ?_
              have hX : rcF (A 10) (I 11) (I 16) (I 17) J N = (0, (tk1 (A 10) (I 11) (tk2 (A 10) (I 11) (tk2 (A 10) (I 11) (I 17)))), (tk2 (A 10) (I 11) (tk2 (A 10) (I 11) (tk2 (A 10) (I 11) (I 17)))), J, N) := by
                unfold rcF
                rw [hwd]
                rw [← h18]
                rw [if_neg (by decide), if_pos rfl, if_neg (by omega)]
                rw [if_neg hn15.1]
                rw [if_neg hn16.1]
                rw [if_pos hn17]
              refine g_iret C hr hlk (nar_z (by omega)) ⟨(sU (sU I 16 (tk1 (A 10) (I 11) (tk2 (A 10) (I 11) (tk2 ((A 10)) ((I 11)) ((I 17)))))) 17 (tk2 (A 10) (I 11) (tk2 (A 10) (I 11) (tk2 ((A 10)) ((I 11)) ((I 17)))))), (sU A 22 (sU (sU (A 22) 0 (t_num (A 10) (I 11) (tk1 ((A 10)) ((I 11)) ((I 17))) (tk2 ((A 10)) ((I 11)) ((I 17))) 0 ((I 18) - 1))) 1 (t_num (A 10) (I 11) (tk1 (A 10) (I 11) (tk2 ((A 10)) ((I 11)) ((I 17)))) (tk2 (A 10) (I 11) (tk2 ((A 10)) ((I 11)) ((I 17)))) 0 ((I 18) - 1)))), rfl, by rw [hX], ?_⟩ dX8_readsClause_39
              rw [hX]
              exact ⟨⟨(sm_put (sm_put hsI (by omega)) (by omega)), (sm_putA hsA (sm_putR (sm_putR (hsA 22) (by omega)) (by omega)))⟩, ⟨⟨rfl, rfl, rfl⟩, rfl, rfl, rfl, rfl, rfl, rfl, rfl, rfl, rfl, rfl, fun _ _ => rfl⟩, ⟨rfl, rfl⟩, ⟨rfl, rfl, h18, h19⟩, fun h21 => (hD.resolve_left (by omega)).2, fun _ => ⟨⟨rfl, rfl, rfl, rfl, rfl⟩, rfl, rfl, rfl⟩⟩
          · skip
            replace hn15 : (t_num (A 10) (I 11) (tk1 ((A 10)) ((I 11)) ((I 17))) (tk2 ((A 10)) ((I 11)) ((I 17))) 0 ((I 18) - 1)) ≠ -1 ∧ 0 ≤ (t_num (A 10) (I 11) (tk1 ((A 10)) ((I 11)) ((I 17))) (tk2 ((A 10)) ((I 11)) ((I 17))) 0 ((I 18) - 1)) ∧ (t_num (A 10) (I 11) (tk1 ((A 10)) ((I 11)) ((I 17))) (tk2 ((A 10)) ((I 11)) ((I 17))) 0 ((I 18) - 1)) ≤ ((I 18) - 1) := hn15
            replace hn16 : (t_num (A 10) (I 11) (tk1 (A 10) (I 11) (tk2 ((A 10)) ((I 11)) ((I 17)))) (tk2 (A 10) (I 11) (tk2 ((A 10)) ((I 11)) ((I 17)))) 0 ((I 18) - 1)) ≠ -1 ∧ 0 ≤ (t_num (A 10) (I 11) (tk1 (A 10) (I 11) (tk2 ((A 10)) ((I 11)) ((I 17)))) (tk2 (A 10) (I 11) (tk2 ((A 10)) ((I 11)) ((I 17)))) 0 ((I 18) - 1)) ∧ (t_num (A 10) (I 11) (tk1 (A 10) (I 11) (tk2 ((A 10)) ((I 11)) ((I 17)))) (tk2 (A 10) (I 11) (tk2 ((A 10)) ((I 11)) ((I 17)))) 0 ((I 18) - 1)) ≤ ((I 18) - 1) := hn16
            replace hn17 : (t_num (A 10) (I 11) (tk1 (A 10) (I 11) (tk2 (A 10) (I 11) (tk2 ((A 10)) ((I 11)) ((I 17))))) (tk2 (A 10) (I 11) (tk2 (A 10) (I 11) (tk2 ((A 10)) ((I 11)) ((I 17))))) 0 99) ≠ -1 ∧ 0 ≤ (t_num (A 10) (I 11) (tk1 (A 10) (I 11) (tk2 (A 10) (I 11) (tk2 ((A 10)) ((I 11)) ((I 17))))) (tk2 (A 10) (I 11) (tk2 (A 10) (I 11) (tk2 ((A 10)) ((I 11)) ((I 17))))) 0 99) ∧ (t_num (A 10) (I 11) (tk1 (A 10) (I 11) (tk2 (A 10) (I 11) (tk2 ((A 10)) ((I 11)) ((I 17))))) (tk2 (A 10) (I 11) (tk2 (A 10) (I 11) (tk2 ((A 10)) ((I 11)) ((I 17))))) 0 99) ≤ 99 := hn17
            replace hn18 : (t_num (A 10) (I 11) (tk1 (A 10) (I 11) (tk2 (A 10) (I 11) (tk2 (A 10) (I 11) (tk2 ((A 10)) ((I 11)) ((I 17)))))) (tk2 (A 10) (I 11) (tk2 (A 10) (I 11) (tk2 (A 10) (I 11) (tk2 ((A 10)) ((I 11)) ((I 17)))))) 0 (t_num (A 10) (I 11) (tk1 (A 10) (I 11) (tk2 (A 10) (I 11) (tk2 ((A 10)) ((I 11)) ((I 17))))) (tk2 (A 10) (I 11) (tk2 (A 10) (I 11) (tk2 ((A 10)) ((I 11)) ((I 17))))) 0 99)) = -1 := hn18
            have hthn15_0 := tk_n (L := (A 10)) (n := (I 11)) (e := (tk2 ((A 10)) ((I 11)) ((I 17)))) (by omega)
            have hthn15_1 := tk_n (L := (A 10)) (n := (I 11)) (e := (tk2 (A 10) (I 11) (tk2 ((A 10)) ((I 11)) ((I 17))))) (by omega)
            have hthn15_2 := tk_n (L := (A 10)) (n := (I 11)) (e := (tk2 (A 10) (I 11) (tk2 (A 10) (I 11) (tk2 ((A 10)) ((I 11)) ((I 17)))))) (by omega)
            refine g_perm (w' := (wMod q Y (sU (sU I 16 (tk1 (A 10) (I 11) (tk2 (A 10) (I 11) (tk2 (A 10) (I 11) (tk2 ((A 10)) ((I 11)) ((I 17))))))) 17 (tk2 (A 10) (I 11) (tk2 (A 10) (I 11) (tk2 (A 10) (I 11) (tk2 ((A 10)) ((I 11)) ((I 17))))))) (sU A 22 (sU (sU (sU (A 22) 0 (t_num (A 10) (I 11) (tk1 ((A 10)) ((I 11)) ((I 17))) (tk2 ((A 10)) ((I 11)) ((I 17))) 0 ((I 18) - 1))) 1 (t_num (A 10) (I 11) (tk1 (A 10) (I 11) (tk2 ((A 10)) ((I 11)) ((I 17)))) (tk2 (A 10) (I 11) (tk2 ((A 10)) ((I 11)) ((I 17)))) 0 ((I 18) - 1))) 2 (t_num (A 10) (I 11) (tk1 (A 10) (I 11) (tk2 (A 10) (I 11) (tk2 ((A 10)) ((I 11)) ((I 17))))) (tk2 (A 10) (I 11) (tk2 (A 10) (I 11) (tk2 ((A 10)) ((I 11)) ((I 17))))) 0 99))) F Dd)) (pm0' _) ?_
            refine g_st (st' := [.int (iI 0)]) rfl ?_
            refine g_if_ne C (n' := 38) 40 dX8_readsClause_35 (by decide) rfl (by unfold inR; omega) (fun c22 => ?_) (fun c22 => ?_)
            · skip
              exfalso
              omega
            · skip
              refine g_iconst C (n' := 39) dX8_readsClause_38 rfl ?_
              have hX : rcF (A 10) (I 11) (I 16) (I 17) J N = (0, (tk1 (A 10) (I 11) (tk2 (A 10) (I 11) (tk2 (A 10) (I 11) (tk2 (A 10) (I 11) (I 17))))), (tk2 (A 10) (I 11) (tk2 (A 10) (I 11) (tk2 (A 10) (I 11) (tk2 (A 10) (I 11) (I 17))))), J, N) := by
                unfold rcF
                rw [hwd]
                rw [← h18]
                rw [if_neg (by decide), if_pos rfl, if_neg (by omega)]
                rw [if_neg hn15.1]
                rw [if_neg hn16.1]
                rw [if_neg hn17.1]
                rw [if_pos hn18]
              refine g_iret C hr hlk (nar_z (by omega)) ⟨(sU (sU I 16 (tk1 (A 10) (I 11) (tk2 (A 10) (I 11) (tk2 (A 10) (I 11) (tk2 ((A 10)) ((I 11)) ((I 17))))))) 17 (tk2 (A 10) (I 11) (tk2 (A 10) (I 11) (tk2 (A 10) (I 11) (tk2 ((A 10)) ((I 11)) ((I 17))))))), (sU A 22 (sU (sU (sU (A 22) 0 (t_num (A 10) (I 11) (tk1 ((A 10)) ((I 11)) ((I 17))) (tk2 ((A 10)) ((I 11)) ((I 17))) 0 ((I 18) - 1))) 1 (t_num (A 10) (I 11) (tk1 (A 10) (I 11) (tk2 ((A 10)) ((I 11)) ((I 17)))) (tk2 (A 10) (I 11) (tk2 ((A 10)) ((I 11)) ((I 17)))) 0 ((I 18) - 1))) 2 (t_num (A 10) (I 11) (tk1 (A 10) (I 11) (tk2 (A 10) (I 11) (tk2 ((A 10)) ((I 11)) ((I 17))))) (tk2 (A 10) (I 11) (tk2 (A 10) (I 11) (tk2 ((A 10)) ((I 11)) ((I 17))))) 0 99))), rfl, by rw [hX], ?_⟩ dX8_readsClause_39
              rw [hX]
              exact ⟨⟨(sm_put (sm_put hsI (by omega)) (by omega)), (sm_putA hsA (sm_putR (sm_putR (sm_putR (hsA 22) (by omega)) (by omega)) (by omega)))⟩, ⟨⟨rfl, rfl, rfl⟩, rfl, rfl, rfl, rfl, rfl, rfl, rfl, rfl, rfl, rfl, fun _ _ => rfl⟩, ⟨rfl, rfl⟩, ⟨rfl, rfl, h18, h19⟩, fun h21 => (hD.resolve_left (by omega)).2, fun _ => ⟨⟨rfl, rfl, rfl, rfl, rfl⟩, rfl, rfl, rfl⟩⟩
          · skip
            replace hn15 : (t_num (A 10) (I 11) (tk1 ((A 10)) ((I 11)) ((I 17))) (tk2 ((A 10)) ((I 11)) ((I 17))) 0 ((I 18) - 1)) ≠ -1 ∧ 0 ≤ (t_num (A 10) (I 11) (tk1 ((A 10)) ((I 11)) ((I 17))) (tk2 ((A 10)) ((I 11)) ((I 17))) 0 ((I 18) - 1)) ∧ (t_num (A 10) (I 11) (tk1 ((A 10)) ((I 11)) ((I 17))) (tk2 ((A 10)) ((I 11)) ((I 17))) 0 ((I 18) - 1)) ≤ ((I 18) - 1) := hn15
            replace hn16 : (t_num (A 10) (I 11) (tk1 (A 10) (I 11) (tk2 ((A 10)) ((I 11)) ((I 17)))) (tk2 (A 10) (I 11) (tk2 ((A 10)) ((I 11)) ((I 17)))) 0 ((I 18) - 1)) ≠ -1 ∧ 0 ≤ (t_num (A 10) (I 11) (tk1 (A 10) (I 11) (tk2 ((A 10)) ((I 11)) ((I 17)))) (tk2 (A 10) (I 11) (tk2 ((A 10)) ((I 11)) ((I 17)))) 0 ((I 18) - 1)) ∧ (t_num (A 10) (I 11) (tk1 (A 10) (I 11) (tk2 ((A 10)) ((I 11)) ((I 17)))) (tk2 (A 10) (I 11) (tk2 ((A 10)) ((I 11)) ((I 17)))) 0 ((I 18) - 1)) ≤ ((I 18) - 1) := hn16
            replace hn17 : (t_num (A 10) (I 11) (tk1 (A 10) (I 11) (tk2 (A 10) (I 11) (tk2 ((A 10)) ((I 11)) ((I 17))))) (tk2 (A 10) (I 11) (tk2 (A 10) (I 11) (tk2 ((A 10)) ((I 11)) ((I 17))))) 0 99) ≠ -1 ∧ 0 ≤ (t_num (A 10) (I 11) (tk1 (A 10) (I 11) (tk2 (A 10) (I 11) (tk2 ((A 10)) ((I 11)) ((I 17))))) (tk2 (A 10) (I 11) (tk2 (A 10) (I 11) (tk2 ((A 10)) ((I 11)) ((I 17))))) 0 99) ∧ (t_num (A 10) (I 11) (tk1 (A 10) (I 11) (tk2 (A 10) (I 11) (tk2 ((A 10)) ((I 11)) ((I 17))))) (tk2 (A 10) (I 11) (tk2 (A 10) (I 11) (tk2 ((A 10)) ((I 11)) ((I 17))))) 0 99) ≤ 99 := hn17
            replace hn18 : (t_num (A 10) (I 11) (tk1 (A 10) (I 11) (tk2 (A 10) (I 11) (tk2 (A 10) (I 11) (tk2 ((A 10)) ((I 11)) ((I 17)))))) (tk2 (A 10) (I 11) (tk2 (A 10) (I 11) (tk2 (A 10) (I 11) (tk2 ((A 10)) ((I 11)) ((I 17)))))) 0 (t_num (A 10) (I 11) (tk1 (A 10) (I 11) (tk2 (A 10) (I 11) (tk2 ((A 10)) ((I 11)) ((I 17))))) (tk2 (A 10) (I 11) (tk2 (A 10) (I 11) (tk2 ((A 10)) ((I 11)) ((I 17))))) 0 99)) ≠ -1 ∧ 0 ≤ (t_num (A 10) (I 11) (tk1 (A 10) (I 11) (tk2 (A 10) (I 11) (tk2 (A 10) (I 11) (tk2 ((A 10)) ((I 11)) ((I 17)))))) (tk2 (A 10) (I 11) (tk2 (A 10) (I 11) (tk2 (A 10) (I 11) (tk2 ((A 10)) ((I 11)) ((I 17)))))) 0 (t_num (A 10) (I 11) (tk1 (A 10) (I 11) (tk2 (A 10) (I 11) (tk2 ((A 10)) ((I 11)) ((I 17))))) (tk2 (A 10) (I 11) (tk2 (A 10) (I 11) (tk2 ((A 10)) ((I 11)) ((I 17))))) 0 99)) ∧ (t_num (A 10) (I 11) (tk1 (A 10) (I 11) (tk2 (A 10) (I 11) (tk2 (A 10) (I 11) (tk2 ((A 10)) ((I 11)) ((I 17)))))) (tk2 (A 10) (I 11) (tk2 (A 10) (I 11) (tk2 (A 10) (I 11) (tk2 ((A 10)) ((I 11)) ((I 17)))))) 0 (t_num (A 10) (I 11) (tk1 (A 10) (I 11) (tk2 (A 10) (I 11) (tk2 ((A 10)) ((I 11)) ((I 17))))) (tk2 (A 10) (I 11) (tk2 (A 10) (I 11) (tk2 ((A 10)) ((I 11)) ((I 17))))) 0 99)) ≤ (t_num (A 10) (I 11) (tk1 (A 10) (I 11) (tk2 (A 10) (I 11) (tk2 ((A 10)) ((I 11)) ((I 17))))) (tk2 (A 10) (I 11) (tk2 (A 10) (I 11) (tk2 ((A 10)) ((I 11)) ((I 17))))) 0 99) := hn18
            have hthn15_0 := tk_n (L := (A 10)) (n := (I 11)) (e := (tk2 ((A 10)) ((I 11)) ((I 17)))) (by omega)
            have hthn15_1 := tk_n (L := (A 10)) (n := (I 11)) (e := (tk2 (A 10) (I 11) (tk2 ((A 10)) ((I 11)) ((I 17))))) (by omega)
            have hthn15_2 := tk_n (L := (A 10)) (n := (I 11)) (e := (tk2 (A 10) (I 11) (tk2 (A 10) (I 11) (tk2 ((A 10)) ((I 11)) ((I 17)))))) (by omega)
            have hthn15_3 := tk_n (L := (A 10)) (n := (I 11)) (e := (tk2 (A 10) (I 11) (tk2 (A 10) (I 11) (tk2 (A 10) (I 11) (tk2 ((A 10)) ((I 11)) ((I 17))))))) (by omega)
            refine g_perm (w' := (wMod q Y (sU (sU I 16 (tk1 (A 10) (I 11) (tk2 (A 10) (I 11) (tk2 (A 10) (I 11) (tk2 (A 10) (I 11) (tk2 ((A 10)) ((I 11)) ((I 17)))))))) 17 (tk2 (A 10) (I 11) (tk2 (A 10) (I 11) (tk2 (A 10) (I 11) (tk2 (A 10) (I 11) (tk2 ((A 10)) ((I 11)) ((I 17)))))))) (sU A 22 (sU (sU (sU (sU (A 22) 0 (t_num (A 10) (I 11) (tk1 ((A 10)) ((I 11)) ((I 17))) (tk2 ((A 10)) ((I 11)) ((I 17))) 0 ((I 18) - 1))) 1 (t_num (A 10) (I 11) (tk1 (A 10) (I 11) (tk2 ((A 10)) ((I 11)) ((I 17)))) (tk2 (A 10) (I 11) (tk2 ((A 10)) ((I 11)) ((I 17)))) 0 ((I 18) - 1))) 2 (t_num (A 10) (I 11) (tk1 (A 10) (I 11) (tk2 (A 10) (I 11) (tk2 ((A 10)) ((I 11)) ((I 17))))) (tk2 (A 10) (I 11) (tk2 (A 10) (I 11) (tk2 ((A 10)) ((I 11)) ((I 17))))) 0 99)) 3 (t_num (A 10) (I 11) (tk1 (A 10) (I 11) (tk2 (A 10) (I 11) (tk2 (A 10) (I 11) (tk2 ((A 10)) ((I 11)) ((I 17)))))) (tk2 (A 10) (I 11) (tk2 (A 10) (I 11) (tk2 (A 10) (I 11) (tk2 ((A 10)) ((I 11)) ((I 17)))))) 0 (t_num (A 10) (I 11) (tk1 (A 10) (I 11) (tk2 (A 10) (I 11) (tk2 ((A 10)) ((I 11)) ((I 17))))) (tk2 (A 10) (I 11) (tk2 (A 10) (I 11) (tk2 ((A 10)) ((I 11)) ((I 17))))) 0 99)))) F Dd)) (pm0' _) ?_
            refine g_st (st' := [.int (iI 1)]) rfl ?_
            refine g_if_ne C (n' := 38) 40 dX8_readsClause_35 (by decide) rfl (by unfold inR; omega) (fun c23 => ?_) (fun c23 => ?_)
            · skip
              refine g_aload_n C (n' := 41) 1 rfl dX8_readsClause_40 rfl rfl ?_
              refine g_iload_n C (n' := 42) 0 rfl dX8_readsClause_41 rfl rfl ?_
              refine g_if_ne C (n' := 45) 54 dX8_readsClause_42 (by decide) rfl (by unfold inR; omega) (fun c24 => ?_) (fun c24 => ?_)
              · skip
                refine g_aload_n C (n' := 55) 1 rfl dX8_readsClause_54 rfl rfl ?_
                refine g_get C (n' := 58) (Cn := RX8) (T := TX8) (N := 35) (ci := 6) (v := .int (iI (I 18))) ga_X8 0 rfl rfl 18 (by decide) kw_708 rfl rfl dX8_readsClause_55 rfl ?_
                have h_55 := hI 18
                refine g_put C (n' := 61) (Cn := RX8) (T := TX8) (N := 35) (ci := 6) (v := .int (iI (I 18))) ga_X8 0 rfl rfl 18 (by decide) kw_708 rfl tyX8 tyX8_ok nmX8 rfl rfl rfl rfl (Nat.le_of_ble_eq_true rfl) (wMod q Y (sU (sU (sU I 16 (tk1 (A 10) (I 11) (tk2 (A 10) (I 11) (tk2 (A 10) (I 11) (tk2 (A 10) (I 11) (tk2 ((A 10)) ((I 11)) ((I 17)))))))) 17 (tk2 (A 10) (I 11) (tk2 (A 10) (I 11) (tk2 (A 10) (I 11) (tk2 (A 10) (I 11) (tk2 ((A 10)) ((I 11)) ((I 17)))))))) 18 (I 18)) (sU A 22 (sU (sU (sU (sU (A 22) 0 (t_num (A 10) (I 11) (tk1 ((A 10)) ((I 11)) ((I 17))) (tk2 ((A 10)) ((I 11)) ((I 17))) 0 ((I 18) - 1))) 1 (t_num (A 10) (I 11) (tk1 (A 10) (I 11) (tk2 ((A 10)) ((I 11)) ((I 17)))) (tk2 (A 10) (I 11) (tk2 ((A 10)) ((I 11)) ((I 17)))) 0 ((I 18) - 1))) 2 (t_num (A 10) (I 11) (tk1 (A 10) (I 11) (tk2 (A 10) (I 11) (tk2 ((A 10)) ((I 11)) ((I 17))))) (tk2 (A 10) (I 11) (tk2 (A 10) (I 11) (tk2 ((A 10)) ((I 11)) ((I 17))))) 0 99)) 3 (t_num (A 10) (I 11) (tk1 (A 10) (I 11) (tk2 (A 10) (I 11) (tk2 (A 10) (I 11) (tk2 ((A 10)) ((I 11)) ((I 17)))))) (tk2 (A 10) (I 11) (tk2 (A 10) (I 11) (tk2 (A 10) (I 11) (tk2 ((A 10)) ((I 11)) ((I 17)))))) 0 (t_num (A 10) (I 11) (tk1 (A 10) (I 11) (tk2 (A 10) (I 11) (tk2 ((A 10)) ((I 11)) ((I 17))))) (tk2 (A 10) (I 11) (tk2 (A 10) (I 11) (tk2 ((A 10)) ((I 11)) ((I 17))))) 0 99)))) F Dd) rfl dX8_readsClause_58 rfl ?_
                refine g_aload_n C (n' := 62) 1 rfl dX8_readsClause_61 rfl rfl ?_
                refine g_iload_n C (n' := 63) 0 rfl dX8_readsClause_62 rfl rfl ?_
                refine g_if_ne C (n' := 66) 70 dX8_readsClause_63 (by decide) rfl (by unfold inR; omega) (fun c25 => ?_) (fun c25 => ?_)
                · skip
                  refine g_iload_n C (n' := 71) 0 rfl dX8_readsClause_70 rfl rfl ?_
                  refine g_iconst C (n' := 72) dX8_readsClause_71 rfl ?_
                  refine g_icmp_ne C (n' := 75) 84 dX8_readsClause_72 (by decide) rfl (by unfold inR; omega) (by unfold inR; omega) (fun c26 => ?_) (fun c26 => ?_)
                  · skip
                    exfalso
                    omega
                  · skip
                    refine g_aload_n C (n' := 76) 1 rfl dX8_readsClause_75 rfl rfl ?_
                    refine g_get C (n' := 79) (Cn := RX8) (T := TX8) (N := 35) (ci := 6) (v := .int (iI (I 19))) ga_X8 0 rfl rfl 19 (by decide) kw_709 rfl rfl dX8_readsClause_76 rfl ?_
                    have h_76 := hI 19
                    refine g_iconst C (n' := 80) dX8_readsClause_79 rfl ?_
                    refine g_iadd C (n' := 81) dX8_readsClause_80 rfl ?_
                    refine g_goto C 88 dX8_readsClause_81 (by decide) ?_
                    refine g_put C (n' := 91) (Cn := RX8) (T := TX8) (N := 35) (ci := 6) (v := .int (iI ((I 19) + 1))) ga_X8 0 rfl rfl 19 (by decide) kw_709 rfl tyX8 tyX8_ok nmX8 rfl rfl rfl rfl (Nat.le_of_ble_eq_true rfl) (wMod q Y (sU (sU (sU (sU I 16 (tk1 (A 10) (I 11) (tk2 (A 10) (I 11) (tk2 (A 10) (I 11) (tk2 (A 10) (I 11) (tk2 ((A 10)) ((I 11)) ((I 17)))))))) 17 (tk2 (A 10) (I 11) (tk2 (A 10) (I 11) (tk2 (A 10) (I 11) (tk2 (A 10) (I 11) (tk2 ((A 10)) ((I 11)) ((I 17)))))))) 18 (I 18)) 19 ((I 19) + 1)) (sU A 22 (sU (sU (sU (sU (A 22) 0 (t_num (A 10) (I 11) (tk1 ((A 10)) ((I 11)) ((I 17))) (tk2 ((A 10)) ((I 11)) ((I 17))) 0 ((I 18) - 1))) 1 (t_num (A 10) (I 11) (tk1 (A 10) (I 11) (tk2 ((A 10)) ((I 11)) ((I 17)))) (tk2 (A 10) (I 11) (tk2 ((A 10)) ((I 11)) ((I 17)))) 0 ((I 18) - 1))) 2 (t_num (A 10) (I 11) (tk1 (A 10) (I 11) (tk2 (A 10) (I 11) (tk2 ((A 10)) ((I 11)) ((I 17))))) (tk2 (A 10) (I 11) (tk2 (A 10) (I 11) (tk2 ((A 10)) ((I 11)) ((I 17))))) 0 99)) 3 (t_num (A 10) (I 11) (tk1 (A 10) (I 11) (tk2 (A 10) (I 11) (tk2 (A 10) (I 11) (tk2 ((A 10)) ((I 11)) ((I 17)))))) (tk2 (A 10) (I 11) (tk2 (A 10) (I 11) (tk2 (A 10) (I 11) (tk2 ((A 10)) ((I 11)) ((I 17)))))) 0 (t_num (A 10) (I 11) (tk1 (A 10) (I 11) (tk2 (A 10) (I 11) (tk2 ((A 10)) ((I 11)) ((I 17))))) (tk2 (A 10) (I 11) (tk2 (A 10) (I 11) (tk2 ((A 10)) ((I 11)) ((I 17))))) 0 99)))) F Dd) rfl dX8_readsClause_88 rfl ?_
                    refine g_aload_n C (n' := 92) 1 rfl dX8_readsClause_91 rfl rfl ?_
                    refine g_get C (n' := 95) (Cn := RX8) (T := TX8) (N := 35) (ci := 6) (v := .int (iI (I 21))) ga_X8 0 rfl rfl 21 (by decide) kw_711 rfl rfl dX8_readsClause_92 rfl ?_
                    have h_92 := hI 21
                    refine g_if_eq C (n' := 98) 103 dX8_readsClause_95 (by decide) rfl (by unfold inR; omega) (fun c27 => ?_) (fun c27 => ?_)
                    · skip
                      refine g_iconst C (n' := 104) dX8_readsClause_103 rfl ?_
                      have hX : rcF (A 10) (I 11) (I 16) (I 17) J N = (1, (tk1 (A 10) (I 11) (tk2 (A 10) (I 11) (tk2 (A 10) (I 11) (tk2 (A 10) (I 11) (tk2 (A 10) (I 11) (I 17)))))), (tk2 (A 10) (I 11) (tk2 (A 10) (I 11) (tk2 (A 10) (I 11) (tk2 (A 10) (I 11) (tk2 (A 10) (I 11) (I 17)))))), (n_addI J), (n_addA J N (t_num (A 10) (I 11) (tk1 (A 10) (I 11) (I 17)) (tk2 (A 10) (I 11) (I 17)) 0 ((I 18) - 1)) (t_num (A 10) (I 11) (tk1 (A 10) (I 11) (tk2 (A 10) (I 11) (I 17))) (tk2 (A 10) (I 11) (tk2 (A 10) (I 11) (I 17))) 0 ((I 18) - 1)) (t_num (A 10) (I 11) (tk1 (A 10) (I 11) (tk2 (A 10) (I 11) (tk2 (A 10) (I 11) (I 17)))) (tk2 (A 10) (I 11) (tk2 (A 10) (I 11) (tk2 (A 10) (I 11) (I 17)))) 0 99) (t_num (A 10) (I 11) (tk1 (A 10) (I 11) (tk2 (A 10) (I 11) (tk2 (A 10) (I 11) (tk2 (A 10) (I 11) (I 17))))) (tk2 (A 10) (I 11) (tk2 (A 10) (I 11) (tk2 (A 10) (I 11) (tk2 (A 10) (I 11) (I 17))))) 0 (t_num (A 10) (I 11) (tk1 (A 10) (I 11) (tk2 (A 10) (I 11) (tk2 (A 10) (I 11) (I 17)))) (tk2 (A 10) (I 11) (tk2 (A 10) (I 11) (tk2 (A 10) (I 11) (I 17)))) 0 99)))) := by
                        unfold rcF
                        rw [hwd]
                        rw [← h18]
                        rw [if_neg (by decide), if_pos rfl, if_neg (by omega)]
                        rw [if_neg hn15.1]
                        rw [if_neg hn16.1]
                        rw [if_neg hn17.1]
                        rw [if_neg hn18.1]
                      refine g_iret C hr hlk (nar_z (by omega)) ⟨(sU (sU (sU (sU I 16 (tk1 (A 10) (I 11) (tk2 (A 10) (I 11) (tk2 (A 10) (I 11) (tk2 (A 10) (I 11) (tk2 ((A 10)) ((I 11)) ((I 17)))))))) 17 (tk2 (A 10) (I 11) (tk2 (A 10) (I 11) (tk2 (A 10) (I 11) (tk2 (A 10) (I 11) (tk2 ((A 10)) ((I 11)) ((I 17)))))))) 18 (I 18)) 19 ((I 19) + 1)), (sU A 22 (sU (sU (sU (sU (A 22) 0 (t_num (A 10) (I 11) (tk1 ((A 10)) ((I 11)) ((I 17))) (tk2 ((A 10)) ((I 11)) ((I 17))) 0 ((I 18) - 1))) 1 (t_num (A 10) (I 11) (tk1 (A 10) (I 11) (tk2 ((A 10)) ((I 11)) ((I 17)))) (tk2 (A 10) (I 11) (tk2 ((A 10)) ((I 11)) ((I 17)))) 0 ((I 18) - 1))) 2 (t_num (A 10) (I 11) (tk1 (A 10) (I 11) (tk2 (A 10) (I 11) (tk2 ((A 10)) ((I 11)) ((I 17))))) (tk2 (A 10) (I 11) (tk2 (A 10) (I 11) (tk2 ((A 10)) ((I 11)) ((I 17))))) 0 99)) 3 (t_num (A 10) (I 11) (tk1 (A 10) (I 11) (tk2 (A 10) (I 11) (tk2 (A 10) (I 11) (tk2 ((A 10)) ((I 11)) ((I 17)))))) (tk2 (A 10) (I 11) (tk2 (A 10) (I 11) (tk2 (A 10) (I 11) (tk2 ((A 10)) ((I 11)) ((I 17)))))) 0 (t_num (A 10) (I 11) (tk1 (A 10) (I 11) (tk2 (A 10) (I 11) (tk2 ((A 10)) ((I 11)) ((I 17))))) (tk2 (A 10) (I 11) (tk2 (A 10) (I 11) (tk2 ((A 10)) ((I 11)) ((I 17))))) 0 99)))), rfl, by rw [hX], ?_⟩ dX8_readsClause_104
                      rw [hX]
                      exact ⟨⟨(sm_put (sm_put (sm_put (sm_put hsI (by omega)) (by omega)) (by omega)) (by omega)), (sm_putA hsA (sm_putR (sm_putR (sm_putR (sm_putR (hsA 22) (by omega)) (by omega)) (by omega)) (by omega)))⟩, ⟨⟨rfl, rfl, rfl⟩, rfl, rfl, rfl, rfl, rfl, rfl, rfl, rfl, rfl, rfl, fun _ _ => rfl⟩, ⟨rfl, rfl⟩, ⟨rfl, rfl, (by show I 18 = n_addI J 0; unfold n_addI; rw [if_neg (by omega)]; exact h18), (by show I 19 + 1 = n_addI J 5; unfold n_addI; rw [if_neg (by omega), h19]; rfl)⟩, fun h21 => absurd h21 (by omega), fun _ => ⟨⟨rfl, rfl, rfl, rfl, rfl⟩, rfl, rfl, rfl⟩⟩
                    · skip
                      refine g_aload_n C (n' := 99) 1 rfl dX8_readsClause_98 rfl rfl ?_
                      refine g_iload_n C (n' := 100) 0 rfl dX8_readsClause_99 rfl rfl ?_
                      refine g_cVn C (n' := 103) (c_X8_does_1 l D Y C.2.2.2.2.2.2.2.2.1 q (sU (sU (sU (sU I 16 (tk1 (A 10) (I 11) (tk2 (A 10) (I 11) (tk2 (A 10) (I 11) (tk2 (A 10) (I 11) (tk2 ((A 10)) ((I 11)) ((I 17)))))))) 17 (tk2 (A 10) (I 11) (tk2 (A 10) (I 11) (tk2 (A 10) (I 11) (tk2 (A 10) (I 11) (tk2 ((A 10)) ((I 11)) ((I 17)))))))) 18 (I 18)) 19 ((I 19) + 1)) (sU A 22 (sU (sU (sU (sU (A 22) 0 (t_num (A 10) (I 11) (tk1 ((A 10)) ((I 11)) ((I 17))) (tk2 ((A 10)) ((I 11)) ((I 17))) 0 ((I 18) - 1))) 1 (t_num (A 10) (I 11) (tk1 (A 10) (I 11) (tk2 ((A 10)) ((I 11)) ((I 17)))) (tk2 (A 10) (I 11) (tk2 ((A 10)) ((I 11)) ((I 17)))) 0 ((I 18) - 1))) 2 (t_num (A 10) (I 11) (tk1 (A 10) (I 11) (tk2 (A 10) (I 11) (tk2 ((A 10)) ((I 11)) ((I 17))))) (tk2 (A 10) (I 11) (tk2 (A 10) (I 11) (tk2 ((A 10)) ((I 11)) ((I 17))))) 0 99)) 3 (t_num (A 10) (I 11) (tk1 (A 10) (I 11) (tk2 (A 10) (I 11) (tk2 (A 10) (I 11) (tk2 ((A 10)) ((I 11)) ((I 17)))))) (tk2 (A 10) (I 11) (tk2 (A 10) (I 11) (tk2 (A 10) (I 11) (tk2 ((A 10)) ((I 11)) ((I 17)))))) 0 (t_num (A 10) (I 11) (tk1 (A 10) (I 11) (tk2 (A 10) (I 11) (tk2 ((A 10)) ((I 11)) ((I 17))))) (tk2 (A 10) (I 11) (tk2 (A 10) (I 11) (tk2 ((A 10)) ((I 11)) ((I 17))))) 0 99)))) F Dd (sm_put (sm_put (sm_put (sm_put hsI (by omega)) (by omega)) (by omega)) (by omega)) (sm_putA hsA (sm_putR (sm_putR (sm_putR (sm_putR (hsA 22) (by omega)) (by omega)) (by omega)) (by omega))) (by show 0 ≤ I 2 ∧ I 2 < 16; have := hdn (by omega); omega)) 1 kw_851 kc_X8_does (by decide +kernel) (pm0 _) 0 (ci := 6) rfl rfl rfl rfl ⟨Nat.le_of_ble_eq_true rfl, Nat.le_of_ble_eq_true rfl⟩ ⟨rfl, rfl⟩ ⟨Nat.le_of_ble_eq_true rfl, Nat.le_of_ble_eq_true rfl⟩ (Nat.le_of_ble_eq_true rfl) dX8_readsClause_100 rfl rfl (wMod q Y (sU (sU (sU (sU (sU I 16 (tk1 (A 10) (I 11) (tk2 (A 10) (I 11) (tk2 (A 10) (I 11) (tk2 (A 10) (I 11) (tk2 ((A 10)) ((I 11)) ((I 17)))))))) 17 (tk2 (A 10) (I 11) (tk2 (A 10) (I 11) (tk2 (A 10) (I 11) (tk2 (A 10) (I 11) (tk2 ((A 10)) ((I 11)) ((I 17)))))))) 18 (I 18)) 19 ((I 19) + 1)) 2 ((I 2) + 1)) (sU (sU (sU (sU A 22 (sU (sU (sU (sU (A 22) 0 (t_num (A 10) (I 11) (tk1 ((A 10)) ((I 11)) ((I 17))) (tk2 ((A 10)) ((I 11)) ((I 17))) 0 ((I 18) - 1))) 1 (t_num (A 10) (I 11) (tk1 (A 10) (I 11) (tk2 ((A 10)) ((I 11)) ((I 17)))) (tk2 (A 10) (I 11) (tk2 ((A 10)) ((I 11)) ((I 17)))) 0 ((I 18) - 1))) 2 (t_num (A 10) (I 11) (tk1 (A 10) (I 11) (tk2 (A 10) (I 11) (tk2 ((A 10)) ((I 11)) ((I 17))))) (tk2 (A 10) (I 11) (tk2 (A 10) (I 11) (tk2 ((A 10)) ((I 11)) ((I 17))))) 0 99)) 3 (t_num (A 10) (I 11) (tk1 (A 10) (I 11) (tk2 (A 10) (I 11) (tk2 (A 10) (I 11) (tk2 ((A 10)) ((I 11)) ((I 17)))))) (tk2 (A 10) (I 11) (tk2 (A 10) (I 11) (tk2 (A 10) (I 11) (tk2 ((A 10)) ((I 11)) ((I 17)))))) 0 (t_num (A 10) (I 11) (tk1 (A 10) (I 11) (tk2 (A 10) (I 11) (tk2 ((A 10)) ((I 11)) ((I 17))))) (tk2 (A 10) (I 11) (tk2 (A 10) (I 11) (tk2 ((A 10)) ((I 11)) ((I 17))))) 0 99)))) 3 (sU ((A 3)) ((I 2)).toNat ((t_num (A 10) (I 11) (tk1 ((A 10)) ((I 11)) ((I 17))) (tk2 ((A 10)) ((I 11)) ((I 17))) 0 ((I 18) - 1))))) 4 (sU ((A 4)) ((I 2)).toNat ((t_num (A 10) (I 11) (tk1 (A 10) (I 11) (tk2 ((A 10)) ((I 11)) ((I 17)))) (tk2 (A 10) (I 11) (tk2 ((A 10)) ((I 11)) ((I 17)))) 0 ((I 18) - 1))))) 0 (sU (sU ((A 0)) (1 + (I 2)).toNat ((t_num (A 10) (I 11) (tk1 (A 10) (I 11) (tk2 (A 10) (I 11) (tk2 ((A 10)) ((I 11)) ((I 17))))) (tk2 (A 10) (I 11) (tk2 (A 10) (I 11) (tk2 ((A 10)) ((I 11)) ((I 17))))) 0 99))) (17 + (I 2)).toNat ((t_num (A 10) (I 11) (tk1 (A 10) (I 11) (tk2 (A 10) (I 11) (tk2 (A 10) (I 11) (tk2 ((A 10)) ((I 11)) ((I 17)))))) (tk2 (A 10) (I 11) (tk2 (A 10) (I 11) (tk2 (A 10) (I 11) (tk2 ((A 10)) ((I 11)) ((I 17)))))) 0 (t_num (A 10) (I 11) (tk1 (A 10) (I 11) (tk2 (A 10) (I 11) (tk2 ((A 10)) ((I 11)) ((I 17))))) (tk2 (A 10) (I 11) (tk2 (A 10) (I 11) (tk2 ((A 10)) ((I 11)) ((I 17))))) 0 99))))) F Dd) (pm0' _) ?_
                      refine g_iconst C (n' := 104) dX8_readsClause_103 rfl ?_
                      have hX : rcF (A 10) (I 11) (I 16) (I 17) J N = (1, (tk1 (A 10) (I 11) (tk2 (A 10) (I 11) (tk2 (A 10) (I 11) (tk2 (A 10) (I 11) (tk2 (A 10) (I 11) (I 17)))))), (tk2 (A 10) (I 11) (tk2 (A 10) (I 11) (tk2 (A 10) (I 11) (tk2 (A 10) (I 11) (tk2 (A 10) (I 11) (I 17)))))), (n_addI J), (n_addA J N (t_num (A 10) (I 11) (tk1 (A 10) (I 11) (I 17)) (tk2 (A 10) (I 11) (I 17)) 0 ((I 18) - 1)) (t_num (A 10) (I 11) (tk1 (A 10) (I 11) (tk2 (A 10) (I 11) (I 17))) (tk2 (A 10) (I 11) (tk2 (A 10) (I 11) (I 17))) 0 ((I 18) - 1)) (t_num (A 10) (I 11) (tk1 (A 10) (I 11) (tk2 (A 10) (I 11) (tk2 (A 10) (I 11) (I 17)))) (tk2 (A 10) (I 11) (tk2 (A 10) (I 11) (tk2 (A 10) (I 11) (I 17)))) 0 99) (t_num (A 10) (I 11) (tk1 (A 10) (I 11) (tk2 (A 10) (I 11) (tk2 (A 10) (I 11) (tk2 (A 10) (I 11) (I 17))))) (tk2 (A 10) (I 11) (tk2 (A 10) (I 11) (tk2 (A 10) (I 11) (tk2 (A 10) (I 11) (I 17))))) 0 (t_num (A 10) (I 11) (tk1 (A 10) (I 11) (tk2 (A 10) (I 11) (tk2 (A 10) (I 11) (I 17)))) (tk2 (A 10) (I 11) (tk2 (A 10) (I 11) (tk2 (A 10) (I 11) (I 17)))) 0 99)))) := by
                        unfold rcF
                        rw [hwd]
                        rw [← h18]
                        rw [if_neg (by decide), if_pos rfl, if_neg (by omega)]
                        rw [if_neg hn15.1]
                        rw [if_neg hn16.1]
                        rw [if_neg hn17.1]
                        rw [if_neg hn18.1]
                      refine g_iret C hr hlk (nar_z (by omega)) ⟨(sU (sU (sU (sU (sU I 16 (tk1 (A 10) (I 11) (tk2 (A 10) (I 11) (tk2 (A 10) (I 11) (tk2 (A 10) (I 11) (tk2 ((A 10)) ((I 11)) ((I 17)))))))) 17 (tk2 (A 10) (I 11) (tk2 (A 10) (I 11) (tk2 (A 10) (I 11) (tk2 (A 10) (I 11) (tk2 ((A 10)) ((I 11)) ((I 17)))))))) 18 (I 18)) 19 ((I 19) + 1)) 2 ((I 2) + 1)), (sU (sU (sU (sU A 22 (sU (sU (sU (sU (A 22) 0 (t_num (A 10) (I 11) (tk1 ((A 10)) ((I 11)) ((I 17))) (tk2 ((A 10)) ((I 11)) ((I 17))) 0 ((I 18) - 1))) 1 (t_num (A 10) (I 11) (tk1 (A 10) (I 11) (tk2 ((A 10)) ((I 11)) ((I 17)))) (tk2 (A 10) (I 11) (tk2 ((A 10)) ((I 11)) ((I 17)))) 0 ((I 18) - 1))) 2 (t_num (A 10) (I 11) (tk1 (A 10) (I 11) (tk2 (A 10) (I 11) (tk2 ((A 10)) ((I 11)) ((I 17))))) (tk2 (A 10) (I 11) (tk2 (A 10) (I 11) (tk2 ((A 10)) ((I 11)) ((I 17))))) 0 99)) 3 (t_num (A 10) (I 11) (tk1 (A 10) (I 11) (tk2 (A 10) (I 11) (tk2 (A 10) (I 11) (tk2 ((A 10)) ((I 11)) ((I 17)))))) (tk2 (A 10) (I 11) (tk2 (A 10) (I 11) (tk2 (A 10) (I 11) (tk2 ((A 10)) ((I 11)) ((I 17)))))) 0 (t_num (A 10) (I 11) (tk1 (A 10) (I 11) (tk2 (A 10) (I 11) (tk2 ((A 10)) ((I 11)) ((I 17))))) (tk2 (A 10) (I 11) (tk2 (A 10) (I 11) (tk2 ((A 10)) ((I 11)) ((I 17))))) 0 99)))) 3 (sU ((A 3)) ((I 2)).toNat ((t_num (A 10) (I 11) (tk1 ((A 10)) ((I 11)) ((I 17))) (tk2 ((A 10)) ((I 11)) ((I 17))) 0 ((I 18) - 1))))) 4 (sU ((A 4)) ((I 2)).toNat ((t_num (A 10) (I 11) (tk1 (A 10) (I 11) (tk2 ((A 10)) ((I 11)) ((I 17)))) (tk2 (A 10) (I 11) (tk2 ((A 10)) ((I 11)) ((I 17)))) 0 ((I 18) - 1))))) 0 (sU (sU ((A 0)) (1 + (I 2)).toNat ((t_num (A 10) (I 11) (tk1 (A 10) (I 11) (tk2 (A 10) (I 11) (tk2 ((A 10)) ((I 11)) ((I 17))))) (tk2 (A 10) (I 11) (tk2 (A 10) (I 11) (tk2 ((A 10)) ((I 11)) ((I 17))))) 0 99))) (17 + (I 2)).toNat ((t_num (A 10) (I 11) (tk1 (A 10) (I 11) (tk2 (A 10) (I 11) (tk2 (A 10) (I 11) (tk2 ((A 10)) ((I 11)) ((I 17)))))) (tk2 (A 10) (I 11) (tk2 (A 10) (I 11) (tk2 (A 10) (I 11) (tk2 ((A 10)) ((I 11)) ((I 17)))))) 0 (t_num (A 10) (I 11) (tk1 (A 10) (I 11) (tk2 (A 10) (I 11) (tk2 ((A 10)) ((I 11)) ((I 17))))) (tk2 (A 10) (I 11) (tk2 (A 10) (I 11) (tk2 ((A 10)) ((I 11)) ((I 17))))) 0 99))))), rfl, by rw [hX], ?_⟩ dX8_readsClause_104
                      rw [hX]
                      have h_add := mNv_add (hD.resolve_left (by omega)).2 (by omega) (t_num (A 10) (I 11) (tk1 (A 10) (I 11) (I 17)) (tk2 (A 10) (I 11) (I 17)) 0 ((I 18) - 1)) (t_num (A 10) (I 11) (tk1 (A 10) (I 11) (tk2 (A 10) (I 11) (I 17))) (tk2 (A 10) (I 11) (tk2 (A 10) (I 11) (I 17))) 0 ((I 18) - 1)) (t_num (A 10) (I 11) (tk1 (A 10) (I 11) (tk2 (A 10) (I 11) (tk2 (A 10) (I 11) (I 17)))) (tk2 (A 10) (I 11) (tk2 (A 10) (I 11) (tk2 (A 10) (I 11) (I 17)))) 0 99) (t_num (A 10) (I 11) (tk1 (A 10) (I 11) (tk2 (A 10) (I 11) (tk2 (A 10) (I 11) (tk2 (A 10) (I 11) (I 17))))) (tk2 (A 10) (I 11) (tk2 (A 10) (I 11) (tk2 (A 10) (I 11) (tk2 (A 10) (I 11) (I 17))))) 0 (t_num (A 10) (I 11) (tk1 (A 10) (I 11) (tk2 (A 10) (I 11) (tk2 (A 10) (I 11) (I 17)))) (tk2 (A 10) (I 11) (tk2 (A 10) (I 11) (tk2 (A 10) (I 11) (I 17)))) 0 99))
                      exact ⟨⟨(sm_put (sm_put (sm_put (sm_put (sm_put hsI (by omega)) (by omega)) (by omega)) (by omega)) (by omega)), (sm_putA (sm_putA (sm_putA (sm_putA hsA (sm_putR (sm_putR (sm_putR (sm_putR (hsA 22) (by omega)) (by omega)) (by omega)) (by omega))) (sm_putR (hsA 3) (by omega))) (sm_putR (hsA 4) (by omega))) (sm_putR (sm_putR (hsA 0) (by omega)) (by omega)))⟩, ⟨⟨rfl, rfl, rfl⟩, rfl, rfl, rfl, rfl, rfl, rfl, rfl, rfl, rfl, rfl, fun k hk => (sU_n _ _ (by omega)).trans (sU_n _ _ (by omega))⟩, ⟨rfl, rfl⟩, ⟨rfl, rfl, (by show I 18 = n_addI J 0; unfold n_addI; rw [if_neg (by omega)]; exact h18), (by show I 19 + 1 = n_addI J 5; unfold n_addI; rw [if_neg (by omega), h19]; rfl)⟩, fun _ => h_add, fun h21 => absurd h21 (by omega)⟩
                · skip
                  exfalso
                  omega
              · skip
                exfalso
                omega
            · skip
              exfalso
              omega
        · skip
          refine g_iconst C (n' := 25) dX8_readsClause_24 rfl ?_
          have hX : rcF (A 10) (I 11) (I 16) (I 17) J N = (0, (I 16), (I 17), J, N) := by
            unfold rcF
            rw [hwd]
            rw [if_neg (by decide), if_pos rfl, if_pos (by omega)]
          refine g_iret C hr hlk (nar_z (by omega)) ⟨I, A, rfl, by rw [hX], ?_⟩ dX8_readsClause_25
          rw [hX]
          exact ⟨⟨hsI, hsA⟩, ⟨⟨rfl, rfl, rfl⟩, rfl, rfl, rfl, rfl, rfl, rfl, rfl, rfl, rfl, rfl, fun _ _ => rfl⟩, ⟨rfl, rfl⟩, ⟨rfl, rfl, h18, h19⟩, fun h21 => (hD.resolve_left (by omega)).2, fun _ => ⟨⟨rfl, rfl, rfl, rfl, rfl⟩, rfl, rfl, rfl⟩⟩
  · skip
    rw [hwd]
    refine g_istore_n C (n' := 5) [(1, .int (iI 2)), (0, .ref (q 99))] dX8_readsClause_4 rfl rfl (by decide) rfl ?_
    refine g_iload_n C (n' := 6) 0 rfl dX8_readsClause_5 rfl rfl ?_
    refine g_iconst C (n' := 7) dX8_readsClause_6 rfl ?_
    refine g_icmp_eq C (n' := 10) 24 dX8_readsClause_7 (by decide) rfl (by unfold inR; omega) (by unfold inR; omega) (fun c28 => ?_) (fun c28 => ?_)
    · skip
      exfalso
      omega
    · skip
      refine g_iload_n C (n' := 11) 0 rfl dX8_readsClause_10 rfl rfl ?_
      refine g_iconst C (n' := 12) dX8_readsClause_11 rfl ?_
      refine g_icmp_ne C (n' := 15) 26 dX8_readsClause_12 (by decide) rfl (by unfold inR; omega) (by unfold inR; omega) (fun c29 => ?_) (fun c29 => ?_)
      · skip
        refine g_aload_n C (n' := 27) 1 rfl dX8_readsClause_26 rfl rfl ?_
        refine g_cVn C (n' := 30) (c_X8_nextToken l D Y C.2.2.2.2.2.2.2.2.1 q I A F Dd hsI hsA (by unfold mtok; omega)) 0 kw_817 kc_X8_nextToken (by decide +kernel) (pm0 _) 0 (ci := 6) rfl rfl rfl rfl ⟨Nat.le_of_ble_eq_true rfl, Nat.le_of_ble_eq_true rfl⟩ ⟨rfl, rfl⟩ ⟨Nat.le_of_ble_eq_true rfl, Nat.le_of_ble_eq_true rfl⟩ (Nat.le_of_ble_eq_true rfl) dX8_readsClause_27 rfl rfl (wMod q Y (sU (sU I 16 (tk1 ((A 10)) ((I 11)) ((I 17)))) 17 (tk2 ((A 10)) ((I 11)) ((I 17)))) A F Dd) (pm0' _) ?_
        refine g_aload_n C (n' := 31) 1 rfl dX8_readsClause_30 rfl rfl ?_
        refine g_iload_n C (n' := 32) 0 rfl dX8_readsClause_31 rfl rfl ?_
        refine g_callV C (n' := 35) (c_X8_readsNumbers_2 l D Y C.2.2.2.2.2.2.2.2.1 q (sU (sU I 16 (tk1 ((A 10)) ((I 11)) ((I 17)))) 17 (tk2 ((A 10)) ((I 11)) ((I 17)))) A F Dd (sm_put (sm_put hsI (by omega)) (by omega)) hsA (by show mtk _; unfold mtk; show 0 ≤ tk1 (A 10) (I 11) (I 17) ∧ tk1 (A 10) (I 11) (I 17) ≤ tk2 (A 10) (I 11) (I 17) ∧ tk2 (A 10) (I 11) (I 17) ≤ I 11 ∧ I 11 ≤ 200; omega)) 1 kw_843 kc_X8_readsNumbers (by decide +kernel) (pm0 _) 0 (ci := 6) rfl rfl rfl rfl ⟨Nat.le_of_ble_eq_true rfl, Nat.le_of_ble_eq_true rfl⟩ ⟨rfl, rfl⟩ ⟨Nat.le_of_ble_eq_true rfl, Nat.le_of_ble_eq_true rfl⟩ (Nat.le_of_ble_eq_true rfl) dX8_readsClause_32 rfl (fun r9 w9 hp30 => ?_)
        obtain (⟨hn31, rfl, rfl⟩ | ⟨hn31, rfl, rfl⟩) := hp30
        · skip
          replace hn31 : (t_num (A 10) (I 11) (tk1 ((A 10)) ((I 11)) ((I 17))) (tk2 ((A 10)) ((I 11)) ((I 17))) 0 9) = -1 := hn31
          refine g_perm (w' := (wMod q Y (sU (sU I 16 (tk1 ((A 10)) ((I 11)) ((I 17)))) 17 (tk2 ((A 10)) ((I 11)) ((I 17)))) A F Dd)) (pm0' _) ?_
          refine g_st (st' := [.int (iI 0)]) rfl ?_
          refine g_if_ne C (n' := 38) 40 dX8_readsClause_35 (by decide) rfl (by unfold inR; omega) (fun c32 => ?_) (fun c32 => ?_)
          · skip
            exfalso
            omega
          · skip
            refine g_iconst C (n' := 39) dX8_readsClause_38 rfl ?_
            have hX : rcF (A 10) (I 11) (I 16) (I 17) J N = (0, (tk1 (A 10) (I 11) (I 17)), (tk2 (A 10) (I 11) (I 17)), J, N) := by
              unfold rcF
              rw [hwd]
              rw [if_neg (by decide), if_neg (by decide)]
              show (if (t_num (A 10) (I 11) (tk1 (A 10) (I 11) (I 17)) (tk2 (A 10) (I 11) (I 17)) 0 9) = -1 then _ else _) = _
              rw [if_pos hn31]
            refine g_iret C hr hlk (nar_z (by omega)) ⟨(sU (sU I 16 (tk1 ((A 10)) ((I 11)) ((I 17)))) 17 (tk2 ((A 10)) ((I 11)) ((I 17)))), A, rfl, by rw [hX], ?_⟩ dX8_readsClause_39
            rw [hX]
            exact ⟨⟨(sm_put (sm_put hsI (by omega)) (by omega)), hsA⟩, ⟨⟨rfl, rfl, rfl⟩, rfl, rfl, rfl, rfl, rfl, rfl, rfl, rfl, rfl, rfl, fun _ _ => rfl⟩, ⟨rfl, rfl⟩, ⟨rfl, rfl, h18, h19⟩, fun h21 => (hD.resolve_left (by omega)).2, fun _ => ⟨⟨rfl, rfl, rfl, rfl, rfl⟩, rfl, rfl, rfl⟩⟩
        · skip
          replace hn31 : (t_num (A 10) (I 11) (tk1 ((A 10)) ((I 11)) ((I 17))) (tk2 ((A 10)) ((I 11)) ((I 17))) 0 9) ≠ -1 ∧ 0 ≤ (t_num (A 10) (I 11) (tk1 ((A 10)) ((I 11)) ((I 17))) (tk2 ((A 10)) ((I 11)) ((I 17))) 0 9) ∧ (t_num (A 10) (I 11) (tk1 ((A 10)) ((I 11)) ((I 17))) (tk2 ((A 10)) ((I 11)) ((I 17))) 0 9) ≤ 9 := hn31
          have hthn31_0 := tk_n (L := (A 10)) (n := (I 11)) (e := (tk2 ((A 10)) ((I 11)) ((I 17)))) (by omega)
          refine g_perm (w' := (wMod q Y (sU (sU I 16 (tk1 (A 10) (I 11) (tk2 ((A 10)) ((I 11)) ((I 17))))) 17 (tk2 (A 10) (I 11) (tk2 ((A 10)) ((I 11)) ((I 17))))) (sU A 22 (sU (A 22) 0 (t_num (A 10) (I 11) (tk1 ((A 10)) ((I 11)) ((I 17))) (tk2 ((A 10)) ((I 11)) ((I 17))) 0 9))) F Dd)) (pm0' _) ?_
          refine g_st (st' := [.int (iI 1)]) rfl ?_
          refine g_if_ne C (n' := 38) 40 dX8_readsClause_35 (by decide) rfl (by unfold inR; omega) (fun c33 => ?_) (fun c33 => ?_)
          · skip
            refine g_aload_n C (n' := 41) 1 rfl dX8_readsClause_40 rfl rfl ?_
            refine g_iload_n C (n' := 42) 0 rfl dX8_readsClause_41 rfl rfl ?_
            refine g_if_ne C (n' := 45) 54 dX8_readsClause_42 (by decide) rfl (by unfold inR; omega) (fun c34 => ?_) (fun c34 => ?_)
            · skip
              refine g_aload_n C (n' := 55) 1 rfl dX8_readsClause_54 rfl rfl ?_
              refine g_get C (n' := 58) (Cn := RX8) (T := TX8) (N := 35) (ci := 6) (v := .int (iI (I 18))) ga_X8 0 rfl rfl 18 (by decide) kw_708 rfl rfl dX8_readsClause_55 rfl ?_
              have h_55 := hI 18
              refine g_put C (n' := 61) (Cn := RX8) (T := TX8) (N := 35) (ci := 6) (v := .int (iI (I 18))) ga_X8 0 rfl rfl 18 (by decide) kw_708 rfl tyX8 tyX8_ok nmX8 rfl rfl rfl rfl (Nat.le_of_ble_eq_true rfl) (wMod q Y (sU (sU (sU I 16 (tk1 (A 10) (I 11) (tk2 ((A 10)) ((I 11)) ((I 17))))) 17 (tk2 (A 10) (I 11) (tk2 ((A 10)) ((I 11)) ((I 17))))) 18 (I 18)) (sU A 22 (sU (A 22) 0 (t_num (A 10) (I 11) (tk1 ((A 10)) ((I 11)) ((I 17))) (tk2 ((A 10)) ((I 11)) ((I 17))) 0 9))) F Dd) rfl dX8_readsClause_58 rfl ?_
              refine g_aload_n C (n' := 62) 1 rfl dX8_readsClause_61 rfl rfl ?_
              refine g_iload_n C (n' := 63) 0 rfl dX8_readsClause_62 rfl rfl ?_
              refine g_if_ne C (n' := 66) 70 dX8_readsClause_63 (by decide) rfl (by unfold inR; omega) (fun c35 => ?_) (fun c35 => ?_)
              · skip
                refine g_iload_n C (n' := 71) 0 rfl dX8_readsClause_70 rfl rfl ?_
                refine g_iconst C (n' := 72) dX8_readsClause_71 rfl ?_
                refine g_icmp_ne C (n' := 75) 84 dX8_readsClause_72 (by decide) rfl (by unfold inR; omega) (by unfold inR; omega) (fun c36 => ?_) (fun c36 => ?_)
                · skip
                  refine g_aload_n C (n' := 85) 1 rfl dX8_readsClause_84 rfl rfl ?_
                  refine g_get C (n' := 88) (Cn := RX8) (T := TX8) (N := 35) (ci := 6) (v := .int (iI (I 19))) ga_X8 0 rfl rfl 19 (by decide) kw_709 rfl rfl dX8_readsClause_85 rfl ?_
                  have h_85 := hI 19
                  refine g_put C (n' := 91) (Cn := RX8) (T := TX8) (N := 35) (ci := 6) (v := .int (iI (I 19))) ga_X8 0 rfl rfl 19 (by decide) kw_709 rfl tyX8 tyX8_ok nmX8 rfl rfl rfl rfl (Nat.le_of_ble_eq_true rfl) (wMod q Y (sU (sU (sU (sU I 16 (tk1 (A 10) (I 11) (tk2 ((A 10)) ((I 11)) ((I 17))))) 17 (tk2 (A 10) (I 11) (tk2 ((A 10)) ((I 11)) ((I 17))))) 18 (I 18)) 19 (I 19)) (sU A 22 (sU (A 22) 0 (t_num (A 10) (I 11) (tk1 ((A 10)) ((I 11)) ((I 17))) (tk2 ((A 10)) ((I 11)) ((I 17))) 0 9))) F Dd) rfl dX8_readsClause_88 rfl ?_
                  refine g_aload_n C (n' := 92) 1 rfl dX8_readsClause_91 rfl rfl ?_
                  refine g_get C (n' := 95) (Cn := RX8) (T := TX8) (N := 35) (ci := 6) (v := .int (iI (I 21))) ga_X8 0 rfl rfl 21 (by decide) kw_711 rfl rfl dX8_readsClause_92 rfl ?_
                  have h_92 := hI 21
                  refine g_if_eq C (n' := 98) 103 dX8_readsClause_95 (by decide) rfl (by unfold inR; omega) (fun c37 => ?_) (fun c37 => ?_)
                  · skip
                    refine g_iconst C (n' := 104) dX8_readsClause_103 rfl ?_
                    have hX : rcF (A 10) (I 11) (I 16) (I 17) J N = (1, (tk1 (A 10) (I 11) (tk2 (A 10) (I 11) (I 17))), (tk2 (A 10) (I 11) (tk2 (A 10) (I 11) (I 17))), (n_tell 2 (t_num (A 10) (I 11) (tk1 (A 10) (I 11) (I 17)) (tk2 (A 10) (I 11) (I 17)) 0 9) J), N) := by
                      unfold rcF
                      rw [hwd]
                      rw [if_neg (by decide), if_neg (by decide)]
                      show (if (t_num (A 10) (I 11) (tk1 (A 10) (I 11) (I 17)) (tk2 (A 10) (I 11) (I 17)) 0 9) = -1 then _ else _) = _
                      rw [if_neg hn31.1]
                      rfl
                    refine g_iret C hr hlk (nar_z (by omega)) ⟨(sU (sU (sU (sU I 16 (tk1 (A 10) (I 11) (tk2 ((A 10)) ((I 11)) ((I 17))))) 17 (tk2 (A 10) (I 11) (tk2 ((A 10)) ((I 11)) ((I 17))))) 18 (I 18)) 19 (I 19)), (sU A 22 (sU (A 22) 0 (t_num (A 10) (I 11) (tk1 ((A 10)) ((I 11)) ((I 17))) (tk2 ((A 10)) ((I 11)) ((I 17))) 0 9))), rfl, by rw [hX], ?_⟩ dX8_readsClause_104
                    rw [hX]
                    exact ⟨⟨(sm_put (sm_put (sm_put (sm_put hsI (by omega)) (by omega)) (by omega)) (by omega)), (sm_putA hsA (sm_putR (hsA 22) (by omega)))⟩, ⟨⟨rfl, rfl, rfl⟩, rfl, rfl, rfl, rfl, rfl, rfl, rfl, rfl, rfl, rfl, fun _ _ => rfl⟩, ⟨rfl, rfl⟩, ⟨rfl, rfl, h18, h19⟩, fun h21 => absurd h21 (by omega), fun _ => ⟨⟨rfl, rfl, rfl, rfl, rfl⟩, rfl, rfl, rfl⟩⟩
                  · skip
                    refine g_aload_n C (n' := 99) 1 rfl dX8_readsClause_98 rfl rfl ?_
                    refine g_iload_n C (n' := 100) 0 rfl dX8_readsClause_99 rfl rfl ?_
                    refine g_cVn C (n' := 103) (c_X8_does_2 l D Y C.2.2.2.2.2.2.2.2.1 q (sU (sU (sU (sU I 16 (tk1 (A 10) (I 11) (tk2 ((A 10)) ((I 11)) ((I 17))))) 17 (tk2 (A 10) (I 11) (tk2 ((A 10)) ((I 11)) ((I 17))))) 18 (I 18)) 19 (I 19)) (sU A 22 (sU (A 22) 0 (t_num (A 10) (I 11) (tk1 ((A 10)) ((I 11)) ((I 17))) (tk2 ((A 10)) ((I 11)) ((I 17))) 0 9))) F Dd (sm_put (sm_put (sm_put (sm_put hsI (by omega)) (by omega)) (by omega)) (by omega)) (sm_putA hsA (sm_putR (hsA 22) (by omega)))) 1 kw_851 kc_X8_does (by decide +kernel) (pm0 _) 0 (ci := 6) rfl rfl rfl rfl ⟨Nat.le_of_ble_eq_true rfl, Nat.le_of_ble_eq_true rfl⟩ ⟨rfl, rfl⟩ ⟨Nat.le_of_ble_eq_true rfl, Nat.le_of_ble_eq_true rfl⟩ (Nat.le_of_ble_eq_true rfl) dX8_readsClause_100 rfl rfl (wMod q Y (sU (sU (sU (sU (sU I 16 (tk1 (A 10) (I 11) (tk2 ((A 10)) ((I 11)) ((I 17))))) 17 (tk2 (A 10) (I 11) (tk2 ((A 10)) ((I 11)) ((I 17))))) 18 (I 18)) 19 (I 19)) 5 ((t_num (A 10) (I 11) (tk1 ((A 10)) ((I 11)) ((I 17))) (tk2 ((A 10)) ((I 11)) ((I 17))) 0 9))) (sU A 22 (sU (A 22) 0 (t_num (A 10) (I 11) (tk1 ((A 10)) ((I 11)) ((I 17))) (tk2 ((A 10)) ((I 11)) ((I 17))) 0 9))) F Dd) (pm0' _) ?_
                    refine g_iconst C (n' := 104) dX8_readsClause_103 rfl ?_
                    have hX : rcF (A 10) (I 11) (I 16) (I 17) J N = (1, (tk1 (A 10) (I 11) (tk2 (A 10) (I 11) (I 17))), (tk2 (A 10) (I 11) (tk2 (A 10) (I 11) (I 17))), (n_tell 2 (t_num (A 10) (I 11) (tk1 (A 10) (I 11) (I 17)) (tk2 (A 10) (I 11) (I 17)) 0 9) J), N) := by
                      unfold rcF
                      rw [hwd]
                      rw [if_neg (by decide), if_neg (by decide)]
                      show (if (t_num (A 10) (I 11) (tk1 (A 10) (I 11) (I 17)) (tk2 (A 10) (I 11) (I 17)) 0 9) = -1 then _ else _) = _
                      rw [if_neg hn31.1]
                      rfl
                    refine g_iret C hr hlk (nar_z (by omega)) ⟨(sU (sU (sU (sU (sU I 16 (tk1 (A 10) (I 11) (tk2 ((A 10)) ((I 11)) ((I 17))))) 17 (tk2 (A 10) (I 11) (tk2 ((A 10)) ((I 11)) ((I 17))))) 18 (I 18)) 19 (I 19)) 5 ((t_num (A 10) (I 11) (tk1 ((A 10)) ((I 11)) ((I 17))) (tk2 ((A 10)) ((I 11)) ((I 17))) 0 9))), (sU A 22 (sU (A 22) 0 (t_num (A 10) (I 11) (tk1 ((A 10)) ((I 11)) ((I 17))) (tk2 ((A 10)) ((I 11)) ((I 17))) 0 9))), rfl, by rw [hX], ?_⟩ dX8_readsClause_104
                    rw [hX]
                    exact ⟨⟨(sm_put (sm_put (sm_put (sm_put (sm_put hsI (by omega)) (by omega)) (by omega)) (by omega)) (by omega)), (sm_putA hsA (sm_putR (hsA 22) (by omega)))⟩, ⟨⟨rfl, rfl, rfl⟩, rfl, rfl, rfl, rfl, rfl, rfl, rfl, rfl, rfl, rfl, fun _ _ => rfl⟩, ⟨rfl, rfl⟩, ⟨rfl, rfl, h18, h19⟩, fun _ => mNv_1 (hD.resolve_left (by omega)).2 _, fun h21 => absurd h21 (by omega)⟩
                · skip
                  exfalso
                  omega
              · skip
                exfalso
                omega
            · skip
              exfalso
              omega
          · skip
            exfalso
            omega
      · skip
        exfalso
        omega
  · skip
    rw [hwd]
    refine g_istore_n C (n' := 5) [(1, .int (iI 3)), (0, .ref (q 99))] dX8_readsClause_4 rfl rfl (by decide) rfl ?_
    refine g_iload_n C (n' := 6) 0 rfl dX8_readsClause_5 rfl rfl ?_
    refine g_iconst C (n' := 7) dX8_readsClause_6 rfl ?_
    refine g_icmp_eq C (n' := 10) 24 dX8_readsClause_7 (by decide) rfl (by unfold inR; omega) (by unfold inR; omega) (fun c38 => ?_) (fun c38 => ?_)
    · skip
      exfalso
      omega
    · skip
      refine g_iload_n C (n' := 11) 0 rfl dX8_readsClause_10 rfl rfl ?_
      refine g_iconst C (n' := 12) dX8_readsClause_11 rfl ?_
      refine g_icmp_ne C (n' := 15) 26 dX8_readsClause_12 (by decide) rfl (by unfold inR; omega) (by unfold inR; omega) (fun c39 => ?_) (fun c39 => ?_)
      · skip
        refine g_aload_n C (n' := 27) 1 rfl dX8_readsClause_26 rfl rfl ?_
        refine g_cVn C (n' := 30) (c_X8_nextToken l D Y C.2.2.2.2.2.2.2.2.1 q I A F Dd hsI hsA (by unfold mtok; omega)) 0 kw_817 kc_X8_nextToken (by decide +kernel) (pm0 _) 0 (ci := 6) rfl rfl rfl rfl ⟨Nat.le_of_ble_eq_true rfl, Nat.le_of_ble_eq_true rfl⟩ ⟨rfl, rfl⟩ ⟨Nat.le_of_ble_eq_true rfl, Nat.le_of_ble_eq_true rfl⟩ (Nat.le_of_ble_eq_true rfl) dX8_readsClause_27 rfl rfl (wMod q Y (sU (sU I 16 (tk1 ((A 10)) ((I 11)) ((I 17)))) 17 (tk2 ((A 10)) ((I 11)) ((I 17)))) A F Dd) (pm0' _) ?_
        refine g_aload_n C (n' := 31) 1 rfl dX8_readsClause_30 rfl rfl ?_
        refine g_iload_n C (n' := 32) 0 rfl dX8_readsClause_31 rfl rfl ?_
        refine g_callV C (n' := 35) (c_X8_readsNumbers_3 l D Y C.2.2.2.2.2.2.2.2.1 q (sU (sU I 16 (tk1 ((A 10)) ((I 11)) ((I 17)))) 17 (tk2 ((A 10)) ((I 11)) ((I 17)))) A F Dd (sm_put (sm_put hsI (by omega)) (by omega)) hsA (by show mtk _; unfold mtk; show 0 ≤ tk1 (A 10) (I 11) (I 17) ∧ tk1 (A 10) (I 11) (I 17) ≤ tk2 (A 10) (I 11) (I 17) ∧ tk2 (A 10) (I 11) (I 17) ≤ I 11 ∧ I 11 ≤ 200; omega)) 1 kw_843 kc_X8_readsNumbers (by decide +kernel) (pm0 _) 0 (ci := 6) rfl rfl rfl rfl ⟨Nat.le_of_ble_eq_true rfl, Nat.le_of_ble_eq_true rfl⟩ ⟨rfl, rfl⟩ ⟨Nat.le_of_ble_eq_true rfl, Nat.le_of_ble_eq_true rfl⟩ (Nat.le_of_ble_eq_true rfl) dX8_readsClause_32 rfl (fun r9 w9 hp40 => ?_)
        obtain (⟨hn41, rfl, rfl⟩ | ⟨hn41, rfl, rfl⟩) := hp40
        · skip
          replace hn41 : (t_num (A 10) (I 11) (tk1 ((A 10)) ((I 11)) ((I 17))) (tk2 ((A 10)) ((I 11)) ((I 17))) 0 9) = -1 := hn41
          refine g_perm (w' := (wMod q Y (sU (sU I 16 (tk1 ((A 10)) ((I 11)) ((I 17)))) 17 (tk2 ((A 10)) ((I 11)) ((I 17)))) A F Dd)) (pm0' _) ?_
          refine g_st (st' := [.int (iI 0)]) rfl ?_
          refine g_if_ne C (n' := 38) 40 dX8_readsClause_35 (by decide) rfl (by unfold inR; omega) (fun c42 => ?_) (fun c42 => ?_)
          · skip
            exfalso
            omega
          · skip
            refine g_iconst C (n' := 39) dX8_readsClause_38 rfl ?_
            have hX : rcF (A 10) (I 11) (I 16) (I 17) J N = (0, (tk1 (A 10) (I 11) (I 17)), (tk2 (A 10) (I 11) (I 17)), J, N) := by
              unfold rcF
              rw [hwd]
              rw [if_neg (by decide), if_neg (by decide)]
              show (if (t_num (A 10) (I 11) (tk1 (A 10) (I 11) (I 17)) (tk2 (A 10) (I 11) (I 17)) 0 9) = -1 then _ else _) = _
              rw [if_pos hn41]
            refine g_iret C hr hlk (nar_z (by omega)) ⟨(sU (sU I 16 (tk1 ((A 10)) ((I 11)) ((I 17)))) 17 (tk2 ((A 10)) ((I 11)) ((I 17)))), A, rfl, by rw [hX], ?_⟩ dX8_readsClause_39
            rw [hX]
            exact ⟨⟨(sm_put (sm_put hsI (by omega)) (by omega)), hsA⟩, ⟨⟨rfl, rfl, rfl⟩, rfl, rfl, rfl, rfl, rfl, rfl, rfl, rfl, rfl, rfl, fun _ _ => rfl⟩, ⟨rfl, rfl⟩, ⟨rfl, rfl, h18, h19⟩, fun h21 => (hD.resolve_left (by omega)).2, fun _ => ⟨⟨rfl, rfl, rfl, rfl, rfl⟩, rfl, rfl, rfl⟩⟩
        · skip
          replace hn41 : (t_num (A 10) (I 11) (tk1 ((A 10)) ((I 11)) ((I 17))) (tk2 ((A 10)) ((I 11)) ((I 17))) 0 9) ≠ -1 ∧ 0 ≤ (t_num (A 10) (I 11) (tk1 ((A 10)) ((I 11)) ((I 17))) (tk2 ((A 10)) ((I 11)) ((I 17))) 0 9) ∧ (t_num (A 10) (I 11) (tk1 ((A 10)) ((I 11)) ((I 17))) (tk2 ((A 10)) ((I 11)) ((I 17))) 0 9) ≤ 9 := hn41
          have hthn41_0 := tk_n (L := (A 10)) (n := (I 11)) (e := (tk2 ((A 10)) ((I 11)) ((I 17)))) (by omega)
          refine g_perm (w' := (wMod q Y (sU (sU I 16 (tk1 (A 10) (I 11) (tk2 ((A 10)) ((I 11)) ((I 17))))) 17 (tk2 (A 10) (I 11) (tk2 ((A 10)) ((I 11)) ((I 17))))) (sU A 22 (sU (A 22) 0 (t_num (A 10) (I 11) (tk1 ((A 10)) ((I 11)) ((I 17))) (tk2 ((A 10)) ((I 11)) ((I 17))) 0 9))) F Dd)) (pm0' _) ?_
          refine g_st (st' := [.int (iI 1)]) rfl ?_
          refine g_if_ne C (n' := 38) 40 dX8_readsClause_35 (by decide) rfl (by unfold inR; omega) (fun c43 => ?_) (fun c43 => ?_)
          · skip
            refine g_aload_n C (n' := 41) 1 rfl dX8_readsClause_40 rfl rfl ?_
            refine g_iload_n C (n' := 42) 0 rfl dX8_readsClause_41 rfl rfl ?_
            refine g_if_ne C (n' := 45) 54 dX8_readsClause_42 (by decide) rfl (by unfold inR; omega) (fun c44 => ?_) (fun c44 => ?_)
            · skip
              refine g_aload_n C (n' := 55) 1 rfl dX8_readsClause_54 rfl rfl ?_
              refine g_get C (n' := 58) (Cn := RX8) (T := TX8) (N := 35) (ci := 6) (v := .int (iI (I 18))) ga_X8 0 rfl rfl 18 (by decide) kw_708 rfl rfl dX8_readsClause_55 rfl ?_
              have h_55 := hI 18
              refine g_put C (n' := 61) (Cn := RX8) (T := TX8) (N := 35) (ci := 6) (v := .int (iI (I 18))) ga_X8 0 rfl rfl 18 (by decide) kw_708 rfl tyX8 tyX8_ok nmX8 rfl rfl rfl rfl (Nat.le_of_ble_eq_true rfl) (wMod q Y (sU (sU (sU I 16 (tk1 (A 10) (I 11) (tk2 ((A 10)) ((I 11)) ((I 17))))) 17 (tk2 (A 10) (I 11) (tk2 ((A 10)) ((I 11)) ((I 17))))) 18 (I 18)) (sU A 22 (sU (A 22) 0 (t_num (A 10) (I 11) (tk1 ((A 10)) ((I 11)) ((I 17))) (tk2 ((A 10)) ((I 11)) ((I 17))) 0 9))) F Dd) rfl dX8_readsClause_58 rfl ?_
              refine g_aload_n C (n' := 62) 1 rfl dX8_readsClause_61 rfl rfl ?_
              refine g_iload_n C (n' := 63) 0 rfl dX8_readsClause_62 rfl rfl ?_
              refine g_if_ne C (n' := 66) 70 dX8_readsClause_63 (by decide) rfl (by unfold inR; omega) (fun c45 => ?_) (fun c45 => ?_)
              · skip
                refine g_iload_n C (n' := 71) 0 rfl dX8_readsClause_70 rfl rfl ?_
                refine g_iconst C (n' := 72) dX8_readsClause_71 rfl ?_
                refine g_icmp_ne C (n' := 75) 84 dX8_readsClause_72 (by decide) rfl (by unfold inR; omega) (by unfold inR; omega) (fun c46 => ?_) (fun c46 => ?_)
                · skip
                  refine g_aload_n C (n' := 85) 1 rfl dX8_readsClause_84 rfl rfl ?_
                  refine g_get C (n' := 88) (Cn := RX8) (T := TX8) (N := 35) (ci := 6) (v := .int (iI (I 19))) ga_X8 0 rfl rfl 19 (by decide) kw_709 rfl rfl dX8_readsClause_85 rfl ?_
                  have h_85 := hI 19
                  refine g_put C (n' := 91) (Cn := RX8) (T := TX8) (N := 35) (ci := 6) (v := .int (iI (I 19))) ga_X8 0 rfl rfl 19 (by decide) kw_709 rfl tyX8 tyX8_ok nmX8 rfl rfl rfl rfl (Nat.le_of_ble_eq_true rfl) (wMod q Y (sU (sU (sU (sU I 16 (tk1 (A 10) (I 11) (tk2 ((A 10)) ((I 11)) ((I 17))))) 17 (tk2 (A 10) (I 11) (tk2 ((A 10)) ((I 11)) ((I 17))))) 18 (I 18)) 19 (I 19)) (sU A 22 (sU (A 22) 0 (t_num (A 10) (I 11) (tk1 ((A 10)) ((I 11)) ((I 17))) (tk2 ((A 10)) ((I 11)) ((I 17))) 0 9))) F Dd) rfl dX8_readsClause_88 rfl ?_
                  refine g_aload_n C (n' := 92) 1 rfl dX8_readsClause_91 rfl rfl ?_
                  refine g_get C (n' := 95) (Cn := RX8) (T := TX8) (N := 35) (ci := 6) (v := .int (iI (I 21))) ga_X8 0 rfl rfl 21 (by decide) kw_711 rfl rfl dX8_readsClause_92 rfl ?_
                  have h_92 := hI 21
                  refine g_if_eq C (n' := 98) 103 dX8_readsClause_95 (by decide) rfl (by unfold inR; omega) (fun c47 => ?_) (fun c47 => ?_)
                  · skip
                    refine g_iconst C (n' := 104) dX8_readsClause_103 rfl ?_
                    have hX : rcF (A 10) (I 11) (I 16) (I 17) J N = (1, (tk1 (A 10) (I 11) (tk2 (A 10) (I 11) (I 17))), (tk2 (A 10) (I 11) (tk2 (A 10) (I 11) (I 17))), (n_tell 3 (t_num (A 10) (I 11) (tk1 (A 10) (I 11) (I 17)) (tk2 (A 10) (I 11) (I 17)) 0 9) J), N) := by
                      unfold rcF
                      rw [hwd]
                      rw [if_neg (by decide), if_neg (by decide)]
                      show (if (t_num (A 10) (I 11) (tk1 (A 10) (I 11) (I 17)) (tk2 (A 10) (I 11) (I 17)) 0 9) = -1 then _ else _) = _
                      rw [if_neg hn41.1]
                      rfl
                    refine g_iret C hr hlk (nar_z (by omega)) ⟨(sU (sU (sU (sU I 16 (tk1 (A 10) (I 11) (tk2 ((A 10)) ((I 11)) ((I 17))))) 17 (tk2 (A 10) (I 11) (tk2 ((A 10)) ((I 11)) ((I 17))))) 18 (I 18)) 19 (I 19)), (sU A 22 (sU (A 22) 0 (t_num (A 10) (I 11) (tk1 ((A 10)) ((I 11)) ((I 17))) (tk2 ((A 10)) ((I 11)) ((I 17))) 0 9))), rfl, by rw [hX], ?_⟩ dX8_readsClause_104
                    rw [hX]
                    exact ⟨⟨(sm_put (sm_put (sm_put (sm_put hsI (by omega)) (by omega)) (by omega)) (by omega)), (sm_putA hsA (sm_putR (hsA 22) (by omega)))⟩, ⟨⟨rfl, rfl, rfl⟩, rfl, rfl, rfl, rfl, rfl, rfl, rfl, rfl, rfl, rfl, fun _ _ => rfl⟩, ⟨rfl, rfl⟩, ⟨rfl, rfl, h18, h19⟩, fun h21 => absurd h21 (by omega), fun _ => ⟨⟨rfl, rfl, rfl, rfl, rfl⟩, rfl, rfl, rfl⟩⟩
                  · skip
                    refine g_aload_n C (n' := 99) 1 rfl dX8_readsClause_98 rfl rfl ?_
                    refine g_iload_n C (n' := 100) 0 rfl dX8_readsClause_99 rfl rfl ?_
                    refine g_cVn C (n' := 103) (c_X8_does_3 l D Y C.2.2.2.2.2.2.2.2.1 q (sU (sU (sU (sU I 16 (tk1 (A 10) (I 11) (tk2 ((A 10)) ((I 11)) ((I 17))))) 17 (tk2 (A 10) (I 11) (tk2 ((A 10)) ((I 11)) ((I 17))))) 18 (I 18)) 19 (I 19)) (sU A 22 (sU (A 22) 0 (t_num (A 10) (I 11) (tk1 ((A 10)) ((I 11)) ((I 17))) (tk2 ((A 10)) ((I 11)) ((I 17))) 0 9))) F Dd (sm_put (sm_put (sm_put (sm_put hsI (by omega)) (by omega)) (by omega)) (by omega)) (sm_putA hsA (sm_putR (hsA 22) (by omega)))) 1 kw_851 kc_X8_does (by decide +kernel) (pm0 _) 0 (ci := 6) rfl rfl rfl rfl ⟨Nat.le_of_ble_eq_true rfl, Nat.le_of_ble_eq_true rfl⟩ ⟨rfl, rfl⟩ ⟨Nat.le_of_ble_eq_true rfl, Nat.le_of_ble_eq_true rfl⟩ (Nat.le_of_ble_eq_true rfl) dX8_readsClause_100 rfl rfl (wMod q Y (sU (sU (sU (sU (sU I 16 (tk1 (A 10) (I 11) (tk2 ((A 10)) ((I 11)) ((I 17))))) 17 (tk2 (A 10) (I 11) (tk2 ((A 10)) ((I 11)) ((I 17))))) 18 (I 18)) 19 (I 19)) 6 ((t_num (A 10) (I 11) (tk1 ((A 10)) ((I 11)) ((I 17))) (tk2 ((A 10)) ((I 11)) ((I 17))) 0 9))) (sU A 22 (sU (A 22) 0 (t_num (A 10) (I 11) (tk1 ((A 10)) ((I 11)) ((I 17))) (tk2 ((A 10)) ((I 11)) ((I 17))) 0 9))) F Dd) (pm0' _) ?_
                    refine g_iconst C (n' := 104) dX8_readsClause_103 rfl ?_
                    have hX : rcF (A 10) (I 11) (I 16) (I 17) J N = (1, (tk1 (A 10) (I 11) (tk2 (A 10) (I 11) (I 17))), (tk2 (A 10) (I 11) (tk2 (A 10) (I 11) (I 17))), (n_tell 3 (t_num (A 10) (I 11) (tk1 (A 10) (I 11) (I 17)) (tk2 (A 10) (I 11) (I 17)) 0 9) J), N) := by
                      unfold rcF
                      rw [hwd]
                      rw [if_neg (by decide), if_neg (by decide)]
                      show (if (t_num (A 10) (I 11) (tk1 (A 10) (I 11) (I 17)) (tk2 (A 10) (I 11) (I 17)) 0 9) = -1 then _ else _) = _
                      rw [if_neg hn41.1]
                      rfl
                    refine g_iret C hr hlk (nar_z (by omega)) ⟨(sU (sU (sU (sU (sU I 16 (tk1 (A 10) (I 11) (tk2 ((A 10)) ((I 11)) ((I 17))))) 17 (tk2 (A 10) (I 11) (tk2 ((A 10)) ((I 11)) ((I 17))))) 18 (I 18)) 19 (I 19)) 6 ((t_num (A 10) (I 11) (tk1 ((A 10)) ((I 11)) ((I 17))) (tk2 ((A 10)) ((I 11)) ((I 17))) 0 9))), (sU A 22 (sU (A 22) 0 (t_num (A 10) (I 11) (tk1 ((A 10)) ((I 11)) ((I 17))) (tk2 ((A 10)) ((I 11)) ((I 17))) 0 9))), rfl, by rw [hX], ?_⟩ dX8_readsClause_104
                    rw [hX]
                    exact ⟨⟨(sm_put (sm_put (sm_put (sm_put (sm_put hsI (by omega)) (by omega)) (by omega)) (by omega)) (by omega)), (sm_putA hsA (sm_putR (hsA 22) (by omega)))⟩, ⟨⟨rfl, rfl, rfl⟩, rfl, rfl, rfl, rfl, rfl, rfl, rfl, rfl, rfl, rfl, fun _ _ => rfl⟩, ⟨rfl, rfl⟩, ⟨rfl, rfl, h18, h19⟩, fun _ => mNv_2 (hD.resolve_left (by omega)).2 _, fun h21 => absurd h21 (by omega)⟩
                · skip
                  exfalso
                  omega
              · skip
                exfalso
                omega
            · skip
              exfalso
              omega
          · skip
            exfalso
            omega
      · skip
        exfalso
        omega
  · skip
    rw [hwd]
    refine g_istore_n C (n' := 5) [(1, .int (iI 4)), (0, .ref (q 99))] dX8_readsClause_4 rfl rfl (by decide) rfl ?_
    refine g_iload_n C (n' := 6) 0 rfl dX8_readsClause_5 rfl rfl ?_
    refine g_iconst C (n' := 7) dX8_readsClause_6 rfl ?_
    refine g_icmp_eq C (n' := 10) 24 dX8_readsClause_7 (by decide) rfl (by unfold inR; omega) (by unfold inR; omega) (fun c48 => ?_) (fun c48 => ?_)
    · skip
      exfalso
      omega
    · skip
      refine g_iload_n C (n' := 11) 0 rfl dX8_readsClause_10 rfl rfl ?_
      refine g_iconst C (n' := 12) dX8_readsClause_11 rfl ?_
      refine g_icmp_ne C (n' := 15) 26 dX8_readsClause_12 (by decide) rfl (by unfold inR; omega) (by unfold inR; omega) (fun c49 => ?_) (fun c49 => ?_)
      · skip
        refine g_aload_n C (n' := 27) 1 rfl dX8_readsClause_26 rfl rfl ?_
        refine g_cVn C (n' := 30) (c_X8_nextToken l D Y C.2.2.2.2.2.2.2.2.1 q I A F Dd hsI hsA (by unfold mtok; omega)) 0 kw_817 kc_X8_nextToken (by decide +kernel) (pm0 _) 0 (ci := 6) rfl rfl rfl rfl ⟨Nat.le_of_ble_eq_true rfl, Nat.le_of_ble_eq_true rfl⟩ ⟨rfl, rfl⟩ ⟨Nat.le_of_ble_eq_true rfl, Nat.le_of_ble_eq_true rfl⟩ (Nat.le_of_ble_eq_true rfl) dX8_readsClause_27 rfl rfl (wMod q Y (sU (sU I 16 (tk1 ((A 10)) ((I 11)) ((I 17)))) 17 (tk2 ((A 10)) ((I 11)) ((I 17)))) A F Dd) (pm0' _) ?_
        refine g_aload_n C (n' := 31) 1 rfl dX8_readsClause_30 rfl rfl ?_
        refine g_iload_n C (n' := 32) 0 rfl dX8_readsClause_31 rfl rfl ?_
        refine g_callV C (n' := 35) (c_X8_readsNumbers_4 l D Y C.2.2.2.2.2.2.2.2.1 q (sU (sU I 16 (tk1 ((A 10)) ((I 11)) ((I 17)))) 17 (tk2 ((A 10)) ((I 11)) ((I 17)))) A F Dd (sm_put (sm_put hsI (by omega)) (by omega)) hsA (by show mtk _; unfold mtk; show 0 ≤ tk1 (A 10) (I 11) (I 17) ∧ tk1 (A 10) (I 11) (I 17) ≤ tk2 (A 10) (I 11) (I 17) ∧ tk2 (A 10) (I 11) (I 17) ≤ I 11 ∧ I 11 ≤ 200; omega)) 1 kw_843 kc_X8_readsNumbers (by decide +kernel) (pm0 _) 0 (ci := 6) rfl rfl rfl rfl ⟨Nat.le_of_ble_eq_true rfl, Nat.le_of_ble_eq_true rfl⟩ ⟨rfl, rfl⟩ ⟨Nat.le_of_ble_eq_true rfl, Nat.le_of_ble_eq_true rfl⟩ (Nat.le_of_ble_eq_true rfl) dX8_readsClause_32 rfl (fun r9 w9 hp50 => ?_)
        obtain (⟨hn51, rfl, rfl⟩ | ⟨hn51, rfl, rfl⟩) := hp50
        · skip
          replace hn51 : (t_num (A 10) (I 11) (tk1 ((A 10)) ((I 11)) ((I 17))) (tk2 ((A 10)) ((I 11)) ((I 17))) 1 9) = -1 := hn51
          refine g_perm (w' := (wMod q Y (sU (sU I 16 (tk1 ((A 10)) ((I 11)) ((I 17)))) 17 (tk2 ((A 10)) ((I 11)) ((I 17)))) A F Dd)) (pm0' _) ?_
          refine g_st (st' := [.int (iI 0)]) rfl ?_
          refine g_if_ne C (n' := 38) 40 dX8_readsClause_35 (by decide) rfl (by unfold inR; omega) (fun c52 => ?_) (fun c52 => ?_)
          · skip
            exfalso
            omega
          · skip
            refine g_iconst C (n' := 39) dX8_readsClause_38 rfl ?_
            have hX : rcF (A 10) (I 11) (I 16) (I 17) J N = (0, (tk1 (A 10) (I 11) (I 17)), (tk2 (A 10) (I 11) (I 17)), J, N) := by
              unfold rcF
              rw [hwd]
              rw [if_neg (by decide), if_neg (by decide)]
              show (if (t_num (A 10) (I 11) (tk1 (A 10) (I 11) (I 17)) (tk2 (A 10) (I 11) (I 17)) 1 9) = -1 then _ else _) = _
              rw [if_pos hn51]
            refine g_iret C hr hlk (nar_z (by omega)) ⟨(sU (sU I 16 (tk1 ((A 10)) ((I 11)) ((I 17)))) 17 (tk2 ((A 10)) ((I 11)) ((I 17)))), A, rfl, by rw [hX], ?_⟩ dX8_readsClause_39
            rw [hX]
            exact ⟨⟨(sm_put (sm_put hsI (by omega)) (by omega)), hsA⟩, ⟨⟨rfl, rfl, rfl⟩, rfl, rfl, rfl, rfl, rfl, rfl, rfl, rfl, rfl, rfl, fun _ _ => rfl⟩, ⟨rfl, rfl⟩, ⟨rfl, rfl, h18, h19⟩, fun h21 => (hD.resolve_left (by omega)).2, fun _ => ⟨⟨rfl, rfl, rfl, rfl, rfl⟩, rfl, rfl, rfl⟩⟩
        · skip
          replace hn51 : (t_num (A 10) (I 11) (tk1 ((A 10)) ((I 11)) ((I 17))) (tk2 ((A 10)) ((I 11)) ((I 17))) 1 9) ≠ -1 ∧ 1 ≤ (t_num (A 10) (I 11) (tk1 ((A 10)) ((I 11)) ((I 17))) (tk2 ((A 10)) ((I 11)) ((I 17))) 1 9) ∧ (t_num (A 10) (I 11) (tk1 ((A 10)) ((I 11)) ((I 17))) (tk2 ((A 10)) ((I 11)) ((I 17))) 1 9) ≤ 9 := hn51
          have hthn51_0 := tk_n (L := (A 10)) (n := (I 11)) (e := (tk2 ((A 10)) ((I 11)) ((I 17)))) (by omega)
          refine g_perm (w' := (wMod q Y (sU (sU I 16 (tk1 (A 10) (I 11) (tk2 ((A 10)) ((I 11)) ((I 17))))) 17 (tk2 (A 10) (I 11) (tk2 ((A 10)) ((I 11)) ((I 17))))) (sU A 22 (sU (A 22) 0 (t_num (A 10) (I 11) (tk1 ((A 10)) ((I 11)) ((I 17))) (tk2 ((A 10)) ((I 11)) ((I 17))) 1 9))) F Dd)) (pm0' _) ?_
          refine g_st (st' := [.int (iI 1)]) rfl ?_
          refine g_if_ne C (n' := 38) 40 dX8_readsClause_35 (by decide) rfl (by unfold inR; omega) (fun c53 => ?_) (fun c53 => ?_)
          · skip
            refine g_aload_n C (n' := 41) 1 rfl dX8_readsClause_40 rfl rfl ?_
            refine g_iload_n C (n' := 42) 0 rfl dX8_readsClause_41 rfl rfl ?_
            refine g_if_ne C (n' := 45) 54 dX8_readsClause_42 (by decide) rfl (by unfold inR; omega) (fun c54 => ?_) (fun c54 => ?_)
            · skip
              refine g_aload_n C (n' := 55) 1 rfl dX8_readsClause_54 rfl rfl ?_
              refine g_get C (n' := 58) (Cn := RX8) (T := TX8) (N := 35) (ci := 6) (v := .int (iI (I 18))) ga_X8 0 rfl rfl 18 (by decide) kw_708 rfl rfl dX8_readsClause_55 rfl ?_
              have h_55 := hI 18
              refine g_put C (n' := 61) (Cn := RX8) (T := TX8) (N := 35) (ci := 6) (v := .int (iI (I 18))) ga_X8 0 rfl rfl 18 (by decide) kw_708 rfl tyX8 tyX8_ok nmX8 rfl rfl rfl rfl (Nat.le_of_ble_eq_true rfl) (wMod q Y (sU (sU (sU I 16 (tk1 (A 10) (I 11) (tk2 ((A 10)) ((I 11)) ((I 17))))) 17 (tk2 (A 10) (I 11) (tk2 ((A 10)) ((I 11)) ((I 17))))) 18 (I 18)) (sU A 22 (sU (A 22) 0 (t_num (A 10) (I 11) (tk1 ((A 10)) ((I 11)) ((I 17))) (tk2 ((A 10)) ((I 11)) ((I 17))) 1 9))) F Dd) rfl dX8_readsClause_58 rfl ?_
              refine g_aload_n C (n' := 62) 1 rfl dX8_readsClause_61 rfl rfl ?_
              refine g_iload_n C (n' := 63) 0 rfl dX8_readsClause_62 rfl rfl ?_
              refine g_if_ne C (n' := 66) 70 dX8_readsClause_63 (by decide) rfl (by unfold inR; omega) (fun c55 => ?_) (fun c55 => ?_)
              · skip
                refine g_iload_n C (n' := 71) 0 rfl dX8_readsClause_70 rfl rfl ?_
                refine g_iconst C (n' := 72) dX8_readsClause_71 rfl ?_
                refine g_icmp_ne C (n' := 75) 84 dX8_readsClause_72 (by decide) rfl (by unfold inR; omega) (by unfold inR; omega) (fun c56 => ?_) (fun c56 => ?_)
                · skip
                  refine g_aload_n C (n' := 85) 1 rfl dX8_readsClause_84 rfl rfl ?_
                  refine g_get C (n' := 88) (Cn := RX8) (T := TX8) (N := 35) (ci := 6) (v := .int (iI (I 19))) ga_X8 0 rfl rfl 19 (by decide) kw_709 rfl rfl dX8_readsClause_85 rfl ?_
                  have h_85 := hI 19
                  refine g_put C (n' := 91) (Cn := RX8) (T := TX8) (N := 35) (ci := 6) (v := .int (iI (I 19))) ga_X8 0 rfl rfl 19 (by decide) kw_709 rfl tyX8 tyX8_ok nmX8 rfl rfl rfl rfl (Nat.le_of_ble_eq_true rfl) (wMod q Y (sU (sU (sU (sU I 16 (tk1 (A 10) (I 11) (tk2 ((A 10)) ((I 11)) ((I 17))))) 17 (tk2 (A 10) (I 11) (tk2 ((A 10)) ((I 11)) ((I 17))))) 18 (I 18)) 19 (I 19)) (sU A 22 (sU (A 22) 0 (t_num (A 10) (I 11) (tk1 ((A 10)) ((I 11)) ((I 17))) (tk2 ((A 10)) ((I 11)) ((I 17))) 1 9))) F Dd) rfl dX8_readsClause_88 rfl ?_
                  refine g_aload_n C (n' := 92) 1 rfl dX8_readsClause_91 rfl rfl ?_
                  refine g_get C (n' := 95) (Cn := RX8) (T := TX8) (N := 35) (ci := 6) (v := .int (iI (I 21))) ga_X8 0 rfl rfl 21 (by decide) kw_711 rfl rfl dX8_readsClause_92 rfl ?_
                  have h_92 := hI 21
                  refine g_if_eq C (n' := 98) 103 dX8_readsClause_95 (by decide) rfl (by unfold inR; omega) (fun c57 => ?_) (fun c57 => ?_)
                  · skip
                    refine g_iconst C (n' := 104) dX8_readsClause_103 rfl ?_
                    have hX : rcF (A 10) (I 11) (I 16) (I 17) J N = (1, (tk1 (A 10) (I 11) (tk2 (A 10) (I 11) (I 17))), (tk2 (A 10) (I 11) (tk2 (A 10) (I 11) (I 17))), (n_tell 4 (t_num (A 10) (I 11) (tk1 (A 10) (I 11) (I 17)) (tk2 (A 10) (I 11) (I 17)) 1 9) J), N) := by
                      unfold rcF
                      rw [hwd]
                      rw [if_neg (by decide), if_neg (by decide)]
                      show (if (t_num (A 10) (I 11) (tk1 (A 10) (I 11) (I 17)) (tk2 (A 10) (I 11) (I 17)) 1 9) = -1 then _ else _) = _
                      rw [if_neg hn51.1]
                      rfl
                    refine g_iret C hr hlk (nar_z (by omega)) ⟨(sU (sU (sU (sU I 16 (tk1 (A 10) (I 11) (tk2 ((A 10)) ((I 11)) ((I 17))))) 17 (tk2 (A 10) (I 11) (tk2 ((A 10)) ((I 11)) ((I 17))))) 18 (I 18)) 19 (I 19)), (sU A 22 (sU (A 22) 0 (t_num (A 10) (I 11) (tk1 ((A 10)) ((I 11)) ((I 17))) (tk2 ((A 10)) ((I 11)) ((I 17))) 1 9))), rfl, by rw [hX], ?_⟩ dX8_readsClause_104
                    rw [hX]
                    exact ⟨⟨(sm_put (sm_put (sm_put (sm_put hsI (by omega)) (by omega)) (by omega)) (by omega)), (sm_putA hsA (sm_putR (hsA 22) (by omega)))⟩, ⟨⟨rfl, rfl, rfl⟩, rfl, rfl, rfl, rfl, rfl, rfl, rfl, rfl, rfl, rfl, fun _ _ => rfl⟩, ⟨rfl, rfl⟩, ⟨rfl, rfl, h18, h19⟩, fun h21 => absurd h21 (by omega), fun _ => ⟨⟨rfl, rfl, rfl, rfl, rfl⟩, rfl, rfl, rfl⟩⟩
                  · skip
                    refine g_aload_n C (n' := 99) 1 rfl dX8_readsClause_98 rfl rfl ?_
                    refine g_iload_n C (n' := 100) 0 rfl dX8_readsClause_99 rfl rfl ?_
                    refine g_cVn C (n' := 103) (c_X8_does_4 l D Y C.2.2.2.2.2.2.2.2.1 q (sU (sU (sU (sU I 16 (tk1 (A 10) (I 11) (tk2 ((A 10)) ((I 11)) ((I 17))))) 17 (tk2 (A 10) (I 11) (tk2 ((A 10)) ((I 11)) ((I 17))))) 18 (I 18)) 19 (I 19)) (sU A 22 (sU (A 22) 0 (t_num (A 10) (I 11) (tk1 ((A 10)) ((I 11)) ((I 17))) (tk2 ((A 10)) ((I 11)) ((I 17))) 1 9))) F Dd (sm_put (sm_put (sm_put (sm_put hsI (by omega)) (by omega)) (by omega)) (by omega)) (sm_putA hsA (sm_putR (hsA 22) (by omega)))) 1 kw_851 kc_X8_does (by decide +kernel) (pm0 _) 0 (ci := 6) rfl rfl rfl rfl ⟨Nat.le_of_ble_eq_true rfl, Nat.le_of_ble_eq_true rfl⟩ ⟨rfl, rfl⟩ ⟨Nat.le_of_ble_eq_true rfl, Nat.le_of_ble_eq_true rfl⟩ (Nat.le_of_ble_eq_true rfl) dX8_readsClause_100 rfl rfl (wMod q Y (sU (sU (sU (sU (sU I 16 (tk1 (A 10) (I 11) (tk2 ((A 10)) ((I 11)) ((I 17))))) 17 (tk2 (A 10) (I 11) (tk2 ((A 10)) ((I 11)) ((I 17))))) 18 (I 18)) 19 (I 19)) 7 ((t_num (A 10) (I 11) (tk1 ((A 10)) ((I 11)) ((I 17))) (tk2 ((A 10)) ((I 11)) ((I 17))) 1 9))) (sU A 22 (sU (A 22) 0 (t_num (A 10) (I 11) (tk1 ((A 10)) ((I 11)) ((I 17))) (tk2 ((A 10)) ((I 11)) ((I 17))) 1 9))) F Dd) (pm0' _) ?_
                    refine g_iconst C (n' := 104) dX8_readsClause_103 rfl ?_
                    have hX : rcF (A 10) (I 11) (I 16) (I 17) J N = (1, (tk1 (A 10) (I 11) (tk2 (A 10) (I 11) (I 17))), (tk2 (A 10) (I 11) (tk2 (A 10) (I 11) (I 17))), (n_tell 4 (t_num (A 10) (I 11) (tk1 (A 10) (I 11) (I 17)) (tk2 (A 10) (I 11) (I 17)) 1 9) J), N) := by
                      unfold rcF
                      rw [hwd]
                      rw [if_neg (by decide), if_neg (by decide)]
                      show (if (t_num (A 10) (I 11) (tk1 (A 10) (I 11) (I 17)) (tk2 (A 10) (I 11) (I 17)) 1 9) = -1 then _ else _) = _
                      rw [if_neg hn51.1]
                      rfl
                    refine g_iret C hr hlk (nar_z (by omega)) ⟨(sU (sU (sU (sU (sU I 16 (tk1 (A 10) (I 11) (tk2 ((A 10)) ((I 11)) ((I 17))))) 17 (tk2 (A 10) (I 11) (tk2 ((A 10)) ((I 11)) ((I 17))))) 18 (I 18)) 19 (I 19)) 7 ((t_num (A 10) (I 11) (tk1 ((A 10)) ((I 11)) ((I 17))) (tk2 ((A 10)) ((I 11)) ((I 17))) 1 9))), (sU A 22 (sU (A 22) 0 (t_num (A 10) (I 11) (tk1 ((A 10)) ((I 11)) ((I 17))) (tk2 ((A 10)) ((I 11)) ((I 17))) 1 9))), rfl, by rw [hX], ?_⟩ dX8_readsClause_104
                    rw [hX]
                    exact ⟨⟨(sm_put (sm_put (sm_put (sm_put (sm_put hsI (by omega)) (by omega)) (by omega)) (by omega)) (by omega)), (sm_putA hsA (sm_putR (hsA 22) (by omega)))⟩, ⟨⟨rfl, rfl, rfl⟩, rfl, rfl, rfl, rfl, rfl, rfl, rfl, rfl, rfl, rfl, fun _ _ => rfl⟩, ⟨rfl, rfl⟩, ⟨rfl, rfl, h18, h19⟩, fun _ => mNv_3 (hD.resolve_left (by omega)).2 _, fun h21 => absurd h21 (by omega)⟩
                · skip
                  exfalso
                  omega
              · skip
                exfalso
                omega
            · skip
              exfalso
              omega
          · skip
            exfalso
            omega
      · skip
        exfalso
        omega
  · skip
    rw [hwd]
    refine g_istore_n C (n' := 5) [(1, .int (iI 5)), (0, .ref (q 99))] dX8_readsClause_4 rfl rfl (by decide) rfl ?_
    refine g_iload_n C (n' := 6) 0 rfl dX8_readsClause_5 rfl rfl ?_
    refine g_iconst C (n' := 7) dX8_readsClause_6 rfl ?_
    refine g_icmp_eq C (n' := 10) 24 dX8_readsClause_7 (by decide) rfl (by unfold inR; omega) (by unfold inR; omega) (fun c58 => ?_) (fun c58 => ?_)
    · skip
      exfalso
      omega
    · skip
      refine g_iload_n C (n' := 11) 0 rfl dX8_readsClause_10 rfl rfl ?_
      refine g_iconst C (n' := 12) dX8_readsClause_11 rfl ?_
      refine g_icmp_ne C (n' := 15) 26 dX8_readsClause_12 (by decide) rfl (by unfold inR; omega) (by unfold inR; omega) (fun c59 => ?_) (fun c59 => ?_)
      · skip
        refine g_aload_n C (n' := 27) 1 rfl dX8_readsClause_26 rfl rfl ?_
        refine g_cVn C (n' := 30) (c_X8_nextToken l D Y C.2.2.2.2.2.2.2.2.1 q I A F Dd hsI hsA (by unfold mtok; omega)) 0 kw_817 kc_X8_nextToken (by decide +kernel) (pm0 _) 0 (ci := 6) rfl rfl rfl rfl ⟨Nat.le_of_ble_eq_true rfl, Nat.le_of_ble_eq_true rfl⟩ ⟨rfl, rfl⟩ ⟨Nat.le_of_ble_eq_true rfl, Nat.le_of_ble_eq_true rfl⟩ (Nat.le_of_ble_eq_true rfl) dX8_readsClause_27 rfl rfl (wMod q Y (sU (sU I 16 (tk1 ((A 10)) ((I 11)) ((I 17)))) 17 (tk2 ((A 10)) ((I 11)) ((I 17)))) A F Dd) (pm0' _) ?_
        refine g_aload_n C (n' := 31) 1 rfl dX8_readsClause_30 rfl rfl ?_
        refine g_iload_n C (n' := 32) 0 rfl dX8_readsClause_31 rfl rfl ?_
        refine g_callV C (n' := 35) (c_X8_readsNumbers_5 l D Y C.2.2.2.2.2.2.2.2.1 q (sU (sU I 16 (tk1 ((A 10)) ((I 11)) ((I 17)))) 17 (tk2 ((A 10)) ((I 11)) ((I 17)))) A F Dd (sm_put (sm_put hsI (by omega)) (by omega)) hsA (by show mtk _; unfold mtk; show 0 ≤ tk1 (A 10) (I 11) (I 17) ∧ tk1 (A 10) (I 11) (I 17) ≤ tk2 (A 10) (I 11) (I 17) ∧ tk2 (A 10) (I 11) (I 17) ≤ I 11 ∧ I 11 ≤ 200; omega)) 1 kw_843 kc_X8_readsNumbers (by decide +kernel) (pm0 _) 0 (ci := 6) rfl rfl rfl rfl ⟨Nat.le_of_ble_eq_true rfl, Nat.le_of_ble_eq_true rfl⟩ ⟨rfl, rfl⟩ ⟨Nat.le_of_ble_eq_true rfl, Nat.le_of_ble_eq_true rfl⟩ (Nat.le_of_ble_eq_true rfl) dX8_readsClause_32 rfl (fun r9 w9 hp60 => ?_)
        obtain (⟨hn61, rfl, rfl⟩ | ⟨hn61, rfl, rfl⟩) := hp60
        · skip
          replace hn61 : (t_num (A 10) (I 11) (tk1 ((A 10)) ((I 11)) ((I 17))) (tk2 ((A 10)) ((I 11)) ((I 17))) 0 999) = -1 := hn61
          refine g_perm (w' := (wMod q Y (sU (sU I 16 (tk1 ((A 10)) ((I 11)) ((I 17)))) 17 (tk2 ((A 10)) ((I 11)) ((I 17)))) A F Dd)) (pm0' _) ?_
          refine g_st (st' := [.int (iI 0)]) rfl ?_
          refine g_if_ne C (n' := 38) 40 dX8_readsClause_35 (by decide) rfl (by unfold inR; omega) (fun c62 => ?_) (fun c62 => ?_)
          · skip
            exfalso
            omega
          · skip
            refine g_iconst C (n' := 39) dX8_readsClause_38 rfl ?_
            have hX : rcF (A 10) (I 11) (I 16) (I 17) J N = (0, (tk1 (A 10) (I 11) (I 17)), (tk2 (A 10) (I 11) (I 17)), J, N) := by
              unfold rcF
              rw [hwd]
              rw [if_neg (by decide), if_neg (by decide)]
              show (if (t_num (A 10) (I 11) (tk1 (A 10) (I 11) (I 17)) (tk2 (A 10) (I 11) (I 17)) 0 999) = -1 then _ else _) = _
              rw [if_pos hn61]
            refine g_iret C hr hlk (nar_z (by omega)) ⟨(sU (sU I 16 (tk1 ((A 10)) ((I 11)) ((I 17)))) 17 (tk2 ((A 10)) ((I 11)) ((I 17)))), A, rfl, by rw [hX], ?_⟩ dX8_readsClause_39
            rw [hX]
            exact ⟨⟨(sm_put (sm_put hsI (by omega)) (by omega)), hsA⟩, ⟨⟨rfl, rfl, rfl⟩, rfl, rfl, rfl, rfl, rfl, rfl, rfl, rfl, rfl, rfl, fun _ _ => rfl⟩, ⟨rfl, rfl⟩, ⟨rfl, rfl, h18, h19⟩, fun h21 => (hD.resolve_left (by omega)).2, fun _ => ⟨⟨rfl, rfl, rfl, rfl, rfl⟩, rfl, rfl, rfl⟩⟩
        · skip
          replace hn61 : (t_num (A 10) (I 11) (tk1 ((A 10)) ((I 11)) ((I 17))) (tk2 ((A 10)) ((I 11)) ((I 17))) 0 999) ≠ -1 ∧ 0 ≤ (t_num (A 10) (I 11) (tk1 ((A 10)) ((I 11)) ((I 17))) (tk2 ((A 10)) ((I 11)) ((I 17))) 0 999) ∧ (t_num (A 10) (I 11) (tk1 ((A 10)) ((I 11)) ((I 17))) (tk2 ((A 10)) ((I 11)) ((I 17))) 0 999) ≤ 999 := hn61
          have hthn61_0 := tk_n (L := (A 10)) (n := (I 11)) (e := (tk2 ((A 10)) ((I 11)) ((I 17)))) (by omega)
          refine g_perm (w' := (wMod q Y (sU (sU I 16 (tk1 (A 10) (I 11) (tk2 ((A 10)) ((I 11)) ((I 17))))) 17 (tk2 (A 10) (I 11) (tk2 ((A 10)) ((I 11)) ((I 17))))) (sU A 22 (sU (A 22) 0 (t_num (A 10) (I 11) (tk1 ((A 10)) ((I 11)) ((I 17))) (tk2 ((A 10)) ((I 11)) ((I 17))) 0 999))) F Dd)) (pm0' _) ?_
          refine g_st (st' := [.int (iI 1)]) rfl ?_
          refine g_if_ne C (n' := 38) 40 dX8_readsClause_35 (by decide) rfl (by unfold inR; omega) (fun c63 => ?_) (fun c63 => ?_)
          · skip
            refine g_aload_n C (n' := 41) 1 rfl dX8_readsClause_40 rfl rfl ?_
            refine g_iload_n C (n' := 42) 0 rfl dX8_readsClause_41 rfl rfl ?_
            refine g_if_ne C (n' := 45) 54 dX8_readsClause_42 (by decide) rfl (by unfold inR; omega) (fun c64 => ?_) (fun c64 => ?_)
            · skip
              refine g_aload_n C (n' := 55) 1 rfl dX8_readsClause_54 rfl rfl ?_
              refine g_get C (n' := 58) (Cn := RX8) (T := TX8) (N := 35) (ci := 6) (v := .int (iI (I 18))) ga_X8 0 rfl rfl 18 (by decide) kw_708 rfl rfl dX8_readsClause_55 rfl ?_
              have h_55 := hI 18
              refine g_put C (n' := 61) (Cn := RX8) (T := TX8) (N := 35) (ci := 6) (v := .int (iI (I 18))) ga_X8 0 rfl rfl 18 (by decide) kw_708 rfl tyX8 tyX8_ok nmX8 rfl rfl rfl rfl (Nat.le_of_ble_eq_true rfl) (wMod q Y (sU (sU (sU I 16 (tk1 (A 10) (I 11) (tk2 ((A 10)) ((I 11)) ((I 17))))) 17 (tk2 (A 10) (I 11) (tk2 ((A 10)) ((I 11)) ((I 17))))) 18 (I 18)) (sU A 22 (sU (A 22) 0 (t_num (A 10) (I 11) (tk1 ((A 10)) ((I 11)) ((I 17))) (tk2 ((A 10)) ((I 11)) ((I 17))) 0 999))) F Dd) rfl dX8_readsClause_58 rfl ?_
              refine g_aload_n C (n' := 62) 1 rfl dX8_readsClause_61 rfl rfl ?_
              refine g_iload_n C (n' := 63) 0 rfl dX8_readsClause_62 rfl rfl ?_
              refine g_if_ne C (n' := 66) 70 dX8_readsClause_63 (by decide) rfl (by unfold inR; omega) (fun c65 => ?_) (fun c65 => ?_)
              · skip
                refine g_iload_n C (n' := 71) 0 rfl dX8_readsClause_70 rfl rfl ?_
                refine g_iconst C (n' := 72) dX8_readsClause_71 rfl ?_
                refine g_icmp_ne C (n' := 75) 84 dX8_readsClause_72 (by decide) rfl (by unfold inR; omega) (by unfold inR; omega) (fun c66 => ?_) (fun c66 => ?_)
                · skip
                  refine g_aload_n C (n' := 85) 1 rfl dX8_readsClause_84 rfl rfl ?_
                  refine g_get C (n' := 88) (Cn := RX8) (T := TX8) (N := 35) (ci := 6) (v := .int (iI (I 19))) ga_X8 0 rfl rfl 19 (by decide) kw_709 rfl rfl dX8_readsClause_85 rfl ?_
                  have h_85 := hI 19
                  refine g_put C (n' := 91) (Cn := RX8) (T := TX8) (N := 35) (ci := 6) (v := .int (iI (I 19))) ga_X8 0 rfl rfl 19 (by decide) kw_709 rfl tyX8 tyX8_ok nmX8 rfl rfl rfl rfl (Nat.le_of_ble_eq_true rfl) (wMod q Y (sU (sU (sU (sU I 16 (tk1 (A 10) (I 11) (tk2 ((A 10)) ((I 11)) ((I 17))))) 17 (tk2 (A 10) (I 11) (tk2 ((A 10)) ((I 11)) ((I 17))))) 18 (I 18)) 19 (I 19)) (sU A 22 (sU (A 22) 0 (t_num (A 10) (I 11) (tk1 ((A 10)) ((I 11)) ((I 17))) (tk2 ((A 10)) ((I 11)) ((I 17))) 0 999))) F Dd) rfl dX8_readsClause_88 rfl ?_
                  refine g_aload_n C (n' := 92) 1 rfl dX8_readsClause_91 rfl rfl ?_
                  refine g_get C (n' := 95) (Cn := RX8) (T := TX8) (N := 35) (ci := 6) (v := .int (iI (I 21))) ga_X8 0 rfl rfl 21 (by decide) kw_711 rfl rfl dX8_readsClause_92 rfl ?_
                  have h_92 := hI 21
                  refine g_if_eq C (n' := 98) 103 dX8_readsClause_95 (by decide) rfl (by unfold inR; omega) (fun c67 => ?_) (fun c67 => ?_)
                  · skip
                    refine g_iconst C (n' := 104) dX8_readsClause_103 rfl ?_
                    have hX : rcF (A 10) (I 11) (I 16) (I 17) J N = (1, (tk1 (A 10) (I 11) (tk2 (A 10) (I 11) (I 17))), (tk2 (A 10) (I 11) (tk2 (A 10) (I 11) (I 17))), (n_tell 5 (t_num (A 10) (I 11) (tk1 (A 10) (I 11) (I 17)) (tk2 (A 10) (I 11) (I 17)) 0 999) J), N) := by
                      unfold rcF
                      rw [hwd]
                      rw [if_neg (by decide), if_neg (by decide)]
                      show (if (t_num (A 10) (I 11) (tk1 (A 10) (I 11) (I 17)) (tk2 (A 10) (I 11) (I 17)) 0 999) = -1 then _ else _) = _
                      rw [if_neg hn61.1]
                      rfl
                    refine g_iret C hr hlk (nar_z (by omega)) ⟨(sU (sU (sU (sU I 16 (tk1 (A 10) (I 11) (tk2 ((A 10)) ((I 11)) ((I 17))))) 17 (tk2 (A 10) (I 11) (tk2 ((A 10)) ((I 11)) ((I 17))))) 18 (I 18)) 19 (I 19)), (sU A 22 (sU (A 22) 0 (t_num (A 10) (I 11) (tk1 ((A 10)) ((I 11)) ((I 17))) (tk2 ((A 10)) ((I 11)) ((I 17))) 0 999))), rfl, by rw [hX], ?_⟩ dX8_readsClause_104
                    rw [hX]
                    exact ⟨⟨(sm_put (sm_put (sm_put (sm_put hsI (by omega)) (by omega)) (by omega)) (by omega)), (sm_putA hsA (sm_putR (hsA 22) (by omega)))⟩, ⟨⟨rfl, rfl, rfl⟩, rfl, rfl, rfl, rfl, rfl, rfl, rfl, rfl, rfl, rfl, fun _ _ => rfl⟩, ⟨rfl, rfl⟩, ⟨rfl, rfl, h18, h19⟩, fun h21 => absurd h21 (by omega), fun _ => ⟨⟨rfl, rfl, rfl, rfl, rfl⟩, rfl, rfl, rfl⟩⟩
                  · skip
                    refine g_aload_n C (n' := 99) 1 rfl dX8_readsClause_98 rfl rfl ?_
                    refine g_iload_n C (n' := 100) 0 rfl dX8_readsClause_99 rfl rfl ?_
                    refine g_cVn C (n' := 103) (c_X8_does_5 l D Y C.2.2.2.2.2.2.2.2.1 q (sU (sU (sU (sU I 16 (tk1 (A 10) (I 11) (tk2 ((A 10)) ((I 11)) ((I 17))))) 17 (tk2 (A 10) (I 11) (tk2 ((A 10)) ((I 11)) ((I 17))))) 18 (I 18)) 19 (I 19)) (sU A 22 (sU (A 22) 0 (t_num (A 10) (I 11) (tk1 ((A 10)) ((I 11)) ((I 17))) (tk2 ((A 10)) ((I 11)) ((I 17))) 0 999))) F Dd (sm_put (sm_put (sm_put (sm_put hsI (by omega)) (by omega)) (by omega)) (by omega)) (sm_putA hsA (sm_putR (hsA 22) (by omega)))) 1 kw_851 kc_X8_does (by decide +kernel) (pm0 _) 0 (ci := 6) rfl rfl rfl rfl ⟨Nat.le_of_ble_eq_true rfl, Nat.le_of_ble_eq_true rfl⟩ ⟨rfl, rfl⟩ ⟨Nat.le_of_ble_eq_true rfl, Nat.le_of_ble_eq_true rfl⟩ (Nat.le_of_ble_eq_true rfl) dX8_readsClause_100 rfl rfl (wMod q Y (sU (sU (sU (sU I 16 (tk1 (A 10) (I 11) (tk2 ((A 10)) ((I 11)) ((I 17))))) 17 (tk2 (A 10) (I 11) (tk2 ((A 10)) ((I 11)) ((I 17))))) 18 (I 18)) 19 (I 19)) (sU (sU A 22 (sU (A 22) 0 (t_num (A 10) (I 11) (tk1 ((A 10)) ((I 11)) ((I 17))) (tk2 ((A 10)) ((I 11)) ((I 17))) 0 999))) 0 (sU ((A 0)) 0 ((t_num (A 10) (I 11) (tk1 ((A 10)) ((I 11)) ((I 17))) (tk2 ((A 10)) ((I 11)) ((I 17))) 0 999)))) F Dd) (pm0' _) ?_
                    refine g_iconst C (n' := 104) dX8_readsClause_103 rfl ?_
                    have hX : rcF (A 10) (I 11) (I 16) (I 17) J N = (1, (tk1 (A 10) (I 11) (tk2 (A 10) (I 11) (I 17))), (tk2 (A 10) (I 11) (tk2 (A 10) (I 11) (I 17))), (n_tell 5 (t_num (A 10) (I 11) (tk1 (A 10) (I 11) (I 17)) (tk2 (A 10) (I 11) (I 17)) 0 999) J), N) := by
                      unfold rcF
                      rw [hwd]
                      rw [if_neg (by decide), if_neg (by decide)]
                      show (if (t_num (A 10) (I 11) (tk1 (A 10) (I 11) (I 17)) (tk2 (A 10) (I 11) (I 17)) 0 999) = -1 then _ else _) = _
                      rw [if_neg hn61.1]
                      rfl
                    refine g_iret C hr hlk (nar_z (by omega)) ⟨(sU (sU (sU (sU I 16 (tk1 (A 10) (I 11) (tk2 ((A 10)) ((I 11)) ((I 17))))) 17 (tk2 (A 10) (I 11) (tk2 ((A 10)) ((I 11)) ((I 17))))) 18 (I 18)) 19 (I 19)), (sU (sU A 22 (sU (A 22) 0 (t_num (A 10) (I 11) (tk1 ((A 10)) ((I 11)) ((I 17))) (tk2 ((A 10)) ((I 11)) ((I 17))) 0 999))) 0 (sU ((A 0)) 0 ((t_num (A 10) (I 11) (tk1 ((A 10)) ((I 11)) ((I 17))) (tk2 ((A 10)) ((I 11)) ((I 17))) 0 999)))), rfl, by rw [hX], ?_⟩ dX8_readsClause_104
                    rw [hX]
                    exact ⟨⟨(sm_put (sm_put (sm_put (sm_put hsI (by omega)) (by omega)) (by omega)) (by omega)), (sm_putA (sm_putA hsA (sm_putR (hsA 22) (by omega))) (sm_putR (hsA 0) (by omega)))⟩, ⟨⟨rfl, rfl, rfl⟩, rfl, rfl, rfl, rfl, rfl, rfl, rfl, rfl, rfl, rfl, fun k hk => sU_n _ _ (by omega)⟩, ⟨rfl, rfl⟩, ⟨rfl, rfl, h18, h19⟩, fun _ => mNv_4 (hD.resolve_left (by omega)).2 _, fun h21 => absurd h21 (by omega)⟩
                · skip
                  exfalso
                  omega
              · skip
                exfalso
                omega
            · skip
              exfalso
              omega
          · skip
            exfalso
            omega
      · skip
        exfalso
        omega
