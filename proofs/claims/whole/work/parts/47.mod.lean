/-! the reference: fault, net -/
theorem mNv_c {J : Nat → Int} {N : Nat → Nat → Int} {i1 i2 i5 i6 i7 : Int} {a0 b0 a3 a4 : Nat → Int} (h : mNv J N i1 i2 i5 i6 i7 a0 a3 a4) (h2 : i2 ≤ 16) (e : ∀ k, k < 33 → b0 k = a0 k) : mNv J N i1 i2 i5 i6 i7 b0 a3 a4 := by
  obtain ⟨k0, k1, k2, k3, k4, k5, k6⟩ := h
  refine ⟨k0, k1, k2, k3, k4.trans (e 0 (by omega)).symm, k5, fun p hp => ?_⟩
  have k := k6 p hp
  exact ⟨k.1, k.2.1, k.2.2.1.trans (e _ (by omega)).symm, k.2.2.2.trans (e _ (by omega)).symm⟩
/-- the net as it was told -/
def mTold (J : Nat → Int) (N : Nat → Nat → Int) (I : Nat → Int) (A : Nat → Nat → Int) : Prop := mNv J N (I 1) (I 2) (I 5) (I 6) (I 7) (fun k => A 0 (363 + k)) (A 3) (A 4)
def ntP (J : Nat → Int) (N : Nat → Nat → Int) (I1 : Nat → Int) (A1 : Nat → Nat → Int) : Prop := (smI I1 ∧ smA A1) ∧ mNet J N I1 A1 ∧ (∀ k, k < 33 → A1 0 (363 + k) = A1 0 k) ∧ (I1 11 = 0 ∧ I1 8 = 0) ∧ (A1 9 0 = 0 ∧ A1 9 1 = 0) ∧ (A1 13 0 = -1 ∧ A1 13 1 = -1 ∧ A1 13 2 = -1)
set_option maxRecDepth 100000 in
set_option maxHeartbeats 4000000 in
theorem c_X8_fault (l : Launch) (D : va_G) (Y : Nat → ClassId) {E : (Nat → Prop) → State → Heap → Prop} (hE : g_Stab E) (q : Nat → Nat) (I : Nat → Int) (A : Nat → Nat → Int) (F : Nat → UInt32) (Dd : Nat → UInt64) (J : Nat → Int) (N : Nat → Nat → Int) (hsI : smI I) (hsA : smA A) (hw : mwOK A) (h11 : 0 ≤ I 11 ∧ I 11 ≤ 200) (hO : okN J N) (hJ : J 0 = I 1 ∧ J 5 = I 2) : g_Ct l yX8_fault cX8_fault 1 (some FieldType.int) ({ frames := 7, cells := 0, slots := 0, locals := 154 } : Room) D (tysY Y) E [.ref (q 99)] (wMod q Y I A F Dd) 0 0 (fun r9 w9 => ∃ (I1 : Nat → Int) (A1 : Nat → Nat → Int), w9 = wMod q Y I1 A1 F Dd ∧ r9 = some (.int (iI (if (rdA (A 10) (I 11) J N).1 = 0 then (rdA (A 10) (I 11) J N).2.1 else -1))) ∧ rdP 0 I A I1 A1 (rdA (A 10) (I 11) J N)) := by
  refine g_ofG (own := RX8) hE (by decide) rfl (Nat.le_of_ble_eq_true rfl) [(0, .ref (q 99))] rfl ?_
  intro p9 e9 s9 m9 b9 t9 c9 A9 C hr hlk hnm
  have hI := hsI
  have hA := hsA
  unfold smI at hI
  unfold smA at hA
  refine g_aload_n C (n' := 1) 0 rfl dX8_fault_0 rfl rfl ?_
  refine g_iconst C (n' := 2) dX8_fault_1 rfl ?_
  refine g_callV C (n' := 5) (c_X8_reads l D Y C.2.2.2.2.2.2.2.2.1 q I A F Dd 0 J N hsI hsA hw h11 (Or.inl rfl) hO hJ (fun z => absurd z (by decide))) 1 kw_813 kc_X8_reads (by decide +kernel) (pm0 _) 0 (ci := 6) rfl rfl rfl rfl ⟨Nat.le_of_ble_eq_true rfl, Nat.le_of_ble_eq_true rfl⟩ ⟨rfl, rfl⟩ ⟨Nat.le_of_ble_eq_true rfl, Nat.le_of_ble_eq_true rfl⟩ (Nat.le_of_ble_eq_true rfl) dX8_fault_2 rfl (fun r9 w9 hp1 => ?_)
  obtain ⟨I2, A3, rfl, rfl, hPI2⟩ := hp1
  replace hPI2 : rdP 0 I A I2 A3 (rdA (A 10) (I 11) J N) := hPI2
  have hsI2 := hPI2.1.1
  have hsA3 := hPI2.1.2
  have hI2 := hsI2
  unfold smI at hI2
  have hA3 := hsA3
  unfold smA at hA3
  have hzI2 := rdA_01 (L := (A 10)) (n := (I 11)) (J := J) (N := N)
  refine g_perm (w' := (wMod q Y I2 A3 F Dd)) (pm0' _) ?_
  refine g_st (st' := [.int (iI ((rdA (A 10) (I 11) J N).1))]) rfl ?_
  refine g_if_eq C (n' := 8) 12 dX8_fault_5 (by decide) rfl (by unfold inR; omega) (fun c4 => ?_) (fun c4 => ?_)
  · skip
    refine g_aload_n C (n' := 13) 0 rfl dX8_fault_12 rfl rfl ?_
    refine g_get C (n' := 16) (Cn := RX8) (T := TX8) (N := 35) (ci := 6) (v := .int (iI (I2 16))) ga_X8 0 rfl rfl 16 (by decide) kw_706 rfl rfl dX8_fault_13 rfl ?_
    have h_13 := hI2 16
    exact g_iret C hr hlk rfl ⟨I2, A3, rfl, by rw [if_pos c4, hPI2.2.2.1.1], hPI2⟩ dX8_fault_16
  · skip
    refine g_iconst C (n' := 9) dX8_fault_8 rfl ?_
    refine g_goto C 16 dX8_fault_9 (by decide) ?_
    exact g_iret C hr hlk rfl ⟨I2, A3, rfl, by rw [if_neg c4], hPI2⟩ dX8_fault_16
theorem rdG_ok {L : Nat → Int} {n : Int} : ∀ (f : Nat) (c : Int) (X : Int × Int × Int × (Nat → Int) × (Nat → Nat → Int)), okN X.2.2.2.1 X.2.2.2.2 → okN (rdG L n f c X).2.2.2.1 (rdG L n f c X).2.2.2.2
  | 0, c, X, h => h
  | f + 1, c, X, h => by
    rw [rdG]
    split
    · exact h
    · exact rdG_ok f _ _ (rcF_ok h)
theorem rdA_ok {L : Nat → Int} {n : Int} {J : Nat → Int} {N : Nat → Nat → Int} (h : okN J N) : okN (rdA L n J N).2.2.2.1 (rdA L n J N).2.2.2.2 := rdG_ok _ _ _ (rcF_ok h)
set_option maxRecDepth 100000 in
set_option maxHeartbeats 4000000 in
theorem c_X8_net (l : Launch) (D : va_G) (Y : Nat → ClassId) {E : (Nat → Prop) → State → Heap → Prop} (hE : g_Stab E) (q : Nat → Nat) (I : Nat → Int) (A : Nat → Nat → Int) (F : Nat → UInt32) (Dd : Nat → UInt64) (J : Nat → Int) (N : Nat → Nat → Int) (hsI : smI I) (hsA : smA A) (hw : mwOK A) (h11 : 0 ≤ I 11 ∧ I 11 ≤ 200) (hO : okN J N) (hTo : mTold J N I A) : g_Ct l yX8_net cX8_net 2 (some FieldType.int) ({ frames := 7, cells := 0, slots := 0, locals := 154 } : Room) D (tysY Y) E [.ref (q 99)] (wMod q Y I A F Dd) 0 0 (fun r9 w9 => ∃ (I1 : Nat → Int) (A1 : Nat → Nat → Int), w9 = wMod q Y I1 A1 F Dd ∧ (((rdA (A 10) (I 11) J N).1 = 0 ∧ r9 = some (.int (iI (-4))) ∧ rdP 0 I A I1 A1 (rdA (A 10) (I 11) J N)) ∨ ((rdA (A 10) (I 11) J N).1 = 1 ∧ r9 = some (.int (iI (rdA (A 10) (I 11) J N).2.2.1)) ∧ ntP (rdA (A 10) (I 11) J N).2.2.2.1 (rdA (A 10) (I 11) J N).2.2.2.2 I1 A1 ∧ mwOK A1 ∧ I1 34 = I 34 ∧ A1 12 = A 12 ∧ A1 10 = A 10 ∧ A1 9 = sU (sU (A 9) 0 0) 1 0 ∧ A1 13 = sU (sU (sU (A 13) 0 (-1)) 1 (-1)) 2 (-1)))) := by
  refine g_ofG (own := RX8) hE (by decide) rfl (Nat.le_of_ble_eq_true rfl) [(0, .ref (q 99))] rfl ?_
  intro p9 e9 s9 m9 b9 t9 c9 A9 C hr hlk hnm
  have hI := hsI
  have hA := hsA
  unfold smI at hI
  unfold smA at hA
  have hO9 := hO
  unfold okN at hO9
  have hTo2 := hTo.2.2.2.2.2.1
  refine g_aload_n C (n' := 1) 0 rfl dX8_net_0 rfl rfl ?_
  refine g_iconst C (n' := 2) dX8_net_1 rfl ?_
  refine g_callV C (n' := 5) (c_X8_reads l D Y C.2.2.2.2.2.2.2.2.1 q I A F Dd 0 J N hsI hsA hw h11 (Or.inl rfl) hO ⟨hTo.1, hTo.2.2.2.2.2.1⟩ (fun z => absurd z (by decide))) 1 kw_813 kc_X8_reads (by decide +kernel) (pm0 _) 0 (ci := 6) rfl rfl rfl rfl ⟨Nat.le_of_ble_eq_true rfl, Nat.le_of_ble_eq_true rfl⟩ ⟨rfl, rfl⟩ ⟨Nat.le_of_ble_eq_true rfl, Nat.le_of_ble_eq_true rfl⟩ (Nat.le_of_ble_eq_true rfl) dX8_net_2 rfl (fun r9 w9 hp1 => ?_)
  obtain ⟨I2, A3, rfl, rfl, hPI2⟩ := hp1
  replace hPI2 : rdP 0 I A I2 A3 (rdA (A 10) (I 11) J N) := hPI2
  have hsI2 := hPI2.1.1
  have hsA3 := hPI2.1.2
  have hI2 := hsI2
  unfold smI at hI2
  have hA3 := hsA3
  unfold smA at hA3
  have hzI2 := rdA_01 (L := (A 10)) (n := (I 11)) (J := J) (N := N)
  refine g_perm (w' := (wMod q Y I2 A3 F Dd)) (pm0' _) ?_
  refine g_st (st' := [.int (iI ((rdA (A 10) (I 11) J N).1))]) rfl ?_
  refine g_if_ne C (n' := 8) 11 dX8_net_5 (by decide) rfl (by unfold inR; omega) (fun c4 => ?_) (fun c4 => ?_)
  · skip
    refine g_aload_n C (n' := 12) 0 rfl dX8_net_11 rfl rfl ?_
    refine g_sipush C (n' := 15) (by decide) dX8_net_12 rfl ?_
    refine g_iconst C (n' := 16) dX8_net_15 rfl ?_
    refine g_cVn C (n' := 19) (c_X8_copyRow l D Y C.2.2.2.2.2.2.2.2.1 q I2 A3 F Dd 363 0 hsI2 hsA3 (by omega) (by omega) (by omega)) 2 kw_686 kc_X8_copyRow (by decide +kernel) (pm0 _) 0 (ci := 6) rfl rfl rfl rfl ⟨Nat.le_of_ble_eq_true rfl, Nat.le_of_ble_eq_true rfl⟩ ⟨rfl, rfl⟩ ⟨Nat.le_of_ble_eq_true rfl, Nat.le_of_ble_eq_true rfl⟩ (Nat.le_of_ble_eq_true rfl) dX8_net_16 rfl rfl (wMod q Y I2 (sU A3 0 (m_cp ((A3 0)) (Int.toNat 363) (Int.toNat 0) 33)) F Dd) (pm0' _) ?_
    obtain ⟨-, p3, p16, -, p8⟩ := hPI2
    have p8 := p8 rfl
    obtain ⟨⟨n1, n2, n5, n6, n7⟩, n0, n3, n4⟩ := p8
    have hw2 := frR_w p3 hw
    have e10 : A3 10 = A 10 := p3.2.2.1
    have e11 : I2 11 = I 11 := p3.1.2.1
    have hm3 : mNet J N I2 (sU A3 0 (m_cp ((A3 0)) (Int.toNat 363) (Int.toNat 0) 33)) := by
      unfold mNet
      show mNv J N (I2 1) (I2 2) (I2 5) (I2 6) (I2 7) (m_cp (A3 0) (Int.toNat 363) (Int.toNat 0) 33) (A3 3) (A3 4)
      rw [n1, n2, n5, n6, n7, n3, n4, n0]
      refine mNv_c hTo (by omega) (fun k hk => ?_)
      have := m_cp_in (f := A 0) (a := Int.toNat 363) (b := Int.toNat 0) (n := 33) hk
      rw [show Int.toNat 0 + k = k by omega] at this
      exact this
    refine g_aload_n C (n' := 20) 0 rfl dX8_net_19 rfl rfl ?_
    refine g_iconst C (n' := 21) dX8_net_20 rfl ?_
    refine g_callV C (n' := 24) (c_X8_reads l D Y C.2.2.2.2.2.2.2.2.1 q I2 (sU A3 0 (m_cp ((A3 0)) (Int.toNat 363) (Int.toNat 0) 33)) F Dd 1 J N hsI2 (sm_putA hsA3 (m_cp_r (hsA3 0) _ _ _)) hw2 (by show 0 ≤ I2 11 ∧ I2 11 ≤ 200; omega) (Or.inr rfl) hO ⟨hm3.1, hm3.2.2.2.2.2.1⟩ (fun _ => hm3)) 1 kw_813 kc_X8_reads (by decide +kernel) (pm0 _) 0 (ci := 6) rfl rfl rfl rfl ⟨Nat.le_of_ble_eq_true rfl, Nat.le_of_ble_eq_true rfl⟩ ⟨rfl, rfl⟩ ⟨Nat.le_of_ble_eq_true rfl, Nat.le_of_ble_eq_true rfl⟩ (Nat.le_of_ble_eq_true rfl) dX8_net_21 rfl (fun r9 w9 hp5 => ?_)
    obtain ⟨I6, A7, rfl, rfl, hPI6⟩ := hp5
    replace hPI6 : rdP 1 I2 (sU A3 0 (m_cp ((A3 0)) (Int.toNat 363) (Int.toNat 0) 33)) I6 A7 (rdA (A3 10) (I2 11) J N) := hPI6
    have hsI6 := hPI6.1.1
    have hsA7 := hPI6.1.2
    have hI6 := hsI6
    unfold smI at hI6
    have hA7 := hsA7
    unfold smA at hA7
    have hzI6 := rdA_01 (L := (A3 10)) (n := (I2 11)) (J := J) (N := N)
    refine g_perm (w' := (wMod q Y I6 A7 F Dd)) (pm0' _) ?_
    refine g_st (st' := [.int (iI ((rdA (A3 10) (I2 11) J N).1))]) rfl ?_
    refine g_pop C (n' := 25) rfl dX8_net_24 rfl ?_
    have e9 : rdA (A3 10) (I2 11) J N = rdA (A 10) (I 11) J N := by rw [e10, e11]
    rw [e9] at hPI6
    obtain ⟨-, q3, ⟨-, p20⟩, q7, -⟩ := hPI6
    have hm4 := q7 rfl
    have hw4 := frR_w q3 (show mwOK _ from hw2)
    have p34 : I6 34 = I 34 := q3.1.2.2.trans p3.1.2.2
    have pA12 : A7 12 = A 12 := q3.2.2.2.1.trans p3.2.2.2.1
    have pA10 : A7 10 = A 10 := q3.2.2.1.trans p3.2.2.1
    have pA9 : sU (sU (A7 9) 0 0) 1 0 = sU (sU (A 9) 0 0) 1 0 := by rw [q3.2.1.trans p3.2.1]
    have pA13 : sU (sU (sU (A7 13) 0 (-1)) 1 (-1)) 2 (-1) = sU (sU (sU (A 13) 0 (-1)) 1 (-1)) 2 (-1) := by rw [q3.2.2.2.2.1.trans p3.2.2.2.2.1]
    have hi2 : I6 2 ≤ 16 := by
      have h1 := (rdA_ok (L := A 10) (n := I 11) hO).2.2.2.2.2.1
      have h2 := hm4.2.2.2.2.2.1
      omega
    refine g_aload_n C (n' := 26) 0 rfl dX8_net_25 rfl rfl ?_
    refine g_iconst C (n' := 27) dX8_net_26 rfl ?_
    refine g_sipush C (n' := 30) (by decide) dX8_net_27 rfl ?_
    refine g_cVn C (n' := 33) (c_X8_copyRow l D Y C.2.2.2.2.2.2.2.2.1 q I6 A7 F Dd 0 363 hsI6 hsA7 (by omega) (by omega) (by omega)) 2 kw_686 kc_X8_copyRow (by decide +kernel) (pm0 _) 0 (ci := 6) rfl rfl rfl rfl ⟨Nat.le_of_ble_eq_true rfl, Nat.le_of_ble_eq_true rfl⟩ ⟨rfl, rfl⟩ ⟨Nat.le_of_ble_eq_true rfl, Nat.le_of_ble_eq_true rfl⟩ (Nat.le_of_ble_eq_true rfl) dX8_net_30 rfl rfl (wMod q Y I6 (sU A7 0 (m_cp ((A7 0)) (Int.toNat 0) (Int.toNat 363) 33)) F Dd) (pm0' _) ?_
    refine g_aload_n C (n' := 34) 0 rfl dX8_net_33 rfl rfl ?_
    refine g_iconst C (n' := 35) dX8_net_34 rfl ?_
    refine g_put C (n' := 38) (Cn := RX8) (T := TX8) (N := 35) (ci := 6) (v := .int (iI 0)) ga_X8 0 rfl rfl 11 (by decide) kw_701 rfl tyX8 tyX8_ok nmX8 rfl rfl rfl rfl (Nat.le_of_ble_eq_true rfl) (wMod q Y (sU I6 11 0) (sU A7 0 (m_cp ((A7 0)) (Int.toNat 0) (Int.toNat 363) 33)) F Dd) rfl dX8_net_35 rfl ?_
    refine g_aload_n C (n' := 39) 0 rfl dX8_net_38 rfl rfl ?_
    refine g_iconst C (n' := 40) dX8_net_39 rfl ?_
    refine g_put C (n' := 43) (Cn := RX8) (T := TX8) (N := 35) (ci := 6) (v := .int (iI 0)) ga_X8 0 rfl rfl 8 (by decide) kw_698 rfl tyX8 tyX8_ok nmX8 rfl rfl rfl rfl (Nat.le_of_ble_eq_true rfl) (wMod q Y (sU (sU I6 11 0) 8 0) (sU A7 0 (m_cp ((A7 0)) (Int.toNat 0) (Int.toNat 363) 33)) F Dd) rfl dX8_net_40 rfl ?_
    refine g_aload_n C (n' := 44) 0 rfl dX8_net_43 rfl rfl ?_
    refine g_get C (n' := 47) (Cn := RX8) (T := TX8) (N := 35) (ci := 6) (v := .ref (q 9)) ga_X8 0 rfl rfl 9 (by decide) kw_699 rfl rfl dX8_net_44 rfl ?_
    refine g_iconst C (n' := 48) dX8_net_47 rfl ?_
    refine g_iconst C (n' := 49) dX8_net_48 rfl ?_
    refine g_zastN C (n' := 50) (f := (A7 9)) (j := 0) 4 2 rfl rfl (by omega) (by decide) (by omega) rfl dX8_net_49 rfl (wMod q Y (sU (sU I6 11 0) 8 0) (sU (sU A7 0 (m_cp ((A7 0)) (Int.toNat 0) (Int.toNat 363) 33)) 9 (sU (A7 9) 0 0)) F Dd) rfl ?_
    refine g_aload_n C (n' := 51) 0 rfl dX8_net_50 rfl rfl ?_
    refine g_get C (n' := 54) (Cn := RX8) (T := TX8) (N := 35) (ci := 6) (v := .ref (q 9)) ga_X8 0 rfl rfl 9 (by decide) kw_699 rfl rfl dX8_net_51 rfl ?_
    refine g_iconst C (n' := 55) dX8_net_54 rfl ?_
    refine g_iconst C (n' := 56) dX8_net_55 rfl ?_
    refine g_zastN C (n' := 57) (f := (sU (A7 9) 0 0)) (j := 1) 4 2 rfl rfl (by omega) (by decide) (by omega) rfl dX8_net_56 rfl (wMod q Y (sU (sU I6 11 0) 8 0) (sU (sU A7 0 (m_cp ((A7 0)) (Int.toNat 0) (Int.toNat 363) 33)) 9 (sU (sU (A7 9) 0 0) 1 0)) F Dd) rfl ?_
    refine g_iconst C (n' := 58) dX8_net_57 rfl ?_
    refine g_istore_n C (n' := 59) [(1, .int (iI 0)), (0, .ref (q 99))] dX8_net_58 rfl rfl (by decide) rfl ?_
    refine g_iload_n C (n' := 60) 0 rfl dX8_net_59 rfl rfl ?_
    refine g_iconst C (n' := 61) dX8_net_60 rfl ?_
    refine g_icmp_ge C (n' := 64) 77 dX8_net_61 (by decide) rfl (by unfold inR; omega) (by unfold inR; omega) (fun c8 => ?_) (fun c8 => ?_)
    · skip
      exfalso
      omega
    · skip
      refine g_aload_n C (n' := 65) 1 rfl dX8_net_64 rfl rfl ?_
      refine g_get C (n' := 68) (Cn := RX8) (T := TX8) (N := 35) (ci := 6) (v := .ref (q 13)) ga_X8 0 rfl rfl 13 (by decide) kw_703 rfl rfl dX8_net_65 rfl ?_
      refine g_iload_n C (n' := 69) 0 rfl dX8_net_68 rfl rfl ?_
      refine g_iconst C (n' := 70) dX8_net_69 rfl ?_
      refine g_iastN C (n' := 71) (f := (A7 13)) (j := 0) 7 0 rfl rfl (by omega) (by decide) rfl dX8_net_70 rfl (wMod q Y (sU (sU I6 11 0) 8 0) (sU (sU (sU A7 0 (m_cp ((A7 0)) (Int.toNat 0) (Int.toNat 363) 33)) 9 (sU (sU (A7 9) 0 0) 1 0)) 13 (sU (A7 13) 0 (-1))) F Dd) rfl ?_
      refine g_iinc C (n' := 74) 0 [(1, .int (iI 1)), (0, .ref (q 99))] rfl dX8_net_71 rfl (by decide) rfl ?_
      refine g_goto C 59 dX8_net_74 (by decide) ?_
      refine g_iload_n C (n' := 60) 0 rfl dX8_net_59 rfl rfl ?_
      refine g_iconst C (n' := 61) dX8_net_60 rfl ?_
      refine g_icmp_ge C (n' := 64) 77 dX8_net_61 (by decide) rfl (by unfold inR; omega) (by unfold inR; omega) (fun c9 => ?_) (fun c9 => ?_)
      · skip
        exfalso
        omega
      · skip
        refine g_aload_n C (n' := 65) 1 rfl dX8_net_64 rfl rfl ?_
        refine g_get C (n' := 68) (Cn := RX8) (T := TX8) (N := 35) (ci := 6) (v := .ref (q 13)) ga_X8 0 rfl rfl 13 (by decide) kw_703 rfl rfl dX8_net_65 rfl ?_
        refine g_iload_n C (n' := 69) 0 rfl dX8_net_68 rfl rfl ?_
        refine g_iconst C (n' := 70) dX8_net_69 rfl ?_
        refine g_iastN C (n' := 71) (f := (sU (A7 13) 0 (-1))) (j := 1) 7 0 rfl rfl (by omega) (by decide) rfl dX8_net_70 rfl (wMod q Y (sU (sU I6 11 0) 8 0) (sU (sU (sU A7 0 (m_cp ((A7 0)) (Int.toNat 0) (Int.toNat 363) 33)) 9 (sU (sU (A7 9) 0 0) 1 0)) 13 (sU (sU (A7 13) 0 (-1)) 1 (-1))) F Dd) rfl ?_
        refine g_iinc C (n' := 74) 0 [(1, .int (iI 2)), (0, .ref (q 99))] rfl dX8_net_71 rfl (by decide) rfl ?_
        refine g_goto C 59 dX8_net_74 (by decide) ?_
        refine g_iload_n C (n' := 60) 0 rfl dX8_net_59 rfl rfl ?_
        refine g_iconst C (n' := 61) dX8_net_60 rfl ?_
        refine g_icmp_ge C (n' := 64) 77 dX8_net_61 (by decide) rfl (by unfold inR; omega) (by unfold inR; omega) (fun c10 => ?_) (fun c10 => ?_)
        · skip
          exfalso
          omega
        · skip
          refine g_aload_n C (n' := 65) 1 rfl dX8_net_64 rfl rfl ?_
          refine g_get C (n' := 68) (Cn := RX8) (T := TX8) (N := 35) (ci := 6) (v := .ref (q 13)) ga_X8 0 rfl rfl 13 (by decide) kw_703 rfl rfl dX8_net_65 rfl ?_
          refine g_iload_n C (n' := 69) 0 rfl dX8_net_68 rfl rfl ?_
          refine g_iconst C (n' := 70) dX8_net_69 rfl ?_
          refine g_iastN C (n' := 71) (f := (sU (sU (A7 13) 0 (-1)) 1 (-1))) (j := 2) 7 0 rfl rfl (by omega) (by decide) rfl dX8_net_70 rfl (wMod q Y (sU (sU I6 11 0) 8 0) (sU (sU (sU A7 0 (m_cp ((A7 0)) (Int.toNat 0) (Int.toNat 363) 33)) 9 (sU (sU (A7 9) 0 0) 1 0)) 13 (sU (sU (sU (A7 13) 0 (-1)) 1 (-1)) 2 (-1))) F Dd) rfl ?_
          refine g_iinc C (n' := 74) 0 [(1, .int (iI 3)), (0, .ref (q 99))] rfl dX8_net_71 rfl (by decide) rfl ?_
          refine g_goto C 59 dX8_net_74 (by decide) ?_
          refine g_iload_n C (n' := 60) 0 rfl dX8_net_59 rfl rfl ?_
          refine g_iconst C (n' := 61) dX8_net_60 rfl ?_
          refine g_icmp_ge C (n' := 64) 77 dX8_net_61 (by decide) rfl (by unfold inR; omega) (by unfold inR; omega) (fun c11 => ?_) (fun c11 => ?_)
          · skip
            refine g_aload_n C (n' := 78) 1 rfl dX8_net_77 rfl rfl ?_
            refine g_get C (n' := 81) (Cn := RX8) (T := TX8) (N := 35) (ci := 6) (v := .int (iI (I6 20))) ga_X8 0 rfl rfl 20 (by decide) kw_710 rfl rfl dX8_net_78 rfl ?_
            have h_78 := hI6 20
            refine g_iret C hr hlk rfl ⟨(sU (sU I6 11 0) 8 0), (sU (sU (sU A7 0 (m_cp ((A7 0)) (Int.toNat 0) (Int.toNat 363) 33)) 9 (sU (sU (A7 9) 0 0) 1 0)) 13 (sU (sU (sU (A7 13) 0 (-1)) 1 (-1)) 2 (-1))), rfl, Or.inr ⟨by omega, congrArg (fun z : Int => some (Value.int (iI z))) p20, ⟨⟨(sm_put (sm_put hsI6 (by omega)) (by omega)), (sm_putA (sm_putA (sm_putA hsA7 (m_cp_r (hsA7 0) _ _ _)) (sm_putR (sm_putR (hsA7 9) (by omega)) (by omega))) (sm_putR (sm_putR (sm_putR (hsA7 13) (by omega)) (by omega)) (by omega)))⟩, ?_, ?_, ⟨rfl, rfl⟩, ⟨rfl, rfl⟩, rfl, rfl, rfl⟩, hw4, p34, pA12, pA10, pA9, pA13⟩⟩ dX8_net_81
            · exact mNv_c hm4 hi2 (fun k hk => m_cp_out (by omega))
            · intro k hk
              show m_cp (A7 0) (Int.toNat 0) (Int.toNat 363) 33 (363 + k) = m_cp (A7 0) (Int.toNat 0) (Int.toNat 363) 33 k
              rw [show (363 : Nat) + k = Int.toNat 363 + k from rfl, m_cp_in hk, m_cp_out (by omega)]
              congr 1
              omega
          · skip
            exfalso
            omega
  · skip
    refine g_bipush C (n' := 10) (by decide) dX8_net_8 rfl ?_
    exact g_iret C hr hlk rfl ⟨I2, A3, rfl, Or.inl ⟨by omega, rfl, hPI2⟩⟩ dX8_net_10
