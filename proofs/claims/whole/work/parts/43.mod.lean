/-! the reference: numbers behind a word, and what is done -/
set_option maxRecDepth 100000 in
set_option maxHeartbeats 4000000 in
theorem c_X8_readsNumbers_0 (l : Launch) (D : va_G) (Y : Nat → ClassId) {E : (Nat → Prop) → State → Heap → Prop} (hE : g_Stab E) (q : Nat → Nat) (I : Nat → Int) (A : Nat → Nat → Int) (F : Nat → UInt32) (Dd : Nat → UInt64) (hsI : smI I) (hsA : smA A) (hT : mtk I) : g_Ct l yX8_readsNumbers cX8_readsNumbers 2 (some FieldType.boolean) ({ frames := 4, cells := 0, slots := 0, locals := 90 } : Room) D (tysY Y) E [.ref (q 99), .int (iI 0)] (wMod q Y I A F Dd) 0 0 (fun r9 w9 => ((t_num (A 10) (I 11) (I 16) (I 17) 2 8) = -1 ∧ r9 = some (.int (iI 0)) ∧ w9 = wMod q Y I A F Dd) ∨ (((t_num (A 10) (I 11) (I 16) (I 17) 2 8) ≠ -1 ∧ 2 ≤ (t_num (A 10) (I 11) (I 16) (I 17) 2 8) ∧ (t_num (A 10) (I 11) (I 16) (I 17) 2 8) ≤ 8) ∧ r9 = some (.int (iI 1)) ∧ w9 = wMod q Y (sU (sU I 16 (tk1 (A 10) (I 11) (I 17))) 17 (tk2 (A 10) (I 11) (I 17))) (sU A 22 (sU (A 22) 0 (t_num (A 10) (I 11) (I 16) (I 17) 2 8))) F Dd)) := by
  refine g_ofG (own := RX8) hE (by decide) rfl (Nat.le_of_ble_eq_true rfl) [(0, .ref (q 99)), (1, .int (iI 0))] rfl ?_
  intro p9 e9 s9 m9 b9 t9 c9 A9 C hr hlk hnm
  have hI := hsI
  have hA := hsA
  unfold smI at hI
  unfold smA at hA
  have hT9 := hT
  unfold mtk at hT9
  refine g_iload_n C (n' := 1) 1 rfl dX8_readsNumbers_0 rfl rfl ?_
  refine g_tsIn C 40 dX8_readsNumbers_1 (by unfold inR; omega) (by omega) (by omega) rfl (by decide) ?_
  refine g_aload_n C (n' := 41) 0 rfl dX8_readsNumbers_40 rfl rfl ?_
  refine g_iconst C (n' := 42) dX8_readsNumbers_41 rfl ?_
  refine g_iconst C (n' := 43) dX8_readsNumbers_42 rfl ?_
  refine g_bipush C (n' := 45) (by decide) dX8_readsNumbers_43 rfl ?_
  refine g_callV C (n' := 48) (c_X8_number_0 l D Y C.2.2.2.2.2.2.2.2.1 q I A F Dd 2 8 hsI hsA hT (by omega) (by omega)) 3 kw_847 kc_X8_number (by decide +kernel) (pm0 _) 0 (ci := 6) rfl rfl rfl rfl ⟨Nat.le_of_ble_eq_true rfl, Nat.le_of_ble_eq_true rfl⟩ ⟨rfl, rfl⟩ ⟨Nat.le_of_ble_eq_true rfl, Nat.le_of_ble_eq_true rfl⟩ (Nat.le_of_ble_eq_true rfl) dX8_readsNumbers_45 rfl (fun r9 w9 hp1 => ?_)
  obtain (⟨hn2, rfl, rfl⟩ | ⟨hn2, rfl, rfl⟩) := hp1
  · skip
    replace hn2 : (t_num (A 10) (I 11) (I 16) (I 17) 2 8) = -1 := hn2
    refine g_perm (w' := (wMod q Y I A F Dd)) (pm0' _) ?_
    refine g_st (st' := [.int (iI 0)]) rfl ?_
    exact g_iret C hr hlk (nar_z (by omega)) (Or.inl ⟨hn2, rfl, rfl⟩) dX8_readsNumbers_48
  · skip
    replace hn2 : (t_num (A 10) (I 11) (I 16) (I 17) 2 8) ≠ -1 ∧ 2 ≤ (t_num (A 10) (I 11) (I 16) (I 17) 2 8) ∧ (t_num (A 10) (I 11) (I 16) (I 17) 2 8) ≤ 8 := hn2
    have hthn2 := tk_n (L := (A 10)) (n := (I 11)) (e := (I 17)) (by omega)
    refine g_perm (w' := (wMod q Y (sU (sU I 16 (tk1 (A 10) (I 11) (I 17))) 17 (tk2 (A 10) (I 11) (I 17))) (sU A 22 (sU (A 22) 0 (t_num (A 10) (I 11) (I 16) (I 17) 2 8))) F Dd)) (pm0' _) ?_
    refine g_st (st' := [.int (iI 1)]) rfl ?_
    exact g_iret C hr hlk (nar_z (by omega)) (Or.inr ⟨hn2, rfl, rfl⟩) dX8_readsNumbers_48
set_option maxRecDepth 100000 in
set_option maxHeartbeats 4000000 in
theorem c_X8_readsNumbers_2 (l : Launch) (D : va_G) (Y : Nat → ClassId) {E : (Nat → Prop) → State → Heap → Prop} (hE : g_Stab E) (q : Nat → Nat) (I : Nat → Int) (A : Nat → Nat → Int) (F : Nat → UInt32) (Dd : Nat → UInt64) (hsI : smI I) (hsA : smA A) (hT : mtk I) : g_Ct l yX8_readsNumbers cX8_readsNumbers 2 (some FieldType.boolean) ({ frames := 4, cells := 0, slots := 0, locals := 90 } : Room) D (tysY Y) E [.ref (q 99), .int (iI 2)] (wMod q Y I A F Dd) 0 0 (fun r9 w9 => ((t_num (A 10) (I 11) (I 16) (I 17) 0 9) = -1 ∧ r9 = some (.int (iI 0)) ∧ w9 = wMod q Y I A F Dd) ∨ (((t_num (A 10) (I 11) (I 16) (I 17) 0 9) ≠ -1 ∧ 0 ≤ (t_num (A 10) (I 11) (I 16) (I 17) 0 9) ∧ (t_num (A 10) (I 11) (I 16) (I 17) 0 9) ≤ 9) ∧ r9 = some (.int (iI 1)) ∧ w9 = wMod q Y (sU (sU I 16 (tk1 (A 10) (I 11) (I 17))) 17 (tk2 (A 10) (I 11) (I 17))) (sU A 22 (sU (A 22) 0 (t_num (A 10) (I 11) (I 16) (I 17) 0 9))) F Dd)) := by
  refine g_ofG (own := RX8) hE (by decide) rfl (Nat.le_of_ble_eq_true rfl) [(0, .ref (q 99)), (1, .int (iI 2))] rfl ?_
  intro p9 e9 s9 m9 b9 t9 c9 A9 C hr hlk hnm
  have hI := hsI
  have hA := hsA
  unfold smI at hI
  unfold smA at hA
  have hT9 := hT
  unfold mtk at hT9
  refine g_iload_n C (n' := 1) 1 rfl dX8_readsNumbers_0 rfl rfl ?_
  refine g_tsIn C 130 dX8_readsNumbers_1 (by unfold inR; omega) (by omega) (by omega) rfl (by decide) ?_
  refine g_aload_n C (n' := 131) 0 rfl dX8_readsNumbers_130 rfl rfl ?_
  refine g_iconst C (n' := 132) dX8_readsNumbers_131 rfl ?_
  refine g_iconst C (n' := 133) dX8_readsNumbers_132 rfl ?_
  refine g_bipush C (n' := 135) (by decide) dX8_readsNumbers_133 rfl ?_
  refine g_callV C (n' := 138) (c_X8_number_0 l D Y C.2.2.2.2.2.2.2.2.1 q I A F Dd 0 9 hsI hsA hT (by omega) (by omega)) 3 kw_847 kc_X8_number (by decide +kernel) (pm0 _) 0 (ci := 6) rfl rfl rfl rfl ⟨Nat.le_of_ble_eq_true rfl, Nat.le_of_ble_eq_true rfl⟩ ⟨rfl, rfl⟩ ⟨Nat.le_of_ble_eq_true rfl, Nat.le_of_ble_eq_true rfl⟩ (Nat.le_of_ble_eq_true rfl) dX8_readsNumbers_135 rfl (fun r9 w9 hp1 => ?_)
  obtain (⟨hn2, rfl, rfl⟩ | ⟨hn2, rfl, rfl⟩) := hp1
  · skip
    replace hn2 : (t_num (A 10) (I 11) (I 16) (I 17) 0 9) = -1 := hn2
    refine g_perm (w' := (wMod q Y I A F Dd)) (pm0' _) ?_
    refine g_st (st' := [.int (iI 0)]) rfl ?_
    exact g_iret C hr hlk (nar_z (by omega)) (Or.inl ⟨hn2, rfl, rfl⟩) dX8_readsNumbers_138
  · skip
    replace hn2 : (t_num (A 10) (I 11) (I 16) (I 17) 0 9) ≠ -1 ∧ 0 ≤ (t_num (A 10) (I 11) (I 16) (I 17) 0 9) ∧ (t_num (A 10) (I 11) (I 16) (I 17) 0 9) ≤ 9 := hn2
    have hthn2 := tk_n (L := (A 10)) (n := (I 11)) (e := (I 17)) (by omega)
    refine g_perm (w' := (wMod q Y (sU (sU I 16 (tk1 (A 10) (I 11) (I 17))) 17 (tk2 (A 10) (I 11) (I 17))) (sU A 22 (sU (A 22) 0 (t_num (A 10) (I 11) (I 16) (I 17) 0 9))) F Dd)) (pm0' _) ?_
    refine g_st (st' := [.int (iI 1)]) rfl ?_
    exact g_iret C hr hlk (nar_z (by omega)) (Or.inr ⟨hn2, rfl, rfl⟩) dX8_readsNumbers_138
set_option maxRecDepth 100000 in
set_option maxHeartbeats 4000000 in
theorem c_X8_readsNumbers_3 (l : Launch) (D : va_G) (Y : Nat → ClassId) {E : (Nat → Prop) → State → Heap → Prop} (hE : g_Stab E) (q : Nat → Nat) (I : Nat → Int) (A : Nat → Nat → Int) (F : Nat → UInt32) (Dd : Nat → UInt64) (hsI : smI I) (hsA : smA A) (hT : mtk I) : g_Ct l yX8_readsNumbers cX8_readsNumbers 2 (some FieldType.boolean) ({ frames := 4, cells := 0, slots := 0, locals := 90 } : Room) D (tysY Y) E [.ref (q 99), .int (iI 3)] (wMod q Y I A F Dd) 0 0 (fun r9 w9 => ((t_num (A 10) (I 11) (I 16) (I 17) 0 9) = -1 ∧ r9 = some (.int (iI 0)) ∧ w9 = wMod q Y I A F Dd) ∨ (((t_num (A 10) (I 11) (I 16) (I 17) 0 9) ≠ -1 ∧ 0 ≤ (t_num (A 10) (I 11) (I 16) (I 17) 0 9) ∧ (t_num (A 10) (I 11) (I 16) (I 17) 0 9) ≤ 9) ∧ r9 = some (.int (iI 1)) ∧ w9 = wMod q Y (sU (sU I 16 (tk1 (A 10) (I 11) (I 17))) 17 (tk2 (A 10) (I 11) (I 17))) (sU A 22 (sU (A 22) 0 (t_num (A 10) (I 11) (I 16) (I 17) 0 9))) F Dd)) := by
  refine g_ofG (own := RX8) hE (by decide) rfl (Nat.le_of_ble_eq_true rfl) [(0, .ref (q 99)), (1, .int (iI 3))] rfl ?_
  intro p9 e9 s9 m9 b9 t9 c9 A9 C hr hlk hnm
  have hI := hsI
  have hA := hsA
  unfold smI at hI
  unfold smA at hA
  have hT9 := hT
  unfold mtk at hT9
  refine g_iload_n C (n' := 1) 1 rfl dX8_readsNumbers_0 rfl rfl ?_
  refine g_tsIn C 130 dX8_readsNumbers_1 (by unfold inR; omega) (by omega) (by omega) rfl (by decide) ?_
  refine g_aload_n C (n' := 131) 0 rfl dX8_readsNumbers_130 rfl rfl ?_
  refine g_iconst C (n' := 132) dX8_readsNumbers_131 rfl ?_
  refine g_iconst C (n' := 133) dX8_readsNumbers_132 rfl ?_
  refine g_bipush C (n' := 135) (by decide) dX8_readsNumbers_133 rfl ?_
  refine g_callV C (n' := 138) (c_X8_number_0 l D Y C.2.2.2.2.2.2.2.2.1 q I A F Dd 0 9 hsI hsA hT (by omega) (by omega)) 3 kw_847 kc_X8_number (by decide +kernel) (pm0 _) 0 (ci := 6) rfl rfl rfl rfl ⟨Nat.le_of_ble_eq_true rfl, Nat.le_of_ble_eq_true rfl⟩ ⟨rfl, rfl⟩ ⟨Nat.le_of_ble_eq_true rfl, Nat.le_of_ble_eq_true rfl⟩ (Nat.le_of_ble_eq_true rfl) dX8_readsNumbers_135 rfl (fun r9 w9 hp1 => ?_)
  obtain (⟨hn2, rfl, rfl⟩ | ⟨hn2, rfl, rfl⟩) := hp1
  · skip
    replace hn2 : (t_num (A 10) (I 11) (I 16) (I 17) 0 9) = -1 := hn2
    refine g_perm (w' := (wMod q Y I A F Dd)) (pm0' _) ?_
    refine g_st (st' := [.int (iI 0)]) rfl ?_
    exact g_iret C hr hlk (nar_z (by omega)) (Or.inl ⟨hn2, rfl, rfl⟩) dX8_readsNumbers_138
  · skip
    replace hn2 : (t_num (A 10) (I 11) (I 16) (I 17) 0 9) ≠ -1 ∧ 0 ≤ (t_num (A 10) (I 11) (I 16) (I 17) 0 9) ∧ (t_num (A 10) (I 11) (I 16) (I 17) 0 9) ≤ 9 := hn2
    have hthn2 := tk_n (L := (A 10)) (n := (I 11)) (e := (I 17)) (by omega)
    refine g_perm (w' := (wMod q Y (sU (sU I 16 (tk1 (A 10) (I 11) (I 17))) 17 (tk2 (A 10) (I 11) (I 17))) (sU A 22 (sU (A 22) 0 (t_num (A 10) (I 11) (I 16) (I 17) 0 9))) F Dd)) (pm0' _) ?_
    refine g_st (st' := [.int (iI 1)]) rfl ?_
    exact g_iret C hr hlk (nar_z (by omega)) (Or.inr ⟨hn2, rfl, rfl⟩) dX8_readsNumbers_138
set_option maxRecDepth 100000 in
set_option maxHeartbeats 4000000 in
theorem c_X8_readsNumbers_4 (l : Launch) (D : va_G) (Y : Nat → ClassId) {E : (Nat → Prop) → State → Heap → Prop} (hE : g_Stab E) (q : Nat → Nat) (I : Nat → Int) (A : Nat → Nat → Int) (F : Nat → UInt32) (Dd : Nat → UInt64) (hsI : smI I) (hsA : smA A) (hT : mtk I) : g_Ct l yX8_readsNumbers cX8_readsNumbers 2 (some FieldType.boolean) ({ frames := 4, cells := 0, slots := 0, locals := 90 } : Room) D (tysY Y) E [.ref (q 99), .int (iI 4)] (wMod q Y I A F Dd) 0 0 (fun r9 w9 => ((t_num (A 10) (I 11) (I 16) (I 17) 1 9) = -1 ∧ r9 = some (.int (iI 0)) ∧ w9 = wMod q Y I A F Dd) ∨ (((t_num (A 10) (I 11) (I 16) (I 17) 1 9) ≠ -1 ∧ 1 ≤ (t_num (A 10) (I 11) (I 16) (I 17) 1 9) ∧ (t_num (A 10) (I 11) (I 16) (I 17) 1 9) ≤ 9) ∧ r9 = some (.int (iI 1)) ∧ w9 = wMod q Y (sU (sU I 16 (tk1 (A 10) (I 11) (I 17))) 17 (tk2 (A 10) (I 11) (I 17))) (sU A 22 (sU (A 22) 0 (t_num (A 10) (I 11) (I 16) (I 17) 1 9))) F Dd)) := by
  refine g_ofG (own := RX8) hE (by decide) rfl (Nat.le_of_ble_eq_true rfl) [(0, .ref (q 99)), (1, .int (iI 4))] rfl ?_
  intro p9 e9 s9 m9 b9 t9 c9 A9 C hr hlk hnm
  have hI := hsI
  have hA := hsA
  unfold smI at hI
  unfold smA at hA
  have hT9 := hT
  unfold mtk at hT9
  refine g_iload_n C (n' := 1) 1 rfl dX8_readsNumbers_0 rfl rfl ?_
  refine g_tsIn C 111 dX8_readsNumbers_1 (by unfold inR; omega) (by omega) (by omega) rfl (by decide) ?_
  refine g_aload_n C (n' := 112) 0 rfl dX8_readsNumbers_111 rfl rfl ?_
  refine g_iconst C (n' := 113) dX8_readsNumbers_112 rfl ?_
  refine g_iconst C (n' := 114) dX8_readsNumbers_113 rfl ?_
  refine g_bipush C (n' := 116) (by decide) dX8_readsNumbers_114 rfl ?_
  refine g_callV C (n' := 119) (c_X8_number_0 l D Y C.2.2.2.2.2.2.2.2.1 q I A F Dd 1 9 hsI hsA hT (by omega) (by omega)) 3 kw_847 kc_X8_number (by decide +kernel) (pm0 _) 0 (ci := 6) rfl rfl rfl rfl ⟨Nat.le_of_ble_eq_true rfl, Nat.le_of_ble_eq_true rfl⟩ ⟨rfl, rfl⟩ ⟨Nat.le_of_ble_eq_true rfl, Nat.le_of_ble_eq_true rfl⟩ (Nat.le_of_ble_eq_true rfl) dX8_readsNumbers_116 rfl (fun r9 w9 hp1 => ?_)
  obtain (⟨hn2, rfl, rfl⟩ | ⟨hn2, rfl, rfl⟩) := hp1
  · skip
    replace hn2 : (t_num (A 10) (I 11) (I 16) (I 17) 1 9) = -1 := hn2
    refine g_perm (w' := (wMod q Y I A F Dd)) (pm0' _) ?_
    refine g_st (st' := [.int (iI 0)]) rfl ?_
    exact g_iret C hr hlk (nar_z (by omega)) (Or.inl ⟨hn2, rfl, rfl⟩) dX8_readsNumbers_119
  · skip
    replace hn2 : (t_num (A 10) (I 11) (I 16) (I 17) 1 9) ≠ -1 ∧ 1 ≤ (t_num (A 10) (I 11) (I 16) (I 17) 1 9) ∧ (t_num (A 10) (I 11) (I 16) (I 17) 1 9) ≤ 9 := hn2
    have hthn2 := tk_n (L := (A 10)) (n := (I 11)) (e := (I 17)) (by omega)
    refine g_perm (w' := (wMod q Y (sU (sU I 16 (tk1 (A 10) (I 11) (I 17))) 17 (tk2 (A 10) (I 11) (I 17))) (sU A 22 (sU (A 22) 0 (t_num (A 10) (I 11) (I 16) (I 17) 1 9))) F Dd)) (pm0' _) ?_
    refine g_st (st' := [.int (iI 1)]) rfl ?_
    exact g_iret C hr hlk (nar_z (by omega)) (Or.inr ⟨hn2, rfl, rfl⟩) dX8_readsNumbers_119
set_option maxRecDepth 100000 in
set_option maxHeartbeats 4000000 in
theorem c_X8_readsNumbers_5 (l : Launch) (D : va_G) (Y : Nat → ClassId) {E : (Nat → Prop) → State → Heap → Prop} (hE : g_Stab E) (q : Nat → Nat) (I : Nat → Int) (A : Nat → Nat → Int) (F : Nat → UInt32) (Dd : Nat → UInt64) (hsI : smI I) (hsA : smA A) (hT : mtk I) : g_Ct l yX8_readsNumbers cX8_readsNumbers 2 (some FieldType.boolean) ({ frames := 4, cells := 0, slots := 0, locals := 90 } : Room) D (tysY Y) E [.ref (q 99), .int (iI 5)] (wMod q Y I A F Dd) 0 0 (fun r9 w9 => ((t_num (A 10) (I 11) (I 16) (I 17) 0 999) = -1 ∧ r9 = some (.int (iI 0)) ∧ w9 = wMod q Y I A F Dd) ∨ (((t_num (A 10) (I 11) (I 16) (I 17) 0 999) ≠ -1 ∧ 0 ≤ (t_num (A 10) (I 11) (I 16) (I 17) 0 999) ∧ (t_num (A 10) (I 11) (I 16) (I 17) 0 999) ≤ 999) ∧ r9 = some (.int (iI 1)) ∧ w9 = wMod q Y (sU (sU I 16 (tk1 (A 10) (I 11) (I 17))) 17 (tk2 (A 10) (I 11) (I 17))) (sU A 22 (sU (A 22) 0 (t_num (A 10) (I 11) (I 16) (I 17) 0 999))) F Dd)) := by
  refine g_ofG (own := RX8) hE (by decide) rfl (Nat.le_of_ble_eq_true rfl) [(0, .ref (q 99)), (1, .int (iI 5))] rfl ?_
  intro p9 e9 s9 m9 b9 t9 c9 A9 C hr hlk hnm
  have hI := hsI
  have hA := hsA
  unfold smI at hI
  unfold smA at hA
  have hT9 := hT
  unfold mtk at hT9
  refine g_iload_n C (n' := 1) 1 rfl dX8_readsNumbers_0 rfl rfl ?_
  refine g_tsIn C 120 dX8_readsNumbers_1 (by unfold inR; omega) (by omega) (by omega) rfl (by decide) ?_
  refine g_aload_n C (n' := 121) 0 rfl dX8_readsNumbers_120 rfl rfl ?_
  refine g_iconst C (n' := 122) dX8_readsNumbers_121 rfl ?_
  refine g_iconst C (n' := 123) dX8_readsNumbers_122 rfl ?_
  refine g_sipush C (n' := 126) (by decide) dX8_readsNumbers_123 rfl ?_
  refine g_callV C (n' := 129) (c_X8_number_0 l D Y C.2.2.2.2.2.2.2.2.1 q I A F Dd 0 999 hsI hsA hT (by omega) (by omega)) 3 kw_847 kc_X8_number (by decide +kernel) (pm0 _) 0 (ci := 6) rfl rfl rfl rfl ⟨Nat.le_of_ble_eq_true rfl, Nat.le_of_ble_eq_true rfl⟩ ⟨rfl, rfl⟩ ⟨Nat.le_of_ble_eq_true rfl, Nat.le_of_ble_eq_true rfl⟩ (Nat.le_of_ble_eq_true rfl) dX8_readsNumbers_126 rfl (fun r9 w9 hp1 => ?_)
  obtain (⟨hn2, rfl, rfl⟩ | ⟨hn2, rfl, rfl⟩) := hp1
  · skip
    replace hn2 : (t_num (A 10) (I 11) (I 16) (I 17) 0 999) = -1 := hn2
    refine g_perm (w' := (wMod q Y I A F Dd)) (pm0' _) ?_
    refine g_st (st' := [.int (iI 0)]) rfl ?_
    exact g_iret C hr hlk (nar_z (by omega)) (Or.inl ⟨hn2, rfl, rfl⟩) dX8_readsNumbers_129
  · skip
    replace hn2 : (t_num (A 10) (I 11) (I 16) (I 17) 0 999) ≠ -1 ∧ 0 ≤ (t_num (A 10) (I 11) (I 16) (I 17) 0 999) ∧ (t_num (A 10) (I 11) (I 16) (I 17) 0 999) ≤ 999 := hn2
    have hthn2 := tk_n (L := (A 10)) (n := (I 11)) (e := (I 17)) (by omega)
    refine g_perm (w' := (wMod q Y (sU (sU I 16 (tk1 (A 10) (I 11) (I 17))) 17 (tk2 (A 10) (I 11) (I 17))) (sU A 22 (sU (A 22) 0 (t_num (A 10) (I 11) (I 16) (I 17) 0 999))) F Dd)) (pm0' _) ?_
    refine g_st (st' := [.int (iI 1)]) rfl ?_
    exact g_iret C hr hlk (nar_z (by omega)) (Or.inr ⟨hn2, rfl, rfl⟩) dX8_readsNumbers_129
set_option maxRecDepth 100000 in
set_option maxHeartbeats 4000000 in
theorem c_X8_readsNumbers_1 (l : Launch) (D : va_G) (Y : Nat → ClassId) {E : (Nat → Prop) → State → Heap → Prop} (hE : g_Stab E) (q : Nat → Nat) (I : Nat → Int) (A : Nat → Nat → Int) (F : Nat → UInt32) (Dd : Nat → UInt64) (hsI : smI I) (hsA : smA A) (hT : mtk I) (hR : 2 ≤ I 18 ∧ I 18 ≤ 8) : g_Ct l yX8_readsNumbers cX8_readsNumbers 2 (some FieldType.boolean) ({ frames := 4, cells := 0, slots := 0, locals := 90 } : Room) D (tysY Y) E [.ref (q 99), .int (iI 1)] (wMod q Y I A F Dd) 0 0 (fun r9 w9 => ((t_num (A 10) (I 11) (I 16) (I 17) 0 ((I 18) - 1)) = -1 ∧ r9 = some (.int (iI 0)) ∧ w9 = wMod q Y I A F Dd) ∨ (((t_num (A 10) (I 11) (I 16) (I 17) 0 ((I 18) - 1)) ≠ -1 ∧ 0 ≤ (t_num (A 10) (I 11) (I 16) (I 17) 0 ((I 18) - 1)) ∧ (t_num (A 10) (I 11) (I 16) (I 17) 0 ((I 18) - 1)) ≤ ((I 18) - 1)) ∧ (t_num (A 10) (I 11) (tk1 (A 10) (I 11) (I 17)) (tk2 (A 10) (I 11) (I 17)) 0 ((I 18) - 1)) = -1 ∧ r9 = some (.int (iI 0)) ∧ w9 = wMod q Y (sU (sU I 16 (tk1 (A 10) (I 11) (I 17))) 17 (tk2 (A 10) (I 11) (I 17))) (sU A 22 (sU (A 22) 0 (t_num (A 10) (I 11) (I 16) (I 17) 0 ((I 18) - 1)))) F Dd) ∨ (((t_num (A 10) (I 11) (I 16) (I 17) 0 ((I 18) - 1)) ≠ -1 ∧ 0 ≤ (t_num (A 10) (I 11) (I 16) (I 17) 0 ((I 18) - 1)) ∧ (t_num (A 10) (I 11) (I 16) (I 17) 0 ((I 18) - 1)) ≤ ((I 18) - 1)) ∧ ((t_num (A 10) (I 11) (tk1 (A 10) (I 11) (I 17)) (tk2 (A 10) (I 11) (I 17)) 0 ((I 18) - 1)) ≠ -1 ∧ 0 ≤ (t_num (A 10) (I 11) (tk1 (A 10) (I 11) (I 17)) (tk2 (A 10) (I 11) (I 17)) 0 ((I 18) - 1)) ∧ (t_num (A 10) (I 11) (tk1 (A 10) (I 11) (I 17)) (tk2 (A 10) (I 11) (I 17)) 0 ((I 18) - 1)) ≤ ((I 18) - 1)) ∧ (t_num (A 10) (I 11) (tk1 (A 10) (I 11) (tk2 (A 10) (I 11) (I 17))) (tk2 (A 10) (I 11) (tk2 (A 10) (I 11) (I 17))) 0 99) = -1 ∧ r9 = some (.int (iI 0)) ∧ w9 = wMod q Y (sU (sU I 16 (tk1 (A 10) (I 11) (tk2 (A 10) (I 11) (I 17)))) 17 (tk2 (A 10) (I 11) (tk2 (A 10) (I 11) (I 17)))) (sU A 22 (sU (sU (A 22) 0 (t_num (A 10) (I 11) (I 16) (I 17) 0 ((I 18) - 1))) 1 (t_num (A 10) (I 11) (tk1 (A 10) (I 11) (I 17)) (tk2 (A 10) (I 11) (I 17)) 0 ((I 18) - 1)))) F Dd) ∨ (((t_num (A 10) (I 11) (I 16) (I 17) 0 ((I 18) - 1)) ≠ -1 ∧ 0 ≤ (t_num (A 10) (I 11) (I 16) (I 17) 0 ((I 18) - 1)) ∧ (t_num (A 10) (I 11) (I 16) (I 17) 0 ((I 18) - 1)) ≤ ((I 18) - 1)) ∧ ((t_num (A 10) (I 11) (tk1 (A 10) (I 11) (I 17)) (tk2 (A 10) (I 11) (I 17)) 0 ((I 18) - 1)) ≠ -1 ∧ 0 ≤ (t_num (A 10) (I 11) (tk1 (A 10) (I 11) (I 17)) (tk2 (A 10) (I 11) (I 17)) 0 ((I 18) - 1)) ∧ (t_num (A 10) (I 11) (tk1 (A 10) (I 11) (I 17)) (tk2 (A 10) (I 11) (I 17)) 0 ((I 18) - 1)) ≤ ((I 18) - 1)) ∧ ((t_num (A 10) (I 11) (tk1 (A 10) (I 11) (tk2 (A 10) (I 11) (I 17))) (tk2 (A 10) (I 11) (tk2 (A 10) (I 11) (I 17))) 0 99) ≠ -1 ∧ 0 ≤ (t_num (A 10) (I 11) (tk1 (A 10) (I 11) (tk2 (A 10) (I 11) (I 17))) (tk2 (A 10) (I 11) (tk2 (A 10) (I 11) (I 17))) 0 99) ∧ (t_num (A 10) (I 11) (tk1 (A 10) (I 11) (tk2 (A 10) (I 11) (I 17))) (tk2 (A 10) (I 11) (tk2 (A 10) (I 11) (I 17))) 0 99) ≤ 99) ∧ (t_num (A 10) (I 11) (tk1 (A 10) (I 11) (tk2 (A 10) (I 11) (tk2 (A 10) (I 11) (I 17)))) (tk2 (A 10) (I 11) (tk2 (A 10) (I 11) (tk2 (A 10) (I 11) (I 17)))) 0 (t_num (A 10) (I 11) (tk1 (A 10) (I 11) (tk2 (A 10) (I 11) (I 17))) (tk2 (A 10) (I 11) (tk2 (A 10) (I 11) (I 17))) 0 99)) = -1 ∧ r9 = some (.int (iI 0)) ∧ w9 = wMod q Y (sU (sU I 16 (tk1 (A 10) (I 11) (tk2 (A 10) (I 11) (tk2 (A 10) (I 11) (I 17))))) 17 (tk2 (A 10) (I 11) (tk2 (A 10) (I 11) (tk2 (A 10) (I 11) (I 17))))) (sU A 22 (sU (sU (sU (A 22) 0 (t_num (A 10) (I 11) (I 16) (I 17) 0 ((I 18) - 1))) 1 (t_num (A 10) (I 11) (tk1 (A 10) (I 11) (I 17)) (tk2 (A 10) (I 11) (I 17)) 0 ((I 18) - 1))) 2 (t_num (A 10) (I 11) (tk1 (A 10) (I 11) (tk2 (A 10) (I 11) (I 17))) (tk2 (A 10) (I 11) (tk2 (A 10) (I 11) (I 17))) 0 99))) F Dd) ∨ (((t_num (A 10) (I 11) (I 16) (I 17) 0 ((I 18) - 1)) ≠ -1 ∧ 0 ≤ (t_num (A 10) (I 11) (I 16) (I 17) 0 ((I 18) - 1)) ∧ (t_num (A 10) (I 11) (I 16) (I 17) 0 ((I 18) - 1)) ≤ ((I 18) - 1)) ∧ ((t_num (A 10) (I 11) (tk1 (A 10) (I 11) (I 17)) (tk2 (A 10) (I 11) (I 17)) 0 ((I 18) - 1)) ≠ -1 ∧ 0 ≤ (t_num (A 10) (I 11) (tk1 (A 10) (I 11) (I 17)) (tk2 (A 10) (I 11) (I 17)) 0 ((I 18) - 1)) ∧ (t_num (A 10) (I 11) (tk1 (A 10) (I 11) (I 17)) (tk2 (A 10) (I 11) (I 17)) 0 ((I 18) - 1)) ≤ ((I 18) - 1)) ∧ ((t_num (A 10) (I 11) (tk1 (A 10) (I 11) (tk2 (A 10) (I 11) (I 17))) (tk2 (A 10) (I 11) (tk2 (A 10) (I 11) (I 17))) 0 99) ≠ -1 ∧ 0 ≤ (t_num (A 10) (I 11) (tk1 (A 10) (I 11) (tk2 (A 10) (I 11) (I 17))) (tk2 (A 10) (I 11) (tk2 (A 10) (I 11) (I 17))) 0 99) ∧ (t_num (A 10) (I 11) (tk1 (A 10) (I 11) (tk2 (A 10) (I 11) (I 17))) (tk2 (A 10) (I 11) (tk2 (A 10) (I 11) (I 17))) 0 99) ≤ 99) ∧ ((t_num (A 10) (I 11) (tk1 (A 10) (I 11) (tk2 (A 10) (I 11) (tk2 (A 10) (I 11) (I 17)))) (tk2 (A 10) (I 11) (tk2 (A 10) (I 11) (tk2 (A 10) (I 11) (I 17)))) 0 (t_num (A 10) (I 11) (tk1 (A 10) (I 11) (tk2 (A 10) (I 11) (I 17))) (tk2 (A 10) (I 11) (tk2 (A 10) (I 11) (I 17))) 0 99)) ≠ -1 ∧ 0 ≤ (t_num (A 10) (I 11) (tk1 (A 10) (I 11) (tk2 (A 10) (I 11) (tk2 (A 10) (I 11) (I 17)))) (tk2 (A 10) (I 11) (tk2 (A 10) (I 11) (tk2 (A 10) (I 11) (I 17)))) 0 (t_num (A 10) (I 11) (tk1 (A 10) (I 11) (tk2 (A 10) (I 11) (I 17))) (tk2 (A 10) (I 11) (tk2 (A 10) (I 11) (I 17))) 0 99)) ∧ (t_num (A 10) (I 11) (tk1 (A 10) (I 11) (tk2 (A 10) (I 11) (tk2 (A 10) (I 11) (I 17)))) (tk2 (A 10) (I 11) (tk2 (A 10) (I 11) (tk2 (A 10) (I 11) (I 17)))) 0 (t_num (A 10) (I 11) (tk1 (A 10) (I 11) (tk2 (A 10) (I 11) (I 17))) (tk2 (A 10) (I 11) (tk2 (A 10) (I 11) (I 17))) 0 99)) ≤ (t_num (A 10) (I 11) (tk1 (A 10) (I 11) (tk2 (A 10) (I 11) (I 17))) (tk2 (A 10) (I 11) (tk2 (A 10) (I 11) (I 17))) 0 99)) ∧ r9 = some (.int (iI 1)) ∧ w9 = wMod q Y (sU (sU I 16 (tk1 (A 10) (I 11) (tk2 (A 10) (I 11) (tk2 (A 10) (I 11) (tk2 (A 10) (I 11) (I 17)))))) 17 (tk2 (A 10) (I 11) (tk2 (A 10) (I 11) (tk2 (A 10) (I 11) (tk2 (A 10) (I 11) (I 17)))))) (sU A 22 (sU (sU (sU (sU (A 22) 0 (t_num (A 10) (I 11) (I 16) (I 17) 0 ((I 18) - 1))) 1 (t_num (A 10) (I 11) (tk1 (A 10) (I 11) (I 17)) (tk2 (A 10) (I 11) (I 17)) 0 ((I 18) - 1))) 2 (t_num (A 10) (I 11) (tk1 (A 10) (I 11) (tk2 (A 10) (I 11) (I 17))) (tk2 (A 10) (I 11) (tk2 (A 10) (I 11) (I 17))) 0 99)) 3 (t_num (A 10) (I 11) (tk1 (A 10) (I 11) (tk2 (A 10) (I 11) (tk2 (A 10) (I 11) (I 17)))) (tk2 (A 10) (I 11) (tk2 (A 10) (I 11) (tk2 (A 10) (I 11) (I 17)))) 0 (t_num (A 10) (I 11) (tk1 (A 10) (I 11) (tk2 (A 10) (I 11) (I 17))) (tk2 (A 10) (I 11) (tk2 (A 10) (I 11) (I 17))) 0 99)))) F Dd)) := by
  refine g_ofG (own := RX8) hE (by decide) rfl (Nat.le_of_ble_eq_true rfl) [(0, .ref (q 99)), (1, .int (iI 1))] rfl ?_
  intro p9 e9 s9 m9 b9 t9 c9 A9 C hr hlk hnm
  have hI := hsI
  have hA := hsA
  unfold smI at hI
  unfold smA at hA
  have hT9 := hT
  unfold mtk at hT9
  refine g_iload_n C (n' := 1) 1 rfl dX8_readsNumbers_0 rfl rfl ?_
  refine g_tsIn C 49 dX8_readsNumbers_1 (by unfold inR; omega) (by omega) (by omega) rfl (by decide) ?_
  refine g_aload_n C (n' := 50) 0 rfl dX8_readsNumbers_49 rfl rfl ?_
  refine g_iconst C (n' := 51) dX8_readsNumbers_50 rfl ?_
  refine g_iconst C (n' := 52) dX8_readsNumbers_51 rfl ?_
  refine g_aload_n C (n' := 53) 0 rfl dX8_readsNumbers_52 rfl rfl ?_
  refine g_get C (n' := 56) (Cn := RX8) (T := TX8) (N := 35) (ci := 6) (v := .int (iI (I 18))) ga_X8 0 rfl rfl 18 (by decide) kw_708 rfl rfl dX8_readsNumbers_53 rfl ?_
  have h_53 := hI 18
  refine g_iconst C (n' := 57) dX8_readsNumbers_56 rfl ?_
  refine g_isub C (n' := 58) dX8_readsNumbers_57 rfl ?_
  refine g_callV C (n' := 61) (c_X8_number_0 l D Y C.2.2.2.2.2.2.2.2.1 q I A F Dd 0 ((I 18) - 1) hsI hsA (by show mtk _; unfold mtk; show 0 ≤ (I 16) ∧ (I 16) ≤ (I 17) ∧ (I 17) ≤ I 11 ∧ I 11 ≤ 200; omega) (by omega) (by omega)) 3 kw_847 kc_X8_number (by decide +kernel) (pm0 _) 0 (ci := 6) rfl rfl rfl rfl ⟨Nat.le_of_ble_eq_true rfl, Nat.le_of_ble_eq_true rfl⟩ ⟨rfl, rfl⟩ ⟨Nat.le_of_ble_eq_true rfl, Nat.le_of_ble_eq_true rfl⟩ (Nat.le_of_ble_eq_true rfl) dX8_readsNumbers_58 rfl (fun r9 w9 hp1 => ?_)
  obtain (⟨hn2, rfl, rfl⟩ | ⟨hn2, rfl, rfl⟩) := hp1
  · skip
    replace hn2 : (t_num (A 10) (I 11) (I 16) (I 17) 0 ((I 18) - 1)) = -1 := hn2
    refine g_perm (w' := (wMod q Y I A F Dd)) (pm0' _) ?_
    refine g_st (st' := [.int (iI 0)]) rfl ?_
    refine g_if_eq C (n' := 64) 109 dX8_readsNumbers_61 (by decide) rfl (by unfold inR; omega) (fun c3 => ?_) (fun c3 => ?_)
    · skip
      refine g_iconst C (n' := 110) dX8_readsNumbers_109 rfl ?_
      exact g_iret C hr hlk (nar_z (by omega)) (Or.inl ⟨hn2, rfl, rfl⟩) dX8_readsNumbers_110
    · skip
      exfalso
      omega
  · skip
    replace hn2 : (t_num (A 10) (I 11) (I 16) (I 17) 0 ((I 18) - 1)) ≠ -1 ∧ 0 ≤ (t_num (A 10) (I 11) (I 16) (I 17) 0 ((I 18) - 1)) ∧ (t_num (A 10) (I 11) (I 16) (I 17) 0 ((I 18) - 1)) ≤ ((I 18) - 1) := hn2
    have hthn2 := tk_n (L := (A 10)) (n := (I 11)) (e := (I 17)) (by omega)
    refine g_perm (w' := (wMod q Y (sU (sU I 16 (tk1 (A 10) (I 11) (I 17))) 17 (tk2 (A 10) (I 11) (I 17))) (sU A 22 (sU (A 22) 0 (t_num (A 10) (I 11) (I 16) (I 17) 0 ((I 18) - 1)))) F Dd)) (pm0' _) ?_
    refine g_st (st' := [.int (iI 1)]) rfl ?_
    refine g_if_eq C (n' := 64) 109 dX8_readsNumbers_61 (by decide) rfl (by unfold inR; omega) (fun c4 => ?_) (fun c4 => ?_)
    · skip
      exfalso
      omega
    · skip
      refine g_aload_n C (n' := 65) 0 rfl dX8_readsNumbers_64 rfl rfl ?_
      refine g_iconst C (n' := 66) dX8_readsNumbers_65 rfl ?_
      refine g_iconst C (n' := 67) dX8_readsNumbers_66 rfl ?_
      refine g_aload_n C (n' := 68) 0 rfl dX8_readsNumbers_67 rfl rfl ?_
      refine g_get C (n' := 71) (Cn := RX8) (T := TX8) (N := 35) (ci := 6) (v := .int (iI (I 18))) ga_X8 0 rfl rfl 18 (by decide) kw_708 rfl rfl dX8_readsNumbers_68 rfl ?_
      have h_68 := hI 18
      refine g_iconst C (n' := 72) dX8_readsNumbers_71 rfl ?_
      refine g_isub C (n' := 73) dX8_readsNumbers_72 rfl ?_
      refine g_callV C (n' := 76) (c_X8_number_1 l D Y C.2.2.2.2.2.2.2.2.1 q (sU (sU I 16 (tk1 (A 10) (I 11) (I 17))) 17 (tk2 (A 10) (I 11) (I 17))) (sU A 22 (sU (A 22) 0 (t_num (A 10) (I 11) (I 16) (I 17) 0 ((I 18) - 1)))) F Dd 0 ((I 18) - 1) (sm_put (sm_put hsI (by omega)) (by omega)) (sm_putA hsA (sm_putR (hsA 22) (by omega))) (by show mtk _; unfold mtk; show 0 ≤ (tk1 (A 10) (I 11) (I 17)) ∧ (tk1 (A 10) (I 11) (I 17)) ≤ (tk2 (A 10) (I 11) (I 17)) ∧ (tk2 (A 10) (I 11) (I 17)) ≤ I 11 ∧ I 11 ≤ 200; omega) (by omega) (by omega)) 3 kw_847 kc_X8_number (by decide +kernel) (pm0 _) 0 (ci := 6) rfl rfl rfl rfl ⟨Nat.le_of_ble_eq_true rfl, Nat.le_of_ble_eq_true rfl⟩ ⟨rfl, rfl⟩ ⟨Nat.le_of_ble_eq_true rfl, Nat.le_of_ble_eq_true rfl⟩ (Nat.le_of_ble_eq_true rfl) dX8_readsNumbers_73 rfl (fun r9 w9 hp5 => ?_)
      obtain (⟨hn6, rfl, rfl⟩ | ⟨hn6, rfl, rfl⟩) := hp5
      · skip
        replace hn6 : (t_num (A 10) (I 11) (tk1 (A 10) (I 11) (I 17)) (tk2 (A 10) (I 11) (I 17)) 0 ((I 18) - 1)) = -1 := hn6
        refine g_perm (w' := (wMod q Y (sU (sU I 16 (tk1 (A 10) (I 11) (I 17))) 17 (tk2 (A 10) (I 11) (I 17))) (sU A 22 (sU (A 22) 0 (t_num (A 10) (I 11) (I 16) (I 17) 0 ((I 18) - 1)))) F Dd)) (pm0' _) ?_
        refine g_st (st' := [.int (iI 0)]) rfl ?_
        refine g_if_eq C (n' := 79) 109 dX8_readsNumbers_76 (by decide) rfl (by unfold inR; omega) (fun c7 => ?_) (fun c7 => ?_)
        · skip
          refine g_iconst C (n' := 110) dX8_readsNumbers_109 rfl ?_
          exact g_iret C hr hlk (nar_z (by omega)) (Or.inr (Or.inl ⟨hn2, hn6, rfl, rfl⟩)) dX8_readsNumbers_110
        · skip
          exfalso
          omega
      · skip
        replace hn6 : (t_num (A 10) (I 11) (tk1 (A 10) (I 11) (I 17)) (tk2 (A 10) (I 11) (I 17)) 0 ((I 18) - 1)) ≠ -1 ∧ 0 ≤ (t_num (A 10) (I 11) (tk1 (A 10) (I 11) (I 17)) (tk2 (A 10) (I 11) (I 17)) 0 ((I 18) - 1)) ∧ (t_num (A 10) (I 11) (tk1 (A 10) (I 11) (I 17)) (tk2 (A 10) (I 11) (I 17)) 0 ((I 18) - 1)) ≤ ((I 18) - 1) := hn6
        have hthn6 := tk_n (L := (A 10)) (n := (I 11)) (e := (tk2 (A 10) (I 11) (I 17))) (by omega)
        refine g_perm (w' := (wMod q Y (sU (sU I 16 (tk1 (A 10) (I 11) (tk2 (A 10) (I 11) (I 17)))) 17 (tk2 (A 10) (I 11) (tk2 (A 10) (I 11) (I 17)))) (sU A 22 (sU (sU (A 22) 0 (t_num (A 10) (I 11) (I 16) (I 17) 0 ((I 18) - 1))) 1 (t_num (A 10) (I 11) (tk1 (A 10) (I 11) (I 17)) (tk2 (A 10) (I 11) (I 17)) 0 ((I 18) - 1)))) F Dd)) (pm0' _) ?_
        refine g_st (st' := [.int (iI 1)]) rfl ?_
        refine g_if_eq C (n' := 79) 109 dX8_readsNumbers_76 (by decide) rfl (by unfold inR; omega) (fun c8 => ?_) (fun c8 => ?_)
        · skip
          exfalso
          omega
        · skip
          refine g_aload_n C (n' := 80) 0 rfl dX8_readsNumbers_79 rfl rfl ?_
          refine g_iconst C (n' := 81) dX8_readsNumbers_80 rfl ?_
          refine g_iconst C (n' := 82) dX8_readsNumbers_81 rfl ?_
          refine g_bipush C (n' := 84) (by decide) dX8_readsNumbers_82 rfl ?_
          refine g_callV C (n' := 87) (c_X8_number_2 l D Y C.2.2.2.2.2.2.2.2.1 q (sU (sU I 16 (tk1 (A 10) (I 11) (tk2 (A 10) (I 11) (I 17)))) 17 (tk2 (A 10) (I 11) (tk2 (A 10) (I 11) (I 17)))) (sU A 22 (sU (sU (A 22) 0 (t_num (A 10) (I 11) (I 16) (I 17) 0 ((I 18) - 1))) 1 (t_num (A 10) (I 11) (tk1 (A 10) (I 11) (I 17)) (tk2 (A 10) (I 11) (I 17)) 0 ((I 18) - 1)))) F Dd 0 99 (sm_put (sm_put hsI (by omega)) (by omega)) (sm_putA hsA (sm_putR (sm_putR (hsA 22) (by omega)) (by omega))) (by show mtk _; unfold mtk; show 0 ≤ (tk1 (A 10) (I 11) (tk2 (A 10) (I 11) (I 17))) ∧ (tk1 (A 10) (I 11) (tk2 (A 10) (I 11) (I 17))) ≤ (tk2 (A 10) (I 11) (tk2 (A 10) (I 11) (I 17))) ∧ (tk2 (A 10) (I 11) (tk2 (A 10) (I 11) (I 17))) ≤ I 11 ∧ I 11 ≤ 200; omega) (by omega) (by omega)) 3 kw_847 kc_X8_number (by decide +kernel) (pm0 _) 0 (ci := 6) rfl rfl rfl rfl ⟨Nat.le_of_ble_eq_true rfl, Nat.le_of_ble_eq_true rfl⟩ ⟨rfl, rfl⟩ ⟨Nat.le_of_ble_eq_true rfl, Nat.le_of_ble_eq_true rfl⟩ (Nat.le_of_ble_eq_true rfl) dX8_readsNumbers_84 rfl (fun r9 w9 hp9 => ?_)
          obtain (⟨hn10, rfl, rfl⟩ | ⟨hn10, rfl, rfl⟩) := hp9
          · skip
            replace hn10 : (t_num (A 10) (I 11) (tk1 (A 10) (I 11) (tk2 (A 10) (I 11) (I 17))) (tk2 (A 10) (I 11) (tk2 (A 10) (I 11) (I 17))) 0 99) = -1 := hn10
            refine g_perm (w' := (wMod q Y (sU (sU I 16 (tk1 (A 10) (I 11) (tk2 (A 10) (I 11) (I 17)))) 17 (tk2 (A 10) (I 11) (tk2 (A 10) (I 11) (I 17)))) (sU A 22 (sU (sU (A 22) 0 (t_num (A 10) (I 11) (I 16) (I 17) 0 ((I 18) - 1))) 1 (t_num (A 10) (I 11) (tk1 (A 10) (I 11) (I 17)) (tk2 (A 10) (I 11) (I 17)) 0 ((I 18) - 1)))) F Dd)) (pm0' _) ?_
            refine g_st (st' := [.int (iI 0)]) rfl ?_
            refine g_if_eq C (n' := 90) 109 dX8_readsNumbers_87 (by decide) rfl (by unfold inR; omega) (fun c11 => ?_) (fun c11 => ?_)
            · skip
              refine g_iconst C (n' := 110) dX8_readsNumbers_109 rfl ?_
              exact g_iret C hr hlk (nar_z (by omega)) (Or.inr (Or.inr (Or.inl ⟨hn2, hn6, hn10, rfl, rfl⟩))) dX8_readsNumbers_110
            · skip
              exfalso
              omega
          · skip
            replace hn10 : (t_num (A 10) (I 11) (tk1 (A 10) (I 11) (tk2 (A 10) (I 11) (I 17))) (tk2 (A 10) (I 11) (tk2 (A 10) (I 11) (I 17))) 0 99) ≠ -1 ∧ 0 ≤ (t_num (A 10) (I 11) (tk1 (A 10) (I 11) (tk2 (A 10) (I 11) (I 17))) (tk2 (A 10) (I 11) (tk2 (A 10) (I 11) (I 17))) 0 99) ∧ (t_num (A 10) (I 11) (tk1 (A 10) (I 11) (tk2 (A 10) (I 11) (I 17))) (tk2 (A 10) (I 11) (tk2 (A 10) (I 11) (I 17))) 0 99) ≤ 99 := hn10
            have hthn10 := tk_n (L := (A 10)) (n := (I 11)) (e := (tk2 (A 10) (I 11) (tk2 (A 10) (I 11) (I 17)))) (by omega)
            refine g_perm (w' := (wMod q Y (sU (sU I 16 (tk1 (A 10) (I 11) (tk2 (A 10) (I 11) (tk2 (A 10) (I 11) (I 17))))) 17 (tk2 (A 10) (I 11) (tk2 (A 10) (I 11) (tk2 (A 10) (I 11) (I 17))))) (sU A 22 (sU (sU (sU (A 22) 0 (t_num (A 10) (I 11) (I 16) (I 17) 0 ((I 18) - 1))) 1 (t_num (A 10) (I 11) (tk1 (A 10) (I 11) (I 17)) (tk2 (A 10) (I 11) (I 17)) 0 ((I 18) - 1))) 2 (t_num (A 10) (I 11) (tk1 (A 10) (I 11) (tk2 (A 10) (I 11) (I 17))) (tk2 (A 10) (I 11) (tk2 (A 10) (I 11) (I 17))) 0 99))) F Dd)) (pm0' _) ?_
            refine g_st (st' := [.int (iI 1)]) rfl ?_
            refine g_if_eq C (n' := 90) 109 dX8_readsNumbers_87 (by decide) rfl (by unfold inR; omega) (fun c12 => ?_) (fun c12 => ?_)
            · skip
              exfalso
              omega
            · skip
              refine g_aload_n C (n' := 91) 0 rfl dX8_readsNumbers_90 rfl rfl ?_
              refine g_iconst C (n' := 92) dX8_readsNumbers_91 rfl ?_
              refine g_iconst C (n' := 93) dX8_readsNumbers_92 rfl ?_
              refine g_aload_n C (n' := 94) 0 rfl dX8_readsNumbers_93 rfl rfl ?_
              refine g_get C (n' := 97) (Cn := RX8) (T := TX8) (N := 35) (ci := 6) (v := .ref (q 22)) ga_X8 0 rfl rfl 22 (by decide) kw_712 rfl rfl dX8_readsNumbers_94 rfl ?_
              refine g_iconst C (n' := 98) dX8_readsNumbers_97 rfl ?_
              refine g_ialdN C (n' := 99) (f := (sU (sU (sU (A 22) 0 (t_num (A 10) (I 11) (I 16) (I 17) 0 ((I 18) - 1))) 1 (t_num (A 10) (I 11) (tk1 (A 10) (I 11) (I 17)) (tk2 (A 10) (I 11) (I 17)) 0 ((I 18) - 1))) 2 (t_num (A 10) (I 11) (tk1 (A 10) (I 11) (tk2 (A 10) (I 11) (I 17))) (tk2 (A 10) (I 11) (tk2 (A 10) (I 11) (I 17))) 0 99))) (j := 2) 10 0 rfl rfl (by omega) (by decide) rfl dX8_readsNumbers_98 rfl ?_
              refine g_st (st' := [.int (iI (t_num (A 10) (I 11) (tk1 (A 10) (I 11) (tk2 (A 10) (I 11) (I 17))) (tk2 (A 10) (I 11) (tk2 (A 10) (I 11) (I 17))) 0 99)), .int (iI 0), .int (iI 3), .ref (q 99)]) rfl ?_
              refine g_callV C (n' := 102) (c_X8_number_3 l D Y C.2.2.2.2.2.2.2.2.1 q (sU (sU I 16 (tk1 (A 10) (I 11) (tk2 (A 10) (I 11) (tk2 (A 10) (I 11) (I 17))))) 17 (tk2 (A 10) (I 11) (tk2 (A 10) (I 11) (tk2 (A 10) (I 11) (I 17))))) (sU A 22 (sU (sU (sU (A 22) 0 (t_num (A 10) (I 11) (I 16) (I 17) 0 ((I 18) - 1))) 1 (t_num (A 10) (I 11) (tk1 (A 10) (I 11) (I 17)) (tk2 (A 10) (I 11) (I 17)) 0 ((I 18) - 1))) 2 (t_num (A 10) (I 11) (tk1 (A 10) (I 11) (tk2 (A 10) (I 11) (I 17))) (tk2 (A 10) (I 11) (tk2 (A 10) (I 11) (I 17))) 0 99))) F Dd 0 (t_num (A 10) (I 11) (tk1 (A 10) (I 11) (tk2 (A 10) (I 11) (I 17))) (tk2 (A 10) (I 11) (tk2 (A 10) (I 11) (I 17))) 0 99) (sm_put (sm_put hsI (by omega)) (by omega)) (sm_putA hsA (sm_putR (sm_putR (sm_putR (hsA 22) (by omega)) (by omega)) (by omega))) (by show mtk _; unfold mtk; show 0 ≤ (tk1 (A 10) (I 11) (tk2 (A 10) (I 11) (tk2 (A 10) (I 11) (I 17)))) ∧ (tk1 (A 10) (I 11) (tk2 (A 10) (I 11) (tk2 (A 10) (I 11) (I 17)))) ≤ (tk2 (A 10) (I 11) (tk2 (A 10) (I 11) (tk2 (A 10) (I 11) (I 17)))) ∧ (tk2 (A 10) (I 11) (tk2 (A 10) (I 11) (tk2 (A 10) (I 11) (I 17)))) ≤ I 11 ∧ I 11 ≤ 200; omega) (by omega) (by omega)) 3 kw_847 kc_X8_number (by decide +kernel) (pm0 _) 0 (ci := 6) rfl rfl rfl rfl ⟨Nat.le_of_ble_eq_true rfl, Nat.le_of_ble_eq_true rfl⟩ ⟨rfl, rfl⟩ ⟨Nat.le_of_ble_eq_true rfl, Nat.le_of_ble_eq_true rfl⟩ (Nat.le_of_ble_eq_true rfl) dX8_readsNumbers_99 rfl (fun r9 w9 hp13 => ?_)
              obtain (⟨hn14, rfl, rfl⟩ | ⟨hn14, rfl, rfl⟩) := hp13
              · skip
                replace hn14 : (t_num (A 10) (I 11) (tk1 (A 10) (I 11) (tk2 (A 10) (I 11) (tk2 (A 10) (I 11) (I 17)))) (tk2 (A 10) (I 11) (tk2 (A 10) (I 11) (tk2 (A 10) (I 11) (I 17)))) 0 (t_num (A 10) (I 11) (tk1 (A 10) (I 11) (tk2 (A 10) (I 11) (I 17))) (tk2 (A 10) (I 11) (tk2 (A 10) (I 11) (I 17))) 0 99)) = -1 := hn14
                refine g_perm (w' := (wMod q Y (sU (sU I 16 (tk1 (A 10) (I 11) (tk2 (A 10) (I 11) (tk2 (A 10) (I 11) (I 17))))) 17 (tk2 (A 10) (I 11) (tk2 (A 10) (I 11) (tk2 (A 10) (I 11) (I 17))))) (sU A 22 (sU (sU (sU (A 22) 0 (t_num (A 10) (I 11) (I 16) (I 17) 0 ((I 18) - 1))) 1 (t_num (A 10) (I 11) (tk1 (A 10) (I 11) (I 17)) (tk2 (A 10) (I 11) (I 17)) 0 ((I 18) - 1))) 2 (t_num (A 10) (I 11) (tk1 (A 10) (I 11) (tk2 (A 10) (I 11) (I 17))) (tk2 (A 10) (I 11) (tk2 (A 10) (I 11) (I 17))) 0 99))) F Dd)) (pm0' _) ?_
                refine g_st (st' := [.int (iI 0)]) rfl ?_
                refine g_if_eq C (n' := 105) 109 dX8_readsNumbers_102 (by decide) rfl (by unfold inR; omega) (fun c15 => ?_) (fun c15 => ?_)
                · skip
                  refine g_iconst C (n' := 110) dX8_readsNumbers_109 rfl ?_
                  exact g_iret C hr hlk (nar_z (by omega)) (Or.inr (Or.inr (Or.inr (Or.inl ⟨hn2, hn6, hn10, hn14, rfl, rfl⟩)))) dX8_readsNumbers_110
                · skip
                  exfalso
                  omega
              · skip
                replace hn14 : (t_num (A 10) (I 11) (tk1 (A 10) (I 11) (tk2 (A 10) (I 11) (tk2 (A 10) (I 11) (I 17)))) (tk2 (A 10) (I 11) (tk2 (A 10) (I 11) (tk2 (A 10) (I 11) (I 17)))) 0 (t_num (A 10) (I 11) (tk1 (A 10) (I 11) (tk2 (A 10) (I 11) (I 17))) (tk2 (A 10) (I 11) (tk2 (A 10) (I 11) (I 17))) 0 99)) ≠ -1 ∧ 0 ≤ (t_num (A 10) (I 11) (tk1 (A 10) (I 11) (tk2 (A 10) (I 11) (tk2 (A 10) (I 11) (I 17)))) (tk2 (A 10) (I 11) (tk2 (A 10) (I 11) (tk2 (A 10) (I 11) (I 17)))) 0 (t_num (A 10) (I 11) (tk1 (A 10) (I 11) (tk2 (A 10) (I 11) (I 17))) (tk2 (A 10) (I 11) (tk2 (A 10) (I 11) (I 17))) 0 99)) ∧ (t_num (A 10) (I 11) (tk1 (A 10) (I 11) (tk2 (A 10) (I 11) (tk2 (A 10) (I 11) (I 17)))) (tk2 (A 10) (I 11) (tk2 (A 10) (I 11) (tk2 (A 10) (I 11) (I 17)))) 0 (t_num (A 10) (I 11) (tk1 (A 10) (I 11) (tk2 (A 10) (I 11) (I 17))) (tk2 (A 10) (I 11) (tk2 (A 10) (I 11) (I 17))) 0 99)) ≤ (t_num (A 10) (I 11) (tk1 (A 10) (I 11) (tk2 (A 10) (I 11) (I 17))) (tk2 (A 10) (I 11) (tk2 (A 10) (I 11) (I 17))) 0 99) := hn14
                have hthn14 := tk_n (L := (A 10)) (n := (I 11)) (e := (tk2 (A 10) (I 11) (tk2 (A 10) (I 11) (tk2 (A 10) (I 11) (I 17))))) (by omega)
                refine g_perm (w' := (wMod q Y (sU (sU I 16 (tk1 (A 10) (I 11) (tk2 (A 10) (I 11) (tk2 (A 10) (I 11) (tk2 (A 10) (I 11) (I 17)))))) 17 (tk2 (A 10) (I 11) (tk2 (A 10) (I 11) (tk2 (A 10) (I 11) (tk2 (A 10) (I 11) (I 17)))))) (sU A 22 (sU (sU (sU (sU (A 22) 0 (t_num (A 10) (I 11) (I 16) (I 17) 0 ((I 18) - 1))) 1 (t_num (A 10) (I 11) (tk1 (A 10) (I 11) (I 17)) (tk2 (A 10) (I 11) (I 17)) 0 ((I 18) - 1))) 2 (t_num (A 10) (I 11) (tk1 (A 10) (I 11) (tk2 (A 10) (I 11) (I 17))) (tk2 (A 10) (I 11) (tk2 (A 10) (I 11) (I 17))) 0 99)) 3 (t_num (A 10) (I 11) (tk1 (A 10) (I 11) (tk2 (A 10) (I 11) (tk2 (A 10) (I 11) (I 17)))) (tk2 (A 10) (I 11) (tk2 (A 10) (I 11) (tk2 (A 10) (I 11) (I 17)))) 0 (t_num (A 10) (I 11) (tk1 (A 10) (I 11) (tk2 (A 10) (I 11) (I 17))) (tk2 (A 10) (I 11) (tk2 (A 10) (I 11) (I 17))) 0 99)))) F Dd)) (pm0' _) ?_
                refine g_st (st' := [.int (iI 1)]) rfl ?_
                refine g_if_eq C (n' := 105) 109 dX8_readsNumbers_102 (by decide) rfl (by unfold inR; omega) (fun c16 => ?_) (fun c16 => ?_)
                · skip
                  exfalso
                  omega
                · skip
                  refine g_iconst C (n' := 106) dX8_readsNumbers_105 rfl ?_
                  refine g_goto C 110 dX8_readsNumbers_106 (by decide) ?_
                  exact g_iret C hr hlk (nar_z (by omega)) (Or.inr (Or.inr (Or.inr (Or.inr (⟨hn2, hn6, hn10, hn14, rfl, rfl⟩))))) dX8_readsNumbers_110
set_option maxRecDepth 100000 in
set_option maxHeartbeats 4000000 in
theorem c_X8_anew (l : Launch) (D : va_G) (Y : Nat → ClassId) {E : (Nat → Prop) → State → Heap → Prop} (hE : g_Stab E) (q : Nat → Nat) (I : Nat → Int) (A : Nat → Nat → Int) (F : Nat → UInt32) (Dd : Nat → UInt64) (x : Int) : g_Ct l yX8_anew cX8_anew 2 none ({ frames := 0, cells := 0, slots := 0, locals := 0 } : Room) D (tysY Y) E [.ref (q 99), .int (iI x)] (wMod q Y I A F Dd) 0 0 (g_det none (wMod q Y (sU (sU (sU (sU (sU I 1 x) 2 0) 5 0) 6 0) 7 1) (sU A 0 (sU (A 0) 0 99)) F Dd)) := by
  refine g_ofG (own := RX8) hE (by decide) rfl (Nat.le_of_ble_eq_true rfl) [(0, .ref (q 99)), (1, .int (iI x))] rfl ?_
  intro p9 e9 s9 m9 b9 t9 c9 A9 C hr hlk hnm
  refine g_aload_n C (n' := 1) 0 rfl dX8_anew_0 rfl rfl ?_
  refine g_iload_n C (n' := 2) 1 rfl dX8_anew_1 rfl rfl ?_
  refine g_put C (n' := 5) (Cn := RX8) (T := TX8) (N := 35) (ci := 6) (v := .int (iI x)) ga_X8 0 rfl rfl 1 (by decide) kw_691 rfl tyX8 tyX8_ok nmX8 rfl rfl rfl rfl (Nat.le_of_ble_eq_true rfl) (wMod q Y (sU I 1 x) A F Dd) rfl dX8_anew_2 rfl ?_
  refine g_aload_n C (n' := 6) 0 rfl dX8_anew_5 rfl rfl ?_
  refine g_iconst C (n' := 7) dX8_anew_6 rfl ?_
  refine g_put C (n' := 10) (Cn := RX8) (T := TX8) (N := 35) (ci := 6) (v := .int (iI 0)) ga_X8 0 rfl rfl 2 (by decide) kw_692 rfl tyX8 tyX8_ok nmX8 rfl rfl rfl rfl (Nat.le_of_ble_eq_true rfl) (wMod q Y (sU (sU I 1 x) 2 0) A F Dd) rfl dX8_anew_7 rfl ?_
  refine g_aload_n C (n' := 11) 0 rfl dX8_anew_10 rfl rfl ?_
  refine g_iconst C (n' := 12) dX8_anew_11 rfl ?_
  refine g_put C (n' := 15) (Cn := RX8) (T := TX8) (N := 35) (ci := 6) (v := .int (iI 0)) ga_X8 0 rfl rfl 5 (by decide) kw_695 rfl tyX8 tyX8_ok nmX8 rfl rfl rfl rfl (Nat.le_of_ble_eq_true rfl) (wMod q Y (sU (sU (sU I 1 x) 2 0) 5 0) A F Dd) rfl dX8_anew_12 rfl ?_
  refine g_aload_n C (n' := 16) 0 rfl dX8_anew_15 rfl rfl ?_
  refine g_iconst C (n' := 17) dX8_anew_16 rfl ?_
  refine g_put C (n' := 20) (Cn := RX8) (T := TX8) (N := 35) (ci := 6) (v := .int (iI 0)) ga_X8 0 rfl rfl 6 (by decide) kw_696 rfl tyX8 tyX8_ok nmX8 rfl rfl rfl rfl (Nat.le_of_ble_eq_true rfl) (wMod q Y (sU (sU (sU (sU I 1 x) 2 0) 5 0) 6 0) A F Dd) rfl dX8_anew_17 rfl ?_
  refine g_aload_n C (n' := 21) 0 rfl dX8_anew_20 rfl rfl ?_
  refine g_iconst C (n' := 22) dX8_anew_21 rfl ?_
  refine g_put C (n' := 25) (Cn := RX8) (T := TX8) (N := 35) (ci := 6) (v := .int (iI 1)) ga_X8 0 rfl rfl 7 (by decide) kw_697 rfl tyX8 tyX8_ok nmX8 rfl rfl rfl rfl (Nat.le_of_ble_eq_true rfl) (wMod q Y (sU (sU (sU (sU (sU I 1 x) 2 0) 5 0) 6 0) 7 1) A F Dd) rfl dX8_anew_22 rfl ?_
  refine g_aload_n C (n' := 26) 0 rfl dX8_anew_25 rfl rfl ?_
  refine g_get C (n' := 29) (Cn := RX8) (T := TX8) (N := 35) (ci := 6) (v := .ref (q 0)) ga_X8 0 rfl rfl 0 (by decide) kw_690 rfl rfl dX8_anew_26 rfl ?_
  refine g_iconst C (n' := 30) dX8_anew_29 rfl ?_
  refine g_bipush C (n' := 32) (by decide) dX8_anew_30 rfl ?_
  refine g_iastN C (n' := 33) (f := (A 0)) (j := 0) 1 0 rfl rfl (by omega) (by decide) rfl dX8_anew_32 rfl (wMod q Y (sU (sU (sU (sU (sU I 1 x) 2 0) 5 0) 6 0) 7 1) (sU A 0 (sU (A 0) 0 99)) F Dd) rfl ?_
  refine g_vret C hr hlk ⟨rfl, ?_⟩ dX8_anew_33
  first | rfl | omega | ((repeat' split) <;> first | rfl | omega | (exfalso; omega))
set_option maxRecDepth 100000 in
set_option maxHeartbeats 4000000 in
theorem c_X8_does_0 (l : Launch) (D : va_G) (Y : Nat → ClassId) {E : (Nat → Prop) → State → Heap → Prop} (hE : g_Stab E) (q : Nat → Nat) (I : Nat → Int) (A : Nat → Nat → Int) (F : Nat → UInt32) (Dd : Nat → UInt64) (hsI : smI I) (hsA : smA A) : g_Ct l yX8_does cX8_does 2 none ({ frames := 1, cells := 0, slots := 0, locals := 21 } : Room) D (tysY Y) E [.ref (q 99), .int (iI 0)] (wMod q Y I A F Dd) 0 0 (g_det none (wMod q Y (sU (sU (sU (sU (sU I 1 (A 22 0)) 2 0) 5 0) 6 0) 7 1) (sU A 0 (sU (A 0) 0 99)) F Dd)) := by
  refine g_ofG (own := RX8) hE (by decide) rfl (Nat.le_of_ble_eq_true rfl) [(0, .ref (q 99)), (1, .int (iI 0))] rfl ?_
  intro p9 e9 s9 m9 b9 t9 c9 A9 C hr hlk hnm
  have hI := hsI
  have hA := hsA
  unfold smI at hI
  unfold smA at hA
  refine g_iload_n C (n' := 1) 1 rfl dX8_does_0 rfl rfl ?_
  refine g_tsIn C 36 dX8_does_1 (by unfold inR; omega) (by omega) (by omega) rfl (by decide) ?_
  refine g_aload_n C (n' := 37) 0 rfl dX8_does_36 rfl rfl ?_
  refine g_aload_n C (n' := 38) 0 rfl dX8_does_37 rfl rfl ?_
  refine g_get C (n' := 41) (Cn := RX8) (T := TX8) (N := 35) (ci := 6) (v := .ref (q 22)) ga_X8 0 rfl rfl 22 (by decide) kw_712 rfl rfl dX8_does_38 rfl ?_
  refine g_iconst C (n' := 42) dX8_does_41 rfl ?_
  refine g_ialdN C (n' := 43) (f := (A 22)) (j := 0) 10 0 rfl rfl (by omega) (by decide) rfl dX8_does_42 rfl ?_
  have h_42 := hA 22 0
  refine g_cVn C (n' := 46) (c_X8_anew l D Y C.2.2.2.2.2.2.2.2.1 q I A F Dd ((A 22) 0)) 1 kw_682 kc_X8_anew (by decide +kernel) (pm0 _) 0 (ci := 6) rfl rfl rfl rfl ⟨Nat.le_of_ble_eq_true rfl, Nat.le_of_ble_eq_true rfl⟩ ⟨rfl, rfl⟩ ⟨Nat.le_of_ble_eq_true rfl, Nat.le_of_ble_eq_true rfl⟩ (Nat.le_of_ble_eq_true rfl) dX8_does_43 rfl rfl (wMod q Y (sU (sU (sU (sU (sU I 1 ((A 22) 0)) 2 0) 5 0) 6 0) 7 1) (sU A 0 (sU ((A 0)) 0 99)) F Dd) (pm0' _) ?_
  refine g_goto C 178 dX8_does_46 (by decide) ?_
  refine g_vret C hr hlk ⟨rfl, ?_⟩ dX8_does_178
  first | rfl | omega | ((repeat' split) <;> first | rfl | omega | (exfalso; omega))
set_option maxRecDepth 100000 in
set_option maxHeartbeats 4000000 in
theorem c_X8_does_1 (l : Launch) (D : va_G) (Y : Nat → ClassId) {E : (Nat → Prop) → State → Heap → Prop} (hE : g_Stab E) (q : Nat → Nat) (I : Nat → Int) (A : Nat → Nat → Int) (F : Nat → UInt32) (Dd : Nat → UInt64) (hsI : smI I) (hsA : smA A) (h2 : 0 ≤ I 2 ∧ I 2 < 16) : g_Ct l yX8_does cX8_does 2 none ({ frames := 1, cells := 0, slots := 0, locals := 21 } : Room) D (tysY Y) E [.ref (q 99), .int (iI 1)] (wMod q Y I A F Dd) 0 0 (g_det none (wMod q Y (sU I 2 (I 2 + 1)) (sU (sU (sU A 3 (sU (A 3) (I 2).toNat (A 22 0))) 4 (sU (A 4) (I 2).toNat (A 22 1))) 0 (sU (sU (A 0) (1 + I 2).toNat (A 22 2)) (17 + I 2).toNat (A 22 3))) F Dd)) := by
  refine g_ofG (own := RX8) hE (by decide) rfl (Nat.le_of_ble_eq_true rfl) [(0, .ref (q 99)), (1, .int (iI 1))] rfl ?_
  intro p9 e9 s9 m9 b9 t9 c9 A9 C hr hlk hnm
  have hI := hsI
  have hA := hsA
  unfold smI at hI
  unfold smA at hA
  refine g_iload_n C (n' := 1) 1 rfl dX8_does_0 rfl rfl ?_
  refine g_tsIn C 49 dX8_does_1 (by unfold inR; omega) (by omega) (by omega) rfl (by decide) ?_
  refine g_aload_n C (n' := 50) 0 rfl dX8_does_49 rfl rfl ?_
  refine g_get C (n' := 53) (Cn := RX8) (T := TX8) (N := 35) (ci := 6) (v := .ref (q 3)) ga_X8 0 rfl rfl 3 (by decide) kw_693 rfl rfl dX8_does_50 rfl ?_
  refine g_aload_n C (n' := 54) 0 rfl dX8_does_53 rfl rfl ?_
  refine g_get C (n' := 57) (Cn := RX8) (T := TX8) (N := 35) (ci := 6) (v := .int (iI (I 2))) ga_X8 0 rfl rfl 2 (by decide) kw_692 rfl rfl dX8_does_54 rfl ?_
  have h_54 := hI 2
  refine g_aload_n C (n' := 58) 0 rfl dX8_does_57 rfl rfl ?_
  refine g_get C (n' := 61) (Cn := RX8) (T := TX8) (N := 35) (ci := 6) (v := .ref (q 22)) ga_X8 0 rfl rfl 22 (by decide) kw_712 rfl rfl dX8_does_58 rfl ?_
  refine g_iconst C (n' := 62) dX8_does_61 rfl ?_
  refine g_ialdN C (n' := 63) (f := (A 22)) (j := 0) 10 0 rfl rfl (by omega) (by decide) rfl dX8_does_62 rfl ?_
  have h_62 := hA 22 0
  refine g_iast C (n' := 64) (f := (A 3)) 2 0 rfl rfl (by omega) (by omega) (by decide) rfl dX8_does_63 rfl (wMod q Y I (sU A 3 (sU (A 3) (I 2).toNat ((A 22) 0))) F Dd) rfl ?_
  refine g_aload_n C (n' := 65) 0 rfl dX8_does_64 rfl rfl ?_
  refine g_get C (n' := 68) (Cn := RX8) (T := TX8) (N := 35) (ci := 6) (v := .ref (q 4)) ga_X8 0 rfl rfl 4 (by decide) kw_694 rfl rfl dX8_does_65 rfl ?_
  refine g_aload_n C (n' := 69) 0 rfl dX8_does_68 rfl rfl ?_
  refine g_get C (n' := 72) (Cn := RX8) (T := TX8) (N := 35) (ci := 6) (v := .int (iI (I 2))) ga_X8 0 rfl rfl 2 (by decide) kw_692 rfl rfl dX8_does_69 rfl ?_
  have h_69 := hI 2
  refine g_aload_n C (n' := 73) 0 rfl dX8_does_72 rfl rfl ?_
  refine g_get C (n' := 76) (Cn := RX8) (T := TX8) (N := 35) (ci := 6) (v := .ref (q 22)) ga_X8 0 rfl rfl 22 (by decide) kw_712 rfl rfl dX8_does_73 rfl ?_
  refine g_iconst C (n' := 77) dX8_does_76 rfl ?_
  refine g_ialdN C (n' := 78) (f := (A 22)) (j := 1) 10 0 rfl rfl (by omega) (by decide) rfl dX8_does_77 rfl ?_
  have h_77 := hA 22 1
  refine g_iast C (n' := 79) (f := (A 4)) 3 0 rfl rfl (by omega) (by omega) (by decide) rfl dX8_does_78 rfl (wMod q Y I (sU (sU A 3 (sU (A 3) (I 2).toNat ((A 22) 0))) 4 (sU (A 4) (I 2).toNat ((A 22) 1))) F Dd) rfl ?_
  refine g_aload_n C (n' := 80) 0 rfl dX8_does_79 rfl rfl ?_
  refine g_get C (n' := 83) (Cn := RX8) (T := TX8) (N := 35) (ci := 6) (v := .ref (q 0)) ga_X8 0 rfl rfl 0 (by decide) kw_690 rfl rfl dX8_does_80 rfl ?_
  refine g_iconst C (n' := 84) dX8_does_83 rfl ?_
  refine g_aload_n C (n' := 85) 0 rfl dX8_does_84 rfl rfl ?_
  refine g_get C (n' := 88) (Cn := RX8) (T := TX8) (N := 35) (ci := 6) (v := .int (iI (I 2))) ga_X8 0 rfl rfl 2 (by decide) kw_692 rfl rfl dX8_does_85 rfl ?_
  have h_85 := hI 2
  refine g_iadd C (n' := 89) dX8_does_88 rfl ?_
  refine g_aload_n C (n' := 90) 0 rfl dX8_does_89 rfl rfl ?_
  refine g_get C (n' := 93) (Cn := RX8) (T := TX8) (N := 35) (ci := 6) (v := .ref (q 22)) ga_X8 0 rfl rfl 22 (by decide) kw_712 rfl rfl dX8_does_90 rfl ?_
  refine g_iconst C (n' := 94) dX8_does_93 rfl ?_
  refine g_ialdN C (n' := 95) (f := (A 22)) (j := 2) 10 0 rfl rfl (by omega) (by decide) rfl dX8_does_94 rfl ?_
  have h_94 := hA 22 2
  refine g_iast C (n' := 96) (f := (A 0)) 1 0 rfl rfl (by omega) (by omega) (by decide) rfl dX8_does_95 rfl (wMod q Y I (sU (sU (sU A 3 (sU (A 3) (I 2).toNat ((A 22) 0))) 4 (sU (A 4) (I 2).toNat ((A 22) 1))) 0 (sU (A 0) (1 + (I 2)).toNat ((A 22) 2))) F Dd) rfl ?_
  refine g_aload_n C (n' := 97) 0 rfl dX8_does_96 rfl rfl ?_
  refine g_get C (n' := 100) (Cn := RX8) (T := TX8) (N := 35) (ci := 6) (v := .ref (q 0)) ga_X8 0 rfl rfl 0 (by decide) kw_690 rfl rfl dX8_does_97 rfl ?_
  refine g_bipush C (n' := 102) (by decide) dX8_does_100 rfl ?_
  refine g_aload_n C (n' := 103) 0 rfl dX8_does_102 rfl rfl ?_
  refine g_get C (n' := 106) (Cn := RX8) (T := TX8) (N := 35) (ci := 6) (v := .int (iI (I 2))) ga_X8 0 rfl rfl 2 (by decide) kw_692 rfl rfl dX8_does_103 rfl ?_
  have h_103 := hI 2
  refine g_iadd C (n' := 107) dX8_does_106 rfl ?_
  refine g_aload_n C (n' := 108) 0 rfl dX8_does_107 rfl rfl ?_
  refine g_get C (n' := 111) (Cn := RX8) (T := TX8) (N := 35) (ci := 6) (v := .ref (q 22)) ga_X8 0 rfl rfl 22 (by decide) kw_712 rfl rfl dX8_does_108 rfl ?_
  refine g_iconst C (n' := 112) dX8_does_111 rfl ?_
  refine g_ialdN C (n' := 113) (f := (A 22)) (j := 3) 10 0 rfl rfl (by omega) (by decide) rfl dX8_does_112 rfl ?_
  have h_112 := hA 22 3
  refine g_iast C (n' := 114) (f := (sU (A 0) (1 + (I 2)).toNat ((A 22) 2))) 1 0 rfl rfl (by omega) (by omega) (by decide) rfl dX8_does_113 rfl (wMod q Y I (sU (sU (sU A 3 (sU (A 3) (I 2).toNat ((A 22) 0))) 4 (sU (A 4) (I 2).toNat ((A 22) 1))) 0 (sU (sU (A 0) (1 + (I 2)).toNat ((A 22) 2)) (17 + (I 2)).toNat ((A 22) 3))) F Dd) rfl ?_
  refine g_aload_n C (n' := 115) 0 rfl dX8_does_114 rfl rfl ?_
  refine g_dup C (n' := 116) rfl dX8_does_115 rfl ?_
  refine g_get C (n' := 119) (Cn := RX8) (T := TX8) (N := 35) (ci := 6) (v := .int (iI (I 2))) ga_X8 0 rfl rfl 2 (by decide) kw_692 rfl rfl dX8_does_116 rfl ?_
  have h_116 := hI 2
  refine g_iconst C (n' := 120) dX8_does_119 rfl ?_
  refine g_iadd C (n' := 121) dX8_does_120 rfl ?_
  refine g_put C (n' := 124) (Cn := RX8) (T := TX8) (N := 35) (ci := 6) (v := .int (iI ((I 2) + 1))) ga_X8 0 rfl rfl 2 (by decide) kw_692 rfl tyX8 tyX8_ok nmX8 rfl rfl rfl rfl (Nat.le_of_ble_eq_true rfl) (wMod q Y (sU I 2 ((I 2) + 1)) (sU (sU (sU A 3 (sU (A 3) (I 2).toNat ((A 22) 0))) 4 (sU (A 4) (I 2).toNat ((A 22) 1))) 0 (sU (sU (A 0) (1 + (I 2)).toNat ((A 22) 2)) (17 + (I 2)).toNat ((A 22) 3))) F Dd) rfl dX8_does_121 rfl ?_
  refine g_goto C 178 dX8_does_124 (by decide) ?_
  refine g_vret C hr hlk ⟨rfl, ?_⟩ dX8_does_178
  first | rfl | omega | ((repeat' split) <;> first | rfl | omega | (exfalso; omega))
set_option maxRecDepth 100000 in
set_option maxHeartbeats 4000000 in
theorem c_X8_does_2 (l : Launch) (D : va_G) (Y : Nat → ClassId) {E : (Nat → Prop) → State → Heap → Prop} (hE : g_Stab E) (q : Nat → Nat) (I : Nat → Int) (A : Nat → Nat → Int) (F : Nat → UInt32) (Dd : Nat → UInt64) (hsI : smI I) (hsA : smA A) : g_Ct l yX8_does cX8_does 2 none ({ frames := 1, cells := 0, slots := 0, locals := 21 } : Room) D (tysY Y) E [.ref (q 99), .int (iI 2)] (wMod q Y I A F Dd) 0 0 (g_det none (wMod q Y (sU I 5 (A 22 0)) A F Dd)) := by
  refine g_ofG (own := RX8) hE (by decide) rfl (Nat.le_of_ble_eq_true rfl) [(0, .ref (q 99)), (1, .int (iI 2))] rfl ?_
  intro p9 e9 s9 m9 b9 t9 c9 A9 C hr hlk hnm
  have hI := hsI
  have hA := hsA
  unfold smI at hI
  unfold smA at hA
  refine g_iload_n C (n' := 1) 1 rfl dX8_does_0 rfl rfl ?_
  refine g_tsIn C 127 dX8_does_1 (by unfold inR; omega) (by omega) (by omega) rfl (by decide) ?_
  refine g_aload_n C (n' := 128) 0 rfl dX8_does_127 rfl rfl ?_
  refine g_aload_n C (n' := 129) 0 rfl dX8_does_128 rfl rfl ?_
  refine g_get C (n' := 132) (Cn := RX8) (T := TX8) (N := 35) (ci := 6) (v := .ref (q 22)) ga_X8 0 rfl rfl 22 (by decide) kw_712 rfl rfl dX8_does_129 rfl ?_
  refine g_iconst C (n' := 133) dX8_does_132 rfl ?_
  refine g_ialdN C (n' := 134) (f := (A 22)) (j := 0) 10 0 rfl rfl (by omega) (by decide) rfl dX8_does_133 rfl ?_
  have h_133 := hA 22 0
  refine g_put C (n' := 137) (Cn := RX8) (T := TX8) (N := 35) (ci := 6) (v := .int (iI ((A 22) 0))) ga_X8 0 rfl rfl 5 (by decide) kw_695 rfl tyX8 tyX8_ok nmX8 rfl rfl rfl rfl (Nat.le_of_ble_eq_true rfl) (wMod q Y (sU I 5 ((A 22) 0)) A F Dd) rfl dX8_does_134 rfl ?_
  refine g_goto C 178 dX8_does_137 (by decide) ?_
  refine g_vret C hr hlk ⟨rfl, ?_⟩ dX8_does_178
  first | rfl | omega | ((repeat' split) <;> first | rfl | omega | (exfalso; omega))
set_option maxRecDepth 100000 in
set_option maxHeartbeats 4000000 in
theorem c_X8_does_3 (l : Launch) (D : va_G) (Y : Nat → ClassId) {E : (Nat → Prop) → State → Heap → Prop} (hE : g_Stab E) (q : Nat → Nat) (I : Nat → Int) (A : Nat → Nat → Int) (F : Nat → UInt32) (Dd : Nat → UInt64) (hsI : smI I) (hsA : smA A) : g_Ct l yX8_does cX8_does 2 none ({ frames := 1, cells := 0, slots := 0, locals := 21 } : Room) D (tysY Y) E [.ref (q 99), .int (iI 3)] (wMod q Y I A F Dd) 0 0 (g_det none (wMod q Y (sU I 6 (A 22 0)) A F Dd)) := by
  refine g_ofG (own := RX8) hE (by decide) rfl (Nat.le_of_ble_eq_true rfl) [(0, .ref (q 99)), (1, .int (iI 3))] rfl ?_
  intro p9 e9 s9 m9 b9 t9 c9 A9 C hr hlk hnm
  have hI := hsI
  have hA := hsA
  unfold smI at hI
  unfold smA at hA
  refine g_iload_n C (n' := 1) 1 rfl dX8_does_0 rfl rfl ?_
  refine g_tsIn C 140 dX8_does_1 (by unfold inR; omega) (by omega) (by omega) rfl (by decide) ?_
  refine g_aload_n C (n' := 141) 0 rfl dX8_does_140 rfl rfl ?_
  refine g_aload_n C (n' := 142) 0 rfl dX8_does_141 rfl rfl ?_
  refine g_get C (n' := 145) (Cn := RX8) (T := TX8) (N := 35) (ci := 6) (v := .ref (q 22)) ga_X8 0 rfl rfl 22 (by decide) kw_712 rfl rfl dX8_does_142 rfl ?_
  refine g_iconst C (n' := 146) dX8_does_145 rfl ?_
  refine g_ialdN C (n' := 147) (f := (A 22)) (j := 0) 10 0 rfl rfl (by omega) (by decide) rfl dX8_does_146 rfl ?_
  have h_146 := hA 22 0
  refine g_put C (n' := 150) (Cn := RX8) (T := TX8) (N := 35) (ci := 6) (v := .int (iI ((A 22) 0))) ga_X8 0 rfl rfl 6 (by decide) kw_696 rfl tyX8 tyX8_ok nmX8 rfl rfl rfl rfl (Nat.le_of_ble_eq_true rfl) (wMod q Y (sU I 6 ((A 22) 0)) A F Dd) rfl dX8_does_147 rfl ?_
  refine g_goto C 178 dX8_does_150 (by decide) ?_
  refine g_vret C hr hlk ⟨rfl, ?_⟩ dX8_does_178
  first | rfl | omega | ((repeat' split) <;> first | rfl | omega | (exfalso; omega))
set_option maxRecDepth 100000 in
set_option maxHeartbeats 4000000 in
theorem c_X8_does_4 (l : Launch) (D : va_G) (Y : Nat → ClassId) {E : (Nat → Prop) → State → Heap → Prop} (hE : g_Stab E) (q : Nat → Nat) (I : Nat → Int) (A : Nat → Nat → Int) (F : Nat → UInt32) (Dd : Nat → UInt64) (hsI : smI I) (hsA : smA A) : g_Ct l yX8_does cX8_does 2 none ({ frames := 1, cells := 0, slots := 0, locals := 21 } : Room) D (tysY Y) E [.ref (q 99), .int (iI 4)] (wMod q Y I A F Dd) 0 0 (g_det none (wMod q Y (sU I 7 (A 22 0)) A F Dd)) := by
  refine g_ofG (own := RX8) hE (by decide) rfl (Nat.le_of_ble_eq_true rfl) [(0, .ref (q 99)), (1, .int (iI 4))] rfl ?_
  intro p9 e9 s9 m9 b9 t9 c9 A9 C hr hlk hnm
  have hI := hsI
  have hA := hsA
  unfold smI at hI
  unfold smA at hA
  refine g_iload_n C (n' := 1) 1 rfl dX8_does_0 rfl rfl ?_
  refine g_tsIn C 153 dX8_does_1 (by unfold inR; omega) (by omega) (by omega) rfl (by decide) ?_
  refine g_aload_n C (n' := 154) 0 rfl dX8_does_153 rfl rfl ?_
  refine g_aload_n C (n' := 155) 0 rfl dX8_does_154 rfl rfl ?_
  refine g_get C (n' := 158) (Cn := RX8) (T := TX8) (N := 35) (ci := 6) (v := .ref (q 22)) ga_X8 0 rfl rfl 22 (by decide) kw_712 rfl rfl dX8_does_155 rfl ?_
  refine g_iconst C (n' := 159) dX8_does_158 rfl ?_
  refine g_ialdN C (n' := 160) (f := (A 22)) (j := 0) 10 0 rfl rfl (by omega) (by decide) rfl dX8_does_159 rfl ?_
  have h_159 := hA 22 0
  refine g_put C (n' := 163) (Cn := RX8) (T := TX8) (N := 35) (ci := 6) (v := .int (iI ((A 22) 0))) ga_X8 0 rfl rfl 7 (by decide) kw_697 rfl tyX8 tyX8_ok nmX8 rfl rfl rfl rfl (Nat.le_of_ble_eq_true rfl) (wMod q Y (sU I 7 ((A 22) 0)) A F Dd) rfl dX8_does_160 rfl ?_
  refine g_goto C 178 dX8_does_163 (by decide) ?_
  refine g_vret C hr hlk ⟨rfl, ?_⟩ dX8_does_178
  first | rfl | omega | ((repeat' split) <;> first | rfl | omega | (exfalso; omega))
set_option maxRecDepth 100000 in
set_option maxHeartbeats 4000000 in
theorem c_X8_does_5 (l : Launch) (D : va_G) (Y : Nat → ClassId) {E : (Nat → Prop) → State → Heap → Prop} (hE : g_Stab E) (q : Nat → Nat) (I : Nat → Int) (A : Nat → Nat → Int) (F : Nat → UInt32) (Dd : Nat → UInt64) (hsI : smI I) (hsA : smA A) : g_Ct l yX8_does cX8_does 2 none ({ frames := 1, cells := 0, slots := 0, locals := 21 } : Room) D (tysY Y) E [.ref (q 99), .int (iI 5)] (wMod q Y I A F Dd) 0 0 (g_det none (wMod q Y I (sU A 0 (sU (A 0) 0 (A 22 0))) F Dd)) := by
  refine g_ofG (own := RX8) hE (by decide) rfl (Nat.le_of_ble_eq_true rfl) [(0, .ref (q 99)), (1, .int (iI 5))] rfl ?_
  intro p9 e9 s9 m9 b9 t9 c9 A9 C hr hlk hnm
  have hI := hsI
  have hA := hsA
  unfold smI at hI
  unfold smA at hA
  refine g_iload_n C (n' := 1) 1 rfl dX8_does_0 rfl rfl ?_
  refine g_tsOut C 166 dX8_does_1 (by unfold inR; omega) (by omega) (by decide) ?_
  refine g_aload_n C (n' := 167) 0 rfl dX8_does_166 rfl rfl ?_
  refine g_get C (n' := 170) (Cn := RX8) (T := TX8) (N := 35) (ci := 6) (v := .ref (q 0)) ga_X8 0 rfl rfl 0 (by decide) kw_690 rfl rfl dX8_does_167 rfl ?_
  refine g_iconst C (n' := 171) dX8_does_170 rfl ?_
  refine g_aload_n C (n' := 172) 0 rfl dX8_does_171 rfl rfl ?_
  refine g_get C (n' := 175) (Cn := RX8) (T := TX8) (N := 35) (ci := 6) (v := .ref (q 22)) ga_X8 0 rfl rfl 22 (by decide) kw_712 rfl rfl dX8_does_172 rfl ?_
  refine g_iconst C (n' := 176) dX8_does_175 rfl ?_
  refine g_ialdN C (n' := 177) (f := (A 22)) (j := 0) 10 0 rfl rfl (by omega) (by decide) rfl dX8_does_176 rfl ?_
  have h_176 := hA 22 0
  refine g_iastN C (n' := 178) (f := (A 0)) (j := 0) 1 0 rfl rfl (by omega) (by decide) rfl dX8_does_177 rfl (wMod q Y I (sU A 0 (sU (A 0) 0 ((A 22) 0))) F Dd) rfl ?_
  refine g_vret C hr hlk ⟨rfl, ?_⟩ dX8_does_178
  first | rfl | omega | ((repeat' split) <;> first | rfl | omega | (exfalso; omega))
