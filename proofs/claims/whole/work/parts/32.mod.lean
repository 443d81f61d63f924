/-! the reference: areThere, isFeasible -/
theorem m_rel_fst (a b : Nat) (c : Int) (x : (Nat → Int) × Int) : (m_rel a b c (x.1, 0)).1 = (m_rel a b c x).1 := by
  unfold m_rel
  by_cases q : x.1 b + c < x.1 a
  · rw [if_pos q, if_pos q]
  · rw [if_neg q, if_neg q]
theorem m_rel_snd (a b : Nat) (c : Int) (x : (Nat → Int) × Int) : (m_rel a b c x).2 = if x.1 b + c < x.1 a then 1 else x.2 := by
  unfold m_rel
  split <;> rfl
set_option maxRecDepth 100000 in
set_option maxHeartbeats 4000000 in
theorem lp_X8_at_z {p9 : Program} {l : Launch} {e9 : Env} {s9 : State} {m9 : MethodId} {a9 : Array Value} {b9 : List Frame} {t9 : Method} {c9 : Code} {D : va_G} {A9 : Nat → Prop} {Q9 : State → Prop} {E : (Nat → Prop) → State → Heap → Prop} {Y : Nat → ClassId} (C : g_Cx p9 s9 m9 a9 c9 cX8_areThere 4 RX8 D (tysY Y) A9 E) (q : Nat → Nat) (I : Nat → Int) (A : Nat → Nat → Int) (F : Nat → UInt32) (Dd : Nat → UInt64) (hsI : smI I) (hsA : smA A) (hE9 : okE I A) : ∀ (n9 : Nat) (k : Nat), (k : Int) + n9 = 8 → (g_G p9 l e9 ({ frames := 1, cells := 0, slots := 0, locals := 24 } : Room) s9 m9 a9 b9 t9 c9 4 D A9 Q9 0 0 (wMod q Y I (sU A 31 (p_z (A 31) 8)) F Dd) [(1, .int (iI ((8 : Nat) : Int))), (0, .ref (q 99))] 21 []) → g_G p9 l e9 ({ frames := 1, cells := 0, slots := 0, locals := 24 } : Room) s9 m9 a9 b9 t9 c9 4 D A9 Q9 0 0 (wMod q Y I (sU A 31 (p_z (A 31) k)) F Dd) [(1, .int (iI ((k : Nat) : Int))), (0, .ref (q 99))] 2 [] := by
  have hE := C.2.2.2.2.2.2.2.2.1
  intro n9
  induction n9 with
  | zero =>
    intro k hk K
    have hI := hsI
    have hA := hsA
    unfold smI at hI
    unfold smA at hA
    have hE1 := hE9
    unfold okE at hE1
    refine g_iload_n C (n' := 3) 0 rfl dX8_areThere_2 rfl rfl ?_
    refine g_bipush C (n' := 5) (by decide) dX8_areThere_3 rfl ?_
    refine g_icmp_ge C (n' := 8) 21 dX8_areThere_5 (by decide) rfl (by unfold inR; omega) (by unfold inR; omega) (fun c1 => ?_) (fun c1 => ?_)
    · skip
      have ek : k = 8 := by omega
      rw [ek]
      exact K
    · skip
      exfalso
      omega
  | succ n9 ih =>
    intro k hk K
    have hI := hsI
    have hA := hsA
    unfold smI at hI
    unfold smA at hA
    have hE1 := hE9
    unfold okE at hE1
    refine g_iload_n C (n' := 3) 0 rfl dX8_areThere_2 rfl rfl ?_
    refine g_bipush C (n' := 5) (by decide) dX8_areThere_3 rfl ?_
    refine g_icmp_ge C (n' := 8) 21 dX8_areThere_5 (by decide) rfl (by unfold inR; omega) (by unfold inR; omega) (fun c1 => ?_) (fun c1 => ?_)
    · skip
      exfalso
      omega
    · skip
      refine g_aload_n C (n' := 9) 1 rfl dX8_areThere_8 rfl rfl ?_
      refine g_get C (n' := 12) (Cn := RX8) (T := TX8) (N := 35) (ci := 6) (v := .ref (q 31)) ga_X8 0 rfl rfl 31 (by decide) kw_721 rfl rfl dX8_areThere_9 rfl ?_
      refine g_iload_n C (n' := 13) 0 rfl dX8_areThere_12 rfl rfl ?_
      refine g_iconst C (n' := 14) dX8_areThere_13 rfl ?_
      refine g_iastN C (n' := 15) (f := (p_z (A 31) k)) (j := k) 19 0 rfl rfl (by omega) (by decide) rfl dX8_areThere_14 rfl (wMod q Y I (sU A 31 (sU (p_z (A 31) k) k 0)) F Dd) rfl ?_
      refine g_iinc C (n' := 18) 0 [(1, .int (iI (((k : Nat) : Int) + 1))), (0, .ref (q 99))] rfl dX8_areThere_15 rfl (by decide) rfl ?_
      refine g_goto C 2 dX8_areThere_18 (by decide) ?_
      rw [show ((sU (p_z (A 31) k) k 0) : Nat → Int) = p_z (A 31) (k + 1) from by
        funext j
        unfold sU p_z
        (repeat' split) <;> first | rfl | omega]
      refine g_lv (lv' := [(1, .int (iI ((k + 1 : Nat) : Int))), (0, .ref (q 99))]) [0, 1] rfl ?_
      exact ih (k + 1) (by omega) K
set_option maxRecDepth 100000 in
set_option maxHeartbeats 4000000 in
theorem lp_X8_at_p {p9 : Program} {l : Launch} {e9 : Env} {s9 : State} {m9 : MethodId} {a9 : Array Value} {b9 : List Frame} {t9 : Method} {c9 : Code} {D : va_G} {A9 : Nat → Prop} {Q9 : State → Prop} {E : (Nat → Prop) → State → Heap → Prop} {Y : Nat → ClassId} (C : g_Cx p9 s9 m9 a9 c9 cX8_areThere 4 RX8 D (tysY Y) A9 E) (q : Nat → Nat) (I : Nat → Int) (A : Nat → Nat → Int) (F : Nat → UInt32) (Dd : Nat → UInt64) (x : (Nat → Int) × Int) (m rd : Int) (hsI : smI I) (hsA : smA A) (hE9 : okE I A) (hx : e_bd m x) (hm : 0 ≤ m ∧ m ≤ 900000) : ∀ (n9 : Nat) (p : Nat), (p : Int) + n9 = I 2 → (g_G p9 l e9 ({ frames := 1, cells := 0, slots := 0, locals := 24 } : Room) s9 m9 a9 b9 t9 c9 4 D A9 Q9 0 0 (wMod q Y I (sU A 31 (m_pass A (I 2).toNat x).1) F Dd) [(3, .int (iI (((I 2).toNat : Nat) : Int))), (1, .int (iI ((m_pass A (I 2).toNat x).2))), (2, .int (iI rd)), (0, .ref (q 99))] 125 []) → g_G p9 l e9 ({ frames := 1, cells := 0, slots := 0, locals := 24 } : Room) s9 m9 a9 b9 t9 c9 4 D A9 Q9 0 0 (wMod q Y I (sU A 31 (m_pass A p x).1) F Dd) [(3, .int (iI ((p : Nat) : Int))), (1, .int (iI ((m_pass A p x).2))), (2, .int (iI rd)), (0, .ref (q 99))] 41 [] := by
  have hE := C.2.2.2.2.2.2.2.2.1
  intro n9
  induction n9 with
  | zero =>
    intro p hp K
    have hI := hsI
    have hA := hsA
    unfold smI at hI
    unfold smA at hA
    have hE1 := hE9
    unfold okE at hE1
    have hbd := m_pass_r hE9 hx p (by omega)
    have hfl := hbd.2.2
    refine g_iload_n C (n' := 42) 0 rfl dX8_areThere_41 rfl rfl ?_
    refine g_aload_n C (n' := 43) 3 rfl dX8_areThere_42 rfl rfl ?_
    refine g_get C (n' := 46) (Cn := RX8) (T := TX8) (N := 35) (ci := 6) (v := .int (iI (I 2))) ga_X8 0 rfl rfl 2 (by decide) kw_692 rfl rfl dX8_areThere_43 rfl ?_
    have h_43 := hI 2
    refine g_icmp_ge C (n' := 49) 125 dX8_areThere_46 (by decide) rfl (by unfold inR; omega) (by unfold inR; omega) (fun c1 => ?_) (fun c1 => ?_)
    · skip
      have ep : p = (I 2).toNat := by omega
      rw [ep]
      exact K
    · skip
      exfalso
      omega
  | succ n9 ih =>
    intro p hp K
    have hI := hsI
    have hA := hsA
    unfold smI at hI
    unfold smA at hA
    have hE1 := hE9
    unfold okE at hE1
    have hbd := m_pass_r hE9 hx p (by omega)
    have hfl := hbd.2.2
    refine g_iload_n C (n' := 42) 0 rfl dX8_areThere_41 rfl rfl ?_
    refine g_aload_n C (n' := 43) 3 rfl dX8_areThere_42 rfl rfl ?_
    refine g_get C (n' := 46) (Cn := RX8) (T := TX8) (N := 35) (ci := 6) (v := .int (iI (I 2))) ga_X8 0 rfl rfl 2 (by decide) kw_692 rfl rfl dX8_areThere_43 rfl ?_
    have h_43 := hI 2
    refine g_icmp_ge C (n' := 49) 125 dX8_areThere_46 (by decide) rfl (by unfold inR; omega) (by unfold inR; omega) (fun c1 => ?_) (fun c1 => ?_)
    · skip
      exfalso
      omega
    · skip
      have hp9 := hE1.2.2 p (by omega)
      have hb2 := m_rel_r (a := (A 3 p).toNat) (b := (A 4 p).toNat) (c := A 29 p) (by omega) (by omega) (by omega) hbd
      have hs1 := hbd.1 (A 3 p).toNat (by omega)
      have hs2 := hbd.1 (A 4 p).toNat (by omega)
      have hs3 := hb2.1 (A 3 p).toNat (by omega)
      have hs4 := hb2.1 (A 4 p).toNat (by omega)
      have hsm1 : smR (m_pass A p x).1 := fun k => by
        by_cases q9 : k < 8
        · have := hbd.1 k q9
          omega
        · exact hbd.2.1 k (by omega)
      have hsm2 : smR (m_rel (A 3 p).toNat (A 4 p).toNat (A 29 p) (m_pass A p x)).1 := fun k => by
        by_cases q9 : k < 8
        · have := hb2.1 k q9
          omega
        · exact hb2.2.1 k (by omega)
      refine g_aload_n C (n' := 50) 3 rfl dX8_areThere_49 rfl rfl ?_
      refine g_aload_n C (n' := 51) 3 rfl dX8_areThere_50 rfl rfl ?_
      refine g_get C (n' := 54) (Cn := RX8) (T := TX8) (N := 35) (ci := 6) (v := .ref (q 3)) ga_X8 0 rfl rfl 3 (by decide) kw_693 rfl rfl dX8_areThere_51 rfl ?_
      refine g_iload_n C (n' := 55) 0 rfl dX8_areThere_54 rfl rfl ?_
      refine g_ialdN C (n' := 56) (f := (A 3)) (j := p) 2 0 rfl rfl (by omega) (by decide) rfl dX8_areThere_55 rfl ?_
      have h_55 := hA 3 p
      refine g_aload_n C (n' := 57) 3 rfl dX8_areThere_56 rfl rfl ?_
      refine g_get C (n' := 60) (Cn := RX8) (T := TX8) (N := 35) (ci := 6) (v := .ref (q 4)) ga_X8 0 rfl rfl 4 (by decide) kw_694 rfl rfl dX8_areThere_57 rfl ?_
      refine g_iload_n C (n' := 61) 0 rfl dX8_areThere_60 rfl rfl ?_
      refine g_ialdN C (n' := 62) (f := (A 4)) (j := p) 3 0 rfl rfl (by omega) (by decide) rfl dX8_areThere_61 rfl ?_
      have h_61 := hA 4 p
      refine g_aload_n C (n' := 63) 3 rfl dX8_areThere_62 rfl rfl ?_
      refine g_get C (n' := 66) (Cn := RX8) (T := TX8) (N := 35) (ci := 6) (v := .ref (q 29)) ga_X8 0 rfl rfl 29 (by decide) kw_719 rfl rfl dX8_areThere_63 rfl ?_
      refine g_iload_n C (n' := 67) 0 rfl dX8_areThere_66 rfl rfl ?_
      refine g_ialdN C (n' := 68) (f := (A 29)) (j := p) 17 0 rfl rfl (by omega) (by decide) rfl dX8_areThere_67 rfl ?_
      have h_67 := hA 29 p
      refine g_cVv C (n' := 71) (v := .int (iI (if (m_pass A p x).1 ((A 4) p).toNat + ((A 29) p) < (m_pass A p x).1 ((A 3) p).toNat then 1 else 0))) (c_X8_makesLess l D Y C.2.2.2.2.2.2.2.2.1 q I (sU A 31 (m_pass A p x).1) F Dd ((A 3) p) ((A 4) p) ((A 29) p) hsI (sm_putA hsA hsm1) (by omega) (by omega) (by omega)) 3 kw_920 kc_X8_makesLess (by decide +kernel) (pm0 _) 0 (ci := 6) rfl rfl rfl rfl ⟨Nat.le_of_ble_eq_true rfl, Nat.le_of_ble_eq_true rfl⟩ ⟨rfl, rfl⟩ ⟨Nat.le_of_ble_eq_true rfl, Nat.le_of_ble_eq_true rfl⟩ (Nat.le_of_ble_eq_true rfl) dX8_areThere_68 rfl rfl (wMod q Y I (sU A 31 (m_rel ((A 3) p).toNat ((A 4) p).toNat ((A 29) p) ((m_pass A p x).1, 0)).1) F Dd) (pm0' _) ?_
      rw [m_rel_fst]
      refine g_if_ne C (n' := 74) 78 dX8_areThere_71 (by decide) rfl bz_r (fun c2 => ?_) (fun c2 => ?_)
      · skip
        replace c2 := bz_ne.mp c2
        refine g_iconst C (n' := 79) dX8_areThere_78 rfl ?_
        refine g_goto C 83 dX8_areThere_79 (by decide) ?_
        refine g_istore_n C (n' := 84) [(1, .int (iI 1)), (3, .int (iI ((p : Nat) : Int))), (2, .int (iI rd)), (0, .ref (q 99))] dX8_areThere_83 rfl rfl (by decide) rfl ?_
        refine g_aload_n C (n' := 85) 3 rfl dX8_areThere_84 rfl rfl ?_
        refine g_aload_n C (n' := 86) 3 rfl dX8_areThere_85 rfl rfl ?_
        refine g_get C (n' := 89) (Cn := RX8) (T := TX8) (N := 35) (ci := 6) (v := .ref (q 4)) ga_X8 0 rfl rfl 4 (by decide) kw_694 rfl rfl dX8_areThere_86 rfl ?_
        refine g_iload_n C (n' := 90) 1 rfl dX8_areThere_89 rfl rfl ?_
        refine g_ialdN C (n' := 91) (f := (A 4)) (j := p) 3 0 rfl rfl (by omega) (by decide) rfl dX8_areThere_90 rfl ?_
        have h_90 := hA 4 p
        refine g_aload_n C (n' := 92) 3 rfl dX8_areThere_91 rfl rfl ?_
        refine g_get C (n' := 95) (Cn := RX8) (T := TX8) (N := 35) (ci := 6) (v := .ref (q 3)) ga_X8 0 rfl rfl 3 (by decide) kw_693 rfl rfl dX8_areThere_92 rfl ?_
        refine g_iload_n C (n' := 96) 1 rfl dX8_areThere_95 rfl rfl ?_
        refine g_ialdN C (n' := 97) (f := (A 3)) (j := p) 2 0 rfl rfl (by omega) (by decide) rfl dX8_areThere_96 rfl ?_
        have h_96 := hA 3 p
        refine g_aload_n C (n' := 98) 3 rfl dX8_areThere_97 rfl rfl ?_
        refine g_get C (n' := 101) (Cn := RX8) (T := TX8) (N := 35) (ci := 6) (v := .ref (q 30)) ga_X8 0 rfl rfl 30 (by decide) kw_720 rfl rfl dX8_areThere_98 rfl ?_
        refine g_iload_n C (n' := 102) 1 rfl dX8_areThere_101 rfl rfl ?_
        refine g_ialdN C (n' := 103) (f := (A 30)) (j := p) 18 0 rfl rfl (by omega) (by decide) rfl dX8_areThere_102 rfl ?_
        have h_102 := hA 30 p
        refine g_cVv C (n' := 106) (v := .int (iI (if (m_rel (A 3 p).toNat (A 4 p).toNat (A 29 p) (m_pass A p x)).1 ((A 3) p).toNat + ((A 30) p) < (m_rel (A 3 p).toNat (A 4 p).toNat (A 29 p) (m_pass A p x)).1 ((A 4) p).toNat then 1 else 0))) (c_X8_makesLess l D Y C.2.2.2.2.2.2.2.2.1 q I (sU A 31 (m_rel (A 3 p).toNat (A 4 p).toNat (A 29 p) (m_pass A p x)).1) F Dd ((A 4) p) ((A 3) p) ((A 30) p) hsI (sm_putA hsA hsm2) (by omega) (by omega) (by omega)) 3 kw_920 kc_X8_makesLess (by decide +kernel) (pm0 _) 0 (ci := 6) rfl rfl rfl rfl ⟨Nat.le_of_ble_eq_true rfl, Nat.le_of_ble_eq_true rfl⟩ ⟨rfl, rfl⟩ ⟨Nat.le_of_ble_eq_true rfl, Nat.le_of_ble_eq_true rfl⟩ (Nat.le_of_ble_eq_true rfl) dX8_areThere_103 rfl rfl (wMod q Y I (sU A 31 (m_rel ((A 4) p).toNat ((A 3) p).toNat ((A 30) p) ((m_rel (A 3 p).toNat (A 4 p).toNat (A 29 p) (m_pass A p x)).1, 0)).1) F Dd) (pm0' _) ?_
        rw [m_rel_fst]
        refine g_if_ne C (n' := 109) 113 dX8_areThere_106 (by decide) rfl bz_r (fun c3 => ?_) (fun c3 => ?_)
        · skip
          replace c3 := bz_ne.mp c3
          refine g_iconst C (n' := 114) dX8_areThere_113 rfl ?_
          refine g_goto C 118 dX8_areThere_114 (by decide) ?_
          refine g_istore_n C (n' := 119) [(1, .int (iI 1)), (3, .int (iI ((p : Nat) : Int))), (2, .int (iI rd)), (0, .ref (q 99))] dX8_areThere_118 rfl rfl (by decide) rfl ?_
          refine g_iinc C (n' := 122) 1 [(3, .int (iI (((p : Nat) : Int) + 1))), (1, .int (iI 1)), (2, .int (iI rd)), (0, .ref (q 99))] rfl dX8_areThere_119 rfl (by decide) rfl ?_
          refine g_goto C 41 dX8_areThere_122 (by decide) ?_
          have e2 : (1 : Int) = (m_pass A (p + 1) x).2 := by
            rw [m_pass, m_rel_snd, m_rel_snd]
            (repeat' split) <;> omega
          refine g_lv (lv' := [(3, .int (iI ((p + 1 : Nat) : Int))), (1, .int (iI ((m_pass A (p + 1) x).2))), (2, .int (iI rd)), (0, .ref (q 99))]) [0, 1, 2, 3] (by rw [← e2]; rfl) ?_
          exact ih (p + 1) (by omega) K
        · skip
          replace c3 := bz_nne.mp c3
          refine g_iload_n C (n' := 110) 0 rfl dX8_areThere_109 rfl rfl ?_
          refine g_if_eq C (n' := 113) 117 dX8_areThere_110 (by decide) rfl (by unfold inR; omega) (fun c4 => ?_) (fun c4 => ?_)
          · skip
            exfalso
            omega
          · skip
            refine g_iconst C (n' := 114) dX8_areThere_113 rfl ?_
            refine g_goto C 118 dX8_areThere_114 (by decide) ?_
            refine g_istore_n C (n' := 119) [(1, .int (iI 1)), (3, .int (iI ((p : Nat) : Int))), (2, .int (iI rd)), (0, .ref (q 99))] dX8_areThere_118 rfl rfl (by decide) rfl ?_
            refine g_iinc C (n' := 122) 1 [(3, .int (iI (((p : Nat) : Int) + 1))), (1, .int (iI 1)), (2, .int (iI rd)), (0, .ref (q 99))] rfl dX8_areThere_119 rfl (by decide) rfl ?_
            refine g_goto C 41 dX8_areThere_122 (by decide) ?_
            have e2 : (1 : Int) = (m_pass A (p + 1) x).2 := by
              rw [m_pass, m_rel_snd, m_rel_snd]
              (repeat' split) <;> omega
            refine g_lv (lv' := [(3, .int (iI ((p + 1 : Nat) : Int))), (1, .int (iI ((m_pass A (p + 1) x).2))), (2, .int (iI rd)), (0, .ref (q 99))]) [0, 1, 2, 3] (by rw [← e2]; rfl) ?_
            exact ih (p + 1) (by omega) K
      · skip
        replace c2 := bz_nne.mp c2
        refine g_iload_n C (n' := 75) 1 rfl dX8_areThere_74 rfl rfl ?_
        refine g_if_eq C (n' := 78) 82 dX8_areThere_75 (by decide) rfl (by unfold inR; omega) (fun c5 => ?_) (fun c5 => ?_)
        · skip
          refine g_iconst C (n' := 83) dX8_areThere_82 rfl ?_
          refine g_istore_n C (n' := 84) [(1, .int (iI 0)), (3, .int (iI ((p : Nat) : Int))), (2, .int (iI rd)), (0, .ref (q 99))] dX8_areThere_83 rfl rfl (by decide) rfl ?_
          refine g_aload_n C (n' := 85) 3 rfl dX8_areThere_84 rfl rfl ?_
          refine g_aload_n C (n' := 86) 3 rfl dX8_areThere_85 rfl rfl ?_
          refine g_get C (n' := 89) (Cn := RX8) (T := TX8) (N := 35) (ci := 6) (v := .ref (q 4)) ga_X8 0 rfl rfl 4 (by decide) kw_694 rfl rfl dX8_areThere_86 rfl ?_
          refine g_iload_n C (n' := 90) 1 rfl dX8_areThere_89 rfl rfl ?_
          refine g_ialdN C (n' := 91) (f := (A 4)) (j := p) 3 0 rfl rfl (by omega) (by decide) rfl dX8_areThere_90 rfl ?_
          have h_90 := hA 4 p
          refine g_aload_n C (n' := 92) 3 rfl dX8_areThere_91 rfl rfl ?_
          refine g_get C (n' := 95) (Cn := RX8) (T := TX8) (N := 35) (ci := 6) (v := .ref (q 3)) ga_X8 0 rfl rfl 3 (by decide) kw_693 rfl rfl dX8_areThere_92 rfl ?_
          refine g_iload_n C (n' := 96) 1 rfl dX8_areThere_95 rfl rfl ?_
          refine g_ialdN C (n' := 97) (f := (A 3)) (j := p) 2 0 rfl rfl (by omega) (by decide) rfl dX8_areThere_96 rfl ?_
          have h_96 := hA 3 p
          refine g_aload_n C (n' := 98) 3 rfl dX8_areThere_97 rfl rfl ?_
          refine g_get C (n' := 101) (Cn := RX8) (T := TX8) (N := 35) (ci := 6) (v := .ref (q 30)) ga_X8 0 rfl rfl 30 (by decide) kw_720 rfl rfl dX8_areThere_98 rfl ?_
          refine g_iload_n C (n' := 102) 1 rfl dX8_areThere_101 rfl rfl ?_
          refine g_ialdN C (n' := 103) (f := (A 30)) (j := p) 18 0 rfl rfl (by omega) (by decide) rfl dX8_areThere_102 rfl ?_
          have h_102 := hA 30 p
          refine g_cVv C (n' := 106) (v := .int (iI (if (m_rel (A 3 p).toNat (A 4 p).toNat (A 29 p) (m_pass A p x)).1 ((A 3) p).toNat + ((A 30) p) < (m_rel (A 3 p).toNat (A 4 p).toNat (A 29 p) (m_pass A p x)).1 ((A 4) p).toNat then 1 else 0))) (c_X8_makesLess l D Y C.2.2.2.2.2.2.2.2.1 q I (sU A 31 (m_rel (A 3 p).toNat (A 4 p).toNat (A 29 p) (m_pass A p x)).1) F Dd ((A 4) p) ((A 3) p) ((A 30) p) hsI (sm_putA hsA hsm2) (by omega) (by omega) (by omega)) 3 kw_920 kc_X8_makesLess (by decide +kernel) (pm0 _) 0 (ci := 6) rfl rfl rfl rfl ⟨Nat.le_of_ble_eq_true rfl, Nat.le_of_ble_eq_true rfl⟩ ⟨rfl, rfl⟩ ⟨Nat.le_of_ble_eq_true rfl, Nat.le_of_ble_eq_true rfl⟩ (Nat.le_of_ble_eq_true rfl) dX8_areThere_103 rfl rfl (wMod q Y I (sU A 31 (m_rel ((A 4) p).toNat ((A 3) p).toNat ((A 30) p) ((m_rel (A 3 p).toNat (A 4 p).toNat (A 29 p) (m_pass A p x)).1, 0)).1) F Dd) (pm0' _) ?_
          rw [m_rel_fst]
          refine g_if_ne C (n' := 109) 113 dX8_areThere_106 (by decide) rfl bz_r (fun c6 => ?_) (fun c6 => ?_)
          · skip
            replace c6 := bz_ne.mp c6
            refine g_iconst C (n' := 114) dX8_areThere_113 rfl ?_
            refine g_goto C 118 dX8_areThere_114 (by decide) ?_
            refine g_istore_n C (n' := 119) [(1, .int (iI 1)), (3, .int (iI ((p : Nat) : Int))), (2, .int (iI rd)), (0, .ref (q 99))] dX8_areThere_118 rfl rfl (by decide) rfl ?_
            refine g_iinc C (n' := 122) 1 [(3, .int (iI (((p : Nat) : Int) + 1))), (1, .int (iI 1)), (2, .int (iI rd)), (0, .ref (q 99))] rfl dX8_areThere_119 rfl (by decide) rfl ?_
            refine g_goto C 41 dX8_areThere_122 (by decide) ?_
            have e2 : (1 : Int) = (m_pass A (p + 1) x).2 := by
              rw [m_pass, m_rel_snd, m_rel_snd]
              (repeat' split) <;> omega
            refine g_lv (lv' := [(3, .int (iI ((p + 1 : Nat) : Int))), (1, .int (iI ((m_pass A (p + 1) x).2))), (2, .int (iI rd)), (0, .ref (q 99))]) [0, 1, 2, 3] (by rw [← e2]; rfl) ?_
            exact ih (p + 1) (by omega) K
          · skip
            replace c6 := bz_nne.mp c6
            refine g_iload_n C (n' := 110) 0 rfl dX8_areThere_109 rfl rfl ?_
            refine g_if_eq C (n' := 113) 117 dX8_areThere_110 (by decide) rfl (by unfold inR; omega) (fun c7 => ?_) (fun c7 => ?_)
            · skip
              refine g_iconst C (n' := 118) dX8_areThere_117 rfl ?_
              refine g_istore_n C (n' := 119) [(1, .int (iI 0)), (3, .int (iI ((p : Nat) : Int))), (2, .int (iI rd)), (0, .ref (q 99))] dX8_areThere_118 rfl rfl (by decide) rfl ?_
              refine g_iinc C (n' := 122) 1 [(3, .int (iI (((p : Nat) : Int) + 1))), (1, .int (iI 0)), (2, .int (iI rd)), (0, .ref (q 99))] rfl dX8_areThere_119 rfl (by decide) rfl ?_
              refine g_goto C 41 dX8_areThere_122 (by decide) ?_
              have e2 : (0 : Int) = (m_pass A (p + 1) x).2 := by
                rw [m_pass, m_rel_snd, m_rel_snd]
                (repeat' split) <;> omega
              refine g_lv (lv' := [(3, .int (iI ((p + 1 : Nat) : Int))), (1, .int (iI ((m_pass A (p + 1) x).2))), (2, .int (iI rd)), (0, .ref (q 99))]) [0, 1, 2, 3] (by rw [← e2]; rfl) ?_
              exact ih (p + 1) (by omega) K
            · skip
              exfalso
              omega
        · skip
          refine g_iconst C (n' := 79) dX8_areThere_78 rfl ?_
          refine g_goto C 83 dX8_areThere_79 (by decide) ?_
          refine g_istore_n C (n' := 84) [(1, .int (iI 1)), (3, .int (iI ((p : Nat) : Int))), (2, .int (iI rd)), (0, .ref (q 99))] dX8_areThere_83 rfl rfl (by decide) rfl ?_
          refine g_aload_n C (n' := 85) 3 rfl dX8_areThere_84 rfl rfl ?_
          refine g_aload_n C (n' := 86) 3 rfl dX8_areThere_85 rfl rfl ?_
          refine g_get C (n' := 89) (Cn := RX8) (T := TX8) (N := 35) (ci := 6) (v := .ref (q 4)) ga_X8 0 rfl rfl 4 (by decide) kw_694 rfl rfl dX8_areThere_86 rfl ?_
          refine g_iload_n C (n' := 90) 1 rfl dX8_areThere_89 rfl rfl ?_
          refine g_ialdN C (n' := 91) (f := (A 4)) (j := p) 3 0 rfl rfl (by omega) (by decide) rfl dX8_areThere_90 rfl ?_
          have h_90 := hA 4 p
          refine g_aload_n C (n' := 92) 3 rfl dX8_areThere_91 rfl rfl ?_
          refine g_get C (n' := 95) (Cn := RX8) (T := TX8) (N := 35) (ci := 6) (v := .ref (q 3)) ga_X8 0 rfl rfl 3 (by decide) kw_693 rfl rfl dX8_areThere_92 rfl ?_
          refine g_iload_n C (n' := 96) 1 rfl dX8_areThere_95 rfl rfl ?_
          refine g_ialdN C (n' := 97) (f := (A 3)) (j := p) 2 0 rfl rfl (by omega) (by decide) rfl dX8_areThere_96 rfl ?_
          have h_96 := hA 3 p
          refine g_aload_n C (n' := 98) 3 rfl dX8_areThere_97 rfl rfl ?_
          refine g_get C (n' := 101) (Cn := RX8) (T := TX8) (N := 35) (ci := 6) (v := .ref (q 30)) ga_X8 0 rfl rfl 30 (by decide) kw_720 rfl rfl dX8_areThere_98 rfl ?_
          refine g_iload_n C (n' := 102) 1 rfl dX8_areThere_101 rfl rfl ?_
          refine g_ialdN C (n' := 103) (f := (A 30)) (j := p) 18 0 rfl rfl (by omega) (by decide) rfl dX8_areThere_102 rfl ?_
          have h_102 := hA 30 p
          refine g_cVv C (n' := 106) (v := .int (iI (if (m_rel (A 3 p).toNat (A 4 p).toNat (A 29 p) (m_pass A p x)).1 ((A 3) p).toNat + ((A 30) p) < (m_rel (A 3 p).toNat (A 4 p).toNat (A 29 p) (m_pass A p x)).1 ((A 4) p).toNat then 1 else 0))) (c_X8_makesLess l D Y C.2.2.2.2.2.2.2.2.1 q I (sU A 31 (m_rel (A 3 p).toNat (A 4 p).toNat (A 29 p) (m_pass A p x)).1) F Dd ((A 4) p) ((A 3) p) ((A 30) p) hsI (sm_putA hsA hsm2) (by omega) (by omega) (by omega)) 3 kw_920 kc_X8_makesLess (by decide +kernel) (pm0 _) 0 (ci := 6) rfl rfl rfl rfl ⟨Nat.le_of_ble_eq_true rfl, Nat.le_of_ble_eq_true rfl⟩ ⟨rfl, rfl⟩ ⟨Nat.le_of_ble_eq_true rfl, Nat.le_of_ble_eq_true rfl⟩ (Nat.le_of_ble_eq_true rfl) dX8_areThere_103 rfl rfl (wMod q Y I (sU A 31 (m_rel ((A 4) p).toNat ((A 3) p).toNat ((A 30) p) ((m_rel (A 3 p).toNat (A 4 p).toNat (A 29 p) (m_pass A p x)).1, 0)).1) F Dd) (pm0' _) ?_
          rw [m_rel_fst]
          refine g_if_ne C (n' := 109) 113 dX8_areThere_106 (by decide) rfl bz_r (fun c8 => ?_) (fun c8 => ?_)
          · skip
            replace c8 := bz_ne.mp c8
            refine g_iconst C (n' := 114) dX8_areThere_113 rfl ?_
            refine g_goto C 118 dX8_areThere_114 (by decide) ?_
            refine g_istore_n C (n' := 119) [(1, .int (iI 1)), (3, .int (iI ((p : Nat) : Int))), (2, .int (iI rd)), (0, .ref (q 99))] dX8_areThere_118 rfl rfl (by decide) rfl ?_
            refine g_iinc C (n' := 122) 1 [(3, .int (iI (((p : Nat) : Int) + 1))), (1, .int (iI 1)), (2, .int (iI rd)), (0, .ref (q 99))] rfl dX8_areThere_119 rfl (by decide) rfl ?_
            refine g_goto C 41 dX8_areThere_122 (by decide) ?_
            have e2 : (1 : Int) = (m_pass A (p + 1) x).2 := by
              rw [m_pass, m_rel_snd, m_rel_snd]
              (repeat' split) <;> omega
            refine g_lv (lv' := [(3, .int (iI ((p + 1 : Nat) : Int))), (1, .int (iI ((m_pass A (p + 1) x).2))), (2, .int (iI rd)), (0, .ref (q 99))]) [0, 1, 2, 3] (by rw [← e2]; rfl) ?_
            exact ih (p + 1) (by omega) K
          · skip
            replace c8 := bz_nne.mp c8
            refine g_iload_n C (n' := 110) 0 rfl dX8_areThere_109 rfl rfl ?_
            refine g_if_eq C (n' := 113) 117 dX8_areThere_110 (by decide) rfl (by unfold inR; omega) (fun c9 => ?_) (fun c9 => ?_)
            · skip
              exfalso
              omega
            · skip
              refine g_iconst C (n' := 114) dX8_areThere_113 rfl ?_
              refine g_goto C 118 dX8_areThere_114 (by decide) ?_
              refine g_istore_n C (n' := 119) [(1, .int (iI 1)), (3, .int (iI ((p : Nat) : Int))), (2, .int (iI rd)), (0, .ref (q 99))] dX8_areThere_118 rfl rfl (by decide) rfl ?_
              refine g_iinc C (n' := 122) 1 [(3, .int (iI (((p : Nat) : Int) + 1))), (1, .int (iI 1)), (2, .int (iI rd)), (0, .ref (q 99))] rfl dX8_areThere_119 rfl (by decide) rfl ?_
              refine g_goto C 41 dX8_areThere_122 (by decide) ?_
              have e2 : (1 : Int) = (m_pass A (p + 1) x).2 := by
                rw [m_pass, m_rel_snd, m_rel_snd]
                (repeat' split) <;> omega
              refine g_lv (lv' := [(3, .int (iI ((p + 1 : Nat) : Int))), (1, .int (iI ((m_pass A (p + 1) x).2))), (2, .int (iI rd)), (0, .ref (q 99))]) [0, 1, 2, 3] (by rw [← e2]; rfl) ?_
              exact ih (p + 1) (by omega) K
set_option maxRecDepth 100000 in
set_option maxHeartbeats 4000000 in
theorem lp_X8_at_r {p9 : Program} {l : Launch} {e9 : Env} {s9 : State} {m9 : MethodId} {a9 : Array Value} {b9 : List Frame} {t9 : Method} {c9 : Code} {D : va_G} {A9 : Nat → Prop} {Q9 : State → Prop} {E : (Nat → Prop) → State → Heap → Prop} {Y : Nat → ClassId} (C : g_Cx p9 s9 m9 a9 c9 cX8_areThere 4 RX8 D (tysY Y) A9 E) (q : Nat → Nat) (I : Nat → Int) (A : Nat → Nat → Int) (F : Nat → UInt32) (Dd : Nat → UInt64) (hsI : smI I) (hsA : smA A) (hE9 : okE I A) : ∀ (n9 : Nat) (k : Nat) (f : Int), (k : Int) + n9 = I 1 + 1 → ((f = 0 ∧ 1 ≤ k ∧ (k : Int) ≤ I 1 + 1 ∧ m_S A (I 2).toNat (p_z (A 31) 8) k = m_S A (I 2).toNat (p_z (A 31) 8) (k - 1)) ∨ (f = 1 ∧ (k : Int) ≤ I 1 + 1 ∧ (∀ j, j < k → ∃ a, a < (I 1).toNat ∧ m_S A (I 2).toNat (p_z (A 31) 8) (j + 1) a ≠ m_S A (I 2).toNat (p_z (A 31) 8) j a))) → (∀ (k : Nat) (f : Int), ((f = 0 ∧ 1 ≤ k ∧ (k : Int) ≤ I 1 + 1 ∧ m_S A (I 2).toNat (p_z (A 31) 8) k = m_S A (I 2).toNat (p_z (A 31) 8) (k - 1)) ∨ (f = 1 ∧ (k : Int) ≤ I 1 + 1 ∧ (∀ j, j < k → ∃ a, a < (I 1).toNat ∧ m_S A (I 2).toNat (p_z (A 31) 8) (j + 1) a ≠ m_S A (I 2).toNat (p_z (A 31) 8) j a))) → (f = 0 ∨ (k : Int) = I 1 + 1) → g_G p9 l e9 ({ frames := 1, cells := 0, slots := 0, locals := 24 } : Room) s9 m9 a9 b9 t9 c9 4 D A9 Q9 0 0 (wMod q Y I (sU A 31 (m_S A (I 2).toNat (p_z (A 31) 8) k)) F Dd) [(2, .int (iI ((k : Nat) : Int))), (1, .int (iI f)), (0, .ref (q 99))] 131 []) → g_G p9 l e9 ({ frames := 1, cells := 0, slots := 0, locals := 24 } : Room) s9 m9 a9 b9 t9 c9 4 D A9 Q9 0 0 (wMod q Y I (sU A 31 (m_S A (I 2).toNat (p_z (A 31) 8) k)) F Dd) [(2, .int (iI ((k : Nat) : Int))), (1, .int (iI f)), (0, .ref (q 99))] 25 [] := by
  have hE := C.2.2.2.2.2.2.2.2.1
  intro n9
  induction n9 with
  | zero =>
    intro k f hk hi K
    have hI := hsI
    have hA := hsA
    unfold smI at hI
    unfold smA at hA
    have hE1 := hE9
    unfold okE at hE1
    have hz9 : smR (p_z (A 31) 8) := fun k => by
      unfold p_z
      split
      · omega
      · exact hA 31 k
    have hf01 : f = 0 ∨ f = 1 := by rcases hi with h | h <;> omega
    refine g_iload_n C (n' := 26) 0 rfl dX8_areThere_25 rfl rfl ?_
    refine g_aload_n C (n' := 27) 2 rfl dX8_areThere_26 rfl rfl ?_
    refine g_get C (n' := 30) (Cn := RX8) (T := TX8) (N := 35) (ci := 6) (v := .int (iI (I 1))) ga_X8 0 rfl rfl 1 (by decide) kw_691 rfl rfl dX8_areThere_27 rfl ?_
    have h_27 := hI 1
    refine g_icmp_gt C (n' := 33) 131 dX8_areThere_30 (by decide) rfl (by unfold inR; omega) (by unfold inR; omega) (fun c1 => ?_) (fun c1 => ?_)
    · skip
      exact K k f hi (by omega)
    · skip
      exfalso
      omega
  | succ n9 ih =>
    intro k f hk hi K
    have hI := hsI
    have hA := hsA
    unfold smI at hI
    unfold smA at hA
    have hE1 := hE9
    unfold okE at hE1
    have hz9 : smR (p_z (A 31) 8) := fun k => by
      unfold p_z
      split
      · omega
      · exact hA 31 k
    have hf01 : f = 0 ∨ f = 1 := by rcases hi with h | h <;> omega
    refine g_iload_n C (n' := 26) 0 rfl dX8_areThere_25 rfl rfl ?_
    refine g_aload_n C (n' := 27) 2 rfl dX8_areThere_26 rfl rfl ?_
    refine g_get C (n' := 30) (Cn := RX8) (T := TX8) (N := 35) (ci := 6) (v := .int (iI (I 1))) ga_X8 0 rfl rfl 1 (by decide) kw_691 rfl rfl dX8_areThere_27 rfl ?_
    have h_27 := hI 1
    refine g_icmp_gt C (n' := 33) 131 dX8_areThere_30 (by decide) rfl (by unfold inR; omega) (by unfold inR; omega) (fun c1 => ?_) (fun c1 => ?_)
    · skip
      exfalso
      omega
    · skip
      refine g_iload_n C (n' := 34) 1 rfl dX8_areThere_33 rfl rfl ?_
      refine g_if_eq C (n' := 37) 131 dX8_areThere_34 (by decide) rfl (by unfold inR; omega) (fun c2 => ?_) (fun c2 => ?_)
      · skip
        exact K k f hi (by omega)
      · skip
        refine g_iconst C (n' := 38) dX8_areThere_37 rfl ?_
        refine g_istore_n C (n' := 39) [(1, .int (iI 0)), (2, .int (iI ((k : Nat) : Int))), (0, .ref (q 99))] dX8_areThere_38 rfl rfl (by decide) rfl ?_
        refine g_iconst C (n' := 40) dX8_areThere_39 rfl ?_
        refine g_istore_n C (n' := 41) [(3, .int (iI 0)), (1, .int (iI 0)), (2, .int (iI ((k : Nat) : Int))), (0, .ref (q 99))] dX8_areThere_40 rfl rfl (by decide) rfl ?_
        have hf1 : f = 1 := by rcases hi with h | h <;> omega
        have hch : (∀ j, j < k → ∃ a, a < (I 1).toNat ∧ m_S A (I 2).toNat (p_z (A 31) 8) (j + 1) a ≠ m_S A (I 2).toNat (p_z (A 31) 8) j a) := by
          rcases hi with h | h
          · exfalso
            omega
          · exact h.2.2
        refine g_lv (lv' := [(3, .int (iI ((0 : Nat) : Int))), (1, .int (iI ((m_pass A 0 ((m_S A (I 2).toNat (p_z (A 31) 8) k), 0)).2))), (2, .int (iI ((k : Nat) : Int))), (0, .ref (q 99))]) [0, 1, 2, 3] rfl ?_
        refine lp_X8_at_p C q I A F Dd ((m_S A (I 2).toNat (p_z (A 31) 8) k), 0) (54400 * (k : Int)) ((k : Nat) : Int) hsI hsA hE9 (m_S_bd hE9 (fun j hj => if_pos hj) hz9 k) (by omega) (I 2).toNat 0 (by omega) ?_
        refine g_iinc C (n' := 128) 2 [(2, .int (iI (((k : Nat) : Int) + 1))), (3, .int (iI (((I 2).toNat : Nat) : Int))), (1, .int (iI ((m_pass A (I 2).toNat ((m_S A (I 2).toNat (p_z (A 31) 8) k), 0)).2))), (0, .ref (q 99))] rfl dX8_areThere_125 rfl (by decide) rfl ?_
        refine g_goto C 25 dX8_areThere_128 (by decide) ?_
        have hfl := m_S_fl hE9 (S0 := (p_z (A 31) 8)) k
        refine g_lv (lv' := [(2, .int (iI ((k + 1 : Nat) : Int))), (1, .int (iI ((m_pass A (I 2).toNat ((m_S A (I 2).toNat (p_z (A 31) 8) k), 0)).2))), (0, .ref (q 99))]) [0, 2, 3] rfl ?_
        refine ih (k + 1) _ (by omega) ?_ K
        rcases hfl with ⟨q1, q2⟩ | ⟨q1, q2⟩
        · exact Or.inl ⟨q1, by omega, by omega, q2⟩
        · refine Or.inr ⟨q1, by omega, fun j hj => ?_⟩
          by_cases e : j = k
          · rw [e]
            exact q2
          · exact hch j (by omega)
set_option maxRecDepth 100000 in
set_option maxHeartbeats 4000000 in
theorem c_X8_areThere (l : Launch) (D : va_G) (Y : Nat → ClassId) {E : (Nat → Prop) → State → Heap → Prop} (hE : g_Stab E) (q : Nat → Nat) (I : Nat → Int) (A : Nat → Nat → Int) (F : Nat → UInt32) (Dd : Nat → UInt64) (hsI : smI I) (hsA : smA A) (hE9 : okE I A) : g_Ct l yX8_areThere cX8_areThere 4 (some FieldType.boolean) ({ frames := 1, cells := 0, slots := 0, locals := 24 } : Room) D (tysY Y) E [.ref (q 99)] (wMod q Y I A F Dd) 0 0 (fun r9 w9 => ∃ S : Nat → Int, w9 = wMod q Y I (sU A 31 S) F Dd ∧ smR S ∧ ((r9 = some (.int (iI 1)) ∧ bG (I 1).toNat (mEd I A) S) ∨ (r9 = some (.int (iI 0)) ∧ ¬ ∃ z, bsol (mEd I A) z))) := by
  refine g_ofG (own := RX8) hE (by decide) rfl (Nat.le_of_ble_eq_true rfl) [(0, .ref (q 99))] rfl ?_
  intro p9 e9 s9 m9 b9 t9 c9 A9 C hr hlk hnm
  have hI := hsI
  have hA := hsA
  unfold smI at hI
  unfold smA at hA
  have hE1 := hE9
  unfold okE at hE1
  refine g_iconst C (n' := 1) dX8_areThere_0 rfl ?_
  refine g_istore_n C (n' := 2) [(1, .int (iI 0)), (0, .ref (q 99))] dX8_areThere_1 rfl rfl (by decide) rfl ?_
  refine g_wd (w' := (wMod q Y I (sU A 31 (p_z (A 31) 0)) F Dd)) (by rw [show p_z (A 31) 0 = A 31 from funext fun j => if_neg (by omega), sU_id]) ?_
  refine g_lv (lv' := [(1, .int (iI ((0 : Nat) : Int))), (0, .ref (q 99))]) [0, 1] rfl ?_
  refine lp_X8_at_z C q I A F Dd hsI hsA hE9 8 0 (by omega) ?_
  refine g_iconst C (n' := 22) dX8_areThere_21 rfl ?_
  refine g_istore_n C (n' := 23) [(1, .int (iI 1)), (0, .ref (q 99))] dX8_areThere_22 rfl rfl (by decide) rfl ?_
  refine g_iconst C (n' := 24) dX8_areThere_23 rfl ?_
  refine g_istore_n C (n' := 25) [(2, .int (iI 0)), (1, .int (iI 1)), (0, .ref (q 99))] dX8_areThere_24 rfl rfl (by decide) rfl ?_
  refine g_lv (lv' := [(2, .int (iI ((0 : Nat) : Int))), (1, .int (iI 1)), (0, .ref (q 99))]) [0, 1, 2] rfl ?_
  have hz9 : smR (p_z (A 31) 8) := fun k => by
    unfold p_z
    split
    · omega
    · exact hA 31 k
  refine lp_X8_at_r C q I A F Dd hsI hsA hE9 (I 1 + 1).toNat 0 1 (by omega) (Or.inr ⟨rfl, by omega, fun j hj => absurd hj (Nat.not_lt_zero j)⟩) (fun k f hi hx => ?_)
  have hf01 : f = 0 ∨ f = 1 := by rcases hi with h | h <;> omega
  refine g_iload_n C (n' := 132) 1 rfl dX8_areThere_131 rfl rfl ?_
  refine g_if_ne C (n' := 135) 139 dX8_areThere_132 (by decide) rfl (by unfold inR; omega) (fun c1 => ?_) (fun c1 => ?_)
  · skip
    refine g_iconst C (n' := 140) dX8_areThere_139 rfl ?_
    have hz0 : ∀ j, j < (I 1).toNat → p_z (A 31) 8 j = 0 := fun j h9 => if_pos (by omega)
    have hk10 : k ≤ 10 := by rcases hi with h | h <;> omega
    refine g_iret C hr hlk (nar_z (Or.inl rfl)) ⟨_, rfl, m_S_sm hE9 (fun j hj => if_pos hj) hz9 hk10, Or.inr ⟨rfl, fun hs => ?_⟩⟩ dX8_areThere_140
    rcases hi with h | ⟨h1, h2, h3⟩
    · exfalso
      omega
    · obtain ⟨a, ha, hne⟩ := h3 ((I 1).toNat - 1) (by omega)
      exact hne (bRd_done (mEd_lt hE9) (m_S_rd hE9 hz0) (by omega) hs _ (by omega) a ha)
  · skip
    refine g_iconst C (n' := 136) dX8_areThere_135 rfl ?_
    refine g_goto C 140 dX8_areThere_136 (by decide) ?_
    have hz0 : ∀ j, j < (I 1).toNat → p_z (A 31) 8 j = 0 := fun j h9 => if_pos (by omega)
    have hk10 : k ≤ 10 := by rcases hi with h | h <;> omega
    refine g_iret C hr hlk (nar_z (Or.inr rfl)) ⟨_, rfl, m_S_sm hE9 (fun j hj => if_pos hj) hz9 hk10, Or.inl ⟨rfl, ?_⟩⟩ dX8_areThere_140
    rcases hi with ⟨h1, h2, h3, h4⟩ | h
    · rw [h4]
      refine bRd_rest (mEd_lt hE9) (m_S_rd hE9 hz0) (k := k - 1) (fun a _ => ?_)
      rw [← h4, show k - 1 + 1 = k by omega]
    · exfalso
      omega
