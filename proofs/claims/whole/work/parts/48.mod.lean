/-! the reference: paths, deeds and their undoing, nets kept -/
def paV (J : Nat → Int) (N : Nat → Nat → Int) (x y : Int) : Int := if ¬ (0 ≤ x ∧ x < J 5) then -2 else if y = 0 then N 6 x.toNat else if y = 1 then N 7 x.toNat else if y = 2 then N 8 x.toNat else if y = 3 then N 9 x.toNat else if y = 4 then J 4 - N 8 x.toNat - J 1 + 2000 else if y = 5 then N 9 x.toNat - J 2 + 2000 else -3
def m_sh (f : Nat → Int) (n : Nat) : Nat → Int := fun j => if 33 ≤ j ∧ j < 33 + n then f (j + 33) else f j
theorem m_sh_0 (f : Nat → Int) : m_sh f 0 = f := funext fun j => if_neg (by omega)
theorem m_sh_s (f : Nat → Int) (k : Nat) : sU (m_sh f k) (33 + k) (m_sh f k (66 + k)) = m_sh f (k + 1) := by
  funext j
  unfold sU
  by_cases e : j = 33 + k
  · rw [if_pos e]
    unfold m_sh
    rw [if_neg (by omega), if_pos (by omega)]
    congr 1
    omega
  · rw [if_neg e]
    unfold m_sh
    by_cases q : 33 ≤ j ∧ j < 33 + k
    · rw [if_pos q, if_pos (by omega)]
    · rw [if_neg q, if_neg (by omega)]
theorem m_sh_r {f : Nat → Int} (h : smR f) (n : Nat) : smR (m_sh f n) := fun j => by
  unfold m_sh
  split
  · exact h _
  · exact h _
def m_kp (u : Int) (f : Nat → Int) : Nat → Int := if u = 8 then m_cp (m_sh f 231) (Int.toNat 0) (Int.toNat (33 + 33 * 7)) 33 else m_cp f (Int.toNat 0) (Int.toNat (33 + 33 * u)) 33
theorem m_kp_r {f : Nat → Int} (h : smR f) (u : Int) : smR (m_kp u f) := by
  unfold m_kp
  split
  · exact m_cp_r (m_sh_r h _) _ _ _
  · exact m_cp_r h _ _ _
theorem m_kp_l {f : Nat → Int} {u : Int} (h : 0 ≤ u) {k : Nat} (hk : k < 33) : m_kp u f k = f k := by
  unfold m_kp
  split
  · rw [m_cp_out (by omega)]
    exact if_neg (by omega)
  · exact m_cp_out (by omega)
set_option maxRecDepth 100000 in
set_option maxHeartbeats 4000000 in
theorem c_X8_path (l : Launch) (D : va_G) (Y : Nat → ClassId) {E : (Nat → Prop) → State → Heap → Prop} (hE : g_Stab E) (q : Nat → Nat) (I : Nat → Int) (A : Nat → Nat → Int) (F : Nat → UInt32) (Dd : Nat → UInt64) (x : Int) (y : Int) (hsI : smI I) (hsA : smA A) (hN : okN (mJ I A) (mN A)) (hx : inR x) (hy : inR y) : g_Ct l yX8_path cX8_path 3 (some FieldType.int) ({ frames := 2, cells := 0, slots := 0, locals := 46 } : Room) D (tysY Y) E [.ref (q 99), .int (iI x), .int (iI y)] (wMod q Y I A F Dd) 0 0 (g_det (some (.int (iI (paV (mJ I A) (mN A) x y)))) (wMod q Y I A F Dd)) := by
  refine g_ofG (own := RX8) hE (by decide) rfl (Nat.le_of_ble_eq_true rfl) [(0, .ref (q 99)), (1, .int (iI x)), (2, .int (iI y))] rfl ?_
  intro p9 e9 s9 m9 b9 t9 c9 A9 C hr hlk hnm
  have hI := hsI
  have hA := hsA
  unfold smI at hI
  unfold smA at hA
  have hN9 := hN
  unfold okN at hN9
  simp only [mJ, mN] at hN9
  have hx9 := hx
  unfold inR at hx9
  have hy9 := hy
  unfold inR at hy9
  refine g_aload_n C (n' := 1) 0 rfl dX8_path_0 rfl rfl ?_
  refine g_iload_n C (n' := 2) 1 rfl dX8_path_1 rfl rfl ?_
  refine g_cVv C (n' := 5) (v := .int (iI (if 0 ≤ x ∧ x ≤ (I 2) - 1 then 1 else 0))) (c_X8_isPath l D Y C.2.2.2.2.2.2.2.2.1 q I A F Dd x hsI hsA hN hx) 1 kw_863 kc_X8_isPath (by decide +kernel) (pm0 _) 0 (ci := 6) rfl rfl rfl rfl ⟨Nat.le_of_ble_eq_true rfl, Nat.le_of_ble_eq_true rfl⟩ ⟨rfl, rfl⟩ ⟨Nat.le_of_ble_eq_true rfl, Nat.le_of_ble_eq_true rfl⟩ (Nat.le_of_ble_eq_true rfl) dX8_path_2 rfl rfl (wMod q Y I A F Dd) (pm0' _) ?_
  refine g_if_ne C (n' := 8) 11 dX8_path_5 (by decide) rfl bz_r (fun c1 => ?_) (fun c1 => ?_)
  · skip
    replace c1 := bz_ne.mp c1
    refine g_iload_n C (n' := 12) 2 rfl dX8_path_11 rfl rfl ?_
    by_cases c2 : y = 0
    · skip
      refine g_tsIn C 52 dX8_path_12 (by unfold inR; omega) (by omega) (by omega) (by rw [c2]; rfl) (by decide) ?_
      refine g_aload_n C (n' := 53) 0 rfl dX8_path_52 rfl rfl ?_
      refine g_get C (n' := 56) (Cn := RX8) (T := TX8) (N := 35) (ci := 6) (v := .ref (q 3)) ga_X8 0 rfl rfl 3 (by decide) kw_693 rfl rfl dX8_path_53 rfl ?_
      refine g_iload_n C (n' := 57) 1 rfl dX8_path_56 rfl rfl ?_
      refine g_iald C (n' := 58) (f := (A 3)) 2 0 rfl rfl (by omega) (by omega) (by decide) rfl dX8_path_57 rfl ?_
      have h_57 := hA 3 x.toNat
      refine g_iret C hr hlk rfl ⟨congrArg (fun z : Int => some (Value.int (iI z))) ?_, rfl⟩ dX8_path_58
      unfold paV
      simp only [mJ, mN]
      rw [if_neg (by omega)]
      rw [if_pos (by omega)]
    by_cases c3 : y = 1
    · skip
      refine g_tsIn C 59 dX8_path_12 (by unfold inR; omega) (by omega) (by omega) (by rw [c3]; rfl) (by decide) ?_
      refine g_aload_n C (n' := 60) 0 rfl dX8_path_59 rfl rfl ?_
      refine g_get C (n' := 63) (Cn := RX8) (T := TX8) (N := 35) (ci := 6) (v := .ref (q 4)) ga_X8 0 rfl rfl 4 (by decide) kw_694 rfl rfl dX8_path_60 rfl ?_
      refine g_iload_n C (n' := 64) 1 rfl dX8_path_63 rfl rfl ?_
      refine g_iald C (n' := 65) (f := (A 4)) 3 0 rfl rfl (by omega) (by omega) (by decide) rfl dX8_path_64 rfl ?_
      have h_64 := hA 4 x.toNat
      refine g_iret C hr hlk rfl ⟨congrArg (fun z : Int => some (Value.int (iI z))) ?_, rfl⟩ dX8_path_65
      unfold paV
      simp only [mJ, mN]
      rw [if_neg (by omega)]
      rw [if_neg (by omega)]
      rw [if_pos (by omega)]
    by_cases c4 : y = 2
    · skip
      refine g_tsIn C 66 dX8_path_12 (by unfold inR; omega) (by omega) (by omega) (by rw [c4]; rfl) (by decide) ?_
      refine g_aload_n C (n' := 67) 0 rfl dX8_path_66 rfl rfl ?_
      refine g_get C (n' := 70) (Cn := RX8) (T := TX8) (N := 35) (ci := 6) (v := .ref (q 0)) ga_X8 0 rfl rfl 0 (by decide) kw_690 rfl rfl dX8_path_67 rfl ?_
      refine g_iconst C (n' := 71) dX8_path_70 rfl ?_
      refine g_iload_n C (n' := 72) 1 rfl dX8_path_71 rfl rfl ?_
      refine g_iadd C (n' := 73) dX8_path_72 rfl ?_
      refine g_iald C (n' := 74) (f := (A 0)) 1 0 rfl rfl (by omega) (by omega) (by decide) rfl dX8_path_73 rfl ?_
      have h_73 := hA 0 ((1 + x).toNat)
      refine g_iret C hr hlk rfl ⟨congrArg (fun z : Int => some (Value.int (iI z))) ?_, rfl⟩ dX8_path_74
      unfold paV
      simp only [mJ, mN]
      rw [if_neg (by omega)]
      rw [if_neg (by omega)]
      rw [if_neg (by omega)]
      rw [if_pos (by omega)]
      rw [show (1 + x).toNat = 1 + x.toNat by omega]
    by_cases c5 : y = 3
    · skip
      refine g_tsIn C 75 dX8_path_12 (by unfold inR; omega) (by omega) (by omega) (by rw [c5]; rfl) (by decide) ?_
      refine g_aload_n C (n' := 76) 0 rfl dX8_path_75 rfl rfl ?_
      refine g_get C (n' := 79) (Cn := RX8) (T := TX8) (N := 35) (ci := 6) (v := .ref (q 0)) ga_X8 0 rfl rfl 0 (by decide) kw_690 rfl rfl dX8_path_76 rfl ?_
      refine g_bipush C (n' := 81) (by decide) dX8_path_79 rfl ?_
      refine g_iload_n C (n' := 82) 1 rfl dX8_path_81 rfl rfl ?_
      refine g_iadd C (n' := 83) dX8_path_82 rfl ?_
      refine g_iald C (n' := 84) (f := (A 0)) 1 0 rfl rfl (by omega) (by omega) (by decide) rfl dX8_path_83 rfl ?_
      have h_83 := hA 0 ((17 + x).toNat)
      refine g_iret C hr hlk rfl ⟨congrArg (fun z : Int => some (Value.int (iI z))) ?_, rfl⟩ dX8_path_84
      unfold paV
      simp only [mJ, mN]
      rw [if_neg (by omega)]
      rw [if_neg (by omega)]
      rw [if_neg (by omega)]
      rw [if_neg (by omega)]
      rw [if_pos (by omega)]
      rw [show (17 + x).toNat = 17 + x.toNat by omega]
    by_cases c6 : y = 4
    · skip
      refine g_tsIn C 85 dX8_path_12 (by unfold inR; omega) (by omega) (by omega) (by rw [c6]; rfl) (by decide) ?_
      refine g_aload_n C (n' := 86) 0 rfl dX8_path_85 rfl rfl ?_
      refine g_iload_n C (n' := 87) 1 rfl dX8_path_86 rfl rfl ?_
      refine g_aload_n C (n' := 88) 0 rfl dX8_path_87 rfl rfl ?_
      refine g_get C (n' := 91) (Cn := RX8) (T := TX8) (N := 35) (ci := 6) (v := .ref (q 0)) ga_X8 0 rfl rfl 0 (by decide) kw_690 rfl rfl dX8_path_88 rfl ?_
      refine g_iconst C (n' := 92) dX8_path_91 rfl ?_
      refine g_ialdN C (n' := 93) (f := (A 0)) (j := 0) 1 0 rfl rfl (by omega) (by decide) rfl dX8_path_92 rfl ?_
      have h_92 := hA 0 0
      refine g_cVv C (n' := 96) (v := .int (iI (((A 0) 0) - (A 0) (1 + x).toNat - (I 5)))) (c_X8_lateOf l D Y C.2.2.2.2.2.2.2.2.1 q I A F Dd x ((A 0) 0) (by omega) (by omega)) 2 kw_867 kc_X8_lateOf (by decide +kernel) (pm0 _) 0 (ci := 6) rfl rfl rfl rfl ⟨Nat.le_of_ble_eq_true rfl, Nat.le_of_ble_eq_true rfl⟩ ⟨rfl, rfl⟩ ⟨Nat.le_of_ble_eq_true rfl, Nat.le_of_ble_eq_true rfl⟩ (Nat.le_of_ble_eq_true rfl) dX8_path_93 rfl rfl (wMod q Y I A F Dd) (pm0' _) ?_
      refine g_sipush C (n' := 99) (by decide) dX8_path_96 rfl ?_
      refine g_iadd C (n' := 100) dX8_path_99 rfl ?_
      refine g_iret C hr hlk rfl ⟨congrArg (fun z : Int => some (Value.int (iI z))) ?_, rfl⟩ dX8_path_100
      unfold paV
      simp only [mJ, mN]
      rw [if_neg (by omega)]
      rw [if_neg (by omega)]
      rw [if_neg (by omega)]
      rw [if_neg (by omega)]
      rw [if_neg (by omega)]
      rw [if_pos (by omega)]
      rw [show (1 + x).toNat = 1 + x.toNat by omega]
    by_cases c7 : y = 5
    · skip
      refine g_tsIn C 101 dX8_path_12 (by unfold inR; omega) (by omega) (by omega) (by rw [c7]; rfl) (by decide) ?_
      refine g_aload_n C (n' := 102) 0 rfl dX8_path_101 rfl rfl ?_
      refine g_iload_n C (n' := 103) 1 rfl dX8_path_102 rfl rfl ?_
      refine g_cVv C (n' := 106) (v := .int (iI ((A 0) (17 + x).toNat - (I 6)))) (c_X8_soonOf l D Y C.2.2.2.2.2.2.2.2.1 q I A F Dd x (by omega) (by omega)) 1 kw_871 kc_X8_soonOf (by decide +kernel) (pm0 _) 0 (ci := 6) rfl rfl rfl rfl ⟨Nat.le_of_ble_eq_true rfl, Nat.le_of_ble_eq_true rfl⟩ ⟨rfl, rfl⟩ ⟨Nat.le_of_ble_eq_true rfl, Nat.le_of_ble_eq_true rfl⟩ (Nat.le_of_ble_eq_true rfl) dX8_path_103 rfl rfl (wMod q Y I A F Dd) (pm0' _) ?_
      refine g_sipush C (n' := 109) (by decide) dX8_path_106 rfl ?_
      refine g_iadd C (n' := 110) dX8_path_109 rfl ?_
      refine g_iret C hr hlk rfl ⟨congrArg (fun z : Int => some (Value.int (iI z))) ?_, rfl⟩ dX8_path_110
      unfold paV
      simp only [mJ, mN]
      rw [if_neg (by omega)]
      rw [if_neg (by omega)]
      rw [if_neg (by omega)]
      rw [if_neg (by omega)]
      rw [if_neg (by omega)]
      rw [if_neg (by omega)]
      rw [if_pos (by omega)]
      rw [show (17 + x).toNat = 17 + x.toNat by omega]
    refine g_tsOut C 111 dX8_path_12 (by unfold inR; omega) (by omega) (by decide) ?_
    refine g_bipush C (n' := 113) (by decide) dX8_path_111 rfl ?_
    refine g_iret C hr hlk rfl ⟨congrArg (fun z : Int => some (Value.int (iI z))) ?_, rfl⟩ dX8_path_113
    unfold paV
    simp only [mJ, mN]
    rw [if_neg (by omega)]
    rw [if_neg (by omega)]
    rw [if_neg (by omega)]
    rw [if_neg (by omega)]
    rw [if_neg (by omega)]
    rw [if_neg (by omega)]
    rw [if_neg (by omega)]
  · skip
    replace c1 := bz_nne.mp c1
    refine g_bipush C (n' := 10) (by decide) dX8_path_8 rfl ?_
    refine g_iret C hr hlk rfl ⟨congrArg (fun z : Int => some (Value.int (iI z))) ?_, rfl⟩ dX8_path_10
    unfold paV
    simp only [mJ, mN]
    rw [if_pos (by omega)]
set_option maxRecDepth 100000 in
set_option maxHeartbeats 4000000 in
theorem lp_X8_kp {p9 : Program} {l : Launch} {e9 : Env} {s9 : State} {m9 : MethodId} {a9 : Array Value} {b9 : List Frame} {t9 : Method} {c9 : Code} {D : va_G} {A9 : Nat → Prop} {Q9 : State → Prop} {E : (Nat → Prop) → State → Heap → Prop} {Y : Nat → ClassId} (C : g_Cx p9 s9 m9 a9 c9 cX8_keepPast 2 RX8 D (tysY Y) A9 E) (q : Nat → Nat) (I : Nat → Int) (A : Nat → Nat → Int) (F : Nat → UInt32) (Dd : Nat → UInt64) (hsI : smI I) (hsA : smA A) (h8 : I 8 = 8) : ∀ (n9 : Nat) (k : Nat), k + n9 = 231 → (g_G p9 l e9 ({ frames := 1, cells := 0, slots := 0, locals := 23 } : Room) s9 m9 a9 b9 t9 c9 2 D A9 Q9 0 0 (wMod q Y I (sU A 0 (m_sh (A 0) 231)) F Dd) [(1, .int (iI ((231 : Nat) : Int))), (0, .ref (q 99))] 42 []) → g_G p9 l e9 ({ frames := 1, cells := 0, slots := 0, locals := 23 } : Room) s9 m9 a9 b9 t9 c9 2 D A9 Q9 0 0 (wMod q Y I (sU A 0 (m_sh (A 0) k)) F Dd) [(1, .int (iI ((k : Nat) : Int))), (0, .ref (q 99))] 2 [] := by
  have hE := C.2.2.2.2.2.2.2.2.1
  intro n9
  induction n9 with
  | zero =>
    intro k hk K
    have hI := hsI
    have hA := hsA
    unfold smI at hI
    unfold smA at hA
    refine g_iload_n C (n' := 3) 0 rfl dX8_keepPast_2 rfl rfl ?_
    refine g_sipush C (n' := 6) (by decide) dX8_keepPast_3 rfl ?_
    refine g_icmp_ge C (n' := 9) 42 dX8_keepPast_6 (by decide) rfl (by unfold inR; omega) (by unfold inR; omega) (fun c1 => ?_) (fun c1 => ?_)
    · skip
      have ek : k = 231 := by omega
      subst ek
      exact K
    · skip
      exfalso
      omega
  | succ n9 ih =>
    intro k hk K
    have hI := hsI
    have hA := hsA
    unfold smI at hI
    unfold smA at hA
    refine g_iload_n C (n' := 3) 0 rfl dX8_keepPast_2 rfl rfl ?_
    refine g_sipush C (n' := 6) (by decide) dX8_keepPast_3 rfl ?_
    refine g_icmp_ge C (n' := 9) 42 dX8_keepPast_6 (by decide) rfl (by unfold inR; omega) (by unfold inR; omega) (fun c1 => ?_) (fun c1 => ?_)
    · skip
      exfalso
      omega
    · skip
      refine g_aload_n C (n' := 10) 1 rfl dX8_keepPast_9 rfl rfl ?_
      refine g_get C (n' := 13) (Cn := RX8) (T := TX8) (N := 35) (ci := 6) (v := .int (iI (I 8))) ga_X8 0 rfl rfl 8 (by decide) kw_698 rfl rfl dX8_keepPast_10 rfl ?_
      have h_10 := hI 8
      refine g_bipush C (n' := 15) (by decide) dX8_keepPast_13 rfl ?_
      refine g_icmp_ne C (n' := 18) 42 dX8_keepPast_15 (by decide) rfl (by unfold inR; omega) (by unfold inR; omega) (fun c2 => ?_) (fun c2 => ?_)
      · skip
        exfalso
        omega
      · skip
        refine g_aload_n C (n' := 19) 1 rfl dX8_keepPast_18 rfl rfl ?_
        refine g_get C (n' := 22) (Cn := RX8) (T := TX8) (N := 35) (ci := 6) (v := .ref (q 0)) ga_X8 0 rfl rfl 0 (by decide) kw_690 rfl rfl dX8_keepPast_19 rfl ?_
        refine g_bipush C (n' := 24) (by decide) dX8_keepPast_22 rfl ?_
        refine g_iload_n C (n' := 25) 0 rfl dX8_keepPast_24 rfl rfl ?_
        refine g_iadd C (n' := 26) dX8_keepPast_25 rfl ?_
        refine g_aload_n C (n' := 27) 1 rfl dX8_keepPast_26 rfl rfl ?_
        refine g_get C (n' := 30) (Cn := RX8) (T := TX8) (N := 35) (ci := 6) (v := .ref (q 0)) ga_X8 0 rfl rfl 0 (by decide) kw_690 rfl rfl dX8_keepPast_27 rfl ?_
        refine g_bipush C (n' := 32) (by decide) dX8_keepPast_30 rfl ?_
        refine g_iload_n C (n' := 33) 0 rfl dX8_keepPast_32 rfl rfl ?_
        refine g_iadd C (n' := 34) dX8_keepPast_33 rfl ?_
        have h34 := m_sh_r (fun j => hA 0 j) k (66 + k)
        refine g_ialdN C (n' := 35) (f := (m_sh (A 0) k)) (j := (66 + k)) 1 0 rfl rfl (by omega) (by decide) rfl dX8_keepPast_34 rfl ?_
        refine g_iastN C (n' := 36) (f := (m_sh (A 0) k)) (j := (33 + k)) 1 0 rfl rfl (by omega) (by decide) rfl dX8_keepPast_35 rfl (wMod q Y I (sU A 0 (sU (m_sh (A 0) k) (33 + k) ((m_sh (A 0) k) (66 + k)))) F Dd) rfl ?_
        refine g_iinc C (n' := 39) 0 [(1, .int (iI (((k : Nat) : Int) + 1))), (0, .ref (q 99))] rfl dX8_keepPast_36 rfl (by decide) rfl ?_
        refine g_goto C 2 dX8_keepPast_39 (by decide) ?_
        have e9 : (sU (m_sh (A 0) k) (33 + k) ((m_sh (A 0) k) (66 + k))) = m_sh (A 0) (k + 1) := m_sh_s (A 0) k
        rw [e9]
        refine g_lv (lv' := [(1, .int (iI ((k + 1 : Nat) : Int))), (0, .ref (q 99))]) [0, 1] rfl ?_
        exact ih (k + 1) (by omega) K
set_option maxRecDepth 100000 in
set_option maxHeartbeats 4000000 in
theorem c_X8_keepPast (l : Launch) (D : va_G) (Y : Nat → ClassId) {E : (Nat → Prop) → State → Heap → Prop} (hE : g_Stab E) (q : Nat → Nat) (I : Nat → Int) (A : Nat → Nat → Int) (F : Nat → UInt32) (Dd : Nat → UInt64) (hsI : smI I) (hsA : smA A) (h8 : 0 ≤ I 8 ∧ I 8 ≤ 8) : g_Ct l yX8_keepPast cX8_keepPast 2 none ({ frames := 1, cells := 0, slots := 0, locals := 23 } : Room) D (tysY Y) E [.ref (q 99)] (wMod q Y I A F Dd) 0 0 (g_det none (wMod q Y (sU I 8 (if I 8 = 8 then 8 else I 8 + 1)) (sU A 0 (m_kp (I 8) (A 0))) F Dd)) := by
  refine g_ofG (own := RX8) hE (by decide) rfl (Nat.le_of_ble_eq_true rfl) [(0, .ref (q 99))] rfl ?_
  intro p9 e9 s9 m9 b9 t9 c9 A9 C hr hlk hnm
  have hI := hsI
  have hA := hsA
  unfold smI at hI
  unfold smA at hA
  refine g_iconst C (n' := 1) dX8_keepPast_0 rfl ?_
  refine g_istore_n C (n' := 2) [(1, .int (iI 0)), (0, .ref (q 99))] dX8_keepPast_1 rfl rfl (by decide) rfl ?_
  by_cases hu : I 8 = 8
  · skip
    refine g_wd (w' := (wMod q Y I (sU A 0 (m_sh (A 0) 0)) F Dd)) (by rw [m_sh_0, sU_id]) ?_
    refine g_lv (lv' := [(1, .int (iI ((0 : Nat) : Int))), (0, .ref (q 99))]) [0, 1] rfl ?_
    refine lp_X8_kp C q I A F Dd hsI hsA hu 231 0 rfl ?_
    refine g_aload_n C (n' := 43) 1 rfl dX8_keepPast_42 rfl rfl ?_
    refine g_dup C (n' := 44) rfl dX8_keepPast_43 rfl ?_
    refine g_get C (n' := 47) (Cn := RX8) (T := TX8) (N := 35) (ci := 6) (v := .int (iI (I 8))) ga_X8 0 rfl rfl 8 (by decide) kw_698 rfl rfl dX8_keepPast_44 rfl ?_
    have h_44 := hI 8
    refine g_aload_n C (n' := 48) 1 rfl dX8_keepPast_47 rfl rfl ?_
    refine g_get C (n' := 51) (Cn := RX8) (T := TX8) (N := 35) (ci := 6) (v := .int (iI (I 8))) ga_X8 0 rfl rfl 8 (by decide) kw_698 rfl rfl dX8_keepPast_48 rfl ?_
    have h_48 := hI 8
    refine g_bipush C (n' := 53) (by decide) dX8_keepPast_51 rfl ?_
    refine g_icmp_ne C (n' := 56) 60 dX8_keepPast_53 (by decide) rfl (by unfold inR; omega) (by unfold inR; omega) (fun c1 => ?_) (fun c1 => ?_)
    · skip
      exfalso
      omega
    · skip
      refine g_iconst C (n' := 57) dX8_keepPast_56 rfl ?_
      refine g_goto C 61 dX8_keepPast_57 (by decide) ?_
      refine g_isub C (n' := 62) dX8_keepPast_61 rfl ?_
      refine g_put C (n' := 65) (Cn := RX8) (T := TX8) (N := 35) (ci := 6) (v := .int (iI ((I 8) - 1))) ga_X8 0 rfl rfl 8 (by decide) kw_698 rfl tyX8 tyX8_ok nmX8 rfl rfl rfl rfl (Nat.le_of_ble_eq_true rfl) (wMod q Y (sU I 8 ((I 8) - 1)) (sU A 0 (m_sh (A 0) 231)) F Dd) rfl dX8_keepPast_62 rfl ?_
      refine g_aload_n C (n' := 66) 1 rfl dX8_keepPast_65 rfl rfl ?_
      refine g_iconst C (n' := 67) dX8_keepPast_66 rfl ?_
      refine g_bipush C (n' := 69) (by decide) dX8_keepPast_67 rfl ?_
      refine g_bipush C (n' := 71) (by decide) dX8_keepPast_69 rfl ?_
      refine g_aload_n C (n' := 72) 1 rfl dX8_keepPast_71 rfl rfl ?_
      refine g_get C (n' := 75) (Cn := RX8) (T := TX8) (N := 35) (ci := 6) (v := .int (iI ((I 8) - 1))) ga_X8 0 rfl rfl 8 (by decide) kw_698 rfl rfl dX8_keepPast_72 rfl ?_
      refine g_imul C (n' := 76) dX8_keepPast_75 rfl ?_
      refine g_iadd C (n' := 77) dX8_keepPast_76 rfl ?_
      refine g_cVn C (n' := 80) (c_X8_copyRow l D Y C.2.2.2.2.2.2.2.2.1 q (sU I 8 ((I 8) - 1)) (sU A 0 (m_sh (A 0) 231)) F Dd 0 (33 + (33 * ((I 8) - 1))) (sm_put hsI (by omega)) (sm_putA hsA (m_sh_r (hsA 0) _)) (by omega) (by omega) (by omega)) 2 kw_686 kc_X8_copyRow (by decide +kernel) (pm0 _) 0 (ci := 6) rfl rfl rfl rfl ⟨Nat.le_of_ble_eq_true rfl, Nat.le_of_ble_eq_true rfl⟩ ⟨rfl, rfl⟩ ⟨Nat.le_of_ble_eq_true rfl, Nat.le_of_ble_eq_true rfl⟩ (Nat.le_of_ble_eq_true rfl) dX8_keepPast_77 rfl rfl (wMod q Y (sU I 8 ((I 8) - 1)) (sU A 0 (m_cp ((m_sh (A 0) 231)) (Int.toNat 0) (Int.toNat (33 + (33 * ((I 8) - 1)))) 33)) F Dd) (pm0' _) ?_
      refine g_aload_n C (n' := 81) 1 rfl dX8_keepPast_80 rfl rfl ?_
      refine g_dup C (n' := 82) rfl dX8_keepPast_81 rfl ?_
      refine g_get C (n' := 85) (Cn := RX8) (T := TX8) (N := 35) (ci := 6) (v := .int (iI ((I 8) - 1))) ga_X8 0 rfl rfl 8 (by decide) kw_698 rfl rfl dX8_keepPast_82 rfl ?_
      refine g_iconst C (n' := 86) dX8_keepPast_85 rfl ?_
      refine g_iadd C (n' := 87) dX8_keepPast_86 rfl ?_
      refine g_put C (n' := 90) (Cn := RX8) (T := TX8) (N := 35) (ci := 6) (v := .int (iI (((I 8) - 1) + 1))) ga_X8 0 rfl rfl 8 (by decide) kw_698 rfl tyX8 tyX8_ok nmX8 rfl rfl rfl rfl (Nat.le_of_ble_eq_true rfl) (wMod q Y (sU I 8 (((I 8) - 1) + 1)) (sU A 0 (m_cp ((m_sh (A 0) 231)) (Int.toNat 0) (Int.toNat (33 + (33 * ((I 8) - 1)))) 33)) F Dd) rfl dX8_keepPast_87 rfl ?_
      refine g_vret C hr hlk ⟨rfl, ?_⟩ dX8_keepPast_90
      unfold m_kp
      rw [if_pos hu, if_pos hu, hu]
      rfl
  · skip
    refine g_iload_n C (n' := 3) 0 rfl dX8_keepPast_2 rfl rfl ?_
    refine g_sipush C (n' := 6) (by decide) dX8_keepPast_3 rfl ?_
    refine g_icmp_ge C (n' := 9) 42 dX8_keepPast_6 (by decide) rfl (by unfold inR; omega) (by unfold inR; omega) (fun c2 => ?_) (fun c2 => ?_)
    · skip
      exfalso
      omega
    · skip
      refine g_aload_n C (n' := 10) 1 rfl dX8_keepPast_9 rfl rfl ?_
      refine g_get C (n' := 13) (Cn := RX8) (T := TX8) (N := 35) (ci := 6) (v := .int (iI (I 8))) ga_X8 0 rfl rfl 8 (by decide) kw_698 rfl rfl dX8_keepPast_10 rfl ?_
      have h_10 := hI 8
      refine g_bipush C (n' := 15) (by decide) dX8_keepPast_13 rfl ?_
      refine g_icmp_ne C (n' := 18) 42 dX8_keepPast_15 (by decide) rfl (by unfold inR; omega) (by unfold inR; omega) (fun c3 => ?_) (fun c3 => ?_)
      · skip
        refine g_aload_n C (n' := 43) 1 rfl dX8_keepPast_42 rfl rfl ?_
        refine g_dup C (n' := 44) rfl dX8_keepPast_43 rfl ?_
        refine g_get C (n' := 47) (Cn := RX8) (T := TX8) (N := 35) (ci := 6) (v := .int (iI (I 8))) ga_X8 0 rfl rfl 8 (by decide) kw_698 rfl rfl dX8_keepPast_44 rfl ?_
        have h_44 := hI 8
        refine g_aload_n C (n' := 48) 1 rfl dX8_keepPast_47 rfl rfl ?_
        refine g_get C (n' := 51) (Cn := RX8) (T := TX8) (N := 35) (ci := 6) (v := .int (iI (I 8))) ga_X8 0 rfl rfl 8 (by decide) kw_698 rfl rfl dX8_keepPast_48 rfl ?_
        have h_48 := hI 8
        refine g_bipush C (n' := 53) (by decide) dX8_keepPast_51 rfl ?_
        refine g_icmp_ne C (n' := 56) 60 dX8_keepPast_53 (by decide) rfl (by unfold inR; omega) (by unfold inR; omega) (fun c4 => ?_) (fun c4 => ?_)
        · skip
          refine g_iconst C (n' := 61) dX8_keepPast_60 rfl ?_
          refine g_isub C (n' := 62) dX8_keepPast_61 rfl ?_
          refine g_put C (n' := 65) (Cn := RX8) (T := TX8) (N := 35) (ci := 6) (v := .int (iI ((I 8) - 0))) ga_X8 0 rfl rfl 8 (by decide) kw_698 rfl tyX8 tyX8_ok nmX8 rfl rfl rfl rfl (Nat.le_of_ble_eq_true rfl) (wMod q Y (sU I 8 ((I 8) - 0)) A F Dd) rfl dX8_keepPast_62 rfl ?_
          refine g_aload_n C (n' := 66) 1 rfl dX8_keepPast_65 rfl rfl ?_
          refine g_iconst C (n' := 67) dX8_keepPast_66 rfl ?_
          refine g_bipush C (n' := 69) (by decide) dX8_keepPast_67 rfl ?_
          refine g_bipush C (n' := 71) (by decide) dX8_keepPast_69 rfl ?_
          refine g_aload_n C (n' := 72) 1 rfl dX8_keepPast_71 rfl rfl ?_
          refine g_get C (n' := 75) (Cn := RX8) (T := TX8) (N := 35) (ci := 6) (v := .int (iI ((I 8) - 0))) ga_X8 0 rfl rfl 8 (by decide) kw_698 rfl rfl dX8_keepPast_72 rfl ?_
          refine g_imul C (n' := 76) dX8_keepPast_75 rfl ?_
          refine g_iadd C (n' := 77) dX8_keepPast_76 rfl ?_
          refine g_cVn C (n' := 80) (c_X8_copyRow l D Y C.2.2.2.2.2.2.2.2.1 q (sU I 8 ((I 8) - 0)) A F Dd 0 (33 + (33 * ((I 8) - 0))) (sm_put hsI (by omega)) hsA (by omega) (by omega) (by omega)) 2 kw_686 kc_X8_copyRow (by decide +kernel) (pm0 _) 0 (ci := 6) rfl rfl rfl rfl ⟨Nat.le_of_ble_eq_true rfl, Nat.le_of_ble_eq_true rfl⟩ ⟨rfl, rfl⟩ ⟨Nat.le_of_ble_eq_true rfl, Nat.le_of_ble_eq_true rfl⟩ (Nat.le_of_ble_eq_true rfl) dX8_keepPast_77 rfl rfl (wMod q Y (sU I 8 ((I 8) - 0)) (sU A 0 (m_cp ((A 0)) (Int.toNat 0) (Int.toNat (33 + (33 * ((I 8) - 0)))) 33)) F Dd) (pm0' _) ?_
          refine g_aload_n C (n' := 81) 1 rfl dX8_keepPast_80 rfl rfl ?_
          refine g_dup C (n' := 82) rfl dX8_keepPast_81 rfl ?_
          refine g_get C (n' := 85) (Cn := RX8) (T := TX8) (N := 35) (ci := 6) (v := .int (iI ((I 8) - 0))) ga_X8 0 rfl rfl 8 (by decide) kw_698 rfl rfl dX8_keepPast_82 rfl ?_
          refine g_iconst C (n' := 86) dX8_keepPast_85 rfl ?_
          refine g_iadd C (n' := 87) dX8_keepPast_86 rfl ?_
          refine g_put C (n' := 90) (Cn := RX8) (T := TX8) (N := 35) (ci := 6) (v := .int (iI (((I 8) - 0) + 1))) ga_X8 0 rfl rfl 8 (by decide) kw_698 rfl tyX8 tyX8_ok nmX8 rfl rfl rfl rfl (Nat.le_of_ble_eq_true rfl) (wMod q Y (sU I 8 (((I 8) - 0) + 1)) (sU A 0 (m_cp ((A 0)) (Int.toNat 0) (Int.toNat (33 + (33 * ((I 8) - 0)))) 33)) F Dd) rfl dX8_keepPast_87 rfl ?_
          refine g_vret C hr hlk ⟨rfl, ?_⟩ dX8_keepPast_90
          unfold m_kp
          rw [if_neg hu, if_neg hu, Int.sub_zero]
        · skip
          exfalso
          omega
      · skip
        exfalso
        omega
set_option maxRecDepth 100000 in
set_option maxHeartbeats 4000000 in
theorem c_X8_period (l : Launch) (D : va_G) (Y : Nat → ClassId) {E : (Nat → Prop) → State → Heap → Prop} (hE : g_Stab E) (q : Nat → Nat) (I : Nat → Int) (A : Nat → Nat → Int) (F : Nat → UInt32) (Dd : Nat → UInt64) (x : Int) (hsI : smI I) (hsA : smA A) (hN : okN (mJ I A) (mN A)) (h8 : 0 ≤ I 8 ∧ I 8 ≤ 8) (hx : inR x) : g_Ct l yX8_period cX8_period 3 (some FieldType.int) ({ frames := 2, cells := 0, slots := 0, locals := 44 } : Room) D (tysY Y) E [.ref (q 99), .int (iI x)] (wMod q Y I A F Dd) 0 0 (fun r9 w9 => (¬ (0 ≤ x ∧ x ≤ 999) ∧ r9 = some (.int (iI (-3))) ∧ w9 = wMod q Y I A F Dd) ∨ ((0 ≤ x ∧ x ≤ 999) ∧ ((A 0 0 = x ∧ r9 = some (.int (iI (-4))) ∧ w9 = wMod q Y I A F Dd) ∨ (A 0 0 ≠ x ∧ r9 = some (.int (iI (A 0 0))) ∧ w9 = wMod q Y (sU I 8 (if I 8 = 8 then 8 else I 8 + 1)) (sU A 0 (sU (m_kp (I 8) (A 0)) 0 x)) F Dd)))) := by
  refine g_ofG (own := RX8) hE (by decide) rfl (Nat.le_of_ble_eq_true rfl) [(0, .ref (q 99)), (1, .int (iI x))] rfl ?_
  intro p9 e9 s9 m9 b9 t9 c9 A9 C hr hlk hnm
  have hI := hsI
  have hA := hsA
  unfold smI at hI
  unfold smA at hA
  have hN9 := hN
  unfold okN at hN9
  simp only [mJ, mN] at hN9
  have hx9 := hx
  unfold inR at hx9
  refine g_iload_n C (n' := 1) 1 rfl dX8_period_0 rfl rfl ?_
  refine g_i2l C (n' := 2) (by unfold inR; omega) dX8_period_1 rfl ?_
  refine g_lconst C (n' := 3) 0 (by decide) dX8_period_2 rfl ?_
  refine g_ldc2l C (n' := 6) 999 (by decide) kw_879 dX8_period_3 rfl ?_
  refine g_cSv C (n' := 9) (v := .int (iI (if 0 ≤ x ∧ x ≤ 999 then 1 else 0))) (c_X8_in l D Y C.2.2.2.2.2.2.2.2.1 x 0 999 hx (by unfold inR at *; omega) (by unfold inR at *; omega)) 3 kw_802 kc_X8_in (by decide +kernel) (pm_n _) rfl ⟨Nat.le_of_ble_eq_true rfl, Nat.le_of_ble_eq_true rfl⟩ ⟨rfl, rfl⟩ ⟨Nat.le_of_ble_eq_true rfl, Nat.le_of_ble_eq_true rfl⟩ (Nat.le_of_ble_eq_true rfl) dX8_period_6 rfl rfl (wMod q Y I A F Dd) (pm_n _) ?_
  refine g_if_ne C (n' := 12) 15 dX8_period_9 (by decide) rfl bz_r (fun c1 => ?_) (fun c1 => ?_)
  · skip
    replace c1 := bz_ne.mp c1
    refine g_aload_n C (n' := 16) 0 rfl dX8_period_15 rfl rfl ?_
    refine g_get C (n' := 19) (Cn := RX8) (T := TX8) (N := 35) (ci := 6) (v := .ref (q 0)) ga_X8 0 rfl rfl 0 (by decide) kw_690 rfl rfl dX8_period_16 rfl ?_
    refine g_iconst C (n' := 20) dX8_period_19 rfl ?_
    refine g_ialdN C (n' := 21) (f := (A 0)) (j := 0) 1 0 rfl rfl (by omega) (by decide) rfl dX8_period_20 rfl ?_
    have h_20 := hA 0 0
    refine g_istore_n C (n' := 22) [(2, .int (iI ((A 0) 0))), (0, .ref (q 99)), (1, .int (iI x))] dX8_period_21 rfl rfl (by decide) rfl ?_
    refine g_iload_n C (n' := 23) 0 rfl dX8_period_22 rfl rfl ?_
    refine g_iload_n C (n' := 24) 2 rfl dX8_period_23 rfl rfl ?_
    refine g_icmp_ne C (n' := 27) 30 dX8_period_24 (by decide) rfl (by unfold inR; omega) (by unfold inR; omega) (fun c2 => ?_) (fun c2 => ?_)
    · skip
      refine g_aload_n C (n' := 31) 1 rfl dX8_period_30 rfl rfl ?_
      refine g_cVn C (n' := 34) (c_X8_keepPast l D Y C.2.2.2.2.2.2.2.2.1 q I A F Dd hsI hsA h8) 0 kw_880 kc_X8_keepPast (by decide +kernel) (pm0 _) 0 (ci := 6) rfl rfl rfl rfl ⟨Nat.le_of_ble_eq_true rfl, Nat.le_of_ble_eq_true rfl⟩ ⟨rfl, rfl⟩ ⟨Nat.le_of_ble_eq_true rfl, Nat.le_of_ble_eq_true rfl⟩ (Nat.le_of_ble_eq_true rfl) dX8_period_31 rfl rfl (wMod q Y (sU I 8 (if (I 8) = 8 then 8 else (I 8) + 1)) (sU A 0 (m_kp ((I 8)) ((A 0)))) F Dd) (pm0' _) ?_
      refine g_aload_n C (n' := 35) 1 rfl dX8_period_34 rfl rfl ?_
      refine g_get C (n' := 38) (Cn := RX8) (T := TX8) (N := 35) (ci := 6) (v := .ref (q 0)) ga_X8 0 rfl rfl 0 (by decide) kw_690 rfl rfl dX8_period_35 rfl ?_
      refine g_iconst C (n' := 39) dX8_period_38 rfl ?_
      refine g_iload_n C (n' := 40) 2 rfl dX8_period_39 rfl rfl ?_
      refine g_iastN C (n' := 41) (f := (m_kp ((I 8)) ((A 0)))) (j := 0) 1 0 rfl rfl (by omega) (by decide) rfl dX8_period_40 rfl (wMod q Y (sU I 8 (if (I 8) = 8 then 8 else (I 8) + 1)) (sU A 0 (sU (m_kp ((I 8)) ((A 0))) 0 x)) F Dd) rfl ?_
      refine g_iload_n C (n' := 42) 0 rfl dX8_period_41 rfl rfl ?_
      exact g_iret C hr hlk rfl (Or.inr ⟨by omega, Or.inr ⟨by omega, rfl, rfl⟩⟩) dX8_period_42
    · skip
      refine g_bipush C (n' := 29) (by decide) dX8_period_27 rfl ?_
      exact g_iret C hr hlk rfl (Or.inr ⟨by omega, Or.inl ⟨by omega, rfl, rfl⟩⟩) dX8_period_29
  · skip
    replace c1 := bz_nne.mp c1
    refine g_bipush C (n' := 14) (by decide) dX8_period_12 rfl ?_
    exact g_iret C hr hlk rfl (Or.inl ⟨by omega, rfl, rfl⟩) dX8_period_14
set_option maxRecDepth 100000 in
set_option maxHeartbeats 4000000 in
theorem c_X8_slower (l : Launch) (D : va_G) (Y : Nat → ClassId) {E : (Nat → Prop) → State → Heap → Prop} (hE : g_Stab E) (q : Nat → Nat) (I : Nat → Int) (A : Nat → Nat → Int) (F : Nat → UInt32) (Dd : Nat → UInt64) (x : Int) (y : Int) (hsI : smI I) (hsA : smA A) (hN : okN (mJ I A) (mN A)) (h8 : 0 ≤ I 8 ∧ I 8 ≤ 8) (hx : inR x) (hy : inR y) : g_Ct l yX8_slower cX8_slower 3 (some FieldType.int) ({ frames := 2, cells := 0, slots := 0, locals := 46 } : Room) D (tysY Y) E [.ref (q 99), .int (iI x), .int (iI y)] (wMod q Y I A F Dd) 0 0 (fun r9 w9 => (¬ (0 ≤ x ∧ x < I 2) ∧ r9 = some (.int (iI (-2))) ∧ w9 = wMod q Y I A F Dd) ∨ ((0 ≤ x ∧ x < I 2) ∧ ((¬ (1 ≤ y ∧ y ≤ 20) ∧ r9 = some (.int (iI (-3))) ∧ w9 = wMod q Y I A F Dd) ∨ ((1 ≤ y ∧ y ≤ 20) ∧ ((199 < A 0 (1 + x).toNat + y ∧ r9 = some (.int (iI (-4))) ∧ w9 = wMod q Y I A F Dd) ∨ (A 0 (1 + x).toNat + y ≤ 199 ∧ r9 = some (.int (iI (A 0 (1 + x).toNat + y))) ∧ w9 = wMod q Y (sU I 8 (if I 8 = 8 then 8 else I 8 + 1)) (sU A 0 (sU (sU (m_kp (I 8) (A 0)) (1 + x).toNat (A 0 (1 + x).toNat + y)) (17 + x).toNat (A 0 (17 + x).toNat + y))) F Dd)))))) := by
  refine g_ofG (own := RX8) hE (by decide) rfl (Nat.le_of_ble_eq_true rfl) [(0, .ref (q 99)), (1, .int (iI x)), (2, .int (iI y))] rfl ?_
  intro p9 e9 s9 m9 b9 t9 c9 A9 C hr hlk hnm
  have hI := hsI
  have hA := hsA
  unfold smI at hI
  unfold smA at hA
  have hN9 := hN
  unfold okN at hN9
  simp only [mJ, mN] at hN9
  have hx9 := hx
  unfold inR at hx9
  have hy9 := hy
  unfold inR at hy9
  refine g_aload_n C (n' := 1) 0 rfl dX8_slower_0 rfl rfl ?_
  refine g_iload_n C (n' := 2) 1 rfl dX8_slower_1 rfl rfl ?_
  refine g_cVv C (n' := 5) (v := .int (iI (if 0 ≤ x ∧ x ≤ (I 2) - 1 then 1 else 0))) (c_X8_isPath l D Y C.2.2.2.2.2.2.2.2.1 q I A F Dd x hsI hsA hN hx) 1 kw_863 kc_X8_isPath (by decide +kernel) (pm0 _) 0 (ci := 6) rfl rfl rfl rfl ⟨Nat.le_of_ble_eq_true rfl, Nat.le_of_ble_eq_true rfl⟩ ⟨rfl, rfl⟩ ⟨Nat.le_of_ble_eq_true rfl, Nat.le_of_ble_eq_true rfl⟩ (Nat.le_of_ble_eq_true rfl) dX8_slower_2 rfl rfl (wMod q Y I A F Dd) (pm0' _) ?_
  refine g_if_ne C (n' := 8) 11 dX8_slower_5 (by decide) rfl bz_r (fun c1 => ?_) (fun c1 => ?_)
  · skip
    replace c1 := bz_ne.mp c1
    refine g_iload_n C (n' := 12) 2 rfl dX8_slower_11 rfl rfl ?_
    refine g_i2l C (n' := 13) (by unfold inR; omega) dX8_slower_12 rfl ?_
    refine g_lconst C (n' := 14) 1 (by decide) dX8_slower_13 rfl ?_
    refine g_ldc2l C (n' := 17) 20 (by decide) kw_888 dX8_slower_14 rfl ?_
    refine g_cSv C (n' := 20) (v := .int (iI (if 1 ≤ y ∧ y ≤ 20 then 1 else 0))) (c_X8_in l D Y C.2.2.2.2.2.2.2.2.1 y 1 20 hy (by unfold inR at *; omega) (by unfold inR at *; omega)) 3 kw_802 kc_X8_in (by decide +kernel) (pm_n _) rfl ⟨Nat.le_of_ble_eq_true rfl, Nat.le_of_ble_eq_true rfl⟩ ⟨rfl, rfl⟩ ⟨Nat.le_of_ble_eq_true rfl, Nat.le_of_ble_eq_true rfl⟩ (Nat.le_of_ble_eq_true rfl) dX8_slower_17 rfl rfl (wMod q Y I A F Dd) (pm_n _) ?_
    refine g_if_ne C (n' := 23) 26 dX8_slower_20 (by decide) rfl bz_r (fun c2 => ?_) (fun c2 => ?_)
    · skip
      replace c2 := bz_ne.mp c2
      refine g_aload_n C (n' := 27) 0 rfl dX8_slower_26 rfl rfl ?_
      refine g_get C (n' := 30) (Cn := RX8) (T := TX8) (N := 35) (ci := 6) (v := .ref (q 0)) ga_X8 0 rfl rfl 0 (by decide) kw_690 rfl rfl dX8_slower_27 rfl ?_
      refine g_iconst C (n' := 31) dX8_slower_30 rfl ?_
      refine g_iload_n C (n' := 32) 1 rfl dX8_slower_31 rfl rfl ?_
      refine g_iadd C (n' := 33) dX8_slower_32 rfl ?_
      refine g_iald C (n' := 34) (f := (A 0)) 1 0 rfl rfl (by omega) (by omega) (by decide) rfl dX8_slower_33 rfl ?_
      have h_33 := hA 0 ((1 + x).toNat)
      refine g_iload_n C (n' := 35) 2 rfl dX8_slower_34 rfl rfl ?_
      refine g_iadd C (n' := 36) dX8_slower_35 rfl ?_
      refine g_sipush C (n' := 39) (by decide) dX8_slower_36 rfl ?_
      refine g_icmp_le C (n' := 42) 45 dX8_slower_39 (by decide) rfl (by unfold inR; omega) (by unfold inR; omega) (fun c3 => ?_) (fun c3 => ?_)
      · skip
        refine g_aload_n C (n' := 46) 0 rfl dX8_slower_45 rfl rfl ?_
        refine g_cVn C (n' := 49) (c_X8_keepPast l D Y C.2.2.2.2.2.2.2.2.1 q I A F Dd hsI hsA h8) 0 kw_880 kc_X8_keepPast (by decide +kernel) (pm0 _) 0 (ci := 6) rfl rfl rfl rfl ⟨Nat.le_of_ble_eq_true rfl, Nat.le_of_ble_eq_true rfl⟩ ⟨rfl, rfl⟩ ⟨Nat.le_of_ble_eq_true rfl, Nat.le_of_ble_eq_true rfl⟩ (Nat.le_of_ble_eq_true rfl) dX8_slower_46 rfl rfl (wMod q Y (sU I 8 (if (I 8) = 8 then 8 else (I 8) + 1)) (sU A 0 (m_kp ((I 8)) ((A 0)))) F Dd) (pm0' _) ?_
        refine g_aload_n C (n' := 50) 0 rfl dX8_slower_49 rfl rfl ?_
        refine g_get C (n' := 53) (Cn := RX8) (T := TX8) (N := 35) (ci := 6) (v := .ref (q 0)) ga_X8 0 rfl rfl 0 (by decide) kw_690 rfl rfl dX8_slower_50 rfl ?_
        refine g_iconst C (n' := 54) dX8_slower_53 rfl ?_
        refine g_iload_n C (n' := 55) 1 rfl dX8_slower_54 rfl rfl ?_
        refine g_iadd C (n' := 56) dX8_slower_55 rfl ?_
        refine g_dup2 C (n' := 57) rfl rfl dX8_slower_56 rfl ?_
        refine g_iald C (n' := 58) (f := (m_kp ((I 8)) ((A 0)))) 1 0 rfl rfl (by omega) (by omega) (by decide) rfl dX8_slower_57 rfl ?_
        refine g_iload_n C (n' := 59) 2 rfl dX8_slower_58 rfl rfl ?_
        refine g_iadd C (n' := 60) dX8_slower_59 rfl ?_
        refine g_iast C (n' := 61) (f := (m_kp ((I 8)) ((A 0)))) 1 0 rfl rfl (by omega) (by omega) (by decide) rfl dX8_slower_60 rfl (wMod q Y (sU I 8 (if (I 8) = 8 then 8 else (I 8) + 1)) (sU A 0 (sU (m_kp ((I 8)) ((A 0))) (1 + x).toNat (((m_kp ((I 8)) ((A 0))) (1 + x).toNat) + y))) F Dd) rfl ?_
        refine g_aload_n C (n' := 62) 0 rfl dX8_slower_61 rfl rfl ?_
        refine g_get C (n' := 65) (Cn := RX8) (T := TX8) (N := 35) (ci := 6) (v := .ref (q 0)) ga_X8 0 rfl rfl 0 (by decide) kw_690 rfl rfl dX8_slower_62 rfl ?_
        refine g_bipush C (n' := 67) (by decide) dX8_slower_65 rfl ?_
        refine g_iload_n C (n' := 68) 1 rfl dX8_slower_67 rfl rfl ?_
        refine g_iadd C (n' := 69) dX8_slower_68 rfl ?_
        refine g_dup2 C (n' := 70) rfl rfl dX8_slower_69 rfl ?_
        refine g_iald C (n' := 71) (f := (sU (m_kp ((I 8)) ((A 0))) (1 + x).toNat (((m_kp ((I 8)) ((A 0))) (1 + x).toNat) + y))) 1 0 rfl rfl (by omega) (by omega) (by decide) rfl dX8_slower_70 rfl ?_
        refine g_iload_n C (n' := 72) 2 rfl dX8_slower_71 rfl rfl ?_
        refine g_iadd C (n' := 73) dX8_slower_72 rfl ?_
        refine g_iast C (n' := 74) (f := (sU (m_kp ((I 8)) ((A 0))) (1 + x).toNat (((m_kp ((I 8)) ((A 0))) (1 + x).toNat) + y))) 1 0 rfl rfl (by omega) (by omega) (by decide) rfl dX8_slower_73 rfl (wMod q Y (sU I 8 (if (I 8) = 8 then 8 else (I 8) + 1)) (sU A 0 (sU (sU (m_kp ((I 8)) ((A 0))) (1 + x).toNat (((m_kp ((I 8)) ((A 0))) (1 + x).toNat) + y)) (17 + x).toNat (((sU (m_kp ((I 8)) ((A 0))) (1 + x).toNat (((m_kp ((I 8)) ((A 0))) (1 + x).toNat) + y)) (17 + x).toNat) + y))) F Dd) rfl ?_
        refine g_aload_n C (n' := 75) 0 rfl dX8_slower_74 rfl rfl ?_
        refine g_get C (n' := 78) (Cn := RX8) (T := TX8) (N := 35) (ci := 6) (v := .ref (q 0)) ga_X8 0 rfl rfl 0 (by decide) kw_690 rfl rfl dX8_slower_75 rfl ?_
        refine g_iconst C (n' := 79) dX8_slower_78 rfl ?_
        refine g_iload_n C (n' := 80) 1 rfl dX8_slower_79 rfl rfl ?_
        refine g_iadd C (n' := 81) dX8_slower_80 rfl ?_
        refine g_iald C (n' := 82) (f := (sU (sU (m_kp ((I 8)) ((A 0))) (1 + x).toNat (((m_kp ((I 8)) ((A 0))) (1 + x).toNat) + y)) (17 + x).toNat (((sU (m_kp ((I 8)) ((A 0))) (1 + x).toNat (((m_kp ((I 8)) ((A 0))) (1 + x).toNat) + y)) (17 + x).toNat) + y))) 1 0 rfl rfl (by omega) (by omega) (by decide) rfl dX8_slower_81 rfl ?_
        have k1 : m_kp (I 8) (A 0) (1 + x).toNat = A 0 (1 + x).toNat := m_kp_l (by omega) (by omega)
        have k2 : m_kp (I 8) (A 0) (17 + x).toNat = A 0 (17 + x).toNat := m_kp_l (by omega) (by omega)
        have e49 : (sU (sU (m_kp ((I 8)) ((A 0))) (1 + x).toNat (((m_kp ((I 8)) ((A 0))) (1 + x).toNat) + y)) (17 + x).toNat (((sU (m_kp ((I 8)) ((A 0))) (1 + x).toNat (((m_kp ((I 8)) ((A 0))) (1 + x).toNat) + y)) (17 + x).toNat) + y)) = sU (sU (m_kp (I 8) (A 0)) (1 + x).toNat (A 0 (1 + x).toNat + y)) (17 + x).toNat (A 0 (17 + x).toNat + y) := by
          rw [sU_n (m_kp (I 8) (A 0)) _ (show (17 + x).toNat ≠ (1 + x).toNat by omega), k1, k2]
        have e81 : ((sU (sU (m_kp ((I 8)) ((A 0))) (1 + x).toNat (((m_kp ((I 8)) ((A 0))) (1 + x).toNat) + y)) (17 + x).toNat (((sU (m_kp ((I 8)) ((A 0))) (1 + x).toNat (((m_kp ((I 8)) ((A 0))) (1 + x).toNat) + y)) (17 + x).toNat) + y)) (1 + x).toNat) = A 0 (1 + x).toNat + y := by
          rw [e49, sU_n _ _ (show (1 + x).toNat ≠ (17 + x).toNat by omega), sU_s]
        exact g_iret C hr hlk rfl (Or.inr ⟨by omega, Or.inr ⟨by omega, Or.inr ⟨by omega, by rw [e81], by rw [e49]⟩⟩⟩) dX8_slower_82
      · skip
        refine g_bipush C (n' := 44) (by decide) dX8_slower_42 rfl ?_
        exact g_iret C hr hlk rfl (Or.inr ⟨by omega, Or.inr ⟨by omega, Or.inl ⟨by omega, rfl, rfl⟩⟩⟩) dX8_slower_44
    · skip
      replace c2 := bz_nne.mp c2
      refine g_bipush C (n' := 25) (by decide) dX8_slower_23 rfl ?_
      exact g_iret C hr hlk rfl (Or.inr ⟨by omega, Or.inl ⟨by omega, rfl, rfl⟩⟩) dX8_slower_25
  · skip
    replace c1 := bz_nne.mp c1
    refine g_bipush C (n' := 10) (by decide) dX8_slower_8 rfl ?_
    exact g_iret C hr hlk rfl (Or.inl ⟨by omega, rfl, rfl⟩) dX8_slower_10
