/-! the reference: least bounds of pairs, rings -/
def m_lo (b : Nat → Int) (i : Nat) (x : Int) : Nat → Int := sU b i (if x < b i then x else b i)
def m_ly (L S f t g : Nat → Int) : Nat → Nat → Int
  | 0 => g
  | k + 1 => m_lo (m_lo (m_ly L S f t g k) (8 * f k + t k).toNat (L k)) (8 * t k + f k).toNat (S k)
theorem m_ly_c {L S L2 S2 f t g : Nat → Int} : ∀ k : Nat, (∀ p, p < k → L p = L2 p ∧ S p = S2 p) → m_ly L S f t g k = m_ly L2 S2 f t g k
  | 0, _ => rfl
  | k + 1, h => by
    rw [m_ly, m_ly, m_ly_c k (fun p hp => h p (by omega)), (h k (by omega)).1, (h k (by omega)).2]
theorem m_lo_r {b : Nat → Int} (h : smR b) {i : Nat} {x : Int} (hx : -1000000 ≤ x ∧ x ≤ 1000000) : smR (m_lo b i x) := by
  refine sm_putR h ?_
  have := h i
  split <;> omega
theorem m_ly_r {L S f t g : Nat → Int} (hL : smR L) (hS : smR S) (hg : smR g) : ∀ k : Nat, smR (m_ly L S f t g k)
  | 0 => hg
  | k + 1 => m_lo_r (m_lo_r (m_ly_r hL hS hg k) (hL k)) (hS k)
def m_much (g : Nat → Int) : Nat → Int := m_fill (fun _ => 99999) g 64
theorem m_much_r {g : Nat → Int} (h : smR g) : smR (m_much g) := m_fill_sm (fun _ _ => ⟨by decide, by decide⟩) h
def m_low (I : Nat → Int) (A : Nat → Nat → Int) : Nat → Int := m_ly (m_lt I A (A 0 0) 0) (m_so I A 0) (A 3) (A 4) (m_much (A 32)) (I 2).toNat
set_option maxRecDepth 100000 in
set_option maxHeartbeats 4000000 in
theorem lp_X8_ll_u {p9 : Program} {l : Launch} {e9 : Env} {s9 : State} {m9 : MethodId} {a9 : Array Value} {b9 : List Frame} {t9 : Method} {c9 : Code} {D : va_G} {A9 : Nat → Prop} {Q9 : State → Prop} {E : (Nat → Prop) → State → Heap → Prop} {Y : Nat → ClassId} (C : g_Cx p9 s9 m9 a9 c9 cX8_layLeast 4 RX8 D (tysY Y) A9 E) (q : Nat → Nat) (I : Nat → Int) (A : Nat → Nat → Int) (F : Nat → UInt32) (Dd : Nat → UInt64) (hsI : smI I) (hsA : smA A) : ∀ (n9 : Nat) (k : Nat), k + n9 = 64 → (g_G p9 l e9 ({ frames := 2, cells := 0, slots := 0, locals := 45 } : Room) s9 m9 a9 b9 t9 c9 4 D A9 Q9 0 0 (wMod q Y I (sU A 32 (m_much (A 32))) F Dd) [(1, .int (iI ((64 : Nat) : Int))), (0, .ref (q 99))] 33 []) → g_G p9 l e9 ({ frames := 2, cells := 0, slots := 0, locals := 45 } : Room) s9 m9 a9 b9 t9 c9 4 D A9 Q9 0 0 (wMod q Y I (sU A 32 (m_fill (fun _ => 99999) (A 32) k)) F Dd) [(1, .int (iI ((k : Nat) : Int))), (0, .ref (q 99))] 13 [] := by
  have hE := C.2.2.2.2.2.2.2.2.1
  intro n9
  induction n9 with
  | zero =>
    intro k hk K
    have hI := hsI
    have hA := hsA
    unfold smI at hI
    unfold smA at hA
    refine g_iload_n C (n' := 14) 0 rfl dX8_layLeast_13 rfl rfl ?_
    refine g_bipush C (n' := 16) (by decide) dX8_layLeast_14 rfl ?_
    refine g_icmp_ge C (n' := 19) 33 dX8_layLeast_16 (by decide) rfl (by unfold inR; omega) (by unfold inR; omega) (fun c1 => ?_) (fun c1 => ?_)
    · skip
      have ek : k = 64 := by omega
      subst ek
      exact K
    · skip
      exfalso
      omega
  | succ n9 ih =>
    intro k hk K
    have hI := hsI
    have hA := hsA
    unfold smI at hI
    unfold smA at hA
    refine g_iload_n C (n' := 14) 0 rfl dX8_layLeast_13 rfl rfl ?_
    refine g_bipush C (n' := 16) (by decide) dX8_layLeast_14 rfl ?_
    refine g_icmp_ge C (n' := 19) 33 dX8_layLeast_16 (by decide) rfl (by unfold inR; omega) (by unfold inR; omega) (fun c1 => ?_) (fun c1 => ?_)
    · skip
      exfalso
      omega
    · skip
      refine g_aload_n C (n' := 20) 1 rfl dX8_layLeast_19 rfl rfl ?_
      refine g_get C (n' := 23) (Cn := RX8) (T := TX8) (N := 35) (ci := 6) (v := .ref (q 32)) ga_X8 0 rfl rfl 32 (by decide) kw_722 rfl rfl dX8_layLeast_20 rfl ?_
      refine g_iload_n C (n' := 24) 0 rfl dX8_layLeast_23 rfl rfl ?_
      refine g_ldc C (n' := 26) 99999 (by decide) kw_964 dX8_layLeast_24 rfl ?_
      refine g_iastN C (n' := 27) (f := (m_fill (fun _ => 99999) (A 32) k)) (j := k) 20 0 rfl rfl (by omega) (by decide) rfl dX8_layLeast_26 rfl (wMod q Y I (sU A 32 (sU (m_fill (fun _ => 99999) (A 32) k) k 99999)) F Dd) rfl ?_
      refine g_iinc C (n' := 30) 0 [(1, .int (iI (((k : Nat) : Int) + 1))), (0, .ref (q 99))] rfl dX8_layLeast_27 rfl (by decide) rfl ?_
      refine g_goto C 13 dX8_layLeast_30 (by decide) ?_
      rw [show ((sU (m_fill (fun _ => 99999) (A 32) k) k 99999) : Nat → Int) = m_fill (fun _ => 99999) (A 32) (k + 1) from m_fill_s (fun _ => 99999) (A 32) k]
      refine g_lv (lv' := [(1, .int (iI ((k + 1 : Nat) : Int))), (0, .ref (q 99))]) [0, 1] rfl ?_
      exact ih (k + 1) (by omega) K
set_option maxRecDepth 100000 in
set_option maxHeartbeats 4000000 in
theorem lp_X8_ll_p {p9 : Program} {l : Launch} {e9 : Env} {s9 : State} {m9 : MethodId} {a9 : Array Value} {b9 : List Frame} {t9 : Method} {c9 : Code} {D : va_G} {A9 : Nat → Prop} {Q9 : State → Prop} {E : (Nat → Prop) → State → Heap → Prop} {Y : Nat → ClassId} (C : g_Cx p9 s9 m9 a9 c9 cX8_layLeast 4 RX8 D (tysY Y) A9 E) (q : Nat → Nat) (I : Nat → Int) (A : Nat → Nat → Int) (F : Nat → UInt32) (Dd : Nat → UInt64) (g : Nat → Int) (hsI : smI I) (hsA : smA A) (hE9 : okE I A) (hsg : smR g) : ∀ (n9 : Nat) (k : Nat) (R : Nat → Int), (k : Int) + n9 = I 2 → R = m_ly (A 29) (A 30) (A 3) (A 4) g k → smR R → (g_G p9 l e9 ({ frames := 2, cells := 0, slots := 0, locals := 45 } : Room) s9 m9 a9 b9 t9 c9 4 D A9 Q9 0 0 (wMod q Y I (sU A 32 (m_ly (A 29) (A 30) (A 3) (A 4) g (I 2).toNat)) F Dd) [(1, .int (iI (((I 2).toNat : Nat) : Int))), (0, .ref (q 99))] 155 []) → g_G p9 l e9 ({ frames := 2, cells := 0, slots := 0, locals := 45 } : Room) s9 m9 a9 b9 t9 c9 4 D A9 Q9 0 0 (wMod q Y I (sU A 32 R) F Dd) [(1, .int (iI ((k : Nat) : Int))), (0, .ref (q 99))] 35 [] := by
  have hE := C.2.2.2.2.2.2.2.2.1
  intro n9
  induction n9 with
  | zero =>
    intro k R hk hRe hsR K
    have hI := hsI
    have hA := hsA
    unfold smI at hI
    unfold smA at hA
    have hR := hsR
    unfold smR at hR
    have hE8 := hE9
    unfold okE at hE8
    refine g_iload_n C (n' := 36) 0 rfl dX8_layLeast_35 rfl rfl ?_
    refine g_aload_n C (n' := 37) 1 rfl dX8_layLeast_36 rfl rfl ?_
    refine g_get C (n' := 40) (Cn := RX8) (T := TX8) (N := 35) (ci := 6) (v := .int (iI (I 2))) ga_X8 0 rfl rfl 2 (by decide) kw_692 rfl rfl dX8_layLeast_37 rfl ?_
    have h_37 := hI 2
    refine g_icmp_ge C (n' := 43) 155 dX8_layLeast_40 (by decide) rfl (by unfold inR; omega) (by unfold inR; omega) (fun c1 => ?_) (fun c1 => ?_)
    · skip
      have ek : k = (I 2).toNat := by omega
      subst ek
      rw [hRe]
      exact K
    · skip
      exfalso
      omega
  | succ n9 ih =>
    intro k R hk hRe hsR K
    have hI := hsI
    have hA := hsA
    unfold smI at hI
    unfold smA at hA
    have hR := hsR
    unfold smR at hR
    have hE8 := hE9
    unfold okE at hE8
    refine g_iload_n C (n' := 36) 0 rfl dX8_layLeast_35 rfl rfl ?_
    refine g_aload_n C (n' := 37) 1 rfl dX8_layLeast_36 rfl rfl ?_
    refine g_get C (n' := 40) (Cn := RX8) (T := TX8) (N := 35) (ci := 6) (v := .int (iI (I 2))) ga_X8 0 rfl rfl 2 (by decide) kw_692 rfl rfl dX8_layLeast_37 rfl ?_
    have h_37 := hI 2
    refine g_icmp_ge C (n' := 43) 155 dX8_layLeast_40 (by decide) rfl (by unfold inR; omega) (by unfold inR; omega) (fun c1 => ?_) (fun c1 => ?_)
    · skip
      exfalso
      omega
    · skip
      have hp9 := hE8.2.2 k (by omega)
      refine g_bipush C (n' := 45) (by decide) dX8_layLeast_43 rfl ?_
      refine g_aload_n C (n' := 46) 1 rfl dX8_layLeast_45 rfl rfl ?_
      refine g_get C (n' := 49) (Cn := RX8) (T := TX8) (N := 35) (ci := 6) (v := .ref (q 3)) ga_X8 0 rfl rfl 3 (by decide) kw_693 rfl rfl dX8_layLeast_46 rfl ?_
      refine g_iload_n C (n' := 50) 0 rfl dX8_layLeast_49 rfl rfl ?_
      refine g_ialdN C (n' := 51) (f := (A 3)) (j := k) 2 0 rfl rfl (by omega) (by decide) rfl dX8_layLeast_50 rfl ?_
      have h_50 := hA 3 k
      refine g_imul C (n' := 52) dX8_layLeast_51 rfl ?_
      refine g_aload_n C (n' := 53) 1 rfl dX8_layLeast_52 rfl rfl ?_
      refine g_get C (n' := 56) (Cn := RX8) (T := TX8) (N := 35) (ci := 6) (v := .ref (q 4)) ga_X8 0 rfl rfl 4 (by decide) kw_694 rfl rfl dX8_layLeast_53 rfl ?_
      refine g_iload_n C (n' := 57) 0 rfl dX8_layLeast_56 rfl rfl ?_
      refine g_ialdN C (n' := 58) (f := (A 4)) (j := k) 3 0 rfl rfl (by omega) (by decide) rfl dX8_layLeast_57 rfl ?_
      have h_57 := hA 4 k
      refine g_iadd C (n' := 59) dX8_layLeast_58 rfl ?_
      refine g_istore_n C (n' := 60) [(2, .int (iI ((8 * ((A 3) k)) + ((A 4) k)))), (1, .int (iI ((k : Nat) : Int))), (0, .ref (q 99))] dX8_layLeast_59 rfl rfl (by decide) rfl ?_
      refine g_bipush C (n' := 62) (by decide) dX8_layLeast_60 rfl ?_
      refine g_aload_n C (n' := 63) 2 rfl dX8_layLeast_62 rfl rfl ?_
      refine g_get C (n' := 66) (Cn := RX8) (T := TX8) (N := 35) (ci := 6) (v := .ref (q 4)) ga_X8 0 rfl rfl 4 (by decide) kw_694 rfl rfl dX8_layLeast_63 rfl ?_
      refine g_iload_n C (n' := 67) 1 rfl dX8_layLeast_66 rfl rfl ?_
      refine g_ialdN C (n' := 68) (f := (A 4)) (j := k) 3 0 rfl rfl (by omega) (by decide) rfl dX8_layLeast_67 rfl ?_
      have h_67 := hA 4 k
      refine g_imul C (n' := 69) dX8_layLeast_68 rfl ?_
      refine g_aload_n C (n' := 70) 2 rfl dX8_layLeast_69 rfl rfl ?_
      refine g_get C (n' := 73) (Cn := RX8) (T := TX8) (N := 35) (ci := 6) (v := .ref (q 3)) ga_X8 0 rfl rfl 3 (by decide) kw_693 rfl rfl dX8_layLeast_70 rfl ?_
      refine g_iload_n C (n' := 74) 1 rfl dX8_layLeast_73 rfl rfl ?_
      refine g_ialdN C (n' := 75) (f := (A 3)) (j := k) 2 0 rfl rfl (by omega) (by decide) rfl dX8_layLeast_74 rfl ?_
      have h_74 := hA 3 k
      refine g_iadd C (n' := 76) dX8_layLeast_75 rfl ?_
      refine g_istore_n C (n' := 77) [(3, .int (iI ((8 * ((A 4) k)) + ((A 3) k)))), (2, .int (iI ((8 * ((A 3) k)) + ((A 4) k)))), (1, .int (iI ((k : Nat) : Int))), (0, .ref (q 99))] dX8_layLeast_76 rfl rfl (by decide) rfl ?_
      refine g_aload_n C (n' := 78) 3 rfl dX8_layLeast_77 rfl rfl ?_
      refine g_get C (n' := 81) (Cn := RX8) (T := TX8) (N := 35) (ci := 6) (v := .ref (q 32)) ga_X8 0 rfl rfl 32 (by decide) kw_722 rfl rfl dX8_layLeast_78 rfl ?_
      refine g_iload_n C (n' := 82) 1 rfl dX8_layLeast_81 rfl rfl ?_
      refine g_aload_n C (n' := 83) 3 rfl dX8_layLeast_82 rfl rfl ?_
      refine g_get C (n' := 86) (Cn := RX8) (T := TX8) (N := 35) (ci := 6) (v := .ref (q 29)) ga_X8 0 rfl rfl 29 (by decide) kw_719 rfl rfl dX8_layLeast_83 rfl ?_
      refine g_iload_n C (n' := 87) 2 rfl dX8_layLeast_86 rfl rfl ?_
      refine g_ialdN C (n' := 88) (f := (A 29)) (j := k) 17 0 rfl rfl (by omega) (by decide) rfl dX8_layLeast_87 rfl ?_
      have h_87 := hA 29 k
      refine g_aload_n C (n' := 89) 3 rfl dX8_layLeast_88 rfl rfl ?_
      refine g_get C (n' := 92) (Cn := RX8) (T := TX8) (N := 35) (ci := 6) (v := .ref (q 32)) ga_X8 0 rfl rfl 32 (by decide) kw_722 rfl rfl dX8_layLeast_89 rfl ?_
      refine g_iload_n C (n' := 93) 1 rfl dX8_layLeast_92 rfl rfl ?_
      refine g_iald C (n' := 94) (f := R) 20 0 rfl rfl (by omega) (by omega) (by decide) rfl dX8_layLeast_93 rfl ?_
      have h_93 := hR (((8 * ((A 3) k)) + ((A 4) k)).toNat)
      refine g_icmp_ge C (n' := 97) 106 dX8_layLeast_94 (by decide) rfl (by unfold inR; omega) (by unfold inR; omega) (fun c2 => ?_) (fun c2 => ?_)
      · skip
        refine g_aload_n C (n' := 107) 3 rfl dX8_layLeast_106 rfl rfl ?_
        refine g_get C (n' := 110) (Cn := RX8) (T := TX8) (N := 35) (ci := 6) (v := .ref (q 32)) ga_X8 0 rfl rfl 32 (by decide) kw_722 rfl rfl dX8_layLeast_107 rfl ?_
        refine g_iload_n C (n' := 111) 1 rfl dX8_layLeast_110 rfl rfl ?_
        refine g_iald C (n' := 112) (f := R) 20 0 rfl rfl (by omega) (by omega) (by decide) rfl dX8_layLeast_111 rfl ?_
        have h_111 := hR (((8 * ((A 3) k)) + ((A 4) k)).toNat)
        refine g_iast C (n' := 113) (f := R) 20 0 rfl rfl (by omega) (by omega) (by decide) rfl dX8_layLeast_112 rfl (wMod q Y I (sU A 32 (sU R ((8 * ((A 3) k)) + ((A 4) k)).toNat (R ((8 * ((A 3) k)) + ((A 4) k)).toNat))) F Dd) rfl ?_
        refine g_aload_n C (n' := 114) 3 rfl dX8_layLeast_113 rfl rfl ?_
        refine g_get C (n' := 117) (Cn := RX8) (T := TX8) (N := 35) (ci := 6) (v := .ref (q 32)) ga_X8 0 rfl rfl 32 (by decide) kw_722 rfl rfl dX8_layLeast_114 rfl ?_
        refine g_iload_n C (n' := 118) 0 rfl dX8_layLeast_117 rfl rfl ?_
        refine g_aload_n C (n' := 119) 3 rfl dX8_layLeast_118 rfl rfl ?_
        refine g_get C (n' := 122) (Cn := RX8) (T := TX8) (N := 35) (ci := 6) (v := .ref (q 30)) ga_X8 0 rfl rfl 30 (by decide) kw_720 rfl rfl dX8_layLeast_119 rfl ?_
        refine g_iload_n C (n' := 123) 2 rfl dX8_layLeast_122 rfl rfl ?_
        refine g_ialdN C (n' := 124) (f := (A 30)) (j := k) 18 0 rfl rfl (by omega) (by decide) rfl dX8_layLeast_123 rfl ?_
        have h_123 := hA 30 k
        refine g_aload_n C (n' := 125) 3 rfl dX8_layLeast_124 rfl rfl ?_
        refine g_get C (n' := 128) (Cn := RX8) (T := TX8) (N := 35) (ci := 6) (v := .ref (q 32)) ga_X8 0 rfl rfl 32 (by decide) kw_722 rfl rfl dX8_layLeast_125 rfl ?_
        refine g_iload_n C (n' := 129) 0 rfl dX8_layLeast_128 rfl rfl ?_
        refine g_iald C (n' := 130) (f := (sU R ((8 * ((A 3) k)) + ((A 4) k)).toNat (R ((8 * ((A 3) k)) + ((A 4) k)).toNat))) 20 0 rfl rfl (by omega) (by omega) (by decide) rfl dX8_layLeast_129 rfl ?_
        have h_129 := (sm_putR hsR (by omega) : smR (sU R ((8 * ((A 3) k)) + ((A 4) k)).toNat (R ((8 * ((A 3) k)) + ((A 4) k)).toNat))) (((8 * ((A 4) k)) + ((A 3) k)).toNat)
        refine g_icmp_ge C (n' := 133) 142 dX8_layLeast_130 (by decide) rfl (by unfold inR; omega) (by unfold inR; omega) (fun c3 => ?_) (fun c3 => ?_)
        · skip
          refine g_aload_n C (n' := 143) 3 rfl dX8_layLeast_142 rfl rfl ?_
          refine g_get C (n' := 146) (Cn := RX8) (T := TX8) (N := 35) (ci := 6) (v := .ref (q 32)) ga_X8 0 rfl rfl 32 (by decide) kw_722 rfl rfl dX8_layLeast_143 rfl ?_
          refine g_iload_n C (n' := 147) 0 rfl dX8_layLeast_146 rfl rfl ?_
          refine g_iald C (n' := 148) (f := (sU R ((8 * ((A 3) k)) + ((A 4) k)).toNat (R ((8 * ((A 3) k)) + ((A 4) k)).toNat))) 20 0 rfl rfl (by omega) (by omega) (by decide) rfl dX8_layLeast_147 rfl ?_
          have h_147 := (sm_putR hsR (by omega) : smR (sU R ((8 * ((A 3) k)) + ((A 4) k)).toNat (R ((8 * ((A 3) k)) + ((A 4) k)).toNat))) (((8 * ((A 4) k)) + ((A 3) k)).toNat)
          refine g_iast C (n' := 149) (f := (sU R ((8 * ((A 3) k)) + ((A 4) k)).toNat (R ((8 * ((A 3) k)) + ((A 4) k)).toNat))) 20 0 rfl rfl (by omega) (by omega) (by decide) rfl dX8_layLeast_148 rfl (wMod q Y I (sU A 32 (sU (sU R ((8 * ((A 3) k)) + ((A 4) k)).toNat (R ((8 * ((A 3) k)) + ((A 4) k)).toNat)) ((8 * ((A 4) k)) + ((A 3) k)).toNat ((sU R ((8 * ((A 3) k)) + ((A 4) k)).toNat (R ((8 * ((A 3) k)) + ((A 4) k)).toNat)) ((8 * ((A 4) k)) + ((A 3) k)).toNat))) F Dd) rfl ?_
          refine g_iinc C (n' := 152) 2 [(1, .int (iI (((k : Nat) : Int) + 1))), (3, .int (iI ((8 * ((A 4) k)) + ((A 3) k)))), (2, .int (iI ((8 * ((A 3) k)) + ((A 4) k)))), (0, .ref (q 99))] rfl dX8_layLeast_149 rfl (by decide) rfl ?_
          refine g_goto C 35 dX8_layLeast_152 (by decide) ?_
          have e1 : (sU (sU R ((8 * ((A 3) k)) + ((A 4) k)).toNat (R ((8 * ((A 3) k)) + ((A 4) k)).toNat)) ((8 * ((A 4) k)) + ((A 3) k)).toNat ((sU R ((8 * ((A 3) k)) + ((A 4) k)).toNat (R ((8 * ((A 3) k)) + ((A 4) k)).toNat)) ((8 * ((A 4) k)) + ((A 3) k)).toNat)) = m_ly (A 29) (A 30) (A 3) (A 4) g (k + 1) := by
            rw [m_ly, ← hRe, m_lo, m_lo, if_neg (by omega), if_neg (by omega)]
          have e2 := m_ly_r (f := A 3) (t := A 4) (fun j => hA 29 j) (fun j => hA 30 j) hsg (k + 1)
          rw [← e1] at e2
          refine g_lv (lv' := [(1, .int (iI (((k : Nat) : Int) + 1))), (0, .ref (q 99))]) [0, 3] rfl ?_
          exact ih (k + 1) _ (by omega) e1 e2 K
        · skip
          refine g_aload_n C (n' := 134) 3 rfl dX8_layLeast_133 rfl rfl ?_
          refine g_get C (n' := 137) (Cn := RX8) (T := TX8) (N := 35) (ci := 6) (v := .ref (q 30)) ga_X8 0 rfl rfl 30 (by decide) kw_720 rfl rfl dX8_layLeast_134 rfl ?_
          refine g_iload_n C (n' := 138) 2 rfl dX8_layLeast_137 rfl rfl ?_
          refine g_ialdN C (n' := 139) (f := (A 30)) (j := k) 18 0 rfl rfl (by omega) (by decide) rfl dX8_layLeast_138 rfl ?_
          have h_138 := hA 30 k
          refine g_goto C 148 dX8_layLeast_139 (by decide) ?_
          refine g_iast C (n' := 149) (f := (sU R ((8 * ((A 3) k)) + ((A 4) k)).toNat (R ((8 * ((A 3) k)) + ((A 4) k)).toNat))) 20 0 rfl rfl (by omega) (by omega) (by decide) rfl dX8_layLeast_148 rfl (wMod q Y I (sU A 32 (sU (sU R ((8 * ((A 3) k)) + ((A 4) k)).toNat (R ((8 * ((A 3) k)) + ((A 4) k)).toNat)) ((8 * ((A 4) k)) + ((A 3) k)).toNat ((A 30) k))) F Dd) rfl ?_
          refine g_iinc C (n' := 152) 2 [(1, .int (iI (((k : Nat) : Int) + 1))), (3, .int (iI ((8 * ((A 4) k)) + ((A 3) k)))), (2, .int (iI ((8 * ((A 3) k)) + ((A 4) k)))), (0, .ref (q 99))] rfl dX8_layLeast_149 rfl (by decide) rfl ?_
          refine g_goto C 35 dX8_layLeast_152 (by decide) ?_
          have e1 : (sU (sU R ((8 * ((A 3) k)) + ((A 4) k)).toNat (R ((8 * ((A 3) k)) + ((A 4) k)).toNat)) ((8 * ((A 4) k)) + ((A 3) k)).toNat ((A 30) k)) = m_ly (A 29) (A 30) (A 3) (A 4) g (k + 1) := by
            rw [m_ly, ← hRe, m_lo, m_lo, if_neg (by omega), if_pos (by omega)]
          have e2 := m_ly_r (f := A 3) (t := A 4) (fun j => hA 29 j) (fun j => hA 30 j) hsg (k + 1)
          rw [← e1] at e2
          refine g_lv (lv' := [(1, .int (iI (((k : Nat) : Int) + 1))), (0, .ref (q 99))]) [0, 3] rfl ?_
          exact ih (k + 1) _ (by omega) e1 e2 K
      · skip
        refine g_aload_n C (n' := 98) 3 rfl dX8_layLeast_97 rfl rfl ?_
        refine g_get C (n' := 101) (Cn := RX8) (T := TX8) (N := 35) (ci := 6) (v := .ref (q 29)) ga_X8 0 rfl rfl 29 (by decide) kw_719 rfl rfl dX8_layLeast_98 rfl ?_
        refine g_iload_n C (n' := 102) 2 rfl dX8_layLeast_101 rfl rfl ?_
        refine g_ialdN C (n' := 103) (f := (A 29)) (j := k) 17 0 rfl rfl (by omega) (by decide) rfl dX8_layLeast_102 rfl ?_
        have h_102 := hA 29 k
        refine g_goto C 112 dX8_layLeast_103 (by decide) ?_
        refine g_iast C (n' := 113) (f := R) 20 0 rfl rfl (by omega) (by omega) (by decide) rfl dX8_layLeast_112 rfl (wMod q Y I (sU A 32 (sU R ((8 * ((A 3) k)) + ((A 4) k)).toNat ((A 29) k))) F Dd) rfl ?_
        refine g_aload_n C (n' := 114) 3 rfl dX8_layLeast_113 rfl rfl ?_
        refine g_get C (n' := 117) (Cn := RX8) (T := TX8) (N := 35) (ci := 6) (v := .ref (q 32)) ga_X8 0 rfl rfl 32 (by decide) kw_722 rfl rfl dX8_layLeast_114 rfl ?_
        refine g_iload_n C (n' := 118) 0 rfl dX8_layLeast_117 rfl rfl ?_
        refine g_aload_n C (n' := 119) 3 rfl dX8_layLeast_118 rfl rfl ?_
        refine g_get C (n' := 122) (Cn := RX8) (T := TX8) (N := 35) (ci := 6) (v := .ref (q 30)) ga_X8 0 rfl rfl 30 (by decide) kw_720 rfl rfl dX8_layLeast_119 rfl ?_
        refine g_iload_n C (n' := 123) 2 rfl dX8_layLeast_122 rfl rfl ?_
        refine g_ialdN C (n' := 124) (f := (A 30)) (j := k) 18 0 rfl rfl (by omega) (by decide) rfl dX8_layLeast_123 rfl ?_
        have h_123 := hA 30 k
        refine g_aload_n C (n' := 125) 3 rfl dX8_layLeast_124 rfl rfl ?_
        refine g_get C (n' := 128) (Cn := RX8) (T := TX8) (N := 35) (ci := 6) (v := .ref (q 32)) ga_X8 0 rfl rfl 32 (by decide) kw_722 rfl rfl dX8_layLeast_125 rfl ?_
        refine g_iload_n C (n' := 129) 0 rfl dX8_layLeast_128 rfl rfl ?_
        refine g_iald C (n' := 130) (f := (sU R ((8 * ((A 3) k)) + ((A 4) k)).toNat ((A 29) k))) 20 0 rfl rfl (by omega) (by omega) (by decide) rfl dX8_layLeast_129 rfl ?_
        have h_129 := (sm_putR hsR (by omega) : smR (sU R ((8 * ((A 3) k)) + ((A 4) k)).toNat ((A 29) k))) (((8 * ((A 4) k)) + ((A 3) k)).toNat)
        refine g_icmp_ge C (n' := 133) 142 dX8_layLeast_130 (by decide) rfl (by unfold inR; omega) (by unfold inR; omega) (fun c4 => ?_) (fun c4 => ?_)
        · skip
          refine g_aload_n C (n' := 143) 3 rfl dX8_layLeast_142 rfl rfl ?_
          refine g_get C (n' := 146) (Cn := RX8) (T := TX8) (N := 35) (ci := 6) (v := .ref (q 32)) ga_X8 0 rfl rfl 32 (by decide) kw_722 rfl rfl dX8_layLeast_143 rfl ?_
          refine g_iload_n C (n' := 147) 0 rfl dX8_layLeast_146 rfl rfl ?_
          refine g_iald C (n' := 148) (f := (sU R ((8 * ((A 3) k)) + ((A 4) k)).toNat ((A 29) k))) 20 0 rfl rfl (by omega) (by omega) (by decide) rfl dX8_layLeast_147 rfl ?_
          have h_147 := (sm_putR hsR (by omega) : smR (sU R ((8 * ((A 3) k)) + ((A 4) k)).toNat ((A 29) k))) (((8 * ((A 4) k)) + ((A 3) k)).toNat)
          refine g_iast C (n' := 149) (f := (sU R ((8 * ((A 3) k)) + ((A 4) k)).toNat ((A 29) k))) 20 0 rfl rfl (by omega) (by omega) (by decide) rfl dX8_layLeast_148 rfl (wMod q Y I (sU A 32 (sU (sU R ((8 * ((A 3) k)) + ((A 4) k)).toNat ((A 29) k)) ((8 * ((A 4) k)) + ((A 3) k)).toNat ((sU R ((8 * ((A 3) k)) + ((A 4) k)).toNat ((A 29) k)) ((8 * ((A 4) k)) + ((A 3) k)).toNat))) F Dd) rfl ?_
          refine g_iinc C (n' := 152) 2 [(1, .int (iI (((k : Nat) : Int) + 1))), (3, .int (iI ((8 * ((A 4) k)) + ((A 3) k)))), (2, .int (iI ((8 * ((A 3) k)) + ((A 4) k)))), (0, .ref (q 99))] rfl dX8_layLeast_149 rfl (by decide) rfl ?_
          refine g_goto C 35 dX8_layLeast_152 (by decide) ?_
          have e1 : (sU (sU R ((8 * ((A 3) k)) + ((A 4) k)).toNat ((A 29) k)) ((8 * ((A 4) k)) + ((A 3) k)).toNat ((sU R ((8 * ((A 3) k)) + ((A 4) k)).toNat ((A 29) k)) ((8 * ((A 4) k)) + ((A 3) k)).toNat)) = m_ly (A 29) (A 30) (A 3) (A 4) g (k + 1) := by
            rw [m_ly, ← hRe, m_lo, m_lo, if_pos (by omega), if_neg (by omega)]
          have e2 := m_ly_r (f := A 3) (t := A 4) (fun j => hA 29 j) (fun j => hA 30 j) hsg (k + 1)
          rw [← e1] at e2
          refine g_lv (lv' := [(1, .int (iI (((k : Nat) : Int) + 1))), (0, .ref (q 99))]) [0, 3] rfl ?_
          exact ih (k + 1) _ (by omega) e1 e2 K
        · skip
          refine g_aload_n C (n' := 134) 3 rfl dX8_layLeast_133 rfl rfl ?_
          refine g_get C (n' := 137) (Cn := RX8) (T := TX8) (N := 35) (ci := 6) (v := .ref (q 30)) ga_X8 0 rfl rfl 30 (by decide) kw_720 rfl rfl dX8_layLeast_134 rfl ?_
          refine g_iload_n C (n' := 138) 2 rfl dX8_layLeast_137 rfl rfl ?_
          refine g_ialdN C (n' := 139) (f := (A 30)) (j := k) 18 0 rfl rfl (by omega) (by decide) rfl dX8_layLeast_138 rfl ?_
          have h_138 := hA 30 k
          refine g_goto C 148 dX8_layLeast_139 (by decide) ?_
          refine g_iast C (n' := 149) (f := (sU R ((8 * ((A 3) k)) + ((A 4) k)).toNat ((A 29) k))) 20 0 rfl rfl (by omega) (by omega) (by decide) rfl dX8_layLeast_148 rfl (wMod q Y I (sU A 32 (sU (sU R ((8 * ((A 3) k)) + ((A 4) k)).toNat ((A 29) k)) ((8 * ((A 4) k)) + ((A 3) k)).toNat ((A 30) k))) F Dd) rfl ?_
          refine g_iinc C (n' := 152) 2 [(1, .int (iI (((k : Nat) : Int) + 1))), (3, .int (iI ((8 * ((A 4) k)) + ((A 3) k)))), (2, .int (iI ((8 * ((A 3) k)) + ((A 4) k)))), (0, .ref (q 99))] rfl dX8_layLeast_149 rfl (by decide) rfl ?_
          refine g_goto C 35 dX8_layLeast_152 (by decide) ?_
          have e1 : (sU (sU R ((8 * ((A 3) k)) + ((A 4) k)).toNat ((A 29) k)) ((8 * ((A 4) k)) + ((A 3) k)).toNat ((A 30) k)) = m_ly (A 29) (A 30) (A 3) (A 4) g (k + 1) := by
            rw [m_ly, ← hRe, m_lo, m_lo, if_pos (by omega), if_pos (by omega)]
          have e2 := m_ly_r (f := A 3) (t := A 4) (fun j => hA 29 j) (fun j => hA 30 j) hsg (k + 1)
          rw [← e1] at e2
          refine g_lv (lv' := [(1, .int (iI (((k : Nat) : Int) + 1))), (0, .ref (q 99))]) [0, 3] rfl ?_
          exact ih (k + 1) _ (by omega) e1 e2 K
set_option maxRecDepth 100000 in
set_option maxHeartbeats 4000000 in
theorem c_X8_layLeast (l : Launch) (D : va_G) (Y : Nat → ClassId) {E : (Nat → Prop) → State → Heap → Prop} (hE : g_Stab E) (q : Nat → Nat) (I : Nat → Int) (A : Nat → Nat → Int) (F : Nat → UInt32) (Dd : Nat → UInt64) (hsI : smI I) (hsA : smA A) (hN : okN (mJ I A) (mN A)) : g_Ct l yX8_layLeast cX8_layLeast 4 none ({ frames := 2, cells := 0, slots := 0, locals := 45 } : Room) D (tysY Y) E [.ref (q 99)] (wMod q Y I A F Dd) 0 0 (g_det none (wMod q Y I (sU (sU (sU A 29 (m_fill (m_lt I A (A 0 0) 0) (A 29) (I 2).toNat)) 30 (m_fill (m_so I A 0) (A 30) (I 2).toNat)) 32 (m_low I A)) F Dd)) := by
  refine g_ofG (own := RX8) hE (by decide) rfl (Nat.le_of_ble_eq_true rfl) [(0, .ref (q 99))] rfl ?_
  intro p9 e9 s9 m9 b9 t9 c9 A9 C hr hlk hnm
  have hI := hsI
  have hA := hsA
  unfold smI at hI
  unfold smA at hA
  have hN9 := hN
  unfold okN at hN9
  simp only [mJ, mN] at hN9
  refine g_aload_n C (n' := 1) 0 rfl dX8_layLeast_0 rfl rfl ?_
  refine g_aload_n C (n' := 2) 0 rfl dX8_layLeast_1 rfl rfl ?_
  refine g_get C (n' := 5) (Cn := RX8) (T := TX8) (N := 35) (ci := 6) (v := .ref (q 0)) ga_X8 0 rfl rfl 0 (by decide) kw_690 rfl rfl dX8_layLeast_2 rfl ?_
  refine g_iconst C (n' := 6) dX8_layLeast_5 rfl ?_
  refine g_ialdN C (n' := 7) (f := (A 0)) (j := 0) 1 0 rfl rfl (by omega) (by decide) rfl dX8_layLeast_6 rfl ?_
  have h_6 := hA 0 0
  refine g_iconst C (n' := 8) dX8_layLeast_7 rfl ?_
  refine g_cVn C (n' := 11) (c_X8_layBounds l D Y C.2.2.2.2.2.2.2.2.1 q I A F Dd ((A 0) 0) 0 hsI hsA hN (by omega) (by omega)) 2 kw_909 kc_X8_layBounds (by decide +kernel) (pm0 _) 0 (ci := 6) rfl rfl rfl rfl ⟨Nat.le_of_ble_eq_true rfl, Nat.le_of_ble_eq_true rfl⟩ ⟨rfl, rfl⟩ ⟨Nat.le_of_ble_eq_true rfl, Nat.le_of_ble_eq_true rfl⟩ (Nat.le_of_ble_eq_true rfl) dX8_layLeast_8 rfl rfl (wMod q Y I (sU (sU A 29 (m_fill (m_lt I A ((A 0) 0) 0) ((A 29)) ((I 2)).toNat)) 30 (m_fill (m_so I A 0) ((A 30)) ((I 2)).toNat)) F Dd) (pm0' _) ?_
  refine g_iconst C (n' := 12) dX8_layLeast_11 rfl ?_
  refine g_istore_n C (n' := 13) [(1, .int (iI 0)), (0, .ref (q 99))] dX8_layLeast_12 rfl rfl (by decide) rfl ?_
  have hr9 := fun (p : Nat) (hp : (p : Int) < I 2) => m_lt_r hN (u := A 0 0) (g := 0) (by omega) (by omega) hp
  have hs29 : smR (m_fill (m_lt I A (A 0 0) 0) (A 29) (I 2).toNat) := m_fill_sm (fun k hk => by have := hr9 k (by omega); omega) (hsA 29)
  have hs30 : smR (m_fill (m_so I A 0) (A 30) (I 2).toNat) := m_fill_sm (fun k hk => by have := hr9 k (by omega); omega) (hsA 30)
  have hf29 : ∀ p : Nat, p < (I 2).toNat → m_fill (m_lt I A (A 0 0) 0) (A 29) (I 2).toNat p = m_lt I A (A 0 0) 0 p := fun p hp => if_pos hp
  have hf30 : ∀ p : Nat, p < (I 2).toNat → m_fill (m_so I A 0) (A 30) (I 2).toNat p = m_so I A 0 p := fun p hp => if_pos hp
  have hE9 : okE I (sU (sU A 29 (m_fill (m_lt I A ((A 0) 0) 0) ((A 29)) ((I 2)).toNat)) 30 (m_fill (m_so I A 0) ((A 30)) ((I 2)).toNat)) := m_okE hN (fun p hp => by rw [hf29 p (by omega), hf30 p (by omega)]; have := hr9 p hp; omega)
  have hsA9 : smA (sU (sU A 29 (m_fill (m_lt I A ((A 0) 0) 0) ((A 29)) ((I 2)).toNat)) 30 (m_fill (m_so I A 0) ((A 30)) ((I 2)).toNat)) := sm_putA (sm_putA hsA hs29) hs30
  have e9 : m_ly (m_fill (m_lt I A (A 0 0) 0) (A 29) (I 2).toNat) (m_fill (m_so I A 0) (A 30) (I 2).toNat) (A 3) (A 4) (m_much (A 32)) (I 2).toNat = m_low I A := m_ly_c _ (fun p hp => ⟨hf29 p hp, hf30 p hp⟩)
  refine g_wd (w' := wMod q Y I (sU (sU (sU A 29 (m_fill (m_lt I A ((A 0) 0) 0) ((A 29)) ((I 2)).toNat)) 30 (m_fill (m_so I A 0) ((A 30)) ((I 2)).toNat)) 32 ((sU (sU A 29 (m_fill (m_lt I A ((A 0) 0) 0) ((A 29)) ((I 2)).toNat)) 30 (m_fill (m_so I A 0) ((A 30)) ((I 2)).toNat)) 32)) F Dd) (by rw [sU_id]) ?_
  refine g_wd (w' := wMod q Y I (sU (sU (sU A 29 (m_fill (m_lt I A ((A 0) 0) 0) ((A 29)) ((I 2)).toNat)) 30 (m_fill (m_so I A 0) ((A 30)) ((I 2)).toNat)) 32 (m_fill (fun _ => 99999) (A 32) 0)) F Dd) (by rw [m_fill_0]; rfl) ?_
  refine g_lv (lv' := [(1, .int (iI ((0 : Nat) : Int))), (0, .ref (q 99))]) [0, 1] rfl ?_
  refine lp_X8_ll_u C q I (sU (sU A 29 (m_fill (m_lt I A ((A 0) 0) 0) ((A 29)) ((I 2)).toNat)) 30 (m_fill (m_so I A 0) ((A 30)) ((I 2)).toNat)) F Dd hsI hsA9 64 0 rfl ?_
  refine g_wd (w' := (wMod q Y I (sU (sU (sU A 29 (m_fill (m_lt I A (A 0 0) 0) (A 29) (I 2).toNat)) 30 (m_fill (m_so I A 0) (A 30) (I 2).toNat)) 32 (m_much (A 32))) F Dd)) rfl ?_
  refine g_iconst C (n' := 34) dX8_layLeast_33 rfl ?_
  refine g_istore_n C (n' := 35) [(1, .int (iI 0)), (0, .ref (q 99))] dX8_layLeast_34 rfl rfl (by decide) rfl ?_
  refine g_lv (lv' := [(1, .int (iI ((0 : Nat) : Int))), (0, .ref (q 99))]) [0, 1] rfl ?_
  refine lp_X8_ll_p C q I (sU (sU A 29 (m_fill (m_lt I A (A 0 0) 0) (A 29) (I 2).toNat)) 30 (m_fill (m_so I A 0) (A 30) (I 2).toNat)) F Dd (m_much (A 32)) hsI hsA9 hE9 (m_much_r (hsA 32)) (I 2).toNat 0 (m_much (A 32)) (by omega) rfl (m_much_r (hsA 32)) ?_
  refine g_wd (w' := wMod q Y I (sU (sU (sU A 29 (m_fill (m_lt I A (A 0 0) 0) (A 29) (I 2).toNat)) 30 (m_fill (m_so I A 0) (A 30) (I 2).toNat)) 32 (m_low I A)) F Dd) (by rw [← e9]; rfl) ?_
  refine g_vret C hr hlk ⟨rfl, ?_⟩ dX8_layLeast_155
  first | rfl | omega | ((repeat' split) <;> first | rfl | omega | (exfalso; omega))
