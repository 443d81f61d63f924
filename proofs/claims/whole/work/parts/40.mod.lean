/-! the reference: buffer -/
def agN (J : Nat → Int) (N M : Nat → Nat → Int) : Prop := ∀ p : Nat, (p : Int) < J 5 → N 6 p = M 6 p ∧ N 7 p = M 7 p ∧ N 8 p = M 8 p ∧ N 9 p = M 9 p
theorem agN_symm {J : Nat → Int} {N M : Nat → Nat → Int} (h : agN J N M) : agN J M N := fun p hp => by
  have := h p hp
  exact ⟨this.1.symm, this.2.1.symm, this.2.2.1.symm, this.2.2.2.symm⟩
theorem nEd_1 {J : Nat → Int} {N M : Nat → Nat → Int} (h : agN J N M) {u v g t : Int} {a b : Nat} {c : Int} (k : nEd J N u v g t a b c) : nEd J M u v g t a b c := by
  obtain ⟨p, hp, k⟩ := k
  obtain ⟨e6, e7, e8, e9⟩ := h p hp
  refine ⟨p, hp, ?_⟩
  unfold p_late p_soon at *
  rw [← e6, ← e7, ← e8, ← e9]
  exact k
theorem nEd_c {J : Nat → Int} {N M : Nat → Nat → Int} (h : agN J N M) (u v g t : Int) : nEd J N u v g t = nEd J M u v g t := by
  funext a b c
  exact propext ⟨nEd_1 h, nEd_1 (agN_symm h)⟩
theorem feas_c {J : Nat → Int} {N M : Nat → Nat → Int} (h : agN J N M) (u v g t : Int) : feas J N u v g t = feas J M u v g t := by
  unfold feas
  rw [nEd_c h]
theorem lpIs_c {J : Nat → Int} {N M : Nat → Nat → Int} (h : agN J N M) (v t m z : Int) : lpIs J N v t m z = lpIs J M v t m z := by
  unfold lpIs
  simp only [feas_c h]
theorem okN_c {J : Nat → Int} {N M : Nat → Nat → Int} (h : agN J N M) (k : okN J N) : okN J M := by
  unfold okN at *
  refine ⟨k.1, k.2.1, k.2.2.1, k.2.2.2.1, k.2.2.2.2.1, k.2.2.2.2.2.1, fun p hp => ?_⟩
  obtain ⟨e6, e7, e8, e9⟩ := h p hp
  rw [← e6, ← e7, ← e8, ← e9]
  exact k.2.2.2.2.2.2 p hp
/-- path k has n more -/
def bN (N : Nat → Nat → Int) (k : Nat) (n : Int) : Nat → Nat → Int := fun s p => if (s = 8 ∨ s = 9) ∧ p = k then N s p + n else N s p
theorem bN_ok {J : Nat → Int} {N : Nat → Nat → Int} (h : okN J N) {k : Nat} {n : Int} (hn : 0 ≤ n) (hk : (k : Int) < J 5 → N 8 k + n ≤ 199) : okN J (bN N k n) := by
  unfold okN at *
  refine ⟨h.1, h.2.1, h.2.2.1, h.2.2.2.1, h.2.2.2.2.1, h.2.2.2.2.2.1, fun p hp => ?_⟩
  have h1 := h.2.2.2.2.2.2 p hp
  unfold bN
  by_cases e : p = k
  · subst e
    have := hk hp
    simp
    omega
  · simp [e]
    omega
def bfIs (J : Nat → Int) (N : Nat → Nat → Int) (n m : Int) : Nat → Int → Int → Prop
  | 0, b, l => b = -1 ∧ ∃ z, lpIs J N 1 (J 3) 999 z ∧ l = if z = -1 then m else z
  | k + 1, b, l => ∃ b0 l0, bfIs J N n m k b0 l0 ∧ ((¬ N 8 k + n < 200 ∧ b = b0 ∧ l = l0) ∨ (N 8 k + n < 200 ∧ ∃ z, lpIs J (bN N k n) 1 (J 3) 999 z ∧ ((z ≠ -1 ∧ z < l0 ∧ b = k ∧ l = z) ∨ ((z = -1 ∨ l0 ≤ z) ∧ b = b0 ∧ l = l0))))
theorem bfIs_r {J : Nat → Int} {N : Nat → Nat → Int} {n m : Int} (hm : 0 ≤ m) : ∀ (k : Nat) (b l : Int), bfIs J N n m k b l → (-1 ≤ b ∧ b < k) ∧ (0 ≤ l ∧ (l ≤ m ∨ l ≤ 999))
  | 0, b, l, ⟨h1, z, h2, h3⟩ => by
    have := lpIs_r h2 (by omega)
    split at h3 <;> omega
  | k + 1, b, l, ⟨b0, l0, h1, h2⟩ => by
    have h3 := bfIs_r hm k b0 l0 h1
    rcases h2 with h2 | ⟨h2, z, h4, h5⟩
    · omega
    · have := lpIs_r h4 (by omega)
      omega
def m_row (f : Nat → Int) (k : Nat) (n : Int) : Nat → Int := sU (sU f (1 + k) (f (1 + k) + n)) (17 + k) (f (17 + k) + n)
theorem m_row_r {f : Nat → Int} (h : smR f) {k : Nat} {n : Int} (h1 : -1000000 ≤ f (1 + k) + n ∧ f (1 + k) + n ≤ 1000000) (h2 : -1000000 ≤ f (17 + k) + n ∧ f (17 + k) + n ≤ 1000000) : smR (m_row f k n) := sm_putR (sm_putR h h1) h2
theorem m_unrow {f g : Nat → Int} {k : Nat} {n : Int} (h : f = m_row g k n) : sU (sU f (1 + k) (f (1 + k) - n)) (17 + k) (sU f (1 + k) (f (1 + k) - n) (17 + k) - n) = g := by
  subst h
  funext j
  have e1 : m_row g k n (1 + k) = g (1 + k) + n := by
    unfold m_row
    rw [sU_n _ _ (by omega), sU_s]
  have e2 : m_row g k n (17 + k) = g (17 + k) + n := by
    unfold m_row
    rw [sU_s]
  rw [sU_n (m_row g k n) _ (show 17 + k ≠ 1 + k by omega), e1, e2]
  by_cases a : j = 17 + k
  · subst a
    rw [sU_s]
    omega
  · rw [sU_n _ _ a]
    by_cases b : j = 1 + k
    · subst b
      rw [sU_s]
      omega
    · rw [sU_n _ _ b]
      unfold m_row
      rw [sU_n _ _ a, sU_n _ _ b]
theorem m_row_J {I : Nat → Int} {A A2 : Nat → Nat → Int} (h : kpA A A2) (k : Nat) (n : Int) : mJ I (sU A2 0 (m_row (A2 0) k n)) = mJ I A := by
  rw [← kpA_J h I]
  funext j
  unfold mJ
  have e : (sU A2 0 (m_row (A2 0) k n)) 0 0 = A2 0 0 := by
    rw [sU_s]
    unfold m_row
    rw [sU_n _ _ (by omega), sU_n _ _ (by omega)]
  rw [e]
theorem m_row_N {I : Nat → Int} {A A2 : Nat → Nat → Int} (h : kpA A A2) (hI : I 2 ≤ 16) (k : Nat) (hk : (k : Int) < I 2) (n : Int) : agN (mJ I A) (bN (mN A) k n) (mN (sU A2 0 (m_row (A2 0) k n))) := fun p hp => by
  have hp2 : (p : Int) < I 2 := hp
  rw [← kpA_N h]
  refine ⟨rfl, rfl, ?_, ?_⟩
  · show (if (8 = 8 ∨ 8 = 9) ∧ p = k then A2 0 (1 + p) + n else A2 0 (1 + p)) = (sU A2 0 (m_row (A2 0) k n)) 0 (1 + p)
    rw [sU_s]
    unfold m_row
    rw [sU_n _ _ (by omega)]
    by_cases e : p = k
    · subst e
      rw [sU_s, if_pos ⟨Or.inl rfl, rfl⟩]
    · rw [sU_n _ _ (by omega), if_neg (fun q => e q.2)]
  · show (if (9 = 8 ∨ 9 = 9) ∧ p = k then A2 0 (17 + p) + n else A2 0 (17 + p)) = (sU A2 0 (m_row (A2 0) k n)) 0 (17 + p)
    rw [sU_s]
    unfold m_row
    by_cases e : p = k
    · subst e
      rw [sU_s, if_pos ⟨Or.inr rfl, rfl⟩]
    · rw [sU_n _ _ (by omega), sU_n _ _ (by omega), if_neg (fun q => e q.2)]
theorem m_row_k {A A2 A3 : Nat → Nat → Int} {f : Nat → Int} (h : kpA A A2) (h3 : kpA (sU A2 0 f) A3) : kpA A (sU A3 0 (A2 0)) := fun s a b c => by
  by_cases e : s = 0
  · subst e
    rw [sU_s]
    exact h 0 a b c
  · rw [sU_n _ _ e, h3 s a b c, sU_n _ _ e]
    exact h s a b c
def bfM (J : Nat → Int) (N : Nat → Nat → Int) (m n z : Int) : Prop := (¬ (1 ≤ n ∧ n ≤ 20) ∧ z = -3) ∨ ((1 ≤ n ∧ n ≤ 20) ∧ ∃ l, bfIs J N n m (J 5).toNat z l)
set_option maxRecDepth 100000 in
set_option maxHeartbeats 4000000 in
theorem lp_X8_bu {p9 : Program} {l : Launch} {e9 : Env} {s9 : State} {m9 : MethodId} {a9 : Array Value} {b9 : List Frame} {t9 : Method} {c9 : Code} {D : va_G} {A9 : Nat → Prop} {Q9 : State → Prop} {E : (Nat → Prop) → State → Heap → Prop} {Y : Nat → ClassId} (C : g_Cx p9 s9 m9 a9 c9 cX8_buffer 8 RX8 D (tysY Y) A9 E) (q : Nat → Nat) (I : Nat → Int) (A : Nat → Nat → Int) (F : Nat → UInt32) (Dd : Nat → UInt64) (n now : Int) (hsI : smI I) (hsA : smA A) (hN : okN (mJ I A) (mN A)) (hn : 1 ≤ n ∧ n ≤ 20) : ∀ (n9 : Nat) (A2 : Nat → Nat → Int) (b lo : Int) (k : Nat), smA A2 → kpA A A2 → (k : Int) + n9 = I 2 → bfIs (mJ I A) (mN A) n 99999 k b lo → (∀ (A2 : Nat → Nat → Int) (b lo : Int) (k : Nat), smA A2 → kpA A A2 → bfIs (mJ I A) (mN A) n 99999 (I 2).toNat b lo → g_G p9 l e9 ({ frames := 4, cells := 0, slots := 0, locals := 93 } : Room) s9 m9 a9 b9 t9 c9 8 D A9 Q9 0 0 (wMod q Y I A2 F Dd) [(5, .int (iI ((k : Nat) : Int))), (4, .int (iI lo)), (3, .int (iI now)), (2, .int (iI b)), (0, .ref (q 99)), (1, .int (iI n))] 176 []) → g_G p9 l e9 ({ frames := 4, cells := 0, slots := 0, locals := 93 } : Room) s9 m9 a9 b9 t9 c9 8 D A9 Q9 0 0 (wMod q Y I A2 F Dd) [(5, .int (iI ((k : Nat) : Int))), (4, .int (iI lo)), (3, .int (iI now)), (2, .int (iI b)), (0, .ref (q 99)), (1, .int (iI n))] 38 [] := by
  have hE := C.2.2.2.2.2.2.2.2.1
  intro n9
  induction n9 with
  | zero =>
    intro A2 b lo k hsA2 hk2 hk hb K
    have hI := hsI
    have hA := hsA
    unfold smI at hI
    unfold smA at hA
    have hN9 := hN
    unfold okN at hN9
    simp only [mJ, mN] at hN9
    have hA2 := hsA2
    unfold smA at hA2
    have hbr := bfIs_r (by omega) k b lo hb
    have hk0 : A2 0 = A 0 := hk2 0 (by omega) (by omega) (by omega)
    refine g_iload C (n' := 40) 0 rfl dX8_buffer_38 rfl ?_
    refine g_aload_n C (n' := 41) 4 rfl dX8_buffer_40 rfl rfl ?_
    refine g_get C (n' := 44) (Cn := RX8) (T := TX8) (N := 35) (ci := 6) (v := .int (iI (I 2))) ga_X8 0 rfl rfl 2 (by decide) kw_692 rfl rfl dX8_buffer_41 rfl ?_
    have h_41 := hI 2
    refine g_icmp_ge C (n' := 47) 176 dX8_buffer_44 (by decide) rfl (by unfold inR; omega) (by unfold inR; omega) (fun c1 => ?_) (fun c1 => ?_)
    · skip
      have ek : k = (I 2).toNat := by omega
      exact K A2 b lo k hsA2 hk2 (by rw [← ek]; exact hb)
    · skip
      exfalso
      omega
  | succ n9 ih =>
    intro A2 b lo k hsA2 hk2 hk hb K
    have hI := hsI
    have hA := hsA
    unfold smI at hI
    unfold smA at hA
    have hN9 := hN
    unfold okN at hN9
    simp only [mJ, mN] at hN9
    have hA2 := hsA2
    unfold smA at hA2
    have hbr := bfIs_r (by omega) k b lo hb
    have hk0 : A2 0 = A 0 := hk2 0 (by omega) (by omega) (by omega)
    refine g_iload C (n' := 40) 0 rfl dX8_buffer_38 rfl ?_
    refine g_aload_n C (n' := 41) 4 rfl dX8_buffer_40 rfl rfl ?_
    refine g_get C (n' := 44) (Cn := RX8) (T := TX8) (N := 35) (ci := 6) (v := .int (iI (I 2))) ga_X8 0 rfl rfl 2 (by decide) kw_692 rfl rfl dX8_buffer_41 rfl ?_
    have h_41 := hI 2
    refine g_icmp_ge C (n' := 47) 176 dX8_buffer_44 (by decide) rfl (by unfold inR; omega) (by unfold inR; omega) (fun c1 => ?_) (fun c1 => ?_)
    · skip
      exfalso
      omega
    · skip
      have hp9 := hN9.2.2.2.2.2.2 k (by omega)
      rw [← hk0] at hp9
      refine g_aload_n C (n' := 48) 4 rfl dX8_buffer_47 rfl rfl ?_
      refine g_get C (n' := 51) (Cn := RX8) (T := TX8) (N := 35) (ci := 6) (v := .ref (q 0)) ga_X8 0 rfl rfl 0 (by decide) kw_690 rfl rfl dX8_buffer_48 rfl ?_
      refine g_iconst C (n' := 52) dX8_buffer_51 rfl ?_
      refine g_iload C (n' := 54) 0 rfl dX8_buffer_52 rfl ?_
      refine g_iadd C (n' := 55) dX8_buffer_54 rfl ?_
      refine g_ialdN C (n' := 56) (f := (A2 0)) (j := (1 + k)) 1 0 rfl rfl (by omega) (by decide) rfl dX8_buffer_55 rfl ?_
      have h_55 := hA2 0 (1 + k)
      refine g_iload_n C (n' := 57) 5 rfl dX8_buffer_56 rfl rfl ?_
      refine g_iadd C (n' := 58) dX8_buffer_57 rfl ?_
      refine g_sipush C (n' := 61) (by decide) dX8_buffer_58 rfl ?_
      refine g_icmp_ge C (n' := 64) 170 dX8_buffer_61 (by decide) rfl (by unfold inR; omega) (by unfold inR; omega) (fun c2 => ?_) (fun c2 => ?_)
      · skip
        refine g_iinc C (n' := 173) 0 [(5, .int (iI (((k : Nat) : Int) + 1))), (4, .int (iI lo)), (3, .int (iI now)), (2, .int (iI b)), (0, .ref (q 99)), (1, .int (iI n))] rfl dX8_buffer_170 rfl (by decide) rfl ?_
        refine g_goto C 38 dX8_buffer_173 (by decide) ?_
        refine g_lv (lv' := [(5, .int (iI (((k : Nat) : Int) + 1))), (4, .int (iI lo)), (3, .int (iI now)), (2, .int (iI b)), (0, .ref (q 99)), (1, .int (iI n))]) [0, 1, 2, 3, 4, 5] rfl ?_
        exact ih A2 b lo (k + 1) hsA2 hk2 (by omega) ⟨b, lo, hb, Or.inl ⟨by show ¬ A 0 (1 + k) + n < 200; rw [← hk0]; omega, rfl, rfl⟩⟩ K
      · skip
        refine g_aload_n C (n' := 65) 4 rfl dX8_buffer_64 rfl rfl ?_
        refine g_get C (n' := 68) (Cn := RX8) (T := TX8) (N := 35) (ci := 6) (v := .ref (q 0)) ga_X8 0 rfl rfl 0 (by decide) kw_690 rfl rfl dX8_buffer_65 rfl ?_
        refine g_iconst C (n' := 69) dX8_buffer_68 rfl ?_
        refine g_iload C (n' := 71) 0 rfl dX8_buffer_69 rfl ?_
        refine g_iadd C (n' := 72) dX8_buffer_71 rfl ?_
        refine g_dup2 C (n' := 73) rfl rfl dX8_buffer_72 rfl ?_
        refine g_ialdN C (n' := 74) (f := (A2 0)) (j := (1 + k)) 1 0 rfl rfl (by omega) (by decide) rfl dX8_buffer_73 rfl ?_
        have h_73 := hA2 0 (1 + k)
        refine g_iload_n C (n' := 75) 5 rfl dX8_buffer_74 rfl rfl ?_
        refine g_iadd C (n' := 76) dX8_buffer_75 rfl ?_
        refine g_iastN C (n' := 77) (f := (A2 0)) (j := (1 + k)) 1 0 rfl rfl (by omega) (by decide) rfl dX8_buffer_76 rfl (wMod q Y I (sU A2 0 (sU (A2 0) (1 + k) (((A2 0) (1 + k)) + n))) F Dd) rfl ?_
        refine g_aload_n C (n' := 78) 4 rfl dX8_buffer_77 rfl rfl ?_
        refine g_get C (n' := 81) (Cn := RX8) (T := TX8) (N := 35) (ci := 6) (v := .ref (q 0)) ga_X8 0 rfl rfl 0 (by decide) kw_690 rfl rfl dX8_buffer_78 rfl ?_
        refine g_bipush C (n' := 83) (by decide) dX8_buffer_81 rfl ?_
        refine g_iload C (n' := 85) 0 rfl dX8_buffer_83 rfl ?_
        refine g_iadd C (n' := 86) dX8_buffer_85 rfl ?_
        refine g_dup2 C (n' := 87) rfl rfl dX8_buffer_86 rfl ?_
        refine g_ialdN C (n' := 88) (f := (sU (A2 0) (1 + k) (((A2 0) (1 + k)) + n))) (j := (17 + k)) 1 0 rfl rfl (by omega) (by decide) rfl dX8_buffer_87 rfl ?_
        have h_87 : ((sU (A2 0) (1 + k) (((A2 0) (1 + k)) + n)) (17 + k)) = A2 0 (17 + k) := sU_n _ _ (by omega)
        have h_87b := hA2 0 (17 + k)
        refine g_iload_n C (n' := 89) 5 rfl dX8_buffer_88 rfl rfl ?_
        refine g_iadd C (n' := 90) dX8_buffer_89 rfl ?_
        refine g_iastN C (n' := 91) (f := (sU (A2 0) (1 + k) (((A2 0) (1 + k)) + n))) (j := (17 + k)) 1 0 rfl rfl (by omega) (by decide) rfl dX8_buffer_90 rfl (wMod q Y I (sU A2 0 (sU (sU (A2 0) (1 + k) (((A2 0) (1 + k)) + n)) (17 + k) (((sU (A2 0) (1 + k) (((A2 0) (1 + k)) + n)) (17 + k)) + n))) F Dd) rfl ?_
        have e91 : (sU (sU (A2 0) (1 + k) (((A2 0) (1 + k)) + n)) (17 + k) (((sU (A2 0) (1 + k) (((A2 0) (1 + k)) + n)) (17 + k)) + n)) = m_row (A2 0) k n := by
          unfold m_row
          rw [sU_n (A2 0) _ (show 17 + k ≠ 1 + k by omega)]
        rw [e91]
        have hs91 : smR (m_row (A2 0) k n) := m_row_r (hsA2 0) (by omega) (by omega)
        have hN91 : okN (mJ I (sU A2 0 (m_row (A2 0) k n))) (mN (sU A2 0 (m_row (A2 0) k n))) := by
          rw [m_row_J hk2]
          exact okN_c (m_row_N hk2 (by omega) k (by omega) n) (bN_ok hN (by omega) (fun _ => by show A 0 (1 + k) + n ≤ 199; rw [← hk0]; omega))
        refine g_aload_n C (n' := 92) 4 rfl dX8_buffer_91 rfl rfl ?_
        refine g_callV C (n' := 95) (c_X8_leastOf l D Y C.2.2.2.2.2.2.2.2.1 q I (sU A2 0 (m_row (A2 0) k n)) F Dd hsI (sm_putA hsA2 hs91) hN91) 0 kw_936 kc_X8_leastOf (by decide +kernel) (pm0 _) 0 (ci := 6) rfl rfl rfl rfl ⟨Nat.le_of_ble_eq_true rfl, Nat.le_of_ble_eq_true rfl⟩ ⟨rfl, rfl⟩ ⟨Nat.le_of_ble_eq_true rfl, Nat.le_of_ble_eq_true rfl⟩ (Nat.le_of_ble_eq_true rfl) dX8_buffer_92 rfl (fun r9 w9 hp3 => ?_)
        obtain ⟨A4, rfl, hsA4, hkA4, z5, rfl, hz5⟩ := hp3
        have hA4 := hsA4
        unfold smA at hA4
        refine g_perm (w' := (wMod q Y I A4 F Dd)) (pm0' _) ?_
        refine g_st (st' := [.int (iI z5)]) rfl ?_
        refine g_istore C (n' := 97) [(6, .int (iI z5)), (5, .int (iI ((k : Nat) : Int))), (4, .int (iI lo)), (3, .int (iI now)), (2, .int (iI b)), (0, .ref (q 99)), (1, .int (iI n))] dX8_buffer_95 rfl (by decide) rfl ?_
        refine g_aload_n C (n' := 98) 5 rfl dX8_buffer_97 rfl rfl ?_
        refine g_get C (n' := 101) (Cn := RX8) (T := TX8) (N := 35) (ci := 6) (v := .ref (q 0)) ga_X8 0 rfl rfl 0 (by decide) kw_690 rfl rfl dX8_buffer_98 rfl ?_
        refine g_iconst C (n' := 102) dX8_buffer_101 rfl ?_
        refine g_iload C (n' := 104) 1 rfl dX8_buffer_102 rfl ?_
        refine g_iadd C (n' := 105) dX8_buffer_104 rfl ?_
        refine g_dup2 C (n' := 106) rfl rfl dX8_buffer_105 rfl ?_
        refine g_ialdN C (n' := 107) (f := (A4 0)) (j := (1 + k)) 1 0 rfl rfl (by omega) (by decide) rfl dX8_buffer_106 rfl ?_
        have h_106 := hA4 0 (1 + k)
        refine g_iload_n C (n' := 108) 6 rfl dX8_buffer_107 rfl rfl ?_
        refine g_isub C (n' := 109) dX8_buffer_108 rfl ?_
        refine g_iastN C (n' := 110) (f := (A4 0)) (j := (1 + k)) 1 0 rfl rfl (by omega) (by decide) rfl dX8_buffer_109 rfl (wMod q Y I (sU A4 0 (sU (A4 0) (1 + k) (((A4 0) (1 + k)) - n))) F Dd) rfl ?_
        refine g_aload_n C (n' := 111) 5 rfl dX8_buffer_110 rfl rfl ?_
        refine g_get C (n' := 114) (Cn := RX8) (T := TX8) (N := 35) (ci := 6) (v := .ref (q 0)) ga_X8 0 rfl rfl 0 (by decide) kw_690 rfl rfl dX8_buffer_111 rfl ?_
        refine g_bipush C (n' := 116) (by decide) dX8_buffer_114 rfl ?_
        refine g_iload C (n' := 118) 1 rfl dX8_buffer_116 rfl ?_
        refine g_iadd C (n' := 119) dX8_buffer_118 rfl ?_
        refine g_dup2 C (n' := 120) rfl rfl dX8_buffer_119 rfl ?_
        refine g_ialdN C (n' := 121) (f := (sU (A4 0) (1 + k) (((A4 0) (1 + k)) - n))) (j := (17 + k)) 1 0 rfl rfl (by omega) (by decide) rfl dX8_buffer_120 rfl ?_
        have h_120 : ((sU (A4 0) (1 + k) (((A4 0) (1 + k)) - n)) (17 + k)) = A4 0 (17 + k) := sU_n _ _ (by omega)
        have h_120b := hA4 0 (17 + k)
        refine g_iload_n C (n' := 122) 6 rfl dX8_buffer_121 rfl rfl ?_
        refine g_isub C (n' := 123) dX8_buffer_122 rfl ?_
        refine g_iastN C (n' := 124) (f := (sU (A4 0) (1 + k) (((A4 0) (1 + k)) - n))) (j := (17 + k)) 1 0 rfl rfl (by omega) (by decide) rfl dX8_buffer_123 rfl (wMod q Y I (sU A4 0 (sU (sU (A4 0) (1 + k) (((A4 0) (1 + k)) - n)) (17 + k) (((sU (A4 0) (1 + k) (((A4 0) (1 + k)) - n)) (17 + k)) - n))) F Dd) rfl ?_
        have e124 : (sU (sU (A4 0) (1 + k) (((A4 0) (1 + k)) - n)) (17 + k) (((sU (A4 0) (1 + k) (((A4 0) (1 + k)) - n)) (17 + k)) - n)) = A2 0 := m_unrow (hkA4 0 (by omega) (by omega) (by omega))
        rw [e124]
        have hk124 : kpA A (sU A4 0 (A2 0)) := m_row_k hk2 hkA4
        have hs124 : smA (sU A4 0 (A2 0)) := sm_putA hsA4 (hsA2 0)
        have hz9 : lpIs (mJ I A) (bN (mN A) k n) 1 (I 7) 999 z5 := by
          rw [lpIs_c (m_row_N hk2 (by omega) k (by omega) n), ← m_row_J hk2 k n]
          exact hz5
        have hzr := lpIs_r hz9 (by omega)
        refine g_iload C (n' := 126) 0 rfl dX8_buffer_124 rfl ?_
        refine g_iconst C (n' := 127) dX8_buffer_126 rfl ?_
        refine g_icmp_eq C (n' := 130) 141 dX8_buffer_127 (by decide) rfl (by unfold inR; omega) (by unfold inR; omega) (fun c6 => ?_) (fun c6 => ?_)
        · skip
          refine g_iconst C (n' := 142) dX8_buffer_141 rfl ?_
          refine g_istore C (n' := 144) [(7, .int (iI 0)), (6, .int (iI z5)), (5, .int (iI ((k : Nat) : Int))), (4, .int (iI lo)), (3, .int (iI now)), (2, .int (iI b)), (0, .ref (q 99)), (1, .int (iI n))] dX8_buffer_142 rfl (by decide) rfl ?_
          refine g_iload C (n' := 146) 0 rfl dX8_buffer_144 rfl ?_
          refine g_if_eq C (n' := 149) 154 dX8_buffer_146 (by decide) rfl (by unfold inR; omega) (fun c7 => ?_) (fun c7 => ?_)
          · skip
            refine g_iload_n C (n' := 155) 5 rfl dX8_buffer_154 rfl rfl ?_
            refine g_istore_n C (n' := 156) [(2, .int (iI b)), (7, .int (iI 0)), (6, .int (iI z5)), (5, .int (iI ((k : Nat) : Int))), (4, .int (iI lo)), (3, .int (iI now)), (0, .ref (q 99)), (1, .int (iI n))] dX8_buffer_155 rfl rfl (by decide) rfl ?_
            refine g_iload C (n' := 158) 1 rfl dX8_buffer_156 rfl ?_
            refine g_if_eq C (n' := 161) 166 dX8_buffer_158 (by decide) rfl (by unfold inR; omega) (fun c8 => ?_) (fun c8 => ?_)
            · skip
              refine g_iload C (n' := 168) 4 rfl dX8_buffer_166 rfl ?_
              refine g_istore C (n' := 170) [(4, .int (iI lo)), (2, .int (iI b)), (7, .int (iI 0)), (6, .int (iI z5)), (5, .int (iI ((k : Nat) : Int))), (3, .int (iI now)), (0, .ref (q 99)), (1, .int (iI n))] dX8_buffer_168 rfl (by decide) rfl ?_
              refine g_iinc C (n' := 173) 4 [(5, .int (iI (((k : Nat) : Int) + 1))), (4, .int (iI lo)), (2, .int (iI b)), (7, .int (iI 0)), (6, .int (iI z5)), (3, .int (iI now)), (0, .ref (q 99)), (1, .int (iI n))] rfl dX8_buffer_170 rfl (by decide) rfl ?_
              refine g_goto C 38 dX8_buffer_173 (by decide) ?_
              refine g_lv (lv' := [(5, .int (iI (((k : Nat) : Int) + 1))), (4, .int (iI lo)), (3, .int (iI now)), (2, .int (iI b)), (0, .ref (q 99)), (1, .int (iI n))]) [0, 1, 5, 2, 6, 7] rfl ?_
              exact ih _ b lo (k + 1) hs124 hk124 (by omega) ⟨b, lo, hb, Or.inr ⟨by show A 0 (1 + k) + n < 200; rw [← hk0]; omega, z5, hz9, Or.inr ⟨by omega, rfl, rfl⟩⟩⟩ K
            · skip
              exfalso
              omega
          · skip
            exfalso
            omega
        · skip
          refine g_iload C (n' := 132) 0 rfl dX8_buffer_130 rfl ?_
          refine g_iload C (n' := 134) 2 rfl dX8_buffer_132 rfl ?_
          refine g_icmp_ge C (n' := 137) 141 dX8_buffer_134 (by decide) rfl (by unfold inR; omega) (by unfold inR; omega) (fun c9 => ?_) (fun c9 => ?_)
          · skip
            refine g_iconst C (n' := 142) dX8_buffer_141 rfl ?_
            refine g_istore C (n' := 144) [(7, .int (iI 0)), (6, .int (iI z5)), (5, .int (iI ((k : Nat) : Int))), (4, .int (iI lo)), (3, .int (iI now)), (2, .int (iI b)), (0, .ref (q 99)), (1, .int (iI n))] dX8_buffer_142 rfl (by decide) rfl ?_
            refine g_iload C (n' := 146) 0 rfl dX8_buffer_144 rfl ?_
            refine g_if_eq C (n' := 149) 154 dX8_buffer_146 (by decide) rfl (by unfold inR; omega) (fun c10 => ?_) (fun c10 => ?_)
            · skip
              refine g_iload_n C (n' := 155) 5 rfl dX8_buffer_154 rfl rfl ?_
              refine g_istore_n C (n' := 156) [(2, .int (iI b)), (7, .int (iI 0)), (6, .int (iI z5)), (5, .int (iI ((k : Nat) : Int))), (4, .int (iI lo)), (3, .int (iI now)), (0, .ref (q 99)), (1, .int (iI n))] dX8_buffer_155 rfl rfl (by decide) rfl ?_
              refine g_iload C (n' := 158) 1 rfl dX8_buffer_156 rfl ?_
              refine g_if_eq C (n' := 161) 166 dX8_buffer_158 (by decide) rfl (by unfold inR; omega) (fun c11 => ?_) (fun c11 => ?_)
              · skip
                refine g_iload C (n' := 168) 4 rfl dX8_buffer_166 rfl ?_
                refine g_istore C (n' := 170) [(4, .int (iI lo)), (2, .int (iI b)), (7, .int (iI 0)), (6, .int (iI z5)), (5, .int (iI ((k : Nat) : Int))), (3, .int (iI now)), (0, .ref (q 99)), (1, .int (iI n))] dX8_buffer_168 rfl (by decide) rfl ?_
                refine g_iinc C (n' := 173) 4 [(5, .int (iI (((k : Nat) : Int) + 1))), (4, .int (iI lo)), (2, .int (iI b)), (7, .int (iI 0)), (6, .int (iI z5)), (3, .int (iI now)), (0, .ref (q 99)), (1, .int (iI n))] rfl dX8_buffer_170 rfl (by decide) rfl ?_
                refine g_goto C 38 dX8_buffer_173 (by decide) ?_
                refine g_lv (lv' := [(5, .int (iI (((k : Nat) : Int) + 1))), (4, .int (iI lo)), (3, .int (iI now)), (2, .int (iI b)), (0, .ref (q 99)), (1, .int (iI n))]) [0, 1, 5, 2, 6, 7] rfl ?_
                exact ih _ b lo (k + 1) hs124 hk124 (by omega) ⟨b, lo, hb, Or.inr ⟨by show A 0 (1 + k) + n < 200; rw [← hk0]; omega, z5, hz9, Or.inr ⟨by omega, rfl, rfl⟩⟩⟩ K
              · skip
                exfalso
                omega
            · skip
              exfalso
              omega
          · skip
            refine g_iconst C (n' := 138) dX8_buffer_137 rfl ?_
            refine g_goto C 142 dX8_buffer_138 (by decide) ?_
            refine g_istore C (n' := 144) [(7, .int (iI 1)), (6, .int (iI z5)), (5, .int (iI ((k : Nat) : Int))), (4, .int (iI lo)), (3, .int (iI now)), (2, .int (iI b)), (0, .ref (q 99)), (1, .int (iI n))] dX8_buffer_142 rfl (by decide) rfl ?_
            refine g_iload C (n' := 146) 0 rfl dX8_buffer_144 rfl ?_
            refine g_if_eq C (n' := 149) 154 dX8_buffer_146 (by decide) rfl (by unfold inR; omega) (fun c12 => ?_) (fun c12 => ?_)
            · skip
              exfalso
              omega
            · skip
              refine g_iload C (n' := 151) 2 rfl dX8_buffer_149 rfl ?_
              refine g_goto C 155 dX8_buffer_151 (by decide) ?_
              refine g_istore_n C (n' := 156) [(2, .int (iI ((k : Nat) : Int))), (7, .int (iI 1)), (6, .int (iI z5)), (5, .int (iI ((k : Nat) : Int))), (4, .int (iI lo)), (3, .int (iI now)), (0, .ref (q 99)), (1, .int (iI n))] dX8_buffer_155 rfl rfl (by decide) rfl ?_
              refine g_iload C (n' := 158) 1 rfl dX8_buffer_156 rfl ?_
              refine g_if_eq C (n' := 161) 166 dX8_buffer_158 (by decide) rfl (by unfold inR; omega) (fun c13 => ?_) (fun c13 => ?_)
              · skip
                exfalso
                omega
              · skip
                refine g_iload C (n' := 163) 2 rfl dX8_buffer_161 rfl ?_
                refine g_goto C 168 dX8_buffer_163 (by decide) ?_
                refine g_istore C (n' := 170) [(4, .int (iI z5)), (2, .int (iI ((k : Nat) : Int))), (7, .int (iI 1)), (6, .int (iI z5)), (5, .int (iI ((k : Nat) : Int))), (3, .int (iI now)), (0, .ref (q 99)), (1, .int (iI n))] dX8_buffer_168 rfl (by decide) rfl ?_
                refine g_iinc C (n' := 173) 4 [(5, .int (iI (((k : Nat) : Int) + 1))), (4, .int (iI z5)), (2, .int (iI ((k : Nat) : Int))), (7, .int (iI 1)), (6, .int (iI z5)), (3, .int (iI now)), (0, .ref (q 99)), (1, .int (iI n))] rfl dX8_buffer_170 rfl (by decide) rfl ?_
                refine g_goto C 38 dX8_buffer_173 (by decide) ?_
                refine g_lv (lv' := [(5, .int (iI (((k : Nat) : Int) + 1))), (4, .int (iI z5)), (3, .int (iI now)), (2, .int (iI ((k : Nat) : Int))), (0, .ref (q 99)), (1, .int (iI n))]) [0, 1, 5, 2, 6, 7] rfl ?_
                exact ih _ ((k : Nat) : Int) z5 (k + 1) hs124 hk124 (by omega) ⟨b, lo, hb, Or.inr ⟨by show A 0 (1 + k) + n < 200; rw [← hk0]; omega, z5, hz9, Or.inl ⟨by omega, by omega, rfl, rfl⟩⟩⟩ K
set_option maxRecDepth 100000 in
set_option maxHeartbeats 4000000 in
theorem c_X8_buffer (l : Launch) (D : va_G) (Y : Nat → ClassId) {E : (Nat → Prop) → State → Heap → Prop} (hE : g_Stab E) (q : Nat → Nat) (I : Nat → Int) (A : Nat → Nat → Int) (F : Nat → UInt32) (Dd : Nat → UInt64) (n : Int) (hsI : smI I) (hsA : smA A) (hN : okN (mJ I A) (mN A)) (hn : inR n) : g_Ct l yX8_buffer cX8_buffer 8 (some FieldType.int) ({ frames := 4, cells := 0, slots := 0, locals := 93 } : Room) D (tysY Y) E [.ref (q 99), .int (iI n)] (wMod q Y I A F Dd) 0 0 (fun r9 w9 => ∃ A1 : Nat → Nat → Int, w9 = wMod q Y I A1 F Dd ∧ smA A1 ∧ kpA A A1 ∧ ∃ z : Int, r9 = some (.int (iI z)) ∧ bfM (mJ I A) (mN A) 99999 n z) := by
  refine g_ofG (own := RX8) hE (by decide) rfl (Nat.le_of_ble_eq_true rfl) [(0, .ref (q 99)), (1, .int (iI n))] rfl ?_
  intro p9 e9 s9 m9 b9 t9 c9 A9 C hr hlk hnm
  have hI := hsI
  have hA := hsA
  unfold smI at hI
  unfold smA at hA
  have hN9 := hN
  unfold okN at hN9
  simp only [mJ, mN] at hN9
  have hn9 := hn
  unfold inR at hn9
  refine g_iload_n C (n' := 1) 1 rfl dX8_buffer_0 rfl rfl ?_
  refine g_i2l C (n' := 2) (by unfold inR; omega) dX8_buffer_1 rfl ?_
  refine g_lconst C (n' := 3) 1 (by decide) dX8_buffer_2 rfl ?_
  refine g_ldc2l C (n' := 6) 20 (by decide) kw_888 dX8_buffer_3 rfl ?_
  refine g_cSv C (n' := 9) (v := .int (iI (if 1 ≤ n ∧ n ≤ 20 then 1 else 0))) (c_X8_in l D Y C.2.2.2.2.2.2.2.2.1 n 1 20 hn (by unfold inR at *; omega) (by unfold inR at *; omega)) 3 kw_802 kc_X8_in (by decide +kernel) (pm_n _) rfl ⟨Nat.le_of_ble_eq_true rfl, Nat.le_of_ble_eq_true rfl⟩ ⟨rfl, rfl⟩ ⟨Nat.le_of_ble_eq_true rfl, Nat.le_of_ble_eq_true rfl⟩ (Nat.le_of_ble_eq_true rfl) dX8_buffer_6 rfl rfl (wMod q Y I A F Dd) (pm_n _) ?_
  refine g_if_ne C (n' := 12) 15 dX8_buffer_9 (by decide) rfl bz_r (fun c1 => ?_) (fun c1 => ?_)
  · skip
    replace c1 := bz_ne.mp c1
    refine g_iconst C (n' := 16) dX8_buffer_15 rfl ?_
    refine g_istore_n C (n' := 17) [(2, .int (iI (-1))), (0, .ref (q 99)), (1, .int (iI n))] dX8_buffer_16 rfl rfl (by decide) rfl ?_
    refine g_aload_n C (n' := 18) 1 rfl dX8_buffer_17 rfl rfl ?_
    refine g_callV C (n' := 21) (c_X8_leastOf l D Y C.2.2.2.2.2.2.2.2.1 q I A F Dd hsI hsA hN) 0 kw_936 kc_X8_leastOf (by decide +kernel) (pm0 _) 0 (ci := 6) rfl rfl rfl rfl ⟨Nat.le_of_ble_eq_true rfl, Nat.le_of_ble_eq_true rfl⟩ ⟨rfl, rfl⟩ ⟨Nat.le_of_ble_eq_true rfl, Nat.le_of_ble_eq_true rfl⟩ (Nat.le_of_ble_eq_true rfl) dX8_buffer_18 rfl (fun r9 w9 hp2 => ?_)
    obtain ⟨A3, rfl, hsA3, hkA3, z4, rfl, hz4⟩ := hp2
    have hA3 := hsA3
    unfold smA at hA3
    refine g_perm (w' := (wMod q Y I A3 F Dd)) (pm0' _) ?_
    refine g_st (st' := [.int (iI z4)]) rfl ?_
    have hzr := lpIs_r hz4 (by omega)
    refine g_istore_n C (n' := 22) [(3, .int (iI z4)), (2, .int (iI (-1))), (0, .ref (q 99)), (1, .int (iI n))] dX8_buffer_21 rfl rfl (by decide) rfl ?_
    refine g_iload_n C (n' := 23) 0 rfl dX8_buffer_22 rfl rfl ?_
    refine g_iconst C (n' := 24) dX8_buffer_23 rfl ?_
    refine g_icmp_ne C (n' := 27) 32 dX8_buffer_24 (by decide) rfl (by unfold inR; omega) (by unfold inR; omega) (fun c5 => ?_) (fun c5 => ?_)
    · skip
      refine g_iload_n C (n' := 33) 0 rfl dX8_buffer_32 rfl rfl ?_
      refine g_istore C (n' := 35) [(4, .int (iI z4)), (3, .int (iI z4)), (2, .int (iI (-1))), (0, .ref (q 99)), (1, .int (iI n))] dX8_buffer_33 rfl (by decide) rfl ?_
      refine g_iconst C (n' := 36) dX8_buffer_35 rfl ?_
      refine g_istore C (n' := 38) [(5, .int (iI 0)), (4, .int (iI z4)), (3, .int (iI z4)), (2, .int (iI (-1))), (0, .ref (q 99)), (1, .int (iI n))] dX8_buffer_36 rfl (by decide) rfl ?_
      refine g_lv (lv' := [(5, .int (iI ((0 : Nat) : Int))), (4, .int (iI z4)), (3, .int (iI z4)), (2, .int (iI (-1))), (0, .ref (q 99)), (1, .int (iI n))]) [0, 1, 2, 3, 4, 5] rfl ?_
      refine lp_X8_bu C q I A F Dd n z4 hsI hsA hN (by omega) (I 2).toNat A3 (-1) z4 0 hsA3 hkA3 (by omega) ⟨rfl, z4, hz4, by rw [if_neg (by omega)]⟩ (fun A2 b lo k hsA2 hk2 hb => ?_)
      refine g_iload_n C (n' := 177) 3 rfl dX8_buffer_176 rfl rfl ?_
      exact g_iret C hr hlk rfl ⟨_, rfl, hsA2, hk2, _, rfl, Or.inr ⟨by omega, lo, hb⟩⟩ dX8_buffer_177
    · skip
      refine g_ldc C (n' := 29) 99999 (by decide) kw_964 dX8_buffer_27 rfl ?_
      refine g_goto C 33 dX8_buffer_29 (by decide) ?_
      refine g_istore C (n' := 35) [(4, .int (iI 99999)), (3, .int (iI z4)), (2, .int (iI (-1))), (0, .ref (q 99)), (1, .int (iI n))] dX8_buffer_33 rfl (by decide) rfl ?_
      refine g_iconst C (n' := 36) dX8_buffer_35 rfl ?_
      refine g_istore C (n' := 38) [(5, .int (iI 0)), (4, .int (iI 99999)), (3, .int (iI z4)), (2, .int (iI (-1))), (0, .ref (q 99)), (1, .int (iI n))] dX8_buffer_36 rfl (by decide) rfl ?_
      refine g_lv (lv' := [(5, .int (iI ((0 : Nat) : Int))), (4, .int (iI 99999)), (3, .int (iI z4)), (2, .int (iI (-1))), (0, .ref (q 99)), (1, .int (iI n))]) [0, 1, 2, 3, 4, 5] rfl ?_
      refine lp_X8_bu C q I A F Dd n z4 hsI hsA hN (by omega) (I 2).toNat A3 (-1) 99999 0 hsA3 hkA3 (by omega) ⟨rfl, z4, hz4, by rw [if_pos (by omega)]⟩ (fun A2 b lo k hsA2 hk2 hb => ?_)
      refine g_iload_n C (n' := 177) 3 rfl dX8_buffer_176 rfl rfl ?_
      exact g_iret C hr hlk rfl ⟨_, rfl, hsA2, hk2, _, rfl, Or.inr ⟨by omega, lo, hb⟩⟩ dX8_buffer_177
  · skip
    replace c1 := bz_nne.mp c1
    refine g_bipush C (n' := 14) (by decide) dX8_buffer_12 rfl ?_
    exact g_iret C hr hlk rfl ⟨_, rfl, hsA, kpA_refl A, _, rfl, Or.inl ⟨by omega, rfl⟩⟩ dX8_buffer_14
