/-! the reference: whether there are shifts -/
def mEd (I : Nat → Int) (A : Nat → Nat → Int) (a b : Nat) (c : Int) : Prop := ∃ p : Nat, (p : Int) < I 2 ∧ ((a = (A 3 p).toNat ∧ b = (A 4 p).toNat ∧ c = A 29 p) ∨ (a = (A 4 p).toNat ∧ b = (A 3 p).toNat ∧ c = A 30 p))
def m_rel (a b : Nat) (c : Int) (x : (Nat → Int) × Int) : (Nat → Int) × Int := if x.1 b + c < x.1 a then (sU x.1 a (x.1 b + c), 1) else x
/-- what a stretch of lowerings does -/
def eT (n : Nat) (Ed : Nat → Nat → Int → Prop) (x y : (Nat → Int) × Int) : Prop := (∀ k, y.1 k ≤ x.1 k) ∧ (y = x ∨ (y.2 = 1 ∧ ∃ k, k < n ∧ y.1 k < x.1 k)) ∧ (∀ g : Nat → Int, bsol Ed g → (∀ k, k < n → g k ≤ x.1 k) → ∀ k, k < n → g k ≤ y.1 k)
theorem eT_refl {n : Nat} {Ed : Nat → Nat → Int → Prop} (x : (Nat → Int) × Int) : eT n Ed x x := ⟨fun _ => Int.le_refl _, Or.inl rfl, fun _ _ h => h⟩
theorem eT_trans {n : Nat} {Ed : Nat → Nat → Int → Prop} {x y z : (Nat → Int) × Int} (h1 : eT n Ed x y) (h2 : eT n Ed y z) : eT n Ed x z := by
  refine ⟨fun k => Int.le_trans (h2.1 k) (h1.1 k), ?_, fun g hg h => h2.2.2 g hg (h1.2.2 g hg h)⟩
  rcases h2.2.1 with e | ⟨e, k, hk, h3⟩
  · rw [e]
    exact h1.2.1
  · exact Or.inr ⟨e, k, hk, by have := h1.1 k; omega⟩
theorem eT_rel {n : Nat} {Ed : Nat → Nat → Int → Prop} {a b : Nat} {c : Int} (ha : a < n) (hb : b < n) (he : Ed a b c) (x : (Nat → Int) × Int) : eT n Ed x (m_rel a b c x) := by
  unfold m_rel
  split
  · next q =>
    refine ⟨fun k => ?_, Or.inr ⟨rfl, a, ha, ?_⟩, fun g hg h k hk => ?_⟩
    · show sU x.1 a (x.1 b + c) k ≤ x.1 k
      unfold sU
      split
      · next e => rw [e]; omega
      · omega
    · show sU x.1 a (x.1 b + c) a < x.1 a
      rw [sU_s]
      exact q
    · show g k ≤ sU x.1 a (x.1 b + c) k
      unfold sU
      split
      · next e =>
        rw [e]
        have h1 := hg a b c he
        have h2 := h b hb
        omega
      · exact h k hk
  · exact eT_refl x
theorem m_rel_e (a b : Nat) (c : Int) (x : (Nat → Int) × Int) : (m_rel a b c x).1 a ≤ x.1 b + c := by
  unfold m_rel
  split
  · show sU x.1 a (x.1 b + c) a ≤ _
    rw [sU_s]
    omega
  · omega
def m_pass (A : Nat → Nat → Int) : Nat → (Nat → Int) × Int → (Nat → Int) × Int
  | 0, x => x
  | p + 1, x => m_rel (A 4 p).toNat (A 3 p).toNat (A 30 p) (m_rel (A 3 p).toNat (A 4 p).toNat (A 29 p) (m_pass A p x))
/-- the reference's net is laid: registers and paths, and its bounds -/
def okE (I : Nat → Int) (A : Nat → Nat → Int) : Prop := (2 ≤ I 1 ∧ I 1 ≤ 8) ∧ (0 ≤ I 2 ∧ I 2 ≤ 16) ∧ ∀ p : Nat, (p : Int) < I 2 → (0 ≤ A 3 p ∧ A 3 p < I 1) ∧ (0 ≤ A 4 p ∧ A 4 p < I 1) ∧ (-1700 ≤ A 29 p ∧ A 29 p ≤ 40000) ∧ (-1700 ≤ A 30 p ∧ A 30 p ≤ 40000)
theorem eT_pass {I : Nat → Int} {A : Nat → Nat → Int} (h : okE I A) (x : (Nat → Int) × Int) : ∀ p : Nat, (p : Int) ≤ I 2 → eT (I 1).toNat (mEd I A) x (m_pass A p x)
  | 0, _ => eT_refl x
  | p + 1, hp => by
    have h1 := h.2.2 p (by omega)
    exact eT_trans (eT_pass h x p (by omega)) (eT_trans (eT_rel (by omega) (by omega) ⟨p, by omega, Or.inl ⟨rfl, rfl, rfl⟩⟩ _) (eT_rel (by omega) (by omega) ⟨p, by omega, Or.inr ⟨rfl, rfl, rfl⟩⟩ _))
theorem m_pass_e {I : Nat → Int} {A : Nat → Nat → Int} (h : okE I A) (x : (Nat → Int) × Int) : ∀ p' : Nat, (p' : Int) ≤ I 2 → ∀ p, p < p' → (m_pass A p' x).1 (A 3 p).toNat ≤ x.1 (A 4 p).toNat + A 29 p ∧ (m_pass A p' x).1 (A 4 p).toNat ≤ x.1 (A 3 p).toNat + A 30 p
  | 0, _, p, hp => by omega
  | p' + 1, h', p, hp => by
    have h1 := h.2.2 p' (by omega)
    have t1 := eT_pass h x p' (by omega)
    have t2 := eT_rel (n := (I 1).toNat) (Ed := mEd I A) (a := (A 3 p').toNat) (b := (A 4 p').toNat) (c := A 29 p') (by omega) (by omega) ⟨p', by omega, Or.inl ⟨rfl, rfl, rfl⟩⟩ (m_pass A p' x)
    have t3 := eT_rel (n := (I 1).toNat) (Ed := mEd I A) (a := (A 4 p').toNat) (b := (A 3 p').toNat) (c := A 30 p') (by omega) (by omega) ⟨p', by omega, Or.inr ⟨rfl, rfl, rfl⟩⟩ (m_rel (A 3 p').toNat (A 4 p').toNat (A 29 p') (m_pass A p' x))
    rw [m_pass]
    by_cases e : p = p'
    · subst e
      have e1 := m_rel_e (A 3 p).toNat (A 4 p).toNat (A 29 p) (m_pass A p x)
      have e2 := m_rel_e (A 4 p).toNat (A 3 p).toNat (A 30 p) (m_rel (A 3 p).toNat (A 4 p).toNat (A 29 p) (m_pass A p x))
      have e3 := t3.1 (A 3 p).toNat
      have e4 := t1.1 (A 4 p).toNat
      have e5 := t1.1 (A 3 p).toNat
      have e6 := t2.1 (A 3 p).toNat
      omega
    · have e1 := m_pass_e h x p' (by omega) p (by omega)
      have e2 := t2.1 (A 3 p).toNat
      have e3 := t3.1 (A 3 p).toNat
      have e4 := t2.1 (A 4 p).toNat
      have e5 := t3.1 (A 4 p).toNat
      omega
def m_S (A : Nat → Nat → Int) (P : Nat) (S0 : Nat → Int) : Nat → Nat → Int
  | 0 => S0
  | k + 1 => (m_pass A P (m_S A P S0 k, 0)).1
theorem m_S_rd {I : Nat → Int} {A : Nat → Nat → Int} (h : okE I A) {S0 : Nat → Int} (h0 : ∀ k, k < (I 1).toNat → S0 k = 0) : bRd (I 1).toNat (mEd I A) (m_S A (I 2).toNat S0) := by
  have hP := h.2.1
  refine ⟨h0, fun k a ha => ?_, fun k g hg q => ?_, fun k a b c hc => ?_⟩
  · exact (eT_pass h (m_S A (I 2).toNat S0 k, 0) _ (by omega)).1 a
  · exact (eT_pass h (m_S A (I 2).toNat S0 k, 0) _ (by omega)).2.2 g hg q
  · obtain ⟨p, hp, q⟩ := hc
    have e := m_pass_e h (m_S A (I 2).toNat S0 k, 0) (I 2).toNat (by omega) p (by omega)
    rcases q with ⟨rfl, rfl, rfl⟩ | ⟨rfl, rfl, rfl⟩
    · exact e.1
    · exact e.2
theorem mEd_lt {I : Nat → Int} {A : Nat → Nat → Int} (h : okE I A) : ∀ a b c, mEd I A a b c → a < (I 1).toNat ∧ b < (I 1).toNat := fun a b c hc => by
  obtain ⟨p, hp, q⟩ := hc
  have h1 := h.2.2 p hp
  rcases q with ⟨rfl, rfl, rfl⟩ | ⟨rfl, rfl, rfl⟩ <;> omega
theorem m_S_fl {I : Nat → Int} {A : Nat → Nat → Int} (h : okE I A) {S0 : Nat → Int} (k : Nat) : ((m_pass A (I 2).toNat (m_S A (I 2).toNat S0 k, 0)).2 = 0 ∧ m_S A (I 2).toNat S0 (k + 1) = m_S A (I 2).toNat S0 k) ∨ ((m_pass A (I 2).toNat (m_S A (I 2).toNat S0 k, 0)).2 = 1 ∧ ∃ a, a < (I 1).toNat ∧ m_S A (I 2).toNat S0 (k + 1) a ≠ m_S A (I 2).toNat S0 k a) := by
  have hP := h.2.1
  rcases (eT_pass h (m_S A (I 2).toNat S0 k, 0) (I 2).toNat (by omega)).2.1 with e | ⟨e, a, ha, q⟩
  · left
    exact ⟨by rw [e], by rw [m_S, e]⟩
  · exact Or.inr ⟨e, a, ha, by rw [m_S]; have h2 : (m_pass A (I 2).toNat (m_S A (I 2).toNat S0 k, 0)).1 a < m_S A (I 2).toNat S0 k a := q; omega⟩
/-- nowhere above 0, nowhere below -m -/
def e_bd (m : Int) (x : (Nat → Int) × Int) : Prop := (∀ k : Nat, k < 8 → -m ≤ x.1 k ∧ x.1 k ≤ 0) ∧ (∀ k : Nat, 8 ≤ k → -1000000 ≤ x.1 k ∧ x.1 k ≤ 1000000) ∧ (x.2 = 0 ∨ x.2 = 1)
theorem m_rel_r {a b : Nat} {c : Int} (ha : a < 8) (hb : b < 8) (hc : -1700 ≤ c) {x : (Nat → Int) × Int} {m : Int} (h : e_bd m x) : e_bd (m + 1700) (m_rel a b c x) := by
  unfold m_rel
  have h1 := h.1 b hb
  have h2 := h.1 a ha
  split
  · next q =>
    refine ⟨fun k hk => ?_, fun k hk => ?_, Or.inr rfl⟩
    · show -(m + 1700) ≤ sU x.1 a (x.1 b + c) k ∧ sU x.1 a (x.1 b + c) k ≤ 0
      unfold sU
      split
      · omega
      · have := h.1 k hk
        omega
    · show -1000000 ≤ sU x.1 a (x.1 b + c) k ∧ sU x.1 a (x.1 b + c) k ≤ 1000000
      rw [sU_n _ _ (by omega)]
      exact h.2.1 k hk
  · exact ⟨fun k hk => by have := h.1 k hk; omega, h.2⟩
theorem m_pass_r {I : Nat → Int} {A : Nat → Nat → Int} (h : okE I A) {x : (Nat → Int) × Int} {m : Int} (hx : e_bd m x) : ∀ p : Nat, (p : Int) ≤ I 2 → e_bd (m + 3400 * p) (m_pass A p x)
  | 0, _ => by simpa [m_pass] using hx
  | p + 1, hp => by
    have h1 := h.2.2 p (by omega)
    have h0 := h.1
    have h2 := m_rel_r (a := (A 4 p).toNat) (b := (A 3 p).toNat) (c := A 30 p) (by omega) (by omega) (by omega) (m_rel_r (a := (A 3 p).toNat) (b := (A 4 p).toNat) (c := A 29 p) (by omega) (by omega) (by omega) (m_pass_r h hx p (by omega)))
    rw [m_pass, show m + 3400 * ((p + 1 : Nat) : Int) = m + 3400 * (p : Int) + 1700 + 1700 by omega]
    exact h2
theorem e_bd_le {m m2 : Int} {x : (Nat → Int) × Int} (h : e_bd m x) (hm : m ≤ m2) : e_bd m2 x := ⟨fun k hk => by have := h.1 k hk; omega, h.2⟩
theorem m_S_bd {I : Nat → Int} {A : Nat → Nat → Int} (h : okE I A) {S0 : Nat → Int} (h0 : ∀ k, k < 8 → S0 k = 0) (hs : smR S0) : ∀ k : Nat, e_bd (54400 * k) (m_S A (I 2).toNat S0 k, 0)
  | 0 => ⟨fun a ha => by show -(54400 * ((0 : Nat) : Int)) ≤ S0 a ∧ S0 a ≤ 0; rw [h0 a ha]; omega, fun k _ => hs k, Or.inl rfl⟩
  | k + 1 => by
    have hP := h.2.1
    have h1 := m_pass_r h (m_S_bd h h0 hs k) (I 2).toNat (by omega)
    have h3 := e_bd_le h1 (m2 := 54400 * ((k + 1 : Nat) : Int)) (by omega)
    exact ⟨h3.1, h3.2.1, Or.inl rfl⟩
theorem m_S_sm {I : Nat → Int} {A : Nat → Nat → Int} (h : okE I A) {S0 : Nat → Int} (h0 : ∀ k, k < 8 → S0 k = 0) (hs : smR S0) {k : Nat} (hk : k ≤ 10) : smR (m_S A (I 2).toNat S0 k) := fun a => by
  have h1 := m_S_bd h h0 hs k
  by_cases q : a < 8
  · have := h1.1 a q
    simp only at this
    omega
  · exact h1.2.1 a (by omega)
set_option maxRecDepth 100000 in
set_option maxHeartbeats 4000000 in
theorem c_X8_makesLess (l : Launch) (D : va_G) (Y : Nat → ClassId) {E : (Nat → Prop) → State → Heap → Prop} (hE : g_Stab E) (q : Nat → Nat) (I : Nat → Int) (A : Nat → Nat → Int) (F : Nat → UInt32) (Dd : Nat → UInt64) (a : Int) (b : Int) (c : Int) (hsI : smI I) (hsA : smA A) (ha : 0 ≤ a ∧ a < 8) (hb : 0 ≤ b ∧ b < 8) (hc : -100000 ≤ c ∧ c ≤ 100000) : g_Ct l yX8_makesLess cX8_makesLess 5 (some FieldType.boolean) ({ frames := 0, cells := 0, slots := 0, locals := 0 } : Room) D (tysY Y) E [.ref (q 99), .int (iI a), .int (iI b), .int (iI c)] (wMod q Y I A F Dd) 0 0 (g_det (some (.int (iI (if A 31 b.toNat + c < A 31 a.toNat then 1 else 0)))) (wMod q Y I (sU A 31 (m_rel a.toNat b.toNat c (A 31, 0)).1) F Dd)) := by
  refine g_ofG (own := RX8) hE (by decide) rfl (Nat.le_of_ble_eq_true rfl) [(0, .ref (q 99)), (1, .int (iI a)), (2, .int (iI b)), (3, .int (iI c))] rfl ?_
  intro p9 e9 s9 m9 b9 t9 c9 A9 C hr hlk hnm
  have hI := hsI
  have hA := hsA
  unfold smI at hI
  unfold smA at hA
  refine g_aload_n C (n' := 1) 0 rfl dX8_makesLess_0 rfl rfl ?_
  refine g_get C (n' := 4) (Cn := RX8) (T := TX8) (N := 35) (ci := 6) (v := .ref (q 31)) ga_X8 0 rfl rfl 31 (by decide) kw_721 rfl rfl dX8_makesLess_1 rfl ?_
  refine g_iload_n C (n' := 5) 1 rfl dX8_makesLess_4 rfl rfl ?_
  refine g_iald C (n' := 6) (f := (A 31)) 19 0 rfl rfl (by omega) (by omega) (by decide) rfl dX8_makesLess_5 rfl ?_
  have h_5 := hA 31 a.toNat
  refine g_aload_n C (n' := 7) 0 rfl dX8_makesLess_6 rfl rfl ?_
  refine g_get C (n' := 10) (Cn := RX8) (T := TX8) (N := 35) (ci := 6) (v := .ref (q 31)) ga_X8 0 rfl rfl 31 (by decide) kw_721 rfl rfl dX8_makesLess_7 rfl ?_
  refine g_iload_n C (n' := 11) 2 rfl dX8_makesLess_10 rfl rfl ?_
  refine g_iald C (n' := 12) (f := (A 31)) 19 0 rfl rfl (by omega) (by omega) (by decide) rfl dX8_makesLess_11 rfl ?_
  have h_11 := hA 31 b.toNat
  refine g_iload_n C (n' := 13) 3 rfl dX8_makesLess_12 rfl rfl ?_
  refine g_iadd C (n' := 14) dX8_makesLess_13 rfl ?_
  refine g_icmp_le C (n' := 17) 21 dX8_makesLess_14 (by decide) rfl (by unfold inR; omega) (by unfold inR; omega) (fun c1 => ?_) (fun c1 => ?_)
  · skip
    refine g_iconst C (n' := 22) dX8_makesLess_21 rfl ?_
    refine g_istore C (n' := 24) [(4, .int (iI 0)), (0, .ref (q 99)), (1, .int (iI a)), (2, .int (iI b)), (3, .int (iI c))] dX8_makesLess_22 rfl (by decide) rfl ?_
    refine g_aload_n C (n' := 25) 1 rfl dX8_makesLess_24 rfl rfl ?_
    refine g_get C (n' := 28) (Cn := RX8) (T := TX8) (N := 35) (ci := 6) (v := .ref (q 31)) ga_X8 0 rfl rfl 31 (by decide) kw_721 rfl rfl dX8_makesLess_25 rfl ?_
    refine g_iload_n C (n' := 29) 2 rfl dX8_makesLess_28 rfl rfl ?_
    refine g_iload C (n' := 31) 0 rfl dX8_makesLess_29 rfl ?_
    refine g_if_eq C (n' := 34) 45 dX8_makesLess_31 (by decide) rfl (by unfold inR; omega) (fun c2 => ?_) (fun c2 => ?_)
    · skip
      refine g_aload_n C (n' := 46) 1 rfl dX8_makesLess_45 rfl rfl ?_
      refine g_get C (n' := 49) (Cn := RX8) (T := TX8) (N := 35) (ci := 6) (v := .ref (q 31)) ga_X8 0 rfl rfl 31 (by decide) kw_721 rfl rfl dX8_makesLess_46 rfl ?_
      refine g_iload_n C (n' := 50) 2 rfl dX8_makesLess_49 rfl rfl ?_
      refine g_iald C (n' := 51) (f := (A 31)) 19 0 rfl rfl (by omega) (by omega) (by decide) rfl dX8_makesLess_50 rfl ?_
      have h_50 := hA 31 a.toNat
      refine g_iast C (n' := 52) (f := (A 31)) 19 0 rfl rfl (by omega) (by omega) (by decide) rfl dX8_makesLess_51 rfl (wMod q Y I (sU A 31 (sU (A 31) a.toNat ((A 31) a.toNat))) F Dd) rfl ?_
      refine g_iload C (n' := 54) 0 rfl dX8_makesLess_52 rfl ?_
      refine g_iret C hr hlk (nar_z (by omega)) ⟨congrArg (fun z : Int => some (Value.int (iI z))) ?_, ?_⟩ dX8_makesLess_54
      · split <;> omega
      · unfold m_rel
        rw [if_neg (by show ¬ (A 31 b.toNat + c < A 31 a.toNat); omega)]
        show _ = wMod q Y I (sU A 31 (A 31)) F Dd
        rw [sU_id]
    · skip
      exfalso
      omega
  · skip
    refine g_iconst C (n' := 18) dX8_makesLess_17 rfl ?_
    refine g_goto C 22 dX8_makesLess_18 (by decide) ?_
    refine g_istore C (n' := 24) [(4, .int (iI 1)), (0, .ref (q 99)), (1, .int (iI a)), (2, .int (iI b)), (3, .int (iI c))] dX8_makesLess_22 rfl (by decide) rfl ?_
    refine g_aload_n C (n' := 25) 1 rfl dX8_makesLess_24 rfl rfl ?_
    refine g_get C (n' := 28) (Cn := RX8) (T := TX8) (N := 35) (ci := 6) (v := .ref (q 31)) ga_X8 0 rfl rfl 31 (by decide) kw_721 rfl rfl dX8_makesLess_25 rfl ?_
    refine g_iload_n C (n' := 29) 2 rfl dX8_makesLess_28 rfl rfl ?_
    refine g_iload C (n' := 31) 0 rfl dX8_makesLess_29 rfl ?_
    refine g_if_eq C (n' := 34) 45 dX8_makesLess_31 (by decide) rfl (by unfold inR; omega) (fun c3 => ?_) (fun c3 => ?_)
    · skip
      exfalso
      omega
    · skip
      refine g_aload_n C (n' := 35) 1 rfl dX8_makesLess_34 rfl rfl ?_
      refine g_get C (n' := 38) (Cn := RX8) (T := TX8) (N := 35) (ci := 6) (v := .ref (q 31)) ga_X8 0 rfl rfl 31 (by decide) kw_721 rfl rfl dX8_makesLess_35 rfl ?_
      refine g_iload_n C (n' := 39) 3 rfl dX8_makesLess_38 rfl rfl ?_
      refine g_iald C (n' := 40) (f := (A 31)) 19 0 rfl rfl (by omega) (by omega) (by decide) rfl dX8_makesLess_39 rfl ?_
      have h_39 := hA 31 b.toNat
      refine g_iload_n C (n' := 41) 4 rfl dX8_makesLess_40 rfl rfl ?_
      refine g_iadd C (n' := 42) dX8_makesLess_41 rfl ?_
      refine g_goto C 51 dX8_makesLess_42 (by decide) ?_
      refine g_iast C (n' := 52) (f := (A 31)) 19 0 rfl rfl (by omega) (by omega) (by decide) rfl dX8_makesLess_51 rfl (wMod q Y I (sU A 31 (sU (A 31) a.toNat (((A 31) b.toNat) + c))) F Dd) rfl ?_
      refine g_iload C (n' := 54) 0 rfl dX8_makesLess_52 rfl ?_
      refine g_iret C hr hlk (nar_z (by omega)) ⟨congrArg (fun z : Int => some (Value.int (iI z))) ?_, ?_⟩ dX8_makesLess_54
      · split <;> omega
      · unfold m_rel
        rw [if_pos (by show A 31 b.toNat + c < A 31 a.toNat; omega)]
