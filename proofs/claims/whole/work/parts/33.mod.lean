/-! the reference: isFeasible and what is found by it -/
/-- but for bounds and shifts the arrays are the same -/
def kpA (A A1 : Nat → Nat → Int) : Prop := ∀ s, s ≠ 29 → s ≠ 30 → s ≠ 31 → A1 s = A s
theorem kpA_refl (A : Nat → Nat → Int) : kpA A A := fun _ _ _ _ => rfl
theorem kpA_trans {A A1 A2 : Nat → Nat → Int} (h1 : kpA A A1) (h2 : kpA A1 A2) : kpA A A2 := fun s a b c => (h2 s a b c).trans (h1 s a b c)
theorem kpA_N {A A1 : Nat → Nat → Int} (h : kpA A A1) : mN A1 = mN A := by
  funext s p
  unfold mN
  rw [h 3 (by omega) (by omega) (by omega), h 4 (by omega) (by omega) (by omega), h 0 (by omega) (by omega) (by omega)]
theorem kpA_J {A A1 : Nat → Nat → Int} (h : kpA A A1) (I : Nat → Int) : mJ I A1 = mJ I A := by
  funext k
  unfold mJ
  rw [h 0 (by omega) (by omega) (by omega)]
theorem kpA_ok {I : Nat → Int} {A A1 : Nat → Nat → Int} (h : kpA A A1) (hN : okN (mJ I A) (mN A)) : okN (mJ I A1) (mN A1) := by
  rw [kpA_J h, kpA_N h]
  exact hN
theorem kpA_3 (A : Nat → Nat → Int) (x y z : Nat → Int) : kpA A (sU (sU (sU A 29 x) 30 y) 31 z) := fun s a b c => by
  rw [sU_n _ _ c, sU_n _ _ b, sU_n _ _ a]
theorem m_sol {I : Nat → Int} {A : Nat → Nat → Int} {u v g t : Int} {x y : Nat → Int} (hx : ∀ p : Nat, (p : Int) < I 2 → x p = p_late (mJ I A) (mN A) u v g p / t) (hy : ∀ p : Nat, (p : Int) < I 2 → y p = p_soon (mJ I A) (mN A) v g p / t) (s : Nat → Int) : bsol (mEd I (sU (sU A 29 x) 30 y)) s ↔ bsol (nEd (mJ I A) (mN A) u v g t) s := by
  constructor
  · intro h a b c hc
    obtain ⟨p, hp, q⟩ := hc
    refine h a b c ⟨p, hp, ?_⟩
    rcases q with ⟨q1, q2, q3⟩ | ⟨q1, q2, q3⟩
    · exact Or.inl ⟨q1, q2, q3.trans (hx p hp).symm⟩
    · exact Or.inr ⟨q1, q2, q3.trans (hy p hp).symm⟩
  · intro h a b c hc
    obtain ⟨p, hp, q⟩ := hc
    refine h a b c ⟨p, hp, ?_⟩
    rcases q with ⟨q1, q2, q3⟩ | ⟨q1, q2, q3⟩
    · exact Or.inl ⟨q1, q2, q3.trans (hx p hp)⟩
    · exact Or.inr ⟨q1, q2, q3.trans (hy p hp)⟩
theorem m_lt_p (I : Nat → Int) (A : Nat → Nat → Int) (u g : Int) (p : Nat) : m_lt I A u g p = p_late (mJ I A) (mN A) u 1 g p / I 7 := by
  unfold m_lt p_late
  simp only [mJ, mN]
  congr 1
  omega
theorem m_so_p (I : Nat → Int) (A : Nat → Nat → Int) (g : Int) (p : Nat) : m_so I A g p = p_soon (mJ I A) (mN A) 1 g p / I 7 := by
  unfold m_so p_soon
  simp only [mJ, mN]
  congr 1
  omega
theorem m_okE {I : Nat → Int} {A : Nat → Nat → Int} (hN : okN (mJ I A) (mN A)) {x y : Nat → Int} (hx : ∀ p : Nat, (p : Int) < I 2 → (-1700 ≤ x p ∧ x p ≤ 40000) ∧ (-1700 ≤ y p ∧ y p ≤ 40000)) : okE I (sU (sU A 29 x) 30 y) := by
  unfold okN at hN
  simp only [mJ, mN] at hN
  refine ⟨hN.1, hN.2.2.2.2.2.1, fun p hp => ?_⟩
  have h1 := hN.2.2.2.2.2.2 p hp
  have h2 := hx p hp
  exact ⟨h1.1, h1.2.1, h2.1, h2.2⟩
set_option maxRecDepth 100000 in
set_option maxHeartbeats 4000000 in
theorem c_X8_isFeasible (l : Launch) (D : va_G) (Y : Nat → ClassId) {E : (Nat → Prop) → State → Heap → Prop} (hE : g_Stab E) (q : Nat → Nat) (I : Nat → Int) (A : Nat → Nat → Int) (F : Nat → UInt32) (Dd : Nat → UInt64) (u : Int) (g : Int) (hsI : smI I) (hsA : smA A) (hN : okN (mJ I A) (mN A)) (hu : 0 ≤ u ∧ u ≤ 999) (hg : -1200 ≤ g ∧ g ≤ 1200) : g_Ct l yX8_isFeasible cX8_isFeasible 3 (some FieldType.boolean) ({ frames := 2, cells := 0, slots := 0, locals := 47 } : Room) D (tysY Y) E [.ref (q 99), .int (iI u), .int (iI g)] (wMod q Y I A F Dd) 0 0 (fun r9 w9 => ∃ A1 : Nat → Nat → Int, w9 = wMod q Y I A1 F Dd ∧ smA A1 ∧ kpA A A1 ∧ ((r9 = some (.int (iI 1)) ∧ bG (I 1).toNat (nEd (mJ I A) (mN A) u 1 g (I 7)) (A1 31)) ∨ (r9 = some (.int (iI 0)) ∧ ¬ feas (mJ I A) (mN A) u 1 g (I 7)))) := by
  refine g_ofG (own := RX8) hE (by decide) rfl (Nat.le_of_ble_eq_true rfl) [(0, .ref (q 99)), (1, .int (iI u)), (2, .int (iI g))] rfl ?_
  intro p9 e9 s9 m9 b9 t9 c9 A9 C hr hlk hnm
  have hI := hsI
  have hA := hsA
  unfold smI at hI
  unfold smA at hA
  have hN9 := hN
  unfold okN at hN9
  simp only [mJ, mN] at hN9
  have hr9 := fun (p : Nat) (hp : (p : Int) < I 2) => m_lt_r hN hu hg hp
  have hx1 : smR (m_fill (m_lt I A u g) (A 29) (I 2).toNat) := m_fill_sm (fun k hk => by have := hr9 k (by omega); omega) (hsA 29)
  have hy1 : smR (m_fill (m_so I A g) (A 30) (I 2).toNat) := m_fill_sm (fun k hk => by have := hr9 k (by omega); omega) (hsA 30)
  have hxe : ∀ p : Nat, (p : Int) < I 2 → (m_fill (m_lt I A u g) (A 29) (I 2).toNat) p = m_lt I A u g p := fun p hp => if_pos (by omega)
  have hye : ∀ p : Nat, (p : Int) < I 2 → (m_fill (m_so I A g) (A 30) (I 2).toNat) p = m_so I A g p := fun p hp => if_pos (by omega)
  refine g_aload_n C (n' := 1) 0 rfl dX8_isFeasible_0 rfl rfl ?_
  refine g_iload_n C (n' := 2) 1 rfl dX8_isFeasible_1 rfl rfl ?_
  refine g_iload_n C (n' := 3) 2 rfl dX8_isFeasible_2 rfl rfl ?_
  refine g_cVn C (n' := 6) (c_X8_layBounds l D Y C.2.2.2.2.2.2.2.2.1 q I A F Dd u g hsI hsA hN hu hg) 2 kw_909 kc_X8_layBounds (by decide +kernel) (pm0 _) 0 (ci := 6) rfl rfl rfl rfl ⟨Nat.le_of_ble_eq_true rfl, Nat.le_of_ble_eq_true rfl⟩ ⟨rfl, rfl⟩ ⟨Nat.le_of_ble_eq_true rfl, Nat.le_of_ble_eq_true rfl⟩ (Nat.le_of_ble_eq_true rfl) dX8_isFeasible_3 rfl rfl (wMod q Y I (sU (sU A 29 (m_fill (m_lt I A u g) ((A 29)) ((I 2)).toNat)) 30 (m_fill (m_so I A g) ((A 30)) ((I 2)).toNat)) F Dd) (pm0' _) ?_
  refine g_aload_n C (n' := 7) 0 rfl dX8_isFeasible_6 rfl rfl ?_
  refine g_callV C (n' := 10) (c_X8_areThere l D Y C.2.2.2.2.2.2.2.2.1 q I (sU (sU A 29 (m_fill (m_lt I A u g) ((A 29)) ((I 2)).toNat)) 30 (m_fill (m_so I A g) ((A 30)) ((I 2)).toNat)) F Dd hsI (sm_putA (sm_putA hsA hx1) hy1) (m_okE hN (fun p hp => by rw [hxe p hp, hye p hp]; have := hr9 p hp; omega))) 0 kw_916 kc_X8_areThere (by decide +kernel) (pm0 _) 0 (ci := 6) rfl rfl rfl rfl ⟨Nat.le_of_ble_eq_true rfl, Nat.le_of_ble_eq_true rfl⟩ ⟨rfl, rfl⟩ ⟨Nat.le_of_ble_eq_true rfl, Nat.le_of_ble_eq_true rfl⟩ (Nat.le_of_ble_eq_true rfl) dX8_isFeasible_7 rfl (fun r9 w9 hp1 => ?_)
  obtain ⟨S2, rfl, hS2, (⟨rfl, hGS2⟩ | ⟨rfl, hGS2⟩)⟩ := hp1
  · skip
    refine g_perm (w' := (wMod q Y I (sU (sU (sU A 29 (m_fill (m_lt I A u g) ((A 29)) ((I 2)).toNat)) 30 (m_fill (m_so I A g) ((A 30)) ((I 2)).toNat)) 31 S2) F Dd)) (pm0' _) ?_
    refine g_st (st' := [.int (iI 1)]) rfl ?_
    exact g_iret C hr hlk (nar_z (by omega)) ⟨_, rfl, sm_putA (sm_putA (sm_putA hsA hx1) hy1) hS2, kpA_3 _ _ _ _, Or.inl ⟨rfl, bG_congr (m_sol (I := I) (A := A) (u := u) (v := 1) (g := g) (t := (I 7)) (x := (m_fill (m_lt I A u g) (A 29) (I 2).toNat)) (y := (m_fill (m_so I A g) (A 30) (I 2).toNat)) (fun p hp => (hxe p hp).trans (m_lt_p I A u g p)) (fun p hp => (hye p hp).trans (m_so_p I A g p))) hGS2⟩⟩ dX8_isFeasible_10
  · skip
    refine g_perm (w' := (wMod q Y I (sU (sU (sU A 29 (m_fill (m_lt I A u g) ((A 29)) ((I 2)).toNat)) 30 (m_fill (m_so I A g) ((A 30)) ((I 2)).toNat)) 31 S2) F Dd)) (pm0' _) ?_
    refine g_st (st' := [.int (iI 0)]) rfl ?_
    exact g_iret C hr hlk (nar_z (by omega)) ⟨_, rfl, sm_putA (sm_putA (sm_putA hsA hx1) hy1) hS2, kpA_3 _ _ _ _, Or.inr ⟨rfl, fun hz => hGS2 (by obtain ⟨z, hz⟩ := hz; exact ⟨z, (m_sol (I := I) (A := A) (u := u) (v := 1) (g := g) (t := (I 7)) (x := (m_fill (m_lt I A u g) (A 29) (I 2).toNat)) (y := (m_fill (m_so I A g) (A 30) (I 2).toNat)) (fun p hp => (hxe p hp).trans (m_lt_p I A u g p)) (fun p hp => (hye p hp).trans (m_so_p I A g p)) z).mpr hz⟩)⟩⟩ dX8_isFeasible_10
def m_lv (I : Nat → Int) (A : Nat → Nat → Int) (u v : Int) (k : Nat) : Int := u - v * (A 0 (1 + k) + I 5)
def m_sv (I : Nat → Int) (A : Nat → Nat → Int) (v : Int) (k : Nat) : Int := v * (A 0 (17 + k) - I 6)
theorem m_lv_p (I : Nat → Int) (A : Nat → Nat → Int) (u v : Int) (p : Nat) : m_lv I A u v p = p_late (mJ I A) (mN A) u v 0 p / 1 := by
  unfold m_lv p_late
  simp only [mJ, mN]
  rw [Int.ediv_one, Int.add_zero]
theorem m_sv_p (I : Nat → Int) (A : Nat → Nat → Int) (v : Int) (p : Nat) : m_sv I A v p = p_soon (mJ I A) (mN A) v 0 p / 1 := by
  unfold m_sv p_soon
  simp only [mJ, mN]
  rw [Int.ediv_one, Int.sub_zero]
theorem m_lv_r {I : Nat → Int} {A : Nat → Nat → Int} (hN : okN (mJ I A) (mN A)) {u v : Int} (hv : 1 ≤ v ∧ v ≤ 8) (hu : 0 ≤ u ∧ u ≤ 4000 * v) {k : Nat} (hk : (k : Int) < I 2) : (-1700 ≤ m_lv I A u v k ∧ m_lv I A u v k ≤ 40000) ∧ (-1700 ≤ m_sv I A v k ∧ m_sv I A v k ≤ 40000) := by
  unfold okN at hN
  simp only [mJ, mN] at hN
  have h1 := hN.2.2.2.2.2.2 k hk
  unfold m_lv m_sv
  rcases (show v = 1 ∨ v = 2 ∨ v = 3 ∨ v = 4 ∨ v = 5 ∨ v = 6 ∨ v = 7 ∨ v = 8 by omega) with rfl | rfl | rfl | rfl | rfl | rfl | rfl | rfl <;> omega
set_option maxRecDepth 100000 in
set_option maxHeartbeats 4000000 in
theorem lp_X8_ib {p9 : Program} {l : Launch} {e9 : Env} {s9 : State} {m9 : MethodId} {a9 : Array Value} {b9 : List Frame} {t9 : Method} {c9 : Code} {D : va_G} {A9 : Nat → Prop} {Q9 : State → Prop} {E : (Nat → Prop) → State → Heap → Prop} {Y : Nat → ClassId} (C : g_Cx p9 s9 m9 a9 c9 cX8_isFeasibleBy 4 RX8 D (tysY Y) A9 E) (q : Nat → Nat) (I : Nat → Int) (A : Nat → Nat → Int) (F : Nat → UInt32) (Dd : Nat → UInt64) (u v : Int) (hsI : smI I) (hsA : smA A) (hN : okN (mJ I A) (mN A)) (hv : 1 ≤ v ∧ v ≤ 8) (hu : 0 ≤ u ∧ u ≤ 4000 * v) : ∀ (n9 : Nat) (k : Nat), (k : Int) + n9 = I 2 → (g_G p9 l e9 ({ frames := 2, cells := 0, slots := 0, locals := 47 } : Room) s9 m9 a9 b9 t9 c9 4 D A9 Q9 0 0 (wMod q Y I (sU (sU A 29 (m_fill (m_lv I A u v) (A 29) (I 2).toNat)) 30 (m_fill (m_sv I A v) (A 30) (I 2).toNat)) F Dd) [(3, .int (iI (((I 2).toNat : Nat) : Int))), (0, .ref (q 99)), (1, .int (iI u)), (2, .int (iI v))] 52 []) → g_G p9 l e9 ({ frames := 2, cells := 0, slots := 0, locals := 47 } : Room) s9 m9 a9 b9 t9 c9 4 D A9 Q9 0 0 (wMod q Y I (sU (sU A 29 (m_fill (m_lv I A u v) (A 29) k)) 30 (m_fill (m_sv I A v) (A 30) k)) F Dd) [(3, .int (iI ((k : Nat) : Int))), (0, .ref (q 99)), (1, .int (iI u)), (2, .int (iI v))] 2 [] := by
  have hE := C.2.2.2.2.2.2.2.2.1
  intro n9
  induction n9 with
  | zero =>
    intro k hk K
    have hI := hsI
    have hA := hsA
    unfold smI at hI
    unfold smA at hA
    have hN9 := hN
    unfold okN at hN9
    simp only [mJ, mN] at hN9
    refine g_iload_n C (n' := 3) 0 rfl dX8_isFeasibleBy_2 rfl rfl ?_
    refine g_aload_n C (n' := 4) 1 rfl dX8_isFeasibleBy_3 rfl rfl ?_
    refine g_get C (n' := 7) (Cn := RX8) (T := TX8) (N := 35) (ci := 6) (v := .int (iI (I 2))) ga_X8 0 rfl rfl 2 (by decide) kw_692 rfl rfl dX8_isFeasibleBy_4 rfl ?_
    have h_4 := hI 2
    refine g_icmp_ge C (n' := 10) 52 dX8_isFeasibleBy_7 (by decide) rfl (by unfold inR; omega) (by unfold inR; omega) (fun c1 => ?_) (fun c1 => ?_)
    · skip
      have ek : k = (I 2).toNat := by omega
      rw [ek]
      exact K
    · skip
      exfalso
      omega
  | succ n9 ih =>
    intro k hk K
    have hI := hsI
    have hA := hsA
    unfold smI at hI
    unfold smA at hA
    have hN9 := hN
    unfold okN at hN9
    simp only [mJ, mN] at hN9
    refine g_iload_n C (n' := 3) 0 rfl dX8_isFeasibleBy_2 rfl rfl ?_
    refine g_aload_n C (n' := 4) 1 rfl dX8_isFeasibleBy_3 rfl rfl ?_
    refine g_get C (n' := 7) (Cn := RX8) (T := TX8) (N := 35) (ci := 6) (v := .int (iI (I 2))) ga_X8 0 rfl rfl 2 (by decide) kw_692 rfl rfl dX8_isFeasibleBy_4 rfl ?_
    have h_4 := hI 2
    refine g_icmp_ge C (n' := 10) 52 dX8_isFeasibleBy_7 (by decide) rfl (by unfold inR; omega) (by unfold inR; omega) (fun c1 => ?_) (fun c1 => ?_)
    · skip
      exfalso
      omega
    · skip
      have ha1 := hA 0 (1 + k)
      have ha2 := hA 0 (17 + k)
      have hi5 := hI 5
      have hi6 := hI 6
      have hi7 := hI 7
      have hp9 := hN9.2.2.2.2.2.2 k (by omega)
      refine g_aload_n C (n' := 11) 1 rfl dX8_isFeasibleBy_10 rfl rfl ?_
      refine g_get C (n' := 14) (Cn := RX8) (T := TX8) (N := 35) (ci := 6) (v := .ref (q 29)) ga_X8 0 rfl rfl 29 (by decide) kw_719 rfl rfl dX8_isFeasibleBy_11 rfl ?_
      refine g_iload_n C (n' := 15) 0 rfl dX8_isFeasibleBy_14 rfl rfl ?_
      refine g_iload_n C (n' := 16) 2 rfl dX8_isFeasibleBy_15 rfl rfl ?_
      refine g_iload_n C (n' := 17) 3 rfl dX8_isFeasibleBy_16 rfl rfl ?_
      refine g_aload_n C (n' := 18) 1 rfl dX8_isFeasibleBy_17 rfl rfl ?_
      refine g_get C (n' := 21) (Cn := RX8) (T := TX8) (N := 35) (ci := 6) (v := .ref (q 0)) ga_X8 0 rfl rfl 0 (by decide) kw_690 rfl rfl dX8_isFeasibleBy_18 rfl ?_
      refine g_iconst C (n' := 22) dX8_isFeasibleBy_21 rfl ?_
      refine g_iload_n C (n' := 23) 0 rfl dX8_isFeasibleBy_22 rfl rfl ?_
      refine g_iadd C (n' := 24) dX8_isFeasibleBy_23 rfl ?_
      refine g_ialdN C (n' := 25) (f := (A 0)) (j := (1 + k)) 1 0 rfl rfl (by omega) (by decide) rfl dX8_isFeasibleBy_24 rfl ?_
      have h_24 := hA 0 (1 + k)
      refine g_aload_n C (n' := 26) 1 rfl dX8_isFeasibleBy_25 rfl rfl ?_
      refine g_get C (n' := 29) (Cn := RX8) (T := TX8) (N := 35) (ci := 6) (v := .int (iI (I 5))) ga_X8 0 rfl rfl 5 (by decide) kw_695 rfl rfl dX8_isFeasibleBy_26 rfl ?_
      have h_26 := hI 5
      refine g_iadd C (n' := 30) dX8_isFeasibleBy_29 rfl ?_
      refine g_imul C (n' := 31) dX8_isFeasibleBy_30 rfl ?_
      refine g_isub C (n' := 32) dX8_isFeasibleBy_31 rfl ?_
      refine g_iastN C (n' := 33) (f := (m_fill (m_lv I A u v) (A 29) k)) (j := k) 17 0 rfl rfl (by omega) (by decide) rfl dX8_isFeasibleBy_32 rfl (wMod q Y I (sU (sU A 30 (m_fill (m_sv I A v) (A 30) k)) 29 (sU (m_fill (m_lv I A u v) (A 29) k) k (u - (v * (((A 0) (1 + k)) + (I 5)))))) F Dd) rfl ?_
      refine g_aload_n C (n' := 34) 1 rfl dX8_isFeasibleBy_33 rfl rfl ?_
      refine g_get C (n' := 37) (Cn := RX8) (T := TX8) (N := 35) (ci := 6) (v := .ref (q 30)) ga_X8 0 rfl rfl 30 (by decide) kw_720 rfl rfl dX8_isFeasibleBy_34 rfl ?_
      refine g_iload_n C (n' := 38) 0 rfl dX8_isFeasibleBy_37 rfl rfl ?_
      refine g_iload_n C (n' := 39) 3 rfl dX8_isFeasibleBy_38 rfl rfl ?_
      refine g_aload_n C (n' := 40) 1 rfl dX8_isFeasibleBy_39 rfl rfl ?_
      refine g_iload_n C (n' := 41) 0 rfl dX8_isFeasibleBy_40 rfl rfl ?_
      refine g_cVv C (n' := 44) (v := .int (iI ((A 0) (17 + k) - (I 6)))) (c_X8_soonOf l D Y C.2.2.2.2.2.2.2.2.1 q I (sU (sU A 30 (m_fill (m_sv I A v) (A 30) k)) 29 (sU (m_fill (m_lv I A u v) (A 29) k) k (u - (v * (((A 0) (1 + k)) + (I 5)))))) F Dd ((k : Nat) : Int) (by omega) (by omega)) 1 kw_871 kc_X8_soonOf (by decide +kernel) (pm0 _) 0 (ci := 6) rfl rfl rfl rfl ⟨Nat.le_of_ble_eq_true rfl, Nat.le_of_ble_eq_true rfl⟩ ⟨rfl, rfl⟩ ⟨Nat.le_of_ble_eq_true rfl, Nat.le_of_ble_eq_true rfl⟩ (Nat.le_of_ble_eq_true rfl) dX8_isFeasibleBy_41 rfl rfl (wMod q Y I (sU (sU A 30 (m_fill (m_sv I A v) (A 30) k)) 29 (sU (m_fill (m_lv I A u v) (A 29) k) k (u - (v * (((A 0) (1 + k)) + (I 5)))))) F Dd) (pm0' _) ?_
      refine g_imul C (n' := 45) dX8_isFeasibleBy_44 rfl ?_
      refine g_iastN C (n' := 46) (f := (m_fill (m_sv I A v) (A 30) k)) (j := k) 18 0 rfl rfl (by omega) (by decide) rfl dX8_isFeasibleBy_45 rfl (wMod q Y I (sU (sU A 29 (sU (m_fill (m_lv I A u v) (A 29) k) k (u - (v * (((A 0) (1 + k)) + (I 5)))))) 30 (sU (m_fill (m_sv I A v) (A 30) k) k (v * ((A 0) (17 + k) - (I 6))))) F Dd) rfl ?_
      refine g_iinc C (n' := 49) 0 [(3, .int (iI (((k : Nat) : Int) + 1))), (0, .ref (q 99)), (1, .int (iI u)), (2, .int (iI v))] rfl dX8_isFeasibleBy_46 rfl (by decide) rfl ?_
      refine g_goto C 2 dX8_isFeasibleBy_49 (by decide) ?_
      rw [show ((sU (m_fill (m_lv I A u v) (A 29) k) k (u - (v * (((A 0) (1 + k)) + (I 5))))) : Nat → Int) = m_fill (m_lv I A u v) (A 29) (k + 1) from m_fill_s (m_lv I A u v) (A 29) k]
      rw [show ((sU (m_fill (m_sv I A v) (A 30) k) k (v * ((A 0) (17 + k) - (I 6)))) : Nat → Int) = m_fill (m_sv I A v) (A 30) (k + 1) from m_fill_s (m_sv I A v) (A 30) k]
      refine g_lv (lv' := [(3, .int (iI ((k + 1 : Nat) : Int))), (0, .ref (q 99)), (1, .int (iI u)), (2, .int (iI v))]) [0, 1, 2, 3] rfl ?_
      exact ih (k + 1) (by omega) K
set_option maxRecDepth 100000 in
set_option maxHeartbeats 4000000 in
theorem c_X8_isFeasibleBy (l : Launch) (D : va_G) (Y : Nat → ClassId) {E : (Nat → Prop) → State → Heap → Prop} (hE : g_Stab E) (q : Nat → Nat) (I : Nat → Int) (A : Nat → Nat → Int) (F : Nat → UInt32) (Dd : Nat → UInt64) (u : Int) (v : Int) (hsI : smI I) (hsA : smA A) (hN : okN (mJ I A) (mN A)) (hv : 1 ≤ v ∧ v ≤ 8) (hu : 0 ≤ u ∧ u ≤ 4000 * v) : g_Ct l yX8_isFeasibleBy cX8_isFeasibleBy 4 (some FieldType.boolean) ({ frames := 2, cells := 0, slots := 0, locals := 47 } : Room) D (tysY Y) E [.ref (q 99), .int (iI u), .int (iI v)] (wMod q Y I A F Dd) 0 0 (fun r9 w9 => ∃ A1 : Nat → Nat → Int, w9 = wMod q Y I A1 F Dd ∧ smA A1 ∧ kpA A A1 ∧ ((r9 = some (.int (iI 1)) ∧ bG (I 1).toNat (nEd (mJ I A) (mN A) u v 0 1) (A1 31)) ∨ (r9 = some (.int (iI 0)) ∧ ¬ feas (mJ I A) (mN A) u v 0 1))) := by
  refine g_ofG (own := RX8) hE (by decide) rfl (Nat.le_of_ble_eq_true rfl) [(0, .ref (q 99)), (1, .int (iI u)), (2, .int (iI v))] rfl ?_
  intro p9 e9 s9 m9 b9 t9 c9 A9 C hr hlk hnm
  have hI := hsI
  have hA := hsA
  unfold smI at hI
  unfold smA at hA
  have hN9 := hN
  unfold okN at hN9
  simp only [mJ, mN] at hN9
  have hr9 := fun (p : Nat) (hp : (p : Int) < I 2) => m_lv_r hN hv hu hp
  have hx1 : smR (m_fill (m_lv I A u v) (A 29) (I 2).toNat) := m_fill_sm (fun k hk => by have := hr9 k (by omega); omega) (hsA 29)
  have hy1 : smR (m_fill (m_sv I A v) (A 30) (I 2).toNat) := m_fill_sm (fun k hk => by have := hr9 k (by omega); omega) (hsA 30)
  have hxe : ∀ p : Nat, (p : Int) < I 2 → (m_fill (m_lv I A u v) (A 29) (I 2).toNat) p = m_lv I A u v p := fun p hp => if_pos (by omega)
  have hye : ∀ p : Nat, (p : Int) < I 2 → (m_fill (m_sv I A v) (A 30) (I 2).toNat) p = m_sv I A v p := fun p hp => if_pos (by omega)
  refine g_iconst C (n' := 1) dX8_isFeasibleBy_0 rfl ?_
  refine g_istore_n C (n' := 2) [(3, .int (iI 0)), (0, .ref (q 99)), (1, .int (iI u)), (2, .int (iI v))] dX8_isFeasibleBy_1 rfl rfl (by decide) rfl ?_
  refine g_wd (w' := (wMod q Y I (sU (sU A 29 (m_fill (m_lv I A u v) (A 29) 0)) 30 (m_fill (m_sv I A v) (A 30) 0)) F Dd)) (by rw [m_fill_0, m_fill_0, sU_id, sU_id]) ?_
  refine g_lv (lv' := [(3, .int (iI ((0 : Nat) : Int))), (0, .ref (q 99)), (1, .int (iI u)), (2, .int (iI v))]) [0, 1, 2, 3] rfl ?_
  refine lp_X8_ib C q I A F Dd u v hsI hsA hN hv hu (I 2).toNat 0 (by omega) ?_
  refine g_aload_n C (n' := 53) 1 rfl dX8_isFeasibleBy_52 rfl rfl ?_
  refine g_callV C (n' := 56) (c_X8_areThere l D Y C.2.2.2.2.2.2.2.2.1 q I (sU (sU A 29 (m_fill (m_lv I A u v) (A 29) (I 2).toNat)) 30 (m_fill (m_sv I A v) (A 30) (I 2).toNat)) F Dd hsI (sm_putA (sm_putA hsA hx1) hy1) (m_okE hN (fun p hp => by rw [hxe p hp, hye p hp]; have := hr9 p hp; omega))) 0 kw_916 kc_X8_areThere (by decide +kernel) (pm0 _) 0 (ci := 6) rfl rfl rfl rfl ⟨Nat.le_of_ble_eq_true rfl, Nat.le_of_ble_eq_true rfl⟩ ⟨rfl, rfl⟩ ⟨Nat.le_of_ble_eq_true rfl, Nat.le_of_ble_eq_true rfl⟩ (Nat.le_of_ble_eq_true rfl) dX8_isFeasibleBy_53 rfl (fun r9 w9 hp1 => ?_)
  obtain ⟨S2, rfl, hS2, (⟨rfl, hGS2⟩ | ⟨rfl, hGS2⟩)⟩ := hp1
  · skip
    refine g_perm (w' := (wMod q Y I (sU (sU (sU A 29 (m_fill (m_lv I A u v) (A 29) (I 2).toNat)) 30 (m_fill (m_sv I A v) (A 30) (I 2).toNat)) 31 S2) F Dd)) (pm0' _) ?_
    refine g_st (st' := [.int (iI 1)]) rfl ?_
    exact g_iret C hr hlk (nar_z (by omega)) ⟨_, rfl, sm_putA (sm_putA (sm_putA hsA hx1) hy1) hS2, kpA_3 _ _ _ _, Or.inl ⟨rfl, bG_congr (m_sol (I := I) (A := A) (u := u) (v := v) (g := 0) (t := 1) (x := (m_fill (m_lv I A u v) (A 29) (I 2).toNat)) (y := (m_fill (m_sv I A v) (A 30) (I 2).toNat)) (fun p hp => (hxe p hp).trans (m_lv_p I A u v p)) (fun p hp => (hye p hp).trans (m_sv_p I A v p))) hGS2⟩⟩ dX8_isFeasibleBy_56
  · skip
    refine g_perm (w' := (wMod q Y I (sU (sU (sU A 29 (m_fill (m_lv I A u v) (A 29) (I 2).toNat)) 30 (m_fill (m_sv I A v) (A 30) (I 2).toNat)) 31 S2) F Dd)) (pm0' _) ?_
    refine g_st (st' := [.int (iI 0)]) rfl ?_
    exact g_iret C hr hlk (nar_z (by omega)) ⟨_, rfl, sm_putA (sm_putA (sm_putA hsA hx1) hy1) hS2, kpA_3 _ _ _ _, Or.inr ⟨rfl, fun hz => hGS2 (by obtain ⟨z, hz⟩ := hz; exact ⟨z, (m_sol (I := I) (A := A) (u := u) (v := v) (g := 0) (t := 1) (x := (m_fill (m_lv I A u v) (A 29) (I 2).toNat)) (y := (m_fill (m_sv I A v) (A 30) (I 2).toNat)) (fun p hp => (hxe p hp).trans (m_lv_p I A u v p)) (fun p hp => (hye p hp).trans (m_sv_p I A v p)) z).mpr hz⟩)⟩⟩ dX8_isFeasibleBy_56
