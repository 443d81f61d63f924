/-! Planner: least period, margin, rate -/
theorem ed_mono {x y t : Int} (h : x ≤ y) (ht : 1 ≤ t) : x / t ≤ y / t := Int.ediv_le_ediv (by omega) h
theorem feas_up {J : Nat → Int} {N : Nat → Nat → Int} {u u' v g t : Int} (ht : 1 ≤ t) (hu : u ≤ u') (h : feas J N u v g t) : feas J N u' v g t := by
  obtain ⟨s, hs⟩ := h
  refine ⟨s, fun a b c hc => ?_⟩
  obtain ⟨p, hp, q⟩ := hc
  rcases q with ⟨rfl, rfl, rfl⟩ | ⟨rfl, rfl, rfl⟩
  · have h1 := hs _ _ _ ⟨p, hp, Or.inl ⟨rfl, rfl, rfl⟩⟩
    have h2 : p_late J N u v g p / t ≤ p_late J N u' v g p / t := ed_mono (by unfold p_late; omega) ht
    omega
  · exact hs _ _ _ ⟨p, hp, Or.inr ⟨rfl, rfl, rfl⟩⟩
theorem feas_dn {J : Nat → Int} {N : Nat → Nat → Int} {u g g' t : Int} (ht : 1 ≤ t) (hg : g' ≤ g) (h : feas J N u 1 g t) : feas J N u 1 g' t := by
  obtain ⟨s, hs⟩ := h
  refine ⟨s, fun a b c hc => ?_⟩
  obtain ⟨p, hp, q⟩ := hc
  rcases q with ⟨rfl, rfl, rfl⟩ | ⟨rfl, rfl, rfl⟩
  · have h1 := hs _ _ _ ⟨p, hp, Or.inl ⟨rfl, rfl, rfl⟩⟩
    have h2 : p_late J N u 1 g p / t ≤ p_late J N u 1 g' p / t := ed_mono (by unfold p_late; omega) ht
    omega
  · have h1 := hs _ _ _ ⟨p, hp, Or.inr ⟨rfl, rfl, rfl⟩⟩
    have h2 : p_soon J N 1 g p / t ≤ p_soon J N 1 g' p / t := ed_mono (by unfold p_soon; omega) ht
    omega
theorem feas_lo {J : Nat → Int} {N : Nat → Nat → Int} (hN : okN J N) : feas J N (J 4) 1 (-1200) (J 3) := by
  unfold okN at hN
  refine ⟨fun _ => 0, fun a b c hc => ?_⟩
  obtain ⟨p, hp, q⟩ := hc
  have h1 := hN.2.2.2.2.2.2 p hp
  rcases q with ⟨rfl, rfl, rfl⟩ | ⟨rfl, rfl, rfl⟩
  · have : 0 ≤ p_late J N (J 4) 1 (-1200) p / J 3 := Int.ediv_nonneg (by unfold p_late; omega) (by omega)
    show (0 : Int) ≤ 0 + _
    omega
  · have : 0 ≤ p_soon J N 1 (-1200) p / J 3 := Int.ediv_nonneg (by unfold p_soon; omega) (by omega)
    show (0 : Int) ≤ 0 + _
    omega
/-- z is the least of 0 .. M by which there are shifts; -1: there is none -/
def lpIs (J : Nat → Int) (N : Nat → Nat → Int) (v t M z : Int) : Prop := (z = -1 ∧ ¬ feas J N M v 0 t) ∨ (0 ≤ z ∧ z ≤ M ∧ feas J N z v 0 t ∧ ∀ x, 0 ≤ x → x < z → ¬ feas J N x v 0 t)
theorem lpIs_r {J : Nat → Int} {N : Nat → Nat → Int} {v t M z : Int} (h : lpIs J N v t M z) (hM : 0 ≤ M) : -1 ≤ z ∧ z ≤ M := by
  rcases h with h | h <;> omega
set_option maxRecDepth 100000 in
set_option maxHeartbeats 4000000 in
theorem lp_X3_lp {p9 : Program} {l : Launch} {e9 : Env} {s9 : State} {m9 : MethodId} {a9 : Array Value} {b9 : List Frame} {t9 : Method} {c9 : Code} {D : va_G} {A9 : Nat → Prop} {Q9 : State → Prop} {E : (Nat → Prop) → State → Heap → Prop} {Y : Nat → ClassId} (C : g_Cx p9 s9 m9 a9 c9 cX3_leastPeriodAbove 8 RX3 D (tysY Y) A9 E) (q : Nat → Nat) (I : Nat → Int) (A : Nat → Nat → Int) (q2 : Nat → Nat) (J : Nat → Int) (N : Nat → Nat → Int) (v t : Int) (hsI : smI I) (hsJ : smI J) (hsN : smA N) (hN : okN J N) (hv : 1 ≤ v ∧ v ≤ 8) (ht : 1 ≤ t ∧ t ≤ 9) : ∀ (n9 : Nat) (A1 B1 : Nat → Nat → Int) (lo hi : Int) (k : Nat), smA A1 → okB B1 → A1 2 = A 2 → (k : Int) + n9 = 32 → 0 ≤ lo → lo ≤ hi → hi ≤ 999 * v → hi - lo < 2 ^ n9 → feas J N hi v 0 t → (∀ x, 0 ≤ x → x < lo → ¬ feas J N x v 0 t) → (∀ (A1 B1 : Nat → Nat → Int) (lo hi : Int) (k : Nat), smA A1 → okB B1 → A1 2 = A 2 → lpIs J N v t (999 * v) lo → g_G p9 l e9 ({ frames := 4, cells := 0, slots := 0, locals := 100 } : Room) s9 m9 a9 b9 t9 c9 8 D A9 Q9 0 0 ((wPlan q Y (sU I 3 (J 0)) A1 B1) ++ (wNet q2 Y J N)) [(6, .int (iI ((k : Nat) : Int))), (5, .int (iI hi)), (4, .int (iI lo)), (0, .ref (q 99)), (1, .ref (q2 99)), (2, .int (iI v)), (3, .int (iI t))] 81 []) → g_G p9 l e9 ({ frames := 4, cells := 0, slots := 0, locals := 100 } : Room) s9 m9 a9 b9 t9 c9 8 D A9 Q9 0 0 ((wPlan q Y (sU I 3 (J 0)) A1 B1) ++ (wNet q2 Y J N)) [(6, .int (iI ((k : Nat) : Int))), (5, .int (iI hi)), (4, .int (iI lo)), (0, .ref (q 99)), (1, .ref (q2 99)), (2, .int (iI v)), (3, .int (iI t))] 27 [] := by
  have hE := C.2.2.2.2.2.2.2.2.1
  intro n9
  induction n9 with
  | zero =>
    intro A1 B1 lo hi k hsA1 hsB1 hr2 hk h0 h1 h2 hp2 hf hlo K
    have hI := hsI
    have hJ := hsJ
    have hN9 := hN
    unfold smI at hI hJ
    unfold okN at hN9
    simp only [Int.pow_zero] at hp2
    refine g_iload C (n' := 29) 0 rfl dX3_leastPeriodAbove_27 rfl ?_
    refine g_bipush C (n' := 31) (by decide) dX3_leastPeriodAbove_29 rfl ?_
    refine g_icmp_ge C (n' := 34) 81 dX3_leastPeriodAbove_31 (by decide) rfl (by unfold inR; omega) (by unfold inR; omega) (fun c1 => ?_) (fun c1 => ?_)
    · skip
      have e9 : lo = hi := by omega
      exact K A1 B1 lo hi k hsA1 hsB1 hr2 (Or.inr ⟨by omega, by omega, by rw [e9]; exact hf, hlo⟩)
    · skip
      exfalso
      omega
  | succ n9 ih =>
    intro A1 B1 lo hi k hsA1 hsB1 hr2 hk h0 h1 h2 hp2 hf hlo K
    have hI := hsI
    have hJ := hsJ
    have hN9 := hN
    unfold smI at hI hJ
    unfold okN at hN9
    have e2 : (2 : Int) ^ (n9 + 1) = 2 * 2 ^ n9 := by rw [Int.pow_succ]; omega
    refine g_iload C (n' := 29) 0 rfl dX3_leastPeriodAbove_27 rfl ?_
    refine g_bipush C (n' := 31) (by decide) dX3_leastPeriodAbove_29 rfl ?_
    refine g_icmp_ge C (n' := 34) 81 dX3_leastPeriodAbove_31 (by decide) rfl (by unfold inR; omega) (by unfold inR; omega) (fun c1 => ?_) (fun c1 => ?_)
    · skip
      have e9 : lo = hi := by omega
      exact K A1 B1 lo hi k hsA1 hsB1 hr2 (Or.inr ⟨by omega, by omega, by rw [e9]; exact hf, hlo⟩)
    · skip
      refine g_iload C (n' := 36) 2 rfl dX3_leastPeriodAbove_34 rfl ?_
      refine g_iload C (n' := 38) 1 rfl dX3_leastPeriodAbove_36 rfl ?_
      refine g_icmp_ge C (n' := 41) 81 dX3_leastPeriodAbove_38 (by decide) rfl (by unfold inR; omega) (by unfold inR; omega) (fun c2 => ?_) (fun c2 => ?_)
      · skip
        have e9 : lo = hi := by omega
        exact K A1 B1 lo hi k hsA1 hsB1 hr2 (Or.inr ⟨by omega, by omega, by rw [e9]; exact hf, hlo⟩)
      · skip
        refine g_iload C (n' := 43) 2 rfl dX3_leastPeriodAbove_41 rfl ?_
        refine g_iload C (n' := 45) 1 rfl dX3_leastPeriodAbove_43 rfl ?_
        refine g_iadd C (n' := 46) dX3_leastPeriodAbove_45 rfl ?_
        refine g_iconst C (n' := 47) dX3_leastPeriodAbove_46 rfl ?_
        refine g_idiv C (n' := 48) (by unfold inR; omega) (by unfold inR; omega) (by omega) (fd_r (by unfold inR; omega) (by omega)) dX3_leastPeriodAbove_47 rfl ?_
        rw [Int.tdiv_eq_ediv_of_nonneg (show 0 ≤ lo + hi by omega)]
        refine g_istore C (n' := 50) [(7, .int (iI ((lo + hi) / 2))), (6, .int (iI ((k : Nat) : Int))), (5, .int (iI hi)), (4, .int (iI lo)), (0, .ref (q 99)), (1, .ref (q2 99)), (2, .int (iI v)), (3, .int (iI t))] dX3_leastPeriodAbove_48 rfl (by decide) rfl ?_
        refine g_aload_n C (n' := 51) 4 rfl dX3_leastPeriodAbove_50 rfl rfl ?_
        refine g_aload_n C (n' := 52) 5 rfl dX3_leastPeriodAbove_51 rfl rfl ?_
        refine g_iload C (n' := 54) 0 rfl dX3_leastPeriodAbove_52 rfl ?_
        refine g_iload_n C (n' := 55) 6 rfl dX3_leastPeriodAbove_54 rfl rfl ?_
        refine g_iload_n C (n' := 56) 7 rfl dX3_leastPeriodAbove_55 rfl rfl ?_
        refine g_callV C (n' := 59) (c_X3_settlesAtPeriod l D Y C.2.2.2.2.2.2.2.2.1 q (sU I 3 (J 0)) A1 B1 q2 J N ((lo + hi) / 2) v t (sm_put hsI (by omega)) hsA1 hsB1 hsJ hsN hN hv (by omega) ht) 4 kw_493 kc_X3_settlesAtPeriod (by decide +kernel) (pm0 _) 0 (ci := 2) rfl rfl rfl rfl ⟨Nat.le_of_ble_eq_true rfl, Nat.le_of_ble_eq_true rfl⟩ ⟨rfl, rfl⟩ ⟨Nat.le_of_ble_eq_true rfl, Nat.le_of_ble_eq_true rfl⟩ (Nat.le_of_ble_eq_true rfl) dX3_leastPeriodAbove_56 rfl (fun r9 w9 hp3 => ?_)
        obtain ⟨S4, rfl, hS4, (⟨rfl, hGS4⟩ | ⟨rfl, hGS4⟩)⟩ := hp3
        · skip
          refine g_perm (w' := ((wPlan q Y (sU I 3 ((J 0))) (sU A1 1 S4) (p_lay J N ((lo + hi) / 2) v 0 t B1)) ++ (wNet q2 Y J N))) (pm0' _) ?_
          refine g_st (st' := [.int (iI 1)]) rfl ?_
          have hf9 := p_lay_ok hN (layR_v hN hv (u := (lo + hi) / 2) (by omega)) (t := t) (by omega) hsB1
          refine g_if_eq C (n' := 62) 69 dX3_leastPeriodAbove_59 (by decide) rfl (by unfold inR; omega) (fun c5 => ?_) (fun c5 => ?_)
          · skip
            exfalso
            omega
          · skip
            refine g_iload C (n' := 64) 0 rfl dX3_leastPeriodAbove_62 rfl ?_
            refine g_istore C (n' := 66) [(5, .int (iI ((lo + hi) / 2))), (7, .int (iI ((lo + hi) / 2))), (6, .int (iI ((k : Nat) : Int))), (4, .int (iI lo)), (0, .ref (q 99)), (1, .ref (q2 99)), (2, .int (iI v)), (3, .int (iI t))] dX3_leastPeriodAbove_64 rfl (by decide) rfl ?_
            refine g_goto C 75 dX3_leastPeriodAbove_66 (by decide) ?_
            refine g_iinc C (n' := 78) 2 [(6, .int (iI (((k : Nat) : Int) + 1))), (5, .int (iI ((lo + hi) / 2))), (7, .int (iI ((lo + hi) / 2))), (4, .int (iI lo)), (0, .ref (q 99)), (1, .ref (q2 99)), (2, .int (iI v)), (3, .int (iI t))] rfl dX3_leastPeriodAbove_75 rfl (by decide) rfl ?_
            refine g_goto C 27 dX3_leastPeriodAbove_78 (by decide) ?_
            refine g_lv (lv' := [(6, .int (iI ((k + 1 : Nat) : Int))), (5, .int (iI ((lo + hi) / 2))), (4, .int (iI lo)), (0, .ref (q 99)), (1, .ref (q2 99)), (2, .int (iI v)), (3, .int (iI t))]) [0, 1, 3, 4, 5, 6, 7] rfl ?_
            exact ih (sU A1 1 S4) (p_lay J N ((lo + hi) / 2) v 0 t B1) lo ((lo + hi) / 2) (k + 1) (sm_putA hsA1 hS4) hf9 hr2 (by omega) (by omega) (by omega) (by omega) (by omega) (by obtain ⟨g1, -, -⟩ := hGS4; exact ⟨_, g1⟩) hlo K
        · skip
          refine g_perm (w' := ((wPlan q Y (sU I 3 ((J 0))) (sU A1 1 S4) (p_lay J N ((lo + hi) / 2) v 0 t B1)) ++ (wNet q2 Y J N))) (pm0' _) ?_
          refine g_st (st' := [.int (iI 0)]) rfl ?_
          have hf9 := p_lay_ok hN (layR_v hN hv (u := (lo + hi) / 2) (by omega)) (t := t) (by omega) hsB1
          refine g_if_eq C (n' := 62) 69 dX3_leastPeriodAbove_59 (by decide) rfl (by unfold inR; omega) (fun c6 => ?_) (fun c6 => ?_)
          · skip
            refine g_iload C (n' := 71) 0 rfl dX3_leastPeriodAbove_69 rfl ?_
            refine g_iconst C (n' := 72) dX3_leastPeriodAbove_71 rfl ?_
            refine g_iadd C (n' := 73) dX3_leastPeriodAbove_72 rfl ?_
            refine g_istore C (n' := 75) [(4, .int (iI (((lo + hi) / 2) + 1))), (7, .int (iI ((lo + hi) / 2))), (6, .int (iI ((k : Nat) : Int))), (5, .int (iI hi)), (0, .ref (q 99)), (1, .ref (q2 99)), (2, .int (iI v)), (3, .int (iI t))] dX3_leastPeriodAbove_73 rfl (by decide) rfl ?_
            refine g_iinc C (n' := 78) 2 [(6, .int (iI (((k : Nat) : Int) + 1))), (4, .int (iI (((lo + hi) / 2) + 1))), (7, .int (iI ((lo + hi) / 2))), (5, .int (iI hi)), (0, .ref (q 99)), (1, .ref (q2 99)), (2, .int (iI v)), (3, .int (iI t))] rfl dX3_leastPeriodAbove_75 rfl (by decide) rfl ?_
            refine g_goto C 27 dX3_leastPeriodAbove_78 (by decide) ?_
            refine g_lv (lv' := [(6, .int (iI ((k + 1 : Nat) : Int))), (5, .int (iI hi)), (4, .int (iI (((lo + hi) / 2) + 1))), (0, .ref (q 99)), (1, .ref (q2 99)), (2, .int (iI v)), (3, .int (iI t))]) [0, 3, 1, 4, 5, 6, 7] rfl ?_
            exact ih (sU A1 1 S4) (p_lay J N ((lo + hi) / 2) v 0 t B1) (((lo + hi) / 2) + 1) hi (k + 1) (sm_putA hsA1 hS4) hf9 hr2 (by omega) (by omega) (by omega) (by omega) (by omega) hf (fun x hx0 hx1 hx2 => hGS4 (feas_up (by omega) (by omega) hx2)) K
          · skip
            exfalso
            omega
set_option maxRecDepth 100000 in
set_option maxHeartbeats 4000000 in
theorem c_X3_leastPeriodAbove (l : Launch) (D : va_G) (Y : Nat → ClassId) {E : (Nat → Prop) → State → Heap → Prop} (hE : g_Stab E) (q : Nat → Nat) (I : Nat → Int) (A : Nat → Nat → Int) (B : Nat → Nat → Int) (q2 : Nat → Nat) (J : Nat → Int) (N : Nat → Nat → Int) (v : Int) (t : Int) (hsI : smI I) (hsA : smA A) (hsB : okB B) (hsJ : smI J) (hsN : smA N) (hN : okN J N) (hv : 1 ≤ v ∧ v ≤ 8) (ht : 1 ≤ t ∧ t ≤ 9) : g_Ct l yX3_leastPeriodAbove cX3_leastPeriodAbove 8 (some FieldType.int) ({ frames := 4, cells := 0, slots := 0, locals := 100 } : Room) D (tysY Y) E [.ref (q 99), .ref (q2 99), .int (iI v), .int (iI t)] ((wPlan q Y I A B) ++ (wNet q2 Y J N)) 0 0 (fun r9 w9 => ∃ (A1 B1 : Nat → Nat → Int), w9 = (wPlan q Y (sU I 3 (J 0)) A1 B1 ++ wNet q2 Y J N) ∧ smA A1 ∧ okB B1 ∧ A1 2 = A 2 ∧ ∃ z : Int, r9 = some (.int (iI z)) ∧ lpIs J N v t (999 * v) z) := by
  refine g_ofG (own := RX3) hE (by decide) rfl (Nat.le_of_ble_eq_true rfl) [(0, .ref (q 99)), (1, .ref (q2 99)), (2, .int (iI v)), (3, .int (iI t))] rfl ?_
  intro p9 e9 s9 m9 b9 t9 c9 A9 C hr hlk hnm
  have hI := hsI
  have hA := hsA
  have hB := hsB
  unfold smI at hI
  unfold smA at hA
  unfold okB at hB
  have hJ := hsJ
  have hN9 := hN
  unfold smI at hJ
  unfold okN at hN9
  refine g_iconst C (n' := 1) dX3_leastPeriodAbove_0 rfl ?_
  refine g_istore C (n' := 3) [(4, .int (iI 0)), (0, .ref (q 99)), (1, .ref (q2 99)), (2, .int (iI v)), (3, .int (iI t))] dX3_leastPeriodAbove_1 rfl (by decide) rfl ?_
  refine g_sipush C (n' := 6) (by decide) dX3_leastPeriodAbove_3 rfl ?_
  refine g_iload_n C (n' := 7) 3 rfl dX3_leastPeriodAbove_6 rfl rfl ?_
  refine g_imul C (n' := 8) dX3_leastPeriodAbove_7 rfl ?_
  refine g_istore C (n' := 10) [(5, .int (iI (999 * v))), (4, .int (iI 0)), (0, .ref (q 99)), (1, .ref (q2 99)), (2, .int (iI v)), (3, .int (iI t))] dX3_leastPeriodAbove_8 rfl (by decide) rfl ?_
  refine g_aload_n C (n' := 11) 2 rfl dX3_leastPeriodAbove_10 rfl rfl ?_
  refine g_aload_n C (n' := 12) 3 rfl dX3_leastPeriodAbove_11 rfl rfl ?_
  refine g_iload C (n' := 14) 0 rfl dX3_leastPeriodAbove_12 rfl ?_
  refine g_iload_n C (n' := 15) 4 rfl dX3_leastPeriodAbove_14 rfl rfl ?_
  refine g_iload_n C (n' := 16) 5 rfl dX3_leastPeriodAbove_15 rfl rfl ?_
  refine g_callV C (n' := 19) (c_X3_settlesAtPeriod l D Y C.2.2.2.2.2.2.2.2.1 q I A B q2 J N (999 * v) v t hsI hsA hsB hsJ hsN hN hv (by omega) ht) 4 kw_493 kc_X3_settlesAtPeriod (by decide +kernel) (pm0 _) 0 (ci := 2) rfl rfl rfl rfl ⟨Nat.le_of_ble_eq_true rfl, Nat.le_of_ble_eq_true rfl⟩ ⟨rfl, rfl⟩ ⟨Nat.le_of_ble_eq_true rfl, Nat.le_of_ble_eq_true rfl⟩ (Nat.le_of_ble_eq_true rfl) dX3_leastPeriodAbove_16 rfl (fun r9 w9 hp1 => ?_)
  obtain ⟨S2, rfl, hS2, (⟨rfl, hGS2⟩ | ⟨rfl, hGS2⟩)⟩ := hp1
  · skip
    refine g_perm (w' := ((wPlan q Y (sU I 3 ((J 0))) (sU A 1 S2) (p_lay J N (999 * v) v 0 t B)) ++ (wNet q2 Y J N))) (pm0' _) ?_
    refine g_st (st' := [.int (iI 1)]) rfl ?_
    refine g_if_ne C (n' := 22) 24 dX3_leastPeriodAbove_19 (by decide) rfl (by unfold inR; omega) (fun c3 => ?_) (fun c3 => ?_)
    · skip
      refine g_iconst C (n' := 25) dX3_leastPeriodAbove_24 rfl ?_
      refine g_istore C (n' := 27) [(6, .int (iI 0)), (5, .int (iI (999 * v))), (4, .int (iI 0)), (0, .ref (q 99)), (1, .ref (q2 99)), (2, .int (iI v)), (3, .int (iI t))] dX3_leastPeriodAbove_25 rfl (by decide) rfl ?_
      refine g_lv (lv' := [(6, .int (iI ((0 : Nat) : Int))), (5, .int (iI (999 * v))), (4, .int (iI 0)), (0, .ref (q 99)), (1, .ref (q2 99)), (2, .int (iI v)), (3, .int (iI t))]) [0, 1, 2, 3, 4, 5, 6] rfl ?_
      refine lp_X3_lp C q I A q2 J N v t hsI hsJ hsN hN hv ht 32 _ _ 0 (999 * v) 0 (sm_putA hsA hS2) (p_lay_ok hN (layR_v hN hv (by omega)) (by omega) hsB) rfl (by omega) (by omega) (by omega) (by omega) (by omega) (by obtain ⟨g1, -, -⟩ := hGS2; exact ⟨_, g1⟩) (fun x h1 h2 => by omega) (fun A1 B1 lo hi k hsA1 hsB1 hr2 hz => ?_)
      refine g_iload C (n' := 83) 2 rfl dX3_leastPeriodAbove_81 rfl ?_
      exact g_iret C hr hlk rfl ⟨_, _, rfl, hsA1, hsB1, hr2, _, rfl, hz⟩ dX3_leastPeriodAbove_83
    · skip
      exfalso
      omega
  · skip
    refine g_perm (w' := ((wPlan q Y (sU I 3 ((J 0))) (sU A 1 S2) (p_lay J N (999 * v) v 0 t B)) ++ (wNet q2 Y J N))) (pm0' _) ?_
    refine g_st (st' := [.int (iI 0)]) rfl ?_
    refine g_if_ne C (n' := 22) 24 dX3_leastPeriodAbove_19 (by decide) rfl (by unfold inR; omega) (fun c4 => ?_) (fun c4 => ?_)
    · skip
      exfalso
      omega
    · skip
      refine g_iconst C (n' := 23) dX3_leastPeriodAbove_22 rfl ?_
      exact g_iret C hr hlk rfl ⟨_, _, rfl, sm_putA hsA hS2, p_lay_ok hN (layR_v hN hv (by omega)) (by omega) hsB, rfl, _, rfl, Or.inl ⟨rfl, hGS2⟩⟩ dX3_leastPeriodAbove_23
set_option maxRecDepth 100000 in
set_option maxHeartbeats 4000000 in
theorem c_X3_leastPeriod (l : Launch) (D : va_G) (Y : Nat → ClassId) {E : (Nat → Prop) → State → Heap → Prop} (hE : g_Stab E) (q : Nat → Nat) (I : Nat → Int) (A : Nat → Nat → Int) (B : Nat → Nat → Int) (q2 : Nat → Nat) (J : Nat → Int) (N : Nat → Nat → Int) (hsI : smI I) (hsA : smA A) (hsB : okB B) (hsJ : smI J) (hsN : smA N) (hN : okN J N) : g_Ct l yX3_leastPeriod cX3_leastPeriod 2 (some FieldType.int) ({ frames := 5, cells := 0, slots := 0, locals := 127 } : Room) D (tysY Y) E [.ref (q 99), .ref (q2 99)] ((wPlan q Y I A B) ++ (wNet q2 Y J N)) 0 0 (fun r9 w9 => ∃ (A1 B1 : Nat → Nat → Int), w9 = (wPlan q Y (sU I 3 (J 0)) A1 B1 ++ wNet q2 Y J N) ∧ smA A1 ∧ okB B1 ∧ A1 2 = A 2 ∧ ∃ z : Int, r9 = some (.int (iI z)) ∧ lpIs J N 1 (J 3) 999 z) := by
  refine g_ofG (own := RX3) hE (by decide) rfl (Nat.le_of_ble_eq_true rfl) [(0, .ref (q 99)), (1, .ref (q2 99))] rfl ?_
  intro p9 e9 s9 m9 b9 t9 c9 A9 C hr hlk hnm
  have hI := hsI
  have hA := hsA
  have hB := hsB
  unfold smI at hI
  unfold smA at hA
  unfold okB at hB
  have hJ := hsJ
  have hN9 := hN
  unfold smI at hJ
  unfold okN at hN9
  refine g_aload_n C (n' := 1) 0 rfl dX3_leastPeriod_0 rfl rfl ?_
  refine g_aload_n C (n' := 2) 1 rfl dX3_leastPeriod_1 rfl rfl ?_
  refine g_iconst C (n' := 3) dX3_leastPeriod_2 rfl ?_
  refine g_aload_n C (n' := 4) 1 rfl dX3_leastPeriod_3 rfl rfl ?_
  refine g_getN C (n' := 7) (Cn := RX2) (T := TX2) (N := 10) (ci := 1) (v := .int (iI (J 3))) ga_X2 12 rfl rfl 3 (by decide) (List.mem_of_getElem? (i := 7) rfl) rfl rfl dX3_leastPeriod_4 rfl ?_
  have h_4 := hJ 3
  refine g_callV C (n' := 10) (c_X3_leastPeriodAbove l D Y C.2.2.2.2.2.2.2.2.1 q I A B q2 J N 1 (J 3) hsI hsA hsB hsJ hsN hN (by omega) (by omega)) 3 kw_489 kc_X3_leastPeriodAbove (by decide +kernel) (pm0 _) 0 (ci := 2) rfl rfl rfl rfl ⟨Nat.le_of_ble_eq_true rfl, Nat.le_of_ble_eq_true rfl⟩ ⟨rfl, rfl⟩ ⟨Nat.le_of_ble_eq_true rfl, Nat.le_of_ble_eq_true rfl⟩ (Nat.le_of_ble_eq_true rfl) dX3_leastPeriod_7 rfl (fun r9 w9 hp1 => ?_)
  obtain ⟨A2, B3, rfl, hsA2, hsB3, heA2, z4, rfl, hz4⟩ := hp1
  have hA2 := hsA2
  have hB3 := hsB3
  unfold smA at hA2
  unfold okB at hB3
  refine g_perm (w' := ((wPlan q Y (sU I 3 ((J 0))) A2 B3) ++ (wNet q2 Y J N))) (pm0' _) ?_
  refine g_st (st' := [.int (iI z4)]) rfl ?_
  exact g_iret C hr hlk rfl ⟨_, _, rfl, hsA2, hsB3, heA2, _, rfl, hz4⟩ dX3_leastPeriod_10
