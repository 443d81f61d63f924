/-! Planner: whether a net settles, in the net's own bounds -/
def nEd (J : Nat → Int) (N : Nat → Nat → Int) (u v g t : Int) (a b : Nat) (c : Int) : Prop := ∃ p : Nat, (p : Int) < J 5 ∧ ((a = (N 6 p).toNat ∧ b = (N 7 p).toNat ∧ c = p_late J N u v g p / t) ∨ (a = (N 7 p).toNat ∧ b = (N 6 p).toNat ∧ c = p_soon J N v g p / t))
def feas (J : Nat → Int) (N : Nat → Nat → Int) (u v g t : Int) : Prop := ∃ s, bsol (nEd J N u v g t) s
theorem p_tight_sol {n : Nat} {B : Nat → Nat → Int} (hB : okB B) {a b : Nat} (ha : a < n) (hb : b < n) {x : Int} (hx : x ≤ 10000) (s : Nat → Int) : bsol (pEd n (p_tight B a b x)) s ↔ bsol (pEd n B) s ∧ s a ≤ s b + x := by
  have hab := hB a b
  have e0 : p_tight B a b x a b = (if B a b ≤ x then B a b else x) := by
    unfold p_tight
    rw [sU_s, sU_s]
  have e1 : ∀ i j, ¬ (i = a ∧ j = b) → p_tight B a b x i j = B i j := fun i j h => by
    unfold p_tight
    by_cases q : i = a
    · subst q
      rw [sU_s, sU_n _ _ (fun z => h ⟨rfl, z⟩)]
    · rw [sU_n _ _ q]
  constructor
  · intro h
    have h0 := h a b (p_tight B a b x a b) ⟨ha, hb, by rw [e0]; split <;> omega, rfl⟩
    rw [e0] at h0
    refine ⟨fun i j c hc => ?_, ?_⟩
    · obtain ⟨c1, c2, c3, rfl⟩ := hc
      by_cases q : i = a ∧ j = b
      · obtain ⟨rfl, rfl⟩ := q
        split at h0 <;> omega
      · have := h i j (p_tight B a b x i j) ⟨c1, c2, by rw [e1 i j q]; exact c3, rfl⟩
        rw [e1 i j q] at this
        exact this
    · split at h0 <;> omega
  · intro h i j c hc
    obtain ⟨c1, c2, c3, rfl⟩ := hc
    by_cases q : i = a ∧ j = b
    · obtain ⟨rfl, rfl⟩ := q
      rw [e0] at c3 ⊢
      by_cases z : B i j ≤ x
      · rw [if_pos z] at c3 ⊢
        exact h.1 i j (B i j) ⟨ha, hb, c3, rfl⟩
      · rw [if_neg z]
        exact h.2
    · rw [e1 i j q] at c3 ⊢
      exact h.1 i j (B i j) ⟨c1, c2, c3, rfl⟩
theorem p_lb_sol {J : Nat → Int} {N : Nat → Nat → Int} (hN : okN J N) {u v g t : Int} (hl : layR J N u v g) (ht : 1 ≤ t) {B0 : Nat → Nat → Int} (h : okB B0) (s : Nat → Int) : ∀ k : Nat, (k : Int) ≤ J 5 → (bsol (pEd (J 0).toNat (p_lb J N u v g t B0 k)) s ↔ bsol (pEd (J 0).toNat B0) s ∧ ∀ p : Nat, p < k → s (N 6 p).toNat ≤ s (N 7 p).toNat + p_late J N u v g p / t ∧ s (N 7 p).toNat ≤ s (N 6 p).toNat + p_soon J N v g p / t)
  | 0, _ => ⟨fun q => ⟨q, fun p hp => absurd hp (Nat.not_lt_zero p)⟩, fun q => q.1⟩
  | k + 1, hk => by
    have hp := hN.2.2.2.2.2.2 k (by omega)
    have e1 := ed_r (hl k (by omega)).1 ht
    have e2 := ed_r (hl k (by omega)).2 ht
    have o1 := p_lb_ok hl ht h k (by omega)
    have o2 := p_tight_ok (a := (N 6 k).toNat) (b := (N 7 k).toNat) o1 e1
    rw [p_lb, p_tight_sol o2 (by omega) (by omega) e2.2, p_tight_sol o1 (by omega) (by omega) e1.2, p_lb_sol hN hl ht h s k (by omega)]
    constructor
    · rintro ⟨⟨⟨a1, a2⟩, a3⟩, a4⟩
      refine ⟨a1, fun p hp9 => ?_⟩
      by_cases q : p = k
      · subst q
        exact ⟨a3, a4⟩
      · exact a2 p (by omega)
    · rintro ⟨a1, a2⟩
      exact ⟨⟨⟨a1, fun p hp9 => a2 p (by omega)⟩, (a2 k (by omega)).1⟩, (a2 k (by omega)).2⟩
theorem p_lay_sol {J : Nat → Int} {N : Nat → Nat → Int} (hN : okN J N) {u v g t : Int} (hl : layR J N u v g) (ht : 1 ≤ t) {B : Nat → Nat → Int} (h : okB B) (s : Nat → Int) : bsol (pEd (J 0).toNat (p_lay J N u v g t B)) s ↔ bsol (nEd J N u v g t) s := by
  have hP := hN.2.2.2.2.2.1
  unfold p_lay
  rw [p_lb_sol hN hl ht (p_ini_ok h _ _ _) s _ (by omega)]
  constructor
  · rintro ⟨-, a2⟩ a b c ⟨p, hp, q⟩
    rcases q with ⟨rfl, rfl, rfl⟩ | ⟨rfl, rfl, rfl⟩
    · exact (a2 p (by omega)).1
    · exact (a2 p (by omega)).2
  · intro q
    refine ⟨fun a b c hc => ?_, fun p hp => ⟨q _ _ _ ⟨p, by omega, Or.inl ⟨rfl, rfl, rfl⟩⟩, q _ _ _ ⟨p, by omega, Or.inr ⟨rfl, rfl, rfl⟩⟩⟩⟩
    obtain ⟨c1, c2, c3, rfl⟩ := hc
    exfalso
    apply c3
    unfold p_ini
    rw [if_pos (Or.inl ⟨c1, c2⟩)]
theorem bG_congr {n : Nat} {E1 E2 : Nat → Nat → Int → Prop} (h : ∀ s, bsol E1 s ↔ bsol E2 s) {g : Nat → Int} (hg : bG n E1 g) : bG n E2 g := ⟨(h g).mp hg.1, hg.2.1, fun s s1 => hg.2.2 s ((h s).mpr s1)⟩
theorem layR_1 {J : Nat → Int} {N : Nat → Nat → Int} (hN : okN J N) {u g : Int} (hu : 0 ≤ u ∧ u ≤ 999) (hg : -1200 ≤ g ∧ g ≤ 1200) : layR J N u 1 g := fun p hp => by
  unfold okN at hN
  have h1 := hN.2.2.2.2.2.2 p hp
  unfold p_late p_soon
  omega
theorem layR_v {J : Nat → Int} {N : Nat → Nat → Int} (hN : okN J N) {u v : Int} (hv : 1 ≤ v ∧ v ≤ 8) (hu : 0 ≤ u ∧ u ≤ 999 * v) : layR J N u v 0 := fun p hp => by
  unfold okN at hN
  have h1 := hN.2.2.2.2.2.2 p hp
  unfold p_late p_soon
  rcases (show v = 1 ∨ v = 2 ∨ v = 3 ∨ v = 4 ∨ v = 5 ∨ v = 6 ∨ v = 7 ∨ v = 8 by omega) with rfl | rfl | rfl | rfl | rfl | rfl | rfl | rfl <;> omega
set_option maxRecDepth 100000 in
set_option maxHeartbeats 4000000 in
theorem c_X3_settlesWithMargin (l : Launch) (D : va_G) (Y : Nat → ClassId) {E : (Nat → Prop) → State → Heap → Prop} (hE : g_Stab E) (q : Nat → Nat) (I : Nat → Int) (A : Nat → Nat → Int) (B : Nat → Nat → Int) (q2 : Nat → Nat) (J : Nat → Int) (N : Nat → Nat → Int) (g : Int) (hsI : smI I) (hsA : smA A) (hsB : okB B) (hsJ : smI J) (hsN : smA N) (hN : okN J N) (hg : -1200 ≤ g ∧ g ≤ 1200) : g_Ct l yX3_settlesWithMargin cX3_settlesWithMargin 3 (some FieldType.boolean) ({ frames := 3, cells := 0, slots := 0, locals := 76 } : Room) D (tysY Y) E [.ref (q 99), .ref (q2 99), .int (iI g)] ((wPlan q Y I A B) ++ (wNet q2 Y J N)) 0 0 (fun r9 w9 => ∃ S : Nat → Int, w9 = (wPlan q Y (sU I 3 (J 0)) (sU A 1 S) (p_lay J N (J 4) 1 g (J 3) B) ++ wNet q2 Y J N) ∧ smR S ∧ ((r9 = some (.int (iI 1)) ∧ bG (J 0).toNat (nEd J N (J 4) 1 g (J 3)) S) ∨ (r9 = some (.int (iI 0)) ∧ ¬ feas J N (J 4) 1 g (J 3)))) := by
  refine g_ofG (own := RX3) hE (by decide) rfl (Nat.le_of_ble_eq_true rfl) [(0, .ref (q 99)), (1, .ref (q2 99)), (2, .int (iI g))] rfl ?_
  intro p9 e9 s9 m9 b9 t9 c9 A9 C hr hlk hnm
  have hI := hsI
  have hA := hsA
  have hB := hsB
  unfold smI at hI
  unfold smA at hA
  unfold okB at hB
  have hJ := hsJ
  have hN9 := hN
  unfold smI at hJ
  unfold okN at hN9
  have hlay : layR J N (J 4) 1 g := layR_1 hN (by omega) hg
  refine g_aload_n C (n' := 1) 0 rfl dX3_settlesWithMargin_0 rfl rfl ?_
  refine g_aload_n C (n' := 2) 1 rfl dX3_settlesWithMargin_1 rfl rfl ?_
  refine g_aload_n C (n' := 3) 1 rfl dX3_settlesWithMargin_2 rfl rfl ?_
  refine g_getN C (n' := 6) (Cn := RX2) (T := TX2) (N := 10) (ci := 1) (v := .int (iI (J 4))) ga_X2 12 rfl rfl 4 (by decide) (List.mem_of_getElem? (i := 11) rfl) rfl rfl dX3_settlesWithMargin_3 rfl ?_
  have h_3 := hJ 4
  refine g_iconst C (n' := 7) dX3_settlesWithMargin_6 rfl ?_
  refine g_iload_n C (n' := 8) 2 rfl dX3_settlesWithMargin_7 rfl rfl ?_
  refine g_aload_n C (n' := 9) 1 rfl dX3_settlesWithMargin_8 rfl rfl ?_
  refine g_getN C (n' := 12) (Cn := RX2) (T := TX2) (N := 10) (ci := 1) (v := .int (iI (J 3))) ga_X2 12 rfl rfl 3 (by decide) (List.mem_of_getElem? (i := 7) rfl) rfl rfl dX3_settlesWithMargin_9 rfl ?_
  have h_9 := hJ 3
  refine g_cVn C (n' := 15) (c_X3_layBounds l D Y C.2.2.2.2.2.2.2.2.1 q I A B q2 J N (J 4) 1 g (J 3) hsI hsA hsB hsJ hsN hN hlay (by omega)) 5 kw_451 kc_X3_layBounds (by decide +kernel) (pm0 _) 0 (ci := 2) rfl rfl rfl rfl ⟨Nat.le_of_ble_eq_true rfl, Nat.le_of_ble_eq_true rfl⟩ ⟨rfl, rfl⟩ ⟨Nat.le_of_ble_eq_true rfl, Nat.le_of_ble_eq_true rfl⟩ (Nat.le_of_ble_eq_true rfl) dX3_settlesWithMargin_12 rfl rfl ((wPlan q Y (sU I 3 ((J 0))) A (p_lay J N (J 4) 1 g (J 3) B)) ++ (wNet q2 Y J N)) (pm0' _) ?_
  have hf1 : okB (p_lay J N (J 4) 1 g (J 3) B) := p_lay_ok hN hlay (by omega) hsB
  refine g_aload_n C (n' := 16) 0 rfl dX3_settlesWithMargin_15 rfl rfl ?_
  refine g_callV C (n' := 19) (c_X3_settle l D Y C.2.2.2.2.2.2.2.2.1 q (sU I 3 ((J 0))) A (p_lay J N (J 4) 1 g (J 3) B) (sm_put hsI (by omega)) hsA hf1 (by show 2 ≤ J 0 ∧ J 0 ≤ 8; omega)) 0 kw_465 kc_X3_settle (by decide +kernel) (List.Perm.refl _) 0 (ci := 2) rfl rfl rfl rfl ⟨Nat.le_of_ble_eq_true rfl, Nat.le_of_ble_eq_true rfl⟩ ⟨rfl, rfl⟩ ⟨Nat.le_of_ble_eq_true rfl, Nat.le_of_ble_eq_true rfl⟩ (Nat.le_of_ble_eq_true rfl) dX3_settlesWithMargin_16 rfl (fun r9 w9 hp2 => ?_)
  obtain ⟨S3, rfl, hS3, (⟨rfl, hGS3⟩ | ⟨rfl, hGS3⟩)⟩ := hp2
  · skip
    refine g_perm (w' := ((wPlan q Y (sU I 3 ((J 0))) (sU A 1 S3) (p_lay J N (J 4) 1 g (J 3) B)) ++ (wNet q2 Y J N))) (List.Perm.refl _).symm ?_
    refine g_st (st' := [.int (iI 1)]) rfl ?_
    refine g_iret C hr hlk (nar_z (by omega)) ⟨S3, rfl, hS3, Or.inl ⟨rfl, bG_congr (fun z => p_lay_sol hN (u := (J 4)) (v := 1) (g := g) (t := (J 3)) hlay (by omega) hsB z) hGS3⟩⟩ dX3_settlesWithMargin_19
  · skip
    refine g_perm (w' := ((wPlan q Y (sU I 3 ((J 0))) (sU A 1 S3) (p_lay J N (J 4) 1 g (J 3) B)) ++ (wNet q2 Y J N))) (List.Perm.refl _).symm ?_
    refine g_st (st' := [.int (iI 0)]) rfl ?_
    refine g_iret C hr hlk (nar_z (by omega)) ⟨S3, rfl, hS3, Or.inr ⟨rfl, fun hz => hGS3 (by obtain ⟨z, hz⟩ := hz; exact ⟨z, (p_lay_sol hN (u := (J 4)) (v := 1) (g := g) (t := (J 3)) hlay (by omega) hsB z).mpr hz⟩)⟩⟩ dX3_settlesWithMargin_19
set_option maxRecDepth 100000 in
set_option maxHeartbeats 4000000 in
theorem c_X3_settlesAtPeriod (l : Launch) (D : va_G) (Y : Nat → ClassId) {E : (Nat → Prop) → State → Heap → Prop} (hE : g_Stab E) (q : Nat → Nat) (I : Nat → Int) (A : Nat → Nat → Int) (B : Nat → Nat → Int) (q2 : Nat → Nat) (J : Nat → Int) (N : Nat → Nat → Int) (u : Int) (v : Int) (t : Int) (hsI : smI I) (hsA : smA A) (hsB : okB B) (hsJ : smI J) (hsN : smA N) (hN : okN J N) (hv : 1 ≤ v ∧ v ≤ 8) (hu : 0 ≤ u ∧ u ≤ 999 * v) (ht : 1 ≤ t ∧ t ≤ 9) : g_Ct l yX3_settlesAtPeriod cX3_settlesAtPeriod 5 (some FieldType.boolean) ({ frames := 3, cells := 0, slots := 0, locals := 76 } : Room) D (tysY Y) E [.ref (q 99), .ref (q2 99), .int (iI u), .int (iI v), .int (iI t)] ((wPlan q Y I A B) ++ (wNet q2 Y J N)) 0 0 (fun r9 w9 => ∃ S : Nat → Int, w9 = (wPlan q Y (sU I 3 (J 0)) (sU A 1 S) (p_lay J N u v 0 t B) ++ wNet q2 Y J N) ∧ smR S ∧ ((r9 = some (.int (iI 1)) ∧ bG (J 0).toNat (nEd J N u v 0 t) S) ∨ (r9 = some (.int (iI 0)) ∧ ¬ feas J N u v 0 t))) := by
  refine g_ofG (own := RX3) hE (by decide) rfl (Nat.le_of_ble_eq_true rfl) [(0, .ref (q 99)), (1, .ref (q2 99)), (2, .int (iI u)), (3, .int (iI v)), (4, .int (iI t))] rfl ?_
  intro p9 e9 s9 m9 b9 t9 c9 A9 C hr hlk hnm
  have hI := hsI
  have hA := hsA
  have hB := hsB
  unfold smI at hI
  unfold smA at hA
  unfold okB at hB
  have hJ := hsJ
  have hN9 := hN
  unfold smI at hJ
  unfold okN at hN9
  have hlay : layR J N u v 0 := layR_v hN hv hu
  refine g_aload_n C (n' := 1) 0 rfl dX3_settlesAtPeriod_0 rfl rfl ?_
  refine g_aload_n C (n' := 2) 1 rfl dX3_settlesAtPeriod_1 rfl rfl ?_
  refine g_iload_n C (n' := 3) 2 rfl dX3_settlesAtPeriod_2 rfl rfl ?_
  refine g_iload_n C (n' := 4) 3 rfl dX3_settlesAtPeriod_3 rfl rfl ?_
  refine g_iconst C (n' := 5) dX3_settlesAtPeriod_4 rfl ?_
  refine g_iload C (n' := 7) 4 rfl dX3_settlesAtPeriod_5 rfl ?_
  refine g_cVn C (n' := 10) (c_X3_layBounds l D Y C.2.2.2.2.2.2.2.2.1 q I A B q2 J N u v 0 t hsI hsA hsB hsJ hsN hN hlay ht) 5 kw_451 kc_X3_layBounds (by decide +kernel) (pm0 _) 0 (ci := 2) rfl rfl rfl rfl ⟨Nat.le_of_ble_eq_true rfl, Nat.le_of_ble_eq_true rfl⟩ ⟨rfl, rfl⟩ ⟨Nat.le_of_ble_eq_true rfl, Nat.le_of_ble_eq_true rfl⟩ (Nat.le_of_ble_eq_true rfl) dX3_settlesAtPeriod_7 rfl rfl ((wPlan q Y (sU I 3 ((J 0))) A (p_lay J N u v 0 t B)) ++ (wNet q2 Y J N)) (pm0' _) ?_
  have hf1 : okB (p_lay J N u v 0 t B) := p_lay_ok hN hlay (by omega) hsB
  refine g_aload_n C (n' := 11) 0 rfl dX3_settlesAtPeriod_10 rfl rfl ?_
  refine g_callV C (n' := 14) (c_X3_settle l D Y C.2.2.2.2.2.2.2.2.1 q (sU I 3 ((J 0))) A (p_lay J N u v 0 t B) (sm_put hsI (by omega)) hsA hf1 (by show 2 ≤ J 0 ∧ J 0 ≤ 8; omega)) 0 kw_465 kc_X3_settle (by decide +kernel) (List.Perm.refl _) 0 (ci := 2) rfl rfl rfl rfl ⟨Nat.le_of_ble_eq_true rfl, Nat.le_of_ble_eq_true rfl⟩ ⟨rfl, rfl⟩ ⟨Nat.le_of_ble_eq_true rfl, Nat.le_of_ble_eq_true rfl⟩ (Nat.le_of_ble_eq_true rfl) dX3_settlesAtPeriod_11 rfl (fun r9 w9 hp2 => ?_)
  obtain ⟨S3, rfl, hS3, (⟨rfl, hGS3⟩ | ⟨rfl, hGS3⟩)⟩ := hp2
  · skip
    refine g_perm (w' := ((wPlan q Y (sU I 3 ((J 0))) (sU A 1 S3) (p_lay J N u v 0 t B)) ++ (wNet q2 Y J N))) (List.Perm.refl _).symm ?_
    refine g_st (st' := [.int (iI 1)]) rfl ?_
    refine g_iret C hr hlk (nar_z (by omega)) ⟨S3, rfl, hS3, Or.inl ⟨rfl, bG_congr (fun z => p_lay_sol hN (u := u) (v := v) (g := 0) (t := t) hlay (by omega) hsB z) hGS3⟩⟩ dX3_settlesAtPeriod_14
  · skip
    refine g_perm (w' := ((wPlan q Y (sU I 3 ((J 0))) (sU A 1 S3) (p_lay J N u v 0 t B)) ++ (wNet q2 Y J N))) (List.Perm.refl _).symm ?_
    refine g_st (st' := [.int (iI 0)]) rfl ?_
    refine g_iret C hr hlk (nar_z (by omega)) ⟨S3, rfl, hS3, Or.inr ⟨rfl, fun hz => hGS3 (by obtain ⟨z, hz⟩ := hz; exact ⟨z, (p_lay_sol hN (u := u) (v := v) (g := 0) (t := t) hlay (by omega) hsB z).mpr hz⟩)⟩⟩ dX3_settlesAtPeriod_14
set_option maxRecDepth 100000 in
set_option maxHeartbeats 4000000 in
theorem c_X3_settlesNow (l : Launch) (D : va_G) (Y : Nat → ClassId) {E : (Nat → Prop) → State → Heap → Prop} (hE : g_Stab E) (q : Nat → Nat) (I : Nat → Int) (A : Nat → Nat → Int) (B : Nat → Nat → Int) (q2 : Nat → Nat) (J : Nat → Int) (N : Nat → Nat → Int) (hsI : smI I) (hsA : smA A) (hsB : okB B) (hsJ : smI J) (hsN : smA N) (hN : okN J N) : g_Ct l yX3_settlesNow cX3_settlesNow 2 (some FieldType.boolean) ({ frames := 4, cells := 0, slots := 0, locals := 98 } : Room) D (tysY Y) E [.ref (q 99), .ref (q2 99)] ((wPlan q Y I A B) ++ (wNet q2 Y J N)) 0 0 (fun r9 w9 => ∃ S : Nat → Int, w9 = (wPlan q Y (sU I 3 (J 0)) (sU A 1 S) (p_lay J N (J 4) 1 0 (J 3) B) ++ wNet q2 Y J N) ∧ smR S ∧ ((r9 = some (.int (iI 1)) ∧ bG (J 0).toNat (nEd J N (J 4) 1 0 (J 3)) S) ∨ (r9 = some (.int (iI 0)) ∧ ¬ feas J N (J 4) 1 0 (J 3)))) := by
  refine g_ofG (own := RX3) hE (by decide) rfl (Nat.le_of_ble_eq_true rfl) [(0, .ref (q 99)), (1, .ref (q2 99))] rfl ?_
  intro p9 e9 s9 m9 b9 t9 c9 A9 C hr hlk hnm
  have hI := hsI
  have hA := hsA
  have hB := hsB
  unfold smI at hI
  unfold smA at hA
  unfold okB at hB
  have hJ := hsJ
  have hN9 := hN
  unfold smI at hJ
  unfold okN at hN9
  refine g_aload_n C (n' := 1) 0 rfl dX3_settlesNow_0 rfl rfl ?_
  refine g_aload_n C (n' := 2) 1 rfl dX3_settlesNow_1 rfl rfl ?_
  refine g_iconst C (n' := 3) dX3_settlesNow_2 rfl ?_
  refine g_callV C (n' := 6) (c_X3_settlesWithMargin l D Y C.2.2.2.2.2.2.2.2.1 q I A B q2 J N 0 hsI hsA hsB hsJ hsN hN (by omega)) 2 kw_447 kc_X3_settlesWithMargin (by decide +kernel) (pm0 _) 0 (ci := 2) rfl rfl rfl rfl ⟨Nat.le_of_ble_eq_true rfl, Nat.le_of_ble_eq_true rfl⟩ ⟨rfl, rfl⟩ ⟨Nat.le_of_ble_eq_true rfl, Nat.le_of_ble_eq_true rfl⟩ (Nat.le_of_ble_eq_true rfl) dX3_settlesNow_3 rfl (fun r9 w9 hp1 => ?_)
  obtain ⟨S2, rfl, hS2, (⟨rfl, hGS2⟩ | ⟨rfl, hGS2⟩)⟩ := hp1
  · skip
    refine g_perm (w' := ((wPlan q Y (sU I 3 ((J 0))) (sU A 1 S2) (p_lay J N ((J 4)) 1 0 ((J 3)) B)) ++ (wNet q2 Y J N))) (pm0' _) ?_
    refine g_st (st' := [.int (iI 1)]) rfl ?_
    exact g_iret C hr hlk (nar_z (by omega)) ⟨S2, rfl, hS2, Or.inl ⟨rfl, hGS2⟩⟩ dX3_settlesNow_6
  · skip
    refine g_perm (w' := ((wPlan q Y (sU I 3 ((J 0))) (sU A 1 S2) (p_lay J N ((J 4)) 1 0 ((J 3)) B)) ++ (wNet q2 Y J N))) (pm0' _) ?_
    refine g_st (st' := [.int (iI 0)]) rfl ?_
    exact g_iret C hr hlk (nar_z (by omega)) ⟨S2, rfl, hS2, Or.inr ⟨rfl, hGS2⟩⟩ dX3_settlesNow_6
