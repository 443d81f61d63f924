/-! Planner: margin, rate -/
def mgIs (J : Nat → Int) (N : Nat → Nat → Int) (z : Int) : Prop := -1200 ≤ z ∧ z ≤ 1200 ∧ feas J N (J 4) 1 z (J 3) ∧ ∀ x, z < x → x ≤ 1200 → ¬ feas J N (J 4) 1 x (J 3)
theorem mgIs_one {J : Nat → Int} {N : Nat → Nat → Int} {y z : Int} (h1 : mgIs J N y) (h2 : mgIs J N z) : y = z := by
  rcases Int.lt_trichotomy y z with q | q | q
  · exact absurd h2.2.2.1 (h1.2.2.2 z q h2.2.1)
  · exact q
  · exact absurd h1.2.2.1 (h2.2.2.2 y q h1.2.1)
theorem lpIs_one {J : Nat → Int} {N : Nat → Nat → Int} {v t M y z : Int} (hM : ¬ feas J N M v 0 t → ∀ x, x ≤ M → ¬ feas J N x v 0 t) (h1 : lpIs J N v t M y) (h2 : lpIs J N v t M z) : y = z := by
  rcases h1 with ⟨a1, a2⟩ | ⟨a1, a2, a3, a4⟩ <;> rcases h2 with ⟨b1, b2⟩ | ⟨b1, b2, b3, b4⟩
  · omega
  · exact absurd b3 (hM a2 z b2)
  · exact absurd a3 (hM b2 y a2)
  · rcases Int.lt_trichotomy y z with q | q | q
    · exact absurd a3 (b4 y a1 q)
    · exact q
    · exact absurd b3 (a4 z b1 q)
theorem lpIs_M {J : Nat → Int} {N : Nat → Nat → Int} {v t M : Int} (ht : 1 ≤ t) (h : ¬ feas J N M v 0 t) : ∀ x, x ≤ M → ¬ feas J N x v 0 t := fun x hx h2 => h (feas_up ht hx h2)
theorem feas_sc {J : Nat → Int} {N : Nat → Nat → Int} {u v : Int} (hv : 1 ≤ v) (h : feas J N u 1 0 1) : feas J N (u * v) v 0 1 := by
  obtain ⟨s, hs⟩ := h
  refine ⟨fun a => v * s a, fun a b c hc => ?_⟩
  obtain ⟨p, hp, q⟩ := hc
  rcases q with ⟨rfl, rfl, rfl⟩ | ⟨rfl, rfl, rfl⟩
  · have h1 := hs _ _ _ ⟨p, hp, Or.inl ⟨rfl, rfl, rfl⟩⟩
    rw [Int.ediv_one] at h1 ⊢
    have h2 := Int.mul_le_mul_of_nonneg_left h1 (show 0 ≤ v by omega)
    rw [Int.mul_add] at h2
    have e : v * p_late J N u 1 0 p = p_late J N (u * v) v 0 p := by
      unfold p_late
      rw [Int.mul_sub, Int.one_mul, Int.mul_comm u v]
    rw [e] at h2
    exact h2
  · have h1 := hs _ _ _ ⟨p, hp, Or.inr ⟨rfl, rfl, rfl⟩⟩
    rw [Int.ediv_one] at h1 ⊢
    have h2 := Int.mul_le_mul_of_nonneg_left h1 (show 0 ≤ v by omega)
    rw [Int.mul_add] at h2
    have e : v * p_soon J N 1 0 p = p_soon J N v 0 p := by
      unfold p_soon
      rw [Int.one_mul]
    rw [e] at h2
    exact h2
def rtP (J : Nat → Int) (N : Nat → Nat → Int) (a b k : Int) : Prop := (1 ≤ b ∧ b < k) ∧ (0 ≤ a ∧ a ≤ 999 * b) ∧ lpIs J N b 1 (999 * b) a ∧ ∀ v z : Int, 1 ≤ v → v < k → lpIs J N v 1 (999 * v) z → a * v ≤ z * b ∧ (v < b → a * v < z * b)
theorem rtP_1 {J : Nat → Int} {N : Nat → Nat → Int} {a : Int} (h : lpIs J N 1 1 (999 * 1) a) (ha : 0 ≤ a) : rtP J N a 1 2 := by
  refine ⟨by omega, by have := lpIs_r h (by omega); omega, h, fun v z h1 h2 h3 => ?_⟩
  have e : v = 1 := by omega
  subst e
  have := lpIs_one (lpIs_M (by omega)) h h3
  omega
theorem rtP_new {J : Nat → Int} {N : Nat → Nat → Int} {a b k z : Int} (h : rtP J N a b k) (hz : lpIs J N k 1 (999 * k) z) (h0 : 0 ≤ z) (hlt : z * b < a * k) : rtP J N z k (k + 1) := by
  obtain ⟨⟨b1, b2⟩, ⟨b3, b6⟩, b4, b5⟩ := h
  refine ⟨by omega, ⟨h0, (lpIs_r hz (by omega)).2⟩, hz, fun v y h1 h2 h3 => ?_⟩
  by_cases e : v = k
  · subst e
    have := lpIs_one (lpIs_M (by omega)) hz h3
    subst this
    exact ⟨Int.le_refl _, fun q => by omega⟩
  · have q1 := (b5 v y h1 (by omega) h3).1
    have q2 : z * b * v < a * k * v := Int.mul_lt_mul_of_pos_right hlt (by omega)
    have q3 : a * v * k ≤ y * b * k := Int.mul_le_mul_of_nonneg_right q1 (by omega)
    have e1 : z * b * v = z * v * b := Int.mul_right_comm z b v
    have e2 : a * k * v = a * v * k := Int.mul_right_comm a k v
    have e3 : y * b * k = y * k * b := Int.mul_right_comm y b k
    have q4 : z * v * b < y * k * b := by rw [← e1, ← e3]; rw [e2] at q2; omega
    have q5 : z * v < y * k := Int.lt_of_mul_lt_mul_right q4 (by omega)
    exact ⟨by omega, fun _ => q5⟩
theorem rtP_old {J : Nat → Int} {N : Nat → Nat → Int} {a b k z : Int} (h : rtP J N a b k) (hz : lpIs J N k 1 (999 * k) z) (hge : a * k ≤ z * b) : rtP J N a b (k + 1) := by
  obtain ⟨⟨b1, b2⟩, b3, b4, b5⟩ := h
  refine ⟨by omega, b3, b4, fun v y h1 h2 h3 => ?_⟩
  by_cases e : v = k
  · subst e
    have := lpIs_one (lpIs_M (by omega)) hz h3
    subst this
    exact ⟨hge, fun q => by omega⟩
  · exact b5 v y h1 (by omega) h3
theorem pr_r {x y : Int} (hx : 0 ≤ x ∧ x ≤ 7992) (hy : 1 ≤ y ∧ y ≤ 8) : 0 ≤ x * y ∧ x * y ≤ 63936 := by
  rcases (show y = 1 ∨ y = 2 ∨ y = 3 ∨ y = 4 ∨ y = 5 ∨ y = 6 ∨ y = 7 ∨ y = 8 by omega) with rfl | rfl | rfl | rfl | rfl | rfl | rfl | rfl <;> omega
set_option maxRecDepth 100000 in
set_option maxHeartbeats 4000000 in
theorem lp_X3_mg {p9 : Program} {l : Launch} {e9 : Env} {s9 : State} {m9 : MethodId} {a9 : Array Value} {b9 : List Frame} {t9 : Method} {c9 : Code} {D : va_G} {A9 : Nat → Prop} {Q9 : State → Prop} {E : (Nat → Prop) → State → Heap → Prop} {Y : Nat → ClassId} (C : g_Cx p9 s9 m9 a9 c9 cX3_greatestMargin 6 RX3 D (tysY Y) A9 E) (q q2 : Nat → Nat) (J : Nat → Int) (N : Nat → Nat → Int) (hsJ : smI J) (hsN : smA N) (hN : okN J N) : ∀ (n9 : Nat) (I1 : Nat → Int) (A1 B1 : Nat → Nat → Int) (lo hi : Int) (k : Nat), smI I1 → smA A1 → okB B1 → (k : Int) + n9 = 32 → -1200 ≤ lo → lo ≤ hi → hi ≤ 1200 → hi - lo < 2 ^ n9 → feas J N (J 4) 1 lo (J 3) → (∀ x, hi < x → x ≤ 1200 → ¬ feas J N (J 4) 1 x (J 3)) → (∀ (I1 : Nat → Int) (A1 B1 : Nat → Nat → Int) (lo hi : Int) (k : Nat), smI I1 → smA A1 → okB B1 → mgIs J N lo → g_G p9 l e9 ({ frames := 4, cells := 0, slots := 0, locals := 98 } : Room) s9 m9 a9 b9 t9 c9 6 D A9 Q9 0 0 ((wPlan q Y I1 A1 B1) ++ (wNet q2 Y J N)) [(4, .int (iI ((k : Nat) : Int))), (3, .int (iI hi)), (2, .int (iI lo)), (0, .ref (q 99)), (1, .ref (q2 99))] 61 []) → g_G p9 l e9 ({ frames := 4, cells := 0, slots := 0, locals := 98 } : Room) s9 m9 a9 b9 t9 c9 6 D A9 Q9 0 0 ((wPlan q Y I1 A1 B1) ++ (wNet q2 Y J N)) [(4, .int (iI ((k : Nat) : Int))), (3, .int (iI hi)), (2, .int (iI lo)), (0, .ref (q 99)), (1, .ref (q2 99))] 11 [] := by
  have hE := C.2.2.2.2.2.2.2.2.1
  intro n9
  induction n9 with
  | zero =>
    intro I1 A1 B1 lo hi k hsI1 hsA1 hsB1 hk h0 h1 h2 hp2 hf hhi K
    have hJ := hsJ
    have hN9 := hN
    unfold smI at hJ
    unfold okN at hN9
    have hI1 := hsI1
    unfold smI at hI1
    simp only [Int.pow_zero] at hp2
    refine g_iload C (n' := 13) 0 rfl dX3_greatestMargin_11 rfl ?_
    refine g_bipush C (n' := 15) (by decide) dX3_greatestMargin_13 rfl ?_
    refine g_icmp_ge C (n' := 18) 61 dX3_greatestMargin_15 (by decide) rfl (by unfold inR; omega) (by unfold inR; omega) (fun c1 => ?_) (fun c1 => ?_)
    · skip
      have e9 : lo = hi := by omega
      exact K I1 A1 B1 lo hi k hsI1 hsA1 hsB1 ⟨by omega, by omega, hf, by rw [e9]; exact hhi⟩
    · skip
      exfalso
      omega
  | succ n9 ih =>
    intro I1 A1 B1 lo hi k hsI1 hsA1 hsB1 hk h0 h1 h2 hp2 hf hhi K
    have hJ := hsJ
    have hN9 := hN
    unfold smI at hJ
    unfold okN at hN9
    have hI1 := hsI1
    unfold smI at hI1
    have e2 : (2 : Int) ^ (n9 + 1) = 2 * 2 ^ n9 := by rw [Int.pow_succ]; omega
    refine g_iload C (n' := 13) 0 rfl dX3_greatestMargin_11 rfl ?_
    refine g_bipush C (n' := 15) (by decide) dX3_greatestMargin_13 rfl ?_
    refine g_icmp_ge C (n' := 18) 61 dX3_greatestMargin_15 (by decide) rfl (by unfold inR; omega) (by unfold inR; omega) (fun c1 => ?_) (fun c1 => ?_)
    · skip
      have e9 : lo = hi := by omega
      exact K I1 A1 B1 lo hi k hsI1 hsA1 hsB1 ⟨by omega, by omega, hf, by rw [e9]; exact hhi⟩
    · skip
      refine g_iload_n C (n' := 19) 2 rfl dX3_greatestMargin_18 rfl rfl ?_
      refine g_iload_n C (n' := 20) 1 rfl dX3_greatestMargin_19 rfl rfl ?_
      refine g_icmp_ge C (n' := 23) 61 dX3_greatestMargin_20 (by decide) rfl (by unfold inR; omega) (by unfold inR; omega) (fun c2 => ?_) (fun c2 => ?_)
      · skip
        have e9 : lo = hi := by omega
        exact K I1 A1 B1 lo hi k hsI1 hsA1 hsB1 ⟨by omega, by omega, hf, by rw [e9]; exact hhi⟩
      · skip
        refine g_iload_n C (n' := 24) 2 rfl dX3_greatestMargin_23 rfl rfl ?_
        refine g_iload_n C (n' := 25) 1 rfl dX3_greatestMargin_24 rfl rfl ?_
        refine g_iadd C (n' := 26) dX3_greatestMargin_25 rfl ?_
        refine g_iconst C (n' := 27) dX3_greatestMargin_26 rfl ?_
        refine g_iadd C (n' := 28) dX3_greatestMargin_27 rfl ?_
        refine g_iconst C (n' := 29) dX3_greatestMargin_28 rfl ?_
        refine g_cSv C (n' := 32) (v := .int (iI (((lo + hi) + 1) / 2))) (c_J9_floorDiv_7cf53 l D Y C.2.2.2.2.2.2.2.2.1 ((lo + hi) + 1) 2 (by unfold inR at *; omega) (by omega) (by omega)) 2 kw_461 kc_J9_floorDiv_7cf53 (by decide +kernel) (pm_n _) rfl ⟨Nat.le_of_ble_eq_true rfl, Nat.le_of_ble_eq_true rfl⟩ ⟨rfl, rfl⟩ ⟨Nat.le_of_ble_eq_true rfl, Nat.le_of_ble_eq_true rfl⟩ (Nat.le_of_ble_eq_true rfl) dX3_greatestMargin_29 rfl rfl ((wPlan q Y I1 A1 B1) ++ (wNet q2 Y J N)) (pm_n _) ?_
        refine g_istore C (n' := 34) [(5, .int (iI (((lo + hi) + 1) / 2))), (4, .int (iI ((k : Nat) : Int))), (3, .int (iI hi)), (2, .int (iI lo)), (0, .ref (q 99)), (1, .ref (q2 99))] dX3_greatestMargin_32 rfl (by decide) rfl ?_
        refine g_aload_n C (n' := 35) 4 rfl dX3_greatestMargin_34 rfl rfl ?_
        refine g_aload_n C (n' := 36) 5 rfl dX3_greatestMargin_35 rfl rfl ?_
        refine g_iload C (n' := 38) 0 rfl dX3_greatestMargin_36 rfl ?_
        refine g_callV C (n' := 41) (c_X3_settlesWithMargin l D Y C.2.2.2.2.2.2.2.2.1 q I1 A1 B1 q2 J N (((lo + hi) + 1) / 2) hsI1 hsA1 hsB1 hsJ hsN hN (by omega)) 2 kw_447 kc_X3_settlesWithMargin (by decide +kernel) (pm0 _) 0 (ci := 2) rfl rfl rfl rfl ⟨Nat.le_of_ble_eq_true rfl, Nat.le_of_ble_eq_true rfl⟩ ⟨rfl, rfl⟩ ⟨Nat.le_of_ble_eq_true rfl, Nat.le_of_ble_eq_true rfl⟩ (Nat.le_of_ble_eq_true rfl) dX3_greatestMargin_38 rfl (fun r9 w9 hp3 => ?_)
        obtain ⟨S4, rfl, hS4, (⟨rfl, hGS4⟩ | ⟨rfl, hGS4⟩)⟩ := hp3
        · skip
          refine g_perm (w' := ((wPlan q Y (sU I1 3 ((J 0))) (sU A1 1 S4) (p_lay J N ((J 4)) 1 (((lo + hi) + 1) / 2) ((J 3)) B1)) ++ (wNet q2 Y J N))) (pm0' _) ?_
          refine g_st (st' := [.int (iI 1)]) rfl ?_
          have hf9 := p_lay_ok hN (layR_1 hN (u := J 4) (g := (lo + hi + 1) / 2) (by omega) (by omega)) (t := J 3) (by omega) hsB1
          refine g_if_eq C (n' := 44) 50 dX3_greatestMargin_41 (by decide) rfl (by unfold inR; omega) (fun c5 => ?_) (fun c5 => ?_)
          · skip
            exfalso
            omega
          · skip
            refine g_iload C (n' := 46) 0 rfl dX3_greatestMargin_44 rfl ?_
            refine g_istore_n C (n' := 47) [(2, .int (iI (((lo + hi) + 1) / 2))), (5, .int (iI (((lo + hi) + 1) / 2))), (4, .int (iI ((k : Nat) : Int))), (3, .int (iI hi)), (0, .ref (q 99)), (1, .ref (q2 99))] dX3_greatestMargin_46 rfl rfl (by decide) rfl ?_
            refine g_goto C 55 dX3_greatestMargin_47 (by decide) ?_
            refine g_iinc C (n' := 58) 2 [(4, .int (iI (((k : Nat) : Int) + 1))), (2, .int (iI (((lo + hi) + 1) / 2))), (5, .int (iI (((lo + hi) + 1) / 2))), (3, .int (iI hi)), (0, .ref (q 99)), (1, .ref (q2 99))] rfl dX3_greatestMargin_55 rfl (by decide) rfl ?_
            refine g_goto C 11 dX3_greatestMargin_58 (by decide) ?_
            refine g_lv (lv' := [(4, .int (iI ((k + 1 : Nat) : Int))), (3, .int (iI hi)), (2, .int (iI (((lo + hi) + 1) / 2))), (0, .ref (q 99)), (1, .ref (q2 99))]) [0, 3, 1, 4, 5] rfl ?_
            exact ih (sU I1 3 ((J 0))) (sU A1 1 S4) (p_lay J N ((J 4)) 1 (((lo + hi) + 1) / 2) ((J 3)) B1) (((lo + hi) + 1) / 2) hi (k + 1) (sm_put hsI1 (by omega)) (sm_putA hsA1 hS4) hf9 (by omega) (by omega) (by omega) (by omega) (by omega) (by obtain ⟨g1, -, -⟩ := hGS4; exact ⟨_, g1⟩) hhi K
        · skip
          refine g_perm (w' := ((wPlan q Y (sU I1 3 ((J 0))) (sU A1 1 S4) (p_lay J N ((J 4)) 1 (((lo + hi) + 1) / 2) ((J 3)) B1)) ++ (wNet q2 Y J N))) (pm0' _) ?_
          refine g_st (st' := [.int (iI 0)]) rfl ?_
          have hf9 := p_lay_ok hN (layR_1 hN (u := J 4) (g := (lo + hi + 1) / 2) (by omega) (by omega)) (t := J 3) (by omega) hsB1
          refine g_if_eq C (n' := 44) 50 dX3_greatestMargin_41 (by decide) rfl (by unfold inR; omega) (fun c6 => ?_) (fun c6 => ?_)
          · skip
            refine g_iload C (n' := 52) 0 rfl dX3_greatestMargin_50 rfl ?_
            refine g_iconst C (n' := 53) dX3_greatestMargin_52 rfl ?_
            refine g_isub C (n' := 54) dX3_greatestMargin_53 rfl ?_
            refine g_istore_n C (n' := 55) [(3, .int (iI ((((lo + hi) + 1) / 2) - 1))), (5, .int (iI (((lo + hi) + 1) / 2))), (4, .int (iI ((k : Nat) : Int))), (2, .int (iI lo)), (0, .ref (q 99)), (1, .ref (q2 99))] dX3_greatestMargin_54 rfl rfl (by decide) rfl ?_
            refine g_iinc C (n' := 58) 2 [(4, .int (iI (((k : Nat) : Int) + 1))), (3, .int (iI ((((lo + hi) + 1) / 2) - 1))), (5, .int (iI (((lo + hi) + 1) / 2))), (2, .int (iI lo)), (0, .ref (q 99)), (1, .ref (q2 99))] rfl dX3_greatestMargin_55 rfl (by decide) rfl ?_
            refine g_goto C 11 dX3_greatestMargin_58 (by decide) ?_
            refine g_lv (lv' := [(4, .int (iI ((k + 1 : Nat) : Int))), (3, .int (iI ((((lo + hi) + 1) / 2) - 1))), (2, .int (iI lo)), (0, .ref (q 99)), (1, .ref (q2 99))]) [0, 1, 3, 4, 5] rfl ?_
            exact ih (sU I1 3 ((J 0))) (sU A1 1 S4) (p_lay J N ((J 4)) 1 (((lo + hi) + 1) / 2) ((J 3)) B1) lo ((((lo + hi) + 1) / 2) - 1) (k + 1) (sm_put hsI1 (by omega)) (sm_putA hsA1 hS4) hf9 (by omega) (by omega) (by omega) (by omega) (by omega) hf (fun x hx0 hx1 hx2 => hGS4 (feas_dn (by omega) (by omega) hx2)) K
          · skip
            exfalso
            omega
set_option maxRecDepth 100000 in
set_option maxHeartbeats 4000000 in
theorem c_X3_greatestMargin (l : Launch) (D : va_G) (Y : Nat → ClassId) {E : (Nat → Prop) → State → Heap → Prop} (hE : g_Stab E) (q : Nat → Nat) (I : Nat → Int) (A : Nat → Nat → Int) (B : Nat → Nat → Int) (q2 : Nat → Nat) (J : Nat → Int) (N : Nat → Nat → Int) (hsI : smI I) (hsA : smA A) (hsB : okB B) (hsJ : smI J) (hsN : smA N) (hN : okN J N) : g_Ct l yX3_greatestMargin cX3_greatestMargin 6 (some FieldType.int) ({ frames := 4, cells := 0, slots := 0, locals := 98 } : Room) D (tysY Y) E [.ref (q 99), .ref (q2 99)] ((wPlan q Y I A B) ++ (wNet q2 Y J N)) 0 0 (fun r9 w9 => ∃ (I1 : Nat → Int) (A1 B1 : Nat → Nat → Int), w9 = (wPlan q Y I1 A1 B1 ++ wNet q2 Y J N) ∧ smI I1 ∧ smA A1 ∧ okB B1 ∧ ∃ z : Int, r9 = some (.int (iI z)) ∧ mgIs J N z) := by
  refine g_ofG (own := RX3) hE (by decide) rfl (Nat.le_of_ble_eq_true rfl) [(0, .ref (q 99)), (1, .ref (q2 99))] rfl ?_
  intro p9 e9 s9 m9 b9 t9 c9 A9 C hr hlk hnm
  have hI := hsI
  have hA := hsA
  have hB := hsB
  unfold smI at hI
  unfold smA at hA
  unfold okB at hB
  have hJ := hsJ
  have hN9 := hN
  unfold smI at hJ
  unfold okN at hN9
  refine g_sipush C (n' := 3) (by decide) dX3_greatestMargin_0 rfl ?_
  refine g_istore_n C (n' := 4) [(2, .int (iI (-1200))), (0, .ref (q 99)), (1, .ref (q2 99))] dX3_greatestMargin_3 rfl rfl (by decide) rfl ?_
  refine g_sipush C (n' := 7) (by decide) dX3_greatestMargin_4 rfl ?_
  refine g_istore_n C (n' := 8) [(3, .int (iI 1200)), (2, .int (iI (-1200))), (0, .ref (q 99)), (1, .ref (q2 99))] dX3_greatestMargin_7 rfl rfl (by decide) rfl ?_
  refine g_iconst C (n' := 9) dX3_greatestMargin_8 rfl ?_
  refine g_istore C (n' := 11) [(4, .int (iI 0)), (3, .int (iI 1200)), (2, .int (iI (-1200))), (0, .ref (q 99)), (1, .ref (q2 99))] dX3_greatestMargin_9 rfl (by decide) rfl ?_
  refine g_lv (lv' := [(4, .int (iI ((0 : Nat) : Int))), (3, .int (iI 1200)), (2, .int (iI (-1200))), (0, .ref (q 99)), (1, .ref (q2 99))]) [0, 1, 2, 3, 4] rfl ?_
  refine lp_X3_mg C q q2 J N hsJ hsN hN 32 I A B (-1200) 1200 0 hsI hsA hsB (by omega) (by omega) (by omega) (by omega) (by omega) (feas_lo hN) (fun x h1 h2 => by omega) (fun I1 A1 B1 lo hi k hsI1 hsA1 hsB1 hz => ?_)
  refine g_iload_n C (n' := 62) 2 rfl dX3_greatestMargin_61 rfl rfl ?_
  exact g_iret C hr hlk rfl ⟨_, _, _, rfl, hsI1, hsA1, hsB1, _, rfl, hz⟩ dX3_greatestMargin_62
set_option maxRecDepth 100000 in
set_option maxHeartbeats 4000000 in
theorem lp_X3_fr {p9 : Program} {l : Launch} {e9 : Env} {s9 : State} {m9 : MethodId} {a9 : Array Value} {b9 : List Frame} {t9 : Method} {c9 : Code} {D : va_G} {A9 : Nat → Prop} {Q9 : State → Prop} {E : (Nat → Prop) → State → Heap → Prop} {Y : Nat → ClassId} (C : g_Cx p9 s9 m9 a9 c9 cX3_findRate 4 RX3 D (tysY Y) A9 E) (q : Nat → Nat) (I : Nat → Int) (A : Nat → Nat → Int) (q2 : Nat → Nat) (J : Nat → Int) (N : Nat → Nat → Int) (hsI : smI I) (hsJ : smI J) (hsN : smA N) (hN : okN J N) (hfe : feas J N 999 1 0 1) : ∀ (n9 : Nat) (A1 B1 : Nat → Nat → Int) (a b k : Int), smA A1 → okB B1 → k + n9 = J 0 + 1 → 2 ≤ k → rtP J N a b k → (∀ (A1 B1 : Nat → Nat → Int) (a b k : Int), smA A1 → okB B1 → rtP J N a b (J 0 + 1) → g_G p9 l e9 ({ frames := 5, cells := 0, slots := 0, locals := 127 } : Room) s9 m9 a9 b9 t9 c9 4 D A9 Q9 0 0 ((wPlan q Y (sU (sU (sU I 5 a) 6 b) 3 (J 0)) A1 B1) ++ (wNet q2 Y J N)) [(2, .int (iI k)), (0, .ref (q 99)), (1, .ref (q2 99))] 75 []) → g_G p9 l e9 ({ frames := 5, cells := 0, slots := 0, locals := 127 } : Room) s9 m9 a9 b9 t9 c9 4 D A9 Q9 0 0 ((wPlan q Y (sU (sU (sU I 5 a) 6 b) 3 (J 0)) A1 B1) ++ (wNet q2 Y J N)) [(2, .int (iI k)), (0, .ref (q 99)), (1, .ref (q2 99))] 28 [] := by
  have hE := C.2.2.2.2.2.2.2.2.1
  intro n9
  induction n9 with
  | zero =>
    intro A1 B1 a b k hsA1 hsB1 hk h2 hrt K
    have hI := hsI
    have hJ := hsJ
    have hN9 := hN
    unfold smI at hI hJ
    unfold okN at hN9
    have hr1 := hrt.1
    have hr2 := hrt.2.1
    refine g_iload_n C (n' := 29) 0 rfl dX3_findRate_28 rfl rfl ?_
    refine g_aload_n C (n' := 30) 2 rfl dX3_findRate_29 rfl rfl ?_
    refine g_getN C (n' := 33) (Cn := RX2) (T := TX2) (N := 10) (ci := 1) (v := .int (iI (J 0))) ga_X2 12 rfl rfl 0 (by decide) (List.mem_of_getElem? (i := 2) rfl) rfl rfl dX3_findRate_30 rfl ?_
    have h_30 := hJ 0
    refine g_icmp_gt C (n' := 36) 75 dX3_findRate_33 (by decide) rfl (by unfold inR; omega) (by unfold inR; omega) (fun c1 => ?_) (fun c1 => ?_)
    · skip
      have e9 : k = J 0 + 1 := by omega
      exact K A1 B1 a b k hsA1 hsB1 (by rw [← e9]; exact hrt)
    · skip
      exfalso
      omega
  | succ n9 ih =>
    intro A1 B1 a b k hsA1 hsB1 hk h2 hrt K
    have hI := hsI
    have hJ := hsJ
    have hN9 := hN
    unfold smI at hI hJ
    unfold okN at hN9
    have hr1 := hrt.1
    have hr2 := hrt.2.1
    refine g_iload_n C (n' := 29) 0 rfl dX3_findRate_28 rfl rfl ?_
    refine g_aload_n C (n' := 30) 2 rfl dX3_findRate_29 rfl rfl ?_
    refine g_getN C (n' := 33) (Cn := RX2) (T := TX2) (N := 10) (ci := 1) (v := .int (iI (J 0))) ga_X2 12 rfl rfl 0 (by decide) (List.mem_of_getElem? (i := 2) rfl) rfl rfl dX3_findRate_30 rfl ?_
    have h_30 := hJ 0
    refine g_icmp_gt C (n' := 36) 75 dX3_findRate_33 (by decide) rfl (by unfold inR; omega) (by unfold inR; omega) (fun c1 => ?_) (fun c1 => ?_)
    · skip
      exfalso
      omega
    · skip
      refine g_aload_n C (n' := 37) 1 rfl dX3_findRate_36 rfl rfl ?_
      refine g_aload_n C (n' := 38) 2 rfl dX3_findRate_37 rfl rfl ?_
      refine g_iload_n C (n' := 39) 0 rfl dX3_findRate_38 rfl rfl ?_
      refine g_iconst C (n' := 40) dX3_findRate_39 rfl ?_
      refine g_callV C (n' := 43) (c_X3_leastPeriodAbove l D Y C.2.2.2.2.2.2.2.2.1 q (sU (sU (sU I 5 a) 6 b) 3 (J 0)) A1 B1 q2 J N k 1 (sm_put (sm_put (sm_put hsI (by omega)) (by omega)) (by omega)) hsA1 hsB1 hsJ hsN hN (by omega) (by omega)) 3 kw_489 kc_X3_leastPeriodAbove (by decide +kernel) (pm0 _) 0 (ci := 2) rfl rfl rfl rfl ⟨Nat.le_of_ble_eq_true rfl, Nat.le_of_ble_eq_true rfl⟩ ⟨rfl, rfl⟩ ⟨Nat.le_of_ble_eq_true rfl, Nat.le_of_ble_eq_true rfl⟩ (Nat.le_of_ble_eq_true rfl) dX3_findRate_40 rfl (fun r9 w9 hp2 => ?_)
      obtain ⟨A3, B4, rfl, hsA3, hsB4, heA3, z5, rfl, hz5⟩ := hp2
      have hA3 := hsA3
      have hB4 := hsB4
      unfold smA at hA3
      unfold okB at hB4
      refine g_perm (w' := ((wPlan q Y (sU (sU (sU I 5 a) 6 b) 3 ((J 0))) A3 B4) ++ (wNet q2 Y J N))) (pm0' _) ?_
      refine g_st (st' := [.int (iI z5)]) rfl ?_
      have hzn : 0 ≤ z5 := by
        rcases hz5 with ⟨q1, q2⟩ | ⟨q1, q2⟩
        · exact absurd (feas_sc (by omega) hfe) q2
        · exact q1
      have hzr := lpIs_r hz5 (by omega)
      have hp1 := pr_r (x := z5) (y := b) (by omega) (by omega)
      have hp2 := pr_r (x := a) (y := k) (by omega) (by omega)
      refine g_istore_n C (n' := 44) [(3, .int (iI z5)), (2, .int (iI k)), (0, .ref (q 99)), (1, .ref (q2 99))] dX3_findRate_43 rfl rfl (by decide) rfl ?_
      refine g_iload_n C (n' := 45) 0 rfl dX3_findRate_44 rfl rfl ?_
      refine g_aload_n C (n' := 46) 2 rfl dX3_findRate_45 rfl rfl ?_
      refine g_get C (n' := 49) (Cn := RX3) (T := TX3) (N := 7) (ci := 2) (v := .int (iI b)) ga_X3 0 rfl rfl 6 (by decide) kw_145 rfl rfl dX3_findRate_46 rfl ?_
      refine g_imul C (n' := 50) dX3_findRate_49 rfl ?_
      refine g_aload_n C (n' := 51) 2 rfl dX3_findRate_50 rfl rfl ?_
      refine g_get C (n' := 54) (Cn := RX3) (T := TX3) (N := 7) (ci := 2) (v := .int (iI a)) ga_X3 0 rfl rfl 5 (by decide) kw_144 rfl rfl dX3_findRate_51 rfl ?_
      refine g_iload_n C (n' := 55) 1 rfl dX3_findRate_54 rfl rfl ?_
      refine g_imul C (n' := 56) dX3_findRate_55 rfl ?_
      refine g_icmp_ge C (n' := 59) 69 dX3_findRate_56 (by decide) rfl (by unfold inR; omega) (by unfold inR; omega) (fun c6 => ?_) (fun c6 => ?_)
      · skip
        refine g_iinc C (n' := 72) 1 [(2, .int (iI (k + 1))), (3, .int (iI z5)), (0, .ref (q 99)), (1, .ref (q2 99))] rfl dX3_findRate_69 rfl (by decide) rfl ?_
        refine g_goto C 28 dX3_findRate_72 (by decide) ?_
        refine g_lv (lv' := [(2, .int (iI (k + 1))), (0, .ref (q 99)), (1, .ref (q2 99))]) [0, 2, 3] rfl ?_
        exact ih A3 B4 a b (k + 1) hsA3 hsB4 (by omega) (by omega) (rtP_old hrt hz5 c6) K
      · skip
        refine g_aload_n C (n' := 60) 2 rfl dX3_findRate_59 rfl rfl ?_
        refine g_iload_n C (n' := 61) 0 rfl dX3_findRate_60 rfl rfl ?_
        refine g_put C (n' := 64) (Cn := RX3) (T := TX3) (N := 7) (ci := 2) (v := .int (iI z5)) ga_X3 0 rfl rfl 5 (by decide) kw_144 rfl tyX3 tyX3_ok nmX3 rfl rfl rfl rfl (Nat.le_of_ble_eq_true rfl) ((wPlan q Y (sU (sU (sU I 6 b) 3 ((J 0))) 5 z5) A3 B4) ++ (wNet q2 Y J N)) rfl dX3_findRate_61 rfl ?_
        refine g_aload_n C (n' := 65) 2 rfl dX3_findRate_64 rfl rfl ?_
        refine g_iload_n C (n' := 66) 1 rfl dX3_findRate_65 rfl rfl ?_
        refine g_put C (n' := 69) (Cn := RX3) (T := TX3) (N := 7) (ci := 2) (v := .int (iI k)) ga_X3 0 rfl rfl 6 (by decide) kw_145 rfl tyX3 tyX3_ok nmX3 rfl rfl rfl rfl (Nat.le_of_ble_eq_true rfl) ((wPlan q Y (sU (sU (sU I 3 ((J 0))) 5 z5) 6 k) A3 B4) ++ (wNet q2 Y J N)) rfl dX3_findRate_66 rfl ?_
        refine g_iinc C (n' := 72) 1 [(2, .int (iI (k + 1))), (3, .int (iI z5)), (0, .ref (q 99)), (1, .ref (q2 99))] rfl dX3_findRate_69 rfl (by decide) rfl ?_
        refine g_goto C 28 dX3_findRate_72 (by decide) ?_
        refine g_lv (lv' := [(2, .int (iI (k + 1))), (0, .ref (q 99)), (1, .ref (q2 99))]) [0, 2, 3] rfl ?_
        refine g_wd (w' := ((wPlan q Y (sU (sU (sU I 5 z5) 6 k) 3 (J 0)) A3 B4) ++ (wNet q2 Y J N))) rfl ?_
        exact ih A3 B4 z5 k (k + 1) hsA3 hsB4 (by omega) (by omega) (rtP_new hrt hz5 (by omega) (by omega)) K
set_option maxRecDepth 100000 in
set_option maxHeartbeats 4000000 in
theorem c_X3_findRate (l : Launch) (D : va_G) (Y : Nat → ClassId) {E : (Nat → Prop) → State → Heap → Prop} (hE : g_Stab E) (q : Nat → Nat) (I : Nat → Int) (A : Nat → Nat → Int) (B : Nat → Nat → Int) (q2 : Nat → Nat) (J : Nat → Int) (N : Nat → Nat → Int) (hsI : smI I) (hsA : smA A) (hsB : okB B) (hsJ : smI J) (hsN : smA N) (hN : okN J N) : g_Ct l yX3_findRate cX3_findRate 4 (some FieldType.boolean) ({ frames := 5, cells := 0, slots := 0, locals := 127 } : Room) D (tysY Y) E [.ref (q 99), .ref (q2 99)] ((wPlan q Y I A B) ++ (wNet q2 Y J N)) 0 0 (fun r9 w9 => ∃ (I1 : Nat → Int) (A1 B1 : Nat → Nat → Int), w9 = (wPlan q Y I1 A1 B1 ++ wNet q2 Y J N) ∧ smI I1 ∧ smA A1 ∧ okB B1 ∧ ((r9 = some (.int (iI 1)) ∧ rtP J N (I1 5) (I1 6) (J 0 + 1)) ∨ (r9 = some (.int (iI 0)) ∧ ¬ feas J N 999 1 0 1))) := by
  refine g_ofG (own := RX3) hE (by decide) rfl (Nat.le_of_ble_eq_true rfl) [(0, .ref (q 99)), (1, .ref (q2 99))] rfl ?_
  intro p9 e9 s9 m9 b9 t9 c9 A9 C hr hlk hnm
  have hI := hsI
  have hA := hsA
  have hB := hsB
  unfold smI at hI
  unfold smA at hA
  unfold okB at hB
  have hJ := hsJ
  have hN9 := hN
  unfold smI at hJ
  unfold okN at hN9
  refine g_aload_n C (n' := 1) 0 rfl dX3_findRate_0 rfl rfl ?_
  refine g_aload_n C (n' := 2) 0 rfl dX3_findRate_1 rfl rfl ?_
  refine g_aload_n C (n' := 3) 1 rfl dX3_findRate_2 rfl rfl ?_
  refine g_iconst C (n' := 4) dX3_findRate_3 rfl ?_
  refine g_iconst C (n' := 5) dX3_findRate_4 rfl ?_
  refine g_callV C (n' := 8) (c_X3_leastPeriodAbove l D Y C.2.2.2.2.2.2.2.2.1 q I A B q2 J N 1 1 hsI hsA hsB hsJ hsN hN (by omega) (by omega)) 3 kw_489 kc_X3_leastPeriodAbove (by decide +kernel) (pm0 _) 0 (ci := 2) rfl rfl rfl rfl ⟨Nat.le_of_ble_eq_true rfl, Nat.le_of_ble_eq_true rfl⟩ ⟨rfl, rfl⟩ ⟨Nat.le_of_ble_eq_true rfl, Nat.le_of_ble_eq_true rfl⟩ (Nat.le_of_ble_eq_true rfl) dX3_findRate_5 rfl (fun r9 w9 hp1 => ?_)
  obtain ⟨A2, B3, rfl, hsA2, hsB3, heA2, z4, rfl, hz4⟩ := hp1
  have hA2 := hsA2
  have hB3 := hsB3
  unfold smA at hA2
  unfold okB at hB3
  refine g_perm (w' := ((wPlan q Y (sU I 3 ((J 0))) A2 B3) ++ (wNet q2 Y J N))) (pm0' _) ?_
  refine g_st (st' := [.int (iI z4), .ref (q 99)]) rfl ?_
  have hzr := lpIs_r hz4 (by omega)
  refine g_put C (n' := 11) (Cn := RX3) (T := TX3) (N := 7) (ci := 2) (v := .int (iI z4)) ga_X3 0 rfl rfl 5 (by decide) kw_144 rfl tyX3 tyX3_ok nmX3 rfl rfl rfl rfl (Nat.le_of_ble_eq_true rfl) ((wPlan q Y (sU (sU I 3 ((J 0))) 5 z4) A2 B3) ++ (wNet q2 Y J N)) rfl dX3_findRate_8 rfl ?_
  refine g_aload_n C (n' := 12) 0 rfl dX3_findRate_11 rfl rfl ?_
  refine g_iconst C (n' := 13) dX3_findRate_12 rfl ?_
  refine g_put C (n' := 16) (Cn := RX3) (T := TX3) (N := 7) (ci := 2) (v := .int (iI 1)) ga_X3 0 rfl rfl 6 (by decide) kw_145 rfl tyX3 tyX3_ok nmX3 rfl rfl rfl rfl (Nat.le_of_ble_eq_true rfl) ((wPlan q Y (sU (sU (sU I 3 ((J 0))) 5 z4) 6 1) A2 B3) ++ (wNet q2 Y J N)) rfl dX3_findRate_13 rfl ?_
  refine g_aload_n C (n' := 17) 0 rfl dX3_findRate_16 rfl rfl ?_
  refine g_get C (n' := 20) (Cn := RX3) (T := TX3) (N := 7) (ci := 2) (v := .int (iI z4)) ga_X3 0 rfl rfl 5 (by decide) kw_144 rfl rfl dX3_findRate_17 rfl ?_
  refine g_iconst C (n' := 21) dX3_findRate_20 rfl ?_
  refine g_icmp_ne C (n' := 24) 26 dX3_findRate_21 (by decide) rfl (by unfold inR; omega) (by unfold inR; omega) (fun c5 => ?_) (fun c5 => ?_)
  · skip
    refine g_iconst C (n' := 27) dX3_findRate_26 rfl ?_
    refine g_istore_n C (n' := 28) [(2, .int (iI 2)), (0, .ref (q 99)), (1, .ref (q2 99))] dX3_findRate_27 rfl rfl (by decide) rfl ?_
    refine g_wd (w' := ((wPlan q Y (sU (sU (sU I 5 z4) 6 1) 3 (J 0)) A2 B3) ++ (wNet q2 Y J N))) rfl ?_
    refine g_lv (lv' := [(2, .int (iI 2)), (0, .ref (q 99)), (1, .ref (q2 99))]) [0, 1, 2] rfl ?_
    have hz1 : 0 ≤ z4 ∧ feas J N 999 1 0 1 := by
      rcases hz4 with ⟨q1, q2⟩ | ⟨q1, q2, q3, q4⟩
      · exfalso
        omega
      · exact ⟨q1, feas_up (by omega) (by omega) q3⟩
    refine lp_X3_fr C q I A q2 J N hsI hsJ hsN hN hz1.2 (J 0 - 1).toNat A2 B3 z4 1 2 hsA2 hsB3 (by omega) (by omega) (rtP_1 hz4 hz1.1) (fun A1 B1 a b k hsA1 hsB1 hrt => ?_)
    have hr1 := hrt.1
    have hr2 := hrt.2.1
    refine g_iconst C (n' := 76) dX3_findRate_75 rfl ?_
    exact g_iret C hr hlk (nar_z (by omega)) ⟨_, _, _, rfl, sm_put (sm_put (sm_put hsI (by omega)) (by omega)) (by omega), hsA1, hsB1, Or.inl ⟨rfl, hrt⟩⟩ dX3_findRate_76
  · skip
    refine g_iconst C (n' := 25) dX3_findRate_24 rfl ?_
    refine g_iret C hr hlk (nar_z (by omega)) ⟨_, _, _, rfl, sm_put (sm_put (sm_put hsI (by omega)) (by omega)) (by omega), hsA2, hsB3, Or.inr ⟨rfl, ?_⟩⟩ dX3_findRate_25
    rcases hz4 with ⟨q1, q2⟩ | ⟨q1, q2⟩
    · exact q2
    · exfalso
      omega
