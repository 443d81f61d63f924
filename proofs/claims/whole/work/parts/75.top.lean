/-! SkewPlan: what is foretold -/
/-- two nets that agree -/
def netQ (J : Nat → Int) (N : Nat → Nat → Int) (J2 : Nat → Int) (N2 : Nat → Nat → Int) : Prop := (J 0 = J2 0 ∧ J 1 = J2 1 ∧ J 2 = J2 2 ∧ J 3 = J2 3 ∧ J 4 = J2 4 ∧ J 5 = J2 5) ∧ ∀ p : Nat, (p : Int) < J 5 → N 6 p = N2 6 p ∧ N 7 p = N2 7 p ∧ N 8 p = N2 8 p ∧ N 9 p = N2 9 p
theorem netQ_symm {J J2 : Nat → Int} {N N2 : Nat → Nat → Int} (h : netQ J N J2 N2) : netQ J2 N2 J N := by
  obtain ⟨⟨e0, e1, e2, e3, e4, e5⟩, e6⟩ := h
  refine ⟨⟨e0.symm, e1.symm, e2.symm, e3.symm, e4.symm, e5.symm⟩, fun p hp => ?_⟩
  obtain ⟨a, b, c, d⟩ := e6 p (by rw [e5]; exact hp)
  exact ⟨a.symm, b.symm, c.symm, d.symm⟩
theorem nEd_q1 {J J2 : Nat → Int} {N N2 : Nat → Nat → Int} (h : netQ J N J2 N2) {u v g t : Int} {a b : Nat} {c : Int} (k : nEd J N u v g t a b c) : nEd J2 N2 u v g t a b c := by
  obtain ⟨⟨e0, e1, e2, e3, e4, e5⟩, e6⟩ := h
  obtain ⟨p, hp, k⟩ := k
  obtain ⟨k6, k7, k8, k9⟩ := e6 p hp
  refine ⟨p, by rw [← e5]; exact hp, ?_⟩
  unfold p_late p_soon at *
  rw [← k6, ← k7, ← k8, ← k9, ← e1, ← e2]
  exact k
theorem nEd_q {J J2 : Nat → Int} {N N2 : Nat → Nat → Int} (h : netQ J N J2 N2) (u v g t : Int) : nEd J N u v g t = nEd J2 N2 u v g t := by
  funext a b c
  exact propext ⟨nEd_q1 h, nEd_q1 (netQ_symm h)⟩
theorem feas_q {J J2 : Nat → Int} {N N2 : Nat → Nat → Int} (h : netQ J N J2 N2) (u v g t : Int) : feas J N u v g t = feas J2 N2 u v g t := by
  unfold feas
  rw [nEd_q h]
theorem lpIs_q {J J2 : Nat → Int} {N N2 : Nat → Nat → Int} (h : netQ J N J2 N2) (v t m z : Int) : lpIs J N v t m z = lpIs J2 N2 v t m z := by
  unfold lpIs
  simp only [feas_q h]
theorem okN_q {J J2 : Nat → Int} {N N2 : Nat → Nat → Int} (h : netQ J N J2 N2) (k : okN J N) : okN J2 N2 := by
  obtain ⟨⟨e0, e1, e2, e3, e4, e5⟩, e6⟩ := h
  unfold okN at *
  rw [← e0, ← e1, ← e2, ← e3, ← e4, ← e5]
  refine ⟨k.1, k.2.1, k.2.2.1, k.2.2.2.1, k.2.2.2.2.1, k.2.2.2.2.2.1, fun p hp => ?_⟩
  obtain ⟨k6, k7, k8, k9⟩ := e6 p hp
  rw [← k6, ← k7, ← k8, ← k9]
  exact k.2.2.2.2.2.2 p hp
def raP (J : Nat → Int) (N : Nat → Nat → Int) (w z : Int) : Prop := (¬ (0 ≤ w ∧ w ≤ 1) ∧ z = -3) ∨ ((0 ≤ w ∧ w ≤ 1) ∧ ((¬ feas J N 999 1 0 1 ∧ z = -1) ∨ ∃ a b : Int, rtP J N a b (J 0 + 1) ∧ z = if w = 0 then a else b))
def cyP (J : Nat → Int) (N B : Nat → Nat → Int) (k z : Int) : Prop := (k < 0 ∧ z = -3) ∨ (0 ≤ k ∧ ((feas J N (J 4) 1 0 (J 3) ∧ z = -1) ∨ (¬ feas J N (J 4) 1 0 (J 3) ∧ z = rg_get (rg_top (rg_b (p_lay J N (J 4) 1 0 (J 3) B)) (J 0) (J 0).toNat 0) k)))
theorem slow_q {Js J : Nat → Int} {Ns N : Nat → Nat → Int} {k : Nat} {n : Int} (h5 : J 5 ≤ 16) : netQ (n_cpI Js J) (n_slow (n_cpA Ns N) ((k : Nat) : Int) n) J (bN N k n) := by
  refine ⟨⟨rfl, rfl, rfl, rfl, rfl, rfl⟩, fun p hp => ?_⟩
  have hp2 : (p : Int) < J 5 := hp
  have hp3 : p < 16 := by omega
  obtain ⟨e6, e7, e8, e9⟩ := cp_at (A := Ns) (B := N) hp3
  refine ⟨?_, ?_, ?_, ?_⟩
  · show n_cpA Ns N 6 p = bN N k n 6 p
    rw [e6]
    unfold bN
    rw [if_neg (by omega)]
  · show n_cpA Ns N 7 p = bN N k n 7 p
    rw [e7]
    unfold bN
    rw [if_neg (by omega)]
  · show sU (n_cpA Ns N 8) ((k : Nat) : Int).toNat (n_cpA Ns N 8 ((k : Nat) : Int).toNat + n) p = bN N k n 8 p
    rw [Int.toNat_natCast]
    unfold bN sU
    by_cases e : p = k
    · rw [if_pos e, if_pos ⟨Or.inl rfl, e⟩, ← e, e8]
    · rw [if_neg e, if_neg (fun z => e z.2), e8]
  · show sU (n_cpA Ns N 9) ((k : Nat) : Int).toNat (n_cpA Ns N 9 ((k : Nat) : Int).toNat + n) p = bN N k n 9 p
    rw [Int.toNat_natCast]
    unfold bN sU
    by_cases e : p = k
    · rw [if_pos e, if_pos ⟨Or.inr rfl, e⟩, ← e, e9]
    · rw [if_neg e, if_neg (fun z => e z.2), e9]
theorem sm_slow {A : Nat → Nat → Int} (h : smA A) {p n : Int} (h8 : -1000000 ≤ A 8 p.toNat + n ∧ A 8 p.toNat + n ≤ 1000000) (h9 : -1000000 ≤ A 9 p.toNat + n ∧ A 9 p.toNat + n ≤ 1000000) : smA (n_slow A p n) := sm_putA (sm_putA h (sm_putR (h 8) h8)) (sm_putR (h 9) h9)
set_option maxRecDepth 100000 in
set_option maxHeartbeats 4000000 in
theorem c_X7_feasible (l : Launch) (D : va_G) (Y : Nat → ClassId) {E : (Nat → Prop) → State → Heap → Prop} (hE : g_Stab E) (q : Nat → Nat) (qt qd qn qs : Nat → Nat) (qk : Nat → Nat → Nat) (qh qp : Nat → Nat) (qr : Nat → Nat → Nat) (K : Nat → Int) (J : Nat → Int) (N : Nat → Nat → Int) (Ip : Nat → Int) (Ap : Nat → Nat → Int) (Bp : Nat → Nat → Int) (hsJ : smI J) (hsN : smA N) (hO : okN J N) (hsIp : smI Ip) (hsAp : smA Ap) (hsBp : okB Bp) : g_Ct l yX7_feasible cX7_feasible 1 (some FieldType.int) ({ frames := 5, cells := 0, slots := 0, locals := 119 } : Room) D (tysY Y) E [.ref (q 99)] ((wTop q Y qt qd qn qs qk qh qp qr K) ++ ((wNet qn Y J N) ++ (wPlan qp Y Ip Ap Bp))) 0 0 (fun r9 w9 => ∃ (I1 : Nat → Int) (A1 B1 : Nat → Nat → Int), w9 = ((wTop q Y qt qd qn qs qk qh qp qr K) ++ ((wNet qn Y J N) ++ (wPlan qp Y I1 A1 B1))) ∧ smI I1 ∧ smA A1 ∧ okB B1 ∧ ∃ z : Int, r9 = some (.int (iI z)) ∧ feIs J N z) := by
  refine g_ofG (own := RX7) hE (by decide) rfl (Nat.le_of_ble_eq_true rfl) [(0, .ref (q 99))] rfl ?_
  intro p9 e9 s9 m9 b9 t9 c9 A9 C hr hlk hnm
  have hJ := hsJ
  unfold smI at hJ
  have hN := hsN
  unfold smA at hN
  have hO9 := hO
  unfold okN at hO9
  have hIp := hsIp
  unfold smI at hIp
  have hAp := hsAp
  unfold smA at hAp
  have hlB : okB (p_lay J N (J 4) 1 0 (J 3) Bp) := p_lay_ok hO (layR_1 hO (by omega) (by omega)) (by omega) hsBp
  refine g_aload_n C (n' := 1) 0 rfl dX7_feasible_0 rfl rfl ?_
  refine g_get C (n' := 4) (Cn := RX7) (T := TX7) (N := 9) (ci := 5) (v := .ref (qp 99)) ga_X7 0 rfl rfl 7 (by decide) kw_192 rfl rfl dX7_feasible_1 rfl ?_
  refine g_aload_n C (n' := 5) 0 rfl dX7_feasible_4 rfl rfl ?_
  refine g_get C (n' := 8) (Cn := RX7) (T := TX7) (N := 9) (ci := 5) (v := .ref (qn 99)) ga_X7 0 rfl rfl 2 (by decide) kw_187 rfl rfl dX7_feasible_5 rfl ?_
  refine g_callV C (n' := 11) (c_X3_settlesNow l D Y C.2.2.2.2.2.2.2.2.1 qp Ip Ap Bp qn J N hsIp hsAp hsBp hsJ hsN hO) 1 kw_443 kc_X3_settlesNow (by decide +kernel) (((pm_s (List.Perm.refl _)).trans (pm_s List.perm_append_comm)).trans (List.Perm.of_eq (show (((wPlan qp Y Ip Ap Bp) ++ ((wNet qn Y J N) ++ (wTop q Y qt qd qn qs qk qh qp qr K))) : va_W) = ((wPlan qp Y Ip Ap Bp) ++ (wNet qn Y J N)) ++ (wTop q Y qt qd qn qs qk qh qp qr K) by simp only [List.append_assoc, List.append_nil]))) 0 (ci := 2) rfl rfl rfl rfl ⟨Nat.le_of_ble_eq_true rfl, Nat.le_of_ble_eq_true rfl⟩ ⟨rfl, rfl⟩ ⟨Nat.le_of_ble_eq_true rfl, Nat.le_of_ble_eq_true rfl⟩ (Nat.le_of_ble_eq_true rfl) dX7_feasible_8 rfl (fun r9 w9 hp1 => ?_)
  obtain ⟨S2, rfl, hS2, (⟨rfl, hGS2⟩ | ⟨rfl, hGS2⟩)⟩ := hp1
  · skip
    refine g_perm (w' := ((wTop q Y qt qd qn qs qk qh qp qr K) ++ ((wNet qn Y J N) ++ (wPlan qp Y (sU Ip 3 ((J 0))) (sU Ap 1 S2) (p_lay J N ((J 4)) 1 0 ((J 3)) Bp))))) (((pm_s (List.Perm.refl _)).trans (pm_s List.perm_append_comm)).trans (List.Perm.of_eq (show (((wPlan qp Y (sU Ip 3 ((J 0))) (sU Ap 1 S2) (p_lay J N ((J 4)) 1 0 ((J 3)) Bp)) ++ ((wNet qn Y J N) ++ (wTop q Y qt qd qn qs qk qh qp qr K))) : va_W) = ((wPlan qp Y (sU Ip 3 ((J 0))) (sU Ap 1 S2) (p_lay J N ((J 4)) 1 0 ((J 3)) Bp)) ++ (wNet qn Y J N)) ++ (wTop q Y qt qd qn qs qk qh qp qr K) by simp only [List.append_assoc, List.append_nil]))).symm ?_
    refine g_st (st' := [.int (iI 1)]) rfl ?_
    refine g_if_eq C (n' := 14) 18 dX7_feasible_11 (by decide) rfl (by unfold inR; omega) (fun c3 => ?_) (fun c3 => ?_)
    · skip
      exfalso
      omega
    · skip
      refine g_iconst C (n' := 15) dX7_feasible_14 rfl ?_
      refine g_goto C 19 dX7_feasible_15 (by decide) ?_
      exact g_iret C hr hlk rfl ⟨_, _, _, rfl, sm_put hsIp (by omega), sm_putA hsAp hS2, hlB, _, rfl, Or.inl ⟨rfl, feas_of hGS2⟩⟩ dX7_feasible_19
  · skip
    refine g_perm (w' := ((wTop q Y qt qd qn qs qk qh qp qr K) ++ ((wNet qn Y J N) ++ (wPlan qp Y (sU Ip 3 ((J 0))) (sU Ap 1 S2) (p_lay J N ((J 4)) 1 0 ((J 3)) Bp))))) (((pm_s (List.Perm.refl _)).trans (pm_s List.perm_append_comm)).trans (List.Perm.of_eq (show (((wPlan qp Y (sU Ip 3 ((J 0))) (sU Ap 1 S2) (p_lay J N ((J 4)) 1 0 ((J 3)) Bp)) ++ ((wNet qn Y J N) ++ (wTop q Y qt qd qn qs qk qh qp qr K))) : va_W) = ((wPlan qp Y (sU Ip 3 ((J 0))) (sU Ap 1 S2) (p_lay J N ((J 4)) 1 0 ((J 3)) Bp)) ++ (wNet qn Y J N)) ++ (wTop q Y qt qd qn qs qk qh qp qr K) by simp only [List.append_assoc, List.append_nil]))).symm ?_
    refine g_st (st' := [.int (iI 0)]) rfl ?_
    refine g_if_eq C (n' := 14) 18 dX7_feasible_11 (by decide) rfl (by unfold inR; omega) (fun c4 => ?_) (fun c4 => ?_)
    · skip
      refine g_iconst C (n' := 19) dX7_feasible_18 rfl ?_
      exact g_iret C hr hlk rfl ⟨_, _, _, rfl, sm_put hsIp (by omega), sm_putA hsAp hS2, hlB, _, rfl, Or.inr ⟨rfl, hGS2⟩⟩ dX7_feasible_19
    · skip
      exfalso
      omega
set_option maxRecDepth 100000 in
set_option maxHeartbeats 4000000 in
theorem c_X7_shift (l : Launch) (D : va_G) (Y : Nat → ClassId) {E : (Nat → Prop) → State → Heap → Prop} (hE : g_Stab E) (q : Nat → Nat) (qt qd qn qs : Nat → Nat) (qk : Nat → Nat → Nat) (qh qp : Nat → Nat) (qr : Nat → Nat → Nat) (K : Nat → Int) (J : Nat → Int) (N : Nat → Nat → Int) (Ip : Nat → Int) (Ap : Nat → Nat → Int) (Bp : Nat → Nat → Int) (x : Int) (hsJ : smI J) (hsN : smA N) (hO : okN J N) (hsIp : smI Ip) (hsAp : smA Ap) (hsBp : okB Bp) (hx : inR x) : g_Ct l yX7_shift cX7_shift 2 (some FieldType.int) ({ frames := 5, cells := 0, slots := 0, locals := 119 } : Room) D (tysY Y) E [.ref (q 99), .int (iI x)] ((wTop q Y qt qd qn qs qk qh qp qr K) ++ ((wNet qn Y J N) ++ (wPlan qp Y Ip Ap Bp))) 0 0 (fun r9 w9 => ∃ (I1 : Nat → Int) (A1 B1 : Nat → Nat → Int), w9 = ((wTop q Y qt qd qn qs qk qh qp qr K) ++ ((wNet qn Y J N) ++ (wPlan qp Y I1 A1 B1))) ∧ smI I1 ∧ smA A1 ∧ okB B1 ∧ ∃ z : Int, r9 = some (.int (iI z)) ∧ shIs J N x z) := by
  refine g_ofG (own := RX7) hE (by decide) rfl (Nat.le_of_ble_eq_true rfl) [(0, .ref (q 99)), (1, .int (iI x))] rfl ?_
  intro p9 e9 s9 m9 b9 t9 c9 A9 C hr hlk hnm
  have hJ := hsJ
  unfold smI at hJ
  have hN := hsN
  unfold smA at hN
  have hO9 := hO
  unfold okN at hO9
  have hIp := hsIp
  unfold smI at hIp
  have hAp := hsAp
  unfold smA at hAp
  have hx9 := hx
  unfold inR at hx9
  have hlB : okB (p_lay J N (J 4) 1 0 (J 3) Bp) := p_lay_ok hO (layR_1 hO (by omega) (by omega)) (by omega) hsBp
  refine g_iload_n C (n' := 1) 1 rfl dX7_shift_0 rfl rfl ?_
  refine g_iconst C (n' := 2) dX7_shift_1 rfl ?_
  refine g_aload_n C (n' := 3) 0 rfl dX7_shift_2 rfl rfl ?_
  refine g_get C (n' := 6) (Cn := RX7) (T := TX7) (N := 9) (ci := 5) (v := .ref (qn 99)) ga_X7 0 rfl rfl 2 (by decide) kw_187 rfl rfl dX7_shift_3 rfl ?_
  refine g_getN C (n' := 9) (Cn := RX2) (T := TX2) (N := 10) (ci := 1) (v := .int (iI (J 0))) ga_X2 4 rfl rfl 0 (by decide) (List.mem_of_getElem? (i := 3) rfl) rfl rfl dX7_shift_6 rfl ?_
  have h_6 := hJ 0
  refine g_iconst C (n' := 10) dX7_shift_9 rfl ?_
  refine g_isub C (n' := 11) dX7_shift_10 rfl ?_
  refine g_cSv C (n' := 14) (v := .int (iI (if 0 ≤ x ∧ x ≤ ((J 0) - 1) then 1 else 0))) (c_X7_isWithin l D Y C.2.2.2.2.2.2.2.2.1 x 0 ((J 0) - 1) hx (by unfold inR at *; omega) (by unfold inR at *; omega)) 3 kw_217 kc_X7_isWithin (by decide +kernel) (pm_n _) rfl ⟨Nat.le_of_ble_eq_true rfl, Nat.le_of_ble_eq_true rfl⟩ ⟨rfl, rfl⟩ ⟨Nat.le_of_ble_eq_true rfl, Nat.le_of_ble_eq_true rfl⟩ (Nat.le_of_ble_eq_true rfl) dX7_shift_11 rfl rfl ((wTop q Y qt qd qn qs qk qh qp qr K) ++ ((wNet qn Y J N) ++ (wPlan qp Y Ip Ap Bp))) (pm_n _) ?_
  refine g_if_ne C (n' := 17) 20 dX7_shift_14 (by decide) rfl bz_r (fun c1 => ?_) (fun c1 => ?_)
  · skip
    replace c1 := bz_ne.mp c1
    refine g_aload_n C (n' := 21) 0 rfl dX7_shift_20 rfl rfl ?_
    refine g_get C (n' := 24) (Cn := RX7) (T := TX7) (N := 9) (ci := 5) (v := .ref (qp 99)) ga_X7 0 rfl rfl 7 (by decide) kw_192 rfl rfl dX7_shift_21 rfl ?_
    refine g_aload_n C (n' := 25) 0 rfl dX7_shift_24 rfl rfl ?_
    refine g_get C (n' := 28) (Cn := RX7) (T := TX7) (N := 9) (ci := 5) (v := .ref (qn 99)) ga_X7 0 rfl rfl 2 (by decide) kw_187 rfl rfl dX7_shift_25 rfl ?_
    refine g_callV C (n' := 31) (c_X3_settlesNow l D Y C.2.2.2.2.2.2.2.2.1 qp Ip Ap Bp qn J N hsIp hsAp hsBp hsJ hsN hO) 1 kw_443 kc_X3_settlesNow (by decide +kernel) (((pm_s (List.Perm.refl _)).trans (pm_s List.perm_append_comm)).trans (List.Perm.of_eq (show (((wPlan qp Y Ip Ap Bp) ++ ((wNet qn Y J N) ++ (wTop q Y qt qd qn qs qk qh qp qr K))) : va_W) = ((wPlan qp Y Ip Ap Bp) ++ (wNet qn Y J N)) ++ (wTop q Y qt qd qn qs qk qh qp qr K) by simp only [List.append_assoc, List.append_nil]))) 0 (ci := 2) rfl rfl rfl rfl ⟨Nat.le_of_ble_eq_true rfl, Nat.le_of_ble_eq_true rfl⟩ ⟨rfl, rfl⟩ ⟨Nat.le_of_ble_eq_true rfl, Nat.le_of_ble_eq_true rfl⟩ (Nat.le_of_ble_eq_true rfl) dX7_shift_28 rfl (fun r9 w9 hp2 => ?_)
    obtain ⟨S3, rfl, hS3, (⟨rfl, hGS3⟩ | ⟨rfl, hGS3⟩)⟩ := hp2
    · skip
      refine g_perm (w' := ((wTop q Y qt qd qn qs qk qh qp qr K) ++ ((wNet qn Y J N) ++ (wPlan qp Y (sU Ip 3 ((J 0))) (sU Ap 1 S3) (p_lay J N ((J 4)) 1 0 ((J 3)) Bp))))) (((pm_s (List.Perm.refl _)).trans (pm_s List.perm_append_comm)).trans (List.Perm.of_eq (show (((wPlan qp Y (sU Ip 3 ((J 0))) (sU Ap 1 S3) (p_lay J N ((J 4)) 1 0 ((J 3)) Bp)) ++ ((wNet qn Y J N) ++ (wTop q Y qt qd qn qs qk qh qp qr K))) : va_W) = ((wPlan qp Y (sU Ip 3 ((J 0))) (sU Ap 1 S3) (p_lay J N ((J 4)) 1 0 ((J 3)) Bp)) ++ (wNet qn Y J N)) ++ (wTop q Y qt qd qn qs qk qh qp qr K) by simp only [List.append_assoc, List.append_nil]))).symm ?_
      refine g_st (st' := [.int (iI 1)]) rfl ?_
      refine g_if_ne C (n' := 34) 37 dX7_shift_31 (by decide) rfl (by unfold inR; omega) (fun c4 => ?_) (fun c4 => ?_)
      · skip
        refine g_aload_n C (n' := 38) 0 rfl dX7_shift_37 rfl rfl ?_
        refine g_get C (n' := 41) (Cn := RX7) (T := TX7) (N := 9) (ci := 5) (v := .ref (qp 99)) ga_X7 0 rfl rfl 7 (by decide) kw_192 rfl rfl dX7_shift_38 rfl ?_
        refine g_iload_n C (n' := 42) 1 rfl dX7_shift_41 rfl rfl ?_
        refine g_cVv C (n' := 45) (v := .int (iI (S3 x.toNat))) (c_X3_shiftOf l D Y C.2.2.2.2.2.2.2.2.1 qp (sU Ip 3 ((J 0))) (sU Ap 1 S3) (p_lay J N ((J 4)) 1 0 ((J 3)) Bp) x (by omega)) 1 kw_477 kc_X3_shiftOf (by decide +kernel) (pm_s List.perm_append_comm) 0 (ci := 2) rfl rfl rfl rfl ⟨Nat.le_of_ble_eq_true rfl, Nat.le_of_ble_eq_true rfl⟩ ⟨rfl, rfl⟩ ⟨Nat.le_of_ble_eq_true rfl, Nat.le_of_ble_eq_true rfl⟩ (Nat.le_of_ble_eq_true rfl) dX7_shift_42 rfl rfl ((wTop q Y qt qd qn qs qk qh qp qr K) ++ ((wNet qn Y J N) ++ (wPlan qp Y (sU Ip 3 ((J 0))) (sU Ap 1 S3) (p_lay J N ((J 4)) 1 0 ((J 3)) Bp)))) (pm_s List.perm_append_comm).symm ?_
        refine g_ineg C (n' := 46) dX7_shift_45 rfl ?_
        refine g_aload_n C (n' := 47) 0 rfl dX7_shift_46 rfl rfl ?_
        refine g_get C (n' := 50) (Cn := RX7) (T := TX7) (N := 9) (ci := 5) (v := .ref (qn 99)) ga_X7 0 rfl rfl 2 (by decide) kw_187 rfl rfl dX7_shift_47 rfl ?_
        refine g_getN C (n' := 53) (Cn := RX2) (T := TX2) (N := 10) (ci := 1) (v := .int (iI (J 3))) ga_X2 4 rfl rfl 3 (by decide) (List.mem_of_getElem? (i := 8) rfl) rfl rfl dX7_shift_50 rfl ?_
        have h_50 := hJ 3
        refine g_imul C (n' := 54) dX7_shift_53 rfl ?_
        exact g_iret C hr hlk rfl ⟨_, _, _, rfl, sm_put hsIp (by omega), sm_putA hsAp hS3, hlB, _, rfl, Or.inr ⟨by omega, Or.inr ⟨_, hGS3, rfl⟩⟩⟩ dX7_shift_54
      · skip
        exfalso
        omega
    · skip
      refine g_perm (w' := ((wTop q Y qt qd qn qs qk qh qp qr K) ++ ((wNet qn Y J N) ++ (wPlan qp Y (sU Ip 3 ((J 0))) (sU Ap 1 S3) (p_lay J N ((J 4)) 1 0 ((J 3)) Bp))))) (((pm_s (List.Perm.refl _)).trans (pm_s List.perm_append_comm)).trans (List.Perm.of_eq (show (((wPlan qp Y (sU Ip 3 ((J 0))) (sU Ap 1 S3) (p_lay J N ((J 4)) 1 0 ((J 3)) Bp)) ++ ((wNet qn Y J N) ++ (wTop q Y qt qd qn qs qk qh qp qr K))) : va_W) = ((wPlan qp Y (sU Ip 3 ((J 0))) (sU Ap 1 S3) (p_lay J N ((J 4)) 1 0 ((J 3)) Bp)) ++ (wNet qn Y J N)) ++ (wTop q Y qt qd qn qs qk qh qp qr K) by simp only [List.append_assoc, List.append_nil]))).symm ?_
      refine g_st (st' := [.int (iI 0)]) rfl ?_
      refine g_if_ne C (n' := 34) 37 dX7_shift_31 (by decide) rfl (by unfold inR; omega) (fun c5 => ?_) (fun c5 => ?_)
      · skip
        exfalso
        omega
      · skip
        refine g_bipush C (n' := 36) (by decide) dX7_shift_34 rfl ?_
        exact g_iret C hr hlk rfl ⟨_, _, _, rfl, sm_put hsIp (by omega), sm_putA hsAp hS3, hlB, _, rfl, Or.inr ⟨by omega, Or.inl ⟨hGS3, rfl⟩⟩⟩ dX7_shift_36
  · skip
    replace c1 := bz_nne.mp c1
    refine g_bipush C (n' := 19) (by decide) dX7_shift_17 rfl ?_
    exact g_iret C hr hlk rfl ⟨Ip, Ap, Bp, rfl, hsIp, hsAp, hsBp, _, rfl, Or.inl ⟨by omega, rfl⟩⟩ dX7_shift_19
set_option maxRecDepth 100000 in
set_option maxHeartbeats 4000000 in
theorem c_X7_least (l : Launch) (D : va_G) (Y : Nat → ClassId) {E : (Nat → Prop) → State → Heap → Prop} (hE : g_Stab E) (q : Nat → Nat) (qt qd qn qs : Nat → Nat) (qk : Nat → Nat → Nat) (qh qp : Nat → Nat) (qr : Nat → Nat → Nat) (K : Nat → Int) (J : Nat → Int) (N : Nat → Nat → Int) (Ip : Nat → Int) (Ap : Nat → Nat → Int) (Bp : Nat → Nat → Int) (hsJ : smI J) (hsN : smA N) (hO : okN J N) (hsIp : smI Ip) (hsAp : smA Ap) (hsBp : okB Bp) : g_Ct l yX7_least cX7_least 1 (some FieldType.int) ({ frames := 6, cells := 0, slots := 0, locals := 148 } : Room) D (tysY Y) E [.ref (q 99)] ((wTop q Y qt qd qn qs qk qh qp qr K) ++ ((wNet qn Y J N) ++ (wPlan qp Y Ip Ap Bp))) 0 0 (fun r9 w9 => ∃ (I1 : Nat → Int) (A1 B1 : Nat → Nat → Int), w9 = ((wTop q Y qt qd qn qs qk qh qp qr K) ++ ((wNet qn Y J N) ++ (wPlan qp Y I1 A1 B1))) ∧ smI I1 ∧ smA A1 ∧ okB B1 ∧ ∃ z : Int, r9 = some (.int (iI z)) ∧ lpIs J N 1 (J 3) 999 z) := by
  refine g_ofG (own := RX7) hE (by decide) rfl (Nat.le_of_ble_eq_true rfl) [(0, .ref (q 99))] rfl ?_
  intro p9 e9 s9 m9 b9 t9 c9 A9 C hr hlk hnm
  have hJ := hsJ
  unfold smI at hJ
  have hN := hsN
  unfold smA at hN
  have hO9 := hO
  unfold okN at hO9
  have hIp := hsIp
  unfold smI at hIp
  have hAp := hsAp
  unfold smA at hAp
  have hlB : okB (p_lay J N (J 4) 1 0 (J 3) Bp) := p_lay_ok hO (layR_1 hO (by omega) (by omega)) (by omega) hsBp
  refine g_aload_n C (n' := 1) 0 rfl dX7_least_0 rfl rfl ?_
  refine g_get C (n' := 4) (Cn := RX7) (T := TX7) (N := 9) (ci := 5) (v := .ref (qp 99)) ga_X7 0 rfl rfl 7 (by decide) kw_192 rfl rfl dX7_least_1 rfl ?_
  refine g_aload_n C (n' := 5) 0 rfl dX7_least_4 rfl rfl ?_
  refine g_get C (n' := 8) (Cn := RX7) (T := TX7) (N := 9) (ci := 5) (v := .ref (qn 99)) ga_X7 0 rfl rfl 2 (by decide) kw_187 rfl rfl dX7_least_5 rfl ?_
  refine g_callV C (n' := 11) (c_X3_leastPeriod l D Y C.2.2.2.2.2.2.2.2.1 qp Ip Ap Bp qn J N hsIp hsAp hsBp hsJ hsN hO) 1 kw_485 kc_X3_leastPeriod (by decide +kernel) (((pm_s (List.Perm.refl _)).trans (pm_s List.perm_append_comm)).trans (List.Perm.of_eq (show (((wPlan qp Y Ip Ap Bp) ++ ((wNet qn Y J N) ++ (wTop q Y qt qd qn qs qk qh qp qr K))) : va_W) = ((wPlan qp Y Ip Ap Bp) ++ (wNet qn Y J N)) ++ (wTop q Y qt qd qn qs qk qh qp qr K) by simp only [List.append_assoc, List.append_nil]))) 0 (ci := 2) rfl rfl rfl rfl ⟨Nat.le_of_ble_eq_true rfl, Nat.le_of_ble_eq_true rfl⟩ ⟨rfl, rfl⟩ ⟨Nat.le_of_ble_eq_true rfl, Nat.le_of_ble_eq_true rfl⟩ (Nat.le_of_ble_eq_true rfl) dX7_least_8 rfl (fun r9 w9 hp1 => ?_)
  obtain ⟨A2, B3, rfl, hsA2, hsB3, heA2, z4, rfl, hz4⟩ := hp1
  have hA2 := hsA2
  have hB3 := hsB3
  unfold smA at hA2
  unfold okB at hB3
  refine g_perm (w' := ((wTop q Y qt qd qn qs qk qh qp qr K) ++ ((wNet qn Y J N) ++ (wPlan qp Y (sU Ip 3 ((J 0))) A2 B3)))) (((pm_s (List.Perm.refl _)).trans (pm_s List.perm_append_comm)).trans (List.Perm.of_eq (show (((wPlan qp Y (sU Ip 3 ((J 0))) A2 B3) ++ ((wNet qn Y J N) ++ (wTop q Y qt qd qn qs qk qh qp qr K))) : va_W) = ((wPlan qp Y (sU Ip 3 ((J 0))) A2 B3) ++ (wNet qn Y J N)) ++ (wTop q Y qt qd qn qs qk qh qp qr K) by simp only [List.append_assoc, List.append_nil]))).symm ?_
  refine g_st (st' := [.int (iI z4)]) rfl ?_
  exact g_iret C hr hlk rfl ⟨_, _, _, rfl, (sm_put hsIp (by omega)), hsA2, hsB3, _, rfl, hz4⟩ dX7_least_11
set_option maxRecDepth 100000 in
set_option maxHeartbeats 4000000 in
theorem c_X7_rate (l : Launch) (D : va_G) (Y : Nat → ClassId) {E : (Nat → Prop) → State → Heap → Prop} (hE : g_Stab E) (q : Nat → Nat) (qt qd qn qs : Nat → Nat) (qk : Nat → Nat → Nat) (qh qp : Nat → Nat) (qr : Nat → Nat → Nat) (K : Nat → Int) (J : Nat → Int) (N : Nat → Nat → Int) (Ip : Nat → Int) (Ap : Nat → Nat → Int) (Bp : Nat → Nat → Int) (x : Int) (hsJ : smI J) (hsN : smA N) (hO : okN J N) (hsIp : smI Ip) (hsAp : smA Ap) (hsBp : okB Bp) (hx : inR x) : g_Ct l yX7_rate cX7_rate 2 (some FieldType.int) ({ frames := 6, cells := 0, slots := 0, locals := 150 } : Room) D (tysY Y) E [.ref (q 99), .int (iI x)] ((wTop q Y qt qd qn qs qk qh qp qr K) ++ ((wNet qn Y J N) ++ (wPlan qp Y Ip Ap Bp))) 0 0 (fun r9 w9 => ∃ (I1 : Nat → Int) (A1 B1 : Nat → Nat → Int), w9 = ((wTop q Y qt qd qn qs qk qh qp qr K) ++ ((wNet qn Y J N) ++ (wPlan qp Y I1 A1 B1))) ∧ smI I1 ∧ smA A1 ∧ okB B1 ∧ ∃ z : Int, r9 = some (.int (iI z)) ∧ raP J N x z) := by
  refine g_ofG (own := RX7) hE (by decide) rfl (Nat.le_of_ble_eq_true rfl) [(0, .ref (q 99)), (1, .int (iI x))] rfl ?_
  intro p9 e9 s9 m9 b9 t9 c9 A9 C hr hlk hnm
  have hJ := hsJ
  unfold smI at hJ
  have hN := hsN
  unfold smA at hN
  have hO9 := hO
  unfold okN at hO9
  have hIp := hsIp
  unfold smI at hIp
  have hAp := hsAp
  unfold smA at hAp
  have hx9 := hx
  unfold inR at hx9
  have hlB : okB (p_lay J N (J 4) 1 0 (J 3) Bp) := p_lay_ok hO (layR_1 hO (by omega) (by omega)) (by omega) hsBp
  refine g_iload_n C (n' := 1) 1 rfl dX7_rate_0 rfl rfl ?_
  refine g_iconst C (n' := 2) dX7_rate_1 rfl ?_
  refine g_iconst C (n' := 3) dX7_rate_2 rfl ?_
  refine g_cSv C (n' := 6) (v := .int (iI (if 0 ≤ x ∧ x ≤ 1 then 1 else 0))) (c_X7_isWithin l D Y C.2.2.2.2.2.2.2.2.1 x 0 1 hx (by unfold inR at *; omega) (by unfold inR at *; omega)) 3 kw_217 kc_X7_isWithin (by decide +kernel) (pm_n _) rfl ⟨Nat.le_of_ble_eq_true rfl, Nat.le_of_ble_eq_true rfl⟩ ⟨rfl, rfl⟩ ⟨Nat.le_of_ble_eq_true rfl, Nat.le_of_ble_eq_true rfl⟩ (Nat.le_of_ble_eq_true rfl) dX7_rate_3 rfl rfl ((wTop q Y qt qd qn qs qk qh qp qr K) ++ ((wNet qn Y J N) ++ (wPlan qp Y Ip Ap Bp))) (pm_n _) ?_
  refine g_if_ne C (n' := 9) 12 dX7_rate_6 (by decide) rfl bz_r (fun c1 => ?_) (fun c1 => ?_)
  · skip
    replace c1 := bz_ne.mp c1
    refine g_aload_n C (n' := 13) 0 rfl dX7_rate_12 rfl rfl ?_
    refine g_get C (n' := 16) (Cn := RX7) (T := TX7) (N := 9) (ci := 5) (v := .ref (qp 99)) ga_X7 0 rfl rfl 7 (by decide) kw_192 rfl rfl dX7_rate_13 rfl ?_
    refine g_aload_n C (n' := 17) 0 rfl dX7_rate_16 rfl rfl ?_
    refine g_get C (n' := 20) (Cn := RX7) (T := TX7) (N := 9) (ci := 5) (v := .ref (qn 99)) ga_X7 0 rfl rfl 2 (by decide) kw_187 rfl rfl dX7_rate_17 rfl ?_
    refine g_callV C (n' := 23) (c_X3_findRate l D Y C.2.2.2.2.2.2.2.2.1 qp Ip Ap Bp qn J N hsIp hsAp hsBp hsJ hsN hO) 1 kw_501 kc_X3_findRate (by decide +kernel) (((pm_s (List.Perm.refl _)).trans (pm_s List.perm_append_comm)).trans (List.Perm.of_eq (show (((wPlan qp Y Ip Ap Bp) ++ ((wNet qn Y J N) ++ (wTop q Y qt qd qn qs qk qh qp qr K))) : va_W) = ((wPlan qp Y Ip Ap Bp) ++ (wNet qn Y J N)) ++ (wTop q Y qt qd qn qs qk qh qp qr K) by simp only [List.append_assoc, List.append_nil]))) 0 (ci := 2) rfl rfl rfl rfl ⟨Nat.le_of_ble_eq_true rfl, Nat.le_of_ble_eq_true rfl⟩ ⟨rfl, rfl⟩ ⟨Nat.le_of_ble_eq_true rfl, Nat.le_of_ble_eq_true rfl⟩ (Nat.le_of_ble_eq_true rfl) dX7_rate_20 rfl (fun r9 w9 hp2 => ?_)
    obtain ⟨I3, A4, B5, rfl, hsI3, hsA4, hsB5, (⟨rfl, hRI3⟩ | ⟨rfl, hRI3⟩)⟩ := hp2
    · skip
      refine g_perm (w' := ((wTop q Y qt qd qn qs qk qh qp qr K) ++ ((wNet qn Y J N) ++ (wPlan qp Y I3 A4 B5)))) (((pm_s (List.Perm.refl _)).trans (pm_s List.perm_append_comm)).trans (List.Perm.of_eq (show (((wPlan qp Y I3 A4 B5) ++ ((wNet qn Y J N) ++ (wTop q Y qt qd qn qs qk qh qp qr K))) : va_W) = ((wPlan qp Y I3 A4 B5) ++ (wNet qn Y J N)) ++ (wTop q Y qt qd qn qs qk qh qp qr K) by simp only [List.append_assoc, List.append_nil]))).symm ?_
      refine g_st (st' := [.int (iI 1)]) rfl ?_
      refine g_if_ne C (n' := 26) 28 dX7_rate_23 (by decide) rfl (by unfold inR; omega) (fun c6 => ?_) (fun c6 => ?_)
      · skip
        refine g_iload_n C (n' := 29) 1 rfl dX7_rate_28 rfl rfl ?_
        refine g_if_ne C (n' := 32) 42 dX7_rate_29 (by decide) rfl (by unfold inR; omega) (fun c7 => ?_) (fun c7 => ?_)
        · skip
          refine g_aload_n C (n' := 43) 0 rfl dX7_rate_42 rfl rfl ?_
          refine g_get C (n' := 46) (Cn := RX7) (T := TX7) (N := 9) (ci := 5) (v := .ref (qp 99)) ga_X7 0 rfl rfl 7 (by decide) kw_192 rfl rfl dX7_rate_43 rfl ?_
          refine g_cVv C (n' := 49) (v := .int (iI ((I3 6)))) (c_X3_rateBelow l D Y C.2.2.2.2.2.2.2.2.1 qp I3 A4 B5) 0 kw_509 kc_X3_rateBelow (by decide +kernel) (pm_s List.perm_append_comm) 0 (ci := 2) rfl rfl rfl rfl ⟨Nat.le_of_ble_eq_true rfl, Nat.le_of_ble_eq_true rfl⟩ ⟨rfl, rfl⟩ ⟨Nat.le_of_ble_eq_true rfl, Nat.le_of_ble_eq_true rfl⟩ (Nat.le_of_ble_eq_true rfl) dX7_rate_46 rfl rfl ((wTop q Y qt qd qn qs qk qh qp qr K) ++ ((wNet qn Y J N) ++ (wPlan qp Y I3 A4 B5))) (pm_s List.perm_append_comm).symm ?_
          exact g_iret C hr hlk rfl ⟨_, _, _, rfl, hsI3, hsA4, hsB5, _, rfl, Or.inr ⟨by omega, Or.inr ⟨_, _, hRI3, by rw [if_neg (by omega)]⟩⟩⟩ dX7_rate_49
        · skip
          refine g_aload_n C (n' := 33) 0 rfl dX7_rate_32 rfl rfl ?_
          refine g_get C (n' := 36) (Cn := RX7) (T := TX7) (N := 9) (ci := 5) (v := .ref (qp 99)) ga_X7 0 rfl rfl 7 (by decide) kw_192 rfl rfl dX7_rate_33 rfl ?_
          refine g_cVv C (n' := 39) (v := .int (iI ((I3 5)))) (c_X3_rateAbove l D Y C.2.2.2.2.2.2.2.2.1 qp I3 A4 B5) 0 kw_505 kc_X3_rateAbove (by decide +kernel) (pm_s List.perm_append_comm) 0 (ci := 2) rfl rfl rfl rfl ⟨Nat.le_of_ble_eq_true rfl, Nat.le_of_ble_eq_true rfl⟩ ⟨rfl, rfl⟩ ⟨Nat.le_of_ble_eq_true rfl, Nat.le_of_ble_eq_true rfl⟩ (Nat.le_of_ble_eq_true rfl) dX7_rate_36 rfl rfl ((wTop q Y qt qd qn qs qk qh qp qr K) ++ ((wNet qn Y J N) ++ (wPlan qp Y I3 A4 B5))) (pm_s List.perm_append_comm).symm ?_
          refine g_goto C 49 dX7_rate_39 (by decide) ?_
          exact g_iret C hr hlk rfl ⟨_, _, _, rfl, hsI3, hsA4, hsB5, _, rfl, Or.inr ⟨by omega, Or.inr ⟨_, _, hRI3, by rw [if_pos (by omega)]⟩⟩⟩ dX7_rate_49
      · skip
        exfalso
        omega
    · skip
      refine g_perm (w' := ((wTop q Y qt qd qn qs qk qh qp qr K) ++ ((wNet qn Y J N) ++ (wPlan qp Y I3 A4 B5)))) (((pm_s (List.Perm.refl _)).trans (pm_s List.perm_append_comm)).trans (List.Perm.of_eq (show (((wPlan qp Y I3 A4 B5) ++ ((wNet qn Y J N) ++ (wTop q Y qt qd qn qs qk qh qp qr K))) : va_W) = ((wPlan qp Y I3 A4 B5) ++ (wNet qn Y J N)) ++ (wTop q Y qt qd qn qs qk qh qp qr K) by simp only [List.append_assoc, List.append_nil]))).symm ?_
      refine g_st (st' := [.int (iI 0)]) rfl ?_
      refine g_if_ne C (n' := 26) 28 dX7_rate_23 (by decide) rfl (by unfold inR; omega) (fun c8 => ?_) (fun c8 => ?_)
      · skip
        exfalso
        omega
      · skip
        refine g_iconst C (n' := 27) dX7_rate_26 rfl ?_
        exact g_iret C hr hlk rfl ⟨_, _, _, rfl, hsI3, hsA4, hsB5, _, rfl, Or.inr ⟨by omega, Or.inl ⟨hRI3, rfl⟩⟩⟩ dX7_rate_27
  · skip
    replace c1 := bz_nne.mp c1
    refine g_bipush C (n' := 11) (by decide) dX7_rate_9 rfl ?_
    exact g_iret C hr hlk rfl ⟨Ip, Ap, Bp, rfl, hsIp, hsAp, hsBp, _, rfl, Or.inl ⟨by omega, rfl⟩⟩ dX7_rate_11
set_option maxRecDepth 100000 in
set_option maxHeartbeats 4000000 in
theorem c_X7_margin (l : Launch) (D : va_G) (Y : Nat → ClassId) {E : (Nat → Prop) → State → Heap → Prop} (hE : g_Stab E) (q : Nat → Nat) (qt qd qn qs : Nat → Nat) (qk : Nat → Nat → Nat) (qh qp : Nat → Nat) (qr : Nat → Nat → Nat) (K : Nat → Int) (J : Nat → Int) (N : Nat → Nat → Int) (Ip : Nat → Int) (Ap : Nat → Nat → Int) (Bp : Nat → Nat → Int) (hsJ : smI J) (hsN : smA N) (hO : okN J N) (hsIp : smI Ip) (hsAp : smA Ap) (hsBp : okB Bp) : g_Ct l yX7_margin cX7_margin 1 (some FieldType.int) ({ frames := 5, cells := 0, slots := 0, locals := 123 } : Room) D (tysY Y) E [.ref (q 99)] ((wTop q Y qt qd qn qs qk qh qp qr K) ++ ((wNet qn Y J N) ++ (wPlan qp Y Ip Ap Bp))) 0 0 (fun r9 w9 => ∃ (I1 : Nat → Int) (A1 B1 : Nat → Nat → Int), w9 = ((wTop q Y qt qd qn qs qk qh qp qr K) ++ ((wNet qn Y J N) ++ (wPlan qp Y I1 A1 B1))) ∧ smI I1 ∧ smA A1 ∧ okB B1 ∧ ∃ z : Int, r9 = some (.int (iI z)) ∧ ∃ y : Int, z = 2000 + y ∧ mgIs J N y) := by
  refine g_ofG (own := RX7) hE (by decide) rfl (Nat.le_of_ble_eq_true rfl) [(0, .ref (q 99))] rfl ?_
  intro p9 e9 s9 m9 b9 t9 c9 A9 C hr hlk hnm
  have hJ := hsJ
  unfold smI at hJ
  have hN := hsN
  unfold smA at hN
  have hO9 := hO
  unfold okN at hO9
  have hIp := hsIp
  unfold smI at hIp
  have hAp := hsAp
  unfold smA at hAp
  have hlB : okB (p_lay J N (J 4) 1 0 (J 3) Bp) := p_lay_ok hO (layR_1 hO (by omega) (by omega)) (by omega) hsBp
  refine g_sipush C (n' := 3) (by decide) dX7_margin_0 rfl ?_
  refine g_aload_n C (n' := 4) 0 rfl dX7_margin_3 rfl rfl ?_
  refine g_get C (n' := 7) (Cn := RX7) (T := TX7) (N := 9) (ci := 5) (v := .ref (qp 99)) ga_X7 0 rfl rfl 7 (by decide) kw_192 rfl rfl dX7_margin_4 rfl ?_
  refine g_aload_n C (n' := 8) 0 rfl dX7_margin_7 rfl rfl ?_
  refine g_get C (n' := 11) (Cn := RX7) (T := TX7) (N := 9) (ci := 5) (v := .ref (qn 99)) ga_X7 0 rfl rfl 2 (by decide) kw_187 rfl rfl dX7_margin_8 rfl ?_
  refine g_callV C (n' := 14) (c_X3_greatestMargin l D Y C.2.2.2.2.2.2.2.2.1 qp Ip Ap Bp qn J N hsIp hsAp hsBp hsJ hsN hO) 1 kw_517 kc_X3_greatestMargin (by decide +kernel) (((pm_s (List.Perm.refl _)).trans (pm_s List.perm_append_comm)).trans (List.Perm.of_eq (show (((wPlan qp Y Ip Ap Bp) ++ ((wNet qn Y J N) ++ (wTop q Y qt qd qn qs qk qh qp qr K))) : va_W) = ((wPlan qp Y Ip Ap Bp) ++ (wNet qn Y J N)) ++ (wTop q Y qt qd qn qs qk qh qp qr K) by simp only [List.append_assoc, List.append_nil]))) 0 (ci := 2) rfl rfl rfl rfl ⟨Nat.le_of_ble_eq_true rfl, Nat.le_of_ble_eq_true rfl⟩ ⟨rfl, rfl⟩ ⟨Nat.le_of_ble_eq_true rfl, Nat.le_of_ble_eq_true rfl⟩ (Nat.le_of_ble_eq_true rfl) dX7_margin_11 rfl (fun r9 w9 hp1 => ?_)
  obtain ⟨I2, A3, B4, rfl, hsI2, hsA3, hsB4, z5, rfl, hz5⟩ := hp1
  refine g_perm (w' := ((wTop q Y qt qd qn qs qk qh qp qr K) ++ ((wNet qn Y J N) ++ (wPlan qp Y I2 A3 B4)))) (((pm_s (List.Perm.refl _)).trans (pm_s List.perm_append_comm)).trans (List.Perm.of_eq (show (((wPlan qp Y I2 A3 B4) ++ ((wNet qn Y J N) ++ (wTop q Y qt qd qn qs qk qh qp qr K))) : va_W) = ((wPlan qp Y I2 A3 B4) ++ (wNet qn Y J N)) ++ (wTop q Y qt qd qn qs qk qh qp qr K) by simp only [List.append_assoc, List.append_nil]))).symm ?_
  refine g_st (st' := [.int (iI z5), .int (iI 2000)]) rfl ?_
  refine g_iadd C (n' := 15) dX7_margin_14 rfl ?_
  exact g_iret C hr hlk rfl ⟨_, _, _, rfl, hsI2, hsA3, hsB4, _, rfl, ⟨_, rfl, hz5⟩⟩ dX7_margin_15
set_option maxRecDepth 100000 in
set_option maxHeartbeats 4000000 in
theorem c_X7_spare (l : Launch) (D : va_G) (Y : Nat → ClassId) {E : (Nat → Prop) → State → Heap → Prop} (hE : g_Stab E) (q : Nat → Nat) (qt qd qn qs : Nat → Nat) (qk : Nat → Nat → Nat) (qh qp : Nat → Nat) (qr : Nat → Nat → Nat) (K : Nat → Int) (J : Nat → Int) (N : Nat → Nat → Int) (Ip : Nat → Int) (Ap : Nat → Nat → Int) (Bp : Nat → Nat → Int) (x : Int) (y : Int) (hsJ : smI J) (hsN : smA N) (hO : okN J N) (hsIp : smI Ip) (hsAp : smA Ap) (hsBp : okB Bp) (hx : inR x) (hy : inR y) : g_Ct l yX7_spare cX7_spare 5 (some FieldType.int) ({ frames := 5, cells := 0, slots := 0, locals := 119 } : Room) D (tysY Y) E [.ref (q 99), .int (iI x), .int (iI y)] ((wTop q Y qt qd qn qs qk qh qp qr K) ++ ((wNet qn Y J N) ++ (wPlan qp Y Ip Ap Bp))) 0 0 (fun r9 w9 => ∃ (I1 : Nat → Int) (A1 B1 : Nat → Nat → Int), w9 = ((wTop q Y qt qd qn qs qk qh qp qr K) ++ ((wNet qn Y J N) ++ (wPlan qp Y I1 A1 B1))) ∧ smI I1 ∧ smA A1 ∧ okB B1 ∧ ∃ z : Int, r9 = some (.int (iI z)) ∧ spIs J N x y z) := by
  refine g_ofG (own := RX7) hE (by decide) rfl (Nat.le_of_ble_eq_true rfl) [(0, .ref (q 99)), (1, .int (iI x)), (2, .int (iI y))] rfl ?_
  intro p9 e9 s9 m9 b9 t9 c9 A9 C hr hlk hnm
  have hJ := hsJ
  unfold smI at hJ
  have hN := hsN
  unfold smA at hN
  have hO9 := hO
  unfold okN at hO9
  have hIp := hsIp
  unfold smI at hIp
  have hAp := hsAp
  unfold smA at hAp
  have hx9 := hx
  unfold inR at hx9
  have hy9 := hy
  unfold inR at hy9
  have hlB : okB (p_lay J N (J 4) 1 0 (J 3) Bp) := p_lay_ok hO (layR_1 hO (by omega) (by omega)) (by omega) hsBp
  refine g_aload_n C (n' := 1) 0 rfl dX7_spare_0 rfl rfl ?_
  refine g_iload_n C (n' := 2) 1 rfl dX7_spare_1 rfl rfl ?_
  refine g_cVv C (n' := 5) (v := .int (iI (if 0 ≤ x ∧ x ≤ (J 5) - 1 then 1 else 0))) (c_X7_isPath l D Y C.2.2.2.2.2.2.2.2.1 q qt qd qn qs qk qh qp qr K J N x hsJ hsN hO hx) 1 kw_380 kc_X7_isPath (by decide +kernel) (((pm_s (List.Perm.refl _)).trans (pm_s (List.Perm.refl _))).trans (List.Perm.of_eq (show (((wTop q Y qt qd qn qs qk qh qp qr K) ++ ((wNet qn Y J N) ++ (wPlan qp Y Ip Ap Bp))) : va_W) = ((wTop q Y qt qd qn qs qk qh qp qr K) ++ (wNet qn Y J N)) ++ (wPlan qp Y Ip Ap Bp) by simp only [List.append_assoc, List.append_nil]))) 0 (ci := 5) rfl rfl rfl rfl ⟨Nat.le_of_ble_eq_true rfl, Nat.le_of_ble_eq_true rfl⟩ ⟨rfl, rfl⟩ ⟨Nat.le_of_ble_eq_true rfl, Nat.le_of_ble_eq_true rfl⟩ (Nat.le_of_ble_eq_true rfl) dX7_spare_2 rfl rfl ((wTop q Y qt qd qn qs qk qh qp qr K) ++ ((wNet qn Y J N) ++ (wPlan qp Y Ip Ap Bp))) (((pm_s (List.Perm.refl _)).trans (pm_s (List.Perm.refl _))).trans (List.Perm.of_eq (show (((wTop q Y qt qd qn qs qk qh qp qr K) ++ ((wNet qn Y J N) ++ (wPlan qp Y Ip Ap Bp))) : va_W) = ((wTop q Y qt qd qn qs qk qh qp qr K) ++ (wNet qn Y J N)) ++ (wPlan qp Y Ip Ap Bp) by simp only [List.append_assoc, List.append_nil]))).symm ?_
  refine g_if_ne C (n' := 8) 11 dX7_spare_5 (by decide) rfl bz_r (fun c1 => ?_) (fun c1 => ?_)
  · skip
    replace c1 := bz_ne.mp c1
    refine g_iload_n C (n' := 12) 2 rfl dX7_spare_11 rfl rfl ?_
    refine g_iconst C (n' := 13) dX7_spare_12 rfl ?_
    refine g_iconst C (n' := 14) dX7_spare_13 rfl ?_
    refine g_cSv C (n' := 17) (v := .int (iI (if 0 ≤ y ∧ y ≤ 1 then 1 else 0))) (c_X7_isWithin l D Y C.2.2.2.2.2.2.2.2.1 y 0 1 hy (by unfold inR at *; omega) (by unfold inR at *; omega)) 3 kw_217 kc_X7_isWithin (by decide +kernel) (pm_n _) rfl ⟨Nat.le_of_ble_eq_true rfl, Nat.le_of_ble_eq_true rfl⟩ ⟨rfl, rfl⟩ ⟨Nat.le_of_ble_eq_true rfl, Nat.le_of_ble_eq_true rfl⟩ (Nat.le_of_ble_eq_true rfl) dX7_spare_14 rfl rfl ((wTop q Y qt qd qn qs qk qh qp qr K) ++ ((wNet qn Y J N) ++ (wPlan qp Y Ip Ap Bp))) (pm_n _) ?_
    refine g_if_ne C (n' := 20) 23 dX7_spare_17 (by decide) rfl bz_r (fun c2 => ?_) (fun c2 => ?_)
    · skip
      replace c2 := bz_ne.mp c2
      refine g_aload_n C (n' := 24) 0 rfl dX7_spare_23 rfl rfl ?_
      refine g_get C (n' := 27) (Cn := RX7) (T := TX7) (N := 9) (ci := 5) (v := .ref (qp 99)) ga_X7 0 rfl rfl 7 (by decide) kw_192 rfl rfl dX7_spare_24 rfl ?_
      refine g_aload_n C (n' := 28) 0 rfl dX7_spare_27 rfl rfl ?_
      refine g_get C (n' := 31) (Cn := RX7) (T := TX7) (N := 9) (ci := 5) (v := .ref (qn 99)) ga_X7 0 rfl rfl 2 (by decide) kw_187 rfl rfl dX7_spare_28 rfl ?_
      refine g_callV C (n' := 34) (c_X3_settlesNow l D Y C.2.2.2.2.2.2.2.2.1 qp Ip Ap Bp qn J N hsIp hsAp hsBp hsJ hsN hO) 1 kw_443 kc_X3_settlesNow (by decide +kernel) (((pm_s (List.Perm.refl _)).trans (pm_s List.perm_append_comm)).trans (List.Perm.of_eq (show (((wPlan qp Y Ip Ap Bp) ++ ((wNet qn Y J N) ++ (wTop q Y qt qd qn qs qk qh qp qr K))) : va_W) = ((wPlan qp Y Ip Ap Bp) ++ (wNet qn Y J N)) ++ (wTop q Y qt qd qn qs qk qh qp qr K) by simp only [List.append_assoc, List.append_nil]))) 0 (ci := 2) rfl rfl rfl rfl ⟨Nat.le_of_ble_eq_true rfl, Nat.le_of_ble_eq_true rfl⟩ ⟨rfl, rfl⟩ ⟨Nat.le_of_ble_eq_true rfl, Nat.le_of_ble_eq_true rfl⟩ (Nat.le_of_ble_eq_true rfl) dX7_spare_31 rfl (fun r9 w9 hp3 => ?_)
      obtain ⟨S4, rfl, hS4, (⟨rfl, hGS4⟩ | ⟨rfl, hGS4⟩)⟩ := hp3
      · skip
        refine g_perm (w' := ((wTop q Y qt qd qn qs qk qh qp qr K) ++ ((wNet qn Y J N) ++ (wPlan qp Y (sU Ip 3 ((J 0))) (sU Ap 1 S4) (p_lay J N ((J 4)) 1 0 ((J 3)) Bp))))) (((pm_s (List.Perm.refl _)).trans (pm_s List.perm_append_comm)).trans (List.Perm.of_eq (show (((wPlan qp Y (sU Ip 3 ((J 0))) (sU Ap 1 S4) (p_lay J N ((J 4)) 1 0 ((J 3)) Bp)) ++ ((wNet qn Y J N) ++ (wTop q Y qt qd qn qs qk qh qp qr K))) : va_W) = ((wPlan qp Y (sU Ip 3 ((J 0))) (sU Ap 1 S4) (p_lay J N ((J 4)) 1 0 ((J 3)) Bp)) ++ (wNet qn Y J N)) ++ (wTop q Y qt qd qn qs qk qh qp qr K) by simp only [List.append_assoc, List.append_nil]))).symm ?_
        refine g_st (st' := [.int (iI 1)]) rfl ?_
        refine g_if_ne C (n' := 37) 40 dX7_spare_34 (by decide) rfl (by unfold inR; omega) (fun c5 => ?_) (fun c5 => ?_)
        · skip
          have hp9 := hO9.2.2.2.2.2.2 x.toNat (by omega)
          refine g_aload_n C (n' := 41) 0 rfl dX7_spare_40 rfl rfl ?_
          refine g_get C (n' := 44) (Cn := RX7) (T := TX7) (N := 9) (ci := 5) (v := .ref (qp 99)) ga_X7 0 rfl rfl 7 (by decide) kw_192 rfl rfl dX7_spare_41 rfl ?_
          refine g_aload_n C (n' := 45) 0 rfl dX7_spare_44 rfl rfl ?_
          refine g_get C (n' := 48) (Cn := RX7) (T := TX7) (N := 9) (ci := 5) (v := .ref (qn 99)) ga_X7 0 rfl rfl 2 (by decide) kw_187 rfl rfl dX7_spare_45 rfl ?_
          refine g_getN C (n' := 51) (Cn := RX2) (T := TX2) (N := 10) (ci := 1) (v := .ref (qn 6)) ga_X2 4 rfl rfl 6 (by decide) (List.mem_of_getElem? (i := 14) rfl) rfl rfl dX7_spare_48 rfl ?_
          refine g_iload_n C (n' := 52) 1 rfl dX7_spare_51 rfl rfl ?_
          refine g_iald C (n' := 53) (f := (N 6)) 5 0 rfl rfl (by omega) (by omega) (by decide) rfl dX7_spare_52 rfl ?_
          have h_52 := hN 6 x.toNat
          refine g_cVv C (n' := 56) (v := .int (iI (S4 ((N 6) x.toNat).toNat))) (c_X3_shiftOf l D Y C.2.2.2.2.2.2.2.2.1 qp (sU Ip 3 ((J 0))) (sU Ap 1 S4) (p_lay J N ((J 4)) 1 0 ((J 3)) Bp) ((N 6) x.toNat) (by omega)) 1 kw_477 kc_X3_shiftOf (by decide +kernel) (pm_s List.perm_append_comm) 0 (ci := 2) rfl rfl rfl rfl ⟨Nat.le_of_ble_eq_true rfl, Nat.le_of_ble_eq_true rfl⟩ ⟨rfl, rfl⟩ ⟨Nat.le_of_ble_eq_true rfl, Nat.le_of_ble_eq_true rfl⟩ (Nat.le_of_ble_eq_true rfl) dX7_spare_53 rfl rfl ((wTop q Y qt qd qn qs qk qh qp qr K) ++ ((wNet qn Y J N) ++ (wPlan qp Y (sU Ip 3 ((J 0))) (sU Ap 1 S4) (p_lay J N ((J 4)) 1 0 ((J 3)) Bp)))) (pm_s List.perm_append_comm).symm ?_
          refine g_aload_n C (n' := 57) 0 rfl dX7_spare_56 rfl rfl ?_
          refine g_get C (n' := 60) (Cn := RX7) (T := TX7) (N := 9) (ci := 5) (v := .ref (qp 99)) ga_X7 0 rfl rfl 7 (by decide) kw_192 rfl rfl dX7_spare_57 rfl ?_
          refine g_aload_n C (n' := 61) 0 rfl dX7_spare_60 rfl rfl ?_
          refine g_get C (n' := 64) (Cn := RX7) (T := TX7) (N := 9) (ci := 5) (v := .ref (qn 99)) ga_X7 0 rfl rfl 2 (by decide) kw_187 rfl rfl dX7_spare_61 rfl ?_
          refine g_getN C (n' := 67) (Cn := RX2) (T := TX2) (N := 10) (ci := 1) (v := .ref (qn 7)) ga_X2 4 rfl rfl 7 (by decide) (List.mem_of_getElem? (i := 16) rfl) rfl rfl dX7_spare_64 rfl ?_
          refine g_iload_n C (n' := 68) 1 rfl dX7_spare_67 rfl rfl ?_
          refine g_iald C (n' := 69) (f := (N 7)) 6 0 rfl rfl (by omega) (by omega) (by decide) rfl dX7_spare_68 rfl ?_
          have h_68 := hN 7 x.toNat
          refine g_cVv C (n' := 72) (v := .int (iI (S4 ((N 7) x.toNat).toNat))) (c_X3_shiftOf l D Y C.2.2.2.2.2.2.2.2.1 qp (sU Ip 3 ((J 0))) (sU Ap 1 S4) (p_lay J N ((J 4)) 1 0 ((J 3)) Bp) ((N 7) x.toNat) (by omega)) 1 kw_477 kc_X3_shiftOf (by decide +kernel) (pm_s List.perm_append_comm) 0 (ci := 2) rfl rfl rfl rfl ⟨Nat.le_of_ble_eq_true rfl, Nat.le_of_ble_eq_true rfl⟩ ⟨rfl, rfl⟩ ⟨Nat.le_of_ble_eq_true rfl, Nat.le_of_ble_eq_true rfl⟩ (Nat.le_of_ble_eq_true rfl) dX7_spare_69 rfl rfl ((wTop q Y qt qd qn qs qk qh qp qr K) ++ ((wNet qn Y J N) ++ (wPlan qp Y (sU Ip 3 ((J 0))) (sU Ap 1 S4) (p_lay J N ((J 4)) 1 0 ((J 3)) Bp)))) (pm_s List.perm_append_comm).symm ?_
          refine g_isub C (n' := 73) dX7_spare_72 rfl ?_
          refine g_istore_n C (n' := 74) [(3, .int (iI ((S4 ((N 6) x.toNat).toNat) - (S4 ((N 7) x.toNat).toNat)))), (0, .ref (q 99)), (1, .int (iI x)), (2, .int (iI y))] dX7_spare_73 rfl rfl (by decide) rfl ?_
          refine g_iload_n C (n' := 75) 0 rfl dX7_spare_74 rfl rfl ?_
          refine g_aload_n C (n' := 76) 1 rfl dX7_spare_75 rfl rfl ?_
          refine g_get C (n' := 79) (Cn := RX7) (T := TX7) (N := 9) (ci := 5) (v := .ref (qn 99)) ga_X7 0 rfl rfl 2 (by decide) kw_187 rfl rfl dX7_spare_76 rfl ?_
          refine g_getN C (n' := 82) (Cn := RX2) (T := TX2) (N := 10) (ci := 1) (v := .int (iI (J 3))) ga_X2 4 rfl rfl 3 (by decide) (List.mem_of_getElem? (i := 8) rfl) rfl rfl dX7_spare_79 rfl ?_
          have h_79 := hJ 3
          refine g_imul C (n' := 83) dX7_spare_82 rfl ?_
          refine g_istore C (n' := 85) [(4, .int (iI (((S4 ((N 6) x.toNat).toNat) - (S4 ((N 7) x.toNat).toNat)) * (J 3)))), (3, .int (iI ((S4 ((N 6) x.toNat).toNat) - (S4 ((N 7) x.toNat).toNat)))), (0, .ref (q 99)), (1, .int (iI x)), (2, .int (iI y))] dX7_spare_83 rfl (by decide) rfl ?_
          refine g_iload_n C (n' := 86) 4 rfl dX7_spare_85 rfl rfl ?_
          refine g_if_ne C (n' := 89) 103 dX7_spare_86 (by decide) rfl (by unfold inR; omega) (fun c6 => ?_) (fun c6 => ?_)
          · skip
            refine g_aload_n C (n' := 104) 2 rfl dX7_spare_103 rfl rfl ?_
            refine g_get C (n' := 107) (Cn := RX7) (T := TX7) (N := 9) (ci := 5) (v := .ref (qn 99)) ga_X7 0 rfl rfl 2 (by decide) kw_187 rfl rfl dX7_spare_104 rfl ?_
            refine g_iload_n C (n' := 108) 3 rfl dX7_spare_107 rfl rfl ?_
            refine g_cVv C (n' := 111) (v := .int (iI (n_soon J N x))) (c_X2_soonBound l D Y C.2.2.2.2.2.2.2.2.1 qn J N x (by omega) (by omega)) 1 kw_388 kc_X2_soonBound (by decide +kernel) (pm_s (List.Perm.refl _)) 0 (ci := 1) rfl rfl rfl rfl ⟨Nat.le_of_ble_eq_true rfl, Nat.le_of_ble_eq_true rfl⟩ ⟨rfl, rfl⟩ ⟨Nat.le_of_ble_eq_true rfl, Nat.le_of_ble_eq_true rfl⟩ (Nat.le_of_ble_eq_true rfl) dX7_spare_108 rfl rfl ((wTop q Y qt qd qn qs qk qh qp qr K) ++ ((wNet qn Y J N) ++ (wPlan qp Y (sU Ip 3 ((J 0))) (sU Ap 1 S4) (p_lay J N ((J 4)) 1 0 ((J 3)) Bp)))) (pm_s (List.Perm.refl _)).symm ?_
            refine g_iload C (n' := 113) 0 rfl dX7_spare_111 rfl ?_
            refine g_iadd C (n' := 114) dX7_spare_113 rfl ?_
            exact g_iret C hr hlk rfl ⟨_, _, _, rfl, sm_put hsIp (by omega), sm_putA hsAp hS4, hlB, _, rfl, Or.inr ⟨by omega, Or.inr ⟨by omega, Or.inr ⟨_, hGS4, by rw [if_neg (by omega)]; rfl⟩⟩⟩⟩ dX7_spare_114
          · skip
            refine g_aload_n C (n' := 90) 2 rfl dX7_spare_89 rfl rfl ?_
            refine g_get C (n' := 93) (Cn := RX7) (T := TX7) (N := 9) (ci := 5) (v := .ref (qn 99)) ga_X7 0 rfl rfl 2 (by decide) kw_187 rfl rfl dX7_spare_90 rfl ?_
            refine g_iload_n C (n' := 94) 3 rfl dX7_spare_93 rfl rfl ?_
            refine g_cVv C (n' := 97) (v := .int (iI (n_late J N x))) (c_X2_lateBound l D Y C.2.2.2.2.2.2.2.2.1 qn J N x (by omega) (by omega)) 1 kw_384 kc_X2_lateBound (by decide +kernel) (pm_s (List.Perm.refl _)) 0 (ci := 1) rfl rfl rfl rfl ⟨Nat.le_of_ble_eq_true rfl, Nat.le_of_ble_eq_true rfl⟩ ⟨rfl, rfl⟩ ⟨Nat.le_of_ble_eq_true rfl, Nat.le_of_ble_eq_true rfl⟩ (Nat.le_of_ble_eq_true rfl) dX7_spare_94 rfl rfl ((wTop q Y qt qd qn qs qk qh qp qr K) ++ ((wNet qn Y J N) ++ (wPlan qp Y (sU Ip 3 ((J 0))) (sU Ap 1 S4) (p_lay J N ((J 4)) 1 0 ((J 3)) Bp)))) (pm_s (List.Perm.refl _)).symm ?_
            refine g_iload C (n' := 99) 0 rfl dX7_spare_97 rfl ?_
            refine g_isub C (n' := 100) dX7_spare_99 rfl ?_
            refine g_goto C 114 dX7_spare_100 (by decide) ?_
            exact g_iret C hr hlk rfl ⟨_, _, _, rfl, sm_put hsIp (by omega), sm_putA hsAp hS4, hlB, _, rfl, Or.inr ⟨by omega, Or.inr ⟨by omega, Or.inr ⟨_, hGS4, by rw [if_pos (by omega)]; rfl⟩⟩⟩⟩ dX7_spare_114
        · skip
          exfalso
          omega
      · skip
        refine g_perm (w' := ((wTop q Y qt qd qn qs qk qh qp qr K) ++ ((wNet qn Y J N) ++ (wPlan qp Y (sU Ip 3 ((J 0))) (sU Ap 1 S4) (p_lay J N ((J 4)) 1 0 ((J 3)) Bp))))) (((pm_s (List.Perm.refl _)).trans (pm_s List.perm_append_comm)).trans (List.Perm.of_eq (show (((wPlan qp Y (sU Ip 3 ((J 0))) (sU Ap 1 S4) (p_lay J N ((J 4)) 1 0 ((J 3)) Bp)) ++ ((wNet qn Y J N) ++ (wTop q Y qt qd qn qs qk qh qp qr K))) : va_W) = ((wPlan qp Y (sU Ip 3 ((J 0))) (sU Ap 1 S4) (p_lay J N ((J 4)) 1 0 ((J 3)) Bp)) ++ (wNet qn Y J N)) ++ (wTop q Y qt qd qn qs qk qh qp qr K) by simp only [List.append_assoc, List.append_nil]))).symm ?_
        refine g_st (st' := [.int (iI 0)]) rfl ?_
        refine g_if_ne C (n' := 37) 40 dX7_spare_34 (by decide) rfl (by unfold inR; omega) (fun c7 => ?_) (fun c7 => ?_)
        · skip
          exfalso
          omega
        · skip
          refine g_bipush C (n' := 39) (by decide) dX7_spare_37 rfl ?_
          exact g_iret C hr hlk rfl ⟨_, _, _, rfl, sm_put hsIp (by omega), sm_putA hsAp hS4, hlB, _, rfl, Or.inr ⟨by omega, Or.inr ⟨by omega, Or.inl ⟨hGS4, rfl⟩⟩⟩⟩ dX7_spare_39
    · skip
      replace c2 := bz_nne.mp c2
      refine g_bipush C (n' := 22) (by decide) dX7_spare_20 rfl ?_
      exact g_iret C hr hlk rfl ⟨Ip, Ap, Bp, rfl, hsIp, hsAp, hsBp, _, rfl, Or.inr ⟨by omega, Or.inl ⟨by omega, rfl⟩⟩⟩ dX7_spare_22
  · skip
    replace c1 := bz_nne.mp c1
    refine g_bipush C (n' := 10) (by decide) dX7_spare_8 rfl ?_
    exact g_iret C hr hlk rfl ⟨Ip, Ap, Bp, rfl, hsIp, hsAp, hsBp, _, rfl, Or.inl ⟨by omega, rfl⟩⟩ dX7_spare_10
set_option maxRecDepth 100000 in
set_option maxHeartbeats 4000000 in
theorem c_X7_cycle (l : Launch) (D : va_G) (Y : Nat → ClassId) {E : (Nat → Prop) → State → Heap → Prop} (hE : g_Stab E) (q : Nat → Nat) (qt qd qn qs : Nat → Nat) (qk : Nat → Nat → Nat) (qh qp : Nat → Nat) (qr : Nat → Nat → Nat) (K : Nat → Int) (J : Nat → Int) (N : Nat → Nat → Int) (Ip : Nat → Int) (Ap : Nat → Nat → Int) (Bp : Nat → Nat → Int) (x : Int) (hsJ : smI J) (hsN : smA N) (hO : okN J N) (hsIp : smI Ip) (hsAp : smA Ap) (hsBp : okB Bp) (hx : inR x) : g_Ct l yX7_cycle cX7_cycle 2 (some FieldType.int) ({ frames := 10, cells := 0, slots := 0, locals := 260 } : Room) D (tysY Y) E [.ref (q 99), .int (iI x)] ((wTop q Y qt qd qn qs qk qh qp qr K) ++ ((wNet qn Y J N) ++ (wPlan qp Y Ip Ap Bp))) 0 0 (fun r9 w9 => ∃ (I1 : Nat → Int) (A1 B1 : Nat → Nat → Int), w9 = ((wTop q Y qt qd qn qs qk qh qp qr K) ++ ((wNet qn Y J N) ++ (wPlan qp Y I1 A1 B1))) ∧ smI I1 ∧ smA A1 ∧ okB B1 ∧ ∃ z : Int, r9 = some (.int (iI z)) ∧ cyP J N Bp x z) := by
  refine g_ofG (own := RX7) hE (by decide) rfl (Nat.le_of_ble_eq_true rfl) [(0, .ref (q 99)), (1, .int (iI x))] rfl ?_
  intro p9 e9 s9 m9 b9 t9 c9 A9 C hr hlk hnm
  have hJ := hsJ
  unfold smI at hJ
  have hN := hsN
  unfold smA at hN
  have hO9 := hO
  unfold okN at hO9
  have hIp := hsIp
  unfold smI at hIp
  have hAp := hsAp
  unfold smA at hAp
  have hx9 := hx
  unfold inR at hx9
  have hlB : okB (p_lay J N (J 4) 1 0 (J 3) Bp) := p_lay_ok hO (layR_1 hO (by omega) (by omega)) (by omega) hsBp
  refine g_iload_n C (n' := 1) 1 rfl dX7_cycle_0 rfl rfl ?_
  refine g_if_ge C (n' := 4) 7 dX7_cycle_1 (by decide) rfl (by unfold inR; omega) (fun c1 => ?_) (fun c1 => ?_)
  · skip
    refine g_aload_n C (n' := 8) 0 rfl dX7_cycle_7 rfl rfl ?_
    refine g_get C (n' := 11) (Cn := RX7) (T := TX7) (N := 9) (ci := 5) (v := .ref (qp 99)) ga_X7 0 rfl rfl 7 (by decide) kw_192 rfl rfl dX7_cycle_8 rfl ?_
    refine g_aload_n C (n' := 12) 0 rfl dX7_cycle_11 rfl rfl ?_
    refine g_get C (n' := 15) (Cn := RX7) (T := TX7) (N := 9) (ci := 5) (v := .ref (qn 99)) ga_X7 0 rfl rfl 2 (by decide) kw_187 rfl rfl dX7_cycle_12 rfl ?_
    refine g_callV C (n' := 18) (c_X3_settlesNow l D Y C.2.2.2.2.2.2.2.2.1 qp Ip Ap Bp qn J N hsIp hsAp hsBp hsJ hsN hO) 1 kw_443 kc_X3_settlesNow (by decide +kernel) (((pm_s (List.Perm.refl _)).trans (pm_s List.perm_append_comm)).trans (List.Perm.of_eq (show (((wPlan qp Y Ip Ap Bp) ++ ((wNet qn Y J N) ++ (wTop q Y qt qd qn qs qk qh qp qr K))) : va_W) = ((wPlan qp Y Ip Ap Bp) ++ (wNet qn Y J N)) ++ (wTop q Y qt qd qn qs qk qh qp qr K) by simp only [List.append_assoc, List.append_nil]))) 0 (ci := 2) rfl rfl rfl rfl ⟨Nat.le_of_ble_eq_true rfl, Nat.le_of_ble_eq_true rfl⟩ ⟨rfl, rfl⟩ ⟨Nat.le_of_ble_eq_true rfl, Nat.le_of_ble_eq_true rfl⟩ (Nat.le_of_ble_eq_true rfl) dX7_cycle_15 rfl (fun r9 w9 hp2 => ?_)
    obtain ⟨S3, rfl, hS3, (⟨rfl, hGS3⟩ | ⟨rfl, hGS3⟩)⟩ := hp2
    · skip
      refine g_perm (w' := ((wTop q Y qt qd qn qs qk qh qp qr K) ++ ((wNet qn Y J N) ++ (wPlan qp Y (sU Ip 3 ((J 0))) (sU Ap 1 S3) (p_lay J N ((J 4)) 1 0 ((J 3)) Bp))))) (((pm_s (List.Perm.refl _)).trans (pm_s List.perm_append_comm)).trans (List.Perm.of_eq (show (((wPlan qp Y (sU Ip 3 ((J 0))) (sU Ap 1 S3) (p_lay J N ((J 4)) 1 0 ((J 3)) Bp)) ++ ((wNet qn Y J N) ++ (wTop q Y qt qd qn qs qk qh qp qr K))) : va_W) = ((wPlan qp Y (sU Ip 3 ((J 0))) (sU Ap 1 S3) (p_lay J N ((J 4)) 1 0 ((J 3)) Bp)) ++ (wNet qn Y J N)) ++ (wTop q Y qt qd qn qs qk qh qp qr K) by simp only [List.append_assoc, List.append_nil]))).symm ?_
      refine g_st (st' := [.int (iI 1)]) rfl ?_
      refine g_if_ne C (n' := 21) 31 dX7_cycle_18 (by decide) rfl (by unfold inR; omega) (fun c4 => ?_) (fun c4 => ?_)
      · skip
        refine g_iconst C (n' := 32) dX7_cycle_31 rfl ?_
        exact g_iret C hr hlk rfl ⟨_, _, _, rfl, sm_put hsIp (by omega), sm_putA hsAp hS3, hlB, _, rfl, Or.inr ⟨by omega, Or.inl ⟨feas_of hGS3, rfl⟩⟩⟩ dX7_cycle_32
      · skip
        exfalso
        omega
    · skip
      refine g_perm (w' := ((wTop q Y qt qd qn qs qk qh qp qr K) ++ ((wNet qn Y J N) ++ (wPlan qp Y (sU Ip 3 ((J 0))) (sU Ap 1 S3) (p_lay J N ((J 4)) 1 0 ((J 3)) Bp))))) (((pm_s (List.Perm.refl _)).trans (pm_s List.perm_append_comm)).trans (List.Perm.of_eq (show (((wPlan qp Y (sU Ip 3 ((J 0))) (sU Ap 1 S3) (p_lay J N ((J 4)) 1 0 ((J 3)) Bp)) ++ ((wNet qn Y J N) ++ (wTop q Y qt qd qn qs qk qh qp qr K))) : va_W) = ((wPlan qp Y (sU Ip 3 ((J 0))) (sU Ap 1 S3) (p_lay J N ((J 4)) 1 0 ((J 3)) Bp)) ++ (wNet qn Y J N)) ++ (wTop q Y qt qd qn qs qk qh qp qr K) by simp only [List.append_assoc, List.append_nil]))).symm ?_
      refine g_st (st' := [.int (iI 0)]) rfl ?_
      refine g_if_ne C (n' := 21) 31 dX7_cycle_18 (by decide) rfl (by unfold inR; omega) (fun c5 => ?_) (fun c5 => ?_)
      · skip
        exfalso
        omega
      · skip
        refine g_aload_n C (n' := 22) 0 rfl dX7_cycle_21 rfl rfl ?_
        refine g_get C (n' := 25) (Cn := RX7) (T := TX7) (N := 9) (ci := 5) (v := .ref (qp 99)) ga_X7 0 rfl rfl 7 (by decide) kw_192 rfl rfl dX7_cycle_22 rfl ?_
        refine g_callV C (n' := 28) (c_X3_findRing l D Y C.2.2.2.2.2.2.2.2.1 qp (sU Ip 3 ((J 0))) (sU Ap 1 S3) (p_lay J N ((J 4)) 1 0 ((J 3)) Bp) (sm_put hsIp (by omega)) (sm_putA hsAp hS3) hlB (by show 2 ≤ J 0 ∧ J 0 ≤ 8; omega)) 0 kw_529 kc_X3_findRing (by decide +kernel) (pm_s List.perm_append_comm) 0 (ci := 2) rfl rfl rfl rfl ⟨Nat.le_of_ble_eq_true rfl, Nat.le_of_ble_eq_true rfl⟩ ⟨rfl, rfl⟩ ⟨Nat.le_of_ble_eq_true rfl, Nat.le_of_ble_eq_true rfl⟩ (Nat.le_of_ble_eq_true rfl) dX7_cycle_25 rfl (fun r9 w9 hp6 => ?_)
        obtain ⟨R7, hsR7, (⟨rfl, r8, q1, q2, q3, rfl⟩ | ⟨rfl, q1, rfl⟩)⟩ := hp6
        · skip
          have hcR7 := And.intro q1 (And.intro q2 q3)
          refine g_perm (w' := ((wTop q Y qt qd qn qs qk qh qp qr K) ++ ((wNet qn Y J N) ++ (wPlan qp Y (sU (sU Ip 3 ((J 0))) 4 (r8.length : Int)) (sU (sU Ap 1 S3) 2 R7) (p_lay J N ((J 4)) 1 0 ((J 3)) Bp))))) (pm_s List.perm_append_comm).symm ?_
          refine g_st (st' := [.int (iI 1)]) rfl ?_
          refine g_if_ne C (n' := 31) 33 dX7_cycle_28 (by decide) rfl (by unfold inR; omega) (fun c9 => ?_) (fun c9 => ?_)
          · skip
            refine g_iload_n C (n' := 34) 1 rfl dX7_cycle_33 rfl rfl ?_
            refine g_aload_n C (n' := 35) 0 rfl dX7_cycle_34 rfl rfl ?_
            refine g_get C (n' := 38) (Cn := RX7) (T := TX7) (N := 9) (ci := 5) (v := .ref (qp 99)) ga_X7 0 rfl rfl 7 (by decide) kw_192 rfl rfl dX7_cycle_35 rfl ?_
            refine g_cVv C (n' := 41) (v := .int (iI ((r8.length : Int)))) (c_X3_ringLength l D Y C.2.2.2.2.2.2.2.2.1 qp (sU (sU Ip 3 ((J 0))) 4 (r8.length : Int)) (sU (sU Ap 1 S3) 2 R7) (p_lay J N ((J 4)) 1 0 ((J 3)) Bp)) 0 kw_541 kc_X3_ringLength (by decide +kernel) (pm_s List.perm_append_comm) 0 (ci := 2) rfl rfl rfl rfl ⟨Nat.le_of_ble_eq_true rfl, Nat.le_of_ble_eq_true rfl⟩ ⟨rfl, rfl⟩ ⟨Nat.le_of_ble_eq_true rfl, Nat.le_of_ble_eq_true rfl⟩ (Nat.le_of_ble_eq_true rfl) dX7_cycle_38 rfl rfl ((wTop q Y qt qd qn qs qk qh qp qr K) ++ ((wNet qn Y J N) ++ (wPlan qp Y (sU (sU Ip 3 ((J 0))) 4 (r8.length : Int)) (sU (sU Ap 1 S3) 2 R7) (p_lay J N ((J 4)) 1 0 ((J 3)) Bp)))) (pm_s List.perm_append_comm).symm ?_
            refine g_icmp_ge C (n' := 44) 55 dX7_cycle_41 (by decide) rfl (by unfold inR; omega) (by unfold inR; omega) (fun c10 => ?_) (fun c10 => ?_)
            · skip
              refine g_iconst C (n' := 56) dX7_cycle_55 rfl ?_
              exact g_iret C hr hlk rfl ⟨_, _, _, rfl, (sm_put (sm_put hsIp (by omega)) (by omega)), (sm_putA (sm_putA hsAp hS3) hsR7), hlB, _, rfl, Or.inr ⟨by omega, Or.inr ⟨hGS3, by rw [show rg_top (rg_b (p_lay J N (J 4) 1 0 (J 3) Bp)) (J 0) (J 0).toNat 0 = some r8 from q1]; exact (if_neg (by omega)).symm⟩⟩⟩ dX7_cycle_56
            · skip
              refine g_aload_n C (n' := 45) 0 rfl dX7_cycle_44 rfl rfl ?_
              refine g_get C (n' := 48) (Cn := RX7) (T := TX7) (N := 9) (ci := 5) (v := .ref (qp 99)) ga_X7 0 rfl rfl 7 (by decide) kw_192 rfl rfl dX7_cycle_45 rfl ?_
              refine g_iload_n C (n' := 49) 1 rfl dX7_cycle_48 rfl rfl ?_
              refine g_cVv C (n' := 52) (v := .int (iI (R7 x.toNat))) (c_X3_ringRegister l D Y C.2.2.2.2.2.2.2.2.1 qp (sU (sU Ip 3 ((J 0))) 4 (r8.length : Int)) (sU (sU Ap 1 S3) 2 R7) (p_lay J N ((J 4)) 1 0 ((J 3)) Bp) x (by omega)) 1 kw_545 kc_X3_ringRegister (by decide +kernel) (pm_s List.perm_append_comm) 0 (ci := 2) rfl rfl rfl rfl ⟨Nat.le_of_ble_eq_true rfl, Nat.le_of_ble_eq_true rfl⟩ ⟨rfl, rfl⟩ ⟨Nat.le_of_ble_eq_true rfl, Nat.le_of_ble_eq_true rfl⟩ (Nat.le_of_ble_eq_true rfl) dX7_cycle_49 rfl rfl ((wTop q Y qt qd qn qs qk qh qp qr K) ++ ((wNet qn Y J N) ++ (wPlan qp Y (sU (sU Ip 3 ((J 0))) 4 (r8.length : Int)) (sU (sU Ap 1 S3) 2 R7) (p_lay J N ((J 4)) 1 0 ((J 3)) Bp)))) (pm_s List.perm_append_comm).symm ?_
              refine g_goto C 56 dX7_cycle_52 (by decide) ?_
              exact g_iret C hr hlk rfl ⟨_, _, _, rfl, (sm_put (sm_put hsIp (by omega)) (by omega)), (sm_putA (sm_putA hsAp hS3) hsR7), hlB, _, rfl, Or.inr ⟨by omega, Or.inr ⟨hGS3, by rw [show rg_top (rg_b (p_lay J N (J 4) 1 0 (J 3) Bp)) (J 0) (J 0).toNat 0 = some r8 from q1]; exact (q2 x.toNat (by omega)).trans (if_pos (by omega)).symm⟩⟩⟩ dX7_cycle_56
          · skip
            exfalso
            omega
        · skip
          have hcR7 := q1
          refine g_perm (w' := ((wTop q Y qt qd qn qs qk qh qp qr K) ++ ((wNet qn Y J N) ++ (wPlan qp Y (sU (sU Ip 3 ((J 0))) 4 0) (sU (sU Ap 1 S3) 2 R7) (p_lay J N ((J 4)) 1 0 ((J 3)) Bp))))) (pm_s List.perm_append_comm).symm ?_
          refine g_st (st' := [.int (iI 0)]) rfl ?_
          refine g_if_ne C (n' := 31) 33 dX7_cycle_28 (by decide) rfl (by unfold inR; omega) (fun c11 => ?_) (fun c11 => ?_)
          · skip
            exfalso
            omega
          · skip
            refine g_iconst C (n' := 32) dX7_cycle_31 rfl ?_
            exact g_iret C hr hlk rfl ⟨_, _, _, rfl, (sm_put (sm_put hsIp (by omega)) (by omega)), (sm_putA (sm_putA hsAp hS3) hsR7), hlB, _, rfl, Or.inr ⟨by omega, Or.inr ⟨hGS3, by rw [show rg_top (rg_b (p_lay J N (J 4) 1 0 (J 3) Bp)) (J 0) (J 0).toNat 0 = none from q1]; rfl⟩⟩⟩ dX7_cycle_32
  · skip
    refine g_bipush C (n' := 6) (by decide) dX7_cycle_4 rfl ?_
    exact g_iret C hr hlk rfl ⟨Ip, Ap, Bp, rfl, hsIp, hsAp, hsBp, _, rfl, Or.inl ⟨by omega, rfl⟩⟩ dX7_cycle_6
set_option maxRecDepth 100000 in
set_option maxHeartbeats 4000000 in
theorem lp_X7_bu {p9 : Program} {l : Launch} {e9 : Env} {s9 : State} {m9 : MethodId} {a9 : Array Value} {b9 : List Frame} {t9 : Method} {c9 : Code} {D : va_G} {A9 : Nat → Prop} {Q9 : State → Prop} {E : (Nat → Prop) → State → Heap → Prop} {Y : Nat → ClassId} (C : g_Cx p9 s9 m9 a9 c9 cX7_buffer 6 RX7 D (tysY Y) A9 E) (q : Nat → Nat) (qt qd qn qs : Nat → Nat) (qk : Nat → Nat → Nat) (qh qp : Nat → Nat) (qr : Nat → Nat → Nat) (K : Nat → Int) (J : Nat → Int) (N : Nat → Nat → Int) (n : Int) (hsJ : smI J) (hsN : smA N) (hO : okN J N) (hn9 : 1 ≤ n ∧ n ≤ 20) : ∀ (n9 : Nat) (k : Nat) (I1 J1 : Nat → Int) (A1 B1 N1 : Nat → Nat → Int) (b lo : Int), (k : Int) + n9 = J 5 → smI I1 → smA A1 → okB B1 → smI J1 → smA N1 → bfIs J N n 1000 k b lo → (∀ (I1 J1 : Nat → Int) (A1 B1 N1 : Nat → Nat → Int) (b lo : Int), smI I1 → smA A1 → okB B1 → smI J1 → smA N1 → bfIs J N n 1000 (J 5).toNat b lo → g_G p9 l e9 ({ frames := 6, cells := 0, slots := 0, locals := 148 } : Room) s9 m9 a9 b9 t9 c9 6 D A9 Q9 0 0 ((wTop q Y qt qd qn qs qk qh qp qr K) ++ ((wNet qn Y J N) ++ ((wNet qs Y J1 N1) ++ (wPlan qp Y I1 A1 B1)))) [(2, .int (iI b)), (0, .ref (q 99))] 116 []) → g_G p9 l e9 ({ frames := 6, cells := 0, slots := 0, locals := 148 } : Room) s9 m9 a9 b9 t9 c9 6 D A9 Q9 0 0 ((wTop q Y qt qd qn qs qk qh qp qr K) ++ ((wNet qn Y J N) ++ ((wNet qs Y J1 N1) ++ (wPlan qp Y I1 A1 B1)))) [(4, .int (iI ((k : Nat) : Int))), (3, .int (iI lo)), (2, .int (iI b)), (1, .int (iI n)), (0, .ref (q 99))] 33 [] := by
  have hE := C.2.2.2.2.2.2.2.2.1
  intro n9
  induction n9 with
  | zero =>
    intro k I1 J1 A1 B1 N1 b lo hk hsI1 hsA1 hsB1 hsJ1 hsN1 hb K9
    have hJ := hsJ
    unfold smI at hJ
    have hN := hsN
    unfold smA at hN
    have hO9 := hO
    unfold okN at hO9
    have hI1 := hsI1
    unfold smI at hI1
    have hbr := bfIs_r (by omega) k b lo hb
    refine g_iload C (n' := 35) 0 rfl dX7_buffer_33 rfl ?_
    refine g_aload_n C (n' := 36) 4 rfl dX7_buffer_35 rfl rfl ?_
    refine g_get C (n' := 39) (Cn := RX7) (T := TX7) (N := 9) (ci := 5) (v := .ref (qn 99)) ga_X7 0 rfl rfl 2 (by decide) kw_187 rfl rfl dX7_buffer_36 rfl ?_
    refine g_getN C (n' := 42) (Cn := RX2) (T := TX2) (N := 10) (ci := 1) (v := .int (iI (J 5))) ga_X2 4 rfl rfl 5 (by decide) (List.mem_of_getElem? (i := 13) rfl) rfl rfl dX7_buffer_39 rfl ?_
    have h_39 := hJ 5
    refine g_icmp_ge C (n' := 45) 116 dX7_buffer_42 (by decide) rfl (by unfold inR; omega) (by unfold inR; omega) (fun c1 => ?_) (fun c1 => ?_)
    · skip
      have ek : k = (J 5).toNat := by omega
      refine g_lv [2, 4] rfl ?_
      exact K9 I1 J1 A1 B1 N1 b lo hsI1 hsA1 hsB1 hsJ1 hsN1 (ek ▸ hb)
    · skip
      exfalso
      omega
  | succ n9 ih =>
    intro k I1 J1 A1 B1 N1 b lo hk hsI1 hsA1 hsB1 hsJ1 hsN1 hb K9
    have hJ := hsJ
    unfold smI at hJ
    have hN := hsN
    unfold smA at hN
    have hO9 := hO
    unfold okN at hO9
    have hI1 := hsI1
    unfold smI at hI1
    have hbr := bfIs_r (by omega) k b lo hb
    refine g_iload C (n' := 35) 0 rfl dX7_buffer_33 rfl ?_
    refine g_aload_n C (n' := 36) 4 rfl dX7_buffer_35 rfl rfl ?_
    refine g_get C (n' := 39) (Cn := RX7) (T := TX7) (N := 9) (ci := 5) (v := .ref (qn 99)) ga_X7 0 rfl rfl 2 (by decide) kw_187 rfl rfl dX7_buffer_36 rfl ?_
    refine g_getN C (n' := 42) (Cn := RX2) (T := TX2) (N := 10) (ci := 1) (v := .int (iI (J 5))) ga_X2 4 rfl rfl 5 (by decide) (List.mem_of_getElem? (i := 13) rfl) rfl rfl dX7_buffer_39 rfl ?_
    have h_39 := hJ 5
    refine g_icmp_ge C (n' := 45) 116 dX7_buffer_42 (by decide) rfl (by unfold inR; omega) (by unfold inR; omega) (fun c1 => ?_) (fun c1 => ?_)
    · skip
      exfalso
      omega
    · skip
      refine g_aload_n C (n' := 46) 4 rfl dX7_buffer_45 rfl rfl ?_
      refine g_get C (n' := 49) (Cn := RX7) (T := TX7) (N := 9) (ci := 5) (v := .ref (qn 99)) ga_X7 0 rfl rfl 2 (by decide) kw_187 rfl rfl dX7_buffer_46 rfl ?_
      refine g_iload C (n' := 51) 0 rfl dX7_buffer_49 rfl ?_
      refine g_iload_n C (n' := 52) 3 rfl dX7_buffer_51 rfl rfl ?_
      refine g_cVv C (n' := 55) (v := .int (iI (if (N 8) k + n ≤ 199 then 1 else 0))) (c_X2_canBeSlower l D Y C.2.2.2.2.2.2.2.2.1 qn J N ((k : Nat) : Int) n hsJ hsN (by omega) (by omega) (by omega)) 2 kw_407 kc_X2_canBeSlower (by decide +kernel) (pm_s (List.Perm.refl _)) 0 (ci := 1) rfl rfl rfl rfl ⟨Nat.le_of_ble_eq_true rfl, Nat.le_of_ble_eq_true rfl⟩ ⟨rfl, rfl⟩ ⟨Nat.le_of_ble_eq_true rfl, Nat.le_of_ble_eq_true rfl⟩ (Nat.le_of_ble_eq_true rfl) dX7_buffer_52 rfl rfl ((wTop q Y qt qd qn qs qk qh qp qr K) ++ ((wNet qn Y J N) ++ ((wNet qs Y J1 N1) ++ (wPlan qp Y I1 A1 B1)))) (pm_s (List.Perm.refl _)).symm ?_
      refine g_if_ne C (n' := 58) 61 dX7_buffer_55 (by decide) rfl bz_r (fun c2 => ?_) (fun c2 => ?_)
      · skip
        replace c2 := bz_ne.mp c2
        have hp9 := hO9.2.2.2.2.2.2 k (by omega)
        have e8 := (cp_at (A := N1) (B := N) (p := k) (by omega)).2.2.1
        have e9 := (cp_at (A := N1) (B := N) (p := k) (by omega)).2.2.2
        have hsl : smA (n_slow (n_cpA N1 N) ((k : Nat) : Int) n) := sm_slow (sm_cpA hsN1 hsN) (by rw [Int.toNat_natCast, e8]; omega) (by rw [Int.toNat_natCast, e9]; omega)
        have hol : okN (n_cpI J1 J) (n_slow (n_cpA N1 N) ((k : Nat) : Int) n) := okN_q (netQ_symm (slow_q hO9.2.2.2.2.2.1.2)) (bN_ok hO (by omega) (fun _ => by omega))
        refine g_aload_n C (n' := 62) 4 rfl dX7_buffer_61 rfl rfl ?_
        refine g_get C (n' := 65) (Cn := RX7) (T := TX7) (N := 9) (ci := 5) (v := .ref (qs 99)) ga_X7 0 rfl rfl 3 (by decide) kw_188 rfl rfl dX7_buffer_62 rfl ?_
        refine g_aload_n C (n' := 66) 4 rfl dX7_buffer_65 rfl rfl ?_
        refine g_get C (n' := 69) (Cn := RX7) (T := TX7) (N := 9) (ci := 5) (v := .ref (qn 99)) ga_X7 0 rfl rfl 2 (by decide) kw_187 rfl rfl dX7_buffer_66 rfl ?_
        refine g_cVn C (n' := 72) (c_X2_copyFrom l D Y C.2.2.2.2.2.2.2.2.1 qs J1 N1 qn J N) 1 kw_363 kc_X2_copyFrom (by decide +kernel) (((pm_s (List.Perm.refl _)).trans (pm_s (pm_s (List.Perm.refl _)))).trans (List.Perm.of_eq (show (((wNet qs Y J1 N1) ++ ((wNet qn Y J N) ++ ((wTop q Y qt qd qn qs qk qh qp qr K) ++ (wPlan qp Y I1 A1 B1)))) : va_W) = ((wNet qs Y J1 N1) ++ (wNet qn Y J N)) ++ ((wTop q Y qt qd qn qs qk qh qp qr K) ++ (wPlan qp Y I1 A1 B1)) by simp only [List.append_assoc, List.append_nil]))) 0 (ci := 1) rfl rfl rfl rfl ⟨Nat.le_of_ble_eq_true rfl, Nat.le_of_ble_eq_true rfl⟩ ⟨rfl, rfl⟩ ⟨Nat.le_of_ble_eq_true rfl, Nat.le_of_ble_eq_true rfl⟩ (Nat.le_of_ble_eq_true rfl) dX7_buffer_69 rfl rfl ((wTop q Y qt qd qn qs qk qh qp qr K) ++ ((wNet qn Y J N) ++ ((wNet qs Y (n_cpI J1 J) (n_cpA N1 N)) ++ (wPlan qp Y I1 A1 B1)))) (((pm_s (List.Perm.refl _)).trans (pm_s (pm_s (List.Perm.refl _)))).trans (List.Perm.of_eq (show (((wNet qs Y (n_cpI J1 J) (n_cpA N1 N)) ++ ((wNet qn Y J N) ++ ((wTop q Y qt qd qn qs qk qh qp qr K) ++ (wPlan qp Y I1 A1 B1)))) : va_W) = ((wNet qs Y (n_cpI J1 J) (n_cpA N1 N)) ++ (wNet qn Y J N)) ++ ((wTop q Y qt qd qn qs qk qh qp qr K) ++ (wPlan qp Y I1 A1 B1)) by simp only [List.append_assoc, List.append_nil]))).symm ?_
        refine g_aload_n C (n' := 73) 4 rfl dX7_buffer_72 rfl rfl ?_
        refine g_get C (n' := 76) (Cn := RX7) (T := TX7) (N := 9) (ci := 5) (v := .ref (qs 99)) ga_X7 0 rfl rfl 3 (by decide) kw_188 rfl rfl dX7_buffer_73 rfl ?_
        refine g_iload C (n' := 78) 0 rfl dX7_buffer_76 rfl ?_
        refine g_iload_n C (n' := 79) 3 rfl dX7_buffer_78 rfl rfl ?_
        refine g_cVn C (n' := 82) (c_X2_delay l D Y C.2.2.2.2.2.2.2.2.1 qs (n_cpI J1 J) (n_cpA N1 N) ((k : Nat) : Int) n (by omega) (by omega)) 2 kw_411 kc_X2_delay (by decide +kernel) (pm_s (pm_s (List.Perm.refl _))) 0 (ci := 1) rfl rfl rfl rfl ⟨Nat.le_of_ble_eq_true rfl, Nat.le_of_ble_eq_true rfl⟩ ⟨rfl, rfl⟩ ⟨Nat.le_of_ble_eq_true rfl, Nat.le_of_ble_eq_true rfl⟩ (Nat.le_of_ble_eq_true rfl) dX7_buffer_79 rfl rfl ((wTop q Y qt qd qn qs qk qh qp qr K) ++ ((wNet qn Y J N) ++ ((wNet qs Y (n_cpI J1 J) (n_slow (n_cpA N1 N) ((k : Nat) : Int) n)) ++ (wPlan qp Y I1 A1 B1)))) (pm_s (pm_s (List.Perm.refl _))).symm ?_
        refine g_aload_n C (n' := 83) 4 rfl dX7_buffer_82 rfl rfl ?_
        refine g_get C (n' := 86) (Cn := RX7) (T := TX7) (N := 9) (ci := 5) (v := .ref (qp 99)) ga_X7 0 rfl rfl 7 (by decide) kw_192 rfl rfl dX7_buffer_83 rfl ?_
        refine g_aload_n C (n' := 87) 4 rfl dX7_buffer_86 rfl rfl ?_
        refine g_get C (n' := 90) (Cn := RX7) (T := TX7) (N := 9) (ci := 5) (v := .ref (qs 99)) ga_X7 0 rfl rfl 3 (by decide) kw_188 rfl rfl dX7_buffer_87 rfl ?_
        refine g_callV C (n' := 93) (c_X3_leastPeriod l D Y C.2.2.2.2.2.2.2.2.1 qp I1 A1 B1 qs (n_cpI J1 J) (n_slow (n_cpA N1 N) ((k : Nat) : Int) n) hsI1 hsA1 hsB1 (sm_cpI hsJ1 hsJ) hsl hol) 1 kw_485 kc_X3_leastPeriod (by decide +kernel) (((pm_s (pm_s (List.Perm.refl _))).trans (pm_s (pm_s List.perm_append_comm))).trans (List.Perm.of_eq (show (((wPlan qp Y I1 A1 B1) ++ ((wNet qs Y (n_cpI J1 J) (n_slow (n_cpA N1 N) ((k : Nat) : Int) n)) ++ ((wTop q Y qt qd qn qs qk qh qp qr K) ++ (wNet qn Y J N)))) : va_W) = ((wPlan qp Y I1 A1 B1) ++ (wNet qs Y (n_cpI J1 J) (n_slow (n_cpA N1 N) ((k : Nat) : Int) n))) ++ ((wTop q Y qt qd qn qs qk qh qp qr K) ++ (wNet qn Y J N)) by simp only [List.append_assoc, List.append_nil]))) 0 (ci := 2) rfl rfl rfl rfl ⟨Nat.le_of_ble_eq_true rfl, Nat.le_of_ble_eq_true rfl⟩ ⟨rfl, rfl⟩ ⟨Nat.le_of_ble_eq_true rfl, Nat.le_of_ble_eq_true rfl⟩ (Nat.le_of_ble_eq_true rfl) dX7_buffer_90 rfl (fun r9 w9 hp3 => ?_)
        obtain ⟨A4, B5, rfl, hsA4, hsB5, heA4, z6, rfl, hz6⟩ := hp3
        have hA4 := hsA4
        have hB5 := hsB5
        unfold smA at hA4
        unfold okB at hB5
        refine g_perm (w' := ((wTop q Y qt qd qn qs qk qh qp qr K) ++ ((wNet qn Y J N) ++ ((wNet qs Y (n_cpI J1 J) (n_slow (n_cpA N1 N) ((k : Nat) : Int) n)) ++ (wPlan qp Y (sU I1 3 (((n_cpI J1 J) 0))) A4 B5))))) (((pm_s (pm_s (List.Perm.refl _))).trans (pm_s (pm_s List.perm_append_comm))).trans (List.Perm.of_eq (show (((wPlan qp Y (sU I1 3 (((n_cpI J1 J) 0))) A4 B5) ++ ((wNet qs Y (n_cpI J1 J) (n_slow (n_cpA N1 N) ((k : Nat) : Int) n)) ++ ((wTop q Y qt qd qn qs qk qh qp qr K) ++ (wNet qn Y J N)))) : va_W) = ((wPlan qp Y (sU I1 3 (((n_cpI J1 J) 0))) A4 B5) ++ (wNet qs Y (n_cpI J1 J) (n_slow (n_cpA N1 N) ((k : Nat) : Int) n))) ++ ((wTop q Y qt qd qn qs qk qh qp qr K) ++ (wNet qn Y J N)) by simp only [List.append_assoc, List.append_nil]))).symm ?_
        refine g_st (st' := [.int (iI z6)]) rfl ?_
        have hzr := lpIs_r hz6 (by omega)
        refine g_cSv C (n' := 96) (v := .int (iI (if z6 = -1 then 1000 else z6))) (c_X7_orAboveAll l D Y C.2.2.2.2.2.2.2.2.1 z6 (by unfold inR at *; omega)) 1 kw_553 kc_X7_orAboveAll (by decide +kernel) (pm_n _) rfl ⟨Nat.le_of_ble_eq_true rfl, Nat.le_of_ble_eq_true rfl⟩ ⟨rfl, rfl⟩ ⟨Nat.le_of_ble_eq_true rfl, Nat.le_of_ble_eq_true rfl⟩ (Nat.le_of_ble_eq_true rfl) dX7_buffer_93 rfl rfl ((wTop q Y qt qd qn qs qk qh qp qr K) ++ ((wNet qn Y J N) ++ ((wNet qs Y (n_cpI J1 J) (n_slow (n_cpA N1 N) ((k : Nat) : Int) n)) ++ (wPlan qp Y (sU I1 3 (((n_cpI J1 J) 0))) A4 B5)))) (pm_n _) ?_
        refine g_istore C (n' := 98) [(5, .int (iI (if z6 = -1 then 1000 else z6))), (4, .int (iI ((k : Nat) : Int))), (3, .int (iI lo)), (2, .int (iI b)), (1, .int (iI n)), (0, .ref (q 99))] dX7_buffer_96 rfl (by decide) rfl ?_
        refine g_iload C (n' := 100) 0 rfl dX7_buffer_98 rfl ?_
        refine g_iload_n C (n' := 101) 2 rfl dX7_buffer_100 rfl rfl ?_
        refine g_icmp_ge C (n' := 104) 110 dX7_buffer_101 (by decide) rfl (by unfold inR; omega) (by unfold inR; omega) (fun c7 => ?_) (fun c7 => ?_)
        · skip
          refine g_iinc C (n' := 113) 1 [(4, .int (iI (((k : Nat) : Int) + 1))), (5, .int (iI (if z6 = -1 then 1000 else z6))), (3, .int (iI lo)), (2, .int (iI b)), (1, .int (iI n)), (0, .ref (q 99))] rfl dX7_buffer_110 rfl (by decide) rfl ?_
          refine g_goto C 33 dX7_buffer_113 (by decide) ?_
          refine g_lv (lv' := [(4, .int (iI (((k : Nat) : Int) + 1))), (3, .int (iI lo)), (2, .int (iI b)), (1, .int (iI n)), (0, .ref (q 99))]) [0, 2, 3, 4, 5] rfl ?_
          have hlz := (lpIs_q (slow_q (Js := J1) (Ns := N1) (N := N) (k := k) (n := n) hO9.2.2.2.2.2.1.2) 1 (J 3) 999 z6).mp hz6
          exact ih (k + 1) (sU I1 3 (J 0)) (n_cpI J1 J) A4 B5 (n_slow (n_cpA N1 N) ((k : Nat) : Int) n) _ _ (by omega) (sm_put hsI1 (by omega)) hsA4 hsB5 (sm_cpI hsJ1 hsJ) hsl ⟨b, lo, hb, Or.inr ⟨by omega, z6, hlz, Or.inr ⟨by omega, rfl, rfl⟩⟩⟩ K9
        · skip
          refine g_iload C (n' := 106) 1 rfl dX7_buffer_104 rfl ?_
          refine g_istore_n C (n' := 107) [(2, .int (iI ((k : Nat) : Int))), (5, .int (iI (if z6 = -1 then 1000 else z6))), (4, .int (iI ((k : Nat) : Int))), (3, .int (iI lo)), (1, .int (iI n)), (0, .ref (q 99))] dX7_buffer_106 rfl rfl (by decide) rfl ?_
          refine g_iload C (n' := 109) 1 rfl dX7_buffer_107 rfl ?_
          refine g_istore_n C (n' := 110) [(3, .int (iI (if z6 = -1 then 1000 else z6))), (2, .int (iI ((k : Nat) : Int))), (5, .int (iI (if z6 = -1 then 1000 else z6))), (4, .int (iI ((k : Nat) : Int))), (1, .int (iI n)), (0, .ref (q 99))] dX7_buffer_109 rfl rfl (by decide) rfl ?_
          refine g_iinc C (n' := 113) 3 [(4, .int (iI (((k : Nat) : Int) + 1))), (3, .int (iI (if z6 = -1 then 1000 else z6))), (2, .int (iI ((k : Nat) : Int))), (5, .int (iI (if z6 = -1 then 1000 else z6))), (1, .int (iI n)), (0, .ref (q 99))] rfl dX7_buffer_110 rfl (by decide) rfl ?_
          refine g_goto C 33 dX7_buffer_113 (by decide) ?_
          refine g_lv (lv' := [(4, .int (iI (((k : Nat) : Int) + 1))), (3, .int (iI (if z6 = -1 then 1000 else z6))), (2, .int (iI ((k : Nat) : Int))), (1, .int (iI n)), (0, .ref (q 99))]) [0, 1, 2, 4, 5] rfl ?_
          have hlz := (lpIs_q (slow_q (Js := J1) (Ns := N1) (N := N) (k := k) (n := n) hO9.2.2.2.2.2.1.2) 1 (J 3) 999 z6).mp hz6
          exact ih (k + 1) (sU I1 3 (J 0)) (n_cpI J1 J) A4 B5 (n_slow (n_cpA N1 N) ((k : Nat) : Int) n) _ _ (by omega) (sm_put hsI1 (by omega)) hsA4 hsB5 (sm_cpI hsJ1 hsJ) hsl ⟨b, lo, hb, Or.inr ⟨by omega, z6, hlz, Or.inl ⟨by omega, by omega, rfl, by split <;> omega⟩⟩⟩ K9
      · skip
        replace c2 := bz_nne.mp c2
        refine g_goto C 110 dX7_buffer_58 (by decide) ?_
        refine g_iinc C (n' := 113) 0 [(4, .int (iI (((k : Nat) : Int) + 1))), (3, .int (iI lo)), (2, .int (iI b)), (1, .int (iI n)), (0, .ref (q 99))] rfl dX7_buffer_110 rfl (by decide) rfl ?_
        refine g_goto C 33 dX7_buffer_113 (by decide) ?_
        refine g_lv (lv' := [(4, .int (iI (((k : Nat) : Int) + 1))), (3, .int (iI lo)), (2, .int (iI b)), (1, .int (iI n)), (0, .ref (q 99))]) [0, 1, 2, 3, 4] rfl ?_
        exact ih (k + 1) I1 J1 A1 B1 N1 b lo (by omega) hsI1 hsA1 hsB1 hsJ1 hsN1 ⟨b, lo, hb, Or.inl ⟨by omega, rfl, rfl⟩⟩ K9
set_option maxRecDepth 100000 in
set_option maxHeartbeats 4000000 in
theorem c_X7_buffer (l : Launch) (D : va_G) (Y : Nat → ClassId) {E : (Nat → Prop) → State → Heap → Prop} (hE : g_Stab E) (q : Nat → Nat) (qt qd qn qs : Nat → Nat) (qk : Nat → Nat → Nat) (qh qp : Nat → Nat) (qr : Nat → Nat → Nat) (K : Nat → Int) (J : Nat → Int) (N : Nat → Nat → Int) (Js : Nat → Int) (Ns : Nat → Nat → Int) (Ip : Nat → Int) (Ap : Nat → Nat → Int) (Bp : Nat → Nat → Int) (n : Int) (hsJ : smI J) (hsN : smA N) (hO : okN J N) (hsJs : smI Js) (hsNs : smA Ns) (hsIp : smI Ip) (hsAp : smA Ap) (hsBp : okB Bp) (hn : inR n) : g_Ct l yX7_buffer cX7_buffer 6 (some FieldType.int) ({ frames := 6, cells := 0, slots := 0, locals := 148 } : Room) D (tysY Y) E [.ref (q 99), .int (iI n)] ((wTop q Y qt qd qn qs qk qh qp qr K) ++ ((wNet qn Y J N) ++ ((wNet qs Y Js Ns) ++ (wPlan qp Y Ip Ap Bp)))) 0 0 (fun r9 w9 => ∃ (I1 J1 : Nat → Int) (A1 B1 N1 : Nat → Nat → Int), w9 = ((wTop q Y qt qd qn qs qk qh qp qr K) ++ ((wNet qn Y J N) ++ ((wNet qs Y J1 N1) ++ (wPlan qp Y I1 A1 B1)))) ∧ smI I1 ∧ smA A1 ∧ okB B1 ∧ smI J1 ∧ smA N1 ∧ ∃ z : Int, r9 = some (.int (iI z)) ∧ bfM J N 1000 n z) := by
  refine g_ofG (own := RX7) hE (by decide) rfl (Nat.le_of_ble_eq_true rfl) [(0, .ref (q 99)), (1, .int (iI n))] rfl ?_
  intro p9 e9 s9 m9 b9 t9 c9 A9 C hr hlk hnm
  have hJ := hsJ
  unfold smI at hJ
  have hN := hsN
  unfold smA at hN
  have hO9 := hO
  unfold okN at hO9
  have hJs := hsJs
  unfold smI at hJs
  have hNs := hsNs
  unfold smA at hNs
  have hIp := hsIp
  unfold smI at hIp
  have hAp := hsAp
  unfold smA at hAp
  have hn9 := hn
  unfold inR at hn9
  have hlB : okB (p_lay J N (J 4) 1 0 (J 3) Bp) := p_lay_ok hO (layR_1 hO (by omega) (by omega)) (by omega) hsBp
  refine g_iload_n C (n' := 1) 1 rfl dX7_buffer_0 rfl rfl ?_
  refine g_iconst C (n' := 2) dX7_buffer_1 rfl ?_
  refine g_bipush C (n' := 4) (by decide) dX7_buffer_2 rfl ?_
  refine g_cSv C (n' := 7) (v := .int (iI (if 1 ≤ n ∧ n ≤ 20 then 1 else 0))) (c_X7_isWithin l D Y C.2.2.2.2.2.2.2.2.1 n 1 20 hn (by unfold inR at *; omega) (by unfold inR at *; omega)) 3 kw_217 kc_X7_isWithin (by decide +kernel) (pm_n _) rfl ⟨Nat.le_of_ble_eq_true rfl, Nat.le_of_ble_eq_true rfl⟩ ⟨rfl, rfl⟩ ⟨Nat.le_of_ble_eq_true rfl, Nat.le_of_ble_eq_true rfl⟩ (Nat.le_of_ble_eq_true rfl) dX7_buffer_4 rfl rfl ((wTop q Y qt qd qn qs qk qh qp qr K) ++ ((wNet qn Y J N) ++ ((wNet qs Y Js Ns) ++ (wPlan qp Y Ip Ap Bp)))) (pm_n _) ?_
  refine g_if_ne C (n' := 10) 13 dX7_buffer_7 (by decide) rfl bz_r (fun c1 => ?_) (fun c1 => ?_)
  · skip
    replace c1 := bz_ne.mp c1
    refine g_iconst C (n' := 14) dX7_buffer_13 rfl ?_
    refine g_istore_n C (n' := 15) [(2, .int (iI (-1))), (0, .ref (q 99)), (1, .int (iI n))] dX7_buffer_14 rfl rfl (by decide) rfl ?_
    refine g_aload_n C (n' := 16) 1 rfl dX7_buffer_15 rfl rfl ?_
    refine g_get C (n' := 19) (Cn := RX7) (T := TX7) (N := 9) (ci := 5) (v := .ref (qp 99)) ga_X7 0 rfl rfl 7 (by decide) kw_192 rfl rfl dX7_buffer_16 rfl ?_
    refine g_aload_n C (n' := 20) 1 rfl dX7_buffer_19 rfl rfl ?_
    refine g_get C (n' := 23) (Cn := RX7) (T := TX7) (N := 9) (ci := 5) (v := .ref (qn 99)) ga_X7 0 rfl rfl 2 (by decide) kw_187 rfl rfl dX7_buffer_20 rfl ?_
    refine g_callV C (n' := 26) (c_X3_leastPeriod l D Y C.2.2.2.2.2.2.2.2.1 qp Ip Ap Bp qn J N hsIp hsAp hsBp hsJ hsN hO) 1 kw_485 kc_X3_leastPeriod (by decide +kernel) (((pm_s (List.Perm.refl _)).trans (pm_s (pm_s List.perm_append_comm))).trans (List.Perm.of_eq (show (((wPlan qp Y Ip Ap Bp) ++ ((wNet qn Y J N) ++ ((wTop q Y qt qd qn qs qk qh qp qr K) ++ (wNet qs Y Js Ns)))) : va_W) = ((wPlan qp Y Ip Ap Bp) ++ (wNet qn Y J N)) ++ ((wTop q Y qt qd qn qs qk qh qp qr K) ++ (wNet qs Y Js Ns)) by simp only [List.append_assoc, List.append_nil]))) 0 (ci := 2) rfl rfl rfl rfl ⟨Nat.le_of_ble_eq_true rfl, Nat.le_of_ble_eq_true rfl⟩ ⟨rfl, rfl⟩ ⟨Nat.le_of_ble_eq_true rfl, Nat.le_of_ble_eq_true rfl⟩ (Nat.le_of_ble_eq_true rfl) dX7_buffer_23 rfl (fun r9 w9 hp2 => ?_)
    obtain ⟨A3, B4, rfl, hsA3, hsB4, heA3, z5, rfl, hz5⟩ := hp2
    have hA3 := hsA3
    have hB4 := hsB4
    unfold smA at hA3
    unfold okB at hB4
    refine g_perm (w' := ((wTop q Y qt qd qn qs qk qh qp qr K) ++ ((wNet qn Y J N) ++ ((wNet qs Y Js Ns) ++ (wPlan qp Y (sU Ip 3 ((J 0))) A3 B4))))) (((pm_s (List.Perm.refl _)).trans (pm_s (pm_s List.perm_append_comm))).trans (List.Perm.of_eq (show (((wPlan qp Y (sU Ip 3 ((J 0))) A3 B4) ++ ((wNet qn Y J N) ++ ((wTop q Y qt qd qn qs qk qh qp qr K) ++ (wNet qs Y Js Ns)))) : va_W) = ((wPlan qp Y (sU Ip 3 ((J 0))) A3 B4) ++ (wNet qn Y J N)) ++ ((wTop q Y qt qd qn qs qk qh qp qr K) ++ (wNet qs Y Js Ns)) by simp only [List.append_assoc, List.append_nil]))).symm ?_
    refine g_st (st' := [.int (iI z5)]) rfl ?_
    have hzr := lpIs_r hz5 (by omega)
    refine g_cSv C (n' := 29) (v := .int (iI (if z5 = -1 then 1000 else z5))) (c_X7_orAboveAll l D Y C.2.2.2.2.2.2.2.2.1 z5 (by unfold inR at *; omega)) 1 kw_553 kc_X7_orAboveAll (by decide +kernel) (pm_n _) rfl ⟨Nat.le_of_ble_eq_true rfl, Nat.le_of_ble_eq_true rfl⟩ ⟨rfl, rfl⟩ ⟨Nat.le_of_ble_eq_true rfl, Nat.le_of_ble_eq_true rfl⟩ (Nat.le_of_ble_eq_true rfl) dX7_buffer_26 rfl rfl ((wTop q Y qt qd qn qs qk qh qp qr K) ++ ((wNet qn Y J N) ++ ((wNet qs Y Js Ns) ++ (wPlan qp Y (sU Ip 3 ((J 0))) A3 B4)))) (pm_n _) ?_
    refine g_istore_n C (n' := 30) [(3, .int (iI (if z5 = -1 then 1000 else z5))), (2, .int (iI (-1))), (0, .ref (q 99)), (1, .int (iI n))] dX7_buffer_29 rfl rfl (by decide) rfl ?_
    refine g_iconst C (n' := 31) dX7_buffer_30 rfl ?_
    refine g_istore C (n' := 33) [(4, .int (iI 0)), (3, .int (iI (if z5 = -1 then 1000 else z5))), (2, .int (iI (-1))), (0, .ref (q 99)), (1, .int (iI n))] dX7_buffer_31 rfl (by decide) rfl ?_
    refine g_lv (lv' := [(4, .int (iI ((0 : Nat) : Int))), (3, .int (iI (if z5 = -1 then 1000 else z5))), (2, .int (iI (-1))), (1, .int (iI n)), (0, .ref (q 99))]) [0, 1, 2, 4, 3] rfl ?_
    refine lp_X7_bu C q qt qd qn qs qk qh qp qr K J N n hsJ hsN hO (by omega) (J 5).toNat 0 (sU Ip 3 (J 0)) Js A3 B4 Ns (-1) _ (by omega) (sm_put hsIp (by omega)) hsA3 hsB4 hsJs hsNs ⟨rfl, z5, hz5, rfl⟩ (fun I1 J1 A1 B1 N1 b lo hsI1 hsA1 hsB1 hsJ1 hsN1 hb => ?_)
    refine g_iload_n C (n' := 117) 0 rfl dX7_buffer_116 rfl rfl ?_
    exact g_iret C hr hlk rfl ⟨I1, J1, A1, B1, N1, rfl, hsI1, hsA1, hsB1, hsJ1, hsN1, _, rfl, Or.inr ⟨by omega, lo, hb⟩⟩ dX7_buffer_117
  · skip
    replace c1 := bz_nne.mp c1
    refine g_bipush C (n' := 12) (by decide) dX7_buffer_10 rfl ?_
    exact g_iret C hr hlk rfl ⟨Ip, Js, Ap, Bp, Ns, rfl, hsIp, hsAp, hsBp, hsJs, hsNs, _, rfl, Or.inl ⟨by omega, rfl⟩⟩ dX7_buffer_12
