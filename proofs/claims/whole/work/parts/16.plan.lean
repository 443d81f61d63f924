/-! Planner: bounds laid of a net -/
def okN (J : Nat → Int) (N : Nat → Nat → Int) : Prop := (2 ≤ J 0 ∧ J 0 ≤ 8) ∧ (0 ≤ J 1 ∧ J 1 ≤ 9) ∧ (0 ≤ J 2 ∧ J 2 ≤ 9) ∧ (1 ≤ J 3 ∧ J 3 ≤ 9) ∧ (0 ≤ J 4 ∧ J 4 ≤ 999) ∧ (0 ≤ J 5 ∧ J 5 ≤ 16) ∧ ∀ p : Nat, (p : Int) < J 5 → (0 ≤ N 6 p ∧ N 6 p < J 0) ∧ (0 ≤ N 7 p ∧ N 7 p < J 0) ∧ (0 ≤ N 9 p ∧ N 9 p ≤ N 8 p ∧ N 8 p ≤ 199)
def p_late (J : Nat → Int) (N : Nat → Nat → Int) (u v g : Int) (p : Nat) : Int := u - v * (N 8 p + J 1 + g)
def p_soon (J : Nat → Int) (N : Nat → Nat → Int) (v g : Int) (p : Nat) : Int := v * (N 9 p - J 2 - g)
def layR (J : Nat → Int) (N : Nat → Nat → Int) (u v g : Int) : Prop := ∀ p : Nat, (p : Int) < J 5 → (-1700 ≤ p_late J N u v g p ∧ p_late J N u v g p ≤ 10000) ∧ (-1700 ≤ p_soon J N v g p ∧ p_soon J N v g p ≤ 10000)
def p_ini (B : Nat → Nat → Int) (n a b : Nat) : Nat → Nat → Int := fun i j => if (i < a ∧ j < n) ∨ (i = a ∧ j < b) then 1000000000 else B i j
def p_lb (J : Nat → Int) (N : Nat → Nat → Int) (u v g t : Int) (B0 : Nat → Nat → Int) : Nat → Nat → Nat → Int
  | 0 => B0
  | k + 1 => p_tight (p_tight (p_lb J N u v g t B0 k) (N 6 k).toNat (N 7 k).toNat (p_late J N u v g k / t)) (N 7 k).toNat (N 6 k).toNat (p_soon J N v g k / t)
def p_lay (J : Nat → Int) (N : Nat → Nat → Int) (u v g t : Int) (B : Nat → Nat → Int) : Nat → Nat → Int := p_lb J N u v g t (p_ini B (J 0).toNat (J 0).toNat 0) (J 5).toNat
theorem p_ini_s (B : Nat → Nat → Int) (n a b : Nat) (hb : b < n) : sU (p_ini B n a b) a (sU (p_ini B n a b a) b 1000000000) = p_ini B n a (b + 1) := by
  funext i j
  unfold sU p_ini
  by_cases e : i = a
  · subst e
    rw [if_pos rfl]
    (repeat' split) <;> first | rfl | omega
  · rw [if_neg e]
    (repeat' split) <;> first | rfl | omega
theorem p_ini_r (B : Nat → Nat → Int) (n a : Nat) : p_ini B n a n = p_ini B n (a + 1) 0 := by
  funext i j
  unfold p_ini
  (repeat' split) <;> first | rfl | omega
theorem p_ini_0 (B : Nat → Nat → Int) (n : Nat) : p_ini B n 0 0 = B := by
  funext i j
  unfold p_ini
  rw [if_neg (by omega)]
theorem p_ini_ok {B : Nat → Nat → Int} (h : okB B) (n a b : Nat) : okB (p_ini B n a b) := fun i j => by
  unfold p_ini
  split
  · exact Or.inl rfl
  · exact h i j
theorem p_lb_ok {J : Nat → Int} {N : Nat → Nat → Int} {u v g t : Int} (hl : layR J N u v g) (ht : 1 ≤ t) {B0 : Nat → Nat → Int} (h : okB B0) : ∀ k : Nat, (k : Int) ≤ J 5 → okB (p_lb J N u v g t B0 k)
  | 0, _ => h
  | k + 1, hk => p_tight_ok (p_tight_ok (p_lb_ok hl ht h k (by omega)) (ed_r (hl k (by omega)).1 ht)) (ed_r (hl k (by omega)).2 ht)
theorem p_lay_ok {J : Nat → Int} {N : Nat → Nat → Int} (hN : okN J N) {u v g t : Int} (hl : layR J N u v g) (ht : 1 ≤ t) {B : Nat → Nat → Int} (h : okB B) : okB (p_lay J N u v g t B) := p_lb_ok hl ht (p_ini_ok h _ _ _) _ (by have := hN.2.2.2.2.2.1; omega)
set_option maxRecDepth 100000 in
set_option maxHeartbeats 4000000 in
theorem lp_X3_lb_i {p9 : Program} {l : Launch} {e9 : Env} {s9 : State} {m9 : MethodId} {a9 : Array Value} {b9 : List Frame} {t9 : Method} {c9 : Code} {D : va_G} {A9 : Nat → Prop} {Q9 : State → Prop} {E : (Nat → Prop) → State → Heap → Prop} {Y : Nat → ClassId} (C : g_Cx p9 s9 m9 a9 c9 cX3_layBounds 11 RX3 D (tysY Y) A9 E) (q : Nat → Nat) (I : Nat → Int) (A B : Nat → Nat → Int) (q2 : Nat → Nat) (J : Nat → Int) (N : Nat → Nat → Int) (u v g t : Int) (a : Nat) (hsI : smI I) (hsA : smA A) (hsB : okB B) (hsJ : smI J) (hsN : smA N) (hN : okN J N) (hl : layR J N u v g) (ht : 1 ≤ t ∧ t ≤ 9) (ha : (a : Int) < J 0) : ∀ (n9 : Nat) (b : Nat), (b : Int) + n9 = J 0 → (g_G p9 l e9 ({ frames := 2, cells := 0, slots := 0, locals := 46 } : Room) s9 m9 a9 b9 t9 c9 11 D A9 Q9 0 0 ((wPlan q Y (sU I 3 (J 0)) A (p_ini B (J 0).toNat a (J 0).toNat)) ++ (wNet q2 Y J N)) [(7, .int (iI (((J 0).toNat : Nat) : Int))), (6, .int (iI ((a : Nat) : Int))), (0, .ref (q 99)), (1, .ref (q2 99)), (2, .int (iI u)), (3, .int (iI v)), (4, .int (iI g)), (5, .int (iI t))] 50 []) → g_G p9 l e9 ({ frames := 2, cells := 0, slots := 0, locals := 46 } : Room) s9 m9 a9 b9 t9 c9 11 D A9 Q9 0 0 ((wPlan q Y (sU I 3 (J 0)) A (p_ini B (J 0).toNat a b)) ++ (wNet q2 Y J N)) [(7, .int (iI ((b : Nat) : Int))), (6, .int (iI ((a : Nat) : Int))), (0, .ref (q 99)), (1, .ref (q2 99)), (2, .int (iI u)), (3, .int (iI v)), (4, .int (iI g)), (5, .int (iI t))] 23 [] := by
  have hE := C.2.2.2.2.2.2.2.2.1
  intro n9
  induction n9 with
  | zero =>
    intro b hb K
    have hI := hsI
    have hA := hsA
    have hB := hsB
    unfold smI at hI
    unfold smA at hA
    unfold okB at hB
    have hJ := hsJ
    have hN9 := hN
    unfold smI at hJ
    unfold okN at hN9
    refine g_iload C (n' := 25) 0 rfl dX3_layBounds_23 rfl ?_
    refine g_aload_n C (n' := 26) 2 rfl dX3_layBounds_25 rfl rfl ?_
    refine g_get C (n' := 29) (Cn := RX3) (T := TX3) (N := 7) (ci := 2) (v := .int (iI (J 0))) ga_X3 0 rfl rfl 3 (by decide) kw_142 rfl rfl dX3_layBounds_26 rfl ?_
    have h_26 := hJ 0
    refine g_icmp_ge C (n' := 32) 50 dX3_layBounds_29 (by decide) rfl (by unfold inR; omega) (by unfold inR; omega) (fun c1 => ?_) (fun c1 => ?_)
    · skip
      have eb : b = (J 0).toNat := by omega
      rw [eb]
      exact K
    · skip
      exfalso
      omega
  | succ n9 ih =>
    intro b hb K
    have hI := hsI
    have hA := hsA
    have hB := hsB
    unfold smI at hI
    unfold smA at hA
    unfold okB at hB
    have hJ := hsJ
    have hN9 := hN
    unfold smI at hJ
    unfold okN at hN9
    refine g_iload C (n' := 25) 0 rfl dX3_layBounds_23 rfl ?_
    refine g_aload_n C (n' := 26) 2 rfl dX3_layBounds_25 rfl rfl ?_
    refine g_get C (n' := 29) (Cn := RX3) (T := TX3) (N := 7) (ci := 2) (v := .int (iI (J 0))) ga_X3 0 rfl rfl 3 (by decide) kw_142 rfl rfl dX3_layBounds_26 rfl ?_
    have h_26 := hJ 0
    refine g_icmp_ge C (n' := 32) 50 dX3_layBounds_29 (by decide) rfl (by unfold inR; omega) (by unfold inR; omega) (fun c1 => ?_) (fun c1 => ?_)
    · skip
      exfalso
      omega
    · skip
      refine g_aload_n C (n' := 33) 2 rfl dX3_layBounds_32 rfl rfl ?_
      refine g_get C (n' := 36) (Cn := RX3) (T := TX3) (N := 7) (ci := 2) (v := .ref (q 0)) ga_X3 0 rfl rfl 0 (by decide) kw_139 rfl rfl dX3_layBounds_33 rfl ?_
      refine g_iload C (n' := 38) 1 rfl dX3_layBounds_36 rfl ?_
      refine g_aalAN C (n' := 39) (v := q (20 + a)) 1 7 rfl rfl (by omega) (by decide) (if_pos (by omega)) dX3_layBounds_38 rfl ?_
      refine g_iload C (n' := 41) 0 rfl dX3_layBounds_39 rfl ?_
      refine g_ldc C (n' := 43) 1000000000 (by decide) kw_455 dX3_layBounds_41 rfl ?_
      refine g_iastN C (n' := 44) (4 + a) 0 (pl_row2 (by omega)) rfl (by omega) (by decide) rfl dX3_layBounds_43 rfl ((wPlan q Y (sU I 3 (J 0)) A (sU (p_ini B (J 0).toNat a b) a (sU ((p_ini B (J 0).toNat a b) a) b 1000000000))) ++ (wNet q2 Y J N)) (pl_set2 (by omega)) ?_
      refine g_iinc C (n' := 47) 0 [(7, .int (iI (((b : Nat) : Int) + 1))), (6, .int (iI ((a : Nat) : Int))), (0, .ref (q 99)), (1, .ref (q2 99)), (2, .int (iI u)), (3, .int (iI v)), (4, .int (iI g)), (5, .int (iI t))] rfl dX3_layBounds_44 rfl (by decide) rfl ?_
      refine g_goto C 23 dX3_layBounds_47 (by decide) ?_
      rw [show ((sU (p_ini B (J 0).toNat a b) a (sU ((p_ini B (J 0).toNat a b) a) b 1000000000)) : Nat → Nat → Int) = p_ini B (J 0).toNat a (b + 1) from p_ini_s B _ _ _ (by omega)]
      refine g_lv (lv' := [(7, .int (iI ((b + 1 : Nat) : Int))), (6, .int (iI ((a : Nat) : Int))), (0, .ref (q 99)), (1, .ref (q2 99)), (2, .int (iI u)), (3, .int (iI v)), (4, .int (iI g)), (5, .int (iI t))]) [0, 1, 2, 3, 4, 5, 6, 7] rfl ?_
      exact ih (b + 1) (by omega) K
set_option maxRecDepth 100000 in
set_option maxHeartbeats 4000000 in
theorem lp_X3_lb_o {p9 : Program} {l : Launch} {e9 : Env} {s9 : State} {m9 : MethodId} {a9 : Array Value} {b9 : List Frame} {t9 : Method} {c9 : Code} {D : va_G} {A9 : Nat → Prop} {Q9 : State → Prop} {E : (Nat → Prop) → State → Heap → Prop} {Y : Nat → ClassId} (C : g_Cx p9 s9 m9 a9 c9 cX3_layBounds 11 RX3 D (tysY Y) A9 E) (q : Nat → Nat) (I : Nat → Int) (A B : Nat → Nat → Int) (q2 : Nat → Nat) (J : Nat → Int) (N : Nat → Nat → Int) (u v g t : Int) (hsI : smI I) (hsA : smA A) (hsB : okB B) (hsJ : smI J) (hsN : smA N) (hN : okN J N) (hl : layR J N u v g) (ht : 1 ≤ t ∧ t ≤ 9) : ∀ (n9 : Nat) (a : Nat), (a : Int) + n9 = J 0 → (g_G p9 l e9 ({ frames := 2, cells := 0, slots := 0, locals := 46 } : Room) s9 m9 a9 b9 t9 c9 11 D A9 Q9 0 0 ((wPlan q Y (sU I 3 (J 0)) A (p_ini B (J 0).toNat (J 0).toNat 0)) ++ (wNet q2 Y J N)) [(6, .int (iI (((J 0).toNat : Nat) : Int))), (0, .ref (q 99)), (1, .ref (q2 99)), (2, .int (iI u)), (3, .int (iI v)), (4, .int (iI g)), (5, .int (iI t))] 56 []) → g_G p9 l e9 ({ frames := 2, cells := 0, slots := 0, locals := 46 } : Room) s9 m9 a9 b9 t9 c9 11 D A9 Q9 0 0 ((wPlan q Y (sU I 3 (J 0)) A (p_ini B (J 0).toNat a 0)) ++ (wNet q2 Y J N)) [(6, .int (iI ((a : Nat) : Int))), (0, .ref (q 99)), (1, .ref (q2 99)), (2, .int (iI u)), (3, .int (iI v)), (4, .int (iI g)), (5, .int (iI t))] 11 [] := by
  have hE := C.2.2.2.2.2.2.2.2.1
  intro n9
  induction n9 with
  | zero =>
    intro a ha K
    have hI := hsI
    have hA := hsA
    have hB := hsB
    unfold smI at hI
    unfold smA at hA
    unfold okB at hB
    have hJ := hsJ
    have hN9 := hN
    unfold smI at hJ
    unfold okN at hN9
    refine g_iload C (n' := 13) 0 rfl dX3_layBounds_11 rfl ?_
    refine g_aload_n C (n' := 14) 1 rfl dX3_layBounds_13 rfl rfl ?_
    refine g_get C (n' := 17) (Cn := RX3) (T := TX3) (N := 7) (ci := 2) (v := .int (iI (J 0))) ga_X3 0 rfl rfl 3 (by decide) kw_142 rfl rfl dX3_layBounds_14 rfl ?_
    have h_14 := hJ 0
    refine g_icmp_ge C (n' := 20) 56 dX3_layBounds_17 (by decide) rfl (by unfold inR; omega) (by unfold inR; omega) (fun c1 => ?_) (fun c1 => ?_)
    · skip
      have ea : a = (J 0).toNat := by omega
      rw [ea]
      exact K
    · skip
      exfalso
      omega
  | succ n9 ih =>
    intro a ha K
    have hI := hsI
    have hA := hsA
    have hB := hsB
    unfold smI at hI
    unfold smA at hA
    unfold okB at hB
    have hJ := hsJ
    have hN9 := hN
    unfold smI at hJ
    unfold okN at hN9
    refine g_iload C (n' := 13) 0 rfl dX3_layBounds_11 rfl ?_
    refine g_aload_n C (n' := 14) 1 rfl dX3_layBounds_13 rfl rfl ?_
    refine g_get C (n' := 17) (Cn := RX3) (T := TX3) (N := 7) (ci := 2) (v := .int (iI (J 0))) ga_X3 0 rfl rfl 3 (by decide) kw_142 rfl rfl dX3_layBounds_14 rfl ?_
    have h_14 := hJ 0
    refine g_icmp_ge C (n' := 20) 56 dX3_layBounds_17 (by decide) rfl (by unfold inR; omega) (by unfold inR; omega) (fun c1 => ?_) (fun c1 => ?_)
    · skip
      exfalso
      omega
    · skip
      refine g_iconst C (n' := 21) dX3_layBounds_20 rfl ?_
      refine g_istore C (n' := 23) [(7, .int (iI 0)), (6, .int (iI ((a : Nat) : Int))), (0, .ref (q 99)), (1, .ref (q2 99)), (2, .int (iI u)), (3, .int (iI v)), (4, .int (iI g)), (5, .int (iI t))] dX3_layBounds_21 rfl (by decide) rfl ?_
      refine g_lv (lv' := [(7, .int (iI ((0 : Nat) : Int))), (6, .int (iI ((a : Nat) : Int))), (0, .ref (q 99)), (1, .ref (q2 99)), (2, .int (iI u)), (3, .int (iI v)), (4, .int (iI g)), (5, .int (iI t))]) [0, 1, 2, 3, 4, 5, 6, 7] rfl ?_
      refine lp_X3_lb_i C q I A B q2 J N u v g t a hsI hsA hsB hsJ hsN hN hl ht (by omega) (J 0).toNat 0 (by omega) ?_
      refine g_iinc C (n' := 53) 1 [(6, .int (iI (((a : Nat) : Int) + 1))), (7, .int (iI (((J 0).toNat : Nat) : Int))), (0, .ref (q 99)), (1, .ref (q2 99)), (2, .int (iI u)), (3, .int (iI v)), (4, .int (iI g)), (5, .int (iI t))] rfl dX3_layBounds_50 rfl (by decide) rfl ?_
      refine g_goto C 11 dX3_layBounds_53 (by decide) ?_
      rw [p_ini_r]
      refine g_lv (lv' := [(6, .int (iI ((a + 1 : Nat) : Int))), (0, .ref (q 99)), (1, .ref (q2 99)), (2, .int (iI u)), (3, .int (iI v)), (4, .int (iI g)), (5, .int (iI t))]) [0, 2, 3, 4, 5, 6, 7] rfl ?_
      exact ih (a + 1) (by omega) K
set_option maxRecDepth 100000 in
set_option maxHeartbeats 4000000 in
theorem lp_X3_lb_p {p9 : Program} {l : Launch} {e9 : Env} {s9 : State} {m9 : MethodId} {a9 : Array Value} {b9 : List Frame} {t9 : Method} {c9 : Code} {D : va_G} {A9 : Nat → Prop} {Q9 : State → Prop} {E : (Nat → Prop) → State → Heap → Prop} {Y : Nat → ClassId} (C : g_Cx p9 s9 m9 a9 c9 cX3_layBounds 11 RX3 D (tysY Y) A9 E) (q : Nat → Nat) (I : Nat → Int) (A B : Nat → Nat → Int) (q2 : Nat → Nat) (J : Nat → Int) (N : Nat → Nat → Int) (u v g t : Int) (hsI : smI I) (hsA : smA A) (hsB : okB B) (hsJ : smI J) (hsN : smA N) (hN : okN J N) (hl : layR J N u v g) (ht : 1 ≤ t ∧ t ≤ 9) : ∀ (n9 : Nat) (k : Nat), (k : Int) + n9 = J 5 → (g_G p9 l e9 ({ frames := 2, cells := 0, slots := 0, locals := 46 } : Room) s9 m9 a9 b9 t9 c9 11 D A9 Q9 0 0 ((wPlan q Y (sU I 3 (J 0)) A (p_lb J N u v g t (p_ini B (J 0).toNat (J 0).toNat 0) (J 5).toNat)) ++ (wNet q2 Y J N)) [(6, .int (iI (((J 5).toNat : Nat) : Int))), (0, .ref (q 99)), (1, .ref (q2 99)), (2, .int (iI u)), (3, .int (iI v)), (4, .int (iI g)), (5, .int (iI t))] 150 []) → g_G p9 l e9 ({ frames := 2, cells := 0, slots := 0, locals := 46 } : Room) s9 m9 a9 b9 t9 c9 11 D A9 Q9 0 0 ((wPlan q Y (sU I 3 (J 0)) A (p_lb J N u v g t (p_ini B (J 0).toNat (J 0).toNat 0) k)) ++ (wNet q2 Y J N)) [(6, .int (iI ((k : Nat) : Int))), (0, .ref (q 99)), (1, .ref (q2 99)), (2, .int (iI u)), (3, .int (iI v)), (4, .int (iI g)), (5, .int (iI t))] 59 [] := by
  have hE := C.2.2.2.2.2.2.2.2.1
  intro n9
  induction n9 with
  | zero =>
    intro k hk K
    have hI := hsI
    have hA := hsA
    have hB := hsB
    unfold smI at hI
    unfold smA at hA
    unfold okB at hB
    have hJ := hsJ
    have hN9 := hN
    unfold smI at hJ
    unfold okN at hN9
    refine g_iload C (n' := 61) 0 rfl dX3_layBounds_59 rfl ?_
    refine g_aload_n C (n' := 62) 2 rfl dX3_layBounds_61 rfl rfl ?_
    refine g_getN C (n' := 65) (Cn := RX2) (T := TX2) (N := 10) (ci := 1) (v := .int (iI (J 5))) ga_X2 12 rfl rfl 5 (by decide) (List.mem_of_getElem? (i := 12) rfl) rfl rfl dX3_layBounds_62 rfl ?_
    have h_62 := hJ 5
    refine g_icmp_ge C (n' := 68) 150 dX3_layBounds_65 (by decide) rfl (by unfold inR; omega) (by unfold inR; omega) (fun c1 => ?_) (fun c1 => ?_)
    · skip
      have ek : k = (J 5).toNat := by omega
      rw [ek]
      exact K
    · skip
      exfalso
      omega
  | succ n9 ih =>
    intro k hk K
    have hI := hsI
    have hA := hsA
    have hB := hsB
    unfold smI at hI
    unfold smA at hA
    unfold okB at hB
    have hJ := hsJ
    have hN9 := hN
    unfold smI at hJ
    unfold okN at hN9
    refine g_iload C (n' := 61) 0 rfl dX3_layBounds_59 rfl ?_
    refine g_aload_n C (n' := 62) 2 rfl dX3_layBounds_61 rfl rfl ?_
    refine g_getN C (n' := 65) (Cn := RX2) (T := TX2) (N := 10) (ci := 1) (v := .int (iI (J 5))) ga_X2 12 rfl rfl 5 (by decide) (List.mem_of_getElem? (i := 12) rfl) rfl rfl dX3_layBounds_62 rfl ?_
    have h_62 := hJ 5
    refine g_icmp_ge C (n' := 68) 150 dX3_layBounds_65 (by decide) rfl (by unfold inR; omega) (by unfold inR; omega) (fun c1 => ?_) (fun c1 => ?_)
    · skip
      exfalso
      omega
    · skip
      have hp9 := hN9.2.2.2.2.2.2 k (by omega)
      have hL9 := hl k (by omega)
      refine g_aload_n C (n' := 69) 2 rfl dX3_layBounds_68 rfl rfl ?_
      refine g_getN C (n' := 72) (Cn := RX2) (T := TX2) (N := 10) (ci := 1) (v := .ref (q2 6)) ga_X2 12 rfl rfl 6 (by decide) (List.mem_of_getElem? (i := 15) rfl) rfl rfl dX3_layBounds_69 rfl ?_
      refine g_iload C (n' := 74) 0 rfl dX3_layBounds_72 rfl ?_
      refine g_ialdN C (n' := 75) (f := (N 6)) (j := k) 13 0 rfl rfl (by omega) (by decide) rfl dX3_layBounds_74 rfl ?_
      refine g_istore C (n' := 77) [(7, .int (iI ((N 6) k))), (6, .int (iI ((k : Nat) : Int))), (0, .ref (q 99)), (1, .ref (q2 99)), (2, .int (iI u)), (3, .int (iI v)), (4, .int (iI g)), (5, .int (iI t))] dX3_layBounds_75 rfl (by decide) rfl ?_
      refine g_aload_n C (n' := 78) 3 rfl dX3_layBounds_77 rfl rfl ?_
      refine g_getN C (n' := 81) (Cn := RX2) (T := TX2) (N := 10) (ci := 1) (v := .ref (q2 7)) ga_X2 12 rfl rfl 7 (by decide) (List.mem_of_getElem? (i := 17) rfl) rfl rfl dX3_layBounds_78 rfl ?_
      refine g_iload C (n' := 83) 1 rfl dX3_layBounds_81 rfl ?_
      refine g_ialdN C (n' := 84) (f := (N 7)) (j := k) 14 0 rfl rfl (by omega) (by decide) rfl dX3_layBounds_83 rfl ?_
      refine g_istore C (n' := 86) [(8, .int (iI ((N 7) k))), (7, .int (iI ((N 6) k))), (6, .int (iI ((k : Nat) : Int))), (0, .ref (q 99)), (1, .ref (q2 99)), (2, .int (iI u)), (3, .int (iI v)), (4, .int (iI g)), (5, .int (iI t))] dX3_layBounds_84 rfl (by decide) rfl ?_
      refine g_iload_n C (n' := 87) 5 rfl dX3_layBounds_86 rfl rfl ?_
      refine g_iload_n C (n' := 88) 6 rfl dX3_layBounds_87 rfl rfl ?_
      refine g_aload_n C (n' := 89) 4 rfl dX3_layBounds_88 rfl rfl ?_
      refine g_getN C (n' := 92) (Cn := RX2) (T := TX2) (N := 10) (ci := 1) (v := .ref (q2 8)) ga_X2 12 rfl rfl 8 (by decide) (List.mem_of_getElem? (i := 19) rfl) rfl rfl dX3_layBounds_89 rfl ?_
      refine g_iload C (n' := 94) 2 rfl dX3_layBounds_92 rfl ?_
      refine g_ialdN C (n' := 95) (f := (N 8)) (j := k) 15 0 rfl rfl (by omega) (by decide) rfl dX3_layBounds_94 rfl ?_
      refine g_aload_n C (n' := 96) 4 rfl dX3_layBounds_95 rfl rfl ?_
      refine g_getN C (n' := 99) (Cn := RX2) (T := TX2) (N := 10) (ci := 1) (v := .int (iI (J 1))) ga_X2 12 rfl rfl 1 (by decide) (List.mem_of_getElem? (i := 4) rfl) rfl rfl dX3_layBounds_96 rfl ?_
      have h_96 := hJ 1
      refine g_iadd C (n' := 100) dX3_layBounds_99 rfl ?_
      refine g_iload C (n' := 102) 7 rfl dX3_layBounds_100 rfl ?_
      refine g_iadd C (n' := 103) dX3_layBounds_102 rfl ?_
      refine g_imul C (n' := 104) dX3_layBounds_103 rfl ?_
      refine g_isub C (n' := 105) dX3_layBounds_104 rfl ?_
      refine g_istore C (n' := 107) [(9, .int (iI (u - (v * ((((N 8) k) + (J 1)) + g))))), (8, .int (iI ((N 7) k))), (7, .int (iI ((N 6) k))), (6, .int (iI ((k : Nat) : Int))), (0, .ref (q 99)), (1, .ref (q2 99)), (2, .int (iI u)), (3, .int (iI v)), (4, .int (iI g)), (5, .int (iI t))] dX3_layBounds_105 rfl (by decide) rfl ?_
      refine g_iload_n C (n' := 108) 7 rfl dX3_layBounds_107 rfl rfl ?_
      refine g_aload_n C (n' := 109) 5 rfl dX3_layBounds_108 rfl rfl ?_
      refine g_iload C (n' := 111) 3 rfl dX3_layBounds_109 rfl ?_
      refine g_cVv C (n' := 114) (v := .int (iI (n_soon J N ((k : Nat) : Int)))) (c_X2_soonBound l D Y C.2.2.2.2.2.2.2.2.1 q2 J N ((k : Nat) : Int) (by omega) (by omega)) 1 kw_456 kc_X2_soonBound (by decide +kernel) List.perm_append_comm 0 (ci := 1) rfl rfl rfl rfl ⟨Nat.le_of_ble_eq_true rfl, Nat.le_of_ble_eq_true rfl⟩ ⟨rfl, rfl⟩ ⟨Nat.le_of_ble_eq_true rfl, Nat.le_of_ble_eq_true rfl⟩ (Nat.le_of_ble_eq_true rfl) dX3_layBounds_111 rfl rfl ((wPlan q Y (sU I 3 (J 0)) A (p_lb J N u v g t (p_ini B (J 0).toNat (J 0).toNat 0) k)) ++ (wNet q2 Y J N)) List.perm_append_comm.symm ?_
      refine g_iload C (n' := 116) 8 rfl dX3_layBounds_114 rfl ?_
      refine g_isub C (n' := 117) dX3_layBounds_116 rfl ?_
      refine g_imul C (n' := 118) dX3_layBounds_117 rfl ?_
      refine g_istore C (n' := 120) [(10, .int (iI (v * ((n_soon J N ((k : Nat) : Int)) - g)))), (9, .int (iI (u - (v * ((((N 8) k) + (J 1)) + g))))), (8, .int (iI ((N 7) k))), (7, .int (iI ((N 6) k))), (6, .int (iI ((k : Nat) : Int))), (0, .ref (q 99)), (1, .ref (q2 99)), (2, .int (iI u)), (3, .int (iI v)), (4, .int (iI g)), (5, .int (iI t))] dX3_layBounds_118 rfl (by decide) rfl ?_
      refine g_aload_n C (n' := 121) 5 rfl dX3_layBounds_120 rfl rfl ?_
      refine g_iload C (n' := 123) 3 rfl dX3_layBounds_121 rfl ?_
      refine g_iload C (n' := 125) 2 rfl dX3_layBounds_123 rfl ?_
      refine g_iload C (n' := 127) 1 rfl dX3_layBounds_125 rfl ?_
      refine g_iload C (n' := 129) 10 rfl dX3_layBounds_127 rfl ?_
      refine g_cVn C (n' := 132) (c_X3_tighten l D Y C.2.2.2.2.2.2.2.2.1 q (sU I 3 (J 0)) A (p_lb J N u v g t (p_ini B (J 0).toNat (J 0).toNat 0) k) ((N 6) k) ((N 7) k) (u - (v * ((((N 8) k) + (J 1)) + g))) t (sm_put hsI (by omega)) hsA (p_lb_ok hl ht.1 (p_ini_ok hsB _ _ _) k (by omega)) (by omega) (by omega) hL9.1 ht) 4 kw_457 kc_X3_tighten (by decide +kernel) (List.Perm.refl _) 0 (ci := 2) rfl rfl rfl rfl ⟨Nat.le_of_ble_eq_true rfl, Nat.le_of_ble_eq_true rfl⟩ ⟨rfl, rfl⟩ ⟨Nat.le_of_ble_eq_true rfl, Nat.le_of_ble_eq_true rfl⟩ (Nat.le_of_ble_eq_true rfl) dX3_layBounds_129 rfl rfl ((wPlan q Y (sU I 3 (J 0)) A (p_tight (p_lb J N u v g t (p_ini B (J 0).toNat (J 0).toNat 0) k) ((N 6) k).toNat ((N 7) k).toNat ((u - (v * ((((N 8) k) + (J 1)) + g))) / t))) ++ (wNet q2 Y J N)) (List.Perm.refl _).symm ?_
      have hf2 : okB (p_tight (p_lb J N u v g t (p_ini B (J 0).toNat (J 0).toNat 0) k) ((N 6) k).toNat ((N 7) k).toNat ((u - (v * ((((N 8) k) + (J 1)) + g))) / t)) := p_tight_ok (p_lb_ok hl ht.1 (p_ini_ok hsB _ _ _) k (by omega)) (ed_r hL9.1 ht.1)
      refine g_aload_n C (n' := 133) 5 rfl dX3_layBounds_132 rfl rfl ?_
      refine g_iload C (n' := 135) 2 rfl dX3_layBounds_133 rfl ?_
      refine g_iload C (n' := 137) 3 rfl dX3_layBounds_135 rfl ?_
      refine g_iload C (n' := 139) 0 rfl dX3_layBounds_137 rfl ?_
      refine g_iload C (n' := 141) 10 rfl dX3_layBounds_139 rfl ?_
      refine g_cVn C (n' := 144) (c_X3_tighten l D Y C.2.2.2.2.2.2.2.2.1 q (sU I 3 (J 0)) A (p_tight (p_lb J N u v g t (p_ini B (J 0).toNat (J 0).toNat 0) k) ((N 6) k).toNat ((N 7) k).toNat ((u - (v * ((((N 8) k) + (J 1)) + g))) / t)) ((N 7) k) ((N 6) k) (v * ((n_soon J N ((k : Nat) : Int)) - g)) t (sm_put hsI (by omega)) hsA hf2 (by omega) (by omega) hL9.2 ht) 4 kw_457 kc_X3_tighten (by decide +kernel) (List.Perm.refl _) 0 (ci := 2) rfl rfl rfl rfl ⟨Nat.le_of_ble_eq_true rfl, Nat.le_of_ble_eq_true rfl⟩ ⟨rfl, rfl⟩ ⟨Nat.le_of_ble_eq_true rfl, Nat.le_of_ble_eq_true rfl⟩ (Nat.le_of_ble_eq_true rfl) dX3_layBounds_141 rfl rfl ((wPlan q Y (sU I 3 (J 0)) A (p_tight (p_tight (p_lb J N u v g t (p_ini B (J 0).toNat (J 0).toNat 0) k) ((N 6) k).toNat ((N 7) k).toNat ((u - (v * ((((N 8) k) + (J 1)) + g))) / t)) ((N 7) k).toNat ((N 6) k).toNat ((v * ((n_soon J N ((k : Nat) : Int)) - g)) / t))) ++ (wNet q2 Y J N)) (List.Perm.refl _).symm ?_
      have hf3 : okB (p_tight (p_tight (p_lb J N u v g t (p_ini B (J 0).toNat (J 0).toNat 0) k) ((N 6) k).toNat ((N 7) k).toNat ((u - (v * ((((N 8) k) + (J 1)) + g))) / t)) ((N 7) k).toNat ((N 6) k).toNat ((v * ((n_soon J N ((k : Nat) : Int)) - g)) / t)) := p_tight_ok hf2 (ed_r hL9.2 ht.1)
      refine g_iinc C (n' := 147) 4 [(6, .int (iI (((k : Nat) : Int) + 1))), (10, .int (iI (v * ((n_soon J N ((k : Nat) : Int)) - g)))), (9, .int (iI (u - (v * ((((N 8) k) + (J 1)) + g))))), (8, .int (iI ((N 7) k))), (7, .int (iI ((N 6) k))), (0, .ref (q 99)), (1, .ref (q2 99)), (2, .int (iI u)), (3, .int (iI v)), (4, .int (iI g)), (5, .int (iI t))] rfl dX3_layBounds_144 rfl (by decide) rfl ?_
      refine g_goto C 59 dX3_layBounds_147 (by decide) ?_
      refine g_lv (lv' := [(6, .int (iI ((k + 1 : Nat) : Int))), (0, .ref (q 99)), (1, .ref (q2 99)), (2, .int (iI u)), (3, .int (iI v)), (4, .int (iI g)), (5, .int (iI t))]) [0, 5, 6, 7, 8, 9, 10] rfl ?_
      exact ih (k + 1) (by omega) K
set_option maxRecDepth 100000 in
set_option maxHeartbeats 4000000 in
theorem c_X3_layBounds (l : Launch) (D : va_G) (Y : Nat → ClassId) {E : (Nat → Prop) → State → Heap → Prop} (hE : g_Stab E) (q : Nat → Nat) (I : Nat → Int) (A : Nat → Nat → Int) (B : Nat → Nat → Int) (q2 : Nat → Nat) (J : Nat → Int) (N : Nat → Nat → Int) (u : Int) (v : Int) (g : Int) (t : Int) (hsI : smI I) (hsA : smA A) (hsB : okB B) (hsJ : smI J) (hsN : smA N) (hN : okN J N) (hl : layR J N u v g) (ht : 1 ≤ t ∧ t ≤ 9) : g_Ct l yX3_layBounds cX3_layBounds 11 none ({ frames := 2, cells := 0, slots := 0, locals := 46 } : Room) D (tysY Y) E [.ref (q 99), .ref (q2 99), .int (iI u), .int (iI v), .int (iI g), .int (iI t)] ((wPlan q Y I A B) ++ (wNet q2 Y J N)) 0 0 (g_det none ((wPlan q Y (sU I 3 (J 0)) A (p_lay J N u v g t B)) ++ (wNet q2 Y J N))) := by
  refine g_ofG (own := RX3) hE (by decide) rfl (Nat.le_of_ble_eq_true rfl) [(0, .ref (q 99)), (1, .ref (q2 99)), (2, .int (iI u)), (3, .int (iI v)), (4, .int (iI g)), (5, .int (iI t))] rfl ?_
  intro p9 e9 s9 m9 b9 t9 c9 A9 C hr hlk hnm
  have hI := hsI
  have hA := hsA
  have hB := hsB
  unfold smI at hI
  unfold smA at hA
  unfold okB at hB
  have hJ := hsJ
  have hN9 := hN
  unfold smI at hJ
  unfold okN at hN9
  refine g_aload_n C (n' := 1) 0 rfl dX3_layBounds_0 rfl rfl ?_
  refine g_aload_n C (n' := 2) 1 rfl dX3_layBounds_1 rfl rfl ?_
  refine g_getN C (n' := 5) (Cn := RX2) (T := TX2) (N := 10) (ci := 1) (v := .int (iI (J 0))) ga_X2 12 rfl rfl 0 (by decide) (List.mem_of_getElem? (i := 2) rfl) rfl rfl dX3_layBounds_2 rfl ?_
  have h_2 := hJ 0
  refine g_put C (n' := 8) (Cn := RX3) (T := TX3) (N := 7) (ci := 2) (v := .int (iI (J 0))) ga_X3 0 rfl rfl 3 (by decide) kw_142 rfl tyX3 tyX3_ok nmX3 rfl rfl rfl rfl (Nat.le_of_ble_eq_true rfl) ((wPlan q Y (sU I 3 (J 0)) A B) ++ (wNet q2 Y J N)) rfl dX3_layBounds_5 rfl ?_
  refine g_iconst C (n' := 9) dX3_layBounds_8 rfl ?_
  refine g_istore C (n' := 11) [(6, .int (iI 0)), (0, .ref (q 99)), (1, .ref (q2 99)), (2, .int (iI u)), (3, .int (iI v)), (4, .int (iI g)), (5, .int (iI t))] dX3_layBounds_9 rfl (by decide) rfl ?_
  refine g_wd (w' := ((wPlan q Y (sU I 3 (J 0)) A (p_ini B (J 0).toNat 0 0)) ++ (wNet q2 Y J N))) (by rw [p_ini_0]) ?_
  refine g_lv (lv' := [(6, .int (iI ((0 : Nat) : Int))), (0, .ref (q 99)), (1, .ref (q2 99)), (2, .int (iI u)), (3, .int (iI v)), (4, .int (iI g)), (5, .int (iI t))]) [0, 1, 2, 3, 4, 5, 6] rfl ?_
  refine lp_X3_lb_o C q I A B q2 J N u v g t hsI hsA hsB hsJ hsN hN hl ht (J 0).toNat 0 (by omega) ?_
  refine g_iconst C (n' := 57) dX3_layBounds_56 rfl ?_
  refine g_istore C (n' := 59) [(6, .int (iI 0)), (0, .ref (q 99)), (1, .ref (q2 99)), (2, .int (iI u)), (3, .int (iI v)), (4, .int (iI g)), (5, .int (iI t))] dX3_layBounds_57 rfl (by decide) rfl ?_
  refine g_lv (lv' := [(6, .int (iI ((0 : Nat) : Int))), (0, .ref (q 99)), (1, .ref (q2 99)), (2, .int (iI u)), (3, .int (iI v)), (4, .int (iI g)), (5, .int (iI t))]) [0, 1, 2, 3, 4, 5, 6] rfl ?_
  refine lp_X3_lb_p C q I A B q2 J N u v g t hsI hsA hsB hsJ hsN hN hl ht (J 5).toNat 0 (by omega) ?_
  refine g_vret C hr hlk ⟨rfl, ?_⟩ dX3_layBounds_150
  first | rfl | omega | ((repeat' split) <;> first | rfl | omega | (exfalso; omega))
