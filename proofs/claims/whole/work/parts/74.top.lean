/-! SkewPlan: its cells; the text, the net's deeds -/
def wTop (q : Nat → Nat) (Y : Nat → ClassId) (qt qd qn qs : Nat → Nat) (qk : Nat → Nat → Nat) (qh qp : Nat → Nat) (qr : Nat → Nat → Nat) (K : Nat → Int) : va_W := [(q 99, .inr (5, [.ref (qt 99), .ref (qd 99), .ref (qn 99), .ref (qs 99), .ref (q 4), .ref (q 5), .ref (qh 99), .ref (qp 99), .ref (q 8)])), (q 4, .inl (Y 5, 2, .inr (.inr (.inr (.inr (fun i => if i < 2 then some (qk i 99) else none)))))), (q 5, .inl (Y 2, 2, .inl (iA K))), (q 8, .inl (Y 6, 3, .inr (.inr (.inr (.inr (fun i => if i < 3 then some (qr i 99) else none))))))]
theorem rdG_tk {L : Nat → Int} {n : Int} : ∀ (f : Nat) (c : Int) (X : Int × Int × Int × (Nat → Int) × (Nat → Nat → Int)), (0 ≤ X.2.1 ∧ X.2.1 ≤ X.2.2.1 ∧ X.2.2.1 ≤ n) → 0 ≤ (rdG L n f c X).2.1 ∧ (rdG L n f c X).2.1 ≤ n
  | 0, c, X, h => by
    show 0 ≤ X.2.1 ∧ X.2.1 ≤ n
    omega
  | f + 1, c, X, h => by
    rw [rdG]
    split
    · show 0 ≤ X.2.1 ∧ X.2.1 ≤ n
      omega
    · exact rdG_tk f _ _ (rcF_tk (tk_n (by omega))).1
theorem rdA_tk {L : Nat → Int} {n : Int} {J : Nat → Int} {N : Nat → Nat → Int} (hn : 0 ≤ n) : 0 ≤ (rdA L n J N).2.1 ∧ (rdA L n J N).2.1 ≤ n := rdG_tk _ _ _ (rcF_tk (tk_n ⟨Int.le_refl _, hn⟩)).1
set_option maxRecDepth 100000 in
set_option maxHeartbeats 4000000 in
theorem c_X7_isPath (l : Launch) (D : va_G) (Y : Nat → ClassId) {E : (Nat → Prop) → State → Heap → Prop} (hE : g_Stab E) (q : Nat → Nat) (qt qd qn qs : Nat → Nat) (qk : Nat → Nat → Nat) (qh qp : Nat → Nat) (qr : Nat → Nat → Nat) (K : Nat → Int) (J : Nat → Int) (N : Nat → Nat → Int) (x : Int) (hsJ : smI J) (hsN : smA N) (hO : okN J N) (hx : inR x) : g_Ct l yX7_isPath cX7_isPath 2 (some FieldType.boolean) ({ frames := 1, cells := 0, slots := 0, locals := 22 } : Room) D (tysY Y) E [.ref (q 99), .int (iI x)] ((wTop q Y qt qd qn qs qk qh qp qr K) ++ (wNet qn Y J N)) 0 0 (g_det (some (.int (iI (if 0 ≤ x ∧ x ≤ J 5 - 1 then 1 else 0)))) ((wTop q Y qt qd qn qs qk qh qp qr K) ++ (wNet qn Y J N))) := by
  refine g_ofG (own := RX7) hE (by decide) rfl (Nat.le_of_ble_eq_true rfl) [(0, .ref (q 99)), (1, .int (iI x))] rfl ?_
  intro p9 e9 s9 m9 b9 t9 c9 A9 C hr hlk hnm
  have hJ := hsJ
  unfold smI at hJ
  have hN := hsN
  unfold smA at hN
  have hO9 := hO
  unfold okN at hO9
  have hx9 := hx
  unfold inR at hx9
  refine g_iload_n C (n' := 1) 1 rfl dX7_isPath_0 rfl rfl ?_
  refine g_iconst C (n' := 2) dX7_isPath_1 rfl ?_
  refine g_aload_n C (n' := 3) 0 rfl dX7_isPath_2 rfl rfl ?_
  refine g_get C (n' := 6) (Cn := RX7) (T := TX7) (N := 9) (ci := 5) (v := .ref (qn 99)) ga_X7 0 rfl rfl 2 (by decide) kw_187 rfl rfl dX7_isPath_3 rfl ?_
  refine g_getN C (n' := 9) (Cn := RX2) (T := TX2) (N := 10) (ci := 1) (v := .int (iI (J 5))) ga_X2 4 rfl rfl 5 (by decide) (List.mem_of_getElem? (i := 13) rfl) rfl rfl dX7_isPath_6 rfl ?_
  have h_6 := hJ 5
  refine g_iconst C (n' := 10) dX7_isPath_9 rfl ?_
  refine g_isub C (n' := 11) dX7_isPath_10 rfl ?_
  refine g_cSv C (n' := 14) (v := .int (iI (if 0 ≤ x ∧ x ≤ ((J 5) - 1) then 1 else 0))) (c_X7_isWithin l D Y C.2.2.2.2.2.2.2.2.1 x 0 ((J 5) - 1) hx (by unfold inR at *; omega) (by unfold inR at *; omega)) 3 kw_217 kc_X7_isWithin (by decide +kernel) (pm_n _) rfl ⟨Nat.le_of_ble_eq_true rfl, Nat.le_of_ble_eq_true rfl⟩ ⟨rfl, rfl⟩ ⟨Nat.le_of_ble_eq_true rfl, Nat.le_of_ble_eq_true rfl⟩ (Nat.le_of_ble_eq_true rfl) dX7_isPath_11 rfl rfl ((wTop q Y qt qd qn qs qk qh qp qr K) ++ (wNet qn Y J N)) (pm_n _) ?_
  refine g_iret C hr hlk (nar_z bz_01) ⟨congrArg (fun z : Int => some (Value.int (iI z))) ?_, ?_⟩ dX7_isPath_14
  · first | rfl | omega | ((repeat' split) <;> first | rfl | omega | (exfalso; omega))
  · first | rfl | omega | ((repeat' split) <;> first | rfl | omega | (exfalso; omega))
set_option maxRecDepth 100000 in
set_option maxHeartbeats 4000000 in
theorem c_X7_write (l : Launch) (D : va_G) (Y : Nat → ClassId) {E : (Nat → Prop) → State → Heap → Prop} (hE : g_Stab E) (q : Nat → Nat) (qt qd qn qs : Nat → Nat) (qk : Nat → Nat → Nat) (qh qp : Nat → Nat) (qr : Nat → Nat → Nat) (K : Nat → Int) (It : Nat → Int) (L : Nat → Int) (x : Int) (hsIt : smI It) (hsL : smL L) (h1 : 0 ≤ It 1 ∧ It 1 ≤ 200) (hx : inR x) : g_Ct l yX7_write cX7_write 2 (some FieldType.int) ({ frames := 1, cells := 0, slots := 0, locals := 22 } : Room) D (tysY Y) E [.ref (q 99), .int (iI x)] ((wTop q Y qt qd qn qs qk qh qp qr K) ++ (wText qt Y It L)) 0 0 (fun r9 w9 => (¬ (0 ≤ x ∧ x ≤ 255) ∧ r9 = some (.int (iI (-3))) ∧ w9 = ((wTop q Y qt qd qn qs qk qh qp qr K) ++ (wText qt Y It L))) ∨ ((0 ≤ x ∧ x ≤ 255) ∧ ((¬ It 1 < 200 ∧ r9 = some (.int (iI (-5))) ∧ w9 = ((wTop q Y qt qd qn qs qk qh qp qr K) ++ (wText qt Y It L))) ∨ (It 1 < 200 ∧ r9 = some (.int (iI (It 1 + 1))) ∧ w9 = ((wTop q Y qt qd qn qs qk qh qp qr K) ++ (wText qt Y (sU It 1 (It 1 + 1)) (sU L (It 1).toNat x))))))) := by
  refine g_ofG (own := RX7) hE (by decide) rfl (Nat.le_of_ble_eq_true rfl) [(0, .ref (q 99)), (1, .int (iI x))] rfl ?_
  intro p9 e9 s9 m9 b9 t9 c9 A9 C hr hlk hnm
  have hIt := hsIt
  unfold smI at hIt
  have hL := hsL
  unfold smL at hL
  have hx9 := hx
  unfold inR at hx9
  refine g_iload_n C (n' := 1) 1 rfl dX7_write_0 rfl rfl ?_
  refine g_iconst C (n' := 2) dX7_write_1 rfl ?_
  refine g_sipush C (n' := 5) (by decide) dX7_write_2 rfl ?_
  refine g_cSv C (n' := 8) (v := .int (iI (if 0 ≤ x ∧ x ≤ 255 then 1 else 0))) (c_X7_isWithin l D Y C.2.2.2.2.2.2.2.2.1 x 0 255 hx (by unfold inR at *; omega) (by unfold inR at *; omega)) 3 kw_217 kc_X7_isWithin (by decide +kernel) (pm_n _) rfl ⟨Nat.le_of_ble_eq_true rfl, Nat.le_of_ble_eq_true rfl⟩ ⟨rfl, rfl⟩ ⟨Nat.le_of_ble_eq_true rfl, Nat.le_of_ble_eq_true rfl⟩ (Nat.le_of_ble_eq_true rfl) dX7_write_5 rfl rfl ((wTop q Y qt qd qn qs qk qh qp qr K) ++ (wText qt Y It L)) (pm_n _) ?_
  refine g_if_ne C (n' := 11) 14 dX7_write_8 (by decide) rfl bz_r (fun c1 => ?_) (fun c1 => ?_)
  · skip
    replace c1 := bz_ne.mp c1
    refine g_aload_n C (n' := 15) 0 rfl dX7_write_14 rfl rfl ?_
    refine g_get C (n' := 18) (Cn := RX7) (T := TX7) (N := 9) (ci := 5) (v := .ref (qt 99)) ga_X7 0 rfl rfl 0 (by decide) kw_185 rfl rfl dX7_write_15 rfl ?_
    refine g_iload_n C (n' := 19) 1 rfl dX7_write_18 rfl rfl ?_
    refine g_i2c C (n' := 20) (by omega) (by omega) dX7_write_19 rfl ?_
    refine g_cVv C (n' := 23) (v := .int (iI (if (It 1) < 200 then 1 else 0))) (c_X4_append l D Y C.2.2.2.2.2.2.2.2.1 qt It L x hsIt hsL h1 (by omega)) 1 kw_220 kc_X4_append (by decide +kernel) List.perm_append_comm 0 (ci := 3) rfl rfl rfl rfl ⟨Nat.le_of_ble_eq_true rfl, Nat.le_of_ble_eq_true rfl⟩ ⟨rfl, rfl⟩ ⟨Nat.le_of_ble_eq_true rfl, Nat.le_of_ble_eq_true rfl⟩ (Nat.le_of_ble_eq_true rfl) dX7_write_20 rfl rfl ((wTop q Y qt qd qn qs qk qh qp qr K) ++ (wText qt Y (t_appI It) (t_appL It L x))) List.perm_append_comm.symm ?_
    refine g_if_eq C (n' := 26) 36 dX7_write_23 (by decide) rfl bz_r (fun c2 => ?_) (fun c2 => ?_)
    · skip
      replace c2 := bz_eq.mp c2
      refine g_bipush C (n' := 38) (by decide) dX7_write_36 rfl ?_
      exact g_iret C hr hlk rfl (Or.inr ⟨by omega, Or.inl ⟨by omega, rfl, by unfold t_appI t_appL; rw [if_neg (by omega), if_neg (by omega)]⟩⟩) dX7_write_38
    · skip
      replace c2 := bz_neq.mp c2
      refine g_aload_n C (n' := 27) 0 rfl dX7_write_26 rfl rfl ?_
      refine g_get C (n' := 30) (Cn := RX7) (T := TX7) (N := 9) (ci := 5) (v := .ref (qt 99)) ga_X7 0 rfl rfl 0 (by decide) kw_185 rfl rfl dX7_write_27 rfl ?_
      refine g_cVv C (n' := 33) (v := .int (iI (((t_appI It) 1)))) (c_X4_letterCount l D Y C.2.2.2.2.2.2.2.2.1 qt (t_appI It) (t_appL It L x)) 0 kw_224 kc_X4_letterCount (by decide +kernel) List.perm_append_comm 0 (ci := 3) rfl rfl rfl rfl ⟨Nat.le_of_ble_eq_true rfl, Nat.le_of_ble_eq_true rfl⟩ ⟨rfl, rfl⟩ ⟨Nat.le_of_ble_eq_true rfl, Nat.le_of_ble_eq_true rfl⟩ (Nat.le_of_ble_eq_true rfl) dX7_write_30 rfl rfl ((wTop q Y qt qd qn qs qk qh qp qr K) ++ (wText qt Y (t_appI It) (t_appL It L x))) List.perm_append_comm.symm ?_
      refine g_goto C 38 dX7_write_33 (by decide) ?_
      exact g_iret C hr hlk rfl (Or.inr ⟨by omega, Or.inr ⟨by omega, by unfold t_appI; rw [if_pos (by omega)]; rfl, by unfold t_appI t_appL; rw [if_pos (by omega), if_pos (by omega)]⟩⟩) dX7_write_38
  · skip
    replace c1 := bz_nne.mp c1
    refine g_bipush C (n' := 13) (by decide) dX7_write_11 rfl ?_
    exact g_iret C hr hlk rfl (Or.inl ⟨by omega, rfl, rfl⟩) dX7_write_13
set_option maxRecDepth 100000 in
set_option maxHeartbeats 4000000 in
theorem c_X7_erase (l : Launch) (D : va_G) (Y : Nat → ClassId) {E : (Nat → Prop) → State → Heap → Prop} (hE : g_Stab E) (q : Nat → Nat) (qt qd qn qs : Nat → Nat) (qk : Nat → Nat → Nat) (qh qp : Nat → Nat) (qr : Nat → Nat → Nat) (K : Nat → Int) (It : Nat → Int) (L : Nat → Int) : g_Ct l yX7_erase cX7_erase 2 (some FieldType.int) ({ frames := 1, cells := 0, slots := 0, locals := 20 } : Room) D (tysY Y) E [.ref (q 99)] ((wTop q Y qt qd qn qs qk qh qp qr K) ++ (wText qt Y It L)) 0 0 (g_det (some (.int (iI (It 1)))) ((wTop q Y qt qd qn qs qk qh qp qr K) ++ (wText qt Y (sU It 1 0) L))) := by
  refine g_ofG (own := RX7) hE (by decide) rfl (Nat.le_of_ble_eq_true rfl) [(0, .ref (q 99))] rfl ?_
  intro p9 e9 s9 m9 b9 t9 c9 A9 C hr hlk hnm
  refine g_aload_n C (n' := 1) 0 rfl dX7_erase_0 rfl rfl ?_
  refine g_get C (n' := 4) (Cn := RX7) (T := TX7) (N := 9) (ci := 5) (v := .ref (qt 99)) ga_X7 0 rfl rfl 0 (by decide) kw_185 rfl rfl dX7_erase_1 rfl ?_
  refine g_cVv C (n' := 7) (v := .int (iI ((It 1)))) (c_X4_letterCount l D Y C.2.2.2.2.2.2.2.2.1 qt It L) 0 kw_224 kc_X4_letterCount (by decide +kernel) List.perm_append_comm 0 (ci := 3) rfl rfl rfl rfl ⟨Nat.le_of_ble_eq_true rfl, Nat.le_of_ble_eq_true rfl⟩ ⟨rfl, rfl⟩ ⟨Nat.le_of_ble_eq_true rfl, Nat.le_of_ble_eq_true rfl⟩ (Nat.le_of_ble_eq_true rfl) dX7_erase_4 rfl rfl ((wTop q Y qt qd qn qs qk qh qp qr K) ++ (wText qt Y It L)) List.perm_append_comm.symm ?_
  refine g_istore_n C (n' := 8) [(1, .int (iI ((It 1)))), (0, .ref (q 99))] dX7_erase_7 rfl rfl (by decide) rfl ?_
  refine g_aload_n C (n' := 9) 1 rfl dX7_erase_8 rfl rfl ?_
  refine g_get C (n' := 12) (Cn := RX7) (T := TX7) (N := 9) (ci := 5) (v := .ref (qt 99)) ga_X7 0 rfl rfl 0 (by decide) kw_185 rfl rfl dX7_erase_9 rfl ?_
  refine g_cVn C (n' := 15) (c_X4_clear l D Y C.2.2.2.2.2.2.2.2.1 qt It L) 0 kw_232 kc_X4_clear (by decide +kernel) List.perm_append_comm 0 (ci := 3) rfl rfl rfl rfl ⟨Nat.le_of_ble_eq_true rfl, Nat.le_of_ble_eq_true rfl⟩ ⟨rfl, rfl⟩ ⟨Nat.le_of_ble_eq_true rfl, Nat.le_of_ble_eq_true rfl⟩ (Nat.le_of_ble_eq_true rfl) dX7_erase_12 rfl rfl ((wTop q Y qt qd qn qs qk qh qp qr K) ++ (wText qt Y (sU It 1 0) L)) List.perm_append_comm.symm ?_
  refine g_iload_n C (n' := 16) 0 rfl dX7_erase_15 rfl rfl ?_
  refine g_iret C hr hlk rfl ⟨congrArg (fun z : Int => some (Value.int (iI z))) ?_, ?_⟩ dX7_erase_16
  · first | rfl | omega | ((repeat' split) <;> first | rfl | omega | (exfalso; omega))
  · first | rfl | omega | ((repeat' split) <;> first | rfl | omega | (exfalso; omega))
set_option maxRecDepth 100000 in
set_option maxHeartbeats 4000000 in
theorem c_X7_fault (l : Launch) (D : va_G) (Y : Nat → ClassId) {E : (Nat → Prop) → State → Heap → Prop} (hE : g_Stab E) (q : Nat → Nat) (qt qd qn qs : Nat → Nat) (qk : Nat → Nat → Nat) (qh qp : Nat → Nat) (qr : Nat → Nat → Nat) (K : Nat → Int) (It : Nat → Int) (L : Nat → Int) (Jd : Nat → Int) (Nd : Nat → Nat → Int) (Js : Nat → Int) (Ns : Nat → Nat → Int) (e : Nat → Nat) (hsIt : smI It) (hsL : smL L) (h1 : 0 ≤ It 1 ∧ It 1 ≤ 200) (hsJd : smI Jd) (hsNd : smA Nd) (hOd : okN Jd Nd) (hsJs : smI Js) (hsNs : smA Ns) (hW : g_Env E e) : g_Ct l yX7_fault cX7_fault 1 (some FieldType.int) ({ frames := 11, cells := 0, slots := 0, locals := 256 } : Room) D (tysY Y) E [.ref (q 99)] ((wTop q Y qt qd qn qs qk qh qp qr K) ++ ((wText qt Y It L) ++ ((wNet qd Y Jd Nd) ++ (wNet qs Y Js Ns)))) 0 0 (fun r9 w9 => ∃ (I1 J1 : Nat → Int) (N1 : Nat → Nat → Int), (smI I1 ∧ I1 1 = It 1) ∧ (smI J1 ∧ smA N1 ∧ okN J1 N1) ∧ w9 = ((wTop q Y qt qd qn qs qk qh qp qr K) ++ ((wText qt Y I1 L) ++ ((wNet qd Y Jd Nd) ++ (wNet qs Y J1 N1)))) ∧ r9 = some (.int (iI (if (rdA L (It 1) (n_cpI Js Jd) (n_cpA Ns Nd)).1 = 0 then (rdA L (It 1) (n_cpI Js Jd) (n_cpA Ns Nd)).2.1 else -1)))) := by
  refine g_ofG (own := RX7) hE (by decide) rfl (Nat.le_of_ble_eq_true rfl) [(0, .ref (q 99))] rfl ?_
  intro p9 e9 s9 m9 b9 t9 c9 A9 C hr hlk hnm
  have hIt := hsIt
  unfold smI at hIt
  have hL := hsL
  unfold smL at hL
  have hJd := hsJd
  unfold smI at hJd
  have hNd := hsNd
  unfold smA at hNd
  have hOd9 := hOd
  unfold okN at hOd9
  have hJs := hsJs
  unfold smI at hJs
  have hNs := hsNs
  unfold smA at hNs
  refine g_aload_n C (n' := 1) 0 rfl dX7_fault_0 rfl rfl ?_
  refine g_get C (n' := 4) (Cn := RX7) (T := TX7) (N := 9) (ci := 5) (v := .ref (qt 99)) ga_X7 0 rfl rfl 0 (by decide) kw_185 rfl rfl dX7_fault_1 rfl ?_
  refine g_aload_n C (n' := 5) 0 rfl dX7_fault_4 rfl rfl ?_
  refine g_get C (n' := 8) (Cn := RX7) (T := TX7) (N := 9) (ci := 5) (v := .ref (qd 99)) ga_X7 0 rfl rfl 1 (by decide) kw_186 rfl rfl dX7_fault_5 rfl ?_
  refine g_aload_n C (n' := 9) 0 rfl dX7_fault_8 rfl rfl ?_
  refine g_get C (n' := 12) (Cn := RX7) (T := TX7) (N := 9) (ci := 5) (v := .ref (qs 99)) ga_X7 0 rfl rfl 3 (by decide) kw_188 rfl rfl dX7_fault_9 rfl ?_
  refine g_callV C (n' := 15) (c_X4_read l D Y C.2.2.2.2.2.2.2.2.1 qt It L qd Jd Nd qs Js Ns e hsIt hsL h1 hsJd hsNd hOd hsJs hsNs hW) 2 kw_240 kc_X4_read (by decide +kernel) ((((pm_s (pm_s List.perm_append_comm)).trans (pm_s (pm_s List.perm_append_comm))).trans (pm_s (pm_s List.perm_append_comm))).trans (List.Perm.of_eq (show (((wText qt Y It L) ++ ((wNet qd Y Jd Nd) ++ ((wNet qs Y Js Ns) ++ (wTop q Y qt qd qn qs qk qh qp qr K)))) : va_W) = ((wText qt Y It L) ++ ((wNet qd Y Jd Nd) ++ (wNet qs Y Js Ns))) ++ (wTop q Y qt qd qn qs qk qh qp qr K) by simp only [List.append_assoc, List.append_nil]))) 0 (ci := 3) rfl rfl rfl rfl ⟨Nat.le_of_ble_eq_true rfl, Nat.le_of_ble_eq_true rfl⟩ ⟨rfl, rfl⟩ ⟨Nat.le_of_ble_eq_true rfl, Nat.le_of_ble_eq_true rfl⟩ (Nat.le_of_ble_eq_true rfl) dX7_fault_12 rfl (fun r9 w9 hp1 => ?_)
  obtain ⟨I1, J1, N1, rfl, ⟨hsI1, hI11⟩, ⟨hsJ1, hsN1, hO1⟩, hxx⟩ := hp1
  have hI1 := hsI1
  unfold smI at hI1
  refine g_perm (w' := ((wTop q Y qt qd qn qs qk qh qp qr K) ++ ((wText qt Y I1 L) ++ ((wNet qd Y Jd Nd) ++ (wNet qs Y J1 N1))))) ((((pm_s (pm_s List.perm_append_comm)).trans (pm_s (pm_s List.perm_append_comm))).trans (pm_s (pm_s List.perm_append_comm))).trans (List.Perm.of_eq (show (((wText qt Y I1 L) ++ ((wNet qd Y Jd Nd) ++ ((wNet qs Y J1 N1) ++ (wTop q Y qt qd qn qs qk qh qp qr K)))) : va_W) = ((wText qt Y I1 L) ++ ((wNet qd Y Jd Nd) ++ (wNet qs Y J1 N1))) ++ (wTop q Y qt qd qn qs qk qh qp qr K) by simp only [List.append_assoc, List.append_nil]))).symm ?_
  rcases hxx with ⟨hx1, rfl⟩ | ⟨hx1, rfl, hx2, hx3, hx4⟩
  · skip
    refine g_st (st' := [.int (iI ((rdA L ((It 1)) (n_cpI Js Jd) (n_cpA Ns Nd)).2.1))]) rfl ?_
    exact g_iret C hr hlk rfl ⟨I1, J1, N1, ⟨hsI1, hI11⟩, ⟨hsJ1, hsN1, hO1⟩, rfl, by rw [if_pos hx1]⟩ dX7_fault_15
  · skip
    refine g_st (st' := [.int (iI (-1))]) rfl ?_
    exact g_iret C hr hlk rfl ⟨I1, J1, N1, ⟨hsI1, hI11⟩, ⟨hsJ1, hsN1, hO1⟩, rfl, by rw [if_neg (by omega)]⟩ dX7_fault_15
set_option maxRecDepth 100000 in
set_option maxHeartbeats 4000000 in
theorem c_X7_net (l : Launch) (D : va_G) (Y : Nat → ClassId) {E : (Nat → Prop) → State → Heap → Prop} (hE : g_Stab E) (q : Nat → Nat) (qt qd qn qs : Nat → Nat) (qk : Nat → Nat → Nat) (qh qp : Nat → Nat) (qr : Nat → Nat → Nat) (K : Nat → Int) (It : Nat → Int) (L : Nat → Int) (Jd : Nat → Int) (Nd : Nat → Nat → Int) (J : Nat → Int) (N : Nat → Nat → Int) (Js : Nat → Int) (Ns : Nat → Nat → Int) (Ih : Nat → Int) (Ah : Nat → Nat → Int) (Ir0 : Nat → Int) (V0 : Nat → UInt64) (M0 : Nat → Int) (Ir1 : Nat → Int) (V1 : Nat → UInt64) (M1 : Nat → Int) (Ir2 : Nat → Int) (V2 : Nat → UInt64) (M2 : Nat → Int) (e : Nat → Nat) (hsIt : smI It) (hsL : smL L) (h1 : 0 ≤ It 1 ∧ It 1 ≤ 200) (hsJd : smI Jd) (hsNd : smA Nd) (hOd : okN Jd Nd) (hsJs : smI Js) (hsNs : smA Ns) (hW : g_Env E e) : g_Ct l yX7_net cX7_net 2 (some FieldType.int) ({ frames := 11, cells := 0, slots := 0, locals := 256 } : Room) D (tysY Y) E [.ref (q 99)] ((wTop q Y qt qd qn qs qk qh qp qr K) ++ ((wText qt Y It L) ++ ((wNet qd Y Jd Nd) ++ ((wNet qn Y J N) ++ ((wNet qs Y Js Ns) ++ ((wHist qh Y Ih Ah) ++ ((wTrace (qr 0) Y Ir0 V0 M0) ++ ((wTrace (qr 1) Y Ir1 V1 M1) ++ (wTrace (qr 2) Y Ir2 V2 M2))))))))) 0 0 (fun r9 w9 => ∃ (I1 J1 : Nat → Int) (N1 : Nat → Nat → Int), (smI I1 ∧ I1 1 = It 1) ∧ (smI J1 ∧ smA N1 ∧ okN J1 N1) ∧ (((rdA L (It 1) (n_cpI Js Jd) (n_cpA Ns Nd)).1 = 0 ∧ r9 = some (.int (iI (-4))) ∧ w9 = ((wTop q Y qt qd qn qs qk qh qp qr K) ++ ((wText qt Y I1 L) ++ ((wNet qd Y Jd Nd) ++ ((wNet qn Y J N) ++ ((wNet qs Y J1 N1) ++ ((wHist qh Y Ih Ah) ++ ((wTrace (qr 0) Y Ir0 V0 M0) ++ ((wTrace (qr 1) Y Ir1 V1 M1) ++ (wTrace (qr 2) Y Ir2 V2 M2)))))))))) ∨ ((rdA L (It 1) (n_cpI Js Jd) (n_cpA Ns Nd)).1 = 1 ∧ r9 = some (.int (iI ((rdA L (It 1) (n_cpI Js Jd) (n_cpA Ns Nd)).2.2.1))) ∧ J1 = (rdA L (It 1) (n_cpI Js Jd) (n_cpA Ns Nd)).2.2.2.1 ∧ N1 = (rdA L (It 1) (n_cpI Js Jd) (n_cpA Ns Nd)).2.2.2.2 ∧ w9 = ((wTop q Y qt qd qn qs qk qh qp qr (sU (sU K 0 0) 1 0)) ++ ((wText qt Y (sU I1 1 0) L) ++ ((wNet qd Y (n_cpI Jd J1) (n_cpA Nd N1)) ++ ((wNet qn Y (n_cpI J (n_cpI Jd J1)) (n_cpA N (n_cpA Nd N1))) ++ ((wNet qs Y J1 N1) ++ ((wHist qh Y (sU Ih 3 0) Ah) ++ ((wTrace (qr 0) Y (sU (sU Ir0 2 0) 4 0) V0 M0) ++ ((wTrace (qr 1) Y (sU (sU Ir1 2 0) 4 0) V1 M1) ++ (wTrace (qr 2) Y (sU (sU Ir2 2 0) 4 0) V2 M2)))))))))))) := by
  refine g_ofG (own := RX7) hE (by decide) rfl (Nat.le_of_ble_eq_true rfl) [(0, .ref (q 99))] rfl ?_
  intro p9 e9 s9 m9 b9 t9 c9 A9 C hr hlk hnm
  have hIt := hsIt
  unfold smI at hIt
  have hL := hsL
  unfold smL at hL
  have hJd := hsJd
  unfold smI at hJd
  have hNd := hsNd
  unfold smA at hNd
  have hOd9 := hOd
  unfold okN at hOd9
  have hJs := hsJs
  unfold smI at hJs
  have hNs := hsNs
  unfold smA at hNs
  have htk := rdA_tk (L := L) (J := n_cpI Js Jd) (N := n_cpA Ns Nd) h1.1
  refine g_aload_n C (n' := 1) 0 rfl dX7_net_0 rfl rfl ?_
  refine g_get C (n' := 4) (Cn := RX7) (T := TX7) (N := 9) (ci := 5) (v := .ref (qt 99)) ga_X7 0 rfl rfl 0 (by decide) kw_185 rfl rfl dX7_net_1 rfl ?_
  refine g_aload_n C (n' := 5) 0 rfl dX7_net_4 rfl rfl ?_
  refine g_get C (n' := 8) (Cn := RX7) (T := TX7) (N := 9) (ci := 5) (v := .ref (qd 99)) ga_X7 0 rfl rfl 1 (by decide) kw_186 rfl rfl dX7_net_5 rfl ?_
  refine g_aload_n C (n' := 9) 0 rfl dX7_net_8 rfl rfl ?_
  refine g_get C (n' := 12) (Cn := RX7) (T := TX7) (N := 9) (ci := 5) (v := .ref (qs 99)) ga_X7 0 rfl rfl 3 (by decide) kw_188 rfl rfl dX7_net_9 rfl ?_
  refine g_callV C (n' := 15) (c_X4_read l D Y C.2.2.2.2.2.2.2.2.1 qt It L qd Jd Nd qs Js Ns e hsIt hsL h1 hsJd hsNd hOd hsJs hsNs hW) 2 kw_240 kc_X4_read (by decide +kernel) ((((pm_s (pm_s (pm_s (pm_s (List.Perm.refl _))))).trans (pm_s (pm_s (pm_s (List.Perm.refl _))))).trans (pm_s (pm_s (pm_s (List.Perm.refl _))))).trans (List.Perm.of_eq (show (((wText qt Y It L) ++ ((wNet qd Y Jd Nd) ++ ((wNet qs Y Js Ns) ++ ((wTop q Y qt qd qn qs qk qh qp qr K) ++ ((wNet qn Y J N) ++ ((wHist qh Y Ih Ah) ++ ((wTrace (qr 0) Y Ir0 V0 M0) ++ ((wTrace (qr 1) Y Ir1 V1 M1) ++ (wTrace (qr 2) Y Ir2 V2 M2))))))))) : va_W) = ((wText qt Y It L) ++ ((wNet qd Y Jd Nd) ++ (wNet qs Y Js Ns))) ++ ((wTop q Y qt qd qn qs qk qh qp qr K) ++ ((wNet qn Y J N) ++ ((wHist qh Y Ih Ah) ++ ((wTrace (qr 0) Y Ir0 V0 M0) ++ ((wTrace (qr 1) Y Ir1 V1 M1) ++ (wTrace (qr 2) Y Ir2 V2 M2)))))) by simp only [List.append_assoc, List.append_nil]))) 0 (ci := 3) rfl rfl rfl rfl ⟨Nat.le_of_ble_eq_true rfl, Nat.le_of_ble_eq_true rfl⟩ ⟨rfl, rfl⟩ ⟨Nat.le_of_ble_eq_true rfl, Nat.le_of_ble_eq_true rfl⟩ (Nat.le_of_ble_eq_true rfl) dX7_net_12 rfl (fun r9 w9 hp1 => ?_)
  obtain ⟨I1, J1, N1, rfl, ⟨hsI1, hI11⟩, ⟨hsJ1, hsN1, hO1⟩, hxx⟩ := hp1
  have hI1 := hsI1
  unfold smI at hI1
  refine g_perm (w' := ((wTop q Y qt qd qn qs qk qh qp qr K) ++ ((wText qt Y I1 L) ++ ((wNet qd Y Jd Nd) ++ ((wNet qn Y J N) ++ ((wNet qs Y J1 N1) ++ ((wHist qh Y Ih Ah) ++ ((wTrace (qr 0) Y Ir0 V0 M0) ++ ((wTrace (qr 1) Y Ir1 V1 M1) ++ (wTrace (qr 2) Y Ir2 V2 M2)))))))))) ((((pm_s (pm_s (pm_s (pm_s (List.Perm.refl _))))).trans (pm_s (pm_s (pm_s (List.Perm.refl _))))).trans (pm_s (pm_s (pm_s (List.Perm.refl _))))).trans (List.Perm.of_eq (show (((wText qt Y I1 L) ++ ((wNet qd Y Jd Nd) ++ ((wNet qs Y J1 N1) ++ ((wTop q Y qt qd qn qs qk qh qp qr K) ++ ((wNet qn Y J N) ++ ((wHist qh Y Ih Ah) ++ ((wTrace (qr 0) Y Ir0 V0 M0) ++ ((wTrace (qr 1) Y Ir1 V1 M1) ++ (wTrace (qr 2) Y Ir2 V2 M2))))))))) : va_W) = ((wText qt Y I1 L) ++ ((wNet qd Y Jd Nd) ++ (wNet qs Y J1 N1))) ++ ((wTop q Y qt qd qn qs qk qh qp qr K) ++ ((wNet qn Y J N) ++ ((wHist qh Y Ih Ah) ++ ((wTrace (qr 0) Y Ir0 V0 M0) ++ ((wTrace (qr 1) Y Ir1 V1 M1) ++ (wTrace (qr 2) Y Ir2 V2 M2)))))) by simp only [List.append_assoc, List.append_nil]))).symm ?_
  rcases hxx with ⟨hx1, rfl⟩ | ⟨hx1, rfl, hx2, hx3, hx4⟩
  · skip
    refine g_st (st' := [.int (iI ((rdA L ((It 1)) (n_cpI Js Jd) (n_cpA Ns Nd)).2.1))]) rfl ?_
    refine g_iconst C (n' := 16) dX7_net_15 rfl ?_
    refine g_icmp_eq C (n' := 19) 22 dX7_net_16 (by decide) rfl (by unfold inR; omega) (by unfold inR; omega) (fun c2 => ?_) (fun c2 => ?_)
    · skip
      exfalso
      omega
    · skip
      refine g_bipush C (n' := 21) (by decide) dX7_net_19 rfl ?_
      exact g_iret C hr hlk rfl ⟨I1, J1, N1, ⟨hsI1, hI11⟩, ⟨hsJ1, hsN1, hO1⟩, Or.inl ⟨hx1, rfl, rfl⟩⟩ dX7_net_21
  · skip
    refine g_st (st' := [.int (iI (-1))]) rfl ?_
    refine g_iconst C (n' := 16) dX7_net_15 rfl ?_
    refine g_icmp_eq C (n' := 19) 22 dX7_net_16 (by decide) rfl (by unfold inR; omega) (by unfold inR; omega) (fun c3 => ?_) (fun c3 => ?_)
    · skip
      refine g_aload_n C (n' := 23) 0 rfl dX7_net_22 rfl rfl ?_
      refine g_get C (n' := 26) (Cn := RX7) (T := TX7) (N := 9) (ci := 5) (v := .ref (qd 99)) ga_X7 0 rfl rfl 1 (by decide) kw_186 rfl rfl dX7_net_23 rfl ?_
      refine g_aload_n C (n' := 27) 0 rfl dX7_net_26 rfl rfl ?_
      refine g_get C (n' := 30) (Cn := RX7) (T := TX7) (N := 9) (ci := 5) (v := .ref (qs 99)) ga_X7 0 rfl rfl 3 (by decide) kw_188 rfl rfl dX7_net_27 rfl ?_
      refine g_cVn C (n' := 33) (c_X2_copyFrom l D Y C.2.2.2.2.2.2.2.2.1 qd Jd Nd qs J1 N1) 1 kw_363 kc_X2_copyFrom (by decide +kernel) (((pm_s (pm_s (pm_s (pm_s (List.Perm.refl _))))).trans (pm_s (pm_s (pm_s (List.Perm.refl _))))).trans (List.Perm.of_eq (show (((wNet qd Y Jd Nd) ++ ((wNet qs Y J1 N1) ++ ((wTop q Y qt qd qn qs qk qh qp qr K) ++ ((wText qt Y I1 L) ++ ((wNet qn Y J N) ++ ((wHist qh Y Ih Ah) ++ ((wTrace (qr 0) Y Ir0 V0 M0) ++ ((wTrace (qr 1) Y Ir1 V1 M1) ++ (wTrace (qr 2) Y Ir2 V2 M2))))))))) : va_W) = ((wNet qd Y Jd Nd) ++ (wNet qs Y J1 N1)) ++ ((wTop q Y qt qd qn qs qk qh qp qr K) ++ ((wText qt Y I1 L) ++ ((wNet qn Y J N) ++ ((wHist qh Y Ih Ah) ++ ((wTrace (qr 0) Y Ir0 V0 M0) ++ ((wTrace (qr 1) Y Ir1 V1 M1) ++ (wTrace (qr 2) Y Ir2 V2 M2))))))) by simp only [List.append_assoc, List.append_nil]))) 0 (ci := 1) rfl rfl rfl rfl ⟨Nat.le_of_ble_eq_true rfl, Nat.le_of_ble_eq_true rfl⟩ ⟨rfl, rfl⟩ ⟨Nat.le_of_ble_eq_true rfl, Nat.le_of_ble_eq_true rfl⟩ (Nat.le_of_ble_eq_true rfl) dX7_net_30 rfl rfl ((wTop q Y qt qd qn qs qk qh qp qr K) ++ ((wText qt Y I1 L) ++ ((wNet qd Y (n_cpI Jd J1) (n_cpA Nd N1)) ++ ((wNet qn Y J N) ++ ((wNet qs Y J1 N1) ++ ((wHist qh Y Ih Ah) ++ ((wTrace (qr 0) Y Ir0 V0 M0) ++ ((wTrace (qr 1) Y Ir1 V1 M1) ++ (wTrace (qr 2) Y Ir2 V2 M2))))))))) (((pm_s (pm_s (pm_s (pm_s (List.Perm.refl _))))).trans (pm_s (pm_s (pm_s (List.Perm.refl _))))).trans (List.Perm.of_eq (show (((wNet qd Y (n_cpI Jd J1) (n_cpA Nd N1)) ++ ((wNet qs Y J1 N1) ++ ((wTop q Y qt qd qn qs qk qh qp qr K) ++ ((wText qt Y I1 L) ++ ((wNet qn Y J N) ++ ((wHist qh Y Ih Ah) ++ ((wTrace (qr 0) Y Ir0 V0 M0) ++ ((wTrace (qr 1) Y Ir1 V1 M1) ++ (wTrace (qr 2) Y Ir2 V2 M2))))))))) : va_W) = ((wNet qd Y (n_cpI Jd J1) (n_cpA Nd N1)) ++ (wNet qs Y J1 N1)) ++ ((wTop q Y qt qd qn qs qk qh qp qr K) ++ ((wText qt Y I1 L) ++ ((wNet qn Y J N) ++ ((wHist qh Y Ih Ah) ++ ((wTrace (qr 0) Y Ir0 V0 M0) ++ ((wTrace (qr 1) Y Ir1 V1 M1) ++ (wTrace (qr 2) Y Ir2 V2 M2))))))) by simp only [List.append_assoc, List.append_nil]))).symm ?_
      refine g_aload_n C (n' := 34) 0 rfl dX7_net_33 rfl rfl ?_
      refine g_get C (n' := 37) (Cn := RX7) (T := TX7) (N := 9) (ci := 5) (v := .ref (qn 99)) ga_X7 0 rfl rfl 2 (by decide) kw_187 rfl rfl dX7_net_34 rfl ?_
      refine g_aload_n C (n' := 38) 0 rfl dX7_net_37 rfl rfl ?_
      refine g_get C (n' := 41) (Cn := RX7) (T := TX7) (N := 9) (ci := 5) (v := .ref (qd 99)) ga_X7 0 rfl rfl 1 (by decide) kw_186 rfl rfl dX7_net_38 rfl ?_
      refine g_cVn C (n' := 44) (c_X2_copyFrom l D Y C.2.2.2.2.2.2.2.2.1 qn J N qd (n_cpI Jd J1) (n_cpA Nd N1)) 1 kw_363 kc_X2_copyFrom (by decide +kernel) (((pm_s (pm_s (List.Perm.refl _))).trans (pm_s (pm_s (pm_s (List.Perm.refl _))))).trans (List.Perm.of_eq (show (((wNet qn Y J N) ++ ((wNet qd Y (n_cpI Jd J1) (n_cpA Nd N1)) ++ ((wTop q Y qt qd qn qs qk qh qp qr K) ++ ((wText qt Y I1 L) ++ ((wNet qs Y J1 N1) ++ ((wHist qh Y Ih Ah) ++ ((wTrace (qr 0) Y Ir0 V0 M0) ++ ((wTrace (qr 1) Y Ir1 V1 M1) ++ (wTrace (qr 2) Y Ir2 V2 M2))))))))) : va_W) = ((wNet qn Y J N) ++ (wNet qd Y (n_cpI Jd J1) (n_cpA Nd N1))) ++ ((wTop q Y qt qd qn qs qk qh qp qr K) ++ ((wText qt Y I1 L) ++ ((wNet qs Y J1 N1) ++ ((wHist qh Y Ih Ah) ++ ((wTrace (qr 0) Y Ir0 V0 M0) ++ ((wTrace (qr 1) Y Ir1 V1 M1) ++ (wTrace (qr 2) Y Ir2 V2 M2))))))) by simp only [List.append_assoc, List.append_nil]))) 0 (ci := 1) rfl rfl rfl rfl ⟨Nat.le_of_ble_eq_true rfl, Nat.le_of_ble_eq_true rfl⟩ ⟨rfl, rfl⟩ ⟨Nat.le_of_ble_eq_true rfl, Nat.le_of_ble_eq_true rfl⟩ (Nat.le_of_ble_eq_true rfl) dX7_net_41 rfl rfl ((wTop q Y qt qd qn qs qk qh qp qr K) ++ ((wText qt Y I1 L) ++ ((wNet qd Y (n_cpI Jd J1) (n_cpA Nd N1)) ++ ((wNet qn Y (n_cpI J (n_cpI Jd J1)) (n_cpA N (n_cpA Nd N1))) ++ ((wNet qs Y J1 N1) ++ ((wHist qh Y Ih Ah) ++ ((wTrace (qr 0) Y Ir0 V0 M0) ++ ((wTrace (qr 1) Y Ir1 V1 M1) ++ (wTrace (qr 2) Y Ir2 V2 M2))))))))) (((pm_s (pm_s (List.Perm.refl _))).trans (pm_s (pm_s (pm_s (List.Perm.refl _))))).trans (List.Perm.of_eq (show (((wNet qn Y (n_cpI J (n_cpI Jd J1)) (n_cpA N (n_cpA Nd N1))) ++ ((wNet qd Y (n_cpI Jd J1) (n_cpA Nd N1)) ++ ((wTop q Y qt qd qn qs qk qh qp qr K) ++ ((wText qt Y I1 L) ++ ((wNet qs Y J1 N1) ++ ((wHist qh Y Ih Ah) ++ ((wTrace (qr 0) Y Ir0 V0 M0) ++ ((wTrace (qr 1) Y Ir1 V1 M1) ++ (wTrace (qr 2) Y Ir2 V2 M2))))))))) : va_W) = ((wNet qn Y (n_cpI J (n_cpI Jd J1)) (n_cpA N (n_cpA Nd N1))) ++ (wNet qd Y (n_cpI Jd J1) (n_cpA Nd N1))) ++ ((wTop q Y qt qd qn qs qk qh qp qr K) ++ ((wText qt Y I1 L) ++ ((wNet qs Y J1 N1) ++ ((wHist qh Y Ih Ah) ++ ((wTrace (qr 0) Y Ir0 V0 M0) ++ ((wTrace (qr 1) Y Ir1 V1 M1) ++ (wTrace (qr 2) Y Ir2 V2 M2))))))) by simp only [List.append_assoc, List.append_nil]))).symm ?_
      refine g_aload_n C (n' := 45) 0 rfl dX7_net_44 rfl rfl ?_
      refine g_get C (n' := 48) (Cn := RX7) (T := TX7) (N := 9) (ci := 5) (v := .ref (qh 99)) ga_X7 0 rfl rfl 6 (by decide) kw_191 rfl rfl dX7_net_45 rfl ?_
      refine g_cVn C (n' := 51) (c_X1_clear l D Y C.2.2.2.2.2.2.2.2.1 qh Ih Ah) 0 kw_364 kc_X1_clear (by decide +kernel) (pm_s (pm_s (pm_s (pm_s (pm_s (List.Perm.refl _)))))) 0 (ci := 0) rfl rfl rfl rfl ⟨Nat.le_of_ble_eq_true rfl, Nat.le_of_ble_eq_true rfl⟩ ⟨rfl, rfl⟩ ⟨Nat.le_of_ble_eq_true rfl, Nat.le_of_ble_eq_true rfl⟩ (Nat.le_of_ble_eq_true rfl) dX7_net_48 rfl rfl ((wTop q Y qt qd qn qs qk qh qp qr K) ++ ((wText qt Y I1 L) ++ ((wNet qd Y (n_cpI Jd J1) (n_cpA Nd N1)) ++ ((wNet qn Y (n_cpI J (n_cpI Jd J1)) (n_cpA N (n_cpA Nd N1))) ++ ((wNet qs Y J1 N1) ++ ((wHist qh Y (sU Ih 3 0) Ah) ++ ((wTrace (qr 0) Y Ir0 V0 M0) ++ ((wTrace (qr 1) Y Ir1 V1 M1) ++ (wTrace (qr 2) Y Ir2 V2 M2))))))))) (pm_s (pm_s (pm_s (pm_s (pm_s (List.Perm.refl _)))))).symm ?_
      refine g_iconst C (n' := 52) dX7_net_51 rfl ?_
      refine g_istore_n C (n' := 53) [(1, .int (iI 0)), (0, .ref (q 99))] dX7_net_52 rfl rfl (by decide) rfl ?_
      refine g_iload_n C (n' := 54) 0 rfl dX7_net_53 rfl rfl ?_
      refine g_iconst C (n' := 55) dX7_net_54 rfl ?_
      refine g_icmp_ge C (n' := 58) 71 dX7_net_55 (by decide) rfl (by unfold inR; omega) (by unfold inR; omega) (fun c4 => ?_) (fun c4 => ?_)
      · skip
        exfalso
        omega
      · skip
        refine g_aload_n C (n' := 59) 1 rfl dX7_net_58 rfl rfl ?_
        refine g_get C (n' := 62) (Cn := RX7) (T := TX7) (N := 9) (ci := 5) (v := .ref (q 5)) ga_X7 0 rfl rfl 5 (by decide) kw_190 rfl rfl dX7_net_59 rfl ?_
        refine g_iload_n C (n' := 63) 0 rfl dX7_net_62 rfl rfl ?_
        refine g_iconst C (n' := 64) dX7_net_63 rfl ?_
        refine g_zastN C (n' := 65) (f := K) (j := 0) 2 2 rfl rfl (by omega) (by decide) (by omega) rfl dX7_net_64 rfl ((wTop q Y qt qd qn qs qk qh qp qr (sU K 0 0)) ++ ((wText qt Y I1 L) ++ ((wNet qd Y (n_cpI Jd J1) (n_cpA Nd N1)) ++ ((wNet qn Y (n_cpI J (n_cpI Jd J1)) (n_cpA N (n_cpA Nd N1))) ++ ((wNet qs Y J1 N1) ++ ((wHist qh Y (sU Ih 3 0) Ah) ++ ((wTrace (qr 0) Y Ir0 V0 M0) ++ ((wTrace (qr 1) Y Ir1 V1 M1) ++ (wTrace (qr 2) Y Ir2 V2 M2))))))))) rfl ?_
        refine g_iinc C (n' := 68) 0 [(1, .int (iI 1)), (0, .ref (q 99))] rfl dX7_net_65 rfl (by decide) rfl ?_
        refine g_goto C 53 dX7_net_68 (by decide) ?_
        refine g_iload_n C (n' := 54) 0 rfl dX7_net_53 rfl rfl ?_
        refine g_iconst C (n' := 55) dX7_net_54 rfl ?_
        refine g_icmp_ge C (n' := 58) 71 dX7_net_55 (by decide) rfl (by unfold inR; omega) (by unfold inR; omega) (fun c5 => ?_) (fun c5 => ?_)
        · skip
          exfalso
          omega
        · skip
          refine g_aload_n C (n' := 59) 1 rfl dX7_net_58 rfl rfl ?_
          refine g_get C (n' := 62) (Cn := RX7) (T := TX7) (N := 9) (ci := 5) (v := .ref (q 5)) ga_X7 0 rfl rfl 5 (by decide) kw_190 rfl rfl dX7_net_59 rfl ?_
          refine g_iload_n C (n' := 63) 0 rfl dX7_net_62 rfl rfl ?_
          refine g_iconst C (n' := 64) dX7_net_63 rfl ?_
          refine g_zastN C (n' := 65) (f := (sU K 0 0)) (j := 1) 2 2 rfl rfl (by omega) (by decide) (by omega) rfl dX7_net_64 rfl ((wTop q Y qt qd qn qs qk qh qp qr (sU (sU K 0 0) 1 0)) ++ ((wText qt Y I1 L) ++ ((wNet qd Y (n_cpI Jd J1) (n_cpA Nd N1)) ++ ((wNet qn Y (n_cpI J (n_cpI Jd J1)) (n_cpA N (n_cpA Nd N1))) ++ ((wNet qs Y J1 N1) ++ ((wHist qh Y (sU Ih 3 0) Ah) ++ ((wTrace (qr 0) Y Ir0 V0 M0) ++ ((wTrace (qr 1) Y Ir1 V1 M1) ++ (wTrace (qr 2) Y Ir2 V2 M2))))))))) rfl ?_
          refine g_iinc C (n' := 68) 0 [(1, .int (iI 2)), (0, .ref (q 99))] rfl dX7_net_65 rfl (by decide) rfl ?_
          refine g_goto C 53 dX7_net_68 (by decide) ?_
          refine g_iload_n C (n' := 54) 0 rfl dX7_net_53 rfl rfl ?_
          refine g_iconst C (n' := 55) dX7_net_54 rfl ?_
          refine g_icmp_ge C (n' := 58) 71 dX7_net_55 (by decide) rfl (by unfold inR; omega) (by unfold inR; omega) (fun c6 => ?_) (fun c6 => ?_)
          · skip
            refine g_iconst C (n' := 72) dX7_net_71 rfl ?_
            refine g_istore_n C (n' := 73) [(1, .int (iI 0)), (0, .ref (q 99))] dX7_net_72 rfl rfl (by decide) rfl ?_
            refine g_iload_n C (n' := 74) 0 rfl dX7_net_73 rfl rfl ?_
            refine g_iconst C (n' := 75) dX7_net_74 rfl ?_
            refine g_icmp_ge C (n' := 78) 93 dX7_net_75 (by decide) rfl (by unfold inR; omega) (by unfold inR; omega) (fun c7 => ?_) (fun c7 => ?_)
            · skip
              exfalso
              omega
            · skip
              refine g_aload_n C (n' := 79) 1 rfl dX7_net_78 rfl rfl ?_
              refine g_get C (n' := 82) (Cn := RX7) (T := TX7) (N := 9) (ci := 5) (v := .ref (q 8)) ga_X7 0 rfl rfl 8 (by decide) kw_193 rfl rfl dX7_net_79 rfl ?_
              refine g_iload_n C (n' := 83) 0 rfl dX7_net_82 rfl rfl ?_
              refine g_aald C (n' := 84) (v := qr 0 99) 3 6 rfl rfl (by decide) (by decide) (by decide) (if_pos (by omega)) dX7_net_83 rfl ?_
              refine g_cVn C (n' := 87) (c_X5_lose l D Y C.2.2.2.2.2.2.2.2.1 (qr 0) Ir0 V0 M0) 0 kw_368 kc_X5_lose (by decide +kernel) (pm_s (pm_s (pm_s (pm_s (pm_s (pm_s (List.Perm.refl _))))))) 0 (ci := 4) rfl rfl rfl rfl ⟨Nat.le_of_ble_eq_true rfl, Nat.le_of_ble_eq_true rfl⟩ ⟨rfl, rfl⟩ ⟨Nat.le_of_ble_eq_true rfl, Nat.le_of_ble_eq_true rfl⟩ (Nat.le_of_ble_eq_true rfl) dX7_net_84 rfl rfl ((wTop q Y qt qd qn qs qk qh qp qr (sU (sU K 0 0) 1 0)) ++ ((wText qt Y I1 L) ++ ((wNet qd Y (n_cpI Jd J1) (n_cpA Nd N1)) ++ ((wNet qn Y (n_cpI J (n_cpI Jd J1)) (n_cpA N (n_cpA Nd N1))) ++ ((wNet qs Y J1 N1) ++ ((wHist qh Y (sU Ih 3 0) Ah) ++ ((wTrace (qr 0) Y (sU (sU Ir0 2 0) 4 0) V0 M0) ++ ((wTrace (qr 1) Y Ir1 V1 M1) ++ (wTrace (qr 2) Y Ir2 V2 M2))))))))) (pm_s (pm_s (pm_s (pm_s (pm_s (pm_s (List.Perm.refl _))))))).symm ?_
              refine g_iinc C (n' := 90) 0 [(1, .int (iI 1)), (0, .ref (q 99))] rfl dX7_net_87 rfl (by decide) rfl ?_
              refine g_goto C 73 dX7_net_90 (by decide) ?_
              refine g_iload_n C (n' := 74) 0 rfl dX7_net_73 rfl rfl ?_
              refine g_iconst C (n' := 75) dX7_net_74 rfl ?_
              refine g_icmp_ge C (n' := 78) 93 dX7_net_75 (by decide) rfl (by unfold inR; omega) (by unfold inR; omega) (fun c8 => ?_) (fun c8 => ?_)
              · skip
                exfalso
                omega
              · skip
                refine g_aload_n C (n' := 79) 1 rfl dX7_net_78 rfl rfl ?_
                refine g_get C (n' := 82) (Cn := RX7) (T := TX7) (N := 9) (ci := 5) (v := .ref (q 8)) ga_X7 0 rfl rfl 8 (by decide) kw_193 rfl rfl dX7_net_79 rfl ?_
                refine g_iload_n C (n' := 83) 0 rfl dX7_net_82 rfl rfl ?_
                refine g_aald C (n' := 84) (v := qr 1 99) 3 6 rfl rfl (by decide) (by decide) (by decide) (if_pos (by omega)) dX7_net_83 rfl ?_
                refine g_cVn C (n' := 87) (c_X5_lose l D Y C.2.2.2.2.2.2.2.2.1 (qr 1) Ir1 V1 M1) 0 kw_368 kc_X5_lose (by decide +kernel) (pm_s (pm_s (pm_s (pm_s (pm_s (pm_s (pm_s (List.Perm.refl _)))))))) 0 (ci := 4) rfl rfl rfl rfl ⟨Nat.le_of_ble_eq_true rfl, Nat.le_of_ble_eq_true rfl⟩ ⟨rfl, rfl⟩ ⟨Nat.le_of_ble_eq_true rfl, Nat.le_of_ble_eq_true rfl⟩ (Nat.le_of_ble_eq_true rfl) dX7_net_84 rfl rfl ((wTop q Y qt qd qn qs qk qh qp qr (sU (sU K 0 0) 1 0)) ++ ((wText qt Y I1 L) ++ ((wNet qd Y (n_cpI Jd J1) (n_cpA Nd N1)) ++ ((wNet qn Y (n_cpI J (n_cpI Jd J1)) (n_cpA N (n_cpA Nd N1))) ++ ((wNet qs Y J1 N1) ++ ((wHist qh Y (sU Ih 3 0) Ah) ++ ((wTrace (qr 0) Y (sU (sU Ir0 2 0) 4 0) V0 M0) ++ ((wTrace (qr 1) Y (sU (sU Ir1 2 0) 4 0) V1 M1) ++ (wTrace (qr 2) Y Ir2 V2 M2))))))))) (pm_s (pm_s (pm_s (pm_s (pm_s (pm_s (pm_s (List.Perm.refl _)))))))).symm ?_
                refine g_iinc C (n' := 90) 0 [(1, .int (iI 2)), (0, .ref (q 99))] rfl dX7_net_87 rfl (by decide) rfl ?_
                refine g_goto C 73 dX7_net_90 (by decide) ?_
                refine g_iload_n C (n' := 74) 0 rfl dX7_net_73 rfl rfl ?_
                refine g_iconst C (n' := 75) dX7_net_74 rfl ?_
                refine g_icmp_ge C (n' := 78) 93 dX7_net_75 (by decide) rfl (by unfold inR; omega) (by unfold inR; omega) (fun c9 => ?_) (fun c9 => ?_)
                · skip
                  exfalso
                  omega
                · skip
                  refine g_aload_n C (n' := 79) 1 rfl dX7_net_78 rfl rfl ?_
                  refine g_get C (n' := 82) (Cn := RX7) (T := TX7) (N := 9) (ci := 5) (v := .ref (q 8)) ga_X7 0 rfl rfl 8 (by decide) kw_193 rfl rfl dX7_net_79 rfl ?_
                  refine g_iload_n C (n' := 83) 0 rfl dX7_net_82 rfl rfl ?_
                  refine g_aald C (n' := 84) (v := qr 2 99) 3 6 rfl rfl (by decide) (by decide) (by decide) (if_pos (by omega)) dX7_net_83 rfl ?_
                  refine g_cVn C (n' := 87) (c_X5_lose l D Y C.2.2.2.2.2.2.2.2.1 (qr 2) Ir2 V2 M2) 0 kw_368 kc_X5_lose (by decide +kernel) (pm_s (pm_s (pm_s (pm_s (pm_s (pm_s (pm_s List.perm_append_comm))))))) 0 (ci := 4) rfl rfl rfl rfl ⟨Nat.le_of_ble_eq_true rfl, Nat.le_of_ble_eq_true rfl⟩ ⟨rfl, rfl⟩ ⟨Nat.le_of_ble_eq_true rfl, Nat.le_of_ble_eq_true rfl⟩ (Nat.le_of_ble_eq_true rfl) dX7_net_84 rfl rfl ((wTop q Y qt qd qn qs qk qh qp qr (sU (sU K 0 0) 1 0)) ++ ((wText qt Y I1 L) ++ ((wNet qd Y (n_cpI Jd J1) (n_cpA Nd N1)) ++ ((wNet qn Y (n_cpI J (n_cpI Jd J1)) (n_cpA N (n_cpA Nd N1))) ++ ((wNet qs Y J1 N1) ++ ((wHist qh Y (sU Ih 3 0) Ah) ++ ((wTrace (qr 0) Y (sU (sU Ir0 2 0) 4 0) V0 M0) ++ ((wTrace (qr 1) Y (sU (sU Ir1 2 0) 4 0) V1 M1) ++ (wTrace (qr 2) Y (sU (sU Ir2 2 0) 4 0) V2 M2))))))))) (pm_s (pm_s (pm_s (pm_s (pm_s (pm_s (pm_s List.perm_append_comm))))))).symm ?_
                  refine g_iinc C (n' := 90) 0 [(1, .int (iI 3)), (0, .ref (q 99))] rfl dX7_net_87 rfl (by decide) rfl ?_
                  refine g_goto C 73 dX7_net_90 (by decide) ?_
                  refine g_iload_n C (n' := 74) 0 rfl dX7_net_73 rfl rfl ?_
                  refine g_iconst C (n' := 75) dX7_net_74 rfl ?_
                  refine g_icmp_ge C (n' := 78) 93 dX7_net_75 (by decide) rfl (by unfold inR; omega) (by unfold inR; omega) (fun c10 => ?_) (fun c10 => ?_)
                  · skip
                    refine g_aload_n C (n' := 94) 1 rfl dX7_net_93 rfl rfl ?_
                    refine g_get C (n' := 97) (Cn := RX7) (T := TX7) (N := 9) (ci := 5) (v := .ref (qt 99)) ga_X7 0 rfl rfl 0 (by decide) kw_185 rfl rfl dX7_net_94 rfl ?_
                    refine g_cVn C (n' := 100) (c_X4_clear l D Y C.2.2.2.2.2.2.2.2.1 qt I1 L) 0 kw_232 kc_X4_clear (by decide +kernel) (pm_s (List.Perm.refl _)) 0 (ci := 3) rfl rfl rfl rfl ⟨Nat.le_of_ble_eq_true rfl, Nat.le_of_ble_eq_true rfl⟩ ⟨rfl, rfl⟩ ⟨Nat.le_of_ble_eq_true rfl, Nat.le_of_ble_eq_true rfl⟩ (Nat.le_of_ble_eq_true rfl) dX7_net_97 rfl rfl ((wTop q Y qt qd qn qs qk qh qp qr (sU (sU K 0 0) 1 0)) ++ ((wText qt Y (sU I1 1 0) L) ++ ((wNet qd Y (n_cpI Jd J1) (n_cpA Nd N1)) ++ ((wNet qn Y (n_cpI J (n_cpI Jd J1)) (n_cpA N (n_cpA Nd N1))) ++ ((wNet qs Y J1 N1) ++ ((wHist qh Y (sU Ih 3 0) Ah) ++ ((wTrace (qr 0) Y (sU (sU Ir0 2 0) 4 0) V0 M0) ++ ((wTrace (qr 1) Y (sU (sU Ir1 2 0) 4 0) V1 M1) ++ (wTrace (qr 2) Y (sU (sU Ir2 2 0) 4 0) V2 M2))))))))) (pm_s (List.Perm.refl _)).symm ?_
                    refine g_aload_n C (n' := 101) 1 rfl dX7_net_100 rfl rfl ?_
                    refine g_get C (n' := 104) (Cn := RX7) (T := TX7) (N := 9) (ci := 5) (v := .ref (qt 99)) ga_X7 0 rfl rfl 0 (by decide) kw_185 rfl rfl dX7_net_101 rfl ?_
                    refine g_cVv C (n' := 107) (v := .int (iI ((I1 2)))) (c_X4_clauseCount l D Y C.2.2.2.2.2.2.2.2.1 qt (sU I1 1 0) L) 0 kw_372 kc_X4_clauseCount (by decide +kernel) (pm_s (List.Perm.refl _)) 0 (ci := 3) rfl rfl rfl rfl ⟨Nat.le_of_ble_eq_true rfl, Nat.le_of_ble_eq_true rfl⟩ ⟨rfl, rfl⟩ ⟨Nat.le_of_ble_eq_true rfl, Nat.le_of_ble_eq_true rfl⟩ (Nat.le_of_ble_eq_true rfl) dX7_net_104 rfl rfl ((wTop q Y qt qd qn qs qk qh qp qr (sU (sU K 0 0) 1 0)) ++ ((wText qt Y (sU I1 1 0) L) ++ ((wNet qd Y (n_cpI Jd J1) (n_cpA Nd N1)) ++ ((wNet qn Y (n_cpI J (n_cpI Jd J1)) (n_cpA N (n_cpA Nd N1))) ++ ((wNet qs Y J1 N1) ++ ((wHist qh Y (sU Ih 3 0) Ah) ++ ((wTrace (qr 0) Y (sU (sU Ir0 2 0) 4 0) V0 M0) ++ ((wTrace (qr 1) Y (sU (sU Ir1 2 0) 4 0) V1 M1) ++ (wTrace (qr 2) Y (sU (sU Ir2 2 0) 4 0) V2 M2))))))))) (pm_s (List.Perm.refl _)).symm ?_
                    exact g_iret C hr hlk rfl ⟨I1, J1, N1, ⟨hsI1, hI11⟩, ⟨hsJ1, hsN1, hO1⟩, Or.inr ⟨hx1, congrArg (fun z : Int => some (Value.int (iI z))) hx2, hx3, hx4, rfl⟩⟩ dX7_net_107
                  · skip
                    exfalso
                    omega
          · skip
            exfalso
            omega
    · skip
      exfalso
      omega
set_option maxRecDepth 100000 in
set_option maxHeartbeats 4000000 in
theorem c_X7_path (l : Launch) (D : va_G) (Y : Nat → ClassId) {E : (Nat → Prop) → State → Heap → Prop} (hE : g_Stab E) (q : Nat → Nat) (qt qd qn qs : Nat → Nat) (qk : Nat → Nat → Nat) (qh qp : Nat → Nat) (qr : Nat → Nat → Nat) (K : Nat → Int) (J : Nat → Int) (N : Nat → Nat → Int) (x : Int) (y : Int) (hsJ : smI J) (hsN : smA N) (hO : okN J N) (hx : inR x) (hy : inR y) : g_Ct l yX7_path cX7_path 3 (some FieldType.int) ({ frames := 2, cells := 0, slots := 0, locals := 43 } : Room) D (tysY Y) E [.ref (q 99), .int (iI x), .int (iI y)] ((wTop q Y qt qd qn qs qk qh qp qr K) ++ (wNet qn Y J N)) 0 0 (g_det (some (.int (iI (paV J N x y)))) ((wTop q Y qt qd qn qs qk qh qp qr K) ++ (wNet qn Y J N))) := by
  refine g_ofG (own := RX7) hE (by decide) rfl (Nat.le_of_ble_eq_true rfl) [(0, .ref (q 99)), (1, .int (iI x)), (2, .int (iI y))] rfl ?_
  intro p9 e9 s9 m9 b9 t9 c9 A9 C hr hlk hnm
  have hJ := hsJ
  unfold smI at hJ
  have hN := hsN
  unfold smA at hN
  have hO9 := hO
  unfold okN at hO9
  have hx9 := hx
  unfold inR at hx9
  have hy9 := hy
  unfold inR at hy9
  refine g_aload_n C (n' := 1) 0 rfl dX7_path_0 rfl rfl ?_
  refine g_iload_n C (n' := 2) 1 rfl dX7_path_1 rfl rfl ?_
  refine g_cVv C (n' := 5) (v := .int (iI (if 0 ≤ x ∧ x ≤ (J 5) - 1 then 1 else 0))) (c_X7_isPath l D Y C.2.2.2.2.2.2.2.2.1 q qt qd qn qs qk qh qp qr K J N x hsJ hsN hO hx) 1 kw_380 kc_X7_isPath (by decide +kernel) (pm0 _) 0 (ci := 5) rfl rfl rfl rfl ⟨Nat.le_of_ble_eq_true rfl, Nat.le_of_ble_eq_true rfl⟩ ⟨rfl, rfl⟩ ⟨Nat.le_of_ble_eq_true rfl, Nat.le_of_ble_eq_true rfl⟩ (Nat.le_of_ble_eq_true rfl) dX7_path_2 rfl rfl ((wTop q Y qt qd qn qs qk qh qp qr K) ++ (wNet qn Y J N)) (pm0' _) ?_
  refine g_if_ne C (n' := 8) 11 dX7_path_5 (by decide) rfl bz_r (fun c1 => ?_) (fun c1 => ?_)
  · skip
    replace c1 := bz_ne.mp c1
    refine g_iload_n C (n' := 12) 2 rfl dX7_path_11 rfl rfl ?_
    by_cases c2 : y = 0
    · skip
      refine g_tsIn C 52 dX7_path_12 (by unfold inR; omega) (by omega) (by omega) (by rw [c2]; rfl) (by decide) ?_
      refine g_aload_n C (n' := 53) 0 rfl dX7_path_52 rfl rfl ?_
      refine g_get C (n' := 56) (Cn := RX7) (T := TX7) (N := 9) (ci := 5) (v := .ref (qn 99)) ga_X7 0 rfl rfl 2 (by decide) kw_187 rfl rfl dX7_path_53 rfl ?_
      refine g_getN C (n' := 59) (Cn := RX2) (T := TX2) (N := 10) (ci := 1) (v := .ref (qn 6)) ga_X2 4 rfl rfl 6 (by decide) (List.mem_of_getElem? (i := 14) rfl) rfl rfl dX7_path_56 rfl ?_
      refine g_iload_n C (n' := 60) 1 rfl dX7_path_59 rfl rfl ?_
      refine g_iald C (n' := 61) (f := (N 6)) 5 0 rfl rfl (by omega) (by omega) (by decide) rfl dX7_path_60 rfl ?_
      have h_60 := hN 6 x.toNat
      exact g_iret C hr hlk rfl ⟨congrArg (fun z : Int => some (Value.int (iI z))) (by unfold paV; (repeat' split) <;> first | rfl | omega | (unfold n_late; omega) | (unfold n_soon; omega)), rfl⟩ dX7_path_61
    by_cases c3 : y = 1
    · skip
      refine g_tsIn C 62 dX7_path_12 (by unfold inR; omega) (by omega) (by omega) (by rw [c3]; rfl) (by decide) ?_
      refine g_aload_n C (n' := 63) 0 rfl dX7_path_62 rfl rfl ?_
      refine g_get C (n' := 66) (Cn := RX7) (T := TX7) (N := 9) (ci := 5) (v := .ref (qn 99)) ga_X7 0 rfl rfl 2 (by decide) kw_187 rfl rfl dX7_path_63 rfl ?_
      refine g_getN C (n' := 69) (Cn := RX2) (T := TX2) (N := 10) (ci := 1) (v := .ref (qn 7)) ga_X2 4 rfl rfl 7 (by decide) (List.mem_of_getElem? (i := 16) rfl) rfl rfl dX7_path_66 rfl ?_
      refine g_iload_n C (n' := 70) 1 rfl dX7_path_69 rfl rfl ?_
      refine g_iald C (n' := 71) (f := (N 7)) 6 0 rfl rfl (by omega) (by omega) (by decide) rfl dX7_path_70 rfl ?_
      have h_70 := hN 7 x.toNat
      exact g_iret C hr hlk rfl ⟨congrArg (fun z : Int => some (Value.int (iI z))) (by unfold paV; (repeat' split) <;> first | rfl | omega | (unfold n_late; omega) | (unfold n_soon; omega)), rfl⟩ dX7_path_71
    by_cases c4 : y = 2
    · skip
      refine g_tsIn C 72 dX7_path_12 (by unfold inR; omega) (by omega) (by omega) (by rw [c4]; rfl) (by decide) ?_
      refine g_aload_n C (n' := 73) 0 rfl dX7_path_72 rfl rfl ?_
      refine g_get C (n' := 76) (Cn := RX7) (T := TX7) (N := 9) (ci := 5) (v := .ref (qn 99)) ga_X7 0 rfl rfl 2 (by decide) kw_187 rfl rfl dX7_path_73 rfl ?_
      refine g_getN C (n' := 79) (Cn := RX2) (T := TX2) (N := 10) (ci := 1) (v := .ref (qn 8)) ga_X2 4 rfl rfl 8 (by decide) (List.mem_of_getElem? (i := 18) rfl) rfl rfl dX7_path_76 rfl ?_
      refine g_iload_n C (n' := 80) 1 rfl dX7_path_79 rfl rfl ?_
      refine g_iald C (n' := 81) (f := (N 8)) 7 0 rfl rfl (by omega) (by omega) (by decide) rfl dX7_path_80 rfl ?_
      have h_80 := hN 8 x.toNat
      exact g_iret C hr hlk rfl ⟨congrArg (fun z : Int => some (Value.int (iI z))) (by unfold paV; (repeat' split) <;> first | rfl | omega | (unfold n_late; omega) | (unfold n_soon; omega)), rfl⟩ dX7_path_81
    by_cases c5 : y = 3
    · skip
      refine g_tsIn C 82 dX7_path_12 (by unfold inR; omega) (by omega) (by omega) (by rw [c5]; rfl) (by decide) ?_
      refine g_aload_n C (n' := 83) 0 rfl dX7_path_82 rfl rfl ?_
      refine g_get C (n' := 86) (Cn := RX7) (T := TX7) (N := 9) (ci := 5) (v := .ref (qn 99)) ga_X7 0 rfl rfl 2 (by decide) kw_187 rfl rfl dX7_path_83 rfl ?_
      refine g_getN C (n' := 89) (Cn := RX2) (T := TX2) (N := 10) (ci := 1) (v := .ref (qn 9)) ga_X2 4 rfl rfl 9 (by decide) (List.mem_of_getElem? (i := 20) rfl) rfl rfl dX7_path_86 rfl ?_
      refine g_iload_n C (n' := 90) 1 rfl dX7_path_89 rfl rfl ?_
      refine g_iald C (n' := 91) (f := (N 9)) 8 0 rfl rfl (by omega) (by omega) (by decide) rfl dX7_path_90 rfl ?_
      have h_90 := hN 9 x.toNat
      exact g_iret C hr hlk rfl ⟨congrArg (fun z : Int => some (Value.int (iI z))) (by unfold paV; (repeat' split) <;> first | rfl | omega | (unfold n_late; omega) | (unfold n_soon; omega)), rfl⟩ dX7_path_91
    by_cases c6 : y = 4
    · skip
      refine g_tsIn C 92 dX7_path_12 (by unfold inR; omega) (by omega) (by omega) (by rw [c6]; rfl) (by decide) ?_
      refine g_sipush C (n' := 95) (by decide) dX7_path_92 rfl ?_
      refine g_aload_n C (n' := 96) 0 rfl dX7_path_95 rfl rfl ?_
      refine g_get C (n' := 99) (Cn := RX7) (T := TX7) (N := 9) (ci := 5) (v := .ref (qn 99)) ga_X7 0 rfl rfl 2 (by decide) kw_187 rfl rfl dX7_path_96 rfl ?_
      refine g_iload_n C (n' := 100) 1 rfl dX7_path_99 rfl rfl ?_
      refine g_cVv C (n' := 103) (v := .int (iI (n_late J N x))) (c_X2_lateBound l D Y C.2.2.2.2.2.2.2.2.1 qn J N x (by omega) (by omega)) 1 kw_384 kc_X2_lateBound (by decide +kernel) List.perm_append_comm 0 (ci := 1) rfl rfl rfl rfl ⟨Nat.le_of_ble_eq_true rfl, Nat.le_of_ble_eq_true rfl⟩ ⟨rfl, rfl⟩ ⟨Nat.le_of_ble_eq_true rfl, Nat.le_of_ble_eq_true rfl⟩ (Nat.le_of_ble_eq_true rfl) dX7_path_100 rfl rfl ((wTop q Y qt qd qn qs qk qh qp qr K) ++ (wNet qn Y J N)) List.perm_append_comm.symm ?_
      refine g_iadd C (n' := 104) dX7_path_103 rfl ?_
      exact g_iret C hr hlk rfl ⟨congrArg (fun z : Int => some (Value.int (iI z))) (by unfold paV; (repeat' split) <;> first | rfl | omega | (unfold n_late; omega) | (unfold n_soon; omega)), rfl⟩ dX7_path_104
    by_cases c7 : y = 5
    · skip
      refine g_tsIn C 105 dX7_path_12 (by unfold inR; omega) (by omega) (by omega) (by rw [c7]; rfl) (by decide) ?_
      refine g_sipush C (n' := 108) (by decide) dX7_path_105 rfl ?_
      refine g_aload_n C (n' := 109) 0 rfl dX7_path_108 rfl rfl ?_
      refine g_get C (n' := 112) (Cn := RX7) (T := TX7) (N := 9) (ci := 5) (v := .ref (qn 99)) ga_X7 0 rfl rfl 2 (by decide) kw_187 rfl rfl dX7_path_109 rfl ?_
      refine g_iload_n C (n' := 113) 1 rfl dX7_path_112 rfl rfl ?_
      refine g_cVv C (n' := 116) (v := .int (iI (n_soon J N x))) (c_X2_soonBound l D Y C.2.2.2.2.2.2.2.2.1 qn J N x (by omega) (by omega)) 1 kw_388 kc_X2_soonBound (by decide +kernel) List.perm_append_comm 0 (ci := 1) rfl rfl rfl rfl ⟨Nat.le_of_ble_eq_true rfl, Nat.le_of_ble_eq_true rfl⟩ ⟨rfl, rfl⟩ ⟨Nat.le_of_ble_eq_true rfl, Nat.le_of_ble_eq_true rfl⟩ (Nat.le_of_ble_eq_true rfl) dX7_path_113 rfl rfl ((wTop q Y qt qd qn qs qk qh qp qr K) ++ (wNet qn Y J N)) List.perm_append_comm.symm ?_
      refine g_iadd C (n' := 117) dX7_path_116 rfl ?_
      exact g_iret C hr hlk rfl ⟨congrArg (fun z : Int => some (Value.int (iI z))) (by unfold paV; (repeat' split) <;> first | rfl | omega | (unfold n_late; omega) | (unfold n_soon; omega)), rfl⟩ dX7_path_117
    refine g_tsOut C 118 dX7_path_12 (by unfold inR; omega) (by omega) (by decide) ?_
    refine g_bipush C (n' := 120) (by decide) dX7_path_118 rfl ?_
    exact g_iret C hr hlk rfl ⟨congrArg (fun z : Int => some (Value.int (iI z))) (by unfold paV; (repeat' split) <;> first | rfl | omega | (unfold n_late; omega) | (unfold n_soon; omega)), rfl⟩ dX7_path_120
  · skip
    replace c1 := bz_nne.mp c1
    refine g_bipush C (n' := 10) (by decide) dX7_path_8 rfl ?_
    exact g_iret C hr hlk rfl ⟨congrArg (fun z : Int => some (Value.int (iI z))) (by unfold paV; (repeat' split) <;> first | rfl | omega | (unfold n_late; omega) | (unfold n_soon; omega)), rfl⟩ dX7_path_10
set_option maxRecDepth 100000 in
set_option maxHeartbeats 4000000 in
theorem c_X7_period (l : Launch) (D : va_G) (Y : Nat → ClassId) {E : (Nat → Prop) → State → Heap → Prop} (hE : g_Stab E) (q : Nat → Nat) (qt qd qn qs : Nat → Nat) (qk : Nat → Nat → Nat) (qh qp : Nat → Nat) (qr : Nat → Nat → Nat) (K : Nat → Int) (J : Nat → Int) (N : Nat → Nat → Int) (Ih : Nat → Int) (Ah : Nat → Nat → Int) (x : Int) (hsJ : smI J) (hsN : smA N) (hO : okN J N) (hsIh : smI Ih) (hsAh : smA Ah) (h2 : 0 ≤ Ih 2 ∧ Ih 2 < 8) (h3 : 0 ≤ Ih 3 ∧ Ih 3 ≤ 8) (hx : inR x) : g_Ct l yX7_period cX7_period 3 (some FieldType.int) ({ frames := 2, cells := 0, slots := 0, locals := 43 } : Room) D (tysY Y) E [.ref (q 99), .int (iI x)] ((wTop q Y qt qd qn qs qk qh qp qr K) ++ ((wNet qn Y J N) ++ (wHist qh Y Ih Ah))) 0 0 (fun r9 w9 => (¬ (0 ≤ x ∧ x ≤ 999) ∧ r9 = some (.int (iI (-3))) ∧ w9 = ((wTop q Y qt qd qn qs qk qh qp qr K) ++ ((wNet qn Y J N) ++ (wHist qh Y Ih Ah)))) ∨ ((0 ≤ x ∧ x ≤ 999) ∧ ((J 4 = x ∧ r9 = some (.int (iI (-4))) ∧ w9 = ((wTop q Y qt qd qn qs qk qh qp qr K) ++ ((wNet qn Y J N) ++ (wHist qh Y Ih Ah)))) ∨ (J 4 ≠ x ∧ r9 = some (.int (iI (J 4))) ∧ w9 = ((wTop q Y qt qd qn qs qk qh qp qr K) ++ ((wNet qn Y (sU J 4 x) N) ++ (wHist qh Y (h_pushI Ih) (h_pushA Ih Ah (-1) (J 4))))))))) := by
  refine g_ofG (own := RX7) hE (by decide) rfl (Nat.le_of_ble_eq_true rfl) [(0, .ref (q 99)), (1, .int (iI x))] rfl ?_
  intro p9 e9 s9 m9 b9 t9 c9 A9 C hr hlk hnm
  have hJ := hsJ
  unfold smI at hJ
  have hN := hsN
  unfold smA at hN
  have hO9 := hO
  unfold okN at hO9
  have hIh := hsIh
  unfold smI at hIh
  have hAh := hsAh
  unfold smA at hAh
  have hx9 := hx
  unfold inR at hx9
  refine g_iload_n C (n' := 1) 1 rfl dX7_period_0 rfl rfl ?_
  refine g_iconst C (n' := 2) dX7_period_1 rfl ?_
  refine g_sipush C (n' := 5) (by decide) dX7_period_2 rfl ?_
  refine g_cSv C (n' := 8) (v := .int (iI (if 0 ≤ x ∧ x ≤ 999 then 1 else 0))) (c_X7_isWithin l D Y C.2.2.2.2.2.2.2.2.1 x 0 999 hx (by unfold inR at *; omega) (by unfold inR at *; omega)) 3 kw_217 kc_X7_isWithin (by decide +kernel) (pm_n _) rfl ⟨Nat.le_of_ble_eq_true rfl, Nat.le_of_ble_eq_true rfl⟩ ⟨rfl, rfl⟩ ⟨Nat.le_of_ble_eq_true rfl, Nat.le_of_ble_eq_true rfl⟩ (Nat.le_of_ble_eq_true rfl) dX7_period_5 rfl rfl ((wTop q Y qt qd qn qs qk qh qp qr K) ++ ((wNet qn Y J N) ++ (wHist qh Y Ih Ah))) (pm_n _) ?_
  refine g_if_ne C (n' := 11) 14 dX7_period_8 (by decide) rfl bz_r (fun c1 => ?_) (fun c1 => ?_)
  · skip
    replace c1 := bz_ne.mp c1
    refine g_aload_n C (n' := 15) 0 rfl dX7_period_14 rfl rfl ?_
    refine g_get C (n' := 18) (Cn := RX7) (T := TX7) (N := 9) (ci := 5) (v := .ref (qn 99)) ga_X7 0 rfl rfl 2 (by decide) kw_187 rfl rfl dX7_period_15 rfl ?_
    refine g_getN C (n' := 21) (Cn := RX2) (T := TX2) (N := 10) (ci := 1) (v := .int (iI (J 4))) ga_X2 4 rfl rfl 4 (by decide) (List.mem_of_getElem? (i := 10) rfl) rfl rfl dX7_period_18 rfl ?_
    have h_18 := hJ 4
    refine g_istore_n C (n' := 22) [(2, .int (iI (J 4))), (0, .ref (q 99)), (1, .int (iI x))] dX7_period_21 rfl rfl (by decide) rfl ?_
    refine g_iload_n C (n' := 23) 2 rfl dX7_period_22 rfl rfl ?_
    refine g_iload_n C (n' := 24) 0 rfl dX7_period_23 rfl rfl ?_
    refine g_icmp_ne C (n' := 27) 30 dX7_period_24 (by decide) rfl (by unfold inR; omega) (by unfold inR; omega) (fun c2 => ?_) (fun c2 => ?_)
    · skip
      refine g_aload_n C (n' := 31) 1 rfl dX7_period_30 rfl rfl ?_
      refine g_get C (n' := 34) (Cn := RX7) (T := TX7) (N := 9) (ci := 5) (v := .ref (qh 99)) ga_X7 0 rfl rfl 6 (by decide) kw_191 rfl rfl dX7_period_31 rfl ?_
      refine g_iconst C (n' := 35) dX7_period_34 rfl ?_
      refine g_iload_n C (n' := 36) 0 rfl dX7_period_35 rfl rfl ?_
      refine g_cVn C (n' := 39) (c_X1_push l D Y C.2.2.2.2.2.2.2.2.1 qh Ih Ah (-1) (J 4) hsIh hsAh h2 h3) 2 kw_396 kc_X1_push (by decide +kernel) (pm_s List.perm_append_comm) 0 (ci := 0) rfl rfl rfl rfl ⟨Nat.le_of_ble_eq_true rfl, Nat.le_of_ble_eq_true rfl⟩ ⟨rfl, rfl⟩ ⟨Nat.le_of_ble_eq_true rfl, Nat.le_of_ble_eq_true rfl⟩ (Nat.le_of_ble_eq_true rfl) dX7_period_36 rfl rfl ((wTop q Y qt qd qn qs qk qh qp qr K) ++ ((wNet qn Y J N) ++ (wHist qh Y (h_pushI Ih) (h_pushA Ih Ah (-1) (J 4))))) (pm_s List.perm_append_comm).symm ?_
      refine g_aload_n C (n' := 40) 1 rfl dX7_period_39 rfl rfl ?_
      refine g_get C (n' := 43) (Cn := RX7) (T := TX7) (N := 9) (ci := 5) (v := .ref (qn 99)) ga_X7 0 rfl rfl 2 (by decide) kw_187 rfl rfl dX7_period_40 rfl ?_
      refine g_iload_n C (n' := 44) 2 rfl dX7_period_43 rfl rfl ?_
      refine g_putN C (n' := 47) (Cn := RX2) (T := TX2) (N := 10) (ci := 1) (v := .int (iI x)) ga_X2 4 rfl rfl 4 (by decide) (List.mem_of_getElem? (i := 10) rfl) rfl tyX2 tyX2_ok nmX2 rfl rfl rfl rfl (Nat.le_of_ble_eq_true rfl) ((wTop q Y qt qd qn qs qk qh qp qr K) ++ ((wNet qn Y (sU J 4 x) N) ++ (wHist qh Y (h_pushI Ih) (h_pushA Ih Ah (-1) (J 4))))) rfl dX7_period_44 rfl ?_
      refine g_iload_n C (n' := 48) 0 rfl dX7_period_47 rfl rfl ?_
      exact g_iret C hr hlk rfl (Or.inr ⟨by omega, Or.inr ⟨by omega, rfl, rfl⟩⟩) dX7_period_48
    · skip
      refine g_bipush C (n' := 29) (by decide) dX7_period_27 rfl ?_
      exact g_iret C hr hlk rfl (Or.inr ⟨by omega, Or.inl ⟨by omega, rfl, rfl⟩⟩) dX7_period_29
  · skip
    replace c1 := bz_nne.mp c1
    refine g_bipush C (n' := 13) (by decide) dX7_period_11 rfl ?_
    exact g_iret C hr hlk rfl (Or.inl ⟨by omega, rfl, rfl⟩) dX7_period_13
set_option maxRecDepth 100000 in
set_option maxHeartbeats 4000000 in
theorem c_X7_slower (l : Launch) (D : va_G) (Y : Nat → ClassId) {E : (Nat → Prop) → State → Heap → Prop} (hE : g_Stab E) (q : Nat → Nat) (qt qd qn qs : Nat → Nat) (qk : Nat → Nat → Nat) (qh qp : Nat → Nat) (qr : Nat → Nat → Nat) (K : Nat → Int) (J : Nat → Int) (N : Nat → Nat → Int) (Ih : Nat → Int) (Ah : Nat → Nat → Int) (x : Int) (y : Int) (hsJ : smI J) (hsN : smA N) (hO : okN J N) (hsIh : smI Ih) (hsAh : smA Ah) (h2 : 0 ≤ Ih 2 ∧ Ih 2 < 8) (h3 : 0 ≤ Ih 3 ∧ Ih 3 ≤ 8) (hx : inR x) (hy : inR y) : g_Ct l yX7_slower cX7_slower 3 (some FieldType.int) ({ frames := 2, cells := 0, slots := 0, locals := 43 } : Room) D (tysY Y) E [.ref (q 99), .int (iI x), .int (iI y)] ((wTop q Y qt qd qn qs qk qh qp qr K) ++ ((wNet qn Y J N) ++ (wHist qh Y Ih Ah))) 0 0 (fun r9 w9 => (¬ (0 ≤ x ∧ x < J 5) ∧ r9 = some (.int (iI (-2))) ∧ w9 = ((wTop q Y qt qd qn qs qk qh qp qr K) ++ ((wNet qn Y J N) ++ (wHist qh Y Ih Ah)))) ∨ ((0 ≤ x ∧ x < J 5) ∧ ((¬ (1 ≤ y ∧ y ≤ 20) ∧ r9 = some (.int (iI (-3))) ∧ w9 = ((wTop q Y qt qd qn qs qk qh qp qr K) ++ ((wNet qn Y J N) ++ (wHist qh Y Ih Ah)))) ∨ ((1 ≤ y ∧ y ≤ 20) ∧ ((199 < N 8 x.toNat + y ∧ r9 = some (.int (iI (-4))) ∧ w9 = ((wTop q Y qt qd qn qs qk qh qp qr K) ++ ((wNet qn Y J N) ++ (wHist qh Y Ih Ah)))) ∨ (N 8 x.toNat + y ≤ 199 ∧ r9 = some (.int (iI (N 8 x.toNat + y))) ∧ w9 = ((wTop q Y qt qd qn qs qk qh qp qr K) ++ ((wNet qn Y J (n_slow N x y)) ++ (wHist qh Y (h_pushI Ih) (h_pushA Ih Ah x y)))))))))) := by
  refine g_ofG (own := RX7) hE (by decide) rfl (Nat.le_of_ble_eq_true rfl) [(0, .ref (q 99)), (1, .int (iI x)), (2, .int (iI y))] rfl ?_
  intro p9 e9 s9 m9 b9 t9 c9 A9 C hr hlk hnm
  have hJ := hsJ
  unfold smI at hJ
  have hN := hsN
  unfold smA at hN
  have hO9 := hO
  unfold okN at hO9
  have hIh := hsIh
  unfold smI at hIh
  have hAh := hsAh
  unfold smA at hAh
  have hx9 := hx
  unfold inR at hx9
  have hy9 := hy
  unfold inR at hy9
  refine g_aload_n C (n' := 1) 0 rfl dX7_slower_0 rfl rfl ?_
  refine g_iload_n C (n' := 2) 1 rfl dX7_slower_1 rfl rfl ?_
  refine g_cVv C (n' := 5) (v := .int (iI (if 0 ≤ x ∧ x ≤ (J 5) - 1 then 1 else 0))) (c_X7_isPath l D Y C.2.2.2.2.2.2.2.2.1 q qt qd qn qs qk qh qp qr K J N x hsJ hsN hO hx) 1 kw_380 kc_X7_isPath (by decide +kernel) (((pm_s (List.Perm.refl _)).trans (pm_s (List.Perm.refl _))).trans (List.Perm.of_eq (show (((wTop q Y qt qd qn qs qk qh qp qr K) ++ ((wNet qn Y J N) ++ (wHist qh Y Ih Ah))) : va_W) = ((wTop q Y qt qd qn qs qk qh qp qr K) ++ (wNet qn Y J N)) ++ (wHist qh Y Ih Ah) by simp only [List.append_assoc, List.append_nil]))) 0 (ci := 5) rfl rfl rfl rfl ⟨Nat.le_of_ble_eq_true rfl, Nat.le_of_ble_eq_true rfl⟩ ⟨rfl, rfl⟩ ⟨Nat.le_of_ble_eq_true rfl, Nat.le_of_ble_eq_true rfl⟩ (Nat.le_of_ble_eq_true rfl) dX7_slower_2 rfl rfl ((wTop q Y qt qd qn qs qk qh qp qr K) ++ ((wNet qn Y J N) ++ (wHist qh Y Ih Ah))) (((pm_s (List.Perm.refl _)).trans (pm_s (List.Perm.refl _))).trans (List.Perm.of_eq (show (((wTop q Y qt qd qn qs qk qh qp qr K) ++ ((wNet qn Y J N) ++ (wHist qh Y Ih Ah))) : va_W) = ((wTop q Y qt qd qn qs qk qh qp qr K) ++ (wNet qn Y J N)) ++ (wHist qh Y Ih Ah) by simp only [List.append_assoc, List.append_nil]))).symm ?_
  refine g_if_ne C (n' := 8) 11 dX7_slower_5 (by decide) rfl bz_r (fun c1 => ?_) (fun c1 => ?_)
  · skip
    replace c1 := bz_ne.mp c1
    refine g_iload_n C (n' := 12) 2 rfl dX7_slower_11 rfl rfl ?_
    refine g_iconst C (n' := 13) dX7_slower_12 rfl ?_
    refine g_bipush C (n' := 15) (by decide) dX7_slower_13 rfl ?_
    refine g_cSv C (n' := 18) (v := .int (iI (if 1 ≤ y ∧ y ≤ 20 then 1 else 0))) (c_X7_isWithin l D Y C.2.2.2.2.2.2.2.2.1 y 1 20 hy (by unfold inR at *; omega) (by unfold inR at *; omega)) 3 kw_217 kc_X7_isWithin (by decide +kernel) (pm_n _) rfl ⟨Nat.le_of_ble_eq_true rfl, Nat.le_of_ble_eq_true rfl⟩ ⟨rfl, rfl⟩ ⟨Nat.le_of_ble_eq_true rfl, Nat.le_of_ble_eq_true rfl⟩ (Nat.le_of_ble_eq_true rfl) dX7_slower_15 rfl rfl ((wTop q Y qt qd qn qs qk qh qp qr K) ++ ((wNet qn Y J N) ++ (wHist qh Y Ih Ah))) (pm_n _) ?_
    refine g_if_ne C (n' := 21) 24 dX7_slower_18 (by decide) rfl bz_r (fun c2 => ?_) (fun c2 => ?_)
    · skip
      replace c2 := bz_ne.mp c2
      refine g_aload_n C (n' := 25) 0 rfl dX7_slower_24 rfl rfl ?_
      refine g_get C (n' := 28) (Cn := RX7) (T := TX7) (N := 9) (ci := 5) (v := .ref (qn 99)) ga_X7 0 rfl rfl 2 (by decide) kw_187 rfl rfl dX7_slower_25 rfl ?_
      refine g_iload_n C (n' := 29) 1 rfl dX7_slower_28 rfl rfl ?_
      refine g_iload_n C (n' := 30) 2 rfl dX7_slower_29 rfl rfl ?_
      refine g_cVv C (n' := 33) (v := .int (iI (if (N 8) x.toNat + y ≤ 199 then 1 else 0))) (c_X2_canBeSlower l D Y C.2.2.2.2.2.2.2.2.1 qn J N x y hsJ hsN (by omega) (by omega) (by omega)) 2 kw_407 kc_X2_canBeSlower (by decide +kernel) (pm_s (List.Perm.refl _)) 0 (ci := 1) rfl rfl rfl rfl ⟨Nat.le_of_ble_eq_true rfl, Nat.le_of_ble_eq_true rfl⟩ ⟨rfl, rfl⟩ ⟨Nat.le_of_ble_eq_true rfl, Nat.le_of_ble_eq_true rfl⟩ (Nat.le_of_ble_eq_true rfl) dX7_slower_30 rfl rfl ((wTop q Y qt qd qn qs qk qh qp qr K) ++ ((wNet qn Y J N) ++ (wHist qh Y Ih Ah))) (pm_s (List.Perm.refl _)).symm ?_
      refine g_if_ne C (n' := 36) 39 dX7_slower_33 (by decide) rfl bz_r (fun c3 => ?_) (fun c3 => ?_)
      · skip
        replace c3 := bz_ne.mp c3
        refine g_aload_n C (n' := 40) 0 rfl dX7_slower_39 rfl rfl ?_
        refine g_get C (n' := 43) (Cn := RX7) (T := TX7) (N := 9) (ci := 5) (v := .ref (qh 99)) ga_X7 0 rfl rfl 6 (by decide) kw_191 rfl rfl dX7_slower_40 rfl ?_
        refine g_iload_n C (n' := 44) 1 rfl dX7_slower_43 rfl rfl ?_
        refine g_iload_n C (n' := 45) 2 rfl dX7_slower_44 rfl rfl ?_
        refine g_cVn C (n' := 48) (c_X1_push l D Y C.2.2.2.2.2.2.2.2.1 qh Ih Ah x y hsIh hsAh h2 h3) 2 kw_396 kc_X1_push (by decide +kernel) (pm_s List.perm_append_comm) 0 (ci := 0) rfl rfl rfl rfl ⟨Nat.le_of_ble_eq_true rfl, Nat.le_of_ble_eq_true rfl⟩ ⟨rfl, rfl⟩ ⟨Nat.le_of_ble_eq_true rfl, Nat.le_of_ble_eq_true rfl⟩ (Nat.le_of_ble_eq_true rfl) dX7_slower_45 rfl rfl ((wTop q Y qt qd qn qs qk qh qp qr K) ++ ((wNet qn Y J N) ++ (wHist qh Y (h_pushI Ih) (h_pushA Ih Ah x y)))) (pm_s List.perm_append_comm).symm ?_
        refine g_aload_n C (n' := 49) 0 rfl dX7_slower_48 rfl rfl ?_
        refine g_get C (n' := 52) (Cn := RX7) (T := TX7) (N := 9) (ci := 5) (v := .ref (qn 99)) ga_X7 0 rfl rfl 2 (by decide) kw_187 rfl rfl dX7_slower_49 rfl ?_
        refine g_iload_n C (n' := 53) 1 rfl dX7_slower_52 rfl rfl ?_
        refine g_iload_n C (n' := 54) 2 rfl dX7_slower_53 rfl rfl ?_
        refine g_cVn C (n' := 57) (c_X2_delay l D Y C.2.2.2.2.2.2.2.2.1 qn J N x y (by omega) (by omega)) 2 kw_411 kc_X2_delay (by decide +kernel) (pm_s (List.Perm.refl _)) 0 (ci := 1) rfl rfl rfl rfl ⟨Nat.le_of_ble_eq_true rfl, Nat.le_of_ble_eq_true rfl⟩ ⟨rfl, rfl⟩ ⟨Nat.le_of_ble_eq_true rfl, Nat.le_of_ble_eq_true rfl⟩ (Nat.le_of_ble_eq_true rfl) dX7_slower_54 rfl rfl ((wTop q Y qt qd qn qs qk qh qp qr K) ++ ((wNet qn Y J (n_slow N x y)) ++ (wHist qh Y (h_pushI Ih) (h_pushA Ih Ah x y)))) (pm_s (List.Perm.refl _)).symm ?_
        refine g_aload_n C (n' := 58) 0 rfl dX7_slower_57 rfl rfl ?_
        refine g_get C (n' := 61) (Cn := RX7) (T := TX7) (N := 9) (ci := 5) (v := .ref (qn 99)) ga_X7 0 rfl rfl 2 (by decide) kw_187 rfl rfl dX7_slower_58 rfl ?_
        refine g_getN C (n' := 64) (Cn := RX2) (T := TX2) (N := 10) (ci := 1) (v := .ref (qn 8)) ga_X2 4 rfl rfl 8 (by decide) (List.mem_of_getElem? (i := 18) rfl) rfl rfl dX7_slower_61 rfl ?_
        refine g_iload_n C (n' := 65) 1 rfl dX7_slower_64 rfl rfl ?_
        refine g_iald C (n' := 66) (f := ((n_slow N x y) 8)) 7 0 rfl rfl (by omega) (by omega) (by decide) rfl dX7_slower_65 rfl ?_
        exact g_iret C hr hlk rfl (Or.inr ⟨by omega, Or.inr ⟨by omega, Or.inr ⟨by omega, congrArg (fun z : Int => some (Value.int (iI z))) (sU_s _ _ _), rfl⟩⟩⟩) dX7_slower_66
      · skip
        replace c3 := bz_nne.mp c3
        refine g_bipush C (n' := 38) (by decide) dX7_slower_36 rfl ?_
        exact g_iret C hr hlk rfl (Or.inr ⟨by omega, Or.inr ⟨by omega, Or.inl ⟨by omega, rfl, rfl⟩⟩⟩) dX7_slower_38
    · skip
      replace c2 := bz_nne.mp c2
      refine g_bipush C (n' := 23) (by decide) dX7_slower_21 rfl ?_
      exact g_iret C hr hlk rfl (Or.inr ⟨by omega, Or.inl ⟨by omega, rfl, rfl⟩⟩) dX7_slower_23
  · skip
    replace c1 := bz_nne.mp c1
    refine g_bipush C (n' := 10) (by decide) dX7_slower_8 rfl ?_
    exact g_iret C hr hlk rfl (Or.inl ⟨by omega, rfl, rfl⟩) dX7_slower_10
set_option maxRecDepth 100000 in
set_option maxHeartbeats 4000000 in
theorem c_X7_undo (l : Launch) (D : va_G) (Y : Nat → ClassId) {E : (Nat → Prop) → State → Heap → Prop} (hE : g_Stab E) (q : Nat → Nat) (qt qd qn qs : Nat → Nat) (qk : Nat → Nat → Nat) (qh qp : Nat → Nat) (qr : Nat → Nat → Nat) (K : Nat → Int) (J : Nat → Int) (N : Nat → Nat → Int) (Ih : Nat → Int) (Ah : Nat → Nat → Int) (hsJ : smI J) (hsN : smA N) (hO : okN J N) (hsIh : smI Ih) (hsAh : smA Ah) (h2 : 0 ≤ Ih 2 ∧ Ih 2 < 8) (h3 : 0 ≤ Ih 3 ∧ Ih 3 ≤ 8) (hq : ∀ k : Nat, Ah 0 k = -1 ∨ (0 ≤ Ah 0 k ∧ Ah 0 k < 16)) : g_Ct l yX7_undo cX7_undo 1 (some FieldType.int) ({ frames := 2, cells := 0, slots := 0, locals := 43 } : Room) D (tysY Y) E [.ref (q 99)] ((wTop q Y qt qd qn qs qk qh qp qr K) ++ ((wNet qn Y J N) ++ (wHist qh Y Ih Ah))) 0 0 (fun r9 w9 => (Ih 3 = 0 ∧ r9 = some (.int (iI (-4))) ∧ w9 = ((wTop q Y qt qd qn qs qk qh qp qr K) ++ ((wNet qn Y J N) ++ (wHist qh Y Ih Ah)))) ∨ (Ih 3 ≠ 0 ∧ r9 = some (.int (iI (Ih 3 - 1))) ∧ w9 = ((wTop q Y qt qd qn qs qk qh qp qr K) ++ ((wNet qn Y (h_revN Ih Ah J) (h_revB Ih Ah N)) ++ (wHist qh Y (h_revI Ih) Ah))))) := by
  refine g_ofG (own := RX7) hE (by decide) rfl (Nat.le_of_ble_eq_true rfl) [(0, .ref (q 99))] rfl ?_
  intro p9 e9 s9 m9 b9 t9 c9 A9 C hr hlk hnm
  have hJ := hsJ
  unfold smI at hJ
  have hN := hsN
  unfold smA at hN
  have hO9 := hO
  unfold okN at hO9
  have hIh := hsIh
  unfold smI at hIh
  have hAh := hsAh
  unfold smA at hAh
  refine g_aload_n C (n' := 1) 0 rfl dX7_undo_0 rfl rfl ?_
  refine g_get C (n' := 4) (Cn := RX7) (T := TX7) (N := 9) (ci := 5) (v := .ref (qh 99)) ga_X7 0 rfl rfl 6 (by decide) kw_191 rfl rfl dX7_undo_1 rfl ?_
  refine g_cVv C (n' := 7) (v := .int (iI ((Ih 3)))) (c_X1_size l D Y C.2.2.2.2.2.2.2.2.1 qh Ih Ah) 0 kw_419 kc_X1_size (by decide +kernel) (pm_s List.perm_append_comm) 0 (ci := 0) rfl rfl rfl rfl ⟨Nat.le_of_ble_eq_true rfl, Nat.le_of_ble_eq_true rfl⟩ ⟨rfl, rfl⟩ ⟨Nat.le_of_ble_eq_true rfl, Nat.le_of_ble_eq_true rfl⟩ (Nat.le_of_ble_eq_true rfl) dX7_undo_4 rfl rfl ((wTop q Y qt qd qn qs qk qh qp qr K) ++ ((wNet qn Y J N) ++ (wHist qh Y Ih Ah))) (pm_s List.perm_append_comm).symm ?_
  refine g_if_ne C (n' := 10) 13 dX7_undo_7 (by decide) rfl (by unfold inR; omega) (fun c1 => ?_) (fun c1 => ?_)
  · skip
    refine g_aload_n C (n' := 14) 0 rfl dX7_undo_13 rfl rfl ?_
    refine g_get C (n' := 17) (Cn := RX7) (T := TX7) (N := 9) (ci := 5) (v := .ref (qh 99)) ga_X7 0 rfl rfl 6 (by decide) kw_191 rfl rfl dX7_undo_14 rfl ?_
    refine g_aload_n C (n' := 18) 0 rfl dX7_undo_17 rfl rfl ?_
    refine g_get C (n' := 21) (Cn := RX7) (T := TX7) (N := 9) (ci := 5) (v := .ref (qn 99)) ga_X7 0 rfl rfl 2 (by decide) kw_187 rfl rfl dX7_undo_18 rfl ?_
    refine g_cVn C (n' := 24) (c_X1_revertLatest l D Y C.2.2.2.2.2.2.2.2.1 qh Ih Ah qn J N hsIh hsAh h2 h3 hq) 1 kw_423 kc_X1_revertLatest (by decide +kernel) (((pm_s (List.Perm.refl _)).trans (pm_s List.perm_append_comm)).trans (List.Perm.of_eq (show (((wHist qh Y Ih Ah) ++ ((wNet qn Y J N) ++ (wTop q Y qt qd qn qs qk qh qp qr K))) : va_W) = ((wHist qh Y Ih Ah) ++ (wNet qn Y J N)) ++ (wTop q Y qt qd qn qs qk qh qp qr K) by simp only [List.append_assoc, List.append_nil]))) 0 (ci := 0) rfl rfl rfl rfl ⟨Nat.le_of_ble_eq_true rfl, Nat.le_of_ble_eq_true rfl⟩ ⟨rfl, rfl⟩ ⟨Nat.le_of_ble_eq_true rfl, Nat.le_of_ble_eq_true rfl⟩ (Nat.le_of_ble_eq_true rfl) dX7_undo_21 rfl rfl ((wTop q Y qt qd qn qs qk qh qp qr K) ++ ((wNet qn Y (h_revN Ih Ah J) (h_revB Ih Ah N)) ++ (wHist qh Y (h_revI Ih) Ah))) (((pm_s (List.Perm.refl _)).trans (pm_s List.perm_append_comm)).trans (List.Perm.of_eq (show (((wHist qh Y (h_revI Ih) Ah) ++ ((wNet qn Y (h_revN Ih Ah J) (h_revB Ih Ah N)) ++ (wTop q Y qt qd qn qs qk qh qp qr K))) : va_W) = ((wHist qh Y (h_revI Ih) Ah) ++ (wNet qn Y (h_revN Ih Ah J) (h_revB Ih Ah N))) ++ (wTop q Y qt qd qn qs qk qh qp qr K) by simp only [List.append_assoc, List.append_nil]))).symm ?_
    refine g_aload_n C (n' := 25) 0 rfl dX7_undo_24 rfl rfl ?_
    refine g_get C (n' := 28) (Cn := RX7) (T := TX7) (N := 9) (ci := 5) (v := .ref (qh 99)) ga_X7 0 rfl rfl 6 (by decide) kw_191 rfl rfl dX7_undo_25 rfl ?_
    refine g_cVv C (n' := 31) (v := .int (iI (((h_revI Ih) 3)))) (c_X1_size l D Y C.2.2.2.2.2.2.2.2.1 qh (h_revI Ih) Ah) 0 kw_419 kc_X1_size (by decide +kernel) (pm_s List.perm_append_comm) 0 (ci := 0) rfl rfl rfl rfl ⟨Nat.le_of_ble_eq_true rfl, Nat.le_of_ble_eq_true rfl⟩ ⟨rfl, rfl⟩ ⟨Nat.le_of_ble_eq_true rfl, Nat.le_of_ble_eq_true rfl⟩ (Nat.le_of_ble_eq_true rfl) dX7_undo_28 rfl rfl ((wTop q Y qt qd qn qs qk qh qp qr K) ++ ((wNet qn Y (h_revN Ih Ah J) (h_revB Ih Ah N)) ++ (wHist qh Y (h_revI Ih) Ah))) (pm_s List.perm_append_comm).symm ?_
    exact g_iret C hr hlk rfl (Or.inr ⟨by omega, congrArg (fun z : Int => some (Value.int (iI z))) (by unfold h_revI; rw [if_neg (by omega)]; rfl), rfl⟩) dX7_undo_31
  · skip
    refine g_bipush C (n' := 12) (by decide) dX7_undo_10 rfl ?_
    exact g_iret C hr hlk rfl (Or.inl ⟨by omega, rfl, rfl⟩) dX7_undo_12
set_option maxRecDepth 100000 in
set_option maxHeartbeats 4000000 in
theorem c_X7_keep (l : Launch) (D : va_G) (Y : Nat → ClassId) {E : (Nat → Prop) → State → Heap → Prop} (hE : g_Stab E) (q : Nat → Nat) (qt qd qn qs : Nat → Nat) (qk : Nat → Nat → Nat) (qh qp : Nat → Nat) (qr : Nat → Nat → Nat) (K : Nat → Int) (J : Nat → Int) (N : Nat → Nat → Int) (Jk : Nat → Int) (Nk : Nat → Nat → Int) (k : Int) (hk : 0 ≤ k ∧ k ≤ 1) : g_Ct l yX7_keep cX7_keep 2 (some FieldType.int) ({ frames := 3, cells := 0, slots := 0, locals := 81 } : Room) D (tysY Y) E [.ref (q 99), .int (iI k)] ((wTop q Y qt qd qn qs qk qh qp qr K) ++ ((wNet qn Y J N) ++ (wNet (qk k.toNat) Y Jk Nk))) 0 0 (g_det (some (.int (iI (J 4)))) ((wTop q Y qt qd qn qs qk qh qp qr (sU K k.toNat 1)) ++ ((wNet qn Y J N) ++ (wNet (qk k.toNat) Y (n_cpI Jk J) (n_cpA Nk N))))) := by
  refine g_ofG (own := RX7) hE (by decide) rfl (Nat.le_of_ble_eq_true rfl) [(0, .ref (q 99)), (1, .int (iI k))] rfl ?_
  intro p9 e9 s9 m9 b9 t9 c9 A9 C hr hlk hnm
  refine g_iload_n C (n' := 1) 1 rfl dX7_keep_0 rfl rfl ?_
  refine g_cSv C (n' := 4) (v := .int (iI (if 0 ≤ k ∧ k ≤ 1 then 1 else 0))) (c_X7_isKeptPlace l D Y C.2.2.2.2.2.2.2.2.1 k (by unfold inR at *; omega)) 1 kw_432 kc_X7_isKeptPlace (by decide +kernel) (pm_n _) rfl ⟨Nat.le_of_ble_eq_true rfl, Nat.le_of_ble_eq_true rfl⟩ ⟨rfl, rfl⟩ ⟨Nat.le_of_ble_eq_true rfl, Nat.le_of_ble_eq_true rfl⟩ (Nat.le_of_ble_eq_true rfl) dX7_keep_1 rfl rfl ((wTop q Y qt qd qn qs qk qh qp qr K) ++ ((wNet qn Y J N) ++ (wNet (qk k.toNat) Y Jk Nk))) (pm_n _) ?_
  refine g_if_ne C (n' := 7) 10 dX7_keep_4 (by decide) rfl bz_r (fun c1 => ?_) (fun c1 => ?_)
  · skip
    replace c1 := bz_ne.mp c1
    refine g_aload_n C (n' := 11) 0 rfl dX7_keep_10 rfl rfl ?_
    refine g_get C (n' := 14) (Cn := RX7) (T := TX7) (N := 9) (ci := 5) (v := .ref (q 4)) ga_X7 0 rfl rfl 4 (by decide) kw_189 rfl rfl dX7_keep_11 rfl ?_
    refine g_iload_n C (n' := 15) 1 rfl dX7_keep_14 rfl rfl ?_
    refine g_aald C (n' := 16) (v := qk k.toNat 99) 1 5 rfl rfl (by omega) (by omega) (by decide) (if_pos (by omega)) dX7_keep_15 rfl ?_
    refine g_aload_n C (n' := 17) 0 rfl dX7_keep_16 rfl rfl ?_
    refine g_get C (n' := 20) (Cn := RX7) (T := TX7) (N := 9) (ci := 5) (v := .ref (qn 99)) ga_X7 0 rfl rfl 2 (by decide) kw_187 rfl rfl dX7_keep_17 rfl ?_
    refine g_cVn C (n' := 23) (c_X2_copyFrom l D Y C.2.2.2.2.2.2.2.2.1 (qk k.toNat) Jk Nk qn J N) 1 kw_363 kc_X2_copyFrom (by decide +kernel) (((pm_s (List.Perm.refl _)).trans (pm_s List.perm_append_comm)).trans (List.Perm.of_eq (show (((wNet (qk k.toNat) Y Jk Nk) ++ ((wNet qn Y J N) ++ (wTop q Y qt qd qn qs qk qh qp qr K))) : va_W) = ((wNet (qk k.toNat) Y Jk Nk) ++ (wNet qn Y J N)) ++ (wTop q Y qt qd qn qs qk qh qp qr K) by simp only [List.append_assoc, List.append_nil]))) 0 (ci := 1) rfl rfl rfl rfl ⟨Nat.le_of_ble_eq_true rfl, Nat.le_of_ble_eq_true rfl⟩ ⟨rfl, rfl⟩ ⟨Nat.le_of_ble_eq_true rfl, Nat.le_of_ble_eq_true rfl⟩ (Nat.le_of_ble_eq_true rfl) dX7_keep_20 rfl rfl ((wTop q Y qt qd qn qs qk qh qp qr K) ++ ((wNet qn Y J N) ++ (wNet (qk k.toNat) Y (n_cpI Jk J) (n_cpA Nk N)))) (((pm_s (List.Perm.refl _)).trans (pm_s List.perm_append_comm)).trans (List.Perm.of_eq (show (((wNet (qk k.toNat) Y (n_cpI Jk J) (n_cpA Nk N)) ++ ((wNet qn Y J N) ++ (wTop q Y qt qd qn qs qk qh qp qr K))) : va_W) = ((wNet (qk k.toNat) Y (n_cpI Jk J) (n_cpA Nk N)) ++ (wNet qn Y J N)) ++ (wTop q Y qt qd qn qs qk qh qp qr K) by simp only [List.append_assoc, List.append_nil]))).symm ?_
    refine g_aload_n C (n' := 24) 0 rfl dX7_keep_23 rfl rfl ?_
    refine g_get C (n' := 27) (Cn := RX7) (T := TX7) (N := 9) (ci := 5) (v := .ref (q 5)) ga_X7 0 rfl rfl 5 (by decide) kw_190 rfl rfl dX7_keep_24 rfl ?_
    refine g_iload_n C (n' := 28) 1 rfl dX7_keep_27 rfl rfl ?_
    refine g_iconst C (n' := 29) dX7_keep_28 rfl ?_
    refine g_zast C (n' := 30) (f := K) 2 2 rfl rfl (by omega) (by omega) (by decide) (by omega) rfl dX7_keep_29 rfl ((wTop q Y qt qd qn qs qk qh qp qr (sU K k.toNat 1)) ++ ((wNet qn Y J N) ++ (wNet (qk k.toNat) Y (n_cpI Jk J) (n_cpA Nk N)))) rfl ?_
    refine g_aload_n C (n' := 31) 0 rfl dX7_keep_30 rfl rfl ?_
    refine g_get C (n' := 34) (Cn := RX7) (T := TX7) (N := 9) (ci := 5) (v := .ref (qn 99)) ga_X7 0 rfl rfl 2 (by decide) kw_187 rfl rfl dX7_keep_31 rfl ?_
    refine g_getN C (n' := 37) (Cn := RX2) (T := TX2) (N := 10) (ci := 1) (v := .int (iI (J 4))) ga_X2 4 rfl rfl 4 (by decide) (List.mem_of_getElem? (i := 10) rfl) rfl rfl dX7_keep_34 rfl ?_
    refine g_iret C hr hlk rfl ⟨congrArg (fun z : Int => some (Value.int (iI z))) ?_, ?_⟩ dX7_keep_37
    · first | rfl | omega | ((repeat' split) <;> first | rfl | omega | (exfalso; omega))
    · first | rfl | omega | ((repeat' split) <;> first | rfl | omega | (exfalso; omega))
  · skip
    replace c1 := bz_nne.mp c1
    exfalso
    omega
set_option maxRecDepth 100000 in
set_option maxHeartbeats 4000000 in
theorem c_X7_keep_o (l : Launch) (D : va_G) (Y : Nat → ClassId) {E : (Nat → Prop) → State → Heap → Prop} (hE : g_Stab E) (q : Nat → Nat) (qt qd qn qs : Nat → Nat) (qk : Nat → Nat → Nat) (qh qp : Nat → Nat) (qr : Nat → Nat → Nat) (K : Nat → Int) (k : Int) (hk : ¬ (0 ≤ k ∧ k ≤ 1)) (hk2 : inR k) : g_Ct l yX7_keep cX7_keep 2 (some FieldType.int) ({ frames := 3, cells := 0, slots := 0, locals := 81 } : Room) D (tysY Y) E [.ref (q 99), .int (iI k)] (wTop q Y qt qd qn qs qk qh qp qr K) 0 0 (g_det (some (.int (iI (-2)))) (wTop q Y qt qd qn qs qk qh qp qr K)) := by
  refine g_ofG (own := RX7) hE (by decide) rfl (Nat.le_of_ble_eq_true rfl) [(0, .ref (q 99)), (1, .int (iI k))] rfl ?_
  intro p9 e9 s9 m9 b9 t9 c9 A9 C hr hlk hnm
  have hk29 := hk2
  unfold inR at hk29
  refine g_iload_n C (n' := 1) 1 rfl dX7_keep_0 rfl rfl ?_
  refine g_cSv C (n' := 4) (v := .int (iI (if 0 ≤ k ∧ k ≤ 1 then 1 else 0))) (c_X7_isKeptPlace l D Y C.2.2.2.2.2.2.2.2.1 k hk2) 1 kw_432 kc_X7_isKeptPlace (by decide +kernel) (pm_n _) rfl ⟨Nat.le_of_ble_eq_true rfl, Nat.le_of_ble_eq_true rfl⟩ ⟨rfl, rfl⟩ ⟨Nat.le_of_ble_eq_true rfl, Nat.le_of_ble_eq_true rfl⟩ (Nat.le_of_ble_eq_true rfl) dX7_keep_1 rfl rfl (wTop q Y qt qd qn qs qk qh qp qr K) (pm_n _) ?_
  refine g_if_ne C (n' := 7) 10 dX7_keep_4 (by decide) rfl bz_r (fun c1 => ?_) (fun c1 => ?_)
  · skip
    replace c1 := bz_ne.mp c1
    exfalso
    omega
  · skip
    replace c1 := bz_nne.mp c1
    refine g_bipush C (n' := 9) (by decide) dX7_keep_7 rfl ?_
    refine g_iret C hr hlk rfl ⟨congrArg (fun z : Int => some (Value.int (iI z))) ?_, ?_⟩ dX7_keep_9
    · first | rfl | omega | ((repeat' split) <;> first | rfl | omega | (exfalso; omega))
    · first | rfl | omega | ((repeat' split) <;> first | rfl | omega | (exfalso; omega))
set_option maxRecDepth 100000 in
set_option maxHeartbeats 4000000 in
theorem c_X7_back (l : Launch) (D : va_G) (Y : Nat → ClassId) {E : (Nat → Prop) → State → Heap → Prop} (hE : g_Stab E) (q : Nat → Nat) (qt qd qn qs : Nat → Nat) (qk : Nat → Nat → Nat) (qh qp : Nat → Nat) (qr : Nat → Nat → Nat) (K : Nat → Int) (J : Nat → Int) (N : Nat → Nat → Int) (Jk : Nat → Int) (Nk : Nat → Nat → Int) (Ih : Nat → Int) (Ah : Nat → Nat → Int) (k : Int) (hk : 0 ≤ k ∧ k ≤ 1) (hK0 : ∀ k : Nat, K k = 0 ∨ K k = 1) : g_Ct l yX7_back cX7_back 2 (some FieldType.int) ({ frames := 3, cells := 0, slots := 0, locals := 81 } : Room) D (tysY Y) E [.ref (q 99), .int (iI k)] ((wTop q Y qt qd qn qs qk qh qp qr K) ++ ((wNet qn Y J N) ++ ((wNet (qk k.toNat) Y Jk Nk) ++ (wHist qh Y Ih Ah)))) 0 0 (fun r9 w9 => (K k.toNat = 0 ∧ r9 = some (.int (iI (-4))) ∧ w9 = ((wTop q Y qt qd qn qs qk qh qp qr K) ++ ((wNet qn Y J N) ++ ((wNet (qk k.toNat) Y Jk Nk) ++ (wHist qh Y Ih Ah))))) ∨ (K k.toNat = 1 ∧ r9 = some (.int (iI (Jk 4))) ∧ w9 = ((wTop q Y qt qd qn qs qk qh qp qr K) ++ ((wNet qn Y (n_cpI J Jk) (n_cpA N Nk)) ++ ((wNet (qk k.toNat) Y Jk Nk) ++ (wHist qh Y (sU Ih 3 0) Ah)))))) := by
  refine g_ofG (own := RX7) hE (by decide) rfl (Nat.le_of_ble_eq_true rfl) [(0, .ref (q 99)), (1, .int (iI k))] rfl ?_
  intro p9 e9 s9 m9 b9 t9 c9 A9 C hr hlk hnm
  have hK := hK0
  refine g_iload_n C (n' := 1) 1 rfl dX7_back_0 rfl rfl ?_
  refine g_cSv C (n' := 4) (v := .int (iI (if 0 ≤ k ∧ k ≤ 1 then 1 else 0))) (c_X7_isKeptPlace l D Y C.2.2.2.2.2.2.2.2.1 k (by unfold inR at *; omega)) 1 kw_432 kc_X7_isKeptPlace (by decide +kernel) (pm_n _) rfl ⟨Nat.le_of_ble_eq_true rfl, Nat.le_of_ble_eq_true rfl⟩ ⟨rfl, rfl⟩ ⟨Nat.le_of_ble_eq_true rfl, Nat.le_of_ble_eq_true rfl⟩ (Nat.le_of_ble_eq_true rfl) dX7_back_1 rfl rfl ((wTop q Y qt qd qn qs qk qh qp qr K) ++ ((wNet qn Y J N) ++ ((wNet (qk k.toNat) Y Jk Nk) ++ (wHist qh Y Ih Ah)))) (pm_n _) ?_
  refine g_if_ne C (n' := 7) 10 dX7_back_4 (by decide) rfl bz_r (fun c1 => ?_) (fun c1 => ?_)
  · skip
    replace c1 := bz_ne.mp c1
    refine g_aload_n C (n' := 11) 0 rfl dX7_back_10 rfl rfl ?_
    refine g_get C (n' := 14) (Cn := RX7) (T := TX7) (N := 9) (ci := 5) (v := .ref (q 5)) ga_X7 0 rfl rfl 5 (by decide) kw_190 rfl rfl dX7_back_11 rfl ?_
    refine g_iload_n C (n' := 15) 1 rfl dX7_back_14 rfl rfl ?_
    refine g_zald C (n' := 16) (f := K) 2 2 rfl rfl (by omega) (by omega) (by decide) rfl dX7_back_15 rfl ?_
    have h_15 := hK k.toNat
    refine g_if_ne C (n' := 19) 22 dX7_back_16 (by decide) rfl (by unfold inR; omega) (fun c2 => ?_) (fun c2 => ?_)
    · skip
      refine g_aload_n C (n' := 23) 0 rfl dX7_back_22 rfl rfl ?_
      refine g_get C (n' := 26) (Cn := RX7) (T := TX7) (N := 9) (ci := 5) (v := .ref (qn 99)) ga_X7 0 rfl rfl 2 (by decide) kw_187 rfl rfl dX7_back_23 rfl ?_
      refine g_aload_n C (n' := 27) 0 rfl dX7_back_26 rfl rfl ?_
      refine g_get C (n' := 30) (Cn := RX7) (T := TX7) (N := 9) (ci := 5) (v := .ref (q 4)) ga_X7 0 rfl rfl 4 (by decide) kw_189 rfl rfl dX7_back_27 rfl ?_
      refine g_iload_n C (n' := 31) 1 rfl dX7_back_30 rfl rfl ?_
      refine g_aald C (n' := 32) (v := qk k.toNat 99) 1 5 rfl rfl (by omega) (by omega) (by decide) (if_pos (by omega)) dX7_back_31 rfl ?_
      refine g_cVn C (n' := 35) (c_X2_copyFrom l D Y C.2.2.2.2.2.2.2.2.1 qn J N (qk k.toNat) Jk Nk) 1 kw_363 kc_X2_copyFrom (by decide +kernel) (((pm_s (pm_s (List.Perm.refl _))).trans (pm_s (pm_s (List.Perm.refl _)))).trans (List.Perm.of_eq (show (((wNet qn Y J N) ++ ((wNet (qk k.toNat) Y Jk Nk) ++ ((wTop q Y qt qd qn qs qk qh qp qr K) ++ (wHist qh Y Ih Ah)))) : va_W) = ((wNet qn Y J N) ++ (wNet (qk k.toNat) Y Jk Nk)) ++ ((wTop q Y qt qd qn qs qk qh qp qr K) ++ (wHist qh Y Ih Ah)) by simp only [List.append_assoc, List.append_nil]))) 0 (ci := 1) rfl rfl rfl rfl ⟨Nat.le_of_ble_eq_true rfl, Nat.le_of_ble_eq_true rfl⟩ ⟨rfl, rfl⟩ ⟨Nat.le_of_ble_eq_true rfl, Nat.le_of_ble_eq_true rfl⟩ (Nat.le_of_ble_eq_true rfl) dX7_back_32 rfl rfl ((wTop q Y qt qd qn qs qk qh qp qr K) ++ ((wNet qn Y (n_cpI J Jk) (n_cpA N Nk)) ++ ((wNet (qk k.toNat) Y Jk Nk) ++ (wHist qh Y Ih Ah)))) (((pm_s (pm_s (List.Perm.refl _))).trans (pm_s (pm_s (List.Perm.refl _)))).trans (List.Perm.of_eq (show (((wNet qn Y (n_cpI J Jk) (n_cpA N Nk)) ++ ((wNet (qk k.toNat) Y Jk Nk) ++ ((wTop q Y qt qd qn qs qk qh qp qr K) ++ (wHist qh Y Ih Ah)))) : va_W) = ((wNet qn Y (n_cpI J Jk) (n_cpA N Nk)) ++ (wNet (qk k.toNat) Y Jk Nk)) ++ ((wTop q Y qt qd qn qs qk qh qp qr K) ++ (wHist qh Y Ih Ah)) by simp only [List.append_assoc, List.append_nil]))).symm ?_
      refine g_aload_n C (n' := 36) 0 rfl dX7_back_35 rfl rfl ?_
      refine g_get C (n' := 39) (Cn := RX7) (T := TX7) (N := 9) (ci := 5) (v := .ref (qh 99)) ga_X7 0 rfl rfl 6 (by decide) kw_191 rfl rfl dX7_back_36 rfl ?_
      refine g_cVn C (n' := 42) (c_X1_clear l D Y C.2.2.2.2.2.2.2.2.1 qh Ih Ah) 0 kw_364 kc_X1_clear (by decide +kernel) (pm_s (pm_s List.perm_append_comm)) 0 (ci := 0) rfl rfl rfl rfl ⟨Nat.le_of_ble_eq_true rfl, Nat.le_of_ble_eq_true rfl⟩ ⟨rfl, rfl⟩ ⟨Nat.le_of_ble_eq_true rfl, Nat.le_of_ble_eq_true rfl⟩ (Nat.le_of_ble_eq_true rfl) dX7_back_39 rfl rfl ((wTop q Y qt qd qn qs qk qh qp qr K) ++ ((wNet qn Y (n_cpI J Jk) (n_cpA N Nk)) ++ ((wNet (qk k.toNat) Y Jk Nk) ++ (wHist qh Y (sU Ih 3 0) Ah)))) (pm_s (pm_s List.perm_append_comm)).symm ?_
      refine g_aload_n C (n' := 43) 0 rfl dX7_back_42 rfl rfl ?_
      refine g_get C (n' := 46) (Cn := RX7) (T := TX7) (N := 9) (ci := 5) (v := .ref (qn 99)) ga_X7 0 rfl rfl 2 (by decide) kw_187 rfl rfl dX7_back_43 rfl ?_
      refine g_getN C (n' := 49) (Cn := RX2) (T := TX2) (N := 10) (ci := 1) (v := .int (iI ((n_cpI J Jk) 4))) ga_X2 4 rfl rfl 4 (by decide) (List.mem_of_getElem? (i := 10) rfl) rfl rfl dX7_back_46 rfl ?_
      exact g_iret C hr hlk rfl (Or.inr ⟨by omega, rfl, rfl⟩) dX7_back_49
    · skip
      refine g_bipush C (n' := 21) (by decide) dX7_back_19 rfl ?_
      exact g_iret C hr hlk rfl (Or.inl ⟨by omega, rfl, rfl⟩) dX7_back_21
  · skip
    replace c1 := bz_nne.mp c1
    exfalso
    omega
set_option maxRecDepth 100000 in
set_option maxHeartbeats 4000000 in
theorem c_X7_back_o (l : Launch) (D : va_G) (Y : Nat → ClassId) {E : (Nat → Prop) → State → Heap → Prop} (hE : g_Stab E) (q : Nat → Nat) (qt qd qn qs : Nat → Nat) (qk : Nat → Nat → Nat) (qh qp : Nat → Nat) (qr : Nat → Nat → Nat) (K : Nat → Int) (k : Int) (hk : ¬ (0 ≤ k ∧ k ≤ 1)) (hk2 : inR k) : g_Ct l yX7_back cX7_back 2 (some FieldType.int) ({ frames := 3, cells := 0, slots := 0, locals := 81 } : Room) D (tysY Y) E [.ref (q 99), .int (iI k)] (wTop q Y qt qd qn qs qk qh qp qr K) 0 0 (g_det (some (.int (iI (-2)))) (wTop q Y qt qd qn qs qk qh qp qr K)) := by
  refine g_ofG (own := RX7) hE (by decide) rfl (Nat.le_of_ble_eq_true rfl) [(0, .ref (q 99)), (1, .int (iI k))] rfl ?_
  intro p9 e9 s9 m9 b9 t9 c9 A9 C hr hlk hnm
  have hk29 := hk2
  unfold inR at hk29
  refine g_iload_n C (n' := 1) 1 rfl dX7_back_0 rfl rfl ?_
  refine g_cSv C (n' := 4) (v := .int (iI (if 0 ≤ k ∧ k ≤ 1 then 1 else 0))) (c_X7_isKeptPlace l D Y C.2.2.2.2.2.2.2.2.1 k hk2) 1 kw_432 kc_X7_isKeptPlace (by decide +kernel) (pm_n _) rfl ⟨Nat.le_of_ble_eq_true rfl, Nat.le_of_ble_eq_true rfl⟩ ⟨rfl, rfl⟩ ⟨Nat.le_of_ble_eq_true rfl, Nat.le_of_ble_eq_true rfl⟩ (Nat.le_of_ble_eq_true rfl) dX7_back_1 rfl rfl (wTop q Y qt qd qn qs qk qh qp qr K) (pm_n _) ?_
  refine g_if_ne C (n' := 7) 10 dX7_back_4 (by decide) rfl bz_r (fun c1 => ?_) (fun c1 => ?_)
  · skip
    replace c1 := bz_ne.mp c1
    exfalso
    omega
  · skip
    replace c1 := bz_nne.mp c1
    refine g_bipush C (n' := 9) (by decide) dX7_back_7 rfl ?_
    refine g_iret C hr hlk rfl ⟨congrArg (fun z : Int => some (Value.int (iI z))) ?_, ?_⟩ dX7_back_9
    · first | rfl | omega | ((repeat' split) <;> first | rfl | omega | (exfalso; omega))
    · first | rfl | omega | ((repeat' split) <;> first | rfl | omega | (exfalso; omega))
