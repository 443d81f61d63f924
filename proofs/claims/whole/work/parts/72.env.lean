/-! Text: clauses -/
def rpF (L : Nat → Int) (n e : Int) (J : Nat → Int) (N : Nat → Nat → Int) : Int × Int × Int × (Nat → Int) × (Nat → Nat → Int) :=
  if (t_num L n (tk1 L n e) (tk2 L n e) 0 (J 0 - 1)) = -1 then (0, (tk1 L n e), (tk2 L n e), J, N)
  else if (t_num L n (tk1 L n (tk2 L n e)) (tk2 L n (tk2 L n e)) 0 (J 0 - 1)) = -1 then (0, (tk1 L n (tk2 L n e)), (tk2 L n (tk2 L n e)), J, N)
  else if (t_num L n (tk1 L n (tk2 L n (tk2 L n e))) (tk2 L n (tk2 L n (tk2 L n e))) 0 99) = -1 then (0, (tk1 L n (tk2 L n (tk2 L n e))), (tk2 L n (tk2 L n (tk2 L n e))), J, N)
  else if (t_num L n (tk1 L n (tk2 L n (tk2 L n (tk2 L n e)))) (tk2 L n (tk2 L n (tk2 L n (tk2 L n e)))) 0 (t_num L n (tk1 L n (tk2 L n (tk2 L n e))) (tk2 L n (tk2 L n (tk2 L n e))) 0 99)) = -1 then (0, (tk1 L n (tk2 L n (tk2 L n (tk2 L n e)))), (tk2 L n (tk2 L n (tk2 L n (tk2 L n e)))), J, N)
  else (1, (tk1 L n (tk2 L n (tk2 L n (tk2 L n (tk2 L n e))))), (tk2 L n (tk2 L n (tk2 L n (tk2 L n (tk2 L n e))))), n_addI J, n_addA J N (t_num L n (tk1 L n e) (tk2 L n e) 0 (J 0 - 1)) (t_num L n (tk1 L n (tk2 L n e)) (tk2 L n (tk2 L n e)) 0 (J 0 - 1)) (t_num L n (tk1 L n (tk2 L n (tk2 L n e))) (tk2 L n (tk2 L n (tk2 L n e))) 0 99) (t_num L n (tk1 L n (tk2 L n (tk2 L n (tk2 L n e)))) (tk2 L n (tk2 L n (tk2 L n (tk2 L n e)))) 0 (t_num L n (tk1 L n (tk2 L n (tk2 L n e))) (tk2 L n (tk2 L n (tk2 L n e))) 0 99)))
theorem rcF_path {L : Nat → Int} {n s e : Int} {J : Nat → Int} {N : Nat → Nat → Int} (h : t_word L s e = 1) (h5 : ¬ 16 ≤ J 5) : rcF L n s e J N = rpF L n e J N := by
  unfold rcF
  rw [if_neg (by omega), if_pos h, if_neg h5]
  rfl
theorem smI_add {J : Nat → Int} (h : smI J) : smI (n_addI J) := by
  unfold n_addI
  split
  · exact h
  · exact sm_put h (by have := h 5; omega)
theorem smA_add {J : Nat → Int} {N : Nat → Nat → Int} (h : smA N) {a b u v : Int} (ha : -1000000 ≤ a ∧ a ≤ 1000000) (hb : -1000000 ≤ b ∧ b ≤ 1000000) (hu : -1000000 ≤ u ∧ u ≤ 1000000) (hv : -1000000 ≤ v ∧ v ≤ 1000000) : smA (n_addA J N a b u v) := by
  unfold n_addA
  split
  · exact h
  · exact sm_putA (sm_putA (sm_putA (sm_putA h (sm_putR (h 6) ha)) (sm_putR (h 7) hb)) (sm_putR (h 8) hu)) (sm_putR (h 9) hv)
theorem smI_tell {J : Nat → Int} (h : smI J) {w a : Int} (ha : 0 ≤ a ∧ a ≤ 1000) : smI (n_tell w a J) := by
  unfold n_tell n_begin
  split
  · exact sm_put (sm_put (sm_put (sm_put (sm_put (sm_put h (by omega)) (by omega)) (by omega)) (by omega)) (by omega)) (by omega)
  · (repeat' split) <;> exact sm_put h (by omega)
theorem rcF_sm {L : Nat → Int} {n s e : Int} {J : Nat → Int} {N : Nat → Nat → Int} (hJ : smI J) (hN : smA N) (hO : okN J N) : smI (rcF L n s e J N).2.2.2.1 ∧ smA (rcF L n s e J N).2.2.2.2 := by
  have h0 := hO.1
  unfold rcF
  split
  · exact ⟨hJ, hN⟩
  · split
    · split
      · exact ⟨hJ, hN⟩
      · split
        · exact ⟨hJ, hN⟩
        · next a1 =>
          split
          · exact ⟨hJ, hN⟩
          · next a2 =>
            split
            · exact ⟨hJ, hN⟩
            · next a3 =>
              split
              · exact ⟨hJ, hN⟩
              · next a4 =>
                have b1 := t_num_in a1
                have b2 := t_num_in a2
                have b3 := t_num_in a3
                have b4 := t_num_in a4
                exact ⟨smI_add hJ, smA_add hN (by omega) (by omega) (by omega) (by omega)⟩
    · split
      · exact ⟨hJ, hN⟩
      · next a1 =>
        have b1 := t_num_in a1
        refine ⟨smI_tell hJ ⟨?_, ?_⟩, hN⟩
        · have : 0 ≤ rcLo (t_word L s e) := by unfold rcLo; (repeat' split) <;> omega
          omega
        · have : rcHi (t_word L s e) ≤ 1000 := by unfold rcHi; (repeat' split) <;> omega
          omega
theorem sm_cpI {I J : Nat → Int} (h : smI I) (k : smI J) : smI (n_cpI I J) := sm_put (sm_put (sm_put (sm_put (sm_put (sm_put h (k 0)) (k 1)) (k 2)) (k 3)) (k 4)) (k 5)
theorem sC_r {f g : Nat → Int} {n : Nat} (h : smR f) (k : smR g) : smR (sC f g n) := fun j => by
  unfold sC
  split
  · exact h j
  · exact k j
theorem sm_cpA {A B : Nat → Nat → Int} (h : smA A) (k : smA B) : smA (n_cpA A B) := sm_putA (sm_putA (sm_putA (sm_putA h (sC_r (k 6) (h 6))) (sC_r (k 7) (h 7))) (sC_r (k 8) (h 8))) (sC_r (k 9) (h 9))
theorem cp_at {A B : Nat → Nat → Int} {p : Nat} (hp : p < 16) : n_cpA A B 6 p = B 6 p ∧ n_cpA A B 7 p = B 7 p ∧ n_cpA A B 8 p = B 8 p ∧ n_cpA A B 9 p = B 9 p := ⟨if_pos hp, if_pos hp, if_pos hp, if_pos hp⟩
theorem okN_cp {I J : Nat → Int} {A B : Nat → Nat → Int} (h : okN J B) : okN (n_cpI I J) (n_cpA A B) := by
  obtain ⟨h0, h1, h2, h3, h4, h5, h6⟩ := h
  refine ⟨h0, h1, h2, h3, h4, h5, fun p hp => ?_⟩
  have hp2 : (p : Int) < J 5 := hp
  obtain ⟨e1, e2, e3, e4⟩ := cp_at (A := A) (B := B) (show p < 16 by omega)
  rw [e1, e2, e3, e4]
  exact h6 p hp2
set_option maxRecDepth 100000 in
set_option maxHeartbeats 4000000 in
theorem c_X2_tell_0 (l : Launch) (D : va_G) (Y : Nat → ClassId) {E : (Nat → Prop) → State → Heap → Prop} (hE : g_Stab E) (q : Nat → Nat) (I : Nat → Int) (A : Nat → Nat → Int) (a : Int) (e : Nat → Nat) (hW : g_Env E e) : g_Ct l yX2_tell cX2_tell 3 none ({ frames := 2, cells := 0, slots := 0, locals := 60 } : Room) D (tysY Y) E [.ref (q 99), .ref (e (10 + 0)), .int (iI a)] (wNet q Y I A) 0 0 (g_det none (wNet q Y (n_begin I a) A)) := by
  refine g_ofG (own := RX2) hE (by decide) rfl (Nat.le_of_ble_eq_true rfl) [(0, .ref (q 99)), (1, .ref (e (10 + 0))), (2, .int (iI a))] rfl ?_
  intro p9 e9 s9 m9 b9 t9 c9 A9 C hr hlk hnm
  have hv := hW _ _ _ C.2.2.2.2.2.2.2.2.2
  refine g_gets C (n' := 3) (v := .ref (e 1)) hv.2.2.2.2.1 kw_351 rfl dX2_tell_0 rfl ?_
  refine g_aload_n C (n' := 4) 1 rfl dX2_tell_3 rfl rfl ?_
  refine g_cOrd C (n' := 7) (v := .int (iI 0)) (c_Jx29ce0_ordinal_8abf5 l D Y C.2.2.2.2.2.2.2.2.1 e 0 hW (by decide)) kw_353 kw_354 kw_356 kw_357 kw_13 kw_358 rfl (by decide +kernel) (fun A U H h => ((hW A U H h).2.2.1.1 0 (by decide)).2.1) ⟨Nat.le_of_ble_eq_true rfl, Nat.le_of_ble_eq_true rfl⟩ ⟨rfl, rfl⟩ ⟨Nat.le_of_ble_eq_true rfl, Nat.le_of_ble_eq_true rfl⟩ (Nat.le_of_ble_eq_true rfl) dX2_tell_4 rfl ?_
  refine g_ti C (n' := 8) hv.2.2.2.2.2.1 (v := .int (iI 1)) (by decide) (by decide) (by decide) rfl dX2_tell_7 rfl ?_
  refine g_tsIn C 44 dX2_tell_8 (by unfold inR; omega) (by omega) (by omega) rfl (by decide) ?_
  refine g_aload_n C (n' := 45) 0 rfl dX2_tell_44 rfl rfl ?_
  refine g_iload_n C (n' := 46) 2 rfl dX2_tell_45 rfl rfl ?_
  refine g_cVn C (n' := 49) (c_X2_begin l D Y C.2.2.2.2.2.2.2.2.1 q I A a) 1 kw_54 kc_X2_begin (by decide +kernel) (pm0 _) 0 (ci := 1) rfl rfl rfl rfl ⟨Nat.le_of_ble_eq_true rfl, Nat.le_of_ble_eq_true rfl⟩ ⟨rfl, rfl⟩ ⟨Nat.le_of_ble_eq_true rfl, Nat.le_of_ble_eq_true rfl⟩ (Nat.le_of_ble_eq_true rfl) dX2_tell_46 rfl rfl (wNet q Y (n_begin I a) A) (pm0' _) ?_
  refine g_goto C 84 dX2_tell_49 (by decide) ?_
  refine g_vret C hr hlk ⟨rfl, ?_⟩ dX2_tell_84
  first | rfl | omega | ((repeat' split) <;> first | rfl | omega | (exfalso; omega))
set_option maxRecDepth 100000 in
set_option maxHeartbeats 4000000 in
theorem c_X2_tell_2 (l : Launch) (D : va_G) (Y : Nat → ClassId) {E : (Nat → Prop) → State → Heap → Prop} (hE : g_Stab E) (q : Nat → Nat) (I : Nat → Int) (A : Nat → Nat → Int) (a : Int) (e : Nat → Nat) (hW : g_Env E e) : g_Ct l yX2_tell cX2_tell 3 none ({ frames := 2, cells := 0, slots := 0, locals := 60 } : Room) D (tysY Y) E [.ref (q 99), .ref (e (10 + 2)), .int (iI a)] (wNet q Y I A) 0 0 (g_det none (wNet q Y (sU I 1 a) A)) := by
  refine g_ofG (own := RX2) hE (by decide) rfl (Nat.le_of_ble_eq_true rfl) [(0, .ref (q 99)), (1, .ref (e (10 + 2))), (2, .int (iI a))] rfl ?_
  intro p9 e9 s9 m9 b9 t9 c9 A9 C hr hlk hnm
  have hv := hW _ _ _ C.2.2.2.2.2.2.2.2.2
  refine g_gets C (n' := 3) (v := .ref (e 1)) hv.2.2.2.2.1 kw_351 rfl dX2_tell_0 rfl ?_
  refine g_aload_n C (n' := 4) 1 rfl dX2_tell_3 rfl rfl ?_
  refine g_cOrd C (n' := 7) (v := .int (iI 2)) (c_Jx29ce0_ordinal_8abf5 l D Y C.2.2.2.2.2.2.2.2.1 e 2 hW (by decide)) kw_353 kw_354 kw_356 kw_357 kw_13 kw_358 rfl (by decide +kernel) (fun A U H h => ((hW A U H h).2.2.1.1 2 (by decide)).2.1) ⟨Nat.le_of_ble_eq_true rfl, Nat.le_of_ble_eq_true rfl⟩ ⟨rfl, rfl⟩ ⟨Nat.le_of_ble_eq_true rfl, Nat.le_of_ble_eq_true rfl⟩ (Nat.le_of_ble_eq_true rfl) dX2_tell_4 rfl ?_
  refine g_ti C (n' := 8) hv.2.2.2.2.2.1 (v := .int (iI 2)) (by decide) (by decide) (by decide) rfl dX2_tell_7 rfl ?_
  refine g_tsIn C 52 dX2_tell_8 (by unfold inR; omega) (by omega) (by omega) rfl (by decide) ?_
  refine g_aload_n C (n' := 53) 0 rfl dX2_tell_52 rfl rfl ?_
  refine g_iload_n C (n' := 54) 2 rfl dX2_tell_53 rfl rfl ?_
  refine g_put C (n' := 57) (Cn := RX2) (T := TX2) (N := 10) (ci := 1) (v := .int (iI a)) ga_X2 0 rfl rfl 1 (by decide) kw_62 rfl tyX2 tyX2_ok nmX2 rfl rfl rfl rfl (Nat.le_of_ble_eq_true rfl) (wNet q Y (sU I 1 a) A) rfl dX2_tell_54 rfl ?_
  refine g_goto C 84 dX2_tell_57 (by decide) ?_
  refine g_vret C hr hlk ⟨rfl, ?_⟩ dX2_tell_84
  first | rfl | omega | ((repeat' split) <;> first | rfl | omega | (exfalso; omega))
set_option maxRecDepth 100000 in
set_option maxHeartbeats 4000000 in
theorem c_X2_tell_3 (l : Launch) (D : va_G) (Y : Nat → ClassId) {E : (Nat → Prop) → State → Heap → Prop} (hE : g_Stab E) (q : Nat → Nat) (I : Nat → Int) (A : Nat → Nat → Int) (a : Int) (e : Nat → Nat) (hW : g_Env E e) : g_Ct l yX2_tell cX2_tell 3 none ({ frames := 2, cells := 0, slots := 0, locals := 60 } : Room) D (tysY Y) E [.ref (q 99), .ref (e (10 + 3)), .int (iI a)] (wNet q Y I A) 0 0 (g_det none (wNet q Y (sU I 2 a) A)) := by
  refine g_ofG (own := RX2) hE (by decide) rfl (Nat.le_of_ble_eq_true rfl) [(0, .ref (q 99)), (1, .ref (e (10 + 3))), (2, .int (iI a))] rfl ?_
  intro p9 e9 s9 m9 b9 t9 c9 A9 C hr hlk hnm
  have hv := hW _ _ _ C.2.2.2.2.2.2.2.2.2
  refine g_gets C (n' := 3) (v := .ref (e 1)) hv.2.2.2.2.1 kw_351 rfl dX2_tell_0 rfl ?_
  refine g_aload_n C (n' := 4) 1 rfl dX2_tell_3 rfl rfl ?_
  refine g_cOrd C (n' := 7) (v := .int (iI 3)) (c_Jx29ce0_ordinal_8abf5 l D Y C.2.2.2.2.2.2.2.2.1 e 3 hW (by decide)) kw_353 kw_354 kw_356 kw_357 kw_13 kw_358 rfl (by decide +kernel) (fun A U H h => ((hW A U H h).2.2.1.1 3 (by decide)).2.1) ⟨Nat.le_of_ble_eq_true rfl, Nat.le_of_ble_eq_true rfl⟩ ⟨rfl, rfl⟩ ⟨Nat.le_of_ble_eq_true rfl, Nat.le_of_ble_eq_true rfl⟩ (Nat.le_of_ble_eq_true rfl) dX2_tell_4 rfl ?_
  refine g_ti C (n' := 8) hv.2.2.2.2.2.1 (v := .int (iI 3)) (by decide) (by decide) (by decide) rfl dX2_tell_7 rfl ?_
  refine g_tsIn C 60 dX2_tell_8 (by unfold inR; omega) (by omega) (by omega) rfl (by decide) ?_
  refine g_aload_n C (n' := 61) 0 rfl dX2_tell_60 rfl rfl ?_
  refine g_iload_n C (n' := 62) 2 rfl dX2_tell_61 rfl rfl ?_
  refine g_put C (n' := 65) (Cn := RX2) (T := TX2) (N := 10) (ci := 1) (v := .int (iI a)) ga_X2 0 rfl rfl 2 (by decide) kw_65 rfl tyX2 tyX2_ok nmX2 rfl rfl rfl rfl (Nat.le_of_ble_eq_true rfl) (wNet q Y (sU I 2 a) A) rfl dX2_tell_62 rfl ?_
  refine g_goto C 84 dX2_tell_65 (by decide) ?_
  refine g_vret C hr hlk ⟨rfl, ?_⟩ dX2_tell_84
  first | rfl | omega | ((repeat' split) <;> first | rfl | omega | (exfalso; omega))
set_option maxRecDepth 100000 in
set_option maxHeartbeats 4000000 in
theorem c_X2_tell_4 (l : Launch) (D : va_G) (Y : Nat → ClassId) {E : (Nat → Prop) → State → Heap → Prop} (hE : g_Stab E) (q : Nat → Nat) (I : Nat → Int) (A : Nat → Nat → Int) (a : Int) (e : Nat → Nat) (hW : g_Env E e) : g_Ct l yX2_tell cX2_tell 3 none ({ frames := 2, cells := 0, slots := 0, locals := 60 } : Room) D (tysY Y) E [.ref (q 99), .ref (e (10 + 4)), .int (iI a)] (wNet q Y I A) 0 0 (g_det none (wNet q Y (sU I 3 a) A)) := by
  refine g_ofG (own := RX2) hE (by decide) rfl (Nat.le_of_ble_eq_true rfl) [(0, .ref (q 99)), (1, .ref (e (10 + 4))), (2, .int (iI a))] rfl ?_
  intro p9 e9 s9 m9 b9 t9 c9 A9 C hr hlk hnm
  have hv := hW _ _ _ C.2.2.2.2.2.2.2.2.2
  refine g_gets C (n' := 3) (v := .ref (e 1)) hv.2.2.2.2.1 kw_351 rfl dX2_tell_0 rfl ?_
  refine g_aload_n C (n' := 4) 1 rfl dX2_tell_3 rfl rfl ?_
  refine g_cOrd C (n' := 7) (v := .int (iI 4)) (c_Jx29ce0_ordinal_8abf5 l D Y C.2.2.2.2.2.2.2.2.1 e 4 hW (by decide)) kw_353 kw_354 kw_356 kw_357 kw_13 kw_358 rfl (by decide +kernel) (fun A U H h => ((hW A U H h).2.2.1.1 4 (by decide)).2.1) ⟨Nat.le_of_ble_eq_true rfl, Nat.le_of_ble_eq_true rfl⟩ ⟨rfl, rfl⟩ ⟨Nat.le_of_ble_eq_true rfl, Nat.le_of_ble_eq_true rfl⟩ (Nat.le_of_ble_eq_true rfl) dX2_tell_4 rfl ?_
  refine g_ti C (n' := 8) hv.2.2.2.2.2.1 (v := .int (iI 4)) (by decide) (by decide) (by decide) rfl dX2_tell_7 rfl ?_
  refine g_tsIn C 68 dX2_tell_8 (by unfold inR; omega) (by omega) (by omega) rfl (by decide) ?_
  refine g_aload_n C (n' := 69) 0 rfl dX2_tell_68 rfl rfl ?_
  refine g_iload_n C (n' := 70) 2 rfl dX2_tell_69 rfl rfl ?_
  refine g_put C (n' := 73) (Cn := RX2) (T := TX2) (N := 10) (ci := 1) (v := .int (iI a)) ga_X2 0 rfl rfl 3 (by decide) kw_67 rfl tyX2 tyX2_ok nmX2 rfl rfl rfl rfl (Nat.le_of_ble_eq_true rfl) (wNet q Y (sU I 3 a) A) rfl dX2_tell_70 rfl ?_
  refine g_goto C 84 dX2_tell_73 (by decide) ?_
  refine g_vret C hr hlk ⟨rfl, ?_⟩ dX2_tell_84
  first | rfl | omega | ((repeat' split) <;> first | rfl | omega | (exfalso; omega))
set_option maxRecDepth 100000 in
set_option maxHeartbeats 4000000 in
theorem c_X2_tell_5 (l : Launch) (D : va_G) (Y : Nat → ClassId) {E : (Nat → Prop) → State → Heap → Prop} (hE : g_Stab E) (q : Nat → Nat) (I : Nat → Int) (A : Nat → Nat → Int) (a : Int) (e : Nat → Nat) (hW : g_Env E e) : g_Ct l yX2_tell cX2_tell 3 none ({ frames := 2, cells := 0, slots := 0, locals := 60 } : Room) D (tysY Y) E [.ref (q 99), .ref (e (10 + 5)), .int (iI a)] (wNet q Y I A) 0 0 (g_det none (wNet q Y (sU I 4 a) A)) := by
  refine g_ofG (own := RX2) hE (by decide) rfl (Nat.le_of_ble_eq_true rfl) [(0, .ref (q 99)), (1, .ref (e (10 + 5))), (2, .int (iI a))] rfl ?_
  intro p9 e9 s9 m9 b9 t9 c9 A9 C hr hlk hnm
  have hv := hW _ _ _ C.2.2.2.2.2.2.2.2.2
  refine g_gets C (n' := 3) (v := .ref (e 1)) hv.2.2.2.2.1 kw_351 rfl dX2_tell_0 rfl ?_
  refine g_aload_n C (n' := 4) 1 rfl dX2_tell_3 rfl rfl ?_
  refine g_cOrd C (n' := 7) (v := .int (iI 5)) (c_Jx29ce0_ordinal_8abf5 l D Y C.2.2.2.2.2.2.2.2.1 e 5 hW (by decide)) kw_353 kw_354 kw_356 kw_357 kw_13 kw_358 rfl (by decide +kernel) (fun A U H h => ((hW A U H h).2.2.1.1 5 (by decide)).2.1) ⟨Nat.le_of_ble_eq_true rfl, Nat.le_of_ble_eq_true rfl⟩ ⟨rfl, rfl⟩ ⟨Nat.le_of_ble_eq_true rfl, Nat.le_of_ble_eq_true rfl⟩ (Nat.le_of_ble_eq_true rfl) dX2_tell_4 rfl ?_
  refine g_ti C (n' := 8) hv.2.2.2.2.2.1 (v := .int (iI 5)) (by decide) (by decide) (by decide) rfl dX2_tell_7 rfl ?_
  refine g_tsIn C 76 dX2_tell_8 (by unfold inR; omega) (by omega) (by omega) rfl (by decide) ?_
  refine g_aload_n C (n' := 77) 0 rfl dX2_tell_76 rfl rfl ?_
  refine g_iload_n C (n' := 78) 2 rfl dX2_tell_77 rfl rfl ?_
  refine g_put C (n' := 81) (Cn := RX2) (T := TX2) (N := 10) (ci := 1) (v := .int (iI a)) ga_X2 0 rfl rfl 4 (by decide) kw_70 rfl tyX2 tyX2_ok nmX2 rfl rfl rfl rfl (Nat.le_of_ble_eq_true rfl) (wNet q Y (sU I 4 a) A) rfl dX2_tell_78 rfl ?_
  refine g_goto C 84 dX2_tell_81 (by decide) ?_
  refine g_vret C hr hlk ⟨rfl, ?_⟩ dX2_tell_84
  first | rfl | omega | ((repeat' split) <;> first | rfl | omega | (exfalso; omega))
set_option maxRecDepth 100000 in
set_option maxHeartbeats 4000000 in
theorem c_X4_readPath (l : Launch) (D : va_G) (Y : Nat → ClassId) {E : (Nat → Prop) → State → Heap → Prop} (hE : g_Stab E) (q : Nat → Nat) (I : Nat → Int) (L : Nat → Int) (q2 : Nat → Nat) (J : Nat → Int) (N : Nat → Nat → Int) (hsI : smI I) (hsL : smL L) (hT : tokOK I) (hsJ : smI J) (hsN : smA N) (hO : okN J N) : g_Ct l yX4_readPath cX4_readPath 6 (some FieldType.boolean) ({ frames := 3, cells := 0, slots := 0, locals := 65 } : Room) D (tysY Y) E [.ref (q 99), .ref (q2 99)] ((wText q Y I L) ++ (wNet q2 Y J N)) 0 0 (fun r9 w9 => ∃ I1 : Nat → Int, w9 = (wText q Y I1 L ++ wNet q2 Y (rpF L (I 1) (I 4) J N).2.2.2.1 (rpF L (I 1) (I 4) J N).2.2.2.2) ∧ smI I1 ∧ tokOK I1 ∧ (I1 1 = I 1 ∧ I1 2 = I 2) ∧ (I1 3 = (rpF L (I 1) (I 4) J N).2.1 ∧ I1 4 = (rpF L (I 1) (I 4) J N).2.2.1) ∧ r9 = some (.int (iI (rpF L (I 1) (I 4) J N).1))) := by
  refine g_ofG (own := RX4) hE (by decide) rfl (Nat.le_of_ble_eq_true rfl) [(0, .ref (q 99)), (1, .ref (q2 99))] rfl ?_
  intro p9 e9 s9 m9 b9 t9 c9 A9 C hr hlk hnm
  have hI := hsI
  have hL := hsL
  unfold smI at hI
  unfold smL at hL
  have hT9 := hT
  unfold tokOK at hT9
  have hJ := hsJ
  have hNn := hsN
  unfold smI at hJ
  unfold smA at hNn
  have hO9 := hO
  unfold okN at hO9
  refine g_aload_n C (n' := 1) 0 rfl dX4_readPath_0 rfl rfl ?_
  refine g_cVn C (n' := 4) (c_X4_advance l D Y C.2.2.2.2.2.2.2.2.1 q I L hsI hsL hT) 0 kw_251 kc_X4_advance (by decide +kernel) (List.Perm.refl _) 0 (ci := 3) rfl rfl rfl rfl ⟨Nat.le_of_ble_eq_true rfl, Nat.le_of_ble_eq_true rfl⟩ ⟨rfl, rfl⟩ ⟨Nat.le_of_ble_eq_true rfl, Nat.le_of_ble_eq_true rfl⟩ (Nat.le_of_ble_eq_true rfl) dX4_readPath_1 rfl rfl ((wText q Y (t_adv I L) L) ++ (wNet q2 Y J N)) (List.Perm.refl _).symm ?_
  have hf1 : tokOK (t_adv I L) := t_adv_ok hT
  have hf2 : smI (t_adv I L) := t_adv_sm hsI hT
  refine g_aload_n C (n' := 5) 0 rfl dX4_readPath_4 rfl rfl ?_
  refine g_iconst C (n' := 6) dX4_readPath_5 rfl ?_
  refine g_aload_n C (n' := 7) 1 rfl dX4_readPath_6 rfl rfl ?_
  refine g_getN C (n' := 10) (Cn := RX2) (T := TX2) (N := 10) (ci := 1) (v := .int (iI (J 0))) ga_X2 2 rfl rfl 0 (by decide) (List.mem_of_getElem? (i := 1) rfl) rfl rfl dX4_readPath_7 rfl ?_
  have h_7 := hJ 0
  refine g_iconst C (n' := 11) dX4_readPath_10 rfl ?_
  refine g_isub C (n' := 12) dX4_readPath_11 rfl ?_
  refine g_cVv C (n' := 15) (v := .int (iI (t_num L (((t_adv I L) 1)) (((t_adv I L) 3)) (((t_adv I L) 4)) 0 ((J 0) - 1)))) (c_X4_readNumber l D Y C.2.2.2.2.2.2.2.2.1 q (t_adv I L) L 0 ((J 0) - 1) hf2 hsL hf1 (by omega) (by omega)) 2 kw_337 kc_X4_readNumber (by decide +kernel) (List.Perm.refl _) 0 (ci := 3) rfl rfl rfl rfl ⟨Nat.le_of_ble_eq_true rfl, Nat.le_of_ble_eq_true rfl⟩ ⟨rfl, rfl⟩ ⟨Nat.le_of_ble_eq_true rfl, Nat.le_of_ble_eq_true rfl⟩ (Nat.le_of_ble_eq_true rfl) dX4_readPath_12 rfl rfl ((wText q Y (if (t_num L (((t_adv I L) 1)) (((t_adv I L) 3)) (((t_adv I L) 4)) 0 ((J 0) - 1)) = -1 then (t_adv I L) else (t_adv (t_adv I L) L)) L) ++ (wNet q2 Y J N)) (List.Perm.refl _).symm ?_
  by_cases hN3 : (t_num L (((t_adv I L) 1)) (((t_adv I L) 3)) (((t_adv I L) 4)) 0 ((J 0) - 1)) = -1
  · skip
    rw [if_pos hN3]
    have hf4 : (t_num L (((t_adv I L) 1)) (((t_adv I L) 3)) (((t_adv I L) 4)) 0 ((J 0) - 1)) = -1 ∨ (0 ≤ (t_num L (((t_adv I L) 1)) (((t_adv I L) 3)) (((t_adv I L) 4)) 0 ((J 0) - 1)) ∧ (t_num L (((t_adv I L) 1)) (((t_adv I L) 3)) (((t_adv I L) 4)) 0 ((J 0) - 1)) ≤ ((J 0) - 1)) := t_num_r _ _ _ _ _ _
    refine g_istore_n C (n' := 16) [(2, .int (iI (t_num L (((t_adv I L) 1)) (((t_adv I L) 3)) (((t_adv I L) 4)) 0 ((J 0) - 1)))), (0, .ref (q 99)), (1, .ref (q2 99))] dX4_readPath_15 rfl rfl (by decide) rfl ?_
    refine g_iload_n C (n' := 17) 0 rfl dX4_readPath_16 rfl rfl ?_
    refine g_iconst C (n' := 18) dX4_readPath_17 rfl ?_
    refine g_icmp_ne C (n' := 21) 23 dX4_readPath_18 (by decide) rfl (by unfold inR; omega) (by unfold inR; omega) (fun c5 => ?_) (fun c5 => ?_)
    · skip
      exfalso
      omega
    · skip
      refine g_iconst C (n' := 22) dX4_readPath_21 rfl ?_
      refine g_iret C hr hlk (nar_z (by omega)) ⟨(t_adv I L), ?_⟩ dX4_readPath_22
      unfold rpF
      rw [if_pos (show t_num L (I 1) (tk1 L (I 1) (I 4)) (tk2 L (I 1) (I 4)) 0 (J 0 - 1) = -1 from hN3)]
      exact ⟨rfl, hf2, hf1, ⟨rfl, rfl⟩, ⟨rfl, rfl⟩, rfl⟩
  · skip
    rw [if_neg hN3]
    have hf6 : tokOK (t_adv (t_adv I L) L) := t_adv_ok hf1
    have hf7 : smI (t_adv (t_adv I L) L) := t_adv_sm hf2 hf1
    have hf8 : (t_num L (((t_adv I L) 1)) (((t_adv I L) 3)) (((t_adv I L) 4)) 0 ((J 0) - 1)) = -1 ∨ (0 ≤ (t_num L (((t_adv I L) 1)) (((t_adv I L) 3)) (((t_adv I L) 4)) 0 ((J 0) - 1)) ∧ (t_num L (((t_adv I L) 1)) (((t_adv I L) 3)) (((t_adv I L) 4)) 0 ((J 0) - 1)) ≤ ((J 0) - 1)) := t_num_r _ _ _ _ _ _
    refine g_istore_n C (n' := 16) [(2, .int (iI (t_num L (((t_adv I L) 1)) (((t_adv I L) 3)) (((t_adv I L) 4)) 0 ((J 0) - 1)))), (0, .ref (q 99)), (1, .ref (q2 99))] dX4_readPath_15 rfl rfl (by decide) rfl ?_
    refine g_iload_n C (n' := 17) 0 rfl dX4_readPath_16 rfl rfl ?_
    refine g_iconst C (n' := 18) dX4_readPath_17 rfl ?_
    refine g_icmp_ne C (n' := 21) 23 dX4_readPath_18 (by decide) rfl (by unfold inR; omega) (by unfold inR; omega) (fun c9 => ?_) (fun c9 => ?_)
    · skip
      refine g_aload_n C (n' := 24) 1 rfl dX4_readPath_23 rfl rfl ?_
      refine g_iconst C (n' := 25) dX4_readPath_24 rfl ?_
      refine g_aload_n C (n' := 26) 2 rfl dX4_readPath_25 rfl rfl ?_
      refine g_getN C (n' := 29) (Cn := RX2) (T := TX2) (N := 10) (ci := 1) (v := .int (iI (J 0))) ga_X2 2 rfl rfl 0 (by decide) (List.mem_of_getElem? (i := 1) rfl) rfl rfl dX4_readPath_26 rfl ?_
      have h_26 := hJ 0
      refine g_iconst C (n' := 30) dX4_readPath_29 rfl ?_
      refine g_isub C (n' := 31) dX4_readPath_30 rfl ?_
      refine g_cVv C (n' := 34) (v := .int (iI (t_num L (((t_adv (t_adv I L) L) 1)) (((t_adv (t_adv I L) L) 3)) (((t_adv (t_adv I L) L) 4)) 0 ((J 0) - 1)))) (c_X4_readNumber l D Y C.2.2.2.2.2.2.2.2.1 q (t_adv (t_adv I L) L) L 0 ((J 0) - 1) hf7 hsL hf6 (by omega) (by omega)) 2 kw_337 kc_X4_readNumber (by decide +kernel) (List.Perm.refl _) 0 (ci := 3) rfl rfl rfl rfl ⟨Nat.le_of_ble_eq_true rfl, Nat.le_of_ble_eq_true rfl⟩ ⟨rfl, rfl⟩ ⟨Nat.le_of_ble_eq_true rfl, Nat.le_of_ble_eq_true rfl⟩ (Nat.le_of_ble_eq_true rfl) dX4_readPath_31 rfl rfl ((wText q Y (if (t_num L (((t_adv (t_adv I L) L) 1)) (((t_adv (t_adv I L) L) 3)) (((t_adv (t_adv I L) L) 4)) 0 ((J 0) - 1)) = -1 then (t_adv (t_adv I L) L) else (t_adv (t_adv (t_adv I L) L) L)) L) ++ (wNet q2 Y J N)) (List.Perm.refl _).symm ?_
      by_cases hN10 : (t_num L (((t_adv (t_adv I L) L) 1)) (((t_adv (t_adv I L) L) 3)) (((t_adv (t_adv I L) L) 4)) 0 ((J 0) - 1)) = -1
      · skip
        rw [if_pos hN10]
        have hf11 : (t_num L (((t_adv (t_adv I L) L) 1)) (((t_adv (t_adv I L) L) 3)) (((t_adv (t_adv I L) L) 4)) 0 ((J 0) - 1)) = -1 ∨ (0 ≤ (t_num L (((t_adv (t_adv I L) L) 1)) (((t_adv (t_adv I L) L) 3)) (((t_adv (t_adv I L) L) 4)) 0 ((J 0) - 1)) ∧ (t_num L (((t_adv (t_adv I L) L) 1)) (((t_adv (t_adv I L) L) 3)) (((t_adv (t_adv I L) L) 4)) 0 ((J 0) - 1)) ≤ ((J 0) - 1)) := t_num_r _ _ _ _ _ _
        refine g_istore_n C (n' := 35) [(3, .int (iI (t_num L (((t_adv (t_adv I L) L) 1)) (((t_adv (t_adv I L) L) 3)) (((t_adv (t_adv I L) L) 4)) 0 ((J 0) - 1)))), (2, .int (iI (t_num L (((t_adv I L) 1)) (((t_adv I L) 3)) (((t_adv I L) 4)) 0 ((J 0) - 1)))), (0, .ref (q 99)), (1, .ref (q2 99))] dX4_readPath_34 rfl rfl (by decide) rfl ?_
        refine g_iload_n C (n' := 36) 0 rfl dX4_readPath_35 rfl rfl ?_
        refine g_iconst C (n' := 37) dX4_readPath_36 rfl ?_
        refine g_icmp_ne C (n' := 40) 42 dX4_readPath_37 (by decide) rfl (by unfold inR; omega) (by unfold inR; omega) (fun c12 => ?_) (fun c12 => ?_)
        · skip
          exfalso
          omega
        · skip
          refine g_iconst C (n' := 41) dX4_readPath_40 rfl ?_
          refine g_iret C hr hlk (nar_z (by omega)) ⟨(t_adv (t_adv I L) L), ?_⟩ dX4_readPath_41
          unfold rpF
          rw [if_neg (show ¬ t_num L (I 1) (tk1 L (I 1) (I 4)) (tk2 L (I 1) (I 4)) 0 (J 0 - 1) = -1 from hN3), if_pos (show t_num L (I 1) (tk1 L (I 1) (tk2 L (I 1) (I 4))) (tk2 L (I 1) (tk2 L (I 1) (I 4))) 0 (J 0 - 1) = -1 from hN10)]
          exact ⟨rfl, hf7, hf6, ⟨rfl, rfl⟩, ⟨rfl, rfl⟩, rfl⟩
      · skip
        rw [if_neg hN10]
        have hf13 : tokOK (t_adv (t_adv (t_adv I L) L) L) := t_adv_ok hf6
        have hf14 : smI (t_adv (t_adv (t_adv I L) L) L) := t_adv_sm hf7 hf6
        have hf15 : (t_num L (((t_adv (t_adv I L) L) 1)) (((t_adv (t_adv I L) L) 3)) (((t_adv (t_adv I L) L) 4)) 0 ((J 0) - 1)) = -1 ∨ (0 ≤ (t_num L (((t_adv (t_adv I L) L) 1)) (((t_adv (t_adv I L) L) 3)) (((t_adv (t_adv I L) L) 4)) 0 ((J 0) - 1)) ∧ (t_num L (((t_adv (t_adv I L) L) 1)) (((t_adv (t_adv I L) L) 3)) (((t_adv (t_adv I L) L) 4)) 0 ((J 0) - 1)) ≤ ((J 0) - 1)) := t_num_r _ _ _ _ _ _
        refine g_istore_n C (n' := 35) [(3, .int (iI (t_num L (((t_adv (t_adv I L) L) 1)) (((t_adv (t_adv I L) L) 3)) (((t_adv (t_adv I L) L) 4)) 0 ((J 0) - 1)))), (2, .int (iI (t_num L (((t_adv I L) 1)) (((t_adv I L) 3)) (((t_adv I L) 4)) 0 ((J 0) - 1)))), (0, .ref (q 99)), (1, .ref (q2 99))] dX4_readPath_34 rfl rfl (by decide) rfl ?_
        refine g_iload_n C (n' := 36) 0 rfl dX4_readPath_35 rfl rfl ?_
        refine g_iconst C (n' := 37) dX4_readPath_36 rfl ?_
        refine g_icmp_ne C (n' := 40) 42 dX4_readPath_37 (by decide) rfl (by unfold inR; omega) (by unfold inR; omega) (fun c16 => ?_) (fun c16 => ?_)
        · skip
          refine g_aload_n C (n' := 43) 2 rfl dX4_readPath_42 rfl rfl ?_
          refine g_iconst C (n' := 44) dX4_readPath_43 rfl ?_
          refine g_bipush C (n' := 46) (by decide) dX4_readPath_44 rfl ?_
          refine g_cVv C (n' := 49) (v := .int (iI (t_num L (((t_adv (t_adv (t_adv I L) L) L) 1)) (((t_adv (t_adv (t_adv I L) L) L) 3)) (((t_adv (t_adv (t_adv I L) L) L) 4)) 0 99))) (c_X4_readNumber l D Y C.2.2.2.2.2.2.2.2.1 q (t_adv (t_adv (t_adv I L) L) L) L 0 99 hf14 hsL hf13 (by omega) (by omega)) 2 kw_337 kc_X4_readNumber (by decide +kernel) (List.Perm.refl _) 0 (ci := 3) rfl rfl rfl rfl ⟨Nat.le_of_ble_eq_true rfl, Nat.le_of_ble_eq_true rfl⟩ ⟨rfl, rfl⟩ ⟨Nat.le_of_ble_eq_true rfl, Nat.le_of_ble_eq_true rfl⟩ (Nat.le_of_ble_eq_true rfl) dX4_readPath_46 rfl rfl ((wText q Y (if (t_num L (((t_adv (t_adv (t_adv I L) L) L) 1)) (((t_adv (t_adv (t_adv I L) L) L) 3)) (((t_adv (t_adv (t_adv I L) L) L) 4)) 0 99) = -1 then (t_adv (t_adv (t_adv I L) L) L) else (t_adv (t_adv (t_adv (t_adv I L) L) L) L)) L) ++ (wNet q2 Y J N)) (List.Perm.refl _).symm ?_
          by_cases hN17 : (t_num L (((t_adv (t_adv (t_adv I L) L) L) 1)) (((t_adv (t_adv (t_adv I L) L) L) 3)) (((t_adv (t_adv (t_adv I L) L) L) 4)) 0 99) = -1
          · skip
            rw [if_pos hN17]
            have hf18 : (t_num L (((t_adv (t_adv (t_adv I L) L) L) 1)) (((t_adv (t_adv (t_adv I L) L) L) 3)) (((t_adv (t_adv (t_adv I L) L) L) 4)) 0 99) = -1 ∨ (0 ≤ (t_num L (((t_adv (t_adv (t_adv I L) L) L) 1)) (((t_adv (t_adv (t_adv I L) L) L) 3)) (((t_adv (t_adv (t_adv I L) L) L) 4)) 0 99) ∧ (t_num L (((t_adv (t_adv (t_adv I L) L) L) 1)) (((t_adv (t_adv (t_adv I L) L) L) 3)) (((t_adv (t_adv (t_adv I L) L) L) 4)) 0 99) ≤ 99) := t_num_r _ _ _ _ _ _
            refine g_istore C (n' := 51) [(4, .int (iI (t_num L (((t_adv (t_adv (t_adv I L) L) L) 1)) (((t_adv (t_adv (t_adv I L) L) L) 3)) (((t_adv (t_adv (t_adv I L) L) L) 4)) 0 99))), (3, .int (iI (t_num L (((t_adv (t_adv I L) L) 1)) (((t_adv (t_adv I L) L) 3)) (((t_adv (t_adv I L) L) 4)) 0 ((J 0) - 1)))), (2, .int (iI (t_num L (((t_adv I L) 1)) (((t_adv I L) 3)) (((t_adv I L) 4)) 0 ((J 0) - 1)))), (0, .ref (q 99)), (1, .ref (q2 99))] dX4_readPath_49 rfl (by decide) rfl ?_
            refine g_iload C (n' := 53) 0 rfl dX4_readPath_51 rfl ?_
            refine g_iconst C (n' := 54) dX4_readPath_53 rfl ?_
            refine g_icmp_ne C (n' := 57) 59 dX4_readPath_54 (by decide) rfl (by unfold inR; omega) (by unfold inR; omega) (fun c19 => ?_) (fun c19 => ?_)
            · skip
              exfalso
              omega
            · skip
              refine g_iconst C (n' := 58) dX4_readPath_57 rfl ?_
              refine g_iret C hr hlk (nar_z (by omega)) ⟨(t_adv (t_adv (t_adv I L) L) L), ?_⟩ dX4_readPath_58
              unfold rpF
              rw [if_neg (show ¬ t_num L (I 1) (tk1 L (I 1) (I 4)) (tk2 L (I 1) (I 4)) 0 (J 0 - 1) = -1 from hN3), if_neg (show ¬ t_num L (I 1) (tk1 L (I 1) (tk2 L (I 1) (I 4))) (tk2 L (I 1) (tk2 L (I 1) (I 4))) 0 (J 0 - 1) = -1 from hN10), if_pos (show t_num L (I 1) (tk1 L (I 1) (tk2 L (I 1) (tk2 L (I 1) (I 4)))) (tk2 L (I 1) (tk2 L (I 1) (tk2 L (I 1) (I 4)))) 0 99 = -1 from hN17)]
              exact ⟨rfl, hf14, hf13, ⟨rfl, rfl⟩, ⟨rfl, rfl⟩, rfl⟩
          · skip
            rw [if_neg hN17]
            have hf20 : tokOK (t_adv (t_adv (t_adv (t_adv I L) L) L) L) := t_adv_ok hf13
            have hf21 : smI (t_adv (t_adv (t_adv (t_adv I L) L) L) L) := t_adv_sm hf14 hf13
            have hf22 : (t_num L (((t_adv (t_adv (t_adv I L) L) L) 1)) (((t_adv (t_adv (t_adv I L) L) L) 3)) (((t_adv (t_adv (t_adv I L) L) L) 4)) 0 99) = -1 ∨ (0 ≤ (t_num L (((t_adv (t_adv (t_adv I L) L) L) 1)) (((t_adv (t_adv (t_adv I L) L) L) 3)) (((t_adv (t_adv (t_adv I L) L) L) 4)) 0 99) ∧ (t_num L (((t_adv (t_adv (t_adv I L) L) L) 1)) (((t_adv (t_adv (t_adv I L) L) L) 3)) (((t_adv (t_adv (t_adv I L) L) L) 4)) 0 99) ≤ 99) := t_num_r _ _ _ _ _ _
            refine g_istore C (n' := 51) [(4, .int (iI (t_num L (((t_adv (t_adv (t_adv I L) L) L) 1)) (((t_adv (t_adv (t_adv I L) L) L) 3)) (((t_adv (t_adv (t_adv I L) L) L) 4)) 0 99))), (3, .int (iI (t_num L (((t_adv (t_adv I L) L) 1)) (((t_adv (t_adv I L) L) 3)) (((t_adv (t_adv I L) L) 4)) 0 ((J 0) - 1)))), (2, .int (iI (t_num L (((t_adv I L) 1)) (((t_adv I L) 3)) (((t_adv I L) 4)) 0 ((J 0) - 1)))), (0, .ref (q 99)), (1, .ref (q2 99))] dX4_readPath_49 rfl (by decide) rfl ?_
            refine g_iload C (n' := 53) 0 rfl dX4_readPath_51 rfl ?_
            refine g_iconst C (n' := 54) dX4_readPath_53 rfl ?_
            refine g_icmp_ne C (n' := 57) 59 dX4_readPath_54 (by decide) rfl (by unfold inR; omega) (by unfold inR; omega) (fun c23 => ?_) (fun c23 => ?_)
            · skip
              refine g_aload_n C (n' := 60) 3 rfl dX4_readPath_59 rfl rfl ?_
              refine g_iconst C (n' := 61) dX4_readPath_60 rfl ?_
              refine g_iload C (n' := 63) 0 rfl dX4_readPath_61 rfl ?_
              refine g_cVv C (n' := 66) (v := .int (iI (t_num L (((t_adv (t_adv (t_adv (t_adv I L) L) L) L) 1)) (((t_adv (t_adv (t_adv (t_adv I L) L) L) L) 3)) (((t_adv (t_adv (t_adv (t_adv I L) L) L) L) 4)) 0 (t_num L (((t_adv (t_adv (t_adv I L) L) L) 1)) (((t_adv (t_adv (t_adv I L) L) L) 3)) (((t_adv (t_adv (t_adv I L) L) L) 4)) 0 99)))) (c_X4_readNumber l D Y C.2.2.2.2.2.2.2.2.1 q (t_adv (t_adv (t_adv (t_adv I L) L) L) L) L 0 (t_num L (((t_adv (t_adv (t_adv I L) L) L) 1)) (((t_adv (t_adv (t_adv I L) L) L) 3)) (((t_adv (t_adv (t_adv I L) L) L) 4)) 0 99) hf21 hsL hf20 (by omega) (by omega)) 2 kw_337 kc_X4_readNumber (by decide +kernel) (List.Perm.refl _) 0 (ci := 3) rfl rfl rfl rfl ⟨Nat.le_of_ble_eq_true rfl, Nat.le_of_ble_eq_true rfl⟩ ⟨rfl, rfl⟩ ⟨Nat.le_of_ble_eq_true rfl, Nat.le_of_ble_eq_true rfl⟩ (Nat.le_of_ble_eq_true rfl) dX4_readPath_63 rfl rfl ((wText q Y (if (t_num L (((t_adv (t_adv (t_adv (t_adv I L) L) L) L) 1)) (((t_adv (t_adv (t_adv (t_adv I L) L) L) L) 3)) (((t_adv (t_adv (t_adv (t_adv I L) L) L) L) 4)) 0 (t_num L (((t_adv (t_adv (t_adv I L) L) L) 1)) (((t_adv (t_adv (t_adv I L) L) L) 3)) (((t_adv (t_adv (t_adv I L) L) L) 4)) 0 99)) = -1 then (t_adv (t_adv (t_adv (t_adv I L) L) L) L) else (t_adv (t_adv (t_adv (t_adv (t_adv I L) L) L) L) L)) L) ++ (wNet q2 Y J N)) (List.Perm.refl _).symm ?_
              by_cases hN24 : (t_num L (((t_adv (t_adv (t_adv (t_adv I L) L) L) L) 1)) (((t_adv (t_adv (t_adv (t_adv I L) L) L) L) 3)) (((t_adv (t_adv (t_adv (t_adv I L) L) L) L) 4)) 0 (t_num L (((t_adv (t_adv (t_adv I L) L) L) 1)) (((t_adv (t_adv (t_adv I L) L) L) 3)) (((t_adv (t_adv (t_adv I L) L) L) 4)) 0 99)) = -1
              · skip
                rw [if_pos hN24]
                have hf25 : (t_num L (((t_adv (t_adv (t_adv (t_adv I L) L) L) L) 1)) (((t_adv (t_adv (t_adv (t_adv I L) L) L) L) 3)) (((t_adv (t_adv (t_adv (t_adv I L) L) L) L) 4)) 0 (t_num L (((t_adv (t_adv (t_adv I L) L) L) 1)) (((t_adv (t_adv (t_adv I L) L) L) 3)) (((t_adv (t_adv (t_adv I L) L) L) 4)) 0 99)) = -1 ∨ (0 ≤ (t_num L (((t_adv (t_adv (t_adv (t_adv I L) L) L) L) 1)) (((t_adv (t_adv (t_adv (t_adv I L) L) L) L) 3)) (((t_adv (t_adv (t_adv (t_adv I L) L) L) L) 4)) 0 (t_num L (((t_adv (t_adv (t_adv I L) L) L) 1)) (((t_adv (t_adv (t_adv I L) L) L) 3)) (((t_adv (t_adv (t_adv I L) L) L) 4)) 0 99)) ∧ (t_num L (((t_adv (t_adv (t_adv (t_adv I L) L) L) L) 1)) (((t_adv (t_adv (t_adv (t_adv I L) L) L) L) 3)) (((t_adv (t_adv (t_adv (t_adv I L) L) L) L) 4)) 0 (t_num L (((t_adv (t_adv (t_adv I L) L) L) 1)) (((t_adv (t_adv (t_adv I L) L) L) 3)) (((t_adv (t_adv (t_adv I L) L) L) 4)) 0 99)) ≤ (t_num L (((t_adv (t_adv (t_adv I L) L) L) 1)) (((t_adv (t_adv (t_adv I L) L) L) 3)) (((t_adv (t_adv (t_adv I L) L) L) 4)) 0 99)) := t_num_r _ _ _ _ _ _
                refine g_istore C (n' := 68) [(5, .int (iI (t_num L (((t_adv (t_adv (t_adv (t_adv I L) L) L) L) 1)) (((t_adv (t_adv (t_adv (t_adv I L) L) L) L) 3)) (((t_adv (t_adv (t_adv (t_adv I L) L) L) L) 4)) 0 (t_num L (((t_adv (t_adv (t_adv I L) L) L) 1)) (((t_adv (t_adv (t_adv I L) L) L) 3)) (((t_adv (t_adv (t_adv I L) L) L) 4)) 0 99)))), (4, .int (iI (t_num L (((t_adv (t_adv (t_adv I L) L) L) 1)) (((t_adv (t_adv (t_adv I L) L) L) 3)) (((t_adv (t_adv (t_adv I L) L) L) 4)) 0 99))), (3, .int (iI (t_num L (((t_adv (t_adv I L) L) 1)) (((t_adv (t_adv I L) L) 3)) (((t_adv (t_adv I L) L) 4)) 0 ((J 0) - 1)))), (2, .int (iI (t_num L (((t_adv I L) 1)) (((t_adv I L) 3)) (((t_adv I L) 4)) 0 ((J 0) - 1)))), (0, .ref (q 99)), (1, .ref (q2 99))] dX4_readPath_66 rfl (by decide) rfl ?_
                refine g_iload C (n' := 70) 0 rfl dX4_readPath_68 rfl ?_
                refine g_iconst C (n' := 71) dX4_readPath_70 rfl ?_
                refine g_icmp_ne C (n' := 74) 76 dX4_readPath_71 (by decide) rfl (by unfold inR; omega) (by unfold inR; omega) (fun c26 => ?_) (fun c26 => ?_)
                · skip
                  exfalso
                  omega
                · skip
                  refine g_iconst C (n' := 75) dX4_readPath_74 rfl ?_
                  refine g_iret C hr hlk (nar_z (by omega)) ⟨(t_adv (t_adv (t_adv (t_adv I L) L) L) L), ?_⟩ dX4_readPath_75
                  unfold rpF
                  rw [if_neg (show ¬ t_num L (I 1) (tk1 L (I 1) (I 4)) (tk2 L (I 1) (I 4)) 0 (J 0 - 1) = -1 from hN3), if_neg (show ¬ t_num L (I 1) (tk1 L (I 1) (tk2 L (I 1) (I 4))) (tk2 L (I 1) (tk2 L (I 1) (I 4))) 0 (J 0 - 1) = -1 from hN10), if_neg (show ¬ t_num L (I 1) (tk1 L (I 1) (tk2 L (I 1) (tk2 L (I 1) (I 4)))) (tk2 L (I 1) (tk2 L (I 1) (tk2 L (I 1) (I 4)))) 0 99 = -1 from hN17), if_pos (show t_num L (I 1) (tk1 L (I 1) (tk2 L (I 1) (tk2 L (I 1) (tk2 L (I 1) (I 4))))) (tk2 L (I 1) (tk2 L (I 1) (tk2 L (I 1) (tk2 L (I 1) (I 4))))) 0 (t_num L (I 1) (tk1 L (I 1) (tk2 L (I 1) (tk2 L (I 1) (I 4)))) (tk2 L (I 1) (tk2 L (I 1) (tk2 L (I 1) (I 4)))) 0 99) = -1 from hN24)]
                  exact ⟨rfl, hf21, hf20, ⟨rfl, rfl⟩, ⟨rfl, rfl⟩, rfl⟩
              · skip
                rw [if_neg hN24]
                have hf27 : tokOK (t_adv (t_adv (t_adv (t_adv (t_adv I L) L) L) L) L) := t_adv_ok hf20
                have hf28 : smI (t_adv (t_adv (t_adv (t_adv (t_adv I L) L) L) L) L) := t_adv_sm hf21 hf20
                have hf29 : (t_num L (((t_adv (t_adv (t_adv (t_adv I L) L) L) L) 1)) (((t_adv (t_adv (t_adv (t_adv I L) L) L) L) 3)) (((t_adv (t_adv (t_adv (t_adv I L) L) L) L) 4)) 0 (t_num L (((t_adv (t_adv (t_adv I L) L) L) 1)) (((t_adv (t_adv (t_adv I L) L) L) 3)) (((t_adv (t_adv (t_adv I L) L) L) 4)) 0 99)) = -1 ∨ (0 ≤ (t_num L (((t_adv (t_adv (t_adv (t_adv I L) L) L) L) 1)) (((t_adv (t_adv (t_adv (t_adv I L) L) L) L) 3)) (((t_adv (t_adv (t_adv (t_adv I L) L) L) L) 4)) 0 (t_num L (((t_adv (t_adv (t_adv I L) L) L) 1)) (((t_adv (t_adv (t_adv I L) L) L) 3)) (((t_adv (t_adv (t_adv I L) L) L) 4)) 0 99)) ∧ (t_num L (((t_adv (t_adv (t_adv (t_adv I L) L) L) L) 1)) (((t_adv (t_adv (t_adv (t_adv I L) L) L) L) 3)) (((t_adv (t_adv (t_adv (t_adv I L) L) L) L) 4)) 0 (t_num L (((t_adv (t_adv (t_adv I L) L) L) 1)) (((t_adv (t_adv (t_adv I L) L) L) 3)) (((t_adv (t_adv (t_adv I L) L) L) 4)) 0 99)) ≤ (t_num L (((t_adv (t_adv (t_adv I L) L) L) 1)) (((t_adv (t_adv (t_adv I L) L) L) 3)) (((t_adv (t_adv (t_adv I L) L) L) 4)) 0 99)) := t_num_r _ _ _ _ _ _
                refine g_istore C (n' := 68) [(5, .int (iI (t_num L (((t_adv (t_adv (t_adv (t_adv I L) L) L) L) 1)) (((t_adv (t_adv (t_adv (t_adv I L) L) L) L) 3)) (((t_adv (t_adv (t_adv (t_adv I L) L) L) L) 4)) 0 (t_num L (((t_adv (t_adv (t_adv I L) L) L) 1)) (((t_adv (t_adv (t_adv I L) L) L) 3)) (((t_adv (t_adv (t_adv I L) L) L) 4)) 0 99)))), (4, .int (iI (t_num L (((t_adv (t_adv (t_adv I L) L) L) 1)) (((t_adv (t_adv (t_adv I L) L) L) 3)) (((t_adv (t_adv (t_adv I L) L) L) 4)) 0 99))), (3, .int (iI (t_num L (((t_adv (t_adv I L) L) 1)) (((t_adv (t_adv I L) L) 3)) (((t_adv (t_adv I L) L) 4)) 0 ((J 0) - 1)))), (2, .int (iI (t_num L (((t_adv I L) 1)) (((t_adv I L) 3)) (((t_adv I L) 4)) 0 ((J 0) - 1)))), (0, .ref (q 99)), (1, .ref (q2 99))] dX4_readPath_66 rfl (by decide) rfl ?_
                refine g_iload C (n' := 70) 0 rfl dX4_readPath_68 rfl ?_
                refine g_iconst C (n' := 71) dX4_readPath_70 rfl ?_
                refine g_icmp_ne C (n' := 74) 76 dX4_readPath_71 (by decide) rfl (by unfold inR; omega) (by unfold inR; omega) (fun c30 => ?_) (fun c30 => ?_)
                · skip
                  refine g_aload_n C (n' := 77) 5 rfl dX4_readPath_76 rfl rfl ?_
                  refine g_iload_n C (n' := 78) 3 rfl dX4_readPath_77 rfl rfl ?_
                  refine g_iload_n C (n' := 79) 2 rfl dX4_readPath_78 rfl rfl ?_
                  refine g_iload C (n' := 81) 1 rfl dX4_readPath_79 rfl ?_
                  refine g_iload C (n' := 83) 0 rfl dX4_readPath_81 rfl ?_
                  refine g_cVn C (n' := 86) (c_X2_addPath l D Y C.2.2.2.2.2.2.2.2.1 q2 J N (t_num L (((t_adv I L) 1)) (((t_adv I L) 3)) (((t_adv I L) 4)) 0 ((J 0) - 1)) (t_num L (((t_adv (t_adv I L) L) 1)) (((t_adv (t_adv I L) L) 3)) (((t_adv (t_adv I L) L) 4)) 0 ((J 0) - 1)) (t_num L (((t_adv (t_adv (t_adv I L) L) L) 1)) (((t_adv (t_adv (t_adv I L) L) L) 3)) (((t_adv (t_adv (t_adv I L) L) L) 4)) 0 99) (t_num L (((t_adv (t_adv (t_adv (t_adv I L) L) L) L) 1)) (((t_adv (t_adv (t_adv (t_adv I L) L) L) L) 3)) (((t_adv (t_adv (t_adv (t_adv I L) L) L) L) 4)) 0 (t_num L (((t_adv (t_adv (t_adv I L) L) L) 1)) (((t_adv (t_adv (t_adv I L) L) L) 3)) (((t_adv (t_adv (t_adv I L) L) L) 4)) 0 99)) hsJ hsN (by omega)) 4 kw_342 kc_X2_addPath (by decide +kernel) List.perm_append_comm 0 (ci := 1) rfl rfl rfl rfl ⟨Nat.le_of_ble_eq_true rfl, Nat.le_of_ble_eq_true rfl⟩ ⟨rfl, rfl⟩ ⟨Nat.le_of_ble_eq_true rfl, Nat.le_of_ble_eq_true rfl⟩ (Nat.le_of_ble_eq_true rfl) dX4_readPath_83 rfl rfl ((wText q Y (t_adv (t_adv (t_adv (t_adv (t_adv I L) L) L) L) L) L) ++ (wNet q2 Y (n_addI J) (n_addA J N (t_num L (((t_adv I L) 1)) (((t_adv I L) 3)) (((t_adv I L) 4)) 0 ((J 0) - 1)) (t_num L (((t_adv (t_adv I L) L) 1)) (((t_adv (t_adv I L) L) 3)) (((t_adv (t_adv I L) L) 4)) 0 ((J 0) - 1)) (t_num L (((t_adv (t_adv (t_adv I L) L) L) 1)) (((t_adv (t_adv (t_adv I L) L) L) 3)) (((t_adv (t_adv (t_adv I L) L) L) 4)) 0 99) (t_num L (((t_adv (t_adv (t_adv (t_adv I L) L) L) L) 1)) (((t_adv (t_adv (t_adv (t_adv I L) L) L) L) 3)) (((t_adv (t_adv (t_adv (t_adv I L) L) L) L) 4)) 0 (t_num L (((t_adv (t_adv (t_adv I L) L) L) 1)) (((t_adv (t_adv (t_adv I L) L) L) 3)) (((t_adv (t_adv (t_adv I L) L) L) 4)) 0 99))))) List.perm_append_comm.symm ?_
                  refine g_iconst C (n' := 87) dX4_readPath_86 rfl ?_
                  refine g_iret C hr hlk (nar_z (by omega)) ⟨(t_adv (t_adv (t_adv (t_adv (t_adv I L) L) L) L) L), ?_⟩ dX4_readPath_87
                  unfold rpF
                  rw [if_neg (show ¬ t_num L (I 1) (tk1 L (I 1) (I 4)) (tk2 L (I 1) (I 4)) 0 (J 0 - 1) = -1 from hN3), if_neg (show ¬ t_num L (I 1) (tk1 L (I 1) (tk2 L (I 1) (I 4))) (tk2 L (I 1) (tk2 L (I 1) (I 4))) 0 (J 0 - 1) = -1 from hN10), if_neg (show ¬ t_num L (I 1) (tk1 L (I 1) (tk2 L (I 1) (tk2 L (I 1) (I 4)))) (tk2 L (I 1) (tk2 L (I 1) (tk2 L (I 1) (I 4)))) 0 99 = -1 from hN17), if_neg (show ¬ t_num L (I 1) (tk1 L (I 1) (tk2 L (I 1) (tk2 L (I 1) (tk2 L (I 1) (I 4))))) (tk2 L (I 1) (tk2 L (I 1) (tk2 L (I 1) (tk2 L (I 1) (I 4))))) 0 (t_num L (I 1) (tk1 L (I 1) (tk2 L (I 1) (tk2 L (I 1) (I 4)))) (tk2 L (I 1) (tk2 L (I 1) (tk2 L (I 1) (I 4)))) 0 99) = -1 from hN24)]
                  exact ⟨rfl, hf28, hf27, ⟨rfl, rfl⟩, ⟨rfl, rfl⟩, rfl⟩
                · skip
                  exfalso
                  omega
            · skip
              exfalso
              omega
        · skip
          exfalso
          omega
    · skip
      exfalso
      omega
theorem rpF_01 (L : Nat → Int) (n e : Int) (J : Nat → Int) (N : Nat → Nat → Int) : (rpF L n e J N).1 = 0 ∨ (rpF L n e J N).1 = 1 := by
  unfold rpF
  (repeat' split) <;> first | exact Or.inl rfl | exact Or.inr rfl
theorem rcF_01 (L : Nat → Int) (n s e : Int) (J : Nat → Int) (N : Nat → Nat → Int) : (rcF L n s e J N).1 = 0 ∨ (rcF L n s e J N).1 = 1 := by
  unfold rcF
  (repeat' split) <;> first | exact Or.inl rfl | exact Or.inr rfl
set_option maxRecDepth 100000 in
set_option maxHeartbeats 4000000 in
theorem c_X4_readClause (l : Launch) (D : va_G) (Y : Nat → ClassId) {E : (Nat → Prop) → State → Heap → Prop} (hE : g_Stab E) (q : Nat → Nat) (I : Nat → Int) (L : Nat → Int) (q2 : Nat → Nat) (J : Nat → Int) (N : Nat → Nat → Int) (e : Nat → Nat) (hsI : smI I) (hsL : smL L) (hT : tokOK I) (hsJ : smI J) (hsN : smA N) (hO : okN J N) (hW : g_Env E e) : g_Ct l yX4_readClause cX4_readClause 5 (some FieldType.boolean) ({ frames := 9, cells := 0, slots := 0, locals := 209 } : Room) D (tysY Y) E [.ref (q 99), .ref (q2 99)] ((wText q Y I L) ++ (wNet q2 Y J N)) 0 0 (fun r9 w9 => ∃ I1 : Nat → Int, w9 = (wText q Y I1 L ++ wNet q2 Y (rcF L (I 1) (I 3) (I 4) J N).2.2.2.1 (rcF L (I 1) (I 3) (I 4) J N).2.2.2.2) ∧ smI I1 ∧ tokOK I1 ∧ (I1 1 = I 1 ∧ I1 2 = I 2) ∧ (I1 3 = (rcF L (I 1) (I 3) (I 4) J N).2.1 ∧ I1 4 = (rcF L (I 1) (I 3) (I 4) J N).2.2.1) ∧ r9 = some (.int (iI (rcF L (I 1) (I 3) (I 4) J N).1))) := by
  refine g_ofG (own := RX4) hE (by decide) rfl (Nat.le_of_ble_eq_true rfl) [(0, .ref (q 99)), (1, .ref (q2 99))] rfl ?_
  intro p9 e9 s9 m9 b9 t9 c9 A9 C hr hlk hnm
  have hI := hsI
  have hL := hsL
  unfold smI at hI
  unfold smL at hL
  have hT9 := hT
  unfold tokOK at hT9
  have hJ := hsJ
  have hNn := hsN
  unfold smI at hJ
  unfold smA at hNn
  have hO9 := hO
  unfold okN at hO9
  have hv := hW _ _ _ C.2.2.2.2.2.2.2.2.2
  have htw := t_word_r L (I 3) (I 4)
  refine g_aload_n C (n' := 1) 0 rfl dX4_readClause_0 rfl rfl ?_
  refine g_cVv C (n' := 4) (v := .int (iI (t_word L ((I 3)) ((I 4))))) (c_X4_wordHere l D Y C.2.2.2.2.2.2.2.2.1 q I L e hsI hsL hT hW) 0 kw_269 kc_X4_wordHere (by decide +kernel) (List.Perm.refl _) 0 (ci := 3) rfl rfl rfl rfl ⟨Nat.le_of_ble_eq_true rfl, Nat.le_of_ble_eq_true rfl⟩ ⟨rfl, rfl⟩ ⟨Nat.le_of_ble_eq_true rfl, Nat.le_of_ble_eq_true rfl⟩ (Nat.le_of_ble_eq_true rfl) dX4_readClause_1 rfl rfl ((wText q Y I L) ++ (wNet q2 Y J N)) (List.Perm.refl _).symm ?_
  refine g_istore_n C (n' := 5) [(2, .int (iI (t_word L ((I 3)) ((I 4))))), (0, .ref (q 99)), (1, .ref (q2 99))] dX4_readClause_4 rfl rfl (by decide) rfl ?_
  refine g_iload_n C (n' := 6) 0 rfl dX4_readClause_5 rfl rfl ?_
  refine g_iconst C (n' := 7) dX4_readClause_6 rfl ?_
  refine g_icmp_ne C (n' := 10) 12 dX4_readClause_7 (by decide) rfl (by unfold inR; omega) (by unfold inR; omega) (fun c1 => ?_) (fun c1 => ?_)
  · skip
    by_cases hw0 : t_word L (I 3) (I 4) = 0
    · skip
      refine g_lv (lv' := [(2, .int (iI 0)), (0, .ref (q 99)), (1, .ref (q2 99))]) [0, 1, 2] (by rw [hw0]; rfl) ?_
      refine g_getsN C (n' := 15) (v := .ref (e 0)) hv.1 (List.mem_of_getElem? (i := 24) rfl) rfl dX4_readClause_12 rfl ?_
      refine g_iload_n C (n' := 16) 0 rfl dX4_readClause_15 rfl rfl ?_
      refine g_tq C (n' := 17) hv.2.1 (v := .ref (e (10 + 0))) (by decide) (by decide) (by decide) rfl dX4_readClause_16 rfl ?_
      refine g_astore_n C (n' := 18) [(3, .ref (e (10 + 0))), (2, .int (iI 0)), (0, .ref (q 99)), (1, .ref (q2 99))] dX4_readClause_17 rfl rfl (by decide) rfl ?_
      refine g_aload_n C (n' := 19) 0 rfl dX4_readClause_18 rfl rfl ?_
      refine g_gets C (n' := 22) (v := .ref (e (10 + 1))) (hv.2.2.1.1 1 (by decide)).1 kw_327 rfl dX4_readClause_19 rfl ?_
      refine g_acmp_ne C (n' := 25) 46 dX4_readClause_22 (by decide) rfl (fun c2 => ?_) (fun c2 => ?_)
      · skip
        refine g_aload_n C (n' := 47) 2 rfl dX4_readClause_46 rfl rfl ?_
        refine g_cVn C (n' := 50) (c_X4_advance l D Y C.2.2.2.2.2.2.2.2.1 q I L hsI hsL hT) 0 kw_251 kc_X4_advance (by decide +kernel) (List.Perm.refl _) 0 (ci := 3) rfl rfl rfl rfl ⟨Nat.le_of_ble_eq_true rfl, Nat.le_of_ble_eq_true rfl⟩ ⟨rfl, rfl⟩ ⟨Nat.le_of_ble_eq_true rfl, Nat.le_of_ble_eq_true rfl⟩ (Nat.le_of_ble_eq_true rfl) dX4_readClause_47 rfl rfl ((wText q Y (t_adv I L) L) ++ (wNet q2 Y J N)) (List.Perm.refl _).symm ?_
        have hf3 : tokOK (t_adv I L) := t_adv_ok hT
        have hf4 : smI (t_adv I L) := t_adv_sm hsI hT
        refine g_aload_n C (n' := 51) 2 rfl dX4_readClause_50 rfl rfl ?_
        refine g_aload_n C (n' := 52) 0 rfl dX4_readClause_51 rfl rfl ?_
        refine g_getfEN C (n' := 55) (v := .int (iI 2)) ((hv.2.2.1.1 0 (by decide)).2.2 _ (List.mem_of_getElem? (i := 1) rfl)) (List.mem_of_getElem? (i := 28) rfl) rfl dX4_readClause_52 rfl ?_
        refine g_aload_n C (n' := 56) 0 rfl dX4_readClause_55 rfl rfl ?_
        refine g_getfEN C (n' := 59) (v := .int (iI 8)) ((hv.2.2.1.1 0 (by decide)).2.2 _ (List.mem_of_getElem? (i := 2) rfl)) (List.mem_of_getElem? (i := 29) rfl) rfl dX4_readClause_56 rfl ?_
        refine g_cVv C (n' := 62) (v := .int (iI (t_num L (((t_adv I L) 1)) (((t_adv I L) 3)) (((t_adv I L) 4)) 2 8))) (c_X4_readNumber l D Y C.2.2.2.2.2.2.2.2.1 q (t_adv I L) L 2 8 hf4 hsL hf3 (by omega) (by omega)) 2 kw_337 kc_X4_readNumber (by decide +kernel) (List.Perm.refl _) 0 (ci := 3) rfl rfl rfl rfl ⟨Nat.le_of_ble_eq_true rfl, Nat.le_of_ble_eq_true rfl⟩ ⟨rfl, rfl⟩ ⟨Nat.le_of_ble_eq_true rfl, Nat.le_of_ble_eq_true rfl⟩ (Nat.le_of_ble_eq_true rfl) dX4_readClause_59 rfl rfl ((wText q Y (if (t_num L (((t_adv I L) 1)) (((t_adv I L) 3)) (((t_adv I L) 4)) 2 8) = -1 then (t_adv I L) else (t_adv (t_adv I L) L)) L) ++ (wNet q2 Y J N)) (List.Perm.refl _).symm ?_
        by_cases hN5 : (t_num L (((t_adv I L) 1)) (((t_adv I L) 3)) (((t_adv I L) 4)) 2 8) = -1
        · skip
          rw [if_pos hN5]
          have hf6 : (t_num L (((t_adv I L) 1)) (((t_adv I L) 3)) (((t_adv I L) 4)) 2 8) = -1 ∨ (2 ≤ (t_num L (((t_adv I L) 1)) (((t_adv I L) 3)) (((t_adv I L) 4)) 2 8) ∧ (t_num L (((t_adv I L) 1)) (((t_adv I L) 3)) (((t_adv I L) 4)) 2 8) ≤ 8) := t_num_r _ _ _ _ _ _
          refine g_istore C (n' := 64) [(4, .int (iI (t_num L (((t_adv I L) 1)) (((t_adv I L) 3)) (((t_adv I L) 4)) 2 8))), (3, .ref (e (10 + 0))), (2, .int (iI 0)), (0, .ref (q 99)), (1, .ref (q2 99))] dX4_readClause_62 rfl (by decide) rfl ?_
          refine g_iload C (n' := 66) 0 rfl dX4_readClause_64 rfl ?_
          refine g_iconst C (n' := 67) dX4_readClause_66 rfl ?_
          refine g_icmp_ne C (n' := 70) 72 dX4_readClause_67 (by decide) rfl (by unfold inR; omega) (by unfold inR; omega) (fun c7 => ?_) (fun c7 => ?_)
          · skip
            exfalso
            omega
          · skip
            refine g_iconst C (n' := 71) dX4_readClause_70 rfl ?_
            refine g_iret C hr hlk (nar_z (by omega)) ⟨(t_adv I L), ?_⟩ dX4_readClause_71
            unfold rcF
            rw [if_neg (by omega), if_neg (by omega), hw0]
            rw [show rcLo 0 = 2 from rfl, show rcHi 0 = 8 from rfl, if_pos (show t_num L (I 1) (tk1 L (I 1) (I 4)) (tk2 L (I 1) (I 4)) 2 8 = -1 from hN5)]
            exact ⟨rfl, hf4, hf3, ⟨rfl, rfl⟩, ⟨rfl, rfl⟩, rfl⟩
        · skip
          rw [if_neg hN5]
          have hf8 : tokOK (t_adv (t_adv I L) L) := t_adv_ok hf3
          have hf9 : smI (t_adv (t_adv I L) L) := t_adv_sm hf4 hf3
          have hf10 : (t_num L (((t_adv I L) 1)) (((t_adv I L) 3)) (((t_adv I L) 4)) 2 8) = -1 ∨ (2 ≤ (t_num L (((t_adv I L) 1)) (((t_adv I L) 3)) (((t_adv I L) 4)) 2 8) ∧ (t_num L (((t_adv I L) 1)) (((t_adv I L) 3)) (((t_adv I L) 4)) 2 8) ≤ 8) := t_num_r _ _ _ _ _ _
          refine g_istore C (n' := 64) [(4, .int (iI (t_num L (((t_adv I L) 1)) (((t_adv I L) 3)) (((t_adv I L) 4)) 2 8))), (3, .ref (e (10 + 0))), (2, .int (iI 0)), (0, .ref (q 99)), (1, .ref (q2 99))] dX4_readClause_62 rfl (by decide) rfl ?_
          refine g_iload C (n' := 66) 0 rfl dX4_readClause_64 rfl ?_
          refine g_iconst C (n' := 67) dX4_readClause_66 rfl ?_
          refine g_icmp_ne C (n' := 70) 72 dX4_readClause_67 (by decide) rfl (by unfold inR; omega) (by unfold inR; omega) (fun c11 => ?_) (fun c11 => ?_)
          · skip
            refine g_aload_n C (n' := 73) 4 rfl dX4_readClause_72 rfl rfl ?_
            refine g_aload_n C (n' := 74) 1 rfl dX4_readClause_73 rfl rfl ?_
            refine g_iload C (n' := 76) 0 rfl dX4_readClause_74 rfl ?_
            refine g_cVn C (n' := 79) (c_X2_tell_0 l D Y C.2.2.2.2.2.2.2.2.1 q2 J N (t_num L (((t_adv I L) 1)) (((t_adv I L) 3)) (((t_adv I L) 4)) 2 8) e hW) 2 kw_347 kc_X2_tell (by decide +kernel) List.perm_append_comm 0 (ci := 1) rfl rfl rfl rfl ⟨Nat.le_of_ble_eq_true rfl, Nat.le_of_ble_eq_true rfl⟩ ⟨rfl, rfl⟩ ⟨Nat.le_of_ble_eq_true rfl, Nat.le_of_ble_eq_true rfl⟩ (Nat.le_of_ble_eq_true rfl) dX4_readClause_76 rfl rfl ((wText q Y (t_adv (t_adv I L) L) L) ++ (wNet q2 Y (n_begin J (t_num L (((t_adv I L) 1)) (((t_adv I L) 3)) (((t_adv I L) 4)) 2 8)) N)) List.perm_append_comm.symm ?_
            refine g_iconst C (n' := 80) dX4_readClause_79 rfl ?_
            refine g_iret C hr hlk (nar_z (by omega)) ⟨(t_adv (t_adv I L) L), ?_⟩ dX4_readClause_80
            unfold rcF
            rw [if_neg (by omega), if_neg (by omega), hw0]
            rw [show rcLo 0 = 2 from rfl, show rcHi 0 = 8 from rfl, if_neg (show ¬ t_num L (I 1) (tk1 L (I 1) (I 4)) (tk2 L (I 1) (I 4)) 2 8 = -1 from hN5)]
            exact ⟨rfl, hf9, hf8, ⟨rfl, rfl⟩, ⟨rfl, rfl⟩, rfl⟩
          · skip
            exfalso
            omega
      · skip
        exact absurd (hv.2.2.1.2 0 1 (by decide) (by decide) c2) (by decide)
    by_cases hw1 : t_word L (I 3) (I 4) = 1
    · skip
      refine g_lv (lv' := [(2, .int (iI 1)), (0, .ref (q 99)), (1, .ref (q2 99))]) [0, 1, 2] (by rw [hw1]; rfl) ?_
      refine g_getsN C (n' := 15) (v := .ref (e 0)) hv.1 (List.mem_of_getElem? (i := 24) rfl) rfl dX4_readClause_12 rfl ?_
      refine g_iload_n C (n' := 16) 0 rfl dX4_readClause_15 rfl rfl ?_
      refine g_tq C (n' := 17) hv.2.1 (v := .ref (e (10 + 1))) (by decide) (by decide) (by decide) rfl dX4_readClause_16 rfl ?_
      refine g_astore_n C (n' := 18) [(3, .ref (e (10 + 1))), (2, .int (iI 1)), (0, .ref (q 99)), (1, .ref (q2 99))] dX4_readClause_17 rfl rfl (by decide) rfl ?_
      refine g_aload_n C (n' := 19) 0 rfl dX4_readClause_18 rfl rfl ?_
      refine g_gets C (n' := 22) (v := .ref (e (10 + 1))) (hv.2.2.1.1 1 (by decide)).1 kw_327 rfl dX4_readClause_19 rfl ?_
      refine g_acmp_ne C (n' := 25) 46 dX4_readClause_22 (by decide) rfl (fun c12 => ?_) (fun c12 => ?_)
      · skip
        exact absurd rfl c12
      · skip
        refine g_aload_n C (n' := 26) 3 rfl dX4_readClause_25 rfl rfl ?_
        refine g_cVv C (n' := 29) (v := .int (iI (if 16 ≤ (J 5) then 1 else 0))) (c_X2_hasAllPaths l D Y C.2.2.2.2.2.2.2.2.1 q2 J N hsJ hsN) 0 kw_329 kc_X2_hasAllPaths (by decide +kernel) List.perm_append_comm 0 (ci := 1) rfl rfl rfl rfl ⟨Nat.le_of_ble_eq_true rfl, Nat.le_of_ble_eq_true rfl⟩ ⟨rfl, rfl⟩ ⟨Nat.le_of_ble_eq_true rfl, Nat.le_of_ble_eq_true rfl⟩ (Nat.le_of_ble_eq_true rfl) dX4_readClause_26 rfl rfl ((wText q Y I L) ++ (wNet q2 Y J N)) List.perm_append_comm.symm ?_
        refine g_if_ne C (n' := 32) 44 dX4_readClause_29 (by decide) rfl bz_r (fun c13 => ?_) (fun c13 => ?_)
        · skip
          replace c13 := bz_ne.mp c13
          refine g_iconst C (n' := 45) dX4_readClause_44 rfl ?_
          refine g_iret C hr hlk (nar_z (by omega)) ⟨I, ?_⟩ dX4_readClause_45
          unfold rcF
          rw [if_neg (by omega), if_pos hw1, if_pos (by omega)]
          exact ⟨rfl, hsI, hT, ⟨rfl, rfl⟩, ⟨rfl, rfl⟩, rfl⟩
        · skip
          replace c13 := bz_nne.mp c13
          refine g_aload_n C (n' := 33) 2 rfl dX4_readClause_32 rfl rfl ?_
          refine g_aload_n C (n' := 34) 3 rfl dX4_readClause_33 rfl rfl ?_
          refine g_callV C (n' := 37) (c_X4_readPath l D Y C.2.2.2.2.2.2.2.2.1 q I L q2 J N hsI hsL hT hsJ hsN hO) 1 kw_333 kc_X4_readPath (by decide +kernel) (pm0 _) 0 (ci := 3) rfl rfl rfl rfl ⟨Nat.le_of_ble_eq_true rfl, Nat.le_of_ble_eq_true rfl⟩ ⟨rfl, rfl⟩ ⟨Nat.le_of_ble_eq_true rfl, Nat.le_of_ble_eq_true rfl⟩ (Nat.le_of_ble_eq_true rfl) dX4_readClause_34 rfl (fun r9 w9 hp14 => ?_)
          obtain ⟨I16, rfl, hsI16, htI16, ⟨haI16, hbI16⟩, ⟨hcI16, hdI16⟩, rfl⟩ := hp14
          have hI16 := hsI16
          unfold smI at hI16
          have huI16 := htI16
          unfold tokOK at huI16
          have h01 := rpF_01 L ((I 1)) ((I 4)) J N
          refine g_st (st' := [.int (iI ((rpF L ((I 1)) ((I 4)) J N).1))]) rfl ?_
          refine g_if_eq C (n' := 40) 44 dX4_readClause_37 (by decide) rfl (by unfold inR; omega) (fun c17 => ?_) (fun c17 => ?_)
          · skip
            refine g_iconst C (n' := 45) dX4_readClause_44 rfl ?_
            refine g_iret C hr hlk (nar_z (by omega)) ⟨I16, ?_⟩ dX4_readClause_45
            rw [rcF_path hw1 (by omega)]
            exact ⟨rfl, hsI16, htI16, ⟨haI16, hbI16⟩, ⟨hcI16, hdI16⟩, by rw [show (rpF L ((I 1)) ((I 4)) J N).1 = 0 by omega]⟩
          · skip
            refine g_iconst C (n' := 41) dX4_readClause_40 rfl ?_
            refine g_goto C 45 dX4_readClause_41 (by decide) ?_
            refine g_iret C hr hlk (nar_z (by omega)) ⟨I16, ?_⟩ dX4_readClause_45
            rw [rcF_path hw1 (by omega)]
            exact ⟨rfl, hsI16, htI16, ⟨haI16, hbI16⟩, ⟨hcI16, hdI16⟩, by rw [show (rpF L ((I 1)) ((I 4)) J N).1 = 1 by omega]⟩
    by_cases hw2 : t_word L (I 3) (I 4) = 2
    · skip
      refine g_lv (lv' := [(2, .int (iI 2)), (0, .ref (q 99)), (1, .ref (q2 99))]) [0, 1, 2] (by rw [hw2]; rfl) ?_
      refine g_getsN C (n' := 15) (v := .ref (e 0)) hv.1 (List.mem_of_getElem? (i := 24) rfl) rfl dX4_readClause_12 rfl ?_
      refine g_iload_n C (n' := 16) 0 rfl dX4_readClause_15 rfl rfl ?_
      refine g_tq C (n' := 17) hv.2.1 (v := .ref (e (10 + 2))) (by decide) (by decide) (by decide) rfl dX4_readClause_16 rfl ?_
      refine g_astore_n C (n' := 18) [(3, .ref (e (10 + 2))), (2, .int (iI 2)), (0, .ref (q 99)), (1, .ref (q2 99))] dX4_readClause_17 rfl rfl (by decide) rfl ?_
      refine g_aload_n C (n' := 19) 0 rfl dX4_readClause_18 rfl rfl ?_
      refine g_gets C (n' := 22) (v := .ref (e (10 + 1))) (hv.2.2.1.1 1 (by decide)).1 kw_327 rfl dX4_readClause_19 rfl ?_
      refine g_acmp_ne C (n' := 25) 46 dX4_readClause_22 (by decide) rfl (fun c18 => ?_) (fun c18 => ?_)
      · skip
        refine g_aload_n C (n' := 47) 2 rfl dX4_readClause_46 rfl rfl ?_
        refine g_cVn C (n' := 50) (c_X4_advance l D Y C.2.2.2.2.2.2.2.2.1 q I L hsI hsL hT) 0 kw_251 kc_X4_advance (by decide +kernel) (List.Perm.refl _) 0 (ci := 3) rfl rfl rfl rfl ⟨Nat.le_of_ble_eq_true rfl, Nat.le_of_ble_eq_true rfl⟩ ⟨rfl, rfl⟩ ⟨Nat.le_of_ble_eq_true rfl, Nat.le_of_ble_eq_true rfl⟩ (Nat.le_of_ble_eq_true rfl) dX4_readClause_47 rfl rfl ((wText q Y (t_adv I L) L) ++ (wNet q2 Y J N)) (List.Perm.refl _).symm ?_
        have hf19 : tokOK (t_adv I L) := t_adv_ok hT
        have hf20 : smI (t_adv I L) := t_adv_sm hsI hT
        refine g_aload_n C (n' := 51) 2 rfl dX4_readClause_50 rfl rfl ?_
        refine g_aload_n C (n' := 52) 0 rfl dX4_readClause_51 rfl rfl ?_
        refine g_getfEN C (n' := 55) (v := .int (iI 0)) ((hv.2.2.1.1 2 (by decide)).2.2 _ (List.mem_of_getElem? (i := 1) rfl)) (List.mem_of_getElem? (i := 28) rfl) rfl dX4_readClause_52 rfl ?_
        refine g_aload_n C (n' := 56) 0 rfl dX4_readClause_55 rfl rfl ?_
        refine g_getfEN C (n' := 59) (v := .int (iI 9)) ((hv.2.2.1.1 2 (by decide)).2.2 _ (List.mem_of_getElem? (i := 2) rfl)) (List.mem_of_getElem? (i := 29) rfl) rfl dX4_readClause_56 rfl ?_
        refine g_cVv C (n' := 62) (v := .int (iI (t_num L (((t_adv I L) 1)) (((t_adv I L) 3)) (((t_adv I L) 4)) 0 9))) (c_X4_readNumber l D Y C.2.2.2.2.2.2.2.2.1 q (t_adv I L) L 0 9 hf20 hsL hf19 (by omega) (by omega)) 2 kw_337 kc_X4_readNumber (by decide +kernel) (List.Perm.refl _) 0 (ci := 3) rfl rfl rfl rfl ⟨Nat.le_of_ble_eq_true rfl, Nat.le_of_ble_eq_true rfl⟩ ⟨rfl, rfl⟩ ⟨Nat.le_of_ble_eq_true rfl, Nat.le_of_ble_eq_true rfl⟩ (Nat.le_of_ble_eq_true rfl) dX4_readClause_59 rfl rfl ((wText q Y (if (t_num L (((t_adv I L) 1)) (((t_adv I L) 3)) (((t_adv I L) 4)) 0 9) = -1 then (t_adv I L) else (t_adv (t_adv I L) L)) L) ++ (wNet q2 Y J N)) (List.Perm.refl _).symm ?_
        by_cases hN21 : (t_num L (((t_adv I L) 1)) (((t_adv I L) 3)) (((t_adv I L) 4)) 0 9) = -1
        · skip
          rw [if_pos hN21]
          have hf22 : (t_num L (((t_adv I L) 1)) (((t_adv I L) 3)) (((t_adv I L) 4)) 0 9) = -1 ∨ (0 ≤ (t_num L (((t_adv I L) 1)) (((t_adv I L) 3)) (((t_adv I L) 4)) 0 9) ∧ (t_num L (((t_adv I L) 1)) (((t_adv I L) 3)) (((t_adv I L) 4)) 0 9) ≤ 9) := t_num_r _ _ _ _ _ _
          refine g_istore C (n' := 64) [(4, .int (iI (t_num L (((t_adv I L) 1)) (((t_adv I L) 3)) (((t_adv I L) 4)) 0 9))), (3, .ref (e (10 + 2))), (2, .int (iI 2)), (0, .ref (q 99)), (1, .ref (q2 99))] dX4_readClause_62 rfl (by decide) rfl ?_
          refine g_iload C (n' := 66) 0 rfl dX4_readClause_64 rfl ?_
          refine g_iconst C (n' := 67) dX4_readClause_66 rfl ?_
          refine g_icmp_ne C (n' := 70) 72 dX4_readClause_67 (by decide) rfl (by unfold inR; omega) (by unfold inR; omega) (fun c23 => ?_) (fun c23 => ?_)
          · skip
            exfalso
            omega
          · skip
            refine g_iconst C (n' := 71) dX4_readClause_70 rfl ?_
            refine g_iret C hr hlk (nar_z (by omega)) ⟨(t_adv I L), ?_⟩ dX4_readClause_71
            unfold rcF
            rw [if_neg (by omega), if_neg (by omega), hw2]
            rw [show rcLo 2 = 0 from rfl, show rcHi 2 = 9 from rfl, if_pos (show t_num L (I 1) (tk1 L (I 1) (I 4)) (tk2 L (I 1) (I 4)) 0 9 = -1 from hN21)]
            exact ⟨rfl, hf20, hf19, ⟨rfl, rfl⟩, ⟨rfl, rfl⟩, rfl⟩
        · skip
          rw [if_neg hN21]
          have hf24 : tokOK (t_adv (t_adv I L) L) := t_adv_ok hf19
          have hf25 : smI (t_adv (t_adv I L) L) := t_adv_sm hf20 hf19
          have hf26 : (t_num L (((t_adv I L) 1)) (((t_adv I L) 3)) (((t_adv I L) 4)) 0 9) = -1 ∨ (0 ≤ (t_num L (((t_adv I L) 1)) (((t_adv I L) 3)) (((t_adv I L) 4)) 0 9) ∧ (t_num L (((t_adv I L) 1)) (((t_adv I L) 3)) (((t_adv I L) 4)) 0 9) ≤ 9) := t_num_r _ _ _ _ _ _
          refine g_istore C (n' := 64) [(4, .int (iI (t_num L (((t_adv I L) 1)) (((t_adv I L) 3)) (((t_adv I L) 4)) 0 9))), (3, .ref (e (10 + 2))), (2, .int (iI 2)), (0, .ref (q 99)), (1, .ref (q2 99))] dX4_readClause_62 rfl (by decide) rfl ?_
          refine g_iload C (n' := 66) 0 rfl dX4_readClause_64 rfl ?_
          refine g_iconst C (n' := 67) dX4_readClause_66 rfl ?_
          refine g_icmp_ne C (n' := 70) 72 dX4_readClause_67 (by decide) rfl (by unfold inR; omega) (by unfold inR; omega) (fun c27 => ?_) (fun c27 => ?_)
          · skip
            refine g_aload_n C (n' := 73) 4 rfl dX4_readClause_72 rfl rfl ?_
            refine g_aload_n C (n' := 74) 1 rfl dX4_readClause_73 rfl rfl ?_
            refine g_iload C (n' := 76) 0 rfl dX4_readClause_74 rfl ?_
            refine g_cVn C (n' := 79) (c_X2_tell_2 l D Y C.2.2.2.2.2.2.2.2.1 q2 J N (t_num L (((t_adv I L) 1)) (((t_adv I L) 3)) (((t_adv I L) 4)) 0 9) e hW) 2 kw_347 kc_X2_tell (by decide +kernel) List.perm_append_comm 0 (ci := 1) rfl rfl rfl rfl ⟨Nat.le_of_ble_eq_true rfl, Nat.le_of_ble_eq_true rfl⟩ ⟨rfl, rfl⟩ ⟨Nat.le_of_ble_eq_true rfl, Nat.le_of_ble_eq_true rfl⟩ (Nat.le_of_ble_eq_true rfl) dX4_readClause_76 rfl rfl ((wText q Y (t_adv (t_adv I L) L) L) ++ (wNet q2 Y (sU J 1 (t_num L (((t_adv I L) 1)) (((t_adv I L) 3)) (((t_adv I L) 4)) 0 9)) N)) List.perm_append_comm.symm ?_
            refine g_iconst C (n' := 80) dX4_readClause_79 rfl ?_
            refine g_iret C hr hlk (nar_z (by omega)) ⟨(t_adv (t_adv I L) L), ?_⟩ dX4_readClause_80
            unfold rcF
            rw [if_neg (by omega), if_neg (by omega), hw2]
            rw [show rcLo 2 = 0 from rfl, show rcHi 2 = 9 from rfl, if_neg (show ¬ t_num L (I 1) (tk1 L (I 1) (I 4)) (tk2 L (I 1) (I 4)) 0 9 = -1 from hN21)]
            exact ⟨rfl, hf25, hf24, ⟨rfl, rfl⟩, ⟨rfl, rfl⟩, rfl⟩
          · skip
            exfalso
            omega
      · skip
        exact absurd (hv.2.2.1.2 2 1 (by decide) (by decide) c18) (by decide)
    by_cases hw3 : t_word L (I 3) (I 4) = 3
    · skip
      refine g_lv (lv' := [(2, .int (iI 3)), (0, .ref (q 99)), (1, .ref (q2 99))]) [0, 1, 2] (by rw [hw3]; rfl) ?_
      refine g_getsN C (n' := 15) (v := .ref (e 0)) hv.1 (List.mem_of_getElem? (i := 24) rfl) rfl dX4_readClause_12 rfl ?_
      refine g_iload_n C (n' := 16) 0 rfl dX4_readClause_15 rfl rfl ?_
      refine g_tq C (n' := 17) hv.2.1 (v := .ref (e (10 + 3))) (by decide) (by decide) (by decide) rfl dX4_readClause_16 rfl ?_
      refine g_astore_n C (n' := 18) [(3, .ref (e (10 + 3))), (2, .int (iI 3)), (0, .ref (q 99)), (1, .ref (q2 99))] dX4_readClause_17 rfl rfl (by decide) rfl ?_
      refine g_aload_n C (n' := 19) 0 rfl dX4_readClause_18 rfl rfl ?_
      refine g_gets C (n' := 22) (v := .ref (e (10 + 1))) (hv.2.2.1.1 1 (by decide)).1 kw_327 rfl dX4_readClause_19 rfl ?_
      refine g_acmp_ne C (n' := 25) 46 dX4_readClause_22 (by decide) rfl (fun c28 => ?_) (fun c28 => ?_)
      · skip
        refine g_aload_n C (n' := 47) 2 rfl dX4_readClause_46 rfl rfl ?_
        refine g_cVn C (n' := 50) (c_X4_advance l D Y C.2.2.2.2.2.2.2.2.1 q I L hsI hsL hT) 0 kw_251 kc_X4_advance (by decide +kernel) (List.Perm.refl _) 0 (ci := 3) rfl rfl rfl rfl ⟨Nat.le_of_ble_eq_true rfl, Nat.le_of_ble_eq_true rfl⟩ ⟨rfl, rfl⟩ ⟨Nat.le_of_ble_eq_true rfl, Nat.le_of_ble_eq_true rfl⟩ (Nat.le_of_ble_eq_true rfl) dX4_readClause_47 rfl rfl ((wText q Y (t_adv I L) L) ++ (wNet q2 Y J N)) (List.Perm.refl _).symm ?_
        have hf29 : tokOK (t_adv I L) := t_adv_ok hT
        have hf30 : smI (t_adv I L) := t_adv_sm hsI hT
        refine g_aload_n C (n' := 51) 2 rfl dX4_readClause_50 rfl rfl ?_
        refine g_aload_n C (n' := 52) 0 rfl dX4_readClause_51 rfl rfl ?_
        refine g_getfEN C (n' := 55) (v := .int (iI 0)) ((hv.2.2.1.1 3 (by decide)).2.2 _ (List.mem_of_getElem? (i := 1) rfl)) (List.mem_of_getElem? (i := 28) rfl) rfl dX4_readClause_52 rfl ?_
        refine g_aload_n C (n' := 56) 0 rfl dX4_readClause_55 rfl rfl ?_
        refine g_getfEN C (n' := 59) (v := .int (iI 9)) ((hv.2.2.1.1 3 (by decide)).2.2 _ (List.mem_of_getElem? (i := 2) rfl)) (List.mem_of_getElem? (i := 29) rfl) rfl dX4_readClause_56 rfl ?_
        refine g_cVv C (n' := 62) (v := .int (iI (t_num L (((t_adv I L) 1)) (((t_adv I L) 3)) (((t_adv I L) 4)) 0 9))) (c_X4_readNumber l D Y C.2.2.2.2.2.2.2.2.1 q (t_adv I L) L 0 9 hf30 hsL hf29 (by omega) (by omega)) 2 kw_337 kc_X4_readNumber (by decide +kernel) (List.Perm.refl _) 0 (ci := 3) rfl rfl rfl rfl ⟨Nat.le_of_ble_eq_true rfl, Nat.le_of_ble_eq_true rfl⟩ ⟨rfl, rfl⟩ ⟨Nat.le_of_ble_eq_true rfl, Nat.le_of_ble_eq_true rfl⟩ (Nat.le_of_ble_eq_true rfl) dX4_readClause_59 rfl rfl ((wText q Y (if (t_num L (((t_adv I L) 1)) (((t_adv I L) 3)) (((t_adv I L) 4)) 0 9) = -1 then (t_adv I L) else (t_adv (t_adv I L) L)) L) ++ (wNet q2 Y J N)) (List.Perm.refl _).symm ?_
        by_cases hN31 : (t_num L (((t_adv I L) 1)) (((t_adv I L) 3)) (((t_adv I L) 4)) 0 9) = -1
        · skip
          rw [if_pos hN31]
          have hf32 : (t_num L (((t_adv I L) 1)) (((t_adv I L) 3)) (((t_adv I L) 4)) 0 9) = -1 ∨ (0 ≤ (t_num L (((t_adv I L) 1)) (((t_adv I L) 3)) (((t_adv I L) 4)) 0 9) ∧ (t_num L (((t_adv I L) 1)) (((t_adv I L) 3)) (((t_adv I L) 4)) 0 9) ≤ 9) := t_num_r _ _ _ _ _ _
          refine g_istore C (n' := 64) [(4, .int (iI (t_num L (((t_adv I L) 1)) (((t_adv I L) 3)) (((t_adv I L) 4)) 0 9))), (3, .ref (e (10 + 3))), (2, .int (iI 3)), (0, .ref (q 99)), (1, .ref (q2 99))] dX4_readClause_62 rfl (by decide) rfl ?_
          refine g_iload C (n' := 66) 0 rfl dX4_readClause_64 rfl ?_
          refine g_iconst C (n' := 67) dX4_readClause_66 rfl ?_
          refine g_icmp_ne C (n' := 70) 72 dX4_readClause_67 (by decide) rfl (by unfold inR; omega) (by unfold inR; omega) (fun c33 => ?_) (fun c33 => ?_)
          · skip
            exfalso
            omega
          · skip
            refine g_iconst C (n' := 71) dX4_readClause_70 rfl ?_
            refine g_iret C hr hlk (nar_z (by omega)) ⟨(t_adv I L), ?_⟩ dX4_readClause_71
            unfold rcF
            rw [if_neg (by omega), if_neg (by omega), hw3]
            rw [show rcLo 3 = 0 from rfl, show rcHi 3 = 9 from rfl, if_pos (show t_num L (I 1) (tk1 L (I 1) (I 4)) (tk2 L (I 1) (I 4)) 0 9 = -1 from hN31)]
            exact ⟨rfl, hf30, hf29, ⟨rfl, rfl⟩, ⟨rfl, rfl⟩, rfl⟩
        · skip
          rw [if_neg hN31]
          have hf34 : tokOK (t_adv (t_adv I L) L) := t_adv_ok hf29
          have hf35 : smI (t_adv (t_adv I L) L) := t_adv_sm hf30 hf29
          have hf36 : (t_num L (((t_adv I L) 1)) (((t_adv I L) 3)) (((t_adv I L) 4)) 0 9) = -1 ∨ (0 ≤ (t_num L (((t_adv I L) 1)) (((t_adv I L) 3)) (((t_adv I L) 4)) 0 9) ∧ (t_num L (((t_adv I L) 1)) (((t_adv I L) 3)) (((t_adv I L) 4)) 0 9) ≤ 9) := t_num_r _ _ _ _ _ _
          refine g_istore C (n' := 64) [(4, .int (iI (t_num L (((t_adv I L) 1)) (((t_adv I L) 3)) (((t_adv I L) 4)) 0 9))), (3, .ref (e (10 + 3))), (2, .int (iI 3)), (0, .ref (q 99)), (1, .ref (q2 99))] dX4_readClause_62 rfl (by decide) rfl ?_
          refine g_iload C (n' := 66) 0 rfl dX4_readClause_64 rfl ?_
          refine g_iconst C (n' := 67) dX4_readClause_66 rfl ?_
          refine g_icmp_ne C (n' := 70) 72 dX4_readClause_67 (by decide) rfl (by unfold inR; omega) (by unfold inR; omega) (fun c37 => ?_) (fun c37 => ?_)
          · skip
            refine g_aload_n C (n' := 73) 4 rfl dX4_readClause_72 rfl rfl ?_
            refine g_aload_n C (n' := 74) 1 rfl dX4_readClause_73 rfl rfl ?_
            refine g_iload C (n' := 76) 0 rfl dX4_readClause_74 rfl ?_
            refine g_cVn C (n' := 79) (c_X2_tell_3 l D Y C.2.2.2.2.2.2.2.2.1 q2 J N (t_num L (((t_adv I L) 1)) (((t_adv I L) 3)) (((t_adv I L) 4)) 0 9) e hW) 2 kw_347 kc_X2_tell (by decide +kernel) List.perm_append_comm 0 (ci := 1) rfl rfl rfl rfl ⟨Nat.le_of_ble_eq_true rfl, Nat.le_of_ble_eq_true rfl⟩ ⟨rfl, rfl⟩ ⟨Nat.le_of_ble_eq_true rfl, Nat.le_of_ble_eq_true rfl⟩ (Nat.le_of_ble_eq_true rfl) dX4_readClause_76 rfl rfl ((wText q Y (t_adv (t_adv I L) L) L) ++ (wNet q2 Y (sU J 2 (t_num L (((t_adv I L) 1)) (((t_adv I L) 3)) (((t_adv I L) 4)) 0 9)) N)) List.perm_append_comm.symm ?_
            refine g_iconst C (n' := 80) dX4_readClause_79 rfl ?_
            refine g_iret C hr hlk (nar_z (by omega)) ⟨(t_adv (t_adv I L) L), ?_⟩ dX4_readClause_80
            unfold rcF
            rw [if_neg (by omega), if_neg (by omega), hw3]
            rw [show rcLo 3 = 0 from rfl, show rcHi 3 = 9 from rfl, if_neg (show ¬ t_num L (I 1) (tk1 L (I 1) (I 4)) (tk2 L (I 1) (I 4)) 0 9 = -1 from hN31)]
            exact ⟨rfl, hf35, hf34, ⟨rfl, rfl⟩, ⟨rfl, rfl⟩, rfl⟩
          · skip
            exfalso
            omega
      · skip
        exact absurd (hv.2.2.1.2 3 1 (by decide) (by decide) c28) (by decide)
    by_cases hw4 : t_word L (I 3) (I 4) = 4
    · skip
      refine g_lv (lv' := [(2, .int (iI 4)), (0, .ref (q 99)), (1, .ref (q2 99))]) [0, 1, 2] (by rw [hw4]; rfl) ?_
      refine g_getsN C (n' := 15) (v := .ref (e 0)) hv.1 (List.mem_of_getElem? (i := 24) rfl) rfl dX4_readClause_12 rfl ?_
      refine g_iload_n C (n' := 16) 0 rfl dX4_readClause_15 rfl rfl ?_
      refine g_tq C (n' := 17) hv.2.1 (v := .ref (e (10 + 4))) (by decide) (by decide) (by decide) rfl dX4_readClause_16 rfl ?_
      refine g_astore_n C (n' := 18) [(3, .ref (e (10 + 4))), (2, .int (iI 4)), (0, .ref (q 99)), (1, .ref (q2 99))] dX4_readClause_17 rfl rfl (by decide) rfl ?_
      refine g_aload_n C (n' := 19) 0 rfl dX4_readClause_18 rfl rfl ?_
      refine g_gets C (n' := 22) (v := .ref (e (10 + 1))) (hv.2.2.1.1 1 (by decide)).1 kw_327 rfl dX4_readClause_19 rfl ?_
      refine g_acmp_ne C (n' := 25) 46 dX4_readClause_22 (by decide) rfl (fun c38 => ?_) (fun c38 => ?_)
      · skip
        refine g_aload_n C (n' := 47) 2 rfl dX4_readClause_46 rfl rfl ?_
        refine g_cVn C (n' := 50) (c_X4_advance l D Y C.2.2.2.2.2.2.2.2.1 q I L hsI hsL hT) 0 kw_251 kc_X4_advance (by decide +kernel) (List.Perm.refl _) 0 (ci := 3) rfl rfl rfl rfl ⟨Nat.le_of_ble_eq_true rfl, Nat.le_of_ble_eq_true rfl⟩ ⟨rfl, rfl⟩ ⟨Nat.le_of_ble_eq_true rfl, Nat.le_of_ble_eq_true rfl⟩ (Nat.le_of_ble_eq_true rfl) dX4_readClause_47 rfl rfl ((wText q Y (t_adv I L) L) ++ (wNet q2 Y J N)) (List.Perm.refl _).symm ?_
        have hf39 : tokOK (t_adv I L) := t_adv_ok hT
        have hf40 : smI (t_adv I L) := t_adv_sm hsI hT
        refine g_aload_n C (n' := 51) 2 rfl dX4_readClause_50 rfl rfl ?_
        refine g_aload_n C (n' := 52) 0 rfl dX4_readClause_51 rfl rfl ?_
        refine g_getfEN C (n' := 55) (v := .int (iI 1)) ((hv.2.2.1.1 4 (by decide)).2.2 _ (List.mem_of_getElem? (i := 1) rfl)) (List.mem_of_getElem? (i := 28) rfl) rfl dX4_readClause_52 rfl ?_
        refine g_aload_n C (n' := 56) 0 rfl dX4_readClause_55 rfl rfl ?_
        refine g_getfEN C (n' := 59) (v := .int (iI 9)) ((hv.2.2.1.1 4 (by decide)).2.2 _ (List.mem_of_getElem? (i := 2) rfl)) (List.mem_of_getElem? (i := 29) rfl) rfl dX4_readClause_56 rfl ?_
        refine g_cVv C (n' := 62) (v := .int (iI (t_num L (((t_adv I L) 1)) (((t_adv I L) 3)) (((t_adv I L) 4)) 1 9))) (c_X4_readNumber l D Y C.2.2.2.2.2.2.2.2.1 q (t_adv I L) L 1 9 hf40 hsL hf39 (by omega) (by omega)) 2 kw_337 kc_X4_readNumber (by decide +kernel) (List.Perm.refl _) 0 (ci := 3) rfl rfl rfl rfl ⟨Nat.le_of_ble_eq_true rfl, Nat.le_of_ble_eq_true rfl⟩ ⟨rfl, rfl⟩ ⟨Nat.le_of_ble_eq_true rfl, Nat.le_of_ble_eq_true rfl⟩ (Nat.le_of_ble_eq_true rfl) dX4_readClause_59 rfl rfl ((wText q Y (if (t_num L (((t_adv I L) 1)) (((t_adv I L) 3)) (((t_adv I L) 4)) 1 9) = -1 then (t_adv I L) else (t_adv (t_adv I L) L)) L) ++ (wNet q2 Y J N)) (List.Perm.refl _).symm ?_
        by_cases hN41 : (t_num L (((t_adv I L) 1)) (((t_adv I L) 3)) (((t_adv I L) 4)) 1 9) = -1
        · skip
          rw [if_pos hN41]
          have hf42 : (t_num L (((t_adv I L) 1)) (((t_adv I L) 3)) (((t_adv I L) 4)) 1 9) = -1 ∨ (1 ≤ (t_num L (((t_adv I L) 1)) (((t_adv I L) 3)) (((t_adv I L) 4)) 1 9) ∧ (t_num L (((t_adv I L) 1)) (((t_adv I L) 3)) (((t_adv I L) 4)) 1 9) ≤ 9) := t_num_r _ _ _ _ _ _
          refine g_istore C (n' := 64) [(4, .int (iI (t_num L (((t_adv I L) 1)) (((t_adv I L) 3)) (((t_adv I L) 4)) 1 9))), (3, .ref (e (10 + 4))), (2, .int (iI 4)), (0, .ref (q 99)), (1, .ref (q2 99))] dX4_readClause_62 rfl (by decide) rfl ?_
          refine g_iload C (n' := 66) 0 rfl dX4_readClause_64 rfl ?_
          refine g_iconst C (n' := 67) dX4_readClause_66 rfl ?_
          refine g_icmp_ne C (n' := 70) 72 dX4_readClause_67 (by decide) rfl (by unfold inR; omega) (by unfold inR; omega) (fun c43 => ?_) (fun c43 => ?_)
          · skip
            exfalso
            omega
          · skip
            refine g_iconst C (n' := 71) dX4_readClause_70 rfl ?_
            refine g_iret C hr hlk (nar_z (by omega)) ⟨(t_adv I L), ?_⟩ dX4_readClause_71
            unfold rcF
            rw [if_neg (by omega), if_neg (by omega), hw4]
            rw [show rcLo 4 = 1 from rfl, show rcHi 4 = 9 from rfl, if_pos (show t_num L (I 1) (tk1 L (I 1) (I 4)) (tk2 L (I 1) (I 4)) 1 9 = -1 from hN41)]
            exact ⟨rfl, hf40, hf39, ⟨rfl, rfl⟩, ⟨rfl, rfl⟩, rfl⟩
        · skip
          rw [if_neg hN41]
          have hf44 : tokOK (t_adv (t_adv I L) L) := t_adv_ok hf39
          have hf45 : smI (t_adv (t_adv I L) L) := t_adv_sm hf40 hf39
          have hf46 : (t_num L (((t_adv I L) 1)) (((t_adv I L) 3)) (((t_adv I L) 4)) 1 9) = -1 ∨ (1 ≤ (t_num L (((t_adv I L) 1)) (((t_adv I L) 3)) (((t_adv I L) 4)) 1 9) ∧ (t_num L (((t_adv I L) 1)) (((t_adv I L) 3)) (((t_adv I L) 4)) 1 9) ≤ 9) := t_num_r _ _ _ _ _ _
          refine g_istore C (n' := 64) [(4, .int (iI (t_num L (((t_adv I L) 1)) (((t_adv I L) 3)) (((t_adv I L) 4)) 1 9))), (3, .ref (e (10 + 4))), (2, .int (iI 4)), (0, .ref (q 99)), (1, .ref (q2 99))] dX4_readClause_62 rfl (by decide) rfl ?_
          refine g_iload C (n' := 66) 0 rfl dX4_readClause_64 rfl ?_
          refine g_iconst C (n' := 67) dX4_readClause_66 rfl ?_
          refine g_icmp_ne C (n' := 70) 72 dX4_readClause_67 (by decide) rfl (by unfold inR; omega) (by unfold inR; omega) (fun c47 => ?_) (fun c47 => ?_)
          · skip
            refine g_aload_n C (n' := 73) 4 rfl dX4_readClause_72 rfl rfl ?_
            refine g_aload_n C (n' := 74) 1 rfl dX4_readClause_73 rfl rfl ?_
            refine g_iload C (n' := 76) 0 rfl dX4_readClause_74 rfl ?_
            refine g_cVn C (n' := 79) (c_X2_tell_4 l D Y C.2.2.2.2.2.2.2.2.1 q2 J N (t_num L (((t_adv I L) 1)) (((t_adv I L) 3)) (((t_adv I L) 4)) 1 9) e hW) 2 kw_347 kc_X2_tell (by decide +kernel) List.perm_append_comm 0 (ci := 1) rfl rfl rfl rfl ⟨Nat.le_of_ble_eq_true rfl, Nat.le_of_ble_eq_true rfl⟩ ⟨rfl, rfl⟩ ⟨Nat.le_of_ble_eq_true rfl, Nat.le_of_ble_eq_true rfl⟩ (Nat.le_of_ble_eq_true rfl) dX4_readClause_76 rfl rfl ((wText q Y (t_adv (t_adv I L) L) L) ++ (wNet q2 Y (sU J 3 (t_num L (((t_adv I L) 1)) (((t_adv I L) 3)) (((t_adv I L) 4)) 1 9)) N)) List.perm_append_comm.symm ?_
            refine g_iconst C (n' := 80) dX4_readClause_79 rfl ?_
            refine g_iret C hr hlk (nar_z (by omega)) ⟨(t_adv (t_adv I L) L), ?_⟩ dX4_readClause_80
            unfold rcF
            rw [if_neg (by omega), if_neg (by omega), hw4]
            rw [show rcLo 4 = 1 from rfl, show rcHi 4 = 9 from rfl, if_neg (show ¬ t_num L (I 1) (tk1 L (I 1) (I 4)) (tk2 L (I 1) (I 4)) 1 9 = -1 from hN41)]
            exact ⟨rfl, hf45, hf44, ⟨rfl, rfl⟩, ⟨rfl, rfl⟩, rfl⟩
          · skip
            exfalso
            omega
      · skip
        exact absurd (hv.2.2.1.2 4 1 (by decide) (by decide) c38) (by decide)
    by_cases hw5 : t_word L (I 3) (I 4) = 5
    · skip
      refine g_lv (lv' := [(2, .int (iI 5)), (0, .ref (q 99)), (1, .ref (q2 99))]) [0, 1, 2] (by rw [hw5]; rfl) ?_
      refine g_getsN C (n' := 15) (v := .ref (e 0)) hv.1 (List.mem_of_getElem? (i := 24) rfl) rfl dX4_readClause_12 rfl ?_
      refine g_iload_n C (n' := 16) 0 rfl dX4_readClause_15 rfl rfl ?_
      refine g_tq C (n' := 17) hv.2.1 (v := .ref (e (10 + 5))) (by decide) (by decide) (by decide) rfl dX4_readClause_16 rfl ?_
      refine g_astore_n C (n' := 18) [(3, .ref (e (10 + 5))), (2, .int (iI 5)), (0, .ref (q 99)), (1, .ref (q2 99))] dX4_readClause_17 rfl rfl (by decide) rfl ?_
      refine g_aload_n C (n' := 19) 0 rfl dX4_readClause_18 rfl rfl ?_
      refine g_gets C (n' := 22) (v := .ref (e (10 + 1))) (hv.2.2.1.1 1 (by decide)).1 kw_327 rfl dX4_readClause_19 rfl ?_
      refine g_acmp_ne C (n' := 25) 46 dX4_readClause_22 (by decide) rfl (fun c48 => ?_) (fun c48 => ?_)
      · skip
        refine g_aload_n C (n' := 47) 2 rfl dX4_readClause_46 rfl rfl ?_
        refine g_cVn C (n' := 50) (c_X4_advance l D Y C.2.2.2.2.2.2.2.2.1 q I L hsI hsL hT) 0 kw_251 kc_X4_advance (by decide +kernel) (List.Perm.refl _) 0 (ci := 3) rfl rfl rfl rfl ⟨Nat.le_of_ble_eq_true rfl, Nat.le_of_ble_eq_true rfl⟩ ⟨rfl, rfl⟩ ⟨Nat.le_of_ble_eq_true rfl, Nat.le_of_ble_eq_true rfl⟩ (Nat.le_of_ble_eq_true rfl) dX4_readClause_47 rfl rfl ((wText q Y (t_adv I L) L) ++ (wNet q2 Y J N)) (List.Perm.refl _).symm ?_
        have hf49 : tokOK (t_adv I L) := t_adv_ok hT
        have hf50 : smI (t_adv I L) := t_adv_sm hsI hT
        refine g_aload_n C (n' := 51) 2 rfl dX4_readClause_50 rfl rfl ?_
        refine g_aload_n C (n' := 52) 0 rfl dX4_readClause_51 rfl rfl ?_
        refine g_getfEN C (n' := 55) (v := .int (iI 0)) ((hv.2.2.1.1 5 (by decide)).2.2 _ (List.mem_of_getElem? (i := 1) rfl)) (List.mem_of_getElem? (i := 28) rfl) rfl dX4_readClause_52 rfl ?_
        refine g_aload_n C (n' := 56) 0 rfl dX4_readClause_55 rfl rfl ?_
        refine g_getfEN C (n' := 59) (v := .int (iI 999)) ((hv.2.2.1.1 5 (by decide)).2.2 _ (List.mem_of_getElem? (i := 2) rfl)) (List.mem_of_getElem? (i := 29) rfl) rfl dX4_readClause_56 rfl ?_
        refine g_cVv C (n' := 62) (v := .int (iI (t_num L (((t_adv I L) 1)) (((t_adv I L) 3)) (((t_adv I L) 4)) 0 999))) (c_X4_readNumber l D Y C.2.2.2.2.2.2.2.2.1 q (t_adv I L) L 0 999 hf50 hsL hf49 (by omega) (by omega)) 2 kw_337 kc_X4_readNumber (by decide +kernel) (List.Perm.refl _) 0 (ci := 3) rfl rfl rfl rfl ⟨Nat.le_of_ble_eq_true rfl, Nat.le_of_ble_eq_true rfl⟩ ⟨rfl, rfl⟩ ⟨Nat.le_of_ble_eq_true rfl, Nat.le_of_ble_eq_true rfl⟩ (Nat.le_of_ble_eq_true rfl) dX4_readClause_59 rfl rfl ((wText q Y (if (t_num L (((t_adv I L) 1)) (((t_adv I L) 3)) (((t_adv I L) 4)) 0 999) = -1 then (t_adv I L) else (t_adv (t_adv I L) L)) L) ++ (wNet q2 Y J N)) (List.Perm.refl _).symm ?_
        by_cases hN51 : (t_num L (((t_adv I L) 1)) (((t_adv I L) 3)) (((t_adv I L) 4)) 0 999) = -1
        · skip
          rw [if_pos hN51]
          have hf52 : (t_num L (((t_adv I L) 1)) (((t_adv I L) 3)) (((t_adv I L) 4)) 0 999) = -1 ∨ (0 ≤ (t_num L (((t_adv I L) 1)) (((t_adv I L) 3)) (((t_adv I L) 4)) 0 999) ∧ (t_num L (((t_adv I L) 1)) (((t_adv I L) 3)) (((t_adv I L) 4)) 0 999) ≤ 999) := t_num_r _ _ _ _ _ _
          refine g_istore C (n' := 64) [(4, .int (iI (t_num L (((t_adv I L) 1)) (((t_adv I L) 3)) (((t_adv I L) 4)) 0 999))), (3, .ref (e (10 + 5))), (2, .int (iI 5)), (0, .ref (q 99)), (1, .ref (q2 99))] dX4_readClause_62 rfl (by decide) rfl ?_
          refine g_iload C (n' := 66) 0 rfl dX4_readClause_64 rfl ?_
          refine g_iconst C (n' := 67) dX4_readClause_66 rfl ?_
          refine g_icmp_ne C (n' := 70) 72 dX4_readClause_67 (by decide) rfl (by unfold inR; omega) (by unfold inR; omega) (fun c53 => ?_) (fun c53 => ?_)
          · skip
            exfalso
            omega
          · skip
            refine g_iconst C (n' := 71) dX4_readClause_70 rfl ?_
            refine g_iret C hr hlk (nar_z (by omega)) ⟨(t_adv I L), ?_⟩ dX4_readClause_71
            unfold rcF
            rw [if_neg (by omega), if_neg (by omega), hw5]
            rw [show rcLo 5 = 0 from rfl, show rcHi 5 = 999 from rfl, if_pos (show t_num L (I 1) (tk1 L (I 1) (I 4)) (tk2 L (I 1) (I 4)) 0 999 = -1 from hN51)]
            exact ⟨rfl, hf50, hf49, ⟨rfl, rfl⟩, ⟨rfl, rfl⟩, rfl⟩
        · skip
          rw [if_neg hN51]
          have hf54 : tokOK (t_adv (t_adv I L) L) := t_adv_ok hf49
          have hf55 : smI (t_adv (t_adv I L) L) := t_adv_sm hf50 hf49
          have hf56 : (t_num L (((t_adv I L) 1)) (((t_adv I L) 3)) (((t_adv I L) 4)) 0 999) = -1 ∨ (0 ≤ (t_num L (((t_adv I L) 1)) (((t_adv I L) 3)) (((t_adv I L) 4)) 0 999) ∧ (t_num L (((t_adv I L) 1)) (((t_adv I L) 3)) (((t_adv I L) 4)) 0 999) ≤ 999) := t_num_r _ _ _ _ _ _
          refine g_istore C (n' := 64) [(4, .int (iI (t_num L (((t_adv I L) 1)) (((t_adv I L) 3)) (((t_adv I L) 4)) 0 999))), (3, .ref (e (10 + 5))), (2, .int (iI 5)), (0, .ref (q 99)), (1, .ref (q2 99))] dX4_readClause_62 rfl (by decide) rfl ?_
          refine g_iload C (n' := 66) 0 rfl dX4_readClause_64 rfl ?_
          refine g_iconst C (n' := 67) dX4_readClause_66 rfl ?_
          refine g_icmp_ne C (n' := 70) 72 dX4_readClause_67 (by decide) rfl (by unfold inR; omega) (by unfold inR; omega) (fun c57 => ?_) (fun c57 => ?_)
          · skip
            refine g_aload_n C (n' := 73) 4 rfl dX4_readClause_72 rfl rfl ?_
            refine g_aload_n C (n' := 74) 1 rfl dX4_readClause_73 rfl rfl ?_
            refine g_iload C (n' := 76) 0 rfl dX4_readClause_74 rfl ?_
            refine g_cVn C (n' := 79) (c_X2_tell_5 l D Y C.2.2.2.2.2.2.2.2.1 q2 J N (t_num L (((t_adv I L) 1)) (((t_adv I L) 3)) (((t_adv I L) 4)) 0 999) e hW) 2 kw_347 kc_X2_tell (by decide +kernel) List.perm_append_comm 0 (ci := 1) rfl rfl rfl rfl ⟨Nat.le_of_ble_eq_true rfl, Nat.le_of_ble_eq_true rfl⟩ ⟨rfl, rfl⟩ ⟨Nat.le_of_ble_eq_true rfl, Nat.le_of_ble_eq_true rfl⟩ (Nat.le_of_ble_eq_true rfl) dX4_readClause_76 rfl rfl ((wText q Y (t_adv (t_adv I L) L) L) ++ (wNet q2 Y (sU J 4 (t_num L (((t_adv I L) 1)) (((t_adv I L) 3)) (((t_adv I L) 4)) 0 999)) N)) List.perm_append_comm.symm ?_
            refine g_iconst C (n' := 80) dX4_readClause_79 rfl ?_
            refine g_iret C hr hlk (nar_z (by omega)) ⟨(t_adv (t_adv I L) L), ?_⟩ dX4_readClause_80
            unfold rcF
            rw [if_neg (by omega), if_neg (by omega), hw5]
            rw [show rcLo 5 = 0 from rfl, show rcHi 5 = 999 from rfl, if_neg (show ¬ t_num L (I 1) (tk1 L (I 1) (I 4)) (tk2 L (I 1) (I 4)) 0 999 = -1 from hN51)]
            exact ⟨rfl, hf55, hf54, ⟨rfl, rfl⟩, ⟨rfl, rfl⟩, rfl⟩
          · skip
            exfalso
            omega
      · skip
        exact absurd (hv.2.2.1.2 5 1 (by decide) (by decide) c48) (by decide)
    exfalso
    omega
  · skip
    refine g_iconst C (n' := 11) dX4_readClause_10 rfl ?_
    refine g_iret C hr hlk (nar_z (by omega)) ⟨I, ?_⟩ dX4_readClause_11
    have hw : t_word L (I 3) (I 4) = -1 := by omega
    unfold rcF
    rw [if_pos hw]
    exact ⟨rfl, hsI, hT, ⟨rfl, rfl⟩, ⟨rfl, rfl⟩, rfl⟩
