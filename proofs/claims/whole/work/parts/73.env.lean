/-! Text: read -/
def tokW (I : Nat → Int) : Prop := 0 ≤ I 4 ∧ I 4 ≤ 200 ∧ 0 ≤ I 1 ∧ I 1 ≤ 200
theorem t_adv_okW {I L : Nat → Int} (h : tokW I) : tokOK (t_adv I L) := by
  have h1 : tokOK (sU I 3 (I 4)) := ⟨h.1, Int.le_refl _, h.2.1, h.2.2.1, h.2.2.2⟩
  exact t_adv_ok (I := sU I 3 (I 4)) (L := L) h1
theorem t_adv_smW {I L : Nat → Int} (hs : smI I) (h : tokW I) : smI (t_adv I L) := by
  have h1 := t_adv_okW (L := L) h
  unfold tokOK at h1
  exact sm_put (sm_put hs (show -1000000 ≤ t_adv I L 3 ∧ t_adv I L 3 ≤ 1000000 by omega)) (show -1000000 ≤ t_adv I L 4 ∧ t_adv I L 4 ≤ 1000000 by omega)
set_option maxRecDepth 100000 in
set_option maxHeartbeats 4000000 in
theorem c_X4_advance_w (l : Launch) (D : va_G) (Y : Nat → ClassId) {E : (Nat → Prop) → State → Heap → Prop} (hE : g_Stab E) (q : Nat → Nat) (I : Nat → Int) (L : Nat → Int) (hsI : smI I) (hsL : smL L) (hT : tokW I) : g_Ct l yX4_advance cX4_advance 2 none ({ frames := 1, cells := 0, slots := 0, locals := 20 } : Room) D (tysY Y) E [.ref (q 99)] (wText q Y I L) 0 0 (g_det none (wText q Y (t_adv I L) L)) := by
  refine g_ofG (own := RX4) hE (by decide) rfl (Nat.le_of_ble_eq_true rfl) [(0, .ref (q 99))] rfl ?_
  intro p9 e9 s9 m9 b9 t9 c9 A9 C hr hlk hnm
  have hI := hsI
  have hL := hsL
  unfold smI at hI
  unfold smL at hL
  refine g_aload_n C (n' := 1) 0 rfl dX4_advance_0 rfl rfl ?_
  refine g_aload_n C (n' := 2) 0 rfl dX4_advance_1 rfl rfl ?_
  refine g_get C (n' := 5) (Cn := RX4) (T := TX4) (N := 5) (ci := 3) (v := .int (iI (I 4))) ga_X4 0 rfl rfl 4 (by decide) kw_35 rfl rfl dX4_advance_2 rfl ?_
  have h_2 := hI 4
  refine g_put C (n' := 8) (Cn := RX4) (T := TX4) (N := 5) (ci := 3) (v := .int (iI (I 4))) ga_X4 0 rfl rfl 3 (by decide) kw_34 rfl tyX4 tyX4_ok nmX4 rfl rfl rfl rfl (Nat.le_of_ble_eq_true rfl) (wText q Y (sU I 3 (I 4)) L) rfl dX4_advance_5 rfl ?_
  have hT8 := hT
  unfold tokW at hT8
  obtain ⟨I9, eI9⟩ : ∃ I9, I9 = sU I 3 (I 4) := ⟨_, rfl⟩
  have hs9 : smI I9 := by
    rw [eI9]
    exact sm_put hsI (hsI 4)
  have ht9 : tokOK I9 := by
    rw [eI9]
    exact ⟨hT8.1, Int.le_refl _, hT8.2.1, hT8.2.2.1, hT8.2.2.2⟩
  have hI9 := hs9
  unfold smI at hI9
  have hu9 := ht9
  unfold tokOK at hu9
  have e1 : I9 1 = I 1 := by rw [eI9]; rfl
  have e4 : I9 4 = I 4 := by rw [eI9]; rfl
  refine g_wd (w' := (wText q Y (sU I9 3 (I9 4)) L)) (by rw [eI9]; rfl) ?_
  have hk := t_skip_r L (I9 1) 200 (I9 4)
  refine lp_X4_adv1 C q I9 L hs9 hsL ht9 200 (I9 4) (by omega) (by omega) (by omega) ?_
  generalize hsk : t_skip L (I9 1) 200 (I9 4) = s at hk ⊢
  refine g_aload_n C (n' := 47) 0 rfl dX4_advance_46 rfl rfl ?_
  refine g_aload_n C (n' := 48) 0 rfl dX4_advance_47 rfl rfl ?_
  refine g_get C (n' := 51) (Cn := RX4) (T := TX4) (N := 5) (ci := 3) (v := .int (iI s)) ga_X4 0 rfl rfl 3 (by decide) kw_34 rfl rfl dX4_advance_48 rfl ?_
  refine g_put C (n' := 54) (Cn := RX4) (T := TX4) (N := 5) (ci := 3) (v := .int (iI s)) ga_X4 0 rfl rfl 4 (by decide) kw_35 rfl tyX4 tyX4_ok nmX4 rfl rfl rfl rfl (Nat.le_of_ble_eq_true rfl) (wText q Y (sU (sU I9 3 s) 4 s) L) rfl dX4_advance_51 rfl ?_
  refine g_aload_n C (n' := 55) 0 rfl dX4_advance_54 rfl rfl ?_
  refine g_cVv C (n' := 58) (v := .int (iI (if (I9 1) ≤ s then 1 else 0))) (c_X4_isAtEnd l D Y C.2.2.2.2.2.2.2.2.1 q (sU (sU I9 3 s) 4 s) L (sm_put (sm_put hs9 (by omega)) (by omega)) hsL) 0 kw_255 kc_X4_isAtEnd (by decide +kernel) (pm0 _) 0 (ci := 3) rfl rfl rfl rfl ⟨Nat.le_of_ble_eq_true rfl, Nat.le_of_ble_eq_true rfl⟩ ⟨rfl, rfl⟩ ⟨Nat.le_of_ble_eq_true rfl, Nat.le_of_ble_eq_true rfl⟩ (Nat.le_of_ble_eq_true rfl) dX4_advance_55 rfl rfl (wText q Y (sU (sU I9 3 s) 4 s) L) (pm0' _) ?_
  refine g_if_eq C (n' := 61) 62 dX4_advance_58 (by decide) rfl bz_r (fun c1 => ?_) (fun c1 => ?_)
  · skip
    replace c1 := bz_eq.mp c1
    refine g_aload_n C (n' := 63) 0 rfl dX4_advance_62 rfl rfl ?_
    refine g_get C (n' := 66) (Cn := RX4) (T := TX4) (N := 5) (ci := 3) (v := .ref (q 0)) ga_X4 0 rfl rfl 0 (by decide) kw_31 rfl rfl dX4_advance_63 rfl ?_
    refine g_aload_n C (n' := 67) 0 rfl dX4_advance_66 rfl rfl ?_
    refine g_get C (n' := 70) (Cn := RX4) (T := TX4) (N := 5) (ci := 3) (v := .int (iI s)) ga_X4 0 rfl rfl 3 (by decide) kw_34 rfl rfl dX4_advance_67 rfl ?_
    refine g_cald C (n' := 71) (f := L) 1 1 rfl rfl (by omega) (by omega) (by decide) rfl dX4_advance_70 rfl ?_
    have h_70 := hL s.toNat
    refine g_istore_n C (n' := 72) [(1, .int (iI (L s.toNat))), (0, .ref (q 99))] dX4_advance_71 rfl rfl (by decide) rfl ?_
    refine g_aload_n C (n' := 73) 1 rfl dX4_advance_72 rfl rfl ?_
    refine g_dup C (n' := 74) rfl dX4_advance_73 rfl ?_
    refine g_get C (n' := 77) (Cn := RX4) (T := TX4) (N := 5) (ci := 3) (v := .int (iI s)) ga_X4 0 rfl rfl 4 (by decide) kw_35 rfl rfl dX4_advance_74 rfl ?_
    refine g_iconst C (n' := 78) dX4_advance_77 rfl ?_
    refine g_iadd C (n' := 79) dX4_advance_78 rfl ?_
    refine g_put C (n' := 82) (Cn := RX4) (T := TX4) (N := 5) (ci := 3) (v := .int (iI (s + 1))) ga_X4 0 rfl rfl 4 (by decide) kw_35 rfl tyX4 tyX4_ok nmX4 rfl rfl rfl rfl (Nat.le_of_ble_eq_true rfl) (wText q Y (sU (sU I9 3 s) 4 (s + 1)) L) rfl dX4_advance_79 rfl ?_
    refine g_iload_n C (n' := 83) 0 rfl dX4_advance_82 rfl rfl ?_
    refine g_cSv C (n' := 86) (v := .int (iI (if 97 ≤ (L s.toNat) ∧ (L s.toNat) ≤ 122 then 1 else 0))) (c_X4_isSmall l D Y C.2.2.2.2.2.2.2.2.1 (L s.toNat) (by unfold inR at *; omega)) 1 kw_259 kc_X4_isSmall (by decide +kernel) (pm_n _) rfl ⟨Nat.le_of_ble_eq_true rfl, Nat.le_of_ble_eq_true rfl⟩ ⟨rfl, rfl⟩ ⟨Nat.le_of_ble_eq_true rfl, Nat.le_of_ble_eq_true rfl⟩ (Nat.le_of_ble_eq_true rfl) dX4_advance_83 rfl rfl (wText q Y (sU (sU I9 3 s) 4 (s + 1)) L) (pm_n _) ?_
    refine g_if_ne C (n' := 89) 97 dX4_advance_86 (by decide) rfl bz_r (fun c2 => ?_) (fun c2 => ?_)
    · skip
      replace c2 := bz_ne.mp c2
      refine lp_X4_adv2 C q I9 L s hs9 hsL ht9 (by omega) 200 (s + 1) (by omega) (by omega) (by omega) ?_
      refine g_vret C hr hlk ⟨rfl, ?_⟩ dX4_advance_159
      have hsk2 : t_skip L (I 1) 200 (I 4) = s := by rw [← e1, ← e4]; exact hsk
      unfold t_adv t_end
      rw [hsk2]
      rw [if_neg (by omega), if_neg (t_cls_n0 (by omega))]
      rw [e1]
      subst eI9
      rfl
    · skip
      replace c2 := bz_nne.mp c2
      refine g_iload_n C (n' := 90) 0 rfl dX4_advance_89 rfl rfl ?_
      refine g_cSv C (n' := 93) (v := .int (iI (if 48 ≤ (L s.toNat) ∧ (L s.toNat) ≤ 57 then 1 else 0))) (c_X4_isDigit l D Y C.2.2.2.2.2.2.2.2.1 (L s.toNat) (by unfold inR at *; omega)) 1 kw_262 kc_X4_isDigit (by decide +kernel) (pm_n _) rfl ⟨Nat.le_of_ble_eq_true rfl, Nat.le_of_ble_eq_true rfl⟩ ⟨rfl, rfl⟩ ⟨Nat.le_of_ble_eq_true rfl, Nat.le_of_ble_eq_true rfl⟩ (Nat.le_of_ble_eq_true rfl) dX4_advance_90 rfl rfl (wText q Y (sU (sU I9 3 s) 4 (s + 1)) L) (pm_n _) ?_
      refine g_if_ne C (n' := 96) 97 dX4_advance_93 (by decide) rfl bz_r (fun c3 => ?_) (fun c3 => ?_)
      · skip
        replace c3 := bz_ne.mp c3
        refine lp_X4_adv2 C q I9 L s hs9 hsL ht9 (by omega) 200 (s + 1) (by omega) (by omega) (by omega) ?_
        refine g_vret C hr hlk ⟨rfl, ?_⟩ dX4_advance_159
        have hsk2 : t_skip L (I 1) 200 (I 4) = s := by rw [← e1, ← e4]; exact hsk
        unfold t_adv t_end
        rw [hsk2]
        rw [if_neg (by omega), if_neg (t_cls_n0 (by omega))]
        rw [e1]
        subst eI9
        rfl
      · skip
        replace c3 := bz_nne.mp c3
        refine g_vret C hr hlk ⟨rfl, ?_⟩ dX4_advance_96
        have hsk2 : t_skip L (I 1) 200 (I 4) = s := by rw [← e1, ← e4]; exact hsk
        unfold t_adv t_end
        rw [hsk2]
        rw [if_neg (by omega), if_pos (t_cls_0 (by omega) (by omega))]
        subst eI9
        rfl
  · skip
    replace c1 := bz_neq.mp c1
    refine g_vret C hr hlk ⟨rfl, ?_⟩ dX4_advance_61
    have hsk2 : t_skip L (I 1) 200 (I 4) = s := by rw [← e1, ← e4]; exact hsk
    unfold t_adv t_end
    rw [hsk2]
    rw [if_pos (by omega)]
    subst eI9
    rfl
set_option maxRecDepth 100000 in
set_option maxHeartbeats 4000000 in
theorem lp_X4_rd {p9 : Program} {l : Launch} {e9 : Env} {s9 : State} {m9 : MethodId} {a9 : Array Value} {b9 : List Frame} {t9 : Method} {c9 : Code} {D : va_G} {A9 : Nat → Prop} {Q9 : State → Prop} {E : (Nat → Prop) → State → Heap → Prop} {Y : Nat → ClassId} (C : g_Cx p9 s9 m9 a9 c9 cX4_read 4 RX4 D (tysY Y) A9 E) (q q2 q3 : Nat → Nat) (L J : Nat → Int) (N : Nat → Nat → Int) (e : Nat → Nat) (n : Int) (Z : Int × Int × Int × (Nat → Int) × (Nat → Nat → Int)) (hsL : smL L) (hsJ : smI J) (hsN : smA N) (hW : g_Env E e) : ∀ (n9 : Nat) (c : Int) (I J4 : Nat → Int) (N4 : Nat → Nat → Int), c + n9 = 25 → 1 ≤ c → 1 ≤ n9 → smI I → tokOK I → I 1 = n → smI J4 → smA N4 → okN J4 N4 → Z = rdG L n (n9 - 1) c (rcF L n (I 3) (I 4) J4 N4) → (∀ (I J4 : Nat → Int) (N4 : Nat → Nat → Int), smI I → I 1 = n → tokOK I → smI J4 → smA N4 → okN J4 N4 → Z.1 = 0 → I 3 = Z.2.1 → g_G p9 l e9 ({ frames := 10, cells := 0, slots := 0, locals := 233 } : Room) s9 m9 a9 b9 t9 c9 4 D A9 Q9 0 0 ((wText q Y I L) ++ ((wNet q2 Y J N) ++ (wNet q3 Y J4 N4))) [(0, .ref (q 99))] 35 []) → (∀ (I J4 : Nat → Int) (N4 : Nat → Nat → Int), smI I → I 1 = n → tokOK I → smI J4 → smA N4 → okN J4 N4 → Z.1 = 1 → I 2 = Z.2.2.1 → J4 = Z.2.2.2.1 → N4 = Z.2.2.2.2 → g_G p9 l e9 ({ frames := 10, cells := 0, slots := 0, locals := 233 } : Room) s9 m9 a9 b9 t9 c9 4 D A9 Q9 0 0 ((wText q Y I L) ++ ((wNet q2 Y J N) ++ (wNet q3 Y J4 N4))) [(0, .ref (q 99))] 52 []) → (∀ (I J4 : Nat → Int) (N4 : Nat → Nat → Int), smI I → I 1 = n → tokOK I → smI J4 → smA N4 → okN J4 N4 → Z.1 = 0 → I 3 = Z.2.1 → g_G p9 l e9 ({ frames := 10, cells := 0, slots := 0, locals := 233 } : Room) s9 m9 a9 b9 t9 c9 4 D A9 Q9 0 0 ((wText q Y I L) ++ ((wNet q2 Y J N) ++ (wNet q3 Y J4 N4))) [(0, .ref (q 99))] 74 []) → g_G p9 l e9 ({ frames := 10, cells := 0, slots := 0, locals := 233 } : Room) s9 m9 a9 b9 t9 c9 4 D A9 Q9 0 0 ((wText q Y I L) ++ ((wNet q2 Y J N) ++ (wNet q3 Y J4 N4))) [(3, .int (iI c)), (0, .ref (q 99)), (1, .ref (q2 99)), (2, .ref (q3 99))] 21 [] := by
  have hE := C.2.2.2.2.2.2.2.2.1
  intro n9
  induction n9 with
  | zero =>
    intro c I J4 N4 hc h1c hn9 hsI hT h1n hsJ4 hsN4 hO4 hZ K0 K1 K2
    exfalso
    omega
  | succ n9 ih =>
    intro c I J4 N4 hc h1c hn9 hsI hT h1n hsJ4 hsN4 hO4 hZ K0 K1 K2
    have hI := hsI
    unfold smI at hI
    have hL := hsL
    unfold smL at hL
    have hT9 := hT
    unfold tokOK at hT9
    have h00 : 1 ≤ n9 + 1 := by omega
    refine g_iload_n C (n' := 22) 0 rfl dX4_read_21 rfl rfl ?_
    refine g_bipush C (n' := 24) (by decide) dX4_read_22 rfl ?_
    refine g_icmp_gt C (n' := 27) 89 dX4_read_24 (by decide) rfl (by unfold inR; omega) (by unfold inR; omega) (fun c1 => ?_) (fun c1 => ?_)
    · skip
      exfalso
      omega
    · skip
      refine g_aload_n C (n' := 28) 1 rfl dX4_read_27 rfl rfl ?_
      refine g_aload_n C (n' := 29) 3 rfl dX4_read_28 rfl rfl ?_
      refine g_callV C (n' := 32) (c_X4_readClause l D Y C.2.2.2.2.2.2.2.2.1 q I L q3 J4 N4 e hsI hsL hT hsJ4 hsN4 hO4 hW) 1 kw_265 kc_X4_readClause (by decide +kernel) (((pm_s List.perm_append_comm).trans (pm_s (List.Perm.refl _))).trans (List.Perm.of_eq (show (((wText q Y I L) ++ ((wNet q3 Y J4 N4) ++ (wNet q2 Y J N))) : va_W) = ((wText q Y I L) ++ (wNet q3 Y J4 N4)) ++ (wNet q2 Y J N) by simp only [List.append_assoc, List.append_nil]))) 0 (ci := 3) rfl rfl rfl rfl ⟨Nat.le_of_ble_eq_true rfl, Nat.le_of_ble_eq_true rfl⟩ ⟨rfl, rfl⟩ ⟨Nat.le_of_ble_eq_true rfl, Nat.le_of_ble_eq_true rfl⟩ (Nat.le_of_ble_eq_true rfl) dX4_read_29 rfl (fun r9 w9 hp2 => ?_)
      obtain ⟨I3, rfl, hsI3, htI3, ⟨haI3, hbI3⟩, ⟨hcI3, hdI3⟩, rfl⟩ := hp2
      have hI3 := hsI3
      unfold smI at hI3
      have huI3 := htI3
      unfold tokOK at huI3
      have h01 := rcF_01 L ((I 1)) ((I 3)) ((I 4)) J4 N4
      have hsm := rcF_sm (L := L) (n := I 1) (s := I 3) (e := I 4) hsJ4 hsN4 hO4
      have hok := rcF_ok (L := L) (n := I 1) (s := I 3) (e := I 4) hO4
      rw [← h1n] at hZ
      generalize hX : rcF L ((I 1)) ((I 3)) ((I 4)) J4 N4 = X at h01 hsm hok hZ hcI3 hdI3 ⊢
      refine g_perm (w' := ((wText q Y I3 L) ++ ((wNet q2 Y J N) ++ (wNet q3 Y X.2.2.2.1 X.2.2.2.2)))) (((pm_s List.perm_append_comm).trans (pm_s (List.Perm.refl _))).trans (List.Perm.of_eq (show (((wText q Y I3 L) ++ ((wNet q3 Y X.2.2.2.1 X.2.2.2.2) ++ (wNet q2 Y J N))) : va_W) = ((wText q Y I3 L) ++ (wNet q3 Y X.2.2.2.1 X.2.2.2.2)) ++ (wNet q2 Y J N) by simp only [List.append_assoc, List.append_nil]))).symm ?_
      refine g_st (st' := [.int (iI X.1)]) rfl ?_
      refine g_if_ne C (n' := 35) 40 dX4_read_32 (by decide) rfl (by unfold inR; omega) (fun c4 => ?_) (fun c4 => ?_)
      · skip
        refine g_aload_n C (n' := 41) 1 rfl dX4_read_40 rfl rfl ?_
        refine g_iload_n C (n' := 42) 0 rfl dX4_read_41 rfl rfl ?_
        refine g_put C (n' := 45) (Cn := RX4) (T := TX4) (N := 5) (ci := 3) (v := .int (iI c)) ga_X4 0 rfl rfl 2 (by decide) kw_33 rfl tyX4 tyX4_ok nmX4 rfl rfl rfl rfl (Nat.le_of_ble_eq_true rfl) ((wText q Y (sU I3 2 c) L) ++ ((wNet q2 Y J N) ++ (wNet q3 Y X.2.2.2.1 X.2.2.2.2))) rfl dX4_read_42 rfl ?_
        refine g_aload_n C (n' := 46) 1 rfl dX4_read_45 rfl rfl ?_
        refine g_cVv C (n' := 49) (v := .int (iI (if (I3 1) ≤ (I3 3) then 1 else 0))) (c_X4_isAtEnd l D Y C.2.2.2.2.2.2.2.2.1 q (sU I3 2 c) L (sm_put hsI3 (by omega)) hsL) 0 kw_255 kc_X4_isAtEnd (by decide +kernel) (List.Perm.refl _) 0 (ci := 3) rfl rfl rfl rfl ⟨Nat.le_of_ble_eq_true rfl, Nat.le_of_ble_eq_true rfl⟩ ⟨rfl, rfl⟩ ⟨Nat.le_of_ble_eq_true rfl, Nat.le_of_ble_eq_true rfl⟩ (Nat.le_of_ble_eq_true rfl) dX4_read_46 rfl rfl ((wText q Y (sU I3 2 c) L) ++ ((wNet q2 Y J N) ++ (wNet q3 Y X.2.2.2.1 X.2.2.2.2))) (List.Perm.refl _).symm ?_
        refine g_if_eq C (n' := 52) 54 dX4_read_49 (by decide) rfl bz_r (fun c5 => ?_) (fun c5 => ?_)
        · skip
          replace c5 := bz_eq.mp c5
          refine g_aload_n C (n' := 55) 1 rfl dX4_read_54 rfl rfl ?_
          refine g_get C (n' := 58) (Cn := RX4) (T := TX4) (N := 5) (ci := 3) (v := .ref (q 0)) ga_X4 0 rfl rfl 0 (by decide) kw_31 rfl rfl dX4_read_55 rfl ?_
          refine g_aload_n C (n' := 59) 1 rfl dX4_read_58 rfl rfl ?_
          refine g_get C (n' := 62) (Cn := RX4) (T := TX4) (N := 5) (ci := 3) (v := .int (iI (I3 3))) ga_X4 0 rfl rfl 3 (by decide) kw_34 rfl rfl dX4_read_59 rfl ?_
          have h_59 := hI3 3
          refine g_cald C (n' := 63) (f := L) 1 1 rfl rfl (by omega) (by omega) (by decide) rfl dX4_read_62 rfl ?_
          have h_62 := hL ((I3 3).toNat)
          refine g_bipush C (n' := 65) (by decide) dX4_read_63 rfl ?_
          refine g_icmp_ne C (n' := 68) 74 dX4_read_65 (by decide) rfl (by unfold inR; omega) (by unfold inR; omega) (fun c6 => ?_) (fun c6 => ?_)
          · skip
            refine g_lv [1] rfl ?_
            have hZ1 : Z = rdE (I 1) c X := by
              rw [hZ]
              cases n9 with
              | zero => rfl
              | succ f => rw [show f + 1 + 1 - 1 = f + 1 from rfl, rdG, if_pos (Or.inr (Or.inr (by rw [← hcI3]; exact c6)))]
            exact K2 _ _ _ (sm_put hsI3 (by omega)) (show I3 1 = n from by rw [haI3]; exact h1n) htI3 hsm.1 hsm.2 hok (by rw [hZ1]; show (if X.1 = 0 then _ else if I 1 ≤ X.2.1 then _ else _) = _; rw [if_neg (by omega), if_neg (by omega)]) (by rw [hZ1]; exact hcI3)
          · skip
            refine g_iload_n C (n' := 69) 0 rfl dX4_read_68 rfl rfl ?_
            refine g_bipush C (n' := 71) (by decide) dX4_read_69 rfl ?_
            refine g_icmp_ne C (n' := 74) 79 dX4_read_71 (by decide) rfl (by unfold inR; omega) (by unfold inR; omega) (fun c7 => ?_) (fun c7 => ?_)
            · skip
              refine g_aload_n C (n' := 80) 1 rfl dX4_read_79 rfl rfl ?_
              refine g_cVn C (n' := 83) (c_X4_advance l D Y C.2.2.2.2.2.2.2.2.1 q (sU I3 2 c) L (sm_put hsI3 (by omega)) hsL htI3) 0 kw_251 kc_X4_advance (by decide +kernel) (List.Perm.refl _) 0 (ci := 3) rfl rfl rfl rfl ⟨Nat.le_of_ble_eq_true rfl, Nat.le_of_ble_eq_true rfl⟩ ⟨rfl, rfl⟩ ⟨Nat.le_of_ble_eq_true rfl, Nat.le_of_ble_eq_true rfl⟩ (Nat.le_of_ble_eq_true rfl) dX4_read_80 rfl rfl ((wText q Y (t_adv (sU I3 2 c) L) L) ++ ((wNet q2 Y J N) ++ (wNet q3 Y X.2.2.2.1 X.2.2.2.2))) (List.Perm.refl _).symm ?_
              have hf8 : tokOK (t_adv (sU I3 2 c) L) := t_adv_ok htI3
              have hf9 : smI (t_adv (sU I3 2 c) L) := t_adv_sm (sm_put hsI3 (by omega)) htI3
              refine g_iinc C (n' := 86) 0 [(3, .int (iI (c + 1))), (0, .ref (q 99)), (1, .ref (q2 99)), (2, .ref (q3 99))] rfl dX4_read_83 rfl (by decide) rfl ?_
              refine g_goto C 21 dX4_read_86 (by decide) ?_
              obtain ⟨f, rfl⟩ : ∃ f, n9 = f + 1 := ⟨n9 - 1, by omega⟩
              have hZ2 : Z = rdG L (I 1) f (c + 1) (rcF L (I 1) (tk1 L (I 1) X.2.2.1) (tk2 L (I 1) X.2.2.1) X.2.2.2.1 X.2.2.2.2) := by
                rw [hZ, show f + 1 + 1 - 1 = f + 1 from rfl, rdG, if_neg (by
                  intro z
                  rcases z with z | z | z
                  · omega
                  · omega
                  · rw [← hcI3] at z
                    exact c6 z)]
              refine g_lv (lv' := [(3, .int (iI (c + 1))), (0, .ref (q 99)), (1, .ref (q2 99)), (2, .ref (q3 99))]) [0, 1, 2, 3] rfl ?_
              exact ih (c + 1) _ _ _ (by omega) (by omega) (by omega) (hf9) (hf8) (show I3 1 = n from by rw [haI3]; exact h1n) hsm.1 hsm.2 hok (by rw [hZ2, ← h1n]; show rdG L (I 1) f (c + 1) (rcF L (I 1) (tk1 L (I 1) X.2.2.1) _ _ _) = rdG L (I 1) f (c + 1) (rcF L (I 1) (tk1 L (I3 1) (I3 4)) (tk2 L (I3 1) (I3 4)) _ _); rw [haI3, hdI3]) K0 K1 K2
            · skip
              refine g_lv [1] rfl ?_
              have hZ1 : Z = rdE (I 1) c X := by
                rw [hZ]
                cases n9 with
                | zero => rfl
                | succ f => exfalso; omega
              exact K2 _ _ _ (sm_put hsI3 (by omega)) (show I3 1 = n from by rw [haI3]; exact h1n) htI3 hsm.1 hsm.2 hok (by rw [hZ1]; show (if X.1 = 0 then _ else if I 1 ≤ X.2.1 then _ else _) = _; rw [if_neg (by omega), if_neg (by omega)]) (by rw [hZ1]; exact hcI3)
        · skip
          replace c5 := bz_neq.mp c5
          refine g_lv [1] rfl ?_
          have hZ1 : Z = rdE (I 1) c X := by
            rw [hZ]
            cases n9 with
            | zero => rfl
            | succ f => rw [show f + 1 + 1 - 1 = f + 1 from rfl, rdG, if_pos (Or.inr (Or.inl (by omega)))]
          exact K1 _ _ _ (sm_put hsI3 (by omega)) (show I3 1 = n from by rw [haI3]; exact h1n) htI3 hsm.1 hsm.2 hok (by rw [hZ1]; show (if X.1 = 0 then _ else if I 1 ≤ X.2.1 then _ else _) = _; rw [if_neg (by omega), if_pos (by omega)]) (by rw [hZ1]; rfl) (by rw [hZ1]; rfl) (by rw [hZ1]; rfl)
      · skip
        refine g_lv [1] rfl ?_
        have hZ1 : Z = rdE (I 1) c X := by
          rw [hZ]
          cases n9 with
          | zero => rfl
          | succ f => rw [show f + 1 + 1 - 1 = f + 1 from rfl, rdG, if_pos (Or.inl (by omega))]
        exact K0 I3 _ _ hsI3 (by rw [haI3]; exact h1n) htI3 hsm.1 hsm.2 hok (by rw [hZ1]; show (if X.1 = 0 then _ else _) = _; rw [if_pos (by omega)]) (by rw [hZ1]; exact hcI3)
set_option maxRecDepth 100000 in
set_option maxHeartbeats 4000000 in
theorem c_X4_read (l : Launch) (D : va_G) (Y : Nat → ClassId) {E : (Nat → Prop) → State → Heap → Prop} (hE : g_Stab E) (q : Nat → Nat) (I : Nat → Int) (L : Nat → Int) (q2 : Nat → Nat) (J : Nat → Int) (N : Nat → Nat → Int) (q3 : Nat → Nat) (J3 : Nat → Int) (N3 : Nat → Nat → Int) (e : Nat → Nat) (hsI : smI I) (hsL : smL L) (h1 : 0 ≤ I 1 ∧ I 1 ≤ 200) (hsJ : smI J) (hsN : smA N) (hO : okN J N) (hsJ3 : smI J3) (hsN3 : smA N3) (hW : g_Env E e) : g_Ct l yX4_read cX4_read 4 (some FieldType.int) ({ frames := 10, cells := 0, slots := 0, locals := 233 } : Room) D (tysY Y) E [.ref (q 99), .ref (q2 99), .ref (q3 99)] ((wText q Y I L) ++ ((wNet q2 Y J N) ++ (wNet q3 Y J3 N3))) 0 0 (fun r9 w9 => ∃ (I1 J1 : Nat → Int) (N1 : Nat → Nat → Int), w9 = (wText q Y I1 L ++ (wNet q2 Y J N ++ wNet q3 Y J1 N1)) ∧ (smI I1 ∧ I1 1 = I 1) ∧ (smI J1 ∧ smA N1 ∧ okN J1 N1) ∧ (((rdA L (I 1) (n_cpI J3 J) (n_cpA N3 N)).1 = 0 ∧ r9 = some (.int (iI (rdA L (I 1) (n_cpI J3 J) (n_cpA N3 N)).2.1))) ∨ ((rdA L (I 1) (n_cpI J3 J) (n_cpA N3 N)).1 = 1 ∧ r9 = some (.int (iI (-1))) ∧ I1 2 = (rdA L (I 1) (n_cpI J3 J) (n_cpA N3 N)).2.2.1 ∧ J1 = (rdA L (I 1) (n_cpI J3 J) (n_cpA N3 N)).2.2.2.1 ∧ N1 = (rdA L (I 1) (n_cpI J3 J) (n_cpA N3 N)).2.2.2.2))) := by
  refine g_ofG (own := RX4) hE (by decide) rfl (Nat.le_of_ble_eq_true rfl) [(0, .ref (q 99)), (1, .ref (q2 99)), (2, .ref (q3 99))] rfl ?_
  intro p9 e9 s9 m9 b9 t9 c9 A9 C hr hlk hnm
  have hI := hsI
  have hL := hsL
  unfold smI at hI
  unfold smL at hL
  refine g_aload_n C (n' := 1) 2 rfl dX4_read_0 rfl rfl ?_
  refine g_aload_n C (n' := 2) 1 rfl dX4_read_1 rfl rfl ?_
  refine g_cVn C (n' := 5) (c_X2_copyFrom l D Y C.2.2.2.2.2.2.2.2.1 q3 J3 N3 q2 J N) 1 kw_244 kc_X2_copyFrom (by decide +kernel) (((pm_s (List.Perm.refl _)).trans (pm_s List.perm_append_comm)).trans (List.Perm.of_eq (show (((wNet q3 Y J3 N3) ++ ((wNet q2 Y J N) ++ (wText q Y I L))) : va_W) = ((wNet q3 Y J3 N3) ++ (wNet q2 Y J N)) ++ (wText q Y I L) by simp only [List.append_assoc, List.append_nil]))) 0 (ci := 1) rfl rfl rfl rfl ⟨Nat.le_of_ble_eq_true rfl, Nat.le_of_ble_eq_true rfl⟩ ⟨rfl, rfl⟩ ⟨Nat.le_of_ble_eq_true rfl, Nat.le_of_ble_eq_true rfl⟩ (Nat.le_of_ble_eq_true rfl) dX4_read_2 rfl rfl ((wText q Y I L) ++ ((wNet q2 Y J N) ++ (wNet q3 Y (n_cpI J3 J) (n_cpA N3 N)))) (((pm_s (List.Perm.refl _)).trans (pm_s List.perm_append_comm)).trans (List.Perm.of_eq (show (((wNet q3 Y (n_cpI J3 J) (n_cpA N3 N)) ++ ((wNet q2 Y J N) ++ (wText q Y I L))) : va_W) = ((wNet q3 Y (n_cpI J3 J) (n_cpA N3 N)) ++ (wNet q2 Y J N)) ++ (wText q Y I L) by simp only [List.append_assoc, List.append_nil]))).symm ?_
  refine g_aload_n C (n' := 6) 0 rfl dX4_read_5 rfl rfl ?_
  refine g_iconst C (n' := 7) dX4_read_6 rfl ?_
  refine g_put C (n' := 10) (Cn := RX4) (T := TX4) (N := 5) (ci := 3) (v := .int (iI 0)) ga_X4 0 rfl rfl 2 (by decide) kw_33 rfl tyX4 tyX4_ok nmX4 rfl rfl rfl rfl (Nat.le_of_ble_eq_true rfl) ((wText q Y (sU I 2 0) L) ++ ((wNet q2 Y J N) ++ (wNet q3 Y (n_cpI J3 J) (n_cpA N3 N)))) rfl dX4_read_7 rfl ?_
  refine g_aload_n C (n' := 11) 0 rfl dX4_read_10 rfl rfl ?_
  refine g_iconst C (n' := 12) dX4_read_11 rfl ?_
  refine g_put C (n' := 15) (Cn := RX4) (T := TX4) (N := 5) (ci := 3) (v := .int (iI 0)) ga_X4 0 rfl rfl 4 (by decide) kw_35 rfl tyX4 tyX4_ok nmX4 rfl rfl rfl rfl (Nat.le_of_ble_eq_true rfl) ((wText q Y (sU (sU I 2 0) 4 0) L) ++ ((wNet q2 Y J N) ++ (wNet q3 Y (n_cpI J3 J) (n_cpA N3 N)))) rfl dX4_read_12 rfl ?_
  refine g_aload_n C (n' := 16) 0 rfl dX4_read_15 rfl rfl ?_
  refine g_cVn C (n' := 19) (c_X4_advance_w l D Y C.2.2.2.2.2.2.2.2.1 q (sU (sU I 2 0) 4 0) L (sm_put (sm_put hsI (by omega)) (by omega)) hsL (show tokW (sU (sU I 2 0) 4 0) from ⟨Int.le_refl _, by show (0 : Int) ≤ 200; omega, h1.1, h1.2⟩)) 0 kw_251 kc_X4_advance (by decide +kernel) (List.Perm.refl _) 0 (ci := 3) rfl rfl rfl rfl ⟨Nat.le_of_ble_eq_true rfl, Nat.le_of_ble_eq_true rfl⟩ ⟨rfl, rfl⟩ ⟨Nat.le_of_ble_eq_true rfl, Nat.le_of_ble_eq_true rfl⟩ (Nat.le_of_ble_eq_true rfl) dX4_read_16 rfl rfl ((wText q Y (t_adv (sU (sU I 2 0) 4 0) L) L) ++ ((wNet q2 Y J N) ++ (wNet q3 Y (n_cpI J3 J) (n_cpA N3 N)))) (List.Perm.refl _).symm ?_
  have hf1 : tokOK (t_adv (sU (sU I 2 0) 4 0) L) := t_adv_okW (show tokW (sU (sU I 2 0) 4 0) from ⟨Int.le_refl _, by show (0 : Int) ≤ 200; omega, h1.1, h1.2⟩)
  have hf2 : smI (t_adv (sU (sU I 2 0) 4 0) L) := t_adv_smW (sm_put (sm_put hsI (by omega)) (by omega)) (show tokW (sU (sU I 2 0) 4 0) from ⟨Int.le_refl _, by show (0 : Int) ≤ 200; omega, h1.1, h1.2⟩)
  refine g_iconst C (n' := 20) dX4_read_19 rfl ?_
  refine g_istore_n C (n' := 21) [(3, .int (iI 1)), (0, .ref (q 99)), (1, .ref (q2 99)), (2, .ref (q3 99))] dX4_read_20 rfl rfl (by decide) rfl ?_
  have hE9 : tokOK (t_adv (sU (sU I 2 0) 4 0) L) := hf1
  refine g_lv (lv' := [(3, .int (iI 1)), (0, .ref (q 99)), (1, .ref (q2 99)), (2, .ref (q3 99))]) [0, 1, 2, 3] rfl ?_
  refine lp_X4_rd C q q2 q3 L J N e (I 1) (rdA L (I 1) (n_cpI J3 J) (n_cpA N3 N)) hsL hsJ hsN hW 24 1 _ _ _ (by omega) (by omega) (by omega) hf2 hE9 rfl (sm_cpI hsJ3 hsJ) (sm_cpA hsN3 hsN) (okN_cp hO) rfl (fun I4 J4 N4 hI4 h41 ht4 hsJ4 hsN4 hO4 hz1 hz2 => ?_) (fun I4 J4 N4 hI4 h41 ht4 hsJ4 hsN4 hO4 hz1 hz2 hz3 hz4 => ?_) (fun I4 J4 N4 hI4 h41 ht4 hsJ4 hsN4 hO4 hz1 hz2 => ?_)
  · skip
    refine g_aload_n C (n' := 36) 0 rfl dX4_read_35 rfl rfl ?_
    refine g_get C (n' := 39) (Cn := RX4) (T := TX4) (N := 5) (ci := 3) (v := .int (iI (I4 3))) ga_X4 0 rfl rfl 3 (by decide) kw_34 rfl rfl dX4_read_36 rfl ?_
    have h_36 := hI4 3
    exact g_iret C hr hlk rfl ⟨I4, J4, N4, rfl, ⟨hI4, h41⟩, ⟨hsJ4, hsN4, hO4⟩, Or.inl ⟨hz1, by rw [hz2]⟩⟩ dX4_read_39
  · skip
    refine g_iconst C (n' := 53) dX4_read_52 rfl ?_
    exact g_iret C hr hlk rfl ⟨I4, J4, N4, rfl, ⟨hI4, h41⟩, ⟨hsJ4, hsN4, hO4⟩, Or.inr ⟨hz1, rfl, hz2, hz3, hz4⟩⟩ dX4_read_53
  · skip
    refine g_aload_n C (n' := 75) 0 rfl dX4_read_74 rfl rfl ?_
    refine g_get C (n' := 78) (Cn := RX4) (T := TX4) (N := 5) (ci := 3) (v := .int (iI (I4 3))) ga_X4 0 rfl rfl 3 (by decide) kw_34 rfl rfl dX4_read_75 rfl ?_
    have h_75 := hI4 3
    exact g_iret C hr hlk rfl ⟨I4, J4, N4, rfl, ⟨hI4, h41⟩, ⟨hsJ4, hsN4, hO4⟩, Or.inl ⟨hz1, by rw [hz2]⟩⟩ dX4_read_78
