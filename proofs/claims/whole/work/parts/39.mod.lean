/-! the reference: goOn, cycle -/
def kpB (A A1 : Nat → Nat → Int) : Prop := ∀ s, s < 29 → A1 s = A s
def kpI (I I1 : Nat → Int) : Prop := ∀ k, k ≠ 34 → I1 k = I k
theorem kpB_of {A A1 : Nat → Nat → Int} (h : kpA A A1) : kpB A A1 := fun s hs => h s (by omega) (by omega) (by omega)
theorem kpB_trans {A A1 A2 : Nat → Nat → Int} (h1 : kpB A A1) (h2 : kpB A1 A2) : kpB A A2 := fun s a => (h2 s a).trans (h1 s a)
theorem kpI_refl (I : Nat → Int) : kpI I I := fun _ _ => rfl
theorem kpI_put (I : Nat → Int) (v : Int) : kpI I (sU I 34 v) := fun _ h => sU_n _ _ h
theorem kpB_put {A : Nat → Nat → Int} {s : Nat} (f : Nat → Int) (h : 29 ≤ s) : kpB A (sU A s f) := fun k hk => sU_n _ _ (by omega)
theorem kpA_low {I : Nat → Int} {A A1 : Nat → Nat → Int} (h : kpA A A1) : m_low I A1 = m_low I A := by
  have e0 := h 0 (by omega) (by omega) (by omega)
  have e1 : m_lt I A1 = m_lt I A := by funext u g k; unfold m_lt; rw [e0]
  have e2 : m_so I A1 = m_so I A := by funext g k; unfold m_so; rw [e0]
  unfold m_low
  rw [e1, e2, e0, h 3 (by omega) (by omega) (by omega), h 4 (by omega) (by omega) (by omega), h 32 (by omega) (by omega) (by omega)]
def rg_get (t : Option (List Int)) (k : Int) : Int := match t with
  | none => -1
  | some r => if k < (r.length : Int) then r.getD k.toNat 0 else -1
theorem rg_at_dl {R : Nat → Int} {r : List Int} (h : rg_at R r) : rg_at R r.dropLast := fun k hk => by
  rw [List.length_dropLast] at hk
  rw [h k (by omega)]
  simp only [List.getD_eq_getElem?_getD]
  rw [List.getElem?_dropLast, if_pos (by omega)]
set_option maxRecDepth 100000 in
set_option maxHeartbeats 4000000 in
theorem lp_X8_go {p9 : Program} {l : Launch} {e9 : Env} {s9 : State} {m9 : MethodId} {a9 : Array Value} {b9 : List Frame} {t9 : Method} {c9 : Code} {D : va_G} {A9 : Nat → Prop} {Q9 : State → Prop} {E : (Nat → Prop) → State → Heap → Prop} {Y : Nat → ClassId} (C : g_Cx p9 s9 m9 a9 c9 cX8_goOn 2 RX8 D (tysY Y) A9 E) (q : Nat → Nat) (I : Nat → Int) (A : Nat → Nat → Int) (F : Nat → UInt32) (Dd : Nat → UInt64) (hsI : smI I) (hsA : smA A) (hN : okN (mJ I A) (mN A)) : ∀ (n9 : Nat) (r1 : List Int) (v : Int), r1.length ≤ n9 → rg_at (A 33) r1 → rg_G (I 1) r1 → (v = -1 ∨ (0 ≤ v ∧ v < 8 ∧ rg_G (I 1) (r1 ++ [v]))) → (∀ R : Nat → Int, smR R → rg_at R (if v = -1 then rg_pop (I 1) r1.length r1 else r1 ++ [v]) → g_G p9 l e9 ({ frames := 2, cells := 0, slots := 0, locals := 45 } : Room) s9 m9 a9 b9 t9 c9 2 D A9 Q9 0 0 (wMod q Y (sU I 34 (((if v = -1 then rg_pop (I 1) r1.length r1 else r1 ++ [v]).length : Nat) : Int)) (sU A 33 R) F Dd) [(0, .ref (q 99))] 108 []) → g_G p9 l e9 ({ frames := 2, cells := 0, slots := 0, locals := 45 } : Room) s9 m9 a9 b9 t9 c9 2 D A9 Q9 0 0 (wMod q Y (sU I 34 ((r1.length : Nat) : Int)) A F Dd) [(1, .int (iI v)), (0, .ref (q 99))] 6 [] := by
  have hE := C.2.2.2.2.2.2.2.2.1
  intro n9
  induction n9 with
  | zero =>
    intro r1 v hn hr9 hG hv K
    have := hG.1
    omega
  | succ n9 ih =>
    intro r1 v hn hr9 hG hv K
    have hI := hsI
    have hA := hsA
    unfold smI at hI
    unfold smA at hA
    have hN9 := hN
    unfold okN at hN9
    simp only [mJ, mN] at hN9
    have hG1 := hG.1
    have hG2 := hG.2.1
    have hF9 := rg_at_f hr9 hG1
    have hFm := hG.2.2.2.1 _ (rg_f_mem hG1)
    rw [← hF9] at hFm
    refine g_iload_n C (n' := 7) 0 rfl dX8_goOn_6 rfl rfl ?_
    refine g_iconst C (n' := 8) dX8_goOn_7 rfl ?_
    refine g_icmp_ne C (n' := 11) 48 dX8_goOn_8 (by decide) rfl (by unfold inR; omega) (by unfold inR; omega) (fun c1 => ?_) (fun c1 => ?_)
    · skip
      refine g_iload_n C (n' := 49) 0 rfl dX8_goOn_48 rfl rfl ?_
      refine g_iconst C (n' := 50) dX8_goOn_49 rfl ?_
      refine g_icmp_ne C (n' := 53) 88 dX8_goOn_50 (by decide) rfl (by unfold inR; omega) (by unfold inR; omega) (fun c2 => ?_) (fun c2 => ?_)
      · skip
        have h88 := (hv.resolve_left (by omega)).2.2.2.1
        rw [List.length_append, show ([v] : List Int).length = 1 from rfl] at h88
        refine g_aload_n C (n' := 89) 1 rfl dX8_goOn_88 rfl rfl ?_
        refine g_get C (n' := 92) (Cn := RX8) (T := TX8) (N := 35) (ci := 6) (v := .ref (q 33)) ga_X8 0 rfl rfl 33 (by decide) kw_723 rfl rfl dX8_goOn_89 rfl ?_
        refine g_aload_n C (n' := 93) 1 rfl dX8_goOn_92 rfl rfl ?_
        refine g_get C (n' := 96) (Cn := RX8) (T := TX8) (N := 35) (ci := 6) (v := .int (iI ((r1.length : Nat) : Int))) ga_X8 0 rfl rfl 34 (by decide) kw_724 rfl rfl dX8_goOn_93 rfl ?_
        refine g_iload_n C (n' := 97) 0 rfl dX8_goOn_96 rfl rfl ?_
        refine g_iastN C (n' := 98) (f := (A 33)) (j := r1.length) 21 0 rfl rfl (by omega) (by decide) rfl dX8_goOn_97 rfl (wMod q Y (sU I 34 ((r1.length : Nat) : Int)) (sU A 33 (sU (A 33) r1.length v)) F Dd) rfl ?_
        refine g_aload_n C (n' := 99) 1 rfl dX8_goOn_98 rfl rfl ?_
        refine g_dup C (n' := 100) rfl dX8_goOn_99 rfl ?_
        refine g_get C (n' := 103) (Cn := RX8) (T := TX8) (N := 35) (ci := 6) (v := .int (iI ((r1.length : Nat) : Int))) ga_X8 0 rfl rfl 34 (by decide) kw_724 rfl rfl dX8_goOn_100 rfl ?_
        refine g_iconst C (n' := 104) dX8_goOn_103 rfl ?_
        refine g_iadd C (n' := 105) dX8_goOn_104 rfl ?_
        refine g_put C (n' := 108) (Cn := RX8) (T := TX8) (N := 35) (ci := 6) (v := .int (iI (((r1.length : Nat) : Int) + 1))) ga_X8 0 rfl rfl 34 (by decide) kw_724 rfl tyX8 tyX8_ok nmX8 rfl rfl rfl rfl (Nat.le_of_ble_eq_true rfl) (wMod q Y (sU I 34 (((r1.length : Nat) : Int) + 1)) (sU A 33 (sU (A 33) r1.length v)) F Dd) rfl dX8_goOn_105 rfl ?_
        have e9 : (if v = -1 then rg_pop (I 1) r1.length r1 else r1 ++ [v]) = r1 ++ [v] := if_neg (by omega)
        rw [e9] at K
        refine g_lv [1] rfl ?_
        refine g_wd (w' := (wMod q Y (sU I 34 (((r1 ++ [v]).length : Nat) : Int)) (sU A 33 (sU (A 33) r1.length v)) F Dd)) (by rw [List.length_append]; rfl) ?_
        exact K _ (sm_putR (hsA 33) (by omega)) (rg_at_app hr9 v)
      · skip
        exfalso
        omega
    · skip
      refine g_aload_n C (n' := 12) 1 rfl dX8_goOn_11 rfl rfl ?_
      refine g_get C (n' := 15) (Cn := RX8) (T := TX8) (N := 35) (ci := 6) (v := .int (iI ((r1.length : Nat) : Int))) ga_X8 0 rfl rfl 34 (by decide) kw_724 rfl rfl dX8_goOn_12 rfl ?_
      refine g_iconst C (n' := 16) dX8_goOn_15 rfl ?_
      refine g_icmp_le C (n' := 19) 48 dX8_goOn_16 (by decide) rfl (by unfold inR; omega) (by unfold inR; omega) (fun c3 => ?_) (fun c3 => ?_)
      · skip
        refine g_iload_n C (n' := 49) 0 rfl dX8_goOn_48 rfl rfl ?_
        refine g_iconst C (n' := 50) dX8_goOn_49 rfl ?_
        refine g_icmp_ne C (n' := 53) 88 dX8_goOn_50 (by decide) rfl (by unfold inR; omega) (by unfold inR; omega) (fun c4 => ?_) (fun c4 => ?_)
        · skip
          exfalso
          omega
        · skip
          refine g_aload_n C (n' := 54) 1 rfl dX8_goOn_53 rfl rfl ?_
          refine g_get C (n' := 57) (Cn := RX8) (T := TX8) (N := 35) (ci := 6) (v := .ref (q 33)) ga_X8 0 rfl rfl 33 (by decide) kw_723 rfl rfl dX8_goOn_54 rfl ?_
          refine g_iconst C (n' := 58) dX8_goOn_57 rfl ?_
          refine g_dup2 C (n' := 59) rfl rfl dX8_goOn_58 rfl ?_
          refine g_ialdN C (n' := 60) (f := (A 33)) (j := 0) 21 0 rfl rfl (by omega) (by decide) rfl dX8_goOn_59 rfl ?_
          have h_59 := hA 33 0
          refine g_iconst C (n' := 61) dX8_goOn_60 rfl ?_
          refine g_iadd C (n' := 62) dX8_goOn_61 rfl ?_
          refine g_iastN C (n' := 63) (f := (A 33)) (j := 0) 21 0 rfl rfl (by omega) (by decide) rfl dX8_goOn_62 rfl (wMod q Y (sU I 34 ((r1.length : Nat) : Int)) (sU A 33 (sU (A 33) 0 (((A 33) 0) + 1))) F Dd) rfl ?_
          refine g_aload_n C (n' := 64) 1 rfl dX8_goOn_63 rfl rfl ?_
          refine g_aload_n C (n' := 65) 1 rfl dX8_goOn_64 rfl rfl ?_
          refine g_get C (n' := 68) (Cn := RX8) (T := TX8) (N := 35) (ci := 6) (v := .ref (q 33)) ga_X8 0 rfl rfl 33 (by decide) kw_723 rfl rfl dX8_goOn_65 rfl ?_
          refine g_iconst C (n' := 69) dX8_goOn_68 rfl ?_
          refine g_ialdN C (n' := 70) (f := (sU (A 33) 0 (((A 33) 0) + 1))) (j := 0) 21 0 rfl rfl (by omega) (by decide) rfl dX8_goOn_69 rfl ?_
          refine g_st (st' := [.int (iI (((A 33) 0) + 1)), .ref (q 99)]) rfl ?_
          refine g_aload_n C (n' := 71) 1 rfl dX8_goOn_70 rfl rfl ?_
          refine g_get C (n' := 74) (Cn := RX8) (T := TX8) (N := 35) (ci := 6) (v := .int (iI (I 1))) ga_X8 0 rfl rfl 1 (by decide) kw_691 rfl rfl dX8_goOn_71 rfl ?_
          have h_71 := hI 1
          have e74 : (sU (A 33) 0 (A 33 0 + 1)) 0 = A 33 0 + 1 := rfl
          refine g_icmp_ge C (n' := 77) 81 dX8_goOn_74 (by decide) rfl (by unfold inR; omega) (by unfold inR; omega) (fun c5 => ?_) (fun c5 => ?_)
          · skip
            refine g_iconst C (n' := 82) dX8_goOn_81 rfl ?_
            refine g_put C (n' := 85) (Cn := RX8) (T := TX8) (N := 35) (ci := 6) (v := .int (iI 0)) ga_X8 0 rfl rfl 34 (by decide) kw_724 rfl tyX8 tyX8_ok nmX8 rfl rfl rfl rfl (Nat.le_of_ble_eq_true rfl) (wMod q Y (sU I 34 0) (sU A 33 (sU (A 33) 0 (((A 33) 0) + 1))) F Dd) rfl dX8_goOn_82 rfl ?_
            refine g_goto C 108 dX8_goOn_85 (by decide) ?_
            have hc : r1.length = 0 + 1 := by omega
            have e9 : (if v = -1 then rg_pop (I 1) r1.length r1 else r1 ++ [v]) = [] := by
              rw [if_pos (by omega), hc, rg_pop, if_neg (by omega), if_neg (by omega)]
            rw [e9] at K
            refine g_lv [1] rfl ?_
            exact K _ (sm_putR (hsA 33) (by omega)) (fun k hk => absurd hk (Nat.not_lt_zero k))
          · skip
            refine g_iconst C (n' := 78) dX8_goOn_77 rfl ?_
            refine g_goto C 82 dX8_goOn_78 (by decide) ?_
            refine g_put C (n' := 85) (Cn := RX8) (T := TX8) (N := 35) (ci := 6) (v := .int (iI 1)) ga_X8 0 rfl rfl 34 (by decide) kw_724 rfl tyX8 tyX8_ok nmX8 rfl rfl rfl rfl (Nat.le_of_ble_eq_true rfl) (wMod q Y (sU I 34 1) (sU A 33 (sU (A 33) 0 (((A 33) 0) + 1))) F Dd) rfl dX8_goOn_82 rfl ?_
            refine g_goto C 108 dX8_goOn_85 (by decide) ?_
            have hc : r1.length = 0 + 1 := by omega
            have e9 : (if v = -1 then rg_pop (I 1) r1.length r1 else r1 ++ [v]) = [rg_f r1 + 1] := by
              rw [if_pos (by omega), hc, rg_pop, if_neg (by omega), if_pos (by omega)]
            rw [e9] at K
            refine g_lv [1] rfl ?_
            exact K _ (sm_putR (hsA 33) (by omega)) (by rw [← hF9]; exact rg_one _)
      · skip
        refine g_aload_n C (n' := 20) 1 rfl dX8_goOn_19 rfl rfl ?_
        refine g_dup C (n' := 21) rfl dX8_goOn_20 rfl ?_
        refine g_get C (n' := 24) (Cn := RX8) (T := TX8) (N := 35) (ci := 6) (v := .int (iI ((r1.length : Nat) : Int))) ga_X8 0 rfl rfl 34 (by decide) kw_724 rfl rfl dX8_goOn_21 rfl ?_
        refine g_iconst C (n' := 25) dX8_goOn_24 rfl ?_
        refine g_isub C (n' := 26) dX8_goOn_25 rfl ?_
        refine g_put C (n' := 29) (Cn := RX8) (T := TX8) (N := 35) (ci := 6) (v := .int (iI (((r1.length : Nat) : Int) - 1))) ga_X8 0 rfl rfl 34 (by decide) kw_724 rfl tyX8 tyX8_ok nmX8 rfl rfl rfl rfl (Nat.le_of_ble_eq_true rfl) (wMod q Y (sU I 34 (((r1.length : Nat) : Int) - 1)) A F Dd) rfl dX8_goOn_26 rfl ?_
        have hd9 : r1.dropLast.length = r1.length - 1 := List.length_dropLast
        have hGd := rg_G_dl hG (by omega)
        have hrd : rg_at (A 33) r1.dropLast := rg_at_dl hr9
        have hlr : A 33 r1.dropLast.length = rg_l r1 := by rw [hd9]; exact rg_at_l hr9 hG1
        have hlm := hG.2.2.2.1 _ (rg_l_mem hG1)
        rw [show (((r1.length : Nat) : Int) - 1) = ((r1.dropLast.length : Nat) : Int) by omega]
        refine g_aload_n C (n' := 30) 1 rfl dX8_goOn_29 rfl rfl ?_
        refine g_aload_n C (n' := 31) 1 rfl dX8_goOn_30 rfl rfl ?_
        refine g_get C (n' := 34) (Cn := RX8) (T := TX8) (N := 35) (ci := 6) (v := .ref (q 33)) ga_X8 0 rfl rfl 33 (by decide) kw_723 rfl rfl dX8_goOn_31 rfl ?_
        refine g_aload_n C (n' := 35) 1 rfl dX8_goOn_34 rfl rfl ?_
        refine g_get C (n' := 38) (Cn := RX8) (T := TX8) (N := 35) (ci := 6) (v := .int (iI ((r1.dropLast.length : Nat) : Int))) ga_X8 0 rfl rfl 34 (by decide) kw_724 rfl rfl dX8_goOn_35 rfl ?_
        have h38 := hA 33 r1.dropLast.length
        refine g_ialdN C (n' := 39) (f := (A 33)) (j := r1.dropLast.length) 21 0 rfl rfl (by omega) (by decide) rfl dX8_goOn_38 rfl ?_
        have h_38 := hA 33 r1.dropLast.length
        refine g_iconst C (n' := 40) dX8_goOn_39 rfl ?_
        refine g_iadd C (n' := 41) dX8_goOn_40 rfl ?_
        refine g_cVv C (n' := 44) (v := .int (iI (rg_nx r1.dropLast ((I 1) - (((A 33) r1.dropLast.length) + 1)).toNat (((A 33) r1.dropLast.length) + 1)))) (c_X8_nextFrom l D Y C.2.2.2.2.2.2.2.2.1 q (sU I 34 ((r1.dropLast.length : Nat) : Int)) A F Dd (((A 33) r1.dropLast.length) + 1) r1.dropLast (sm_put hsI (by omega)) hsA hN hrd rfl hGd (by show 0 ≤ A 33 r1.dropLast.length + 1 ∧ A 33 r1.dropLast.length + 1 ≤ I 1; omega)) 1 kw_973 kc_X8_nextFrom (by decide +kernel) (pm0 _) 0 (ci := 6) rfl rfl rfl rfl ⟨Nat.le_of_ble_eq_true rfl, Nat.le_of_ble_eq_true rfl⟩ ⟨rfl, rfl⟩ ⟨Nat.le_of_ble_eq_true rfl, Nat.le_of_ble_eq_true rfl⟩ (Nat.le_of_ble_eq_true rfl) dX8_goOn_41 rfl rfl (wMod q Y (sU I 34 ((r1.dropLast.length : Nat) : Int)) A F Dd) (pm0' _) ?_
        refine g_istore_n C (n' := 45) [(1, .int (iI (rg_nx r1.dropLast ((I 1) - (((A 33) r1.dropLast.length) + 1)).toNat (((A 33) r1.dropLast.length) + 1)))), (0, .ref (q 99))] dX8_goOn_44 rfl rfl (by decide) rfl ?_
        refine g_goto C 6 dX8_goOn_45 (by decide) ?_
        have hnr := rg_nx_r (r := r1.dropLast) (n := I 1) (I 1 - (rg_l r1 + 1)).toNat (rg_l r1 + 1) (by omega)
        rw [← hlr] at hnr
        have hc : r1.length = r1.dropLast.length + 1 := by omega
        have e9 : (if v = -1 then rg_pop (I 1) r1.length r1 else r1 ++ [v]) = (if (rg_nx r1.dropLast ((I 1) - (((A 33) r1.dropLast.length) + 1)).toNat (((A 33) r1.dropLast.length) + 1)) = -1 then rg_pop (I 1) r1.dropLast.length r1.dropLast else r1.dropLast ++ [(rg_nx r1.dropLast ((I 1) - (((A 33) r1.dropLast.length) + 1)).toNat (((A 33) r1.dropLast.length) + 1))]) := by
          rw [if_pos (by omega), hc, rg_pop, if_pos (by omega), hlr]
        rw [e9] at K
        refine g_lv (lv' := [(1, .int (iI (rg_nx r1.dropLast ((I 1) - (((A 33) r1.dropLast.length) + 1)).toNat (((A 33) r1.dropLast.length) + 1)))), (0, .ref (q 99))]) [0, 1] rfl ?_
        refine ih r1.dropLast _ (by omega) hrd hGd ?_ K
        rcases hnr with e | ⟨e1, e2, e3⟩
        · exact Or.inl e
        · exact Or.inr ⟨by omega, by omega, rg_G_app hGd (by omega) (by omega) e2 e3⟩
set_option maxRecDepth 100000 in
set_option maxHeartbeats 4000000 in
theorem c_X8_goOn (l : Launch) (D : va_G) (Y : Nat → ClassId) {E : (Nat → Prop) → State → Heap → Prop} (hE : g_Stab E) (q : Nat → Nat) (I : Nat → Int) (A : Nat → Nat → Int) (F : Nat → UInt32) (Dd : Nat → UInt64) (r : List Int) (hsI : smI I) (hsA : smA A) (hN : okN (mJ I A) (mN A)) (hr9 : rg_at (A 33) r) (hm : I 34 = (r.length : Int)) (hG : rg_G (I 1) r) : g_Ct l yX8_goOn cX8_goOn 2 none ({ frames := 2, cells := 0, slots := 0, locals := 45 } : Room) D (tysY Y) E [.ref (q 99)] (wMod q Y I A F Dd) 0 0 (fun r9 w9 => r9 = none ∧ ∃ R : Nat → Int, smR R ∧ rg_at R (rg_next (I 1) r) ∧ w9 = wMod q Y (sU I 34 ((rg_next (I 1) r).length : Int)) (sU A 33 R) F Dd) := by
  refine g_ofG (own := RX8) hE (by decide) rfl (Nat.le_of_ble_eq_true rfl) [(0, .ref (q 99))] rfl ?_
  intro p9 e9 s9 m9 b9 t9 c9 A9 C hr hlk hnm
  have hI := hsI
  have hA := hsA
  unfold smI at hI
  unfold smA at hA
  have hN9 := hN
  unfold okN at hN9
  simp only [mJ, mN] at hN9
  have hG1 := hG.1
  have hG2 := hG.2.1
  refine g_aload_n C (n' := 1) 0 rfl dX8_goOn_0 rfl rfl ?_
  refine g_iconst C (n' := 2) dX8_goOn_1 rfl ?_
  refine g_cVv C (n' := 5) (v := .int (iI (rg_nx r ((I 1) - 0).toNat 0))) (c_X8_nextFrom l D Y C.2.2.2.2.2.2.2.2.1 q I A F Dd 0 r hsI hsA hN hr9 hm hG (by omega)) 1 kw_973 kc_X8_nextFrom (by decide +kernel) (pm0 _) 0 (ci := 6) rfl rfl rfl rfl ⟨Nat.le_of_ble_eq_true rfl, Nat.le_of_ble_eq_true rfl⟩ ⟨rfl, rfl⟩ ⟨Nat.le_of_ble_eq_true rfl, Nat.le_of_ble_eq_true rfl⟩ (Nat.le_of_ble_eq_true rfl) dX8_goOn_2 rfl rfl (wMod q Y I A F Dd) (pm0' _) ?_
  refine g_istore_n C (n' := 6) [(1, .int (iI (rg_nx r ((I 1) - 0).toNat 0))), (0, .ref (q 99))] dX8_goOn_5 rfl rfl (by decide) rfl ?_
  have hnr := rg_nx_r (r := r) (n := I 1) (I 1 - 0).toNat 0 (by omega)
  refine g_wd (w' := (wMod q Y (sU I 34 ((r.length : Nat) : Int)) A F Dd)) (by rw [← hm, sU_id]) ?_
  refine g_lv (lv' := [(1, .int (iI (rg_nx r ((I 1) - 0).toNat 0))), (0, .ref (q 99))]) [0, 1] rfl ?_
  have e8 : (if (rg_nx r ((I 1) - 0).toNat 0) = -1 then rg_pop (I 1) r.length r else r ++ [(rg_nx r ((I 1) - 0).toNat 0)]) = rg_next (I 1) r := by
    rw [Int.sub_zero]
    rfl
  refine lp_X8_go C q I A F Dd hsI hsA hN r.length r _ (Nat.le_refl _) hr9 hG ?_ ?_
  · rcases hnr with e | ⟨e1, e2, e3⟩
    · exact Or.inl e
    · exact Or.inr ⟨by omega, by omega, rg_G_app hG (by omega) (by omega) e2 e3⟩
  rw [e8]
  intro R hsR hat
  exact g_vret C hr hlk ⟨rfl, R, hsR, hat, rfl⟩ dX8_goOn_108
def cyIs (I : Nat → Int) (A : Nat → Nat → Int) (k z : Int) : Prop := (k < 0 ∧ z = -3) ∨ (0 ≤ k ∧ ((feas (mJ I A) (mN A) (A 0 0) 1 0 (I 7) ∧ z = -1) ∨ (¬ feas (mJ I A) (mN A) (A 0 0) 1 0 (I 7) ∧ z = rg_get (rg_top (rg_m (m_low I A)) (I 1) (I 1).toNat 0) k)))
set_option maxRecDepth 100000 in
set_option maxHeartbeats 4000000 in
theorem lp_X8_cy {p9 : Program} {l : Launch} {e9 : Env} {s9 : State} {m9 : MethodId} {a9 : Array Value} {b9 : List Frame} {t9 : Method} {c9 : Code} {D : va_G} {A9 : Nat → Prop} {Q9 : State → Prop} {E : (Nat → Prop) → State → Heap → Prop} {Y : Nat → ClassId} (C : g_Cx p9 s9 m9 a9 c9 cX8_cycle 2 RX8 D (tysY Y) A9 E) (q : Nat → Nat) (I : Nat → Int) (A : Nat → Nat → Int) (F : Nat → UInt32) (Dd : Nat → UInt64) (k : Int) (hsI : smI I) (hsA : smA A) (hN : okN (mJ I A) (mN A)) : ∀ (n9 : Nat) (r1 : List Int) (R : Nat → Int), smR R → rg_at R r1 → ((r1 = [] ∧ rg_top (rg_m (A 32)) (I 1) (I 1).toNat 0 = none) ∨ (rg_G (I 1) r1 ∧ rg_top (rg_m (A 32)) (I 1) (I 1).toNat 0 = rg_W (rg_m (A 32)) (I 1) r1 ∧ 43046721 ≤ rg_cd 7 r1 + n9)) → (∀ (r2 : List Int) (R2 : Nat → Int), smR R2 → rg_at R2 r2 → r2.length ≤ 8 → ((r2 = [] ∧ rg_top (rg_m (A 32)) (I 1) (I 1).toNat 0 = none) ∨ rg_top (rg_m (A 32)) (I 1) (I 1).toNat 0 = some r2) → g_G p9 l e9 ({ frames := 3, cells := 0, slots := 0, locals := 69 } : Room) s9 m9 a9 b9 t9 c9 2 D A9 Q9 0 0 (wMod q Y (sU I 34 ((r2.length : Nat) : Int)) (sU A 33 R2) F Dd) [(0, .ref (q 99)), (1, .int (iI k))] 60 []) → g_G p9 l e9 ({ frames := 3, cells := 0, slots := 0, locals := 69 } : Room) s9 m9 a9 b9 t9 c9 2 D A9 Q9 0 0 (wMod q Y (sU I 34 ((r1.length : Nat) : Int)) (sU A 33 R) F Dd) [(0, .ref (q 99)), (1, .int (iI k))] 39 [] := by
  have hE := C.2.2.2.2.2.2.2.2.1
  intro n9
  induction n9 with
  | zero =>
    intro r1 R hsR hat hW K
    have hI := hsI
    have hA := hsA
    unfold smI at hI
    unfold smA at hA
    have hN9 := hN
    unfold okN at hN9
    simp only [mJ, mN] at hN9
    have hz0 : r1.length ≤ 0 := by
      rcases hW with h | ⟨g, -, h⟩
      · rw [h.1]
        exact Nat.le_refl _
      · have := rg_cd_8 (by omega) g
        omega
    refine g_aload_n C (n' := 40) 0 rfl dX8_cycle_39 rfl rfl ?_
    refine g_get C (n' := 43) (Cn := RX8) (T := TX8) (N := 35) (ci := 6) (v := .int (iI ((r1.length : Nat) : Int))) ga_X8 0 rfl rfl 34 (by decide) kw_724 rfl rfl dX8_cycle_40 rfl ?_
    refine g_if_le C (n' := 46) 60 dX8_cycle_43 (by decide) rfl (by unfold inR; omega) (fun c1 => ?_) (fun c1 => ?_)
    · skip
      have hz : r1 = [] ∧ rg_top (rg_m (A 32)) (I 1) (I 1).toNat 0 = none := by
        rcases hW with h | ⟨g, -, -⟩
        · exact h
        · have := g.1
          omega
      exact K r1 R hsR hat (by omega) (Or.inl hz)
    · skip
      exfalso
      omega
  | succ n9 ih =>
    intro r1 R hsR hat hW K
    have hI := hsI
    have hA := hsA
    unfold smI at hI
    unfold smA at hA
    have hN9 := hN
    unfold okN at hN9
    simp only [mJ, mN] at hN9
    have hl8 : r1.length ≤ 8 := by
      rcases hW with h | ⟨g, -, -⟩
      · rw [h.1]
        exact Nat.zero_le _
      · exact g.2.1
    refine g_aload_n C (n' := 40) 0 rfl dX8_cycle_39 rfl rfl ?_
    refine g_get C (n' := 43) (Cn := RX8) (T := TX8) (N := 35) (ci := 6) (v := .int (iI ((r1.length : Nat) : Int))) ga_X8 0 rfl rfl 34 (by decide) kw_724 rfl rfl dX8_cycle_40 rfl ?_
    refine g_if_le C (n' := 46) 60 dX8_cycle_43 (by decide) rfl (by unfold inR; omega) (fun c1 => ?_) (fun c1 => ?_)
    · skip
      have hz : r1 = [] ∧ rg_top (rg_m (A 32)) (I 1) (I 1).toNat 0 = none := by
        rcases hW with h | ⟨g, -, -⟩
        · exact h
        · have := g.1
          omega
      exact K r1 R hsR hat (by omega) (Or.inl hz)
    · skip
      obtain ⟨hG, hW2, hcd⟩ := hW.resolve_left (fun h => by have := congrArg List.length h.1; simp only [List.length_nil] at this; omega)
      have hsAR : smA (sU A 33 R) := sm_putA hsA hsR
      refine g_aload_n C (n' := 47) 0 rfl dX8_cycle_46 rfl rfl ?_
      refine g_cVv C (n' := 50) (v := .int (iI (if rg_m ((A 32)) r1 = true then 1 else 0))) (c_X8_isBelow l D Y C.2.2.2.2.2.2.2.2.1 q (sU I 34 ((r1.length : Nat) : Int)) (sU A 33 R) F Dd r1 (sm_put hsI (by have := hG.2.1; omega)) hsAR hN hat rfl hG) 0 kw_965 kc_X8_isBelow (by decide +kernel) (pm0 _) 0 (ci := 6) rfl rfl rfl rfl ⟨Nat.le_of_ble_eq_true rfl, Nat.le_of_ble_eq_true rfl⟩ ⟨rfl, rfl⟩ ⟨Nat.le_of_ble_eq_true rfl, Nat.le_of_ble_eq_true rfl⟩ (Nat.le_of_ble_eq_true rfl) dX8_cycle_47 rfl rfl (wMod q Y (sU I 34 ((r1.length : Nat) : Int)) (sU A 33 R) F Dd) (pm0' _) ?_
      refine g_if_ne C (n' := 53) 60 dX8_cycle_50 (by decide) rfl bz_r (fun c2 => ?_) (fun c2 => ?_)
      · skip
        replace c2 := bz_ne.mp c2
        exact K r1 R hsR hat hG.2.1 (Or.inr (hW2.trans (rg_W_hit c2)))
      · skip
        replace c2 := bz_nne.mp c2
        refine g_aload_n C (n' := 54) 0 rfl dX8_cycle_53 rfl rfl ?_
        refine g_callV C (n' := 57) (c_X8_goOn l D Y C.2.2.2.2.2.2.2.2.1 q (sU I 34 ((r1.length : Nat) : Int)) (sU A 33 R) F Dd r1 (sm_put hsI (by have := hG.2.1; omega)) hsAR hN hat rfl hG) 0 kw_969 kc_X8_goOn (by decide +kernel) (pm0 _) 0 (ci := 6) rfl rfl rfl rfl ⟨Nat.le_of_ble_eq_true rfl, Nat.le_of_ble_eq_true rfl⟩ ⟨rfl, rfl⟩ ⟨Nat.le_of_ble_eq_true rfl, Nat.le_of_ble_eq_true rfl⟩ (Nat.le_of_ble_eq_true rfl) dX8_cycle_54 rfl (fun r9 w9 hp3 => ?_)
        obtain ⟨rfl, R4, hsR4, hatR4, rfl⟩ := hp3
        refine g_perm (w' := (wMod q Y (sU I 34 (((rg_next (I 1) r1).length : Nat) : Int)) (sU A 33 R4) F Dd)) (pm0' _) ?_
        refine g_goto C 39 dX8_cycle_57 (by decide) ?_
        have hn9 := rg_G_next (n := I 1) (by omega) (by omega) hG
        have hc9 := rg_cd_next (n := I 1) (by omega) (by omega) hG
        have hw9 := rg_W_next (n := I 1) (by omega) hG c2
        refine ih (rg_next (I 1) r1) R4 hsR4 hatR4 ?_ K
        by_cases q9 : rg_next (I 1) r1 = []
        · rw [if_pos q9] at hw9
          exact Or.inl ⟨q9, hW2.trans hw9⟩
        · rw [if_neg q9] at hw9
          exact Or.inr ⟨hn9.resolve_left q9, hW2.trans hw9, by have := hc9.resolve_left q9; omega⟩
set_option maxRecDepth 100000 in
set_option maxHeartbeats 4000000 in
theorem c_X8_cycle (l : Launch) (D : va_G) (Y : Nat → ClassId) {E : (Nat → Prop) → State → Heap → Prop} (hE : g_Stab E) (q : Nat → Nat) (I : Nat → Int) (A : Nat → Nat → Int) (F : Nat → UInt32) (Dd : Nat → UInt64) (k : Int) (hsI : smI I) (hsA : smA A) (hN : okN (mJ I A) (mN A)) (hk : inR k) : g_Ct l yX8_cycle cX8_cycle 2 (some FieldType.int) ({ frames := 3, cells := 0, slots := 0, locals := 69 } : Room) D (tysY Y) E [.ref (q 99), .int (iI k)] (wMod q Y I A F Dd) 0 0 (fun r9 w9 => ∃ (I1 : Nat → Int) (A1 : Nat → Nat → Int), w9 = wMod q Y I1 A1 F Dd ∧ smI I1 ∧ kpI I I1 ∧ smA A1 ∧ kpB A A1 ∧ ∃ z : Int, r9 = some (.int (iI z)) ∧ cyIs I A k z) := by
  refine g_ofG (own := RX8) hE (by decide) rfl (Nat.le_of_ble_eq_true rfl) [(0, .ref (q 99)), (1, .int (iI k))] rfl ?_
  intro p9 e9 s9 m9 b9 t9 c9 A9 C hr hlk hnm
  have hI := hsI
  have hA := hsA
  unfold smI at hI
  unfold smA at hA
  have hN9 := hN
  unfold okN at hN9
  simp only [mJ, mN] at hN9
  have hk9 := hk
  unfold inR at hk9
  refine g_iload_n C (n' := 1) 1 rfl dX8_cycle_0 rfl rfl ?_
  refine g_if_ge C (n' := 4) 7 dX8_cycle_1 (by decide) rfl (by unfold inR; omega) (fun c1 => ?_) (fun c1 => ?_)
  · skip
    refine g_aload_n C (n' := 8) 0 rfl dX8_cycle_7 rfl rfl ?_
    refine g_aload_n C (n' := 9) 0 rfl dX8_cycle_8 rfl rfl ?_
    refine g_get C (n' := 12) (Cn := RX8) (T := TX8) (N := 35) (ci := 6) (v := .ref (q 0)) ga_X8 0 rfl rfl 0 (by decide) kw_690 rfl rfl dX8_cycle_9 rfl ?_
    refine g_iconst C (n' := 13) dX8_cycle_12 rfl ?_
    refine g_ialdN C (n' := 14) (f := (A 0)) (j := 0) 1 0 rfl rfl (by omega) (by decide) rfl dX8_cycle_13 rfl ?_
    have h_13 := hA 0 0
    refine g_iconst C (n' := 15) dX8_cycle_14 rfl ?_
    refine g_callV C (n' := 18) (c_X8_isFeasible l D Y C.2.2.2.2.2.2.2.2.1 q I A F Dd ((A 0) 0) 0 hsI hsA hN (by omega) (by omega)) 2 kw_905 kc_X8_isFeasible (by decide +kernel) (pm0 _) 0 (ci := 6) rfl rfl rfl rfl ⟨Nat.le_of_ble_eq_true rfl, Nat.le_of_ble_eq_true rfl⟩ ⟨rfl, rfl⟩ ⟨Nat.le_of_ble_eq_true rfl, Nat.le_of_ble_eq_true rfl⟩ (Nat.le_of_ble_eq_true rfl) dX8_cycle_15 rfl (fun r9 w9 hp2 => ?_)
    obtain ⟨A3, rfl, hsA3, hkA3, (⟨rfl, hGA3⟩ | ⟨rfl, hGA3⟩)⟩ := hp2
    have hA3 := hsA3
    unfold smA at hA3
    · skip
      refine g_perm (w' := (wMod q Y I A3 F Dd)) (pm0' _) ?_
      refine g_st (st' := [.int (iI 1)]) rfl ?_
      refine g_if_eq C (n' := 21) 23 dX8_cycle_18 (by decide) rfl (by unfold inR; omega) (fun c4 => ?_) (fun c4 => ?_)
      · skip
        exfalso
        omega
      · skip
        refine g_iconst C (n' := 22) dX8_cycle_21 rfl ?_
        exact g_iret C hr hlk rfl ⟨I, A3, rfl, hsI, kpI_refl I, hsA3, kpB_of hkA3, _, rfl, Or.inr ⟨by omega, Or.inl ⟨feas_of hGA3, rfl⟩⟩⟩ dX8_cycle_22
    · skip
      refine g_perm (w' := (wMod q Y I A3 F Dd)) (pm0' _) ?_
      refine g_st (st' := [.int (iI 0)]) rfl ?_
      refine g_if_eq C (n' := 21) 23 dX8_cycle_18 (by decide) rfl (by unfold inR; omega) (fun c5 => ?_) (fun c5 => ?_)
      · skip
        have hN1 := kpA_ok hkA3 hN
        have hN8 := hN1
        unfold okN at hN8
        simp only [mJ, mN] at hN8
        refine g_aload_n C (n' := 24) 0 rfl dX8_cycle_23 rfl rfl ?_
        refine g_cVn C (n' := 27) (c_X8_layLeast l D Y C.2.2.2.2.2.2.2.2.1 q I A3 F Dd hsI hsA3 hN1) 0 kw_960 kc_X8_layLeast (by decide +kernel) (pm0 _) 0 (ci := 6) rfl rfl rfl rfl ⟨Nat.le_of_ble_eq_true rfl, Nat.le_of_ble_eq_true rfl⟩ ⟨rfl, rfl⟩ ⟨Nat.le_of_ble_eq_true rfl, Nat.le_of_ble_eq_true rfl⟩ (Nat.le_of_ble_eq_true rfl) dX8_cycle_24 rfl rfl (wMod q Y I (sU (sU (sU A3 29 (m_fill (m_lt I A3 ((A3 0) 0) 0) ((A3 29)) ((I 2)).toNat)) 30 (m_fill (m_so I A3 0) ((A3 30)) ((I 2)).toNat)) 32 (m_low I A3)) F Dd) (pm0' _) ?_
        refine g_aload_n C (n' := 28) 0 rfl dX8_cycle_27 rfl rfl ?_
        refine g_get C (n' := 31) (Cn := RX8) (T := TX8) (N := 35) (ci := 6) (v := .ref (q 33)) ga_X8 0 rfl rfl 33 (by decide) kw_723 rfl rfl dX8_cycle_28 rfl ?_
        refine g_iconst C (n' := 32) dX8_cycle_31 rfl ?_
        refine g_iconst C (n' := 33) dX8_cycle_32 rfl ?_
        refine g_iastN C (n' := 34) (f := (A3 33)) (j := 0) 21 0 rfl rfl (by omega) (by decide) rfl dX8_cycle_33 rfl (wMod q Y I (sU (sU (sU (sU A3 29 (m_fill (m_lt I A3 ((A3 0) 0) 0) ((A3 29)) ((I 2)).toNat)) 30 (m_fill (m_so I A3 0) ((A3 30)) ((I 2)).toNat)) 32 (m_low I A3)) 33 (sU (A3 33) 0 0)) F Dd) rfl ?_
        refine g_aload_n C (n' := 35) 0 rfl dX8_cycle_34 rfl rfl ?_
        refine g_iconst C (n' := 36) dX8_cycle_35 rfl ?_
        refine g_put C (n' := 39) (Cn := RX8) (T := TX8) (N := 35) (ci := 6) (v := .int (iI 1)) ga_X8 0 rfl rfl 34 (by decide) kw_724 rfl tyX8 tyX8_ok nmX8 rfl rfl rfl rfl (Nat.le_of_ble_eq_true rfl) (wMod q Y (sU I 34 1) (sU (sU (sU (sU A3 29 (m_fill (m_lt I A3 ((A3 0) 0) 0) ((A3 29)) ((I 2)).toNat)) 30 (m_fill (m_so I A3 0) ((A3 30)) ((I 2)).toNat)) 32 (m_low I A3)) 33 (sU (A3 33) 0 0)) F Dd) rfl dX8_cycle_36 rfl ?_
        have hw32 : (sU (sU (sU A3 29 (m_fill (m_lt I A3 ((A3 0) 0) 0) ((A3 29)) ((I 2)).toNat)) 30 (m_fill (m_so I A3 0) ((A3 30)) ((I 2)).toNat)) 32 (m_low I A3)) 32 = m_low I A := kpA_low hkA3
        have hr29 := fun (p : Nat) (hp : (p : Int) < I 2) => m_lt_r hN1 (u := A3 0 0) (g := 0) (by omega) (by omega) hp
        have hsl : smR (m_low I A3) := by
          have e9 : m_low I A3 = m_ly (m_fill (m_lt I A3 (A3 0 0) 0) (A3 29) (I 2).toNat) (m_fill (m_so I A3 0) (A3 30) (I 2).toNat) (A3 3) (A3 4) (m_much (A3 32)) (I 2).toNat := m_ly_c _ (fun p hp => ⟨(if_pos hp).symm, (if_pos hp).symm⟩)
          rw [e9]
          exact m_ly_r (m_fill_sm (fun k hk => by have := hr29 k (by omega); omega) (hsA3 29)) (m_fill_sm (fun k hk => by have := hr29 k (by omega); omega) (hsA3 30)) (m_much_r (hsA3 32)) _
        have hsA9 : smA (sU (sU (sU A3 29 (m_fill (m_lt I A3 ((A3 0) 0) 0) ((A3 29)) ((I 2)).toNat)) 30 (m_fill (m_so I A3 0) ((A3 30)) ((I 2)).toNat)) 32 (m_low I A3)) := sm_putA (sm_putA (sm_putA hsA3 (m_fill_sm (fun k hk => by have := hr29 k (by omega); omega) (hsA3 29))) (m_fill_sm (fun k hk => by have := hr29 k (by omega); omega) (hsA3 30))) hsl
        have hkB : kpB A (sU (sU (sU A3 29 (m_fill (m_lt I A3 ((A3 0) 0) 0) ((A3 29)) ((I 2)).toNat)) 30 (m_fill (m_so I A3 0) ((A3 30)) ((I 2)).toNat)) 32 (m_low I A3)) := kpB_trans (kpB_of hkA3) (kpB_trans (kpB_put _ (by omega)) (kpB_trans (kpB_put _ (by omega)) (kpB_put _ (by omega))))
        have hN9 : okN (mJ I (sU (sU (sU A3 29 (m_fill (m_lt I A3 ((A3 0) 0) 0) ((A3 29)) ((I 2)).toNat)) 30 (m_fill (m_so I A3 0) ((A3 30)) ((I 2)).toNat)) 32 (m_low I A3))) (mN (sU (sU (sU A3 29 (m_fill (m_lt I A3 ((A3 0) 0) 0) ((A3 29)) ((I 2)).toNat)) 30 (m_fill (m_so I A3 0) ((A3 30)) ((I 2)).toNat)) 32 (m_low I A3))) := hN1
        refine lp_X8_cy C q I (sU (sU (sU A3 29 (m_fill (m_lt I A3 ((A3 0) 0) 0) ((A3 29)) ((I 2)).toNat)) 30 (m_fill (m_so I A3 0) ((A3 30)) ((I 2)).toNat)) 32 (m_low I A3)) F Dd k hsI hsA9 hN9 43046721 [0] _ (sm_putR (hsA3 33) (by omega)) (rg_one 0) (Or.inr ⟨rg_G_one (by omega), rg_W_0 (by omega), by have := rg_cd_8 (n := I 1) (by omega) (rg_G_one (n := I 1) (k := 0) (by omega)); omega⟩) ?_
        rw [hw32]
        intro r2 R2 hsR2 hat2 hl2 hT
        have hR2 := hsR2
        unfold smR at hR2
        refine g_iload_n C (n' := 61) 1 rfl dX8_cycle_60 rfl rfl ?_
        refine g_aload_n C (n' := 62) 0 rfl dX8_cycle_61 rfl rfl ?_
        refine g_get C (n' := 65) (Cn := RX8) (T := TX8) (N := 35) (ci := 6) (v := .int (iI ((r2.length : Nat) : Int))) ga_X8 0 rfl rfl 34 (by decide) kw_724 rfl rfl dX8_cycle_62 rfl ?_
        refine g_icmp_ge C (n' := 68) 77 dX8_cycle_65 (by decide) rfl (by unfold inR; omega) (by unfold inR; omega) (fun c6 => ?_) (fun c6 => ?_)
        · skip
          refine g_iconst C (n' := 78) dX8_cycle_77 rfl ?_
          refine g_iret C hr hlk rfl ⟨_, _, rfl, sm_put hsI (by omega), kpI_put I _, sm_putA hsA9 hsR2, kpB_trans hkB (kpB_put _ (by omega)), _, rfl, Or.inr ⟨by omega, Or.inr ⟨hGA3, ?_⟩⟩⟩ dX8_cycle_78
          rcases hT with ⟨h1, h2⟩ | h1
          · rw [h2]
            rfl
          · rw [h1]
            show _ = if k < (r2.length : Int) then r2.getD k.toNat 0 else -1
            rw [if_neg (by omega)]
        · skip
          refine g_aload_n C (n' := 69) 0 rfl dX8_cycle_68 rfl rfl ?_
          refine g_get C (n' := 72) (Cn := RX8) (T := TX8) (N := 35) (ci := 6) (v := .ref (q 33)) ga_X8 0 rfl rfl 33 (by decide) kw_723 rfl rfl dX8_cycle_69 rfl ?_
          refine g_iload_n C (n' := 73) 1 rfl dX8_cycle_72 rfl rfl ?_
          refine g_iald C (n' := 74) (f := R2) 21 0 rfl rfl (by omega) (by omega) (by decide) rfl dX8_cycle_73 rfl ?_
          have h_73 := hR2 k.toNat
          refine g_goto C 78 dX8_cycle_74 (by decide) ?_
          refine g_iret C hr hlk rfl ⟨_, _, rfl, sm_put hsI (by omega), kpI_put I _, sm_putA hsA9 hsR2, kpB_trans hkB (kpB_put _ (by omega)), _, rfl, Or.inr ⟨by omega, Or.inr ⟨hGA3, ?_⟩⟩⟩ dX8_cycle_78
          rcases hT with ⟨h1, -⟩ | h1
          · exfalso
            rw [h1] at c6
            simp only [List.length_nil] at c6
            omega
          · rw [h1]
            show _ = if k < (r2.length : Int) then r2.getD k.toNat 0 else -1
            rw [if_pos (by omega)]
            exact hat2 _ (by omega)
      · skip
        exfalso
        omega
  · skip
    refine g_bipush C (n' := 6) (by decide) dX8_cycle_4 rfl ?_
    exact g_iret C hr hlk rfl ⟨I, A, rfl, hsI, kpI_refl I, hsA, fun _ _ => rfl, _, rfl, Or.inl ⟨by omega, rfl⟩⟩ dX8_cycle_6
