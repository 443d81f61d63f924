/-! the reference: counts, and what a trace is refused for -/
def sz0 (x : Int) : Int := if x < 0 then 0 else x
def coV (J : Nat → Int) (N : Nat → Nat → Int) (a u l x : Int) : Int := if x = 0 then J 0 else if x = 1 then J 5 else if x = 2 then J 1 else if x = 3 then J 2 else if x = 4 then J 3 else if x = 5 then J 4 else if x = 6 then a else if x = 7 then u else if x = 8 then l else if x = 9 then n_ts J N (J 5).toNat else -3
/-- sizes: -1, or up to 8 -/
def szOK (A : Nat → Nat → Int) : Prop := ∀ t : Nat, -1 ≤ A 13 t ∧ A 13 t ≤ 8
def npV (z s : Int) (x i j : Int) : Int := if z < 0 then -11 else if s ≠ x then -13 else if (0 ≤ i ∧ i < z) ∧ (0 ≤ j ∧ j < z) then 0 else -14
set_option maxRecDepth 100000 in
set_option maxHeartbeats 4000000 in
theorem lp_X8_ts {p9 : Program} {l : Launch} {e9 : Env} {s9 : State} {m9 : MethodId} {a9 : Array Value} {b9 : List Frame} {t9 : Method} {c9 : Code} {D : va_G} {A9 : Nat → Prop} {Q9 : State → Prop} {E : (Nat → Prop) → State → Heap → Prop} {Y : Nat → ClassId} (C : g_Cx p9 s9 m9 a9 c9 cX8_tooSoon 3 RX8 D (tysY Y) A9 E) (q : Nat → Nat) (I : Nat → Int) (A : Nat → Nat → Int) (F : Nat → UInt32) (Dd : Nat → UInt64) (hsI : smI I) (hsA : smA A) (hN : okN (mJ I A) (mN A)) : ∀ (n9 : Nat) (k : Nat), (k : Int) + n9 = I 2 → (g_G p9 l e9 ({ frames := 1, cells := 0, slots := 0, locals := 21 } : Room) s9 m9 a9 b9 t9 c9 3 D A9 Q9 0 0 (wMod q Y I A F Dd) [(2, .int (iI (((I 2).toNat : Nat) : Int))), (1, .int (iI (n_ts (mJ I A) (mN A) ((I 2).toNat)))), (0, .ref (q 99))] 34 []) → g_G p9 l e9 ({ frames := 1, cells := 0, slots := 0, locals := 21 } : Room) s9 m9 a9 b9 t9 c9 3 D A9 Q9 0 0 (wMod q Y I A F Dd) [(2, .int (iI ((k : Nat) : Int))), (1, .int (iI (n_ts (mJ I A) (mN A) k))), (0, .ref (q 99))] 4 [] := by
  have hE := C.2.2.2.2.2.2.2.2.1
  intro n9
  induction n9 with
  | zero =>
    intro k hk K
    have hI := hsI
    have hA := hsA
    unfold smI at hI
    unfold smA at hA
    have hN9 := hN
    unfold okN at hN9
    simp only [mJ, mN] at hN9
    have hts := n_ts_r (mJ I A) (mN A) k
    have ha17 := hA 0 (17 + k)
    have hi6 := hI 6
    refine g_iload_n C (n' := 5) 0 rfl dX8_tooSoon_4 rfl rfl ?_
    refine g_aload_n C (n' := 6) 2 rfl dX8_tooSoon_5 rfl rfl ?_
    refine g_get C (n' := 9) (Cn := RX8) (T := TX8) (N := 35) (ci := 6) (v := .int (iI (I 2))) ga_X8 0 rfl rfl 2 (by decide) kw_692 rfl rfl dX8_tooSoon_6 rfl ?_
    have h_6 := hI 2
    refine g_icmp_ge C (n' := 12) 34 dX8_tooSoon_9 (by decide) rfl (by unfold inR; omega) (by unfold inR; omega) (fun c1 => ?_) (fun c1 => ?_)
    · skip
      have ek : k = (I 2).toNat := by omega
      rw [ek]
      exact K
    · skip
      exfalso
      omega
  | succ n9 ih =>
    intro k hk K
    have hI := hsI
    have hA := hsA
    unfold smI at hI
    unfold smA at hA
    have hN9 := hN
    unfold okN at hN9
    simp only [mJ, mN] at hN9
    have hts := n_ts_r (mJ I A) (mN A) k
    have ha17 := hA 0 (17 + k)
    have hi6 := hI 6
    refine g_iload_n C (n' := 5) 0 rfl dX8_tooSoon_4 rfl rfl ?_
    refine g_aload_n C (n' := 6) 2 rfl dX8_tooSoon_5 rfl rfl ?_
    refine g_get C (n' := 9) (Cn := RX8) (T := TX8) (N := 35) (ci := 6) (v := .int (iI (I 2))) ga_X8 0 rfl rfl 2 (by decide) kw_692 rfl rfl dX8_tooSoon_6 rfl ?_
    have h_6 := hI 2
    refine g_icmp_ge C (n' := 12) 34 dX8_tooSoon_9 (by decide) rfl (by unfold inR; omega) (by unfold inR; omega) (fun c1 => ?_) (fun c1 => ?_)
    · skip
      exfalso
      omega
    · skip
      refine g_iload_n C (n' := 13) 1 rfl dX8_tooSoon_12 rfl rfl ?_
      refine g_aload_n C (n' := 14) 2 rfl dX8_tooSoon_13 rfl rfl ?_
      refine g_iload_n C (n' := 15) 0 rfl dX8_tooSoon_14 rfl rfl ?_
      refine g_cVv C (n' := 18) (v := .int (iI ((A 0) (17 + k) - (I 6)))) (c_X8_soonOf l D Y C.2.2.2.2.2.2.2.2.1 q I A F Dd ((k : Nat) : Int) (by omega) (by omega)) 1 kw_871 kc_X8_soonOf (by decide +kernel) (pm0 _) 0 (ci := 6) rfl rfl rfl rfl ⟨Nat.le_of_ble_eq_true rfl, Nat.le_of_ble_eq_true rfl⟩ ⟨rfl, rfl⟩ ⟨Nat.le_of_ble_eq_true rfl, Nat.le_of_ble_eq_true rfl⟩ (Nat.le_of_ble_eq_true rfl) dX8_tooSoon_15 rfl rfl (wMod q Y I A F Dd) (pm0' _) ?_
      refine g_if_ge C (n' := 21) 25 dX8_tooSoon_18 (by decide) rfl (by unfold inR; omega) (fun c2 => ?_) (fun c2 => ?_)
      · skip
        refine g_iconst C (n' := 26) dX8_tooSoon_25 rfl ?_
        refine g_iadd C (n' := 27) dX8_tooSoon_26 rfl ?_
        refine g_istore_n C (n' := 28) [(1, .int (iI ((n_ts (mJ I A) (mN A) k) + 0))), (2, .int (iI ((k : Nat) : Int))), (0, .ref (q 99))] dX8_tooSoon_27 rfl rfl (by decide) rfl ?_
        refine g_iinc C (n' := 31) 1 [(2, .int (iI (((k : Nat) : Int) + 1))), (1, .int (iI ((n_ts (mJ I A) (mN A) k) + 0))), (0, .ref (q 99))] rfl dX8_tooSoon_28 rfl (by decide) rfl ?_
        refine g_goto C 4 dX8_tooSoon_31 (by decide) ?_
        rw [show (((n_ts (mJ I A) (mN A) k) + 0) : Int) = n_ts (mJ I A) (mN A) (k + 1) from by rw [n_ts]; show _ = _ + (if A 0 (17 + k) - I 6 < 0 then 1 else 0); rw [if_neg (by omega)]]
        refine g_lv (lv' := [(2, .int (iI (((k + 1) : Nat) : Int))), (1, .int (iI (n_ts (mJ I A) (mN A) (k + 1)))), (0, .ref (q 99))]) [0, 1, 2] rfl ?_
        exact ih (k + 1) (by omega) K
      · skip
        refine g_iconst C (n' := 22) dX8_tooSoon_21 rfl ?_
        refine g_goto C 26 dX8_tooSoon_22 (by decide) ?_
        refine g_iadd C (n' := 27) dX8_tooSoon_26 rfl ?_
        refine g_istore_n C (n' := 28) [(1, .int (iI ((n_ts (mJ I A) (mN A) k) + 1))), (2, .int (iI ((k : Nat) : Int))), (0, .ref (q 99))] dX8_tooSoon_27 rfl rfl (by decide) rfl ?_
        refine g_iinc C (n' := 31) 1 [(2, .int (iI (((k : Nat) : Int) + 1))), (1, .int (iI ((n_ts (mJ I A) (mN A) k) + 1))), (0, .ref (q 99))] rfl dX8_tooSoon_28 rfl (by decide) rfl ?_
        refine g_goto C 4 dX8_tooSoon_31 (by decide) ?_
        rw [show (((n_ts (mJ I A) (mN A) k) + 1) : Int) = n_ts (mJ I A) (mN A) (k + 1) from by rw [n_ts]; show _ = _ + (if A 0 (17 + k) - I 6 < 0 then 1 else 0); rw [if_pos (by omega)]]
        refine g_lv (lv' := [(2, .int (iI (((k + 1) : Nat) : Int))), (1, .int (iI (n_ts (mJ I A) (mN A) (k + 1)))), (0, .ref (q 99))]) [0, 1, 2] rfl ?_
        exact ih (k + 1) (by omega) K
set_option maxRecDepth 100000 in
set_option maxHeartbeats 4000000 in
theorem c_X8_tooSoon (l : Launch) (D : va_G) (Y : Nat → ClassId) {E : (Nat → Prop) → State → Heap → Prop} (hE : g_Stab E) (q : Nat → Nat) (I : Nat → Int) (A : Nat → Nat → Int) (F : Nat → UInt32) (Dd : Nat → UInt64) (hsI : smI I) (hsA : smA A) (hN : okN (mJ I A) (mN A)) : g_Ct l yX8_tooSoon cX8_tooSoon 3 (some FieldType.int) ({ frames := 1, cells := 0, slots := 0, locals := 21 } : Room) D (tysY Y) E [.ref (q 99)] (wMod q Y I A F Dd) 0 0 (g_det (some (.int (iI (n_ts (mJ I A) (mN A) (I 2).toNat)))) (wMod q Y I A F Dd)) := by
  refine g_ofG (own := RX8) hE (by decide) rfl (Nat.le_of_ble_eq_true rfl) [(0, .ref (q 99))] rfl ?_
  intro p9 e9 s9 m9 b9 t9 c9 A9 C hr hlk hnm
  have hI := hsI
  have hA := hsA
  unfold smI at hI
  unfold smA at hA
  have hN9 := hN
  unfold okN at hN9
  simp only [mJ, mN] at hN9
  refine g_iconst C (n' := 1) dX8_tooSoon_0 rfl ?_
  refine g_istore_n C (n' := 2) [(1, .int (iI 0)), (0, .ref (q 99))] dX8_tooSoon_1 rfl rfl (by decide) rfl ?_
  refine g_iconst C (n' := 3) dX8_tooSoon_2 rfl ?_
  refine g_istore_n C (n' := 4) [(2, .int (iI 0)), (1, .int (iI 0)), (0, .ref (q 99))] dX8_tooSoon_3 rfl rfl (by decide) rfl ?_
  refine g_lv (lv' := [(2, .int (iI ((0 : Nat) : Int))), (1, .int (iI (n_ts (mJ I A) (mN A) 0))), (0, .ref (q 99))]) [0, 1, 2] rfl ?_
  refine lp_X8_ts C q I A F Dd hsI hsA hN (I 2).toNat 0 (by omega) ?_
  refine g_iload_n C (n' := 35) 1 rfl dX8_tooSoon_34 rfl rfl ?_
  refine g_iret C hr hlk rfl ⟨congrArg (fun z : Int => some (Value.int (iI z))) ?_, ?_⟩ dX8_tooSoon_35
  · first | rfl | omega | ((repeat' split) <;> first | rfl | omega | (exfalso; omega))
  · first | rfl | omega | ((repeat' split) <;> first | rfl | omega | (exfalso; omega))
set_option maxRecDepth 100000 in
set_option maxHeartbeats 4000000 in
theorem c_X8_allPlaces (l : Launch) (D : va_G) (Y : Nat → ClassId) {E : (Nat → Prop) → State → Heap → Prop} (hE : g_Stab E) (q : Nat → Nat) (I : Nat → Int) (A : Nat → Nat → Int) (F : Nat → UInt32) (Dd : Nat → UInt64) (hsI : smI I) (hsA : smA A) (hz : szOK A) : g_Ct l yX8_allPlaces cX8_allPlaces 3 (some FieldType.int) ({ frames := 0, cells := 0, slots := 0, locals := 0 } : Room) D (tysY Y) E [.ref (q 99)] (wMod q Y I A F Dd) 0 0 (g_det (some (.int (iI (sz0 (A 13 0) + sz0 (A 13 1) + sz0 (A 13 2))))) (wMod q Y I A F Dd)) := by
  refine g_ofG (own := RX8) hE (by decide) rfl (Nat.le_of_ble_eq_true rfl) [(0, .ref (q 99))] rfl ?_
  intro p9 e9 s9 m9 b9 t9 c9 A9 C hr hlk hnm
  have hI := hsI
  have hA := hsA
  unfold smI at hI
  unfold smA at hA
  have hz0 := hz 0
  have hz1 := hz 1
  have hz2 := hz 2
  refine g_iconst C (n' := 1) dX8_allPlaces_0 rfl ?_
  refine g_istore_n C (n' := 2) [(1, .int (iI 0)), (0, .ref (q 99))] dX8_allPlaces_1 rfl rfl (by decide) rfl ?_
  refine g_iconst C (n' := 3) dX8_allPlaces_2 rfl ?_
  refine g_istore_n C (n' := 4) [(2, .int (iI 0)), (1, .int (iI 0)), (0, .ref (q 99))] dX8_allPlaces_3 rfl rfl (by decide) rfl ?_
  refine g_iload_n C (n' := 5) 0 rfl dX8_allPlaces_4 rfl rfl ?_
  refine g_iconst C (n' := 6) dX8_allPlaces_5 rfl ?_
  refine g_icmp_ge C (n' := 9) 37 dX8_allPlaces_6 (by decide) rfl (by unfold inR; omega) (by unfold inR; omega) (fun c1 => ?_) (fun c1 => ?_)
  · skip
    exfalso
    omega
  · skip
    refine g_iload_n C (n' := 10) 1 rfl dX8_allPlaces_9 rfl rfl ?_
    refine g_aload_n C (n' := 11) 2 rfl dX8_allPlaces_10 rfl rfl ?_
    refine g_get C (n' := 14) (Cn := RX8) (T := TX8) (N := 35) (ci := 6) (v := .ref (q 13)) ga_X8 0 rfl rfl 13 (by decide) kw_703 rfl rfl dX8_allPlaces_11 rfl ?_
    refine g_iload_n C (n' := 15) 0 rfl dX8_allPlaces_14 rfl rfl ?_
    refine g_ialdN C (n' := 16) (f := (A 13)) (j := 0) 7 0 rfl rfl (by omega) (by decide) rfl dX8_allPlaces_15 rfl ?_
    have h_15 := hA 13 0
    refine g_if_ge C (n' := 19) 23 dX8_allPlaces_16 (by decide) rfl (by unfold inR; omega) (fun c2 => ?_) (fun c2 => ?_)
    · skip
      refine g_aload_n C (n' := 24) 2 rfl dX8_allPlaces_23 rfl rfl ?_
      refine g_get C (n' := 27) (Cn := RX8) (T := TX8) (N := 35) (ci := 6) (v := .ref (q 13)) ga_X8 0 rfl rfl 13 (by decide) kw_703 rfl rfl dX8_allPlaces_24 rfl ?_
      refine g_iload_n C (n' := 28) 0 rfl dX8_allPlaces_27 rfl rfl ?_
      refine g_ialdN C (n' := 29) (f := (A 13)) (j := 0) 7 0 rfl rfl (by omega) (by decide) rfl dX8_allPlaces_28 rfl ?_
      have h_28 := hA 13 0
      refine g_iadd C (n' := 30) dX8_allPlaces_29 rfl ?_
      refine g_istore_n C (n' := 31) [(1, .int (iI (0 + ((A 13) 0)))), (2, .int (iI 0)), (0, .ref (q 99))] dX8_allPlaces_30 rfl rfl (by decide) rfl ?_
      refine g_iinc C (n' := 34) 1 [(2, .int (iI 1)), (1, .int (iI (0 + ((A 13) 0)))), (0, .ref (q 99))] rfl dX8_allPlaces_31 rfl (by decide) rfl ?_
      refine g_goto C 4 dX8_allPlaces_34 (by decide) ?_
      refine g_iload_n C (n' := 5) 0 rfl dX8_allPlaces_4 rfl rfl ?_
      refine g_iconst C (n' := 6) dX8_allPlaces_5 rfl ?_
      refine g_icmp_ge C (n' := 9) 37 dX8_allPlaces_6 (by decide) rfl (by unfold inR; omega) (by unfold inR; omega) (fun c3 => ?_) (fun c3 => ?_)
      · skip
        exfalso
        omega
      · skip
        refine g_iload_n C (n' := 10) 1 rfl dX8_allPlaces_9 rfl rfl ?_
        refine g_aload_n C (n' := 11) 2 rfl dX8_allPlaces_10 rfl rfl ?_
        refine g_get C (n' := 14) (Cn := RX8) (T := TX8) (N := 35) (ci := 6) (v := .ref (q 13)) ga_X8 0 rfl rfl 13 (by decide) kw_703 rfl rfl dX8_allPlaces_11 rfl ?_
        refine g_iload_n C (n' := 15) 0 rfl dX8_allPlaces_14 rfl rfl ?_
        refine g_ialdN C (n' := 16) (f := (A 13)) (j := 1) 7 0 rfl rfl (by omega) (by decide) rfl dX8_allPlaces_15 rfl ?_
        have h_15 := hA 13 1
        refine g_if_ge C (n' := 19) 23 dX8_allPlaces_16 (by decide) rfl (by unfold inR; omega) (fun c4 => ?_) (fun c4 => ?_)
        · skip
          refine g_aload_n C (n' := 24) 2 rfl dX8_allPlaces_23 rfl rfl ?_
          refine g_get C (n' := 27) (Cn := RX8) (T := TX8) (N := 35) (ci := 6) (v := .ref (q 13)) ga_X8 0 rfl rfl 13 (by decide) kw_703 rfl rfl dX8_allPlaces_24 rfl ?_
          refine g_iload_n C (n' := 28) 0 rfl dX8_allPlaces_27 rfl rfl ?_
          refine g_ialdN C (n' := 29) (f := (A 13)) (j := 1) 7 0 rfl rfl (by omega) (by decide) rfl dX8_allPlaces_28 rfl ?_
          have h_28 := hA 13 1
          refine g_iadd C (n' := 30) dX8_allPlaces_29 rfl ?_
          refine g_istore_n C (n' := 31) [(1, .int (iI ((0 + ((A 13) 0)) + ((A 13) 1)))), (2, .int (iI 1)), (0, .ref (q 99))] dX8_allPlaces_30 rfl rfl (by decide) rfl ?_
          refine g_iinc C (n' := 34) 1 [(2, .int (iI 2)), (1, .int (iI ((0 + ((A 13) 0)) + ((A 13) 1)))), (0, .ref (q 99))] rfl dX8_allPlaces_31 rfl (by decide) rfl ?_
          refine g_goto C 4 dX8_allPlaces_34 (by decide) ?_
          refine g_iload_n C (n' := 5) 0 rfl dX8_allPlaces_4 rfl rfl ?_
          refine g_iconst C (n' := 6) dX8_allPlaces_5 rfl ?_
          refine g_icmp_ge C (n' := 9) 37 dX8_allPlaces_6 (by decide) rfl (by unfold inR; omega) (by unfold inR; omega) (fun c5 => ?_) (fun c5 => ?_)
          · skip
            exfalso
            omega
          · skip
            refine g_iload_n C (n' := 10) 1 rfl dX8_allPlaces_9 rfl rfl ?_
            refine g_aload_n C (n' := 11) 2 rfl dX8_allPlaces_10 rfl rfl ?_
            refine g_get C (n' := 14) (Cn := RX8) (T := TX8) (N := 35) (ci := 6) (v := .ref (q 13)) ga_X8 0 rfl rfl 13 (by decide) kw_703 rfl rfl dX8_allPlaces_11 rfl ?_
            refine g_iload_n C (n' := 15) 0 rfl dX8_allPlaces_14 rfl rfl ?_
            refine g_ialdN C (n' := 16) (f := (A 13)) (j := 2) 7 0 rfl rfl (by omega) (by decide) rfl dX8_allPlaces_15 rfl ?_
            have h_15 := hA 13 2
            refine g_if_ge C (n' := 19) 23 dX8_allPlaces_16 (by decide) rfl (by unfold inR; omega) (fun c6 => ?_) (fun c6 => ?_)
            · skip
              refine g_aload_n C (n' := 24) 2 rfl dX8_allPlaces_23 rfl rfl ?_
              refine g_get C (n' := 27) (Cn := RX8) (T := TX8) (N := 35) (ci := 6) (v := .ref (q 13)) ga_X8 0 rfl rfl 13 (by decide) kw_703 rfl rfl dX8_allPlaces_24 rfl ?_
              refine g_iload_n C (n' := 28) 0 rfl dX8_allPlaces_27 rfl rfl ?_
              refine g_ialdN C (n' := 29) (f := (A 13)) (j := 2) 7 0 rfl rfl (by omega) (by decide) rfl dX8_allPlaces_28 rfl ?_
              have h_28 := hA 13 2
              refine g_iadd C (n' := 30) dX8_allPlaces_29 rfl ?_
              refine g_istore_n C (n' := 31) [(1, .int (iI (((0 + ((A 13) 0)) + ((A 13) 1)) + ((A 13) 2)))), (2, .int (iI 2)), (0, .ref (q 99))] dX8_allPlaces_30 rfl rfl (by decide) rfl ?_
              refine g_iinc C (n' := 34) 1 [(2, .int (iI 3)), (1, .int (iI (((0 + ((A 13) 0)) + ((A 13) 1)) + ((A 13) 2)))), (0, .ref (q 99))] rfl dX8_allPlaces_31 rfl (by decide) rfl ?_
              refine g_goto C 4 dX8_allPlaces_34 (by decide) ?_
              refine g_iload_n C (n' := 5) 0 rfl dX8_allPlaces_4 rfl rfl ?_
              refine g_iconst C (n' := 6) dX8_allPlaces_5 rfl ?_
              refine g_icmp_ge C (n' := 9) 37 dX8_allPlaces_6 (by decide) rfl (by unfold inR; omega) (by unfold inR; omega) (fun c7 => ?_) (fun c7 => ?_)
              · skip
                refine g_iload_n C (n' := 38) 1 rfl dX8_allPlaces_37 rfl rfl ?_
                refine g_iret C hr hlk rfl ⟨congrArg (fun z : Int => some (Value.int (iI z))) ?_, ?_⟩ dX8_allPlaces_38
                · first | rfl | (unfold sz0; (repeat' split) <;> omega)
                · first | rfl | (unfold sz0; (repeat' split) <;> omega)
              · skip
                exfalso
                omega
            · skip
              refine g_iconst C (n' := 20) dX8_allPlaces_19 rfl ?_
              refine g_goto C 29 dX8_allPlaces_20 (by decide) ?_
              refine g_iadd C (n' := 30) dX8_allPlaces_29 rfl ?_
              refine g_istore_n C (n' := 31) [(1, .int (iI (((0 + ((A 13) 0)) + ((A 13) 1)) + 0))), (2, .int (iI 2)), (0, .ref (q 99))] dX8_allPlaces_30 rfl rfl (by decide) rfl ?_
              refine g_iinc C (n' := 34) 1 [(2, .int (iI 3)), (1, .int (iI (((0 + ((A 13) 0)) + ((A 13) 1)) + 0))), (0, .ref (q 99))] rfl dX8_allPlaces_31 rfl (by decide) rfl ?_
              refine g_goto C 4 dX8_allPlaces_34 (by decide) ?_
              refine g_iload_n C (n' := 5) 0 rfl dX8_allPlaces_4 rfl rfl ?_
              refine g_iconst C (n' := 6) dX8_allPlaces_5 rfl ?_
              refine g_icmp_ge C (n' := 9) 37 dX8_allPlaces_6 (by decide) rfl (by unfold inR; omega) (by unfold inR; omega) (fun c8 => ?_) (fun c8 => ?_)
              · skip
                refine g_iload_n C (n' := 38) 1 rfl dX8_allPlaces_37 rfl rfl ?_
                refine g_iret C hr hlk rfl ⟨congrArg (fun z : Int => some (Value.int (iI z))) ?_, ?_⟩ dX8_allPlaces_38
                · first | rfl | (unfold sz0; (repeat' split) <;> omega)
                · first | rfl | (unfold sz0; (repeat' split) <;> omega)
              · skip
                exfalso
                omega
        · skip
          refine g_iconst C (n' := 20) dX8_allPlaces_19 rfl ?_
          refine g_goto C 29 dX8_allPlaces_20 (by decide) ?_
          refine g_iadd C (n' := 30) dX8_allPlaces_29 rfl ?_
          refine g_istore_n C (n' := 31) [(1, .int (iI ((0 + ((A 13) 0)) + 0))), (2, .int (iI 1)), (0, .ref (q 99))] dX8_allPlaces_30 rfl rfl (by decide) rfl ?_
          refine g_iinc C (n' := 34) 1 [(2, .int (iI 2)), (1, .int (iI ((0 + ((A 13) 0)) + 0))), (0, .ref (q 99))] rfl dX8_allPlaces_31 rfl (by decide) rfl ?_
          refine g_goto C 4 dX8_allPlaces_34 (by decide) ?_
          refine g_iload_n C (n' := 5) 0 rfl dX8_allPlaces_4 rfl rfl ?_
          refine g_iconst C (n' := 6) dX8_allPlaces_5 rfl ?_
          refine g_icmp_ge C (n' := 9) 37 dX8_allPlaces_6 (by decide) rfl (by unfold inR; omega) (by unfold inR; omega) (fun c9 => ?_) (fun c9 => ?_)
          · skip
            exfalso
            omega
          · skip
            refine g_iload_n C (n' := 10) 1 rfl dX8_allPlaces_9 rfl rfl ?_
            refine g_aload_n C (n' := 11) 2 rfl dX8_allPlaces_10 rfl rfl ?_
            refine g_get C (n' := 14) (Cn := RX8) (T := TX8) (N := 35) (ci := 6) (v := .ref (q 13)) ga_X8 0 rfl rfl 13 (by decide) kw_703 rfl rfl dX8_allPlaces_11 rfl ?_
            refine g_iload_n C (n' := 15) 0 rfl dX8_allPlaces_14 rfl rfl ?_
            refine g_ialdN C (n' := 16) (f := (A 13)) (j := 2) 7 0 rfl rfl (by omega) (by decide) rfl dX8_allPlaces_15 rfl ?_
            have h_15 := hA 13 2
            refine g_if_ge C (n' := 19) 23 dX8_allPlaces_16 (by decide) rfl (by unfold inR; omega) (fun c10 => ?_) (fun c10 => ?_)
            · skip
              refine g_aload_n C (n' := 24) 2 rfl dX8_allPlaces_23 rfl rfl ?_
              refine g_get C (n' := 27) (Cn := RX8) (T := TX8) (N := 35) (ci := 6) (v := .ref (q 13)) ga_X8 0 rfl rfl 13 (by decide) kw_703 rfl rfl dX8_allPlaces_24 rfl ?_
              refine g_iload_n C (n' := 28) 0 rfl dX8_allPlaces_27 rfl rfl ?_
              refine g_ialdN C (n' := 29) (f := (A 13)) (j := 2) 7 0 rfl rfl (by omega) (by decide) rfl dX8_allPlaces_28 rfl ?_
              have h_28 := hA 13 2
              refine g_iadd C (n' := 30) dX8_allPlaces_29 rfl ?_
              refine g_istore_n C (n' := 31) [(1, .int (iI (((0 + ((A 13) 0)) + 0) + ((A 13) 2)))), (2, .int (iI 2)), (0, .ref (q 99))] dX8_allPlaces_30 rfl rfl (by decide) rfl ?_
              refine g_iinc C (n' := 34) 1 [(2, .int (iI 3)), (1, .int (iI (((0 + ((A 13) 0)) + 0) + ((A 13) 2)))), (0, .ref (q 99))] rfl dX8_allPlaces_31 rfl (by decide) rfl ?_
              refine g_goto C 4 dX8_allPlaces_34 (by decide) ?_
              refine g_iload_n C (n' := 5) 0 rfl dX8_allPlaces_4 rfl rfl ?_
              refine g_iconst C (n' := 6) dX8_allPlaces_5 rfl ?_
              refine g_icmp_ge C (n' := 9) 37 dX8_allPlaces_6 (by decide) rfl (by unfold inR; omega) (by unfold inR; omega) (fun c11 => ?_) (fun c11 => ?_)
              · skip
                refine g_iload_n C (n' := 38) 1 rfl dX8_allPlaces_37 rfl rfl ?_
                refine g_iret C hr hlk rfl ⟨congrArg (fun z : Int => some (Value.int (iI z))) ?_, ?_⟩ dX8_allPlaces_38
                · first | rfl | (unfold sz0; (repeat' split) <;> omega)
                · first | rfl | (unfold sz0; (repeat' split) <;> omega)
              · skip
                exfalso
                omega
            · skip
              refine g_iconst C (n' := 20) dX8_allPlaces_19 rfl ?_
              refine g_goto C 29 dX8_allPlaces_20 (by decide) ?_
              refine g_iadd C (n' := 30) dX8_allPlaces_29 rfl ?_
              refine g_istore_n C (n' := 31) [(1, .int (iI (((0 + ((A 13) 0)) + 0) + 0))), (2, .int (iI 2)), (0, .ref (q 99))] dX8_allPlaces_30 rfl rfl (by decide) rfl ?_
              refine g_iinc C (n' := 34) 1 [(2, .int (iI 3)), (1, .int (iI (((0 + ((A 13) 0)) + 0) + 0))), (0, .ref (q 99))] rfl dX8_allPlaces_31 rfl (by decide) rfl ?_
              refine g_goto C 4 dX8_allPlaces_34 (by decide) ?_
              refine g_iload_n C (n' := 5) 0 rfl dX8_allPlaces_4 rfl rfl ?_
              refine g_iconst C (n' := 6) dX8_allPlaces_5 rfl ?_
              refine g_icmp_ge C (n' := 9) 37 dX8_allPlaces_6 (by decide) rfl (by unfold inR; omega) (by unfold inR; omega) (fun c12 => ?_) (fun c12 => ?_)
              · skip
                refine g_iload_n C (n' := 38) 1 rfl dX8_allPlaces_37 rfl rfl ?_
                refine g_iret C hr hlk rfl ⟨congrArg (fun z : Int => some (Value.int (iI z))) ?_, ?_⟩ dX8_allPlaces_38
                · first | rfl | (unfold sz0; (repeat' split) <;> omega)
                · first | rfl | (unfold sz0; (repeat' split) <;> omega)
              · skip
                exfalso
                omega
    · skip
      refine g_iconst C (n' := 20) dX8_allPlaces_19 rfl ?_
      refine g_goto C 29 dX8_allPlaces_20 (by decide) ?_
      refine g_iadd C (n' := 30) dX8_allPlaces_29 rfl ?_
      refine g_st (st' := [.int (iI 0)]) rfl ?_
      refine g_istore_n C (n' := 31) [(1, .int (iI 0)), (2, .int (iI 0)), (0, .ref (q 99))] dX8_allPlaces_30 rfl rfl (by decide) rfl ?_
      refine g_iinc C (n' := 34) 1 [(2, .int (iI 1)), (1, .int (iI 0)), (0, .ref (q 99))] rfl dX8_allPlaces_31 rfl (by decide) rfl ?_
      refine g_goto C 4 dX8_allPlaces_34 (by decide) ?_
      refine g_iload_n C (n' := 5) 0 rfl dX8_allPlaces_4 rfl rfl ?_
      refine g_iconst C (n' := 6) dX8_allPlaces_5 rfl ?_
      refine g_icmp_ge C (n' := 9) 37 dX8_allPlaces_6 (by decide) rfl (by unfold inR; omega) (by unfold inR; omega) (fun c13 => ?_) (fun c13 => ?_)
      · skip
        exfalso
        omega
      · skip
        refine g_iload_n C (n' := 10) 1 rfl dX8_allPlaces_9 rfl rfl ?_
        refine g_aload_n C (n' := 11) 2 rfl dX8_allPlaces_10 rfl rfl ?_
        refine g_get C (n' := 14) (Cn := RX8) (T := TX8) (N := 35) (ci := 6) (v := .ref (q 13)) ga_X8 0 rfl rfl 13 (by decide) kw_703 rfl rfl dX8_allPlaces_11 rfl ?_
        refine g_iload_n C (n' := 15) 0 rfl dX8_allPlaces_14 rfl rfl ?_
        refine g_ialdN C (n' := 16) (f := (A 13)) (j := 1) 7 0 rfl rfl (by omega) (by decide) rfl dX8_allPlaces_15 rfl ?_
        have h_15 := hA 13 1
        refine g_if_ge C (n' := 19) 23 dX8_allPlaces_16 (by decide) rfl (by unfold inR; omega) (fun c14 => ?_) (fun c14 => ?_)
        · skip
          refine g_aload_n C (n' := 24) 2 rfl dX8_allPlaces_23 rfl rfl ?_
          refine g_get C (n' := 27) (Cn := RX8) (T := TX8) (N := 35) (ci := 6) (v := .ref (q 13)) ga_X8 0 rfl rfl 13 (by decide) kw_703 rfl rfl dX8_allPlaces_24 rfl ?_
          refine g_iload_n C (n' := 28) 0 rfl dX8_allPlaces_27 rfl rfl ?_
          refine g_ialdN C (n' := 29) (f := (A 13)) (j := 1) 7 0 rfl rfl (by omega) (by decide) rfl dX8_allPlaces_28 rfl ?_
          have h_28 := hA 13 1
          refine g_iadd C (n' := 30) dX8_allPlaces_29 rfl ?_
          refine g_istore_n C (n' := 31) [(1, .int (iI (0 + ((A 13) 1)))), (2, .int (iI 1)), (0, .ref (q 99))] dX8_allPlaces_30 rfl rfl (by decide) rfl ?_
          refine g_iinc C (n' := 34) 1 [(2, .int (iI 2)), (1, .int (iI (0 + ((A 13) 1)))), (0, .ref (q 99))] rfl dX8_allPlaces_31 rfl (by decide) rfl ?_
          refine g_goto C 4 dX8_allPlaces_34 (by decide) ?_
          refine g_iload_n C (n' := 5) 0 rfl dX8_allPlaces_4 rfl rfl ?_
          refine g_iconst C (n' := 6) dX8_allPlaces_5 rfl ?_
          refine g_icmp_ge C (n' := 9) 37 dX8_allPlaces_6 (by decide) rfl (by unfold inR; omega) (by unfold inR; omega) (fun c15 => ?_) (fun c15 => ?_)
          · skip
            exfalso
            omega
          · skip
            refine g_iload_n C (n' := 10) 1 rfl dX8_allPlaces_9 rfl rfl ?_
            refine g_aload_n C (n' := 11) 2 rfl dX8_allPlaces_10 rfl rfl ?_
            refine g_get C (n' := 14) (Cn := RX8) (T := TX8) (N := 35) (ci := 6) (v := .ref (q 13)) ga_X8 0 rfl rfl 13 (by decide) kw_703 rfl rfl dX8_allPlaces_11 rfl ?_
            refine g_iload_n C (n' := 15) 0 rfl dX8_allPlaces_14 rfl rfl ?_
            refine g_ialdN C (n' := 16) (f := (A 13)) (j := 2) 7 0 rfl rfl (by omega) (by decide) rfl dX8_allPlaces_15 rfl ?_
            have h_15 := hA 13 2
            refine g_if_ge C (n' := 19) 23 dX8_allPlaces_16 (by decide) rfl (by unfold inR; omega) (fun c16 => ?_) (fun c16 => ?_)
            · skip
              refine g_aload_n C (n' := 24) 2 rfl dX8_allPlaces_23 rfl rfl ?_
              refine g_get C (n' := 27) (Cn := RX8) (T := TX8) (N := 35) (ci := 6) (v := .ref (q 13)) ga_X8 0 rfl rfl 13 (by decide) kw_703 rfl rfl dX8_allPlaces_24 rfl ?_
              refine g_iload_n C (n' := 28) 0 rfl dX8_allPlaces_27 rfl rfl ?_
              refine g_ialdN C (n' := 29) (f := (A 13)) (j := 2) 7 0 rfl rfl (by omega) (by decide) rfl dX8_allPlaces_28 rfl ?_
              have h_28 := hA 13 2
              refine g_iadd C (n' := 30) dX8_allPlaces_29 rfl ?_
              refine g_istore_n C (n' := 31) [(1, .int (iI ((0 + ((A 13) 1)) + ((A 13) 2)))), (2, .int (iI 2)), (0, .ref (q 99))] dX8_allPlaces_30 rfl rfl (by decide) rfl ?_
              refine g_iinc C (n' := 34) 1 [(2, .int (iI 3)), (1, .int (iI ((0 + ((A 13) 1)) + ((A 13) 2)))), (0, .ref (q 99))] rfl dX8_allPlaces_31 rfl (by decide) rfl ?_
              refine g_goto C 4 dX8_allPlaces_34 (by decide) ?_
              refine g_iload_n C (n' := 5) 0 rfl dX8_allPlaces_4 rfl rfl ?_
              refine g_iconst C (n' := 6) dX8_allPlaces_5 rfl ?_
              refine g_icmp_ge C (n' := 9) 37 dX8_allPlaces_6 (by decide) rfl (by unfold inR; omega) (by unfold inR; omega) (fun c17 => ?_) (fun c17 => ?_)
              · skip
                refine g_iload_n C (n' := 38) 1 rfl dX8_allPlaces_37 rfl rfl ?_
                refine g_iret C hr hlk rfl ⟨congrArg (fun z : Int => some (Value.int (iI z))) ?_, ?_⟩ dX8_allPlaces_38
                · first | rfl | (unfold sz0; (repeat' split) <;> omega)
                · first | rfl | (unfold sz0; (repeat' split) <;> omega)
              · skip
                exfalso
                omega
            · skip
              refine g_iconst C (n' := 20) dX8_allPlaces_19 rfl ?_
              refine g_goto C 29 dX8_allPlaces_20 (by decide) ?_
              refine g_iadd C (n' := 30) dX8_allPlaces_29 rfl ?_
              refine g_istore_n C (n' := 31) [(1, .int (iI ((0 + ((A 13) 1)) + 0))), (2, .int (iI 2)), (0, .ref (q 99))] dX8_allPlaces_30 rfl rfl (by decide) rfl ?_
              refine g_iinc C (n' := 34) 1 [(2, .int (iI 3)), (1, .int (iI ((0 + ((A 13) 1)) + 0))), (0, .ref (q 99))] rfl dX8_allPlaces_31 rfl (by decide) rfl ?_
              refine g_goto C 4 dX8_allPlaces_34 (by decide) ?_
              refine g_iload_n C (n' := 5) 0 rfl dX8_allPlaces_4 rfl rfl ?_
              refine g_iconst C (n' := 6) dX8_allPlaces_5 rfl ?_
              refine g_icmp_ge C (n' := 9) 37 dX8_allPlaces_6 (by decide) rfl (by unfold inR; omega) (by unfold inR; omega) (fun c18 => ?_) (fun c18 => ?_)
              · skip
                refine g_iload_n C (n' := 38) 1 rfl dX8_allPlaces_37 rfl rfl ?_
                refine g_iret C hr hlk rfl ⟨congrArg (fun z : Int => some (Value.int (iI z))) ?_, ?_⟩ dX8_allPlaces_38
                · first | rfl | (unfold sz0; (repeat' split) <;> omega)
                · first | rfl | (unfold sz0; (repeat' split) <;> omega)
              · skip
                exfalso
                omega
        · skip
          refine g_iconst C (n' := 20) dX8_allPlaces_19 rfl ?_
          refine g_goto C 29 dX8_allPlaces_20 (by decide) ?_
          refine g_iadd C (n' := 30) dX8_allPlaces_29 rfl ?_
          refine g_st (st' := [.int (iI 0)]) rfl ?_
          refine g_istore_n C (n' := 31) [(1, .int (iI 0)), (2, .int (iI 1)), (0, .ref (q 99))] dX8_allPlaces_30 rfl rfl (by decide) rfl ?_
          refine g_iinc C (n' := 34) 1 [(2, .int (iI 2)), (1, .int (iI 0)), (0, .ref (q 99))] rfl dX8_allPlaces_31 rfl (by decide) rfl ?_
          refine g_goto C 4 dX8_allPlaces_34 (by decide) ?_
          refine g_iload_n C (n' := 5) 0 rfl dX8_allPlaces_4 rfl rfl ?_
          refine g_iconst C (n' := 6) dX8_allPlaces_5 rfl ?_
          refine g_icmp_ge C (n' := 9) 37 dX8_allPlaces_6 (by decide) rfl (by unfold inR; omega) (by unfold inR; omega) (fun c19 => ?_) (fun c19 => ?_)
          · skip
            exfalso
            omega
          · skip
            refine g_iload_n C (n' := 10) 1 rfl dX8_allPlaces_9 rfl rfl ?_
            refine g_aload_n C (n' := 11) 2 rfl dX8_allPlaces_10 rfl rfl ?_
            refine g_get C (n' := 14) (Cn := RX8) (T := TX8) (N := 35) (ci := 6) (v := .ref (q 13)) ga_X8 0 rfl rfl 13 (by decide) kw_703 rfl rfl dX8_allPlaces_11 rfl ?_
            refine g_iload_n C (n' := 15) 0 rfl dX8_allPlaces_14 rfl rfl ?_
            refine g_ialdN C (n' := 16) (f := (A 13)) (j := 2) 7 0 rfl rfl (by omega) (by decide) rfl dX8_allPlaces_15 rfl ?_
            have h_15 := hA 13 2
            refine g_if_ge C (n' := 19) 23 dX8_allPlaces_16 (by decide) rfl (by unfold inR; omega) (fun c20 => ?_) (fun c20 => ?_)
            · skip
              refine g_aload_n C (n' := 24) 2 rfl dX8_allPlaces_23 rfl rfl ?_
              refine g_get C (n' := 27) (Cn := RX8) (T := TX8) (N := 35) (ci := 6) (v := .ref (q 13)) ga_X8 0 rfl rfl 13 (by decide) kw_703 rfl rfl dX8_allPlaces_24 rfl ?_
              refine g_iload_n C (n' := 28) 0 rfl dX8_allPlaces_27 rfl rfl ?_
              refine g_ialdN C (n' := 29) (f := (A 13)) (j := 2) 7 0 rfl rfl (by omega) (by decide) rfl dX8_allPlaces_28 rfl ?_
              have h_28 := hA 13 2
              refine g_iadd C (n' := 30) dX8_allPlaces_29 rfl ?_
              refine g_istore_n C (n' := 31) [(1, .int (iI (0 + ((A 13) 2)))), (2, .int (iI 2)), (0, .ref (q 99))] dX8_allPlaces_30 rfl rfl (by decide) rfl ?_
              refine g_iinc C (n' := 34) 1 [(2, .int (iI 3)), (1, .int (iI (0 + ((A 13) 2)))), (0, .ref (q 99))] rfl dX8_allPlaces_31 rfl (by decide) rfl ?_
              refine g_goto C 4 dX8_allPlaces_34 (by decide) ?_
              refine g_iload_n C (n' := 5) 0 rfl dX8_allPlaces_4 rfl rfl ?_
              refine g_iconst C (n' := 6) dX8_allPlaces_5 rfl ?_
              refine g_icmp_ge C (n' := 9) 37 dX8_allPlaces_6 (by decide) rfl (by unfold inR; omega) (by unfold inR; omega) (fun c21 => ?_) (fun c21 => ?_)
              · skip
                refine g_iload_n C (n' := 38) 1 rfl dX8_allPlaces_37 rfl rfl ?_
                refine g_iret C hr hlk rfl ⟨congrArg (fun z : Int => some (Value.int (iI z))) ?_, ?_⟩ dX8_allPlaces_38
                · first | rfl | (unfold sz0; (repeat' split) <;> omega)
                · first | rfl | (unfold sz0; (repeat' split) <;> omega)
              · skip
                exfalso
                omega
            · skip
              refine g_iconst C (n' := 20) dX8_allPlaces_19 rfl ?_
              refine g_goto C 29 dX8_allPlaces_20 (by decide) ?_
              refine g_iadd C (n' := 30) dX8_allPlaces_29 rfl ?_
              refine g_st (st' := [.int (iI 0)]) rfl ?_
              refine g_istore_n C (n' := 31) [(1, .int (iI 0)), (2, .int (iI 2)), (0, .ref (q 99))] dX8_allPlaces_30 rfl rfl (by decide) rfl ?_
              refine g_iinc C (n' := 34) 1 [(2, .int (iI 3)), (1, .int (iI 0)), (0, .ref (q 99))] rfl dX8_allPlaces_31 rfl (by decide) rfl ?_
              refine g_goto C 4 dX8_allPlaces_34 (by decide) ?_
              refine g_iload_n C (n' := 5) 0 rfl dX8_allPlaces_4 rfl rfl ?_
              refine g_iconst C (n' := 6) dX8_allPlaces_5 rfl ?_
              refine g_icmp_ge C (n' := 9) 37 dX8_allPlaces_6 (by decide) rfl (by unfold inR; omega) (by unfold inR; omega) (fun c22 => ?_) (fun c22 => ?_)
              · skip
                refine g_iload_n C (n' := 38) 1 rfl dX8_allPlaces_37 rfl rfl ?_
                refine g_iret C hr hlk rfl ⟨congrArg (fun z : Int => some (Value.int (iI z))) ?_, ?_⟩ dX8_allPlaces_38
                · first | rfl | (unfold sz0; (repeat' split) <;> omega)
                · first | rfl | (unfold sz0; (repeat' split) <;> omega)
              · skip
                exfalso
                omega
set_option maxRecDepth 100000 in
set_option maxHeartbeats 4000000 in
theorem c_X8_count (l : Launch) (D : va_G) (Y : Nat → ClassId) {E : (Nat → Prop) → State → Heap → Prop} (hE : g_Stab E) (q : Nat → Nat) (I : Nat → Int) (A : Nat → Nat → Int) (F : Nat → UInt32) (Dd : Nat → UInt64) (x : Int) (hsI : smI I) (hsA : smA A) (hN : okN (mJ I A) (mN A)) (hz : szOK A) (hx : inR x) : g_Ct l yX8_count cX8_count 2 (some FieldType.int) ({ frames := 2, cells := 0, slots := 0, locals := 43 } : Room) D (tysY Y) E [.ref (q 99), .int (iI x)] (wMod q Y I A F Dd) 0 0 (g_det (some (.int (iI (coV (mJ I A) (mN A) (sz0 (A 13 0) + sz0 (A 13 1) + sz0 (A 13 2)) (I 8) (I 11) x)))) (wMod q Y I A F Dd)) := by
  refine g_ofG (own := RX8) hE (by decide) rfl (Nat.le_of_ble_eq_true rfl) [(0, .ref (q 99)), (1, .int (iI x))] rfl ?_
  intro p9 e9 s9 m9 b9 t9 c9 A9 C hr hlk hnm
  have hI := hsI
  have hA := hsA
  unfold smI at hI
  unfold smA at hA
  have hN9 := hN
  unfold okN at hN9
  simp only [mJ, mN] at hN9
  have hx9 := hx
  unfold inR at hx9
  refine g_iload_n C (n' := 1) 1 rfl dX8_count_0 rfl rfl ?_
  by_cases c1 : x = 0
  · skip
    refine g_tsIn C 56 dX8_count_1 (by unfold inR; omega) (by omega) (by omega) (by rw [c1]; rfl) (by decide) ?_
    refine g_aload_n C (n' := 57) 0 rfl dX8_count_56 rfl rfl ?_
    refine g_get C (n' := 60) (Cn := RX8) (T := TX8) (N := 35) (ci := 6) (v := .int (iI (I 1))) ga_X8 0 rfl rfl 1 (by decide) kw_691 rfl rfl dX8_count_57 rfl ?_
    have h_57 := hI 1
    refine g_iret C hr hlk rfl ⟨congrArg (fun z : Int => some (Value.int (iI z))) ?_, rfl⟩ dX8_count_60
    unfold coV
    rw [if_pos (by omega)]
    rfl
  by_cases c2 : x = 1
  · skip
    refine g_tsIn C 61 dX8_count_1 (by unfold inR; omega) (by omega) (by omega) (by rw [c2]; rfl) (by decide) ?_
    refine g_aload_n C (n' := 62) 0 rfl dX8_count_61 rfl rfl ?_
    refine g_get C (n' := 65) (Cn := RX8) (T := TX8) (N := 35) (ci := 6) (v := .int (iI (I 2))) ga_X8 0 rfl rfl 2 (by decide) kw_692 rfl rfl dX8_count_62 rfl ?_
    have h_62 := hI 2
    refine g_iret C hr hlk rfl ⟨congrArg (fun z : Int => some (Value.int (iI z))) ?_, rfl⟩ dX8_count_65
    unfold coV
    rw [if_neg (by omega)]
    rw [if_pos (by omega)]
    rfl
  by_cases c3 : x = 2
  · skip
    refine g_tsIn C 66 dX8_count_1 (by unfold inR; omega) (by omega) (by omega) (by rw [c3]; rfl) (by decide) ?_
    refine g_aload_n C (n' := 67) 0 rfl dX8_count_66 rfl rfl ?_
    refine g_get C (n' := 70) (Cn := RX8) (T := TX8) (N := 35) (ci := 6) (v := .int (iI (I 5))) ga_X8 0 rfl rfl 5 (by decide) kw_695 rfl rfl dX8_count_67 rfl ?_
    have h_67 := hI 5
    refine g_iret C hr hlk rfl ⟨congrArg (fun z : Int => some (Value.int (iI z))) ?_, rfl⟩ dX8_count_70
    unfold coV
    rw [if_neg (by omega)]
    rw [if_neg (by omega)]
    rw [if_pos (by omega)]
    rfl
  by_cases c4 : x = 3
  · skip
    refine g_tsIn C 71 dX8_count_1 (by unfold inR; omega) (by omega) (by omega) (by rw [c4]; rfl) (by decide) ?_
    refine g_aload_n C (n' := 72) 0 rfl dX8_count_71 rfl rfl ?_
    refine g_get C (n' := 75) (Cn := RX8) (T := TX8) (N := 35) (ci := 6) (v := .int (iI (I 6))) ga_X8 0 rfl rfl 6 (by decide) kw_696 rfl rfl dX8_count_72 rfl ?_
    have h_72 := hI 6
    refine g_iret C hr hlk rfl ⟨congrArg (fun z : Int => some (Value.int (iI z))) ?_, rfl⟩ dX8_count_75
    unfold coV
    rw [if_neg (by omega)]
    rw [if_neg (by omega)]
    rw [if_neg (by omega)]
    rw [if_pos (by omega)]
    rfl
  by_cases c5 : x = 4
  · skip
    refine g_tsIn C 76 dX8_count_1 (by unfold inR; omega) (by omega) (by omega) (by rw [c5]; rfl) (by decide) ?_
    refine g_aload_n C (n' := 77) 0 rfl dX8_count_76 rfl rfl ?_
    refine g_get C (n' := 80) (Cn := RX8) (T := TX8) (N := 35) (ci := 6) (v := .int (iI (I 7))) ga_X8 0 rfl rfl 7 (by decide) kw_697 rfl rfl dX8_count_77 rfl ?_
    have h_77 := hI 7
    refine g_iret C hr hlk rfl ⟨congrArg (fun z : Int => some (Value.int (iI z))) ?_, rfl⟩ dX8_count_80
    unfold coV
    rw [if_neg (by omega)]
    rw [if_neg (by omega)]
    rw [if_neg (by omega)]
    rw [if_neg (by omega)]
    rw [if_pos (by omega)]
    rfl
  by_cases c6 : x = 5
  · skip
    refine g_tsIn C 81 dX8_count_1 (by unfold inR; omega) (by omega) (by omega) (by rw [c6]; rfl) (by decide) ?_
    refine g_aload_n C (n' := 82) 0 rfl dX8_count_81 rfl rfl ?_
    refine g_get C (n' := 85) (Cn := RX8) (T := TX8) (N := 35) (ci := 6) (v := .ref (q 0)) ga_X8 0 rfl rfl 0 (by decide) kw_690 rfl rfl dX8_count_82 rfl ?_
    refine g_iconst C (n' := 86) dX8_count_85 rfl ?_
    refine g_ialdN C (n' := 87) (f := (A 0)) (j := 0) 1 0 rfl rfl (by omega) (by decide) rfl dX8_count_86 rfl ?_
    have h_86 := hA 0 0
    refine g_iret C hr hlk rfl ⟨congrArg (fun z : Int => some (Value.int (iI z))) ?_, rfl⟩ dX8_count_87
    unfold coV
    rw [if_neg (by omega)]
    rw [if_neg (by omega)]
    rw [if_neg (by omega)]
    rw [if_neg (by omega)]
    rw [if_neg (by omega)]
    rw [if_pos (by omega)]
    rfl
  by_cases c7 : x = 6
  · skip
    refine g_tsIn C 88 dX8_count_1 (by unfold inR; omega) (by omega) (by omega) (by rw [c7]; rfl) (by decide) ?_
    refine g_aload_n C (n' := 89) 0 rfl dX8_count_88 rfl rfl ?_
    refine g_cVv C (n' := 92) (v := .int (iI (sz0 ((A 13) 0) + sz0 ((A 13) 1) + sz0 ((A 13) 2)))) (c_X8_allPlaces l D Y C.2.2.2.2.2.2.2.2.1 q I A F Dd hsI hsA hz) 0 kw_1045 kc_X8_allPlaces (by decide +kernel) (pm0 _) 0 (ci := 6) rfl rfl rfl rfl ⟨Nat.le_of_ble_eq_true rfl, Nat.le_of_ble_eq_true rfl⟩ ⟨rfl, rfl⟩ ⟨Nat.le_of_ble_eq_true rfl, Nat.le_of_ble_eq_true rfl⟩ (Nat.le_of_ble_eq_true rfl) dX8_count_89 rfl rfl (wMod q Y I A F Dd) (pm0' _) ?_
    refine g_iret C hr hlk rfl ⟨congrArg (fun z : Int => some (Value.int (iI z))) ?_, rfl⟩ dX8_count_92
    unfold coV
    rw [if_neg (by omega)]
    rw [if_neg (by omega)]
    rw [if_neg (by omega)]
    rw [if_neg (by omega)]
    rw [if_neg (by omega)]
    rw [if_neg (by omega)]
    rw [if_pos (by omega)]
  by_cases c8 : x = 7
  · skip
    refine g_tsIn C 93 dX8_count_1 (by unfold inR; omega) (by omega) (by omega) (by rw [c8]; rfl) (by decide) ?_
    refine g_aload_n C (n' := 94) 0 rfl dX8_count_93 rfl rfl ?_
    refine g_get C (n' := 97) (Cn := RX8) (T := TX8) (N := 35) (ci := 6) (v := .int (iI (I 8))) ga_X8 0 rfl rfl 8 (by decide) kw_698 rfl rfl dX8_count_94 rfl ?_
    have h_94 := hI 8
    refine g_iret C hr hlk rfl ⟨congrArg (fun z : Int => some (Value.int (iI z))) ?_, rfl⟩ dX8_count_97
    unfold coV
    rw [if_neg (by omega)]
    rw [if_neg (by omega)]
    rw [if_neg (by omega)]
    rw [if_neg (by omega)]
    rw [if_neg (by omega)]
    rw [if_neg (by omega)]
    rw [if_neg (by omega)]
    rw [if_pos (by omega)]
  by_cases c9 : x = 8
  · skip
    refine g_tsIn C 98 dX8_count_1 (by unfold inR; omega) (by omega) (by omega) (by rw [c9]; rfl) (by decide) ?_
    refine g_aload_n C (n' := 99) 0 rfl dX8_count_98 rfl rfl ?_
    refine g_get C (n' := 102) (Cn := RX8) (T := TX8) (N := 35) (ci := 6) (v := .int (iI (I 11))) ga_X8 0 rfl rfl 11 (by decide) kw_701 rfl rfl dX8_count_99 rfl ?_
    have h_99 := hI 11
    refine g_iret C hr hlk rfl ⟨congrArg (fun z : Int => some (Value.int (iI z))) ?_, rfl⟩ dX8_count_102
    unfold coV
    rw [if_neg (by omega)]
    rw [if_neg (by omega)]
    rw [if_neg (by omega)]
    rw [if_neg (by omega)]
    rw [if_neg (by omega)]
    rw [if_neg (by omega)]
    rw [if_neg (by omega)]
    rw [if_neg (by omega)]
    rw [if_pos (by omega)]
  by_cases c10 : x = 9
  · skip
    refine g_tsIn C 103 dX8_count_1 (by unfold inR; omega) (by omega) (by omega) (by rw [c10]; rfl) (by decide) ?_
    refine g_aload_n C (n' := 104) 0 rfl dX8_count_103 rfl rfl ?_
    refine g_cVv C (n' := 107) (v := .int (iI (n_ts (mJ I A) (mN A) ((I 2)).toNat))) (c_X8_tooSoon l D Y C.2.2.2.2.2.2.2.2.1 q I A F Dd hsI hsA hN) 0 kw_1049 kc_X8_tooSoon (by decide +kernel) (pm0 _) 0 (ci := 6) rfl rfl rfl rfl ⟨Nat.le_of_ble_eq_true rfl, Nat.le_of_ble_eq_true rfl⟩ ⟨rfl, rfl⟩ ⟨Nat.le_of_ble_eq_true rfl, Nat.le_of_ble_eq_true rfl⟩ (Nat.le_of_ble_eq_true rfl) dX8_count_104 rfl rfl (wMod q Y I A F Dd) (pm0' _) ?_
    refine g_iret C hr hlk rfl ⟨congrArg (fun z : Int => some (Value.int (iI z))) ?_, rfl⟩ dX8_count_107
    unfold coV
    rw [if_neg (by omega)]
    rw [if_neg (by omega)]
    rw [if_neg (by omega)]
    rw [if_neg (by omega)]
    rw [if_neg (by omega)]
    rw [if_neg (by omega)]
    rw [if_neg (by omega)]
    rw [if_neg (by omega)]
    rw [if_neg (by omega)]
    rw [if_pos (by omega)]
    rfl
  refine g_tsOut C 108 dX8_count_1 (by unfold inR; omega) (by omega) (by decide) ?_
  refine g_bipush C (n' := 110) (by decide) dX8_count_108 rfl ?_
  refine g_iret C hr hlk rfl ⟨congrArg (fun z : Int => some (Value.int (iI z))) ?_, rfl⟩ dX8_count_110
  unfold coV
  rw [if_neg (by omega)]
  rw [if_neg (by omega)]
  rw [if_neg (by omega)]
  rw [if_neg (by omega)]
  rw [if_neg (by omega)]
  rw [if_neg (by omega)]
  rw [if_neg (by omega)]
  rw [if_neg (by omega)]
  rw [if_neg (by omega)]
  rw [if_neg (by omega)]
set_option maxRecDepth 100000 in
set_option maxHeartbeats 4000000 in
theorem c_X8_noPlace (l : Launch) (D : va_G) (Y : Nat → ClassId) {E : (Nat → Prop) → State → Heap → Prop} (hE : g_Stab E) (q : Nat → Nat) (I : Nat → Int) (A : Nat → Nat → Int) (F : Nat → UInt32) (Dd : Nat → UInt64) (t : Int) (x : Int) (i : Int) (j : Int) (hsI : smI I) (hsA : smA A) (hz : szOK A) (ht : 0 ≤ t ∧ t < 3) (hx : inR x) (hi : inR i) (hj : inR j) : g_Ct l yX8_noPlace cX8_noPlace 5 (some FieldType.int) ({ frames := 1, cells := 0, slots := 0, locals := 25 } : Room) D (tysY Y) E [.ref (q 99), .int (iI t), .int (iI x), .int (iI i), .int (iI j)] (wMod q Y I A F Dd) 0 0 (g_det (some (.int (iI (npV (A 13 t.toNat) (A 12 t.toNat) x i j)))) (wMod q Y I A F Dd)) := by
  refine g_ofG (own := RX8) hE (by decide) rfl (Nat.le_of_ble_eq_true rfl) [(0, .ref (q 99)), (1, .int (iI t)), (2, .int (iI x)), (3, .int (iI i)), (4, .int (iI j))] rfl ?_
  intro p9 e9 s9 m9 b9 t9 c9 A9 C hr hlk hnm
  have hI := hsI
  have hA := hsA
  unfold smI at hI
  unfold smA at hA
  have hx9 := hx
  have hi9 := hi
  have hj9 := hj
  unfold inR at hx9 hi9 hj9
  have hzt := hz t.toNat
  refine g_aload_n C (n' := 1) 0 rfl dX8_noPlace_0 rfl rfl ?_
  refine g_get C (n' := 4) (Cn := RX8) (T := TX8) (N := 35) (ci := 6) (v := .ref (q 13)) ga_X8 0 rfl rfl 13 (by decide) kw_703 rfl rfl dX8_noPlace_1 rfl ?_
  refine g_iload_n C (n' := 5) 1 rfl dX8_noPlace_4 rfl rfl ?_
  refine g_iald C (n' := 6) (f := (A 13)) 7 0 rfl rfl (by omega) (by omega) (by decide) rfl dX8_noPlace_5 rfl ?_
  have h_5 := hA 13 t.toNat
  refine g_if_ge C (n' := 9) 14 dX8_noPlace_6 (by decide) rfl (by unfold inR; omega) (fun c1 => ?_) (fun c1 => ?_)
  · skip
    refine g_aload_n C (n' := 15) 0 rfl dX8_noPlace_14 rfl rfl ?_
    refine g_get C (n' := 18) (Cn := RX8) (T := TX8) (N := 35) (ci := 6) (v := .ref (q 12)) ga_X8 0 rfl rfl 12 (by decide) kw_702 rfl rfl dX8_noPlace_15 rfl ?_
    refine g_iload_n C (n' := 19) 1 rfl dX8_noPlace_18 rfl rfl ?_
    refine g_iald C (n' := 20) (f := (A 12)) 6 0 rfl rfl (by omega) (by omega) (by decide) rfl dX8_noPlace_19 rfl ?_
    have h_19 := hA 12 t.toNat
    refine g_iload_n C (n' := 21) 2 rfl dX8_noPlace_20 rfl rfl ?_
    refine g_icmp_eq C (n' := 24) 29 dX8_noPlace_21 (by decide) rfl (by unfold inR; omega) (by unfold inR; omega) (fun c2 => ?_) (fun c2 => ?_)
    · skip
      refine g_iload_n C (n' := 30) 3 rfl dX8_noPlace_29 rfl rfl ?_
      refine g_i2l C (n' := 31) (by unfold inR; omega) dX8_noPlace_30 rfl ?_
      refine g_lconst C (n' := 32) 0 (by decide) dX8_noPlace_31 rfl ?_
      refine g_aload_n C (n' := 33) 0 rfl dX8_noPlace_32 rfl rfl ?_
      refine g_get C (n' := 36) (Cn := RX8) (T := TX8) (N := 35) (ci := 6) (v := .ref (q 13)) ga_X8 0 rfl rfl 13 (by decide) kw_703 rfl rfl dX8_noPlace_33 rfl ?_
      refine g_iload_n C (n' := 37) 1 rfl dX8_noPlace_36 rfl rfl ?_
      refine g_iald C (n' := 38) (f := (A 13)) 7 0 rfl rfl (by omega) (by omega) (by decide) rfl dX8_noPlace_37 rfl ?_
      have h_37 := hA 13 t.toNat
      refine g_iconst C (n' := 39) dX8_noPlace_38 rfl ?_
      refine g_isub C (n' := 40) dX8_noPlace_39 rfl ?_
      refine g_i2l C (n' := 41) (by unfold inR; omega) dX8_noPlace_40 rfl ?_
      refine g_cSv C (n' := 44) (v := .int (iI (if 0 ≤ i ∧ i ≤ (((A 13) t.toNat) - 1) then 1 else 0))) (c_X8_in l D Y C.2.2.2.2.2.2.2.2.1 i 0 (((A 13) t.toNat) - 1) hi (by unfold inR at *; omega) (by unfold inR at *; omega)) 3 kw_802 kc_X8_in (by decide +kernel) (pm_n _) rfl ⟨Nat.le_of_ble_eq_true rfl, Nat.le_of_ble_eq_true rfl⟩ ⟨rfl, rfl⟩ ⟨Nat.le_of_ble_eq_true rfl, Nat.le_of_ble_eq_true rfl⟩ (Nat.le_of_ble_eq_true rfl) dX8_noPlace_41 rfl rfl (wMod q Y I A F Dd) (pm_n _) ?_
      refine g_if_eq C (n' := 47) 70 dX8_noPlace_44 (by decide) rfl bz_r (fun c3 => ?_) (fun c3 => ?_)
      · skip
        replace c3 := bz_eq.mp c3
        refine g_bipush C (n' := 72) (by decide) dX8_noPlace_70 rfl ?_
        refine g_iret C hr hlk rfl ⟨congrArg (fun z : Int => some (Value.int (iI z))) ?_, ?_⟩ dX8_noPlace_72
        · first | rfl | (unfold npV; (repeat' split) <;> first | rfl | omega)
        · first | rfl | (unfold npV; (repeat' split) <;> first | rfl | omega)
      · skip
        replace c3 := bz_neq.mp c3
        refine g_iload C (n' := 49) 4 rfl dX8_noPlace_47 rfl ?_
        refine g_i2l C (n' := 50) (by unfold inR; omega) dX8_noPlace_49 rfl ?_
        refine g_lconst C (n' := 51) 0 (by decide) dX8_noPlace_50 rfl ?_
        refine g_aload_n C (n' := 52) 0 rfl dX8_noPlace_51 rfl rfl ?_
        refine g_get C (n' := 55) (Cn := RX8) (T := TX8) (N := 35) (ci := 6) (v := .ref (q 13)) ga_X8 0 rfl rfl 13 (by decide) kw_703 rfl rfl dX8_noPlace_52 rfl ?_
        refine g_iload_n C (n' := 56) 1 rfl dX8_noPlace_55 rfl rfl ?_
        refine g_iald C (n' := 57) (f := (A 13)) 7 0 rfl rfl (by omega) (by omega) (by decide) rfl dX8_noPlace_56 rfl ?_
        have h_56 := hA 13 t.toNat
        refine g_iconst C (n' := 58) dX8_noPlace_57 rfl ?_
        refine g_isub C (n' := 59) dX8_noPlace_58 rfl ?_
        refine g_i2l C (n' := 60) (by unfold inR; omega) dX8_noPlace_59 rfl ?_
        refine g_cSv C (n' := 63) (v := .int (iI (if 0 ≤ j ∧ j ≤ (((A 13) t.toNat) - 1) then 1 else 0))) (c_X8_in l D Y C.2.2.2.2.2.2.2.2.1 j 0 (((A 13) t.toNat) - 1) hj (by unfold inR at *; omega) (by unfold inR at *; omega)) 3 kw_802 kc_X8_in (by decide +kernel) (pm_n _) rfl ⟨Nat.le_of_ble_eq_true rfl, Nat.le_of_ble_eq_true rfl⟩ ⟨rfl, rfl⟩ ⟨Nat.le_of_ble_eq_true rfl, Nat.le_of_ble_eq_true rfl⟩ (Nat.le_of_ble_eq_true rfl) dX8_noPlace_60 rfl rfl (wMod q Y I A F Dd) (pm_n _) ?_
        refine g_if_eq C (n' := 66) 70 dX8_noPlace_63 (by decide) rfl bz_r (fun c4 => ?_) (fun c4 => ?_)
        · skip
          replace c4 := bz_eq.mp c4
          refine g_bipush C (n' := 72) (by decide) dX8_noPlace_70 rfl ?_
          refine g_iret C hr hlk rfl ⟨congrArg (fun z : Int => some (Value.int (iI z))) ?_, ?_⟩ dX8_noPlace_72
          · first | rfl | (unfold npV; (repeat' split) <;> first | rfl | omega)
          · first | rfl | (unfold npV; (repeat' split) <;> first | rfl | omega)
        · skip
          replace c4 := bz_neq.mp c4
          refine g_iconst C (n' := 67) dX8_noPlace_66 rfl ?_
          refine g_goto C 72 dX8_noPlace_67 (by decide) ?_
          refine g_iret C hr hlk rfl ⟨congrArg (fun z : Int => some (Value.int (iI z))) ?_, ?_⟩ dX8_noPlace_72
          · first | rfl | (unfold npV; (repeat' split) <;> first | rfl | omega)
          · first | rfl | (unfold npV; (repeat' split) <;> first | rfl | omega)
    · skip
      refine g_bipush C (n' := 26) (by decide) dX8_noPlace_24 rfl ?_
      refine g_goto C 72 dX8_noPlace_26 (by decide) ?_
      refine g_iret C hr hlk rfl ⟨congrArg (fun z : Int => some (Value.int (iI z))) ?_, ?_⟩ dX8_noPlace_72
      · first | rfl | (unfold npV; (repeat' split) <;> first | rfl | omega)
      · first | rfl | (unfold npV; (repeat' split) <;> first | rfl | omega)
  · skip
    refine g_bipush C (n' := 11) (by decide) dX8_noPlace_9 rfl ?_
    refine g_goto C 72 dX8_noPlace_11 (by decide) ?_
    refine g_iret C hr hlk rfl ⟨congrArg (fun z : Int => some (Value.int (iI z))) ?_, ?_⟩ dX8_noPlace_72
    · first | rfl | (unfold npV; (repeat' split) <;> first | rfl | omega)
    · first | rfl | (unfold npV; (repeat' split) <;> first | rfl | omega)
set_option maxRecDepth 100000 in
set_option maxHeartbeats 4000000 in
theorem c_X8_drop (l : Launch) (D : va_G) (Y : Nat → ClassId) {E : (Nat → Prop) → State → Heap → Prop} (hE : g_Stab E) (q : Nat → Nat) (I : Nat → Int) (A : Nat → Nat → Int) (F : Nat → UInt32) (Dd : Nat → UInt64) (t : Int) (hsI : smI I) (hsA : smA A) (hz : szOK A) (ht : inR t) : g_Ct l yX8_drop cX8_drop 3 (some FieldType.int) ({ frames := 2, cells := 0, slots := 0, locals := 45 } : Room) D (tysY Y) E [.ref (q 99), .int (iI t)] (wMod q Y I A F Dd) 0 0 (fun r9 w9 => (¬ (0 ≤ t ∧ t ≤ 2) ∧ r9 = some (.int (iI (-2))) ∧ w9 = wMod q Y I A F Dd) ∨ ((0 ≤ t ∧ t ≤ 2) ∧ r9 = some (.int (iI (if A 13 t.toNat < 0 then -11 else A 13 t.toNat))) ∧ w9 = wMod q Y I (sU A 13 (sU (A 13) t.toNat (-1))) F Dd)) := by
  refine g_ofG (own := RX8) hE (by decide) rfl (Nat.le_of_ble_eq_true rfl) [(0, .ref (q 99)), (1, .int (iI t))] rfl ?_
  intro p9 e9 s9 m9 b9 t9 c9 A9 C hr hlk hnm
  have hI := hsI
  have hA := hsA
  unfold smI at hI
  unfold smA at hA
  have ht9 := ht
  unfold inR at ht9
  refine g_iload_n C (n' := 1) 1 rfl dX8_drop_0 rfl rfl ?_
  refine g_cSv C (n' := 4) (v := .int (iI (if 0 ≤ t ∧ t ≤ 2 then 1 else 0))) (c_X8_isTrace l D Y C.2.2.2.2.2.2.2.2.1 t ht) 1 kw_989 kc_X8_isTrace (by decide +kernel) (pm_n _) rfl ⟨Nat.le_of_ble_eq_true rfl, Nat.le_of_ble_eq_true rfl⟩ ⟨rfl, rfl⟩ ⟨Nat.le_of_ble_eq_true rfl, Nat.le_of_ble_eq_true rfl⟩ (Nat.le_of_ble_eq_true rfl) dX8_drop_1 rfl rfl (wMod q Y I A F Dd) (pm_n _) ?_
  refine g_if_ne C (n' := 7) 10 dX8_drop_4 (by decide) rfl bz_r (fun c1 => ?_) (fun c1 => ?_)
  · skip
    replace c1 := bz_ne.mp c1
    refine g_aload_n C (n' := 11) 0 rfl dX8_drop_10 rfl rfl ?_
    refine g_get C (n' := 14) (Cn := RX8) (T := TX8) (N := 35) (ci := 6) (v := .ref (q 13)) ga_X8 0 rfl rfl 13 (by decide) kw_703 rfl rfl dX8_drop_11 rfl ?_
    refine g_iload_n C (n' := 15) 1 rfl dX8_drop_14 rfl rfl ?_
    refine g_iald C (n' := 16) (f := (A 13)) 7 0 rfl rfl (by omega) (by omega) (by decide) rfl dX8_drop_15 rfl ?_
    have h_15 := hA 13 t.toNat
    refine g_istore_n C (n' := 17) [(2, .int (iI ((A 13) t.toNat))), (0, .ref (q 99)), (1, .int (iI t))] dX8_drop_16 rfl rfl (by decide) rfl ?_
    refine g_aload_n C (n' := 18) 1 rfl dX8_drop_17 rfl rfl ?_
    refine g_get C (n' := 21) (Cn := RX8) (T := TX8) (N := 35) (ci := 6) (v := .ref (q 13)) ga_X8 0 rfl rfl 13 (by decide) kw_703 rfl rfl dX8_drop_18 rfl ?_
    refine g_iload_n C (n' := 22) 2 rfl dX8_drop_21 rfl rfl ?_
    refine g_iconst C (n' := 23) dX8_drop_22 rfl ?_
    refine g_iast C (n' := 24) (f := (A 13)) 7 0 rfl rfl (by omega) (by omega) (by decide) rfl dX8_drop_23 rfl (wMod q Y I (sU A 13 (sU (A 13) t.toNat (-1))) F Dd) rfl ?_
    refine g_iload_n C (n' := 25) 0 rfl dX8_drop_24 rfl rfl ?_
    refine g_if_ge C (n' := 28) 33 dX8_drop_25 (by decide) rfl (by unfold inR; omega) (fun c2 => ?_) (fun c2 => ?_)
    · skip
      refine g_iload_n C (n' := 34) 0 rfl dX8_drop_33 rfl rfl ?_
      exact g_iret C hr hlk rfl (Or.inr ⟨by omega, by rw [if_neg (by omega)], rfl⟩) dX8_drop_34
    · skip
      refine g_bipush C (n' := 30) (by decide) dX8_drop_28 rfl ?_
      refine g_goto C 34 dX8_drop_30 (by decide) ?_
      exact g_iret C hr hlk rfl (Or.inr ⟨by omega, by rw [if_pos (by omega)], rfl⟩) dX8_drop_34
  · skip
    replace c1 := bz_nne.mp c1
    refine g_bipush C (n' := 9) (by decide) dX8_drop_7 rfl ?_
    exact g_iret C hr hlk rfl (Or.inl ⟨by omega, rfl, rfl⟩) dX8_drop_9
