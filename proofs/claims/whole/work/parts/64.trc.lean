/-! Trace: all together -/
def badA (V : Nat → UInt64) (N : Nat → Int) (k : Nat) : Prop := N k ≠ 0 ∨ (endV (sumD V k) ∧ endV (V k) ∧ dcV .l (sumD V k) (V k) ≠ 0)
theorem endV_v {x x' : UInt64} (hx : FP.Core.val64 x = FP.Core.val64 x') : endV x ↔ endV x' := by
  unfold endV
  rw [dcV_v (op := .l) (y := 4696837146684686336) hx rfl, dcV_v (op := .g) (y := 13920209183539462144) hx rfl]
set_option maxRecDepth 100000 in
set_option maxHeartbeats 4000000 in
theorem lp_X5_to {p9 : Program} {l : Launch} {e9 : Env} {s9 : State} {m9 : MethodId} {a9 : Array Value} {b9 : List Frame} {t9 : Method} {c9 : Code} {D : va_G} {A9 : Nat → Prop} {Q9 : State → Prop} {E : (Nat → Prop) → State → Heap → Prop} {Y : Nat → ClassId} (C : g_Cx p9 s9 m9 a9 c9 cX5_thousandOfAll 7 RX5 D (tysY Y) A9 E) (q : Nat → Nat) (I : Nat → Int) (V : Nat → UInt64) (N : Nat → Int) (hsI : smI I) (hB : bN01 N) (h4 : 0 ≤ I 4 ∧ I 4 ≤ 8) : ∀ (n9 : Nat) (k : Nat) (al : UInt64), (k : Int) + n9 = I 4 → FP.Core.val64 al = FP.Core.val64 (sumD V k) → (∀ j : Nat, j < k → ¬ badA V N j) → ((∃ k : Nat, k < (I 4).toNat ∧ badA V N k) → g_G p9 l e9 ({ frames := 1, cells := 0, slots := 0, locals := 21 } : Room) s9 m9 a9 b9 t9 c9 7 D A9 Q9 0 0 (wTrace q Y I V N) [(0, .ref (q 99))] 63 []) → (∀ al : UInt64, FP.Core.val64 al = FP.Core.val64 (sumD V (I 4).toNat) → (∀ j : Nat, j < (I 4).toNat → ¬ badA V N j) → g_G p9 l e9 ({ frames := 1, cells := 0, slots := 0, locals := 21 } : Room) s9 m9 a9 b9 t9 c9 7 D A9 Q9 0 0 (wTrace q Y I V N) [(1, .double al), (0, .ref (q 99))] 77 []) → g_G p9 l e9 ({ frames := 1, cells := 0, slots := 0, locals := 21 } : Room) s9 m9 a9 b9 t9 c9 7 D A9 Q9 0 0 (wTrace q Y I V N) [(3, .int (iI ((k : Nat) : Int))), (1, .double al), (0, .ref (q 99))] 4 [] := by
  have hE := C.2.2.2.2.2.2.2.2.1
  intro n9
  induction n9 with
  | zero =>
    intro k al hk hv hb K1 K0
    have hI := hsI
    unfold smI at hI
    refine g_iload_n C (n' := 5) 0 rfl dX5_thousandOfAll_4 rfl rfl ?_
    refine g_aload_n C (n' := 6) 2 rfl dX5_thousandOfAll_5 rfl rfl ?_
    refine g_get C (n' := 9) (Cn := RX5) (T := TX5) (N := 5) (ci := 4) (v := .int (iI (I 4))) ga_X5 0 rfl rfl 4 (by decide) kw_172 rfl rfl dX5_thousandOfAll_6 rfl ?_
    have h_6 := hI 4
    refine g_icmp_ge C (n' := 12) 77 dX5_thousandOfAll_9 (by decide) rfl (by unfold inR; omega) (by unfold inR; omega) (fun c1 => ?_) (fun c1 => ?_)
    · skip
      have ek : k = (I 4).toNat := by omega
      rw [ek] at hv hb
      refine g_lv [1, 2] rfl ?_
      exact K0 al hv hb
    · skip
      exfalso
      omega
  | succ n9 ih =>
    intro k al hk hv hb K1 K0
    have hI := hsI
    unfold smI at hI
    refine g_iload_n C (n' := 5) 0 rfl dX5_thousandOfAll_4 rfl rfl ?_
    refine g_aload_n C (n' := 6) 2 rfl dX5_thousandOfAll_5 rfl rfl ?_
    refine g_get C (n' := 9) (Cn := RX5) (T := TX5) (N := 5) (ci := 4) (v := .int (iI (I 4))) ga_X5 0 rfl rfl 4 (by decide) kw_172 rfl rfl dX5_thousandOfAll_6 rfl ?_
    have h_6 := hI 4
    refine g_icmp_ge C (n' := 12) 77 dX5_thousandOfAll_9 (by decide) rfl (by unfold inR; omega) (by unfold inR; omega) (fun c1 => ?_) (fun c1 => ?_)
    · skip
      exfalso
      omega
    · skip
      refine g_aload_n C (n' := 13) 2 rfl dX5_thousandOfAll_12 rfl rfl ?_
      refine g_get C (n' := 16) (Cn := RX5) (T := TX5) (N := 5) (ci := 4) (v := .ref (q 0)) ga_X5 0 rfl rfl 0 (by decide) kw_168 rfl rfl dX5_thousandOfAll_13 rfl ?_
      refine g_iload_n C (n' := 17) 0 rfl dX5_thousandOfAll_16 rfl rfl ?_
      refine g_daldN C (n' := 18) (f := V) (j := k) 1 3 rfl rfl (by omega) (by decide) dX5_thousandOfAll_17 rfl ?_
      refine g_dstore C (n' := 20) [(4, .double (V k)), (3, .int (iI ((k : Nat) : Int))), (1, .double al), (0, .ref (q 99))] dX5_thousandOfAll_18 rfl (by decide) rfl ?_
      refine g_dload_n C (n' := 21) 2 rfl dX5_thousandOfAll_20 rfl rfl ?_
      refine g_callS C (n' := 24) (c_X5_isEndless l D Y C.2.2.2.2.2.2.2.2.1 al) 1 kw_624 kc_X5_isEndless (by decide +kernel) (pm_n _) rfl ⟨Nat.le_of_ble_eq_true rfl, Nat.le_of_ble_eq_true rfl⟩ ⟨rfl, rfl⟩ ⟨Nat.le_of_ble_eq_true rfl, Nat.le_of_ble_eq_true rfl⟩ (Nat.le_of_ble_eq_true rfl) dX5_thousandOfAll_21 rfl (fun r9 w9 hp2 => ?_)
      obtain ⟨rfl, (⟨he3, rfl⟩ | ⟨he3, rfl⟩)⟩ := hp2
      · skip
        refine g_perm (w' := (wTrace q Y I V N)) (pm_n _) ?_
        refine g_st (st' := [.int (iI 1)]) rfl ?_
        refine g_if_eq C (n' := 27) 46 dX5_thousandOfAll_24 (by decide) rfl (by unfold inR; omega) (fun c4 => ?_) (fun c4 => ?_)
        · skip
          exfalso
          omega
        · skip
          refine g_dload C (n' := 29) 0 rfl dX5_thousandOfAll_27 rfl ?_
          refine g_callS C (n' := 32) (c_X5_isEndless l D Y C.2.2.2.2.2.2.2.2.1 (V k)) 1 kw_624 kc_X5_isEndless (by decide +kernel) (pm_n _) rfl ⟨Nat.le_of_ble_eq_true rfl, Nat.le_of_ble_eq_true rfl⟩ ⟨rfl, rfl⟩ ⟨Nat.le_of_ble_eq_true rfl, Nat.le_of_ble_eq_true rfl⟩ (Nat.le_of_ble_eq_true rfl) dX5_thousandOfAll_29 rfl (fun r9 w9 hp5 => ?_)
          obtain ⟨rfl, (⟨he6, rfl⟩ | ⟨he6, rfl⟩)⟩ := hp5
          · skip
            refine g_perm (w' := (wTrace q Y I V N)) (pm_n _) ?_
            refine g_st (st' := [.int (iI 1)]) rfl ?_
            refine g_if_eq C (n' := 35) 46 dX5_thousandOfAll_32 (by decide) rfl (by unfold inR; omega) (fun c7 => ?_) (fun c7 => ?_)
            · skip
              exfalso
              omega
            · skip
              refine g_dload_n C (n' := 36) 2 rfl dX5_thousandOfAll_35 rfl rfl ?_
              refine g_dload C (n' := 38) 0 rfl dX5_thousandOfAll_36 rfl ?_
              refine g_dcmp C (n' := 39) (dcV .l al (V k)) (dcV_e _ _ _) dX5_thousandOfAll_38 rfl ?_
              have h_38 := dcV_r .l al (V k)
              refine g_if_eq C (n' := 42) 46 dX5_thousandOfAll_39 (by decide) rfl (by unfold inR; omega) (fun c8 => ?_) (fun c8 => ?_)
              · skip
                refine g_iconst C (n' := 47) dX5_thousandOfAll_46 rfl ?_
                refine g_istore C (n' := 49) [(6, .int (iI 0)), (4, .double (V k)), (3, .int (iI ((k : Nat) : Int))), (1, .double al), (0, .ref (q 99))] dX5_thousandOfAll_47 rfl (by decide) rfl ?_
                refine g_aload_n C (n' := 50) 4 rfl dX5_thousandOfAll_49 rfl rfl ?_
                refine g_get C (n' := 53) (Cn := RX5) (T := TX5) (N := 5) (ci := 4) (v := .ref (q 1)) ga_X5 0 rfl rfl 1 (by decide) kw_169 rfl rfl dX5_thousandOfAll_50 rfl ?_
                refine g_iload_n C (n' := 54) 2 rfl dX5_thousandOfAll_53 rfl rfl ?_
                refine g_zaldN C (n' := 55) (f := N) (j := k) 2 2 rfl rfl (by omega) (by decide) rfl dX5_thousandOfAll_54 rfl ?_
                have h_54 := hB k
                refine g_if_ne C (n' := 58) 63 dX5_thousandOfAll_55 (by decide) rfl (by unfold inR; omega) (fun c9 => ?_) (fun c9 => ?_)
                · skip
                  refine g_lv [4] rfl ?_
                  exact K1 ⟨k, by omega, Or.inl (by omega)⟩
                · skip
                  refine g_iload C (n' := 60) 0 rfl dX5_thousandOfAll_58 rfl ?_
                  refine g_if_eq C (n' := 63) 66 dX5_thousandOfAll_60 (by decide) rfl (by unfold inR; omega) (fun c10 => ?_) (fun c10 => ?_)
                  · skip
                    refine g_dload_n C (n' := 67) 3 rfl dX5_thousandOfAll_66 rfl rfl ?_
                    refine g_dload C (n' := 69) 1 rfl dX5_thousandOfAll_67 rfl ?_
                    refine g_dadd C (n' := 70) dX5_thousandOfAll_69 rfl (fun r11 hr11 => ?_)
                    refine g_dstore_n C (n' := 71) [(1, .double r11), (6, .int (iI 0)), (4, .double (V k)), (3, .int (iI ((k : Nat) : Int))), (0, .ref (q 99))] dX5_thousandOfAll_70 rfl rfl (by decide) rfl ?_
                    refine g_iinc C (n' := 74) 3 [(3, .int (iI (((k : Nat) : Int) + 1))), (1, .double r11), (6, .int (iI 0)), (4, .double (V k)), (0, .ref (q 99))] rfl dX5_thousandOfAll_71 rfl (by decide) rfl ?_
                    refine g_goto C 4 dX5_thousandOfAll_74 (by decide) ?_
                    have hnb : ¬ badA V N k := fun z => by
                      rcases z with z | ⟨z1, z2, z3⟩
                      · omega
                      · rw [← dcV_v (op := .l) hv (rfl : FP.Core.val64 (V k) = _)] at z3
                        omega
                    refine g_lv (lv' := [(3, .int (iI (((k : Nat) : Int) + 1))), (1, .double r11), (0, .ref (q 99))]) [0, 1, 4] rfl ?_
                    exact ih (k + 1) r11 (by omega) ((al64_v hr11).trans (dadd_v hv rfl)) (fun j hj => by
                      by_cases e : j = k
                      · rw [e]
                        exact hnb
                      · exact hb j (by omega)) K1 K0
                  · skip
                    exfalso
                    omega
              · skip
                refine g_iconst C (n' := 43) dX5_thousandOfAll_42 rfl ?_
                refine g_goto C 47 dX5_thousandOfAll_43 (by decide) ?_
                refine g_istore C (n' := 49) [(6, .int (iI 1)), (4, .double (V k)), (3, .int (iI ((k : Nat) : Int))), (1, .double al), (0, .ref (q 99))] dX5_thousandOfAll_47 rfl (by decide) rfl ?_
                refine g_aload_n C (n' := 50) 4 rfl dX5_thousandOfAll_49 rfl rfl ?_
                refine g_get C (n' := 53) (Cn := RX5) (T := TX5) (N := 5) (ci := 4) (v := .ref (q 1)) ga_X5 0 rfl rfl 1 (by decide) kw_169 rfl rfl dX5_thousandOfAll_50 rfl ?_
                refine g_iload_n C (n' := 54) 2 rfl dX5_thousandOfAll_53 rfl rfl ?_
                refine g_zaldN C (n' := 55) (f := N) (j := k) 2 2 rfl rfl (by omega) (by decide) rfl dX5_thousandOfAll_54 rfl ?_
                have h_54 := hB k
                refine g_if_ne C (n' := 58) 63 dX5_thousandOfAll_55 (by decide) rfl (by unfold inR; omega) (fun c12 => ?_) (fun c12 => ?_)
                · skip
                  refine g_lv [4] rfl ?_
                  exact K1 ⟨k, by omega, Or.inl (by omega)⟩
                · skip
                  refine g_iload C (n' := 60) 0 rfl dX5_thousandOfAll_58 rfl ?_
                  refine g_if_eq C (n' := 63) 66 dX5_thousandOfAll_60 (by decide) rfl (by unfold inR; omega) (fun c13 => ?_) (fun c13 => ?_)
                  · skip
                    exfalso
                    omega
                  · skip
                    refine g_lv [4] rfl ?_
                    exact K1 ⟨k, by omega, Or.inr ⟨(endV_v hv).mp he3, he6, by rw [← dcV_v (op := .l) hv (rfl : FP.Core.val64 (V k) = _)]; omega⟩⟩
          · skip
            refine g_perm (w' := (wTrace q Y I V N)) (pm_n _) ?_
            refine g_st (st' := [.int (iI 0)]) rfl ?_
            refine g_if_eq C (n' := 35) 46 dX5_thousandOfAll_32 (by decide) rfl (by unfold inR; omega) (fun c14 => ?_) (fun c14 => ?_)
            · skip
              refine g_iconst C (n' := 47) dX5_thousandOfAll_46 rfl ?_
              refine g_istore C (n' := 49) [(6, .int (iI 0)), (4, .double (V k)), (3, .int (iI ((k : Nat) : Int))), (1, .double al), (0, .ref (q 99))] dX5_thousandOfAll_47 rfl (by decide) rfl ?_
              refine g_aload_n C (n' := 50) 4 rfl dX5_thousandOfAll_49 rfl rfl ?_
              refine g_get C (n' := 53) (Cn := RX5) (T := TX5) (N := 5) (ci := 4) (v := .ref (q 1)) ga_X5 0 rfl rfl 1 (by decide) kw_169 rfl rfl dX5_thousandOfAll_50 rfl ?_
              refine g_iload_n C (n' := 54) 2 rfl dX5_thousandOfAll_53 rfl rfl ?_
              refine g_zaldN C (n' := 55) (f := N) (j := k) 2 2 rfl rfl (by omega) (by decide) rfl dX5_thousandOfAll_54 rfl ?_
              have h_54 := hB k
              refine g_if_ne C (n' := 58) 63 dX5_thousandOfAll_55 (by decide) rfl (by unfold inR; omega) (fun c15 => ?_) (fun c15 => ?_)
              · skip
                refine g_lv [4] rfl ?_
                exact K1 ⟨k, by omega, Or.inl (by omega)⟩
              · skip
                refine g_iload C (n' := 60) 0 rfl dX5_thousandOfAll_58 rfl ?_
                refine g_if_eq C (n' := 63) 66 dX5_thousandOfAll_60 (by decide) rfl (by unfold inR; omega) (fun c16 => ?_) (fun c16 => ?_)
                · skip
                  refine g_dload_n C (n' := 67) 3 rfl dX5_thousandOfAll_66 rfl rfl ?_
                  refine g_dload C (n' := 69) 1 rfl dX5_thousandOfAll_67 rfl ?_
                  refine g_dadd C (n' := 70) dX5_thousandOfAll_69 rfl (fun r17 hr17 => ?_)
                  refine g_dstore_n C (n' := 71) [(1, .double r17), (6, .int (iI 0)), (4, .double (V k)), (3, .int (iI ((k : Nat) : Int))), (0, .ref (q 99))] dX5_thousandOfAll_70 rfl rfl (by decide) rfl ?_
                  refine g_iinc C (n' := 74) 3 [(3, .int (iI (((k : Nat) : Int) + 1))), (1, .double r17), (6, .int (iI 0)), (4, .double (V k)), (0, .ref (q 99))] rfl dX5_thousandOfAll_71 rfl (by decide) rfl ?_
                  refine g_goto C 4 dX5_thousandOfAll_74 (by decide) ?_
                  have hnb : ¬ badA V N k := fun z => by
                    rcases z with z | ⟨z1, z2, z3⟩
                    · omega
                    · exact he6 z2
                  refine g_lv (lv' := [(3, .int (iI (((k : Nat) : Int) + 1))), (1, .double r17), (0, .ref (q 99))]) [0, 1, 4] rfl ?_
                  exact ih (k + 1) r17 (by omega) ((al64_v hr17).trans (dadd_v hv rfl)) (fun j hj => by
                    by_cases e : j = k
                    · rw [e]
                      exact hnb
                    · exact hb j (by omega)) K1 K0
                · skip
                  exfalso
                  omega
            · skip
              exfalso
              omega
      · skip
        refine g_perm (w' := (wTrace q Y I V N)) (pm_n _) ?_
        refine g_st (st' := [.int (iI 0)]) rfl ?_
        refine g_if_eq C (n' := 27) 46 dX5_thousandOfAll_24 (by decide) rfl (by unfold inR; omega) (fun c18 => ?_) (fun c18 => ?_)
        · skip
          refine g_iconst C (n' := 47) dX5_thousandOfAll_46 rfl ?_
          refine g_istore C (n' := 49) [(6, .int (iI 0)), (4, .double (V k)), (3, .int (iI ((k : Nat) : Int))), (1, .double al), (0, .ref (q 99))] dX5_thousandOfAll_47 rfl (by decide) rfl ?_
          refine g_aload_n C (n' := 50) 4 rfl dX5_thousandOfAll_49 rfl rfl ?_
          refine g_get C (n' := 53) (Cn := RX5) (T := TX5) (N := 5) (ci := 4) (v := .ref (q 1)) ga_X5 0 rfl rfl 1 (by decide) kw_169 rfl rfl dX5_thousandOfAll_50 rfl ?_
          refine g_iload_n C (n' := 54) 2 rfl dX5_thousandOfAll_53 rfl rfl ?_
          refine g_zaldN C (n' := 55) (f := N) (j := k) 2 2 rfl rfl (by omega) (by decide) rfl dX5_thousandOfAll_54 rfl ?_
          have h_54 := hB k
          refine g_if_ne C (n' := 58) 63 dX5_thousandOfAll_55 (by decide) rfl (by unfold inR; omega) (fun c19 => ?_) (fun c19 => ?_)
          · skip
            refine g_lv [4] rfl ?_
            exact K1 ⟨k, by omega, Or.inl (by omega)⟩
          · skip
            refine g_iload C (n' := 60) 0 rfl dX5_thousandOfAll_58 rfl ?_
            refine g_if_eq C (n' := 63) 66 dX5_thousandOfAll_60 (by decide) rfl (by unfold inR; omega) (fun c20 => ?_) (fun c20 => ?_)
            · skip
              refine g_dload_n C (n' := 67) 3 rfl dX5_thousandOfAll_66 rfl rfl ?_
              refine g_dload C (n' := 69) 1 rfl dX5_thousandOfAll_67 rfl ?_
              refine g_dadd C (n' := 70) dX5_thousandOfAll_69 rfl (fun r21 hr21 => ?_)
              refine g_dstore_n C (n' := 71) [(1, .double r21), (6, .int (iI 0)), (4, .double (V k)), (3, .int (iI ((k : Nat) : Int))), (0, .ref (q 99))] dX5_thousandOfAll_70 rfl rfl (by decide) rfl ?_
              refine g_iinc C (n' := 74) 3 [(3, .int (iI (((k : Nat) : Int) + 1))), (1, .double r21), (6, .int (iI 0)), (4, .double (V k)), (0, .ref (q 99))] rfl dX5_thousandOfAll_71 rfl (by decide) rfl ?_
              refine g_goto C 4 dX5_thousandOfAll_74 (by decide) ?_
              have hnb : ¬ badA V N k := fun z => by
                rcases z with z | ⟨z1, z2, z3⟩
                · omega
                · exact he3 ((endV_v hv).mpr z1)
              refine g_lv (lv' := [(3, .int (iI (((k : Nat) : Int) + 1))), (1, .double r21), (0, .ref (q 99))]) [0, 1, 4] rfl ?_
              exact ih (k + 1) r21 (by omega) ((al64_v hr21).trans (dadd_v hv rfl)) (fun j hj => by
                by_cases e : j = k
                · rw [e]
                  exact hnb
                · exact hb j (by omega)) K1 K0
            · skip
              exfalso
              omega
        · skip
          exfalso
          omega
set_option maxRecDepth 100000 in
set_option maxHeartbeats 4000000 in
theorem c_X5_thousandOfAll (l : Launch) (D : va_G) (Y : Nat → ClassId) {E : (Nat → Prop) → State → Heap → Prop} (hE : g_Stab E) (q : Nat → Nat) (I : Nat → Int) (V : Nat → UInt64) (N : Nat → Int) (hsI : smI I) (hB : bN01 N) (h4 : 0 ≤ I 4 ∧ I 4 ≤ 8) : g_Ct l yX5_thousandOfAll cX5_thousandOfAll 7 (some FieldType.int) ({ frames := 1, cells := 0, slots := 0, locals := 21 } : Room) D (tysY Y) E [.ref (q 99)] (wTrace q Y I V N) 0 0 (fun r9 w9 => w9 = wTrace q Y I V N ∧ (((∃ k : Nat, k < (I 4).toNat ∧ badA V N k) ∧ r9 = some (.int (iI 2000000))) ∨ ((∀ k : Nat, k < (I 4).toNat → ¬ badA V N k) ∧ r9 = some (.int (iI (t_cut (FP.dmul (sumD V (I 4).toNat) 4652007308841189376))))))) := by
  refine g_ofG (own := RX5) hE (by decide) rfl (Nat.le_of_ble_eq_true rfl) [(0, .ref (q 99))] rfl ?_
  intro p9 e9 s9 m9 b9 t9 c9 A9 C hr hlk hnm
  have hI := hsI
  unfold smI at hI
  refine g_dconst0 C (n' := 1) dX5_thousandOfAll_0 rfl ?_
  refine g_dstore_n C (n' := 2) [(1, .double 0), (0, .ref (q 99))] dX5_thousandOfAll_1 rfl rfl (by decide) rfl ?_
  refine g_iconst C (n' := 3) dX5_thousandOfAll_2 rfl ?_
  refine g_istore_n C (n' := 4) [(3, .int (iI 0)), (1, .double 0), (0, .ref (q 99))] dX5_thousandOfAll_3 rfl rfl (by decide) rfl ?_
  refine g_lv (lv' := [(3, .int (iI ((0 : Nat) : Int))), (1, .double 0), (0, .ref (q 99))]) [0, 1, 2] rfl ?_
  refine lp_X5_to C q I V N hsI hB h4 (I 4).toNat 0 0 (by omega) rfl (fun j hj => absurd hj (Nat.not_lt_zero j)) (fun hx => ?_) (fun al hv hb => ?_)
  · skip
    refine g_ldc C (n' := 65) 2000000 (by decide) kw_598 dX5_thousandOfAll_63 rfl ?_
    exact g_iret C hr hlk rfl ⟨rfl, Or.inl ⟨hx, rfl⟩⟩ dX5_thousandOfAll_65
  · skip
    refine g_dload_n C (n' := 78) 0 rfl dX5_thousandOfAll_77 rfl rfl ?_
    refine g_ldc2d C (n' := 81) kw_607 dX5_thousandOfAll_78 rfl ?_
    refine g_dmul C (n' := 82) dX5_thousandOfAll_81 rfl (fun r1 hr1 => ?_)
    refine g_cSv C (n' := 85) (v := .int (iI (t_cut r1))) (c_X5_cutThousand l D Y C.2.2.2.2.2.2.2.2.1 r1) 1 kw_600 kc_X5_cutThousand (by decide +kernel) (pm_n _) rfl ⟨Nat.le_of_ble_eq_true rfl, Nat.le_of_ble_eq_true rfl⟩ ⟨rfl, rfl⟩ ⟨Nat.le_of_ble_eq_true rfl, Nat.le_of_ble_eq_true rfl⟩ (Nat.le_of_ble_eq_true rfl) dX5_thousandOfAll_82 rfl rfl (wTrace q Y I V N) (pm_n _) ?_
    exact g_iret C hr hlk rfl ⟨rfl, Or.inr ⟨hb, by rw [t_cut_v ((al64_v hr1).trans (dmul_v hv rfl))]⟩⟩ dX5_thousandOfAll_85
