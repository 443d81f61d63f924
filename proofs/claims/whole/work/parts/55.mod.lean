/-! the reference: rest, compare, sum -/
theorem dadd_v {a b a' b' : UInt64} (h1 : FP.Core.val64 a = FP.Core.val64 a') (h2 : FP.Core.val64 b = FP.Core.val64 b') : FP.Core.val64 (FP.dadd a b) = FP.Core.val64 (FP.dadd a' b') := by
  show FP.Core.val64 (FP.Core.dadd a b) = FP.Core.val64 (FP.Core.dadd a' b')
  rw [FP.Core.val64_dadd, FP.Core.val64_dadd, h1, h2]
theorem dmul_v {a b a' b' : UInt64} (h1 : FP.Core.val64 a = FP.Core.val64 a') (h2 : FP.Core.val64 b = FP.Core.val64 b') : FP.Core.val64 (FP.dmul a b) = FP.Core.val64 (FP.dmul a' b') := by
  show FP.Core.val64 (FP.Core.dmul a b) = FP.Core.val64 (FP.Core.dmul a' b')
  rw [FP.Core.val64_dmul, FP.Core.val64_dmul, h1, h2]
def cmV (a b : UInt64) : Int := if dcV .g a b < 0 then 2 else if dcV .l a b = 0 then 1 else 0
theorem cmV_v {a b a' b' : UInt64} (h1 : FP.Core.val64 a = FP.Core.val64 a') (h2 : FP.Core.val64 b = FP.Core.val64 b') : cmV a b = cmV a' b' := by
  unfold cmV
  rw [dcV_v (op := .g) h1 h2, dcV_v (op := .l) h1 h2]
def sumD (v : Nat → UInt64) : Nat → UInt64
  | 0 => 0
  | k + 1 => FP.dadd (sumD v k) (v k)
def nonC (v : Nat → UInt64) : Nat → Int
  | 0 => 0
  | k + 1 => nonC v k + (if dcV .l (v k) (v k) = 0 then 0 else 1)
theorem nonC_r (v : Nat → UInt64) : ∀ k : Nat, 0 ≤ nonC v k ∧ nonC v k ≤ k
  | 0 => by simp [nonC]
  | k + 1 => by
    have := nonC_r v k
    rw [nonC]
    split <;> omega
def plV (s : Int) (t : Int) (F : Nat → UInt32) (Dd : Nat → UInt64) (k : Nat) : UInt64 := voV s (F (8 * t + (k : Int)).toNat) (Dd (8 * t + (k : Int)).toNat)
set_option maxRecDepth 100000 in
set_option maxHeartbeats 4000000 in
theorem c_X8_rest (l : Launch) (D : va_G) (Y : Nat → ClassId) {E : (Nat → Prop) → State → Heap → Prop} (hE : g_Stab E) (q : Nat → Nat) (I : Nat → Int) (A : Nat → Nat → Int) (F : Nat → UInt32) (Dd : Nat → UInt64) (t : Int) (x : Int) (i : Int) (j : Int) (hsI : smI I) (hsA : smA A) (hz : szOK A) (ht : inR t) (hx : inR x) (hi : inR i) (hj : inR j) : g_Ct l yX8_rest cX8_rest 6 (some FieldType.int) ({ frames := 2, cells := 0, slots := 0, locals := 49 } : Room) D (tysY Y) E [.ref (q 99), .int (iI t), .int (iI x), .int (iI i), .int (iI j)] (wMod q Y I A F Dd) 0 0 (fun r9 w9 => (¬ (0 ≤ t ∧ t ≤ 2) ∧ r9 = some (.int (iI (-2))) ∧ w9 = wMod q Y I A F Dd) ∨ ((0 ≤ t ∧ t ≤ 2) ∧ ((¬ (0 ≤ x ∧ x ≤ 1) ∧ r9 = some (.int (iI (-3))) ∧ w9 = wMod q Y I A F Dd) ∨ ((0 ≤ x ∧ x ≤ 1) ∧ ((npV (A 13 t.toNat) (A 12 t.toNat) x i j ≠ 0 ∧ r9 = some (.int (iI (npV (A 13 t.toNat) (A 12 t.toNat) x i j))) ∧ w9 = wMod q Y I A F Dd) ∨ (npV (A 13 t.toNat) (A 12 t.toNat) x i j = 0 ∧ ((x = 0 ∧ ∃ r : UInt32, alike32 r (FP.frem (F (8 * t + i).toNat) (F (8 * t + j).toNat)) = true ∧ r9 = some (.int (iI (thV 0 r 0))) ∧ w9 = wMod q Y I A (sU F (8 * t + i).toNat r) Dd) ∨ (x = 1 ∧ ∃ r : UInt64, alike64 r (FP.drem (Dd (8 * t + i).toNat) (Dd (8 * t + j).toNat)) = true ∧ r9 = some (.int (iI (thV 1 0 r))) ∧ w9 = wMod q Y I A F (sU Dd (8 * t + i).toNat r))))))))) := by
  refine g_ofG (own := RX8) hE (by decide) rfl (Nat.le_of_ble_eq_true rfl) [(0, .ref (q 99)), (1, .int (iI t)), (2, .int (iI x)), (3, .int (iI i)), (4, .int (iI j))] rfl ?_
  intro p9 e9 s9 m9 b9 t9 c9 A9 C hr hlk hnm
  have hI := hsI
  have hA := hsA
  unfold smI at hI
  unfold smA at hA
  have ht9 := ht
  have hx9 := hx
  have hi9 := hi
  have hj9 := hj
  unfold inR at ht9 hx9 hi9 hj9
  refine g_iload_n C (n' := 1) 1 rfl dX8_rest_0 rfl rfl ?_
  refine g_cSv C (n' := 4) (v := .int (iI (if 0 ≤ t ∧ t ≤ 2 then 1 else 0))) (c_X8_isTrace l D Y C.2.2.2.2.2.2.2.2.1 t ht) 1 kw_989 kc_X8_isTrace (by decide +kernel) (pm_n _) rfl ⟨Nat.le_of_ble_eq_true rfl, Nat.le_of_ble_eq_true rfl⟩ ⟨rfl, rfl⟩ ⟨Nat.le_of_ble_eq_true rfl, Nat.le_of_ble_eq_true rfl⟩ (Nat.le_of_ble_eq_true rfl) dX8_rest_1 rfl rfl (wMod q Y I A F Dd) (pm_n _) ?_
  refine g_if_ne C (n' := 7) 10 dX8_rest_4 (by decide) rfl bz_r (fun c1 => ?_) (fun c1 => ?_)
  · skip
    replace c1 := bz_ne.mp c1
    refine g_iload_n C (n' := 11) 2 rfl dX8_rest_10 rfl rfl ?_
    refine g_i2l C (n' := 12) (by unfold inR; omega) dX8_rest_11 rfl ?_
    refine g_lconst C (n' := 13) 0 (by decide) dX8_rest_12 rfl ?_
    refine g_lconst C (n' := 14) 1 (by decide) dX8_rest_13 rfl ?_
    refine g_cSv C (n' := 17) (v := .int (iI (if 0 ≤ x ∧ x ≤ 1 then 1 else 0))) (c_X8_in l D Y C.2.2.2.2.2.2.2.2.1 x 0 1 hx (by unfold inR at *; omega) (by unfold inR at *; omega)) 3 kw_802 kc_X8_in (by decide +kernel) (pm_n _) rfl ⟨Nat.le_of_ble_eq_true rfl, Nat.le_of_ble_eq_true rfl⟩ ⟨rfl, rfl⟩ ⟨Nat.le_of_ble_eq_true rfl, Nat.le_of_ble_eq_true rfl⟩ (Nat.le_of_ble_eq_true rfl) dX8_rest_14 rfl rfl (wMod q Y I A F Dd) (pm_n _) ?_
    refine g_if_ne C (n' := 20) 23 dX8_rest_17 (by decide) rfl bz_r (fun c2 => ?_) (fun c2 => ?_)
    · skip
      replace c2 := bz_ne.mp c2
      refine g_aload_n C (n' := 24) 0 rfl dX8_rest_23 rfl rfl ?_
      refine g_iload_n C (n' := 25) 1 rfl dX8_rest_24 rfl rfl ?_
      refine g_iload_n C (n' := 26) 2 rfl dX8_rest_25 rfl rfl ?_
      refine g_iload_n C (n' := 27) 3 rfl dX8_rest_26 rfl rfl ?_
      refine g_iload C (n' := 29) 4 rfl dX8_rest_27 rfl ?_
      refine g_cVv C (n' := 32) (v := .int (iI (npV ((A 13) t.toNat) ((A 12) t.toNat) x i j))) (c_X8_noPlace l D Y C.2.2.2.2.2.2.2.2.1 q I A F Dd t x i j hsI hsA hz (by omega) hx hi hj) 4 kw_999 kc_X8_noPlace (by decide +kernel) (pm0 _) 0 (ci := 6) rfl rfl rfl rfl ⟨Nat.le_of_ble_eq_true rfl, Nat.le_of_ble_eq_true rfl⟩ ⟨rfl, rfl⟩ ⟨Nat.le_of_ble_eq_true rfl, Nat.le_of_ble_eq_true rfl⟩ (Nat.le_of_ble_eq_true rfl) dX8_rest_29 rfl rfl (wMod q Y I A F Dd) (pm0' _) ?_
      have hnp := npV_r (A 13 t.toNat) (A 12 t.toNat) x i j
      have hzt := hz t.toNat
      refine g_istore C (n' := 34) [(5, .int (iI (npV ((A 13) t.toNat) ((A 12) t.toNat) x i j))), (0, .ref (q 99)), (1, .int (iI t)), (2, .int (iI x)), (3, .int (iI i)), (4, .int (iI j))] dX8_rest_32 rfl (by decide) rfl ?_
      refine g_iload C (n' := 36) 0 rfl dX8_rest_34 rfl ?_
      refine g_if_eq C (n' := 39) 42 dX8_rest_36 (by decide) rfl (by unfold inR; omega) (fun c3 => ?_) (fun c3 => ?_)
      · skip
        refine g_iload_n C (n' := 43) 3 rfl dX8_rest_42 rfl rfl ?_
        refine g_if_ne C (n' := 46) 84 dX8_rest_43 (by decide) rfl (by unfold inR; omega) (fun c4 => ?_) (fun c4 => ?_)
        · skip
          refine g_aload_n C (n' := 85) 1 rfl dX8_rest_84 rfl rfl ?_
          refine g_get C (n' := 88) (Cn := RX8) (T := TX8) (N := 35) (ci := 6) (v := .ref (q 15)) ga_X8 0 rfl rfl 15 (by decide) kw_705 rfl rfl dX8_rest_85 rfl ?_
          refine g_bipush C (n' := 90) (by decide) dX8_rest_88 rfl ?_
          refine g_iload_n C (n' := 91) 2 rfl dX8_rest_90 rfl rfl ?_
          refine g_imul C (n' := 92) dX8_rest_91 rfl ?_
          refine g_iload_n C (n' := 93) 4 rfl dX8_rest_92 rfl rfl ?_
          refine g_iadd C (n' := 94) dX8_rest_93 rfl ?_
          refine g_aload_n C (n' := 95) 1 rfl dX8_rest_94 rfl rfl ?_
          refine g_get C (n' := 98) (Cn := RX8) (T := TX8) (N := 35) (ci := 6) (v := .ref (q 15)) ga_X8 0 rfl rfl 15 (by decide) kw_705 rfl rfl dX8_rest_95 rfl ?_
          refine g_bipush C (n' := 100) (by decide) dX8_rest_98 rfl ?_
          refine g_iload_n C (n' := 101) 2 rfl dX8_rest_100 rfl rfl ?_
          refine g_imul C (n' := 102) dX8_rest_101 rfl ?_
          refine g_iload_n C (n' := 103) 4 rfl dX8_rest_102 rfl rfl ?_
          refine g_iadd C (n' := 104) dX8_rest_103 rfl ?_
          refine g_dald C (n' := 105) (f := Dd) 9 3 rfl rfl (by omega) (by omega) (by decide) dX8_rest_104 rfl ?_
          refine g_aload_n C (n' := 106) 1 rfl dX8_rest_105 rfl rfl ?_
          refine g_get C (n' := 109) (Cn := RX8) (T := TX8) (N := 35) (ci := 6) (v := .ref (q 15)) ga_X8 0 rfl rfl 15 (by decide) kw_705 rfl rfl dX8_rest_106 rfl ?_
          refine g_bipush C (n' := 111) (by decide) dX8_rest_109 rfl ?_
          refine g_iload_n C (n' := 112) 2 rfl dX8_rest_111 rfl rfl ?_
          refine g_imul C (n' := 113) dX8_rest_112 rfl ?_
          refine g_iload C (n' := 115) 5 rfl dX8_rest_113 rfl ?_
          refine g_iadd C (n' := 116) dX8_rest_115 rfl ?_
          refine g_dald C (n' := 117) (f := Dd) 9 3 rfl rfl (by omega) (by omega) (by decide) dX8_rest_116 rfl ?_
          refine g_drem C (n' := 118) dX8_rest_117 rfl (fun r5 hr5 => ?_)
          refine g_dast C (n' := 119) (f := Dd) 9 3 rfl rfl (by omega) (by omega) (by decide) dX8_rest_118 rfl (wMod q Y I A F (sU Dd ((8 * t) + i).toNat r5)) rfl ?_
          refine g_aload_n C (n' := 120) 1 rfl dX8_rest_119 rfl rfl ?_
          refine g_iload_n C (n' := 121) 2 rfl dX8_rest_120 rfl rfl ?_
          refine g_iload_n C (n' := 122) 4 rfl dX8_rest_121 rfl rfl ?_
          refine g_cVv C (n' := 125) (v := .int (iI (thV ((A 12) t.toNat) (F (8 * t + i).toNat) ((sU Dd ((8 * t) + i).toNat r5) (8 * t + i).toNat)))) (c_X8_thousand l D Y C.2.2.2.2.2.2.2.2.1 q I A F (sU Dd ((8 * t) + i).toNat r5) t i hsI hsA (by omega) (by omega)) 2 kw_1003 kc_X8_thousand (by decide +kernel) (pm0 _) 0 (ci := 6) rfl rfl rfl rfl ⟨Nat.le_of_ble_eq_true rfl, Nat.le_of_ble_eq_true rfl⟩ ⟨rfl, rfl⟩ ⟨Nat.le_of_ble_eq_true rfl, Nat.le_of_ble_eq_true rfl⟩ (Nat.le_of_ble_eq_true rfl) dX8_rest_122 rfl rfl (wMod q Y I A F (sU Dd ((8 * t) + i).toNat r5)) (pm0' _) ?_
          have e9 : (thV ((A 12) t.toNat) (F (8 * t + i).toNat) ((sU Dd ((8 * t) + i).toNat r5) (8 * t + i).toNat)) = thV 1 0 r5 := by
            rw [sU_s]
            exact thV_1 (by omega)
          exact g_iret C hr hlk rfl (Or.inr ⟨by omega, Or.inr ⟨by omega, Or.inr ⟨by omega, Or.inr ⟨by omega, r5, hr5, by rw [e9], rfl⟩⟩⟩⟩) dX8_rest_125
        · skip
          refine g_aload_n C (n' := 47) 1 rfl dX8_rest_46 rfl rfl ?_
          refine g_get C (n' := 50) (Cn := RX8) (T := TX8) (N := 35) (ci := 6) (v := .ref (q 14)) ga_X8 0 rfl rfl 14 (by decide) kw_704 rfl rfl dX8_rest_47 rfl ?_
          refine g_bipush C (n' := 52) (by decide) dX8_rest_50 rfl ?_
          refine g_iload_n C (n' := 53) 2 rfl dX8_rest_52 rfl rfl ?_
          refine g_imul C (n' := 54) dX8_rest_53 rfl ?_
          refine g_iload_n C (n' := 55) 4 rfl dX8_rest_54 rfl rfl ?_
          refine g_iadd C (n' := 56) dX8_rest_55 rfl ?_
          refine g_aload_n C (n' := 57) 1 rfl dX8_rest_56 rfl rfl ?_
          refine g_get C (n' := 60) (Cn := RX8) (T := TX8) (N := 35) (ci := 6) (v := .ref (q 14)) ga_X8 0 rfl rfl 14 (by decide) kw_704 rfl rfl dX8_rest_57 rfl ?_
          refine g_bipush C (n' := 62) (by decide) dX8_rest_60 rfl ?_
          refine g_iload_n C (n' := 63) 2 rfl dX8_rest_62 rfl rfl ?_
          refine g_imul C (n' := 64) dX8_rest_63 rfl ?_
          refine g_iload_n C (n' := 65) 4 rfl dX8_rest_64 rfl rfl ?_
          refine g_iadd C (n' := 66) dX8_rest_65 rfl ?_
          refine g_fald C (n' := 67) (f := F) 8 4 rfl rfl (by omega) (by omega) (by decide) dX8_rest_66 rfl ?_
          refine g_aload_n C (n' := 68) 1 rfl dX8_rest_67 rfl rfl ?_
          refine g_get C (n' := 71) (Cn := RX8) (T := TX8) (N := 35) (ci := 6) (v := .ref (q 14)) ga_X8 0 rfl rfl 14 (by decide) kw_704 rfl rfl dX8_rest_68 rfl ?_
          refine g_bipush C (n' := 73) (by decide) dX8_rest_71 rfl ?_
          refine g_iload_n C (n' := 74) 2 rfl dX8_rest_73 rfl rfl ?_
          refine g_imul C (n' := 75) dX8_rest_74 rfl ?_
          refine g_iload C (n' := 77) 5 rfl dX8_rest_75 rfl ?_
          refine g_iadd C (n' := 78) dX8_rest_77 rfl ?_
          refine g_fald C (n' := 79) (f := F) 8 4 rfl rfl (by omega) (by omega) (by decide) dX8_rest_78 rfl ?_
          refine g_frem C (n' := 80) dX8_rest_79 rfl (fun r6 hr6 => ?_)
          refine g_fast C (n' := 81) (f := F) 8 4 rfl rfl (by omega) (by omega) (by decide) dX8_rest_80 rfl (wMod q Y I A (sU F ((8 * t) + i).toNat r6) Dd) rfl ?_
          refine g_goto C 119 dX8_rest_81 (by decide) ?_
          refine g_aload_n C (n' := 120) 1 rfl dX8_rest_119 rfl rfl ?_
          refine g_iload_n C (n' := 121) 2 rfl dX8_rest_120 rfl rfl ?_
          refine g_iload_n C (n' := 122) 4 rfl dX8_rest_121 rfl rfl ?_
          refine g_cVv C (n' := 125) (v := .int (iI (thV ((A 12) t.toNat) ((sU F ((8 * t) + i).toNat r6) (8 * t + i).toNat) (Dd (8 * t + i).toNat)))) (c_X8_thousand l D Y C.2.2.2.2.2.2.2.2.1 q I A (sU F ((8 * t) + i).toNat r6) Dd t i hsI hsA (by omega) (by omega)) 2 kw_1003 kc_X8_thousand (by decide +kernel) (pm0 _) 0 (ci := 6) rfl rfl rfl rfl ⟨Nat.le_of_ble_eq_true rfl, Nat.le_of_ble_eq_true rfl⟩ ⟨rfl, rfl⟩ ⟨Nat.le_of_ble_eq_true rfl, Nat.le_of_ble_eq_true rfl⟩ (Nat.le_of_ble_eq_true rfl) dX8_rest_122 rfl rfl (wMod q Y I A (sU F ((8 * t) + i).toNat r6) Dd) (pm0' _) ?_
          have e9 : (thV ((A 12) t.toNat) ((sU F ((8 * t) + i).toNat r6) (8 * t + i).toNat) (Dd (8 * t + i).toNat)) = thV 0 r6 0 := by
            rw [sU_s]
            exact thV_0 (by omega)
          exact g_iret C hr hlk rfl (Or.inr ⟨by omega, Or.inr ⟨by omega, Or.inr ⟨by omega, Or.inl ⟨by omega, r6, hr6, by rw [e9], rfl⟩⟩⟩⟩) dX8_rest_125
      · skip
        refine g_iload C (n' := 41) 0 rfl dX8_rest_39 rfl ?_
        exact g_iret C hr hlk rfl (Or.inr ⟨by omega, Or.inr ⟨by omega, Or.inl ⟨by omega, rfl, rfl⟩⟩⟩) dX8_rest_41
    · skip
      replace c2 := bz_nne.mp c2
      refine g_bipush C (n' := 22) (by decide) dX8_rest_20 rfl ?_
      exact g_iret C hr hlk rfl (Or.inr ⟨by omega, Or.inl ⟨by omega, rfl, rfl⟩⟩) dX8_rest_22
  · skip
    replace c1 := bz_nne.mp c1
    refine g_bipush C (n' := 9) (by decide) dX8_rest_7 rfl ?_
    exact g_iret C hr hlk rfl (Or.inl ⟨by omega, rfl, rfl⟩) dX8_rest_9
set_option maxRecDepth 100000 in
set_option maxHeartbeats 4000000 in
theorem c_X8_compare (l : Launch) (D : va_G) (Y : Nat → ClassId) {E : (Nat → Prop) → State → Heap → Prop} (hE : g_Stab E) (q : Nat → Nat) (I : Nat → Int) (A : Nat → Nat → Int) (F : Nat → UInt32) (Dd : Nat → UInt64) (t : Int) (x : Int) (i : Int) (j : Int) (hsI : smI I) (hsA : smA A) (hz : szOK A) (ht : inR t) (hx : inR x) (hi : inR i) (hj : inR j) : g_Ct l yX8_compare cX8_compare 10 (some FieldType.int) ({ frames := 2, cells := 0, slots := 0, locals := 49 } : Room) D (tysY Y) E [.ref (q 99), .int (iI t), .int (iI x), .int (iI i), .int (iI j)] (wMod q Y I A F Dd) 0 0 (g_det (some (.int (iI (if 0 ≤ t ∧ t ≤ 2 then (if 0 ≤ x ∧ x ≤ 1 then (if npV (A 13 t.toNat) (A 12 t.toNat) x i j ≠ 0 then npV (A 13 t.toNat) (A 12 t.toNat) x i j else cmV (voV (A 12 t.toNat) (F (8 * t + i).toNat) (Dd (8 * t + i).toNat)) (voV (A 12 t.toNat) (F (8 * t + j).toNat) (Dd (8 * t + j).toNat))) else -3) else -2)))) (wMod q Y I A F Dd)) := by
  refine g_ofG (own := RX8) hE (by decide) rfl (Nat.le_of_ble_eq_true rfl) [(0, .ref (q 99)), (1, .int (iI t)), (2, .int (iI x)), (3, .int (iI i)), (4, .int (iI j))] rfl ?_
  intro p9 e9 s9 m9 b9 t9 c9 A9 C hr hlk hnm
  have hI := hsI
  have hA := hsA
  unfold smI at hI
  unfold smA at hA
  have ht9 := ht
  have hx9 := hx
  have hi9 := hi
  have hj9 := hj
  unfold inR at ht9 hx9 hi9 hj9
  refine g_iload_n C (n' := 1) 1 rfl dX8_compare_0 rfl rfl ?_
  refine g_cSv C (n' := 4) (v := .int (iI (if 0 ≤ t ∧ t ≤ 2 then 1 else 0))) (c_X8_isTrace l D Y C.2.2.2.2.2.2.2.2.1 t ht) 1 kw_989 kc_X8_isTrace (by decide +kernel) (pm_n _) rfl ⟨Nat.le_of_ble_eq_true rfl, Nat.le_of_ble_eq_true rfl⟩ ⟨rfl, rfl⟩ ⟨Nat.le_of_ble_eq_true rfl, Nat.le_of_ble_eq_true rfl⟩ (Nat.le_of_ble_eq_true rfl) dX8_compare_1 rfl rfl (wMod q Y I A F Dd) (pm_n _) ?_
  refine g_if_ne C (n' := 7) 10 dX8_compare_4 (by decide) rfl bz_r (fun c1 => ?_) (fun c1 => ?_)
  · skip
    replace c1 := bz_ne.mp c1
    refine g_iload_n C (n' := 11) 2 rfl dX8_compare_10 rfl rfl ?_
    refine g_i2l C (n' := 12) (by unfold inR; omega) dX8_compare_11 rfl ?_
    refine g_lconst C (n' := 13) 0 (by decide) dX8_compare_12 rfl ?_
    refine g_lconst C (n' := 14) 1 (by decide) dX8_compare_13 rfl ?_
    refine g_cSv C (n' := 17) (v := .int (iI (if 0 ≤ x ∧ x ≤ 1 then 1 else 0))) (c_X8_in l D Y C.2.2.2.2.2.2.2.2.1 x 0 1 hx (by unfold inR at *; omega) (by unfold inR at *; omega)) 3 kw_802 kc_X8_in (by decide +kernel) (pm_n _) rfl ⟨Nat.le_of_ble_eq_true rfl, Nat.le_of_ble_eq_true rfl⟩ ⟨rfl, rfl⟩ ⟨Nat.le_of_ble_eq_true rfl, Nat.le_of_ble_eq_true rfl⟩ (Nat.le_of_ble_eq_true rfl) dX8_compare_14 rfl rfl (wMod q Y I A F Dd) (pm_n _) ?_
    refine g_if_ne C (n' := 20) 23 dX8_compare_17 (by decide) rfl bz_r (fun c2 => ?_) (fun c2 => ?_)
    · skip
      replace c2 := bz_ne.mp c2
      refine g_aload_n C (n' := 24) 0 rfl dX8_compare_23 rfl rfl ?_
      refine g_iload_n C (n' := 25) 1 rfl dX8_compare_24 rfl rfl ?_
      refine g_iload_n C (n' := 26) 2 rfl dX8_compare_25 rfl rfl ?_
      refine g_iload_n C (n' := 27) 3 rfl dX8_compare_26 rfl rfl ?_
      refine g_iload C (n' := 29) 4 rfl dX8_compare_27 rfl ?_
      refine g_cVv C (n' := 32) (v := .int (iI (npV ((A 13) t.toNat) ((A 12) t.toNat) x i j))) (c_X8_noPlace l D Y C.2.2.2.2.2.2.2.2.1 q I A F Dd t x i j hsI hsA hz (by omega) hx hi hj) 4 kw_999 kc_X8_noPlace (by decide +kernel) (pm0 _) 0 (ci := 6) rfl rfl rfl rfl ⟨Nat.le_of_ble_eq_true rfl, Nat.le_of_ble_eq_true rfl⟩ ⟨rfl, rfl⟩ ⟨Nat.le_of_ble_eq_true rfl, Nat.le_of_ble_eq_true rfl⟩ (Nat.le_of_ble_eq_true rfl) dX8_compare_29 rfl rfl (wMod q Y I A F Dd) (pm0' _) ?_
      have hnp := npV_r (A 13 t.toNat) (A 12 t.toNat) x i j
      have hzt := hz t.toNat
      refine g_istore C (n' := 34) [(5, .int (iI (npV ((A 13) t.toNat) ((A 12) t.toNat) x i j))), (0, .ref (q 99)), (1, .int (iI t)), (2, .int (iI x)), (3, .int (iI i)), (4, .int (iI j))] dX8_compare_32 rfl (by decide) rfl ?_
      refine g_iload C (n' := 36) 0 rfl dX8_compare_34 rfl ?_
      refine g_if_eq C (n' := 39) 42 dX8_compare_36 (by decide) rfl (by unfold inR; omega) (fun c3 => ?_) (fun c3 => ?_)
      · skip
        refine g_aload_n C (n' := 43) 1 rfl dX8_compare_42 rfl rfl ?_
        refine g_iload_n C (n' := 44) 2 rfl dX8_compare_43 rfl rfl ?_
        refine g_iload_n C (n' := 45) 4 rfl dX8_compare_44 rfl rfl ?_
        refine g_callV C (n' := 48) (c_X8_valueOf l D Y C.2.2.2.2.2.2.2.2.1 q I A F Dd t i hsI hsA (by omega) (by omega)) 2 kw_1029 kc_X8_valueOf (by decide +kernel) (pm0 _) 0 (ci := 6) rfl rfl rfl rfl ⟨Nat.le_of_ble_eq_true rfl, Nat.le_of_ble_eq_true rfl⟩ ⟨rfl, rfl⟩ ⟨Nat.le_of_ble_eq_true rfl, Nat.le_of_ble_eq_true rfl⟩ (Nat.le_of_ble_eq_true rfl) dX8_compare_45 rfl (fun r9 w9 hp4 => ?_)
        obtain ⟨rfl, v5, rfl, hv5⟩ := hp4
        have hvv5 := al64_v hv5
        refine g_perm (w' := (wMod q Y I A F Dd)) (pm0' _) ?_
        refine g_st (st' := [.double v5]) rfl ?_
        refine g_dstore C (n' := 50) [(6, .double v5), (5, .int (iI (npV ((A 13) t.toNat) ((A 12) t.toNat) x i j))), (0, .ref (q 99)), (1, .int (iI t)), (2, .int (iI x)), (3, .int (iI i)), (4, .int (iI j))] dX8_compare_48 rfl (by decide) rfl ?_
        refine g_aload_n C (n' := 51) 2 rfl dX8_compare_50 rfl rfl ?_
        refine g_iload_n C (n' := 52) 3 rfl dX8_compare_51 rfl rfl ?_
        refine g_iload C (n' := 54) 6 rfl dX8_compare_52 rfl ?_
        refine g_callV C (n' := 57) (c_X8_valueOf l D Y C.2.2.2.2.2.2.2.2.1 q I A F Dd t j hsI hsA (by omega) (by omega)) 2 kw_1029 kc_X8_valueOf (by decide +kernel) (pm0 _) 0 (ci := 6) rfl rfl rfl rfl ⟨Nat.le_of_ble_eq_true rfl, Nat.le_of_ble_eq_true rfl⟩ ⟨rfl, rfl⟩ ⟨Nat.le_of_ble_eq_true rfl, Nat.le_of_ble_eq_true rfl⟩ (Nat.le_of_ble_eq_true rfl) dX8_compare_54 rfl (fun r9 w9 hp6 => ?_)
        obtain ⟨rfl, v7, rfl, hv7⟩ := hp6
        have hvv7 := al64_v hv7
        refine g_perm (w' := (wMod q Y I A F Dd)) (pm0' _) ?_
        refine g_st (st' := [.double v7]) rfl ?_
        refine g_dstore C (n' := 59) [(8, .double v7), (6, .double v5), (5, .int (iI (npV ((A 13) t.toNat) ((A 12) t.toNat) x i j))), (0, .ref (q 99)), (1, .int (iI t)), (2, .int (iI x)), (3, .int (iI i)), (4, .int (iI j))] dX8_compare_57 rfl (by decide) rfl ?_
        refine g_dload C (n' := 61) 1 rfl dX8_compare_59 rfl ?_
        refine g_dload C (n' := 63) 0 rfl dX8_compare_61 rfl ?_
        refine g_dcmp C (n' := 64) (dcV .g v5 v7) (dcV_e _ _ _) dX8_compare_63 rfl ?_
        have h_63 := dcV_r .g v5 v7
        refine g_if_ge C (n' := 67) 71 dX8_compare_64 (by decide) rfl (by unfold inR; omega) (fun c8 => ?_) (fun c8 => ?_)
        · skip
          refine g_dload C (n' := 73) 1 rfl dX8_compare_71 rfl ?_
          refine g_dload C (n' := 75) 0 rfl dX8_compare_73 rfl ?_
          refine g_dcmp C (n' := 76) (dcV .l v5 v7) (dcV_e _ _ _) dX8_compare_75 rfl ?_
          have h_75 := dcV_r .l v5 v7
          refine g_if_ne C (n' := 79) 83 dX8_compare_76 (by decide) rfl (by unfold inR; omega) (fun c9 => ?_) (fun c9 => ?_)
          · skip
            refine g_iconst C (n' := 84) dX8_compare_83 rfl ?_
            refine g_iret C hr hlk rfl ⟨congrArg (fun z : Int => some (Value.int (iI z))) ?_, rfl⟩ dX8_compare_84
            rw [if_pos (by omega), if_pos (by omega), if_neg (by omega), ← cmV_v hvv5 hvv7]
            unfold cmV
            rw [if_neg (by omega), if_neg (by omega)]
          · skip
            refine g_iconst C (n' := 80) dX8_compare_79 rfl ?_
            refine g_goto C 84 dX8_compare_80 (by decide) ?_
            refine g_iret C hr hlk rfl ⟨congrArg (fun z : Int => some (Value.int (iI z))) ?_, rfl⟩ dX8_compare_84
            rw [if_pos (by omega), if_pos (by omega), if_neg (by omega), ← cmV_v hvv5 hvv7]
            unfold cmV
            rw [if_neg (by omega), if_pos (by omega)]
        · skip
          refine g_iconst C (n' := 68) dX8_compare_67 rfl ?_
          refine g_goto C 84 dX8_compare_68 (by decide) ?_
          refine g_iret C hr hlk rfl ⟨congrArg (fun z : Int => some (Value.int (iI z))) ?_, rfl⟩ dX8_compare_84
          rw [if_pos (by omega), if_pos (by omega), if_neg (by omega), ← cmV_v hvv5 hvv7]
          unfold cmV
          rw [if_pos (by omega)]
      · skip
        refine g_iload C (n' := 41) 0 rfl dX8_compare_39 rfl ?_
        refine g_iret C hr hlk rfl ⟨congrArg (fun z : Int => some (Value.int (iI z))) ?_, rfl⟩ dX8_compare_41
        rw [if_pos (by omega), if_pos (by omega), if_pos (by omega)]
    · skip
      replace c2 := bz_nne.mp c2
      refine g_bipush C (n' := 22) (by decide) dX8_compare_20 rfl ?_
      refine g_iret C hr hlk rfl ⟨congrArg (fun z : Int => some (Value.int (iI z))) ?_, rfl⟩ dX8_compare_22
      rw [if_pos (by omega), if_neg (by omega)]
  · skip
    replace c1 := bz_nne.mp c1
    refine g_bipush C (n' := 9) (by decide) dX8_compare_7 rfl ?_
    refine g_iret C hr hlk rfl ⟨congrArg (fun z : Int => some (Value.int (iI z))) ?_, rfl⟩ dX8_compare_9
    rw [if_neg (by omega)]
set_option maxRecDepth 100000 in
set_option maxHeartbeats 4000000 in
theorem lp_X8_su {p9 : Program} {l : Launch} {e9 : Env} {s9 : State} {m9 : MethodId} {a9 : Array Value} {b9 : List Frame} {t9 : Method} {c9 : Code} {D : va_G} {A9 : Nat → Prop} {Q9 : State → Prop} {E : (Nat → Prop) → State → Heap → Prop} {Y : Nat → ClassId} (C : g_Cx p9 s9 m9 a9 c9 cX8_sum 9 RX8 D (tysY Y) A9 E) (q : Nat → Nat) (I : Nat → Int) (A : Nat → Nat → Int) (F : Nat → UInt32) (Dd : Nat → UInt64) (t x : Int) (hsI : smI I) (hsA : smA A) (hz : szOK A) (ht : 0 ≤ t ∧ t ≤ 2) (hp : 0 ≤ A 13 t.toNat) : ∀ (n9 : Nat) (k : Nat) (al : UInt64), (k : Int) + n9 = A 13 t.toNat → FP.Core.val64 al = FP.Core.val64 (sumD (plV (A 12 t.toNat) t F Dd) k) → (∀ al : UInt64, FP.Core.val64 al = FP.Core.val64 (sumD (plV (A 12 t.toNat) t F Dd) (A 13 t.toNat).toNat) → g_G p9 l e9 ({ frames := 2, cells := 0, slots := 0, locals := 45 } : Room) s9 m9 a9 b9 t9 c9 9 D A9 Q9 0 0 (wMod q Y I A F Dd) [(6, .int (iI (((A 13 t.toNat).toNat : Nat) : Int))), (5, .int (iI (nonC (plV (A 12 t.toNat) t F Dd) ((A 13 t.toNat).toNat)))), (3, .double al), (0, .ref (q 99)), (1, .int (iI t)), (2, .int (iI x))] 92 []) → g_G p9 l e9 ({ frames := 2, cells := 0, slots := 0, locals := 45 } : Room) s9 m9 a9 b9 t9 c9 9 D A9 Q9 0 0 (wMod q Y I A F Dd) [(6, .int (iI ((k : Nat) : Int))), (5, .int (iI (nonC (plV (A 12 t.toNat) t F Dd) k))), (3, .double al), (0, .ref (q 99)), (1, .int (iI t)), (2, .int (iI x))] 43 [] := by
  have hE := C.2.2.2.2.2.2.2.2.1
  intro n9
  induction n9 with
  | zero =>
    intro k al hk hv K
    have hI := hsI
    have hA := hsA
    unfold smI at hI
    unfold smA at hA
    have hzt := hz t.toNat
    have hnc := nonC_r (plV (A 12 t.toNat) t F Dd) k
    refine g_iload C (n' := 45) 0 rfl dX8_sum_43 rfl ?_
    refine g_aload_n C (n' := 46) 3 rfl dX8_sum_45 rfl rfl ?_
    refine g_get C (n' := 49) (Cn := RX8) (T := TX8) (N := 35) (ci := 6) (v := .ref (q 13)) ga_X8 0 rfl rfl 13 (by decide) kw_703 rfl rfl dX8_sum_46 rfl ?_
    refine g_iload_n C (n' := 50) 4 rfl dX8_sum_49 rfl rfl ?_
    refine g_iald C (n' := 51) (f := (A 13)) 7 0 rfl rfl (by omega) (by omega) (by decide) rfl dX8_sum_50 rfl ?_
    have h_50 := hA 13 t.toNat
    refine g_icmp_ge C (n' := 54) 92 dX8_sum_51 (by decide) rfl (by unfold inR; omega) (by unfold inR; omega) (fun c1 => ?_) (fun c1 => ?_)
    · skip
      have ek : k = (A 13 t.toNat).toNat := by omega
      rw [ek] at hv ⊢
      exact K al hv
    · skip
      exfalso
      omega
  | succ n9 ih =>
    intro k al hk hv K
    have hI := hsI
    have hA := hsA
    unfold smI at hI
    unfold smA at hA
    have hzt := hz t.toNat
    have hnc := nonC_r (plV (A 12 t.toNat) t F Dd) k
    refine g_iload C (n' := 45) 0 rfl dX8_sum_43 rfl ?_
    refine g_aload_n C (n' := 46) 3 rfl dX8_sum_45 rfl rfl ?_
    refine g_get C (n' := 49) (Cn := RX8) (T := TX8) (N := 35) (ci := 6) (v := .ref (q 13)) ga_X8 0 rfl rfl 13 (by decide) kw_703 rfl rfl dX8_sum_46 rfl ?_
    refine g_iload_n C (n' := 50) 4 rfl dX8_sum_49 rfl rfl ?_
    refine g_iald C (n' := 51) (f := (A 13)) 7 0 rfl rfl (by omega) (by omega) (by decide) rfl dX8_sum_50 rfl ?_
    have h_50 := hA 13 t.toNat
    refine g_icmp_ge C (n' := 54) 92 dX8_sum_51 (by decide) rfl (by unfold inR; omega) (by unfold inR; omega) (fun c1 => ?_) (fun c1 => ?_)
    · skip
      exfalso
      omega
    · skip
      refine g_aload_n C (n' := 55) 3 rfl dX8_sum_54 rfl rfl ?_
      refine g_iload_n C (n' := 56) 4 rfl dX8_sum_55 rfl rfl ?_
      refine g_iload C (n' := 58) 0 rfl dX8_sum_56 rfl ?_
      refine g_callV C (n' := 61) (c_X8_valueOf l D Y C.2.2.2.2.2.2.2.2.1 q I A F Dd t ((k : Nat) : Int) hsI hsA (by omega) (by omega)) 2 kw_1029 kc_X8_valueOf (by decide +kernel) (pm0 _) 0 (ci := 6) rfl rfl rfl rfl ⟨Nat.le_of_ble_eq_true rfl, Nat.le_of_ble_eq_true rfl⟩ ⟨rfl, rfl⟩ ⟨Nat.le_of_ble_eq_true rfl, Nat.le_of_ble_eq_true rfl⟩ (Nat.le_of_ble_eq_true rfl) dX8_sum_58 rfl (fun r9 w9 hp2 => ?_)
      obtain ⟨rfl, v3, rfl, hv3⟩ := hp2
      have hvv3 := al64_v hv3
      refine g_perm (w' := (wMod q Y I A F Dd)) (pm0' _) ?_
      refine g_st (st' := [.double v3]) rfl ?_
      refine g_dstore C (n' := 63) [(7, .double v3), (6, .int (iI ((k : Nat) : Int))), (5, .int (iI (nonC (plV (A 12 t.toNat) t F Dd) k))), (3, .double al), (0, .ref (q 99)), (1, .int (iI t)), (2, .int (iI x))] dX8_sum_61 rfl (by decide) rfl ?_
      refine g_dload_n C (n' := 64) 3 rfl dX8_sum_63 rfl rfl ?_
      refine g_dload C (n' := 66) 0 rfl dX8_sum_64 rfl ?_
      refine g_dadd C (n' := 67) dX8_sum_66 rfl (fun r4 hr4 => ?_)
      refine g_dstore_n C (n' := 68) [(3, .double r4), (7, .double v3), (6, .int (iI ((k : Nat) : Int))), (5, .int (iI (nonC (plV (A 12 t.toNat) t F Dd) k))), (0, .ref (q 99)), (1, .int (iI t)), (2, .int (iI x))] dX8_sum_67 rfl rfl (by decide) rfl ?_
      refine g_iload C (n' := 70) 3 rfl dX8_sum_68 rfl ?_
      refine g_dload C (n' := 72) 1 rfl dX8_sum_70 rfl ?_
      refine g_dload C (n' := 74) 1 rfl dX8_sum_72 rfl ?_
      refine g_dcmp C (n' := 75) (dcV .l v3 v3) (dcV_e _ _ _) dX8_sum_74 rfl ?_
      have h_74 := dcV_r .l v3 v3
      refine g_if_eq C (n' := 78) 82 dX8_sum_75 (by decide) rfl (by unfold inR; omega) (fun c5 => ?_) (fun c5 => ?_)
      · skip
        refine g_iconst C (n' := 83) dX8_sum_82 rfl ?_
        refine g_iadd C (n' := 84) dX8_sum_83 rfl ?_
        refine g_istore C (n' := 86) [(5, .int (iI ((nonC (plV (A 12 t.toNat) t F Dd) k) + 0))), (3, .double r4), (7, .double v3), (6, .int (iI ((k : Nat) : Int))), (0, .ref (q 99)), (1, .int (iI t)), (2, .int (iI x))] dX8_sum_84 rfl (by decide) rfl ?_
        refine g_iinc C (n' := 89) 3 [(6, .int (iI (((k : Nat) : Int) + 1))), (5, .int (iI ((nonC (plV (A 12 t.toNat) t F Dd) k) + 0))), (3, .double r4), (7, .double v3), (0, .ref (q 99)), (1, .int (iI t)), (2, .int (iI x))] rfl dX8_sum_86 rfl (by decide) rfl ?_
        refine g_goto C 43 dX8_sum_89 (by decide) ?_
        have ev : FP.Core.val64 v3 = FP.Core.val64 ((plV (A 12 t.toNat) t F Dd) k) := hvv3
        have e5 : ((nonC (plV (A 12 t.toNat) t F Dd) k) + 0) = nonC (plV (A 12 t.toNat) t F Dd) (k + 1) := by
          rw [nonC, ← dcV_v (op := .l) ev ev, if_pos (by omega)]
        rw [e5]
        refine g_lv (lv' := [(6, .int (iI (((k : Nat) : Int) + 1))), (5, .int (iI (nonC (plV (A 12 t.toNat) t F Dd) (k + 1)))), (3, .double r4), (0, .ref (q 99)), (1, .int (iI t)), (2, .int (iI x))]) [0, 1, 2, 4, 5, 6] rfl ?_
        exact ih (k + 1) r4 (by omega) ((al64_v hr4).trans (dadd_v hv ev)) K
      · skip
        refine g_iconst C (n' := 79) dX8_sum_78 rfl ?_
        refine g_goto C 83 dX8_sum_79 (by decide) ?_
        refine g_iadd C (n' := 84) dX8_sum_83 rfl ?_
        refine g_istore C (n' := 86) [(5, .int (iI ((nonC (plV (A 12 t.toNat) t F Dd) k) + 1))), (3, .double r4), (7, .double v3), (6, .int (iI ((k : Nat) : Int))), (0, .ref (q 99)), (1, .int (iI t)), (2, .int (iI x))] dX8_sum_84 rfl (by decide) rfl ?_
        refine g_iinc C (n' := 89) 3 [(6, .int (iI (((k : Nat) : Int) + 1))), (5, .int (iI ((nonC (plV (A 12 t.toNat) t F Dd) k) + 1))), (3, .double r4), (7, .double v3), (0, .ref (q 99)), (1, .int (iI t)), (2, .int (iI x))] rfl dX8_sum_86 rfl (by decide) rfl ?_
        refine g_goto C 43 dX8_sum_89 (by decide) ?_
        have ev : FP.Core.val64 v3 = FP.Core.val64 ((plV (A 12 t.toNat) t F Dd) k) := hvv3
        have e5 : ((nonC (plV (A 12 t.toNat) t F Dd) k) + 1) = nonC (plV (A 12 t.toNat) t F Dd) (k + 1) := by
          rw [nonC, ← dcV_v (op := .l) ev ev, if_neg (by omega)]
        rw [e5]
        refine g_lv (lv' := [(6, .int (iI (((k : Nat) : Int) + 1))), (5, .int (iI (nonC (plV (A 12 t.toNat) t F Dd) (k + 1)))), (3, .double r4), (0, .ref (q 99)), (1, .int (iI t)), (2, .int (iI x))]) [0, 1, 2, 4, 5, 6] rfl ?_
        exact ih (k + 1) r4 (by omega) ((al64_v hr4).trans (dadd_v hv ev)) K
set_option maxRecDepth 100000 in
set_option maxHeartbeats 4000000 in
theorem c_X8_sum (l : Launch) (D : va_G) (Y : Nat → ClassId) {E : (Nat → Prop) → State → Heap → Prop} (hE : g_Stab E) (q : Nat → Nat) (I : Nat → Int) (A : Nat → Nat → Int) (F : Nat → UInt32) (Dd : Nat → UInt64) (t : Int) (x : Int) (hsI : smI I) (hsA : smA A) (hz : szOK A) (ht : inR t) (hx : inR x) : g_Ct l yX8_sum cX8_sum 9 (some FieldType.int) ({ frames := 2, cells := 0, slots := 0, locals := 45 } : Room) D (tysY Y) E [.ref (q 99), .int (iI t), .int (iI x)] (wMod q Y I A F Dd) 0 0 (g_det (some (.int (iI (if 0 ≤ t ∧ t ≤ 2 then (if 0 ≤ x ∧ x ≤ 1 then (if A 13 t.toNat < 0 then -11 else if x = 0 then m_cut (FP.dmul 4652007308841189376 (sumD (plV (A 12 t.toNat) t F Dd) (A 13 t.toNat).toNat)) else nonC (plV (A 12 t.toNat) t F Dd) (A 13 t.toNat).toNat) else -3) else -2)))) (wMod q Y I A F Dd)) := by
  refine g_ofG (own := RX8) hE (by decide) rfl (Nat.le_of_ble_eq_true rfl) [(0, .ref (q 99)), (1, .int (iI t)), (2, .int (iI x))] rfl ?_
  intro p9 e9 s9 m9 b9 t9 c9 A9 C hr hlk hnm
  have hI := hsI
  have hA := hsA
  unfold smI at hI
  unfold smA at hA
  have ht9 := ht
  have hx9 := hx
  unfold inR at ht9 hx9
  refine g_iload_n C (n' := 1) 1 rfl dX8_sum_0 rfl rfl ?_
  refine g_cSv C (n' := 4) (v := .int (iI (if 0 ≤ t ∧ t ≤ 2 then 1 else 0))) (c_X8_isTrace l D Y C.2.2.2.2.2.2.2.2.1 t ht) 1 kw_989 kc_X8_isTrace (by decide +kernel) (pm_n _) rfl ⟨Nat.le_of_ble_eq_true rfl, Nat.le_of_ble_eq_true rfl⟩ ⟨rfl, rfl⟩ ⟨Nat.le_of_ble_eq_true rfl, Nat.le_of_ble_eq_true rfl⟩ (Nat.le_of_ble_eq_true rfl) dX8_sum_1 rfl rfl (wMod q Y I A F Dd) (pm_n _) ?_
  refine g_if_ne C (n' := 7) 10 dX8_sum_4 (by decide) rfl bz_r (fun c1 => ?_) (fun c1 => ?_)
  · skip
    replace c1 := bz_ne.mp c1
    refine g_iload_n C (n' := 11) 2 rfl dX8_sum_10 rfl rfl ?_
    refine g_i2l C (n' := 12) (by unfold inR; omega) dX8_sum_11 rfl ?_
    refine g_lconst C (n' := 13) 0 (by decide) dX8_sum_12 rfl ?_
    refine g_lconst C (n' := 14) 1 (by decide) dX8_sum_13 rfl ?_
    refine g_cSv C (n' := 17) (v := .int (iI (if 0 ≤ x ∧ x ≤ 1 then 1 else 0))) (c_X8_in l D Y C.2.2.2.2.2.2.2.2.1 x 0 1 hx (by unfold inR at *; omega) (by unfold inR at *; omega)) 3 kw_802 kc_X8_in (by decide +kernel) (pm_n _) rfl ⟨Nat.le_of_ble_eq_true rfl, Nat.le_of_ble_eq_true rfl⟩ ⟨rfl, rfl⟩ ⟨Nat.le_of_ble_eq_true rfl, Nat.le_of_ble_eq_true rfl⟩ (Nat.le_of_ble_eq_true rfl) dX8_sum_14 rfl rfl (wMod q Y I A F Dd) (pm_n _) ?_
    refine g_if_ne C (n' := 20) 23 dX8_sum_17 (by decide) rfl bz_r (fun c2 => ?_) (fun c2 => ?_)
    · skip
      replace c2 := bz_ne.mp c2
      refine g_aload_n C (n' := 24) 0 rfl dX8_sum_23 rfl rfl ?_
      refine g_get C (n' := 27) (Cn := RX8) (T := TX8) (N := 35) (ci := 6) (v := .ref (q 13)) ga_X8 0 rfl rfl 13 (by decide) kw_703 rfl rfl dX8_sum_24 rfl ?_
      refine g_iload_n C (n' := 28) 1 rfl dX8_sum_27 rfl rfl ?_
      refine g_iald C (n' := 29) (f := (A 13)) 7 0 rfl rfl (by omega) (by omega) (by decide) rfl dX8_sum_28 rfl ?_
      have h_28 := hA 13 t.toNat
      refine g_if_ge C (n' := 32) 35 dX8_sum_29 (by decide) rfl (by unfold inR; omega) (fun c3 => ?_) (fun c3 => ?_)
      · skip
        refine g_dconst0 C (n' := 36) dX8_sum_35 rfl ?_
        refine g_dstore_n C (n' := 37) [(3, .double 0), (0, .ref (q 99)), (1, .int (iI t)), (2, .int (iI x))] dX8_sum_36 rfl rfl (by decide) rfl ?_
        refine g_iconst C (n' := 38) dX8_sum_37 rfl ?_
        refine g_istore C (n' := 40) [(5, .int (iI 0)), (3, .double 0), (0, .ref (q 99)), (1, .int (iI t)), (2, .int (iI x))] dX8_sum_38 rfl (by decide) rfl ?_
        refine g_iconst C (n' := 41) dX8_sum_40 rfl ?_
        refine g_istore C (n' := 43) [(6, .int (iI 0)), (5, .int (iI 0)), (3, .double 0), (0, .ref (q 99)), (1, .int (iI t)), (2, .int (iI x))] dX8_sum_41 rfl (by decide) rfl ?_
        refine g_lv (lv' := [(6, .int (iI ((0 : Nat) : Int))), (5, .int (iI (nonC (plV (A 12 t.toNat) t F Dd) 0))), (3, .double 0), (0, .ref (q 99)), (1, .int (iI t)), (2, .int (iI x))]) [0, 1, 2, 3, 4, 5] rfl ?_
        refine lp_X8_su C q I A F Dd t x hsI hsA hz (by omega) (by omega) (A 13 t.toNat).toNat 0 0 (by omega) rfl (fun al hv => ?_)
        have hnc := nonC_r (plV (A 12 t.toNat) t F Dd) (A 13 t.toNat).toNat
        have hzt := hz t.toNat
        refine g_iload_n C (n' := 93) 5 rfl dX8_sum_92 rfl rfl ?_
        refine g_if_ne C (n' := 96) 107 dX8_sum_93 (by decide) rfl (by unfold inR; omega) (fun c4 => ?_) (fun c4 => ?_)
        · skip
          refine g_iload C (n' := 109) 1 rfl dX8_sum_107 rfl ?_
          refine g_iret C hr hlk rfl ⟨congrArg (fun z : Int => some (Value.int (iI z))) ?_, rfl⟩ dX8_sum_109
          rw [if_pos (by omega), if_pos (by omega), if_neg (by omega), if_neg (by omega)]
        · skip
          refine g_ldc2d C (n' := 99) kw_1016 dX8_sum_96 rfl ?_
          refine g_dload_n C (n' := 100) 2 rfl dX8_sum_99 rfl rfl ?_
          refine g_dmul C (n' := 101) dX8_sum_100 rfl (fun r5 hr5 => ?_)
          refine g_cSv C (n' := 104) (v := .int (iI (m_cut r5))) (c_X8_cut l D Y C.2.2.2.2.2.2.2.2.1 r5) 1 kw_1008 kc_X8_cut (by decide +kernel) (pm_n _) rfl ⟨Nat.le_of_ble_eq_true rfl, Nat.le_of_ble_eq_true rfl⟩ ⟨rfl, rfl⟩ ⟨Nat.le_of_ble_eq_true rfl, Nat.le_of_ble_eq_true rfl⟩ (Nat.le_of_ble_eq_true rfl) dX8_sum_101 rfl rfl (wMod q Y I A F Dd) (pm_n _) ?_
          refine g_goto C 109 dX8_sum_104 (by decide) ?_
          refine g_iret C hr hlk rfl ⟨congrArg (fun z : Int => some (Value.int (iI z))) ?_, rfl⟩ dX8_sum_109
          rw [if_pos (by omega), if_pos (by omega), if_neg (by omega), if_pos (by omega)]
          exact m_cut_v ((al64_v hr5).trans (dmul_v rfl hv))
      · skip
        refine g_bipush C (n' := 34) (by decide) dX8_sum_32 rfl ?_
        refine g_iret C hr hlk rfl ⟨congrArg (fun z : Int => some (Value.int (iI z))) ?_, rfl⟩ dX8_sum_34
        rw [if_pos (by omega), if_pos (by omega), if_pos (by omega)]
    · skip
      replace c2 := bz_nne.mp c2
      refine g_bipush C (n' := 22) (by decide) dX8_sum_20 rfl ?_
      refine g_iret C hr hlk rfl ⟨congrArg (fun z : Int => some (Value.int (iI z))) ?_, rfl⟩ dX8_sum_22
      rw [if_pos (by omega), if_neg (by omega)]
  · skip
    replace c1 := bz_nne.mp c1
    refine g_bipush C (n' := 9) (by decide) dX8_sum_7 rfl ?_
    refine g_iret C hr hlk rfl ⟨congrArg (fun z : Int => some (Value.int (iI z))) ?_, rfl⟩ dX8_sum_9
    rw [if_neg (by omega)]
