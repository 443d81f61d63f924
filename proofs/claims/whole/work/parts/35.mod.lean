/-! the reference: spare, rate -/
set_option maxRecDepth 100000 in
set_option maxHeartbeats 4000000 in
theorem c_X8_spare (l : Launch) (D : va_G) (Y : Nat → ClassId) {E : (Nat → Prop) → State → Heap → Prop} (hE : g_Stab E) (q : Nat → Nat) (I : Nat → Int) (A : Nat → Nat → Int) (F : Nat → UInt32) (Dd : Nat → UInt64) (x : Int) (y : Int) (hsI : smI I) (hsA : smA A) (hN : okN (mJ I A) (mN A)) (hx : inR x) (hw : inR y) : g_Ct l yX8_spare cX8_spare 4 (some FieldType.int) ({ frames := 3, cells := 0, slots := 0, locals := 69 } : Room) D (tysY Y) E [.ref (q 99), .int (iI x), .int (iI y)] (wMod q Y I A F Dd) 0 0 (fun r9 w9 => ∃ A1 : Nat → Nat → Int, w9 = wMod q Y I A1 F Dd ∧ smA A1 ∧ kpA A A1 ∧ ∃ z : Int, r9 = some (.int (iI z)) ∧ spIs (mJ I A) (mN A) x y z) := by
  refine g_ofG (own := RX8) hE (by decide) rfl (Nat.le_of_ble_eq_true rfl) [(0, .ref (q 99)), (1, .int (iI x)), (2, .int (iI y))] rfl ?_
  intro p9 e9 s9 m9 b9 t9 c9 A9 C hr hlk hnm
  have hI := hsI
  have hA := hsA
  unfold smI at hI
  unfold smA at hA
  have hN9 := hN
  unfold okN at hN9
  simp only [mJ, mN] at hN9
  have hx9 := hx
  have hw9 := hw
  unfold inR at hx9 hw9
  refine g_aload_n C (n' := 1) 0 rfl dX8_spare_0 rfl rfl ?_
  refine g_iload_n C (n' := 2) 1 rfl dX8_spare_1 rfl rfl ?_
  refine g_cVv C (n' := 5) (v := .int (iI (if 0 ≤ x ∧ x ≤ (I 2) - 1 then 1 else 0))) (c_X8_isPath l D Y C.2.2.2.2.2.2.2.2.1 q I A F Dd x hsI hsA hN hx) 1 kw_863 kc_X8_isPath (by decide +kernel) (pm0 _) 0 (ci := 6) rfl rfl rfl rfl ⟨Nat.le_of_ble_eq_true rfl, Nat.le_of_ble_eq_true rfl⟩ ⟨rfl, rfl⟩ ⟨Nat.le_of_ble_eq_true rfl, Nat.le_of_ble_eq_true rfl⟩ (Nat.le_of_ble_eq_true rfl) dX8_spare_2 rfl rfl (wMod q Y I A F Dd) (pm0' _) ?_
  refine g_if_ne C (n' := 8) 11 dX8_spare_5 (by decide) rfl bz_r (fun c1 => ?_) (fun c1 => ?_)
  · skip
    replace c1 := bz_ne.mp c1
    refine g_iload_n C (n' := 12) 2 rfl dX8_spare_11 rfl rfl ?_
    refine g_i2l C (n' := 13) (by unfold inR; omega) dX8_spare_12 rfl ?_
    refine g_lconst C (n' := 14) 0 (by decide) dX8_spare_13 rfl ?_
    refine g_lconst C (n' := 15) 1 (by decide) dX8_spare_14 rfl ?_
    refine g_cSv C (n' := 18) (v := .int (iI (if 0 ≤ y ∧ y ≤ 1 then 1 else 0))) (c_X8_in l D Y C.2.2.2.2.2.2.2.2.1 y 0 1 hw (by unfold inR at *; omega) (by unfold inR at *; omega)) 3 kw_802 kc_X8_in (by decide +kernel) (pm_n _) rfl ⟨Nat.le_of_ble_eq_true rfl, Nat.le_of_ble_eq_true rfl⟩ ⟨rfl, rfl⟩ ⟨Nat.le_of_ble_eq_true rfl, Nat.le_of_ble_eq_true rfl⟩ (Nat.le_of_ble_eq_true rfl) dX8_spare_15 rfl rfl (wMod q Y I A F Dd) (pm_n _) ?_
    refine g_if_ne C (n' := 21) 24 dX8_spare_18 (by decide) rfl bz_r (fun c2 => ?_) (fun c2 => ?_)
    · skip
      replace c2 := bz_ne.mp c2
      refine g_aload_n C (n' := 25) 0 rfl dX8_spare_24 rfl rfl ?_
      refine g_aload_n C (n' := 26) 0 rfl dX8_spare_25 rfl rfl ?_
      refine g_get C (n' := 29) (Cn := RX8) (T := TX8) (N := 35) (ci := 6) (v := .ref (q 0)) ga_X8 0 rfl rfl 0 (by decide) kw_690 rfl rfl dX8_spare_26 rfl ?_
      refine g_iconst C (n' := 30) dX8_spare_29 rfl ?_
      refine g_ialdN C (n' := 31) (f := (A 0)) (j := 0) 1 0 rfl rfl (by omega) (by decide) rfl dX8_spare_30 rfl ?_
      have h_30 := hA 0 0
      refine g_iconst C (n' := 32) dX8_spare_31 rfl ?_
      refine g_callV C (n' := 35) (c_X8_isFeasible l D Y C.2.2.2.2.2.2.2.2.1 q I A F Dd ((A 0) 0) 0 hsI hsA hN (by omega) (by omega)) 2 kw_905 kc_X8_isFeasible (by decide +kernel) (pm0 _) 0 (ci := 6) rfl rfl rfl rfl ⟨Nat.le_of_ble_eq_true rfl, Nat.le_of_ble_eq_true rfl⟩ ⟨rfl, rfl⟩ ⟨Nat.le_of_ble_eq_true rfl, Nat.le_of_ble_eq_true rfl⟩ (Nat.le_of_ble_eq_true rfl) dX8_spare_32 rfl (fun r9 w9 hp3 => ?_)
      obtain ⟨A4, rfl, hsA4, hkA4, (⟨rfl, hGA4⟩ | ⟨rfl, hGA4⟩)⟩ := hp3
      have hA4 := hsA4
      unfold smA at hA4
      · skip
        refine g_perm (w' := (wMod q Y I A4 F Dd)) (pm0' _) ?_
        refine g_st (st' := [.int (iI 1)]) rfl ?_
        have hp9 := hN9.2.2.2.2.2.2 x.toNat (by omega)
        have hk3 : A4 3 = A 3 := hkA4 3 (by omega) (by omega) (by omega)
        have hk4 : A4 4 = A 4 := hkA4 4 (by omega) (by omega) (by omega)
        have hk0 : A4 0 = A 0 := hkA4 0 (by omega) (by omega) (by omega)
        have hq3 : 0 ≤ A4 3 x.toNat ∧ A4 3 x.toNat < 8 := by rw [hk3]; omega
        have hq4 : 0 ≤ A4 4 x.toNat ∧ A4 4 x.toNat < 8 := by rw [hk4]; omega
        refine g_if_ne C (n' := 38) 41 dX8_spare_35 (by decide) rfl (by unfold inR; omega) (fun c5 => ?_) (fun c5 => ?_)
        · skip
          refine g_aload_n C (n' := 42) 0 rfl dX8_spare_41 rfl rfl ?_
          refine g_get C (n' := 45) (Cn := RX8) (T := TX8) (N := 35) (ci := 6) (v := .ref (q 31)) ga_X8 0 rfl rfl 31 (by decide) kw_721 rfl rfl dX8_spare_42 rfl ?_
          refine g_aload_n C (n' := 46) 0 rfl dX8_spare_45 rfl rfl ?_
          refine g_get C (n' := 49) (Cn := RX8) (T := TX8) (N := 35) (ci := 6) (v := .ref (q 3)) ga_X8 0 rfl rfl 3 (by decide) kw_693 rfl rfl dX8_spare_46 rfl ?_
          refine g_iload_n C (n' := 50) 1 rfl dX8_spare_49 rfl rfl ?_
          refine g_iald C (n' := 51) (f := (A4 3)) 2 0 rfl rfl (by omega) (by omega) (by decide) rfl dX8_spare_50 rfl ?_
          have h_50 := hA4 3 x.toNat
          refine g_iald C (n' := 52) (f := (A4 31)) 19 0 rfl rfl (by omega) (by omega) (by decide) rfl dX8_spare_51 rfl ?_
          have h_51 := hA4 31 (((A4 3) x.toNat).toNat)
          refine g_aload_n C (n' := 53) 0 rfl dX8_spare_52 rfl rfl ?_
          refine g_get C (n' := 56) (Cn := RX8) (T := TX8) (N := 35) (ci := 6) (v := .ref (q 31)) ga_X8 0 rfl rfl 31 (by decide) kw_721 rfl rfl dX8_spare_53 rfl ?_
          refine g_aload_n C (n' := 57) 0 rfl dX8_spare_56 rfl rfl ?_
          refine g_get C (n' := 60) (Cn := RX8) (T := TX8) (N := 35) (ci := 6) (v := .ref (q 4)) ga_X8 0 rfl rfl 4 (by decide) kw_694 rfl rfl dX8_spare_57 rfl ?_
          refine g_iload_n C (n' := 61) 1 rfl dX8_spare_60 rfl rfl ?_
          refine g_iald C (n' := 62) (f := (A4 4)) 3 0 rfl rfl (by omega) (by omega) (by decide) rfl dX8_spare_61 rfl ?_
          have h_61 := hA4 4 x.toNat
          refine g_iald C (n' := 63) (f := (A4 31)) 19 0 rfl rfl (by omega) (by omega) (by decide) rfl dX8_spare_62 rfl ?_
          have h_62 := hA4 31 (((A4 4) x.toNat).toNat)
          refine g_isub C (n' := 64) dX8_spare_63 rfl ?_
          refine g_aload_n C (n' := 65) 0 rfl dX8_spare_64 rfl rfl ?_
          refine g_get C (n' := 68) (Cn := RX8) (T := TX8) (N := 35) (ci := 6) (v := .int (iI (I 7))) ga_X8 0 rfl rfl 7 (by decide) kw_697 rfl rfl dX8_spare_65 rfl ?_
          have h_65 := hI 7
          refine g_imul C (n' := 69) dX8_spare_68 rfl ?_
          refine g_istore_n C (n' := 70) [(3, .int (iI ((((A4 31) ((A4 3) x.toNat).toNat) - ((A4 31) ((A4 4) x.toNat).toNat)) * (I 7)))), (0, .ref (q 99)), (1, .int (iI x)), (2, .int (iI y))] dX8_spare_69 rfl rfl (by decide) rfl ?_
          refine g_iload_n C (n' := 71) 3 rfl dX8_spare_70 rfl rfl ?_
          refine g_if_ne C (n' := 74) 90 dX8_spare_71 (by decide) rfl (by unfold inR; omega) (fun c6 => ?_) (fun c6 => ?_)
          · skip
            refine g_aload_n C (n' := 91) 1 rfl dX8_spare_90 rfl rfl ?_
            refine g_iload_n C (n' := 92) 2 rfl dX8_spare_91 rfl rfl ?_
            refine g_cVv C (n' := 95) (v := .int (iI ((A4 0) (17 + x).toNat - (I 6)))) (c_X8_soonOf l D Y C.2.2.2.2.2.2.2.2.1 q I A4 F Dd x (by omega) (by omega)) 1 kw_871 kc_X8_soonOf (by decide +kernel) (pm0 _) 0 (ci := 6) rfl rfl rfl rfl ⟨Nat.le_of_ble_eq_true rfl, Nat.le_of_ble_eq_true rfl⟩ ⟨rfl, rfl⟩ ⟨Nat.le_of_ble_eq_true rfl, Nat.le_of_ble_eq_true rfl⟩ (Nat.le_of_ble_eq_true rfl) dX8_spare_92 rfl rfl (wMod q Y I A4 F Dd) (pm0' _) ?_
            refine g_iload_n C (n' := 96) 0 rfl dX8_spare_95 rfl rfl ?_
            refine g_iadd C (n' := 97) dX8_spare_96 rfl ?_
            refine g_iret C hr hlk rfl ⟨_, rfl, hsA4, hkA4, _, rfl, Or.inr ⟨by show 0 ≤ x ∧ x < I 2; omega, Or.inr ⟨by omega, Or.inr ⟨_, hGA4, ?_⟩⟩⟩⟩ dX8_spare_97
            rw [if_neg (by omega)]
            simp only [mJ, mN]
            rw [hkA4 0 (by omega) (by omega) (by omega), hkA4 3 (by omega) (by omega) (by omega), hkA4 4 (by omega) (by omega) (by omega)]
            rw [show (17 + x).toNat = 17 + x.toNat by omega]
          · skip
            refine g_aload_n C (n' := 75) 1 rfl dX8_spare_74 rfl rfl ?_
            refine g_iload_n C (n' := 76) 2 rfl dX8_spare_75 rfl rfl ?_
            refine g_aload_n C (n' := 77) 1 rfl dX8_spare_76 rfl rfl ?_
            refine g_get C (n' := 80) (Cn := RX8) (T := TX8) (N := 35) (ci := 6) (v := .ref (q 0)) ga_X8 0 rfl rfl 0 (by decide) kw_690 rfl rfl dX8_spare_77 rfl ?_
            refine g_iconst C (n' := 81) dX8_spare_80 rfl ?_
            refine g_ialdN C (n' := 82) (f := (A4 0)) (j := 0) 1 0 rfl rfl (by omega) (by decide) rfl dX8_spare_81 rfl ?_
            have h_81 := hA4 0 0
            refine g_cVv C (n' := 85) (v := .int (iI (((A4 0) 0) - (A4 0) (1 + x).toNat - (I 5)))) (c_X8_lateOf l D Y C.2.2.2.2.2.2.2.2.1 q I A4 F Dd x ((A4 0) 0) (by omega) (by omega)) 2 kw_867 kc_X8_lateOf (by decide +kernel) (pm0 _) 0 (ci := 6) rfl rfl rfl rfl ⟨Nat.le_of_ble_eq_true rfl, Nat.le_of_ble_eq_true rfl⟩ ⟨rfl, rfl⟩ ⟨Nat.le_of_ble_eq_true rfl, Nat.le_of_ble_eq_true rfl⟩ (Nat.le_of_ble_eq_true rfl) dX8_spare_82 rfl rfl (wMod q Y I A4 F Dd) (pm0' _) ?_
            refine g_iload_n C (n' := 86) 0 rfl dX8_spare_85 rfl rfl ?_
            refine g_isub C (n' := 87) dX8_spare_86 rfl ?_
            refine g_goto C 97 dX8_spare_87 (by decide) ?_
            refine g_iret C hr hlk rfl ⟨_, rfl, hsA4, hkA4, _, rfl, Or.inr ⟨by show 0 ≤ x ∧ x < I 2; omega, Or.inr ⟨by omega, Or.inr ⟨_, hGA4, ?_⟩⟩⟩⟩ dX8_spare_97
            rw [if_pos (by omega)]
            simp only [mJ, mN]
            rw [hkA4 0 (by omega) (by omega) (by omega), hkA4 3 (by omega) (by omega) (by omega), hkA4 4 (by omega) (by omega) (by omega)]
            rw [show (1 + x).toNat = 1 + x.toNat by omega]
        · skip
          exfalso
          omega
      · skip
        refine g_perm (w' := (wMod q Y I A4 F Dd)) (pm0' _) ?_
        refine g_st (st' := [.int (iI 0)]) rfl ?_
        have hp9 := hN9.2.2.2.2.2.2 x.toNat (by omega)
        have hk3 : A4 3 = A 3 := hkA4 3 (by omega) (by omega) (by omega)
        have hk4 : A4 4 = A 4 := hkA4 4 (by omega) (by omega) (by omega)
        have hk0 : A4 0 = A 0 := hkA4 0 (by omega) (by omega) (by omega)
        have hq3 : 0 ≤ A4 3 x.toNat ∧ A4 3 x.toNat < 8 := by rw [hk3]; omega
        have hq4 : 0 ≤ A4 4 x.toNat ∧ A4 4 x.toNat < 8 := by rw [hk4]; omega
        refine g_if_ne C (n' := 38) 41 dX8_spare_35 (by decide) rfl (by unfold inR; omega) (fun c7 => ?_) (fun c7 => ?_)
        · skip
          exfalso
          omega
        · skip
          refine g_bipush C (n' := 40) (by decide) dX8_spare_38 rfl ?_
          exact g_iret C hr hlk rfl ⟨_, rfl, hsA4, hkA4, _, rfl, Or.inr ⟨by show 0 ≤ x ∧ x < I 2; omega, Or.inr ⟨by omega, Or.inl ⟨hGA4, rfl⟩⟩⟩⟩ dX8_spare_40
    · skip
      replace c2 := bz_nne.mp c2
      refine g_bipush C (n' := 23) (by decide) dX8_spare_21 rfl ?_
      exact g_iret C hr hlk rfl ⟨_, rfl, hsA, kpA_refl A, _, rfl, Or.inr ⟨by show 0 ≤ x ∧ x < I 2; omega, Or.inl ⟨by omega, rfl⟩⟩⟩ dX8_spare_23
  · skip
    replace c1 := bz_nne.mp c1
    refine g_bipush C (n' := 10) (by decide) dX8_spare_8 rfl ?_
    exact g_iret C hr hlk rfl ⟨_, rfl, hsA, kpA_refl A, _, rfl, Or.inl ⟨by show ¬ (0 ≤ x ∧ x < I 2); omega, rfl⟩⟩ dX8_spare_10
def rtQ (J : Nat → Int) (N : Nat → Nat → Int) (M a b k : Int) : Prop := (1 ≤ b ∧ b < k) ∧ (0 ≤ a ∧ a ≤ M * b) ∧ lpIs J N b 1 (M * b) a ∧ ∀ v z : Int, 1 ≤ v → v < k → lpIs J N v 1 (M * v) z → a * v ≤ z * b ∧ (v < b → a * v < z * b)
theorem rtQ_1 {J : Nat → Int} {N : Nat → Nat → Int} {M a : Int} (hM : 0 ≤ M) (h : lpIs J N 1 1 (M * 1) a) (ha : 0 ≤ a) : rtQ J N M a 1 2 := by
  refine ⟨by omega, by have := lpIs_r h (by omega); omega, h, fun v z h1 h2 h3 => ?_⟩
  have e : v = 1 := by omega
  subst e
  have := lpIs_one (lpIs_M (by omega)) h h3
  omega
theorem rtQ_new {J : Nat → Int} {N : Nat → Nat → Int} {M a b k z : Int} (hM : 0 ≤ M) (h : rtQ J N M a b k) (hz : lpIs J N k 1 (M * k) z) (h0 : 0 ≤ z) (hlt : z * b < a * k) : rtQ J N M z k (k + 1) := by
  obtain ⟨⟨b1, b2⟩, ⟨b3, b6⟩, b4, b5⟩ := h
  refine ⟨by omega, ⟨h0, (lpIs_r hz (Int.mul_nonneg hM (by omega))).2⟩, hz, fun v y h1 h2 h3 => ?_⟩
  by_cases e : v = k
  · subst e
    have := lpIs_one (lpIs_M (by omega)) hz h3
    subst this
    exact ⟨Int.le_refl _, fun q => by omega⟩
  · have q1 := (b5 v y h1 (by omega) h3).1
    have q2 : z * b * v < a * k * v := Int.mul_lt_mul_of_pos_right hlt (by omega)
    have q3 : a * v * k ≤ y * b * k := Int.mul_le_mul_of_nonneg_right q1 (by omega)
    have e1 : z * b * v = z * v * b := Int.mul_right_comm z b v
    have e2 : a * k * v = a * v * k := Int.mul_right_comm a k v
    have e3 : y * b * k = y * k * b := Int.mul_right_comm y b k
    have q4 : z * v * b < y * k * b := by rw [← e1, ← e3]; rw [e2] at q2; omega
    have q5 : z * v < y * k := Int.lt_of_mul_lt_mul_right q4 (by omega)
    exact ⟨by omega, fun _ => q5⟩
theorem rtQ_old {J : Nat → Int} {N : Nat → Nat → Int} {M a b k z : Int} (h : rtQ J N M a b k) (hz : lpIs J N k 1 (M * k) z) (hge : a * k ≤ z * b) : rtQ J N M a b (k + 1) := by
  obtain ⟨⟨b1, b2⟩, b3, b4, b5⟩ := h
  refine ⟨by omega, b3, b4, fun v y h1 h2 h3 => ?_⟩
  by_cases e : v = k
  · subst e
    have := lpIs_one (lpIs_M (by omega)) hz h3
    subst this
    exact ⟨hge, fun q => by omega⟩
  · exact b5 v y h1 (by omega) h3
theorem pr_r2 {x y : Int} (hx : 0 ≤ x ∧ x ≤ 32000) (hy : 1 ≤ y ∧ y ≤ 8) : 0 ≤ x * y ∧ x * y ≤ 256000 := by
  rcases (show y = 1 ∨ y = 2 ∨ y = 3 ∨ y = 4 ∨ y = 5 ∨ y = 6 ∨ y = 7 ∨ y = 8 by omega) with rfl | rfl | rfl | rfl | rfl | rfl | rfl | rfl <;> omega
/-- the state of the loop over divisors: at first 4000 by 1, then the least yet -/
def rtS (J : Nat → Int) (N : Nat → Nat → Int) (a b k : Int) : Prop := (k = 1 ∧ a = 4000 ∧ b = 1) ∨ (2 ≤ k ∧ rtQ J N 4000 a b k)
theorem rtS_r {J : Nat → Int} {N : Nat → Nat → Int} {a b k : Int} (h : rtS J N a b k) (hk : k ≤ 9) : (0 ≤ a ∧ a ≤ 32000) ∧ (1 ≤ b ∧ b ≤ 8) := by
  rcases h with h | ⟨h1, h2, h3, -⟩ <;> omega
theorem rtS_new {J : Nat → Int} {N : Nat → Nat → Int} {a b k z : Int} (h : rtS J N a b k) (hz : lpIs J N k 1 (4000 * k) z) (h0 : 0 ≤ z) (hlt : z * b < a * k) : rtS J N z k (k + 1) := by
  rcases h with ⟨rfl, rfl, rfl⟩ | ⟨h1, h2⟩
  · exact Or.inr ⟨by omega, rtQ_1 (by omega) hz h0⟩
  · exact Or.inr ⟨by omega, rtQ_new (by omega) h2 hz h0 hlt⟩
theorem rtS_old {J : Nat → Int} {N : Nat → Nat → Int} {a b k z : Int} (h : rtS J N a b k) (hz : lpIs J N k 1 (4000 * k) z) (h0 : 0 ≤ z) (hge : a * k ≤ z * b) : rtS J N a b (k + 1) := by
  rcases h with ⟨rfl, rfl, rfl⟩ | ⟨h1, h2⟩
  · have h3 := lpIs_r hz (by omega)
    have e : z = 4000 := by omega
    subst e
    exact Or.inr ⟨by omega, rtQ_1 (by omega) hz h0⟩
  · exact Or.inr ⟨by omega, rtQ_old h2 hz hge⟩
def raM (J : Nat → Int) (N : Nat → Nat → Int) (w z : Int) : Prop := (¬ (0 ≤ w ∧ w ≤ 1) ∧ z = -3) ∨ ((0 ≤ w ∧ w ≤ 1) ∧ ((¬ feas J N 4000 1 0 1 ∧ z = -1) ∨ ∃ a b : Int, rtQ J N 4000 a b (J 0 + 1) ∧ z = if w = 0 then a / (Nat.gcd a.toNat b.toNat : Int) else b / (Nat.gcd a.toNat b.toNat : Int)))
set_option maxRecDepth 100000 in
set_option maxHeartbeats 4000000 in
theorem lp_X8_ra_i {p9 : Program} {l : Launch} {e9 : Env} {s9 : State} {m9 : MethodId} {a9 : Array Value} {b9 : List Frame} {t9 : Method} {c9 : Code} {D : va_G} {A9 : Nat → Prop} {Q9 : State → Prop} {E : (Nat → Prop) → State → Heap → Prop} {Y : Nat → ClassId} (C : g_Cx p9 s9 m9 a9 c9 cX8_rate 9 RX8 D (tysY Y) A9 E) (q : Nat → Nat) (I : Nat → Int) (A : Nat → Nat → Int) (F : Nat → UInt32) (Dd : Nat → UInt64) (w a b k : Int) (hsI : smI I) (hsA : smA A) (hN : okN (mJ I A) (mN A)) (hk : 1 ≤ k ∧ k ≤ 8) : ∀ (n9 : Nat) (A1 : Nat → Nat → Int) (lo hi : Int), smA A1 → kpA A A1 → hi - lo ≤ n9 → 0 ≤ lo → lo ≤ hi → hi ≤ 4000 * k → feas (mJ I A) (mN A) hi k 0 1 → (∀ x, 0 ≤ x → x < lo → ¬ feas (mJ I A) (mN A) x k 0 1) → (∀ (A1 : Nat → Nat → Int) (lo hi : Int), smA A1 → kpA A A1 → 0 ≤ lo → lpIs (mJ I A) (mN A) k 1 (4000 * k) lo → g_G p9 l e9 ({ frames := 3, cells := 0, slots := 0, locals := 70 } : Room) s9 m9 a9 b9 t9 c9 9 D A9 Q9 0 0 (wMod q Y I A1 F Dd) [(6, .int (iI hi)), (5, .int (iI lo)), (0, .ref (q 99)), (1, .int (iI w)), (2, .int (iI a)), (3, .int (iI b)), (4, .int (iI k))] 114 []) → g_G p9 l e9 ({ frames := 3, cells := 0, slots := 0, locals := 70 } : Room) s9 m9 a9 b9 t9 c9 9 D A9 Q9 0 0 (wMod q Y I A1 F Dd) [(6, .int (iI hi)), (5, .int (iI lo)), (0, .ref (q 99)), (1, .int (iI w)), (2, .int (iI a)), (3, .int (iI b)), (4, .int (iI k))] 55 [] := by
  have hE := C.2.2.2.2.2.2.2.2.1
  intro n9
  induction n9 with
  | zero =>
    intro A1 lo hi hsA1 hkA hm h0 h1 h2 hf hlo K
    have hI := hsI
    have hA := hsA
    unfold smI at hI
    unfold smA at hA
    have hN9 := hN
    unfold okN at hN9
    simp only [mJ, mN] at hN9
    have hA1 := hsA1
    unfold smA at hA1
    have hN1 := kpA_ok hkA hN
    refine g_iload C (n' := 57) 1 rfl dX8_rate_55 rfl ?_
    refine g_iload C (n' := 59) 0 rfl dX8_rate_57 rfl ?_
    refine g_icmp_ge C (n' := 62) 114 dX8_rate_59 (by decide) rfl (by unfold inR; omega) (by unfold inR; omega) (fun c1 => ?_) (fun c1 => ?_)
    · skip
      have e9 : lo = hi := by omega
      exact K A1 lo hi hsA1 hkA h0 (Or.inr ⟨by omega, by omega, by rw [e9]; exact hf, hlo⟩)
    · skip
      exfalso
      omega
  | succ n9 ih =>
    intro A1 lo hi hsA1 hkA hm h0 h1 h2 hf hlo K
    have hI := hsI
    have hA := hsA
    unfold smI at hI
    unfold smA at hA
    have hN9 := hN
    unfold okN at hN9
    simp only [mJ, mN] at hN9
    have hA1 := hsA1
    unfold smA at hA1
    have hN1 := kpA_ok hkA hN
    refine g_iload C (n' := 57) 1 rfl dX8_rate_55 rfl ?_
    refine g_iload C (n' := 59) 0 rfl dX8_rate_57 rfl ?_
    refine g_icmp_ge C (n' := 62) 114 dX8_rate_59 (by decide) rfl (by unfold inR; omega) (by unfold inR; omega) (fun c1 => ?_) (fun c1 => ?_)
    · skip
      have e9 : lo = hi := by omega
      exact K A1 lo hi hsA1 hkA h0 (Or.inr ⟨by omega, by omega, by rw [e9]; exact hf, hlo⟩)
    · skip
      refine g_iload C (n' := 64) 1 rfl dX8_rate_62 rfl ?_
      refine g_iload C (n' := 66) 0 rfl dX8_rate_64 rfl ?_
      refine g_iadd C (n' := 67) dX8_rate_66 rfl ?_
      refine g_iconst C (n' := 68) dX8_rate_67 rfl ?_
      refine g_idiv C (n' := 69) (by unfold inR; omega) (by unfold inR; omega) (by omega) (fd_r (by unfold inR; omega) (by omega)) dX8_rate_68 rfl ?_
      rw [Int.tdiv_eq_ediv_of_nonneg (show 0 ≤ lo + hi by omega)]
      refine g_istore C (n' := 71) [(7, .int (iI ((lo + hi) / 2))), (6, .int (iI hi)), (5, .int (iI lo)), (0, .ref (q 99)), (1, .int (iI w)), (2, .int (iI a)), (3, .int (iI b)), (4, .int (iI k))] dX8_rate_69 rfl (by decide) rfl ?_
      refine g_aload_n C (n' := 72) 3 rfl dX8_rate_71 rfl rfl ?_
      refine g_iload C (n' := 74) 0 rfl dX8_rate_72 rfl ?_
      refine g_iload C (n' := 76) 7 rfl dX8_rate_74 rfl ?_
      refine g_callV C (n' := 79) (c_X8_isFeasibleBy l D Y C.2.2.2.2.2.2.2.2.1 q I A1 F Dd ((lo + hi) / 2) k hsI hsA1 hN1 hk (by omega)) 2 kw_944 kc_X8_isFeasibleBy (by decide +kernel) (pm0 _) 0 (ci := 6) rfl rfl rfl rfl ⟨Nat.le_of_ble_eq_true rfl, Nat.le_of_ble_eq_true rfl⟩ ⟨rfl, rfl⟩ ⟨Nat.le_of_ble_eq_true rfl, Nat.le_of_ble_eq_true rfl⟩ (Nat.le_of_ble_eq_true rfl) dX8_rate_76 rfl (fun r9 w9 hp2 => ?_)
      obtain ⟨A3, rfl, hsA3, hkA3, (⟨rfl, hGA3⟩ | ⟨rfl, hGA3⟩)⟩ := hp2
      have hA3 := hsA3
      unfold smA at hA3
      · skip
        refine g_perm (w' := (wMod q Y I A3 F Dd)) (pm0' _) ?_
        refine g_st (st' := [.int (iI 1)]) rfl ?_
        refine g_istore C (n' := 81) [(8, .int (iI 1)), (7, .int (iI ((lo + hi) / 2))), (6, .int (iI hi)), (5, .int (iI lo)), (0, .ref (q 99)), (1, .int (iI w)), (2, .int (iI a)), (3, .int (iI b)), (4, .int (iI k))] dX8_rate_79 rfl (by decide) rfl ?_
        refine g_iload C (n' := 83) 0 rfl dX8_rate_81 rfl ?_
        refine g_if_eq C (n' := 86) 91 dX8_rate_83 (by decide) rfl (by unfold inR; omega) (fun c4 => ?_) (fun c4 => ?_)
        · skip
          exfalso
          omega
        · skip
          refine g_iload C (n' := 88) 1 rfl dX8_rate_86 rfl ?_
          refine g_goto C 93 dX8_rate_88 (by decide) ?_
          refine g_istore C (n' := 95) [(6, .int (iI ((lo + hi) / 2))), (8, .int (iI 1)), (7, .int (iI ((lo + hi) / 2))), (5, .int (iI lo)), (0, .ref (q 99)), (1, .int (iI w)), (2, .int (iI a)), (3, .int (iI b)), (4, .int (iI k))] dX8_rate_93 rfl (by decide) rfl ?_
          refine g_iload C (n' := 97) 1 rfl dX8_rate_95 rfl ?_
          refine g_if_eq C (n' := 100) 105 dX8_rate_97 (by decide) rfl (by unfold inR; omega) (fun c5 => ?_) (fun c5 => ?_)
          · skip
            exfalso
            omega
          · skip
            refine g_iload C (n' := 102) 3 rfl dX8_rate_100 rfl ?_
            refine g_goto C 109 dX8_rate_102 (by decide) ?_
            refine g_istore C (n' := 111) [(5, .int (iI lo)), (6, .int (iI ((lo + hi) / 2))), (8, .int (iI 1)), (7, .int (iI ((lo + hi) / 2))), (0, .ref (q 99)), (1, .int (iI w)), (2, .int (iI a)), (3, .int (iI b)), (4, .int (iI k))] dX8_rate_109 rfl (by decide) rfl ?_
            refine g_goto C 55 dX8_rate_111 (by decide) ?_
            refine g_lv (lv' := [(6, .int (iI ((lo + hi) / 2))), (5, .int (iI lo)), (0, .ref (q 99)), (1, .int (iI w)), (2, .int (iI a)), (3, .int (iI b)), (4, .int (iI k))]) [1, 0, 4, 5, 6, 7, 8] rfl ?_
            rw [kpA_J hkA, kpA_N hkA] at hGA3
            exact ih A3 lo ((lo + hi) / 2) hsA3 (kpA_trans hkA hkA3) (by omega) (by omega) (by omega) (by omega) (feas_of hGA3) hlo K
      · skip
        refine g_perm (w' := (wMod q Y I A3 F Dd)) (pm0' _) ?_
        refine g_st (st' := [.int (iI 0)]) rfl ?_
        refine g_istore C (n' := 81) [(8, .int (iI 0)), (7, .int (iI ((lo + hi) / 2))), (6, .int (iI hi)), (5, .int (iI lo)), (0, .ref (q 99)), (1, .int (iI w)), (2, .int (iI a)), (3, .int (iI b)), (4, .int (iI k))] dX8_rate_79 rfl (by decide) rfl ?_
        refine g_iload C (n' := 83) 0 rfl dX8_rate_81 rfl ?_
        refine g_if_eq C (n' := 86) 91 dX8_rate_83 (by decide) rfl (by unfold inR; omega) (fun c6 => ?_) (fun c6 => ?_)
        · skip
          refine g_iload C (n' := 93) 2 rfl dX8_rate_91 rfl ?_
          refine g_istore C (n' := 95) [(6, .int (iI hi)), (8, .int (iI 0)), (7, .int (iI ((lo + hi) / 2))), (5, .int (iI lo)), (0, .ref (q 99)), (1, .int (iI w)), (2, .int (iI a)), (3, .int (iI b)), (4, .int (iI k))] dX8_rate_93 rfl (by decide) rfl ?_
          refine g_iload C (n' := 97) 1 rfl dX8_rate_95 rfl ?_
          refine g_if_eq C (n' := 100) 105 dX8_rate_97 (by decide) rfl (by unfold inR; omega) (fun c7 => ?_) (fun c7 => ?_)
          · skip
            refine g_iload C (n' := 107) 2 rfl dX8_rate_105 rfl ?_
            refine g_iconst C (n' := 108) dX8_rate_107 rfl ?_
            refine g_iadd C (n' := 109) dX8_rate_108 rfl ?_
            refine g_istore C (n' := 111) [(5, .int (iI (((lo + hi) / 2) + 1))), (6, .int (iI hi)), (8, .int (iI 0)), (7, .int (iI ((lo + hi) / 2))), (0, .ref (q 99)), (1, .int (iI w)), (2, .int (iI a)), (3, .int (iI b)), (4, .int (iI k))] dX8_rate_109 rfl (by decide) rfl ?_
            refine g_goto C 55 dX8_rate_111 (by decide) ?_
            refine g_lv (lv' := [(6, .int (iI hi)), (5, .int (iI (((lo + hi) / 2) + 1))), (0, .ref (q 99)), (1, .int (iI w)), (2, .int (iI a)), (3, .int (iI b)), (4, .int (iI k))]) [1, 0, 4, 5, 6, 7, 8] rfl ?_
            rw [kpA_J hkA, kpA_N hkA] at hGA3
            exact ih A3 (((lo + hi) / 2) + 1) hi hsA3 (kpA_trans hkA hkA3) (by omega) (by omega) (by omega) (by omega) hf (fun x h1 h2 h3 => hGA3 (feas_up (by omega) (by omega) h3)) K
          · skip
            exfalso
            omega
        · skip
          exfalso
          omega
set_option maxRecDepth 100000 in
set_option maxHeartbeats 4000000 in
theorem lp_X8_ra_o {p9 : Program} {l : Launch} {e9 : Env} {s9 : State} {m9 : MethodId} {a9 : Array Value} {b9 : List Frame} {t9 : Method} {c9 : Code} {D : va_G} {A9 : Nat → Prop} {Q9 : State → Prop} {E : (Nat → Prop) → State → Heap → Prop} {Y : Nat → ClassId} (C : g_Cx p9 s9 m9 a9 c9 cX8_rate 9 RX8 D (tysY Y) A9 E) (q : Nat → Nat) (I : Nat → Int) (A : Nat → Nat → Int) (F : Nat → UInt32) (Dd : Nat → UInt64) (w : Int) (hsI : smI I) (hsA : smA A) (hN : okN (mJ I A) (mN A)) (hfe : feas (mJ I A) (mN A) 4000 1 0 1) : ∀ (n9 : Nat) (A1 : Nat → Nat → Int) (a b k : Int), smA A1 → kpA A A1 → k + n9 = I 1 + 1 → 1 ≤ k → rtS (mJ I A) (mN A) a b k → (∀ (A1 : Nat → Nat → Int) (a b k : Int), smA A1 → kpA A A1 → rtQ (mJ I A) (mN A) 4000 a b (I 1 + 1) → g_G p9 l e9 ({ frames := 3, cells := 0, slots := 0, locals := 70 } : Room) s9 m9 a9 b9 t9 c9 9 D A9 Q9 0 0 (wMod q Y I A1 F Dd) [(4, .int (iI k)), (3, .int (iI b)), (2, .int (iI a)), (0, .ref (q 99)), (1, .int (iI w))] 137 []) → g_G p9 l e9 ({ frames := 3, cells := 0, slots := 0, locals := 70 } : Room) s9 m9 a9 b9 t9 c9 9 D A9 Q9 0 0 (wMod q Y I A1 F Dd) [(4, .int (iI k)), (3, .int (iI b)), (2, .int (iI a)), (0, .ref (q 99)), (1, .int (iI w))] 35 [] := by
  have hE := C.2.2.2.2.2.2.2.2.1
  intro n9
  induction n9 with
  | zero =>
    intro A1 a b k hsA1 hkA hk h1 hrt K
    have hI := hsI
    have hA := hsA
    unfold smI at hI
    unfold smA at hA
    have hN9 := hN
    unfold okN at hN9
    simp only [mJ, mN] at hN9
    have hA1 := hsA1
    unfold smA at hA1
    have hrr := rtS_r hrt (by omega)
    refine g_iload C (n' := 37) 0 rfl dX8_rate_35 rfl ?_
    refine g_aload_n C (n' := 38) 3 rfl dX8_rate_37 rfl rfl ?_
    refine g_get C (n' := 41) (Cn := RX8) (T := TX8) (N := 35) (ci := 6) (v := .int (iI (I 1))) ga_X8 0 rfl rfl 1 (by decide) kw_691 rfl rfl dX8_rate_38 rfl ?_
    have h_38 := hI 1
    refine g_icmp_gt C (n' := 44) 137 dX8_rate_41 (by decide) rfl (by unfold inR; omega) (by unfold inR; omega) (fun c1 => ?_) (fun c1 => ?_)
    · skip
      have e9 : k = I 1 + 1 := by omega
      exact K A1 a b k hsA1 hkA (by
        rcases hrt with h | ⟨h1, h2⟩
        · exfalso
          omega
        · rw [← e9]
          exact h2)
    · skip
      exfalso
      omega
  | succ n9 ih =>
    intro A1 a b k hsA1 hkA hk h1 hrt K
    have hI := hsI
    have hA := hsA
    unfold smI at hI
    unfold smA at hA
    have hN9 := hN
    unfold okN at hN9
    simp only [mJ, mN] at hN9
    have hA1 := hsA1
    unfold smA at hA1
    have hrr := rtS_r hrt (by omega)
    refine g_iload C (n' := 37) 0 rfl dX8_rate_35 rfl ?_
    refine g_aload_n C (n' := 38) 3 rfl dX8_rate_37 rfl rfl ?_
    refine g_get C (n' := 41) (Cn := RX8) (T := TX8) (N := 35) (ci := 6) (v := .int (iI (I 1))) ga_X8 0 rfl rfl 1 (by decide) kw_691 rfl rfl dX8_rate_38 rfl ?_
    have h_38 := hI 1
    refine g_icmp_gt C (n' := 44) 137 dX8_rate_41 (by decide) rfl (by unfold inR; omega) (by unfold inR; omega) (fun c1 => ?_) (fun c1 => ?_)
    · skip
      exfalso
      omega
    · skip
      refine g_iconst C (n' := 45) dX8_rate_44 rfl ?_
      refine g_istore C (n' := 47) [(5, .int (iI 0)), (4, .int (iI k)), (3, .int (iI b)), (2, .int (iI a)), (0, .ref (q 99)), (1, .int (iI w))] dX8_rate_45 rfl (by decide) rfl ?_
      refine g_sipush C (n' := 50) (by decide) dX8_rate_47 rfl ?_
      refine g_iload C (n' := 52) 1 rfl dX8_rate_50 rfl ?_
      refine g_imul C (n' := 53) dX8_rate_52 rfl ?_
      refine g_istore C (n' := 55) [(6, .int (iI (4000 * k))), (5, .int (iI 0)), (4, .int (iI k)), (3, .int (iI b)), (2, .int (iI a)), (0, .ref (q 99)), (1, .int (iI w))] dX8_rate_53 rfl (by decide) rfl ?_
      refine g_lv (lv' := [(6, .int (iI (4000 * k))), (5, .int (iI 0)), (0, .ref (q 99)), (1, .int (iI w)), (2, .int (iI a)), (3, .int (iI b)), (4, .int (iI k))]) [0, 1, 5, 6, 4, 3, 2] rfl ?_
      refine lp_X8_ra_i C q I A F Dd w a b k hsI hsA hN (by omega) (4000 * k).toNat A1 0 (4000 * k) hsA1 hkA (by omega) (by omega) (by omega) (by omega) (feas_sc (by omega) hfe) (fun x h1 h2 => by omega) (fun A2 lo hi hsA2 hkA2 hl0 hz => ?_)
      have hzr := lpIs_r hz (by omega)
      have hp1 := pr_r2 (x := lo) (y := b) (by omega) (by omega)
      have hp2 := pr_r2 (x := a) (y := k) (by omega) (by omega)
      refine g_iload C (n' := 116) 1 rfl dX8_rate_114 rfl ?_
      refine g_iload_n C (n' := 117) 5 rfl dX8_rate_116 rfl rfl ?_
      refine g_imul C (n' := 118) dX8_rate_117 rfl ?_
      refine g_iload_n C (n' := 119) 4 rfl dX8_rate_118 rfl rfl ?_
      refine g_iload C (n' := 121) 6 rfl dX8_rate_119 rfl ?_
      refine g_imul C (n' := 122) dX8_rate_121 rfl ?_
      refine g_icmp_ge C (n' := 125) 131 dX8_rate_122 (by decide) rfl (by unfold inR; omega) (by unfold inR; omega) (fun c2 => ?_) (fun c2 => ?_)
      · skip
        refine g_iinc C (n' := 134) 6 [(4, .int (iI (k + 1))), (6, .int (iI hi)), (5, .int (iI lo)), (0, .ref (q 99)), (1, .int (iI w)), (2, .int (iI a)), (3, .int (iI b))] rfl dX8_rate_131 rfl (by decide) rfl ?_
        refine g_goto C 35 dX8_rate_134 (by decide) ?_
        refine g_lv (lv' := [(4, .int (iI (k + 1))), (3, .int (iI b)), (2, .int (iI a)), (0, .ref (q 99)), (1, .int (iI w))]) [0, 6, 5, 3, 4] rfl ?_
        exact ih A2 a b (k + 1) hsA2 hkA2 (by omega) (by omega) (rtS_old hrt hz hl0 c2) K
      · skip
        refine g_iload C (n' := 127) 1 rfl dX8_rate_125 rfl ?_
        refine g_istore_n C (n' := 128) [(2, .int (iI lo)), (6, .int (iI hi)), (5, .int (iI lo)), (0, .ref (q 99)), (1, .int (iI w)), (3, .int (iI b)), (4, .int (iI k))] dX8_rate_127 rfl rfl (by decide) rfl ?_
        refine g_iload C (n' := 130) 6 rfl dX8_rate_128 rfl ?_
        refine g_istore_n C (n' := 131) [(3, .int (iI k)), (2, .int (iI lo)), (6, .int (iI hi)), (5, .int (iI lo)), (0, .ref (q 99)), (1, .int (iI w)), (4, .int (iI k))] dX8_rate_130 rfl rfl (by decide) rfl ?_
        refine g_iinc C (n' := 134) 6 [(4, .int (iI (k + 1))), (3, .int (iI k)), (2, .int (iI lo)), (6, .int (iI hi)), (5, .int (iI lo)), (0, .ref (q 99)), (1, .int (iI w))] rfl dX8_rate_131 rfl (by decide) rfl ?_
        refine g_goto C 35 dX8_rate_134 (by decide) ?_
        refine g_lv (lv' := [(4, .int (iI (k + 1))), (3, .int (iI k)), (2, .int (iI lo)), (0, .ref (q 99)), (1, .int (iI w))]) [0, 1, 2, 5, 6] rfl ?_
        exact ih A2 lo k (k + 1) hsA2 hkA2 (by omega) (by omega) (rtS_new hrt hz hl0 (by omega)) K
set_option maxRecDepth 100000 in
set_option maxHeartbeats 4000000 in
theorem lp_X8_ra_g {p9 : Program} {l : Launch} {e9 : Env} {s9 : State} {m9 : MethodId} {a9 : Array Value} {b9 : List Frame} {t9 : Method} {c9 : Code} {D : va_G} {A9 : Nat → Prop} {Q9 : State → Prop} {E : (Nat → Prop) → State → Heap → Prop} {Y : Nat → ClassId} (C : g_Cx p9 s9 m9 a9 c9 cX8_rate 9 RX8 D (tysY Y) A9 E) (q : Nat → Nat) (I : Nat → Int) (A : Nat → Nat → Int) (F : Nat → UInt32) (Dd : Nat → UInt64) (w a b : Int) (hsI : smI I) (hsA : smA A) : ∀ (n9 : Nat) (x y : Int), 0 ≤ x → x ≤ 100000 → 0 ≤ y → y ≤ 100000 → y < n9 → Nat.gcd x.toNat y.toNat = Nat.gcd a.toNat b.toNat → (g_G p9 l e9 ({ frames := 3, cells := 0, slots := 0, locals := 70 } : Room) s9 m9 a9 b9 t9 c9 9 D A9 Q9 0 0 (wMod q Y I A F Dd) [(5, .int (iI 0)), (4, .int (iI (Nat.gcd a.toNat b.toNat : Int))), (0, .ref (q 99)), (1, .int (iI w)), (2, .int (iI a)), (3, .int (iI b))] 166 []) → g_G p9 l e9 ({ frames := 3, cells := 0, slots := 0, locals := 70 } : Room) s9 m9 a9 b9 t9 c9 9 D A9 Q9 0 0 (wMod q Y I A F Dd) [(5, .int (iI y)), (4, .int (iI x)), (0, .ref (q 99)), (1, .int (iI w)), (2, .int (iI a)), (3, .int (iI b))] 143 [] := by
  have hE := C.2.2.2.2.2.2.2.2.1
  intro n9
  induction n9 with
  | zero =>
    intro x y h0 h1 h2 h3 hy hg K
    omega
  | succ n9 ih =>
    intro x y h0 h1 h2 h3 hy hg K
    have hI := hsI
    have hA := hsA
    unfold smI at hI
    unfold smA at hA
    refine g_iload C (n' := 145) 0 rfl dX8_rate_143 rfl ?_
    refine g_if_eq C (n' := 148) 166 dX8_rate_145 (by decide) rfl (by unfold inR; omega) (fun c1 => ?_) (fun c1 => ?_)
    · skip
      have e0 : y = 0 := by omega
      subst e0
      rw [show (0 : Int).toNat = 0 from rfl, Nat.gcd_zero_right] at hg
      have e1 : x = (Nat.gcd a.toNat b.toNat : Int) := by omega
      rw [e1]
      exact K
    · skip
      refine g_iload C (n' := 150) 1 rfl dX8_rate_148 rfl ?_
      refine g_iload C (n' := 152) 0 rfl dX8_rate_150 rfl ?_
      refine g_irem C (n' := 153) (by unfold inR; omega) (by unfold inR; omega) (by omega) (fd_r (by unfold inR; omega) (by omega)) dX8_rate_152 rfl ?_
      refine g_istore C (n' := 155) [(6, .int (iI (x.tmod y))), (5, .int (iI y)), (4, .int (iI x)), (0, .ref (q 99)), (1, .int (iI w)), (2, .int (iI a)), (3, .int (iI b))] dX8_rate_153 rfl (by decide) rfl ?_
      refine g_iload C (n' := 157) 1 rfl dX8_rate_155 rfl ?_
      refine g_istore C (n' := 159) [(4, .int (iI y)), (6, .int (iI (x.tmod y))), (5, .int (iI y)), (0, .ref (q 99)), (1, .int (iI w)), (2, .int (iI a)), (3, .int (iI b))] dX8_rate_157 rfl (by decide) rfl ?_
      refine g_iload C (n' := 161) 1 rfl dX8_rate_159 rfl ?_
      refine g_istore C (n' := 163) [(5, .int (iI (x.tmod y))), (4, .int (iI y)), (6, .int (iI (x.tmod y))), (0, .ref (q 99)), (1, .int (iI w)), (2, .int (iI a)), (3, .int (iI b))] dX8_rate_161 rfl (by decide) rfl ?_
      refine g_goto C 143 dX8_rate_163 (by decide) ?_
      refine g_lv (lv' := [(5, .int (iI (x.tmod y))), (4, .int (iI y)), (0, .ref (q 99)), (1, .int (iI w)), (2, .int (iI a)), (3, .int (iI b))]) [0, 1, 3, 4, 5, 6] rfl ?_
      refine ih y (x.tmod y) (by omega) (by omega) (Int.tmod_nonneg y h0) (by have := Int.tmod_lt_of_pos x (show 0 < y by omega); omega) (by have := Int.tmod_lt_of_pos x (show 0 < y by omega); omega) ?_ K
      rw [← hg, Int.tmod_eq_emod_of_nonneg h0]
      have e2 : (x % y).toNat = x.toNat % y.toNat := Int.toNat_emod h0 h2
      rw [e2, Nat.gcd_comm x.toNat y.toNat, Nat.gcd_rec y.toNat x.toNat, Nat.gcd_comm]
set_option maxRecDepth 100000 in
set_option maxHeartbeats 4000000 in
theorem c_X8_rate (l : Launch) (D : va_G) (Y : Nat → ClassId) {E : (Nat → Prop) → State → Heap → Prop} (hE : g_Stab E) (q : Nat → Nat) (I : Nat → Int) (A : Nat → Nat → Int) (F : Nat → UInt32) (Dd : Nat → UInt64) (w : Int) (hsI : smI I) (hsA : smA A) (hN : okN (mJ I A) (mN A)) (hw : inR w) : g_Ct l yX8_rate cX8_rate 9 (some FieldType.int) ({ frames := 3, cells := 0, slots := 0, locals := 70 } : Room) D (tysY Y) E [.ref (q 99), .int (iI w)] (wMod q Y I A F Dd) 0 0 (fun r9 w9 => ∃ A1 : Nat → Nat → Int, w9 = wMod q Y I A1 F Dd ∧ smA A1 ∧ kpA A A1 ∧ ∃ z : Int, r9 = some (.int (iI z)) ∧ raM (mJ I A) (mN A) w z) := by
  refine g_ofG (own := RX8) hE (by decide) rfl (Nat.le_of_ble_eq_true rfl) [(0, .ref (q 99)), (1, .int (iI w))] rfl ?_
  intro p9 e9 s9 m9 b9 t9 c9 A9 C hr hlk hnm
  have hI := hsI
  have hA := hsA
  unfold smI at hI
  unfold smA at hA
  have hN9 := hN
  unfold okN at hN9
  simp only [mJ, mN] at hN9
  have hw9 := hw
  unfold inR at hw9
  refine g_iload_n C (n' := 1) 1 rfl dX8_rate_0 rfl rfl ?_
  refine g_i2l C (n' := 2) (by unfold inR; omega) dX8_rate_1 rfl ?_
  refine g_lconst C (n' := 3) 0 (by decide) dX8_rate_2 rfl ?_
  refine g_lconst C (n' := 4) 1 (by decide) dX8_rate_3 rfl ?_
  refine g_cSv C (n' := 7) (v := .int (iI (if 0 ≤ w ∧ w ≤ 1 then 1 else 0))) (c_X8_in l D Y C.2.2.2.2.2.2.2.2.1 w 0 1 hw (by unfold inR at *; omega) (by unfold inR at *; omega)) 3 kw_802 kc_X8_in (by decide +kernel) (pm_n _) rfl ⟨Nat.le_of_ble_eq_true rfl, Nat.le_of_ble_eq_true rfl⟩ ⟨rfl, rfl⟩ ⟨Nat.le_of_ble_eq_true rfl, Nat.le_of_ble_eq_true rfl⟩ (Nat.le_of_ble_eq_true rfl) dX8_rate_4 rfl rfl (wMod q Y I A F Dd) (pm_n _) ?_
  refine g_if_ne C (n' := 10) 13 dX8_rate_7 (by decide) rfl bz_r (fun c1 => ?_) (fun c1 => ?_)
  · skip
    replace c1 := bz_ne.mp c1
    refine g_aload_n C (n' := 14) 0 rfl dX8_rate_13 rfl rfl ?_
    refine g_sipush C (n' := 17) (by decide) dX8_rate_14 rfl ?_
    refine g_iconst C (n' := 18) dX8_rate_17 rfl ?_
    refine g_callV C (n' := 21) (c_X8_isFeasibleBy l D Y C.2.2.2.2.2.2.2.2.1 q I A F Dd 4000 1 hsI hsA hN (by omega) (by omega)) 2 kw_944 kc_X8_isFeasibleBy (by decide +kernel) (pm0 _) 0 (ci := 6) rfl rfl rfl rfl ⟨Nat.le_of_ble_eq_true rfl, Nat.le_of_ble_eq_true rfl⟩ ⟨rfl, rfl⟩ ⟨Nat.le_of_ble_eq_true rfl, Nat.le_of_ble_eq_true rfl⟩ (Nat.le_of_ble_eq_true rfl) dX8_rate_18 rfl (fun r9 w9 hp2 => ?_)
    obtain ⟨A3, rfl, hsA3, hkA3, (⟨rfl, hGA3⟩ | ⟨rfl, hGA3⟩)⟩ := hp2
    have hA3 := hsA3
    unfold smA at hA3
    · skip
      refine g_perm (w' := (wMod q Y I A3 F Dd)) (pm0' _) ?_
      refine g_st (st' := [.int (iI 1)]) rfl ?_
      refine g_if_ne C (n' := 24) 26 dX8_rate_21 (by decide) rfl (by unfold inR; omega) (fun c4 => ?_) (fun c4 => ?_)
      · skip
        refine g_sipush C (n' := 29) (by decide) dX8_rate_26 rfl ?_
        refine g_istore_n C (n' := 30) [(2, .int (iI 4000)), (0, .ref (q 99)), (1, .int (iI w))] dX8_rate_29 rfl rfl (by decide) rfl ?_
        refine g_iconst C (n' := 31) dX8_rate_30 rfl ?_
        refine g_istore_n C (n' := 32) [(3, .int (iI 1)), (2, .int (iI 4000)), (0, .ref (q 99)), (1, .int (iI w))] dX8_rate_31 rfl rfl (by decide) rfl ?_
        refine g_iconst C (n' := 33) dX8_rate_32 rfl ?_
        refine g_istore C (n' := 35) [(4, .int (iI 1)), (3, .int (iI 1)), (2, .int (iI 4000)), (0, .ref (q 99)), (1, .int (iI w))] dX8_rate_33 rfl (by decide) rfl ?_
        refine g_lv (lv' := [(4, .int (iI 1)), (3, .int (iI 1)), (2, .int (iI 4000)), (0, .ref (q 99)), (1, .int (iI w))]) [0, 1, 2, 3, 4] rfl ?_
        refine lp_X8_ra_o C q I A F Dd w hsI hsA hN (feas_of hGA3) (I 1).toNat A3 4000 1 1 hsA3 hkA3 (by omega) (by omega) (Or.inl ⟨rfl, rfl, rfl⟩) (fun A2 a b k hsA2 hkA2 hrt => ?_)
        have hr1 := hrt.1
        have hr2 := hrt.2.1
        have hA2 := hsA2
        unfold smA at hA2
        refine g_iload_n C (n' := 138) 2 rfl dX8_rate_137 rfl rfl ?_
        refine g_istore C (n' := 140) [(4, .int (iI a)), (3, .int (iI b)), (2, .int (iI a)), (0, .ref (q 99)), (1, .int (iI w))] dX8_rate_138 rfl (by decide) rfl ?_
        refine g_iload_n C (n' := 141) 1 rfl dX8_rate_140 rfl rfl ?_
        refine g_istore C (n' := 143) [(5, .int (iI b)), (4, .int (iI a)), (3, .int (iI b)), (2, .int (iI a)), (0, .ref (q 99)), (1, .int (iI w))] dX8_rate_141 rfl (by decide) rfl ?_
        refine g_lv (lv' := [(5, .int (iI b)), (4, .int (iI a)), (0, .ref (q 99)), (1, .int (iI w)), (2, .int (iI a)), (3, .int (iI b))]) [0, 1, 4, 5, 3, 2] rfl ?_
        have hgp : 0 < (Nat.gcd a.toNat b.toNat : Int) := by have := Nat.gcd_pos_of_pos_right a.toNat (show 0 < b.toNat by omega); omega
        have hgl : (Nat.gcd a.toNat b.toNat : Int) ≤ b := by have := Nat.gcd_le_right a.toNat (show 0 < b.toNat by omega); omega
        refine lp_X8_ra_g C q I A2 F Dd w a b hsI hsA2 (b + 1).toNat a b (by omega) (by omega) (by omega) (by omega) (by omega) rfl ?_
        refine g_iload_n C (n' := 167) 3 rfl dX8_rate_166 rfl rfl ?_
        refine g_if_ne C (n' := 170) 177 dX8_rate_167 (by decide) rfl (by unfold inR; omega) (fun c5 => ?_) (fun c5 => ?_)
        · skip
          refine g_iload_n C (n' := 178) 5 rfl dX8_rate_177 rfl rfl ?_
          refine g_iload C (n' := 180) 1 rfl dX8_rate_178 rfl ?_
          refine g_idiv C (n' := 181) (by unfold inR; omega) (by unfold inR; omega) (by omega) (fd_r (by unfold inR; omega) (by omega)) dX8_rate_180 rfl ?_
          refine g_iret C hr hlk rfl ⟨_, rfl, hsA2, hkA2, _, rfl, Or.inr ⟨by omega, Or.inr ⟨a, b, hrt, ?_⟩⟩⟩ dX8_rate_181
          rw [if_neg (by omega), Int.tdiv_eq_ediv_of_nonneg (by omega)]
        · skip
          refine g_iload_n C (n' := 171) 4 rfl dX8_rate_170 rfl rfl ?_
          refine g_iload C (n' := 173) 1 rfl dX8_rate_171 rfl ?_
          refine g_idiv C (n' := 174) (by unfold inR; omega) (by unfold inR; omega) (by omega) (fd_r (by unfold inR; omega) (by omega)) dX8_rate_173 rfl ?_
          refine g_goto C 181 dX8_rate_174 (by decide) ?_
          refine g_iret C hr hlk rfl ⟨_, rfl, hsA2, hkA2, _, rfl, Or.inr ⟨by omega, Or.inr ⟨a, b, hrt, ?_⟩⟩⟩ dX8_rate_181
          rw [if_pos (by omega), Int.tdiv_eq_ediv_of_nonneg (by omega)]
      · skip
        exfalso
        omega
    · skip
      refine g_perm (w' := (wMod q Y I A3 F Dd)) (pm0' _) ?_
      refine g_st (st' := [.int (iI 0)]) rfl ?_
      refine g_if_ne C (n' := 24) 26 dX8_rate_21 (by decide) rfl (by unfold inR; omega) (fun c6 => ?_) (fun c6 => ?_)
      · skip
        exfalso
        omega
      · skip
        refine g_iconst C (n' := 25) dX8_rate_24 rfl ?_
        exact g_iret C hr hlk rfl ⟨_, rfl, hsA3, hkA3, _, rfl, Or.inr ⟨by omega, Or.inl ⟨hGA3, rfl⟩⟩⟩ dX8_rate_25
  · skip
    replace c1 := bz_nne.mp c1
    refine g_bipush C (n' := 12) (by decide) dX8_rate_10 rfl ?_
    exact g_iret C hr hlk rfl ⟨_, rfl, hsA, kpA_refl A, _, rfl, Or.inl ⟨by omega, rfl⟩⟩ dX8_rate_12
