/-! the reference: trace, set, rest, compare -/
def m_clr {α : Type} (z : α) (f : Nat → α) (b n : Nat) : Nat → α := fun j => if b ≤ j ∧ j < b + n then z else f j
theorem m_clr_0 {α : Type} (z : α) (f : Nat → α) (b : Nat) : m_clr z f b 0 = f := funext fun j => if_neg (by omega)
theorem m_clr_s {α : Type} (z : α) (f : Nat → α) (b k : Nat) : sU (m_clr z f b k) (b + k) z = m_clr z f b (k + 1) := by
  funext j
  unfold sU m_clr
  by_cases e : j = b + k
  · rw [if_pos e, if_pos (by omega)]
  · rw [if_neg e]
    by_cases q : b ≤ j ∧ j < b + k
    · rw [if_pos q, if_pos (by omega)]
    · rw [if_neg q, if_neg (by omega)]
set_option maxRecDepth 100000 in
set_option maxHeartbeats 4000000 in
theorem lp_X8_tr {p9 : Program} {l : Launch} {e9 : Env} {s9 : State} {m9 : MethodId} {a9 : Array Value} {b9 : List Frame} {t9 : Method} {c9 : Code} {D : va_G} {A9 : Nat → Prop} {Q9 : State → Prop} {E : (Nat → Prop) → State → Heap → Prop} {Y : Nat → ClassId} (C : g_Cx p9 s9 m9 a9 c9 cX8_trace 5 RX8 D (tysY Y) A9 E) (q : Nat → Nat) (I : Nat → Int) (A : Nat → Nat → Int) (F : Nat → UInt32) (Dd : Nat → UInt64) (t x n : Int) (ht : 0 ≤ t ∧ t ≤ 2) : ∀ (n9 : Nat) (k : Nat), k + n9 = 8 → (g_G p9 l e9 ({ frames := 2, cells := 0, slots := 0, locals := 45 } : Room) s9 m9 a9 b9 t9 c9 5 D A9 Q9 0 0 (wMod q Y I (sU (sU A 12 (sU (A 12) t.toNat x)) 13 (sU (A 13) t.toNat n)) (m_clr 0 F (8 * t.toNat) 8) (m_clr 0 Dd (8 * t.toNat) 8)) [(4, .int (iI ((8 : Nat) : Int))), (0, .ref (q 99)), (1, .int (iI t)), (2, .int (iI x)), (3, .int (iI n))] 92 []) → g_G p9 l e9 ({ frames := 2, cells := 0, slots := 0, locals := 45 } : Room) s9 m9 a9 b9 t9 c9 5 D A9 Q9 0 0 (wMod q Y I (sU (sU A 12 (sU (A 12) t.toNat x)) 13 (sU (A 13) t.toNat n)) (m_clr 0 F (8 * t.toNat) k) (m_clr 0 Dd (8 * t.toNat) k)) [(4, .int (iI ((k : Nat) : Int))), (0, .ref (q 99)), (1, .int (iI t)), (2, .int (iI x)), (3, .int (iI n))] 53 [] := by
  have hE := C.2.2.2.2.2.2.2.2.1
  intro n9
  induction n9 with
  | zero =>
    intro k hk K
    refine g_iload C (n' := 55) 0 rfl dX8_trace_53 rfl ?_
    refine g_bipush C (n' := 57) (by decide) dX8_trace_55 rfl ?_
    refine g_icmp_ge C (n' := 60) 92 dX8_trace_57 (by decide) rfl (by unfold inR; omega) (by unfold inR; omega) (fun c1 => ?_) (fun c1 => ?_)
    · skip
      have ek : k = 8 := by omega
      subst ek
      exact K
    · skip
      exfalso
      omega
  | succ n9 ih =>
    intro k hk K
    refine g_iload C (n' := 55) 0 rfl dX8_trace_53 rfl ?_
    refine g_bipush C (n' := 57) (by decide) dX8_trace_55 rfl ?_
    refine g_icmp_ge C (n' := 60) 92 dX8_trace_57 (by decide) rfl (by unfold inR; omega) (by unfold inR; omega) (fun c1 => ?_) (fun c1 => ?_)
    · skip
      exfalso
      omega
    · skip
      refine g_aload_n C (n' := 61) 1 rfl dX8_trace_60 rfl rfl ?_
      refine g_get C (n' := 64) (Cn := RX8) (T := TX8) (N := 35) (ci := 6) (v := .ref (q 14)) ga_X8 0 rfl rfl 14 (by decide) kw_704 rfl rfl dX8_trace_61 rfl ?_
      refine g_bipush C (n' := 66) (by decide) dX8_trace_64 rfl ?_
      refine g_iload_n C (n' := 67) 2 rfl dX8_trace_66 rfl rfl ?_
      refine g_imul C (n' := 68) dX8_trace_67 rfl ?_
      refine g_iload C (n' := 70) 0 rfl dX8_trace_68 rfl ?_
      refine g_iadd C (n' := 71) dX8_trace_70 rfl ?_
      refine g_fconst0 C (n' := 72) dX8_trace_71 rfl ?_
      refine g_fast C (n' := 73) (f := (m_clr 0 F (8 * t.toNat) k)) 8 4 rfl rfl (by omega) (by omega) (by decide) dX8_trace_72 rfl (wMod q Y I (sU (sU A 12 (sU (A 12) t.toNat x)) 13 (sU (A 13) t.toNat n)) (sU (m_clr 0 F (8 * t.toNat) k) ((8 * t) + ((k : Nat) : Int)).toNat 0) (m_clr 0 Dd (8 * t.toNat) k)) rfl ?_
      refine g_aload_n C (n' := 74) 1 rfl dX8_trace_73 rfl rfl ?_
      refine g_get C (n' := 77) (Cn := RX8) (T := TX8) (N := 35) (ci := 6) (v := .ref (q 15)) ga_X8 0 rfl rfl 15 (by decide) kw_705 rfl rfl dX8_trace_74 rfl ?_
      refine g_bipush C (n' := 79) (by decide) dX8_trace_77 rfl ?_
      refine g_iload_n C (n' := 80) 2 rfl dX8_trace_79 rfl rfl ?_
      refine g_imul C (n' := 81) dX8_trace_80 rfl ?_
      refine g_iload C (n' := 83) 0 rfl dX8_trace_81 rfl ?_
      refine g_iadd C (n' := 84) dX8_trace_83 rfl ?_
      refine g_dconst0 C (n' := 85) dX8_trace_84 rfl ?_
      refine g_dast C (n' := 86) (f := (m_clr 0 Dd (8 * t.toNat) k)) 9 3 rfl rfl (by omega) (by omega) (by decide) dX8_trace_85 rfl (wMod q Y I (sU (sU A 12 (sU (A 12) t.toNat x)) 13 (sU (A 13) t.toNat n)) (sU (m_clr 0 F (8 * t.toNat) k) ((8 * t) + ((k : Nat) : Int)).toNat 0) (sU (m_clr 0 Dd (8 * t.toNat) k) ((8 * t) + ((k : Nat) : Int)).toNat 0)) rfl ?_
      refine g_iinc C (n' := 89) 0 [(4, .int (iI (((k : Nat) : Int) + 1))), (0, .ref (q 99)), (1, .int (iI t)), (2, .int (iI x)), (3, .int (iI n))] rfl dX8_trace_86 rfl (by decide) rfl ?_
      refine g_goto C 53 dX8_trace_89 (by decide) ?_
      have ei : ((8 * t) + ((k : Nat) : Int)).toNat = 8 * t.toNat + k := by omega
      have e1 : (sU (m_clr 0 F (8 * t.toNat) k) ((8 * t) + ((k : Nat) : Int)).toNat 0) = m_clr 0 F (8 * t.toNat) (k + 1) := by rw [ei]; exact m_clr_s _ _ _ _
      have e2 : (sU (m_clr 0 Dd (8 * t.toNat) k) ((8 * t) + ((k : Nat) : Int)).toNat 0) = m_clr 0 Dd (8 * t.toNat) (k + 1) := by rw [ei]; exact m_clr_s _ _ _ _
      rw [e1, e2]
      refine g_lv (lv' := [(4, .int (iI ((k + 1 : Nat) : Int))), (0, .ref (q 99)), (1, .int (iI t)), (2, .int (iI x)), (3, .int (iI n))]) [0, 1, 2, 3, 4] rfl ?_
      exact ih (k + 1) (by omega) K
set_option maxRecDepth 100000 in
set_option maxHeartbeats 4000000 in
theorem c_X8_trace (l : Launch) (D : va_G) (Y : Nat → ClassId) {E : (Nat → Prop) → State → Heap → Prop} (hE : g_Stab E) (q : Nat → Nat) (I : Nat → Int) (A : Nat → Nat → Int) (F : Nat → UInt32) (Dd : Nat → UInt64) (t : Int) (x : Int) (n : Int) (hsI : smI I) (hsA : smA A) (ht : inR t) (hx : inR x) (hn : inR n) : g_Ct l yX8_trace cX8_trace 5 (some FieldType.int) ({ frames := 2, cells := 0, slots := 0, locals := 45 } : Room) D (tysY Y) E [.ref (q 99), .int (iI t), .int (iI x), .int (iI n)] (wMod q Y I A F Dd) 0 0 (fun r9 w9 => (¬ (0 ≤ t ∧ t ≤ 2) ∧ r9 = some (.int (iI (-2))) ∧ w9 = wMod q Y I A F Dd) ∨ ((0 ≤ t ∧ t ≤ 2) ∧ ((¬ ((0 ≤ x ∧ x ≤ 1) ∧ n ≤ 8) ∧ r9 = some (.int (iI (-3))) ∧ w9 = wMod q Y I A F Dd) ∨ (((0 ≤ x ∧ x ≤ 1) ∧ n ≤ 8) ∧ ((n < 0 ∧ r9 = some (.int (iI (-12))) ∧ w9 = wMod q Y I A F Dd) ∨ (0 ≤ n ∧ r9 = some (.int (iI (n))) ∧ w9 = wMod q Y I (sU (sU A 12 (sU (A 12) t.toNat x)) 13 (sU (A 13) t.toNat n)) (m_clr 0 F (8 * t.toNat) 8) (m_clr 0 Dd (8 * t.toNat) 8))))))) := by
  refine g_ofG (own := RX8) hE (by decide) rfl (Nat.le_of_ble_eq_true rfl) [(0, .ref (q 99)), (1, .int (iI t)), (2, .int (iI x)), (3, .int (iI n))] rfl ?_
  intro p9 e9 s9 m9 b9 t9 c9 A9 C hr hlk hnm
  have hI := hsI
  have hA := hsA
  unfold smI at hI
  unfold smA at hA
  have ht9 := ht
  have hx9 := hx
  have hn9 := hn
  unfold inR at ht9 hx9 hn9
  refine g_iload_n C (n' := 1) 1 rfl dX8_trace_0 rfl rfl ?_
  refine g_cSv C (n' := 4) (v := .int (iI (if 0 ≤ t ∧ t ≤ 2 then 1 else 0))) (c_X8_isTrace l D Y C.2.2.2.2.2.2.2.2.1 t ht) 1 kw_989 kc_X8_isTrace (by decide +kernel) (pm_n _) rfl ⟨Nat.le_of_ble_eq_true rfl, Nat.le_of_ble_eq_true rfl⟩ ⟨rfl, rfl⟩ ⟨Nat.le_of_ble_eq_true rfl, Nat.le_of_ble_eq_true rfl⟩ (Nat.le_of_ble_eq_true rfl) dX8_trace_1 rfl rfl (wMod q Y I A F Dd) (pm_n _) ?_
  refine g_if_ne C (n' := 7) 10 dX8_trace_4 (by decide) rfl bz_r (fun c1 => ?_) (fun c1 => ?_)
  · skip
    replace c1 := bz_ne.mp c1
    refine g_iload_n C (n' := 11) 2 rfl dX8_trace_10 rfl rfl ?_
    refine g_i2l C (n' := 12) (by unfold inR; omega) dX8_trace_11 rfl ?_
    refine g_lconst C (n' := 13) 0 (by decide) dX8_trace_12 rfl ?_
    refine g_lconst C (n' := 14) 1 (by decide) dX8_trace_13 rfl ?_
    refine g_cSv C (n' := 17) (v := .int (iI (if 0 ≤ x ∧ x ≤ 1 then 1 else 0))) (c_X8_in l D Y C.2.2.2.2.2.2.2.2.1 x 0 1 hx (by unfold inR at *; omega) (by unfold inR at *; omega)) 3 kw_802 kc_X8_in (by decide +kernel) (pm_n _) rfl ⟨Nat.le_of_ble_eq_true rfl, Nat.le_of_ble_eq_true rfl⟩ ⟨rfl, rfl⟩ ⟨Nat.le_of_ble_eq_true rfl, Nat.le_of_ble_eq_true rfl⟩ (Nat.le_of_ble_eq_true rfl) dX8_trace_14 rfl rfl (wMod q Y I A F Dd) (pm_n _) ?_
    refine g_if_eq C (n' := 20) 26 dX8_trace_17 (by decide) rfl bz_r (fun c2 => ?_) (fun c2 => ?_)
    · skip
      replace c2 := bz_eq.mp c2
      refine g_bipush C (n' := 28) (by decide) dX8_trace_26 rfl ?_
      exact g_iret C hr hlk rfl (Or.inr ⟨by omega, Or.inl ⟨by omega, rfl, rfl⟩⟩) dX8_trace_28
    · skip
      replace c2 := bz_neq.mp c2
      refine g_iload_n C (n' := 21) 3 rfl dX8_trace_20 rfl rfl ?_
      refine g_bipush C (n' := 23) (by decide) dX8_trace_21 rfl ?_
      refine g_icmp_le C (n' := 26) 29 dX8_trace_23 (by decide) rfl (by unfold inR; omega) (by unfold inR; omega) (fun c3 => ?_) (fun c3 => ?_)
      · skip
        refine g_iload_n C (n' := 30) 3 rfl dX8_trace_29 rfl rfl ?_
        refine g_if_ge C (n' := 33) 36 dX8_trace_30 (by decide) rfl (by unfold inR; omega) (fun c4 => ?_) (fun c4 => ?_)
        · skip
          refine g_aload_n C (n' := 37) 0 rfl dX8_trace_36 rfl rfl ?_
          refine g_get C (n' := 40) (Cn := RX8) (T := TX8) (N := 35) (ci := 6) (v := .ref (q 12)) ga_X8 0 rfl rfl 12 (by decide) kw_702 rfl rfl dX8_trace_37 rfl ?_
          refine g_iload_n C (n' := 41) 1 rfl dX8_trace_40 rfl rfl ?_
          refine g_iload_n C (n' := 42) 2 rfl dX8_trace_41 rfl rfl ?_
          refine g_iast C (n' := 43) (f := (A 12)) 6 0 rfl rfl (by omega) (by omega) (by decide) rfl dX8_trace_42 rfl (wMod q Y I (sU A 12 (sU (A 12) t.toNat x)) F Dd) rfl ?_
          refine g_aload_n C (n' := 44) 0 rfl dX8_trace_43 rfl rfl ?_
          refine g_get C (n' := 47) (Cn := RX8) (T := TX8) (N := 35) (ci := 6) (v := .ref (q 13)) ga_X8 0 rfl rfl 13 (by decide) kw_703 rfl rfl dX8_trace_44 rfl ?_
          refine g_iload_n C (n' := 48) 1 rfl dX8_trace_47 rfl rfl ?_
          refine g_iload_n C (n' := 49) 3 rfl dX8_trace_48 rfl rfl ?_
          refine g_iast C (n' := 50) (f := (A 13)) 7 0 rfl rfl (by omega) (by omega) (by decide) rfl dX8_trace_49 rfl (wMod q Y I (sU (sU A 12 (sU (A 12) t.toNat x)) 13 (sU (A 13) t.toNat n)) F Dd) rfl ?_
          refine g_iconst C (n' := 51) dX8_trace_50 rfl ?_
          refine g_istore C (n' := 53) [(4, .int (iI 0)), (0, .ref (q 99)), (1, .int (iI t)), (2, .int (iI x)), (3, .int (iI n))] dX8_trace_51 rfl (by decide) rfl ?_
          refine g_wd (w' := (wMod q Y I (sU (sU A 12 (sU (A 12) t.toNat x)) 13 (sU (A 13) t.toNat n)) (m_clr 0 F (8 * t.toNat) 0) (m_clr 0 Dd (8 * t.toNat) 0))) (by rw [m_clr_0, m_clr_0]) ?_
          refine g_lv (lv' := [(4, .int (iI ((0 : Nat) : Int))), (0, .ref (q 99)), (1, .int (iI t)), (2, .int (iI x)), (3, .int (iI n))]) [0, 1, 2, 3, 4] rfl ?_
          refine lp_X8_tr C q I A F Dd t x n (by omega) 8 0 rfl ?_
          refine g_iload_n C (n' := 93) 4 rfl dX8_trace_92 rfl rfl ?_
          exact g_iret C hr hlk rfl (Or.inr ⟨by omega, Or.inr ⟨by omega, Or.inr ⟨by omega, rfl, rfl⟩⟩⟩) dX8_trace_93
        · skip
          refine g_bipush C (n' := 35) (by decide) dX8_trace_33 rfl ?_
          exact g_iret C hr hlk rfl (Or.inr ⟨by omega, Or.inr ⟨by omega, Or.inl ⟨by omega, rfl, rfl⟩⟩⟩) dX8_trace_35
      · skip
        refine g_bipush C (n' := 28) (by decide) dX8_trace_26 rfl ?_
        exact g_iret C hr hlk rfl (Or.inr ⟨by omega, Or.inl ⟨by omega, rfl, rfl⟩⟩) dX8_trace_28
  · skip
    replace c1 := bz_nne.mp c1
    refine g_bipush C (n' := 9) (by decide) dX8_trace_7 rfl ?_
    exact g_iret C hr hlk rfl (Or.inl ⟨by omega, rfl, rfl⟩) dX8_trace_9
theorem thV_0 {s : Int} {f : UInt32} {d e : UInt64} (h : s = 0) : thV s f d = thV 0 f e := by
  unfold thV
  rw [if_pos h, if_pos rfl]
theorem thV_1 {s : Int} {f g : UInt32} {d : UInt64} (h : s = 1) : thV s f d = thV 1 g d := by
  unfold thV
  rw [if_neg (by omega), if_neg (by decide)]
set_option maxRecDepth 100000 in
set_option maxHeartbeats 4000000 in
theorem c_X8_set (l : Launch) (D : va_G) (Y : Nat → ClassId) {E : (Nat → Prop) → State → Heap → Prop} (hE : g_Stab E) (q : Nat → Nat) (I : Nat → Int) (A : Nat → Nat → Int) (F : Nat → UInt32) (Dd : Nat → UInt64) (t : Int) (x : Int) (i : Int) (a : Int) (b : Int) (hsI : smI I) (hsA : smA A) (hz : szOK A) (ht : inR t) (hx : inR x) (hi : inR i) (ha : inR a) (hb : inR b) : g_Ct l yX8_set cX8_set 7 (some FieldType.int) ({ frames := 2, cells := 0, slots := 0, locals := 49 } : Room) D (tysY Y) E [.ref (q 99), .int (iI t), .int (iI x), .int (iI i), .int (iI a), .int (iI b)] (wMod q Y I A F Dd) 0 0 (fun r9 w9 => (¬ (0 ≤ t ∧ t ≤ 2) ∧ r9 = some (.int (iI (-2))) ∧ w9 = wMod q Y I A F Dd) ∨ ((0 ≤ t ∧ t ≤ 2) ∧ ((¬ ((0 ≤ x ∧ x ≤ 1) ∧ (-9999 ≤ a ∧ a ≤ 9999) ∧ (-9999 ≤ b ∧ b ≤ 9999)) ∧ r9 = some (.int (iI (-3))) ∧ w9 = wMod q Y I A F Dd) ∨ (((0 ≤ x ∧ x ≤ 1) ∧ (-9999 ≤ a ∧ a ≤ 9999) ∧ (-9999 ≤ b ∧ b ≤ 9999)) ∧ ((npV (A 13 t.toNat) (A 12 t.toNat) x i i ≠ 0 ∧ r9 = some (.int (iI (npV (A 13 t.toNat) (A 12 t.toNat) x i i))) ∧ w9 = wMod q Y I A F Dd) ∨ (npV (A 13 t.toNat) (A 12 t.toNat) x i i = 0 ∧ ((x = 0 ∧ ∃ r : UInt32, alike32 r (FP.fdiv (FP.i2f (iI a)) (FP.i2f (iI b))) = true ∧ r9 = some (.int (iI (thV 0 r 0))) ∧ w9 = wMod q Y I A (sU F (8 * t + i).toNat r) Dd) ∨ (x = 1 ∧ ∃ r : UInt64, alike64 r (FP.ddiv (FP.i2d (iI a)) (FP.i2d (iI b))) = true ∧ r9 = some (.int (iI (thV 1 0 r))) ∧ w9 = wMod q Y I A F (sU Dd (8 * t + i).toNat r))))))))) := by
  refine g_ofG (own := RX8) hE (by decide) rfl (Nat.le_of_ble_eq_true rfl) [(0, .ref (q 99)), (1, .int (iI t)), (2, .int (iI x)), (3, .int (iI i)), (4, .int (iI a)), (5, .int (iI b))] rfl ?_
  intro p9 e9 s9 m9 b9 t9 c9 A9 C hr hlk hnm
  have hI := hsI
  have hA := hsA
  unfold smI at hI
  unfold smA at hA
  have ht9 := ht
  have hx9 := hx
  have hi9 := hi
  have ha9 := ha
  have hb9 := hb
  unfold inR at ht9 hx9 hi9 ha9 hb9
  refine g_iload_n C (n' := 1) 1 rfl dX8_set_0 rfl rfl ?_
  refine g_cSv C (n' := 4) (v := .int (iI (if 0 ≤ t ∧ t ≤ 2 then 1 else 0))) (c_X8_isTrace l D Y C.2.2.2.2.2.2.2.2.1 t ht) 1 kw_989 kc_X8_isTrace (by decide +kernel) (pm_n _) rfl ⟨Nat.le_of_ble_eq_true rfl, Nat.le_of_ble_eq_true rfl⟩ ⟨rfl, rfl⟩ ⟨Nat.le_of_ble_eq_true rfl, Nat.le_of_ble_eq_true rfl⟩ (Nat.le_of_ble_eq_true rfl) dX8_set_1 rfl rfl (wMod q Y I A F Dd) (pm_n _) ?_
  refine g_if_ne C (n' := 7) 10 dX8_set_4 (by decide) rfl bz_r (fun c1 => ?_) (fun c1 => ?_)
  · skip
    replace c1 := bz_ne.mp c1
    refine g_iload_n C (n' := 11) 2 rfl dX8_set_10 rfl rfl ?_
    refine g_i2l C (n' := 12) (by unfold inR; omega) dX8_set_11 rfl ?_
    refine g_lconst C (n' := 13) 0 (by decide) dX8_set_12 rfl ?_
    refine g_lconst C (n' := 14) 1 (by decide) dX8_set_13 rfl ?_
    refine g_cSv C (n' := 17) (v := .int (iI (if 0 ≤ x ∧ x ≤ 1 then 1 else 0))) (c_X8_in l D Y C.2.2.2.2.2.2.2.2.1 x 0 1 hx (by unfold inR at *; omega) (by unfold inR at *; omega)) 3 kw_802 kc_X8_in (by decide +kernel) (pm_n _) rfl ⟨Nat.le_of_ble_eq_true rfl, Nat.le_of_ble_eq_true rfl⟩ ⟨rfl, rfl⟩ ⟨Nat.le_of_ble_eq_true rfl, Nat.le_of_ble_eq_true rfl⟩ (Nat.le_of_ble_eq_true rfl) dX8_set_14 rfl rfl (wMod q Y I A F Dd) (pm_n _) ?_
    refine g_if_eq C (n' := 20) 50 dX8_set_17 (by decide) rfl bz_r (fun c2 => ?_) (fun c2 => ?_)
    · skip
      replace c2 := bz_eq.mp c2
      refine g_bipush C (n' := 52) (by decide) dX8_set_50 rfl ?_
      exact g_iret C hr hlk rfl (Or.inr ⟨by omega, Or.inl ⟨by omega, rfl, rfl⟩⟩) dX8_set_52
    · skip
      replace c2 := bz_neq.mp c2
      refine g_iload C (n' := 22) 4 rfl dX8_set_20 rfl ?_
      refine g_i2l C (n' := 23) (by unfold inR; omega) dX8_set_22 rfl ?_
      refine g_ldc2l C (n' := 26) (-9999) (by decide) kw_997 dX8_set_23 rfl ?_
      refine g_ldc2l C (n' := 29) 9999 (by decide) kw_998 dX8_set_26 rfl ?_
      refine g_cSv C (n' := 32) (v := .int (iI (if (-9999) ≤ a ∧ a ≤ 9999 then 1 else 0))) (c_X8_in l D Y C.2.2.2.2.2.2.2.2.1 a (-9999) 9999 ha (by unfold inR at *; omega) (by unfold inR at *; omega)) 3 kw_802 kc_X8_in (by decide +kernel) (pm_n _) rfl ⟨Nat.le_of_ble_eq_true rfl, Nat.le_of_ble_eq_true rfl⟩ ⟨rfl, rfl⟩ ⟨Nat.le_of_ble_eq_true rfl, Nat.le_of_ble_eq_true rfl⟩ (Nat.le_of_ble_eq_true rfl) dX8_set_29 rfl rfl (wMod q Y I A F Dd) (pm_n _) ?_
      refine g_if_eq C (n' := 35) 50 dX8_set_32 (by decide) rfl bz_r (fun c3 => ?_) (fun c3 => ?_)
      · skip
        replace c3 := bz_eq.mp c3
        refine g_bipush C (n' := 52) (by decide) dX8_set_50 rfl ?_
        exact g_iret C hr hlk rfl (Or.inr ⟨by omega, Or.inl ⟨by omega, rfl, rfl⟩⟩) dX8_set_52
      · skip
        replace c3 := bz_neq.mp c3
        refine g_iload C (n' := 37) 5 rfl dX8_set_35 rfl ?_
        refine g_i2l C (n' := 38) (by unfold inR; omega) dX8_set_37 rfl ?_
        refine g_ldc2l C (n' := 41) (-9999) (by decide) kw_997 dX8_set_38 rfl ?_
        refine g_ldc2l C (n' := 44) 9999 (by decide) kw_998 dX8_set_41 rfl ?_
        refine g_cSv C (n' := 47) (v := .int (iI (if (-9999) ≤ b ∧ b ≤ 9999 then 1 else 0))) (c_X8_in l D Y C.2.2.2.2.2.2.2.2.1 b (-9999) 9999 hb (by unfold inR at *; omega) (by unfold inR at *; omega)) 3 kw_802 kc_X8_in (by decide +kernel) (pm_n _) rfl ⟨Nat.le_of_ble_eq_true rfl, Nat.le_of_ble_eq_true rfl⟩ ⟨rfl, rfl⟩ ⟨Nat.le_of_ble_eq_true rfl, Nat.le_of_ble_eq_true rfl⟩ (Nat.le_of_ble_eq_true rfl) dX8_set_44 rfl rfl (wMod q Y I A F Dd) (pm_n _) ?_
        refine g_if_ne C (n' := 50) 53 dX8_set_47 (by decide) rfl bz_r (fun c4 => ?_) (fun c4 => ?_)
        · skip
          replace c4 := bz_ne.mp c4
          refine g_aload_n C (n' := 54) 0 rfl dX8_set_53 rfl rfl ?_
          refine g_iload_n C (n' := 55) 1 rfl dX8_set_54 rfl rfl ?_
          refine g_iload_n C (n' := 56) 2 rfl dX8_set_55 rfl rfl ?_
          refine g_iload_n C (n' := 57) 3 rfl dX8_set_56 rfl rfl ?_
          refine g_iload_n C (n' := 58) 3 rfl dX8_set_57 rfl rfl ?_
          refine g_cVv C (n' := 61) (v := .int (iI (npV ((A 13) t.toNat) ((A 12) t.toNat) x i i))) (c_X8_noPlace l D Y C.2.2.2.2.2.2.2.2.1 q I A F Dd t x i i hsI hsA hz (by omega) hx hi hi) 4 kw_999 kc_X8_noPlace (by decide +kernel) (pm0 _) 0 (ci := 6) rfl rfl rfl rfl ⟨Nat.le_of_ble_eq_true rfl, Nat.le_of_ble_eq_true rfl⟩ ⟨rfl, rfl⟩ ⟨Nat.le_of_ble_eq_true rfl, Nat.le_of_ble_eq_true rfl⟩ (Nat.le_of_ble_eq_true rfl) dX8_set_58 rfl rfl (wMod q Y I A F Dd) (pm0' _) ?_
          have hnp := npV_r (A 13 t.toNat) (A 12 t.toNat) x i i
          have hzt := hz t.toNat
          refine g_istore C (n' := 63) [(6, .int (iI (npV ((A 13) t.toNat) ((A 12) t.toNat) x i i))), (0, .ref (q 99)), (1, .int (iI t)), (2, .int (iI x)), (3, .int (iI i)), (4, .int (iI a)), (5, .int (iI b))] dX8_set_61 rfl (by decide) rfl ?_
          refine g_iload C (n' := 65) 0 rfl dX8_set_63 rfl ?_
          refine g_if_eq C (n' := 68) 71 dX8_set_65 (by decide) rfl (by unfold inR; omega) (fun c5 => ?_) (fun c5 => ?_)
          · skip
            refine g_iload_n C (n' := 72) 3 rfl dX8_set_71 rfl rfl ?_
            refine g_if_ne C (n' := 75) 96 dX8_set_72 (by decide) rfl (by unfold inR; omega) (fun c6 => ?_) (fun c6 => ?_)
            · skip
              refine g_aload_n C (n' := 97) 1 rfl dX8_set_96 rfl rfl ?_
              refine g_get C (n' := 100) (Cn := RX8) (T := TX8) (N := 35) (ci := 6) (v := .ref (q 15)) ga_X8 0 rfl rfl 15 (by decide) kw_705 rfl rfl dX8_set_97 rfl ?_
              refine g_bipush C (n' := 102) (by decide) dX8_set_100 rfl ?_
              refine g_iload_n C (n' := 103) 2 rfl dX8_set_102 rfl rfl ?_
              refine g_imul C (n' := 104) dX8_set_103 rfl ?_
              refine g_iload_n C (n' := 105) 4 rfl dX8_set_104 rfl rfl ?_
              refine g_iadd C (n' := 106) dX8_set_105 rfl ?_
              refine g_iload C (n' := 108) 5 rfl dX8_set_106 rfl ?_
              refine g_i2d C (n' := 109) dX8_set_108 rfl ?_
              refine g_iload C (n' := 111) 6 rfl dX8_set_109 rfl ?_
              refine g_i2d C (n' := 112) dX8_set_111 rfl ?_
              refine g_ddiv C (n' := 113) dX8_set_112 rfl (fun r7 hr7 => ?_)
              refine g_dast C (n' := 114) (f := Dd) 9 3 rfl rfl (by omega) (by omega) (by decide) dX8_set_113 rfl (wMod q Y I A F (sU Dd ((8 * t) + i).toNat r7)) rfl ?_
              refine g_aload_n C (n' := 115) 1 rfl dX8_set_114 rfl rfl ?_
              refine g_iload_n C (n' := 116) 2 rfl dX8_set_115 rfl rfl ?_
              refine g_iload_n C (n' := 117) 4 rfl dX8_set_116 rfl rfl ?_
              refine g_cVv C (n' := 120) (v := .int (iI (thV ((A 12) t.toNat) (F (8 * t + i).toNat) ((sU Dd ((8 * t) + i).toNat r7) (8 * t + i).toNat)))) (c_X8_thousand l D Y C.2.2.2.2.2.2.2.2.1 q I A F (sU Dd ((8 * t) + i).toNat r7) t i hsI hsA (by omega) (by omega)) 2 kw_1003 kc_X8_thousand (by decide +kernel) (pm0 _) 0 (ci := 6) rfl rfl rfl rfl ⟨Nat.le_of_ble_eq_true rfl, Nat.le_of_ble_eq_true rfl⟩ ⟨rfl, rfl⟩ ⟨Nat.le_of_ble_eq_true rfl, Nat.le_of_ble_eq_true rfl⟩ (Nat.le_of_ble_eq_true rfl) dX8_set_117 rfl rfl (wMod q Y I A F (sU Dd ((8 * t) + i).toNat r7)) (pm0' _) ?_
              have e9 : (thV ((A 12) t.toNat) (F (8 * t + i).toNat) ((sU Dd ((8 * t) + i).toNat r7) (8 * t + i).toNat)) = thV 1 0 r7 := by
                rw [sU_s]
                exact thV_1 (by omega)
              exact g_iret C hr hlk rfl (Or.inr ⟨by omega, Or.inr ⟨by omega, Or.inr ⟨by omega, Or.inr ⟨by omega, r7, hr7, by rw [e9], rfl⟩⟩⟩⟩) dX8_set_120
            · skip
              refine g_aload_n C (n' := 76) 1 rfl dX8_set_75 rfl rfl ?_
              refine g_get C (n' := 79) (Cn := RX8) (T := TX8) (N := 35) (ci := 6) (v := .ref (q 14)) ga_X8 0 rfl rfl 14 (by decide) kw_704 rfl rfl dX8_set_76 rfl ?_
              refine g_bipush C (n' := 81) (by decide) dX8_set_79 rfl ?_
              refine g_iload_n C (n' := 82) 2 rfl dX8_set_81 rfl rfl ?_
              refine g_imul C (n' := 83) dX8_set_82 rfl ?_
              refine g_iload_n C (n' := 84) 4 rfl dX8_set_83 rfl rfl ?_
              refine g_iadd C (n' := 85) dX8_set_84 rfl ?_
              refine g_iload C (n' := 87) 5 rfl dX8_set_85 rfl ?_
              refine g_i2f C (n' := 88) dX8_set_87 rfl ?_
              refine g_iload C (n' := 90) 6 rfl dX8_set_88 rfl ?_
              refine g_i2f C (n' := 91) dX8_set_90 rfl ?_
              refine g_fdiv C (n' := 92) dX8_set_91 rfl (fun r8 hr8 => ?_)
              refine g_fast C (n' := 93) (f := F) 8 4 rfl rfl (by omega) (by omega) (by decide) dX8_set_92 rfl (wMod q Y I A (sU F ((8 * t) + i).toNat r8) Dd) rfl ?_
              refine g_goto C 114 dX8_set_93 (by decide) ?_
              refine g_aload_n C (n' := 115) 1 rfl dX8_set_114 rfl rfl ?_
              refine g_iload_n C (n' := 116) 2 rfl dX8_set_115 rfl rfl ?_
              refine g_iload_n C (n' := 117) 4 rfl dX8_set_116 rfl rfl ?_
              refine g_cVv C (n' := 120) (v := .int (iI (thV ((A 12) t.toNat) ((sU F ((8 * t) + i).toNat r8) (8 * t + i).toNat) (Dd (8 * t + i).toNat)))) (c_X8_thousand l D Y C.2.2.2.2.2.2.2.2.1 q I A (sU F ((8 * t) + i).toNat r8) Dd t i hsI hsA (by omega) (by omega)) 2 kw_1003 kc_X8_thousand (by decide +kernel) (pm0 _) 0 (ci := 6) rfl rfl rfl rfl ⟨Nat.le_of_ble_eq_true rfl, Nat.le_of_ble_eq_true rfl⟩ ⟨rfl, rfl⟩ ⟨Nat.le_of_ble_eq_true rfl, Nat.le_of_ble_eq_true rfl⟩ (Nat.le_of_ble_eq_true rfl) dX8_set_117 rfl rfl (wMod q Y I A (sU F ((8 * t) + i).toNat r8) Dd) (pm0' _) ?_
              have e9 : (thV ((A 12) t.toNat) ((sU F ((8 * t) + i).toNat r8) (8 * t + i).toNat) (Dd (8 * t + i).toNat)) = thV 0 r8 0 := by
                rw [sU_s]
                exact thV_0 (by omega)
              exact g_iret C hr hlk rfl (Or.inr ⟨by omega, Or.inr ⟨by omega, Or.inr ⟨by omega, Or.inl ⟨by omega, r8, hr8, by rw [e9], rfl⟩⟩⟩⟩) dX8_set_120
          · skip
            refine g_iload C (n' := 70) 0 rfl dX8_set_68 rfl ?_
            exact g_iret C hr hlk rfl (Or.inr ⟨by omega, Or.inr ⟨by omega, Or.inl ⟨by omega, rfl, rfl⟩⟩⟩) dX8_set_70
        · skip
          replace c4 := bz_nne.mp c4
          refine g_bipush C (n' := 52) (by decide) dX8_set_50 rfl ?_
          exact g_iret C hr hlk rfl (Or.inr ⟨by omega, Or.inl ⟨by omega, rfl, rfl⟩⟩) dX8_set_52
  · skip
    replace c1 := bz_nne.mp c1
    refine g_bipush C (n' := 9) (by decide) dX8_set_7 rfl ?_
    exact g_iret C hr hlk rfl (Or.inl ⟨by omega, rfl, rfl⟩) dX8_set_9
