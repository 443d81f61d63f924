/-! Trace: renewed, counted, a thousandfold -/
def nnC (N : Nat → Int) : Nat → Int
  | 0 => 0
  | k + 1 => nnC N k + (if N k = 0 then 0 else 1)
theorem nnC_r (N : Nat → Int) : ∀ k : Nat, 0 ≤ nnC N k ∧ nnC N k ≤ k
  | 0 => by simp [nnC]
  | k + 1 => by
    have := nnC_r N k
    rw [nnC]
    split <;> omega
set_option maxRecDepth 100000 in
set_option maxHeartbeats 4000000 in
theorem lp_X5_rn {p9 : Program} {l : Launch} {e9 : Env} {s9 : State} {m9 : MethodId} {a9 : Array Value} {b9 : List Frame} {t9 : Method} {c9 : Code} {D : va_G} {A9 : Nat → Prop} {Q9 : State → Prop} {E : (Nat → Prop) → State → Heap → Prop} {Y : Nat → ClassId} (C : g_Cx p9 s9 m9 a9 c9 cX5_renew 4 RX5 D (tysY Y) A9 E) (q : Nat → Nat) (I : Nat → Int) (V : Nat → UInt64) (N : Nat → Int) (x n : Int) (hx : x = 0 ∨ x = 1) : ∀ (n9 : Nat) (k : Nat), k + n9 = 8 → (g_G p9 l e9 ({ frames := 1, cells := 0, slots := 0, locals := 23 } : Room) s9 m9 a9 b9 t9 c9 4 D A9 Q9 0 0 (wTrace q Y (sU (sU (sU I 2 1) 3 x) 4 n) (m_clr 0 V 0 8) (m_clr 0 N 0 8)) [(3, .int (iI ((8 : Nat) : Int))), (0, .ref (q 99)), (1, .int (iI x)), (2, .int (iI n))] 35 []) → g_G p9 l e9 ({ frames := 1, cells := 0, slots := 0, locals := 23 } : Room) s9 m9 a9 b9 t9 c9 4 D A9 Q9 0 0 (wTrace q Y (sU (sU (sU I 2 1) 3 x) 4 n) (m_clr 0 V 0 k) (m_clr 0 N 0 k)) [(3, .int (iI ((k : Nat) : Int))), (0, .ref (q 99)), (1, .int (iI x)), (2, .int (iI n))] 17 [] := by
  have hE := C.2.2.2.2.2.2.2.2.1
  intro n9
  induction n9 with
  | zero =>
    intro k hk K
    refine g_iload_n C (n' := 18) 0 rfl dX5_renew_17 rfl rfl ?_
    refine g_bipush C (n' := 20) (by decide) dX5_renew_18 rfl ?_
    refine g_icmp_ge C (n' := 23) 35 dX5_renew_20 (by decide) rfl (by unfold inR; omega) (by unfold inR; omega) (fun c1 => ?_) (fun c1 => ?_)
    · skip
      have ek : k = 8 := by omega
      subst ek
      exact K
    · skip
      exfalso
      omega
  | succ n9 ih =>
    intro k hk K
    refine g_iload_n C (n' := 18) 0 rfl dX5_renew_17 rfl rfl ?_
    refine g_bipush C (n' := 20) (by decide) dX5_renew_18 rfl ?_
    refine g_icmp_ge C (n' := 23) 35 dX5_renew_20 (by decide) rfl (by unfold inR; omega) (by unfold inR; omega) (fun c1 => ?_) (fun c1 => ?_)
    · skip
      exfalso
      omega
    · skip
      refine g_aload_n C (n' := 24) 1 rfl dX5_renew_23 rfl rfl ?_
      refine g_iload_n C (n' := 25) 0 rfl dX5_renew_24 rfl rfl ?_
      refine g_dconst0 C (n' := 26) dX5_renew_25 rfl ?_
      refine g_cVn C (n' := 29) (c_X5_putNumber l D Y C.2.2.2.2.2.2.2.2.1 q (sU (sU (sU I 2 1) 3 x) 4 n) (m_clr 0 V 0 k) (m_clr 0 N 0 k) ((k : Nat) : Int) 0 (by omega)) 2 kw_570 kc_X5_putNumber (by decide +kernel) (pm0 _) 0 (ci := 4) rfl rfl rfl rfl ⟨Nat.le_of_ble_eq_true rfl, Nat.le_of_ble_eq_true rfl⟩ ⟨rfl, rfl⟩ ⟨Nat.le_of_ble_eq_true rfl, Nat.le_of_ble_eq_true rfl⟩ (Nat.le_of_ble_eq_true rfl) dX5_renew_26 rfl rfl (wTrace q Y (sU (sU (sU I 2 1) 3 x) 4 n) (sU (m_clr 0 V 0 k) k 0) (sU (m_clr 0 N 0 k) k 0)) (pm0' _) ?_
      refine g_iinc C (n' := 32) 0 [(3, .int (iI (((k : Nat) : Int) + 1))), (0, .ref (q 99)), (1, .int (iI x)), (2, .int (iI n))] rfl dX5_renew_29 rfl (by decide) rfl ?_
      refine g_goto C 17 dX5_renew_32 (by decide) ?_
      have e1 : (sU (m_clr 0 V 0 k) k 0) = m_clr 0 V 0 (k + 1) := by have := m_clr_s (0 : UInt64) V 0 k; rw [Nat.zero_add] at this; exact this
      have e2 : (sU (m_clr 0 N 0 k) k 0) = m_clr 0 N 0 (k + 1) := by have := m_clr_s (0 : Int) N 0 k; rw [Nat.zero_add] at this; exact this
      rw [e1, e2]
      refine g_lv (lv' := [(3, .int (iI ((k + 1 : Nat) : Int))), (0, .ref (q 99)), (1, .int (iI x)), (2, .int (iI n))]) [0, 1, 2, 3] rfl ?_
      exact ih (k + 1) (by omega) K
set_option maxRecDepth 100000 in
set_option maxHeartbeats 4000000 in
theorem c_X5_renew (l : Launch) (D : va_G) (Y : Nat → ClassId) {E : (Nat → Prop) → State → Heap → Prop} (hE : g_Stab E) (q : Nat → Nat) (I : Nat → Int) (V : Nat → UInt64) (N : Nat → Int) (x : Int) (n : Int) (hx : x = 0 ∨ x = 1) (hn : 0 ≤ n ∧ n ≤ 8) : g_Ct l yX5_renew cX5_renew 4 none ({ frames := 1, cells := 0, slots := 0, locals := 23 } : Room) D (tysY Y) E [.ref (q 99), .int (iI x), .int (iI n)] (wTrace q Y I V N) 0 0 (g_det none (wTrace q Y (sU (sU (sU I 2 1) 3 x) 4 n) (m_clr 0 V 0 8) (m_clr 0 N 0 8))) := by
  refine g_ofG (own := RX5) hE (by decide) rfl (Nat.le_of_ble_eq_true rfl) [(0, .ref (q 99)), (1, .int (iI x)), (2, .int (iI n))] rfl ?_
  intro p9 e9 s9 m9 b9 t9 c9 A9 C hr hlk hnm
  refine g_aload_n C (n' := 1) 0 rfl dX5_renew_0 rfl rfl ?_
  refine g_iconst C (n' := 2) dX5_renew_1 rfl ?_
  refine g_put C (n' := 5) (Cn := RX5) (T := TX5) (N := 5) (ci := 4) (v := .int (iI 1)) ga_X5 0 rfl rfl 2 (by decide) kw_170 rfl tyX5 tyX5_ok nmX5 rfl rfl (nar_z (by omega)) (fit_z (by omega)) (Nat.le_of_ble_eq_true rfl) (wTrace q Y (sU I 2 1) V N) rfl dX5_renew_2 rfl ?_
  refine g_aload_n C (n' := 6) 0 rfl dX5_renew_5 rfl rfl ?_
  refine g_iload_n C (n' := 7) 1 rfl dX5_renew_6 rfl rfl ?_
  refine g_put C (n' := 10) (Cn := RX5) (T := TX5) (N := 5) (ci := 4) (v := .int (iI x)) ga_X5 0 rfl rfl 3 (by decide) kw_171 rfl tyX5 tyX5_ok nmX5 rfl rfl rfl rfl (Nat.le_of_ble_eq_true rfl) (wTrace q Y (sU (sU I 2 1) 3 x) V N) rfl dX5_renew_7 rfl ?_
  refine g_aload_n C (n' := 11) 0 rfl dX5_renew_10 rfl rfl ?_
  refine g_iload_n C (n' := 12) 2 rfl dX5_renew_11 rfl rfl ?_
  refine g_put C (n' := 15) (Cn := RX5) (T := TX5) (N := 5) (ci := 4) (v := .int (iI n)) ga_X5 0 rfl rfl 4 (by decide) kw_172 rfl tyX5 tyX5_ok nmX5 rfl rfl rfl rfl (Nat.le_of_ble_eq_true rfl) (wTrace q Y (sU (sU (sU I 2 1) 3 x) 4 n) V N) rfl dX5_renew_12 rfl ?_
  refine g_iconst C (n' := 16) dX5_renew_15 rfl ?_
  refine g_istore_n C (n' := 17) [(3, .int (iI 0)), (0, .ref (q 99)), (1, .int (iI x)), (2, .int (iI n))] dX5_renew_16 rfl rfl (by decide) rfl ?_
  refine g_wd (w' := (wTrace q Y (sU (sU (sU I 2 1) 3 x) 4 n) (m_clr 0 V 0 0) (m_clr 0 N 0 0))) (by rw [m_clr_0, m_clr_0]) ?_
  refine g_lv (lv' := [(3, .int (iI ((0 : Nat) : Int))), (0, .ref (q 99)), (1, .int (iI x)), (2, .int (iI n))]) [0, 1, 2, 3] rfl ?_
  refine lp_X5_rn C q I V N x n hx 8 0 rfl ?_
  refine g_vret C hr hlk ⟨rfl, ?_⟩ dX5_renew_35
  first | rfl | omega | ((repeat' split) <;> first | rfl | omega | (exfalso; omega))
set_option maxRecDepth 100000 in
set_option maxHeartbeats 4000000 in
theorem lp_X5_nc {p9 : Program} {l : Launch} {e9 : Env} {s9 : State} {m9 : MethodId} {a9 : Array Value} {b9 : List Frame} {t9 : Method} {c9 : Code} {D : va_G} {A9 : Nat → Prop} {Q9 : State → Prop} {E : (Nat → Prop) → State → Heap → Prop} {Y : Nat → ClassId} (C : g_Cx p9 s9 m9 a9 c9 cX5_noNumberCount 3 RX5 D (tysY Y) A9 E) (q : Nat → Nat) (I : Nat → Int) (V : Nat → UInt64) (N : Nat → Int) (hsI : smI I) (hB : bN01 N) (h4 : 0 ≤ I 4 ∧ I 4 ≤ 8) : ∀ (n9 : Nat) (k : Nat), (k : Int) + n9 = I 4 → (g_G p9 l e9 ({ frames := 0, cells := 0, slots := 0, locals := 0 } : Room) s9 m9 a9 b9 t9 c9 3 D A9 Q9 0 0 (wTrace q Y I V N) [(2, .int (iI (((I 4).toNat : Nat) : Int))), (1, .int (iI (nnC N ((I 4).toNat)))), (0, .ref (q 99))] 30 []) → g_G p9 l e9 ({ frames := 0, cells := 0, slots := 0, locals := 0 } : Room) s9 m9 a9 b9 t9 c9 3 D A9 Q9 0 0 (wTrace q Y I V N) [(2, .int (iI ((k : Nat) : Int))), (1, .int (iI (nnC N k))), (0, .ref (q 99))] 4 [] := by
  have hE := C.2.2.2.2.2.2.2.2.1
  intro n9
  induction n9 with
  | zero =>
    intro k hk K
    have hI := hsI
    unfold smI at hI
    have hnn := nnC_r N k
    refine g_iload_n C (n' := 5) 0 rfl dX5_noNumberCount_4 rfl rfl ?_
    refine g_aload_n C (n' := 6) 2 rfl dX5_noNumberCount_5 rfl rfl ?_
    refine g_get C (n' := 9) (Cn := RX5) (T := TX5) (N := 5) (ci := 4) (v := .int (iI (I 4))) ga_X5 0 rfl rfl 4 (by decide) kw_172 rfl rfl dX5_noNumberCount_6 rfl ?_
    have h_6 := hI 4
    refine g_icmp_ge C (n' := 12) 30 dX5_noNumberCount_9 (by decide) rfl (by unfold inR; omega) (by unfold inR; omega) (fun c1 => ?_) (fun c1 => ?_)
    · skip
      have ek : k = (I 4).toNat := by omega
      rw [ek]
      exact K
    · skip
      exfalso
      omega
  | succ n9 ih =>
    intro k hk K
    have hI := hsI
    unfold smI at hI
    have hnn := nnC_r N k
    refine g_iload_n C (n' := 5) 0 rfl dX5_noNumberCount_4 rfl rfl ?_
    refine g_aload_n C (n' := 6) 2 rfl dX5_noNumberCount_5 rfl rfl ?_
    refine g_get C (n' := 9) (Cn := RX5) (T := TX5) (N := 5) (ci := 4) (v := .int (iI (I 4))) ga_X5 0 rfl rfl 4 (by decide) kw_172 rfl rfl dX5_noNumberCount_6 rfl ?_
    have h_6 := hI 4
    refine g_icmp_ge C (n' := 12) 30 dX5_noNumberCount_9 (by decide) rfl (by unfold inR; omega) (by unfold inR; omega) (fun c1 => ?_) (fun c1 => ?_)
    · skip
      exfalso
      omega
    · skip
      refine g_aload_n C (n' := 13) 2 rfl dX5_noNumberCount_12 rfl rfl ?_
      refine g_get C (n' := 16) (Cn := RX5) (T := TX5) (N := 5) (ci := 4) (v := .ref (q 1)) ga_X5 0 rfl rfl 1 (by decide) kw_169 rfl rfl dX5_noNumberCount_13 rfl ?_
      refine g_iload_n C (n' := 17) 0 rfl dX5_noNumberCount_16 rfl rfl ?_
      refine g_zaldN C (n' := 18) (f := N) (j := k) 2 2 rfl rfl (by omega) (by decide) rfl dX5_noNumberCount_17 rfl ?_
      have h_17 := hB k
      refine g_if_eq C (n' := 21) 24 dX5_noNumberCount_18 (by decide) rfl (by unfold inR; omega) (fun c2 => ?_) (fun c2 => ?_)
      · skip
        refine g_iinc C (n' := 27) 0 [(2, .int (iI (((k : Nat) : Int) + 1))), (1, .int (iI (nnC N k))), (0, .ref (q 99))] rfl dX5_noNumberCount_24 rfl (by decide) rfl ?_
        refine g_goto C 4 dX5_noNumberCount_27 (by decide) ?_
        have e1 : (nnC N k) = nnC N (k + 1) := by rw [nnC, if_pos (by omega)]; omega
        rw [e1]
        refine g_lv (lv' := [(2, .int (iI (((k : Nat) : Int) + 1))), (1, .int (iI (nnC N (k + 1)))), (0, .ref (q 99))]) [0, 1, 2] rfl ?_
        exact ih (k + 1) (by omega) K
      · skip
        refine g_iinc C (n' := 24) 1 [(1, .int (iI ((nnC N k) + 1))), (2, .int (iI ((k : Nat) : Int))), (0, .ref (q 99))] rfl dX5_noNumberCount_21 rfl (by decide) rfl ?_
        refine g_iinc C (n' := 27) 1 [(2, .int (iI (((k : Nat) : Int) + 1))), (1, .int (iI ((nnC N k) + 1))), (0, .ref (q 99))] rfl dX5_noNumberCount_24 rfl (by decide) rfl ?_
        refine g_goto C 4 dX5_noNumberCount_27 (by decide) ?_
        have e1 : ((nnC N k) + 1) = nnC N (k + 1) := by rw [nnC, if_neg (by omega)]
        rw [e1]
        refine g_lv (lv' := [(2, .int (iI (((k : Nat) : Int) + 1))), (1, .int (iI (nnC N (k + 1)))), (0, .ref (q 99))]) [0, 1, 2] rfl ?_
        exact ih (k + 1) (by omega) K
set_option maxRecDepth 100000 in
set_option maxHeartbeats 4000000 in
theorem c_X5_noNumberCount (l : Launch) (D : va_G) (Y : Nat → ClassId) {E : (Nat → Prop) → State → Heap → Prop} (hE : g_Stab E) (q : Nat → Nat) (I : Nat → Int) (V : Nat → UInt64) (N : Nat → Int) (hsI : smI I) (hB : bN01 N) (h4 : 0 ≤ I 4 ∧ I 4 ≤ 8) : g_Ct l yX5_noNumberCount cX5_noNumberCount 3 (some FieldType.int) ({ frames := 0, cells := 0, slots := 0, locals := 0 } : Room) D (tysY Y) E [.ref (q 99)] (wTrace q Y I V N) 0 0 (g_det (some (.int (iI (nnC N (I 4).toNat)))) (wTrace q Y I V N)) := by
  refine g_ofG (own := RX5) hE (by decide) rfl (Nat.le_of_ble_eq_true rfl) [(0, .ref (q 99))] rfl ?_
  intro p9 e9 s9 m9 b9 t9 c9 A9 C hr hlk hnm
  have hI := hsI
  unfold smI at hI
  refine g_iconst C (n' := 1) dX5_noNumberCount_0 rfl ?_
  refine g_istore_n C (n' := 2) [(1, .int (iI 0)), (0, .ref (q 99))] dX5_noNumberCount_1 rfl rfl (by decide) rfl ?_
  refine g_iconst C (n' := 3) dX5_noNumberCount_2 rfl ?_
  refine g_istore_n C (n' := 4) [(2, .int (iI 0)), (1, .int (iI 0)), (0, .ref (q 99))] dX5_noNumberCount_3 rfl rfl (by decide) rfl ?_
  refine g_lv (lv' := [(2, .int (iI ((0 : Nat) : Int))), (1, .int (iI (nnC N 0))), (0, .ref (q 99))]) [0, 1, 2] rfl ?_
  refine lp_X5_nc C q I V N hsI hB h4 (I 4).toNat 0 (by omega) ?_
  refine g_iload_n C (n' := 31) 1 rfl dX5_noNumberCount_30 rfl rfl ?_
  refine g_iret C hr hlk rfl ⟨congrArg (fun z : Int => some (Value.int (iI z))) ?_, ?_⟩ dX5_noNumberCount_31
  · first | rfl | omega | ((repeat' split) <;> first | rfl | omega | (exfalso; omega))
  · first | rfl | omega | ((repeat' split) <;> first | rfl | omega | (exfalso; omega))
