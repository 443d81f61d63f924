/-! the reference: bounds, shifts -/
def mJ (I : Nat → Int) (A : Nat → Nat → Int) : Nat → Int := fun k => match k with
  | 0 => I 1
  | 1 => I 5
  | 2 => I 6
  | 3 => I 7
  | 4 => A 0 0
  | _ => I 2
def mN (A : Nat → Nat → Int) : Nat → Nat → Int := fun s p => match s with
  | 6 => A 3 p
  | 7 => A 4 p
  | 8 => A 0 (1 + p)
  | _ => A 0 (17 + p)
theorem fl_1 {a b : Int} (h : ¬ a < 0) : a.tdiv b = a / b := Int.tdiv_eq_ediv_of_nonneg (by omega)
theorem fl_2 {a b : Int} (h : a < 0) (hb : 1 ≤ b) : -((b - 1 - a).tdiv b) = a / b := by
  rw [Int.tdiv_eq_ediv_of_nonneg (by omega)]
  have h1 := Int.mul_ediv_add_emod (b - 1 - a) b
  have h2 := Int.emod_nonneg (b - 1 - a) (show b ≠ 0 by omega)
  have h3 := Int.emod_lt_of_pos (b - 1 - a) (show 0 < b by omega)
  have h4 := Int.mul_ediv_add_emod a b
  have h5 := Int.emod_nonneg a (show b ≠ 0 by omega)
  have h6 := Int.emod_lt_of_pos a (show 0 < b by omega)
  generalize hx : (b - 1 - a) / b = x at *
  generalize hy : a / b = y at *
  have e : b * (x + y) = b - 1 - (b - 1 - a) % b - a % b := by rw [Int.mul_add]; omega
  have z : x + y = 0 := by
    generalize x + y = w at e
    have lo : -b < b - 1 - (b - 1 - a) % b - a % b := by omega
    have hi : b - 1 - (b - 1 - a) % b - a % b < b := by omega
    rw [← e] at lo hi
    have z1 : w < 1 := by
      apply Int.lt_of_mul_lt_mul_left (a := b) _ (by omega)
      rw [Int.mul_one]
      exact hi
    have z2 : -1 < w := by
      apply Int.lt_of_mul_lt_mul_left (a := b) _ (by omega)
      rw [Int.mul_neg, Int.mul_one]
      exact lo
    omega
  omega
set_option maxRecDepth 100000 in
set_option maxHeartbeats 4000000 in
theorem c_X8_floor (l : Launch) (D : va_G) (Y : Nat → ClassId) {E : (Nat → Prop) → State → Heap → Prop} (hE : g_Stab E) (a : Int) (b : Int) (ha : -100000 ≤ a ∧ a ≤ 100000) (hb : 1 ≤ b ∧ b ≤ 9) : g_Ct l yX8_floor cX8_floor 2 (some FieldType.int) ({ frames := 0, cells := 0, slots := 0, locals := 0 } : Room) D (tysY Y) E [.int (iI a), .int (iI b)] [] 0 0 (g_det (some (.int (iI (a / b)))) []) := by
  refine g_ofG (own := RX8) hE (by decide) rfl (Nat.le_of_ble_eq_true rfl) [(0, .int (iI a)), (1, .int (iI b))] rfl ?_
  intro p9 e9 s9 m9 b9 t9 c9 A9 C hr hlk hnm
  refine g_iload_n C (n' := 1) 0 rfl dX8_floor_0 rfl rfl ?_
  refine g_if_lt C (n' := 4) 10 dX8_floor_1 (by decide) rfl (by unfold inR; omega) (fun c1 => ?_) (fun c1 => ?_)
  · skip
    refine g_iload_n C (n' := 11) 1 rfl dX8_floor_10 rfl rfl ?_
    refine g_iconst C (n' := 12) dX8_floor_11 rfl ?_
    refine g_isub C (n' := 13) dX8_floor_12 rfl ?_
    refine g_iload_n C (n' := 14) 0 rfl dX8_floor_13 rfl rfl ?_
    refine g_isub C (n' := 15) dX8_floor_14 rfl ?_
    refine g_iload_n C (n' := 16) 1 rfl dX8_floor_15 rfl rfl ?_
    refine g_idiv C (n' := 17) (by unfold inR; omega) (by unfold inR; omega) (by omega) (fd_r (by unfold inR; omega) (by omega)) dX8_floor_16 rfl ?_
    refine g_ineg C (n' := 18) dX8_floor_17 rfl ?_
    refine g_iret C hr hlk rfl ⟨congrArg (fun z : Int => some (Value.int (iI z))) ?_, rfl⟩ dX8_floor_18
    exact fl_2 c1 (by omega)
  · skip
    refine g_iload_n C (n' := 5) 0 rfl dX8_floor_4 rfl rfl ?_
    refine g_iload_n C (n' := 6) 1 rfl dX8_floor_5 rfl rfl ?_
    refine g_idiv C (n' := 7) (by unfold inR; omega) (by unfold inR; omega) (by omega) (fd_r (by unfold inR; omega) (by omega)) dX8_floor_6 rfl ?_
    refine g_goto C 18 dX8_floor_7 (by decide) ?_
    refine g_iret C hr hlk rfl ⟨congrArg (fun z : Int => some (Value.int (iI z))) ?_, rfl⟩ dX8_floor_18
    exact fl_1 c1
set_option maxRecDepth 100000 in
set_option maxHeartbeats 4000000 in
theorem c_X8_lateOf (l : Launch) (D : va_G) (Y : Nat → ClassId) {E : (Nat → Prop) → State → Heap → Prop} (hE : g_Stab E) (q : Nat → Nat) (I : Nat → Int) (A : Nat → Nat → Int) (F : Nat → UInt32) (Dd : Nat → UInt64) (p : Int) (u : Int) (hp0 : 0 ≤ p) (hp1 : p < 16) : g_Ct l yX8_lateOf cX8_lateOf 3 (some FieldType.int) ({ frames := 0, cells := 0, slots := 0, locals := 0 } : Room) D (tysY Y) E [.ref (q 99), .int (iI p), .int (iI u)] (wMod q Y I A F Dd) 0 0 (g_det (some (.int (iI (u - A 0 (1 + p).toNat - I 5)))) (wMod q Y I A F Dd)) := by
  refine g_ofG (own := RX8) hE (by decide) rfl (Nat.le_of_ble_eq_true rfl) [(0, .ref (q 99)), (1, .int (iI p)), (2, .int (iI u))] rfl ?_
  intro p9 e9 s9 m9 b9 t9 c9 A9 C hr hlk hnm
  refine g_iload_n C (n' := 1) 2 rfl dX8_lateOf_0 rfl rfl ?_
  refine g_aload_n C (n' := 2) 0 rfl dX8_lateOf_1 rfl rfl ?_
  refine g_get C (n' := 5) (Cn := RX8) (T := TX8) (N := 35) (ci := 6) (v := .ref (q 0)) ga_X8 0 rfl rfl 0 (by decide) kw_690 rfl rfl dX8_lateOf_2 rfl ?_
  refine g_iconst C (n' := 6) dX8_lateOf_5 rfl ?_
  refine g_iload_n C (n' := 7) 1 rfl dX8_lateOf_6 rfl rfl ?_
  refine g_iadd C (n' := 8) dX8_lateOf_7 rfl ?_
  refine g_iald C (n' := 9) (f := (A 0)) 1 0 rfl rfl (by omega) (by omega) (by decide) rfl dX8_lateOf_8 rfl ?_
  refine g_isub C (n' := 10) dX8_lateOf_9 rfl ?_
  refine g_aload_n C (n' := 11) 0 rfl dX8_lateOf_10 rfl rfl ?_
  refine g_get C (n' := 14) (Cn := RX8) (T := TX8) (N := 35) (ci := 6) (v := .int (iI (I 5))) ga_X8 0 rfl rfl 5 (by decide) kw_695 rfl rfl dX8_lateOf_11 rfl ?_
  refine g_isub C (n' := 15) dX8_lateOf_14 rfl ?_
  refine g_iret C hr hlk rfl ⟨congrArg (fun z : Int => some (Value.int (iI z))) ?_, ?_⟩ dX8_lateOf_15
  · first | rfl | omega | ((repeat' split) <;> first | rfl | omega | (exfalso; omega))
  · first | rfl | omega | ((repeat' split) <;> first | rfl | omega | (exfalso; omega))
set_option maxRecDepth 100000 in
set_option maxHeartbeats 4000000 in
theorem c_X8_soonOf (l : Launch) (D : va_G) (Y : Nat → ClassId) {E : (Nat → Prop) → State → Heap → Prop} (hE : g_Stab E) (q : Nat → Nat) (I : Nat → Int) (A : Nat → Nat → Int) (F : Nat → UInt32) (Dd : Nat → UInt64) (p : Int) (hp0 : 0 ≤ p) (hp1 : p < 16) : g_Ct l yX8_soonOf cX8_soonOf 2 (some FieldType.int) ({ frames := 0, cells := 0, slots := 0, locals := 0 } : Room) D (tysY Y) E [.ref (q 99), .int (iI p)] (wMod q Y I A F Dd) 0 0 (g_det (some (.int (iI (A 0 (17 + p).toNat - I 6)))) (wMod q Y I A F Dd)) := by
  refine g_ofG (own := RX8) hE (by decide) rfl (Nat.le_of_ble_eq_true rfl) [(0, .ref (q 99)), (1, .int (iI p))] rfl ?_
  intro p9 e9 s9 m9 b9 t9 c9 A9 C hr hlk hnm
  refine g_aload_n C (n' := 1) 0 rfl dX8_soonOf_0 rfl rfl ?_
  refine g_get C (n' := 4) (Cn := RX8) (T := TX8) (N := 35) (ci := 6) (v := .ref (q 0)) ga_X8 0 rfl rfl 0 (by decide) kw_690 rfl rfl dX8_soonOf_1 rfl ?_
  refine g_bipush C (n' := 6) (by decide) dX8_soonOf_4 rfl ?_
  refine g_iload_n C (n' := 7) 1 rfl dX8_soonOf_6 rfl rfl ?_
  refine g_iadd C (n' := 8) dX8_soonOf_7 rfl ?_
  refine g_iald C (n' := 9) (f := (A 0)) 1 0 rfl rfl (by omega) (by omega) (by decide) rfl dX8_soonOf_8 rfl ?_
  refine g_aload_n C (n' := 10) 0 rfl dX8_soonOf_9 rfl rfl ?_
  refine g_get C (n' := 13) (Cn := RX8) (T := TX8) (N := 35) (ci := 6) (v := .int (iI (I 6))) ga_X8 0 rfl rfl 6 (by decide) kw_696 rfl rfl dX8_soonOf_10 rfl ?_
  refine g_isub C (n' := 14) dX8_soonOf_13 rfl ?_
  refine g_iret C hr hlk rfl ⟨congrArg (fun z : Int => some (Value.int (iI z))) ?_, ?_⟩ dX8_soonOf_14
  · first | rfl | omega | ((repeat' split) <;> first | rfl | omega | (exfalso; omega))
  · first | rfl | omega | ((repeat' split) <;> first | rfl | omega | (exfalso; omega))
def m_fill (f g : Nat → Int) (n : Nat) : Nat → Int := fun k => if k < n then f k else g k
theorem m_fill_s (f g : Nat → Int) (n : Nat) : sU (m_fill f g n) n (f n) = m_fill f g (n + 1) := by
  funext j
  unfold sU m_fill
  by_cases e : j = n
  · subst e
    rw [if_pos rfl, if_pos (by omega)]
  · rw [if_neg e]
    (repeat' split) <;> first | rfl | omega
theorem m_fill_0 (f g : Nat → Int) : m_fill f g 0 = g := funext fun j => if_neg (Nat.not_lt_zero j)
theorem m_fill_sm {f g : Nat → Int} {n : Nat} (hf : ∀ k, k < n → -1000000 ≤ f k ∧ f k ≤ 1000000) (hg : smR g) : smR (m_fill f g n) := fun k => by
  unfold m_fill
  split
  · next q => exact hf k q
  · exact hg k
def m_lt (I : Nat → Int) (A : Nat → Nat → Int) (u g : Int) (k : Nat) : Int := (u - A 0 (1 + k) - I 5 - g) / I 7
def m_so (I : Nat → Int) (A : Nat → Nat → Int) (g : Int) (k : Nat) : Int := (A 0 (17 + k) - I 6 - g) / I 7
theorem m_lt_r {I : Nat → Int} {A : Nat → Nat → Int} (hN : okN (mJ I A) (mN A)) {u g : Int} (hu : 0 ≤ u ∧ u ≤ 999) (hg : -1200 ≤ g ∧ g ≤ 1200) {k : Nat} (hk : (k : Int) < I 2) : (-1700 ≤ m_lt I A u g k ∧ m_lt I A u g k ≤ 10000) ∧ (-1700 ≤ m_so I A g k ∧ m_so I A g k ≤ 10000) := by
  unfold okN at hN
  simp only [mJ, mN] at hN
  have h1 := hN.2.2.2.2.2.2 k hk
  unfold m_lt m_so
  exact ⟨ed_r (by omega) (by omega), ed_r (by omega) (by omega)⟩
set_option maxRecDepth 100000 in
set_option maxHeartbeats 4000000 in
theorem lp_X8_lb {p9 : Program} {l : Launch} {e9 : Env} {s9 : State} {m9 : MethodId} {a9 : Array Value} {b9 : List Frame} {t9 : Method} {c9 : Code} {D : va_G} {A9 : Nat → Prop} {Q9 : State → Prop} {E : (Nat → Prop) → State → Heap → Prop} {Y : Nat → ClassId} (C : g_Cx p9 s9 m9 a9 c9 cX8_layBounds 4 RX8 D (tysY Y) A9 E) (q : Nat → Nat) (I : Nat → Int) (A : Nat → Nat → Int) (F : Nat → UInt32) (Dd : Nat → UInt64) (u g : Int) (hsI : smI I) (hsA : smA A) (hN : okN (mJ I A) (mN A)) (hu : 0 ≤ u ∧ u ≤ 999) (hg : -1200 ≤ g ∧ g ≤ 1200) : ∀ (n9 : Nat) (k : Nat), (k : Int) + n9 = I 2 → (g_G p9 l e9 ({ frames := 1, cells := 0, slots := 0, locals := 22 } : Room) s9 m9 a9 b9 t9 c9 4 D A9 Q9 0 0 (wMod q Y I (sU (sU A 29 (m_fill (m_lt I A u g) (A 29) (I 2).toNat)) 30 (m_fill (m_so I A g) (A 30) (I 2).toNat)) F Dd) [(3, .int (iI (((I 2).toNat : Nat) : Int))), (0, .ref (q 99)), (1, .int (iI u)), (2, .int (iI g))] 57 []) → g_G p9 l e9 ({ frames := 1, cells := 0, slots := 0, locals := 22 } : Room) s9 m9 a9 b9 t9 c9 4 D A9 Q9 0 0 (wMod q Y I (sU (sU A 29 (m_fill (m_lt I A u g) (A 29) k)) 30 (m_fill (m_so I A g) (A 30) k)) F Dd) [(3, .int (iI ((k : Nat) : Int))), (0, .ref (q 99)), (1, .int (iI u)), (2, .int (iI g))] 2 [] := by
  have hE := C.2.2.2.2.2.2.2.2.1
  intro n9
  induction n9 with
  | zero =>
    intro k hk K
    have hI := hsI
    have hA := hsA
    unfold smI at hI
    unfold smA at hA
    have hN9 := hN
    unfold okN at hN9
    simp only [mJ, mN] at hN9
    refine g_iload_n C (n' := 3) 0 rfl dX8_layBounds_2 rfl rfl ?_
    refine g_aload_n C (n' := 4) 1 rfl dX8_layBounds_3 rfl rfl ?_
    refine g_get C (n' := 7) (Cn := RX8) (T := TX8) (N := 35) (ci := 6) (v := .int (iI (I 2))) ga_X8 0 rfl rfl 2 (by decide) kw_692 rfl rfl dX8_layBounds_4 rfl ?_
    have h_4 := hI 2
    refine g_icmp_ge C (n' := 10) 57 dX8_layBounds_7 (by decide) rfl (by unfold inR; omega) (by unfold inR; omega) (fun c1 => ?_) (fun c1 => ?_)
    · skip
      have ek : k = (I 2).toNat := by omega
      rw [ek]
      exact K
    · skip
      exfalso
      omega
  | succ n9 ih =>
    intro k hk K
    have hI := hsI
    have hA := hsA
    unfold smI at hI
    unfold smA at hA
    have hN9 := hN
    unfold okN at hN9
    simp only [mJ, mN] at hN9
    refine g_iload_n C (n' := 3) 0 rfl dX8_layBounds_2 rfl rfl ?_
    refine g_aload_n C (n' := 4) 1 rfl dX8_layBounds_3 rfl rfl ?_
    refine g_get C (n' := 7) (Cn := RX8) (T := TX8) (N := 35) (ci := 6) (v := .int (iI (I 2))) ga_X8 0 rfl rfl 2 (by decide) kw_692 rfl rfl dX8_layBounds_4 rfl ?_
    have h_4 := hI 2
    refine g_icmp_ge C (n' := 10) 57 dX8_layBounds_7 (by decide) rfl (by unfold inR; omega) (by unfold inR; omega) (fun c1 => ?_) (fun c1 => ?_)
    · skip
      exfalso
      omega
    · skip
      have ha1 := hA 0 (1 + k)
      have ha2 := hA 0 (17 + k)
      have hi5 := hI 5
      have hi6 := hI 6
      have hi7 := hI 7
      have hp9 := hN9.2.2.2.2.2.2 k (by omega)
      refine g_aload_n C (n' := 11) 1 rfl dX8_layBounds_10 rfl rfl ?_
      refine g_get C (n' := 14) (Cn := RX8) (T := TX8) (N := 35) (ci := 6) (v := .ref (q 29)) ga_X8 0 rfl rfl 29 (by decide) kw_719 rfl rfl dX8_layBounds_11 rfl ?_
      refine g_iload_n C (n' := 15) 0 rfl dX8_layBounds_14 rfl rfl ?_
      refine g_aload_n C (n' := 16) 1 rfl dX8_layBounds_15 rfl rfl ?_
      refine g_iload_n C (n' := 17) 0 rfl dX8_layBounds_16 rfl rfl ?_
      refine g_iload_n C (n' := 18) 2 rfl dX8_layBounds_17 rfl rfl ?_
      refine g_cVv C (n' := 21) (v := .int (iI (u - (A 0) (1 + k) - (I 5)))) (c_X8_lateOf l D Y C.2.2.2.2.2.2.2.2.1 q I (sU (sU A 29 (m_fill (m_lt I A u g) (A 29) k)) 30 (m_fill (m_so I A g) (A 30) k)) F Dd ((k : Nat) : Int) u (by omega) (by omega)) 2 kw_867 kc_X8_lateOf (by decide +kernel) (pm0 _) 0 (ci := 6) rfl rfl rfl rfl ⟨Nat.le_of_ble_eq_true rfl, Nat.le_of_ble_eq_true rfl⟩ ⟨rfl, rfl⟩ ⟨Nat.le_of_ble_eq_true rfl, Nat.le_of_ble_eq_true rfl⟩ (Nat.le_of_ble_eq_true rfl) dX8_layBounds_18 rfl rfl (wMod q Y I (sU (sU A 29 (m_fill (m_lt I A u g) (A 29) k)) 30 (m_fill (m_so I A g) (A 30) k)) F Dd) (pm0' _) ?_
      refine g_iload_n C (n' := 22) 3 rfl dX8_layBounds_21 rfl rfl ?_
      refine g_isub C (n' := 23) dX8_layBounds_22 rfl ?_
      refine g_aload_n C (n' := 24) 1 rfl dX8_layBounds_23 rfl rfl ?_
      refine g_get C (n' := 27) (Cn := RX8) (T := TX8) (N := 35) (ci := 6) (v := .int (iI (I 7))) ga_X8 0 rfl rfl 7 (by decide) kw_697 rfl rfl dX8_layBounds_24 rfl ?_
      have h_24 := hI 7
      refine g_cSv C (n' := 30) (v := .int (iI (((u - (A 0) (1 + k) - (I 5)) - g) / (I 7)))) (c_X8_floor l D Y C.2.2.2.2.2.2.2.2.1 ((u - (A 0) (1 + k) - (I 5)) - g) (I 7) (by omega) (by omega)) 2 kw_913 kc_X8_floor (by decide +kernel) (pm_n _) rfl ⟨Nat.le_of_ble_eq_true rfl, Nat.le_of_ble_eq_true rfl⟩ ⟨rfl, rfl⟩ ⟨Nat.le_of_ble_eq_true rfl, Nat.le_of_ble_eq_true rfl⟩ (Nat.le_of_ble_eq_true rfl) dX8_layBounds_27 rfl rfl (wMod q Y I (sU (sU A 29 (m_fill (m_lt I A u g) (A 29) k)) 30 (m_fill (m_so I A g) (A 30) k)) F Dd) (pm_n _) ?_
      refine g_iastN C (n' := 31) (f := (m_fill (m_lt I A u g) (A 29) k)) (j := k) 17 0 rfl rfl (by omega) (by decide) rfl dX8_layBounds_30 rfl (wMod q Y I (sU (sU A 30 (m_fill (m_so I A g) (A 30) k)) 29 (sU (m_fill (m_lt I A u g) (A 29) k) k (((u - (A 0) (1 + k) - (I 5)) - g) / (I 7)))) F Dd) rfl ?_
      refine g_aload_n C (n' := 32) 1 rfl dX8_layBounds_31 rfl rfl ?_
      refine g_get C (n' := 35) (Cn := RX8) (T := TX8) (N := 35) (ci := 6) (v := .ref (q 30)) ga_X8 0 rfl rfl 30 (by decide) kw_720 rfl rfl dX8_layBounds_32 rfl ?_
      refine g_iload_n C (n' := 36) 0 rfl dX8_layBounds_35 rfl rfl ?_
      refine g_aload_n C (n' := 37) 1 rfl dX8_layBounds_36 rfl rfl ?_
      refine g_iload_n C (n' := 38) 0 rfl dX8_layBounds_37 rfl rfl ?_
      refine g_cVv C (n' := 41) (v := .int (iI ((A 0) (17 + k) - (I 6)))) (c_X8_soonOf l D Y C.2.2.2.2.2.2.2.2.1 q I (sU (sU A 30 (m_fill (m_so I A g) (A 30) k)) 29 (sU (m_fill (m_lt I A u g) (A 29) k) k (((u - (A 0) (1 + k) - (I 5)) - g) / (I 7)))) F Dd ((k : Nat) : Int) (by omega) (by omega)) 1 kw_871 kc_X8_soonOf (by decide +kernel) (pm0 _) 0 (ci := 6) rfl rfl rfl rfl ⟨Nat.le_of_ble_eq_true rfl, Nat.le_of_ble_eq_true rfl⟩ ⟨rfl, rfl⟩ ⟨Nat.le_of_ble_eq_true rfl, Nat.le_of_ble_eq_true rfl⟩ (Nat.le_of_ble_eq_true rfl) dX8_layBounds_38 rfl rfl (wMod q Y I (sU (sU A 30 (m_fill (m_so I A g) (A 30) k)) 29 (sU (m_fill (m_lt I A u g) (A 29) k) k (((u - (A 0) (1 + k) - (I 5)) - g) / (I 7)))) F Dd) (pm0' _) ?_
      refine g_iload_n C (n' := 42) 3 rfl dX8_layBounds_41 rfl rfl ?_
      refine g_isub C (n' := 43) dX8_layBounds_42 rfl ?_
      refine g_aload_n C (n' := 44) 1 rfl dX8_layBounds_43 rfl rfl ?_
      refine g_get C (n' := 47) (Cn := RX8) (T := TX8) (N := 35) (ci := 6) (v := .int (iI (I 7))) ga_X8 0 rfl rfl 7 (by decide) kw_697 rfl rfl dX8_layBounds_44 rfl ?_
      have h_44 := hI 7
      refine g_cSv C (n' := 50) (v := .int (iI ((((A 0) (17 + k) - (I 6)) - g) / (I 7)))) (c_X8_floor l D Y C.2.2.2.2.2.2.2.2.1 (((A 0) (17 + k) - (I 6)) - g) (I 7) (by omega) (by omega)) 2 kw_913 kc_X8_floor (by decide +kernel) (pm_n _) rfl ⟨Nat.le_of_ble_eq_true rfl, Nat.le_of_ble_eq_true rfl⟩ ⟨rfl, rfl⟩ ⟨Nat.le_of_ble_eq_true rfl, Nat.le_of_ble_eq_true rfl⟩ (Nat.le_of_ble_eq_true rfl) dX8_layBounds_47 rfl rfl (wMod q Y I (sU (sU A 30 (m_fill (m_so I A g) (A 30) k)) 29 (sU (m_fill (m_lt I A u g) (A 29) k) k (((u - (A 0) (1 + k) - (I 5)) - g) / (I 7)))) F Dd) (pm_n _) ?_
      refine g_iastN C (n' := 51) (f := (m_fill (m_so I A g) (A 30) k)) (j := k) 18 0 rfl rfl (by omega) (by decide) rfl dX8_layBounds_50 rfl (wMod q Y I (sU (sU A 29 (sU (m_fill (m_lt I A u g) (A 29) k) k (((u - (A 0) (1 + k) - (I 5)) - g) / (I 7)))) 30 (sU (m_fill (m_so I A g) (A 30) k) k ((((A 0) (17 + k) - (I 6)) - g) / (I 7)))) F Dd) rfl ?_
      refine g_iinc C (n' := 54) 0 [(3, .int (iI (((k : Nat) : Int) + 1))), (0, .ref (q 99)), (1, .int (iI u)), (2, .int (iI g))] rfl dX8_layBounds_51 rfl (by decide) rfl ?_
      refine g_goto C 2 dX8_layBounds_54 (by decide) ?_
      rw [show ((sU (m_fill (m_lt I A u g) (A 29) k) k (((u - (A 0) (1 + k) - (I 5)) - g) / (I 7))) : Nat → Int) = m_fill (m_lt I A u g) (A 29) (k + 1) from m_fill_s (m_lt I A u g) (A 29) k]
      rw [show ((sU (m_fill (m_so I A g) (A 30) k) k ((((A 0) (17 + k) - (I 6)) - g) / (I 7))) : Nat → Int) = m_fill (m_so I A g) (A 30) (k + 1) from m_fill_s (m_so I A g) (A 30) k]
      refine g_lv (lv' := [(3, .int (iI ((k + 1 : Nat) : Int))), (0, .ref (q 99)), (1, .int (iI u)), (2, .int (iI g))]) [0, 1, 2, 3] rfl ?_
      exact ih (k + 1) (by omega) K
set_option maxRecDepth 100000 in
set_option maxHeartbeats 4000000 in
theorem c_X8_layBounds (l : Launch) (D : va_G) (Y : Nat → ClassId) {E : (Nat → Prop) → State → Heap → Prop} (hE : g_Stab E) (q : Nat → Nat) (I : Nat → Int) (A : Nat → Nat → Int) (F : Nat → UInt32) (Dd : Nat → UInt64) (u : Int) (g : Int) (hsI : smI I) (hsA : smA A) (hN : okN (mJ I A) (mN A)) (hu : 0 ≤ u ∧ u ≤ 999) (hg : -1200 ≤ g ∧ g ≤ 1200) : g_Ct l yX8_layBounds cX8_layBounds 4 none ({ frames := 1, cells := 0, slots := 0, locals := 22 } : Room) D (tysY Y) E [.ref (q 99), .int (iI u), .int (iI g)] (wMod q Y I A F Dd) 0 0 (g_det none (wMod q Y I (sU (sU A 29 (m_fill (m_lt I A u g) (A 29) (I 2).toNat)) 30 (m_fill (m_so I A g) (A 30) (I 2).toNat)) F Dd)) := by
  refine g_ofG (own := RX8) hE (by decide) rfl (Nat.le_of_ble_eq_true rfl) [(0, .ref (q 99)), (1, .int (iI u)), (2, .int (iI g))] rfl ?_
  intro p9 e9 s9 m9 b9 t9 c9 A9 C hr hlk hnm
  have hI := hsI
  have hA := hsA
  unfold smI at hI
  unfold smA at hA
  have hN9 := hN
  unfold okN at hN9
  simp only [mJ, mN] at hN9
  refine g_iconst C (n' := 1) dX8_layBounds_0 rfl ?_
  refine g_istore_n C (n' := 2) [(3, .int (iI 0)), (0, .ref (q 99)), (1, .int (iI u)), (2, .int (iI g))] dX8_layBounds_1 rfl rfl (by decide) rfl ?_
  refine g_wd (w' := (wMod q Y I (sU (sU A 29 (m_fill (m_lt I A u g) (A 29) 0)) 30 (m_fill (m_so I A g) (A 30) 0)) F Dd)) (by rw [m_fill_0, m_fill_0, sU_id, sU_id]) ?_
  refine g_lv (lv' := [(3, .int (iI ((0 : Nat) : Int))), (0, .ref (q 99)), (1, .int (iI u)), (2, .int (iI g))]) [0, 1, 2, 3] rfl ?_
  refine lp_X8_lb C q I A F Dd u g hsI hsA hN hu hg (I 2).toNat 0 (by omega) ?_
  refine g_vret C hr hlk ⟨rfl, ?_⟩ dX8_layBounds_57
  first | rfl | omega | ((repeat' split) <;> first | rfl | omega | (exfalso; omega))
