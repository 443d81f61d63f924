/-! Net -/
def n_begin (I : Nat → Int) (n : Int) : Nat → Int := sU (sU (sU (sU (sU (sU I 0 n) 1 0) 2 0) 3 1) 4 99) 5 0
def n_slow (A : Nat → Nat → Int) (p n : Int) : Nat → Nat → Int := sU (sU A 8 (sU (A 8) p.toNat (A 8 p.toNat + n))) 9 (sU (A 9) p.toNat (A 9 p.toNat + n))
def n_late (I : Nat → Int) (A : Nat → Nat → Int) (p : Int) : Int := I 4 - A 8 p.toNat - I 1
def n_soon (I : Nat → Int) (A : Nat → Nat → Int) (p : Int) : Int := A 9 p.toNat - I 2
def n_ts (I : Nat → Int) (A : Nat → Nat → Int) : Nat → Int
  | 0 => 0
  | k + 1 => n_ts I A k + (if A 9 k - I 2 < 0 then 1 else 0)
theorem n_ts_r (I : Nat → Int) (A : Nat → Nat → Int) : ∀ k : Nat, 0 ≤ n_ts I A k ∧ n_ts I A k ≤ k
  | 0 => by simp [n_ts]
  | k + 1 => by
    have := n_ts_r I A k
    rw [n_ts]
    split <;> omega
theorem n_soon_r {I : Nat → Int} {A : Nat → Nat → Int} (hsI : smI I) (hsA : smA A) (p : Int) : -2000000 ≤ n_soon I A p ∧ n_soon I A p ≤ 2000000 := by
  have := hsI 2
  have := hsA 9 p.toNat
  unfold n_soon
  omega
theorem n_late_r {I : Nat → Int} {A : Nat → Nat → Int} (hsI : smI I) (hsA : smA A) (p : Int) : -3000000 ≤ n_late I A p ∧ n_late I A p ≤ 3000000 := by
  have := hsI 1
  have := hsI 4
  have := hsA 8 p.toNat
  unfold n_late
  omega
def n_addI (I : Nat → Int) : Nat → Int := if 16 ≤ I 5 then I else sU I 5 (I 5 + 1)
def n_addA (I : Nat → Int) (A : Nat → Nat → Int) (a b u v : Int) : Nat → Nat → Int := if 16 ≤ I 5 then A else sU (sU (sU (sU A 6 (sU (A 6) (I 5).toNat a)) 7 (sU (A 7) (I 5).toNat b)) 8 (sU (A 8) (I 5).toNat u)) 9 (sU (A 9) (I 5).toNat v)
def n_cpI (I J : Nat → Int) : Nat → Int := sU (sU (sU (sU (sU (sU I 0 (J 0)) 1 (J 1)) 2 (J 2)) 3 (J 3)) 4 (J 4)) 5 (J 5)
def n_cpA (A B : Nat → Nat → Int) : Nat → Nat → Int := sU (sU (sU (sU A 6 (sC (B 6) (A 6) 16)) 7 (sC (B 7) (A 7) 16)) 8 (sC (B 8) (A 8) 16)) 9 (sC (B 9) (A 9) 16)
set_option maxRecDepth 100000 in
set_option maxHeartbeats 4000000 in
theorem c_X2_begin (l : Launch) (D : va_G) (Y : Nat → ClassId) {E : (Nat → Prop) → State → Heap → Prop} (hE : g_Stab E) (q : Nat → Nat) (I : Nat → Int) (A : Nat → Nat → Int) (n : Int) : g_Ct l yX2_begin cX2_begin 2 none ({ frames := 0, cells := 0, slots := 0, locals := 0 } : Room) D (tysY Y) E [.ref (q 99), .int (iI n)] (wNet q Y I A) 0 0 (g_det none (wNet q Y (n_begin I n) A)) := by
  refine g_ofG (own := RX2) hE (by decide) rfl (Nat.le_of_ble_eq_true rfl) [(0, .ref (q 99)), (1, .int (iI n))] rfl ?_
  intro p9 e9 s9 m9 b9 t9 c9 A9 C hr hlk hnm
  refine g_aload_n C (n' := 1) 0 rfl dX2_begin_0 rfl rfl ?_
  refine g_iload_n C (n' := 2) 1 rfl dX2_begin_1 rfl rfl ?_
  refine g_put C (n' := 5) (Cn := RX2) (T := TX2) (N := 10) (ci := 1) (v := .int (iI n)) ga_X2 0 rfl rfl 0 (by decide) kw_58 rfl tyX2 tyX2_ok nmX2 rfl rfl rfl rfl (Nat.le_of_ble_eq_true rfl) (wNet q Y (sU I 0 n) A) rfl dX2_begin_2 rfl ?_
  refine g_aload_n C (n' := 6) 0 rfl dX2_begin_5 rfl rfl ?_
  refine g_iconst C (n' := 7) dX2_begin_6 rfl ?_
  refine g_put C (n' := 10) (Cn := RX2) (T := TX2) (N := 10) (ci := 1) (v := .int (iI 0)) ga_X2 0 rfl rfl 1 (by decide) kw_62 rfl tyX2 tyX2_ok nmX2 rfl rfl rfl rfl (Nat.le_of_ble_eq_true rfl) (wNet q Y (sU (sU I 0 n) 1 0) A) rfl dX2_begin_7 rfl ?_
  refine g_aload_n C (n' := 11) 0 rfl dX2_begin_10 rfl rfl ?_
  refine g_iconst C (n' := 12) dX2_begin_11 rfl ?_
  refine g_put C (n' := 15) (Cn := RX2) (T := TX2) (N := 10) (ci := 1) (v := .int (iI 0)) ga_X2 0 rfl rfl 2 (by decide) kw_65 rfl tyX2 tyX2_ok nmX2 rfl rfl rfl rfl (Nat.le_of_ble_eq_true rfl) (wNet q Y (sU (sU (sU I 0 n) 1 0) 2 0) A) rfl dX2_begin_12 rfl ?_
  refine g_aload_n C (n' := 16) 0 rfl dX2_begin_15 rfl rfl ?_
  refine g_iconst C (n' := 17) dX2_begin_16 rfl ?_
  refine g_put C (n' := 20) (Cn := RX2) (T := TX2) (N := 10) (ci := 1) (v := .int (iI 1)) ga_X2 0 rfl rfl 3 (by decide) kw_67 rfl tyX2 tyX2_ok nmX2 rfl rfl rfl rfl (Nat.le_of_ble_eq_true rfl) (wNet q Y (sU (sU (sU (sU I 0 n) 1 0) 2 0) 3 1) A) rfl dX2_begin_17 rfl ?_
  refine g_aload_n C (n' := 21) 0 rfl dX2_begin_20 rfl rfl ?_
  refine g_bipush C (n' := 23) (by decide) dX2_begin_21 rfl ?_
  refine g_put C (n' := 26) (Cn := RX2) (T := TX2) (N := 10) (ci := 1) (v := .int (iI 99)) ga_X2 0 rfl rfl 4 (by decide) kw_70 rfl tyX2 tyX2_ok nmX2 rfl rfl rfl rfl (Nat.le_of_ble_eq_true rfl) (wNet q Y (sU (sU (sU (sU (sU I 0 n) 1 0) 2 0) 3 1) 4 99) A) rfl dX2_begin_23 rfl ?_
  refine g_aload_n C (n' := 27) 0 rfl dX2_begin_26 rfl rfl ?_
  refine g_iconst C (n' := 28) dX2_begin_27 rfl ?_
  refine g_put C (n' := 31) (Cn := RX2) (T := TX2) (N := 10) (ci := 1) (v := .int (iI 0)) ga_X2 0 rfl rfl 5 (by decide) kw_74 rfl tyX2 tyX2_ok nmX2 rfl rfl rfl rfl (Nat.le_of_ble_eq_true rfl) (wNet q Y (sU (sU (sU (sU (sU (sU I 0 n) 1 0) 2 0) 3 1) 4 99) 5 0) A) rfl dX2_begin_28 rfl ?_
  refine g_vret C hr hlk ⟨rfl, ?_⟩ dX2_begin_31
  first | rfl | omega | ((repeat' split) <;> first | rfl | omega | (exfalso; omega))
set_option maxRecDepth 100000 in
set_option maxHeartbeats 4000000 in
theorem c_X2_hasAllPaths (l : Launch) (D : va_G) (Y : Nat → ClassId) {E : (Nat → Prop) → State → Heap → Prop} (hE : g_Stab E) (q : Nat → Nat) (I : Nat → Int) (A : Nat → Nat → Int) (hsI : smI I) (hsA : smA A) : g_Ct l yX2_hasAllPaths cX2_hasAllPaths 1 (some FieldType.boolean) ({ frames := 0, cells := 0, slots := 0, locals := 0 } : Room) D (tysY Y) E [.ref (q 99)] (wNet q Y I A) 0 0 (g_det (some (.int (iI (if 16 ≤ I 5 then 1 else 0)))) (wNet q Y I A)) := by
  refine g_ofG (own := RX2) hE (by decide) rfl (Nat.le_of_ble_eq_true rfl) [(0, .ref (q 99))] rfl ?_
  intro p9 e9 s9 m9 b9 t9 c9 A9 C hr hlk hnm
  have hI := hsI
  have hA := hsA
  unfold smI at hI
  unfold smA at hA
  refine g_aload_n C (n' := 1) 0 rfl dX2_hasAllPaths_0 rfl rfl ?_
  refine g_get C (n' := 4) (Cn := RX2) (T := TX2) (N := 10) (ci := 1) (v := .int (iI (I 5))) ga_X2 0 rfl rfl 5 (by decide) kw_74 rfl rfl dX2_hasAllPaths_1 rfl ?_
  have h_1 := hI 5
  refine g_bipush C (n' := 6) (by decide) dX2_hasAllPaths_4 rfl ?_
  refine g_icmp_lt C (n' := 9) 13 dX2_hasAllPaths_6 (by decide) rfl (by unfold inR; omega) (by unfold inR; omega) (fun c1 => ?_) (fun c1 => ?_)
  · skip
    refine g_iconst C (n' := 14) dX2_hasAllPaths_13 rfl ?_
    refine g_iret C hr hlk (nar_z (by omega)) ⟨congrArg (fun z : Int => some (Value.int (iI z))) ?_, ?_⟩ dX2_hasAllPaths_14
    · first | rfl | omega | ((repeat' split) <;> first | rfl | omega | (exfalso; omega))
    · first | rfl | omega | ((repeat' split) <;> first | rfl | omega | (exfalso; omega))
  · skip
    refine g_iconst C (n' := 10) dX2_hasAllPaths_9 rfl ?_
    refine g_goto C 14 dX2_hasAllPaths_10 (by decide) ?_
    refine g_iret C hr hlk (nar_z (by omega)) ⟨congrArg (fun z : Int => some (Value.int (iI z))) ?_, ?_⟩ dX2_hasAllPaths_14
    · first | rfl | omega | ((repeat' split) <;> first | rfl | omega | (exfalso; omega))
    · first | rfl | omega | ((repeat' split) <;> first | rfl | omega | (exfalso; omega))
set_option maxRecDepth 100000 in
set_option maxHeartbeats 4000000 in
theorem c_X2_canBeSlower (l : Launch) (D : va_G) (Y : Nat → ClassId) {E : (Nat → Prop) → State → Heap → Prop} (hE : g_Stab E) (q : Nat → Nat) (I : Nat → Int) (A : Nat → Nat → Int) (p : Int) (n : Int) (hsI : smI I) (hsA : smA A) (hp0 : 0 ≤ p) (hp1 : p < 16) (hn : -100 ≤ n ∧ n ≤ 100) : g_Ct l yX2_canBeSlower cX2_canBeSlower 3 (some FieldType.boolean) ({ frames := 0, cells := 0, slots := 0, locals := 0 } : Room) D (tysY Y) E [.ref (q 99), .int (iI p), .int (iI n)] (wNet q Y I A) 0 0 (g_det (some (.int (iI (if A 8 p.toNat + n ≤ 199 then 1 else 0)))) (wNet q Y I A)) := by
  refine g_ofG (own := RX2) hE (by decide) rfl (Nat.le_of_ble_eq_true rfl) [(0, .ref (q 99)), (1, .int (iI p)), (2, .int (iI n))] rfl ?_
  intro p9 e9 s9 m9 b9 t9 c9 A9 C hr hlk hnm
  have hI := hsI
  have hA := hsA
  unfold smI at hI
  unfold smA at hA
  refine g_aload_n C (n' := 1) 0 rfl dX2_canBeSlower_0 rfl rfl ?_
  refine g_get C (n' := 4) (Cn := RX2) (T := TX2) (N := 10) (ci := 1) (v := .ref (q 8)) ga_X2 0 rfl rfl 8 (by decide) kw_83 rfl rfl dX2_canBeSlower_1 rfl ?_
  refine g_iload_n C (n' := 5) 1 rfl dX2_canBeSlower_4 rfl rfl ?_
  refine g_iald C (n' := 6) (f := (A 8)) 3 0 rfl rfl (by omega) (by omega) (by decide) rfl dX2_canBeSlower_5 rfl ?_
  have h_5 := hA 8 p.toNat
  refine g_iload_n C (n' := 7) 2 rfl dX2_canBeSlower_6 rfl rfl ?_
  refine g_iadd C (n' := 8) dX2_canBeSlower_7 rfl ?_
  refine g_sipush C (n' := 11) (by decide) dX2_canBeSlower_8 rfl ?_
  refine g_icmp_gt C (n' := 14) 18 dX2_canBeSlower_11 (by decide) rfl (by unfold inR; omega) (by unfold inR; omega) (fun c1 => ?_) (fun c1 => ?_)
  · skip
    refine g_iconst C (n' := 19) dX2_canBeSlower_18 rfl ?_
    refine g_iret C hr hlk (nar_z (by omega)) ⟨congrArg (fun z : Int => some (Value.int (iI z))) ?_, ?_⟩ dX2_canBeSlower_19
    · first | rfl | omega | ((repeat' split) <;> first | rfl | omega | (exfalso; omega))
    · first | rfl | omega | ((repeat' split) <;> first | rfl | omega | (exfalso; omega))
  · skip
    refine g_iconst C (n' := 15) dX2_canBeSlower_14 rfl ?_
    refine g_goto C 19 dX2_canBeSlower_15 (by decide) ?_
    refine g_iret C hr hlk (nar_z (by omega)) ⟨congrArg (fun z : Int => some (Value.int (iI z))) ?_, ?_⟩ dX2_canBeSlower_19
    · first | rfl | omega | ((repeat' split) <;> first | rfl | omega | (exfalso; omega))
    · first | rfl | omega | ((repeat' split) <;> first | rfl | omega | (exfalso; omega))
set_option maxRecDepth 100000 in
set_option maxHeartbeats 4000000 in
theorem c_X2_delay (l : Launch) (D : va_G) (Y : Nat → ClassId) {E : (Nat → Prop) → State → Heap → Prop} (hE : g_Stab E) (q : Nat → Nat) (I : Nat → Int) (A : Nat → Nat → Int) (p : Int) (n : Int) (hp0 : 0 ≤ p) (hp1 : p < 16) : g_Ct l yX2_delay cX2_delay 3 none ({ frames := 0, cells := 0, slots := 0, locals := 0 } : Room) D (tysY Y) E [.ref (q 99), .int (iI p), .int (iI n)] (wNet q Y I A) 0 0 (g_det none (wNet q Y I (n_slow A p n))) := by
  refine g_ofG (own := RX2) hE (by decide) rfl (Nat.le_of_ble_eq_true rfl) [(0, .ref (q 99)), (1, .int (iI p)), (2, .int (iI n))] rfl ?_
  intro p9 e9 s9 m9 b9 t9 c9 A9 C hr hlk hnm
  refine g_aload_n C (n' := 1) 0 rfl dX2_delay_0 rfl rfl ?_
  refine g_get C (n' := 4) (Cn := RX2) (T := TX2) (N := 10) (ci := 1) (v := .ref (q 8)) ga_X2 0 rfl rfl 8 (by decide) kw_83 rfl rfl dX2_delay_1 rfl ?_
  refine g_iload_n C (n' := 5) 1 rfl dX2_delay_4 rfl rfl ?_
  refine g_dup2 C (n' := 6) rfl rfl dX2_delay_5 rfl ?_
  refine g_iald C (n' := 7) (f := (A 8)) 3 0 rfl rfl (by omega) (by omega) (by decide) rfl dX2_delay_6 rfl ?_
  refine g_iload_n C (n' := 8) 2 rfl dX2_delay_7 rfl rfl ?_
  refine g_iadd C (n' := 9) dX2_delay_8 rfl ?_
  refine g_iast C (n' := 10) (f := (A 8)) 3 0 rfl rfl (by omega) (by omega) (by decide) rfl dX2_delay_9 rfl (wNet q Y I (sU A 8 (sU (A 8) p.toNat (((A 8) p.toNat) + n)))) rfl ?_
  refine g_aload_n C (n' := 11) 0 rfl dX2_delay_10 rfl rfl ?_
  refine g_get C (n' := 14) (Cn := RX2) (T := TX2) (N := 10) (ci := 1) (v := .ref (q 9)) ga_X2 0 rfl rfl 9 (by decide) kw_86 rfl rfl dX2_delay_11 rfl ?_
  refine g_iload_n C (n' := 15) 1 rfl dX2_delay_14 rfl rfl ?_
  refine g_dup2 C (n' := 16) rfl rfl dX2_delay_15 rfl ?_
  refine g_iald C (n' := 17) (f := (A 9)) 4 0 rfl rfl (by omega) (by omega) (by decide) rfl dX2_delay_16 rfl ?_
  refine g_iload_n C (n' := 18) 2 rfl dX2_delay_17 rfl rfl ?_
  refine g_iadd C (n' := 19) dX2_delay_18 rfl ?_
  refine g_iast C (n' := 20) (f := (A 9)) 4 0 rfl rfl (by omega) (by omega) (by decide) rfl dX2_delay_19 rfl (wNet q Y I (sU (sU A 8 (sU (A 8) p.toNat (((A 8) p.toNat) + n))) 9 (sU (A 9) p.toNat (((A 9) p.toNat) + n)))) rfl ?_
  refine g_vret C hr hlk ⟨rfl, ?_⟩ dX2_delay_20
  first | rfl | omega | ((repeat' split) <;> first | rfl | omega | (exfalso; omega))
set_option maxRecDepth 100000 in
set_option maxHeartbeats 4000000 in
theorem c_X2_lateBound (l : Launch) (D : va_G) (Y : Nat → ClassId) {E : (Nat → Prop) → State → Heap → Prop} (hE : g_Stab E) (q : Nat → Nat) (I : Nat → Int) (A : Nat → Nat → Int) (p : Int) (hp0 : 0 ≤ p) (hp1 : p < 16) : g_Ct l yX2_lateBound cX2_lateBound 2 (some FieldType.int) ({ frames := 0, cells := 0, slots := 0, locals := 0 } : Room) D (tysY Y) E [.ref (q 99), .int (iI p)] (wNet q Y I A) 0 0 (g_det (some (.int (iI (n_late I A p)))) (wNet q Y I A)) := by
  refine g_ofG (own := RX2) hE (by decide) rfl (Nat.le_of_ble_eq_true rfl) [(0, .ref (q 99)), (1, .int (iI p))] rfl ?_
  intro p9 e9 s9 m9 b9 t9 c9 A9 C hr hlk hnm
  refine g_aload_n C (n' := 1) 0 rfl dX2_lateBound_0 rfl rfl ?_
  refine g_get C (n' := 4) (Cn := RX2) (T := TX2) (N := 10) (ci := 1) (v := .int (iI (I 4))) ga_X2 0 rfl rfl 4 (by decide) kw_70 rfl rfl dX2_lateBound_1 rfl ?_
  refine g_aload_n C (n' := 5) 0 rfl dX2_lateBound_4 rfl rfl ?_
  refine g_get C (n' := 8) (Cn := RX2) (T := TX2) (N := 10) (ci := 1) (v := .ref (q 8)) ga_X2 0 rfl rfl 8 (by decide) kw_83 rfl rfl dX2_lateBound_5 rfl ?_
  refine g_iload_n C (n' := 9) 1 rfl dX2_lateBound_8 rfl rfl ?_
  refine g_iald C (n' := 10) (f := (A 8)) 3 0 rfl rfl (by omega) (by omega) (by decide) rfl dX2_lateBound_9 rfl ?_
  refine g_isub C (n' := 11) dX2_lateBound_10 rfl ?_
  refine g_aload_n C (n' := 12) 0 rfl dX2_lateBound_11 rfl rfl ?_
  refine g_get C (n' := 15) (Cn := RX2) (T := TX2) (N := 10) (ci := 1) (v := .int (iI (I 1))) ga_X2 0 rfl rfl 1 (by decide) kw_62 rfl rfl dX2_lateBound_12 rfl ?_
  refine g_isub C (n' := 16) dX2_lateBound_15 rfl ?_
  refine g_iret C hr hlk rfl ⟨congrArg (fun z : Int => some (Value.int (iI z))) ?_, ?_⟩ dX2_lateBound_16
  · first | rfl | omega | ((repeat' split) <;> first | rfl | omega | (exfalso; omega))
  · first | rfl | omega | ((repeat' split) <;> first | rfl | omega | (exfalso; omega))
set_option maxRecDepth 100000 in
set_option maxHeartbeats 4000000 in
theorem c_X2_soonBound (l : Launch) (D : va_G) (Y : Nat → ClassId) {E : (Nat → Prop) → State → Heap → Prop} (hE : g_Stab E) (q : Nat → Nat) (I : Nat → Int) (A : Nat → Nat → Int) (p : Int) (hp0 : 0 ≤ p) (hp1 : p < 16) : g_Ct l yX2_soonBound cX2_soonBound 2 (some FieldType.int) ({ frames := 0, cells := 0, slots := 0, locals := 0 } : Room) D (tysY Y) E [.ref (q 99), .int (iI p)] (wNet q Y I A) 0 0 (g_det (some (.int (iI (n_soon I A p)))) (wNet q Y I A)) := by
  refine g_ofG (own := RX2) hE (by decide) rfl (Nat.le_of_ble_eq_true rfl) [(0, .ref (q 99)), (1, .int (iI p))] rfl ?_
  intro p9 e9 s9 m9 b9 t9 c9 A9 C hr hlk hnm
  refine g_aload_n C (n' := 1) 0 rfl dX2_soonBound_0 rfl rfl ?_
  refine g_get C (n' := 4) (Cn := RX2) (T := TX2) (N := 10) (ci := 1) (v := .ref (q 9)) ga_X2 0 rfl rfl 9 (by decide) kw_86 rfl rfl dX2_soonBound_1 rfl ?_
  refine g_iload_n C (n' := 5) 1 rfl dX2_soonBound_4 rfl rfl ?_
  refine g_iald C (n' := 6) (f := (A 9)) 4 0 rfl rfl (by omega) (by omega) (by decide) rfl dX2_soonBound_5 rfl ?_
  refine g_aload_n C (n' := 7) 0 rfl dX2_soonBound_6 rfl rfl ?_
  refine g_get C (n' := 10) (Cn := RX2) (T := TX2) (N := 10) (ci := 1) (v := .int (iI (I 2))) ga_X2 0 rfl rfl 2 (by decide) kw_65 rfl rfl dX2_soonBound_7 rfl ?_
  refine g_isub C (n' := 11) dX2_soonBound_10 rfl ?_
  refine g_iret C hr hlk rfl ⟨congrArg (fun z : Int => some (Value.int (iI z))) ?_, ?_⟩ dX2_soonBound_11
  · first | rfl | omega | ((repeat' split) <;> first | rfl | omega | (exfalso; omega))
  · first | rfl | omega | ((repeat' split) <;> first | rfl | omega | (exfalso; omega))
set_option maxRecDepth 100000 in
set_option maxHeartbeats 4000000 in
theorem lp_X2_ts {p9 : Program} {l : Launch} {e9 : Env} {s9 : State} {m9 : MethodId} {a9 : Array Value} {b9 : List Frame} {t9 : Method} {c9 : Code} {D : va_G} {A9 : Nat → Prop} {Q9 : State → Prop} {E : (Nat → Prop) → State → Heap → Prop} {Y : Nat → ClassId} (C : g_Cx p9 s9 m9 a9 c9 cX2_tooSoonCount 3 RX2 D (tysY Y) A9 E) (q : Nat → Nat) (I : Nat → Int) (A : Nat → Nat → Int) (hsI : smI I) (hsA : smA A) (hP : 0 ≤ I 5 ∧ I 5 ≤ 16) : ∀ (n9 : Nat) (i : Nat), (i : Int) + n9 = I 5 → (g_G p9 l e9 ({ frames := 1, cells := 0, slots := 0, locals := 21 } : Room) s9 m9 a9 b9 t9 c9 3 D A9 Q9 0 0 (wNet q Y I A) [(2, .int (iI (((I 5).toNat : Nat) : Int))), (1, .int (iI (n_ts I A ((I 5).toNat)))), (0, .ref (q 99))] 29 []) → g_G p9 l e9 ({ frames := 1, cells := 0, slots := 0, locals := 21 } : Room) s9 m9 a9 b9 t9 c9 3 D A9 Q9 0 0 (wNet q Y I A) [(2, .int (iI ((i : Nat) : Int))), (1, .int (iI (n_ts I A i))), (0, .ref (q 99))] 4 [] := by
  have hE := C.2.2.2.2.2.2.2.2.1
  intro n9
  induction n9 with
  | zero =>
    intro i hi K
    have hI := hsI
    have hA := hsA
    unfold smI at hI
    unfold smA at hA
    have hts := n_ts_r I A i
    refine g_iload_n C (n' := 5) 0 rfl dX2_tooSoonCount_4 rfl rfl ?_
    refine g_aload_n C (n' := 6) 2 rfl dX2_tooSoonCount_5 rfl rfl ?_
    refine g_get C (n' := 9) (Cn := RX2) (T := TX2) (N := 10) (ci := 1) (v := .int (iI (I 5))) ga_X2 0 rfl rfl 5 (by decide) kw_74 rfl rfl dX2_tooSoonCount_6 rfl ?_
    have h_6 := hI 5
    refine g_icmp_ge C (n' := 12) 29 dX2_tooSoonCount_9 (by decide) rfl (by unfold inR; omega) (by unfold inR; omega) (fun c1 => ?_) (fun c1 => ?_)
    · skip
      have e5 : (I 5).toNat = i := by omega
      rw [e5] at K
      exact K
    · skip
      exfalso
      omega
  | succ n9 ih =>
    intro i hi K
    have hI := hsI
    have hA := hsA
    unfold smI at hI
    unfold smA at hA
    have hts := n_ts_r I A i
    have h5 := hI 5
    refine g_iload_n C (n' := 5) 0 rfl dX2_tooSoonCount_4 rfl rfl ?_
    refine g_aload_n C (n' := 6) 2 rfl dX2_tooSoonCount_5 rfl rfl ?_
    refine g_get C (n' := 9) (Cn := RX2) (T := TX2) (N := 10) (ci := 1) (v := .int (iI (I 5))) ga_X2 0 rfl rfl 5 (by decide) kw_74 rfl rfl dX2_tooSoonCount_6 rfl ?_
    have h_6 := hI 5
    refine g_icmp_ge C (n' := 12) 29 dX2_tooSoonCount_9 (by decide) rfl (by unfold inR; omega) (by unfold inR; omega) (fun c1 => ?_) (fun c1 => ?_)
    · skip
      exfalso
      omega
    · skip
      refine g_aload_n C (n' := 13) 2 rfl dX2_tooSoonCount_12 rfl rfl ?_
      refine g_iload_n C (n' := 14) 0 rfl dX2_tooSoonCount_13 rfl rfl ?_
      refine g_cVv C (n' := 17) (v := .int (iI (n_soon I A ((i : Nat) : Int)))) (c_X2_soonBound l D Y C.2.2.2.2.2.2.2.2.1 q I A ((i : Nat) : Int) (by omega) (by omega)) 1 kw_675 kc_X2_soonBound (by decide +kernel) (pm0 _) 0 (ci := 1) rfl rfl rfl rfl ⟨Nat.le_of_ble_eq_true rfl, Nat.le_of_ble_eq_true rfl⟩ ⟨rfl, rfl⟩ ⟨Nat.le_of_ble_eq_true rfl, Nat.le_of_ble_eq_true rfl⟩ (Nat.le_of_ble_eq_true rfl) dX2_tooSoonCount_14 rfl rfl (wNet q Y I A) (pm0' _) ?_
      have hs := n_soon_r hsI hsA (i : Int)
      refine g_if_ge C (n' := 20) 23 dX2_tooSoonCount_17 (by decide) rfl (by unfold inR; omega) (fun c2 => ?_) (fun c2 => ?_)
      · skip
        refine g_iinc C (n' := 26) 0 [(2, .int (iI (((i : Nat) : Int) + 1))), (1, .int (iI (n_ts I A i))), (0, .ref (q 99))] rfl dX2_tooSoonCount_23 rfl (by decide) rfl ?_
        refine g_goto C 4 dX2_tooSoonCount_26 (by decide) ?_
        rw [show ((n_ts I A i) : Int) = n_ts I A (i + 1) from by rw [n_ts, if_neg (by unfold n_soon at c2; simp only [Int.toNat_natCast] at c2; omega), Int.add_zero]]
        rw [show (((i : Nat) : Int) + 1 : Int) = ((i + 1 : Nat) : Int) from rfl]
        refine g_lv [0, 1, 2] rfl ?_
        exact ih (i + 1) (by omega) K
      · skip
        refine g_iinc C (n' := 23) 1 [(1, .int (iI ((n_ts I A i) + 1))), (2, .int (iI ((i : Nat) : Int))), (0, .ref (q 99))] rfl dX2_tooSoonCount_20 rfl (by decide) rfl ?_
        refine g_iinc C (n' := 26) 1 [(2, .int (iI (((i : Nat) : Int) + 1))), (1, .int (iI ((n_ts I A i) + 1))), (0, .ref (q 99))] rfl dX2_tooSoonCount_23 rfl (by decide) rfl ?_
        refine g_goto C 4 dX2_tooSoonCount_26 (by decide) ?_
        rw [show (((n_ts I A i) + 1) : Int) = n_ts I A (i + 1) from by rw [n_ts, if_pos (by unfold n_soon at c2; simp only [Int.toNat_natCast] at c2; omega)]]
        rw [show (((i : Nat) : Int) + 1 : Int) = ((i + 1 : Nat) : Int) from rfl]
        refine g_lv [0, 1, 2] rfl ?_
        exact ih (i + 1) (by omega) K
set_option maxRecDepth 100000 in
set_option maxHeartbeats 4000000 in
theorem c_X2_tooSoonCount (l : Launch) (D : va_G) (Y : Nat → ClassId) {E : (Nat → Prop) → State → Heap → Prop} (hE : g_Stab E) (q : Nat → Nat) (I : Nat → Int) (A : Nat → Nat → Int) (hsI : smI I) (hsA : smA A) (hP : 0 ≤ I 5 ∧ I 5 ≤ 16) : g_Ct l yX2_tooSoonCount cX2_tooSoonCount 3 (some FieldType.int) ({ frames := 1, cells := 0, slots := 0, locals := 21 } : Room) D (tysY Y) E [.ref (q 99)] (wNet q Y I A) 0 0 (g_det (some (.int (iI (n_ts I A (I 5).toNat)))) (wNet q Y I A)) := by
  refine g_ofG (own := RX2) hE (by decide) rfl (Nat.le_of_ble_eq_true rfl) [(0, .ref (q 99))] rfl ?_
  intro p9 e9 s9 m9 b9 t9 c9 A9 C hr hlk hnm
  have hI := hsI
  have hA := hsA
  unfold smI at hI
  unfold smA at hA
  refine g_iconst C (n' := 1) dX2_tooSoonCount_0 rfl ?_
  refine g_istore_n C (n' := 2) [(1, .int (iI 0)), (0, .ref (q 99))] dX2_tooSoonCount_1 rfl rfl (by decide) rfl ?_
  refine g_iconst C (n' := 3) dX2_tooSoonCount_2 rfl ?_
  refine g_istore_n C (n' := 4) [(2, .int (iI 0)), (1, .int (iI 0)), (0, .ref (q 99))] dX2_tooSoonCount_3 rfl rfl (by decide) rfl ?_
  refine g_lv [0, 1, 2] rfl ?_
  refine lp_X2_ts C q I A hsI hsA hP (I 5).toNat 0 (by omega) ?_
  refine g_iload_n C (n' := 30) 1 rfl dX2_tooSoonCount_29 rfl rfl ?_
  refine g_iret C hr hlk rfl ⟨congrArg (fun z : Int => some (Value.int (iI z))) ?_, ?_⟩ dX2_tooSoonCount_30
  · first | rfl | omega | ((repeat' split) <;> first | rfl | omega | (exfalso; omega))
  · first | rfl | omega | ((repeat' split) <;> first | rfl | omega | (exfalso; omega))
set_option maxRecDepth 100000 in
set_option maxHeartbeats 4000000 in
theorem c_X2_addPath (l : Launch) (D : va_G) (Y : Nat → ClassId) {E : (Nat → Prop) → State → Heap → Prop} (hE : g_Stab E) (q : Nat → Nat) (I : Nat → Int) (A : Nat → Nat → Int) (a : Int) (b : Int) (u : Int) (v : Int) (hsI : smI I) (hsA : smA A) (hP : 0 ≤ I 5 ∧ I 5 ≤ 16) : g_Ct l yX2_addPath cX2_addPath 5 none ({ frames := 1, cells := 0, slots := 0, locals := 20 } : Room) D (tysY Y) E [.ref (q 99), .int (iI a), .int (iI b), .int (iI u), .int (iI v)] (wNet q Y I A) 0 0 (g_det none (wNet q Y (n_addI I) (n_addA I A a b u v))) := by
  refine g_ofG (own := RX2) hE (by decide) rfl (Nat.le_of_ble_eq_true rfl) [(0, .ref (q 99)), (1, .int (iI a)), (2, .int (iI b)), (3, .int (iI u)), (4, .int (iI v))] rfl ?_
  intro p9 e9 s9 m9 b9 t9 c9 A9 C hr hlk hnm
  have hI := hsI
  have hA := hsA
  unfold smI at hI
  unfold smA at hA
  refine g_aload_n C (n' := 1) 0 rfl dX2_addPath_0 rfl rfl ?_
  refine g_cVv C (n' := 4) (v := .int (iI (if 16 ≤ (I 5) then 1 else 0))) (c_X2_hasAllPaths l D Y C.2.2.2.2.2.2.2.2.1 q I A hsI hsA) 0 kw_346 kc_X2_hasAllPaths (by decide +kernel) (pm0 _) 0 (ci := 1) rfl rfl rfl rfl ⟨Nat.le_of_ble_eq_true rfl, Nat.le_of_ble_eq_true rfl⟩ ⟨rfl, rfl⟩ ⟨Nat.le_of_ble_eq_true rfl, Nat.le_of_ble_eq_true rfl⟩ (Nat.le_of_ble_eq_true rfl) dX2_addPath_1 rfl rfl (wNet q Y I A) (pm0' _) ?_
  refine g_if_eq C (n' := 7) 8 dX2_addPath_4 (by decide) rfl bz_r (fun c1 => ?_) (fun c1 => ?_)
  · skip
    replace c1 := bz_eq.mp c1
    refine g_aload_n C (n' := 9) 0 rfl dX2_addPath_8 rfl rfl ?_
    refine g_get C (n' := 12) (Cn := RX2) (T := TX2) (N := 10) (ci := 1) (v := .ref (q 6)) ga_X2 0 rfl rfl 6 (by decide) kw_77 rfl rfl dX2_addPath_9 rfl ?_
    refine g_aload_n C (n' := 13) 0 rfl dX2_addPath_12 rfl rfl ?_
    refine g_get C (n' := 16) (Cn := RX2) (T := TX2) (N := 10) (ci := 1) (v := .int (iI (I 5))) ga_X2 0 rfl rfl 5 (by decide) kw_74 rfl rfl dX2_addPath_13 rfl ?_
    have h_13 := hI 5
    refine g_iload_n C (n' := 17) 1 rfl dX2_addPath_16 rfl rfl ?_
    refine g_iast C (n' := 18) (f := (A 6)) 1 0 rfl rfl (by omega) (by omega) (by decide) rfl dX2_addPath_17 rfl (wNet q Y I (sU A 6 (sU (A 6) (I 5).toNat a))) rfl ?_
    refine g_aload_n C (n' := 19) 0 rfl dX2_addPath_18 rfl rfl ?_
    refine g_get C (n' := 22) (Cn := RX2) (T := TX2) (N := 10) (ci := 1) (v := .ref (q 7)) ga_X2 0 rfl rfl 7 (by decide) kw_80 rfl rfl dX2_addPath_19 rfl ?_
    refine g_aload_n C (n' := 23) 0 rfl dX2_addPath_22 rfl rfl ?_
    refine g_get C (n' := 26) (Cn := RX2) (T := TX2) (N := 10) (ci := 1) (v := .int (iI (I 5))) ga_X2 0 rfl rfl 5 (by decide) kw_74 rfl rfl dX2_addPath_23 rfl ?_
    have h_23 := hI 5
    refine g_iload_n C (n' := 27) 2 rfl dX2_addPath_26 rfl rfl ?_
    refine g_iast C (n' := 28) (f := (A 7)) 2 0 rfl rfl (by omega) (by omega) (by decide) rfl dX2_addPath_27 rfl (wNet q Y I (sU (sU A 6 (sU (A 6) (I 5).toNat a)) 7 (sU (A 7) (I 5).toNat b))) rfl ?_
    refine g_aload_n C (n' := 29) 0 rfl dX2_addPath_28 rfl rfl ?_
    refine g_get C (n' := 32) (Cn := RX2) (T := TX2) (N := 10) (ci := 1) (v := .ref (q 8)) ga_X2 0 rfl rfl 8 (by decide) kw_83 rfl rfl dX2_addPath_29 rfl ?_
    refine g_aload_n C (n' := 33) 0 rfl dX2_addPath_32 rfl rfl ?_
    refine g_get C (n' := 36) (Cn := RX2) (T := TX2) (N := 10) (ci := 1) (v := .int (iI (I 5))) ga_X2 0 rfl rfl 5 (by decide) kw_74 rfl rfl dX2_addPath_33 rfl ?_
    have h_33 := hI 5
    refine g_iload_n C (n' := 37) 3 rfl dX2_addPath_36 rfl rfl ?_
    refine g_iast C (n' := 38) (f := (A 8)) 3 0 rfl rfl (by omega) (by omega) (by decide) rfl dX2_addPath_37 rfl (wNet q Y I (sU (sU (sU A 6 (sU (A 6) (I 5).toNat a)) 7 (sU (A 7) (I 5).toNat b)) 8 (sU (A 8) (I 5).toNat u))) rfl ?_
    refine g_aload_n C (n' := 39) 0 rfl dX2_addPath_38 rfl rfl ?_
    refine g_get C (n' := 42) (Cn := RX2) (T := TX2) (N := 10) (ci := 1) (v := .ref (q 9)) ga_X2 0 rfl rfl 9 (by decide) kw_86 rfl rfl dX2_addPath_39 rfl ?_
    refine g_aload_n C (n' := 43) 0 rfl dX2_addPath_42 rfl rfl ?_
    refine g_get C (n' := 46) (Cn := RX2) (T := TX2) (N := 10) (ci := 1) (v := .int (iI (I 5))) ga_X2 0 rfl rfl 5 (by decide) kw_74 rfl rfl dX2_addPath_43 rfl ?_
    have h_43 := hI 5
    refine g_iload C (n' := 48) 4 rfl dX2_addPath_46 rfl ?_
    refine g_iast C (n' := 49) (f := (A 9)) 4 0 rfl rfl (by omega) (by omega) (by decide) rfl dX2_addPath_48 rfl (wNet q Y I (sU (sU (sU (sU A 6 (sU (A 6) (I 5).toNat a)) 7 (sU (A 7) (I 5).toNat b)) 8 (sU (A 8) (I 5).toNat u)) 9 (sU (A 9) (I 5).toNat v))) rfl ?_
    refine g_aload_n C (n' := 50) 0 rfl dX2_addPath_49 rfl rfl ?_
    refine g_dup C (n' := 51) rfl dX2_addPath_50 rfl ?_
    refine g_get C (n' := 54) (Cn := RX2) (T := TX2) (N := 10) (ci := 1) (v := .int (iI (I 5))) ga_X2 0 rfl rfl 5 (by decide) kw_74 rfl rfl dX2_addPath_51 rfl ?_
    have h_51 := hI 5
    refine g_iconst C (n' := 55) dX2_addPath_54 rfl ?_
    refine g_iadd C (n' := 56) dX2_addPath_55 rfl ?_
    refine g_put C (n' := 59) (Cn := RX2) (T := TX2) (N := 10) (ci := 1) (v := .int (iI ((I 5) + 1))) ga_X2 0 rfl rfl 5 (by decide) kw_74 rfl tyX2 tyX2_ok nmX2 rfl rfl rfl rfl (Nat.le_of_ble_eq_true rfl) (wNet q Y (sU I 5 ((I 5) + 1)) (sU (sU (sU (sU A 6 (sU (A 6) (I 5).toNat a)) 7 (sU (A 7) (I 5).toNat b)) 8 (sU (A 8) (I 5).toNat u)) 9 (sU (A 9) (I 5).toNat v))) rfl dX2_addPath_56 rfl ?_
    refine g_vret C hr hlk ⟨rfl, ?_⟩ dX2_addPath_59
    (unfold n_addI n_addA; (repeat' split) <;> first | rfl | omega)
  · skip
    replace c1 := bz_neq.mp c1
    refine g_vret C hr hlk ⟨rfl, ?_⟩ dX2_addPath_7
    (unfold n_addI n_addA; (repeat' split) <;> first | rfl | omega)
set_option maxRecDepth 100000 in
set_option maxHeartbeats 4000000 in
theorem c_X2_copyFrom (l : Launch) (D : va_G) (Y : Nat → ClassId) {E : (Nat → Prop) → State → Heap → Prop} (hE : g_Stab E) (q : Nat → Nat) (I : Nat → Int) (A : Nat → Nat → Int) (q2 : Nat → Nat) (J : Nat → Int) (B : Nat → Nat → Int) : g_Ct l yX2_copyFrom cX2_copyFrom 2 none ({ frames := 2, cells := 0, slots := 0, locals := 60 } : Room) D (tysY Y) E [.ref (q 99), .ref (q2 99)] ((wNet q Y I A) ++ (wNet q2 Y J B)) 0 0 (g_det none ((wNet q Y (n_cpI I J) (n_cpA A B)) ++ (wNet q2 Y J B))) := by
  refine g_ofG (own := RX2) hE (by decide) rfl (Nat.le_of_ble_eq_true rfl) [(0, .ref (q 99)), (1, .ref (q2 99))] rfl ?_
  intro p9 e9 s9 m9 b9 t9 c9 A9 C hr hlk hnm
  refine g_aload_n C (n' := 1) 0 rfl dX2_copyFrom_0 rfl rfl ?_
  refine g_aload_n C (n' := 2) 1 rfl dX2_copyFrom_1 rfl rfl ?_
  refine g_get C (n' := 5) (Cn := RX2) (T := TX2) (N := 10) (ci := 1) (v := .int (iI (J 0))) ga_X2 5 rfl rfl 0 (by decide) kw_58 rfl rfl dX2_copyFrom_2 rfl ?_
  refine g_put C (n' := 8) (Cn := RX2) (T := TX2) (N := 10) (ci := 1) (v := .int (iI (J 0))) ga_X2 0 rfl rfl 0 (by decide) kw_58 rfl tyX2 tyX2_ok nmX2 rfl rfl rfl rfl (Nat.le_of_ble_eq_true rfl) ((wNet q Y (sU I 0 (J 0)) A) ++ (wNet q2 Y J B)) rfl dX2_copyFrom_5 rfl ?_
  refine g_aload_n C (n' := 9) 0 rfl dX2_copyFrom_8 rfl rfl ?_
  refine g_aload_n C (n' := 10) 1 rfl dX2_copyFrom_9 rfl rfl ?_
  refine g_get C (n' := 13) (Cn := RX2) (T := TX2) (N := 10) (ci := 1) (v := .int (iI (J 1))) ga_X2 5 rfl rfl 1 (by decide) kw_62 rfl rfl dX2_copyFrom_10 rfl ?_
  refine g_put C (n' := 16) (Cn := RX2) (T := TX2) (N := 10) (ci := 1) (v := .int (iI (J 1))) ga_X2 0 rfl rfl 1 (by decide) kw_62 rfl tyX2 tyX2_ok nmX2 rfl rfl rfl rfl (Nat.le_of_ble_eq_true rfl) ((wNet q Y (sU (sU I 0 (J 0)) 1 (J 1)) A) ++ (wNet q2 Y J B)) rfl dX2_copyFrom_13 rfl ?_
  refine g_aload_n C (n' := 17) 0 rfl dX2_copyFrom_16 rfl rfl ?_
  refine g_aload_n C (n' := 18) 1 rfl dX2_copyFrom_17 rfl rfl ?_
  refine g_get C (n' := 21) (Cn := RX2) (T := TX2) (N := 10) (ci := 1) (v := .int (iI (J 2))) ga_X2 5 rfl rfl 2 (by decide) kw_65 rfl rfl dX2_copyFrom_18 rfl ?_
  refine g_put C (n' := 24) (Cn := RX2) (T := TX2) (N := 10) (ci := 1) (v := .int (iI (J 2))) ga_X2 0 rfl rfl 2 (by decide) kw_65 rfl tyX2 tyX2_ok nmX2 rfl rfl rfl rfl (Nat.le_of_ble_eq_true rfl) ((wNet q Y (sU (sU (sU I 0 (J 0)) 1 (J 1)) 2 (J 2)) A) ++ (wNet q2 Y J B)) rfl dX2_copyFrom_21 rfl ?_
  refine g_aload_n C (n' := 25) 0 rfl dX2_copyFrom_24 rfl rfl ?_
  refine g_aload_n C (n' := 26) 1 rfl dX2_copyFrom_25 rfl rfl ?_
  refine g_get C (n' := 29) (Cn := RX2) (T := TX2) (N := 10) (ci := 1) (v := .int (iI (J 3))) ga_X2 5 rfl rfl 3 (by decide) kw_67 rfl rfl dX2_copyFrom_26 rfl ?_
  refine g_put C (n' := 32) (Cn := RX2) (T := TX2) (N := 10) (ci := 1) (v := .int (iI (J 3))) ga_X2 0 rfl rfl 3 (by decide) kw_67 rfl tyX2 tyX2_ok nmX2 rfl rfl rfl rfl (Nat.le_of_ble_eq_true rfl) ((wNet q Y (sU (sU (sU (sU I 0 (J 0)) 1 (J 1)) 2 (J 2)) 3 (J 3)) A) ++ (wNet q2 Y J B)) rfl dX2_copyFrom_29 rfl ?_
  refine g_aload_n C (n' := 33) 0 rfl dX2_copyFrom_32 rfl rfl ?_
  refine g_aload_n C (n' := 34) 1 rfl dX2_copyFrom_33 rfl rfl ?_
  refine g_get C (n' := 37) (Cn := RX2) (T := TX2) (N := 10) (ci := 1) (v := .int (iI (J 4))) ga_X2 5 rfl rfl 4 (by decide) kw_70 rfl rfl dX2_copyFrom_34 rfl ?_
  refine g_put C (n' := 40) (Cn := RX2) (T := TX2) (N := 10) (ci := 1) (v := .int (iI (J 4))) ga_X2 0 rfl rfl 4 (by decide) kw_70 rfl tyX2 tyX2_ok nmX2 rfl rfl rfl rfl (Nat.le_of_ble_eq_true rfl) ((wNet q Y (sU (sU (sU (sU (sU I 0 (J 0)) 1 (J 1)) 2 (J 2)) 3 (J 3)) 4 (J 4)) A) ++ (wNet q2 Y J B)) rfl dX2_copyFrom_37 rfl ?_
  refine g_aload_n C (n' := 41) 0 rfl dX2_copyFrom_40 rfl rfl ?_
  refine g_aload_n C (n' := 42) 1 rfl dX2_copyFrom_41 rfl rfl ?_
  refine g_get C (n' := 45) (Cn := RX2) (T := TX2) (N := 10) (ci := 1) (v := .int (iI (J 5))) ga_X2 5 rfl rfl 5 (by decide) kw_74 rfl rfl dX2_copyFrom_42 rfl ?_
  refine g_put C (n' := 48) (Cn := RX2) (T := TX2) (N := 10) (ci := 1) (v := .int (iI (J 5))) ga_X2 0 rfl rfl 5 (by decide) kw_74 rfl tyX2 tyX2_ok nmX2 rfl rfl rfl rfl (Nat.le_of_ble_eq_true rfl) ((wNet q Y (sU (sU (sU (sU (sU (sU I 0 (J 0)) 1 (J 1)) 2 (J 2)) 3 (J 3)) 4 (J 4)) 5 (J 5)) A) ++ (wNet q2 Y J B)) rfl dX2_copyFrom_45 rfl ?_
  refine g_aload_n C (n' := 49) 1 rfl dX2_copyFrom_48 rfl rfl ?_
  refine g_get C (n' := 52) (Cn := RX2) (T := TX2) (N := 10) (ci := 1) (v := .ref (q2 6)) ga_X2 5 rfl rfl 6 (by decide) kw_77 rfl rfl dX2_copyFrom_49 rfl ?_
  refine g_iconst C (n' := 53) dX2_copyFrom_52 rfl ?_
  refine g_aload_n C (n' := 54) 0 rfl dX2_copyFrom_53 rfl rfl ?_
  refine g_get C (n' := 57) (Cn := RX2) (T := TX2) (N := 10) (ci := 1) (v := .ref (q 6)) ga_X2 0 rfl rfl 6 (by decide) kw_77 rfl rfl dX2_copyFrom_54 rfl ?_
  refine g_iconst C (n' := 58) dX2_copyFrom_57 rfl ?_
  refine g_bipush C (n' := 60) (by decide) dX2_copyFrom_58 rfl ?_
  refine g_copyi C (n' := 63) 6 1 0 rfl rfl rfl kw_248 kw_250 kw_249 kw_8 (by omega) (by omega) (by omega) (by omega) (Nat.le_of_ble_eq_true rfl) (Nat.le_of_ble_eq_true rfl) dX2_copyFrom_60 rfl ((wNet q Y (sU (sU (sU (sU (sU (sU I 0 (J 0)) 1 (J 1)) 2 (J 2)) 3 (J 3)) 4 (J 4)) 5 (J 5)) (sU A 6 (sC (B 6) (A 6) 16))) ++ (wNet q2 Y J B)) rfl ?_
  refine g_aload_n C (n' := 64) 1 rfl dX2_copyFrom_63 rfl rfl ?_
  refine g_get C (n' := 67) (Cn := RX2) (T := TX2) (N := 10) (ci := 1) (v := .ref (q2 7)) ga_X2 5 rfl rfl 7 (by decide) kw_80 rfl rfl dX2_copyFrom_64 rfl ?_
  refine g_iconst C (n' := 68) dX2_copyFrom_67 rfl ?_
  refine g_aload_n C (n' := 69) 0 rfl dX2_copyFrom_68 rfl rfl ?_
  refine g_get C (n' := 72) (Cn := RX2) (T := TX2) (N := 10) (ci := 1) (v := .ref (q 7)) ga_X2 0 rfl rfl 7 (by decide) kw_80 rfl rfl dX2_copyFrom_69 rfl ?_
  refine g_iconst C (n' := 73) dX2_copyFrom_72 rfl ?_
  refine g_bipush C (n' := 75) (by decide) dX2_copyFrom_73 rfl ?_
  refine g_copyi C (n' := 78) 7 2 0 rfl rfl rfl kw_248 kw_250 kw_249 kw_8 (by omega) (by omega) (by omega) (by omega) (Nat.le_of_ble_eq_true rfl) (Nat.le_of_ble_eq_true rfl) dX2_copyFrom_75 rfl ((wNet q Y (sU (sU (sU (sU (sU (sU I 0 (J 0)) 1 (J 1)) 2 (J 2)) 3 (J 3)) 4 (J 4)) 5 (J 5)) (sU (sU A 6 (sC (B 6) (A 6) 16)) 7 (sC (B 7) (A 7) 16))) ++ (wNet q2 Y J B)) rfl ?_
  refine g_aload_n C (n' := 79) 1 rfl dX2_copyFrom_78 rfl rfl ?_
  refine g_get C (n' := 82) (Cn := RX2) (T := TX2) (N := 10) (ci := 1) (v := .ref (q2 8)) ga_X2 5 rfl rfl 8 (by decide) kw_83 rfl rfl dX2_copyFrom_79 rfl ?_
  refine g_iconst C (n' := 83) dX2_copyFrom_82 rfl ?_
  refine g_aload_n C (n' := 84) 0 rfl dX2_copyFrom_83 rfl rfl ?_
  refine g_get C (n' := 87) (Cn := RX2) (T := TX2) (N := 10) (ci := 1) (v := .ref (q 8)) ga_X2 0 rfl rfl 8 (by decide) kw_83 rfl rfl dX2_copyFrom_84 rfl ?_
  refine g_iconst C (n' := 88) dX2_copyFrom_87 rfl ?_
  refine g_bipush C (n' := 90) (by decide) dX2_copyFrom_88 rfl ?_
  refine g_copyi C (n' := 93) 8 3 0 rfl rfl rfl kw_248 kw_250 kw_249 kw_8 (by omega) (by omega) (by omega) (by omega) (Nat.le_of_ble_eq_true rfl) (Nat.le_of_ble_eq_true rfl) dX2_copyFrom_90 rfl ((wNet q Y (sU (sU (sU (sU (sU (sU I 0 (J 0)) 1 (J 1)) 2 (J 2)) 3 (J 3)) 4 (J 4)) 5 (J 5)) (sU (sU (sU A 6 (sC (B 6) (A 6) 16)) 7 (sC (B 7) (A 7) 16)) 8 (sC (B 8) (A 8) 16))) ++ (wNet q2 Y J B)) rfl ?_
  refine g_aload_n C (n' := 94) 1 rfl dX2_copyFrom_93 rfl rfl ?_
  refine g_get C (n' := 97) (Cn := RX2) (T := TX2) (N := 10) (ci := 1) (v := .ref (q2 9)) ga_X2 5 rfl rfl 9 (by decide) kw_86 rfl rfl dX2_copyFrom_94 rfl ?_
  refine g_iconst C (n' := 98) dX2_copyFrom_97 rfl ?_
  refine g_aload_n C (n' := 99) 0 rfl dX2_copyFrom_98 rfl rfl ?_
  refine g_get C (n' := 102) (Cn := RX2) (T := TX2) (N := 10) (ci := 1) (v := .ref (q 9)) ga_X2 0 rfl rfl 9 (by decide) kw_86 rfl rfl dX2_copyFrom_99 rfl ?_
  refine g_iconst C (n' := 103) dX2_copyFrom_102 rfl ?_
  refine g_bipush C (n' := 105) (by decide) dX2_copyFrom_103 rfl ?_
  refine g_copyi C (n' := 108) 9 4 0 rfl rfl rfl kw_248 kw_250 kw_249 kw_8 (by omega) (by omega) (by omega) (by omega) (Nat.le_of_ble_eq_true rfl) (Nat.le_of_ble_eq_true rfl) dX2_copyFrom_105 rfl ((wNet q Y (sU (sU (sU (sU (sU (sU I 0 (J 0)) 1 (J 1)) 2 (J 2)) 3 (J 3)) 4 (J 4)) 5 (J 5)) (sU (sU (sU (sU A 6 (sC (B 6) (A 6) 16)) 7 (sC (B 7) (A 7) 16)) 8 (sC (B 8) (A 8) 16)) 9 (sC (B 9) (A 9) 16))) ++ (wNet q2 Y J B)) rfl ?_
  refine g_vret C hr hlk ⟨rfl, ?_⟩ dX2_copyFrom_108
  first | rfl | omega | ((repeat' split) <;> first | rfl | omega | (exfalso; omega))
