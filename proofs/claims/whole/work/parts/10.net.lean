/-! Net -/
def n_begin (I : Nat → Int) (n : Int) : Nat → Int := sU (sU (sU (sU (sU (sU I 0 n) 1 0) 2 0) 3 1) 4 99) 5 0
def n_slow (A : Nat → Nat → Int) (p n : Int) : Nat → Nat → Int := sU (sU A 8 (sU (A 8) p.toNat (A 8 p.toNat + n))) 9 (sU (A 9) p.toNat (A 9 p.toNat + n))
def n_late (I : Nat → Int) (A : Nat → Nat → Int) (p : Int) : Int := I 4 - A 8 p.toNat - I 1
def n_soon (I : Nat → Int) (A : Nat → Nat → Int) (p : Int) : Int := A 9 p.toNat - I 2
def n_ts (I : Nat → Int) (A : Nat → Nat → Int) : Nat → Int
  | 0 => 0
  | k + 1 => n_ts I A k + (if A 9 k - I 2 < 0 then 1 else 0)
theorem n_ts_r (I : Nat → Int) (A : Nat → Nat → Int) : ∀ k : Nat, 0 ≤ n_ts I A k ∧ n_ts I A k ≤ k
  | 0 => by simp [n_ts]
  | k + 1 => by
    have := n_ts_r I A k
    rw [n_ts]
    split <;> omega
theorem n_soon_r {I : Nat → Int} {A : Nat → Nat → Int} (hsI : smI I) (hsA : smA A) (p : Int) : -2000000 ≤ n_soon I A p ∧ n_soon I A p ≤ 2000000 := by
  have := hsI 2
  have := hsA 9 p.toNat
  unfold n_soon
  omega
theorem n_late_r {I : Nat → Int} {A : Nat → Nat → Int} (hsI : smI I) (hsA : smA A) (p : Int) : -3000000 ≤ n_late I A p ∧ n_late I A p ≤ 3000000 := by
  have := hsI 1
  have := hsI 4
  have := hsA 8 p.toNat
  unfold n_late
  omega
set_option maxRecDepth 100000 in
set_option maxHeartbeats 4000000 in
theorem c_X2_begin (l : Launch) (D : va_G) (Y : Nat → ClassId) {E : (Nat → Prop) → State → Heap → Prop} (hE : g_Stab E) (q : Nat → Nat) (I : Nat → Int) (A : Nat → Nat → Int) (n : Int) : g_Ct l yX2_begin cX2_begin 2 none ({ frames := 0, cells := 0, slots := 0, locals := 0 } : Room) D (tysY Y) E [.ref (q 99), .int (iI n)] (wNet q Y I A) 0 0 (g_det none (wNet q Y (n_begin I n) A)) := by
  refine g_ofG (own := RX2) hE (by decide) rfl (Nat.le_of_ble_eq_true rfl) [(0, .ref (q 99)), (1, .int (iI n))] rfl ?_
  intro p9 e9 s9 m9 b9 t9 c9 A9 C hr hlk hnm
  refine g_aload_n C (n' := 1) 0 rfl dX2_begin_0 rfl rfl ?_
  refine g_iload_n C (n' := 2) 1 rfl dX2_begin_1 rfl rfl ?_
  refine g_put C (n' := 5) (Cn := RX2) (T := TX2) (N := 10) (ci := 1) (v := .int (iI n)) ga_X2 0 rfl rfl 0 (by decide) kw_58 rfl tyX2 tyX2_ok nmX2 rfl rfl rfl rfl (Nat.le_of_ble_eq_true rfl) (wNet q Y (sU I 0 n) A) rfl dX2_begin_2 rfl ?_
  refine g_aload_n C (n' := 6) 0 rfl dX2_begin_5 rfl rfl ?_
  refine g_iconst C (n' := 7) dX2_begin_6 rfl ?_
  refine g_put C (n' := 10) (Cn := RX2) (T := TX2) (N := 10) (ci := 1) (v := .int (iI 0)) ga_X2 0 rfl rfl 1 (by decide) kw_62 rfl tyX2 tyX2_ok nmX2 rfl rfl rfl rfl (Nat.le_of_ble_eq_true rfl) (wNet q Y (sU (sU I 0 n) 1 0) A) rfl dX2_begin_7 rfl ?_
  refine g_aload_n C (n' := 11) 0 rfl dX2_begin_10 rfl rfl ?_
  refine g_iconst C (n' := 12) dX2_begin_11 rfl ?_
  refine g_put C (n' := 15) (Cn := RX2) (T := TX2) (N := 10) (ci := 1) (v := .int (iI 0)) ga_X2 0 rfl rfl 2 (by decide) kw_65 rfl tyX2 tyX2_ok nmX2 rfl rfl rfl rfl (Nat.le_of_ble_eq_true rfl) (wNet q Y (sU (sU (sU I 0 n) 1 0) 2 0) A) rfl dX2_begin_12 rfl ?_
  refine g_aload_n C (n' := 16) 0 rfl dX2_begin_15 rfl rfl ?_
  refine g_iconst C (n' := 17) dX2_begin_16 rfl ?_
  refine g_put C (n' := 20) (Cn := RX2) (T := TX2) (N := 10) (ci := 1) (v := .int (iI 1)) ga_X2 0 rfl rfl 3 (by decide) kw_67 rfl tyX2 tyX2_ok nmX2 rfl rfl rfl rfl (Nat.le_of_ble_eq_true rfl) (wNet q Y (sU (sU (sU (sU I 0 n) 1 0) 2 0) 3 1) A) rfl dX2_begin_17 rfl ?_
  refine g_aload_n C (n' := 21) 0 rfl dX2_begin_20 rfl rfl ?_
  refine g_bipush C (n' := 23) (by decide) dX2_begin_21 rfl ?_
  refine g_put C (n' := 26) (Cn := RX2) (T := TX2) (N := 10) (ci := 1) (v := .int (iI 99)) ga_X2 0 rfl rfl 4 (by decide) kw_70 rfl tyX2 tyX2_ok nmX2 rfl rfl rfl rfl (Nat.le_of_ble_eq_true rfl) (wNet q Y (sU (sU (sU (sU (sU I 0 n) 1 0) 2 0) 3 1) 4 99) A) rfl dX2_begin_23 rfl ?_
  refine g_aload_n C (n' := 27) 0 rfl dX2_begin_26 rfl rfl ?_
  refine g_iconst C (n' := 28) dX2_begin_27 rfl ?_
  refine g_put C (n' := 31) (Cn := RX2) (T := TX2) (N := 10) (ci := 1) (v := .int (iI 0)) ga_X2 0 rfl rfl 5 (by decide) kw_74 rfl tyX2 tyX2_ok nmX2 rfl rfl rfl rfl (Nat.le_of_ble_eq_true rfl) (wNet q Y (sU (sU (sU (sU (sU (sU I 0 n) 1 0) 2 0) 3 1) 4 99) 5 0) A) rfl dX2_begin_28 rfl ?_
  refine g_vret C hr hlk ⟨rfl, ?_⟩ dX2_begin_31
  first | rfl | omega | ((repeat' split) <;> first | rfl | omega | (exfalso; omega))
set_option maxRecDepth 100000 in
set_option maxHeartbeats 4000000 in
theorem c_X2_hasAllPaths (l : Launch) (D : va_G) (Y : Nat → ClassId) {E : (Nat → Prop) → State → Heap → Prop} (hE : g_Stab E) (q : Nat → Nat) (I : Nat → Int) (A : Nat → Nat → Int) (hsI : smI I) (hsA : smA A) : g_Ct l yX2_hasAllPaths cX2_hasAllPaths 1 (some FieldType.boolean) ({ frames := 0, cells := 0, slots := 0, locals := 0 } : Room) D (tysY Y) E [.ref (q 99)] (wNet q Y I A) 0 0 (g_det (some (.int (iI (if 16 ≤ I 5 then 1 else 0)))) (wNet q Y I A)) := by
  refine g_ofG (own := RX2) hE (by decide) rfl (Nat.le_of_ble_eq_true rfl) [(0, .ref (q 99))] rfl ?_
  intro p9 e9 s9 m9 b9 t9 c9 A9 C hr hlk hnm
  have hI := hsI
  have hA := hsA
  unfold smI at hI
  unfold smA at hA
  refine g_aload_n C (n' := 1) 0 rfl dX2_hasAllPaths_0 rfl rfl ?_
  refine g_get C (n' := 4) (Cn := RX2) (T := TX2) (N := 10) (ci := 1) (v := .int (iI (I 5))) ga_X2 0 rfl rfl 5 (by decide) kw_74 rfl rfl dX2_hasAllPaths_1 rfl ?_
  have h_1 := hI 5
  refine g_bipush C (n' := 6) (by decide) dX2_hasAllPaths_4 rfl ?_
  refine g_icmp_lt C (n' := 9) 13 dX2_hasAllPaths_6 (by decide) rfl (by unfold inR; omega) (by unfold inR; omega) (fun c1 => ?_) (fun c1 => ?_)
  · skip
    refine g_iconst C (n' := 14) dX2_hasAllPaths_13 rfl ?_
    refine g_iret C hr hlk (nar_z (by omega)) ⟨congrArg (fun z : Int => some (Value.int (iI z))) ?_, ?_⟩ dX2_hasAllPaths_14
    · first | rfl | omega | ((repeat' split) <;> first | rfl | omega | (exfalso; omega))
    · first | rfl | omega | ((repeat' split) <;> first | rfl | omega | (exfalso; omega))
  · skip
    refine g_iconst C (n' := 10) dX2_hasAllPaths_9 rfl ?_
    refine g_goto C 14 dX2_hasAllPaths_10 (by decide) ?_
    refine g_iret C hr hlk (nar_z (by omega)) ⟨congrArg (fun z : Int => some (Value.int (iI z))) ?_, ?_⟩ dX2_hasAllPaths_14
    · first | rfl | omega | ((repeat' split) <;> first | rfl | omega | (exfalso; omega))
    · first | rfl | omega | ((repeat' split) <;> first | rfl | omega | (exfalso; omega))
set_option maxRecDepth 100000 in
set_option maxHeartbeats 4000000 in
theorem c_X2_canBeSlower (l : Launch) (D : va_G) (Y : Nat → ClassId) {E : (Nat → Prop) → State → Heap → Prop} (hE : g_Stab E) (q : Nat → Nat) (I : Nat → Int) (A : Nat → Nat → Int) (p : Int) (n : Int) (hsI : smI I) (hsA : smA A) (hp0 : 0 ≤ p) (hp1 : p < 16) (hn : -100 ≤ n ∧ n ≤ 100) : g_Ct l yX2_canBeSlower cX2_canBeSlower 3 (some FieldType.boolean) ({ frames := 0, cells := 0, slots := 0, locals := 0 } : Room) D (tysY Y) E [.ref (q 99), .int (iI p), .int (iI n)] (wNet q Y I A) 0 0 (g_det (some (.int (iI (if A 8 p.toNat + n ≤ 199 then 1 else 0)))) (wNet q Y I A)) := by
  refine g_ofG (own := RX2) hE (by decide) rfl (Nat.le_of_ble_eq_true rfl) [(0, .ref (q 99)), (1, .int (iI p)), (2, .int (iI n))] rfl ?_
  intro p9 e9 s9 m9 b9 t9 c9 A9 C hr hlk hnm
  have hI := hsI
  have hA := hsA
  unfold smI at hI
  unfold smA at hA
  refine g_aload_n C (n' := 1) 0 rfl dX2_canBeSlower_0 rfl rfl ?_
  refine g_get C (n' := 4) (Cn := RX2) (T := TX2) (N := 10) (ci := 1) (v := .ref (q 8)) ga_X2 0 rfl rfl 8 (by decide) kw_83 rfl rfl dX2_canBeSlower_1 rfl ?_
  refine g_iload_n C (n' := 5) 1 rfl dX2_canBeSlower_4 rfl rfl ?_
  refine g_iald C (n' := 6) 3 0 rfl rfl (by omega) (by omega) (by decide) rfl dX2_canBeSlower_5 rfl ?_
  have h_5 := hA 8 p.toNat
  refine g_iload_n C (n' := 7) 2 rfl dX2_canBeSlower_6 rfl rfl ?_
  refine g_iadd C (n' := 8) dX2_canBeSlower_7 rfl ?_
  refine g_sipush C (n' := 11) (by decide) dX2_canBeSlower_8 rfl ?_
  refine g_icmp_gt C (n' := 14) 18 dX2_canBeSlower_11 (by decide) rfl (by unfold inR; omega) (by unfold inR; omega) (fun c1 => ?_) (fun c1 => ?_)
  · skip
    refine g_iconst C (n' := 19) dX2_canBeSlower_18 rfl ?_
    refine g_iret C hr hlk (nar_z (by omega)) ⟨congrArg (fun z : Int => some (Value.int (iI z))) ?_, ?_⟩ dX2_canBeSlower_19
    · first | rfl | omega | ((repeat' split) <;> first | rfl | omega | (exfalso; omega))
    · first | rfl | omega | ((repeat' split) <;> first | rfl | omega | (exfalso; omega))
  · skip
    refine g_iconst C (n' := 15) dX2_canBeSlower_14 rfl ?_
    refine g_goto C 19 dX2_canBeSlower_15 (by decide) ?_
    refine g_iret C hr hlk (nar_z (by omega)) ⟨congrArg (fun z : Int => some (Value.int (iI z))) ?_, ?_⟩ dX2_canBeSlower_19
    · first | rfl | omega | ((repeat' split) <;> first | rfl | omega | (exfalso; omega))
    · first | rfl | omega | ((repeat' split) <;> first | rfl | omega | (exfalso; omega))
set_option maxRecDepth 100000 in
set_option maxHeartbeats 4000000 in
theorem c_X2_delay (l : Launch) (D : va_G) (Y : Nat → ClassId) {E : (Nat → Prop) → State → Heap → Prop} (hE : g_Stab E) (q : Nat → Nat) (I : Nat → Int) (A : Nat → Nat → Int) (p : Int) (n : Int) (hp0 : 0 ≤ p) (hp1 : p < 16) : g_Ct l yX2_delay cX2_delay 3 none ({ frames := 0, cells := 0, slots := 0, locals := 0 } : Room) D (tysY Y) E [.ref (q 99), .int (iI p), .int (iI n)] (wNet q Y I A) 0 0 (g_det none (wNet q Y I (n_slow A p n))) := by
  refine g_ofG (own := RX2) hE (by decide) rfl (Nat.le_of_ble_eq_true rfl) [(0, .ref (q 99)), (1, .int (iI p)), (2, .int (iI n))] rfl ?_
  intro p9 e9 s9 m9 b9 t9 c9 A9 C hr hlk hnm
  refine g_aload_n C (n' := 1) 0 rfl dX2_delay_0 rfl rfl ?_
  refine g_get C (n' := 4) (Cn := RX2) (T := TX2) (N := 10) (ci := 1) (v := .ref (q 8)) ga_X2 0 rfl rfl 8 (by decide) kw_83 rfl rfl dX2_delay_1 rfl ?_
  refine g_iload_n C (n' := 5) 1 rfl dX2_delay_4 rfl rfl ?_
  refine g_dup2 C (n' := 6) rfl rfl dX2_delay_5 rfl ?_
  refine g_iald C (n' := 7) 3 0 rfl rfl (by omega) (by omega) (by decide) rfl dX2_delay_6 rfl ?_
  refine g_iload_n C (n' := 8) 2 rfl dX2_delay_7 rfl rfl ?_
  refine g_iadd C (n' := 9) dX2_delay_8 rfl ?_
  refine g_iast C (n' := 10) 3 0 rfl rfl (by omega) (by omega) (by decide) rfl dX2_delay_9 rfl (wNet q Y I (sU A 8 (sU (A 8) p.toNat (((A 8) p.toNat) + n)))) rfl ?_
  refine g_aload_n C (n' := 11) 0 rfl dX2_delay_10 rfl rfl ?_
  refine g_get C (n' := 14) (Cn := RX2) (T := TX2) (N := 10) (ci := 1) (v := .ref (q 9)) ga_X2 0 rfl rfl 9 (by decide) kw_86 rfl rfl dX2_delay_11 rfl ?_
  refine g_iload_n C (n' := 15) 1 rfl dX2_delay_14 rfl rfl ?_
  refine g_dup2 C (n' := 16) rfl rfl dX2_delay_15 rfl ?_
  refine g_iald C (n' := 17) 4 0 rfl rfl (by omega) (by omega) (by decide) rfl dX2_delay_16 rfl ?_
  refine g_iload_n C (n' := 18) 2 rfl dX2_delay_17 rfl rfl ?_
  refine g_iadd C (n' := 19) dX2_delay_18 rfl ?_
  refine g_iast C (n' := 20) 4 0 rfl rfl (by omega) (by omega) (by decide) rfl dX2_delay_19 rfl (wNet q Y I (sU (sU A 8 (sU (A 8) p.toNat (((A 8) p.toNat) + n))) 9 (sU (A 9) p.toNat (((A 9) p.toNat) + n)))) rfl ?_
  refine g_vret C hr hlk ⟨rfl, ?_⟩ dX2_delay_20
  first | rfl | omega | ((repeat' split) <;> first | rfl | omega | (exfalso; omega))
set_option maxRecDepth 100000 in
set_option maxHeartbeats 4000000 in
theorem c_X2_lateBound (l : Launch) (D : va_G) (Y : Nat → ClassId) {E : (Nat → Prop) → State → Heap → Prop} (hE : g_Stab E) (q : Nat → Nat) (I : Nat → Int) (A : Nat → Nat → Int) (p : Int) (hp0 : 0 ≤ p) (hp1 : p < 16) : g_Ct l yX2_lateBound cX2_lateBound 2 (some FieldType.int) ({ frames := 0, cells := 0, slots := 0, locals := 0 } : Room) D (tysY Y) E [.ref (q 99), .int (iI p)] (wNet q Y I A) 0 0 (g_det (some (.int (iI (n_late I A p)))) (wNet q Y I A)) := by
  refine g_ofG (own := RX2) hE (by decide) rfl (Nat.le_of_ble_eq_true rfl) [(0, .ref (q 99)), (1, .int (iI p))] rfl ?_
  intro p9 e9 s9 m9 b9 t9 c9 A9 C hr hlk hnm
  refine g_aload_n C (n' := 1) 0 rfl dX2_lateBound_0 rfl rfl ?_
  refine g_get C (n' := 4) (Cn := RX2) (T := TX2) (N := 10) (ci := 1) (v := .int (iI (I 4))) ga_X2 0 rfl rfl 4 (by decide) kw_70 rfl rfl dX2_lateBound_1 rfl ?_
  refine g_aload_n C (n' := 5) 0 rfl dX2_lateBound_4 rfl rfl ?_
  refine g_get C (n' := 8) (Cn := RX2) (T := TX2) (N := 10) (ci := 1) (v := .ref (q 8)) ga_X2 0 rfl rfl 8 (by decide) kw_83 rfl rfl dX2_lateBound_5 rfl ?_
  refine g_iload_n C (n' := 9) 1 rfl dX2_lateBound_8 rfl rfl ?_
  refine g_iald C (n' := 10) 3 0 rfl rfl (by omega) (by omega) (by decide) rfl dX2_lateBound_9 rfl ?_
  refine g_isub C (n' := 11) dX2_lateBound_10 rfl ?_
  refine g_aload_n C (n' := 12) 0 rfl dX2_lateBound_11 rfl rfl ?_
  refine g_get C (n' := 15) (Cn := RX2) (T := TX2) (N := 10) (ci := 1) (v := .int (iI (I 1))) ga_X2 0 rfl rfl 1 (by decide) kw_62 rfl rfl dX2_lateBound_12 rfl ?_
  refine g_isub C (n' := 16) dX2_lateBound_15 rfl ?_
  refine g_iret C hr hlk rfl ⟨congrArg (fun z : Int => some (Value.int (iI z))) ?_, ?_⟩ dX2_lateBound_16
  · first | rfl | omega | ((repeat' split) <;> first | rfl | omega | (exfalso; omega))
  · first | rfl | omega | ((repeat' split) <;> first | rfl | omega | (exfalso; omega))
set_option maxRecDepth 100000 in
set_option maxHeartbeats 4000000 in
theorem c_X2_soonBound (l : Launch) (D : va_G) (Y : Nat → ClassId) {E : (Nat → Prop) → State → Heap → Prop} (hE : g_Stab E) (q : Nat → Nat) (I : Nat → Int) (A : Nat → Nat → Int) (p : Int) (hp0 : 0 ≤ p) (hp1 : p < 16) : g_Ct l yX2_soonBound cX2_soonBound 2 (some FieldType.int) ({ frames := 0, cells := 0, slots := 0, locals := 0 } : Room) D (tysY Y) E [.ref (q 99), .int (iI p)] (wNet q Y I A) 0 0 (g_det (some (.int (iI (n_soon I A p)))) (wNet q Y I A)) := by
  refine g_ofG (own := RX2) hE (by decide) rfl (Nat.le_of_ble_eq_true rfl) [(0, .ref (q 99)), (1, .int (iI p))] rfl ?_
  intro p9 e9 s9 m9 b9 t9 c9 A9 C hr hlk hnm
  refine g_aload_n C (n' := 1) 0 rfl dX2_soonBound_0 rfl rfl ?_
  refine g_get C (n' := 4) (Cn := RX2) (T := TX2) (N := 10) (ci := 1) (v := .ref (q 9)) ga_X2 0 rfl rfl 9 (by decide) kw_86 rfl rfl dX2_soonBound_1 rfl ?_
  refine g_iload_n C (n' := 5) 1 rfl dX2_soonBound_4 rfl rfl ?_
  refine g_iald C (n' := 6) 4 0 rfl rfl (by omega) (by omega) (by decide) rfl dX2_soonBound_5 rfl ?_
  refine g_aload_n C (n' := 7) 0 rfl dX2_soonBound_6 rfl rfl ?_
  refine g_get C (n' := 10) (Cn := RX2) (T := TX2) (N := 10) (ci := 1) (v := .int (iI (I 2))) ga_X2 0 rfl rfl 2 (by decide) kw_65 rfl rfl dX2_soonBound_7 rfl ?_
  refine g_isub C (n' := 11) dX2_soonBound_10 rfl ?_
  refine g_iret C hr hlk rfl ⟨congrArg (fun z : Int => some (Value.int (iI z))) ?_, ?_⟩ dX2_soonBound_11
  · first | rfl | omega | ((repeat' split) <;> first | rfl | omega | (exfalso; omega))
  · first | rfl | omega | ((repeat' split) <;> first | rfl | omega | (exfalso; omega))
set_option maxRecDepth 100000 in
set_option maxHeartbeats 4000000 in
theorem lp_X2_ts {p9 : Program} {l : Launch} {e9 : Env} {s9 : State} {m9 : MethodId} {a9 : Array Value} {b9 : List Frame} {t9 : Method} {c9 : Code} {D : va_G} {A9 : Nat → Prop} {Q9 : State → Prop} {E : (Nat → Prop) → State → Heap → Prop} {Y : Nat → ClassId} (C : g_Cx p9 s9 m9 a9 c9 cX2_tooSoonCount 3 RX2 D (tysY Y) A9 E) (q : Nat → Nat) (I : Nat → Int) (A : Nat → Nat → Int) (hsI : smI I) (hsA : smA A) (hP : 0 ≤ I 5 ∧ I 5 ≤ 16) : ∀ (n9 : Nat) (i : Nat), (i : Int) + n9 = I 5 → (g_G p9 l e9 ({ frames := 1, cells := 0, slots := 0, locals := 21 } : Room) s9 m9 a9 b9 t9 c9 3 D A9 Q9 0 0 (wNet q Y I A) [(2, .int (iI (((I 5).toNat : Nat) : Int))), (1, .int (iI (n_ts I A ((I 5).toNat)))), (0, .ref (q 99))] 29 []) → g_G p9 l e9 ({ frames := 1, cells := 0, slots := 0, locals := 21 } : Room) s9 m9 a9 b9 t9 c9 3 D A9 Q9 0 0 (wNet q Y I A) [(2, .int (iI ((i : Nat) : Int))), (1, .int (iI (n_ts I A i))), (0, .ref (q 99))] 4 [] := by
  have hE := C.2.2.2.2.2.2.2.2.1
  intro n9
  induction n9 with
  | zero =>
    intro i hi K
    have hI := hsI
    have hA := hsA
    unfold smI at hI
    unfold smA at hA
    have hts := n_ts_r I A i
    refine g_iload_n C (n' := 5) 0 rfl dX2_tooSoonCount_4 rfl rfl ?_
    refine g_aload_n C (n' := 6) 2 rfl dX2_tooSoonCount_5 rfl rfl ?_
    refine g_get C (n' := 9) (Cn := RX2) (T := TX2) (N := 10) (ci := 1) (v := .int (iI (I 5))) ga_X2 0 rfl rfl 5 (by decide) kw_74 rfl rfl dX2_tooSoonCount_6 rfl ?_
    have h_6 := hI 5
    refine g_icmp_ge C (n' := 12) 29 dX2_tooSoonCount_9 (by decide) rfl (by unfold inR; omega) (by unfold inR; omega) (fun c1 => ?_) (fun c1 => ?_)
    · skip
      have e5 : (I 5).toNat = i := by omega
      rw [e5] at K
      exact K
    · skip
      exfalso
      omega
  | succ n9 ih =>
    intro i hi K
    have hI := hsI
    have hA := hsA
    unfold smI at hI
    unfold smA at hA
    have hts := n_ts_r I A i
    have h5 := hI 5
    refine g_iload_n C (n' := 5) 0 rfl dX2_tooSoonCount_4 rfl rfl ?_
    refine g_aload_n C (n' := 6) 2 rfl dX2_tooSoonCount_5 rfl rfl ?_
    refine g_get C (n' := 9) (Cn := RX2) (T := TX2) (N := 10) (ci := 1) (v := .int (iI (I 5))) ga_X2 0 rfl rfl 5 (by decide) kw_74 rfl rfl dX2_tooSoonCount_6 rfl ?_
    have h_6 := hI 5
    refine g_icmp_ge C (n' := 12) 29 dX2_tooSoonCount_9 (by decide) rfl (by unfold inR; omega) (by unfold inR; omega) (fun c1 => ?_) (fun c1 => ?_)
    · skip
      exfalso
      omega
    · skip
      refine g_aload_n C (n' := 13) 2 rfl dX2_tooSoonCount_12 rfl rfl ?_
      refine g_iload_n C (n' := 14) 0 rfl dX2_tooSoonCount_13 rfl rfl ?_
      refine g_cVv C (n' := 17) (c_X2_soonBound l D Y C.2.2.2.2.2.2.2.2.1 q I A ((i : Nat) : Int) (by omega) (by omega)) 1 kw_675 kc_X2_soonBound (by decide +kernel) (pm0 _) 0 (ci := 1) rfl rfl rfl rfl ⟨Nat.le_of_ble_eq_true rfl, Nat.le_of_ble_eq_true rfl⟩ ⟨rfl, rfl⟩ ⟨Nat.le_of_ble_eq_true rfl, Nat.le_of_ble_eq_true rfl⟩ (Nat.le_of_ble_eq_true rfl) dX2_tooSoonCount_14 rfl rfl (wNet q Y I A) (pm0' _) ?_
      have hs := n_soon_r hsI hsA (i : Int)
      refine g_if_ge C (n' := 20) 23 dX2_tooSoonCount_17 (by decide) rfl (by unfold inR; omega) (fun c2 => ?_) (fun c2 => ?_)
      · skip
        refine g_iinc C (n' := 26) 0 [(2, .int (iI (((i : Nat) : Int) + 1))), (1, .int (iI (n_ts I A i))), (0, .ref (q 99))] rfl dX2_tooSoonCount_23 rfl (by decide) rfl ?_
        refine g_goto C 4 dX2_tooSoonCount_26 (by decide) ?_
        rw [show ((n_ts I A i) : Int) = n_ts I A (i + 1) from by rw [n_ts, if_neg (by unfold n_soon at c2; simp only [Int.toNat_natCast] at c2; omega), Int.add_zero]]
        rw [show (((i : Nat) : Int) + 1 : Int) = ((i + 1 : Nat) : Int) from rfl]
        refine g_lv [0, 1, 2] rfl ?_
        exact ih (i + 1) (by omega) K
      · skip
        refine g_iinc C (n' := 23) 1 [(1, .int (iI ((n_ts I A i) + 1))), (2, .int (iI ((i : Nat) : Int))), (0, .ref (q 99))] rfl dX2_tooSoonCount_20 rfl (by decide) rfl ?_
        refine g_iinc C (n' := 26) 1 [(2, .int (iI (((i : Nat) : Int) + 1))), (1, .int (iI ((n_ts I A i) + 1))), (0, .ref (q 99))] rfl dX2_tooSoonCount_23 rfl (by decide) rfl ?_
        refine g_goto C 4 dX2_tooSoonCount_26 (by decide) ?_
        rw [show (((n_ts I A i) + 1) : Int) = n_ts I A (i + 1) from by rw [n_ts, if_pos (by unfold n_soon at c2; simp only [Int.toNat_natCast] at c2; omega)]]
        rw [show (((i : Nat) : Int) + 1 : Int) = ((i + 1 : Nat) : Int) from rfl]
        refine g_lv [0, 1, 2] rfl ?_
        exact ih (i + 1) (by omega) K
set_option maxRecDepth 100000 in
set_option maxHeartbeats 4000000 in
theorem c_X2_tooSoonCount (l : Launch) (D : va_G) (Y : Nat → ClassId) {E : (Nat → Prop) → State → Heap → Prop} (hE : g_Stab E) (q : Nat → Nat) (I : Nat → Int) (A : Nat → Nat → Int) (hsI : smI I) (hsA : smA A) (hP : 0 ≤ I 5 ∧ I 5 ≤ 16) : g_Ct l yX2_tooSoonCount cX2_tooSoonCount 3 (some FieldType.int) ({ frames := 1, cells := 0, slots := 0, locals := 21 } : Room) D (tysY Y) E [.ref (q 99)] (wNet q Y I A) 0 0 (g_det (some (.int (iI (n_ts I A (I 5).toNat)))) (wNet q Y I A)) := by
  refine g_ofG (own := RX2) hE (by decide) rfl (Nat.le_of_ble_eq_true rfl) [(0, .ref (q 99))] rfl ?_
  intro p9 e9 s9 m9 b9 t9 c9 A9 C hr hlk hnm
  have hI := hsI
  have hA := hsA
  unfold smI at hI
  unfold smA at hA
  refine g_iconst C (n' := 1) dX2_tooSoonCount_0 rfl ?_
  refine g_istore_n C (n' := 2) [(1, .int (iI 0)), (0, .ref (q 99))] dX2_tooSoonCount_1 rfl rfl (by decide) rfl ?_
  refine g_iconst C (n' := 3) dX2_tooSoonCount_2 rfl ?_
  refine g_istore_n C (n' := 4) [(2, .int (iI 0)), (1, .int (iI 0)), (0, .ref (q 99))] dX2_tooSoonCount_3 rfl rfl (by decide) rfl ?_
  refine g_lv [0, 1, 2] rfl ?_
  refine lp_X2_ts C q I A hsI hsA hP (I 5).toNat 0 (by omega) ?_
  refine g_iload_n C (n' := 30) 1 rfl dX2_tooSoonCount_29 rfl rfl ?_
  refine g_iret C hr hlk rfl ⟨congrArg (fun z : Int => some (Value.int (iI z))) ?_, ?_⟩ dX2_tooSoonCount_30
  · first | rfl | omega | ((repeat' split) <;> first | rfl | omega | (exfalso; omega))
  · first | rfl | omega | ((repeat' split) <;> first | rfl | omega | (exfalso; omega))
