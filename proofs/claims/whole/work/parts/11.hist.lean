/-! History -/
def h_pushI (I : Nat → Int) : Nat → Int := sU (sU I 2 ((I 2 + 1).tmod 8)) 3 (if I 3 + 1 ≤ 8 then I 3 + 1 else 8)
def h_pushA (I : Nat → Int) (A : Nat → Nat → Int) (x y : Int) : Nat → Nat → Int := sU (sU A 0 (sU (A 0) (I 2).toNat x)) 1 (sU (A 1) (I 2).toNat y)
def h_nx (I : Nat → Int) : Int := (I 2 + 8 - 1).tmod 8
def h_revI (I : Nat → Int) : Nat → Int := if I 3 = 0 then I else sU (sU I 3 (I 3 - 1)) 2 (h_nx I)
def h_revN (I : Nat → Int) (A : Nat → Nat → Int) (J : Nat → Int) : Nat → Int := if I 3 = 0 then J else if A 0 (h_nx I).toNat = -1 then sU J 4 (A 1 (h_nx I).toNat) else J
def h_revB (I : Nat → Int) (A B : Nat → Nat → Int) : Nat → Nat → Int := if I 3 = 0 then B else if A 0 (h_nx I).toNat = -1 then B else n_slow B (A 0 (h_nx I).toNat) (-(A 1 (h_nx I).toNat))
set_option maxRecDepth 100000 in
set_option maxHeartbeats 4000000 in
theorem c_X1_size (l : Launch) (D : va_G) (Y : Nat → ClassId) {E : (Nat → Prop) → State → Heap → Prop} (hE : g_Stab E) (q : Nat → Nat) (I : Nat → Int) (A : Nat → Nat → Int) : g_Ct l yX1_size cX1_size 1 (some FieldType.int) ({ frames := 0, cells := 0, slots := 0, locals := 0 } : Room) D (tysY Y) E [.ref (q 99)] (wHist q Y I A) 0 0 (g_det (some (.int (iI (I 3)))) (wHist q Y I A)) := by
  refine g_ofG (own := RX1) hE (by decide) rfl (Nat.le_of_ble_eq_true rfl) [(0, .ref (q 99))] rfl ?_
  intro p9 e9 s9 m9 b9 t9 c9 A9 C hr hlk hnm
  refine g_aload_n C (n' := 1) 0 rfl dX1_size_0 rfl rfl ?_
  refine g_get C (n' := 4) (Cn := RX1) (T := TX1) (N := 4) (ci := 0) (v := .int (iI (I 3))) ga_X1 0 rfl rfl 3 (by decide) kw_120 rfl rfl dX1_size_1 rfl ?_
  refine g_iret C hr hlk rfl ⟨congrArg (fun z : Int => some (Value.int (iI z))) ?_, ?_⟩ dX1_size_4
  · first | rfl | omega | ((repeat' split) <;> first | rfl | omega | (exfalso; omega))
  · first | rfl | omega | ((repeat' split) <;> first | rfl | omega | (exfalso; omega))
set_option maxRecDepth 100000 in
set_option maxHeartbeats 4000000 in
theorem c_X1_clear (l : Launch) (D : va_G) (Y : Nat → ClassId) {E : (Nat → Prop) → State → Heap → Prop} (hE : g_Stab E) (q : Nat → Nat) (I : Nat → Int) (A : Nat → Nat → Int) : g_Ct l yX1_clear cX1_clear 1 none ({ frames := 0, cells := 0, slots := 0, locals := 0 } : Room) D (tysY Y) E [.ref (q 99)] (wHist q Y I A) 0 0 (g_det none (wHist q Y (sU I 3 0) A)) := by
  refine g_ofG (own := RX1) hE (by decide) rfl (Nat.le_of_ble_eq_true rfl) [(0, .ref (q 99))] rfl ?_
  intro p9 e9 s9 m9 b9 t9 c9 A9 C hr hlk hnm
  refine g_aload_n C (n' := 1) 0 rfl dX1_clear_0 rfl rfl ?_
  refine g_iconst C (n' := 2) dX1_clear_1 rfl ?_
  refine g_put C (n' := 5) (Cn := RX1) (T := TX1) (N := 4) (ci := 0) (v := .int (iI 0)) ga_X1 0 rfl rfl 3 (by decide) kw_120 rfl tyX1 tyX1_ok nmX1 rfl rfl rfl rfl (Nat.le_of_ble_eq_true rfl) (wHist q Y (sU I 3 0) A) rfl dX1_clear_2 rfl ?_
  refine g_vret C hr hlk ⟨rfl, ?_⟩ dX1_clear_5
  first | rfl | omega | ((repeat' split) <;> first | rfl | omega | (exfalso; omega))
set_option maxRecDepth 100000 in
set_option maxHeartbeats 4000000 in
theorem c_X1_push (l : Launch) (D : va_G) (Y : Nat → ClassId) {E : (Nat → Prop) → State → Heap → Prop} (hE : g_Stab E) (q : Nat → Nat) (I : Nat → Int) (A : Nat → Nat → Int) (x : Int) (y : Int) (hsI : smI I) (hsA : smA A) (h2 : 0 ≤ I 2 ∧ I 2 < 8) (h3 : 0 ≤ I 3 ∧ I 3 ≤ 8) : g_Ct l yX1_push cX1_push 3 none ({ frames := 1, cells := 0, slots := 0, locals := 21 } : Room) D (tysY Y) E [.ref (q 99), .int (iI x), .int (iI y)] (wHist q Y I A) 0 0 (g_det none (wHist q Y (h_pushI I) (h_pushA I A x y))) := by
  refine g_ofG (own := RX1) hE (by decide) rfl (Nat.le_of_ble_eq_true rfl) [(0, .ref (q 99)), (1, .int (iI x)), (2, .int (iI y))] rfl ?_
  intro p9 e9 s9 m9 b9 t9 c9 A9 C hr hlk hnm
  have hI := hsI
  have hA := hsA
  unfold smI at hI
  unfold smA at hA
  refine g_aload_n C (n' := 1) 0 rfl dX1_push_0 rfl rfl ?_
  refine g_get C (n' := 4) (Cn := RX1) (T := TX1) (N := 4) (ci := 0) (v := .ref (q 0)) ga_X1 0 rfl rfl 0 (by decide) kw_117 rfl rfl dX1_push_1 rfl ?_
  refine g_aload_n C (n' := 5) 0 rfl dX1_push_4 rfl rfl ?_
  refine g_get C (n' := 8) (Cn := RX1) (T := TX1) (N := 4) (ci := 0) (v := .int (iI (I 2))) ga_X1 0 rfl rfl 2 (by decide) kw_119 rfl rfl dX1_push_5 rfl ?_
  have h_5 := hI 2
  refine g_iload_n C (n' := 9) 1 rfl dX1_push_8 rfl rfl ?_
  refine g_iast C (n' := 10) (f := (A 0)) 1 0 rfl rfl (by omega) (by omega) (by decide) rfl dX1_push_9 rfl (wHist q Y I (sU A 0 (sU (A 0) (I 2).toNat x))) rfl ?_
  refine g_aload_n C (n' := 11) 0 rfl dX1_push_10 rfl rfl ?_
  refine g_get C (n' := 14) (Cn := RX1) (T := TX1) (N := 4) (ci := 0) (v := .ref (q 1)) ga_X1 0 rfl rfl 1 (by decide) kw_118 rfl rfl dX1_push_11 rfl ?_
  refine g_aload_n C (n' := 15) 0 rfl dX1_push_14 rfl rfl ?_
  refine g_get C (n' := 18) (Cn := RX1) (T := TX1) (N := 4) (ci := 0) (v := .int (iI (I 2))) ga_X1 0 rfl rfl 2 (by decide) kw_119 rfl rfl dX1_push_15 rfl ?_
  have h_15 := hI 2
  refine g_iload_n C (n' := 19) 2 rfl dX1_push_18 rfl rfl ?_
  refine g_iast C (n' := 20) (f := (A 1)) 2 0 rfl rfl (by omega) (by omega) (by decide) rfl dX1_push_19 rfl (wHist q Y I (sU (sU A 0 (sU (A 0) (I 2).toNat x)) 1 (sU (A 1) (I 2).toNat y))) rfl ?_
  refine g_aload_n C (n' := 21) 0 rfl dX1_push_20 rfl rfl ?_
  refine g_aload_n C (n' := 22) 0 rfl dX1_push_21 rfl rfl ?_
  refine g_get C (n' := 25) (Cn := RX1) (T := TX1) (N := 4) (ci := 0) (v := .int (iI (I 2))) ga_X1 0 rfl rfl 2 (by decide) kw_119 rfl rfl dX1_push_22 rfl ?_
  have h_22 := hI 2
  refine g_iconst C (n' := 26) dX1_push_25 rfl ?_
  refine g_iadd C (n' := 27) dX1_push_26 rfl ?_
  refine g_bipush C (n' := 29) (by decide) dX1_push_27 rfl ?_
  refine g_irem C (n' := 30) (by unfold inR; omega) (by unfold inR; omega) (by omega) (fd_r (by unfold inR; omega) (by omega)) dX1_push_29 rfl ?_
  refine g_put C (n' := 33) (Cn := RX1) (T := TX1) (N := 4) (ci := 0) (v := .int (iI (((I 2) + 1).tmod 8))) ga_X1 0 rfl rfl 2 (by decide) kw_119 rfl tyX1 tyX1_ok nmX1 rfl rfl rfl rfl (Nat.le_of_ble_eq_true rfl) (wHist q Y (sU I 2 (((I 2) + 1).tmod 8)) (sU (sU A 0 (sU (A 0) (I 2).toNat x)) 1 (sU (A 1) (I 2).toNat y))) rfl dX1_push_30 rfl ?_
  refine g_aload_n C (n' := 34) 0 rfl dX1_push_33 rfl rfl ?_
  refine g_aload_n C (n' := 35) 0 rfl dX1_push_34 rfl rfl ?_
  refine g_get C (n' := 38) (Cn := RX1) (T := TX1) (N := 4) (ci := 0) (v := .int (iI (I 3))) ga_X1 0 rfl rfl 3 (by decide) kw_120 rfl rfl dX1_push_35 rfl ?_
  have h_35 := hI 3
  refine g_iconst C (n' := 39) dX1_push_38 rfl ?_
  refine g_iadd C (n' := 40) dX1_push_39 rfl ?_
  refine g_bipush C (n' := 42) (by decide) dX1_push_40 rfl ?_
  refine g_cSv C (n' := 45) (v := .int (iI (if ((I 3) + 1) ≤ 8 then ((I 3) + 1) else 8))) (c_J9_min_7cf53 l D Y C.2.2.2.2.2.2.2.2.1 ((I 3) + 1) 8 (by unfold inR at *; omega) (by unfold inR at *; omega)) 2 kw_400 kc_J9_min_7cf53 (by decide +kernel) (pm_n _) rfl ⟨Nat.le_of_ble_eq_true rfl, Nat.le_of_ble_eq_true rfl⟩ ⟨rfl, rfl⟩ ⟨Nat.le_of_ble_eq_true rfl, Nat.le_of_ble_eq_true rfl⟩ (Nat.le_of_ble_eq_true rfl) dX1_push_42 rfl rfl (wHist q Y (sU I 2 (((I 2) + 1).tmod 8)) (sU (sU A 0 (sU (A 0) (I 2).toNat x)) 1 (sU (A 1) (I 2).toNat y))) (pm_n _) ?_
  refine g_put C (n' := 48) (Cn := RX1) (T := TX1) (N := 4) (ci := 0) (v := .int (iI (if ((I 3) + 1) ≤ 8 then ((I 3) + 1) else 8))) ga_X1 0 rfl rfl 3 (by decide) kw_120 rfl tyX1 tyX1_ok nmX1 rfl rfl rfl rfl (Nat.le_of_ble_eq_true rfl) (wHist q Y (sU (sU I 2 (((I 2) + 1).tmod 8)) 3 (if ((I 3) + 1) ≤ 8 then ((I 3) + 1) else 8)) (sU (sU A 0 (sU (A 0) (I 2).toNat x)) 1 (sU (A 1) (I 2).toNat y))) rfl dX1_push_45 rfl ?_
  refine g_vret C hr hlk ⟨rfl, ?_⟩ dX1_push_48
  first | rfl | omega | ((repeat' split) <;> first | rfl | omega | (exfalso; omega))
set_option maxRecDepth 100000 in
set_option maxHeartbeats 4000000 in
theorem c_X1_revertLatest (l : Launch) (D : va_G) (Y : Nat → ClassId) {E : (Nat → Prop) → State → Heap → Prop} (hE : g_Stab E) (q : Nat → Nat) (I : Nat → Int) (A : Nat → Nat → Int) (q2 : Nat → Nat) (J : Nat → Int) (B : Nat → Nat → Int) (hsI : smI I) (hsA : smA A) (h2 : 0 ≤ I 2 ∧ I 2 < 8) (h3 : 0 ≤ I 3 ∧ I 3 ≤ 8) (hq : ∀ k : Nat, A 0 k = -1 ∨ (0 ≤ A 0 k ∧ A 0 k < 16)) : g_Ct l yX1_revertLatest cX1_revertLatest 2 none ({ frames := 1, cells := 0, slots := 0, locals := 22 } : Room) D (tysY Y) E [.ref (q 99), .ref (q2 99)] ((wHist q Y I A) ++ (wNet q2 Y J B)) 0 0 (g_det none ((wHist q Y (h_revI I) A) ++ (wNet q2 Y (h_revN I A J) (h_revB I A B)))) := by
  refine g_ofG (own := RX1) hE (by decide) rfl (Nat.le_of_ble_eq_true rfl) [(0, .ref (q 99)), (1, .ref (q2 99))] rfl ?_
  intro p9 e9 s9 m9 b9 t9 c9 A9 C hr hlk hnm
  have hI := hsI
  have hA := hsA
  unfold smI at hI
  unfold smA at hA
  refine g_aload_n C (n' := 1) 0 rfl dX1_revertLatest_0 rfl rfl ?_
  refine g_get C (n' := 4) (Cn := RX1) (T := TX1) (N := 4) (ci := 0) (v := .int (iI (I 3))) ga_X1 0 rfl rfl 3 (by decide) kw_120 rfl rfl dX1_revertLatest_1 rfl ?_
  have h_1 := hI 3
  refine g_if_ne C (n' := 7) 8 dX1_revertLatest_4 (by decide) rfl (by unfold inR; omega) (fun c1 => ?_) (fun c1 => ?_)
  · skip
    refine g_aload_n C (n' := 9) 0 rfl dX1_revertLatest_8 rfl rfl ?_
    refine g_dup C (n' := 10) rfl dX1_revertLatest_9 rfl ?_
    refine g_get C (n' := 13) (Cn := RX1) (T := TX1) (N := 4) (ci := 0) (v := .int (iI (I 3))) ga_X1 0 rfl rfl 3 (by decide) kw_120 rfl rfl dX1_revertLatest_10 rfl ?_
    have h_10 := hI 3
    refine g_iconst C (n' := 14) dX1_revertLatest_13 rfl ?_
    refine g_isub C (n' := 15) dX1_revertLatest_14 rfl ?_
    refine g_put C (n' := 18) (Cn := RX1) (T := TX1) (N := 4) (ci := 0) (v := .int (iI ((I 3) - 1))) ga_X1 0 rfl rfl 3 (by decide) kw_120 rfl tyX1 tyX1_ok nmX1 rfl rfl rfl rfl (Nat.le_of_ble_eq_true rfl) ((wHist q Y (sU I 3 ((I 3) - 1)) A) ++ (wNet q2 Y J B)) rfl dX1_revertLatest_15 rfl ?_
    refine g_aload_n C (n' := 19) 0 rfl dX1_revertLatest_18 rfl rfl ?_
    refine g_aload_n C (n' := 20) 0 rfl dX1_revertLatest_19 rfl rfl ?_
    refine g_get C (n' := 23) (Cn := RX1) (T := TX1) (N := 4) (ci := 0) (v := .int (iI (I 2))) ga_X1 0 rfl rfl 2 (by decide) kw_119 rfl rfl dX1_revertLatest_20 rfl ?_
    have h_20 := hI 2
    refine g_bipush C (n' := 25) (by decide) dX1_revertLatest_23 rfl ?_
    refine g_iadd C (n' := 26) dX1_revertLatest_25 rfl ?_
    refine g_iconst C (n' := 27) dX1_revertLatest_26 rfl ?_
    refine g_isub C (n' := 28) dX1_revertLatest_27 rfl ?_
    refine g_bipush C (n' := 30) (by decide) dX1_revertLatest_28 rfl ?_
    refine g_irem C (n' := 31) (by unfold inR; omega) (by unfold inR; omega) (by omega) (fd_r (by unfold inR; omega) (by omega)) dX1_revertLatest_30 rfl ?_
    have ht1 := Int.tmod_nonneg 8 (show 0 ≤ I 2 + 8 - 1 by omega)
    have ht2 := Int.tmod_lt_of_pos (I 2 + 8 - 1) (show (0 : Int) < 8 by omega)
    have hq1 := hq ((I 2 + 8 - 1).tmod 8).toNat
    refine g_put C (n' := 34) (Cn := RX1) (T := TX1) (N := 4) (ci := 0) (v := .int (iI ((((I 2) + 8) - 1).tmod 8))) ga_X1 0 rfl rfl 2 (by decide) kw_119 rfl tyX1 tyX1_ok nmX1 rfl rfl rfl rfl (Nat.le_of_ble_eq_true rfl) ((wHist q Y (sU (sU I 3 ((I 3) - 1)) 2 ((((I 2) + 8) - 1).tmod 8)) A) ++ (wNet q2 Y J B)) rfl dX1_revertLatest_31 rfl ?_
    refine g_aload_n C (n' := 35) 0 rfl dX1_revertLatest_34 rfl rfl ?_
    refine g_get C (n' := 38) (Cn := RX1) (T := TX1) (N := 4) (ci := 0) (v := .ref (q 0)) ga_X1 0 rfl rfl 0 (by decide) kw_117 rfl rfl dX1_revertLatest_35 rfl ?_
    refine g_aload_n C (n' := 39) 0 rfl dX1_revertLatest_38 rfl rfl ?_
    refine g_get C (n' := 42) (Cn := RX1) (T := TX1) (N := 4) (ci := 0) (v := .int (iI ((((I 2) + 8) - 1).tmod 8))) ga_X1 0 rfl rfl 2 (by decide) kw_119 rfl rfl dX1_revertLatest_39 rfl ?_
    refine g_iald C (n' := 43) (f := (A 0)) 1 0 rfl rfl (by omega) (by omega) (by decide) rfl dX1_revertLatest_42 rfl ?_
    have h_42 := hA 0 (((((I 2) + 8) - 1).tmod 8).toNat)
    refine g_iconst C (n' := 44) dX1_revertLatest_43 rfl ?_
    refine g_icmp_ne C (n' := 47) 63 dX1_revertLatest_44 (by decide) rfl (by unfold inR; omega) (by unfold inR; omega) (fun c2 => ?_) (fun c2 => ?_)
    · skip
      refine g_aload_n C (n' := 64) 1 rfl dX1_revertLatest_63 rfl rfl ?_
      refine g_aload_n C (n' := 65) 0 rfl dX1_revertLatest_64 rfl rfl ?_
      refine g_get C (n' := 68) (Cn := RX1) (T := TX1) (N := 4) (ci := 0) (v := .ref (q 0)) ga_X1 0 rfl rfl 0 (by decide) kw_117 rfl rfl dX1_revertLatest_65 rfl ?_
      refine g_aload_n C (n' := 69) 0 rfl dX1_revertLatest_68 rfl rfl ?_
      refine g_get C (n' := 72) (Cn := RX1) (T := TX1) (N := 4) (ci := 0) (v := .int (iI ((((I 2) + 8) - 1).tmod 8))) ga_X1 0 rfl rfl 2 (by decide) kw_119 rfl rfl dX1_revertLatest_69 rfl ?_
      refine g_iald C (n' := 73) (f := (A 0)) 1 0 rfl rfl (by omega) (by omega) (by decide) rfl dX1_revertLatest_72 rfl ?_
      have h_72 := hA 0 (((((I 2) + 8) - 1).tmod 8).toNat)
      refine g_aload_n C (n' := 74) 0 rfl dX1_revertLatest_73 rfl rfl ?_
      refine g_get C (n' := 77) (Cn := RX1) (T := TX1) (N := 4) (ci := 0) (v := .ref (q 1)) ga_X1 0 rfl rfl 1 (by decide) kw_118 rfl rfl dX1_revertLatest_74 rfl ?_
      refine g_aload_n C (n' := 78) 0 rfl dX1_revertLatest_77 rfl rfl ?_
      refine g_get C (n' := 81) (Cn := RX1) (T := TX1) (N := 4) (ci := 0) (v := .int (iI ((((I 2) + 8) - 1).tmod 8))) ga_X1 0 rfl rfl 2 (by decide) kw_119 rfl rfl dX1_revertLatest_78 rfl ?_
      refine g_iald C (n' := 82) (f := (A 1)) 2 0 rfl rfl (by omega) (by omega) (by decide) rfl dX1_revertLatest_81 rfl ?_
      have h_81 := hA 1 (((((I 2) + 8) - 1).tmod 8).toNat)
      refine g_ineg C (n' := 83) dX1_revertLatest_82 rfl ?_
      refine g_cVn C (n' := 86) (c_X2_delay l D Y C.2.2.2.2.2.2.2.2.1 q2 J B ((A 0) ((((I 2) + 8) - 1).tmod 8).toNat) (-((A 1) ((((I 2) + 8) - 1).tmod 8).toNat)) (by omega) (by omega)) 2 kw_427 kc_X2_delay (by decide +kernel) List.perm_append_comm 0 (ci := 1) rfl rfl rfl rfl ⟨Nat.le_of_ble_eq_true rfl, Nat.le_of_ble_eq_true rfl⟩ ⟨rfl, rfl⟩ ⟨Nat.le_of_ble_eq_true rfl, Nat.le_of_ble_eq_true rfl⟩ (Nat.le_of_ble_eq_true rfl) dX1_revertLatest_83 rfl rfl ((wHist q Y (sU (sU I 3 ((I 3) - 1)) 2 ((((I 2) + 8) - 1).tmod 8)) A) ++ (wNet q2 Y J (n_slow B ((A 0) ((((I 2) + 8) - 1).tmod 8).toNat) (-((A 1) ((((I 2) + 8) - 1).tmod 8).toNat))))) List.perm_append_comm.symm ?_
      refine g_vret C hr hlk ⟨rfl, ?_⟩ dX1_revertLatest_86
      unfold h_revI h_revN h_revB h_nx
      (repeat' split) <;> first | rfl | omega
    · skip
      refine g_aload_n C (n' := 48) 1 rfl dX1_revertLatest_47 rfl rfl ?_
      refine g_aload_n C (n' := 49) 0 rfl dX1_revertLatest_48 rfl rfl ?_
      refine g_get C (n' := 52) (Cn := RX1) (T := TX1) (N := 4) (ci := 0) (v := .ref (q 1)) ga_X1 0 rfl rfl 1 (by decide) kw_118 rfl rfl dX1_revertLatest_49 rfl ?_
      refine g_aload_n C (n' := 53) 0 rfl dX1_revertLatest_52 rfl rfl ?_
      refine g_get C (n' := 56) (Cn := RX1) (T := TX1) (N := 4) (ci := 0) (v := .int (iI ((((I 2) + 8) - 1).tmod 8))) ga_X1 0 rfl rfl 2 (by decide) kw_119 rfl rfl dX1_revertLatest_53 rfl ?_
      refine g_iald C (n' := 57) (f := (A 1)) 2 0 rfl rfl (by omega) (by omega) (by decide) rfl dX1_revertLatest_56 rfl ?_
      have h_56 := hA 1 (((((I 2) + 8) - 1).tmod 8).toNat)
      refine g_putN C (n' := 60) (Cn := RX2) (T := TX2) (N := 10) (ci := 1) (v := .int (iI ((A 1) ((((I 2) + 8) - 1).tmod 8).toNat))) ga_X2 3 rfl rfl 4 (by decide) (List.mem_of_getElem? (i := 9) rfl) rfl tyX2 tyX2_ok nmX2 rfl rfl rfl rfl (Nat.le_of_ble_eq_true rfl) ((wHist q Y (sU (sU I 3 ((I 3) - 1)) 2 ((((I 2) + 8) - 1).tmod 8)) A) ++ (wNet q2 Y (sU J 4 ((A 1) ((((I 2) + 8) - 1).tmod 8).toNat)) B)) rfl dX1_revertLatest_57 rfl ?_
      refine g_goto C 86 dX1_revertLatest_60 (by decide) ?_
      refine g_vret C hr hlk ⟨rfl, ?_⟩ dX1_revertLatest_86
      unfold h_revI h_revN h_revB h_nx
      (repeat' split) <;> first | rfl | omega
  · skip
    refine g_vret C hr hlk ⟨rfl, ?_⟩ dX1_revertLatest_7
    unfold h_revI h_revN h_revB h_nx
    (repeat' split) <;> first | rfl | omega
