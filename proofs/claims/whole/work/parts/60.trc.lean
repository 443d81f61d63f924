/-! Trace: places -/
def bN01 (N : Nat → Int) : Prop := ∀ k : Nat, N k = 0 ∨ N k = 1
def fnV (p s n x i j : Int) : Int := if p = 0 then -11 else if x ≠ s then -13 else if (0 ≤ i ∧ i ≤ n - 1) ∧ (0 ≤ j ∧ j ≤ n - 1) then -1 else -14
def t_cut (v : UInt64) : Int := if 0 ≤ dcV .l v 4696837146684686336 then 3000000 else if dcV .g v 13920209183539462144 ≤ 0 then 1000000 else 2000000 + d2V v
def endV (v : UInt64) : Prop := 0 < dcV .l v 4696837146684686336 ∨ dcV .g v 13920209183539462144 < 0
theorem bN01_put {N : Nat → Int} (h : bN01 N) {k : Nat} {v : Int} (hv : v = 0 ∨ v = 1) : bN01 (sU N k v) := fun j => by
  unfold sU
  split
  · exact hv
  · exact h j
set_option maxRecDepth 100000 in
set_option maxHeartbeats 4000000 in
theorem c_X5_isMissing (l : Launch) (D : va_G) (Y : Nat → ClassId) {E : (Nat → Prop) → State → Heap → Prop} (hE : g_Stab E) (q : Nat → Nat) (I : Nat → Int) (V : Nat → UInt64) (N : Nat → Int) (hsI : smI I) (hB : bN01 N) : g_Ct l yX5_isMissing cX5_isMissing 1 (some FieldType.boolean) ({ frames := 0, cells := 0, slots := 0, locals := 0 } : Room) D (tysY Y) E [.ref (q 99)] (wTrace q Y I V N) 0 0 (g_det (some (.int (iI (if I 2 = 0 then 1 else 0)))) (wTrace q Y I V N)) := by
  refine g_ofG (own := RX5) hE (by decide) rfl (Nat.le_of_ble_eq_true rfl) [(0, .ref (q 99))] rfl ?_
  intro p9 e9 s9 m9 b9 t9 c9 A9 C hr hlk hnm
  have hI := hsI
  unfold smI at hI
  refine g_aload_n C (n' := 1) 0 rfl dX5_isMissing_0 rfl rfl ?_
  refine g_get C (n' := 4) (Cn := RX5) (T := TX5) (N := 5) (ci := 4) (v := .int (iI (I 2))) ga_X5 0 rfl rfl 2 (by decide) kw_170 rfl rfl dX5_isMissing_1 rfl ?_
  have h_1 := hI 2
  refine g_if_ne C (n' := 7) 11 dX5_isMissing_4 (by decide) rfl (by unfold inR; omega) (fun c1 => ?_) (fun c1 => ?_)
  · skip
    refine g_iconst C (n' := 12) dX5_isMissing_11 rfl ?_
    refine g_iret C hr hlk (nar_z (by omega)) ⟨congrArg (fun z : Int => some (Value.int (iI z))) ?_, ?_⟩ dX5_isMissing_12
    · first | rfl | omega | ((repeat' split) <;> first | rfl | omega | (exfalso; omega))
    · first | rfl | omega | ((repeat' split) <;> first | rfl | omega | (exfalso; omega))
  · skip
    refine g_iconst C (n' := 8) dX5_isMissing_7 rfl ?_
    refine g_goto C 12 dX5_isMissing_8 (by decide) ?_
    refine g_iret C hr hlk (nar_z (by omega)) ⟨congrArg (fun z : Int => some (Value.int (iI z))) ?_, ?_⟩ dX5_isMissing_12
    · first | rfl | omega | ((repeat' split) <;> first | rfl | omega | (exfalso; omega))
    · first | rfl | omega | ((repeat' split) <;> first | rfl | omega | (exfalso; omega))
set_option maxRecDepth 100000 in
set_option maxHeartbeats 4000000 in
theorem c_X5_placeCount (l : Launch) (D : va_G) (Y : Nat → ClassId) {E : (Nat → Prop) → State → Heap → Prop} (hE : g_Stab E) (q : Nat → Nat) (I : Nat → Int) (V : Nat → UInt64) (N : Nat → Int) : g_Ct l yX5_placeCount cX5_placeCount 1 (some FieldType.int) ({ frames := 0, cells := 0, slots := 0, locals := 0 } : Room) D (tysY Y) E [.ref (q 99)] (wTrace q Y I V N) 0 0 (g_det (some (.int (iI (I 4)))) (wTrace q Y I V N)) := by
  refine g_ofG (own := RX5) hE (by decide) rfl (Nat.le_of_ble_eq_true rfl) [(0, .ref (q 99))] rfl ?_
  intro p9 e9 s9 m9 b9 t9 c9 A9 C hr hlk hnm
  refine g_aload_n C (n' := 1) 0 rfl dX5_placeCount_0 rfl rfl ?_
  refine g_get C (n' := 4) (Cn := RX5) (T := TX5) (N := 5) (ci := 4) (v := .int (iI (I 4))) ga_X5 0 rfl rfl 4 (by decide) kw_172 rfl rfl dX5_placeCount_1 rfl ?_
  refine g_iret C hr hlk rfl ⟨congrArg (fun z : Int => some (Value.int (iI z))) ?_, ?_⟩ dX5_placeCount_4
  · first | rfl | omega | ((repeat' split) <;> first | rfl | omega | (exfalso; omega))
  · first | rfl | omega | ((repeat' split) <;> first | rfl | omega | (exfalso; omega))
set_option maxRecDepth 100000 in
set_option maxHeartbeats 4000000 in
theorem c_X5_lose (l : Launch) (D : va_G) (Y : Nat → ClassId) {E : (Nat → Prop) → State → Heap → Prop} (hE : g_Stab E) (q : Nat → Nat) (I : Nat → Int) (V : Nat → UInt64) (N : Nat → Int) : g_Ct l yX5_lose cX5_lose 1 none ({ frames := 0, cells := 0, slots := 0, locals := 0 } : Room) D (tysY Y) E [.ref (q 99)] (wTrace q Y I V N) 0 0 (g_det none (wTrace q Y (sU (sU I 2 0) 4 0) V N)) := by
  refine g_ofG (own := RX5) hE (by decide) rfl (Nat.le_of_ble_eq_true rfl) [(0, .ref (q 99))] rfl ?_
  intro p9 e9 s9 m9 b9 t9 c9 A9 C hr hlk hnm
  refine g_aload_n C (n' := 1) 0 rfl dX5_lose_0 rfl rfl ?_
  refine g_iconst C (n' := 2) dX5_lose_1 rfl ?_
  refine g_put C (n' := 5) (Cn := RX5) (T := TX5) (N := 5) (ci := 4) (v := .int (iI 0)) ga_X5 0 rfl rfl 2 (by decide) kw_170 rfl tyX5 tyX5_ok nmX5 rfl rfl (nar_z (by omega)) (fit_z (by omega)) (Nat.le_of_ble_eq_true rfl) (wTrace q Y (sU I 2 0) V N) rfl dX5_lose_2 rfl ?_
  refine g_aload_n C (n' := 6) 0 rfl dX5_lose_5 rfl rfl ?_
  refine g_iconst C (n' := 7) dX5_lose_6 rfl ?_
  refine g_put C (n' := 10) (Cn := RX5) (T := TX5) (N := 5) (ci := 4) (v := .int (iI 0)) ga_X5 0 rfl rfl 4 (by decide) kw_172 rfl tyX5 tyX5_ok nmX5 rfl rfl rfl rfl (Nat.le_of_ble_eq_true rfl) (wTrace q Y (sU (sU I 2 0) 4 0) V N) rfl dX5_lose_7 rfl ?_
  refine g_vret C hr hlk ⟨rfl, ?_⟩ dX5_lose_10
  first | rfl | omega | ((repeat' split) <;> first | rfl | omega | (exfalso; omega))
set_option maxRecDepth 100000 in
set_option maxHeartbeats 4000000 in
theorem c_X5_putNumber (l : Launch) (D : va_G) (Y : Nat → ClassId) {E : (Nat → Prop) → State → Heap → Prop} (hE : g_Stab E) (q : Nat → Nat) (I : Nat → Int) (V : Nat → UInt64) (N : Nat → Int) (k : Int) (v : UInt64) (hk : 0 ≤ k ∧ k < 8) : g_Ct l yX5_putNumber cX5_putNumber 4 none ({ frames := 0, cells := 0, slots := 0, locals := 0 } : Room) D (tysY Y) E [.ref (q 99), .int (iI k), .double v] (wTrace q Y I V N) 0 0 (g_det none (wTrace q Y I (sU V k.toNat v) (sU N k.toNat 0))) := by
  refine g_ofG (own := RX5) hE (by decide) rfl (Nat.le_of_ble_eq_true rfl) [(0, .ref (q 99)), (1, .int (iI k)), (2, .double v)] rfl ?_
  intro p9 e9 s9 m9 b9 t9 c9 A9 C hr hlk hnm
  refine g_aload_n C (n' := 1) 0 rfl dX5_putNumber_0 rfl rfl ?_
  refine g_get C (n' := 4) (Cn := RX5) (T := TX5) (N := 5) (ci := 4) (v := .ref (q 0)) ga_X5 0 rfl rfl 0 (by decide) kw_168 rfl rfl dX5_putNumber_1 rfl ?_
  refine g_iload_n C (n' := 5) 1 rfl dX5_putNumber_4 rfl rfl ?_
  refine g_dload_n C (n' := 6) 2 rfl dX5_putNumber_5 rfl rfl ?_
  refine g_dast C (n' := 7) (f := V) 1 3 rfl rfl (by omega) (by omega) (by decide) dX5_putNumber_6 rfl (wTrace q Y I (sU V k.toNat v) N) rfl ?_
  refine g_aload_n C (n' := 8) 0 rfl dX5_putNumber_7 rfl rfl ?_
  refine g_get C (n' := 11) (Cn := RX5) (T := TX5) (N := 5) (ci := 4) (v := .ref (q 1)) ga_X5 0 rfl rfl 1 (by decide) kw_169 rfl rfl dX5_putNumber_8 rfl ?_
  refine g_iload_n C (n' := 12) 1 rfl dX5_putNumber_11 rfl rfl ?_
  refine g_iconst C (n' := 13) dX5_putNumber_12 rfl ?_
  refine g_zast C (n' := 14) (f := N) 2 2 rfl rfl (by omega) (by omega) (by decide) (by omega) rfl dX5_putNumber_13 rfl (wTrace q Y I (sU V k.toNat v) (sU N k.toNat 0)) rfl ?_
  refine g_vret C hr hlk ⟨rfl, ?_⟩ dX5_putNumber_14
  first | rfl | omega | ((repeat' split) <;> first | rfl | omega | (exfalso; omega))
set_option maxRecDepth 100000 in
set_option maxHeartbeats 4000000 in
theorem c_X5_putNoNumber (l : Launch) (D : va_G) (Y : Nat → ClassId) {E : (Nat → Prop) → State → Heap → Prop} (hE : g_Stab E) (q : Nat → Nat) (I : Nat → Int) (V : Nat → UInt64) (N : Nat → Int) (k : Int) (hk : 0 ≤ k ∧ k < 8) : g_Ct l yX5_putNoNumber cX5_putNoNumber 2 none ({ frames := 0, cells := 0, slots := 0, locals := 0 } : Room) D (tysY Y) E [.ref (q 99), .int (iI k)] (wTrace q Y I V N) 0 0 (g_det none (wTrace q Y I (sU V k.toNat 0) (sU N k.toNat 1))) := by
  refine g_ofG (own := RX5) hE (by decide) rfl (Nat.le_of_ble_eq_true rfl) [(0, .ref (q 99)), (1, .int (iI k))] rfl ?_
  intro p9 e9 s9 m9 b9 t9 c9 A9 C hr hlk hnm
  refine g_aload_n C (n' := 1) 0 rfl dX5_putNoNumber_0 rfl rfl ?_
  refine g_get C (n' := 4) (Cn := RX5) (T := TX5) (N := 5) (ci := 4) (v := .ref (q 0)) ga_X5 0 rfl rfl 0 (by decide) kw_168 rfl rfl dX5_putNoNumber_1 rfl ?_
  refine g_iload_n C (n' := 5) 1 rfl dX5_putNoNumber_4 rfl rfl ?_
  refine g_dconst0 C (n' := 6) dX5_putNoNumber_5 rfl ?_
  refine g_dast C (n' := 7) (f := V) 1 3 rfl rfl (by omega) (by omega) (by decide) dX5_putNoNumber_6 rfl (wTrace q Y I (sU V k.toNat 0) N) rfl ?_
  refine g_aload_n C (n' := 8) 0 rfl dX5_putNoNumber_7 rfl rfl ?_
  refine g_get C (n' := 11) (Cn := RX5) (T := TX5) (N := 5) (ci := 4) (v := .ref (q 1)) ga_X5 0 rfl rfl 1 (by decide) kw_169 rfl rfl dX5_putNoNumber_8 rfl ?_
  refine g_iload_n C (n' := 12) 1 rfl dX5_putNoNumber_11 rfl rfl ?_
  refine g_iconst C (n' := 13) dX5_putNoNumber_12 rfl ?_
  refine g_zast C (n' := 14) (f := N) 2 2 rfl rfl (by omega) (by omega) (by decide) (by omega) rfl dX5_putNoNumber_13 rfl (wTrace q Y I (sU V k.toNat 0) (sU N k.toNat 1)) rfl ?_
  refine g_vret C hr hlk ⟨rfl, ?_⟩ dX5_putNoNumber_14
  first | rfl | omega | ((repeat' split) <;> first | rfl | omega | (exfalso; omega))
set_option maxRecDepth 100000 in
set_option maxHeartbeats 4000000 in
theorem c_X5_finding (l : Launch) (D : va_G) (Y : Nat → ClassId) {E : (Nat → Prop) → State → Heap → Prop} (hE : g_Stab E) (q : Nat → Nat) (I : Nat → Int) (V : Nat → UInt64) (N : Nat → Int) (x : Int) (i : Int) (j : Int) (hsI : smI I) (hB : bN01 N) (hx : inR x) (hi : inR i) (hj : inR j) : g_Ct l yX5_finding cX5_finding 4 (some FieldType.int) ({ frames := 1, cells := 0, slots := 0, locals := 22 } : Room) D (tysY Y) E [.ref (q 99), .int (iI x), .int (iI i), .int (iI j)] (wTrace q Y I V N) 0 0 (g_det (some (.int (iI (fnV (I 2) (I 3) (I 4) x i j)))) (wTrace q Y I V N)) := by
  refine g_ofG (own := RX5) hE (by decide) rfl (Nat.le_of_ble_eq_true rfl) [(0, .ref (q 99)), (1, .int (iI x)), (2, .int (iI i)), (3, .int (iI j))] rfl ?_
  intro p9 e9 s9 m9 b9 t9 c9 A9 C hr hlk hnm
  have hI := hsI
  unfold smI at hI
  have hx9 := hx
  have hi9 := hi
  have hj9 := hj
  unfold inR at hx9 hi9 hj9
  refine g_aload_n C (n' := 1) 0 rfl dX5_finding_0 rfl rfl ?_
  refine g_get C (n' := 4) (Cn := RX5) (T := TX5) (N := 5) (ci := 4) (v := .int (iI (I 2))) ga_X5 0 rfl rfl 2 (by decide) kw_170 rfl rfl dX5_finding_1 rfl ?_
  have h_1 := hI 2
  refine g_if_ne C (n' := 7) 10 dX5_finding_4 (by decide) rfl (by unfold inR; omega) (fun c1 => ?_) (fun c1 => ?_)
  · skip
    refine g_iload_n C (n' := 11) 1 rfl dX5_finding_10 rfl rfl ?_
    refine g_aload_n C (n' := 12) 0 rfl dX5_finding_11 rfl rfl ?_
    refine g_get C (n' := 15) (Cn := RX5) (T := TX5) (N := 5) (ci := 4) (v := .int (iI (I 3))) ga_X5 0 rfl rfl 3 (by decide) kw_171 rfl rfl dX5_finding_12 rfl ?_
    have h_12 := hI 3
    refine g_icmp_eq C (n' := 18) 21 dX5_finding_15 (by decide) rfl (by unfold inR; omega) (by unfold inR; omega) (fun c2 => ?_) (fun c2 => ?_)
    · skip
      refine g_iload_n C (n' := 22) 2 rfl dX5_finding_21 rfl rfl ?_
      refine g_iconst C (n' := 23) dX5_finding_22 rfl ?_
      refine g_aload_n C (n' := 24) 0 rfl dX5_finding_23 rfl rfl ?_
      refine g_get C (n' := 27) (Cn := RX5) (T := TX5) (N := 5) (ci := 4) (v := .int (iI (I 4))) ga_X5 0 rfl rfl 4 (by decide) kw_172 rfl rfl dX5_finding_24 rfl ?_
      have h_24 := hI 4
      refine g_iconst C (n' := 28) dX5_finding_27 rfl ?_
      refine g_isub C (n' := 29) dX5_finding_28 rfl ?_
      refine g_cNv C (n' := 32) (v := .int (iI (if 0 ≤ i ∧ i ≤ ((I 4) - 1) then 1 else 0))) (c_X7_isWithin l D Y C.2.2.2.2.2.2.2.2.1 i 0 ((I 4) - 1) hi (by unfold inR at *; omega) (by unfold inR at *; omega)) 3 (List.mem_of_getElem? (i := 26) rfl) kc_X7_isWithin (by decide +kernel) (pm_n _) rfl ⟨Nat.le_of_ble_eq_true rfl, Nat.le_of_ble_eq_true rfl⟩ ⟨rfl, rfl⟩ ⟨Nat.le_of_ble_eq_true rfl, Nat.le_of_ble_eq_true rfl⟩ (Nat.le_of_ble_eq_true rfl) dX5_finding_29 rfl rfl (wTrace q Y I V N) (pm_n _) ?_
      refine g_if_eq C (n' := 35) 53 dX5_finding_32 (by decide) rfl bz_r (fun c3 => ?_) (fun c3 => ?_)
      · skip
        replace c3 := bz_eq.mp c3
        refine g_bipush C (n' := 55) (by decide) dX5_finding_53 rfl ?_
        refine g_iret C hr hlk rfl ⟨congrArg (fun z : Int => some (Value.int (iI z))) ?_, ?_⟩ dX5_finding_55
        · first | rfl | (unfold fnV; (repeat' split) <;> first | rfl | omega)
        · first | rfl | (unfold fnV; (repeat' split) <;> first | rfl | omega)
      · skip
        replace c3 := bz_neq.mp c3
        refine g_iload_n C (n' := 36) 3 rfl dX5_finding_35 rfl rfl ?_
        refine g_iconst C (n' := 37) dX5_finding_36 rfl ?_
        refine g_aload_n C (n' := 38) 0 rfl dX5_finding_37 rfl rfl ?_
        refine g_get C (n' := 41) (Cn := RX5) (T := TX5) (N := 5) (ci := 4) (v := .int (iI (I 4))) ga_X5 0 rfl rfl 4 (by decide) kw_172 rfl rfl dX5_finding_38 rfl ?_
        have h_38 := hI 4
        refine g_iconst C (n' := 42) dX5_finding_41 rfl ?_
        refine g_isub C (n' := 43) dX5_finding_42 rfl ?_
        refine g_cNv C (n' := 46) (v := .int (iI (if 0 ≤ j ∧ j ≤ ((I 4) - 1) then 1 else 0))) (c_X7_isWithin l D Y C.2.2.2.2.2.2.2.2.1 j 0 ((I 4) - 1) hj (by unfold inR at *; omega) (by unfold inR at *; omega)) 3 (List.mem_of_getElem? (i := 26) rfl) kc_X7_isWithin (by decide +kernel) (pm_n _) rfl ⟨Nat.le_of_ble_eq_true rfl, Nat.le_of_ble_eq_true rfl⟩ ⟨rfl, rfl⟩ ⟨Nat.le_of_ble_eq_true rfl, Nat.le_of_ble_eq_true rfl⟩ (Nat.le_of_ble_eq_true rfl) dX5_finding_43 rfl rfl (wTrace q Y I V N) (pm_n _) ?_
        refine g_if_eq C (n' := 49) 53 dX5_finding_46 (by decide) rfl bz_r (fun c4 => ?_) (fun c4 => ?_)
        · skip
          replace c4 := bz_eq.mp c4
          refine g_bipush C (n' := 55) (by decide) dX5_finding_53 rfl ?_
          refine g_iret C hr hlk rfl ⟨congrArg (fun z : Int => some (Value.int (iI z))) ?_, ?_⟩ dX5_finding_55
          · first | rfl | (unfold fnV; (repeat' split) <;> first | rfl | omega)
          · first | rfl | (unfold fnV; (repeat' split) <;> first | rfl | omega)
        · skip
          replace c4 := bz_neq.mp c4
          refine g_iconst C (n' := 50) dX5_finding_49 rfl ?_
          refine g_goto C 55 dX5_finding_50 (by decide) ?_
          refine g_iret C hr hlk rfl ⟨congrArg (fun z : Int => some (Value.int (iI z))) ?_, ?_⟩ dX5_finding_55
          · first | rfl | (unfold fnV; (repeat' split) <;> first | rfl | omega)
          · first | rfl | (unfold fnV; (repeat' split) <;> first | rfl | omega)
    · skip
      refine g_bipush C (n' := 20) (by decide) dX5_finding_18 rfl ?_
      refine g_iret C hr hlk rfl ⟨congrArg (fun z : Int => some (Value.int (iI z))) ?_, ?_⟩ dX5_finding_20
      · first | rfl | (unfold fnV; (repeat' split) <;> first | rfl | omega)
      · first | rfl | (unfold fnV; (repeat' split) <;> first | rfl | omega)
  · skip
    refine g_bipush C (n' := 9) (by decide) dX5_finding_7 rfl ?_
    refine g_iret C hr hlk rfl ⟨congrArg (fun z : Int => some (Value.int (iI z))) ?_, ?_⟩ dX5_finding_9
    · first | rfl | (unfold fnV; (repeat' split) <;> first | rfl | omega)
    · first | rfl | (unfold fnV; (repeat' split) <;> first | rfl | omega)
set_option maxRecDepth 100000 in
set_option maxHeartbeats 4000000 in
theorem c_X5_cutThousand (l : Launch) (D : va_G) (Y : Nat → ClassId) {E : (Nat → Prop) → State → Heap → Prop} (hE : g_Stab E) (v : UInt64) : g_Ct l yX5_cutThousand cX5_cutThousand 2 (some FieldType.int) ({ frames := 0, cells := 0, slots := 0, locals := 0 } : Room) D (tysY Y) E [.double v] [] 0 0 (g_det (some (.int (iI (t_cut v)))) []) := by
  refine g_ofG (own := RX5) hE (by decide) rfl (Nat.le_of_ble_eq_true rfl) [(0, .double v)] rfl ?_
  intro p9 e9 s9 m9 b9 t9 c9 A9 C hr hlk hnm
  refine g_dload_n C (n' := 1) 0 rfl dX5_cutThousand_0 rfl rfl ?_
  refine g_ldc2d C (n' := 4) kw_603 dX5_cutThousand_1 rfl ?_
  refine g_dcmp C (n' := 5) (dcV .l v 4696837146684686336) (dcV_e _ _ _) dX5_cutThousand_4 rfl ?_
  have h_4 := dcV_r .l v 4696837146684686336
  refine g_if_lt C (n' := 8) 11 dX5_cutThousand_5 (by decide) rfl (by unfold inR; omega) (fun c1 => ?_) (fun c1 => ?_)
  · skip
    refine g_dload_n C (n' := 12) 0 rfl dX5_cutThousand_11 rfl rfl ?_
    refine g_ldc2d C (n' := 15) kw_605 dX5_cutThousand_12 rfl ?_
    refine g_dcmp C (n' := 16) (dcV .g v 13920209183539462144) (dcV_e _ _ _) dX5_cutThousand_15 rfl ?_
    have h_15 := dcV_r .g v 13920209183539462144
    refine g_if_gt C (n' := 19) 22 dX5_cutThousand_16 (by decide) rfl (by unfold inR; omega) (fun c2 => ?_) (fun c2 => ?_)
    · skip
      refine g_ldc C (n' := 24) 2000000 (by decide) kw_598 dX5_cutThousand_22 rfl ?_
      refine g_dload_n C (n' := 25) 0 rfl dX5_cutThousand_24 rfl rfl ?_
      refine g_d2i C (n' := 26) (d2V v) (d2V_e _) dX5_cutThousand_25 rfl ?_
      refine g_iadd C (n' := 27) dX5_cutThousand_26 rfl ?_
      refine g_iret C hr hlk rfl ⟨congrArg (fun z : Int => some (Value.int (iI z))) ?_, ?_⟩ dX5_cutThousand_27
      · first | rfl | (unfold t_cut; (repeat' split) <;> first | rfl | omega)
      · first | rfl | (unfold t_cut; (repeat' split) <;> first | rfl | omega)
    · skip
      refine g_ldc C (n' := 21) 1000000 (by decide) kw_606 dX5_cutThousand_19 rfl ?_
      refine g_iret C hr hlk rfl ⟨congrArg (fun z : Int => some (Value.int (iI z))) ?_, ?_⟩ dX5_cutThousand_21
      · first | rfl | (unfold t_cut; (repeat' split) <;> first | rfl | omega)
      · first | rfl | (unfold t_cut; (repeat' split) <;> first | rfl | omega)
  · skip
    refine g_ldc C (n' := 10) 3000000 (by decide) kw_604 dX5_cutThousand_8 rfl ?_
    refine g_iret C hr hlk rfl ⟨congrArg (fun z : Int => some (Value.int (iI z))) ?_, ?_⟩ dX5_cutThousand_10
    · first | rfl | (unfold t_cut; (repeat' split) <;> first | rfl | omega)
    · first | rfl | (unfold t_cut; (repeat' split) <;> first | rfl | omega)
set_option maxRecDepth 100000 in
set_option maxHeartbeats 4000000 in
theorem c_X5_isEndless (l : Launch) (D : va_G) (Y : Nat → ClassId) {E : (Nat → Prop) → State → Heap → Prop} (hE : g_Stab E) (v : UInt64) : g_Ct l yX5_isEndless cX5_isEndless 2 (some FieldType.boolean) ({ frames := 0, cells := 0, slots := 0, locals := 0 } : Room) D (tysY Y) E [.double v] [] 0 0 (fun r9 w9 => w9 = [] ∧ ((endV v ∧ r9 = some (.int (iI 1))) ∨ (¬ endV v ∧ r9 = some (.int (iI 0))))) := by
  refine g_ofG (own := RX5) hE (by decide) rfl (Nat.le_of_ble_eq_true rfl) [(0, .double v)] rfl ?_
  intro p9 e9 s9 m9 b9 t9 c9 A9 C hr hlk hnm
  refine g_dload_n C (n' := 1) 0 rfl dX5_isEndless_0 rfl rfl ?_
  refine g_ldc2d C (n' := 4) kw_603 dX5_isEndless_1 rfl ?_
  refine g_dcmp C (n' := 5) (dcV .l v 4696837146684686336) (dcV_e _ _ _) dX5_isEndless_4 rfl ?_
  have h_4 := dcV_r .l v 4696837146684686336
  refine g_if_gt C (n' := 8) 16 dX5_isEndless_5 (by decide) rfl (by unfold inR; omega) (fun c1 => ?_) (fun c1 => ?_)
  · skip
    refine g_iconst C (n' := 17) dX5_isEndless_16 rfl ?_
    refine g_goto C 21 dX5_isEndless_17 (by decide) ?_
    exact g_iret C hr hlk (nar_z (by omega)) ⟨rfl, Or.inl ⟨by unfold endV; omega, rfl⟩⟩ dX5_isEndless_21
  · skip
    refine g_dload_n C (n' := 9) 0 rfl dX5_isEndless_8 rfl rfl ?_
    refine g_ldc2d C (n' := 12) kw_605 dX5_isEndless_9 rfl ?_
    refine g_dcmp C (n' := 13) (dcV .g v 13920209183539462144) (dcV_e _ _ _) dX5_isEndless_12 rfl ?_
    have h_12 := dcV_r .g v 13920209183539462144
    refine g_if_ge C (n' := 16) 20 dX5_isEndless_13 (by decide) rfl (by unfold inR; omega) (fun c2 => ?_) (fun c2 => ?_)
    · skip
      refine g_iconst C (n' := 21) dX5_isEndless_20 rfl ?_
      exact g_iret C hr hlk (nar_z (by omega)) ⟨rfl, Or.inr ⟨by unfold endV; omega, rfl⟩⟩ dX5_isEndless_21
    · skip
      refine g_iconst C (n' := 17) dX5_isEndless_16 rfl ?_
      refine g_goto C 21 dX5_isEndless_17 (by decide) ?_
      exact g_iret C hr hlk (nar_z (by omega)) ⟨rfl, Or.inl ⟨by unfold endV; omega, rfl⟩⟩ dX5_isEndless_21
set_option maxRecDepth 100000 in
set_option maxHeartbeats 4000000 in
theorem c_X5_order (l : Launch) (D : va_G) (Y : Nat → ClassId) {E : (Nat → Prop) → State → Heap → Prop} (hE : g_Stab E) (q : Nat → Nat) (I : Nat → Int) (V : Nat → UInt64) (N : Nat → Int) (i : Int) (j : Int) (hsI : smI I) (hB : bN01 N) (hi : 0 ≤ i ∧ i < 8) (hj : 0 ≤ j ∧ j < 8) : g_Ct l yX5_order cX5_order 3 (some FieldType.int) ({ frames := 0, cells := 0, slots := 0, locals := 0 } : Room) D (tysY Y) E [.ref (q 99), .int (iI i), .int (iI j)] (wTrace q Y I V N) 0 0 (g_det (some (.int (iI (if N i.toNat = 0 ∧ N j.toNat = 0 then cmV (V i.toNat) (V j.toNat) else 0)))) (wTrace q Y I V N)) := by
  refine g_ofG (own := RX5) hE (by decide) rfl (Nat.le_of_ble_eq_true rfl) [(0, .ref (q 99)), (1, .int (iI i)), (2, .int (iI j))] rfl ?_
  intro p9 e9 s9 m9 b9 t9 c9 A9 C hr hlk hnm
  have hI := hsI
  unfold smI at hI
  refine g_aload_n C (n' := 1) 0 rfl dX5_order_0 rfl rfl ?_
  refine g_get C (n' := 4) (Cn := RX5) (T := TX5) (N := 5) (ci := 4) (v := .ref (q 1)) ga_X5 0 rfl rfl 1 (by decide) kw_169 rfl rfl dX5_order_1 rfl ?_
  refine g_iload_n C (n' := 5) 1 rfl dX5_order_4 rfl rfl ?_
  refine g_zald C (n' := 6) (f := N) 2 2 rfl rfl (by omega) (by omega) (by decide) rfl dX5_order_5 rfl ?_
  have h_5 := hB i.toNat
  refine g_if_ne C (n' := 9) 18 dX5_order_6 (by decide) rfl (by unfold inR; omega) (fun c1 => ?_) (fun c1 => ?_)
  · skip
    refine g_iconst C (n' := 19) dX5_order_18 rfl ?_
    refine g_iret C hr hlk rfl ⟨congrArg (fun z : Int => some (Value.int (iI z))) ?_, ?_⟩ dX5_order_19
    · first | rfl | (unfold cmV; (repeat' split) <;> first | rfl | omega)
    · first | rfl | (unfold cmV; (repeat' split) <;> first | rfl | omega)
  · skip
    refine g_aload_n C (n' := 10) 0 rfl dX5_order_9 rfl rfl ?_
    refine g_get C (n' := 13) (Cn := RX5) (T := TX5) (N := 5) (ci := 4) (v := .ref (q 1)) ga_X5 0 rfl rfl 1 (by decide) kw_169 rfl rfl dX5_order_10 rfl ?_
    refine g_iload_n C (n' := 14) 2 rfl dX5_order_13 rfl rfl ?_
    refine g_zald C (n' := 15) (f := N) 2 2 rfl rfl (by omega) (by omega) (by decide) rfl dX5_order_14 rfl ?_
    have h_14 := hB j.toNat
    refine g_if_eq C (n' := 18) 20 dX5_order_15 (by decide) rfl (by unfold inR; omega) (fun c2 => ?_) (fun c2 => ?_)
    · skip
      refine g_aload_n C (n' := 21) 0 rfl dX5_order_20 rfl rfl ?_
      refine g_get C (n' := 24) (Cn := RX5) (T := TX5) (N := 5) (ci := 4) (v := .ref (q 0)) ga_X5 0 rfl rfl 0 (by decide) kw_168 rfl rfl dX5_order_21 rfl ?_
      refine g_iload_n C (n' := 25) 1 rfl dX5_order_24 rfl rfl ?_
      refine g_dald C (n' := 26) (f := V) 1 3 rfl rfl (by omega) (by omega) (by decide) dX5_order_25 rfl ?_
      refine g_aload_n C (n' := 27) 0 rfl dX5_order_26 rfl rfl ?_
      refine g_get C (n' := 30) (Cn := RX5) (T := TX5) (N := 5) (ci := 4) (v := .ref (q 0)) ga_X5 0 rfl rfl 0 (by decide) kw_168 rfl rfl dX5_order_27 rfl ?_
      refine g_iload_n C (n' := 31) 2 rfl dX5_order_30 rfl rfl ?_
      refine g_dald C (n' := 32) (f := V) 1 3 rfl rfl (by omega) (by omega) (by decide) dX5_order_31 rfl ?_
      refine g_dcmp C (n' := 33) (dcV .g (V i.toNat) (V j.toNat)) (dcV_e _ _ _) dX5_order_32 rfl ?_
      have h_32 := dcV_r .g (V i.toNat) (V j.toNat)
      refine g_if_ge C (n' := 36) 38 dX5_order_33 (by decide) rfl (by unfold inR; omega) (fun c3 => ?_) (fun c3 => ?_)
      · skip
        refine g_aload_n C (n' := 39) 0 rfl dX5_order_38 rfl rfl ?_
        refine g_get C (n' := 42) (Cn := RX5) (T := TX5) (N := 5) (ci := 4) (v := .ref (q 0)) ga_X5 0 rfl rfl 0 (by decide) kw_168 rfl rfl dX5_order_39 rfl ?_
        refine g_iload_n C (n' := 43) 1 rfl dX5_order_42 rfl rfl ?_
        refine g_dald C (n' := 44) (f := V) 1 3 rfl rfl (by omega) (by omega) (by decide) dX5_order_43 rfl ?_
        refine g_aload_n C (n' := 45) 0 rfl dX5_order_44 rfl rfl ?_
        refine g_get C (n' := 48) (Cn := RX5) (T := TX5) (N := 5) (ci := 4) (v := .ref (q 0)) ga_X5 0 rfl rfl 0 (by decide) kw_168 rfl rfl dX5_order_45 rfl ?_
        refine g_iload_n C (n' := 49) 2 rfl dX5_order_48 rfl rfl ?_
        refine g_dald C (n' := 50) (f := V) 1 3 rfl rfl (by omega) (by omega) (by decide) dX5_order_49 rfl ?_
        refine g_dcmp C (n' := 51) (dcV .l (V i.toNat) (V j.toNat)) (dcV_e _ _ _) dX5_order_50 rfl ?_
        have h_50 := dcV_r .l (V i.toNat) (V j.toNat)
        refine g_if_ne C (n' := 54) 58 dX5_order_51 (by decide) rfl (by unfold inR; omega) (fun c4 => ?_) (fun c4 => ?_)
        · skip
          refine g_iconst C (n' := 59) dX5_order_58 rfl ?_
          refine g_iret C hr hlk rfl ⟨congrArg (fun z : Int => some (Value.int (iI z))) ?_, ?_⟩ dX5_order_59
          · first | rfl | (unfold cmV; (repeat' split) <;> first | rfl | omega)
          · first | rfl | (unfold cmV; (repeat' split) <;> first | rfl | omega)
        · skip
          refine g_iconst C (n' := 55) dX5_order_54 rfl ?_
          refine g_goto C 59 dX5_order_55 (by decide) ?_
          refine g_iret C hr hlk rfl ⟨congrArg (fun z : Int => some (Value.int (iI z))) ?_, ?_⟩ dX5_order_59
          · first | rfl | (unfold cmV; (repeat' split) <;> first | rfl | omega)
          · first | rfl | (unfold cmV; (repeat' split) <;> first | rfl | omega)
      · skip
        refine g_iconst C (n' := 37) dX5_order_36 rfl ?_
        refine g_iret C hr hlk rfl ⟨congrArg (fun z : Int => some (Value.int (iI z))) ?_, ?_⟩ dX5_order_37
        · first | rfl | (unfold cmV; (repeat' split) <;> first | rfl | omega)
        · first | rfl | (unfold cmV; (repeat' split) <;> first | rfl | omega)
    · skip
      refine g_iconst C (n' := 19) dX5_order_18 rfl ?_
      refine g_iret C hr hlk rfl ⟨congrArg (fun z : Int => some (Value.int (iI z))) ?_, ?_⟩ dX5_order_19
      · first | rfl | (unfold cmV; (repeat' split) <;> first | rfl | omega)
      · first | rfl | (unfold cmV; (repeat' split) <;> first | rfl | omega)
