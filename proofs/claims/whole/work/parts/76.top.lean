/-! SkewPlan: traces, counts -/
theorem fnV_r (p s n x i j : Int) : -14 ≤ fnV p s n x i j ∧ fnV p s n x i j ≤ -1 := by
  unfold fnV
  (repeat' split) <;> omega
theorem fnV_1 {p s n x i j : Int} (h : fnV p s n x i j = -1) : p ≠ 0 ∧ x = s ∧ (0 ≤ i ∧ i ≤ n - 1) ∧ (0 ≤ j ∧ j ≤ n - 1) := by
  unfold fnV at h
  split at h
  · omega
  · split at h
    · omega
    · split at h
      · next a b c => exact ⟨a, Decidable.not_not.mp b, c⟩
      · omega
def trV (p s n x i j : Int) : Int := if x = 0 ∨ x = 1 then fnV p s n x i j else -3
theorem trV_r (p s n x i j : Int) : -14 ≤ trV p s n x i j ∧ trV p s n x i j ≤ -1 := by
  unfold trV
  have := fnV_r p s n x i j
  split <;> omega
theorem trV_1 {p s n x i j : Int} (h : trV p s n x i j = -1) : (x = 0 ∨ x = 1) ∧ p ≠ 0 ∧ x = s ∧ (0 ≤ i ∧ i ≤ n - 1) ∧ (0 ≤ j ∧ j ≤ n - 1) := by
  unfold trV at h
  split at h
  · next a => exact ⟨a, fnV_1 h⟩
  · omega
theorem t_cut_r (v : UInt64) : -2147483648 ≤ t_cut v ∧ t_cut v < 4300000000 := by
  unfold t_cut d2V
  have h := inR_of (FP.d2i v)
  unfold inR at h
  (repeat' split) <;> omega
set_option maxRecDepth 100000 in
set_option maxHeartbeats 4000000 in
theorem c_X7_traceRefusal (l : Launch) (D : va_G) (Y : Nat → ClassId) {E : (Nat → Prop) → State → Heap → Prop} (hE : g_Stab E) (q : Nat → Nat) (qt qd qn qs : Nat → Nat) (qk : Nat → Nat → Nat) (qh qp : Nat → Nat) (qr : Nat → Nat → Nat) (K : Nat → Int) (Ir : Nat → Int) (V : Nat → UInt64) (M : Nat → Int) (t : Int) (x : Int) (i : Int) (j : Int) (hsIr : smI Ir) (hB : bN01 M) (h4 : 0 ≤ Ir 4 ∧ Ir 4 ≤ 8) (ht : 0 ≤ t ∧ t ≤ 2) (hx : inR x) (hi : inR i) (hj : inR j) : g_Ct l yX7_traceRefusal cX7_traceRefusal 5 (some FieldType.int) ({ frames := 2, cells := 0, slots := 0, locals := 45 } : Room) D (tysY Y) E [.ref (q 99), .int (iI t), .int (iI x), .int (iI i), .int (iI j)] ((wTop q Y qt qd qn qs qk qh qp qr K) ++ (wTrace (qr t.toNat) Y Ir V M)) 0 0 (g_det (some (.int (iI (trV (Ir 2) (Ir 3) (Ir 4) x i j)))) ((wTop q Y qt qd qn qs qk qh qp qr K) ++ (wTrace (qr t.toNat) Y Ir V M))) := by
  refine g_ofG (own := RX7) hE (by decide) rfl (Nat.le_of_ble_eq_true rfl) [(0, .ref (q 99)), (1, .int (iI t)), (2, .int (iI x)), (3, .int (iI i)), (4, .int (iI j))] rfl ?_
  intro p9 e9 s9 m9 b9 t9 c9 A9 C hr hlk hnm
  have hIr := hsIr
  unfold smI at hIr
  have hx9 := hx
  unfold inR at hx9
  have hi9 := hi
  unfold inR at hi9
  have hj9 := hj
  unfold inR at hj9
  refine g_iload_n C (n' := 1) 1 rfl dX7_traceRefusal_0 rfl rfl ?_
  refine g_cSv C (n' := 4) (v := .int (iI (if 0 ≤ t ∧ t ≤ 2 then 1 else 0))) (c_X7_isTrace l D Y C.2.2.2.2.2.2.2.2.1 t (by unfold inR at *; omega)) 1 kw_560 kc_X7_isTrace (by decide +kernel) (pm_n _) rfl ⟨Nat.le_of_ble_eq_true rfl, Nat.le_of_ble_eq_true rfl⟩ ⟨rfl, rfl⟩ ⟨Nat.le_of_ble_eq_true rfl, Nat.le_of_ble_eq_true rfl⟩ (Nat.le_of_ble_eq_true rfl) dX7_traceRefusal_1 rfl rfl ((wTop q Y qt qd qn qs qk qh qp qr K) ++ (wTrace (qr t.toNat) Y Ir V M)) (pm_n _) ?_
  refine g_if_ne C (n' := 7) 10 dX7_traceRefusal_4 (by decide) rfl bz_r (fun c1 => ?_) (fun c1 => ?_)
  · skip
    replace c1 := bz_ne.mp c1
    refine g_iload_n C (n' := 11) 2 rfl dX7_traceRefusal_10 rfl rfl ?_
    refine g_cSv C (n' := 14) (v := .int (iI (if x = 0 ∨ x = 1 then 1 else 0))) (c_X7_isSort l D Y C.2.2.2.2.2.2.2.2.1 x hx) 1 kw_563 kc_X7_isSort (by decide +kernel) (pm_n _) rfl ⟨Nat.le_of_ble_eq_true rfl, Nat.le_of_ble_eq_true rfl⟩ ⟨rfl, rfl⟩ ⟨Nat.le_of_ble_eq_true rfl, Nat.le_of_ble_eq_true rfl⟩ (Nat.le_of_ble_eq_true rfl) dX7_traceRefusal_11 rfl rfl ((wTop q Y qt qd qn qs qk qh qp qr K) ++ (wTrace (qr t.toNat) Y Ir V M)) (pm_n _) ?_
    refine g_if_eq C (n' := 17) 33 dX7_traceRefusal_14 (by decide) rfl bz_r (fun c2 => ?_) (fun c2 => ?_)
    · skip
      replace c2 := bz_eq.mp c2
      refine g_bipush C (n' := 35) (by decide) dX7_traceRefusal_33 rfl ?_
      exact g_iret C hr hlk rfl ⟨congrArg (fun z : Int => some (Value.int (iI z))) (by unfold trV; rw [if_neg (by omega)]), rfl⟩ dX7_traceRefusal_35
    · skip
      replace c2 := bz_neq.mp c2
      refine g_aload_n C (n' := 18) 0 rfl dX7_traceRefusal_17 rfl rfl ?_
      refine g_get C (n' := 21) (Cn := RX7) (T := TX7) (N := 9) (ci := 5) (v := .ref (q 8)) ga_X7 0 rfl rfl 8 (by decide) kw_193 rfl rfl dX7_traceRefusal_18 rfl ?_
      refine g_iload_n C (n' := 22) 1 rfl dX7_traceRefusal_21 rfl rfl ?_
      refine g_aald C (n' := 23) (v := qr t.toNat 99) 3 6 rfl rfl (by omega) (by omega) (by decide) (if_pos (by omega)) dX7_traceRefusal_22 rfl ?_
      refine g_iload_n C (n' := 24) 2 rfl dX7_traceRefusal_23 rfl rfl ?_
      refine g_iload_n C (n' := 25) 3 rfl dX7_traceRefusal_24 rfl rfl ?_
      refine g_iload C (n' := 27) 4 rfl dX7_traceRefusal_25 rfl ?_
      refine g_cVv C (n' := 30) (v := .int (iI (fnV ((Ir 2)) ((Ir 3)) ((Ir 4)) x i j))) (c_X5_finding l D Y C.2.2.2.2.2.2.2.2.1 (qr t.toNat) Ir V M x i j hsIr hB hx hi hj) 3 kw_581 kc_X5_finding (by decide +kernel) List.perm_append_comm 0 (ci := 4) rfl rfl rfl rfl ⟨Nat.le_of_ble_eq_true rfl, Nat.le_of_ble_eq_true rfl⟩ ⟨rfl, rfl⟩ ⟨Nat.le_of_ble_eq_true rfl, Nat.le_of_ble_eq_true rfl⟩ (Nat.le_of_ble_eq_true rfl) dX7_traceRefusal_27 rfl rfl ((wTop q Y qt qd qn qs qk qh qp qr K) ++ (wTrace (qr t.toNat) Y Ir V M)) List.perm_append_comm.symm ?_
      refine g_goto C 35 dX7_traceRefusal_30 (by decide) ?_
      exact g_iret C hr hlk rfl ⟨congrArg (fun z : Int => some (Value.int (iI z))) (by unfold trV; rw [if_pos (by omega)]), rfl⟩ dX7_traceRefusal_35
  · skip
    replace c1 := bz_nne.mp c1
    exfalso
    omega
set_option maxRecDepth 100000 in
set_option maxHeartbeats 4000000 in
theorem c_X7_traceRefusal_o (l : Launch) (D : va_G) (Y : Nat → ClassId) {E : (Nat → Prop) → State → Heap → Prop} (hE : g_Stab E) (q : Nat → Nat) (qt qd qn qs : Nat → Nat) (qk : Nat → Nat → Nat) (qh qp : Nat → Nat) (qr : Nat → Nat → Nat) (K : Nat → Int) (t : Int) (x : Int) (i : Int) (j : Int) (ht : ¬ (0 ≤ t ∧ t ≤ 2)) (ht2 : inR t) : g_Ct l yX7_traceRefusal cX7_traceRefusal 5 (some FieldType.int) ({ frames := 2, cells := 0, slots := 0, locals := 45 } : Room) D (tysY Y) E [.ref (q 99), .int (iI t), .int (iI x), .int (iI i), .int (iI j)] (wTop q Y qt qd qn qs qk qh qp qr K) 0 0 (g_det (some (.int (iI (-2)))) (wTop q Y qt qd qn qs qk qh qp qr K)) := by
  refine g_ofG (own := RX7) hE (by decide) rfl (Nat.le_of_ble_eq_true rfl) [(0, .ref (q 99)), (1, .int (iI t)), (2, .int (iI x)), (3, .int (iI i)), (4, .int (iI j))] rfl ?_
  intro p9 e9 s9 m9 b9 t9 c9 A9 C hr hlk hnm
  have ht29 := ht2
  unfold inR at ht29
  refine g_iload_n C (n' := 1) 1 rfl dX7_traceRefusal_0 rfl rfl ?_
  refine g_cSv C (n' := 4) (v := .int (iI (if 0 ≤ t ∧ t ≤ 2 then 1 else 0))) (c_X7_isTrace l D Y C.2.2.2.2.2.2.2.2.1 t ht2) 1 kw_560 kc_X7_isTrace (by decide +kernel) (pm_n _) rfl ⟨Nat.le_of_ble_eq_true rfl, Nat.le_of_ble_eq_true rfl⟩ ⟨rfl, rfl⟩ ⟨Nat.le_of_ble_eq_true rfl, Nat.le_of_ble_eq_true rfl⟩ (Nat.le_of_ble_eq_true rfl) dX7_traceRefusal_1 rfl rfl (wTop q Y qt qd qn qs qk qh qp qr K) (pm_n _) ?_
  refine g_if_ne C (n' := 7) 10 dX7_traceRefusal_4 (by decide) rfl bz_r (fun c1 => ?_) (fun c1 => ?_)
  · skip
    replace c1 := bz_ne.mp c1
    exfalso
    omega
  · skip
    replace c1 := bz_nne.mp c1
    refine g_bipush C (n' := 9) (by decide) dX7_traceRefusal_7 rfl ?_
    refine g_iret C hr hlk rfl ⟨congrArg (fun z : Int => some (Value.int (iI z))) ?_, ?_⟩ dX7_traceRefusal_9
    · first | rfl | omega | ((repeat' split) <;> first | rfl | omega | (exfalso; omega))
    · first | rfl | omega | ((repeat' split) <;> first | rfl | omega | (exfalso; omega))
set_option maxRecDepth 100000 in
set_option maxHeartbeats 4000000 in
theorem c_X7_trace (l : Launch) (D : va_G) (Y : Nat → ClassId) {E : (Nat → Prop) → State → Heap → Prop} (hE : g_Stab E) (q : Nat → Nat) (qt qd qn qs : Nat → Nat) (qk : Nat → Nat → Nat) (qh qp : Nat → Nat) (qr : Nat → Nat → Nat) (K : Nat → Int) (Ir : Nat → Int) (V : Nat → UInt64) (M : Nat → Int) (t : Int) (x : Int) (n : Int) (hsIr : smI Ir) (hB : bN01 M) (h4 : 0 ≤ Ir 4 ∧ Ir 4 ≤ 8) (ht : 0 ≤ t ∧ t ≤ 2) (hx : inR x) (hn : inR n) : g_Ct l yX7_trace cX7_trace 4 (some FieldType.int) ({ frames := 2, cells := 0, slots := 0, locals := 46 } : Room) D (tysY Y) E [.ref (q 99), .int (iI t), .int (iI x), .int (iI n)] ((wTop q Y qt qd qn qs qk qh qp qr K) ++ (wTrace (qr t.toNat) Y Ir V M)) 0 0 (fun r9 w9 => (¬ ((x = 0 ∨ x = 1) ∧ n ≤ 8) ∧ r9 = some (.int (iI (-3))) ∧ w9 = ((wTop q Y qt qd qn qs qk qh qp qr K) ++ (wTrace (qr t.toNat) Y Ir V M))) ∨ (((x = 0 ∨ x = 1) ∧ n ≤ 8) ∧ ((n < 0 ∧ r9 = some (.int (iI (-12))) ∧ w9 = ((wTop q Y qt qd qn qs qk qh qp qr K) ++ (wTrace (qr t.toNat) Y Ir V M))) ∨ (0 ≤ n ∧ r9 = some (.int (iI (n))) ∧ w9 = ((wTop q Y qt qd qn qs qk qh qp qr K) ++ (wTrace (qr t.toNat) Y (sU (sU (sU Ir 2 1) 3 x) 4 n) (m_clr 0 V 0 8) (m_clr 0 M 0 8))))))) := by
  refine g_ofG (own := RX7) hE (by decide) rfl (Nat.le_of_ble_eq_true rfl) [(0, .ref (q 99)), (1, .int (iI t)), (2, .int (iI x)), (3, .int (iI n))] rfl ?_
  intro p9 e9 s9 m9 b9 t9 c9 A9 C hr hlk hnm
  have hIr := hsIr
  unfold smI at hIr
  have hx9 := hx
  unfold inR at hx9
  have hn9 := hn
  unfold inR at hn9
  refine g_iload_n C (n' := 1) 1 rfl dX7_trace_0 rfl rfl ?_
  refine g_cSv C (n' := 4) (v := .int (iI (if 0 ≤ t ∧ t ≤ 2 then 1 else 0))) (c_X7_isTrace l D Y C.2.2.2.2.2.2.2.2.1 t (by unfold inR at *; omega)) 1 kw_560 kc_X7_isTrace (by decide +kernel) (pm_n _) rfl ⟨Nat.le_of_ble_eq_true rfl, Nat.le_of_ble_eq_true rfl⟩ ⟨rfl, rfl⟩ ⟨Nat.le_of_ble_eq_true rfl, Nat.le_of_ble_eq_true rfl⟩ (Nat.le_of_ble_eq_true rfl) dX7_trace_1 rfl rfl ((wTop q Y qt qd qn qs qk qh qp qr K) ++ (wTrace (qr t.toNat) Y Ir V M)) (pm_n _) ?_
  refine g_if_ne C (n' := 7) 10 dX7_trace_4 (by decide) rfl bz_r (fun c1 => ?_) (fun c1 => ?_)
  · skip
    replace c1 := bz_ne.mp c1
    refine g_iload_n C (n' := 11) 2 rfl dX7_trace_10 rfl rfl ?_
    refine g_cSv C (n' := 14) (v := .int (iI (if x = 0 ∨ x = 1 then 1 else 0))) (c_X7_isSort l D Y C.2.2.2.2.2.2.2.2.1 x hx) 1 kw_563 kc_X7_isSort (by decide +kernel) (pm_n _) rfl ⟨Nat.le_of_ble_eq_true rfl, Nat.le_of_ble_eq_true rfl⟩ ⟨rfl, rfl⟩ ⟨Nat.le_of_ble_eq_true rfl, Nat.le_of_ble_eq_true rfl⟩ (Nat.le_of_ble_eq_true rfl) dX7_trace_11 rfl rfl ((wTop q Y qt qd qn qs qk qh qp qr K) ++ (wTrace (qr t.toNat) Y Ir V M)) (pm_n _) ?_
    refine g_if_eq C (n' := 17) 23 dX7_trace_14 (by decide) rfl bz_r (fun c2 => ?_) (fun c2 => ?_)
    · skip
      replace c2 := bz_eq.mp c2
      refine g_bipush C (n' := 25) (by decide) dX7_trace_23 rfl ?_
      exact g_iret C hr hlk rfl (Or.inl ⟨by omega, rfl, rfl⟩) dX7_trace_25
    · skip
      replace c2 := bz_neq.mp c2
      refine g_iload_n C (n' := 18) 3 rfl dX7_trace_17 rfl rfl ?_
      refine g_bipush C (n' := 20) (by decide) dX7_trace_18 rfl ?_
      refine g_icmp_le C (n' := 23) 26 dX7_trace_20 (by decide) rfl (by unfold inR; omega) (by unfold inR; omega) (fun c3 => ?_) (fun c3 => ?_)
      · skip
        refine g_iload_n C (n' := 27) 3 rfl dX7_trace_26 rfl rfl ?_
        refine g_if_ge C (n' := 30) 33 dX7_trace_27 (by decide) rfl (by unfold inR; omega) (fun c4 => ?_) (fun c4 => ?_)
        · skip
          refine g_aload_n C (n' := 34) 0 rfl dX7_trace_33 rfl rfl ?_
          refine g_get C (n' := 37) (Cn := RX7) (T := TX7) (N := 9) (ci := 5) (v := .ref (q 8)) ga_X7 0 rfl rfl 8 (by decide) kw_193 rfl rfl dX7_trace_34 rfl ?_
          refine g_iload_n C (n' := 38) 1 rfl dX7_trace_37 rfl rfl ?_
          refine g_aald C (n' := 39) (v := qr t.toNat 99) 3 6 rfl rfl (by omega) (by omega) (by decide) (if_pos (by omega)) dX7_trace_38 rfl ?_
          refine g_iload_n C (n' := 40) 2 rfl dX7_trace_39 rfl rfl ?_
          refine g_iload_n C (n' := 41) 3 rfl dX7_trace_40 rfl rfl ?_
          refine g_cVn C (n' := 44) (c_X5_renew l D Y C.2.2.2.2.2.2.2.2.1 (qr t.toNat) Ir V M x n (by omega) (by omega)) 2 kw_566 kc_X5_renew (by decide +kernel) List.perm_append_comm 0 (ci := 4) rfl rfl rfl rfl ⟨Nat.le_of_ble_eq_true rfl, Nat.le_of_ble_eq_true rfl⟩ ⟨rfl, rfl⟩ ⟨Nat.le_of_ble_eq_true rfl, Nat.le_of_ble_eq_true rfl⟩ (Nat.le_of_ble_eq_true rfl) dX7_trace_41 rfl rfl ((wTop q Y qt qd qn qs qk qh qp qr K) ++ (wTrace (qr t.toNat) Y (sU (sU (sU Ir 2 1) 3 x) 4 n) (m_clr 0 V 0 8) (m_clr 0 M 0 8))) List.perm_append_comm.symm ?_
          refine g_iload_n C (n' := 45) 3 rfl dX7_trace_44 rfl rfl ?_
          exact g_iret C hr hlk rfl (Or.inr ⟨by omega, Or.inr ⟨by omega, rfl, rfl⟩⟩) dX7_trace_45
        · skip
          refine g_bipush C (n' := 32) (by decide) dX7_trace_30 rfl ?_
          exact g_iret C hr hlk rfl (Or.inr ⟨by omega, Or.inl ⟨by omega, rfl, rfl⟩⟩) dX7_trace_32
      · skip
        refine g_bipush C (n' := 25) (by decide) dX7_trace_23 rfl ?_
        exact g_iret C hr hlk rfl (Or.inl ⟨by omega, rfl, rfl⟩) dX7_trace_25
  · skip
    replace c1 := bz_nne.mp c1
    exfalso
    omega
set_option maxRecDepth 100000 in
set_option maxHeartbeats 4000000 in
theorem c_X7_trace_o (l : Launch) (D : va_G) (Y : Nat → ClassId) {E : (Nat → Prop) → State → Heap → Prop} (hE : g_Stab E) (q : Nat → Nat) (qt qd qn qs : Nat → Nat) (qk : Nat → Nat → Nat) (qh qp : Nat → Nat) (qr : Nat → Nat → Nat) (K : Nat → Int) (t : Int) (x : Int) (n : Int) (ht : ¬ (0 ≤ t ∧ t ≤ 2)) (ht2 : inR t) : g_Ct l yX7_trace cX7_trace 4 (some FieldType.int) ({ frames := 2, cells := 0, slots := 0, locals := 46 } : Room) D (tysY Y) E [.ref (q 99), .int (iI t), .int (iI x), .int (iI n)] (wTop q Y qt qd qn qs qk qh qp qr K) 0 0 (g_det (some (.int (iI (-2)))) (wTop q Y qt qd qn qs qk qh qp qr K)) := by
  refine g_ofG (own := RX7) hE (by decide) rfl (Nat.le_of_ble_eq_true rfl) [(0, .ref (q 99)), (1, .int (iI t)), (2, .int (iI x)), (3, .int (iI n))] rfl ?_
  intro p9 e9 s9 m9 b9 t9 c9 A9 C hr hlk hnm
  have ht29 := ht2
  unfold inR at ht29
  refine g_iload_n C (n' := 1) 1 rfl dX7_trace_0 rfl rfl ?_
  refine g_cSv C (n' := 4) (v := .int (iI (if 0 ≤ t ∧ t ≤ 2 then 1 else 0))) (c_X7_isTrace l D Y C.2.2.2.2.2.2.2.2.1 t ht2) 1 kw_560 kc_X7_isTrace (by decide +kernel) (pm_n _) rfl ⟨Nat.le_of_ble_eq_true rfl, Nat.le_of_ble_eq_true rfl⟩ ⟨rfl, rfl⟩ ⟨Nat.le_of_ble_eq_true rfl, Nat.le_of_ble_eq_true rfl⟩ (Nat.le_of_ble_eq_true rfl) dX7_trace_1 rfl rfl (wTop q Y qt qd qn qs qk qh qp qr K) (pm_n _) ?_
  refine g_if_ne C (n' := 7) 10 dX7_trace_4 (by decide) rfl bz_r (fun c1 => ?_) (fun c1 => ?_)
  · skip
    replace c1 := bz_ne.mp c1
    exfalso
    omega
  · skip
    replace c1 := bz_nne.mp c1
    refine g_bipush C (n' := 9) (by decide) dX7_trace_7 rfl ?_
    refine g_iret C hr hlk rfl ⟨congrArg (fun z : Int => some (Value.int (iI z))) ?_, ?_⟩ dX7_trace_9
    · first | rfl | omega | ((repeat' split) <;> first | rfl | omega | (exfalso; omega))
    · first | rfl | omega | ((repeat' split) <;> first | rfl | omega | (exfalso; omega))
set_option maxRecDepth 100000 in
set_option maxHeartbeats 4000000 in
theorem c_X7_set (l : Launch) (D : va_G) (Y : Nat → ClassId) {E : (Nat → Prop) → State → Heap → Prop} (hE : g_Stab E) (q : Nat → Nat) (qt qd qn qs : Nat → Nat) (qk : Nat → Nat → Nat) (qh qp : Nat → Nat) (qr : Nat → Nat → Nat) (K : Nat → Int) (Ir : Nat → Int) (V : Nat → UInt64) (M : Nat → Int) (t : Int) (x : Int) (i : Int) (a : Int) (b : Int) (hsIr : smI Ir) (hB : bN01 M) (h4 : 0 ≤ Ir 4 ∧ Ir 4 ≤ 8) (ht : 0 ≤ t ∧ t ≤ 2) (hx : inR x) (hi : inR i) (ha : inR a) (hb : inR b) : g_Ct l yX7_set cX7_set 8 (some FieldType.int) ({ frames := 2, cells := 0, slots := 0, locals := 46 } : Room) D (tysY Y) E [.ref (q 99), .int (iI t), .int (iI x), .int (iI i), .int (iI a), .int (iI b)] ((wTop q Y qt qd qn qs qk qh qp qr K) ++ (wTrace (qr t.toNat) Y Ir V M)) 0 0 (fun r9 w9 => (¬ ((x = 0 ∨ x = 1) ∧ (-9999 ≤ a ∧ a ≤ 9999) ∧ (-9999 ≤ b ∧ b ≤ 9999)) ∧ r9 = some (.int (iI (-3))) ∧ w9 = ((wTop q Y qt qd qn qs qk qh qp qr K) ++ (wTrace (qr t.toNat) Y Ir V M))) ∨ (((x = 0 ∨ x = 1) ∧ (-9999 ≤ a ∧ a ≤ 9999) ∧ (-9999 ≤ b ∧ b ≤ 9999)) ∧ ((fnV (Ir 2) (Ir 3) (Ir 4) x i i ≠ -1 ∧ r9 = some (.int (iI (fnV (Ir 2) (Ir 3) (Ir 4) x i i))) ∧ w9 = ((wTop q Y qt qd qn qs qk qh qp qr K) ++ (wTrace (qr t.toNat) Y Ir V M))) ∨ (fnV (Ir 2) (Ir 3) (Ir 4) x i i = -1 ∧ ∃ (V1 : Nat → UInt64) (M1 : Nat → Int), (((a = 0 ∧ b = 0) ∧ V1 = sU V i.toNat 0 ∧ M1 = sU M i.toNat 1) ∨ (¬ (a = 0 ∧ b = 0) ∧ ((Ir 3 = 0 ∧ ∃ (m : UInt32) (r : UInt64), alike32 m (FP.fdiv (FP.i2f (iI a)) (FP.i2f (iI b))) = true ∧ alike64 r (FP.f2d m) = true ∧ V1 = sU V i.toNat r ∧ M1 = sU M i.toNat 0) ∨ (Ir 3 ≠ 0 ∧ ∃ r : UInt64, alike64 r (FP.ddiv (FP.i2d (iI a)) (FP.i2d (iI b))) = true ∧ V1 = sU V i.toNat r ∧ M1 = sU M i.toNat 0)))) ∧ w9 = ((wTop q Y qt qd qn qs qk qh qp qr K) ++ (wTrace (qr t.toNat) Y Ir V1 M1)) ∧ r9 = some (.int (iI (taV (M1 i.toNat) (Ir 3) (V1 i.toNat)))))))) := by
  refine g_ofG (own := RX7) hE (by decide) rfl (Nat.le_of_ble_eq_true rfl) [(0, .ref (q 99)), (1, .int (iI t)), (2, .int (iI x)), (3, .int (iI i)), (4, .int (iI a)), (5, .int (iI b))] rfl ?_
  intro p9 e9 s9 m9 b9 t9 c9 A9 C hr hlk hnm
  have hIr := hsIr
  unfold smI at hIr
  have hx9 := hx
  unfold inR at hx9
  have hi9 := hi
  unfold inR at hi9
  have ha9 := ha
  unfold inR at ha9
  have hb9 := hb
  unfold inR at hb9
  have hf9 := fnV_r (Ir 2) (Ir 3) (Ir 4) x i i
  refine g_iload_n C (n' := 1) 1 rfl dX7_set_0 rfl rfl ?_
  refine g_cSv C (n' := 4) (v := .int (iI (if 0 ≤ t ∧ t ≤ 2 then 1 else 0))) (c_X7_isTrace l D Y C.2.2.2.2.2.2.2.2.1 t (by unfold inR at *; omega)) 1 kw_560 kc_X7_isTrace (by decide +kernel) (pm_n _) rfl ⟨Nat.le_of_ble_eq_true rfl, Nat.le_of_ble_eq_true rfl⟩ ⟨rfl, rfl⟩ ⟨Nat.le_of_ble_eq_true rfl, Nat.le_of_ble_eq_true rfl⟩ (Nat.le_of_ble_eq_true rfl) dX7_set_1 rfl rfl ((wTop q Y qt qd qn qs qk qh qp qr K) ++ (wTrace (qr t.toNat) Y Ir V M)) (pm_n _) ?_
  refine g_if_ne C (n' := 7) 10 dX7_set_4 (by decide) rfl bz_r (fun c1 => ?_) (fun c1 => ?_)
  · skip
    replace c1 := bz_ne.mp c1
    refine g_iload_n C (n' := 11) 2 rfl dX7_set_10 rfl rfl ?_
    refine g_cSv C (n' := 14) (v := .int (iI (if x = 0 ∨ x = 1 then 1 else 0))) (c_X7_isSort l D Y C.2.2.2.2.2.2.2.2.1 x hx) 1 kw_563 kc_X7_isSort (by decide +kernel) (pm_n _) rfl ⟨Nat.le_of_ble_eq_true rfl, Nat.le_of_ble_eq_true rfl⟩ ⟨rfl, rfl⟩ ⟨Nat.le_of_ble_eq_true rfl, Nat.le_of_ble_eq_true rfl⟩ (Nat.le_of_ble_eq_true rfl) dX7_set_11 rfl rfl ((wTop q Y qt qd qn qs qk qh qp qr K) ++ (wTrace (qr t.toNat) Y Ir V M)) (pm_n _) ?_
    refine g_if_eq C (n' := 17) 33 dX7_set_14 (by decide) rfl bz_r (fun c2 => ?_) (fun c2 => ?_)
    · skip
      replace c2 := bz_eq.mp c2
      refine g_bipush C (n' := 35) (by decide) dX7_set_33 rfl ?_
      exact g_iret C hr hlk rfl (Or.inl ⟨by omega, rfl, rfl⟩) dX7_set_35
    · skip
      replace c2 := bz_neq.mp c2
      refine g_iload C (n' := 19) 4 rfl dX7_set_17 rfl ?_
      refine g_cSv C (n' := 22) (v := .int (iI (if -9999 ≤ a ∧ a ≤ 9999 then 1 else 0))) (c_X7_isQuotientPart l D Y C.2.2.2.2.2.2.2.2.1 a ha) 1 kw_578 kc_X7_isQuotientPart (by decide +kernel) (pm_n _) rfl ⟨Nat.le_of_ble_eq_true rfl, Nat.le_of_ble_eq_true rfl⟩ ⟨rfl, rfl⟩ ⟨Nat.le_of_ble_eq_true rfl, Nat.le_of_ble_eq_true rfl⟩ (Nat.le_of_ble_eq_true rfl) dX7_set_19 rfl rfl ((wTop q Y qt qd qn qs qk qh qp qr K) ++ (wTrace (qr t.toNat) Y Ir V M)) (pm_n _) ?_
      refine g_if_eq C (n' := 25) 33 dX7_set_22 (by decide) rfl bz_r (fun c3 => ?_) (fun c3 => ?_)
      · skip
        replace c3 := bz_eq.mp c3
        refine g_bipush C (n' := 35) (by decide) dX7_set_33 rfl ?_
        exact g_iret C hr hlk rfl (Or.inl ⟨by omega, rfl, rfl⟩) dX7_set_35
      · skip
        replace c3 := bz_neq.mp c3
        refine g_iload C (n' := 27) 5 rfl dX7_set_25 rfl ?_
        refine g_cSv C (n' := 30) (v := .int (iI (if -9999 ≤ b ∧ b ≤ 9999 then 1 else 0))) (c_X7_isQuotientPart l D Y C.2.2.2.2.2.2.2.2.1 b hb) 1 kw_578 kc_X7_isQuotientPart (by decide +kernel) (pm_n _) rfl ⟨Nat.le_of_ble_eq_true rfl, Nat.le_of_ble_eq_true rfl⟩ ⟨rfl, rfl⟩ ⟨Nat.le_of_ble_eq_true rfl, Nat.le_of_ble_eq_true rfl⟩ (Nat.le_of_ble_eq_true rfl) dX7_set_27 rfl rfl ((wTop q Y qt qd qn qs qk qh qp qr K) ++ (wTrace (qr t.toNat) Y Ir V M)) (pm_n _) ?_
        refine g_if_ne C (n' := 33) 36 dX7_set_30 (by decide) rfl bz_r (fun c4 => ?_) (fun c4 => ?_)
        · skip
          replace c4 := bz_ne.mp c4
          refine g_aload_n C (n' := 37) 0 rfl dX7_set_36 rfl rfl ?_
          refine g_get C (n' := 40) (Cn := RX7) (T := TX7) (N := 9) (ci := 5) (v := .ref (q 8)) ga_X7 0 rfl rfl 8 (by decide) kw_193 rfl rfl dX7_set_37 rfl ?_
          refine g_iload_n C (n' := 41) 1 rfl dX7_set_40 rfl rfl ?_
          refine g_aald C (n' := 42) (v := qr t.toNat 99) 3 6 rfl rfl (by omega) (by omega) (by decide) (if_pos (by omega)) dX7_set_41 rfl ?_
          refine g_astore C (n' := 44) [(6, .ref ((qr t.toNat) 99)), (0, .ref (q 99)), (1, .int (iI t)), (2, .int (iI x)), (3, .int (iI i)), (4, .int (iI a)), (5, .int (iI b))] dX7_set_42 rfl (by decide) rfl ?_
          refine g_aload C (n' := 46) 0 rfl dX7_set_44 rfl ?_
          refine g_iload_n C (n' := 47) 3 rfl dX7_set_46 rfl rfl ?_
          refine g_iload_n C (n' := 48) 4 rfl dX7_set_47 rfl rfl ?_
          refine g_iload_n C (n' := 49) 4 rfl dX7_set_48 rfl rfl ?_
          refine g_cVv C (n' := 52) (v := .int (iI (fnV ((Ir 2)) ((Ir 3)) ((Ir 4)) x i i))) (c_X5_finding l D Y C.2.2.2.2.2.2.2.2.1 (qr t.toNat) Ir V M x i i hsIr hB hx hi hi) 3 kw_581 kc_X5_finding (by decide +kernel) List.perm_append_comm 0 (ci := 4) rfl rfl rfl rfl ⟨Nat.le_of_ble_eq_true rfl, Nat.le_of_ble_eq_true rfl⟩ ⟨rfl, rfl⟩ ⟨Nat.le_of_ble_eq_true rfl, Nat.le_of_ble_eq_true rfl⟩ (Nat.le_of_ble_eq_true rfl) dX7_set_49 rfl rfl ((wTop q Y qt qd qn qs qk qh qp qr K) ++ (wTrace (qr t.toNat) Y Ir V M)) List.perm_append_comm.symm ?_
          refine g_istore C (n' := 54) [(7, .int (iI (fnV ((Ir 2)) ((Ir 3)) ((Ir 4)) x i i))), (6, .ref ((qr t.toNat) 99)), (0, .ref (q 99)), (1, .int (iI t)), (2, .int (iI x)), (3, .int (iI i)), (4, .int (iI a)), (5, .int (iI b))] dX7_set_52 rfl (by decide) rfl ?_
          refine g_iload C (n' := 56) 0 rfl dX7_set_54 rfl ?_
          refine g_iconst C (n' := 57) dX7_set_56 rfl ?_
          refine g_icmp_eq C (n' := 60) 63 dX7_set_57 (by decide) rfl (by unfold inR; omega) (by unfold inR; omega) (fun c5 => ?_) (fun c5 => ?_)
          · skip
            have hg9 := fnV_1 (p := Ir 2) (s := Ir 3) (n := Ir 4) (x := x) (i := i) (j := i) (by omega)
            refine g_aload C (n' := 65) 1 rfl dX7_set_63 rfl ?_
            refine g_iload_n C (n' := 66) 5 rfl dX7_set_65 rfl rfl ?_
            refine g_iload C (n' := 68) 6 rfl dX7_set_66 rfl ?_
            refine g_iload C (n' := 70) 7 rfl dX7_set_68 rfl ?_
            refine g_callV C (n' := 73) (c_X5_putQuotient l D Y C.2.2.2.2.2.2.2.2.1 (qr t.toNat) Ir V M i a b hsIr hB (by omega) ha hb) 3 kw_586 kc_X5_putQuotient (by decide +kernel) List.perm_append_comm 0 (ci := 4) rfl rfl rfl rfl ⟨Nat.le_of_ble_eq_true rfl, Nat.le_of_ble_eq_true rfl⟩ ⟨rfl, rfl⟩ ⟨Nat.le_of_ble_eq_true rfl, Nat.le_of_ble_eq_true rfl⟩ (Nat.le_of_ble_eq_true rfl) dX7_set_70 rfl (fun r9 w9 hp6 => ?_)
            obtain ⟨rfl, hq9⟩ := hp6
            rcases hq9 with ⟨hq0, rfl⟩ | ⟨hq0, (⟨hq1, m8, r8, hq2, hq3, rfl⟩ | ⟨hq1, r8, hq2, rfl⟩)⟩
            · skip
              refine g_perm (w' := ((wTop q Y qt qd qn qs qk qh qp qr K) ++ (wTrace (qr t.toNat) Y Ir (sU V i.toNat 0) (sU M i.toNat 1)))) List.perm_append_comm.symm ?_
              refine g_st (st' := []) rfl ?_
              refine g_aload C (n' := 75) 1 rfl dX7_set_73 rfl ?_
              refine g_iload_n C (n' := 76) 5 rfl dX7_set_75 rfl rfl ?_
              refine g_cVv C (n' := 79) (v := .int (iI (taV ((sU M i.toNat 1) i.toNat) ((Ir 3)) ((sU V i.toNat 0) i.toNat)))) (c_X5_thousandAt l D Y C.2.2.2.2.2.2.2.2.1 (qr t.toNat) Ir (sU V i.toNat 0) (sU M i.toNat 1) i hsIr (bN01_put hB (Or.inr rfl)) (by omega)) 1 kw_594 kc_X5_thousandAt (by decide +kernel) List.perm_append_comm 0 (ci := 4) rfl rfl rfl rfl ⟨Nat.le_of_ble_eq_true rfl, Nat.le_of_ble_eq_true rfl⟩ ⟨rfl, rfl⟩ ⟨Nat.le_of_ble_eq_true rfl, Nat.le_of_ble_eq_true rfl⟩ (Nat.le_of_ble_eq_true rfl) dX7_set_76 rfl rfl ((wTop q Y qt qd qn qs qk qh qp qr K) ++ (wTrace (qr t.toNat) Y Ir (sU V i.toNat 0) (sU M i.toNat 1))) List.perm_append_comm.symm ?_
              exact g_iret C hr hlk rfl (Or.inr ⟨by omega, Or.inr ⟨by omega, _, _, Or.inl ⟨hq0, rfl, rfl⟩, rfl, rfl⟩⟩) dX7_set_79
            · skip
              refine g_perm (w' := ((wTop q Y qt qd qn qs qk qh qp qr K) ++ (wTrace (qr t.toNat) Y Ir (sU V i.toNat r8) (sU M i.toNat 0)))) List.perm_append_comm.symm ?_
              refine g_st (st' := []) rfl ?_
              refine g_aload C (n' := 75) 1 rfl dX7_set_73 rfl ?_
              refine g_iload_n C (n' := 76) 5 rfl dX7_set_75 rfl rfl ?_
              refine g_cVv C (n' := 79) (v := .int (iI (taV ((sU M i.toNat 0) i.toNat) ((Ir 3)) ((sU V i.toNat r8) i.toNat)))) (c_X5_thousandAt l D Y C.2.2.2.2.2.2.2.2.1 (qr t.toNat) Ir (sU V i.toNat r8) (sU M i.toNat 0) i hsIr (bN01_put hB (Or.inl rfl)) (by omega)) 1 kw_594 kc_X5_thousandAt (by decide +kernel) List.perm_append_comm 0 (ci := 4) rfl rfl rfl rfl ⟨Nat.le_of_ble_eq_true rfl, Nat.le_of_ble_eq_true rfl⟩ ⟨rfl, rfl⟩ ⟨Nat.le_of_ble_eq_true rfl, Nat.le_of_ble_eq_true rfl⟩ (Nat.le_of_ble_eq_true rfl) dX7_set_76 rfl rfl ((wTop q Y qt qd qn qs qk qh qp qr K) ++ (wTrace (qr t.toNat) Y Ir (sU V i.toNat r8) (sU M i.toNat 0))) List.perm_append_comm.symm ?_
              exact g_iret C hr hlk rfl (Or.inr ⟨by omega, Or.inr ⟨by omega, _, _, Or.inr ⟨hq0, Or.inl ⟨hq1, m8, r8, hq2, hq3, rfl, rfl⟩⟩, rfl, rfl⟩⟩) dX7_set_79
            · skip
              refine g_perm (w' := ((wTop q Y qt qd qn qs qk qh qp qr K) ++ (wTrace (qr t.toNat) Y Ir (sU V i.toNat r8) (sU M i.toNat 0)))) List.perm_append_comm.symm ?_
              refine g_st (st' := []) rfl ?_
              refine g_aload C (n' := 75) 1 rfl dX7_set_73 rfl ?_
              refine g_iload_n C (n' := 76) 5 rfl dX7_set_75 rfl rfl ?_
              refine g_cVv C (n' := 79) (v := .int (iI (taV ((sU M i.toNat 0) i.toNat) ((Ir 3)) ((sU V i.toNat r8) i.toNat)))) (c_X5_thousandAt l D Y C.2.2.2.2.2.2.2.2.1 (qr t.toNat) Ir (sU V i.toNat r8) (sU M i.toNat 0) i hsIr (bN01_put hB (Or.inl rfl)) (by omega)) 1 kw_594 kc_X5_thousandAt (by decide +kernel) List.perm_append_comm 0 (ci := 4) rfl rfl rfl rfl ⟨Nat.le_of_ble_eq_true rfl, Nat.le_of_ble_eq_true rfl⟩ ⟨rfl, rfl⟩ ⟨Nat.le_of_ble_eq_true rfl, Nat.le_of_ble_eq_true rfl⟩ (Nat.le_of_ble_eq_true rfl) dX7_set_76 rfl rfl ((wTop q Y qt qd qn qs qk qh qp qr K) ++ (wTrace (qr t.toNat) Y Ir (sU V i.toNat r8) (sU M i.toNat 0))) List.perm_append_comm.symm ?_
              exact g_iret C hr hlk rfl (Or.inr ⟨by omega, Or.inr ⟨by omega, _, _, Or.inr ⟨hq0, Or.inr ⟨hq1, r8, hq2, rfl, rfl⟩⟩, rfl, rfl⟩⟩) dX7_set_79
          · skip
            refine g_iload C (n' := 62) 0 rfl dX7_set_60 rfl ?_
            exact g_iret C hr hlk rfl (Or.inr ⟨by omega, Or.inl ⟨by omega, rfl, rfl⟩⟩) dX7_set_62
        · skip
          replace c4 := bz_nne.mp c4
          refine g_bipush C (n' := 35) (by decide) dX7_set_33 rfl ?_
          exact g_iret C hr hlk rfl (Or.inl ⟨by omega, rfl, rfl⟩) dX7_set_35
  · skip
    replace c1 := bz_nne.mp c1
    exfalso
    omega
set_option maxRecDepth 100000 in
set_option maxHeartbeats 4000000 in
theorem c_X7_set_o (l : Launch) (D : va_G) (Y : Nat → ClassId) {E : (Nat → Prop) → State → Heap → Prop} (hE : g_Stab E) (q : Nat → Nat) (qt qd qn qs : Nat → Nat) (qk : Nat → Nat → Nat) (qh qp : Nat → Nat) (qr : Nat → Nat → Nat) (K : Nat → Int) (t : Int) (x : Int) (i : Int) (a : Int) (b : Int) (ht : ¬ (0 ≤ t ∧ t ≤ 2)) (ht2 : inR t) : g_Ct l yX7_set cX7_set 8 (some FieldType.int) ({ frames := 2, cells := 0, slots := 0, locals := 46 } : Room) D (tysY Y) E [.ref (q 99), .int (iI t), .int (iI x), .int (iI i), .int (iI a), .int (iI b)] (wTop q Y qt qd qn qs qk qh qp qr K) 0 0 (g_det (some (.int (iI (-2)))) (wTop q Y qt qd qn qs qk qh qp qr K)) := by
  refine g_ofG (own := RX7) hE (by decide) rfl (Nat.le_of_ble_eq_true rfl) [(0, .ref (q 99)), (1, .int (iI t)), (2, .int (iI x)), (3, .int (iI i)), (4, .int (iI a)), (5, .int (iI b))] rfl ?_
  intro p9 e9 s9 m9 b9 t9 c9 A9 C hr hlk hnm
  have ht29 := ht2
  unfold inR at ht29
  refine g_iload_n C (n' := 1) 1 rfl dX7_set_0 rfl rfl ?_
  refine g_cSv C (n' := 4) (v := .int (iI (if 0 ≤ t ∧ t ≤ 2 then 1 else 0))) (c_X7_isTrace l D Y C.2.2.2.2.2.2.2.2.1 t ht2) 1 kw_560 kc_X7_isTrace (by decide +kernel) (pm_n _) rfl ⟨Nat.le_of_ble_eq_true rfl, Nat.le_of_ble_eq_true rfl⟩ ⟨rfl, rfl⟩ ⟨Nat.le_of_ble_eq_true rfl, Nat.le_of_ble_eq_true rfl⟩ (Nat.le_of_ble_eq_true rfl) dX7_set_1 rfl rfl (wTop q Y qt qd qn qs qk qh qp qr K) (pm_n _) ?_
  refine g_if_ne C (n' := 7) 10 dX7_set_4 (by decide) rfl bz_r (fun c1 => ?_) (fun c1 => ?_)
  · skip
    replace c1 := bz_ne.mp c1
    exfalso
    omega
  · skip
    replace c1 := bz_nne.mp c1
    refine g_bipush C (n' := 9) (by decide) dX7_set_7 rfl ?_
    refine g_iret C hr hlk rfl ⟨congrArg (fun z : Int => some (Value.int (iI z))) ?_, ?_⟩ dX7_set_9
    · first | rfl | omega | ((repeat' split) <;> first | rfl | omega | (exfalso; omega))
    · first | rfl | omega | ((repeat' split) <;> first | rfl | omega | (exfalso; omega))
set_option maxRecDepth 100000 in
set_option maxHeartbeats 4000000 in
theorem c_X7_get (l : Launch) (D : va_G) (Y : Nat → ClassId) {E : (Nat → Prop) → State → Heap → Prop} (hE : g_Stab E) (q : Nat → Nat) (qt qd qn qs : Nat → Nat) (qk : Nat → Nat → Nat) (qh qp : Nat → Nat) (qr : Nat → Nat → Nat) (K : Nat → Int) (Ir : Nat → Int) (V : Nat → UInt64) (M : Nat → Int) (t : Int) (x : Int) (i : Int) (hsIr : smI Ir) (hB : bN01 M) (h4 : 0 ≤ Ir 4 ∧ Ir 4 ≤ 8) (ht : 0 ≤ t ∧ t ≤ 2) (hx : inR x) (hi : inR i) : g_Ct l yX7_get cX7_get 5 (some FieldType.int) ({ frames := 3, cells := 0, slots := 0, locals := 69 } : Room) D (tysY Y) E [.ref (q 99), .int (iI t), .int (iI x), .int (iI i)] ((wTop q Y qt qd qn qs qk qh qp qr K) ++ (wTrace (qr t.toNat) Y Ir V M)) 0 0 (g_det (some (.int (iI (if (trV (Ir 2) (Ir 3) (Ir 4) x i i) ≠ -1 then (trV (Ir 2) (Ir 3) (Ir 4) x i i) else taV (M i.toNat) (Ir 3) (V i.toNat))))) ((wTop q Y qt qd qn qs qk qh qp qr K) ++ (wTrace (qr t.toNat) Y Ir V M))) := by
  refine g_ofG (own := RX7) hE (by decide) rfl (Nat.le_of_ble_eq_true rfl) [(0, .ref (q 99)), (1, .int (iI t)), (2, .int (iI x)), (3, .int (iI i))] rfl ?_
  intro p9 e9 s9 m9 b9 t9 c9 A9 C hr hlk hnm
  have hIr := hsIr
  unfold smI at hIr
  have hx9 := hx
  unfold inR at hx9
  have hi9 := hi
  unfold inR at hi9
  have hf9 := trV_r (Ir 2) (Ir 3) (Ir 4) x i i
  refine g_aload_n C (n' := 1) 0 rfl dX7_get_0 rfl rfl ?_
  refine g_iload_n C (n' := 2) 1 rfl dX7_get_1 rfl rfl ?_
  refine g_iload_n C (n' := 3) 2 rfl dX7_get_2 rfl rfl ?_
  refine g_iload_n C (n' := 4) 3 rfl dX7_get_3 rfl rfl ?_
  refine g_iload_n C (n' := 5) 3 rfl dX7_get_4 rfl rfl ?_
  refine g_cVv C (n' := 8) (v := .int (iI (trV ((Ir 2)) ((Ir 3)) ((Ir 4)) x i i))) (c_X7_traceRefusal l D Y C.2.2.2.2.2.2.2.2.1 q qt qd qn qs qk qh qp qr K Ir V M t x i i hsIr hB h4 ht hx hi hi) 4 kw_612 kc_X7_traceRefusal (by decide +kernel) (pm0 _) 0 (ci := 5) rfl rfl rfl rfl ⟨Nat.le_of_ble_eq_true rfl, Nat.le_of_ble_eq_true rfl⟩ ⟨rfl, rfl⟩ ⟨Nat.le_of_ble_eq_true rfl, Nat.le_of_ble_eq_true rfl⟩ (Nat.le_of_ble_eq_true rfl) dX7_get_5 rfl rfl ((wTop q Y qt qd qn qs qk qh qp qr K) ++ (wTrace (qr t.toNat) Y Ir V M)) (pm0' _) ?_
  refine g_istore C (n' := 10) [(4, .int (iI (trV ((Ir 2)) ((Ir 3)) ((Ir 4)) x i i))), (0, .ref (q 99)), (1, .int (iI t)), (2, .int (iI x)), (3, .int (iI i))] dX7_get_8 rfl (by decide) rfl ?_
  refine g_iload C (n' := 12) 0 rfl dX7_get_10 rfl ?_
  refine g_iconst C (n' := 13) dX7_get_12 rfl ?_
  refine g_icmp_eq C (n' := 16) 21 dX7_get_13 (by decide) rfl (by unfold inR; omega) (by unfold inR; omega) (fun c1 => ?_) (fun c1 => ?_)
  · skip
    have hg9 := trV_1 (p := Ir 2) (s := Ir 3) (n := Ir 4) (x := x) (i := i) (j := i) (by omega)
    refine g_aload_n C (n' := 22) 1 rfl dX7_get_21 rfl rfl ?_
    refine g_get C (n' := 25) (Cn := RX7) (T := TX7) (N := 9) (ci := 5) (v := .ref (q 8)) ga_X7 0 rfl rfl 8 (by decide) kw_193 rfl rfl dX7_get_22 rfl ?_
    refine g_iload_n C (n' := 26) 2 rfl dX7_get_25 rfl rfl ?_
    refine g_aald C (n' := 27) (v := qr t.toNat 99) 3 6 rfl rfl (by omega) (by omega) (by decide) (if_pos (by omega)) dX7_get_26 rfl ?_
    refine g_iload_n C (n' := 28) 4 rfl dX7_get_27 rfl rfl ?_
    refine g_cVv C (n' := 31) (v := .int (iI (taV (M i.toNat) ((Ir 3)) (V i.toNat)))) (c_X5_thousandAt l D Y C.2.2.2.2.2.2.2.2.1 (qr t.toNat) Ir V M i hsIr hB (by omega)) 1 kw_594 kc_X5_thousandAt (by decide +kernel) List.perm_append_comm 0 (ci := 4) rfl rfl rfl rfl ⟨Nat.le_of_ble_eq_true rfl, Nat.le_of_ble_eq_true rfl⟩ ⟨rfl, rfl⟩ ⟨Nat.le_of_ble_eq_true rfl, Nat.le_of_ble_eq_true rfl⟩ (Nat.le_of_ble_eq_true rfl) dX7_get_28 rfl rfl ((wTop q Y qt qd qn qs qk qh qp qr K) ++ (wTrace (qr t.toNat) Y Ir V M)) List.perm_append_comm.symm ?_
    exact g_iret C hr hlk rfl ⟨congrArg (fun z : Int => some (Value.int (iI z))) (by rw [if_neg (show ¬ trV (Ir 2) (Ir 3) (Ir 4) x i i ≠ -1 by omega)]), rfl⟩ dX7_get_31
  · skip
    refine g_iload C (n' := 18) 0 rfl dX7_get_16 rfl ?_
    refine g_goto C 31 dX7_get_18 (by decide) ?_
    exact g_iret C hr hlk rfl ⟨congrArg (fun z : Int => some (Value.int (iI z))) (by rw [if_pos (show trV (Ir 2) (Ir 3) (Ir 4) x i i ≠ -1 by omega)]), rfl⟩ dX7_get_31
set_option maxRecDepth 100000 in
set_option maxHeartbeats 4000000 in
theorem c_X7_compare (l : Launch) (D : va_G) (Y : Nat → ClassId) {E : (Nat → Prop) → State → Heap → Prop} (hE : g_Stab E) (q : Nat → Nat) (qt qd qn qs : Nat → Nat) (qk : Nat → Nat → Nat) (qh qp : Nat → Nat) (qr : Nat → Nat → Nat) (K : Nat → Int) (Ir : Nat → Int) (V : Nat → UInt64) (M : Nat → Int) (t : Int) (x : Int) (i : Int) (j : Int) (hsIr : smI Ir) (hB : bN01 M) (h4 : 0 ≤ Ir 4 ∧ Ir 4 ≤ 8) (ht : 0 ≤ t ∧ t ≤ 2) (hx : inR x) (hi : inR i) (hj : inR j) : g_Ct l yX7_compare cX7_compare 6 (some FieldType.int) ({ frames := 3, cells := 0, slots := 0, locals := 69 } : Room) D (tysY Y) E [.ref (q 99), .int (iI t), .int (iI x), .int (iI i), .int (iI j)] ((wTop q Y qt qd qn qs qk qh qp qr K) ++ (wTrace (qr t.toNat) Y Ir V M)) 0 0 (g_det (some (.int (iI (if (trV (Ir 2) (Ir 3) (Ir 4) x i j) ≠ -1 then (trV (Ir 2) (Ir 3) (Ir 4) x i j) else (if M i.toNat = 0 ∧ M j.toNat = 0 then cmV (V i.toNat) (V j.toNat) else 0))))) ((wTop q Y qt qd qn qs qk qh qp qr K) ++ (wTrace (qr t.toNat) Y Ir V M))) := by
  refine g_ofG (own := RX7) hE (by decide) rfl (Nat.le_of_ble_eq_true rfl) [(0, .ref (q 99)), (1, .int (iI t)), (2, .int (iI x)), (3, .int (iI i)), (4, .int (iI j))] rfl ?_
  intro p9 e9 s9 m9 b9 t9 c9 A9 C hr hlk hnm
  have hIr := hsIr
  unfold smI at hIr
  have hx9 := hx
  unfold inR at hx9
  have hi9 := hi
  unfold inR at hi9
  have hj9 := hj
  unfold inR at hj9
  have hf9 := trV_r (Ir 2) (Ir 3) (Ir 4) x i j
  refine g_aload_n C (n' := 1) 0 rfl dX7_compare_0 rfl rfl ?_
  refine g_iload_n C (n' := 2) 1 rfl dX7_compare_1 rfl rfl ?_
  refine g_iload_n C (n' := 3) 2 rfl dX7_compare_2 rfl rfl ?_
  refine g_iload_n C (n' := 4) 3 rfl dX7_compare_3 rfl rfl ?_
  refine g_iload C (n' := 6) 4 rfl dX7_compare_4 rfl ?_
  refine g_cVv C (n' := 9) (v := .int (iI (trV ((Ir 2)) ((Ir 3)) ((Ir 4)) x i j))) (c_X7_traceRefusal l D Y C.2.2.2.2.2.2.2.2.1 q qt qd qn qs qk qh qp qr K Ir V M t x i j hsIr hB h4 ht hx hi hj) 4 kw_612 kc_X7_traceRefusal (by decide +kernel) (pm0 _) 0 (ci := 5) rfl rfl rfl rfl ⟨Nat.le_of_ble_eq_true rfl, Nat.le_of_ble_eq_true rfl⟩ ⟨rfl, rfl⟩ ⟨Nat.le_of_ble_eq_true rfl, Nat.le_of_ble_eq_true rfl⟩ (Nat.le_of_ble_eq_true rfl) dX7_compare_6 rfl rfl ((wTop q Y qt qd qn qs qk qh qp qr K) ++ (wTrace (qr t.toNat) Y Ir V M)) (pm0' _) ?_
  refine g_istore C (n' := 11) [(5, .int (iI (trV ((Ir 2)) ((Ir 3)) ((Ir 4)) x i j))), (0, .ref (q 99)), (1, .int (iI t)), (2, .int (iI x)), (3, .int (iI i)), (4, .int (iI j))] dX7_compare_9 rfl (by decide) rfl ?_
  refine g_iload C (n' := 13) 0 rfl dX7_compare_11 rfl ?_
  refine g_iconst C (n' := 14) dX7_compare_13 rfl ?_
  refine g_icmp_eq C (n' := 17) 22 dX7_compare_14 (by decide) rfl (by unfold inR; omega) (by unfold inR; omega) (fun c1 => ?_) (fun c1 => ?_)
  · skip
    have hg9 := trV_1 (p := Ir 2) (s := Ir 3) (n := Ir 4) (x := x) (i := i) (j := j) (by omega)
    refine g_aload_n C (n' := 23) 1 rfl dX7_compare_22 rfl rfl ?_
    refine g_get C (n' := 26) (Cn := RX7) (T := TX7) (N := 9) (ci := 5) (v := .ref (q 8)) ga_X7 0 rfl rfl 8 (by decide) kw_193 rfl rfl dX7_compare_23 rfl ?_
    refine g_iload_n C (n' := 27) 2 rfl dX7_compare_26 rfl rfl ?_
    refine g_aald C (n' := 28) (v := qr t.toNat 99) 3 6 rfl rfl (by omega) (by omega) (by decide) (if_pos (by omega)) dX7_compare_27 rfl ?_
    refine g_iload_n C (n' := 29) 4 rfl dX7_compare_28 rfl rfl ?_
    refine g_iload C (n' := 31) 5 rfl dX7_compare_29 rfl ?_
    refine g_cVv C (n' := 34) (v := .int (iI (if M i.toNat = 0 ∧ M j.toNat = 0 then cmV (V i.toNat) (V j.toNat) else 0))) (c_X5_order l D Y C.2.2.2.2.2.2.2.2.1 (qr t.toNat) Ir V M i j hsIr hB (by omega) (by omega)) 2 kw_635 kc_X5_order (by decide +kernel) List.perm_append_comm 0 (ci := 4) rfl rfl rfl rfl ⟨Nat.le_of_ble_eq_true rfl, Nat.le_of_ble_eq_true rfl⟩ ⟨rfl, rfl⟩ ⟨Nat.le_of_ble_eq_true rfl, Nat.le_of_ble_eq_true rfl⟩ (Nat.le_of_ble_eq_true rfl) dX7_compare_31 rfl rfl ((wTop q Y qt qd qn qs qk qh qp qr K) ++ (wTrace (qr t.toNat) Y Ir V M)) List.perm_append_comm.symm ?_
    exact g_iret C hr hlk rfl ⟨congrArg (fun z : Int => some (Value.int (iI z))) (by rw [if_neg (show ¬ trV (Ir 2) (Ir 3) (Ir 4) x i j ≠ -1 by omega)]), rfl⟩ dX7_compare_34
  · skip
    refine g_iload C (n' := 19) 0 rfl dX7_compare_17 rfl ?_
    refine g_goto C 34 dX7_compare_19 (by decide) ?_
    exact g_iret C hr hlk rfl ⟨congrArg (fun z : Int => some (Value.int (iI z))) (by rw [if_pos (show trV (Ir 2) (Ir 3) (Ir 4) x i j ≠ -1 by omega)]), rfl⟩ dX7_compare_34
set_option maxRecDepth 100000 in
set_option maxHeartbeats 4000000 in
theorem c_X7_rest (l : Launch) (D : va_G) (Y : Nat → ClassId) {E : (Nat → Prop) → State → Heap → Prop} (hE : g_Stab E) (q : Nat → Nat) (qt qd qn qs : Nat → Nat) (qk : Nat → Nat → Nat) (qh qp : Nat → Nat) (qr : Nat → Nat → Nat) (K : Nat → Int) (Ir : Nat → Int) (V : Nat → UInt64) (M : Nat → Int) (t : Int) (x : Int) (i : Int) (j : Int) (hsIr : smI Ir) (hB : bN01 M) (h4 : 0 ≤ Ir 4 ∧ Ir 4 ≤ 8) (ht : 0 ≤ t ∧ t ≤ 2) (hx : inR x) (hi : inR i) (hj : inR j) (hV : ∀ k : Nat, M k = 0 → plOK (V k)) : g_Ct l yX7_rest cX7_rest 6 (some FieldType.int) ({ frames := 3, cells := 0, slots := 0, locals := 69 } : Room) D (tysY Y) E [.ref (q 99), .int (iI t), .int (iI x), .int (iI i), .int (iI j)] ((wTop q Y qt qd qn qs qk qh qp qr K) ++ (wTrace (qr t.toNat) Y Ir V M)) 0 0 (fun r9 w9 => ((trV (Ir 2) (Ir 3) (Ir 4) x i j) ≠ -1 ∧ r9 = some (.int (iI ((trV (Ir 2) (Ir 3) (Ir 4) x i j)))) ∧ w9 = ((wTop q Y qt qd qn qs qk qh qp qr K) ++ (wTrace (qr t.toNat) Y Ir V M))) ∨ ((trV (Ir 2) (Ir 3) (Ir 4) x i j) = -1 ∧ ∃ (V1 : Nat → UInt64) (M1 : Nat → Int), ((¬ goodR V M i.toNat j.toNat ∧ V1 = sU V i.toNat 0 ∧ M1 = sU M i.toNat 1) ∨ (goodR V M i.toNat j.toNat ∧ V1 = sU V i.toNat (FP.drem (V i.toNat) (V j.toNat)) ∧ M1 = sU M i.toNat 0)) ∧ w9 = ((wTop q Y qt qd qn qs qk qh qp qr K) ++ (wTrace (qr t.toNat) Y Ir V1 M1)) ∧ r9 = some (.int (iI (taV (M1 i.toNat) (Ir 3) (V1 i.toNat)))))) := by
  refine g_ofG (own := RX7) hE (by decide) rfl (Nat.le_of_ble_eq_true rfl) [(0, .ref (q 99)), (1, .int (iI t)), (2, .int (iI x)), (3, .int (iI i)), (4, .int (iI j))] rfl ?_
  intro p9 e9 s9 m9 b9 t9 c9 A9 C hr hlk hnm
  have hIr := hsIr
  unfold smI at hIr
  have hx9 := hx
  unfold inR at hx9
  have hi9 := hi
  unfold inR at hi9
  have hj9 := hj
  unfold inR at hj9
  have hf9 := trV_r (Ir 2) (Ir 3) (Ir 4) x i j
  refine g_aload_n C (n' := 1) 0 rfl dX7_rest_0 rfl rfl ?_
  refine g_iload_n C (n' := 2) 1 rfl dX7_rest_1 rfl rfl ?_
  refine g_iload_n C (n' := 3) 2 rfl dX7_rest_2 rfl rfl ?_
  refine g_iload_n C (n' := 4) 3 rfl dX7_rest_3 rfl rfl ?_
  refine g_iload C (n' := 6) 4 rfl dX7_rest_4 rfl ?_
  refine g_cVv C (n' := 9) (v := .int (iI (trV ((Ir 2)) ((Ir 3)) ((Ir 4)) x i j))) (c_X7_traceRefusal l D Y C.2.2.2.2.2.2.2.2.1 q qt qd qn qs qk qh qp qr K Ir V M t x i j hsIr hB h4 ht hx hi hj) 4 kw_612 kc_X7_traceRefusal (by decide +kernel) (pm0 _) 0 (ci := 5) rfl rfl rfl rfl ⟨Nat.le_of_ble_eq_true rfl, Nat.le_of_ble_eq_true rfl⟩ ⟨rfl, rfl⟩ ⟨Nat.le_of_ble_eq_true rfl, Nat.le_of_ble_eq_true rfl⟩ (Nat.le_of_ble_eq_true rfl) dX7_rest_6 rfl rfl ((wTop q Y qt qd qn qs qk qh qp qr K) ++ (wTrace (qr t.toNat) Y Ir V M)) (pm0' _) ?_
  refine g_istore C (n' := 11) [(5, .int (iI (trV ((Ir 2)) ((Ir 3)) ((Ir 4)) x i j))), (0, .ref (q 99)), (1, .int (iI t)), (2, .int (iI x)), (3, .int (iI i)), (4, .int (iI j))] dX7_rest_9 rfl (by decide) rfl ?_
  refine g_iload C (n' := 13) 0 rfl dX7_rest_11 rfl ?_
  refine g_iconst C (n' := 14) dX7_rest_13 rfl ?_
  refine g_icmp_eq C (n' := 17) 20 dX7_rest_14 (by decide) rfl (by unfold inR; omega) (by unfold inR; omega) (fun c1 => ?_) (fun c1 => ?_)
  · skip
    have hg9 := trV_1 (p := Ir 2) (s := Ir 3) (n := Ir 4) (x := x) (i := i) (j := j) (by omega)
    refine g_aload_n C (n' := 21) 1 rfl dX7_rest_20 rfl rfl ?_
    refine g_get C (n' := 24) (Cn := RX7) (T := TX7) (N := 9) (ci := 5) (v := .ref (q 8)) ga_X7 0 rfl rfl 8 (by decide) kw_193 rfl rfl dX7_rest_21 rfl ?_
    refine g_iload_n C (n' := 25) 2 rfl dX7_rest_24 rfl rfl ?_
    refine g_aald C (n' := 26) (v := qr t.toNat 99) 3 6 rfl rfl (by omega) (by omega) (by decide) (if_pos (by omega)) dX7_rest_25 rfl ?_
    refine g_iload_n C (n' := 27) 4 rfl dX7_rest_26 rfl rfl ?_
    refine g_iload C (n' := 29) 5 rfl dX7_rest_27 rfl ?_
    refine g_callV C (n' := 32) (c_X5_putRemainder l D Y C.2.2.2.2.2.2.2.2.1 (qr t.toNat) Ir V M i j hsIr hB (by omega) (by omega) hV) 2 kw_620 kc_X5_putRemainder (by decide +kernel) List.perm_append_comm 0 (ci := 4) rfl rfl rfl rfl ⟨Nat.le_of_ble_eq_true rfl, Nat.le_of_ble_eq_true rfl⟩ ⟨rfl, rfl⟩ ⟨Nat.le_of_ble_eq_true rfl, Nat.le_of_ble_eq_true rfl⟩ (Nat.le_of_ble_eq_true rfl) dX7_rest_29 rfl (fun r9 w9 hp2 => ?_)
    obtain ⟨rfl, (⟨hq0, rfl⟩ | ⟨hq0, rfl⟩)⟩ := hp2
    · skip
      refine g_perm (w' := ((wTop q Y qt qd qn qs qk qh qp qr K) ++ (wTrace (qr t.toNat) Y Ir (sU V i.toNat 0) (sU M i.toNat 1)))) List.perm_append_comm.symm ?_
      refine g_st (st' := []) rfl ?_
      refine g_aload_n C (n' := 33) 1 rfl dX7_rest_32 rfl rfl ?_
      refine g_get C (n' := 36) (Cn := RX7) (T := TX7) (N := 9) (ci := 5) (v := .ref (q 8)) ga_X7 0 rfl rfl 8 (by decide) kw_193 rfl rfl dX7_rest_33 rfl ?_
      refine g_iload_n C (n' := 37) 2 rfl dX7_rest_36 rfl rfl ?_
      refine g_aald C (n' := 38) (v := qr t.toNat 99) 3 6 rfl rfl (by omega) (by omega) (by decide) (if_pos (by omega)) dX7_rest_37 rfl ?_
      refine g_iload_n C (n' := 39) 4 rfl dX7_rest_38 rfl rfl ?_
      refine g_cVv C (n' := 42) (v := .int (iI (taV ((sU M i.toNat 1) i.toNat) ((Ir 3)) ((sU V i.toNat 0) i.toNat)))) (c_X5_thousandAt l D Y C.2.2.2.2.2.2.2.2.1 (qr t.toNat) Ir (sU V i.toNat 0) (sU M i.toNat 1) i hsIr (bN01_put hB (Or.inr rfl)) (by omega)) 1 kw_594 kc_X5_thousandAt (by decide +kernel) List.perm_append_comm 0 (ci := 4) rfl rfl rfl rfl ⟨Nat.le_of_ble_eq_true rfl, Nat.le_of_ble_eq_true rfl⟩ ⟨rfl, rfl⟩ ⟨Nat.le_of_ble_eq_true rfl, Nat.le_of_ble_eq_true rfl⟩ (Nat.le_of_ble_eq_true rfl) dX7_rest_39 rfl rfl ((wTop q Y qt qd qn qs qk qh qp qr K) ++ (wTrace (qr t.toNat) Y Ir (sU V i.toNat 0) (sU M i.toNat 1))) List.perm_append_comm.symm ?_
      exact g_iret C hr hlk rfl (Or.inr ⟨by omega, _, _, Or.inl ⟨hq0, rfl, rfl⟩, rfl, rfl⟩) dX7_rest_42
    · skip
      refine g_perm (w' := ((wTop q Y qt qd qn qs qk qh qp qr K) ++ (wTrace (qr t.toNat) Y Ir (sU V i.toNat (FP.drem (V i.toNat) (V j.toNat))) (sU M i.toNat 0)))) List.perm_append_comm.symm ?_
      refine g_st (st' := []) rfl ?_
      refine g_aload_n C (n' := 33) 1 rfl dX7_rest_32 rfl rfl ?_
      refine g_get C (n' := 36) (Cn := RX7) (T := TX7) (N := 9) (ci := 5) (v := .ref (q 8)) ga_X7 0 rfl rfl 8 (by decide) kw_193 rfl rfl dX7_rest_33 rfl ?_
      refine g_iload_n C (n' := 37) 2 rfl dX7_rest_36 rfl rfl ?_
      refine g_aald C (n' := 38) (v := qr t.toNat 99) 3 6 rfl rfl (by omega) (by omega) (by decide) (if_pos (by omega)) dX7_rest_37 rfl ?_
      refine g_iload_n C (n' := 39) 4 rfl dX7_rest_38 rfl rfl ?_
      refine g_cVv C (n' := 42) (v := .int (iI (taV ((sU M i.toNat 0) i.toNat) ((Ir 3)) ((sU V i.toNat (FP.drem (V i.toNat) (V j.toNat))) i.toNat)))) (c_X5_thousandAt l D Y C.2.2.2.2.2.2.2.2.1 (qr t.toNat) Ir (sU V i.toNat (FP.drem (V i.toNat) (V j.toNat))) (sU M i.toNat 0) i hsIr (bN01_put hB (Or.inl rfl)) (by omega)) 1 kw_594 kc_X5_thousandAt (by decide +kernel) List.perm_append_comm 0 (ci := 4) rfl rfl rfl rfl ⟨Nat.le_of_ble_eq_true rfl, Nat.le_of_ble_eq_true rfl⟩ ⟨rfl, rfl⟩ ⟨Nat.le_of_ble_eq_true rfl, Nat.le_of_ble_eq_true rfl⟩ (Nat.le_of_ble_eq_true rfl) dX7_rest_39 rfl rfl ((wTop q Y qt qd qn qs qk qh qp qr K) ++ (wTrace (qr t.toNat) Y Ir (sU V i.toNat (FP.drem (V i.toNat) (V j.toNat))) (sU M i.toNat 0))) List.perm_append_comm.symm ?_
      exact g_iret C hr hlk rfl (Or.inr ⟨by omega, _, _, Or.inr ⟨hq0, rfl, rfl⟩, rfl, rfl⟩) dX7_rest_42
  · skip
    refine g_iload C (n' := 19) 0 rfl dX7_rest_17 rfl ?_
    exact g_iret C hr hlk rfl (Or.inl ⟨by omega, rfl, rfl⟩) dX7_rest_19
set_option maxRecDepth 100000 in
set_option maxHeartbeats 4000000 in
theorem c_X7_get_o (l : Launch) (D : va_G) (Y : Nat → ClassId) {E : (Nat → Prop) → State → Heap → Prop} (hE : g_Stab E) (q : Nat → Nat) (qt qd qn qs : Nat → Nat) (qk : Nat → Nat → Nat) (qh qp : Nat → Nat) (qr : Nat → Nat → Nat) (K : Nat → Int) (t : Int) (x : Int) (i : Int) (ht : ¬ (0 ≤ t ∧ t ≤ 2)) (ht2 : inR t) : g_Ct l yX7_get cX7_get 5 (some FieldType.int) ({ frames := 3, cells := 0, slots := 0, locals := 69 } : Room) D (tysY Y) E [.ref (q 99), .int (iI t), .int (iI x), .int (iI i)] (wTop q Y qt qd qn qs qk qh qp qr K) 0 0 (g_det (some (.int (iI (-2)))) (wTop q Y qt qd qn qs qk qh qp qr K)) := by
  refine g_ofG (own := RX7) hE (by decide) rfl (Nat.le_of_ble_eq_true rfl) [(0, .ref (q 99)), (1, .int (iI t)), (2, .int (iI x)), (3, .int (iI i))] rfl ?_
  intro p9 e9 s9 m9 b9 t9 c9 A9 C hr hlk hnm
  have ht29 := ht2
  unfold inR at ht29
  refine g_aload_n C (n' := 1) 0 rfl dX7_get_0 rfl rfl ?_
  refine g_iload_n C (n' := 2) 1 rfl dX7_get_1 rfl rfl ?_
  refine g_iload_n C (n' := 3) 2 rfl dX7_get_2 rfl rfl ?_
  refine g_iload_n C (n' := 4) 3 rfl dX7_get_3 rfl rfl ?_
  refine g_iload_n C (n' := 5) 3 rfl dX7_get_4 rfl rfl ?_
  refine g_cVv C (n' := 8) (v := .int (iI (-2))) (c_X7_traceRefusal_o l D Y C.2.2.2.2.2.2.2.2.1 q qt qd qn qs qk qh qp qr K t x i i ht ht2) 4 kw_612 kc_X7_traceRefusal (by decide +kernel) (pm0 _) 0 (ci := 5) rfl rfl rfl rfl ⟨Nat.le_of_ble_eq_true rfl, Nat.le_of_ble_eq_true rfl⟩ ⟨rfl, rfl⟩ ⟨Nat.le_of_ble_eq_true rfl, Nat.le_of_ble_eq_true rfl⟩ (Nat.le_of_ble_eq_true rfl) dX7_get_5 rfl rfl (wTop q Y qt qd qn qs qk qh qp qr K) (pm0' _) ?_
  refine g_istore C (n' := 10) [(4, .int (iI (-2))), (0, .ref (q 99)), (1, .int (iI t)), (2, .int (iI x)), (3, .int (iI i))] dX7_get_8 rfl (by decide) rfl ?_
  refine g_iload C (n' := 12) 0 rfl dX7_get_10 rfl ?_
  refine g_iconst C (n' := 13) dX7_get_12 rfl ?_
  refine g_icmp_eq C (n' := 16) 21 dX7_get_13 (by decide) rfl (by unfold inR; omega) (by unfold inR; omega) (fun c1 => ?_) (fun c1 => ?_)
  · skip
    exfalso
    omega
  · skip
    refine g_iload C (n' := 18) 0 rfl dX7_get_16 rfl ?_
    refine g_goto C 31 dX7_get_18 (by decide) ?_
    refine g_iret C hr hlk rfl ⟨congrArg (fun z : Int => some (Value.int (iI z))) ?_, ?_⟩ dX7_get_31
    · first | rfl | omega | ((repeat' split) <;> first | rfl | omega | (exfalso; omega))
    · first | rfl | omega | ((repeat' split) <;> first | rfl | omega | (exfalso; omega))
set_option maxRecDepth 100000 in
set_option maxHeartbeats 4000000 in
theorem c_X7_compare_o (l : Launch) (D : va_G) (Y : Nat → ClassId) {E : (Nat → Prop) → State → Heap → Prop} (hE : g_Stab E) (q : Nat → Nat) (qt qd qn qs : Nat → Nat) (qk : Nat → Nat → Nat) (qh qp : Nat → Nat) (qr : Nat → Nat → Nat) (K : Nat → Int) (t : Int) (x : Int) (i : Int) (j : Int) (ht : ¬ (0 ≤ t ∧ t ≤ 2)) (ht2 : inR t) : g_Ct l yX7_compare cX7_compare 6 (some FieldType.int) ({ frames := 3, cells := 0, slots := 0, locals := 69 } : Room) D (tysY Y) E [.ref (q 99), .int (iI t), .int (iI x), .int (iI i), .int (iI j)] (wTop q Y qt qd qn qs qk qh qp qr K) 0 0 (g_det (some (.int (iI (-2)))) (wTop q Y qt qd qn qs qk qh qp qr K)) := by
  refine g_ofG (own := RX7) hE (by decide) rfl (Nat.le_of_ble_eq_true rfl) [(0, .ref (q 99)), (1, .int (iI t)), (2, .int (iI x)), (3, .int (iI i)), (4, .int (iI j))] rfl ?_
  intro p9 e9 s9 m9 b9 t9 c9 A9 C hr hlk hnm
  have ht29 := ht2
  unfold inR at ht29
  refine g_aload_n C (n' := 1) 0 rfl dX7_compare_0 rfl rfl ?_
  refine g_iload_n C (n' := 2) 1 rfl dX7_compare_1 rfl rfl ?_
  refine g_iload_n C (n' := 3) 2 rfl dX7_compare_2 rfl rfl ?_
  refine g_iload_n C (n' := 4) 3 rfl dX7_compare_3 rfl rfl ?_
  refine g_iload C (n' := 6) 4 rfl dX7_compare_4 rfl ?_
  refine g_cVv C (n' := 9) (v := .int (iI (-2))) (c_X7_traceRefusal_o l D Y C.2.2.2.2.2.2.2.2.1 q qt qd qn qs qk qh qp qr K t x i j ht ht2) 4 kw_612 kc_X7_traceRefusal (by decide +kernel) (pm0 _) 0 (ci := 5) rfl rfl rfl rfl ⟨Nat.le_of_ble_eq_true rfl, Nat.le_of_ble_eq_true rfl⟩ ⟨rfl, rfl⟩ ⟨Nat.le_of_ble_eq_true rfl, Nat.le_of_ble_eq_true rfl⟩ (Nat.le_of_ble_eq_true rfl) dX7_compare_6 rfl rfl (wTop q Y qt qd qn qs qk qh qp qr K) (pm0' _) ?_
  refine g_istore C (n' := 11) [(5, .int (iI (-2))), (0, .ref (q 99)), (1, .int (iI t)), (2, .int (iI x)), (3, .int (iI i)), (4, .int (iI j))] dX7_compare_9 rfl (by decide) rfl ?_
  refine g_iload C (n' := 13) 0 rfl dX7_compare_11 rfl ?_
  refine g_iconst C (n' := 14) dX7_compare_13 rfl ?_
  refine g_icmp_eq C (n' := 17) 22 dX7_compare_14 (by decide) rfl (by unfold inR; omega) (by unfold inR; omega) (fun c1 => ?_) (fun c1 => ?_)
  · skip
    exfalso
    omega
  · skip
    refine g_iload C (n' := 19) 0 rfl dX7_compare_17 rfl ?_
    refine g_goto C 34 dX7_compare_19 (by decide) ?_
    refine g_iret C hr hlk rfl ⟨congrArg (fun z : Int => some (Value.int (iI z))) ?_, ?_⟩ dX7_compare_34
    · first | rfl | omega | ((repeat' split) <;> first | rfl | omega | (exfalso; omega))
    · first | rfl | omega | ((repeat' split) <;> first | rfl | omega | (exfalso; omega))
set_option maxRecDepth 100000 in
set_option maxHeartbeats 4000000 in
theorem c_X7_rest_o (l : Launch) (D : va_G) (Y : Nat → ClassId) {E : (Nat → Prop) → State → Heap → Prop} (hE : g_Stab E) (q : Nat → Nat) (qt qd qn qs : Nat → Nat) (qk : Nat → Nat → Nat) (qh qp : Nat → Nat) (qr : Nat → Nat → Nat) (K : Nat → Int) (t : Int) (x : Int) (i : Int) (j : Int) (ht : ¬ (0 ≤ t ∧ t ≤ 2)) (ht2 : inR t) : g_Ct l yX7_rest cX7_rest 6 (some FieldType.int) ({ frames := 3, cells := 0, slots := 0, locals := 69 } : Room) D (tysY Y) E [.ref (q 99), .int (iI t), .int (iI x), .int (iI i), .int (iI j)] (wTop q Y qt qd qn qs qk qh qp qr K) 0 0 (g_det (some (.int (iI (-2)))) (wTop q Y qt qd qn qs qk qh qp qr K)) := by
  refine g_ofG (own := RX7) hE (by decide) rfl (Nat.le_of_ble_eq_true rfl) [(0, .ref (q 99)), (1, .int (iI t)), (2, .int (iI x)), (3, .int (iI i)), (4, .int (iI j))] rfl ?_
  intro p9 e9 s9 m9 b9 t9 c9 A9 C hr hlk hnm
  have ht29 := ht2
  unfold inR at ht29
  refine g_aload_n C (n' := 1) 0 rfl dX7_rest_0 rfl rfl ?_
  refine g_iload_n C (n' := 2) 1 rfl dX7_rest_1 rfl rfl ?_
  refine g_iload_n C (n' := 3) 2 rfl dX7_rest_2 rfl rfl ?_
  refine g_iload_n C (n' := 4) 3 rfl dX7_rest_3 rfl rfl ?_
  refine g_iload C (n' := 6) 4 rfl dX7_rest_4 rfl ?_
  refine g_cVv C (n' := 9) (v := .int (iI (-2))) (c_X7_traceRefusal_o l D Y C.2.2.2.2.2.2.2.2.1 q qt qd qn qs qk qh qp qr K t x i j ht ht2) 4 kw_612 kc_X7_traceRefusal (by decide +kernel) (pm0 _) 0 (ci := 5) rfl rfl rfl rfl ⟨Nat.le_of_ble_eq_true rfl, Nat.le_of_ble_eq_true rfl⟩ ⟨rfl, rfl⟩ ⟨Nat.le_of_ble_eq_true rfl, Nat.le_of_ble_eq_true rfl⟩ (Nat.le_of_ble_eq_true rfl) dX7_rest_6 rfl rfl (wTop q Y qt qd qn qs qk qh qp qr K) (pm0' _) ?_
  refine g_istore C (n' := 11) [(5, .int (iI (-2))), (0, .ref (q 99)), (1, .int (iI t)), (2, .int (iI x)), (3, .int (iI i)), (4, .int (iI j))] dX7_rest_9 rfl (by decide) rfl ?_
  refine g_iload C (n' := 13) 0 rfl dX7_rest_11 rfl ?_
  refine g_iconst C (n' := 14) dX7_rest_13 rfl ?_
  refine g_icmp_eq C (n' := 17) 20 dX7_rest_14 (by decide) rfl (by unfold inR; omega) (by unfold inR; omega) (fun c1 => ?_) (fun c1 => ?_)
  · skip
    exfalso
    omega
  · skip
    refine g_iload C (n' := 19) 0 rfl dX7_rest_17 rfl ?_
    refine g_iret C hr hlk rfl ⟨congrArg (fun z : Int => some (Value.int (iI z))) ?_, ?_⟩ dX7_rest_19
    · first | rfl | omega | ((repeat' split) <;> first | rfl | omega | (exfalso; omega))
    · first | rfl | omega | ((repeat' split) <;> first | rfl | omega | (exfalso; omega))
set_option maxRecDepth 100000 in
set_option maxHeartbeats 4000000 in
theorem c_X7_sum (l : Launch) (D : va_G) (Y : Nat → ClassId) {E : (Nat → Prop) → State → Heap → Prop} (hE : g_Stab E) (q : Nat → Nat) (qt qd qn qs : Nat → Nat) (qk : Nat → Nat → Nat) (qh qp : Nat → Nat) (qr : Nat → Nat → Nat) (K : Nat → Int) (Ir : Nat → Int) (V : Nat → UInt64) (M : Nat → Int) (t : Int) (x : Int) (hsIr : smI Ir) (hB : bN01 M) (h4 : 0 ≤ Ir 4 ∧ Ir 4 ≤ 8) (ht : 0 ≤ t ∧ t ≤ 2) (hx : inR x) : g_Ct l yX7_sum cX7_sum 4 (some FieldType.int) ({ frames := 2, cells := 0, slots := 0, locals := 47 } : Room) D (tysY Y) E [.ref (q 99), .int (iI t), .int (iI x)] ((wTop q Y qt qd qn qs qk qh qp qr K) ++ (wTrace (qr t.toNat) Y Ir V M)) 0 0 (fun r9 w9 => w9 = ((wTop q Y qt qd qn qs qk qh qp qr K) ++ (wTrace (qr t.toNat) Y Ir V M)) ∧ ((¬ (0 ≤ x ∧ x ≤ 1) ∧ r9 = some (.int (iI (-3)))) ∨ ((0 ≤ x ∧ x ≤ 1) ∧ ((Ir 2 = 0 ∧ r9 = some (.int (iI (-11)))) ∨ (Ir 2 ≠ 0 ∧ ((x = 0 ∧ (((∃ k : Nat, k < (Ir 4).toNat ∧ badA V M k) ∧ r9 = some (.int (iI (2000000)))) ∨ ((∀ k : Nat, k < (Ir 4).toNat → ¬ badA V M k) ∧ r9 = some (.int (iI (t_cut (FP.dmul (sumD V (Ir 4).toNat) 4652007308841189376))))))) ∨ (x ≠ 0 ∧ r9 = some (.int (iI (nnC M (Ir 4).toNat)))))))))) := by
  refine g_ofG (own := RX7) hE (by decide) rfl (Nat.le_of_ble_eq_true rfl) [(0, .ref (q 99)), (1, .int (iI t)), (2, .int (iI x))] rfl ?_
  intro p9 e9 s9 m9 b9 t9 c9 A9 C hr hlk hnm
  have hIr := hsIr
  unfold smI at hIr
  have hx9 := hx
  unfold inR at hx9
  refine g_iload_n C (n' := 1) 1 rfl dX7_sum_0 rfl rfl ?_
  refine g_cSv C (n' := 4) (v := .int (iI (if 0 ≤ t ∧ t ≤ 2 then 1 else 0))) (c_X7_isTrace l D Y C.2.2.2.2.2.2.2.2.1 t (by unfold inR at *; omega)) 1 kw_560 kc_X7_isTrace (by decide +kernel) (pm_n _) rfl ⟨Nat.le_of_ble_eq_true rfl, Nat.le_of_ble_eq_true rfl⟩ ⟨rfl, rfl⟩ ⟨Nat.le_of_ble_eq_true rfl, Nat.le_of_ble_eq_true rfl⟩ (Nat.le_of_ble_eq_true rfl) dX7_sum_1 rfl rfl ((wTop q Y qt qd qn qs qk qh qp qr K) ++ (wTrace (qr t.toNat) Y Ir V M)) (pm_n _) ?_
  refine g_if_ne C (n' := 7) 10 dX7_sum_4 (by decide) rfl bz_r (fun c1 => ?_) (fun c1 => ?_)
  · skip
    replace c1 := bz_ne.mp c1
    refine g_iload_n C (n' := 11) 2 rfl dX7_sum_10 rfl rfl ?_
    refine g_iconst C (n' := 12) dX7_sum_11 rfl ?_
    refine g_iconst C (n' := 13) dX7_sum_12 rfl ?_
    refine g_cSv C (n' := 16) (v := .int (iI (if 0 ≤ x ∧ x ≤ 1 then 1 else 0))) (c_X7_isWithin l D Y C.2.2.2.2.2.2.2.2.1 x 0 1 hx (by unfold inR at *; omega) (by unfold inR at *; omega)) 3 kw_217 kc_X7_isWithin (by decide +kernel) (pm_n _) rfl ⟨Nat.le_of_ble_eq_true rfl, Nat.le_of_ble_eq_true rfl⟩ ⟨rfl, rfl⟩ ⟨Nat.le_of_ble_eq_true rfl, Nat.le_of_ble_eq_true rfl⟩ (Nat.le_of_ble_eq_true rfl) dX7_sum_13 rfl rfl ((wTop q Y qt qd qn qs qk qh qp qr K) ++ (wTrace (qr t.toNat) Y Ir V M)) (pm_n _) ?_
    refine g_if_ne C (n' := 19) 22 dX7_sum_16 (by decide) rfl bz_r (fun c2 => ?_) (fun c2 => ?_)
    · skip
      replace c2 := bz_ne.mp c2
      refine g_aload_n C (n' := 23) 0 rfl dX7_sum_22 rfl rfl ?_
      refine g_get C (n' := 26) (Cn := RX7) (T := TX7) (N := 9) (ci := 5) (v := .ref (q 8)) ga_X7 0 rfl rfl 8 (by decide) kw_193 rfl rfl dX7_sum_23 rfl ?_
      refine g_iload_n C (n' := 27) 1 rfl dX7_sum_26 rfl rfl ?_
      refine g_aald C (n' := 28) (v := qr t.toNat 99) 3 6 rfl rfl (by omega) (by omega) (by decide) (if_pos (by omega)) dX7_sum_27 rfl ?_
      refine g_astore_n C (n' := 29) [(3, .ref ((qr t.toNat) 99)), (0, .ref (q 99)), (1, .int (iI t)), (2, .int (iI x))] dX7_sum_28 rfl rfl (by decide) rfl ?_
      refine g_aload_n C (n' := 30) 0 rfl dX7_sum_29 rfl rfl ?_
      refine g_cVv C (n' := 33) (v := .int (iI (if (Ir 2) = 0 then 1 else 0))) (c_X5_isMissing l D Y C.2.2.2.2.2.2.2.2.1 (qr t.toNat) Ir V M hsIr hB) 0 kw_643 kc_X5_isMissing (by decide +kernel) List.perm_append_comm 0 (ci := 4) rfl rfl rfl rfl ⟨Nat.le_of_ble_eq_true rfl, Nat.le_of_ble_eq_true rfl⟩ ⟨rfl, rfl⟩ ⟨Nat.le_of_ble_eq_true rfl, Nat.le_of_ble_eq_true rfl⟩ (Nat.le_of_ble_eq_true rfl) dX7_sum_30 rfl rfl ((wTop q Y qt qd qn qs qk qh qp qr K) ++ (wTrace (qr t.toNat) Y Ir V M)) List.perm_append_comm.symm ?_
      refine g_if_eq C (n' := 36) 39 dX7_sum_33 (by decide) rfl bz_r (fun c3 => ?_) (fun c3 => ?_)
      · skip
        replace c3 := bz_eq.mp c3
        refine g_iload_n C (n' := 40) 3 rfl dX7_sum_39 rfl rfl ?_
        refine g_if_ne C (n' := 43) 50 dX7_sum_40 (by decide) rfl (by unfold inR; omega) (fun c4 => ?_) (fun c4 => ?_)
        · skip
          refine g_aload_n C (n' := 51) 0 rfl dX7_sum_50 rfl rfl ?_
          refine g_cVv C (n' := 54) (v := .int (iI (nnC M ((Ir 4)).toNat))) (c_X5_noNumberCount l D Y C.2.2.2.2.2.2.2.2.1 (qr t.toNat) Ir V M hsIr hB h4) 0 kw_651 kc_X5_noNumberCount (by decide +kernel) List.perm_append_comm 0 (ci := 4) rfl rfl rfl rfl ⟨Nat.le_of_ble_eq_true rfl, Nat.le_of_ble_eq_true rfl⟩ ⟨rfl, rfl⟩ ⟨Nat.le_of_ble_eq_true rfl, Nat.le_of_ble_eq_true rfl⟩ (Nat.le_of_ble_eq_true rfl) dX7_sum_51 rfl rfl ((wTop q Y qt qd qn qs qk qh qp qr K) ++ (wTrace (qr t.toNat) Y Ir V M)) List.perm_append_comm.symm ?_
          exact g_iret C hr hlk rfl ⟨rfl, Or.inr ⟨by omega, Or.inr ⟨by omega, Or.inr ⟨by omega, rfl⟩⟩⟩⟩ dX7_sum_54
        · skip
          refine g_aload_n C (n' := 44) 0 rfl dX7_sum_43 rfl rfl ?_
          refine g_callV C (n' := 47) (c_X5_thousandOfAll l D Y C.2.2.2.2.2.2.2.2.1 (qr t.toNat) Ir V M hsIr hB h4) 0 kw_647 kc_X5_thousandOfAll (by decide +kernel) List.perm_append_comm 0 (ci := 4) rfl rfl rfl rfl ⟨Nat.le_of_ble_eq_true rfl, Nat.le_of_ble_eq_true rfl⟩ ⟨rfl, rfl⟩ ⟨Nat.le_of_ble_eq_true rfl, Nat.le_of_ble_eq_true rfl⟩ (Nat.le_of_ble_eq_true rfl) dX7_sum_44 rfl (fun r9 w9 hp5 => ?_)
          obtain ⟨rfl, (⟨hq0, rfl⟩ | ⟨hq0, rfl⟩)⟩ := hp5
          · skip
            refine g_perm (w' := ((wTop q Y qt qd qn qs qk qh qp qr K) ++ (wTrace (qr t.toNat) Y Ir V M))) List.perm_append_comm.symm ?_
            refine g_st (st' := [.int (iI 2000000)]) rfl ?_
            refine g_goto C 54 dX7_sum_47 (by decide) ?_
            exact g_iret C hr hlk rfl ⟨rfl, Or.inr ⟨by omega, Or.inr ⟨by omega, Or.inl ⟨by omega, Or.inl ⟨hq0, rfl⟩⟩⟩⟩⟩ dX7_sum_54
          · skip
            refine g_perm (w' := ((wTop q Y qt qd qn qs qk qh qp qr K) ++ (wTrace (qr t.toNat) Y Ir V M))) List.perm_append_comm.symm ?_
            refine g_st (st' := [.int (iI (t_cut (FP.dmul (sumD V (Ir 4).toNat) 4652007308841189376)))]) rfl ?_
            refine g_goto C 54 dX7_sum_47 (by decide) ?_
            exact g_iret C hr hlk rfl ⟨rfl, Or.inr ⟨by omega, Or.inr ⟨by omega, Or.inl ⟨by omega, Or.inr ⟨hq0, rfl⟩⟩⟩⟩⟩ dX7_sum_54
      · skip
        replace c3 := bz_neq.mp c3
        refine g_bipush C (n' := 38) (by decide) dX7_sum_36 rfl ?_
        exact g_iret C hr hlk rfl ⟨rfl, Or.inr ⟨by omega, Or.inl ⟨by omega, rfl⟩⟩⟩ dX7_sum_38
    · skip
      replace c2 := bz_nne.mp c2
      refine g_bipush C (n' := 21) (by decide) dX7_sum_19 rfl ?_
      exact g_iret C hr hlk rfl ⟨rfl, Or.inl ⟨by omega, rfl⟩⟩ dX7_sum_21
  · skip
    replace c1 := bz_nne.mp c1
    exfalso
    omega
set_option maxRecDepth 100000 in
set_option maxHeartbeats 4000000 in
theorem c_X7_sum_o (l : Launch) (D : va_G) (Y : Nat → ClassId) {E : (Nat → Prop) → State → Heap → Prop} (hE : g_Stab E) (q : Nat → Nat) (qt qd qn qs : Nat → Nat) (qk : Nat → Nat → Nat) (qh qp : Nat → Nat) (qr : Nat → Nat → Nat) (K : Nat → Int) (t : Int) (x : Int) (ht : ¬ (0 ≤ t ∧ t ≤ 2)) (ht2 : inR t) : g_Ct l yX7_sum cX7_sum 4 (some FieldType.int) ({ frames := 2, cells := 0, slots := 0, locals := 47 } : Room) D (tysY Y) E [.ref (q 99), .int (iI t), .int (iI x)] (wTop q Y qt qd qn qs qk qh qp qr K) 0 0 (g_det (some (.int (iI (-2)))) (wTop q Y qt qd qn qs qk qh qp qr K)) := by
  refine g_ofG (own := RX7) hE (by decide) rfl (Nat.le_of_ble_eq_true rfl) [(0, .ref (q 99)), (1, .int (iI t)), (2, .int (iI x))] rfl ?_
  intro p9 e9 s9 m9 b9 t9 c9 A9 C hr hlk hnm
  have ht29 := ht2
  unfold inR at ht29
  refine g_iload_n C (n' := 1) 1 rfl dX7_sum_0 rfl rfl ?_
  refine g_cSv C (n' := 4) (v := .int (iI (if 0 ≤ t ∧ t ≤ 2 then 1 else 0))) (c_X7_isTrace l D Y C.2.2.2.2.2.2.2.2.1 t ht2) 1 kw_560 kc_X7_isTrace (by decide +kernel) (pm_n _) rfl ⟨Nat.le_of_ble_eq_true rfl, Nat.le_of_ble_eq_true rfl⟩ ⟨rfl, rfl⟩ ⟨Nat.le_of_ble_eq_true rfl, Nat.le_of_ble_eq_true rfl⟩ (Nat.le_of_ble_eq_true rfl) dX7_sum_1 rfl rfl (wTop q Y qt qd qn qs qk qh qp qr K) (pm_n _) ?_
  refine g_if_ne C (n' := 7) 10 dX7_sum_4 (by decide) rfl bz_r (fun c1 => ?_) (fun c1 => ?_)
  · skip
    replace c1 := bz_ne.mp c1
    exfalso
    omega
  · skip
    replace c1 := bz_nne.mp c1
    refine g_bipush C (n' := 9) (by decide) dX7_sum_7 rfl ?_
    refine g_iret C hr hlk rfl ⟨congrArg (fun z : Int => some (Value.int (iI z))) ?_, ?_⟩ dX7_sum_9
    · first | rfl | omega | ((repeat' split) <;> first | rfl | omega | (exfalso; omega))
    · first | rfl | omega | ((repeat' split) <;> first | rfl | omega | (exfalso; omega))
set_option maxRecDepth 100000 in
set_option maxHeartbeats 4000000 in
theorem c_X7_drop (l : Launch) (D : va_G) (Y : Nat → ClassId) {E : (Nat → Prop) → State → Heap → Prop} (hE : g_Stab E) (q : Nat → Nat) (qt qd qn qs : Nat → Nat) (qk : Nat → Nat → Nat) (qh qp : Nat → Nat) (qr : Nat → Nat → Nat) (K : Nat → Int) (Ir : Nat → Int) (V : Nat → UInt64) (M : Nat → Int) (t : Int) (hsIr : smI Ir) (hB : bN01 M) (h4 : 0 ≤ Ir 4 ∧ Ir 4 ≤ 8) (ht : 0 ≤ t ∧ t ≤ 2) : g_Ct l yX7_drop cX7_drop 4 (some FieldType.int) ({ frames := 2, cells := 0, slots := 0, locals := 42 } : Room) D (tysY Y) E [.ref (q 99), .int (iI t)] ((wTop q Y qt qd qn qs qk qh qp qr K) ++ (wTrace (qr t.toNat) Y Ir V M)) 0 0 (fun r9 w9 => (Ir 2 = 0 ∧ r9 = some (.int (iI (-11))) ∧ w9 = ((wTop q Y qt qd qn qs qk qh qp qr K) ++ (wTrace (qr t.toNat) Y Ir V M))) ∨ (Ir 2 ≠ 0 ∧ r9 = some (.int (iI (Ir 4))) ∧ w9 = ((wTop q Y qt qd qn qs qk qh qp qr K) ++ (wTrace (qr t.toNat) Y (sU (sU Ir 2 0) 4 0) V M)))) := by
  refine g_ofG (own := RX7) hE (by decide) rfl (Nat.le_of_ble_eq_true rfl) [(0, .ref (q 99)), (1, .int (iI t))] rfl ?_
  intro p9 e9 s9 m9 b9 t9 c9 A9 C hr hlk hnm
  have hIr := hsIr
  unfold smI at hIr
  refine g_iload_n C (n' := 1) 1 rfl dX7_drop_0 rfl rfl ?_
  refine g_cSv C (n' := 4) (v := .int (iI (if 0 ≤ t ∧ t ≤ 2 then 1 else 0))) (c_X7_isTrace l D Y C.2.2.2.2.2.2.2.2.1 t (by unfold inR at *; omega)) 1 kw_560 kc_X7_isTrace (by decide +kernel) (pm_n _) rfl ⟨Nat.le_of_ble_eq_true rfl, Nat.le_of_ble_eq_true rfl⟩ ⟨rfl, rfl⟩ ⟨Nat.le_of_ble_eq_true rfl, Nat.le_of_ble_eq_true rfl⟩ (Nat.le_of_ble_eq_true rfl) dX7_drop_1 rfl rfl ((wTop q Y qt qd qn qs qk qh qp qr K) ++ (wTrace (qr t.toNat) Y Ir V M)) (pm_n _) ?_
  refine g_if_ne C (n' := 7) 10 dX7_drop_4 (by decide) rfl bz_r (fun c1 => ?_) (fun c1 => ?_)
  · skip
    replace c1 := bz_ne.mp c1
    refine g_aload_n C (n' := 11) 0 rfl dX7_drop_10 rfl rfl ?_
    refine g_get C (n' := 14) (Cn := RX7) (T := TX7) (N := 9) (ci := 5) (v := .ref (q 8)) ga_X7 0 rfl rfl 8 (by decide) kw_193 rfl rfl dX7_drop_11 rfl ?_
    refine g_iload_n C (n' := 15) 1 rfl dX7_drop_14 rfl rfl ?_
    refine g_aald C (n' := 16) (v := qr t.toNat 99) 3 6 rfl rfl (by omega) (by omega) (by decide) (if_pos (by omega)) dX7_drop_15 rfl ?_
    refine g_astore_n C (n' := 17) [(2, .ref ((qr t.toNat) 99)), (0, .ref (q 99)), (1, .int (iI t))] dX7_drop_16 rfl rfl (by decide) rfl ?_
    refine g_aload_n C (n' := 18) 0 rfl dX7_drop_17 rfl rfl ?_
    refine g_cVv C (n' := 21) (v := .int (iI (if (Ir 2) = 0 then 1 else 0))) (c_X5_isMissing l D Y C.2.2.2.2.2.2.2.2.1 (qr t.toNat) Ir V M hsIr hB) 0 kw_643 kc_X5_isMissing (by decide +kernel) List.perm_append_comm 0 (ci := 4) rfl rfl rfl rfl ⟨Nat.le_of_ble_eq_true rfl, Nat.le_of_ble_eq_true rfl⟩ ⟨rfl, rfl⟩ ⟨Nat.le_of_ble_eq_true rfl, Nat.le_of_ble_eq_true rfl⟩ (Nat.le_of_ble_eq_true rfl) dX7_drop_18 rfl rfl ((wTop q Y qt qd qn qs qk qh qp qr K) ++ (wTrace (qr t.toNat) Y Ir V M)) List.perm_append_comm.symm ?_
    refine g_if_eq C (n' := 24) 27 dX7_drop_21 (by decide) rfl bz_r (fun c2 => ?_) (fun c2 => ?_)
    · skip
      replace c2 := bz_eq.mp c2
      refine g_aload_n C (n' := 28) 0 rfl dX7_drop_27 rfl rfl ?_
      refine g_cVv C (n' := 31) (v := .int (iI ((Ir 4)))) (c_X5_placeCount l D Y C.2.2.2.2.2.2.2.2.1 (qr t.toNat) Ir V M) 0 kw_659 kc_X5_placeCount (by decide +kernel) List.perm_append_comm 0 (ci := 4) rfl rfl rfl rfl ⟨Nat.le_of_ble_eq_true rfl, Nat.le_of_ble_eq_true rfl⟩ ⟨rfl, rfl⟩ ⟨Nat.le_of_ble_eq_true rfl, Nat.le_of_ble_eq_true rfl⟩ (Nat.le_of_ble_eq_true rfl) dX7_drop_28 rfl rfl ((wTop q Y qt qd qn qs qk qh qp qr K) ++ (wTrace (qr t.toNat) Y Ir V M)) List.perm_append_comm.symm ?_
      refine g_istore_n C (n' := 32) [(3, .int (iI ((Ir 4)))), (2, .ref ((qr t.toNat) 99)), (0, .ref (q 99)), (1, .int (iI t))] dX7_drop_31 rfl rfl (by decide) rfl ?_
      refine g_aload_n C (n' := 33) 1 rfl dX7_drop_32 rfl rfl ?_
      refine g_cVn C (n' := 36) (c_X5_lose l D Y C.2.2.2.2.2.2.2.2.1 (qr t.toNat) Ir V M) 0 kw_368 kc_X5_lose (by decide +kernel) List.perm_append_comm 0 (ci := 4) rfl rfl rfl rfl ⟨Nat.le_of_ble_eq_true rfl, Nat.le_of_ble_eq_true rfl⟩ ⟨rfl, rfl⟩ ⟨Nat.le_of_ble_eq_true rfl, Nat.le_of_ble_eq_true rfl⟩ (Nat.le_of_ble_eq_true rfl) dX7_drop_33 rfl rfl ((wTop q Y qt qd qn qs qk qh qp qr K) ++ (wTrace (qr t.toNat) Y (sU (sU Ir 2 0) 4 0) V M)) List.perm_append_comm.symm ?_
      refine g_iload_n C (n' := 37) 0 rfl dX7_drop_36 rfl rfl ?_
      exact g_iret C hr hlk rfl (Or.inr ⟨by omega, rfl, rfl⟩) dX7_drop_37
    · skip
      replace c2 := bz_neq.mp c2
      refine g_bipush C (n' := 26) (by decide) dX7_drop_24 rfl ?_
      exact g_iret C hr hlk rfl (Or.inl ⟨by omega, rfl, rfl⟩) dX7_drop_26
  · skip
    replace c1 := bz_nne.mp c1
    exfalso
    omega
set_option maxRecDepth 100000 in
set_option maxHeartbeats 4000000 in
theorem c_X7_drop_o (l : Launch) (D : va_G) (Y : Nat → ClassId) {E : (Nat → Prop) → State → Heap → Prop} (hE : g_Stab E) (q : Nat → Nat) (qt qd qn qs : Nat → Nat) (qk : Nat → Nat → Nat) (qh qp : Nat → Nat) (qr : Nat → Nat → Nat) (K : Nat → Int) (t : Int) (ht : ¬ (0 ≤ t ∧ t ≤ 2)) (ht2 : inR t) : g_Ct l yX7_drop cX7_drop 4 (some FieldType.int) ({ frames := 2, cells := 0, slots := 0, locals := 42 } : Room) D (tysY Y) E [.ref (q 99), .int (iI t)] (wTop q Y qt qd qn qs qk qh qp qr K) 0 0 (g_det (some (.int (iI (-2)))) (wTop q Y qt qd qn qs qk qh qp qr K)) := by
  refine g_ofG (own := RX7) hE (by decide) rfl (Nat.le_of_ble_eq_true rfl) [(0, .ref (q 99)), (1, .int (iI t))] rfl ?_
  intro p9 e9 s9 m9 b9 t9 c9 A9 C hr hlk hnm
  have ht29 := ht2
  unfold inR at ht29
  refine g_iload_n C (n' := 1) 1 rfl dX7_drop_0 rfl rfl ?_
  refine g_cSv C (n' := 4) (v := .int (iI (if 0 ≤ t ∧ t ≤ 2 then 1 else 0))) (c_X7_isTrace l D Y C.2.2.2.2.2.2.2.2.1 t ht2) 1 kw_560 kc_X7_isTrace (by decide +kernel) (pm_n _) rfl ⟨Nat.le_of_ble_eq_true rfl, Nat.le_of_ble_eq_true rfl⟩ ⟨rfl, rfl⟩ ⟨Nat.le_of_ble_eq_true rfl, Nat.le_of_ble_eq_true rfl⟩ (Nat.le_of_ble_eq_true rfl) dX7_drop_1 rfl rfl (wTop q Y qt qd qn qs qk qh qp qr K) (pm_n _) ?_
  refine g_if_ne C (n' := 7) 10 dX7_drop_4 (by decide) rfl bz_r (fun c1 => ?_) (fun c1 => ?_)
  · skip
    replace c1 := bz_ne.mp c1
    exfalso
    omega
  · skip
    replace c1 := bz_nne.mp c1
    refine g_bipush C (n' := 9) (by decide) dX7_drop_7 rfl ?_
    refine g_iret C hr hlk rfl ⟨congrArg (fun z : Int => some (Value.int (iI z))) ?_, ?_⟩ dX7_drop_9
    · first | rfl | omega | ((repeat' split) <;> first | rfl | omega | (exfalso; omega))
    · first | rfl | omega | ((repeat' split) <;> first | rfl | omega | (exfalso; omega))
set_option maxRecDepth 100000 in
set_option maxHeartbeats 4000000 in
theorem c_X7_placesOfAllTraces (l : Launch) (D : va_G) (Y : Nat → ClassId) {E : (Nat → Prop) → State → Heap → Prop} (hE : g_Stab E) (q : Nat → Nat) (qt qd qn qs : Nat → Nat) (qk : Nat → Nat → Nat) (qh qp : Nat → Nat) (qr : Nat → Nat → Nat) (K : Nat → Int) (Ir0 : Nat → Int) (V0 : Nat → UInt64) (M0 : Nat → Int) (Ir1 : Nat → Int) (V1 : Nat → UInt64) (M1 : Nat → Int) (Ir2 : Nat → Int) (V2 : Nat → UInt64) (M2 : Nat → Int) : g_Ct l yX7_placesOfAllTraces cX7_placesOfAllTraces 3 (some FieldType.int) ({ frames := 1, cells := 0, slots := 0, locals := 20 } : Room) D (tysY Y) E [.ref (q 99)] ((wTop q Y qt qd qn qs qk qh qp qr K) ++ ((wTrace (qr 0) Y Ir0 V0 M0) ++ ((wTrace (qr 1) Y Ir1 V1 M1) ++ (wTrace (qr 2) Y Ir2 V2 M2)))) 0 0 (g_det (some (.int (iI (Ir0 4 + Ir1 4 + Ir2 4)))) ((wTop q Y qt qd qn qs qk qh qp qr K) ++ ((wTrace (qr 0) Y Ir0 V0 M0) ++ ((wTrace (qr 1) Y Ir1 V1 M1) ++ (wTrace (qr 2) Y Ir2 V2 M2))))) := by
  refine g_ofG (own := RX7) hE (by decide) rfl (Nat.le_of_ble_eq_true rfl) [(0, .ref (q 99))] rfl ?_
  intro p9 e9 s9 m9 b9 t9 c9 A9 C hr hlk hnm
  refine g_iconst C (n' := 1) dX7_placesOfAllTraces_0 rfl ?_
  refine g_istore_n C (n' := 2) [(1, .int (iI 0)), (0, .ref (q 99))] dX7_placesOfAllTraces_1 rfl rfl (by decide) rfl ?_
  refine g_iconst C (n' := 3) dX7_placesOfAllTraces_2 rfl ?_
  refine g_istore_n C (n' := 4) [(2, .int (iI 0)), (1, .int (iI 0)), (0, .ref (q 99))] dX7_placesOfAllTraces_3 rfl rfl (by decide) rfl ?_
  refine g_iload_n C (n' := 5) 0 rfl dX7_placesOfAllTraces_4 rfl rfl ?_
  refine g_iconst C (n' := 6) dX7_placesOfAllTraces_5 rfl ?_
  refine g_icmp_ge C (n' := 9) 27 dX7_placesOfAllTraces_6 (by decide) rfl (by unfold inR; omega) (by unfold inR; omega) (fun c1 => ?_) (fun c1 => ?_)
  · skip
    exfalso
    omega
  · skip
    refine g_iload_n C (n' := 10) 1 rfl dX7_placesOfAllTraces_9 rfl rfl ?_
    refine g_aload_n C (n' := 11) 2 rfl dX7_placesOfAllTraces_10 rfl rfl ?_
    refine g_get C (n' := 14) (Cn := RX7) (T := TX7) (N := 9) (ci := 5) (v := .ref (q 8)) ga_X7 0 rfl rfl 8 (by decide) kw_193 rfl rfl dX7_placesOfAllTraces_11 rfl ?_
    refine g_iload_n C (n' := 15) 0 rfl dX7_placesOfAllTraces_14 rfl rfl ?_
    refine g_aald C (n' := 16) (v := qr 0 99) 3 6 rfl rfl (by decide) (by decide) (by decide) (if_pos (by omega)) dX7_placesOfAllTraces_15 rfl ?_
    refine g_cVv C (n' := 19) (v := .int (iI ((Ir0 4)))) (c_X5_placeCount l D Y C.2.2.2.2.2.2.2.2.1 (qr 0) Ir0 V0 M0) 0 kw_659 kc_X5_placeCount (by decide +kernel) (pm_s (List.Perm.refl _)) 0 (ci := 4) rfl rfl rfl rfl ⟨Nat.le_of_ble_eq_true rfl, Nat.le_of_ble_eq_true rfl⟩ ⟨rfl, rfl⟩ ⟨Nat.le_of_ble_eq_true rfl, Nat.le_of_ble_eq_true rfl⟩ (Nat.le_of_ble_eq_true rfl) dX7_placesOfAllTraces_16 rfl rfl ((wTop q Y qt qd qn qs qk qh qp qr K) ++ ((wTrace (qr 0) Y Ir0 V0 M0) ++ ((wTrace (qr 1) Y Ir1 V1 M1) ++ (wTrace (qr 2) Y Ir2 V2 M2)))) (pm_s (List.Perm.refl _)).symm ?_
    refine g_iadd C (n' := 20) dX7_placesOfAllTraces_19 rfl ?_
    refine g_istore_n C (n' := 21) [(1, .int (iI (0 + ((Ir0 4))))), (2, .int (iI 0)), (0, .ref (q 99))] dX7_placesOfAllTraces_20 rfl rfl (by decide) rfl ?_
    refine g_iinc C (n' := 24) 1 [(2, .int (iI 1)), (1, .int (iI (0 + ((Ir0 4))))), (0, .ref (q 99))] rfl dX7_placesOfAllTraces_21 rfl (by decide) rfl ?_
    refine g_goto C 4 dX7_placesOfAllTraces_24 (by decide) ?_
    refine g_iload_n C (n' := 5) 0 rfl dX7_placesOfAllTraces_4 rfl rfl ?_
    refine g_iconst C (n' := 6) dX7_placesOfAllTraces_5 rfl ?_
    refine g_icmp_ge C (n' := 9) 27 dX7_placesOfAllTraces_6 (by decide) rfl (by unfold inR; omega) (by unfold inR; omega) (fun c2 => ?_) (fun c2 => ?_)
    · skip
      exfalso
      omega
    · skip
      refine g_iload_n C (n' := 10) 1 rfl dX7_placesOfAllTraces_9 rfl rfl ?_
      refine g_aload_n C (n' := 11) 2 rfl dX7_placesOfAllTraces_10 rfl rfl ?_
      refine g_get C (n' := 14) (Cn := RX7) (T := TX7) (N := 9) (ci := 5) (v := .ref (q 8)) ga_X7 0 rfl rfl 8 (by decide) kw_193 rfl rfl dX7_placesOfAllTraces_11 rfl ?_
      refine g_iload_n C (n' := 15) 0 rfl dX7_placesOfAllTraces_14 rfl rfl ?_
      refine g_aald C (n' := 16) (v := qr 1 99) 3 6 rfl rfl (by decide) (by decide) (by decide) (if_pos (by omega)) dX7_placesOfAllTraces_15 rfl ?_
      refine g_cVv C (n' := 19) (v := .int (iI ((Ir1 4)))) (c_X5_placeCount l D Y C.2.2.2.2.2.2.2.2.1 (qr 1) Ir1 V1 M1) 0 kw_659 kc_X5_placeCount (by decide +kernel) (pm_s (pm_s (List.Perm.refl _))) 0 (ci := 4) rfl rfl rfl rfl ⟨Nat.le_of_ble_eq_true rfl, Nat.le_of_ble_eq_true rfl⟩ ⟨rfl, rfl⟩ ⟨Nat.le_of_ble_eq_true rfl, Nat.le_of_ble_eq_true rfl⟩ (Nat.le_of_ble_eq_true rfl) dX7_placesOfAllTraces_16 rfl rfl ((wTop q Y qt qd qn qs qk qh qp qr K) ++ ((wTrace (qr 0) Y Ir0 V0 M0) ++ ((wTrace (qr 1) Y Ir1 V1 M1) ++ (wTrace (qr 2) Y Ir2 V2 M2)))) (pm_s (pm_s (List.Perm.refl _))).symm ?_
      refine g_iadd C (n' := 20) dX7_placesOfAllTraces_19 rfl ?_
      refine g_istore_n C (n' := 21) [(1, .int (iI ((0 + ((Ir0 4))) + ((Ir1 4))))), (2, .int (iI 1)), (0, .ref (q 99))] dX7_placesOfAllTraces_20 rfl rfl (by decide) rfl ?_
      refine g_iinc C (n' := 24) 1 [(2, .int (iI 2)), (1, .int (iI ((0 + ((Ir0 4))) + ((Ir1 4))))), (0, .ref (q 99))] rfl dX7_placesOfAllTraces_21 rfl (by decide) rfl ?_
      refine g_goto C 4 dX7_placesOfAllTraces_24 (by decide) ?_
      refine g_iload_n C (n' := 5) 0 rfl dX7_placesOfAllTraces_4 rfl rfl ?_
      refine g_iconst C (n' := 6) dX7_placesOfAllTraces_5 rfl ?_
      refine g_icmp_ge C (n' := 9) 27 dX7_placesOfAllTraces_6 (by decide) rfl (by unfold inR; omega) (by unfold inR; omega) (fun c3 => ?_) (fun c3 => ?_)
      · skip
        exfalso
        omega
      · skip
        refine g_iload_n C (n' := 10) 1 rfl dX7_placesOfAllTraces_9 rfl rfl ?_
        refine g_aload_n C (n' := 11) 2 rfl dX7_placesOfAllTraces_10 rfl rfl ?_
        refine g_get C (n' := 14) (Cn := RX7) (T := TX7) (N := 9) (ci := 5) (v := .ref (q 8)) ga_X7 0 rfl rfl 8 (by decide) kw_193 rfl rfl dX7_placesOfAllTraces_11 rfl ?_
        refine g_iload_n C (n' := 15) 0 rfl dX7_placesOfAllTraces_14 rfl rfl ?_
        refine g_aald C (n' := 16) (v := qr 2 99) 3 6 rfl rfl (by decide) (by decide) (by decide) (if_pos (by omega)) dX7_placesOfAllTraces_15 rfl ?_
        refine g_cVv C (n' := 19) (v := .int (iI ((Ir2 4)))) (c_X5_placeCount l D Y C.2.2.2.2.2.2.2.2.1 (qr 2) Ir2 V2 M2) 0 kw_659 kc_X5_placeCount (by decide +kernel) (pm_s (pm_s List.perm_append_comm)) 0 (ci := 4) rfl rfl rfl rfl ⟨Nat.le_of_ble_eq_true rfl, Nat.le_of_ble_eq_true rfl⟩ ⟨rfl, rfl⟩ ⟨Nat.le_of_ble_eq_true rfl, Nat.le_of_ble_eq_true rfl⟩ (Nat.le_of_ble_eq_true rfl) dX7_placesOfAllTraces_16 rfl rfl ((wTop q Y qt qd qn qs qk qh qp qr K) ++ ((wTrace (qr 0) Y Ir0 V0 M0) ++ ((wTrace (qr 1) Y Ir1 V1 M1) ++ (wTrace (qr 2) Y Ir2 V2 M2)))) (pm_s (pm_s List.perm_append_comm)).symm ?_
        refine g_iadd C (n' := 20) dX7_placesOfAllTraces_19 rfl ?_
        refine g_istore_n C (n' := 21) [(1, .int (iI (((0 + ((Ir0 4))) + ((Ir1 4))) + ((Ir2 4))))), (2, .int (iI 2)), (0, .ref (q 99))] dX7_placesOfAllTraces_20 rfl rfl (by decide) rfl ?_
        refine g_iinc C (n' := 24) 1 [(2, .int (iI 3)), (1, .int (iI (((0 + ((Ir0 4))) + ((Ir1 4))) + ((Ir2 4))))), (0, .ref (q 99))] rfl dX7_placesOfAllTraces_21 rfl (by decide) rfl ?_
        refine g_goto C 4 dX7_placesOfAllTraces_24 (by decide) ?_
        refine g_iload_n C (n' := 5) 0 rfl dX7_placesOfAllTraces_4 rfl rfl ?_
        refine g_iconst C (n' := 6) dX7_placesOfAllTraces_5 rfl ?_
        refine g_icmp_ge C (n' := 9) 27 dX7_placesOfAllTraces_6 (by decide) rfl (by unfold inR; omega) (by unfold inR; omega) (fun c4 => ?_) (fun c4 => ?_)
        · skip
          refine g_iload_n C (n' := 28) 1 rfl dX7_placesOfAllTraces_27 rfl rfl ?_
          exact g_iret C hr hlk rfl ⟨congrArg (fun z : Int => some (Value.int (iI z))) (by omega), rfl⟩ dX7_placesOfAllTraces_28
        · skip
          exfalso
          omega
set_option maxRecDepth 100000 in
set_option maxHeartbeats 4000000 in
theorem c_X7_count (l : Launch) (D : va_G) (Y : Nat → ClassId) {E : (Nat → Prop) → State → Heap → Prop} (hE : g_Stab E) (q : Nat → Nat) (qt qd qn qs : Nat → Nat) (qk : Nat → Nat → Nat) (qh qp : Nat → Nat) (qr : Nat → Nat → Nat) (K : Nat → Int) (It : Nat → Int) (L : Nat → Int) (J : Nat → Int) (N : Nat → Nat → Int) (Ih : Nat → Int) (Ah : Nat → Nat → Int) (Ir0 : Nat → Int) (V0 : Nat → UInt64) (M0 : Nat → Int) (Ir1 : Nat → Int) (V1 : Nat → UInt64) (M1 : Nat → Int) (Ir2 : Nat → Int) (V2 : Nat → UInt64) (M2 : Nat → Int) (x : Int) (hsJ : smI J) (hsN : smA N) (hO : okN J N) (hx : inR x) : g_Ct l yX7_count cX7_count 2 (some FieldType.int) ({ frames := 2, cells := 0, slots := 0, locals := 43 } : Room) D (tysY Y) E [.ref (q 99), .int (iI x)] ((wTop q Y qt qd qn qs qk qh qp qr K) ++ ((wText qt Y It L) ++ ((wNet qn Y J N) ++ ((wHist qh Y Ih Ah) ++ ((wTrace (qr 0) Y Ir0 V0 M0) ++ ((wTrace (qr 1) Y Ir1 V1 M1) ++ (wTrace (qr 2) Y Ir2 V2 M2))))))) 0 0 (g_det (some (.int (iI (coV J N (Ir0 4 + Ir1 4 + Ir2 4) (Ih 3) (It 1) x)))) ((wTop q Y qt qd qn qs qk qh qp qr K) ++ ((wText qt Y It L) ++ ((wNet qn Y J N) ++ ((wHist qh Y Ih Ah) ++ ((wTrace (qr 0) Y Ir0 V0 M0) ++ ((wTrace (qr 1) Y Ir1 V1 M1) ++ (wTrace (qr 2) Y Ir2 V2 M2)))))))) := by
  refine g_ofG (own := RX7) hE (by decide) rfl (Nat.le_of_ble_eq_true rfl) [(0, .ref (q 99)), (1, .int (iI x))] rfl ?_
  intro p9 e9 s9 m9 b9 t9 c9 A9 C hr hlk hnm
  have hJ := hsJ
  unfold smI at hJ
  have hN := hsN
  unfold smA at hN
  have hO9 := hO
  unfold okN at hO9
  have hx9 := hx
  unfold inR at hx9
  refine g_iload_n C (n' := 1) 1 rfl dX7_count_0 rfl rfl ?_
  by_cases c1 : x = 0
  · skip
    refine g_tsIn C 56 dX7_count_1 (by unfold inR; omega) (by omega) (by omega) (by rw [c1]; rfl) (by decide) ?_
    refine g_aload_n C (n' := 57) 0 rfl dX7_count_56 rfl rfl ?_
    refine g_get C (n' := 60) (Cn := RX7) (T := TX7) (N := 9) (ci := 5) (v := .ref (qn 99)) ga_X7 0 rfl rfl 2 (by decide) kw_187 rfl rfl dX7_count_57 rfl ?_
    refine g_getN C (n' := 63) (Cn := RX2) (T := TX2) (N := 10) (ci := 1) (v := .int (iI (J 0))) ga_X2 6 rfl rfl 0 (by decide) (List.mem_of_getElem? (i := 3) rfl) rfl rfl dX7_count_60 rfl ?_
    have h_60 := hJ 0
    exact g_iret C hr hlk rfl ⟨congrArg (fun z : Int => some (Value.int (iI z))) (by unfold coV; (repeat' split) <;> first | rfl | omega), rfl⟩ dX7_count_63
  by_cases c2 : x = 1
  · skip
    refine g_tsIn C 64 dX7_count_1 (by unfold inR; omega) (by omega) (by omega) (by rw [c2]; rfl) (by decide) ?_
    refine g_aload_n C (n' := 65) 0 rfl dX7_count_64 rfl rfl ?_
    refine g_get C (n' := 68) (Cn := RX7) (T := TX7) (N := 9) (ci := 5) (v := .ref (qn 99)) ga_X7 0 rfl rfl 2 (by decide) kw_187 rfl rfl dX7_count_65 rfl ?_
    refine g_getN C (n' := 71) (Cn := RX2) (T := TX2) (N := 10) (ci := 1) (v := .int (iI (J 5))) ga_X2 6 rfl rfl 5 (by decide) (List.mem_of_getElem? (i := 13) rfl) rfl rfl dX7_count_68 rfl ?_
    have h_68 := hJ 5
    exact g_iret C hr hlk rfl ⟨congrArg (fun z : Int => some (Value.int (iI z))) (by unfold coV; (repeat' split) <;> first | rfl | omega), rfl⟩ dX7_count_71
  by_cases c3 : x = 2
  · skip
    refine g_tsIn C 72 dX7_count_1 (by unfold inR; omega) (by omega) (by omega) (by rw [c3]; rfl) (by decide) ?_
    refine g_aload_n C (n' := 73) 0 rfl dX7_count_72 rfl rfl ?_
    refine g_get C (n' := 76) (Cn := RX7) (T := TX7) (N := 9) (ci := 5) (v := .ref (qn 99)) ga_X7 0 rfl rfl 2 (by decide) kw_187 rfl rfl dX7_count_73 rfl ?_
    refine g_getN C (n' := 79) (Cn := RX2) (T := TX2) (N := 10) (ci := 1) (v := .int (iI (J 1))) ga_X2 6 rfl rfl 1 (by decide) (List.mem_of_getElem? (i := 5) rfl) rfl rfl dX7_count_76 rfl ?_
    have h_76 := hJ 1
    exact g_iret C hr hlk rfl ⟨congrArg (fun z : Int => some (Value.int (iI z))) (by unfold coV; (repeat' split) <;> first | rfl | omega), rfl⟩ dX7_count_79
  by_cases c4 : x = 3
  · skip
    refine g_tsIn C 80 dX7_count_1 (by unfold inR; omega) (by omega) (by omega) (by rw [c4]; rfl) (by decide) ?_
    refine g_aload_n C (n' := 81) 0 rfl dX7_count_80 rfl rfl ?_
    refine g_get C (n' := 84) (Cn := RX7) (T := TX7) (N := 9) (ci := 5) (v := .ref (qn 99)) ga_X7 0 rfl rfl 2 (by decide) kw_187 rfl rfl dX7_count_81 rfl ?_
    refine g_getN C (n' := 87) (Cn := RX2) (T := TX2) (N := 10) (ci := 1) (v := .int (iI (J 2))) ga_X2 6 rfl rfl 2 (by decide) (List.mem_of_getElem? (i := 6) rfl) rfl rfl dX7_count_84 rfl ?_
    have h_84 := hJ 2
    exact g_iret C hr hlk rfl ⟨congrArg (fun z : Int => some (Value.int (iI z))) (by unfold coV; (repeat' split) <;> first | rfl | omega), rfl⟩ dX7_count_87
  by_cases c5 : x = 4
  · skip
    refine g_tsIn C 88 dX7_count_1 (by unfold inR; omega) (by omega) (by omega) (by rw [c5]; rfl) (by decide) ?_
    refine g_aload_n C (n' := 89) 0 rfl dX7_count_88 rfl rfl ?_
    refine g_get C (n' := 92) (Cn := RX7) (T := TX7) (N := 9) (ci := 5) (v := .ref (qn 99)) ga_X7 0 rfl rfl 2 (by decide) kw_187 rfl rfl dX7_count_89 rfl ?_
    refine g_getN C (n' := 95) (Cn := RX2) (T := TX2) (N := 10) (ci := 1) (v := .int (iI (J 3))) ga_X2 6 rfl rfl 3 (by decide) (List.mem_of_getElem? (i := 8) rfl) rfl rfl dX7_count_92 rfl ?_
    have h_92 := hJ 3
    exact g_iret C hr hlk rfl ⟨congrArg (fun z : Int => some (Value.int (iI z))) (by unfold coV; (repeat' split) <;> first | rfl | omega), rfl⟩ dX7_count_95
  by_cases c6 : x = 5
  · skip
    refine g_tsIn C 96 dX7_count_1 (by unfold inR; omega) (by omega) (by omega) (by rw [c6]; rfl) (by decide) ?_
    refine g_aload_n C (n' := 97) 0 rfl dX7_count_96 rfl rfl ?_
    refine g_get C (n' := 100) (Cn := RX7) (T := TX7) (N := 9) (ci := 5) (v := .ref (qn 99)) ga_X7 0 rfl rfl 2 (by decide) kw_187 rfl rfl dX7_count_97 rfl ?_
    refine g_getN C (n' := 103) (Cn := RX2) (T := TX2) (N := 10) (ci := 1) (v := .int (iI (J 4))) ga_X2 6 rfl rfl 4 (by decide) (List.mem_of_getElem? (i := 10) rfl) rfl rfl dX7_count_100 rfl ?_
    have h_100 := hJ 4
    exact g_iret C hr hlk rfl ⟨congrArg (fun z : Int => some (Value.int (iI z))) (by unfold coV; (repeat' split) <;> first | rfl | omega), rfl⟩ dX7_count_103
  by_cases c7 : x = 6
  · skip
    refine g_tsIn C 104 dX7_count_1 (by unfold inR; omega) (by omega) (by omega) (by rw [c7]; rfl) (by decide) ?_
    refine g_aload_n C (n' := 105) 0 rfl dX7_count_104 rfl rfl ?_
    refine g_cVv C (n' := 108) (v := .int (iI ((Ir0 4) + (Ir1 4) + (Ir2 4)))) (c_X7_placesOfAllTraces l D Y C.2.2.2.2.2.2.2.2.1 q qt qd qn qs qk qh qp qr K Ir0 V0 M0 Ir1 V1 M1 Ir2 V2 M2) 0 kw_667 kc_X7_placesOfAllTraces (by decide +kernel) (((((pm_s (pm_s (pm_s (pm_s (pm_s List.perm_append_comm))))).trans (pm_s (pm_s (pm_s (pm_s (pm_s List.perm_append_comm)))))).trans (pm_s (pm_s (pm_s (pm_s (pm_s List.perm_append_comm)))))).trans (pm_s (pm_s (pm_s (List.Perm.refl _))))).trans (List.Perm.of_eq (show (((wTop q Y qt qd qn qs qk qh qp qr K) ++ ((wTrace (qr 0) Y Ir0 V0 M0) ++ ((wTrace (qr 1) Y Ir1 V1 M1) ++ ((wTrace (qr 2) Y Ir2 V2 M2) ++ ((wText qt Y It L) ++ ((wNet qn Y J N) ++ (wHist qh Y Ih Ah))))))) : va_W) = ((wTop q Y qt qd qn qs qk qh qp qr K) ++ ((wTrace (qr 0) Y Ir0 V0 M0) ++ ((wTrace (qr 1) Y Ir1 V1 M1) ++ (wTrace (qr 2) Y Ir2 V2 M2)))) ++ ((wText qt Y It L) ++ ((wNet qn Y J N) ++ (wHist qh Y Ih Ah))) by simp only [List.append_assoc, List.append_nil]))) 0 (ci := 5) rfl rfl rfl rfl ⟨Nat.le_of_ble_eq_true rfl, Nat.le_of_ble_eq_true rfl⟩ ⟨rfl, rfl⟩ ⟨Nat.le_of_ble_eq_true rfl, Nat.le_of_ble_eq_true rfl⟩ (Nat.le_of_ble_eq_true rfl) dX7_count_105 rfl rfl ((wTop q Y qt qd qn qs qk qh qp qr K) ++ ((wText qt Y It L) ++ ((wNet qn Y J N) ++ ((wHist qh Y Ih Ah) ++ ((wTrace (qr 0) Y Ir0 V0 M0) ++ ((wTrace (qr 1) Y Ir1 V1 M1) ++ (wTrace (qr 2) Y Ir2 V2 M2))))))) (((((pm_s (pm_s (pm_s (pm_s (pm_s List.perm_append_comm))))).trans (pm_s (pm_s (pm_s (pm_s (pm_s List.perm_append_comm)))))).trans (pm_s (pm_s (pm_s (pm_s (pm_s List.perm_append_comm)))))).trans (pm_s (pm_s (pm_s (List.Perm.refl _))))).trans (List.Perm.of_eq (show (((wTop q Y qt qd qn qs qk qh qp qr K) ++ ((wTrace (qr 0) Y Ir0 V0 M0) ++ ((wTrace (qr 1) Y Ir1 V1 M1) ++ ((wTrace (qr 2) Y Ir2 V2 M2) ++ ((wText qt Y It L) ++ ((wNet qn Y J N) ++ (wHist qh Y Ih Ah))))))) : va_W) = ((wTop q Y qt qd qn qs qk qh qp qr K) ++ ((wTrace (qr 0) Y Ir0 V0 M0) ++ ((wTrace (qr 1) Y Ir1 V1 M1) ++ (wTrace (qr 2) Y Ir2 V2 M2)))) ++ ((wText qt Y It L) ++ ((wNet qn Y J N) ++ (wHist qh Y Ih Ah))) by simp only [List.append_assoc, List.append_nil]))).symm ?_
    exact g_iret C hr hlk rfl ⟨congrArg (fun z : Int => some (Value.int (iI z))) (by unfold coV; (repeat' split) <;> first | rfl | omega), rfl⟩ dX7_count_108
  by_cases c8 : x = 7
  · skip
    refine g_tsIn C 109 dX7_count_1 (by unfold inR; omega) (by omega) (by omega) (by rw [c8]; rfl) (by decide) ?_
    refine g_aload_n C (n' := 110) 0 rfl dX7_count_109 rfl rfl ?_
    refine g_get C (n' := 113) (Cn := RX7) (T := TX7) (N := 9) (ci := 5) (v := .ref (qh 99)) ga_X7 0 rfl rfl 6 (by decide) kw_191 rfl rfl dX7_count_110 rfl ?_
    refine g_cVv C (n' := 116) (v := .int (iI ((Ih 3)))) (c_X1_size l D Y C.2.2.2.2.2.2.2.2.1 qh Ih Ah) 0 kw_419 kc_X1_size (by decide +kernel) (pm_s (pm_s (pm_s (List.Perm.refl _)))) 0 (ci := 0) rfl rfl rfl rfl ⟨Nat.le_of_ble_eq_true rfl, Nat.le_of_ble_eq_true rfl⟩ ⟨rfl, rfl⟩ ⟨Nat.le_of_ble_eq_true rfl, Nat.le_of_ble_eq_true rfl⟩ (Nat.le_of_ble_eq_true rfl) dX7_count_113 rfl rfl ((wTop q Y qt qd qn qs qk qh qp qr K) ++ ((wText qt Y It L) ++ ((wNet qn Y J N) ++ ((wHist qh Y Ih Ah) ++ ((wTrace (qr 0) Y Ir0 V0 M0) ++ ((wTrace (qr 1) Y Ir1 V1 M1) ++ (wTrace (qr 2) Y Ir2 V2 M2))))))) (pm_s (pm_s (pm_s (List.Perm.refl _)))).symm ?_
    exact g_iret C hr hlk rfl ⟨congrArg (fun z : Int => some (Value.int (iI z))) (by unfold coV; (repeat' split) <;> first | rfl | omega), rfl⟩ dX7_count_116
  by_cases c9 : x = 8
  · skip
    refine g_tsIn C 117 dX7_count_1 (by unfold inR; omega) (by omega) (by omega) (by rw [c9]; rfl) (by decide) ?_
    refine g_aload_n C (n' := 118) 0 rfl dX7_count_117 rfl rfl ?_
    refine g_get C (n' := 121) (Cn := RX7) (T := TX7) (N := 9) (ci := 5) (v := .ref (qt 99)) ga_X7 0 rfl rfl 0 (by decide) kw_185 rfl rfl dX7_count_118 rfl ?_
    refine g_cVv C (n' := 124) (v := .int (iI ((It 1)))) (c_X4_letterCount l D Y C.2.2.2.2.2.2.2.2.1 qt It L) 0 kw_224 kc_X4_letterCount (by decide +kernel) (pm_s (List.Perm.refl _)) 0 (ci := 3) rfl rfl rfl rfl ⟨Nat.le_of_ble_eq_true rfl, Nat.le_of_ble_eq_true rfl⟩ ⟨rfl, rfl⟩ ⟨Nat.le_of_ble_eq_true rfl, Nat.le_of_ble_eq_true rfl⟩ (Nat.le_of_ble_eq_true rfl) dX7_count_121 rfl rfl ((wTop q Y qt qd qn qs qk qh qp qr K) ++ ((wText qt Y It L) ++ ((wNet qn Y J N) ++ ((wHist qh Y Ih Ah) ++ ((wTrace (qr 0) Y Ir0 V0 M0) ++ ((wTrace (qr 1) Y Ir1 V1 M1) ++ (wTrace (qr 2) Y Ir2 V2 M2))))))) (pm_s (List.Perm.refl _)).symm ?_
    exact g_iret C hr hlk rfl ⟨congrArg (fun z : Int => some (Value.int (iI z))) (by unfold coV; (repeat' split) <;> first | rfl | omega), rfl⟩ dX7_count_124
  by_cases c10 : x = 9
  · skip
    refine g_tsIn C 125 dX7_count_1 (by unfold inR; omega) (by omega) (by omega) (by rw [c10]; rfl) (by decide) ?_
    refine g_aload_n C (n' := 126) 0 rfl dX7_count_125 rfl rfl ?_
    refine g_get C (n' := 129) (Cn := RX7) (T := TX7) (N := 9) (ci := 5) (v := .ref (qn 99)) ga_X7 0 rfl rfl 2 (by decide) kw_187 rfl rfl dX7_count_126 rfl ?_
    refine g_cVv C (n' := 132) (v := .int (iI (n_ts J N ((J 5)).toNat))) (c_X2_tooSoonCount l D Y C.2.2.2.2.2.2.2.2.1 qn J N hsJ hsN (by omega)) 0 kw_671 kc_X2_tooSoonCount (by decide +kernel) (pm_s (pm_s (List.Perm.refl _))) 0 (ci := 1) rfl rfl rfl rfl ⟨Nat.le_of_ble_eq_true rfl, Nat.le_of_ble_eq_true rfl⟩ ⟨rfl, rfl⟩ ⟨Nat.le_of_ble_eq_true rfl, Nat.le_of_ble_eq_true rfl⟩ (Nat.le_of_ble_eq_true rfl) dX7_count_129 rfl rfl ((wTop q Y qt qd qn qs qk qh qp qr K) ++ ((wText qt Y It L) ++ ((wNet qn Y J N) ++ ((wHist qh Y Ih Ah) ++ ((wTrace (qr 0) Y Ir0 V0 M0) ++ ((wTrace (qr 1) Y Ir1 V1 M1) ++ (wTrace (qr 2) Y Ir2 V2 M2))))))) (pm_s (pm_s (List.Perm.refl _))).symm ?_
    exact g_iret C hr hlk rfl ⟨congrArg (fun z : Int => some (Value.int (iI z))) (by unfold coV; (repeat' split) <;> first | rfl | omega), rfl⟩ dX7_count_132
  refine g_tsOut C 133 dX7_count_1 (by unfold inR; omega) (by omega) (by decide) ?_
  refine g_bipush C (n' := 135) (by decide) dX7_count_133 rfl ?_
  exact g_iret C hr hlk rfl ⟨congrArg (fun z : Int => some (Value.int (iI z))) (by unfold coV; (repeat' split) <;> first | rfl | omega), rfl⟩ dX7_count_135
