/-! constructors: the reference, SkewPlan -/
theorem sm_0I : smI (fun _ => 0) := fun _ => (show (-1000000 : Int) ≤ 0 ∧ (0 : Int) ≤ 1000000 by decide)
theorem sm_0R : smR (fun _ => 0) := fun _ => (show (-1000000 : Int) ≤ 0 ∧ (0 : Int) ≤ 1000000 by decide)
theorem sm_0A : smA (fun _ _ => 0) := fun _ _ => (show (-1000000 : Int) ≤ 0 ∧ (0 : Int) ≤ 1000000 by decide)
def mI0 : Nat → Int := sU (sU (sU (sU (sU (fun _ => 0) 1 2) 2 0) 5 0) 6 0) 7 1
def mA0 : Nat → Nat → Int := (sU (sU (sU (sU (sU (sU (sU (fun _ _ => 0) 13 (sU (sU (sU (fun _ => 0) 0 (-1)) 1 (-1)) 2 (-1))) 23 (sU (sU (sU (fun _ => 0) 0 110) 1 101) 2 116)) 24 (sU (sU (sU (sU (fun _ => 0) 0 112) 1 97) 2 116) 3 104)) 25 (sU (sU (sU (sU (sU (fun _ => 0) 0 115) 1 101) 2 116) 3 117) 4 112)) 26 (sU (sU (sU (sU (fun _ => 0) 0 104) 1 111) 2 108) 3 100)) 27 (sU (sU (sU (sU (fun _ => 0) 0 115) 1 116) 2 101) 3 112)) 28 (sU (sU (sU (sU (sU (sU (fun _ => 0) 0 112) 1 101) 2 114) 3 105) 4 111) 5 100))
def mA1 : Nat → Nat → Int := sU mA0 0 (sU (mA0 0) 0 99)
def mA2 : Nat → Nat → Int := sU mA1 0 (m_cp (mA1 0) (Int.toNat 0) (Int.toNat 363) 33)
theorem mI0_sm : smI mI0 := sm_put (sm_put (sm_put (sm_put (sm_put sm_0I (by decide)) (by decide)) (by decide)) (by decide)) (by decide)
theorem mA0_sm : smA mA0 := (sm_putA (sm_putA (sm_putA (sm_putA (sm_putA (sm_putA (sm_putA sm_0A (sm_putR (sm_putR (sm_putR sm_0R (by decide)) (by decide)) (by decide))) (sm_putR (sm_putR (sm_putR sm_0R (by decide)) (by decide)) (by decide))) (sm_putR (sm_putR (sm_putR (sm_putR sm_0R (by decide)) (by decide)) (by decide)) (by decide))) (sm_putR (sm_putR (sm_putR (sm_putR (sm_putR sm_0R (by decide)) (by decide)) (by decide)) (by decide)) (by decide))) (sm_putR (sm_putR (sm_putR (sm_putR sm_0R (by decide)) (by decide)) (by decide)) (by decide))) (sm_putR (sm_putR (sm_putR (sm_putR sm_0R (by decide)) (by decide)) (by decide)) (by decide))) (sm_putR (sm_putR (sm_putR (sm_putR (sm_putR (sm_putR sm_0R (by decide)) (by decide)) (by decide)) (by decide)) (by decide)) (by decide)))
theorem mA1_sm : smA mA1 := sm_putA mA0_sm (sm_putR (mA0_sm 0) (by decide))
theorem mA2_sm : smA mA2 := sm_putA mA1_sm (m_cp_r (mA1_sm 0) _ _ _)
def qSel (l : List (Nat → Nat)) : Nat → Nat → Nat := fun i => l.getD i (fun _ => 0)
theorem qSel_2 (a b : Nat → Nat) : (fun i => if i < 2 then some (qSel [a, b] i 99) else none) = sU (sU (fun _ => none) 0 (some (a 99))) 1 (some (b 99)) := funext fun i => by
  match i with
  | 0 => rfl
  | 1 => rfl
  | n + 2 =>
    unfold sU
    rw [if_neg (by omega), if_neg (by omega), if_neg (by omega)]
theorem qSel_3 (a b c : Nat → Nat) : (fun i => if i < 3 then some (qSel [a, b, c] i 99) else none) = sU (sU (sU (fun _ => none) 0 (some (a 99))) 1 (some (b 99))) 2 (some (c 99)) := funext fun i => by
  match i with
  | 0 => rfl
  | 1 => rfl
  | 2 => rfl
  | n + 3 =>
    unfold sU
    rw [if_neg (by omega), if_neg (by omega), if_neg (by omega), if_neg (by omega)]
set_option maxRecDepth 100000 in
set_option maxHeartbeats 4000000 in
theorem c_X7_init (l : Launch) (D : va_G) (Y : Nat → ClassId) {E : (Nat → Prop) → State → Heap → Prop} (hE : g_Stab E) (hC : g_EnvC E) (a : Nat) : g_Ct l yX7_init cX7_init 2 none ({ frames := 3, cells := 54, slots := 760, locals := 80 } : Room) D (tysY Y) E [.ref a] [(a, .inr (5, [.null, .null, .null, .null, .null, .null, .null, .null, .null]))] 54 760 (fun r9 w9 => r9 = none ∧ ∃ (q qt qd qn qs : Nat → Nat) (qk : Nat → Nat → Nat) (qh qp : Nat → Nat) (qr : Nat → Nat → Nat), a = q 99 ∧ w9 = (wTop q Y qt qd qn qs qk qh qp qr (fun _ => 0) ++ (wText qt Y (fun _ => 0) (fun _ => 0) ++ (wNet qd Y (n_begin (fun _ => 0) 2) (fun _ _ => 0) ++ (wNet qn Y (n_begin (fun _ => 0) 2) (fun _ _ => 0) ++ (wNet qs Y (n_begin (fun _ => 0) 2) (fun _ _ => 0) ++ (wNet (qk 0) Y (n_begin (fun _ => 0) 2) (fun _ _ => 0) ++ (wNet (qk 1) Y (n_begin (fun _ => 0) 2) (fun _ _ => 0) ++ (wHist qh Y (fun _ => 0) (fun _ _ => 0) ++ (wPlan qp Y (fun _ => 0) (fun _ _ => 0) (fun _ _ => 0) ++ (wTrace (qr 0) Y (fun _ => 0) (fun _ => 0) (fun _ => 0) ++ (wTrace (qr 1) Y (fun _ => 0) (fun _ => 0) (fun _ => 0) ++ wTrace (qr 2) Y (fun _ => 0) (fun _ => 0) (fun _ => 0))))))))))))) := by
  refine g_ofG (own := RX7) hE (by decide) rfl (Nat.le_of_ble_eq_true rfl) [(0, .ref a)] rfl ?_
  intro p9 e9 s9 m9 b9 t9 c9 A9 C hr hlk hnm
  have hc9 := hC _ _ _ C.2.2.2.2.2.2.2.2.2
  refine g_aload_n C (n' := 1) 0 rfl dX7_init_0 rfl rfl ?_
  refine g_objInit C (n' := 4) kw_22 dX7_init_1 rfl (Nat.le_of_ble_eq_true rfl) (Nat.le_of_ble_eq_true rfl) ?_
  refine g_aload_n C (n' := 5) 0 rfl dX7_init_4 rfl rfl ?_
  refine g_new C (n' := 8) (Cn := RX4) (T := TX4) (N := 5) (ci := 3) (fs := [.null, .int (iI 0), .int (iI 0), .int (iI 0), .int (iI 0)]) ga_X4 tyX4 tyX4_ok kw_25 kw_26 kw_2 rfl (fun j hj => by rcases (show j = 0 ∨ j = 1 ∨ j = 2 ∨ j = 3 ∨ j = 4 by omega) with rfl | rfl | rfl | rfl | rfl <;> rfl) (Nat.le_of_ble_eq_true rfl) (Nat.le_of_ble_eq_true rfl) dX7_init_5 rfl (fun q1 => ?_)
  refine g_dup C (n' := 9) rfl dX7_init_8 rfl ?_
  refine g_callIN C (n' := 12) (c_X4_init l D Y C.2.2.2.2.2.2.2.2.1 q1) (List.mem_of_getElem? (i := 0) rfl) kw_29 kw_2 kw_28 rfl (by decide +kernel) (List.Perm.refl _) ⟨(Nat.le_of_ble_eq_true rfl), (Nat.le_of_ble_eq_true rfl)⟩ ⟨rfl, rfl⟩ ⟨(Nat.le_of_ble_eq_true rfl), (Nat.le_of_ble_eq_true rfl)⟩ (Nat.le_of_ble_eq_true rfl) dX7_init_9 rfl (fun r9 w9 hp2 => ?_)
  obtain ⟨rfl, qq3, rfl, rfl⟩ := hp2
  refine g_st (st' := [.ref (qq3 99), .ref a]) rfl ?_
  refine g_putF C (n' := 15) (Cn := RX7) (T := TX7) (N := 9) (ci := 5) (v := .ref (qq3 99)) ga_X7 2 rfl rfl 0 (by decide) kw_185 rfl tyX7 tyX7_ok nmX7 rfl hnm rfl rfl rfl rfl (Nat.le_of_ble_eq_true rfl) ((wText qq3 Y (fun _ => 0) (fun _ => 0)) ++ [(a, .inr (5, [.ref (qq3 99), .null, .null, .null, .null, .null, .null, .null, .null]))]) rfl dX7_init_12 rfl ?_
  refine g_aload_n C (n' := 16) 0 rfl dX7_init_15 rfl rfl ?_
  refine g_new C (n' := 19) (Cn := RX2) (T := TX2) (N := 10) (ci := 1) (fs := [.int (iI 0), .int (iI 0), .int (iI 0), .int (iI 0), .int (iI 0), .int (iI 0), .null, .null, .null, .null]) ga_X2 tyX2 tyX2_ok kw_48 kw_49 kw_3 rfl (fun j hj => by rcases (show j = 0 ∨ j = 1 ∨ j = 2 ∨ j = 3 ∨ j = 4 ∨ j = 5 ∨ j = 6 ∨ j = 7 ∨ j = 8 ∨ j = 9 by omega) with rfl | rfl | rfl | rfl | rfl | rfl | rfl | rfl | rfl | rfl <;> rfl) (Nat.le_of_ble_eq_true rfl) (Nat.le_of_ble_eq_true rfl) dX7_init_16 rfl (fun q4 => ?_)
  refine g_dup C (n' := 20) rfl dX7_init_19 rfl ?_
  refine g_callI C (n' := 23) (c_X2_init l D Y C.2.2.2.2.2.2.2.2.1 q4) kw_50 kw_52 kw_3 kw_51 rfl (by decide +kernel) (List.Perm.refl _) ⟨(Nat.le_of_ble_eq_true rfl), (Nat.le_of_ble_eq_true rfl)⟩ ⟨rfl, rfl⟩ ⟨(Nat.le_of_ble_eq_true rfl), (Nat.le_of_ble_eq_true rfl)⟩ (Nat.le_of_ble_eq_true rfl) dX7_init_20 rfl (fun r9 w9 hp5 => ?_)
  obtain ⟨rfl, qq6, rfl, rfl⟩ := hp5
  refine g_st (st' := [.ref (qq6 99), .ref a]) rfl ?_
  refine g_putF C (n' := 26) (Cn := RX7) (T := TX7) (N := 9) (ci := 5) (v := .ref (qq6 99)) ga_X7 7 rfl rfl 1 (by decide) kw_186 rfl tyX7 tyX7_ok nmX7 rfl hnm rfl rfl rfl rfl (Nat.le_of_ble_eq_true rfl) ((wNet qq6 Y (n_begin (fun _ => 0) 2) (fun _ _ => 0)) ++ ((wText qq3 Y (fun _ => 0) (fun _ => 0)) ++ [(a, .inr (5, [.ref (qq3 99), .ref (qq6 99), .null, .null, .null, .null, .null, .null, .null]))])) rfl dX7_init_23 rfl ?_
  refine g_aload_n C (n' := 27) 0 rfl dX7_init_26 rfl rfl ?_
  refine g_new C (n' := 30) (Cn := RX2) (T := TX2) (N := 10) (ci := 1) (fs := [.int (iI 0), .int (iI 0), .int (iI 0), .int (iI 0), .int (iI 0), .int (iI 0), .null, .null, .null, .null]) ga_X2 tyX2 tyX2_ok kw_48 kw_49 kw_3 rfl (fun j hj => by rcases (show j = 0 ∨ j = 1 ∨ j = 2 ∨ j = 3 ∨ j = 4 ∨ j = 5 ∨ j = 6 ∨ j = 7 ∨ j = 8 ∨ j = 9 by omega) with rfl | rfl | rfl | rfl | rfl | rfl | rfl | rfl | rfl | rfl <;> rfl) (Nat.le_of_ble_eq_true rfl) (Nat.le_of_ble_eq_true rfl) dX7_init_27 rfl (fun q7 => ?_)
  refine g_dup C (n' := 31) rfl dX7_init_30 rfl ?_
  refine g_callI C (n' := 34) (c_X2_init l D Y C.2.2.2.2.2.2.2.2.1 q7) kw_50 kw_52 kw_3 kw_51 rfl (by decide +kernel) (List.Perm.refl _) ⟨(Nat.le_of_ble_eq_true rfl), (Nat.le_of_ble_eq_true rfl)⟩ ⟨rfl, rfl⟩ ⟨(Nat.le_of_ble_eq_true rfl), (Nat.le_of_ble_eq_true rfl)⟩ (Nat.le_of_ble_eq_true rfl) dX7_init_31 rfl (fun r9 w9 hp8 => ?_)
  obtain ⟨rfl, qq9, rfl, rfl⟩ := hp8
  refine g_st (st' := [.ref (qq9 99), .ref a]) rfl ?_
  refine g_putF C (n' := 37) (Cn := RX7) (T := TX7) (N := 9) (ci := 5) (v := .ref (qq9 99)) ga_X7 12 rfl rfl 2 (by decide) kw_187 rfl tyX7 tyX7_ok nmX7 rfl hnm rfl rfl rfl rfl (Nat.le_of_ble_eq_true rfl) ((wNet qq9 Y (n_begin (fun _ => 0) 2) (fun _ _ => 0)) ++ ((wNet qq6 Y (n_begin (fun _ => 0) 2) (fun _ _ => 0)) ++ ((wText qq3 Y (fun _ => 0) (fun _ => 0)) ++ [(a, .inr (5, [.ref (qq3 99), .ref (qq6 99), .ref (qq9 99), .null, .null, .null, .null, .null, .null]))]))) rfl dX7_init_34 rfl ?_
  refine g_aload_n C (n' := 38) 0 rfl dX7_init_37 rfl rfl ?_
  refine g_new C (n' := 41) (Cn := RX2) (T := TX2) (N := 10) (ci := 1) (fs := [.int (iI 0), .int (iI 0), .int (iI 0), .int (iI 0), .int (iI 0), .int (iI 0), .null, .null, .null, .null]) ga_X2 tyX2 tyX2_ok kw_48 kw_49 kw_3 rfl (fun j hj => by rcases (show j = 0 ∨ j = 1 ∨ j = 2 ∨ j = 3 ∨ j = 4 ∨ j = 5 ∨ j = 6 ∨ j = 7 ∨ j = 8 ∨ j = 9 by omega) with rfl | rfl | rfl | rfl | rfl | rfl | rfl | rfl | rfl | rfl <;> rfl) (Nat.le_of_ble_eq_true rfl) (Nat.le_of_ble_eq_true rfl) dX7_init_38 rfl (fun q10 => ?_)
  refine g_dup C (n' := 42) rfl dX7_init_41 rfl ?_
  refine g_callI C (n' := 45) (c_X2_init l D Y C.2.2.2.2.2.2.2.2.1 q10) kw_50 kw_52 kw_3 kw_51 rfl (by decide +kernel) (List.Perm.refl _) ⟨(Nat.le_of_ble_eq_true rfl), (Nat.le_of_ble_eq_true rfl)⟩ ⟨rfl, rfl⟩ ⟨(Nat.le_of_ble_eq_true rfl), (Nat.le_of_ble_eq_true rfl)⟩ (Nat.le_of_ble_eq_true rfl) dX7_init_42 rfl (fun r9 w9 hp11 => ?_)
  obtain ⟨rfl, qq12, rfl, rfl⟩ := hp11
  refine g_st (st' := [.ref (qq12 99), .ref a]) rfl ?_
  refine g_putF C (n' := 48) (Cn := RX7) (T := TX7) (N := 9) (ci := 5) (v := .ref (qq12 99)) ga_X7 17 rfl rfl 3 (by decide) kw_188 rfl tyX7 tyX7_ok nmX7 rfl hnm rfl rfl rfl rfl (Nat.le_of_ble_eq_true rfl) ((wNet qq12 Y (n_begin (fun _ => 0) 2) (fun _ _ => 0)) ++ ((wNet qq9 Y (n_begin (fun _ => 0) 2) (fun _ _ => 0)) ++ ((wNet qq6 Y (n_begin (fun _ => 0) 2) (fun _ _ => 0)) ++ ((wText qq3 Y (fun _ => 0) (fun _ => 0)) ++ [(a, .inr (5, [.ref (qq3 99), .ref (qq6 99), .ref (qq9 99), .ref (qq12 99), .null, .null, .null, .null, .null]))])))) rfl dX7_init_45 rfl ?_
  refine g_aload_n C (n' := 49) 0 rfl dX7_init_48 rfl rfl ?_
  refine g_iconst C (n' := 50) dX7_init_49 rfl ?_
  refine g_anew C (n' := 53) (N := 2) kw_48 hc9.1 5 rfl (by decide) (by decide) (Nat.le_of_ble_eq_true rfl) (Nat.le_of_ble_eq_true rfl) (Nat.le_of_ble_eq_true rfl) dX7_init_50 rfl (fun q13 => ?_)
  refine g_putF C (n' := 56) (Cn := RX7) (T := TX7) (N := 9) (ci := 5) (v := .ref q13) ga_X7 18 rfl rfl 4 (by decide) kw_189 rfl tyX7 tyX7_ok nmX7 rfl hnm rfl rfl rfl rfl (Nat.le_of_ble_eq_true rfl) ([(q13, .inl (Y 5, 2, .inr (.inr (.inr (.inr (fun _ => none))))))] ++ ((wNet qq12 Y (n_begin (fun _ => 0) 2) (fun _ _ => 0)) ++ ((wNet qq9 Y (n_begin (fun _ => 0) 2) (fun _ _ => 0)) ++ ((wNet qq6 Y (n_begin (fun _ => 0) 2) (fun _ _ => 0)) ++ ((wText qq3 Y (fun _ => 0) (fun _ => 0)) ++ [(a, .inr (5, [.ref (qq3 99), .ref (qq6 99), .ref (qq9 99), .ref (qq12 99), .ref q13, .null, .null, .null, .null]))]))))) rfl dX7_init_53 rfl ?_
  refine g_iconst C (n' := 57) dX7_init_56 rfl ?_
  refine g_istore_n C (n' := 58) [(1, .int (iI 0)), (0, .ref a)] dX7_init_57 rfl rfl (by decide) rfl ?_
  refine g_iload_n C (n' := 59) 0 rfl dX7_init_58 rfl rfl ?_
  refine g_iconst C (n' := 60) dX7_init_59 rfl ?_
  refine g_icmp_ge C (n' := 63) 82 dX7_init_60 (by decide) rfl (by unfold inR; omega) (by unfold inR; omega) (fun c14 => ?_) (fun c14 => ?_)
  · skip
    exfalso
    omega
  · skip
    refine g_aload_n C (n' := 64) 1 rfl dX7_init_63 rfl rfl ?_
    refine g_get C (n' := 67) (Cn := RX7) (T := TX7) (N := 9) (ci := 5) (v := .ref q13) ga_X7 18 rfl rfl 4 (by decide) kw_189 rfl rfl dX7_init_64 rfl ?_
    refine g_iload_n C (n' := 68) 0 rfl dX7_init_67 rfl rfl ?_
    refine g_new C (n' := 71) (Cn := RX2) (T := TX2) (N := 10) (ci := 1) (fs := [.int (iI 0), .int (iI 0), .int (iI 0), .int (iI 0), .int (iI 0), .int (iI 0), .null, .null, .null, .null]) ga_X2 tyX2 tyX2_ok kw_48 kw_49 kw_3 rfl (fun j hj => by rcases (show j = 0 ∨ j = 1 ∨ j = 2 ∨ j = 3 ∨ j = 4 ∨ j = 5 ∨ j = 6 ∨ j = 7 ∨ j = 8 ∨ j = 9 by omega) with rfl | rfl | rfl | rfl | rfl | rfl | rfl | rfl | rfl | rfl <;> rfl) (Nat.le_of_ble_eq_true rfl) (Nat.le_of_ble_eq_true rfl) dX7_init_68 rfl (fun q15 => ?_)
    refine g_dup C (n' := 72) rfl dX7_init_71 rfl ?_
    refine g_callI C (n' := 75) (c_X2_init l D Y C.2.2.2.2.2.2.2.2.1 q15) kw_50 kw_52 kw_3 kw_51 rfl (by decide +kernel) (List.Perm.refl _) ⟨(Nat.le_of_ble_eq_true rfl), (Nat.le_of_ble_eq_true rfl)⟩ ⟨rfl, rfl⟩ ⟨(Nat.le_of_ble_eq_true rfl), (Nat.le_of_ble_eq_true rfl)⟩ (Nat.le_of_ble_eq_true rfl) dX7_init_72 rfl (fun r9 w9 hp16 => ?_)
    obtain ⟨rfl, qq17, rfl, rfl⟩ := hp16
    refine g_st (st' := [.ref (qq17 99), .int (iI 0), .ref q13]) rfl ?_
    refine g_aast C (n' := 76) 5 5 0 1 rfl rfl rfl rfl (by decide) (by decide) (by decide) ((wNet qq17 Y (n_begin (fun _ => 0) 2) (fun _ _ => 0)) ++ ([(q13, .inl (Y 5, 2, .inr (.inr (.inr (.inr (sU (fun _ => none) 0 (some (qq17 99))))))))] ++ ((wNet qq12 Y (n_begin (fun _ => 0) 2) (fun _ _ => 0)) ++ ((wNet qq9 Y (n_begin (fun _ => 0) 2) (fun _ _ => 0)) ++ ((wNet qq6 Y (n_begin (fun _ => 0) 2) (fun _ _ => 0)) ++ ((wText qq3 Y (fun _ => 0) (fun _ => 0)) ++ [(a, .inr (5, [.ref (qq3 99), .ref (qq6 99), .ref (qq9 99), .ref (qq12 99), .ref q13, .null, .null, .null, .null]))])))))) rfl dX7_init_75 rfl ?_
    refine g_iinc C (n' := 79) 0 [(1, .int (iI 1)), (0, .ref a)] rfl dX7_init_76 rfl (by decide) rfl ?_
    refine g_goto C 58 dX7_init_79 (by decide) ?_
    refine g_iload_n C (n' := 59) 0 rfl dX7_init_58 rfl rfl ?_
    refine g_iconst C (n' := 60) dX7_init_59 rfl ?_
    refine g_icmp_ge C (n' := 63) 82 dX7_init_60 (by decide) rfl (by unfold inR; omega) (by unfold inR; omega) (fun c18 => ?_) (fun c18 => ?_)
    · skip
      exfalso
      omega
    · skip
      refine g_aload_n C (n' := 64) 1 rfl dX7_init_63 rfl rfl ?_
      refine g_get C (n' := 67) (Cn := RX7) (T := TX7) (N := 9) (ci := 5) (v := .ref q13) ga_X7 23 rfl rfl 4 (by decide) kw_189 rfl rfl dX7_init_64 rfl ?_
      refine g_iload_n C (n' := 68) 0 rfl dX7_init_67 rfl rfl ?_
      refine g_new C (n' := 71) (Cn := RX2) (T := TX2) (N := 10) (ci := 1) (fs := [.int (iI 0), .int (iI 0), .int (iI 0), .int (iI 0), .int (iI 0), .int (iI 0), .null, .null, .null, .null]) ga_X2 tyX2 tyX2_ok kw_48 kw_49 kw_3 rfl (fun j hj => by rcases (show j = 0 ∨ j = 1 ∨ j = 2 ∨ j = 3 ∨ j = 4 ∨ j = 5 ∨ j = 6 ∨ j = 7 ∨ j = 8 ∨ j = 9 by omega) with rfl | rfl | rfl | rfl | rfl | rfl | rfl | rfl | rfl | rfl <;> rfl) (Nat.le_of_ble_eq_true rfl) (Nat.le_of_ble_eq_true rfl) dX7_init_68 rfl (fun q19 => ?_)
      refine g_dup C (n' := 72) rfl dX7_init_71 rfl ?_
      refine g_callI C (n' := 75) (c_X2_init l D Y C.2.2.2.2.2.2.2.2.1 q19) kw_50 kw_52 kw_3 kw_51 rfl (by decide +kernel) (List.Perm.refl _) ⟨(Nat.le_of_ble_eq_true rfl), (Nat.le_of_ble_eq_true rfl)⟩ ⟨rfl, rfl⟩ ⟨(Nat.le_of_ble_eq_true rfl), (Nat.le_of_ble_eq_true rfl)⟩ (Nat.le_of_ble_eq_true rfl) dX7_init_72 rfl (fun r9 w9 hp20 => ?_)
      obtain ⟨rfl, qq21, rfl, rfl⟩ := hp20
      refine g_st (st' := [.ref (qq21 99), .int (iI 1), .ref q13]) rfl ?_
      refine g_aast C (n' := 76) 10 5 0 1 rfl rfl rfl rfl (by decide) (by decide) (by decide) ((wNet qq21 Y (n_begin (fun _ => 0) 2) (fun _ _ => 0)) ++ ((wNet qq17 Y (n_begin (fun _ => 0) 2) (fun _ _ => 0)) ++ ([(q13, .inl (Y 5, 2, .inr (.inr (.inr (.inr (sU (sU (fun _ => none) 0 (some (qq17 99))) 1 (some (qq21 99))))))))] ++ ((wNet qq12 Y (n_begin (fun _ => 0) 2) (fun _ _ => 0)) ++ ((wNet qq9 Y (n_begin (fun _ => 0) 2) (fun _ _ => 0)) ++ ((wNet qq6 Y (n_begin (fun _ => 0) 2) (fun _ _ => 0)) ++ ((wText qq3 Y (fun _ => 0) (fun _ => 0)) ++ [(a, .inr (5, [.ref (qq3 99), .ref (qq6 99), .ref (qq9 99), .ref (qq12 99), .ref q13, .null, .null, .null, .null]))]))))))) rfl dX7_init_75 rfl ?_
      refine g_iinc C (n' := 79) 0 [(1, .int (iI 2)), (0, .ref a)] rfl dX7_init_76 rfl (by decide) rfl ?_
      refine g_goto C 58 dX7_init_79 (by decide) ?_
      refine g_iload_n C (n' := 59) 0 rfl dX7_init_58 rfl rfl ?_
      refine g_iconst C (n' := 60) dX7_init_59 rfl ?_
      refine g_icmp_ge C (n' := 63) 82 dX7_init_60 (by decide) rfl (by unfold inR; omega) (by unfold inR; omega) (fun c22 => ?_) (fun c22 => ?_)
      · skip
        refine g_aload_n C (n' := 83) 1 rfl dX7_init_82 rfl rfl ?_
        refine g_iconst C (n' := 84) dX7_init_83 rfl ?_
        refine g_newa C (n' := 86) (atype := .boolean) (N := 2) (a0 := (2, .inl (iA (fun _ => 0)))) rfl kw_130 2 rfl (by decide) (by decide) (fun _ => rfl) (Nat.le_of_ble_eq_true rfl) (Nat.le_of_ble_eq_true rfl) (Nat.le_of_ble_eq_true rfl) dX7_init_84 rfl (fun q23 => ?_)
        refine g_putF C (n' := 89) (Cn := RX7) (T := TX7) (N := 9) (ci := 5) (v := .ref q23) ga_X7 29 rfl rfl 5 (by decide) kw_190 rfl tyX7 tyX7_ok nmX7 rfl hnm rfl rfl rfl rfl (Nat.le_of_ble_eq_true rfl) ([(q23, .inl (Y 2, 2, .inl (iA (fun _ => 0))))] ++ ((wNet qq21 Y (n_begin (fun _ => 0) 2) (fun _ _ => 0)) ++ ((wNet qq17 Y (n_begin (fun _ => 0) 2) (fun _ _ => 0)) ++ ([(q13, .inl (Y 5, 2, .inr (.inr (.inr (.inr (sU (sU (fun _ => none) 0 (some (qq17 99))) 1 (some (qq21 99))))))))] ++ ((wNet qq12 Y (n_begin (fun _ => 0) 2) (fun _ _ => 0)) ++ ((wNet qq9 Y (n_begin (fun _ => 0) 2) (fun _ _ => 0)) ++ ((wNet qq6 Y (n_begin (fun _ => 0) 2) (fun _ _ => 0)) ++ ((wText qq3 Y (fun _ => 0) (fun _ => 0)) ++ [(a, .inr (5, [.ref (qq3 99), .ref (qq6 99), .ref (qq9 99), .ref (qq12 99), .ref q13, .ref q23, .null, .null, .null]))])))))))) rfl dX7_init_86 rfl ?_
        refine g_aload_n C (n' := 90) 1 rfl dX7_init_89 rfl rfl ?_
        refine g_new C (n' := 93) (Cn := RX1) (T := TX1) (N := 4) (ci := 0) (fs := [.null, .null, .int (iI 0), .int (iI 0)]) ga_X1 tyX1 tyX1_ok kw_111 kw_112 kw_4 rfl (fun j hj => by rcases (show j = 0 ∨ j = 1 ∨ j = 2 ∨ j = 3 by omega) with rfl | rfl | rfl | rfl <;> rfl) (Nat.le_of_ble_eq_true rfl) (Nat.le_of_ble_eq_true rfl) dX7_init_90 rfl (fun q24 => ?_)
        refine g_dup C (n' := 94) rfl dX7_init_93 rfl ?_
        refine g_callIN C (n' := 97) (c_X1_init l D Y C.2.2.2.2.2.2.2.2.1 q24) (List.mem_of_getElem? (i := 21) rfl) kw_115 kw_4 kw_114 rfl (by decide +kernel) (List.Perm.refl _) ⟨(Nat.le_of_ble_eq_true rfl), (Nat.le_of_ble_eq_true rfl)⟩ ⟨rfl, rfl⟩ ⟨(Nat.le_of_ble_eq_true rfl), (Nat.le_of_ble_eq_true rfl)⟩ (Nat.le_of_ble_eq_true rfl) dX7_init_94 rfl (fun r9 w9 hp25 => ?_)
        obtain ⟨rfl, qq26, rfl, rfl⟩ := hp25
        refine g_st (st' := [.ref (qq26 99), .ref a]) rfl ?_
        refine g_putF C (n' := 100) (Cn := RX7) (T := TX7) (N := 9) (ci := 5) (v := .ref (qq26 99)) ga_X7 32 rfl rfl 6 (by decide) kw_191 rfl tyX7 tyX7_ok nmX7 rfl hnm rfl rfl rfl rfl (Nat.le_of_ble_eq_true rfl) ((wHist qq26 Y (fun _ => 0) (fun _ _ => 0)) ++ ([(q23, .inl (Y 2, 2, .inl (iA (fun _ => 0))))] ++ ((wNet qq21 Y (n_begin (fun _ => 0) 2) (fun _ _ => 0)) ++ ((wNet qq17 Y (n_begin (fun _ => 0) 2) (fun _ _ => 0)) ++ ([(q13, .inl (Y 5, 2, .inr (.inr (.inr (.inr (sU (sU (fun _ => none) 0 (some (qq17 99))) 1 (some (qq21 99))))))))] ++ ((wNet qq12 Y (n_begin (fun _ => 0) 2) (fun _ _ => 0)) ++ ((wNet qq9 Y (n_begin (fun _ => 0) 2) (fun _ _ => 0)) ++ ((wNet qq6 Y (n_begin (fun _ => 0) 2) (fun _ _ => 0)) ++ ((wText qq3 Y (fun _ => 0) (fun _ => 0)) ++ [(a, .inr (5, [.ref (qq3 99), .ref (qq6 99), .ref (qq9 99), .ref (qq12 99), .ref q13, .ref q23, .ref (qq26 99), .null, .null]))]))))))))) rfl dX7_init_97 rfl ?_
        refine g_aload_n C (n' := 101) 1 rfl dX7_init_100 rfl rfl ?_
        refine g_new C (n' := 104) (Cn := RX3) (T := TX3) (N := 7) (ci := 2) (fs := [.null, .null, .null, .int (iI 0), .int (iI 0), .int (iI 0), .int (iI 0)]) ga_X3 tyX3 tyX3_ok kw_131 kw_132 kw_5 rfl (fun j hj => by rcases (show j = 0 ∨ j = 1 ∨ j = 2 ∨ j = 3 ∨ j = 4 ∨ j = 5 ∨ j = 6 by omega) with rfl | rfl | rfl | rfl | rfl | rfl | rfl <;> rfl) (Nat.le_of_ble_eq_true rfl) (Nat.le_of_ble_eq_true rfl) dX7_init_101 rfl (fun q27 => ?_)
        refine g_dup C (n' := 105) rfl dX7_init_104 rfl ?_
        refine g_callIN C (n' := 108) (c_X3_init l D Y C.2.2.2.2.2.2.2.2.1 hC q27) (List.mem_of_getElem? (i := 22) rfl) kw_135 kw_5 kw_134 rfl (by decide +kernel) (List.Perm.refl _) ⟨(Nat.le_of_ble_eq_true rfl), (Nat.le_of_ble_eq_true rfl)⟩ ⟨rfl, rfl⟩ ⟨(Nat.le_of_ble_eq_true rfl), (Nat.le_of_ble_eq_true rfl)⟩ (Nat.le_of_ble_eq_true rfl) dX7_init_105 rfl (fun r9 w9 hp28 => ?_)
        obtain ⟨rfl, qq29, rfl, rfl⟩ := hp28
        refine g_st (st' := [.ref (qq29 99), .ref a]) rfl ?_
        refine g_putF C (n' := 111) (Cn := RX7) (T := TX7) (N := 9) (ci := 5) (v := .ref (qq29 99)) ga_X7 44 rfl rfl 7 (by decide) kw_192 rfl tyX7 tyX7_ok nmX7 rfl hnm rfl rfl rfl rfl (Nat.le_of_ble_eq_true rfl) ((wPlan qq29 Y (fun _ => 0) (fun _ _ => 0) (fun _ _ => 0)) ++ ((wHist qq26 Y (fun _ => 0) (fun _ _ => 0)) ++ ([(q23, .inl (Y 2, 2, .inl (iA (fun _ => 0))))] ++ ((wNet qq21 Y (n_begin (fun _ => 0) 2) (fun _ _ => 0)) ++ ((wNet qq17 Y (n_begin (fun _ => 0) 2) (fun _ _ => 0)) ++ ([(q13, .inl (Y 5, 2, .inr (.inr (.inr (.inr (sU (sU (fun _ => none) 0 (some (qq17 99))) 1 (some (qq21 99))))))))] ++ ((wNet qq12 Y (n_begin (fun _ => 0) 2) (fun _ _ => 0)) ++ ((wNet qq9 Y (n_begin (fun _ => 0) 2) (fun _ _ => 0)) ++ ((wNet qq6 Y (n_begin (fun _ => 0) 2) (fun _ _ => 0)) ++ ((wText qq3 Y (fun _ => 0) (fun _ => 0)) ++ [(a, .inr (5, [.ref (qq3 99), .ref (qq6 99), .ref (qq9 99), .ref (qq12 99), .ref q13, .ref q23, .ref (qq26 99), .ref (qq29 99), .null]))])))))))))) rfl dX7_init_108 rfl ?_
        refine g_aload_n C (n' := 112) 1 rfl dX7_init_111 rfl rfl ?_
        refine g_iconst C (n' := 113) dX7_init_112 rfl ?_
        refine g_anew C (n' := 116) (N := 3) kw_161 hc9.2.1 6 rfl (by decide) (by decide) (Nat.le_of_ble_eq_true rfl) (Nat.le_of_ble_eq_true rfl) (Nat.le_of_ble_eq_true rfl) dX7_init_113 rfl (fun q30 => ?_)
        refine g_putF C (n' := 119) (Cn := RX7) (T := TX7) (N := 9) (ci := 5) (v := .ref q30) ga_X7 45 rfl rfl 8 (by decide) kw_193 rfl tyX7 tyX7_ok nmX7 rfl hnm rfl rfl rfl rfl (Nat.le_of_ble_eq_true rfl) ([(q30, .inl (Y 6, 3, .inr (.inr (.inr (.inr (fun _ => none))))))] ++ ((wPlan qq29 Y (fun _ => 0) (fun _ _ => 0) (fun _ _ => 0)) ++ ((wHist qq26 Y (fun _ => 0) (fun _ _ => 0)) ++ ([(q23, .inl (Y 2, 2, .inl (iA (fun _ => 0))))] ++ ((wNet qq21 Y (n_begin (fun _ => 0) 2) (fun _ _ => 0)) ++ ((wNet qq17 Y (n_begin (fun _ => 0) 2) (fun _ _ => 0)) ++ ([(q13, .inl (Y 5, 2, .inr (.inr (.inr (.inr (sU (sU (fun _ => none) 0 (some (qq17 99))) 1 (some (qq21 99))))))))] ++ ((wNet qq12 Y (n_begin (fun _ => 0) 2) (fun _ _ => 0)) ++ ((wNet qq9 Y (n_begin (fun _ => 0) 2) (fun _ _ => 0)) ++ ((wNet qq6 Y (n_begin (fun _ => 0) 2) (fun _ _ => 0)) ++ ((wText qq3 Y (fun _ => 0) (fun _ => 0)) ++ [(a, .inr (5, [.ref (qq3 99), .ref (qq6 99), .ref (qq9 99), .ref (qq12 99), .ref q13, .ref q23, .ref (qq26 99), .ref (qq29 99), .ref q30]))]))))))))))) rfl dX7_init_116 rfl ?_
        refine g_iconst C (n' := 120) dX7_init_119 rfl ?_
        refine g_istore_n C (n' := 121) [(1, .int (iI 0)), (0, .ref a)] dX7_init_120 rfl rfl (by decide) rfl ?_
        refine g_iload_n C (n' := 122) 0 rfl dX7_init_121 rfl rfl ?_
        refine g_iconst C (n' := 123) dX7_init_122 rfl ?_
        refine g_icmp_ge C (n' := 126) 145 dX7_init_123 (by decide) rfl (by unfold inR; omega) (by unfold inR; omega) (fun c31 => ?_) (fun c31 => ?_)
        · skip
          exfalso
          omega
        · skip
          refine g_aload_n C (n' := 127) 1 rfl dX7_init_126 rfl rfl ?_
          refine g_get C (n' := 130) (Cn := RX7) (T := TX7) (N := 9) (ci := 5) (v := .ref q30) ga_X7 45 rfl rfl 8 (by decide) kw_193 rfl rfl dX7_init_127 rfl ?_
          refine g_iload_n C (n' := 131) 0 rfl dX7_init_130 rfl rfl ?_
          refine g_new C (n' := 134) (Cn := RX5) (T := TX5) (N := 5) (ci := 4) (fs := [.null, .null, .int (iI 0), .int (iI 0), .int (iI 0)]) ga_X5 tyX5 tyX5_ok kw_161 kw_163 kw_6 rfl (fun j hj => by rcases (show j = 0 ∨ j = 1 ∨ j = 2 ∨ j = 3 ∨ j = 4 by omega) with rfl | rfl | rfl | rfl | rfl <;> rfl) (Nat.le_of_ble_eq_true rfl) (Nat.le_of_ble_eq_true rfl) dX7_init_131 rfl (fun q32 => ?_)
          refine g_dup C (n' := 135) rfl dX7_init_134 rfl ?_
          refine g_callIN C (n' := 138) (c_X5_init l D Y C.2.2.2.2.2.2.2.2.1 q32) (List.mem_of_getElem? (i := 23) rfl) kw_166 kw_6 kw_165 rfl (by decide +kernel) (List.Perm.refl _) ⟨(Nat.le_of_ble_eq_true rfl), (Nat.le_of_ble_eq_true rfl)⟩ ⟨rfl, rfl⟩ ⟨(Nat.le_of_ble_eq_true rfl), (Nat.le_of_ble_eq_true rfl)⟩ (Nat.le_of_ble_eq_true rfl) dX7_init_135 rfl (fun r9 w9 hp33 => ?_)
          obtain ⟨rfl, qq34, rfl, rfl⟩ := hp33
          refine g_st (st' := [.ref (qq34 99), .int (iI 0), .ref q30]) rfl ?_
          refine g_aast C (n' := 139) 3 6 0 4 rfl rfl rfl rfl (by decide) (by decide) (by decide) ((wTrace qq34 Y (fun _ => 0) (fun _ => 0) (fun _ => 0)) ++ ([(q30, .inl (Y 6, 3, .inr (.inr (.inr (.inr (sU (fun _ => none) 0 (some (qq34 99))))))))] ++ ((wPlan qq29 Y (fun _ => 0) (fun _ _ => 0) (fun _ _ => 0)) ++ ((wHist qq26 Y (fun _ => 0) (fun _ _ => 0)) ++ ([(q23, .inl (Y 2, 2, .inl (iA (fun _ => 0))))] ++ ((wNet qq21 Y (n_begin (fun _ => 0) 2) (fun _ _ => 0)) ++ ((wNet qq17 Y (n_begin (fun _ => 0) 2) (fun _ _ => 0)) ++ ([(q13, .inl (Y 5, 2, .inr (.inr (.inr (.inr (sU (sU (fun _ => none) 0 (some (qq17 99))) 1 (some (qq21 99))))))))] ++ ((wNet qq12 Y (n_begin (fun _ => 0) 2) (fun _ _ => 0)) ++ ((wNet qq9 Y (n_begin (fun _ => 0) 2) (fun _ _ => 0)) ++ ((wNet qq6 Y (n_begin (fun _ => 0) 2) (fun _ _ => 0)) ++ ((wText qq3 Y (fun _ => 0) (fun _ => 0)) ++ [(a, .inr (5, [.ref (qq3 99), .ref (qq6 99), .ref (qq9 99), .ref (qq12 99), .ref q13, .ref q23, .ref (qq26 99), .ref (qq29 99), .ref q30]))])))))))))))) rfl dX7_init_138 rfl ?_
          refine g_iinc C (n' := 142) 0 [(1, .int (iI 1)), (0, .ref a)] rfl dX7_init_139 rfl (by decide) rfl ?_
          refine g_goto C 121 dX7_init_142 (by decide) ?_
          refine g_iload_n C (n' := 122) 0 rfl dX7_init_121 rfl rfl ?_
          refine g_iconst C (n' := 123) dX7_init_122 rfl ?_
          refine g_icmp_ge C (n' := 126) 145 dX7_init_123 (by decide) rfl (by unfold inR; omega) (by unfold inR; omega) (fun c35 => ?_) (fun c35 => ?_)
          · skip
            exfalso
            omega
          · skip
            refine g_aload_n C (n' := 127) 1 rfl dX7_init_126 rfl rfl ?_
            refine g_get C (n' := 130) (Cn := RX7) (T := TX7) (N := 9) (ci := 5) (v := .ref q30) ga_X7 48 rfl rfl 8 (by decide) kw_193 rfl rfl dX7_init_127 rfl ?_
            refine g_iload_n C (n' := 131) 0 rfl dX7_init_130 rfl rfl ?_
            refine g_new C (n' := 134) (Cn := RX5) (T := TX5) (N := 5) (ci := 4) (fs := [.null, .null, .int (iI 0), .int (iI 0), .int (iI 0)]) ga_X5 tyX5 tyX5_ok kw_161 kw_163 kw_6 rfl (fun j hj => by rcases (show j = 0 ∨ j = 1 ∨ j = 2 ∨ j = 3 ∨ j = 4 by omega) with rfl | rfl | rfl | rfl | rfl <;> rfl) (Nat.le_of_ble_eq_true rfl) (Nat.le_of_ble_eq_true rfl) dX7_init_131 rfl (fun q36 => ?_)
            refine g_dup C (n' := 135) rfl dX7_init_134 rfl ?_
            refine g_callIN C (n' := 138) (c_X5_init l D Y C.2.2.2.2.2.2.2.2.1 q36) (List.mem_of_getElem? (i := 23) rfl) kw_166 kw_6 kw_165 rfl (by decide +kernel) (List.Perm.refl _) ⟨(Nat.le_of_ble_eq_true rfl), (Nat.le_of_ble_eq_true rfl)⟩ ⟨rfl, rfl⟩ ⟨(Nat.le_of_ble_eq_true rfl), (Nat.le_of_ble_eq_true rfl)⟩ (Nat.le_of_ble_eq_true rfl) dX7_init_135 rfl (fun r9 w9 hp37 => ?_)
            obtain ⟨rfl, qq38, rfl, rfl⟩ := hp37
            refine g_st (st' := [.ref (qq38 99), .int (iI 1), .ref q30]) rfl ?_
            refine g_aast C (n' := 139) 6 6 0 4 rfl rfl rfl rfl (by decide) (by decide) (by decide) ((wTrace qq38 Y (fun _ => 0) (fun _ => 0) (fun _ => 0)) ++ ((wTrace qq34 Y (fun _ => 0) (fun _ => 0) (fun _ => 0)) ++ ([(q30, .inl (Y 6, 3, .inr (.inr (.inr (.inr (sU (sU (fun _ => none) 0 (some (qq34 99))) 1 (some (qq38 99))))))))] ++ ((wPlan qq29 Y (fun _ => 0) (fun _ _ => 0) (fun _ _ => 0)) ++ ((wHist qq26 Y (fun _ => 0) (fun _ _ => 0)) ++ ([(q23, .inl (Y 2, 2, .inl (iA (fun _ => 0))))] ++ ((wNet qq21 Y (n_begin (fun _ => 0) 2) (fun _ _ => 0)) ++ ((wNet qq17 Y (n_begin (fun _ => 0) 2) (fun _ _ => 0)) ++ ([(q13, .inl (Y 5, 2, .inr (.inr (.inr (.inr (sU (sU (fun _ => none) 0 (some (qq17 99))) 1 (some (qq21 99))))))))] ++ ((wNet qq12 Y (n_begin (fun _ => 0) 2) (fun _ _ => 0)) ++ ((wNet qq9 Y (n_begin (fun _ => 0) 2) (fun _ _ => 0)) ++ ((wNet qq6 Y (n_begin (fun _ => 0) 2) (fun _ _ => 0)) ++ ((wText qq3 Y (fun _ => 0) (fun _ => 0)) ++ [(a, .inr (5, [.ref (qq3 99), .ref (qq6 99), .ref (qq9 99), .ref (qq12 99), .ref q13, .ref q23, .ref (qq26 99), .ref (qq29 99), .ref q30]))]))))))))))))) rfl dX7_init_138 rfl ?_
            refine g_iinc C (n' := 142) 0 [(1, .int (iI 2)), (0, .ref a)] rfl dX7_init_139 rfl (by decide) rfl ?_
            refine g_goto C 121 dX7_init_142 (by decide) ?_
            refine g_iload_n C (n' := 122) 0 rfl dX7_init_121 rfl rfl ?_
            refine g_iconst C (n' := 123) dX7_init_122 rfl ?_
            refine g_icmp_ge C (n' := 126) 145 dX7_init_123 (by decide) rfl (by unfold inR; omega) (by unfold inR; omega) (fun c39 => ?_) (fun c39 => ?_)
            · skip
              exfalso
              omega
            · skip
              refine g_aload_n C (n' := 127) 1 rfl dX7_init_126 rfl rfl ?_
              refine g_get C (n' := 130) (Cn := RX7) (T := TX7) (N := 9) (ci := 5) (v := .ref q30) ga_X7 51 rfl rfl 8 (by decide) kw_193 rfl rfl dX7_init_127 rfl ?_
              refine g_iload_n C (n' := 131) 0 rfl dX7_init_130 rfl rfl ?_
              refine g_new C (n' := 134) (Cn := RX5) (T := TX5) (N := 5) (ci := 4) (fs := [.null, .null, .int (iI 0), .int (iI 0), .int (iI 0)]) ga_X5 tyX5 tyX5_ok kw_161 kw_163 kw_6 rfl (fun j hj => by rcases (show j = 0 ∨ j = 1 ∨ j = 2 ∨ j = 3 ∨ j = 4 by omega) with rfl | rfl | rfl | rfl | rfl <;> rfl) (Nat.le_of_ble_eq_true rfl) (Nat.le_of_ble_eq_true rfl) dX7_init_131 rfl (fun q40 => ?_)
              refine g_dup C (n' := 135) rfl dX7_init_134 rfl ?_
              refine g_callIN C (n' := 138) (c_X5_init l D Y C.2.2.2.2.2.2.2.2.1 q40) (List.mem_of_getElem? (i := 23) rfl) kw_166 kw_6 kw_165 rfl (by decide +kernel) (List.Perm.refl _) ⟨(Nat.le_of_ble_eq_true rfl), (Nat.le_of_ble_eq_true rfl)⟩ ⟨rfl, rfl⟩ ⟨(Nat.le_of_ble_eq_true rfl), (Nat.le_of_ble_eq_true rfl)⟩ (Nat.le_of_ble_eq_true rfl) dX7_init_135 rfl (fun r9 w9 hp41 => ?_)
              obtain ⟨rfl, qq42, rfl, rfl⟩ := hp41
              refine g_st (st' := [.ref (qq42 99), .int (iI 2), .ref q30]) rfl ?_
              refine g_aast C (n' := 139) 9 6 0 4 rfl rfl rfl rfl (by decide) (by decide) (by decide) ((wTrace qq42 Y (fun _ => 0) (fun _ => 0) (fun _ => 0)) ++ ((wTrace qq38 Y (fun _ => 0) (fun _ => 0) (fun _ => 0)) ++ ((wTrace qq34 Y (fun _ => 0) (fun _ => 0) (fun _ => 0)) ++ ([(q30, .inl (Y 6, 3, .inr (.inr (.inr (.inr (sU (sU (sU (fun _ => none) 0 (some (qq34 99))) 1 (some (qq38 99))) 2 (some (qq42 99))))))))] ++ ((wPlan qq29 Y (fun _ => 0) (fun _ _ => 0) (fun _ _ => 0)) ++ ((wHist qq26 Y (fun _ => 0) (fun _ _ => 0)) ++ ([(q23, .inl (Y 2, 2, .inl (iA (fun _ => 0))))] ++ ((wNet qq21 Y (n_begin (fun _ => 0) 2) (fun _ _ => 0)) ++ ((wNet qq17 Y (n_begin (fun _ => 0) 2) (fun _ _ => 0)) ++ ([(q13, .inl (Y 5, 2, .inr (.inr (.inr (.inr (sU (sU (fun _ => none) 0 (some (qq17 99))) 1 (some (qq21 99))))))))] ++ ((wNet qq12 Y (n_begin (fun _ => 0) 2) (fun _ _ => 0)) ++ ((wNet qq9 Y (n_begin (fun _ => 0) 2) (fun _ _ => 0)) ++ ((wNet qq6 Y (n_begin (fun _ => 0) 2) (fun _ _ => 0)) ++ ((wText qq3 Y (fun _ => 0) (fun _ => 0)) ++ [(a, .inr (5, [.ref (qq3 99), .ref (qq6 99), .ref (qq9 99), .ref (qq12 99), .ref q13, .ref q23, .ref (qq26 99), .ref (qq29 99), .ref q30]))])))))))))))))) rfl dX7_init_138 rfl ?_
              refine g_iinc C (n' := 142) 0 [(1, .int (iI 3)), (0, .ref a)] rfl dX7_init_139 rfl (by decide) rfl ?_
              refine g_goto C 121 dX7_init_142 (by decide) ?_
              refine g_iload_n C (n' := 122) 0 rfl dX7_init_121 rfl rfl ?_
              refine g_iconst C (n' := 123) dX7_init_122 rfl ?_
              refine g_icmp_ge C (n' := 126) 145 dX7_init_123 (by decide) rfl (by unfold inR; omega) (by unfold inR; omega) (fun c43 => ?_) (fun c43 => ?_)
              · skip
                refine g_perm (w' := (wTop (qOf [(99, a), (4, q13), (5, q23), (8, q30)]) Y qq3 qq6 qq9 qq12 (qSel [qq17, qq21]) qq26 qq29 (qSel [qq34, qq38, qq42]) (fun _ => 0) ++ (wText qq3 Y (fun _ => 0) (fun _ => 0) ++ (wNet qq6 Y (n_begin (fun _ => 0) 2) (fun _ _ => 0) ++ (wNet qq9 Y (n_begin (fun _ => 0) 2) (fun _ _ => 0) ++ (wNet qq12 Y (n_begin (fun _ => 0) 2) (fun _ _ => 0) ++ (wNet ((qSel [qq17, qq21]) 0) Y (n_begin (fun _ => 0) 2) (fun _ _ => 0) ++ (wNet ((qSel [qq17, qq21]) 1) Y (n_begin (fun _ => 0) 2) (fun _ _ => 0) ++ (wHist qq26 Y (fun _ => 0) (fun _ _ => 0) ++ (wPlan qq29 Y (fun _ => 0) (fun _ _ => 0) (fun _ _ => 0) ++ (wTrace ((qSel [qq34, qq38, qq42]) 0) Y (fun _ => 0) (fun _ => 0) (fun _ => 0) ++ (wTrace ((qSel [qq34, qq38, qq42]) 1) Y (fun _ => 0) (fun _ => 0) (fun _ => 0) ++ wTrace ((qSel [qq34, qq38, qq42]) 2) Y (fun _ => 0) (fun _ => 0) (fun _ => 0))))))))))))) (((((((((((((((((List.Perm.refl _).trans (pm_s (List.Perm.refl _))).trans (pm_s (pm_s (List.Perm.refl _)))).trans (pm_s (pm_s (pm_s (pm_s (List.Perm.refl _)))))).trans (pm_s (pm_s (pm_s (pm_s (pm_s (List.Perm.refl _))))))).trans (pm_s (pm_s (pm_s (pm_s (pm_s (pm_s (pm_s (List.Perm.refl _))))))))).trans (pm_s (pm_s (pm_s (pm_s (pm_s (pm_s (pm_s (pm_s (List.Perm.refl _)))))))))).trans (pm_s (pm_s (pm_s (pm_s (pm_s (pm_s (pm_s (pm_s (pm_s (pm_s (List.Perm.refl _)))))))))))).trans (pm_s (pm_s (pm_s (pm_s (pm_s (pm_s (pm_s (pm_s (pm_s (pm_s (pm_s (List.Perm.refl _))))))))))))).trans (pm_s (pm_s (pm_s (pm_s (pm_s (pm_s (pm_s (pm_s (pm_s (pm_s (pm_s (pm_s (List.Perm.refl _)))))))))))))).trans (pm_s (pm_s (pm_s (pm_s (pm_s (pm_s (pm_s (pm_s (pm_s (pm_s (pm_s (pm_s (pm_s (List.Perm.refl _))))))))))))))).trans (pm_s (pm_s (pm_s (pm_s (pm_s (pm_s (pm_s (pm_s (pm_s (pm_s (pm_s (List.Perm.refl _))))))))))))).trans (pm_s (pm_s (pm_s (pm_s (pm_s (pm_s (pm_s (pm_s (pm_s (pm_s (pm_s (pm_s (List.Perm.refl _)))))))))))))).trans (pm_s (pm_s (pm_s (pm_s (pm_s (pm_s (pm_s (pm_s (pm_s (pm_s (pm_s (pm_s (pm_s (List.Perm.refl _))))))))))))))).trans (pm_s (pm_s (pm_s (pm_s (pm_s (pm_s (pm_s (pm_s (pm_s (pm_s (pm_s (pm_s (pm_s List.perm_append_comm)))))))))))))).trans (List.Perm.of_eq (show (([(a, .inr (5, [.ref (qq3 99), .ref (qq6 99), .ref (qq9 99), .ref (qq12 99), .ref q13, .ref q23, .ref (qq26 99), .ref (qq29 99), .ref q30]))] ++ ([(q13, .inl (Y 5, 2, .inr (.inr (.inr (.inr (sU (sU (fun _ => none) 0 (some (qq17 99))) 1 (some (qq21 99))))))))] ++ ([(q23, .inl (Y 2, 2, .inl (iA (fun _ => 0))))] ++ ([(q30, .inl (Y 6, 3, .inr (.inr (.inr (.inr (sU (sU (sU (fun _ => none) 0 (some (qq34 99))) 1 (some (qq38 99))) 2 (some (qq42 99))))))))] ++ ((wText qq3 Y (fun _ => 0) (fun _ => 0)) ++ ((wNet qq6 Y (n_begin (fun _ => 0) 2) (fun _ _ => 0)) ++ ((wNet qq9 Y (n_begin (fun _ => 0) 2) (fun _ _ => 0)) ++ ((wNet qq12 Y (n_begin (fun _ => 0) 2) (fun _ _ => 0)) ++ ((wNet qq17 Y (n_begin (fun _ => 0) 2) (fun _ _ => 0)) ++ ((wNet qq21 Y (n_begin (fun _ => 0) 2) (fun _ _ => 0)) ++ ((wHist qq26 Y (fun _ => 0) (fun _ _ => 0)) ++ ((wPlan qq29 Y (fun _ => 0) (fun _ _ => 0) (fun _ _ => 0)) ++ ((wTrace qq34 Y (fun _ => 0) (fun _ => 0) (fun _ => 0)) ++ ((wTrace qq38 Y (fun _ => 0) (fun _ => 0) (fun _ => 0)) ++ (wTrace qq42 Y (fun _ => 0) (fun _ => 0) (fun _ => 0)))))))))))))))) : va_W) = ([(a, .inr (5, [.ref (qq3 99), .ref (qq6 99), .ref (qq9 99), .ref (qq12 99), .ref q13, .ref q23, .ref (qq26 99), .ref (qq29 99), .ref q30]))] ++ ([(q13, .inl (Y 5, 2, .inr (.inr (.inr (.inr (sU (sU (fun _ => none) 0 (some (qq17 99))) 1 (some (qq21 99))))))))] ++ ([(q23, .inl (Y 2, 2, .inl (iA (fun _ => 0))))] ++ ([(q30, .inl (Y 6, 3, .inr (.inr (.inr (.inr (sU (sU (sU (fun _ => none) 0 (some (qq34 99))) 1 (some (qq38 99))) 2 (some (qq42 99))))))))] ++ ((wText qq3 Y (fun _ => 0) (fun _ => 0)) ++ ((wNet qq6 Y (n_begin (fun _ => 0) 2) (fun _ _ => 0)) ++ ((wNet qq9 Y (n_begin (fun _ => 0) 2) (fun _ _ => 0)) ++ ((wNet qq12 Y (n_begin (fun _ => 0) 2) (fun _ _ => 0)) ++ ((wNet qq17 Y (n_begin (fun _ => 0) 2) (fun _ _ => 0)) ++ ((wNet qq21 Y (n_begin (fun _ => 0) 2) (fun _ _ => 0)) ++ ((wHist qq26 Y (fun _ => 0) (fun _ _ => 0)) ++ ((wPlan qq29 Y (fun _ => 0) (fun _ _ => 0) (fun _ _ => 0)) ++ ((wTrace qq34 Y (fun _ => 0) (fun _ => 0) (fun _ => 0)) ++ ((wTrace qq38 Y (fun _ => 0) (fun _ => 0) (fun _ => 0)) ++ (wTrace qq42 Y (fun _ => 0) (fun _ => 0) (fun _ => 0)))))))))))))))) ++ [] by simp only [List.append_assoc, List.append_nil]))).trans (List.Perm.of_eq (show (([(a, .inr (5, [.ref (qq3 99), .ref (qq6 99), .ref (qq9 99), .ref (qq12 99), .ref q13, .ref q23, .ref (qq26 99), .ref (qq29 99), .ref q30]))] ++ ([(q13, .inl (Y 5, 2, .inr (.inr (.inr (.inr (sU (sU (fun _ => none) 0 (some (qq17 99))) 1 (some (qq21 99))))))))] ++ ([(q23, .inl (Y 2, 2, .inl (iA (fun _ => 0))))] ++ ([(q30, .inl (Y 6, 3, .inr (.inr (.inr (.inr (sU (sU (sU (fun _ => none) 0 (some (qq34 99))) 1 (some (qq38 99))) 2 (some (qq42 99))))))))] ++ ((wText qq3 Y (fun _ => 0) (fun _ => 0)) ++ ((wNet qq6 Y (n_begin (fun _ => 0) 2) (fun _ _ => 0)) ++ ((wNet qq9 Y (n_begin (fun _ => 0) 2) (fun _ _ => 0)) ++ ((wNet qq12 Y (n_begin (fun _ => 0) 2) (fun _ _ => 0)) ++ ((wNet qq17 Y (n_begin (fun _ => 0) 2) (fun _ _ => 0)) ++ ((wNet qq21 Y (n_begin (fun _ => 0) 2) (fun _ _ => 0)) ++ ((wHist qq26 Y (fun _ => 0) (fun _ _ => 0)) ++ ((wPlan qq29 Y (fun _ => 0) (fun _ _ => 0) (fun _ _ => 0)) ++ ((wTrace qq34 Y (fun _ => 0) (fun _ => 0) (fun _ => 0)) ++ ((wTrace qq38 Y (fun _ => 0) (fun _ => 0) (fun _ => 0)) ++ (wTrace qq42 Y (fun _ => 0) (fun _ => 0) (fun _ => 0)))))))))))))))) ++ [] : va_W) = (wTop (qOf [(99, a), (4, q13), (5, q23), (8, q30)]) Y qq3 qq6 qq9 qq12 (qSel [qq17, qq21]) qq26 qq29 (qSel [qq34, qq38, qq42]) (fun _ => 0) ++ (wText qq3 Y (fun _ => 0) (fun _ => 0) ++ (wNet qq6 Y (n_begin (fun _ => 0) 2) (fun _ _ => 0) ++ (wNet qq9 Y (n_begin (fun _ => 0) 2) (fun _ _ => 0) ++ (wNet qq12 Y (n_begin (fun _ => 0) 2) (fun _ _ => 0) ++ (wNet ((qSel [qq17, qq21]) 0) Y (n_begin (fun _ => 0) 2) (fun _ _ => 0) ++ (wNet ((qSel [qq17, qq21]) 1) Y (n_begin (fun _ => 0) 2) (fun _ _ => 0) ++ (wHist qq26 Y (fun _ => 0) (fun _ _ => 0) ++ (wPlan qq29 Y (fun _ => 0) (fun _ _ => 0) (fun _ _ => 0) ++ (wTrace ((qSel [qq34, qq38, qq42]) 0) Y (fun _ => 0) (fun _ => 0) (fun _ => 0) ++ (wTrace ((qSel [qq34, qq38, qq42]) 1) Y (fun _ => 0) (fun _ => 0) (fun _ => 0) ++ wTrace ((qSel [qq34, qq38, qq42]) 2) Y (fun _ => 0) (fun _ => 0) (fun _ => 0)))))))))))) from by unfold wTop; rw [qSel_2, qSel_3]; rfl))) ?_
                exact g_vret C hr hlk ⟨rfl, (qOf [(99, a), (4, q13), (5, q23), (8, q30)]), qq3, qq6, qq9, qq12, (qSel [qq17, qq21]), qq26, qq29, (qSel [qq34, qq38, qq42]), rfl, rfl⟩ dX7_init_145
              · skip
                exfalso
                omega
      · skip
        exfalso
        omega
