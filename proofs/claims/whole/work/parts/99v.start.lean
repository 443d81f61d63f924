/-! the law: its start -/
theorem a_prim {args : Array Value} {s : State} {ty : FieldType} (h : (Cond.arrayClass ty).before args s = true) : ∃ cA : ClassId, ArrOfT s cA ty ∧ s.vm.findClass ("[" ++ ty.toString) = some cA := by
  obtain ⟨c, k, comp, h1, h2, h3⟩ := Cond.arrayClass_spec h
  exact ⟨c, fun n z => ⟨fun k h => (by cases h), k, h2, comp, h3⟩, h1⟩
theorem a_obj {args : Array Value} {s : State} {n : String} (h : (Cond.arrayOver (.object n)).before args s = true) : ∃ cA : ClassId, ArrOfT s cA (.object n) ∧ va_RA s cA (.object n) := by
  obtain ⟨comp, c, k, h1, h2, h3, h4, h5⟩ := Cond.arrayOver_spec h
  exact ⟨c, fun n z => ⟨fun k h => (by cases h), k, h3, comp, h4⟩, k, comp, h3, h4, h1, h5⟩
theorem a_arr {args : Array Value} {s : State} {t : FieldType} (h : (Cond.arrayOver (.array t)).before args s = true) : ∃ cA : ClassId, ArrOfT s cA (.array t) ∧ s.vm.findClass ("[" ++ (FieldType.array t).toString) = some cA := by
  obtain ⟨comp, c, k, h1, h2, h3, h4⟩ := Cond.arrayOver_specA h
  exact ⟨c, fun n z => ⟨fun k h => (by cases h), k, h2, comp, h3⟩, h4⟩
theorem lw_K {args : Array Value} {s : State} (hts : ∀ w ∈ lw_tbl, w.before args s = true) : ∃ (D : va_G) (Y : Nat → ClassId), va_K D vwCl (tysY Y) s := by
  have hg : ∀ w ∈ g_all, w.before args s = true := fun w h => hts w (List.mem_filter.mp h).1
  obtain ⟨c1, i1, k1⟩ := u_known hg ga_X1 (hg _ kw_112)
  obtain ⟨c2, i2, k2⟩ := u_known hg ga_X2 (hg _ kw_49)
  obtain ⟨c3, i3, k3⟩ := u_known hg ga_X3 (hg _ kw_132)
  obtain ⟨c4, i4, k4⟩ := u_known hg ga_X4 (hg _ kw_26)
  obtain ⟨c5, i5, k5⟩ := u_known hg ga_X5 (hg _ kw_163)
  obtain ⟨c7, i7, k7⟩ := u_known hg ga_X7 (hg _ kw_18)
  obtain ⟨c8, i8, k8⟩ := u_known hg ga_X8 (hg _ kw_677)
  obtain ⟨y0, a0, b0⟩ := a_prim (ty := .int) (hts _ (by decide +kernel))
  obtain ⟨y1, a1, b1⟩ := a_prim (ty := .char) (hts _ (by decide +kernel))
  obtain ⟨y2, a2, b2⟩ := a_prim (ty := .boolean) (hts _ (by decide +kernel))
  obtain ⟨y3, a3, b3⟩ := a_prim (ty := .double) (hts _ (by decide +kernel))
  obtain ⟨y4, a4, b4⟩ := a_prim (ty := .float) (hts _ (by decide +kernel))
  obtain ⟨y5, a5, b5⟩ := a_obj (n := RX2) (hts _ (by decide +kernel))
  obtain ⟨y6, a6, b6⟩ := a_obj (n := RX5) (hts _ (by decide +kernel))
  obtain ⟨y7, a7, b7⟩ := a_arr (t := .int) (hts _ (by decide +kernel))
  refine ⟨(fun c => match c with | 0 => c1 | 1 => c2 | 2 => c3 | 3 => c4 | 4 => c5 | 5 => c7 | _ => c8, fun c => match c with | 0 => i1 | 1 => i2 | 2 => i3 | 3 => i4 | 4 => i5 | 5 => i7 | _ => i8), (fun k => match k with | 0 => y0 | 1 => y1 | 2 => y2 | 3 => y3 | 4 => y4 | 5 => y5 | 6 => y6 | _ => y7), ?_, ?_⟩
  · intro c q hq
    match c, hq with
    | 0, hq => cases hq; exact k1
    | 1, hq => cases hq; exact k2
    | 2, hq => cases hq; exact k3
    | 3, hq => cases hq; exact k4
    | 4, hq => cases hq; exact k5
    | 5, hq => cases hq; exact k7
    | 6, hq => cases hq; exact k8
    | n + 7, hq => cases hq
  · intro k q hq
    match k, hq with
    | 0, hq => cases hq; exact ⟨a0, b0⟩
    | 1, hq => cases hq; exact ⟨a1, b1⟩
    | 2, hq => cases hq; exact ⟨a2, b2⟩
    | 3, hq => cases hq; exact ⟨a3, b3⟩
    | 4, hq => cases hq; exact ⟨a4, b4⟩
    | 5, hq => cases hq; exact ⟨a5, b5⟩
    | 6, hq => cases hq; exact ⟨a6, b6⟩
    | 7, hq => cases hq; exact ⟨a7, b7⟩
    | n + 8, hq => cases hq
theorem lw_nest : ∀ w ∈ g_nest, w ∈ lw_tbl := by decide +kernel
theorem p_all {α : Type} {a b c d e f g h i j k l m : List α} : (m ++ ((a ++ (b ++ (c ++ (d ++ (e ++ (f ++ (g ++ (h ++ (i ++ (j ++ (k ++ l))))))))))) ++ [])).Perm (a ++ (b ++ (c ++ (d ++ (e ++ (f ++ (g ++ (h ++ (i ++ (j ++ (k ++ (l ++ m)))))))))))) := by
  classical
  exact List.perm_iff_count.2 fun x => by simp only [List.count_append, List.count_nil]; omega
theorem whole_start {p : Program} {e : Env} {s : State} {m : MethodId} {below : List Frame} {meth : Method} {c : Code} (l : Launch) (hflags : l.flags = flags0) {b L : Nat} {xs : Nat → Int32} (hL : L ≤ 3072) (C0 : lw_At p s m meth c b L xs) : W p l e room_1 s m #[Value.ref b] below meth c s.heap [] 0 0 (lw_Z below #[Value.ref b] s) (entryFrame m ([Value.ref b] : List Value).toArray 4) := by
  obtain ⟨hx, hb, hr, hml, hown, hts, hX, hbl, hlocks, hgv⟩ := C0
  have hA : ∀ a : Nat, a < s.heap.size → ¬ s.heap.size ≤ a := fun a h => Nat.not_le_of_lt h
  obtain ⟨D, Y, hK⟩ := lw_K hts
  obtain ⟨e9, hE⟩ := lw_env (A := fun q => s.heap.size ≤ q) hgv hts hA
  have hC : cEnv s := ⟨va_AO.of (hts (Cond.arrayOver (.object RX2)) (by decide +kernel)), va_AO.of (hts (Cond.arrayOver (.object RX5)) (by decide +kernel)), hts (Cond.arrayOver (.array .int)) (by decide +kernel)⟩
  have hT : va_T .int b L (fun k => .int (iI (xs k).toInt)) (fun q => s.heap.size ≤ q) s s.heap := by
    obtain ⟨scr, x1, x2, x3, x4, x5⟩ := hX
    exact ⟨scr, x1, x2, x3, by omega, by rw [x4], fun j hj => (x5 j hj).trans (congrArg (fun z => some (Value.int z)) (iI_of (xs j))), hA b hbl⟩
  have C : g_Cx p s m #[Value.ref b] c cL_law 4 RL D (tysY Y) (fun q => s.heap.size ≤ q) (eLaw e9 b L (fun k => (xs k).toInt)) := ⟨hx, hb, hml, hown, fun w h => hts w (List.mem_filter.mp h).1, hK, fun q h => h, fun w hw => va_Nw.of (g_nest_t hw) (hts w (lw_nest w hw)), eLaw_stab _ _ _ _, hE, hC, hT⟩
  have hend : ∀ w lv, g_G p l e room_1 s m #[Value.ref b] below meth c 4 D (fun q => s.heap.size ≤ q) (lw_Z below #[Value.ref b] s) 77 1630 w lv 866 [] := fun w lv => g_iconst C (n' := 867) dL_law_866 rfl (fun d0 H locs ls hd hP hD hS hl => va_forget (fun q hq => hS.2.2 q hq) (W.widen (by decide) (by decide) (lw_ret hd hx hb hr hlocks dL_law_867)))
  have G : g_G p l e room_1 s m #[Value.ref b] below meth c 4 D (fun q => s.heap.size ≤ q) (lw_Z below #[Value.ref b] s) 0 0 [] [(0, .ref b)] 0 [] := by
    refine g_new C (n' := 3) (Cn := RX7) (T := TX7) (N := 9) (ci := 5) (fs := [.null, .null, .null, .null, .null, .null, .null, .null, .null]) ga_X7 tyX7 tyX7_ok kw_17 kw_18 kw_1 rfl (fun j hj => by rcases (show j = 0 ∨ j = 1 ∨ j = 2 ∨ j = 3 ∨ j = 4 ∨ j = 5 ∨ j = 6 ∨ j = 7 ∨ j = 8 by omega) with rfl | rfl | rfl | rfl | rfl | rfl | rfl | rfl | rfl <;> rfl) (Nat.le_of_ble_eq_true rfl) (Nat.le_of_ble_eq_true rfl) dL_law_0 rfl (fun q1 => ?_)
    refine g_dup C (n' := 4) rfl dL_law_3 rfl ?_
    refine g_callI C (n' := 7) (c_X7_init l D Y C.2.2.2.2.2.2.2.2.1 eLaw_c q1) kw_19 kw_21 kw_1 kw_20 rfl (by decide +kernel) (List.Perm.refl _) ⟨(Nat.le_of_ble_eq_true rfl), (Nat.le_of_ble_eq_true rfl)⟩ ⟨rfl, rfl⟩ ⟨(Nat.le_of_ble_eq_true rfl), (Nat.le_of_ble_eq_true rfl)⟩ (Nat.le_of_ble_eq_true rfl) dL_law_4 rfl (fun r9 w9 hp1 => ?_)
    obtain ⟨rfl, q, qt, qd, qn, qs, qk, qh, qp, qr, rfl, rfl⟩ := hp1
    refine g_astore_n C (n' := 8) [(1, .ref (q 99)), (0, .ref b)] dL_law_7 rfl rfl (by decide) rfl ?_
    refine g_new C (n' := 11) (Cn := RX8) (T := TX8) (N := 35) (ci := 6) (fs := [.null, .int (iI 0), .int (iI 0), .null, .null, .int (iI 0), .int (iI 0), .int (iI 0), .int (iI 0), .null, .null, .int (iI 0), .null, .null, .null, .null, .int (iI 0), .int (iI 0), .int (iI 0), .int (iI 0), .int (iI 0), .int (iI 0), .null, .null, .null, .null, .null, .null, .null, .null, .null, .null, .null, .null, .int (iI 0)]) ga_X8 tyX8 tyX8_ok kw_676 kw_677 kw_7 rfl (fun j hj => by rcases (show j = 0 ∨ j = 1 ∨ j = 2 ∨ j = 3 ∨ j = 4 ∨ j = 5 ∨ j = 6 ∨ j = 7 ∨ j = 8 ∨ j = 9 ∨ j = 10 ∨ j = 11 ∨ j = 12 ∨ j = 13 ∨ j = 14 ∨ j = 15 ∨ j = 16 ∨ j = 17 ∨ j = 18 ∨ j = 19 ∨ j = 20 ∨ j = 21 ∨ j = 22 ∨ j = 23 ∨ j = 24 ∨ j = 25 ∨ j = 26 ∨ j = 27 ∨ j = 28 ∨ j = 29 ∨ j = 30 ∨ j = 31 ∨ j = 32 ∨ j = 33 ∨ j = 34 by omega) with rfl | rfl | rfl | rfl | rfl | rfl | rfl | rfl | rfl | rfl | rfl | rfl | rfl | rfl | rfl | rfl | rfl | rfl | rfl | rfl | rfl | rfl | rfl | rfl | rfl | rfl | rfl | rfl | rfl | rfl | rfl | rfl | rfl | rfl | rfl <;> rfl) (Nat.le_of_ble_eq_true rfl) (Nat.le_of_ble_eq_true rfl) dL_law_8 rfl (fun q2 => ?_)
    refine g_dup C (n' := 12) rfl dL_law_11 rfl ?_
    refine g_callI C (n' := 15) (c_X8_init l D Y C.2.2.2.2.2.2.2.2.1 q2) kw_678 kw_680 kw_7 kw_679 rfl (by decide +kernel) (List.Perm.refl _) ⟨(Nat.le_of_ble_eq_true rfl), (Nat.le_of_ble_eq_true rfl)⟩ ⟨rfl, rfl⟩ ⟨(Nat.le_of_ble_eq_true rfl), (Nat.le_of_ble_eq_true rfl)⟩ (Nat.le_of_ble_eq_true rfl) dL_law_12 rfl (fun r9 w9 hp2 => ?_)
    obtain ⟨rfl, qm, rfl, rfl⟩ := hp2
    refine g_astore_n C (n' := 16) [(2, .ref (qm 99)), (1, .ref (q 99)), (0, .ref b)] dL_law_15 rfl rfl (by decide) rfl ?_
    refine g_iconst C (n' := 17) dL_law_16 rfl ?_
    refine g_istore_n C (n' := 18) [(3, .int (iI 0)), (2, .ref (qm 99)), (1, .ref (q 99)), (0, .ref b)] dL_law_17 rfl rfl (by decide) rfl ?_
    refine g_perm p_all ?_
    exact lw_loop (q := q) (Y := Y) (qt := qt) (qd := qd) (qn := qn) (qs := qs) (qk := qk) (qh := qh) (qp := qp) (qr := qr) (qm := qm) C hL (fun k => ⟨Int32.le_toInt _, Int32.toInt_lt _⟩) hend 4000 0 (by decide) (by decide) (by omega) _ _ _ _ _ _ _ _ _ _ _ _ _ _ _ _ _ _ _ _ _ _ _ R_init
  refine W.base ?_
  have hl := lv_entry [Value.ref b] (n := 4) (Nat.le_of_ble_eq_true rfl)
  have hP0 : va_P D vwCl [] s.heap := fun k q h => (by cases h)
  have hD0 : va_D (fun q => s.heap.size ≤ q) [] := ⟨(fun i j p q h => (by cases h)), (fun k q h => (by cases h))⟩
  rw [lg_entry_eq]
  exact G s.drawn s.heap [] _ (Drawn.sameBut.refl s.drawn lw_cs) hP0 hD0 va_S.rf hl
