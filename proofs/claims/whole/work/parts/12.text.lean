/-! Text: letters, tokens -/
def smL (L : Nat → Int) : Prop := ∀ k : Nat, 0 ≤ L k ∧ L k < 65536
/-- the first place from i on, before n, that is no blank -/
def t_skip (L : Nat → Int) (n : Int) : Nat → Int → Int
  | 0, i => i
  | f + 1, i => if i < n ∧ L i.toNat = 32 then t_skip L n f (i + 1) else i
def t_cls (x : Int) : Int := if 97 ≤ x ∧ x ≤ 122 then 1 else if 48 ≤ x ∧ x ≤ 57 then 2 else 0
def t_run (L : Nat → Int) (n k : Int) : Nat → Int → Int
  | 0, i => i
  | f + 1, i => if i < n ∧ t_cls (L i.toNat) = k then t_run L n k f (i + 1) else i
def t_end (L : Nat → Int) (n s : Int) : Int := if n ≤ s then s else if t_cls (L s.toNat) = 0 then s + 1 else t_run L n (t_cls (L s.toNat)) 200 (s + 1)
def t_adv (I L : Nat → Int) : Nat → Int := sU (sU I 3 (t_skip L (I 1) 200 (I 4))) 4 (t_end L (I 1) (t_skip L (I 1) 200 (I 4)))
def t_val (L : Nat → Int) (s : Nat) : Nat → Int
  | 0 => 0
  | k + 1 => t_val L s k * 10 + (L (s + k) - 48)
def t_num (L : Nat → Int) (n s e lo hi : Int) : Int := if n ≤ s then -1 else if ¬ (48 ≤ L s.toNat ∧ L s.toNat ≤ 57) then -1 else if 3 < e - s then -1 else if lo ≤ t_val L s.toNat (e - s).toNat ∧ t_val L s.toNat (e - s).toNat ≤ hi then t_val L s.toNat (e - s).toNat else -1
theorem t_cls_iff {x y : Int} : t_cls x = t_cls y ↔ (((97 ≤ x ∧ x ≤ 122) ↔ (97 ≤ y ∧ y ≤ 122)) ∧ ((48 ≤ x ∧ x ≤ 57) ↔ (48 ≤ y ∧ y ≤ 57))) := by
  unfold t_cls
  (repeat' split) <;> omega
theorem t_cls_0 {x : Int} (h1 : ¬ (97 ≤ x ∧ x ≤ 122)) (h2 : ¬ (48 ≤ x ∧ x ≤ 57)) : t_cls x = 0 := by
  unfold t_cls
  rw [if_neg h1, if_neg h2]
theorem t_cls_n0 {x : Int} (h : (97 ≤ x ∧ x ≤ 122) ∨ (48 ≤ x ∧ x ≤ 57)) : ¬ t_cls x = 0 := by
  unfold t_cls
  (repeat' split) <;> omega
theorem t_skip_r (L : Nat → Int) (n : Int) : ∀ (f : Nat) (i : Int), i ≤ t_skip L n f i ∧ (t_skip L n f i ≤ n ∨ t_skip L n f i = i)
  | 0, i => by simp [t_skip]
  | f + 1, i => by
    have h := t_skip_r L n f (i + 1)
    unfold t_skip
    split <;> omega
theorem t_run_r (L : Nat → Int) (n k : Int) : ∀ (f : Nat) (i : Int), i ≤ t_run L n k f i ∧ (t_run L n k f i ≤ n ∨ t_run L n k f i = i)
  | 0, i => by simp [t_run]
  | f + 1, i => by
    have h := t_run_r L n k f (i + 1)
    unfold t_run
    split <;> omega
theorem t_end_r (L : Nat → Int) (n s : Int) : s ≤ t_end L n s ∧ (t_end L n s ≤ n ∨ t_end L n s = s) := by
  have h := t_run_r L n (t_cls (L s.toNat)) 200 (s + 1)
  unfold t_end
  (repeat' split) <;> omega
def tokOK (I : Nat → Int) : Prop := 0 ≤ I 3 ∧ I 3 ≤ I 4 ∧ I 4 ≤ 200 ∧ 0 ≤ I 1 ∧ I 1 ≤ 200
theorem t_adv_ok {I L : Nat → Int} (h : tokOK I) : tokOK (t_adv I L) := by
  unfold tokOK at *
  have h1 := t_skip_r L (I 1) 200 (I 4)
  have h2 := t_end_r L (I 1) (t_skip L (I 1) 200 (I 4))
  show 0 ≤ t_skip L (I 1) 200 (I 4) ∧ t_skip L (I 1) 200 (I 4) ≤ t_end L (I 1) (t_skip L (I 1) 200 (I 4)) ∧ t_end L (I 1) (t_skip L (I 1) 200 (I 4)) ≤ 200 ∧ 0 ≤ I 1 ∧ I 1 ≤ 200
  omega
theorem t_adv_sm {I L : Nat → Int} (hs : smI I) (h : tokOK I) : smI (t_adv I L) := by
  have h1 := t_adv_ok (L := L) h
  unfold tokOK at h1
  intro k
  have h2 := hs k
  by_cases a : k = 4
  · subst a; omega
  · by_cases b : k = 3
    · subst b; omega
    · unfold t_adv
      rw [sU_n _ _ a, sU_n _ _ b]
      exact h2
theorem t_val_r {L : Nat → Int} (hL : smL L) (s : Nat) : ∀ k : Nat, k ≤ 3 → -10000000 ≤ t_val L s k ∧ t_val L s k ≤ 10000000 := by
  intro k hk
  have h0 := hL s
  have h1 := hL (s + 1)
  have h2 := hL (s + 2)
  rcases (show k = 0 ∨ k = 1 ∨ k = 2 ∨ k = 3 by omega) with rfl | rfl | rfl | rfl <;> simp only [t_val, Nat.add_zero] <;> omega
def t_appI (I : Nat → Int) : Nat → Int := if I 1 < 200 then sU I 1 (I 1 + 1) else I
def t_appL (I L : Nat → Int) (x : Int) : Nat → Int := if I 1 < 200 then sU L (I 1).toNat x else L
theorem t_num_r (L : Nat → Int) (n s e lo hi : Int) : t_num L n s e lo hi = -1 ∨ (lo ≤ t_num L n s e lo hi ∧ t_num L n s e lo hi ≤ hi) := by
  unfold t_num
  (repeat' split) <;> omega
set_option maxRecDepth 100000 in
set_option maxHeartbeats 4000000 in
theorem c_X4_letterCount (l : Launch) (D : va_G) (Y : Nat → ClassId) {E : (Nat → Prop) → State → Heap → Prop} (hE : g_Stab E) (q : Nat → Nat) (I : Nat → Int) (L : Nat → Int) : g_Ct l yX4_letterCount cX4_letterCount 1 (some FieldType.int) ({ frames := 0, cells := 0, slots := 0, locals := 0 } : Room) D (tysY Y) E [.ref (q 99)] (wText q Y I L) 0 0 (g_det (some (.int (iI (I 1)))) (wText q Y I L)) := by
  refine g_ofG (own := RX4) hE (by decide) rfl (Nat.le_of_ble_eq_true rfl) [(0, .ref (q 99))] rfl ?_
  intro p9 e9 s9 m9 b9 t9 c9 A9 C hr hlk hnm
  refine g_aload_n C (n' := 1) 0 rfl dX4_letterCount_0 rfl rfl ?_
  refine g_get C (n' := 4) (Cn := RX4) (T := TX4) (N := 5) (ci := 3) (v := .int (iI (I 1))) ga_X4 0 rfl rfl 1 (by decide) kw_32 rfl rfl dX4_letterCount_1 rfl ?_
  refine g_iret C hr hlk rfl ⟨congrArg (fun z : Int => some (Value.int (iI z))) ?_, ?_⟩ dX4_letterCount_4
  · first | rfl | omega | ((repeat' split) <;> first | rfl | omega | (exfalso; omega))
  · first | rfl | omega | ((repeat' split) <;> first | rfl | omega | (exfalso; omega))
set_option maxRecDepth 100000 in
set_option maxHeartbeats 4000000 in
theorem c_X4_clauseCount (l : Launch) (D : va_G) (Y : Nat → ClassId) {E : (Nat → Prop) → State → Heap → Prop} (hE : g_Stab E) (q : Nat → Nat) (I : Nat → Int) (L : Nat → Int) : g_Ct l yX4_clauseCount cX4_clauseCount 1 (some FieldType.int) ({ frames := 0, cells := 0, slots := 0, locals := 0 } : Room) D (tysY Y) E [.ref (q 99)] (wText q Y I L) 0 0 (g_det (some (.int (iI (I 2)))) (wText q Y I L)) := by
  refine g_ofG (own := RX4) hE (by decide) rfl (Nat.le_of_ble_eq_true rfl) [(0, .ref (q 99))] rfl ?_
  intro p9 e9 s9 m9 b9 t9 c9 A9 C hr hlk hnm
  refine g_aload_n C (n' := 1) 0 rfl dX4_clauseCount_0 rfl rfl ?_
  refine g_get C (n' := 4) (Cn := RX4) (T := TX4) (N := 5) (ci := 3) (v := .int (iI (I 2))) ga_X4 0 rfl rfl 2 (by decide) kw_33 rfl rfl dX4_clauseCount_1 rfl ?_
  refine g_iret C hr hlk rfl ⟨congrArg (fun z : Int => some (Value.int (iI z))) ?_, ?_⟩ dX4_clauseCount_4
  · first | rfl | omega | ((repeat' split) <;> first | rfl | omega | (exfalso; omega))
  · first | rfl | omega | ((repeat' split) <;> first | rfl | omega | (exfalso; omega))
set_option maxRecDepth 100000 in
set_option maxHeartbeats 4000000 in
theorem c_X4_clear (l : Launch) (D : va_G) (Y : Nat → ClassId) {E : (Nat → Prop) → State → Heap → Prop} (hE : g_Stab E) (q : Nat → Nat) (I : Nat → Int) (L : Nat → Int) : g_Ct l yX4_clear cX4_clear 1 none ({ frames := 0, cells := 0, slots := 0, locals := 0 } : Room) D (tysY Y) E [.ref (q 99)] (wText q Y I L) 0 0 (g_det none (wText q Y (sU I 1 0) L)) := by
  refine g_ofG (own := RX4) hE (by decide) rfl (Nat.le_of_ble_eq_true rfl) [(0, .ref (q 99))] rfl ?_
  intro p9 e9 s9 m9 b9 t9 c9 A9 C hr hlk hnm
  refine g_aload_n C (n' := 1) 0 rfl dX4_clear_0 rfl rfl ?_
  refine g_iconst C (n' := 2) dX4_clear_1 rfl ?_
  refine g_put C (n' := 5) (Cn := RX4) (T := TX4) (N := 5) (ci := 3) (v := .int (iI 0)) ga_X4 0 rfl rfl 1 (by decide) kw_32 rfl tyX4 tyX4_ok nmX4 rfl rfl rfl rfl (Nat.le_of_ble_eq_true rfl) (wText q Y (sU I 1 0) L) rfl dX4_clear_2 rfl ?_
  refine g_vret C hr hlk ⟨rfl, ?_⟩ dX4_clear_5
  first | rfl | omega | ((repeat' split) <;> first | rfl | omega | (exfalso; omega))
set_option maxRecDepth 100000 in
set_option maxHeartbeats 4000000 in
theorem c_X4_isAtEnd (l : Launch) (D : va_G) (Y : Nat → ClassId) {E : (Nat → Prop) → State → Heap → Prop} (hE : g_Stab E) (q : Nat → Nat) (I : Nat → Int) (L : Nat → Int) (hsI : smI I) (hsL : smL L) : g_Ct l yX4_isAtEnd cX4_isAtEnd 1 (some FieldType.boolean) ({ frames := 0, cells := 0, slots := 0, locals := 0 } : Room) D (tysY Y) E [.ref (q 99)] (wText q Y I L) 0 0 (g_det (some (.int (iI (if I 1 ≤ I 3 then 1 else 0)))) (wText q Y I L)) := by
  refine g_ofG (own := RX4) hE (by decide) rfl (Nat.le_of_ble_eq_true rfl) [(0, .ref (q 99))] rfl ?_
  intro p9 e9 s9 m9 b9 t9 c9 A9 C hr hlk hnm
  have hI := hsI
  have hL := hsL
  unfold smI at hI
  unfold smL at hL
  refine g_aload_n C (n' := 1) 0 rfl dX4_isAtEnd_0 rfl rfl ?_
  refine g_get C (n' := 4) (Cn := RX4) (T := TX4) (N := 5) (ci := 3) (v := .int (iI (I 3))) ga_X4 0 rfl rfl 3 (by decide) kw_34 rfl rfl dX4_isAtEnd_1 rfl ?_
  have h_1 := hI 3
  refine g_aload_n C (n' := 5) 0 rfl dX4_isAtEnd_4 rfl rfl ?_
  refine g_get C (n' := 8) (Cn := RX4) (T := TX4) (N := 5) (ci := 3) (v := .int (iI (I 1))) ga_X4 0 rfl rfl 1 (by decide) kw_32 rfl rfl dX4_isAtEnd_5 rfl ?_
  have h_5 := hI 1
  refine g_icmp_lt C (n' := 11) 15 dX4_isAtEnd_8 (by decide) rfl (by unfold inR; omega) (by unfold inR; omega) (fun c1 => ?_) (fun c1 => ?_)
  · skip
    refine g_iconst C (n' := 16) dX4_isAtEnd_15 rfl ?_
    refine g_iret C hr hlk (nar_z (by omega)) ⟨congrArg (fun z : Int => some (Value.int (iI z))) ?_, ?_⟩ dX4_isAtEnd_16
    · first | rfl | omega | ((repeat' split) <;> first | rfl | omega | (exfalso; omega))
    · first | rfl | omega | ((repeat' split) <;> first | rfl | omega | (exfalso; omega))
  · skip
    refine g_iconst C (n' := 12) dX4_isAtEnd_11 rfl ?_
    refine g_goto C 16 dX4_isAtEnd_12 (by decide) ?_
    refine g_iret C hr hlk (nar_z (by omega)) ⟨congrArg (fun z : Int => some (Value.int (iI z))) ?_, ?_⟩ dX4_isAtEnd_16
    · first | rfl | omega | ((repeat' split) <;> first | rfl | omega | (exfalso; omega))
    · first | rfl | omega | ((repeat' split) <;> first | rfl | omega | (exfalso; omega))
set_option maxRecDepth 100000 in
set_option maxHeartbeats 4000000 in
theorem c_X4_append (l : Launch) (D : va_G) (Y : Nat → ClassId) {E : (Nat → Prop) → State → Heap → Prop} (hE : g_Stab E) (q : Nat → Nat) (I : Nat → Int) (L : Nat → Int) (x : Int) (hsI : smI I) (hsL : smL L) (h1 : 0 ≤ I 1 ∧ I 1 ≤ 200) (hx : 0 ≤ x ∧ x < 65536) : g_Ct l yX4_append cX4_append 2 (some FieldType.boolean) ({ frames := 0, cells := 0, slots := 0, locals := 0 } : Room) D (tysY Y) E [.ref (q 99), .int (iI x)] (wText q Y I L) 0 0 (g_det (some (.int (iI (if I 1 < 200 then 1 else 0)))) (wText q Y (t_appI I) (t_appL I L x))) := by
  refine g_ofG (own := RX4) hE (by decide) rfl (Nat.le_of_ble_eq_true rfl) [(0, .ref (q 99)), (1, .int (iI x))] rfl ?_
  intro p9 e9 s9 m9 b9 t9 c9 A9 C hr hlk hnm
  have hI := hsI
  have hL := hsL
  unfold smI at hI
  unfold smL at hL
  refine g_aload_n C (n' := 1) 0 rfl dX4_append_0 rfl rfl ?_
  refine g_get C (n' := 4) (Cn := RX4) (T := TX4) (N := 5) (ci := 3) (v := .int (iI (I 1))) ga_X4 0 rfl rfl 1 (by decide) kw_32 rfl rfl dX4_append_1 rfl ?_
  have h_1 := hI 1
  refine g_sipush C (n' := 7) (by decide) dX4_append_4 rfl ?_
  refine g_icmp_lt C (n' := 10) 12 dX4_append_7 (by decide) rfl (by unfold inR; omega) (by unfold inR; omega) (fun c1 => ?_) (fun c1 => ?_)
  · skip
    refine g_aload_n C (n' := 13) 0 rfl dX4_append_12 rfl rfl ?_
    refine g_get C (n' := 16) (Cn := RX4) (T := TX4) (N := 5) (ci := 3) (v := .ref (q 0)) ga_X4 0 rfl rfl 0 (by decide) kw_31 rfl rfl dX4_append_13 rfl ?_
    refine g_aload_n C (n' := 17) 0 rfl dX4_append_16 rfl rfl ?_
    refine g_get C (n' := 20) (Cn := RX4) (T := TX4) (N := 5) (ci := 3) (v := .int (iI (I 1))) ga_X4 0 rfl rfl 1 (by decide) kw_32 rfl rfl dX4_append_17 rfl ?_
    have h_17 := hI 1
    refine g_iload_n C (n' := 21) 1 rfl dX4_append_20 rfl rfl ?_
    refine g_cast C (n' := 22) (f := L) 1 1 rfl rfl (by omega) (by omega) (by decide) (by omega) (by omega) rfl dX4_append_21 rfl (wText q Y I (sU L (I 1).toNat x)) rfl ?_
    refine g_aload_n C (n' := 23) 0 rfl dX4_append_22 rfl rfl ?_
    refine g_dup C (n' := 24) rfl dX4_append_23 rfl ?_
    refine g_get C (n' := 27) (Cn := RX4) (T := TX4) (N := 5) (ci := 3) (v := .int (iI (I 1))) ga_X4 0 rfl rfl 1 (by decide) kw_32 rfl rfl dX4_append_24 rfl ?_
    have h_24 := hI 1
    refine g_iconst C (n' := 28) dX4_append_27 rfl ?_
    refine g_iadd C (n' := 29) dX4_append_28 rfl ?_
    refine g_put C (n' := 32) (Cn := RX4) (T := TX4) (N := 5) (ci := 3) (v := .int (iI ((I 1) + 1))) ga_X4 0 rfl rfl 1 (by decide) kw_32 rfl tyX4 tyX4_ok nmX4 rfl rfl rfl rfl (Nat.le_of_ble_eq_true rfl) (wText q Y (sU I 1 ((I 1) + 1)) (sU L (I 1).toNat x)) rfl dX4_append_29 rfl ?_
    refine g_iconst C (n' := 33) dX4_append_32 rfl ?_
    refine g_iret C hr hlk (nar_z (by omega)) ⟨congrArg (fun z : Int => some (Value.int (iI z))) ?_, ?_⟩ dX4_append_33
    · (try unfold t_appI t_appL) <;> (repeat' split) <;> first | rfl | omega
    · (try unfold t_appI t_appL) <;> (repeat' split) <;> first | rfl | omega
  · skip
    refine g_iconst C (n' := 11) dX4_append_10 rfl ?_
    refine g_iret C hr hlk (nar_z (by omega)) ⟨congrArg (fun z : Int => some (Value.int (iI z))) ?_, ?_⟩ dX4_append_11
    · (try unfold t_appI t_appL) <;> (repeat' split) <;> first | rfl | omega
    · (try unfold t_appI t_appL) <;> (repeat' split) <;> first | rfl | omega
set_option maxRecDepth 100000 in
set_option maxHeartbeats 4000000 in
theorem lp_X4_adv1 {p9 : Program} {l : Launch} {e9 : Env} {s9 : State} {m9 : MethodId} {a9 : Array Value} {b9 : List Frame} {t9 : Method} {c9 : Code} {D : va_G} {A9 : Nat → Prop} {Q9 : State → Prop} {E : (Nat → Prop) → State → Heap → Prop} {Y : Nat → ClassId} (C : g_Cx p9 s9 m9 a9 c9 cX4_advance 2 RX4 D (tysY Y) A9 E) (q : Nat → Nat) (I L : Nat → Int) (hsI : smI I) (hsL : smL L) (hT : tokOK I) : ∀ (n9 : Nat) (i : Int), 0 ≤ i → i ≤ 200 → I 1 - i ≤ n9 → (g_G p9 l e9 ({ frames := 1, cells := 0, slots := 0, locals := 20 } : Room) s9 m9 a9 b9 t9 c9 2 D A9 Q9 0 0 (wText q Y (sU I 3 (t_skip L (I 1) n9 i)) L) [(0, .ref (q 99))] 46 []) → g_G p9 l e9 ({ frames := 1, cells := 0, slots := 0, locals := 20 } : Room) s9 m9 a9 b9 t9 c9 2 D A9 Q9 0 0 (wText q Y (sU I 3 i) L) [(0, .ref (q 99))] 8 [] := by
  have hE := C.2.2.2.2.2.2.2.2.1
  intro n9
  induction n9 with
  | zero =>
    intro i hi hi2 hm K
    have hI := hsI
    have hL := hsL
    unfold smI at hI
    unfold smL at hL
    have hT9 := hT
    unfold tokOK at hT9
    refine g_aload_n C (n' := 9) 0 rfl dX4_advance_8 rfl rfl ?_
    refine g_get C (n' := 12) (Cn := RX4) (T := TX4) (N := 5) (ci := 3) (v := .int (iI i)) ga_X4 0 rfl rfl 3 (by decide) kw_34 rfl rfl dX4_advance_9 rfl ?_
    refine g_aload_n C (n' := 13) 0 rfl dX4_advance_12 rfl rfl ?_
    refine g_get C (n' := 16) (Cn := RX4) (T := TX4) (N := 5) (ci := 3) (v := .int (iI (I 1))) ga_X4 0 rfl rfl 1 (by decide) kw_32 rfl rfl dX4_advance_13 rfl ?_
    have h_13 := hI 1
    refine g_icmp_ge C (n' := 19) 46 dX4_advance_16 (by decide) rfl (by unfold inR; omega) (by unfold inR; omega) (fun c1 => ?_) (fun c1 => ?_)
    · skip
      exact K
    · skip
      exfalso
      omega
  | succ n9 ih =>
    intro i hi hi2 hm K
    have hI := hsI
    have hL := hsL
    unfold smI at hI
    unfold smL at hL
    have hT9 := hT
    unfold tokOK at hT9
    refine g_aload_n C (n' := 9) 0 rfl dX4_advance_8 rfl rfl ?_
    refine g_get C (n' := 12) (Cn := RX4) (T := TX4) (N := 5) (ci := 3) (v := .int (iI i)) ga_X4 0 rfl rfl 3 (by decide) kw_34 rfl rfl dX4_advance_9 rfl ?_
    refine g_aload_n C (n' := 13) 0 rfl dX4_advance_12 rfl rfl ?_
    refine g_get C (n' := 16) (Cn := RX4) (T := TX4) (N := 5) (ci := 3) (v := .int (iI (I 1))) ga_X4 0 rfl rfl 1 (by decide) kw_32 rfl rfl dX4_advance_13 rfl ?_
    have h_13 := hI 1
    refine g_icmp_ge C (n' := 19) 46 dX4_advance_16 (by decide) rfl (by unfold inR; omega) (by unfold inR; omega) (fun c1 => ?_) (fun c1 => ?_)
    · skip
      rw [t_skip, if_neg (by omega)] at K
      exact K
    · skip
      refine g_aload_n C (n' := 20) 0 rfl dX4_advance_19 rfl rfl ?_
      refine g_get C (n' := 23) (Cn := RX4) (T := TX4) (N := 5) (ci := 3) (v := .ref (q 0)) ga_X4 0 rfl rfl 0 (by decide) kw_31 rfl rfl dX4_advance_20 rfl ?_
      refine g_aload_n C (n' := 24) 0 rfl dX4_advance_23 rfl rfl ?_
      refine g_get C (n' := 27) (Cn := RX4) (T := TX4) (N := 5) (ci := 3) (v := .int (iI i)) ga_X4 0 rfl rfl 3 (by decide) kw_34 rfl rfl dX4_advance_24 rfl ?_
      refine g_cald C (n' := 28) (f := L) 1 1 rfl rfl (by omega) (by omega) (by decide) rfl dX4_advance_27 rfl ?_
      have h_27 := hL i.toNat
      refine g_bipush C (n' := 30) (by decide) dX4_advance_28 rfl ?_
      refine g_icmp_ne C (n' := 33) 46 dX4_advance_30 (by decide) rfl (by unfold inR; omega) (by unfold inR; omega) (fun c2 => ?_) (fun c2 => ?_)
      · skip
        rw [t_skip, if_neg (by omega)] at K
        exact K
      · skip
        refine g_aload_n C (n' := 34) 0 rfl dX4_advance_33 rfl rfl ?_
        refine g_dup C (n' := 35) rfl dX4_advance_34 rfl ?_
        refine g_get C (n' := 38) (Cn := RX4) (T := TX4) (N := 5) (ci := 3) (v := .int (iI i)) ga_X4 0 rfl rfl 3 (by decide) kw_34 rfl rfl dX4_advance_35 rfl ?_
        refine g_iconst C (n' := 39) dX4_advance_38 rfl ?_
        refine g_iadd C (n' := 40) dX4_advance_39 rfl ?_
        refine g_put C (n' := 43) (Cn := RX4) (T := TX4) (N := 5) (ci := 3) (v := .int (iI (i + 1))) ga_X4 0 rfl rfl 3 (by decide) kw_34 rfl tyX4 tyX4_ok nmX4 rfl rfl rfl rfl (Nat.le_of_ble_eq_true rfl) (wText q Y (sU I 3 (i + 1)) L) rfl dX4_advance_40 rfl ?_
        refine g_goto C 8 dX4_advance_43 (by decide) ?_
        rw [t_skip, if_pos (by omega)] at K
        exact ih (i + 1) (by omega) (by omega) (by omega) K
set_option maxRecDepth 100000 in
set_option maxHeartbeats 4000000 in
theorem lp_X4_adv2 {p9 : Program} {l : Launch} {e9 : Env} {s9 : State} {m9 : MethodId} {a9 : Array Value} {b9 : List Frame} {t9 : Method} {c9 : Code} {D : va_G} {A9 : Nat → Prop} {Q9 : State → Prop} {E : (Nat → Prop) → State → Heap → Prop} {Y : Nat → ClassId} (C : g_Cx p9 s9 m9 a9 c9 cX4_advance 2 RX4 D (tysY Y) A9 E) (q : Nat → Nat) (I L : Nat → Int) (s : Int) (hsI : smI I) (hsL : smL L) (hT : tokOK I) (hs : 0 ≤ s ∧ s ≤ 200) : ∀ (n9 : Nat) (i : Int), 0 ≤ i → i ≤ 200 → I 1 - i ≤ n9 → (g_G p9 l e9 ({ frames := 1, cells := 0, slots := 0, locals := 20 } : Room) s9 m9 a9 b9 t9 c9 2 D A9 Q9 0 0 (wText q Y (sU (sU I 3 s) 4 (t_run L (I 1) (t_cls (L s.toNat)) n9 i)) L) [(1, .int (iI (L s.toNat))), (0, .ref (q 99))] 159 []) → g_G p9 l e9 ({ frames := 1, cells := 0, slots := 0, locals := 20 } : Room) s9 m9 a9 b9 t9 c9 2 D A9 Q9 0 0 (wText q Y (sU (sU I 3 s) 4 i) L) [(1, .int (iI (L s.toNat))), (0, .ref (q 99))] 97 [] := by
  have hE := C.2.2.2.2.2.2.2.2.1
  intro n9
  induction n9 with
  | zero =>
    intro i hi hi2 hm K
    have hI := hsI
    have hL := hsL
    unfold smI at hI
    unfold smL at hL
    have hT9 := hT
    unfold tokOK at hT9
    have h_s := hL s.toNat
    refine g_aload_n C (n' := 98) 1 rfl dX4_advance_97 rfl rfl ?_
    refine g_get C (n' := 101) (Cn := RX4) (T := TX4) (N := 5) (ci := 3) (v := .int (iI i)) ga_X4 0 rfl rfl 4 (by decide) kw_35 rfl rfl dX4_advance_98 rfl ?_
    refine g_aload_n C (n' := 102) 1 rfl dX4_advance_101 rfl rfl ?_
    refine g_get C (n' := 105) (Cn := RX4) (T := TX4) (N := 5) (ci := 3) (v := .int (iI (I 1))) ga_X4 0 rfl rfl 1 (by decide) kw_32 rfl rfl dX4_advance_102 rfl ?_
    have h_102 := hI 1
    refine g_icmp_ge C (n' := 108) 159 dX4_advance_105 (by decide) rfl (by unfold inR; omega) (by unfold inR; omega) (fun c1 => ?_) (fun c1 => ?_)
    · skip
      exact K
    · skip
      exfalso
      omega
  | succ n9 ih =>
    intro i hi hi2 hm K
    have hI := hsI
    have hL := hsL
    unfold smI at hI
    unfold smL at hL
    have hT9 := hT
    unfold tokOK at hT9
    have h_s := hL s.toNat
    refine g_aload_n C (n' := 98) 1 rfl dX4_advance_97 rfl rfl ?_
    refine g_get C (n' := 101) (Cn := RX4) (T := TX4) (N := 5) (ci := 3) (v := .int (iI i)) ga_X4 0 rfl rfl 4 (by decide) kw_35 rfl rfl dX4_advance_98 rfl ?_
    refine g_aload_n C (n' := 102) 1 rfl dX4_advance_101 rfl rfl ?_
    refine g_get C (n' := 105) (Cn := RX4) (T := TX4) (N := 5) (ci := 3) (v := .int (iI (I 1))) ga_X4 0 rfl rfl 1 (by decide) kw_32 rfl rfl dX4_advance_102 rfl ?_
    have h_102 := hI 1
    refine g_icmp_ge C (n' := 108) 159 dX4_advance_105 (by decide) rfl (by unfold inR; omega) (by unfold inR; omega) (fun c1 => ?_) (fun c1 => ?_)
    · skip
      rw [t_run, if_neg (fun z => absurd z.1 (by omega))] at K
      exact K
    · skip
      refine g_aload_n C (n' := 109) 1 rfl dX4_advance_108 rfl rfl ?_
      refine g_get C (n' := 112) (Cn := RX4) (T := TX4) (N := 5) (ci := 3) (v := .ref (q 0)) ga_X4 0 rfl rfl 0 (by decide) kw_31 rfl rfl dX4_advance_109 rfl ?_
      refine g_aload_n C (n' := 113) 1 rfl dX4_advance_112 rfl rfl ?_
      refine g_get C (n' := 116) (Cn := RX4) (T := TX4) (N := 5) (ci := 3) (v := .int (iI i)) ga_X4 0 rfl rfl 4 (by decide) kw_35 rfl rfl dX4_advance_113 rfl ?_
      refine g_cald C (n' := 117) (f := L) 1 1 rfl rfl (by omega) (by omega) (by decide) rfl dX4_advance_116 rfl ?_
      have h_116 := hL i.toNat
      refine g_cSv C (n' := 120) (v := .int (iI (if 97 ≤ (L i.toNat) ∧ (L i.toNat) ≤ 122 then 1 else 0))) (c_X4_isSmall l D Y C.2.2.2.2.2.2.2.2.1 (L i.toNat) (by unfold inR at *; omega)) 1 kw_259 kc_X4_isSmall (by decide +kernel) (pm_n _) rfl ⟨Nat.le_of_ble_eq_true rfl, Nat.le_of_ble_eq_true rfl⟩ ⟨rfl, rfl⟩ ⟨Nat.le_of_ble_eq_true rfl, Nat.le_of_ble_eq_true rfl⟩ (Nat.le_of_ble_eq_true rfl) dX4_advance_117 rfl rfl (wText q Y (sU (sU I 3 s) 4 i) L) (pm_n _) ?_
      refine g_iload_n C (n' := 121) 0 rfl dX4_advance_120 rfl rfl ?_
      refine g_cSv C (n' := 124) (v := .int (iI (if 97 ≤ (L s.toNat) ∧ (L s.toNat) ≤ 122 then 1 else 0))) (c_X4_isSmall l D Y C.2.2.2.2.2.2.2.2.1 (L s.toNat) (by unfold inR at *; omega)) 1 kw_259 kc_X4_isSmall (by decide +kernel) (pm_n _) rfl ⟨Nat.le_of_ble_eq_true rfl, Nat.le_of_ble_eq_true rfl⟩ ⟨rfl, rfl⟩ ⟨Nat.le_of_ble_eq_true rfl, Nat.le_of_ble_eq_true rfl⟩ (Nat.le_of_ble_eq_true rfl) dX4_advance_121 rfl rfl (wText q Y (sU (sU I 3 s) 4 i) L) (pm_n _) ?_
      refine g_icmp_ne C (n' := 127) 159 dX4_advance_124 (by decide) rfl bz_r bz_r (fun c2 => ?_) (fun c2 => ?_)
      · skip
        replace c2 := (not_congr bz_iff).mp c2
        rw [t_run, if_neg (fun z => absurd (t_cls_iff.mp z.2).1 c2)] at K
        exact K
      · skip
        replace c2 := bz_iff.mp (Decidable.not_not.mp c2)
        refine g_aload_n C (n' := 128) 1 rfl dX4_advance_127 rfl rfl ?_
        refine g_get C (n' := 131) (Cn := RX4) (T := TX4) (N := 5) (ci := 3) (v := .ref (q 0)) ga_X4 0 rfl rfl 0 (by decide) kw_31 rfl rfl dX4_advance_128 rfl ?_
        refine g_aload_n C (n' := 132) 1 rfl dX4_advance_131 rfl rfl ?_
        refine g_get C (n' := 135) (Cn := RX4) (T := TX4) (N := 5) (ci := 3) (v := .int (iI i)) ga_X4 0 rfl rfl 4 (by decide) kw_35 rfl rfl dX4_advance_132 rfl ?_
        refine g_cald C (n' := 136) (f := L) 1 1 rfl rfl (by omega) (by omega) (by decide) rfl dX4_advance_135 rfl ?_
        have h_135 := hL i.toNat
        refine g_cSv C (n' := 139) (v := .int (iI (if 48 ≤ (L i.toNat) ∧ (L i.toNat) ≤ 57 then 1 else 0))) (c_X4_isDigit l D Y C.2.2.2.2.2.2.2.2.1 (L i.toNat) (by unfold inR at *; omega)) 1 kw_262 kc_X4_isDigit (by decide +kernel) (pm_n _) rfl ⟨Nat.le_of_ble_eq_true rfl, Nat.le_of_ble_eq_true rfl⟩ ⟨rfl, rfl⟩ ⟨Nat.le_of_ble_eq_true rfl, Nat.le_of_ble_eq_true rfl⟩ (Nat.le_of_ble_eq_true rfl) dX4_advance_136 rfl rfl (wText q Y (sU (sU I 3 s) 4 i) L) (pm_n _) ?_
        refine g_iload_n C (n' := 140) 0 rfl dX4_advance_139 rfl rfl ?_
        refine g_cSv C (n' := 143) (v := .int (iI (if 48 ≤ (L s.toNat) ∧ (L s.toNat) ≤ 57 then 1 else 0))) (c_X4_isDigit l D Y C.2.2.2.2.2.2.2.2.1 (L s.toNat) (by unfold inR at *; omega)) 1 kw_262 kc_X4_isDigit (by decide +kernel) (pm_n _) rfl ⟨Nat.le_of_ble_eq_true rfl, Nat.le_of_ble_eq_true rfl⟩ ⟨rfl, rfl⟩ ⟨Nat.le_of_ble_eq_true rfl, Nat.le_of_ble_eq_true rfl⟩ (Nat.le_of_ble_eq_true rfl) dX4_advance_140 rfl rfl (wText q Y (sU (sU I 3 s) 4 i) L) (pm_n _) ?_
        refine g_icmp_ne C (n' := 146) 159 dX4_advance_143 (by decide) rfl bz_r bz_r (fun c3 => ?_) (fun c3 => ?_)
        · skip
          replace c3 := (not_congr bz_iff).mp c3
          rw [t_run, if_neg (fun z => absurd (t_cls_iff.mp z.2).2 c3)] at K
          exact K
        · skip
          replace c3 := bz_iff.mp (Decidable.not_not.mp c3)
          refine g_aload_n C (n' := 147) 1 rfl dX4_advance_146 rfl rfl ?_
          refine g_dup C (n' := 148) rfl dX4_advance_147 rfl ?_
          refine g_get C (n' := 151) (Cn := RX4) (T := TX4) (N := 5) (ci := 3) (v := .int (iI i)) ga_X4 0 rfl rfl 4 (by decide) kw_35 rfl rfl dX4_advance_148 rfl ?_
          refine g_iconst C (n' := 152) dX4_advance_151 rfl ?_
          refine g_iadd C (n' := 153) dX4_advance_152 rfl ?_
          refine g_put C (n' := 156) (Cn := RX4) (T := TX4) (N := 5) (ci := 3) (v := .int (iI (i + 1))) ga_X4 0 rfl rfl 4 (by decide) kw_35 rfl tyX4 tyX4_ok nmX4 rfl rfl rfl rfl (Nat.le_of_ble_eq_true rfl) (wText q Y (sU (sU I 3 s) 4 (i + 1)) L) rfl dX4_advance_153 rfl ?_
          refine g_goto C 97 dX4_advance_156 (by decide) ?_
          rw [t_run, if_pos ⟨by omega, t_cls_iff.mpr ⟨c2, c3⟩⟩] at K
          exact ih (i + 1) (by omega) (by omega) (by omega) K
set_option maxRecDepth 100000 in
set_option maxHeartbeats 4000000 in
theorem c_X4_advance (l : Launch) (D : va_G) (Y : Nat → ClassId) {E : (Nat → Prop) → State → Heap → Prop} (hE : g_Stab E) (q : Nat → Nat) (I : Nat → Int) (L : Nat → Int) (hsI : smI I) (hsL : smL L) (hT : tokOK I) : g_Ct l yX4_advance cX4_advance 2 none ({ frames := 1, cells := 0, slots := 0, locals := 20 } : Room) D (tysY Y) E [.ref (q 99)] (wText q Y I L) 0 0 (g_det none (wText q Y (t_adv I L) L)) := by
  refine g_ofG (own := RX4) hE (by decide) rfl (Nat.le_of_ble_eq_true rfl) [(0, .ref (q 99))] rfl ?_
  intro p9 e9 s9 m9 b9 t9 c9 A9 C hr hlk hnm
  have hI := hsI
  have hL := hsL
  unfold smI at hI
  unfold smL at hL
  have hT9 := hT
  unfold tokOK at hT9
  refine g_aload_n C (n' := 1) 0 rfl dX4_advance_0 rfl rfl ?_
  refine g_aload_n C (n' := 2) 0 rfl dX4_advance_1 rfl rfl ?_
  refine g_get C (n' := 5) (Cn := RX4) (T := TX4) (N := 5) (ci := 3) (v := .int (iI (I 4))) ga_X4 0 rfl rfl 4 (by decide) kw_35 rfl rfl dX4_advance_2 rfl ?_
  have h_2 := hI 4
  refine g_put C (n' := 8) (Cn := RX4) (T := TX4) (N := 5) (ci := 3) (v := .int (iI (I 4))) ga_X4 0 rfl rfl 3 (by decide) kw_34 rfl tyX4 tyX4_ok nmX4 rfl rfl rfl rfl (Nat.le_of_ble_eq_true rfl) (wText q Y (sU I 3 (I 4)) L) rfl dX4_advance_5 rfl ?_
  have hk := t_skip_r L (I 1) 200 (I 4)
  refine lp_X4_adv1 C q I L hsI hsL hT 200 (I 4) (by omega) (by omega) (by omega) ?_
  generalize hsk : t_skip L (I 1) 200 (I 4) = s at hk ⊢
  refine g_aload_n C (n' := 47) 0 rfl dX4_advance_46 rfl rfl ?_
  refine g_aload_n C (n' := 48) 0 rfl dX4_advance_47 rfl rfl ?_
  refine g_get C (n' := 51) (Cn := RX4) (T := TX4) (N := 5) (ci := 3) (v := .int (iI s)) ga_X4 0 rfl rfl 3 (by decide) kw_34 rfl rfl dX4_advance_48 rfl ?_
  refine g_put C (n' := 54) (Cn := RX4) (T := TX4) (N := 5) (ci := 3) (v := .int (iI s)) ga_X4 0 rfl rfl 4 (by decide) kw_35 rfl tyX4 tyX4_ok nmX4 rfl rfl rfl rfl (Nat.le_of_ble_eq_true rfl) (wText q Y (sU (sU I 3 s) 4 s) L) rfl dX4_advance_51 rfl ?_
  refine g_aload_n C (n' := 55) 0 rfl dX4_advance_54 rfl rfl ?_
  refine g_cVv C (n' := 58) (v := .int (iI (if (I 1) ≤ s then 1 else 0))) (c_X4_isAtEnd l D Y C.2.2.2.2.2.2.2.2.1 q (sU (sU I 3 s) 4 s) L (sm_put (sm_put hsI (by omega)) (by omega)) hsL) 0 kw_255 kc_X4_isAtEnd (by decide +kernel) (pm0 _) 0 (ci := 3) rfl rfl rfl rfl ⟨Nat.le_of_ble_eq_true rfl, Nat.le_of_ble_eq_true rfl⟩ ⟨rfl, rfl⟩ ⟨Nat.le_of_ble_eq_true rfl, Nat.le_of_ble_eq_true rfl⟩ (Nat.le_of_ble_eq_true rfl) dX4_advance_55 rfl rfl (wText q Y (sU (sU I 3 s) 4 s) L) (pm0' _) ?_
  refine g_if_eq C (n' := 61) 62 dX4_advance_58 (by decide) rfl bz_r (fun c1 => ?_) (fun c1 => ?_)
  · skip
    replace c1 := bz_eq.mp c1
    refine g_aload_n C (n' := 63) 0 rfl dX4_advance_62 rfl rfl ?_
    refine g_get C (n' := 66) (Cn := RX4) (T := TX4) (N := 5) (ci := 3) (v := .ref (q 0)) ga_X4 0 rfl rfl 0 (by decide) kw_31 rfl rfl dX4_advance_63 rfl ?_
    refine g_aload_n C (n' := 67) 0 rfl dX4_advance_66 rfl rfl ?_
    refine g_get C (n' := 70) (Cn := RX4) (T := TX4) (N := 5) (ci := 3) (v := .int (iI s)) ga_X4 0 rfl rfl 3 (by decide) kw_34 rfl rfl dX4_advance_67 rfl ?_
    refine g_cald C (n' := 71) (f := L) 1 1 rfl rfl (by omega) (by omega) (by decide) rfl dX4_advance_70 rfl ?_
    have h_70 := hL s.toNat
    refine g_istore_n C (n' := 72) [(1, .int (iI (L s.toNat))), (0, .ref (q 99))] dX4_advance_71 rfl rfl (by decide) rfl ?_
    refine g_aload_n C (n' := 73) 1 rfl dX4_advance_72 rfl rfl ?_
    refine g_dup C (n' := 74) rfl dX4_advance_73 rfl ?_
    refine g_get C (n' := 77) (Cn := RX4) (T := TX4) (N := 5) (ci := 3) (v := .int (iI s)) ga_X4 0 rfl rfl 4 (by decide) kw_35 rfl rfl dX4_advance_74 rfl ?_
    refine g_iconst C (n' := 78) dX4_advance_77 rfl ?_
    refine g_iadd C (n' := 79) dX4_advance_78 rfl ?_
    refine g_put C (n' := 82) (Cn := RX4) (T := TX4) (N := 5) (ci := 3) (v := .int (iI (s + 1))) ga_X4 0 rfl rfl 4 (by decide) kw_35 rfl tyX4 tyX4_ok nmX4 rfl rfl rfl rfl (Nat.le_of_ble_eq_true rfl) (wText q Y (sU (sU I 3 s) 4 (s + 1)) L) rfl dX4_advance_79 rfl ?_
    refine g_iload_n C (n' := 83) 0 rfl dX4_advance_82 rfl rfl ?_
    refine g_cSv C (n' := 86) (v := .int (iI (if 97 ≤ (L s.toNat) ∧ (L s.toNat) ≤ 122 then 1 else 0))) (c_X4_isSmall l D Y C.2.2.2.2.2.2.2.2.1 (L s.toNat) (by unfold inR at *; omega)) 1 kw_259 kc_X4_isSmall (by decide +kernel) (pm_n _) rfl ⟨Nat.le_of_ble_eq_true rfl, Nat.le_of_ble_eq_true rfl⟩ ⟨rfl, rfl⟩ ⟨Nat.le_of_ble_eq_true rfl, Nat.le_of_ble_eq_true rfl⟩ (Nat.le_of_ble_eq_true rfl) dX4_advance_83 rfl rfl (wText q Y (sU (sU I 3 s) 4 (s + 1)) L) (pm_n _) ?_
    refine g_if_ne C (n' := 89) 97 dX4_advance_86 (by decide) rfl bz_r (fun c2 => ?_) (fun c2 => ?_)
    · skip
      replace c2 := bz_ne.mp c2
      refine lp_X4_adv2 C q I L s hsI hsL hT (by omega) 200 (s + 1) (by omega) (by omega) (by omega) ?_
      refine g_vret C hr hlk ⟨rfl, ?_⟩ dX4_advance_159
      unfold t_adv t_end
      rw [hsk]
      rw [if_neg (by omega), if_neg (t_cls_n0 (by omega))]
    · skip
      replace c2 := bz_nne.mp c2
      refine g_iload_n C (n' := 90) 0 rfl dX4_advance_89 rfl rfl ?_
      refine g_cSv C (n' := 93) (v := .int (iI (if 48 ≤ (L s.toNat) ∧ (L s.toNat) ≤ 57 then 1 else 0))) (c_X4_isDigit l D Y C.2.2.2.2.2.2.2.2.1 (L s.toNat) (by unfold inR at *; omega)) 1 kw_262 kc_X4_isDigit (by decide +kernel) (pm_n _) rfl ⟨Nat.le_of_ble_eq_true rfl, Nat.le_of_ble_eq_true rfl⟩ ⟨rfl, rfl⟩ ⟨Nat.le_of_ble_eq_true rfl, Nat.le_of_ble_eq_true rfl⟩ (Nat.le_of_ble_eq_true rfl) dX4_advance_90 rfl rfl (wText q Y (sU (sU I 3 s) 4 (s + 1)) L) (pm_n _) ?_
      refine g_if_ne C (n' := 96) 97 dX4_advance_93 (by decide) rfl bz_r (fun c3 => ?_) (fun c3 => ?_)
      · skip
        replace c3 := bz_ne.mp c3
        refine lp_X4_adv2 C q I L s hsI hsL hT (by omega) 200 (s + 1) (by omega) (by omega) (by omega) ?_
        refine g_vret C hr hlk ⟨rfl, ?_⟩ dX4_advance_159
        unfold t_adv t_end
        rw [hsk]
        rw [if_neg (by omega), if_neg (t_cls_n0 (by omega))]
      · skip
        replace c3 := bz_nne.mp c3
        refine g_vret C hr hlk ⟨rfl, ?_⟩ dX4_advance_96
        unfold t_adv t_end
        rw [hsk]
        rw [if_neg (by omega), if_pos (t_cls_0 (by omega) (by omega))]
  · skip
    replace c1 := bz_neq.mp c1
    refine g_vret C hr hlk ⟨rfl, ?_⟩ dX4_advance_61
    unfold t_adv t_end
    rw [hsk]
    rw [if_pos (by omega)]
set_option maxRecDepth 100000 in
set_option maxHeartbeats 4000000 in
theorem lp_X4_num {p9 : Program} {l : Launch} {e9 : Env} {s9 : State} {m9 : MethodId} {a9 : Array Value} {b9 : List Frame} {t9 : Method} {c9 : Code} {D : va_G} {A9 : Nat → Prop} {Q9 : State → Prop} {E : (Nat → Prop) → State → Heap → Prop} {Y : Nat → ClassId} (C : g_Cx p9 s9 m9 a9 c9 cX4_readNumber 5 RX4 D (tysY Y) A9 E) (q : Nat → Nat) (I L : Nat → Int) (lo hi : Int) (hsI : smI I) (hsL : smL L) (hT : tokOK I) (h3 : I 4 - I 3 ≤ 3) : ∀ (n9 : Nat) (k : Nat), (k : Int) + n9 = I 4 - I 3 → (g_G p9 l e9 ({ frames := 2, cells := 0, slots := 0, locals := 41 } : Room) s9 m9 a9 b9 t9 c9 5 D A9 Q9 0 0 (wText q Y I L) [(4, .int (iI (I 3 + (((I 4 - I 3).toNat : Nat) : Int)))), (3, .int (iI (t_val L (I 3).toNat ((I 4 - I 3).toNat)))), (0, .ref (q 99)), (1, .int (iI lo)), (2, .int (iI hi))] 76 []) → g_G p9 l e9 ({ frames := 2, cells := 0, slots := 0, locals := 41 } : Room) s9 m9 a9 b9 t9 c9 5 D A9 Q9 0 0 (wText q Y I L) [(4, .int (iI (I 3 + ((k : Nat) : Int)))), (3, .int (iI (t_val L (I 3).toNat k))), (0, .ref (q 99)), (1, .int (iI lo)), (2, .int (iI hi))] 45 [] := by
  have hE := C.2.2.2.2.2.2.2.2.1
  intro n9
  induction n9 with
  | zero =>
    intro k hk K
    have hI := hsI
    have hL := hsL
    unfold smI at hI
    unfold smL at hL
    have hT9 := hT
    unfold tokOK at hT9
    refine g_iload C (n' := 47) 0 rfl dX4_readNumber_45 rfl ?_
    refine g_aload_n C (n' := 48) 2 rfl dX4_readNumber_47 rfl rfl ?_
    refine g_get C (n' := 51) (Cn := RX4) (T := TX4) (N := 5) (ci := 3) (v := .int (iI (I 4))) ga_X4 0 rfl rfl 4 (by decide) kw_35 rfl rfl dX4_readNumber_48 rfl ?_
    have h_48 := hI 4
    refine g_icmp_ge C (n' := 54) 76 dX4_readNumber_51 (by decide) rfl (by unfold inR; omega) (by unfold inR; omega) (fun c1 => ?_) (fun c1 => ?_)
    · skip
      have ek : (I 4 - I 3).toNat = k := by omega
      rw [ek] at K
      exact K
    · skip
      exfalso
      omega
  | succ n9 ih =>
    intro k hk K
    have hI := hsI
    have hL := hsL
    unfold smI at hI
    unfold smL at hL
    have hT9 := hT
    unfold tokOK at hT9
    have hv := t_val_r hsL (I 3).toNat k (by omega)
    refine g_iload C (n' := 47) 0 rfl dX4_readNumber_45 rfl ?_
    refine g_aload_n C (n' := 48) 2 rfl dX4_readNumber_47 rfl rfl ?_
    refine g_get C (n' := 51) (Cn := RX4) (T := TX4) (N := 5) (ci := 3) (v := .int (iI (I 4))) ga_X4 0 rfl rfl 4 (by decide) kw_35 rfl rfl dX4_readNumber_48 rfl ?_
    have h_48 := hI 4
    refine g_icmp_ge C (n' := 54) 76 dX4_readNumber_51 (by decide) rfl (by unfold inR; omega) (by unfold inR; omega) (fun c1 => ?_) (fun c1 => ?_)
    · skip
      exfalso
      omega
    · skip
      refine g_iload_n C (n' := 55) 1 rfl dX4_readNumber_54 rfl rfl ?_
      refine g_bipush C (n' := 57) (by decide) dX4_readNumber_55 rfl ?_
      refine g_imul C (n' := 58) dX4_readNumber_57 rfl ?_
      refine g_aload_n C (n' := 59) 2 rfl dX4_readNumber_58 rfl rfl ?_
      refine g_get C (n' := 62) (Cn := RX4) (T := TX4) (N := 5) (ci := 3) (v := .ref (q 0)) ga_X4 0 rfl rfl 0 (by decide) kw_31 rfl rfl dX4_readNumber_59 rfl ?_
      refine g_iload C (n' := 64) 0 rfl dX4_readNumber_62 rfl ?_
      refine g_cald C (n' := 65) (f := L) 1 1 rfl rfl (by omega) (by omega) (by decide) rfl dX4_readNumber_64 rfl ?_
      have h_64 := hL ((I 3 + ((k : Nat) : Int)).toNat)
      refine g_bipush C (n' := 67) (by decide) dX4_readNumber_65 rfl ?_
      refine g_isub C (n' := 68) dX4_readNumber_67 rfl ?_
      refine g_iadd C (n' := 69) dX4_readNumber_68 rfl ?_
      refine g_istore_n C (n' := 70) [(3, .int (iI (((t_val L (I 3).toNat k) * 10) + ((L (I 3 + ((k : Nat) : Int)).toNat) - 48)))), (4, .int (iI (I 3 + ((k : Nat) : Int)))), (0, .ref (q 99)), (1, .int (iI lo)), (2, .int (iI hi))] dX4_readNumber_69 rfl rfl (by decide) rfl ?_
      refine g_iinc C (n' := 73) 1 [(4, .int (iI ((I 3 + ((k : Nat) : Int)) + 1))), (3, .int (iI (((t_val L (I 3).toNat k) * 10) + ((L (I 3 + ((k : Nat) : Int)).toNat) - 48)))), (0, .ref (q 99)), (1, .int (iI lo)), (2, .int (iI hi))] rfl dX4_readNumber_70 rfl (by decide) rfl ?_
      refine g_goto C 45 dX4_readNumber_73 (by decide) ?_
      rw [show ((((t_val L (I 3).toNat k) * 10) + ((L (I 3 + ((k : Nat) : Int)).toNat) - 48)) : Int) = t_val L (I 3).toNat (k + 1) from by rw [t_val, show (I 3 + ((k : Nat) : Int)).toNat = (I 3).toNat + k by omega]]
      rw [show (((I 3 + ((k : Nat) : Int)) + 1) : Int) = I 3 + ((k + 1 : Nat) : Int) from by omega]
      refine g_lv [0, 1, 2, 3, 4] rfl ?_
      exact ih (k + 1) (by omega) K
set_option maxRecDepth 100000 in
set_option maxHeartbeats 4000000 in
theorem c_X4_readNumber (l : Launch) (D : va_G) (Y : Nat → ClassId) {E : (Nat → Prop) → State → Heap → Prop} (hE : g_Stab E) (q : Nat → Nat) (I : Nat → Int) (L : Nat → Int) (lo : Int) (hi : Int) (hsI : smI I) (hsL : smL L) (hT : tokOK I) (hlo : 0 ≤ lo ∧ lo ≤ 1000) (hhi : -10 ≤ hi ∧ hi ≤ 1000000) : g_Ct l yX4_readNumber cX4_readNumber 5 (some FieldType.int) ({ frames := 2, cells := 0, slots := 0, locals := 41 } : Room) D (tysY Y) E [.ref (q 99), .int (iI lo), .int (iI hi)] (wText q Y I L) 0 0 (g_det (some (.int (iI (t_num L (I 1) (I 3) (I 4) lo hi)))) (wText q Y (if (t_num L (I 1) (I 3) (I 4) lo hi) = -1 then I else (t_adv I L)) L)) := by
  refine g_ofG (own := RX4) hE (by decide) rfl (Nat.le_of_ble_eq_true rfl) [(0, .ref (q 99)), (1, .int (iI lo)), (2, .int (iI hi))] rfl ?_
  intro p9 e9 s9 m9 b9 t9 c9 A9 C hr hlk hnm
  have hI := hsI
  have hL := hsL
  unfold smI at hI
  unfold smL at hL
  have hT9 := hT
  unfold tokOK at hT9
  refine g_aload_n C (n' := 1) 0 rfl dX4_readNumber_0 rfl rfl ?_
  refine g_cVv C (n' := 4) (v := .int (iI (if (I 1) ≤ (I 3) then 1 else 0))) (c_X4_isAtEnd l D Y C.2.2.2.2.2.2.2.2.1 q I L hsI hsL) 0 kw_255 kc_X4_isAtEnd (by decide +kernel) (pm0 _) 0 (ci := 3) rfl rfl rfl rfl ⟨Nat.le_of_ble_eq_true rfl, Nat.le_of_ble_eq_true rfl⟩ ⟨rfl, rfl⟩ ⟨Nat.le_of_ble_eq_true rfl, Nat.le_of_ble_eq_true rfl⟩ (Nat.le_of_ble_eq_true rfl) dX4_readNumber_1 rfl rfl (wText q Y I L) (pm0' _) ?_
  refine g_if_ne C (n' := 7) 35 dX4_readNumber_4 (by decide) rfl bz_r (fun c1 => ?_) (fun c1 => ?_)
  · skip
    replace c1 := bz_ne.mp c1
    refine g_iconst C (n' := 36) dX4_readNumber_35 rfl ?_
    have hN : t_num L (I 1) (I 3) (I 4) lo hi = (-1) := by
      unfold t_num
      (repeat' split) <;> first | rfl | omega
    refine g_iret C hr hlk rfl ⟨by rw [hN], ?_⟩ dX4_readNumber_36
    rw [if_pos hN]
  · skip
    replace c1 := bz_nne.mp c1
    refine g_aload_n C (n' := 8) 0 rfl dX4_readNumber_7 rfl rfl ?_
    refine g_get C (n' := 11) (Cn := RX4) (T := TX4) (N := 5) (ci := 3) (v := .ref (q 0)) ga_X4 0 rfl rfl 0 (by decide) kw_31 rfl rfl dX4_readNumber_8 rfl ?_
    refine g_aload_n C (n' := 12) 0 rfl dX4_readNumber_11 rfl rfl ?_
    refine g_get C (n' := 15) (Cn := RX4) (T := TX4) (N := 5) (ci := 3) (v := .int (iI (I 3))) ga_X4 0 rfl rfl 3 (by decide) kw_34 rfl rfl dX4_readNumber_12 rfl ?_
    have h_12 := hI 3
    refine g_cald C (n' := 16) (f := L) 1 1 rfl rfl (by omega) (by omega) (by decide) rfl dX4_readNumber_15 rfl ?_
    have h_15 := hL ((I 3).toNat)
    refine g_cSv C (n' := 19) (v := .int (iI (if 48 ≤ (L (I 3).toNat) ∧ (L (I 3).toNat) ≤ 57 then 1 else 0))) (c_X4_isDigit l D Y C.2.2.2.2.2.2.2.2.1 (L (I 3).toNat) (by unfold inR at *; omega)) 1 kw_262 kc_X4_isDigit (by decide +kernel) (pm_n _) rfl ⟨Nat.le_of_ble_eq_true rfl, Nat.le_of_ble_eq_true rfl⟩ ⟨rfl, rfl⟩ ⟨Nat.le_of_ble_eq_true rfl, Nat.le_of_ble_eq_true rfl⟩ (Nat.le_of_ble_eq_true rfl) dX4_readNumber_16 rfl rfl (wText q Y I L) (pm_n _) ?_
    refine g_if_eq C (n' := 22) 35 dX4_readNumber_19 (by decide) rfl bz_r (fun c2 => ?_) (fun c2 => ?_)
    · skip
      replace c2 := bz_eq.mp c2
      refine g_iconst C (n' := 36) dX4_readNumber_35 rfl ?_
      have hN : t_num L (I 1) (I 3) (I 4) lo hi = (-1) := by
        unfold t_num
        (repeat' split) <;> first | rfl | omega
      refine g_iret C hr hlk rfl ⟨by rw [hN], ?_⟩ dX4_readNumber_36
      rw [if_pos hN]
    · skip
      replace c2 := bz_neq.mp c2
      refine g_aload_n C (n' := 23) 0 rfl dX4_readNumber_22 rfl rfl ?_
      refine g_get C (n' := 26) (Cn := RX4) (T := TX4) (N := 5) (ci := 3) (v := .int (iI (I 4))) ga_X4 0 rfl rfl 4 (by decide) kw_35 rfl rfl dX4_readNumber_23 rfl ?_
      have h_23 := hI 4
      refine g_aload_n C (n' := 27) 0 rfl dX4_readNumber_26 rfl rfl ?_
      refine g_get C (n' := 30) (Cn := RX4) (T := TX4) (N := 5) (ci := 3) (v := .int (iI (I 3))) ga_X4 0 rfl rfl 3 (by decide) kw_34 rfl rfl dX4_readNumber_27 rfl ?_
      have h_27 := hI 3
      refine g_isub C (n' := 31) dX4_readNumber_30 rfl ?_
      refine g_iconst C (n' := 32) dX4_readNumber_31 rfl ?_
      refine g_icmp_le C (n' := 35) 37 dX4_readNumber_32 (by decide) rfl (by unfold inR; omega) (by unfold inR; omega) (fun c3 => ?_) (fun c3 => ?_)
      · skip
        refine g_iconst C (n' := 38) dX4_readNumber_37 rfl ?_
        refine g_istore_n C (n' := 39) [(3, .int (iI 0)), (0, .ref (q 99)), (1, .int (iI lo)), (2, .int (iI hi))] dX4_readNumber_38 rfl rfl (by decide) rfl ?_
        refine g_aload_n C (n' := 40) 1 rfl dX4_readNumber_39 rfl rfl ?_
        refine g_get C (n' := 43) (Cn := RX4) (T := TX4) (N := 5) (ci := 3) (v := .int (iI (I 3))) ga_X4 0 rfl rfl 3 (by decide) kw_34 rfl rfl dX4_readNumber_40 rfl ?_
        have h_40 := hI 3
        refine g_istore C (n' := 45) [(4, .int (iI (I 3))), (3, .int (iI 0)), (0, .ref (q 99)), (1, .int (iI lo)), (2, .int (iI hi))] dX4_readNumber_43 rfl (by decide) rfl ?_
        refine g_lv (lv' := [(4, .int (iI (I 3 + ((0 : Nat) : Int)))), (3, .int (iI (t_val L (I 3).toNat 0))), (0, .ref (q 99)), (1, .int (iI lo)), (2, .int (iI hi))]) [0, 1, 2, 3, 4] (by simp only [lv_pick, List.filterMap]; rw [show (I 3 + ((0 : Nat) : Int)) = I 3 by omega]; rfl) ?_
        refine lp_X4_num C q I L lo hi hsI hsL hT (by omega) (I 4 - I 3).toNat 0 (by omega) ?_
        have hv := t_val_r hsL (I 3).toNat (I 4 - I 3).toNat (by omega)
        refine g_iload_n C (n' := 77) 1 rfl dX4_readNumber_76 rfl rfl ?_
        refine g_iload_n C (n' := 78) 3 rfl dX4_readNumber_77 rfl rfl ?_
        refine g_iload_n C (n' := 79) 4 rfl dX4_readNumber_78 rfl rfl ?_
        refine g_cNv C (n' := 82) (v := .int (iI (if lo ≤ (t_val L (I 3).toNat ((I 4 - I 3).toNat)) ∧ (t_val L (I 3).toNat ((I 4 - I 3).toNat)) ≤ hi then 1 else 0))) (c_X7_isWithin l D Y C.2.2.2.2.2.2.2.2.1 (t_val L (I 3).toNat ((I 4 - I 3).toNat)) lo hi (by unfold inR at *; omega) (by unfold inR at *; omega) (by unfold inR at *; omega)) 3 (List.mem_of_getElem? (i := 25) rfl) kc_X7_isWithin (by decide +kernel) (pm_n _) rfl ⟨Nat.le_of_ble_eq_true rfl, Nat.le_of_ble_eq_true rfl⟩ ⟨rfl, rfl⟩ ⟨Nat.le_of_ble_eq_true rfl, Nat.le_of_ble_eq_true rfl⟩ (Nat.le_of_ble_eq_true rfl) dX4_readNumber_79 rfl rfl (wText q Y I L) (pm_n _) ?_
        refine g_if_ne C (n' := 85) 87 dX4_readNumber_82 (by decide) rfl bz_r (fun c4 => ?_) (fun c4 => ?_)
        · skip
          replace c4 := bz_ne.mp c4
          refine g_aload_n C (n' := 88) 2 rfl dX4_readNumber_87 rfl rfl ?_
          refine g_cVn C (n' := 91) (c_X4_advance l D Y C.2.2.2.2.2.2.2.2.1 q I L hsI hsL hT) 0 kw_251 kc_X4_advance (by decide +kernel) (pm0 _) 0 (ci := 3) rfl rfl rfl rfl ⟨Nat.le_of_ble_eq_true rfl, Nat.le_of_ble_eq_true rfl⟩ ⟨rfl, rfl⟩ ⟨Nat.le_of_ble_eq_true rfl, Nat.le_of_ble_eq_true rfl⟩ (Nat.le_of_ble_eq_true rfl) dX4_readNumber_88 rfl rfl (wText q Y (t_adv I L) L) (pm0' _) ?_
          have hf5 : tokOK (t_adv I L) := t_adv_ok hT
          have hf6 : smI (t_adv I L) := t_adv_sm hsI hT
          generalize hg_I7 : (t_adv I L) = I7 at hf5 hf6 ⊢
          have hI7 := hf_of hf6
          refine g_iload_n C (n' := 92) 1 rfl dX4_readNumber_91 rfl rfl ?_
          have hN : t_num L (I 1) (I 3) (I 4) lo hi = t_val L (I 3).toNat (I 4 - I 3).toNat := by
            unfold t_num
            (repeat' split) <;> first | rfl | omega
          refine g_iret C hr hlk rfl ⟨by rw [hN], ?_⟩ dX4_readNumber_92
          rw [if_neg (by omega)]
          all_goals (try rw [hg_I7])
        · skip
          replace c4 := bz_nne.mp c4
          refine g_iconst C (n' := 86) dX4_readNumber_85 rfl ?_
          have hN : t_num L (I 1) (I 3) (I 4) lo hi = (-1) := by
            unfold t_num
            (repeat' split) <;> first | rfl | omega
          refine g_iret C hr hlk rfl ⟨by rw [hN], ?_⟩ dX4_readNumber_86
          rw [if_pos hN]
      · skip
        refine g_iconst C (n' := 36) dX4_readNumber_35 rfl ?_
        have hN : t_num L (I 1) (I 3) (I 4) lo hi = (-1) := by
          unfold t_num
          (repeat' split) <;> first | rfl | omega
        refine g_iret C hr hlk rfl ⟨by rw [hN], ?_⟩ dX4_readNumber_36
        rw [if_pos hN]
