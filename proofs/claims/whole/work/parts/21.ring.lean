/-! rings, walked -/
theorem fb_holes : ∀ (m n : Nat) (f : Nat → Nat), (∀ i, i < n → f i < m) → (∀ i j, i < j → j < n → f i ≠ f j) → n ≤ m := by
  intro m
  induction m with
  | zero =>
    intro n f h1 _
    rcases Nat.eq_zero_or_pos n with h | h
    · omega
    · exact absurd (h1 0 h) (Nat.not_lt_zero _)
  | succ m ih =>
    intro n f h1 h2
    by_cases hx : ∃ i, i < n ∧ f i = m
    · obtain ⟨a, ha, hfa⟩ := hx
      have hg := ih (n - 1) (fun i => if i < a then f i else f (i + 1)) (by
        intro i hi
        by_cases q : i < a
        · simp only [if_pos q]
          have b1 := h1 i (by omega)
          have b2 := h2 i a q ha
          omega
        · simp only [if_neg q]
          have b1 := h1 (i + 1) (by omega)
          have b2 := h2 a (i + 1) (by omega) (by omega)
          omega) (by
        intro i j hij hj
        by_cases q : i < a
        · by_cases r : j < a
          · simp only [if_pos q, if_pos r]
            exact h2 i j hij (by omega)
          · simp only [if_pos q, if_neg r]
            exact h2 i (j + 1) (by omega) (by omega)
        · have r : ¬ j < a := by omega
          simp only [if_neg q, if_neg r]
          exact h2 (i + 1) (j + 1) (by omega) (by omega))
      omega
    · have hg := ih n f (fun i hi => by
        have b1 := h1 i hi
        have b2 : f i ≠ m := fun e => hx ⟨i, hi, e⟩
        omega) h2
      omega
/-- two of them in one place -/
theorem fb_twice {m n : Nat} {f : Nat → Nat} (h : ∀ i, i < n → f i < m) (hm : m < n) : ∃ i j, i < j ∧ j < n ∧ f i = f j := by
  refine Classical.byContradiction fun hx => ?_
  have := fb_holes m n f h (fun i j hij hj e => hx ⟨i, j, hij, hj, e⟩)
  omega
/-- as many as places, none twice: each place is taken -/
theorem fb_onto {n : Nat} {f : Nat → Nat} (h : ∀ i, i < n → f i < n) (h2 : ∀ i j, i < j → j < n → f i ≠ f j) {y : Nat} (hy : y < n) : ∃ i, i < n ∧ f i = y := by
  refine Classical.byContradiction fun hx => ?_
  have hne : ∀ i, i < n → f i ≠ y := fun i hi e => hx ⟨i, hi, e⟩
  have := fb_holes (n - 1) n (fun i => if f i < y then f i else f i - 1) (by
    intro i hi
    have b1 := h i hi
    have b2 := hne i hi
    by_cases q : f i < y
    · simp only [if_pos q]; omega
    · simp only [if_neg q]; omega) (by
    intro i j hij hj
    have b1 := hne i (by omega)
    have b2 := hne j hj
    have b3 := h2 i j hij hj
    by_cases q : f i < y
    · by_cases r : f j < y
      · simp only [if_pos q, if_pos r]; exact b3
      · simp only [if_pos q, if_neg r]; omega
    · by_cases r : f j < y
      · simp only [if_neg q, if_pos r]; omega
      · simp only [if_neg q, if_neg r]; omega)
  omega

theorem rg_full {r : List Int} {n : Int} (hn : r.Nodup) (h : ∀ x ∈ r, 0 ≤ x ∧ x < n) (hl : n ≤ r.length) {j : Int} (hj : 0 ≤ j ∧ j < n) : j ∈ r := by
  have hm : ∀ i : Nat, i < n.toNat → r[i]? = some (r.getD i 0) ∧ r.getD i 0 ∈ r := fun i hi => by
    have hi2 : i < r.length := by omega
    rw [List.getD_eq_getElem?_getD, List.getElem?_eq_getElem hi2]
    exact ⟨rfl, List.getElem_mem hi2⟩
  obtain ⟨i, hi, e⟩ := fb_onto (n := n.toNat) (f := fun i => (r.getD i 0).toNat) (fun i hi => by
    have := h _ (hm i hi).2
    show (r.getD i 0).toNat < n.toNat
    omega) (fun i k hik hk e => by
    have h1 := h _ (hm i (by omega)).2
    have h2 := h _ (hm k hk).2
    have e2 : r.getD i 0 = r.getD k 0 := by
      have e3 : (r.getD i 0).toNat = (r.getD k 0).toNat := e
      omega
    have hi2 : i < r.length := by omega
    have hk2 : k < r.length := by omega
    rw [List.getD_eq_getElem?_getD, List.getD_eq_getElem?_getD, List.getElem?_eq_getElem hi2, List.getElem?_eq_getElem hk2] at e2
    exact (List.pairwise_iff_getElem.mp hn) i k hi2 hk2 hik e2) (y := j.toNat) (by omega)
  have h1 := h _ (hm i hi).2
  have e2 : r.getD i 0 = j := by
    have e3 : (r.getD i 0).toNat = j.toNat := e
    omega
  exact e2 ▸ (hm i hi).2
theorem rg_loop_full {g : List Int → Option (List Int)} {r : List Int} {n : Int} (h : ∀ j, 0 ≤ j → j < n → j ∈ r) : ∀ (c : Nat) (j : Int), 0 ≤ j → j + c ≤ n → rg_loop g r c j = none
  | 0, _, _, _ => rfl
  | c + 1, j, h0, h1 => by
    rw [rg_loop, if_pos (h j h0 (by omega))]
    exact rg_loop_full h c (j + 1) (by omega) (by omega)
theorem rg_hit {B : Nat → Nat → Int} {n : Int} {r : List Int} (h : rg_b B r = true) : ∀ f, rg_fr (rg_b B) n f r = some r
  | 0 => by rw [rg_fr, if_pos h]
  | f + 1 => by rw [rg_fr, if_pos h]
theorem rg_miss {B : Nat → Nat → Int} {n : Int} {r : List Int} (h : ¬ rg_b B r = true) (f : Nat) : rg_fr (rg_b B) n (f + 1) r = rg_loop (rg_fr (rg_b B) n f) r (n - (rg_f r + 1)).toNat (rg_f r + 1) := by rw [rg_fr, if_neg h]
theorem rg_es_r {B : Nat → Nat → Int} (hB : okB B) : ∀ {r : List Int}, rg_ok B r = true → -1700 * (r.length : Int) ≤ rg_es B r ∧ rg_es B r ≤ 10000 * (r.length : Int)
  | [], _ => by simp [rg_es]
  | [a], _ => by simp [rg_es]
  | a :: b :: t, h => by
    rw [rg_ok, Bool.and_eq_true] at h
    have h1 := rg_es_r hB (r := b :: t) h.2
    have h2 := hB a.toNat b.toNat
    have h3 : B a.toNat b.toNat ≠ 1000000000 := by simpa using h.1
    have e1 : ((a :: b :: t).length : Int) = ((b :: t).length : Int) + 1 := by simp
    rw [rg_es, e1]
    omega
theorem rg_b_of {B : Nat → Nat → Int} {r : List Int} (h : rg_ok B r = true) {x : Int} (hx : x = B (rg_l r).toNat (rg_f r).toNat) : rg_b B r = true ↔ x ≠ 1000000000 ∧ rg_es B r + x < 0 := by
  unfold rg_b
  rw [h, ← hx]
  simp
theorem rg_at_pre {R S : Nat → Int} {r : List Int} (h : rg_at S r) (hp : ∀ k, k < r.length → R k = S k) : rg_at R r := fun k hk => (hp k hk).trans (h k hk)
theorem rg_f_mem {r : List Int} (h : 0 < r.length) : rg_f r ∈ r := by
  cases r with
  | nil => simp at h
  | cons a t => exact List.mem_cons_self
theorem rg_l_mem {r : List Int} (h : 0 < r.length) : rg_l r ∈ r := by
  unfold rg_l
  cases r with
  | nil => simp at h
  | cons a t =>
    rw [List.getLastD_cons]
    cases t with
    | nil => simp
    | cons b u =>
      rw [List.getLastD_eq_getLast?, List.getLast?_eq_some_getLast (by simp)]
      exact List.mem_cons_of_mem _ (List.getLast_mem _)
theorem ring_in {r : List Int} {n j : Int} (h : ∀ x ∈ r, 0 ≤ x ∧ x < n) (h0 : 0 ≤ j) (h1 : j < n) : ∀ x ∈ r ++ [j], 0 ≤ x ∧ x < n := fun x hx => by
  rcases List.mem_append.mp hx with z | z
  · exact h x z
  · rw [List.mem_singleton.mp z]
    omega
theorem rg_one (j : Int) {R : Nat → Int} : rg_at (sU R 0 j) [j] := fun k hk => by
  have e0 : k = 0 := by simp at hk; omega
  subst e0
  rfl
theorem ring_nd {r : List Int} {j : Int} (h : r.Nodup) (hj : ¬ j ∈ r) : (r ++ [j]).Nodup := by
  rw [List.nodup_append]
  exact ⟨h, by simp, fun a ha b hb e => hj (by rw [List.mem_singleton.mp hb] at e; exact e ▸ ha)⟩
set_option maxRecDepth 100000 in
set_option maxHeartbeats 4000000 in
theorem lp_X3_ii {p9 : Program} {l : Launch} {e9 : Env} {s9 : State} {m9 : MethodId} {a9 : Array Value} {b9 : List Frame} {t9 : Method} {c9 : Code} {D : va_G} {A9 : Nat → Prop} {Q9 : State → Prop} {E : (Nat → Prop) → State → Heap → Prop} {Y : Nat → ClassId} (C : g_Cx p9 s9 m9 a9 c9 cX3_isInRing 4 RX3 D (tysY Y) A9 E) (q : Nat → Nat) (I : Nat → Int) (A B : Nat → Nat → Int) (x len : Int) (r : List Int) (hsI : smI I) (hsA : smA A) (hsB : okB B) (hx : inR x) (hr : rg_at (A 2) r) (hlen : len = (r.length : Int)) (h8 : r.length ≤ 8) : ∀ (n9 : Nat) (k : Nat), (k : Int) + n9 = len → (∀ i, i < k → A 2 i ≠ x) → (x ∈ r → ∀ k : Nat, g_G p9 l e9 ({ frames := 0, cells := 0, slots := 0, locals := 0 } : Room) s9 m9 a9 b9 t9 c9 4 D A9 Q9 0 0 (wPlan q Y I A B) [(3, .int (iI ((k : Nat) : Int))), (0, .ref (q 99)), (1, .int (iI x)), (2, .int (iI len))] 17 []) → (x ∉ r → ∀ k : Nat, g_G p9 l e9 ({ frames := 0, cells := 0, slots := 0, locals := 0 } : Room) s9 m9 a9 b9 t9 c9 4 D A9 Q9 0 0 (wPlan q Y I A B) [(3, .int (iI ((k : Nat) : Int))), (0, .ref (q 99)), (1, .int (iI x)), (2, .int (iI len))] 25 []) → g_G p9 l e9 ({ frames := 0, cells := 0, slots := 0, locals := 0 } : Room) s9 m9 a9 b9 t9 c9 4 D A9 Q9 0 0 (wPlan q Y I A B) [(3, .int (iI ((k : Nat) : Int))), (0, .ref (q 99)), (1, .int (iI x)), (2, .int (iI len))] 2 [] := by
  have hE := C.2.2.2.2.2.2.2.2.1
  intro n9
  induction n9 with
  | zero =>
    intro k hk hne K1 K0
    have hI := hsI
    have hA := hsA
    have hB := hsB
    unfold smI at hI
    unfold smA at hA
    unfold okB at hB
    unfold inR at hx
    refine g_iload_n C (n' := 3) 0 rfl dX3_isInRing_2 rfl rfl ?_
    refine g_iload_n C (n' := 4) 3 rfl dX3_isInRing_3 rfl rfl ?_
    refine g_icmp_ge C (n' := 7) 25 dX3_isInRing_4 (by decide) rfl (by unfold inR; omega) (by unfold inR; omega) (fun c1 => ?_) (fun c1 => ?_)
    · skip
      exact K0 (fun q => by
        obtain ⟨i, hi, e⟩ := (rg_mem hr x).mp q
        exact hne i (by omega) e) k
    · skip
      exfalso
      omega
  | succ n9 ih =>
    intro k hk hne K1 K0
    have hI := hsI
    have hA := hsA
    have hB := hsB
    unfold smI at hI
    unfold smA at hA
    unfold okB at hB
    unfold inR at hx
    refine g_iload_n C (n' := 3) 0 rfl dX3_isInRing_2 rfl rfl ?_
    refine g_iload_n C (n' := 4) 3 rfl dX3_isInRing_3 rfl rfl ?_
    refine g_icmp_ge C (n' := 7) 25 dX3_isInRing_4 (by decide) rfl (by unfold inR; omega) (by unfold inR; omega) (fun c1 => ?_) (fun c1 => ?_)
    · skip
      exfalso
      omega
    · skip
      refine g_aload_n C (n' := 8) 1 rfl dX3_isInRing_7 rfl rfl ?_
      refine g_get C (n' := 11) (Cn := RX3) (T := TX3) (N := 7) (ci := 2) (v := .ref (q 2)) ga_X3 0 rfl rfl 2 (by decide) kw_141 rfl rfl dX3_isInRing_8 rfl ?_
      refine g_iload_n C (n' := 12) 0 rfl dX3_isInRing_11 rfl rfl ?_
      refine g_ialdN C (n' := 13) (f := (A 2)) (j := k) 3 0 rfl rfl (by omega) (by decide) rfl dX3_isInRing_12 rfl ?_
      have h_12 := hA 2 k
      refine g_iload_n C (n' := 14) 2 rfl dX3_isInRing_13 rfl rfl ?_
      refine g_icmp_ne C (n' := 17) 19 dX3_isInRing_14 (by decide) rfl (by unfold inR; omega) (by unfold inR; omega) (fun c2 => ?_) (fun c2 => ?_)
      · skip
        refine g_iinc C (n' := 22) 0 [(3, .int (iI (((k : Nat) : Int) + 1))), (0, .ref (q 99)), (1, .int (iI x)), (2, .int (iI len))] rfl dX3_isInRing_19 rfl (by decide) rfl ?_
        refine g_goto C 2 dX3_isInRing_22 (by decide) ?_
        refine g_lv (lv' := [(3, .int (iI ((k + 1 : Nat) : Int))), (0, .ref (q 99)), (1, .int (iI x)), (2, .int (iI len))]) [0, 1, 2, 3] rfl ?_
        exact ih (k + 1) (by omega) (fun i hi => by
          by_cases e : i = k
          · rw [e]
            exact c2
          · exact hne i (by omega)) K1 K0
      · skip
        exact K1 ((rg_mem hr x).mpr ⟨k, by omega, Decidable.not_not.mp c2⟩) k
set_option maxRecDepth 100000 in
set_option maxHeartbeats 4000000 in
theorem c_X3_isInRing (l : Launch) (D : va_G) (Y : Nat → ClassId) {E : (Nat → Prop) → State → Heap → Prop} (hE : g_Stab E) (q : Nat → Nat) (I : Nat → Int) (A : Nat → Nat → Int) (B : Nat → Nat → Int) (x : Int) (len : Int) (r : List Int) (hsI : smI I) (hsA : smA A) (hsB : okB B) (hx : inR x) (hr : rg_at (A 2) r) (hlen : len = (r.length : Int)) (h8 : r.length ≤ 8) : g_Ct l yX3_isInRing cX3_isInRing 4 (some FieldType.boolean) ({ frames := 0, cells := 0, slots := 0, locals := 0 } : Room) D (tysY Y) E [.ref (q 99), .int (iI x), .int (iI len)] (wPlan q Y I A B) 0 0 (g_det (some (.int (iI (if x ∈ r then 1 else 0)))) (wPlan q Y I A B)) := by
  refine g_ofG (own := RX3) hE (by decide) rfl (Nat.le_of_ble_eq_true rfl) [(0, .ref (q 99)), (1, .int (iI x)), (2, .int (iI len))] rfl ?_
  intro p9 e9 s9 m9 b9 t9 c9 A9 C hr9 hlk hnm
  have hI := hsI
  have hA := hsA
  have hB := hsB
  unfold smI at hI
  unfold smA at hA
  unfold okB at hB
  refine g_iconst C (n' := 1) dX3_isInRing_0 rfl ?_
  refine g_istore_n C (n' := 2) [(3, .int (iI 0)), (0, .ref (q 99)), (1, .int (iI x)), (2, .int (iI len))] dX3_isInRing_1 rfl rfl (by decide) rfl ?_
  refine g_lv (lv' := [(3, .int (iI ((0 : Nat) : Int))), (0, .ref (q 99)), (1, .int (iI x)), (2, .int (iI len))]) [0, 1, 2, 3] rfl ?_
  refine lp_X3_ii C q I A B x len r hsI hsA hsB hx hr hlen h8 r.length 0 (by omega) (fun i hi => absurd hi (Nat.not_lt_zero i)) (fun hq k => ?_) (fun hq k => ?_)
  · skip
    refine g_iconst C (n' := 18) dX3_isInRing_17 rfl ?_
    refine g_iret C hr9 hlk (nar_z (by omega)) ⟨congrArg (fun z : Int => some (Value.int (iI z))) ?_, rfl⟩ dX3_isInRing_18
    rw [if_pos hq]
  · skip
    refine g_iconst C (n' := 26) dX3_isInRing_25 rfl ?_
    refine g_iret C hr9 hlk (nar_z (by omega)) ⟨congrArg (fun z : Int => some (Value.int (iI z))) ?_, rfl⟩ dX3_isInRing_26
    rw [if_neg hq]
set_option maxRecDepth 100000 in
set_option maxHeartbeats 4000000 in
theorem c_X3_closesFrom_8 (l : Launch) (D : va_G) (Y : Nat → ClassId) {E : (Nat → Prop) → State → Heap → Prop} (hE : g_Stab E) (q : Nat → Nat) (I : Nat → Int) (A : Nat → Nat → Int) (B : Nat → Nat → Int) (tog : Int) (r : List Int) (hsI : smI I) (hsA : smA A) (hsB : okB B) (hn : 2 ≤ I 3 ∧ I 3 ≤ 8) (hr : rg_at (A 2) r) (hL : r.length = 8) (hin : ∀ x ∈ r, 0 ≤ x ∧ x < I 3) (hnd : r.Nodup) (htog : tog = rg_es B r) (hok : rg_ok B r = true) : g_Ct l yX3_closesFrom cX3_closesFrom 8 (some FieldType.boolean) ({ frames := 1, cells := 0, slots := 0, locals := 23 } : Room) D (tysY Y) E [.ref (q 99), .int (iI 8), .int (iI tog)] (wPlan q Y I A B) 0 0 (fun r9 w9 => ∃ R : Nat → Int, smR R ∧ ((r9 = some (.int (iI 1)) ∧ ∃ r2 : List Int, rg_fr (rg_b B) (I 3) 0 r = some r2 ∧ rg_at R r2 ∧ r2.length ≤ 8 ∧ w9 = wPlan q Y (sU I 4 (r2.length : Int)) (sU A 2 R) B) ∨ (r9 = some (.int (iI 0)) ∧ rg_fr (rg_b B) (I 3) 0 r = none ∧ (∀ k, k < 8 → R k = A 2 k) ∧ w9 = wPlan q Y I (sU A 2 R) B))) := by
  refine g_ofG (own := RX3) hE (by decide) rfl (Nat.le_of_ble_eq_true rfl) [(0, .ref (q 99)), (1, .int (iI 8)), (2, .int (iI tog))] rfl ?_
  intro p9 e9 s9 m9 b9 t9 c9 A9 C hr9 hlk hnm
  have hI := hsI
  have hA := hsA
  have hB := hsB
  unfold smI at hI
  unfold smA at hA
  unfold okB at hB
  have hF := rg_at_f hr (by omega)
  have hLs := rg_at_l hr (by omega)
  rw [hL] at hLs
  have hLs : A 2 7 = rg_l r := hLs
  have hFr := hin _ (rg_f_mem (by omega))
  have hLr := hin _ (rg_l_mem (by omega))
  rw [← hF] at hFr
  rw [← hLs] at hLr
  have hes := rg_es_r hsB hok
  rw [hL] at hes
  refine g_aload_n C (n' := 1) 0 rfl dX3_closesFrom_0 rfl rfl ?_
  refine g_get C (n' := 4) (Cn := RX3) (T := TX3) (N := 7) (ci := 2) (v := .ref (q 2)) ga_X3 0 rfl rfl 2 (by decide) kw_141 rfl rfl dX3_closesFrom_1 rfl ?_
  refine g_iconst C (n' := 5) dX3_closesFrom_4 rfl ?_
  refine g_ialdN C (n' := 6) (f := (A 2)) (j := 0) 3 0 rfl rfl (by omega) (by decide) rfl dX3_closesFrom_5 rfl ?_
  have h_5 := hA 2 0
  refine g_istore_n C (n' := 7) [(3, .int (iI ((A 2) 0))), (0, .ref (q 99)), (1, .int (iI 8)), (2, .int (iI tog))] dX3_closesFrom_6 rfl rfl (by decide) rfl ?_
  refine g_aload_n C (n' := 8) 1 rfl dX3_closesFrom_7 rfl rfl ?_
  refine g_get C (n' := 11) (Cn := RX3) (T := TX3) (N := 7) (ci := 2) (v := .ref (q 2)) ga_X3 0 rfl rfl 2 (by decide) kw_141 rfl rfl dX3_closesFrom_8 rfl ?_
  refine g_iload_n C (n' := 12) 2 rfl dX3_closesFrom_11 rfl rfl ?_
  refine g_iconst C (n' := 13) dX3_closesFrom_12 rfl ?_
  refine g_isub C (n' := 14) dX3_closesFrom_13 rfl ?_
  refine g_st (st' := [.int (iI 7), .ref (q 2)]) rfl ?_
  refine g_ialdN C (n' := 15) (f := (A 2)) (j := 7) 3 0 rfl rfl (by omega) (by decide) rfl dX3_closesFrom_14 rfl ?_
  have h_14 := hA 2 7
  refine g_istore C (n' := 17) [(4, .int (iI ((A 2) 7))), (3, .int (iI ((A 2) 0))), (0, .ref (q 99)), (1, .int (iI 8)), (2, .int (iI tog))] dX3_closesFrom_15 rfl (by decide) rfl ?_
  refine g_aload_n C (n' := 18) 2 rfl dX3_closesFrom_17 rfl rfl ?_
  refine g_get C (n' := 21) (Cn := RX3) (T := TX3) (N := 7) (ci := 2) (v := .ref (q 0)) ga_X3 0 rfl rfl 0 (by decide) kw_139 rfl rfl dX3_closesFrom_18 rfl ?_
  refine g_iload C (n' := 23) 0 rfl dX3_closesFrom_21 rfl ?_
  refine g_aalA C (n' := 24) (v := q (20 + ((A 2) 7).toNat)) 1 7 rfl rfl (by omega) (by omega) (by decide) (if_pos (by omega)) dX3_closesFrom_23 rfl ?_
  refine g_iload_n C (n' := 25) 1 rfl dX3_closesFrom_24 rfl rfl ?_
  refine g_iald C (n' := 26) (4 + ((A 2) 7).toNat) 0 (pl_row (by omega)) rfl (by omega) (by omega) (by decide) rfl dX3_closesFrom_25 rfl ?_
  have hb_25 := hB (((A 2) 7).toNat) (((A 2) 0).toNat)
  refine g_istore C (n' := 28) [(5, .int (iI (B (((A 2) 7).toNat) (((A 2) 0).toNat)))), (4, .int (iI ((A 2) 7))), (3, .int (iI ((A 2) 0))), (0, .ref (q 99)), (1, .int (iI 8)), (2, .int (iI tog))] dX3_closesFrom_26 rfl (by decide) rfl ?_
  refine g_iload C (n' := 30) 0 rfl dX3_closesFrom_28 rfl ?_
  refine g_ldc C (n' := 32) 1000000000 (by decide) kw_455 dX3_closesFrom_30 rfl ?_
  refine g_icmp_eq C (n' := 35) 49 dX3_closesFrom_32 (by decide) rfl (by unfold inR; omega) (by unfold inR; omega) (fun c1 => ?_) (fun c1 => ?_)
  · skip
    refine g_iload_n C (n' := 50) 4 rfl dX3_closesFrom_49 rfl rfl ?_
    refine g_aload_n C (n' := 51) 3 rfl dX3_closesFrom_50 rfl rfl ?_
    refine g_get C (n' := 54) (Cn := RX3) (T := TX3) (N := 7) (ci := 2) (v := .int (iI (I 3))) ga_X3 0 rfl rfl 3 (by decide) kw_142 rfl rfl dX3_closesFrom_51 rfl ?_
    have h_51 := hI 3
    refine g_icmp_lt C (n' := 57) 59 dX3_closesFrom_54 (by decide) rfl (by unfold inR; omega) (by unfold inR; omega) (fun c2 => ?_) (fun c2 => ?_)
    · skip
      exfalso
      omega
    · skip
      refine g_iconst C (n' := 58) dX3_closesFrom_57 rfl ?_
      have hb : ¬ rg_b B r = true := fun z => by
        have z2 := (rg_b_of hok (x := (B (A 2 7).toNat (A 2 0).toNat)) (by rw [← hF, ← hLs])).mp z
        omega
      exact g_iret C hr9 hlk (nar_z (by omega)) ⟨A 2, hsA 2, Or.inr ⟨rfl, by rw [rg_fr, if_neg hb], fun _ _ => rfl, by rw [sU_id]⟩⟩ dX3_closesFrom_58
  · skip
    refine g_iload_n C (n' := 36) 5 rfl dX3_closesFrom_35 rfl rfl ?_
    refine g_iload C (n' := 38) 0 rfl dX3_closesFrom_36 rfl ?_
    refine g_iadd C (n' := 39) dX3_closesFrom_38 rfl ?_
    refine g_if_ge C (n' := 42) 49 dX3_closesFrom_39 (by decide) rfl (by unfold inR; omega) (fun c3 => ?_) (fun c3 => ?_)
    · skip
      refine g_iload_n C (n' := 50) 4 rfl dX3_closesFrom_49 rfl rfl ?_
      refine g_aload_n C (n' := 51) 3 rfl dX3_closesFrom_50 rfl rfl ?_
      refine g_get C (n' := 54) (Cn := RX3) (T := TX3) (N := 7) (ci := 2) (v := .int (iI (I 3))) ga_X3 0 rfl rfl 3 (by decide) kw_142 rfl rfl dX3_closesFrom_51 rfl ?_
      have h_51 := hI 3
      refine g_icmp_lt C (n' := 57) 59 dX3_closesFrom_54 (by decide) rfl (by unfold inR; omega) (by unfold inR; omega) (fun c4 => ?_) (fun c4 => ?_)
      · skip
        exfalso
        omega
      · skip
        refine g_iconst C (n' := 58) dX3_closesFrom_57 rfl ?_
        have hb : ¬ rg_b B r = true := fun z => by
          have z2 := (rg_b_of hok (x := (B (A 2 7).toNat (A 2 0).toNat)) (by rw [← hF, ← hLs])).mp z
          omega
        exact g_iret C hr9 hlk (nar_z (by omega)) ⟨A 2, hsA 2, Or.inr ⟨rfl, by rw [rg_fr, if_neg hb], fun _ _ => rfl, by rw [sU_id]⟩⟩ dX3_closesFrom_58
    · skip
      refine g_aload_n C (n' := 43) 3 rfl dX3_closesFrom_42 rfl rfl ?_
      refine g_iload_n C (n' := 44) 4 rfl dX3_closesFrom_43 rfl rfl ?_
      refine g_put C (n' := 47) (Cn := RX3) (T := TX3) (N := 7) (ci := 2) (v := .int (iI 8)) ga_X3 0 rfl rfl 4 (by decide) kw_143 rfl tyX3 tyX3_ok nmX3 rfl rfl rfl rfl (Nat.le_of_ble_eq_true rfl) (wPlan q Y (sU I 4 8) A B) rfl dX3_closesFrom_44 rfl ?_
      refine g_iconst C (n' := 48) dX3_closesFrom_47 rfl ?_
      have hb : rg_b B r = true := (rg_b_of hok (x := (B (A 2 7).toNat (A 2 0).toNat)) (by rw [← hF, ← hLs])).mpr ⟨by omega, by omega⟩
      exact g_iret C hr9 hlk (nar_z (by omega)) ⟨A 2, hsA 2, Or.inl ⟨rfl, r, rg_hit hb _, hr, by omega, by rw [sU_id, hL]; rfl⟩⟩ dX3_closesFrom_48
set_option maxRecDepth 100000 in
set_option maxHeartbeats 4000000 in
theorem lp_X3_cl_7 {p9 : Program} {l : Launch} {e9 : Env} {s9 : State} {m9 : MethodId} {a9 : Array Value} {b9 : List Frame} {t9 : Method} {c9 : Code} {D : va_G} {A9 : Nat → Prop} {Q9 : State → Prop} {E : (Nat → Prop) → State → Heap → Prop} {Y : Nat → ClassId} (C : g_Cx p9 s9 m9 a9 c9 cX3_closesFrom 8 RX3 D (tysY Y) A9 E) (q : Nat → Nat) (I : Nat → Int) (A B : Nat → Nat → Int) (tog : Int) (r : List Int) (hsI : smI I) (hsA : smA A) (hsB : okB B) (hn : 2 ≤ I 3 ∧ I 3 ≤ 8) (hr : rg_at (A 2) r) (hL : r.length = 7) (hin : ∀ x ∈ r, 0 ≤ x ∧ x < I 3) (hnd : r.Nodup) (htog : tog = rg_es B r) (hok : rg_ok B r = true) : ∀ (n9 : Nat) (j : Int) (R : Nat → Int), A 2 0 < j → j + n9 = I 3 → smR R → (∀ k, k < 7 → R k = A 2 k) → (∀ (R : Nat → Int) (r2 : List Int), rg_loop (rg_fr (rg_b B) (I 3) 0) r n9 j = some r2 → smR R → rg_at R r2 → r2.length ≤ 8 → g_G p9 l e9 ({ frames := 2, cells := 0, slots := 0, locals := 50 } : Room) s9 m9 a9 b9 t9 c9 8 D A9 Q9 0 0 (wPlan q Y (sU I 4 (r2.length : Int)) (sU A 2 R) B) [(0, .ref (q 99))] 127 []) → (∀ R : Nat → Int, rg_loop (rg_fr (rg_b B) (I 3) 0) r n9 j = none → smR R → (∀ k, k < 7 → R k = A 2 k) → g_G p9 l e9 ({ frames := 2, cells := 0, slots := 0, locals := 50 } : Room) s9 m9 a9 b9 t9 c9 8 D A9 Q9 0 0 (wPlan q Y I (sU A 2 R) B) [(0, .ref (q 99))] 135 []) → g_G p9 l e9 ({ frames := 2, cells := 0, slots := 0, locals := 50 } : Room) s9 m9 a9 b9 t9 c9 8 D A9 Q9 0 0 (wPlan q Y I (sU A 2 R) B) [(6, .int (iI j)), (5, .int (iI (B (A 2 6).toNat (A 2 0).toNat))), (4, .int (iI (A 2 6))), (3, .int (iI (A 2 0))), (0, .ref (q 99)), (1, .int (iI 7)), (2, .int (iI tog))] 64 [] := by
  have hE := C.2.2.2.2.2.2.2.2.1
  intro n9
  induction n9 with
  | zero =>
    intro j R hj hjn hsR hpre K1 K0
    have hI := hsI
    have hA := hsA
    have hB := hsB
    unfold smI at hI
    unfold smA at hA
    unfold okB at hB
    have hF := rg_at_f hr (by omega)
    have hLs := rg_at_l hr (by omega)
    rw [hL] at hLs
    have hLs : A 2 6 = rg_l r := hLs
    have hFr := hin _ (rg_f_mem (by omega))
    have hLr := hin _ (rg_l_mem (by omega))
    rw [← hF] at hFr
    rw [← hLs] at hLr
    have hes := rg_es_r hsB hok
    rw [hL] at hes
    have hRA : smA (sU A 2 R) := sm_putA hsA hsR
    have hR9 := hsR
    unfold smR at hR9
    refine g_iload C (n' := 66) 0 rfl dX3_closesFrom_64 rfl ?_
    refine g_aload_n C (n' := 67) 4 rfl dX3_closesFrom_66 rfl rfl ?_
    refine g_get C (n' := 70) (Cn := RX3) (T := TX3) (N := 7) (ci := 2) (v := .int (iI (I 3))) ga_X3 0 rfl rfl 3 (by decide) kw_142 rfl rfl dX3_closesFrom_67 rfl ?_
    have h_67 := hI 3
    refine g_icmp_ge C (n' := 73) 135 dX3_closesFrom_70 (by decide) rfl (by unfold inR; omega) (by unfold inR; omega) (fun c1 => ?_) (fun c1 => ?_)
    · skip
      refine g_lv [4] rfl ?_
      exact K0 R rfl hsR hpre
    · skip
      exfalso
      omega
  | succ n9 ih =>
    intro j R hj hjn hsR hpre K1 K0
    have hI := hsI
    have hA := hsA
    have hB := hsB
    unfold smI at hI
    unfold smA at hA
    unfold okB at hB
    have hF := rg_at_f hr (by omega)
    have hLs := rg_at_l hr (by omega)
    rw [hL] at hLs
    have hLs : A 2 6 = rg_l r := hLs
    have hFr := hin _ (rg_f_mem (by omega))
    have hLr := hin _ (rg_l_mem (by omega))
    rw [← hF] at hFr
    rw [← hLs] at hLr
    have hes := rg_es_r hsB hok
    rw [hL] at hes
    have hRA : smA (sU A 2 R) := sm_putA hsA hsR
    have hR9 := hsR
    unfold smR at hR9
    refine g_iload C (n' := 66) 0 rfl dX3_closesFrom_64 rfl ?_
    refine g_aload_n C (n' := 67) 4 rfl dX3_closesFrom_66 rfl rfl ?_
    refine g_get C (n' := 70) (Cn := RX3) (T := TX3) (N := 7) (ci := 2) (v := .int (iI (I 3))) ga_X3 0 rfl rfl 3 (by decide) kw_142 rfl rfl dX3_closesFrom_67 rfl ?_
    have h_67 := hI 3
    refine g_icmp_ge C (n' := 73) 135 dX3_closesFrom_70 (by decide) rfl (by unfold inR; omega) (by unfold inR; omega) (fun c1 => ?_) (fun c1 => ?_)
    · skip
      exfalso
      omega
    · skip
      refine g_aload_n C (n' := 74) 4 rfl dX3_closesFrom_73 rfl rfl ?_
      refine g_get C (n' := 77) (Cn := RX3) (T := TX3) (N := 7) (ci := 2) (v := .ref (q 0)) ga_X3 0 rfl rfl 0 (by decide) kw_139 rfl rfl dX3_closesFrom_74 rfl ?_
      refine g_iload C (n' := 79) 2 rfl dX3_closesFrom_77 rfl ?_
      refine g_aalA C (n' := 80) (v := q (20 + (A 2 6).toNat)) 1 7 rfl rfl (by omega) (by omega) (by decide) (if_pos (by omega)) dX3_closesFrom_79 rfl ?_
      refine g_iload C (n' := 82) 0 rfl dX3_closesFrom_80 rfl ?_
      refine g_iald C (n' := 83) (4 + (A 2 6).toNat) 0 (pl_row (by omega)) rfl (by omega) (by omega) (by decide) rfl dX3_closesFrom_82 rfl ?_
      have hb_82 := hB ((A 2 6).toNat) j.toNat
      refine g_istore C (n' := 85) [(7, .int (iI (B ((A 2 6).toNat) j.toNat))), (6, .int (iI j)), (5, .int (iI (B (A 2 6).toNat (A 2 0).toNat))), (4, .int (iI (A 2 6))), (3, .int (iI (A 2 0))), (0, .ref (q 99)), (1, .int (iI 7)), (2, .int (iI tog))] dX3_closesFrom_83 rfl (by decide) rfl ?_
      refine g_iload C (n' := 87) 0 rfl dX3_closesFrom_85 rfl ?_
      refine g_ldc C (n' := 89) 1000000000 (by decide) kw_455 dX3_closesFrom_87 rfl ?_
      refine g_icmp_eq C (n' := 92) 129 dX3_closesFrom_89 (by decide) rfl (by unfold inR; omega) (by unfold inR; omega) (fun c2 => ?_) (fun c2 => ?_)
      · skip
        refine g_iinc C (n' := 132) 1 [(6, .int (iI (j + 1))), (7, .int (iI (B ((A 2 6).toNat) j.toNat))), (5, .int (iI (B (A 2 6).toNat (A 2 0).toNat))), (4, .int (iI (A 2 6))), (3, .int (iI (A 2 0))), (0, .ref (q 99)), (1, .int (iI 7)), (2, .int (iI tog))] rfl dX3_closesFrom_129 rfl (by decide) rfl ?_
        refine g_goto C 64 dX3_closesFrom_132 (by decide) ?_
        have e1 : rg_loop (rg_fr (rg_b B) (I 3) 0) r (n9 + 1) j = rg_loop (rg_fr (rg_b B) (I 3) 0) r n9 (j + 1) := by
          have ho : rg_ok B (r ++ [j]) = false := by rw [rg_ok_app B j (fun q => by rw [q] at hL; cases hL), ← hLs, c2]; simp
          rw [rg_loop, rg_fr_none _ (r ++ [j]) (by simp) ho]
          split <;> rfl
        rw [e1] at K1 K0
        refine g_lv (lv' := [(6, .int (iI (j + 1))), (5, .int (iI (B (A 2 6).toNat (A 2 0).toNat))), (4, .int (iI (A 2 6))), (3, .int (iI (A 2 0))), (0, .ref (q 99)), (1, .int (iI 7)), (2, .int (iI tog))]) [0, 2, 3, 4, 5, 6, 7] rfl ?_
        exact ih (j + 1) R (by omega) (by omega) hsR hpre K1 K0
      · skip
        refine g_aload_n C (n' := 93) 5 rfl dX3_closesFrom_92 rfl rfl ?_
        refine g_iload C (n' := 95) 1 rfl dX3_closesFrom_93 rfl ?_
        refine g_iload_n C (n' := 96) 6 rfl dX3_closesFrom_95 rfl rfl ?_
        refine g_cVv C (n' := 99) (v := .int (iI (if j ∈ r then 1 else 0))) (c_X3_isInRing l D Y C.2.2.2.2.2.2.2.2.1 q I (sU A 2 R) B j 7 r hsI hRA hsB (by unfold inR; omega) (rg_at_pre hr (fun k hk => hpre k (by omega))) (by omega) (by omega)) 2 kw_537 kc_X3_isInRing (by decide +kernel) (pm0 _) 0 (ci := 2) rfl rfl rfl rfl ⟨Nat.le_of_ble_eq_true rfl, Nat.le_of_ble_eq_true rfl⟩ ⟨rfl, rfl⟩ ⟨Nat.le_of_ble_eq_true rfl, Nat.le_of_ble_eq_true rfl⟩ (Nat.le_of_ble_eq_true rfl) dX3_closesFrom_96 rfl rfl (wPlan q Y I (sU A 2 R) B) (pm0' _) ?_
        refine g_if_eq C (n' := 102) 105 dX3_closesFrom_99 (by decide) rfl bz_r (fun c3 => ?_) (fun c3 => ?_)
        · skip
          replace c3 := bz_eq.mp c3
          refine g_aload_n C (n' := 106) 5 rfl dX3_closesFrom_105 rfl rfl ?_
          refine g_get C (n' := 109) (Cn := RX3) (T := TX3) (N := 7) (ci := 2) (v := .ref (q 2)) ga_X3 0 rfl rfl 2 (by decide) kw_141 rfl rfl dX3_closesFrom_106 rfl ?_
          refine g_iload_n C (n' := 110) 6 rfl dX3_closesFrom_109 rfl rfl ?_
          refine g_iload C (n' := 112) 1 rfl dX3_closesFrom_110 rfl ?_
          refine g_iastN C (n' := 113) (f := R) (j := 7) 3 0 rfl rfl (by omega) (by decide) rfl dX3_closesFrom_112 rfl (wPlan q Y I (sU A 2 (sU R 7 j)) B) rfl ?_
          refine g_aload_n C (n' := 114) 5 rfl dX3_closesFrom_113 rfl rfl ?_
          refine g_iload_n C (n' := 115) 6 rfl dX3_closesFrom_114 rfl rfl ?_
          refine g_iconst C (n' := 116) dX3_closesFrom_115 rfl ?_
          refine g_iadd C (n' := 117) dX3_closesFrom_116 rfl ?_
          refine g_st (st' := [.int (iI 8), .ref (q 99)]) rfl ?_
          refine g_iload_n C (n' := 118) 7 rfl dX3_closesFrom_117 rfl rfl ?_
          refine g_iload C (n' := 120) 0 rfl dX3_closesFrom_118 rfl ?_
          refine g_iadd C (n' := 121) dX3_closesFrom_120 rfl ?_
          refine g_callV C (n' := 124) (c_X3_closesFrom_8 l D Y C.2.2.2.2.2.2.2.2.1 q I (sU A 2 (sU R 7 j)) B (tog + (B ((A 2 6).toNat) j.toNat)) (r ++ [j]) hsI (sm_putA hsA (sm_putR hsR (by omega))) hsB hn (by have := rg_at_app (rg_at_pre hr (fun k hk => hpre k (by omega))) j; rw [hL] at this; exact this) (by rw [List.length_append, hL]; rfl) (ring_in hin (by omega) (by omega)) (ring_nd hnd c3) (by rw [rg_es_app B j (fun q => by rw [q] at hL; cases hL), ← hLs, htog]) (by rw [rg_ok_app B j (fun q => by rw [q] at hL; cases hL), ← hLs, hok]; simpa using c2)) 2 kw_533 kc_X3_closesFrom (by decide +kernel) (pm0 _) 0 (ci := 2) rfl rfl rfl rfl ⟨Nat.le_of_ble_eq_true rfl, Nat.le_of_ble_eq_true rfl⟩ ⟨rfl, rfl⟩ ⟨Nat.le_of_ble_eq_true rfl, Nat.le_of_ble_eq_true rfl⟩ (Nat.le_of_ble_eq_true rfl) dX3_closesFrom_121 rfl (fun r9 w9 hp4 => ?_)
          obtain ⟨R5, hsR5, (⟨rfl, r6, q1, q2, q3, rfl⟩ | ⟨rfl, q1, q2, rfl⟩)⟩ := hp4
          · skip
            have hcR5 := And.intro q1 (And.intro q2 q3)
            refine g_perm (w' := (wPlan q Y (sU I 4 (r6.length : Int)) (sU A 2 R5) B)) (pm0' _) ?_
            refine g_st (st' := [.int (iI 1)]) rfl ?_
            refine g_if_eq C (n' := 127) 129 dX3_closesFrom_124 (by decide) rfl (by unfold inR; omega) (fun c7 => ?_) (fun c7 => ?_)
            · skip
              exfalso
              omega
            · skip
              refine g_lv [5] rfl ?_
              exact K1 R5 r6 (by rw [rg_loop, if_neg c3, hcR5.1]) hsR5 hcR5.2.1 hcR5.2.2
          · skip
            have hcR5 := And.intro q1 q2
            refine g_perm (w' := (wPlan q Y I (sU A 2 R5) B)) (pm0' _) ?_
            refine g_st (st' := [.int (iI 0)]) rfl ?_
            refine g_if_eq C (n' := 127) 129 dX3_closesFrom_124 (by decide) rfl (by unfold inR; omega) (fun c8 => ?_) (fun c8 => ?_)
            · skip
              refine g_iinc C (n' := 132) 1 [(6, .int (iI (j + 1))), (7, .int (iI (B ((A 2 6).toNat) j.toNat))), (5, .int (iI (B (A 2 6).toNat (A 2 0).toNat))), (4, .int (iI (A 2 6))), (3, .int (iI (A 2 0))), (0, .ref (q 99)), (1, .int (iI 7)), (2, .int (iI tog))] rfl dX3_closesFrom_129 rfl (by decide) rfl ?_
              refine g_goto C 64 dX3_closesFrom_132 (by decide) ?_
              have e1 : rg_loop (rg_fr (rg_b B) (I 3) 0) r (n9 + 1) j = rg_loop (rg_fr (rg_b B) (I 3) 0) r n9 (j + 1) := by
                rw [rg_loop, if_neg c3, hcR5.1]
              rw [e1] at K1 K0
              refine g_lv (lv' := [(6, .int (iI (j + 1))), (5, .int (iI (B (A 2 6).toNat (A 2 0).toNat))), (4, .int (iI (A 2 6))), (3, .int (iI (A 2 0))), (0, .ref (q 99)), (1, .int (iI 7)), (2, .int (iI tog))]) [0, 2, 3, 4, 5, 6, 7] rfl ?_
              exact ih (j + 1) R5 (by omega) (by omega) hsR5 (fun k hk => (hcR5.2 k (by omega)).trans ((show sU R 7 j k = R k from sU_n _ _ (by omega)).trans (hpre k hk))) K1 K0
            · skip
              exfalso
              omega
        · skip
          replace c3 := bz_neq.mp c3
          refine g_goto C 129 dX3_closesFrom_102 (by decide) ?_
          refine g_iinc C (n' := 132) 1 [(6, .int (iI (j + 1))), (7, .int (iI (B ((A 2 6).toNat) j.toNat))), (5, .int (iI (B (A 2 6).toNat (A 2 0).toNat))), (4, .int (iI (A 2 6))), (3, .int (iI (A 2 0))), (0, .ref (q 99)), (1, .int (iI 7)), (2, .int (iI tog))] rfl dX3_closesFrom_129 rfl (by decide) rfl ?_
          refine g_goto C 64 dX3_closesFrom_132 (by decide) ?_
          have e1 : rg_loop (rg_fr (rg_b B) (I 3) 0) r (n9 + 1) j = rg_loop (rg_fr (rg_b B) (I 3) 0) r n9 (j + 1) := by
            rw [rg_loop, if_pos c3]
          rw [e1] at K1 K0
          refine g_lv (lv' := [(6, .int (iI (j + 1))), (5, .int (iI (B (A 2 6).toNat (A 2 0).toNat))), (4, .int (iI (A 2 6))), (3, .int (iI (A 2 0))), (0, .ref (q 99)), (1, .int (iI 7)), (2, .int (iI tog))]) [0, 2, 3, 4, 5, 6, 7] rfl ?_
          exact ih (j + 1) R (by omega) (by omega) hsR hpre K1 K0
set_option maxRecDepth 100000 in
set_option maxHeartbeats 4000000 in
theorem c_X3_closesFrom_7 (l : Launch) (D : va_G) (Y : Nat → ClassId) {E : (Nat → Prop) → State → Heap → Prop} (hE : g_Stab E) (q : Nat → Nat) (I : Nat → Int) (A : Nat → Nat → Int) (B : Nat → Nat → Int) (tog : Int) (r : List Int) (hsI : smI I) (hsA : smA A) (hsB : okB B) (hn : 2 ≤ I 3 ∧ I 3 ≤ 8) (hr : rg_at (A 2) r) (hL : r.length = 7) (hin : ∀ x ∈ r, 0 ≤ x ∧ x < I 3) (hnd : r.Nodup) (htog : tog = rg_es B r) (hok : rg_ok B r = true) : g_Ct l yX3_closesFrom cX3_closesFrom 8 (some FieldType.boolean) ({ frames := 2, cells := 0, slots := 0, locals := 50 } : Room) D (tysY Y) E [.ref (q 99), .int (iI 7), .int (iI tog)] (wPlan q Y I A B) 0 0 (fun r9 w9 => ∃ R : Nat → Int, smR R ∧ ((r9 = some (.int (iI 1)) ∧ ∃ r2 : List Int, rg_fr (rg_b B) (I 3) 1 r = some r2 ∧ rg_at R r2 ∧ r2.length ≤ 8 ∧ w9 = wPlan q Y (sU I 4 (r2.length : Int)) (sU A 2 R) B) ∨ (r9 = some (.int (iI 0)) ∧ rg_fr (rg_b B) (I 3) 1 r = none ∧ (∀ k, k < 7 → R k = A 2 k) ∧ w9 = wPlan q Y I (sU A 2 R) B))) := by
  refine g_ofG (own := RX3) hE (by decide) rfl (Nat.le_of_ble_eq_true rfl) [(0, .ref (q 99)), (1, .int (iI 7)), (2, .int (iI tog))] rfl ?_
  intro p9 e9 s9 m9 b9 t9 c9 A9 C hr9 hlk hnm
  have hI := hsI
  have hA := hsA
  have hB := hsB
  unfold smI at hI
  unfold smA at hA
  unfold okB at hB
  have hF := rg_at_f hr (by omega)
  have hLs := rg_at_l hr (by omega)
  rw [hL] at hLs
  have hLs : A 2 6 = rg_l r := hLs
  have hFr := hin _ (rg_f_mem (by omega))
  have hLr := hin _ (rg_l_mem (by omega))
  rw [← hF] at hFr
  rw [← hLs] at hLr
  have hes := rg_es_r hsB hok
  rw [hL] at hes
  refine g_aload_n C (n' := 1) 0 rfl dX3_closesFrom_0 rfl rfl ?_
  refine g_get C (n' := 4) (Cn := RX3) (T := TX3) (N := 7) (ci := 2) (v := .ref (q 2)) ga_X3 0 rfl rfl 2 (by decide) kw_141 rfl rfl dX3_closesFrom_1 rfl ?_
  refine g_iconst C (n' := 5) dX3_closesFrom_4 rfl ?_
  refine g_ialdN C (n' := 6) (f := (A 2)) (j := 0) 3 0 rfl rfl (by omega) (by decide) rfl dX3_closesFrom_5 rfl ?_
  have h_5 := hA 2 0
  refine g_istore_n C (n' := 7) [(3, .int (iI ((A 2) 0))), (0, .ref (q 99)), (1, .int (iI 7)), (2, .int (iI tog))] dX3_closesFrom_6 rfl rfl (by decide) rfl ?_
  refine g_aload_n C (n' := 8) 1 rfl dX3_closesFrom_7 rfl rfl ?_
  refine g_get C (n' := 11) (Cn := RX3) (T := TX3) (N := 7) (ci := 2) (v := .ref (q 2)) ga_X3 0 rfl rfl 2 (by decide) kw_141 rfl rfl dX3_closesFrom_8 rfl ?_
  refine g_iload_n C (n' := 12) 2 rfl dX3_closesFrom_11 rfl rfl ?_
  refine g_iconst C (n' := 13) dX3_closesFrom_12 rfl ?_
  refine g_isub C (n' := 14) dX3_closesFrom_13 rfl ?_
  refine g_st (st' := [.int (iI 6), .ref (q 2)]) rfl ?_
  refine g_ialdN C (n' := 15) (f := (A 2)) (j := 6) 3 0 rfl rfl (by omega) (by decide) rfl dX3_closesFrom_14 rfl ?_
  have h_14 := hA 2 6
  refine g_istore C (n' := 17) [(4, .int (iI ((A 2) 6))), (3, .int (iI ((A 2) 0))), (0, .ref (q 99)), (1, .int (iI 7)), (2, .int (iI tog))] dX3_closesFrom_15 rfl (by decide) rfl ?_
  refine g_aload_n C (n' := 18) 2 rfl dX3_closesFrom_17 rfl rfl ?_
  refine g_get C (n' := 21) (Cn := RX3) (T := TX3) (N := 7) (ci := 2) (v := .ref (q 0)) ga_X3 0 rfl rfl 0 (by decide) kw_139 rfl rfl dX3_closesFrom_18 rfl ?_
  refine g_iload C (n' := 23) 0 rfl dX3_closesFrom_21 rfl ?_
  refine g_aalA C (n' := 24) (v := q (20 + ((A 2) 6).toNat)) 1 7 rfl rfl (by omega) (by omega) (by decide) (if_pos (by omega)) dX3_closesFrom_23 rfl ?_
  refine g_iload_n C (n' := 25) 1 rfl dX3_closesFrom_24 rfl rfl ?_
  refine g_iald C (n' := 26) (4 + ((A 2) 6).toNat) 0 (pl_row (by omega)) rfl (by omega) (by omega) (by decide) rfl dX3_closesFrom_25 rfl ?_
  have hb_25 := hB (((A 2) 6).toNat) (((A 2) 0).toNat)
  refine g_istore C (n' := 28) [(5, .int (iI (B (((A 2) 6).toNat) (((A 2) 0).toNat)))), (4, .int (iI ((A 2) 6))), (3, .int (iI ((A 2) 0))), (0, .ref (q 99)), (1, .int (iI 7)), (2, .int (iI tog))] dX3_closesFrom_26 rfl (by decide) rfl ?_
  refine g_iload C (n' := 30) 0 rfl dX3_closesFrom_28 rfl ?_
  refine g_ldc C (n' := 32) 1000000000 (by decide) kw_455 dX3_closesFrom_30 rfl ?_
  refine g_icmp_eq C (n' := 35) 49 dX3_closesFrom_32 (by decide) rfl (by unfold inR; omega) (by unfold inR; omega) (fun c1 => ?_) (fun c1 => ?_)
  · skip
    refine g_iload_n C (n' := 50) 4 rfl dX3_closesFrom_49 rfl rfl ?_
    refine g_aload_n C (n' := 51) 3 rfl dX3_closesFrom_50 rfl rfl ?_
    refine g_get C (n' := 54) (Cn := RX3) (T := TX3) (N := 7) (ci := 2) (v := .int (iI (I 3))) ga_X3 0 rfl rfl 3 (by decide) kw_142 rfl rfl dX3_closesFrom_51 rfl ?_
    have h_51 := hI 3
    refine g_icmp_lt C (n' := 57) 59 dX3_closesFrom_54 (by decide) rfl (by unfold inR; omega) (by unfold inR; omega) (fun c2 => ?_) (fun c2 => ?_)
    · skip
      refine g_iload_n C (n' := 60) 2 rfl dX3_closesFrom_59 rfl rfl ?_
      refine g_iconst C (n' := 61) dX3_closesFrom_60 rfl ?_
      refine g_iadd C (n' := 62) dX3_closesFrom_61 rfl ?_
      refine g_istore C (n' := 64) [(6, .int (iI (((A 2) 0) + 1))), (5, .int (iI (B (((A 2) 6).toNat) (((A 2) 0).toNat)))), (4, .int (iI ((A 2) 6))), (3, .int (iI ((A 2) 0))), (0, .ref (q 99)), (1, .int (iI 7)), (2, .int (iI tog))] dX3_closesFrom_62 rfl (by decide) rfl ?_
      have hb : ¬ rg_b B r = true := fun z => by
        have z2 := (rg_b_of hok (x := (B (A 2 6).toNat (A 2 0).toNat)) (by rw [← hF, ← hLs])).mp z
        omega
      refine g_wd (w' := (wPlan q Y I (sU A 2 (A 2)) B)) (by rw [sU_id]) ?_
      refine g_lv (lv' := [(6, .int (iI (((A 2) 0) + 1))), (5, .int (iI (B (A 2 6).toNat (A 2 0).toNat))), (4, .int (iI (A 2 6))), (3, .int (iI (A 2 0))), (0, .ref (q 99)), (1, .int (iI 7)), (2, .int (iI tog))]) [0, 1, 2, 3, 4, 5, 6] rfl ?_
      refine lp_X3_cl_7 C q I A B tog r hsI hsA hsB hn hr hL hin hnd htog hok (I 3 - (A 2 0 + 1)).toNat (A 2 0 + 1) (A 2) (by omega) (by omega) (hsA 2) (fun _ _ => rfl) (fun R r2 hfr hsR hat hle => ?_) (fun R hfr hsR hpre => ?_)
      · skip
        refine g_iconst C (n' := 128) dX3_closesFrom_127 rfl ?_
        exact g_iret C hr9 hlk (nar_z (by omega)) ⟨R, hsR, Or.inl ⟨rfl, r2, by rw [rg_miss hb, ← hF]; exact hfr, hat, hle, rfl⟩⟩ dX3_closesFrom_128
      · skip
        refine g_iconst C (n' := 136) dX3_closesFrom_135 rfl ?_
        exact g_iret C hr9 hlk (nar_z (by omega)) ⟨R, hsR, Or.inr ⟨rfl, by rw [rg_miss hb, ← hF]; exact hfr, hpre, rfl⟩⟩ dX3_closesFrom_136
    · skip
      refine g_iconst C (n' := 58) dX3_closesFrom_57 rfl ?_
      have hb : ¬ rg_b B r = true := fun z => by
        have z2 := (rg_b_of hok (x := (B (A 2 6).toNat (A 2 0).toNat)) (by rw [← hF, ← hLs])).mp z
        omega
      exact g_iret C hr9 hlk (nar_z (by omega)) ⟨A 2, hsA 2, Or.inr ⟨rfl, by rw [rg_miss hb, ← hF]; exact rg_loop_full (n := I 3) (fun j h0 h1 => rg_full hnd hin (by omega) ⟨h0, h1⟩) _ _ (by omega) (by omega), fun _ _ => rfl, by rw [sU_id]⟩⟩ dX3_closesFrom_58
  · skip
    refine g_iload_n C (n' := 36) 5 rfl dX3_closesFrom_35 rfl rfl ?_
    refine g_iload C (n' := 38) 0 rfl dX3_closesFrom_36 rfl ?_
    refine g_iadd C (n' := 39) dX3_closesFrom_38 rfl ?_
    refine g_if_ge C (n' := 42) 49 dX3_closesFrom_39 (by decide) rfl (by unfold inR; omega) (fun c3 => ?_) (fun c3 => ?_)
    · skip
      refine g_iload_n C (n' := 50) 4 rfl dX3_closesFrom_49 rfl rfl ?_
      refine g_aload_n C (n' := 51) 3 rfl dX3_closesFrom_50 rfl rfl ?_
      refine g_get C (n' := 54) (Cn := RX3) (T := TX3) (N := 7) (ci := 2) (v := .int (iI (I 3))) ga_X3 0 rfl rfl 3 (by decide) kw_142 rfl rfl dX3_closesFrom_51 rfl ?_
      have h_51 := hI 3
      refine g_icmp_lt C (n' := 57) 59 dX3_closesFrom_54 (by decide) rfl (by unfold inR; omega) (by unfold inR; omega) (fun c4 => ?_) (fun c4 => ?_)
      · skip
        refine g_iload_n C (n' := 60) 2 rfl dX3_closesFrom_59 rfl rfl ?_
        refine g_iconst C (n' := 61) dX3_closesFrom_60 rfl ?_
        refine g_iadd C (n' := 62) dX3_closesFrom_61 rfl ?_
        refine g_istore C (n' := 64) [(6, .int (iI (((A 2) 0) + 1))), (5, .int (iI (B (((A 2) 6).toNat) (((A 2) 0).toNat)))), (4, .int (iI ((A 2) 6))), (3, .int (iI ((A 2) 0))), (0, .ref (q 99)), (1, .int (iI 7)), (2, .int (iI tog))] dX3_closesFrom_62 rfl (by decide) rfl ?_
        have hb : ¬ rg_b B r = true := fun z => by
          have z2 := (rg_b_of hok (x := (B (A 2 6).toNat (A 2 0).toNat)) (by rw [← hF, ← hLs])).mp z
          omega
        refine g_wd (w' := (wPlan q Y I (sU A 2 (A 2)) B)) (by rw [sU_id]) ?_
        refine g_lv (lv' := [(6, .int (iI (((A 2) 0) + 1))), (5, .int (iI (B (A 2 6).toNat (A 2 0).toNat))), (4, .int (iI (A 2 6))), (3, .int (iI (A 2 0))), (0, .ref (q 99)), (1, .int (iI 7)), (2, .int (iI tog))]) [0, 1, 2, 3, 4, 5, 6] rfl ?_
        refine lp_X3_cl_7 C q I A B tog r hsI hsA hsB hn hr hL hin hnd htog hok (I 3 - (A 2 0 + 1)).toNat (A 2 0 + 1) (A 2) (by omega) (by omega) (hsA 2) (fun _ _ => rfl) (fun R r2 hfr hsR hat hle => ?_) (fun R hfr hsR hpre => ?_)
        · skip
          refine g_iconst C (n' := 128) dX3_closesFrom_127 rfl ?_
          exact g_iret C hr9 hlk (nar_z (by omega)) ⟨R, hsR, Or.inl ⟨rfl, r2, by rw [rg_miss hb, ← hF]; exact hfr, hat, hle, rfl⟩⟩ dX3_closesFrom_128
        · skip
          refine g_iconst C (n' := 136) dX3_closesFrom_135 rfl ?_
          exact g_iret C hr9 hlk (nar_z (by omega)) ⟨R, hsR, Or.inr ⟨rfl, by rw [rg_miss hb, ← hF]; exact hfr, hpre, rfl⟩⟩ dX3_closesFrom_136
      · skip
        refine g_iconst C (n' := 58) dX3_closesFrom_57 rfl ?_
        have hb : ¬ rg_b B r = true := fun z => by
          have z2 := (rg_b_of hok (x := (B (A 2 6).toNat (A 2 0).toNat)) (by rw [← hF, ← hLs])).mp z
          omega
        exact g_iret C hr9 hlk (nar_z (by omega)) ⟨A 2, hsA 2, Or.inr ⟨rfl, by rw [rg_miss hb, ← hF]; exact rg_loop_full (n := I 3) (fun j h0 h1 => rg_full hnd hin (by omega) ⟨h0, h1⟩) _ _ (by omega) (by omega), fun _ _ => rfl, by rw [sU_id]⟩⟩ dX3_closesFrom_58
    · skip
      refine g_aload_n C (n' := 43) 3 rfl dX3_closesFrom_42 rfl rfl ?_
      refine g_iload_n C (n' := 44) 4 rfl dX3_closesFrom_43 rfl rfl ?_
      refine g_put C (n' := 47) (Cn := RX3) (T := TX3) (N := 7) (ci := 2) (v := .int (iI 7)) ga_X3 0 rfl rfl 4 (by decide) kw_143 rfl tyX3 tyX3_ok nmX3 rfl rfl rfl rfl (Nat.le_of_ble_eq_true rfl) (wPlan q Y (sU I 4 7) A B) rfl dX3_closesFrom_44 rfl ?_
      refine g_iconst C (n' := 48) dX3_closesFrom_47 rfl ?_
      have hb : rg_b B r = true := (rg_b_of hok (x := (B (A 2 6).toNat (A 2 0).toNat)) (by rw [← hF, ← hLs])).mpr ⟨by omega, by omega⟩
      exact g_iret C hr9 hlk (nar_z (by omega)) ⟨A 2, hsA 2, Or.inl ⟨rfl, r, rg_hit hb _, hr, by omega, by rw [sU_id, hL]; rfl⟩⟩ dX3_closesFrom_48
set_option maxRecDepth 100000 in
set_option maxHeartbeats 4000000 in
theorem lp_X3_cl_6 {p9 : Program} {l : Launch} {e9 : Env} {s9 : State} {m9 : MethodId} {a9 : Array Value} {b9 : List Frame} {t9 : Method} {c9 : Code} {D : va_G} {A9 : Nat → Prop} {Q9 : State → Prop} {E : (Nat → Prop) → State → Heap → Prop} {Y : Nat → ClassId} (C : g_Cx p9 s9 m9 a9 c9 cX3_closesFrom 8 RX3 D (tysY Y) A9 E) (q : Nat → Nat) (I : Nat → Int) (A B : Nat → Nat → Int) (tog : Int) (r : List Int) (hsI : smI I) (hsA : smA A) (hsB : okB B) (hn : 2 ≤ I 3 ∧ I 3 ≤ 8) (hr : rg_at (A 2) r) (hL : r.length = 6) (hin : ∀ x ∈ r, 0 ≤ x ∧ x < I 3) (hnd : r.Nodup) (htog : tog = rg_es B r) (hok : rg_ok B r = true) : ∀ (n9 : Nat) (j : Int) (R : Nat → Int), A 2 0 < j → j + n9 = I 3 → smR R → (∀ k, k < 6 → R k = A 2 k) → (∀ (R : Nat → Int) (r2 : List Int), rg_loop (rg_fr (rg_b B) (I 3) 1) r n9 j = some r2 → smR R → rg_at R r2 → r2.length ≤ 8 → g_G p9 l e9 ({ frames := 3, cells := 0, slots := 0, locals := 77 } : Room) s9 m9 a9 b9 t9 c9 8 D A9 Q9 0 0 (wPlan q Y (sU I 4 (r2.length : Int)) (sU A 2 R) B) [(0, .ref (q 99))] 127 []) → (∀ R : Nat → Int, rg_loop (rg_fr (rg_b B) (I 3) 1) r n9 j = none → smR R → (∀ k, k < 6 → R k = A 2 k) → g_G p9 l e9 ({ frames := 3, cells := 0, slots := 0, locals := 77 } : Room) s9 m9 a9 b9 t9 c9 8 D A9 Q9 0 0 (wPlan q Y I (sU A 2 R) B) [(0, .ref (q 99))] 135 []) → g_G p9 l e9 ({ frames := 3, cells := 0, slots := 0, locals := 77 } : Room) s9 m9 a9 b9 t9 c9 8 D A9 Q9 0 0 (wPlan q Y I (sU A 2 R) B) [(6, .int (iI j)), (5, .int (iI (B (A 2 5).toNat (A 2 0).toNat))), (4, .int (iI (A 2 5))), (3, .int (iI (A 2 0))), (0, .ref (q 99)), (1, .int (iI 6)), (2, .int (iI tog))] 64 [] := by
  have hE := C.2.2.2.2.2.2.2.2.1
  intro n9
  induction n9 with
  | zero =>
    intro j R hj hjn hsR hpre K1 K0
    have hI := hsI
    have hA := hsA
    have hB := hsB
    unfold smI at hI
    unfold smA at hA
    unfold okB at hB
    have hF := rg_at_f hr (by omega)
    have hLs := rg_at_l hr (by omega)
    rw [hL] at hLs
    have hLs : A 2 5 = rg_l r := hLs
    have hFr := hin _ (rg_f_mem (by omega))
    have hLr := hin _ (rg_l_mem (by omega))
    rw [← hF] at hFr
    rw [← hLs] at hLr
    have hes := rg_es_r hsB hok
    rw [hL] at hes
    have hRA : smA (sU A 2 R) := sm_putA hsA hsR
    have hR9 := hsR
    unfold smR at hR9
    refine g_iload C (n' := 66) 0 rfl dX3_closesFrom_64 rfl ?_
    refine g_aload_n C (n' := 67) 4 rfl dX3_closesFrom_66 rfl rfl ?_
    refine g_get C (n' := 70) (Cn := RX3) (T := TX3) (N := 7) (ci := 2) (v := .int (iI (I 3))) ga_X3 0 rfl rfl 3 (by decide) kw_142 rfl rfl dX3_closesFrom_67 rfl ?_
    have h_67 := hI 3
    refine g_icmp_ge C (n' := 73) 135 dX3_closesFrom_70 (by decide) rfl (by unfold inR; omega) (by unfold inR; omega) (fun c1 => ?_) (fun c1 => ?_)
    · skip
      refine g_lv [4] rfl ?_
      exact K0 R rfl hsR hpre
    · skip
      exfalso
      omega
  | succ n9 ih =>
    intro j R hj hjn hsR hpre K1 K0
    have hI := hsI
    have hA := hsA
    have hB := hsB
    unfold smI at hI
    unfold smA at hA
    unfold okB at hB
    have hF := rg_at_f hr (by omega)
    have hLs := rg_at_l hr (by omega)
    rw [hL] at hLs
    have hLs : A 2 5 = rg_l r := hLs
    have hFr := hin _ (rg_f_mem (by omega))
    have hLr := hin _ (rg_l_mem (by omega))
    rw [← hF] at hFr
    rw [← hLs] at hLr
    have hes := rg_es_r hsB hok
    rw [hL] at hes
    have hRA : smA (sU A 2 R) := sm_putA hsA hsR
    have hR9 := hsR
    unfold smR at hR9
    refine g_iload C (n' := 66) 0 rfl dX3_closesFrom_64 rfl ?_
    refine g_aload_n C (n' := 67) 4 rfl dX3_closesFrom_66 rfl rfl ?_
    refine g_get C (n' := 70) (Cn := RX3) (T := TX3) (N := 7) (ci := 2) (v := .int (iI (I 3))) ga_X3 0 rfl rfl 3 (by decide) kw_142 rfl rfl dX3_closesFrom_67 rfl ?_
    have h_67 := hI 3
    refine g_icmp_ge C (n' := 73) 135 dX3_closesFrom_70 (by decide) rfl (by unfold inR; omega) (by unfold inR; omega) (fun c1 => ?_) (fun c1 => ?_)
    · skip
      exfalso
      omega
    · skip
      refine g_aload_n C (n' := 74) 4 rfl dX3_closesFrom_73 rfl rfl ?_
      refine g_get C (n' := 77) (Cn := RX3) (T := TX3) (N := 7) (ci := 2) (v := .ref (q 0)) ga_X3 0 rfl rfl 0 (by decide) kw_139 rfl rfl dX3_closesFrom_74 rfl ?_
      refine g_iload C (n' := 79) 2 rfl dX3_closesFrom_77 rfl ?_
      refine g_aalA C (n' := 80) (v := q (20 + (A 2 5).toNat)) 1 7 rfl rfl (by omega) (by omega) (by decide) (if_pos (by omega)) dX3_closesFrom_79 rfl ?_
      refine g_iload C (n' := 82) 0 rfl dX3_closesFrom_80 rfl ?_
      refine g_iald C (n' := 83) (4 + (A 2 5).toNat) 0 (pl_row (by omega)) rfl (by omega) (by omega) (by decide) rfl dX3_closesFrom_82 rfl ?_
      have hb_82 := hB ((A 2 5).toNat) j.toNat
      refine g_istore C (n' := 85) [(7, .int (iI (B ((A 2 5).toNat) j.toNat))), (6, .int (iI j)), (5, .int (iI (B (A 2 5).toNat (A 2 0).toNat))), (4, .int (iI (A 2 5))), (3, .int (iI (A 2 0))), (0, .ref (q 99)), (1, .int (iI 6)), (2, .int (iI tog))] dX3_closesFrom_83 rfl (by decide) rfl ?_
      refine g_iload C (n' := 87) 0 rfl dX3_closesFrom_85 rfl ?_
      refine g_ldc C (n' := 89) 1000000000 (by decide) kw_455 dX3_closesFrom_87 rfl ?_
      refine g_icmp_eq C (n' := 92) 129 dX3_closesFrom_89 (by decide) rfl (by unfold inR; omega) (by unfold inR; omega) (fun c2 => ?_) (fun c2 => ?_)
      · skip
        refine g_iinc C (n' := 132) 1 [(6, .int (iI (j + 1))), (7, .int (iI (B ((A 2 5).toNat) j.toNat))), (5, .int (iI (B (A 2 5).toNat (A 2 0).toNat))), (4, .int (iI (A 2 5))), (3, .int (iI (A 2 0))), (0, .ref (q 99)), (1, .int (iI 6)), (2, .int (iI tog))] rfl dX3_closesFrom_129 rfl (by decide) rfl ?_
        refine g_goto C 64 dX3_closesFrom_132 (by decide) ?_
        have e1 : rg_loop (rg_fr (rg_b B) (I 3) 1) r (n9 + 1) j = rg_loop (rg_fr (rg_b B) (I 3) 1) r n9 (j + 1) := by
          have ho : rg_ok B (r ++ [j]) = false := by rw [rg_ok_app B j (fun q => by rw [q] at hL; cases hL), ← hLs, c2]; simp
          rw [rg_loop, rg_fr_none _ (r ++ [j]) (by simp) ho]
          split <;> rfl
        rw [e1] at K1 K0
        refine g_lv (lv' := [(6, .int (iI (j + 1))), (5, .int (iI (B (A 2 5).toNat (A 2 0).toNat))), (4, .int (iI (A 2 5))), (3, .int (iI (A 2 0))), (0, .ref (q 99)), (1, .int (iI 6)), (2, .int (iI tog))]) [0, 2, 3, 4, 5, 6, 7] rfl ?_
        exact ih (j + 1) R (by omega) (by omega) hsR hpre K1 K0
      · skip
        refine g_aload_n C (n' := 93) 5 rfl dX3_closesFrom_92 rfl rfl ?_
        refine g_iload C (n' := 95) 1 rfl dX3_closesFrom_93 rfl ?_
        refine g_iload_n C (n' := 96) 6 rfl dX3_closesFrom_95 rfl rfl ?_
        refine g_cVv C (n' := 99) (v := .int (iI (if j ∈ r then 1 else 0))) (c_X3_isInRing l D Y C.2.2.2.2.2.2.2.2.1 q I (sU A 2 R) B j 6 r hsI hRA hsB (by unfold inR; omega) (rg_at_pre hr (fun k hk => hpre k (by omega))) (by omega) (by omega)) 2 kw_537 kc_X3_isInRing (by decide +kernel) (pm0 _) 0 (ci := 2) rfl rfl rfl rfl ⟨Nat.le_of_ble_eq_true rfl, Nat.le_of_ble_eq_true rfl⟩ ⟨rfl, rfl⟩ ⟨Nat.le_of_ble_eq_true rfl, Nat.le_of_ble_eq_true rfl⟩ (Nat.le_of_ble_eq_true rfl) dX3_closesFrom_96 rfl rfl (wPlan q Y I (sU A 2 R) B) (pm0' _) ?_
        refine g_if_eq C (n' := 102) 105 dX3_closesFrom_99 (by decide) rfl bz_r (fun c3 => ?_) (fun c3 => ?_)
        · skip
          replace c3 := bz_eq.mp c3
          refine g_aload_n C (n' := 106) 5 rfl dX3_closesFrom_105 rfl rfl ?_
          refine g_get C (n' := 109) (Cn := RX3) (T := TX3) (N := 7) (ci := 2) (v := .ref (q 2)) ga_X3 0 rfl rfl 2 (by decide) kw_141 rfl rfl dX3_closesFrom_106 rfl ?_
          refine g_iload_n C (n' := 110) 6 rfl dX3_closesFrom_109 rfl rfl ?_
          refine g_iload C (n' := 112) 1 rfl dX3_closesFrom_110 rfl ?_
          refine g_iastN C (n' := 113) (f := R) (j := 6) 3 0 rfl rfl (by omega) (by decide) rfl dX3_closesFrom_112 rfl (wPlan q Y I (sU A 2 (sU R 6 j)) B) rfl ?_
          refine g_aload_n C (n' := 114) 5 rfl dX3_closesFrom_113 rfl rfl ?_
          refine g_iload_n C (n' := 115) 6 rfl dX3_closesFrom_114 rfl rfl ?_
          refine g_iconst C (n' := 116) dX3_closesFrom_115 rfl ?_
          refine g_iadd C (n' := 117) dX3_closesFrom_116 rfl ?_
          refine g_st (st' := [.int (iI 7), .ref (q 99)]) rfl ?_
          refine g_iload_n C (n' := 118) 7 rfl dX3_closesFrom_117 rfl rfl ?_
          refine g_iload C (n' := 120) 0 rfl dX3_closesFrom_118 rfl ?_
          refine g_iadd C (n' := 121) dX3_closesFrom_120 rfl ?_
          refine g_callV C (n' := 124) (c_X3_closesFrom_7 l D Y C.2.2.2.2.2.2.2.2.1 q I (sU A 2 (sU R 6 j)) B (tog + (B ((A 2 5).toNat) j.toNat)) (r ++ [j]) hsI (sm_putA hsA (sm_putR hsR (by omega))) hsB hn (by have := rg_at_app (rg_at_pre hr (fun k hk => hpre k (by omega))) j; rw [hL] at this; exact this) (by rw [List.length_append, hL]; rfl) (ring_in hin (by omega) (by omega)) (ring_nd hnd c3) (by rw [rg_es_app B j (fun q => by rw [q] at hL; cases hL), ← hLs, htog]) (by rw [rg_ok_app B j (fun q => by rw [q] at hL; cases hL), ← hLs, hok]; simpa using c2)) 2 kw_533 kc_X3_closesFrom (by decide +kernel) (pm0 _) 0 (ci := 2) rfl rfl rfl rfl ⟨Nat.le_of_ble_eq_true rfl, Nat.le_of_ble_eq_true rfl⟩ ⟨rfl, rfl⟩ ⟨Nat.le_of_ble_eq_true rfl, Nat.le_of_ble_eq_true rfl⟩ (Nat.le_of_ble_eq_true rfl) dX3_closesFrom_121 rfl (fun r9 w9 hp4 => ?_)
          obtain ⟨R5, hsR5, (⟨rfl, r6, q1, q2, q3, rfl⟩ | ⟨rfl, q1, q2, rfl⟩)⟩ := hp4
          · skip
            have hcR5 := And.intro q1 (And.intro q2 q3)
            refine g_perm (w' := (wPlan q Y (sU I 4 (r6.length : Int)) (sU A 2 R5) B)) (pm0' _) ?_
            refine g_st (st' := [.int (iI 1)]) rfl ?_
            refine g_if_eq C (n' := 127) 129 dX3_closesFrom_124 (by decide) rfl (by unfold inR; omega) (fun c7 => ?_) (fun c7 => ?_)
            · skip
              exfalso
              omega
            · skip
              refine g_lv [5] rfl ?_
              exact K1 R5 r6 (by rw [rg_loop, if_neg c3, hcR5.1]) hsR5 hcR5.2.1 hcR5.2.2
          · skip
            have hcR5 := And.intro q1 q2
            refine g_perm (w' := (wPlan q Y I (sU A 2 R5) B)) (pm0' _) ?_
            refine g_st (st' := [.int (iI 0)]) rfl ?_
            refine g_if_eq C (n' := 127) 129 dX3_closesFrom_124 (by decide) rfl (by unfold inR; omega) (fun c8 => ?_) (fun c8 => ?_)
            · skip
              refine g_iinc C (n' := 132) 1 [(6, .int (iI (j + 1))), (7, .int (iI (B ((A 2 5).toNat) j.toNat))), (5, .int (iI (B (A 2 5).toNat (A 2 0).toNat))), (4, .int (iI (A 2 5))), (3, .int (iI (A 2 0))), (0, .ref (q 99)), (1, .int (iI 6)), (2, .int (iI tog))] rfl dX3_closesFrom_129 rfl (by decide) rfl ?_
              refine g_goto C 64 dX3_closesFrom_132 (by decide) ?_
              have e1 : rg_loop (rg_fr (rg_b B) (I 3) 1) r (n9 + 1) j = rg_loop (rg_fr (rg_b B) (I 3) 1) r n9 (j + 1) := by
                rw [rg_loop, if_neg c3, hcR5.1]
              rw [e1] at K1 K0
              refine g_lv (lv' := [(6, .int (iI (j + 1))), (5, .int (iI (B (A 2 5).toNat (A 2 0).toNat))), (4, .int (iI (A 2 5))), (3, .int (iI (A 2 0))), (0, .ref (q 99)), (1, .int (iI 6)), (2, .int (iI tog))]) [0, 2, 3, 4, 5, 6, 7] rfl ?_
              exact ih (j + 1) R5 (by omega) (by omega) hsR5 (fun k hk => (hcR5.2 k (by omega)).trans ((show sU R 6 j k = R k from sU_n _ _ (by omega)).trans (hpre k hk))) K1 K0
            · skip
              exfalso
              omega
        · skip
          replace c3 := bz_neq.mp c3
          refine g_goto C 129 dX3_closesFrom_102 (by decide) ?_
          refine g_iinc C (n' := 132) 1 [(6, .int (iI (j + 1))), (7, .int (iI (B ((A 2 5).toNat) j.toNat))), (5, .int (iI (B (A 2 5).toNat (A 2 0).toNat))), (4, .int (iI (A 2 5))), (3, .int (iI (A 2 0))), (0, .ref (q 99)), (1, .int (iI 6)), (2, .int (iI tog))] rfl dX3_closesFrom_129 rfl (by decide) rfl ?_
          refine g_goto C 64 dX3_closesFrom_132 (by decide) ?_
          have e1 : rg_loop (rg_fr (rg_b B) (I 3) 1) r (n9 + 1) j = rg_loop (rg_fr (rg_b B) (I 3) 1) r n9 (j + 1) := by
            rw [rg_loop, if_pos c3]
          rw [e1] at K1 K0
          refine g_lv (lv' := [(6, .int (iI (j + 1))), (5, .int (iI (B (A 2 5).toNat (A 2 0).toNat))), (4, .int (iI (A 2 5))), (3, .int (iI (A 2 0))), (0, .ref (q 99)), (1, .int (iI 6)), (2, .int (iI tog))]) [0, 2, 3, 4, 5, 6, 7] rfl ?_
          exact ih (j + 1) R (by omega) (by omega) hsR hpre K1 K0
set_option maxRecDepth 100000 in
set_option maxHeartbeats 4000000 in
theorem c_X3_closesFrom_6 (l : Launch) (D : va_G) (Y : Nat → ClassId) {E : (Nat → Prop) → State → Heap → Prop} (hE : g_Stab E) (q : Nat → Nat) (I : Nat → Int) (A : Nat → Nat → Int) (B : Nat → Nat → Int) (tog : Int) (r : List Int) (hsI : smI I) (hsA : smA A) (hsB : okB B) (hn : 2 ≤ I 3 ∧ I 3 ≤ 8) (hr : rg_at (A 2) r) (hL : r.length = 6) (hin : ∀ x ∈ r, 0 ≤ x ∧ x < I 3) (hnd : r.Nodup) (htog : tog = rg_es B r) (hok : rg_ok B r = true) : g_Ct l yX3_closesFrom cX3_closesFrom 8 (some FieldType.boolean) ({ frames := 3, cells := 0, slots := 0, locals := 77 } : Room) D (tysY Y) E [.ref (q 99), .int (iI 6), .int (iI tog)] (wPlan q Y I A B) 0 0 (fun r9 w9 => ∃ R : Nat → Int, smR R ∧ ((r9 = some (.int (iI 1)) ∧ ∃ r2 : List Int, rg_fr (rg_b B) (I 3) 2 r = some r2 ∧ rg_at R r2 ∧ r2.length ≤ 8 ∧ w9 = wPlan q Y (sU I 4 (r2.length : Int)) (sU A 2 R) B) ∨ (r9 = some (.int (iI 0)) ∧ rg_fr (rg_b B) (I 3) 2 r = none ∧ (∀ k, k < 6 → R k = A 2 k) ∧ w9 = wPlan q Y I (sU A 2 R) B))) := by
  refine g_ofG (own := RX3) hE (by decide) rfl (Nat.le_of_ble_eq_true rfl) [(0, .ref (q 99)), (1, .int (iI 6)), (2, .int (iI tog))] rfl ?_
  intro p9 e9 s9 m9 b9 t9 c9 A9 C hr9 hlk hnm
  have hI := hsI
  have hA := hsA
  have hB := hsB
  unfold smI at hI
  unfold smA at hA
  unfold okB at hB
  have hF := rg_at_f hr (by omega)
  have hLs := rg_at_l hr (by omega)
  rw [hL] at hLs
  have hLs : A 2 5 = rg_l r := hLs
  have hFr := hin _ (rg_f_mem (by omega))
  have hLr := hin _ (rg_l_mem (by omega))
  rw [← hF] at hFr
  rw [← hLs] at hLr
  have hes := rg_es_r hsB hok
  rw [hL] at hes
  refine g_aload_n C (n' := 1) 0 rfl dX3_closesFrom_0 rfl rfl ?_
  refine g_get C (n' := 4) (Cn := RX3) (T := TX3) (N := 7) (ci := 2) (v := .ref (q 2)) ga_X3 0 rfl rfl 2 (by decide) kw_141 rfl rfl dX3_closesFrom_1 rfl ?_
  refine g_iconst C (n' := 5) dX3_closesFrom_4 rfl ?_
  refine g_ialdN C (n' := 6) (f := (A 2)) (j := 0) 3 0 rfl rfl (by omega) (by decide) rfl dX3_closesFrom_5 rfl ?_
  have h_5 := hA 2 0
  refine g_istore_n C (n' := 7) [(3, .int (iI ((A 2) 0))), (0, .ref (q 99)), (1, .int (iI 6)), (2, .int (iI tog))] dX3_closesFrom_6 rfl rfl (by decide) rfl ?_
  refine g_aload_n C (n' := 8) 1 rfl dX3_closesFrom_7 rfl rfl ?_
  refine g_get C (n' := 11) (Cn := RX3) (T := TX3) (N := 7) (ci := 2) (v := .ref (q 2)) ga_X3 0 rfl rfl 2 (by decide) kw_141 rfl rfl dX3_closesFrom_8 rfl ?_
  refine g_iload_n C (n' := 12) 2 rfl dX3_closesFrom_11 rfl rfl ?_
  refine g_iconst C (n' := 13) dX3_closesFrom_12 rfl ?_
  refine g_isub C (n' := 14) dX3_closesFrom_13 rfl ?_
  refine g_st (st' := [.int (iI 5), .ref (q 2)]) rfl ?_
  refine g_ialdN C (n' := 15) (f := (A 2)) (j := 5) 3 0 rfl rfl (by omega) (by decide) rfl dX3_closesFrom_14 rfl ?_
  have h_14 := hA 2 5
  refine g_istore C (n' := 17) [(4, .int (iI ((A 2) 5))), (3, .int (iI ((A 2) 0))), (0, .ref (q 99)), (1, .int (iI 6)), (2, .int (iI tog))] dX3_closesFrom_15 rfl (by decide) rfl ?_
  refine g_aload_n C (n' := 18) 2 rfl dX3_closesFrom_17 rfl rfl ?_
  refine g_get C (n' := 21) (Cn := RX3) (T := TX3) (N := 7) (ci := 2) (v := .ref (q 0)) ga_X3 0 rfl rfl 0 (by decide) kw_139 rfl rfl dX3_closesFrom_18 rfl ?_
  refine g_iload C (n' := 23) 0 rfl dX3_closesFrom_21 rfl ?_
  refine g_aalA C (n' := 24) (v := q (20 + ((A 2) 5).toNat)) 1 7 rfl rfl (by omega) (by omega) (by decide) (if_pos (by omega)) dX3_closesFrom_23 rfl ?_
  refine g_iload_n C (n' := 25) 1 rfl dX3_closesFrom_24 rfl rfl ?_
  refine g_iald C (n' := 26) (4 + ((A 2) 5).toNat) 0 (pl_row (by omega)) rfl (by omega) (by omega) (by decide) rfl dX3_closesFrom_25 rfl ?_
  have hb_25 := hB (((A 2) 5).toNat) (((A 2) 0).toNat)
  refine g_istore C (n' := 28) [(5, .int (iI (B (((A 2) 5).toNat) (((A 2) 0).toNat)))), (4, .int (iI ((A 2) 5))), (3, .int (iI ((A 2) 0))), (0, .ref (q 99)), (1, .int (iI 6)), (2, .int (iI tog))] dX3_closesFrom_26 rfl (by decide) rfl ?_
  refine g_iload C (n' := 30) 0 rfl dX3_closesFrom_28 rfl ?_
  refine g_ldc C (n' := 32) 1000000000 (by decide) kw_455 dX3_closesFrom_30 rfl ?_
  refine g_icmp_eq C (n' := 35) 49 dX3_closesFrom_32 (by decide) rfl (by unfold inR; omega) (by unfold inR; omega) (fun c1 => ?_) (fun c1 => ?_)
  · skip
    refine g_iload_n C (n' := 50) 4 rfl dX3_closesFrom_49 rfl rfl ?_
    refine g_aload_n C (n' := 51) 3 rfl dX3_closesFrom_50 rfl rfl ?_
    refine g_get C (n' := 54) (Cn := RX3) (T := TX3) (N := 7) (ci := 2) (v := .int (iI (I 3))) ga_X3 0 rfl rfl 3 (by decide) kw_142 rfl rfl dX3_closesFrom_51 rfl ?_
    have h_51 := hI 3
    refine g_icmp_lt C (n' := 57) 59 dX3_closesFrom_54 (by decide) rfl (by unfold inR; omega) (by unfold inR; omega) (fun c2 => ?_) (fun c2 => ?_)
    · skip
      refine g_iload_n C (n' := 60) 2 rfl dX3_closesFrom_59 rfl rfl ?_
      refine g_iconst C (n' := 61) dX3_closesFrom_60 rfl ?_
      refine g_iadd C (n' := 62) dX3_closesFrom_61 rfl ?_
      refine g_istore C (n' := 64) [(6, .int (iI (((A 2) 0) + 1))), (5, .int (iI (B (((A 2) 5).toNat) (((A 2) 0).toNat)))), (4, .int (iI ((A 2) 5))), (3, .int (iI ((A 2) 0))), (0, .ref (q 99)), (1, .int (iI 6)), (2, .int (iI tog))] dX3_closesFrom_62 rfl (by decide) rfl ?_
      have hb : ¬ rg_b B r = true := fun z => by
        have z2 := (rg_b_of hok (x := (B (A 2 5).toNat (A 2 0).toNat)) (by rw [← hF, ← hLs])).mp z
        omega
      refine g_wd (w' := (wPlan q Y I (sU A 2 (A 2)) B)) (by rw [sU_id]) ?_
      refine g_lv (lv' := [(6, .int (iI (((A 2) 0) + 1))), (5, .int (iI (B (A 2 5).toNat (A 2 0).toNat))), (4, .int (iI (A 2 5))), (3, .int (iI (A 2 0))), (0, .ref (q 99)), (1, .int (iI 6)), (2, .int (iI tog))]) [0, 1, 2, 3, 4, 5, 6] rfl ?_
      refine lp_X3_cl_6 C q I A B tog r hsI hsA hsB hn hr hL hin hnd htog hok (I 3 - (A 2 0 + 1)).toNat (A 2 0 + 1) (A 2) (by omega) (by omega) (hsA 2) (fun _ _ => rfl) (fun R r2 hfr hsR hat hle => ?_) (fun R hfr hsR hpre => ?_)
      · skip
        refine g_iconst C (n' := 128) dX3_closesFrom_127 rfl ?_
        exact g_iret C hr9 hlk (nar_z (by omega)) ⟨R, hsR, Or.inl ⟨rfl, r2, by rw [rg_miss hb, ← hF]; exact hfr, hat, hle, rfl⟩⟩ dX3_closesFrom_128
      · skip
        refine g_iconst C (n' := 136) dX3_closesFrom_135 rfl ?_
        exact g_iret C hr9 hlk (nar_z (by omega)) ⟨R, hsR, Or.inr ⟨rfl, by rw [rg_miss hb, ← hF]; exact hfr, hpre, rfl⟩⟩ dX3_closesFrom_136
    · skip
      refine g_iconst C (n' := 58) dX3_closesFrom_57 rfl ?_
      have hb : ¬ rg_b B r = true := fun z => by
        have z2 := (rg_b_of hok (x := (B (A 2 5).toNat (A 2 0).toNat)) (by rw [← hF, ← hLs])).mp z
        omega
      exact g_iret C hr9 hlk (nar_z (by omega)) ⟨A 2, hsA 2, Or.inr ⟨rfl, by rw [rg_miss hb, ← hF]; exact rg_loop_full (n := I 3) (fun j h0 h1 => rg_full hnd hin (by omega) ⟨h0, h1⟩) _ _ (by omega) (by omega), fun _ _ => rfl, by rw [sU_id]⟩⟩ dX3_closesFrom_58
  · skip
    refine g_iload_n C (n' := 36) 5 rfl dX3_closesFrom_35 rfl rfl ?_
    refine g_iload C (n' := 38) 0 rfl dX3_closesFrom_36 rfl ?_
    refine g_iadd C (n' := 39) dX3_closesFrom_38 rfl ?_
    refine g_if_ge C (n' := 42) 49 dX3_closesFrom_39 (by decide) rfl (by unfold inR; omega) (fun c3 => ?_) (fun c3 => ?_)
    · skip
      refine g_iload_n C (n' := 50) 4 rfl dX3_closesFrom_49 rfl rfl ?_
      refine g_aload_n C (n' := 51) 3 rfl dX3_closesFrom_50 rfl rfl ?_
      refine g_get C (n' := 54) (Cn := RX3) (T := TX3) (N := 7) (ci := 2) (v := .int (iI (I 3))) ga_X3 0 rfl rfl 3 (by decide) kw_142 rfl rfl dX3_closesFrom_51 rfl ?_
      have h_51 := hI 3
      refine g_icmp_lt C (n' := 57) 59 dX3_closesFrom_54 (by decide) rfl (by unfold inR; omega) (by unfold inR; omega) (fun c4 => ?_) (fun c4 => ?_)
      · skip
        refine g_iload_n C (n' := 60) 2 rfl dX3_closesFrom_59 rfl rfl ?_
        refine g_iconst C (n' := 61) dX3_closesFrom_60 rfl ?_
        refine g_iadd C (n' := 62) dX3_closesFrom_61 rfl ?_
        refine g_istore C (n' := 64) [(6, .int (iI (((A 2) 0) + 1))), (5, .int (iI (B (((A 2) 5).toNat) (((A 2) 0).toNat)))), (4, .int (iI ((A 2) 5))), (3, .int (iI ((A 2) 0))), (0, .ref (q 99)), (1, .int (iI 6)), (2, .int (iI tog))] dX3_closesFrom_62 rfl (by decide) rfl ?_
        have hb : ¬ rg_b B r = true := fun z => by
          have z2 := (rg_b_of hok (x := (B (A 2 5).toNat (A 2 0).toNat)) (by rw [← hF, ← hLs])).mp z
          omega
        refine g_wd (w' := (wPlan q Y I (sU A 2 (A 2)) B)) (by rw [sU_id]) ?_
        refine g_lv (lv' := [(6, .int (iI (((A 2) 0) + 1))), (5, .int (iI (B (A 2 5).toNat (A 2 0).toNat))), (4, .int (iI (A 2 5))), (3, .int (iI (A 2 0))), (0, .ref (q 99)), (1, .int (iI 6)), (2, .int (iI tog))]) [0, 1, 2, 3, 4, 5, 6] rfl ?_
        refine lp_X3_cl_6 C q I A B tog r hsI hsA hsB hn hr hL hin hnd htog hok (I 3 - (A 2 0 + 1)).toNat (A 2 0 + 1) (A 2) (by omega) (by omega) (hsA 2) (fun _ _ => rfl) (fun R r2 hfr hsR hat hle => ?_) (fun R hfr hsR hpre => ?_)
        · skip
          refine g_iconst C (n' := 128) dX3_closesFrom_127 rfl ?_
          exact g_iret C hr9 hlk (nar_z (by omega)) ⟨R, hsR, Or.inl ⟨rfl, r2, by rw [rg_miss hb, ← hF]; exact hfr, hat, hle, rfl⟩⟩ dX3_closesFrom_128
        · skip
          refine g_iconst C (n' := 136) dX3_closesFrom_135 rfl ?_
          exact g_iret C hr9 hlk (nar_z (by omega)) ⟨R, hsR, Or.inr ⟨rfl, by rw [rg_miss hb, ← hF]; exact hfr, hpre, rfl⟩⟩ dX3_closesFrom_136
      · skip
        refine g_iconst C (n' := 58) dX3_closesFrom_57 rfl ?_
        have hb : ¬ rg_b B r = true := fun z => by
          have z2 := (rg_b_of hok (x := (B (A 2 5).toNat (A 2 0).toNat)) (by rw [← hF, ← hLs])).mp z
          omega
        exact g_iret C hr9 hlk (nar_z (by omega)) ⟨A 2, hsA 2, Or.inr ⟨rfl, by rw [rg_miss hb, ← hF]; exact rg_loop_full (n := I 3) (fun j h0 h1 => rg_full hnd hin (by omega) ⟨h0, h1⟩) _ _ (by omega) (by omega), fun _ _ => rfl, by rw [sU_id]⟩⟩ dX3_closesFrom_58
    · skip
      refine g_aload_n C (n' := 43) 3 rfl dX3_closesFrom_42 rfl rfl ?_
      refine g_iload_n C (n' := 44) 4 rfl dX3_closesFrom_43 rfl rfl ?_
      refine g_put C (n' := 47) (Cn := RX3) (T := TX3) (N := 7) (ci := 2) (v := .int (iI 6)) ga_X3 0 rfl rfl 4 (by decide) kw_143 rfl tyX3 tyX3_ok nmX3 rfl rfl rfl rfl (Nat.le_of_ble_eq_true rfl) (wPlan q Y (sU I 4 6) A B) rfl dX3_closesFrom_44 rfl ?_
      refine g_iconst C (n' := 48) dX3_closesFrom_47 rfl ?_
      have hb : rg_b B r = true := (rg_b_of hok (x := (B (A 2 5).toNat (A 2 0).toNat)) (by rw [← hF, ← hLs])).mpr ⟨by omega, by omega⟩
      exact g_iret C hr9 hlk (nar_z (by omega)) ⟨A 2, hsA 2, Or.inl ⟨rfl, r, rg_hit hb _, hr, by omega, by rw [sU_id, hL]; rfl⟩⟩ dX3_closesFrom_48
set_option maxRecDepth 100000 in
set_option maxHeartbeats 4000000 in
theorem lp_X3_cl_5 {p9 : Program} {l : Launch} {e9 : Env} {s9 : State} {m9 : MethodId} {a9 : Array Value} {b9 : List Frame} {t9 : Method} {c9 : Code} {D : va_G} {A9 : Nat → Prop} {Q9 : State → Prop} {E : (Nat → Prop) → State → Heap → Prop} {Y : Nat → ClassId} (C : g_Cx p9 s9 m9 a9 c9 cX3_closesFrom 8 RX3 D (tysY Y) A9 E) (q : Nat → Nat) (I : Nat → Int) (A B : Nat → Nat → Int) (tog : Int) (r : List Int) (hsI : smI I) (hsA : smA A) (hsB : okB B) (hn : 2 ≤ I 3 ∧ I 3 ≤ 8) (hr : rg_at (A 2) r) (hL : r.length = 5) (hin : ∀ x ∈ r, 0 ≤ x ∧ x < I 3) (hnd : r.Nodup) (htog : tog = rg_es B r) (hok : rg_ok B r = true) : ∀ (n9 : Nat) (j : Int) (R : Nat → Int), A 2 0 < j → j + n9 = I 3 → smR R → (∀ k, k < 5 → R k = A 2 k) → (∀ (R : Nat → Int) (r2 : List Int), rg_loop (rg_fr (rg_b B) (I 3) 2) r n9 j = some r2 → smR R → rg_at R r2 → r2.length ≤ 8 → g_G p9 l e9 ({ frames := 4, cells := 0, slots := 0, locals := 104 } : Room) s9 m9 a9 b9 t9 c9 8 D A9 Q9 0 0 (wPlan q Y (sU I 4 (r2.length : Int)) (sU A 2 R) B) [(0, .ref (q 99))] 127 []) → (∀ R : Nat → Int, rg_loop (rg_fr (rg_b B) (I 3) 2) r n9 j = none → smR R → (∀ k, k < 5 → R k = A 2 k) → g_G p9 l e9 ({ frames := 4, cells := 0, slots := 0, locals := 104 } : Room) s9 m9 a9 b9 t9 c9 8 D A9 Q9 0 0 (wPlan q Y I (sU A 2 R) B) [(0, .ref (q 99))] 135 []) → g_G p9 l e9 ({ frames := 4, cells := 0, slots := 0, locals := 104 } : Room) s9 m9 a9 b9 t9 c9 8 D A9 Q9 0 0 (wPlan q Y I (sU A 2 R) B) [(6, .int (iI j)), (5, .int (iI (B (A 2 4).toNat (A 2 0).toNat))), (4, .int (iI (A 2 4))), (3, .int (iI (A 2 0))), (0, .ref (q 99)), (1, .int (iI 5)), (2, .int (iI tog))] 64 [] := by
  have hE := C.2.2.2.2.2.2.2.2.1
  intro n9
  induction n9 with
  | zero =>
    intro j R hj hjn hsR hpre K1 K0
    have hI := hsI
    have hA := hsA
    have hB := hsB
    unfold smI at hI
    unfold smA at hA
    unfold okB at hB
    have hF := rg_at_f hr (by omega)
    have hLs := rg_at_l hr (by omega)
    rw [hL] at hLs
    have hLs : A 2 4 = rg_l r := hLs
    have hFr := hin _ (rg_f_mem (by omega))
    have hLr := hin _ (rg_l_mem (by omega))
    rw [← hF] at hFr
    rw [← hLs] at hLr
    have hes := rg_es_r hsB hok
    rw [hL] at hes
    have hRA : smA (sU A 2 R) := sm_putA hsA hsR
    have hR9 := hsR
    unfold smR at hR9
    refine g_iload C (n' := 66) 0 rfl dX3_closesFrom_64 rfl ?_
    refine g_aload_n C (n' := 67) 4 rfl dX3_closesFrom_66 rfl rfl ?_
    refine g_get C (n' := 70) (Cn := RX3) (T := TX3) (N := 7) (ci := 2) (v := .int (iI (I 3))) ga_X3 0 rfl rfl 3 (by decide) kw_142 rfl rfl dX3_closesFrom_67 rfl ?_
    have h_67 := hI 3
    refine g_icmp_ge C (n' := 73) 135 dX3_closesFrom_70 (by decide) rfl (by unfold inR; omega) (by unfold inR; omega) (fun c1 => ?_) (fun c1 => ?_)
    · skip
      refine g_lv [4] rfl ?_
      exact K0 R rfl hsR hpre
    · skip
      exfalso
      omega
  | succ n9 ih =>
    intro j R hj hjn hsR hpre K1 K0
    have hI := hsI
    have hA := hsA
    have hB := hsB
    unfold smI at hI
    unfold smA at hA
    unfold okB at hB
    have hF := rg_at_f hr (by omega)
    have hLs := rg_at_l hr (by omega)
    rw [hL] at hLs
    have hLs : A 2 4 = rg_l r := hLs
    have hFr := hin _ (rg_f_mem (by omega))
    have hLr := hin _ (rg_l_mem (by omega))
    rw [← hF] at hFr
    rw [← hLs] at hLr
    have hes := rg_es_r hsB hok
    rw [hL] at hes
    have hRA : smA (sU A 2 R) := sm_putA hsA hsR
    have hR9 := hsR
    unfold smR at hR9
    refine g_iload C (n' := 66) 0 rfl dX3_closesFrom_64 rfl ?_
    refine g_aload_n C (n' := 67) 4 rfl dX3_closesFrom_66 rfl rfl ?_
    refine g_get C (n' := 70) (Cn := RX3) (T := TX3) (N := 7) (ci := 2) (v := .int (iI (I 3))) ga_X3 0 rfl rfl 3 (by decide) kw_142 rfl rfl dX3_closesFrom_67 rfl ?_
    have h_67 := hI 3
    refine g_icmp_ge C (n' := 73) 135 dX3_closesFrom_70 (by decide) rfl (by unfold inR; omega) (by unfold inR; omega) (fun c1 => ?_) (fun c1 => ?_)
    · skip
      exfalso
      omega
    · skip
      refine g_aload_n C (n' := 74) 4 rfl dX3_closesFrom_73 rfl rfl ?_
      refine g_get C (n' := 77) (Cn := RX3) (T := TX3) (N := 7) (ci := 2) (v := .ref (q 0)) ga_X3 0 rfl rfl 0 (by decide) kw_139 rfl rfl dX3_closesFrom_74 rfl ?_
      refine g_iload C (n' := 79) 2 rfl dX3_closesFrom_77 rfl ?_
      refine g_aalA C (n' := 80) (v := q (20 + (A 2 4).toNat)) 1 7 rfl rfl (by omega) (by omega) (by decide) (if_pos (by omega)) dX3_closesFrom_79 rfl ?_
      refine g_iload C (n' := 82) 0 rfl dX3_closesFrom_80 rfl ?_
      refine g_iald C (n' := 83) (4 + (A 2 4).toNat) 0 (pl_row (by omega)) rfl (by omega) (by omega) (by decide) rfl dX3_closesFrom_82 rfl ?_
      have hb_82 := hB ((A 2 4).toNat) j.toNat
      refine g_istore C (n' := 85) [(7, .int (iI (B ((A 2 4).toNat) j.toNat))), (6, .int (iI j)), (5, .int (iI (B (A 2 4).toNat (A 2 0).toNat))), (4, .int (iI (A 2 4))), (3, .int (iI (A 2 0))), (0, .ref (q 99)), (1, .int (iI 5)), (2, .int (iI tog))] dX3_closesFrom_83 rfl (by decide) rfl ?_
      refine g_iload C (n' := 87) 0 rfl dX3_closesFrom_85 rfl ?_
      refine g_ldc C (n' := 89) 1000000000 (by decide) kw_455 dX3_closesFrom_87 rfl ?_
      refine g_icmp_eq C (n' := 92) 129 dX3_closesFrom_89 (by decide) rfl (by unfold inR; omega) (by unfold inR; omega) (fun c2 => ?_) (fun c2 => ?_)
      · skip
        refine g_iinc C (n' := 132) 1 [(6, .int (iI (j + 1))), (7, .int (iI (B ((A 2 4).toNat) j.toNat))), (5, .int (iI (B (A 2 4).toNat (A 2 0).toNat))), (4, .int (iI (A 2 4))), (3, .int (iI (A 2 0))), (0, .ref (q 99)), (1, .int (iI 5)), (2, .int (iI tog))] rfl dX3_closesFrom_129 rfl (by decide) rfl ?_
        refine g_goto C 64 dX3_closesFrom_132 (by decide) ?_
        have e1 : rg_loop (rg_fr (rg_b B) (I 3) 2) r (n9 + 1) j = rg_loop (rg_fr (rg_b B) (I 3) 2) r n9 (j + 1) := by
          have ho : rg_ok B (r ++ [j]) = false := by rw [rg_ok_app B j (fun q => by rw [q] at hL; cases hL), ← hLs, c2]; simp
          rw [rg_loop, rg_fr_none _ (r ++ [j]) (by simp) ho]
          split <;> rfl
        rw [e1] at K1 K0
        refine g_lv (lv' := [(6, .int (iI (j + 1))), (5, .int (iI (B (A 2 4).toNat (A 2 0).toNat))), (4, .int (iI (A 2 4))), (3, .int (iI (A 2 0))), (0, .ref (q 99)), (1, .int (iI 5)), (2, .int (iI tog))]) [0, 2, 3, 4, 5, 6, 7] rfl ?_
        exact ih (j + 1) R (by omega) (by omega) hsR hpre K1 K0
      · skip
        refine g_aload_n C (n' := 93) 5 rfl dX3_closesFrom_92 rfl rfl ?_
        refine g_iload C (n' := 95) 1 rfl dX3_closesFrom_93 rfl ?_
        refine g_iload_n C (n' := 96) 6 rfl dX3_closesFrom_95 rfl rfl ?_
        refine g_cVv C (n' := 99) (v := .int (iI (if j ∈ r then 1 else 0))) (c_X3_isInRing l D Y C.2.2.2.2.2.2.2.2.1 q I (sU A 2 R) B j 5 r hsI hRA hsB (by unfold inR; omega) (rg_at_pre hr (fun k hk => hpre k (by omega))) (by omega) (by omega)) 2 kw_537 kc_X3_isInRing (by decide +kernel) (pm0 _) 0 (ci := 2) rfl rfl rfl rfl ⟨Nat.le_of_ble_eq_true rfl, Nat.le_of_ble_eq_true rfl⟩ ⟨rfl, rfl⟩ ⟨Nat.le_of_ble_eq_true rfl, Nat.le_of_ble_eq_true rfl⟩ (Nat.le_of_ble_eq_true rfl) dX3_closesFrom_96 rfl rfl (wPlan q Y I (sU A 2 R) B) (pm0' _) ?_
        refine g_if_eq C (n' := 102) 105 dX3_closesFrom_99 (by decide) rfl bz_r (fun c3 => ?_) (fun c3 => ?_)
        · skip
          replace c3 := bz_eq.mp c3
          refine g_aload_n C (n' := 106) 5 rfl dX3_closesFrom_105 rfl rfl ?_
          refine g_get C (n' := 109) (Cn := RX3) (T := TX3) (N := 7) (ci := 2) (v := .ref (q 2)) ga_X3 0 rfl rfl 2 (by decide) kw_141 rfl rfl dX3_closesFrom_106 rfl ?_
          refine g_iload_n C (n' := 110) 6 rfl dX3_closesFrom_109 rfl rfl ?_
          refine g_iload C (n' := 112) 1 rfl dX3_closesFrom_110 rfl ?_
          refine g_iastN C (n' := 113) (f := R) (j := 5) 3 0 rfl rfl (by omega) (by decide) rfl dX3_closesFrom_112 rfl (wPlan q Y I (sU A 2 (sU R 5 j)) B) rfl ?_
          refine g_aload_n C (n' := 114) 5 rfl dX3_closesFrom_113 rfl rfl ?_
          refine g_iload_n C (n' := 115) 6 rfl dX3_closesFrom_114 rfl rfl ?_
          refine g_iconst C (n' := 116) dX3_closesFrom_115 rfl ?_
          refine g_iadd C (n' := 117) dX3_closesFrom_116 rfl ?_
          refine g_st (st' := [.int (iI 6), .ref (q 99)]) rfl ?_
          refine g_iload_n C (n' := 118) 7 rfl dX3_closesFrom_117 rfl rfl ?_
          refine g_iload C (n' := 120) 0 rfl dX3_closesFrom_118 rfl ?_
          refine g_iadd C (n' := 121) dX3_closesFrom_120 rfl ?_
          refine g_callV C (n' := 124) (c_X3_closesFrom_6 l D Y C.2.2.2.2.2.2.2.2.1 q I (sU A 2 (sU R 5 j)) B (tog + (B ((A 2 4).toNat) j.toNat)) (r ++ [j]) hsI (sm_putA hsA (sm_putR hsR (by omega))) hsB hn (by have := rg_at_app (rg_at_pre hr (fun k hk => hpre k (by omega))) j; rw [hL] at this; exact this) (by rw [List.length_append, hL]; rfl) (ring_in hin (by omega) (by omega)) (ring_nd hnd c3) (by rw [rg_es_app B j (fun q => by rw [q] at hL; cases hL), ← hLs, htog]) (by rw [rg_ok_app B j (fun q => by rw [q] at hL; cases hL), ← hLs, hok]; simpa using c2)) 2 kw_533 kc_X3_closesFrom (by decide +kernel) (pm0 _) 0 (ci := 2) rfl rfl rfl rfl ⟨Nat.le_of_ble_eq_true rfl, Nat.le_of_ble_eq_true rfl⟩ ⟨rfl, rfl⟩ ⟨Nat.le_of_ble_eq_true rfl, Nat.le_of_ble_eq_true rfl⟩ (Nat.le_of_ble_eq_true rfl) dX3_closesFrom_121 rfl (fun r9 w9 hp4 => ?_)
          obtain ⟨R5, hsR5, (⟨rfl, r6, q1, q2, q3, rfl⟩ | ⟨rfl, q1, q2, rfl⟩)⟩ := hp4
          · skip
            have hcR5 := And.intro q1 (And.intro q2 q3)
            refine g_perm (w' := (wPlan q Y (sU I 4 (r6.length : Int)) (sU A 2 R5) B)) (pm0' _) ?_
            refine g_st (st' := [.int (iI 1)]) rfl ?_
            refine g_if_eq C (n' := 127) 129 dX3_closesFrom_124 (by decide) rfl (by unfold inR; omega) (fun c7 => ?_) (fun c7 => ?_)
            · skip
              exfalso
              omega
            · skip
              refine g_lv [5] rfl ?_
              exact K1 R5 r6 (by rw [rg_loop, if_neg c3, hcR5.1]) hsR5 hcR5.2.1 hcR5.2.2
          · skip
            have hcR5 := And.intro q1 q2
            refine g_perm (w' := (wPlan q Y I (sU A 2 R5) B)) (pm0' _) ?_
            refine g_st (st' := [.int (iI 0)]) rfl ?_
            refine g_if_eq C (n' := 127) 129 dX3_closesFrom_124 (by decide) rfl (by unfold inR; omega) (fun c8 => ?_) (fun c8 => ?_)
            · skip
              refine g_iinc C (n' := 132) 1 [(6, .int (iI (j + 1))), (7, .int (iI (B ((A 2 4).toNat) j.toNat))), (5, .int (iI (B (A 2 4).toNat (A 2 0).toNat))), (4, .int (iI (A 2 4))), (3, .int (iI (A 2 0))), (0, .ref (q 99)), (1, .int (iI 5)), (2, .int (iI tog))] rfl dX3_closesFrom_129 rfl (by decide) rfl ?_
              refine g_goto C 64 dX3_closesFrom_132 (by decide) ?_
              have e1 : rg_loop (rg_fr (rg_b B) (I 3) 2) r (n9 + 1) j = rg_loop (rg_fr (rg_b B) (I 3) 2) r n9 (j + 1) := by
                rw [rg_loop, if_neg c3, hcR5.1]
              rw [e1] at K1 K0
              refine g_lv (lv' := [(6, .int (iI (j + 1))), (5, .int (iI (B (A 2 4).toNat (A 2 0).toNat))), (4, .int (iI (A 2 4))), (3, .int (iI (A 2 0))), (0, .ref (q 99)), (1, .int (iI 5)), (2, .int (iI tog))]) [0, 2, 3, 4, 5, 6, 7] rfl ?_
              exact ih (j + 1) R5 (by omega) (by omega) hsR5 (fun k hk => (hcR5.2 k (by omega)).trans ((show sU R 5 j k = R k from sU_n _ _ (by omega)).trans (hpre k hk))) K1 K0
            · skip
              exfalso
              omega
        · skip
          replace c3 := bz_neq.mp c3
          refine g_goto C 129 dX3_closesFrom_102 (by decide) ?_
          refine g_iinc C (n' := 132) 1 [(6, .int (iI (j + 1))), (7, .int (iI (B ((A 2 4).toNat) j.toNat))), (5, .int (iI (B (A 2 4).toNat (A 2 0).toNat))), (4, .int (iI (A 2 4))), (3, .int (iI (A 2 0))), (0, .ref (q 99)), (1, .int (iI 5)), (2, .int (iI tog))] rfl dX3_closesFrom_129 rfl (by decide) rfl ?_
          refine g_goto C 64 dX3_closesFrom_132 (by decide) ?_
          have e1 : rg_loop (rg_fr (rg_b B) (I 3) 2) r (n9 + 1) j = rg_loop (rg_fr (rg_b B) (I 3) 2) r n9 (j + 1) := by
            rw [rg_loop, if_pos c3]
          rw [e1] at K1 K0
          refine g_lv (lv' := [(6, .int (iI (j + 1))), (5, .int (iI (B (A 2 4).toNat (A 2 0).toNat))), (4, .int (iI (A 2 4))), (3, .int (iI (A 2 0))), (0, .ref (q 99)), (1, .int (iI 5)), (2, .int (iI tog))]) [0, 2, 3, 4, 5, 6, 7] rfl ?_
          exact ih (j + 1) R (by omega) (by omega) hsR hpre K1 K0
set_option maxRecDepth 100000 in
set_option maxHeartbeats 4000000 in
theorem c_X3_closesFrom_5 (l : Launch) (D : va_G) (Y : Nat → ClassId) {E : (Nat → Prop) → State → Heap → Prop} (hE : g_Stab E) (q : Nat → Nat) (I : Nat → Int) (A : Nat → Nat → Int) (B : Nat → Nat → Int) (tog : Int) (r : List Int) (hsI : smI I) (hsA : smA A) (hsB : okB B) (hn : 2 ≤ I 3 ∧ I 3 ≤ 8) (hr : rg_at (A 2) r) (hL : r.length = 5) (hin : ∀ x ∈ r, 0 ≤ x ∧ x < I 3) (hnd : r.Nodup) (htog : tog = rg_es B r) (hok : rg_ok B r = true) : g_Ct l yX3_closesFrom cX3_closesFrom 8 (some FieldType.boolean) ({ frames := 4, cells := 0, slots := 0, locals := 104 } : Room) D (tysY Y) E [.ref (q 99), .int (iI 5), .int (iI tog)] (wPlan q Y I A B) 0 0 (fun r9 w9 => ∃ R : Nat → Int, smR R ∧ ((r9 = some (.int (iI 1)) ∧ ∃ r2 : List Int, rg_fr (rg_b B) (I 3) 3 r = some r2 ∧ rg_at R r2 ∧ r2.length ≤ 8 ∧ w9 = wPlan q Y (sU I 4 (r2.length : Int)) (sU A 2 R) B) ∨ (r9 = some (.int (iI 0)) ∧ rg_fr (rg_b B) (I 3) 3 r = none ∧ (∀ k, k < 5 → R k = A 2 k) ∧ w9 = wPlan q Y I (sU A 2 R) B))) := by
  refine g_ofG (own := RX3) hE (by decide) rfl (Nat.le_of_ble_eq_true rfl) [(0, .ref (q 99)), (1, .int (iI 5)), (2, .int (iI tog))] rfl ?_
  intro p9 e9 s9 m9 b9 t9 c9 A9 C hr9 hlk hnm
  have hI := hsI
  have hA := hsA
  have hB := hsB
  unfold smI at hI
  unfold smA at hA
  unfold okB at hB
  have hF := rg_at_f hr (by omega)
  have hLs := rg_at_l hr (by omega)
  rw [hL] at hLs
  have hLs : A 2 4 = rg_l r := hLs
  have hFr := hin _ (rg_f_mem (by omega))
  have hLr := hin _ (rg_l_mem (by omega))
  rw [← hF] at hFr
  rw [← hLs] at hLr
  have hes := rg_es_r hsB hok
  rw [hL] at hes
  refine g_aload_n C (n' := 1) 0 rfl dX3_closesFrom_0 rfl rfl ?_
  refine g_get C (n' := 4) (Cn := RX3) (T := TX3) (N := 7) (ci := 2) (v := .ref (q 2)) ga_X3 0 rfl rfl 2 (by decide) kw_141 rfl rfl dX3_closesFrom_1 rfl ?_
  refine g_iconst C (n' := 5) dX3_closesFrom_4 rfl ?_
  refine g_ialdN C (n' := 6) (f := (A 2)) (j := 0) 3 0 rfl rfl (by omega) (by decide) rfl dX3_closesFrom_5 rfl ?_
  have h_5 := hA 2 0
  refine g_istore_n C (n' := 7) [(3, .int (iI ((A 2) 0))), (0, .ref (q 99)), (1, .int (iI 5)), (2, .int (iI tog))] dX3_closesFrom_6 rfl rfl (by decide) rfl ?_
  refine g_aload_n C (n' := 8) 1 rfl dX3_closesFrom_7 rfl rfl ?_
  refine g_get C (n' := 11) (Cn := RX3) (T := TX3) (N := 7) (ci := 2) (v := .ref (q 2)) ga_X3 0 rfl rfl 2 (by decide) kw_141 rfl rfl dX3_closesFrom_8 rfl ?_
  refine g_iload_n C (n' := 12) 2 rfl dX3_closesFrom_11 rfl rfl ?_
  refine g_iconst C (n' := 13) dX3_closesFrom_12 rfl ?_
  refine g_isub C (n' := 14) dX3_closesFrom_13 rfl ?_
  refine g_st (st' := [.int (iI 4), .ref (q 2)]) rfl ?_
  refine g_ialdN C (n' := 15) (f := (A 2)) (j := 4) 3 0 rfl rfl (by omega) (by decide) rfl dX3_closesFrom_14 rfl ?_
  have h_14 := hA 2 4
  refine g_istore C (n' := 17) [(4, .int (iI ((A 2) 4))), (3, .int (iI ((A 2) 0))), (0, .ref (q 99)), (1, .int (iI 5)), (2, .int (iI tog))] dX3_closesFrom_15 rfl (by decide) rfl ?_
  refine g_aload_n C (n' := 18) 2 rfl dX3_closesFrom_17 rfl rfl ?_
  refine g_get C (n' := 21) (Cn := RX3) (T := TX3) (N := 7) (ci := 2) (v := .ref (q 0)) ga_X3 0 rfl rfl 0 (by decide) kw_139 rfl rfl dX3_closesFrom_18 rfl ?_
  refine g_iload C (n' := 23) 0 rfl dX3_closesFrom_21 rfl ?_
  refine g_aalA C (n' := 24) (v := q (20 + ((A 2) 4).toNat)) 1 7 rfl rfl (by omega) (by omega) (by decide) (if_pos (by omega)) dX3_closesFrom_23 rfl ?_
  refine g_iload_n C (n' := 25) 1 rfl dX3_closesFrom_24 rfl rfl ?_
  refine g_iald C (n' := 26) (4 + ((A 2) 4).toNat) 0 (pl_row (by omega)) rfl (by omega) (by omega) (by decide) rfl dX3_closesFrom_25 rfl ?_
  have hb_25 := hB (((A 2) 4).toNat) (((A 2) 0).toNat)
  refine g_istore C (n' := 28) [(5, .int (iI (B (((A 2) 4).toNat) (((A 2) 0).toNat)))), (4, .int (iI ((A 2) 4))), (3, .int (iI ((A 2) 0))), (0, .ref (q 99)), (1, .int (iI 5)), (2, .int (iI tog))] dX3_closesFrom_26 rfl (by decide) rfl ?_
  refine g_iload C (n' := 30) 0 rfl dX3_closesFrom_28 rfl ?_
  refine g_ldc C (n' := 32) 1000000000 (by decide) kw_455 dX3_closesFrom_30 rfl ?_
  refine g_icmp_eq C (n' := 35) 49 dX3_closesFrom_32 (by decide) rfl (by unfold inR; omega) (by unfold inR; omega) (fun c1 => ?_) (fun c1 => ?_)
  · skip
    refine g_iload_n C (n' := 50) 4 rfl dX3_closesFrom_49 rfl rfl ?_
    refine g_aload_n C (n' := 51) 3 rfl dX3_closesFrom_50 rfl rfl ?_
    refine g_get C (n' := 54) (Cn := RX3) (T := TX3) (N := 7) (ci := 2) (v := .int (iI (I 3))) ga_X3 0 rfl rfl 3 (by decide) kw_142 rfl rfl dX3_closesFrom_51 rfl ?_
    have h_51 := hI 3
    refine g_icmp_lt C (n' := 57) 59 dX3_closesFrom_54 (by decide) rfl (by unfold inR; omega) (by unfold inR; omega) (fun c2 => ?_) (fun c2 => ?_)
    · skip
      refine g_iload_n C (n' := 60) 2 rfl dX3_closesFrom_59 rfl rfl ?_
      refine g_iconst C (n' := 61) dX3_closesFrom_60 rfl ?_
      refine g_iadd C (n' := 62) dX3_closesFrom_61 rfl ?_
      refine g_istore C (n' := 64) [(6, .int (iI (((A 2) 0) + 1))), (5, .int (iI (B (((A 2) 4).toNat) (((A 2) 0).toNat)))), (4, .int (iI ((A 2) 4))), (3, .int (iI ((A 2) 0))), (0, .ref (q 99)), (1, .int (iI 5)), (2, .int (iI tog))] dX3_closesFrom_62 rfl (by decide) rfl ?_
      have hb : ¬ rg_b B r = true := fun z => by
        have z2 := (rg_b_of hok (x := (B (A 2 4).toNat (A 2 0).toNat)) (by rw [← hF, ← hLs])).mp z
        omega
      refine g_wd (w' := (wPlan q Y I (sU A 2 (A 2)) B)) (by rw [sU_id]) ?_
      refine g_lv (lv' := [(6, .int (iI (((A 2) 0) + 1))), (5, .int (iI (B (A 2 4).toNat (A 2 0).toNat))), (4, .int (iI (A 2 4))), (3, .int (iI (A 2 0))), (0, .ref (q 99)), (1, .int (iI 5)), (2, .int (iI tog))]) [0, 1, 2, 3, 4, 5, 6] rfl ?_
      refine lp_X3_cl_5 C q I A B tog r hsI hsA hsB hn hr hL hin hnd htog hok (I 3 - (A 2 0 + 1)).toNat (A 2 0 + 1) (A 2) (by omega) (by omega) (hsA 2) (fun _ _ => rfl) (fun R r2 hfr hsR hat hle => ?_) (fun R hfr hsR hpre => ?_)
      · skip
        refine g_iconst C (n' := 128) dX3_closesFrom_127 rfl ?_
        exact g_iret C hr9 hlk (nar_z (by omega)) ⟨R, hsR, Or.inl ⟨rfl, r2, by rw [rg_miss hb, ← hF]; exact hfr, hat, hle, rfl⟩⟩ dX3_closesFrom_128
      · skip
        refine g_iconst C (n' := 136) dX3_closesFrom_135 rfl ?_
        exact g_iret C hr9 hlk (nar_z (by omega)) ⟨R, hsR, Or.inr ⟨rfl, by rw [rg_miss hb, ← hF]; exact hfr, hpre, rfl⟩⟩ dX3_closesFrom_136
    · skip
      refine g_iconst C (n' := 58) dX3_closesFrom_57 rfl ?_
      have hb : ¬ rg_b B r = true := fun z => by
        have z2 := (rg_b_of hok (x := (B (A 2 4).toNat (A 2 0).toNat)) (by rw [← hF, ← hLs])).mp z
        omega
      exact g_iret C hr9 hlk (nar_z (by omega)) ⟨A 2, hsA 2, Or.inr ⟨rfl, by rw [rg_miss hb, ← hF]; exact rg_loop_full (n := I 3) (fun j h0 h1 => rg_full hnd hin (by omega) ⟨h0, h1⟩) _ _ (by omega) (by omega), fun _ _ => rfl, by rw [sU_id]⟩⟩ dX3_closesFrom_58
  · skip
    refine g_iload_n C (n' := 36) 5 rfl dX3_closesFrom_35 rfl rfl ?_
    refine g_iload C (n' := 38) 0 rfl dX3_closesFrom_36 rfl ?_
    refine g_iadd C (n' := 39) dX3_closesFrom_38 rfl ?_
    refine g_if_ge C (n' := 42) 49 dX3_closesFrom_39 (by decide) rfl (by unfold inR; omega) (fun c3 => ?_) (fun c3 => ?_)
    · skip
      refine g_iload_n C (n' := 50) 4 rfl dX3_closesFrom_49 rfl rfl ?_
      refine g_aload_n C (n' := 51) 3 rfl dX3_closesFrom_50 rfl rfl ?_
      refine g_get C (n' := 54) (Cn := RX3) (T := TX3) (N := 7) (ci := 2) (v := .int (iI (I 3))) ga_X3 0 rfl rfl 3 (by decide) kw_142 rfl rfl dX3_closesFrom_51 rfl ?_
      have h_51 := hI 3
      refine g_icmp_lt C (n' := 57) 59 dX3_closesFrom_54 (by decide) rfl (by unfold inR; omega) (by unfold inR; omega) (fun c4 => ?_) (fun c4 => ?_)
      · skip
        refine g_iload_n C (n' := 60) 2 rfl dX3_closesFrom_59 rfl rfl ?_
        refine g_iconst C (n' := 61) dX3_closesFrom_60 rfl ?_
        refine g_iadd C (n' := 62) dX3_closesFrom_61 rfl ?_
        refine g_istore C (n' := 64) [(6, .int (iI (((A 2) 0) + 1))), (5, .int (iI (B (((A 2) 4).toNat) (((A 2) 0).toNat)))), (4, .int (iI ((A 2) 4))), (3, .int (iI ((A 2) 0))), (0, .ref (q 99)), (1, .int (iI 5)), (2, .int (iI tog))] dX3_closesFrom_62 rfl (by decide) rfl ?_
        have hb : ¬ rg_b B r = true := fun z => by
          have z2 := (rg_b_of hok (x := (B (A 2 4).toNat (A 2 0).toNat)) (by rw [← hF, ← hLs])).mp z
          omega
        refine g_wd (w' := (wPlan q Y I (sU A 2 (A 2)) B)) (by rw [sU_id]) ?_
        refine g_lv (lv' := [(6, .int (iI (((A 2) 0) + 1))), (5, .int (iI (B (A 2 4).toNat (A 2 0).toNat))), (4, .int (iI (A 2 4))), (3, .int (iI (A 2 0))), (0, .ref (q 99)), (1, .int (iI 5)), (2, .int (iI tog))]) [0, 1, 2, 3, 4, 5, 6] rfl ?_
        refine lp_X3_cl_5 C q I A B tog r hsI hsA hsB hn hr hL hin hnd htog hok (I 3 - (A 2 0 + 1)).toNat (A 2 0 + 1) (A 2) (by omega) (by omega) (hsA 2) (fun _ _ => rfl) (fun R r2 hfr hsR hat hle => ?_) (fun R hfr hsR hpre => ?_)
        · skip
          refine g_iconst C (n' := 128) dX3_closesFrom_127 rfl ?_
          exact g_iret C hr9 hlk (nar_z (by omega)) ⟨R, hsR, Or.inl ⟨rfl, r2, by rw [rg_miss hb, ← hF]; exact hfr, hat, hle, rfl⟩⟩ dX3_closesFrom_128
        · skip
          refine g_iconst C (n' := 136) dX3_closesFrom_135 rfl ?_
          exact g_iret C hr9 hlk (nar_z (by omega)) ⟨R, hsR, Or.inr ⟨rfl, by rw [rg_miss hb, ← hF]; exact hfr, hpre, rfl⟩⟩ dX3_closesFrom_136
      · skip
        refine g_iconst C (n' := 58) dX3_closesFrom_57 rfl ?_
        have hb : ¬ rg_b B r = true := fun z => by
          have z2 := (rg_b_of hok (x := (B (A 2 4).toNat (A 2 0).toNat)) (by rw [← hF, ← hLs])).mp z
          omega
        exact g_iret C hr9 hlk (nar_z (by omega)) ⟨A 2, hsA 2, Or.inr ⟨rfl, by rw [rg_miss hb, ← hF]; exact rg_loop_full (n := I 3) (fun j h0 h1 => rg_full hnd hin (by omega) ⟨h0, h1⟩) _ _ (by omega) (by omega), fun _ _ => rfl, by rw [sU_id]⟩⟩ dX3_closesFrom_58
    · skip
      refine g_aload_n C (n' := 43) 3 rfl dX3_closesFrom_42 rfl rfl ?_
      refine g_iload_n C (n' := 44) 4 rfl dX3_closesFrom_43 rfl rfl ?_
      refine g_put C (n' := 47) (Cn := RX3) (T := TX3) (N := 7) (ci := 2) (v := .int (iI 5)) ga_X3 0 rfl rfl 4 (by decide) kw_143 rfl tyX3 tyX3_ok nmX3 rfl rfl rfl rfl (Nat.le_of_ble_eq_true rfl) (wPlan q Y (sU I 4 5) A B) rfl dX3_closesFrom_44 rfl ?_
      refine g_iconst C (n' := 48) dX3_closesFrom_47 rfl ?_
      have hb : rg_b B r = true := (rg_b_of hok (x := (B (A 2 4).toNat (A 2 0).toNat)) (by rw [← hF, ← hLs])).mpr ⟨by omega, by omega⟩
      exact g_iret C hr9 hlk (nar_z (by omega)) ⟨A 2, hsA 2, Or.inl ⟨rfl, r, rg_hit hb _, hr, by omega, by rw [sU_id, hL]; rfl⟩⟩ dX3_closesFrom_48
set_option maxRecDepth 100000 in
set_option maxHeartbeats 4000000 in
theorem lp_X3_cl_4 {p9 : Program} {l : Launch} {e9 : Env} {s9 : State} {m9 : MethodId} {a9 : Array Value} {b9 : List Frame} {t9 : Method} {c9 : Code} {D : va_G} {A9 : Nat → Prop} {Q9 : State → Prop} {E : (Nat → Prop) → State → Heap → Prop} {Y : Nat → ClassId} (C : g_Cx p9 s9 m9 a9 c9 cX3_closesFrom 8 RX3 D (tysY Y) A9 E) (q : Nat → Nat) (I : Nat → Int) (A B : Nat → Nat → Int) (tog : Int) (r : List Int) (hsI : smI I) (hsA : smA A) (hsB : okB B) (hn : 2 ≤ I 3 ∧ I 3 ≤ 8) (hr : rg_at (A 2) r) (hL : r.length = 4) (hin : ∀ x ∈ r, 0 ≤ x ∧ x < I 3) (hnd : r.Nodup) (htog : tog = rg_es B r) (hok : rg_ok B r = true) : ∀ (n9 : Nat) (j : Int) (R : Nat → Int), A 2 0 < j → j + n9 = I 3 → smR R → (∀ k, k < 4 → R k = A 2 k) → (∀ (R : Nat → Int) (r2 : List Int), rg_loop (rg_fr (rg_b B) (I 3) 3) r n9 j = some r2 → smR R → rg_at R r2 → r2.length ≤ 8 → g_G p9 l e9 ({ frames := 5, cells := 0, slots := 0, locals := 131 } : Room) s9 m9 a9 b9 t9 c9 8 D A9 Q9 0 0 (wPlan q Y (sU I 4 (r2.length : Int)) (sU A 2 R) B) [(0, .ref (q 99))] 127 []) → (∀ R : Nat → Int, rg_loop (rg_fr (rg_b B) (I 3) 3) r n9 j = none → smR R → (∀ k, k < 4 → R k = A 2 k) → g_G p9 l e9 ({ frames := 5, cells := 0, slots := 0, locals := 131 } : Room) s9 m9 a9 b9 t9 c9 8 D A9 Q9 0 0 (wPlan q Y I (sU A 2 R) B) [(0, .ref (q 99))] 135 []) → g_G p9 l e9 ({ frames := 5, cells := 0, slots := 0, locals := 131 } : Room) s9 m9 a9 b9 t9 c9 8 D A9 Q9 0 0 (wPlan q Y I (sU A 2 R) B) [(6, .int (iI j)), (5, .int (iI (B (A 2 3).toNat (A 2 0).toNat))), (4, .int (iI (A 2 3))), (3, .int (iI (A 2 0))), (0, .ref (q 99)), (1, .int (iI 4)), (2, .int (iI tog))] 64 [] := by
  have hE := C.2.2.2.2.2.2.2.2.1
  intro n9
  induction n9 with
  | zero =>
    intro j R hj hjn hsR hpre K1 K0
    have hI := hsI
    have hA := hsA
    have hB := hsB
    unfold smI at hI
    unfold smA at hA
    unfold okB at hB
    have hF := rg_at_f hr (by omega)
    have hLs := rg_at_l hr (by omega)
    rw [hL] at hLs
    have hLs : A 2 3 = rg_l r := hLs
    have hFr := hin _ (rg_f_mem (by omega))
    have hLr := hin _ (rg_l_mem (by omega))
    rw [← hF] at hFr
    rw [← hLs] at hLr
    have hes := rg_es_r hsB hok
    rw [hL] at hes
    have hRA : smA (sU A 2 R) := sm_putA hsA hsR
    have hR9 := hsR
    unfold smR at hR9
    refine g_iload C (n' := 66) 0 rfl dX3_closesFrom_64 rfl ?_
    refine g_aload_n C (n' := 67) 4 rfl dX3_closesFrom_66 rfl rfl ?_
    refine g_get C (n' := 70) (Cn := RX3) (T := TX3) (N := 7) (ci := 2) (v := .int (iI (I 3))) ga_X3 0 rfl rfl 3 (by decide) kw_142 rfl rfl dX3_closesFrom_67 rfl ?_
    have h_67 := hI 3
    refine g_icmp_ge C (n' := 73) 135 dX3_closesFrom_70 (by decide) rfl (by unfold inR; omega) (by unfold inR; omega) (fun c1 => ?_) (fun c1 => ?_)
    · skip
      refine g_lv [4] rfl ?_
      exact K0 R rfl hsR hpre
    · skip
      exfalso
      omega
  | succ n9 ih =>
    intro j R hj hjn hsR hpre K1 K0
    have hI := hsI
    have hA := hsA
    have hB := hsB
    unfold smI at hI
    unfold smA at hA
    unfold okB at hB
    have hF := rg_at_f hr (by omega)
    have hLs := rg_at_l hr (by omega)
    rw [hL] at hLs
    have hLs : A 2 3 = rg_l r := hLs
    have hFr := hin _ (rg_f_mem (by omega))
    have hLr := hin _ (rg_l_mem (by omega))
    rw [← hF] at hFr
    rw [← hLs] at hLr
    have hes := rg_es_r hsB hok
    rw [hL] at hes
    have hRA : smA (sU A 2 R) := sm_putA hsA hsR
    have hR9 := hsR
    unfold smR at hR9
    refine g_iload C (n' := 66) 0 rfl dX3_closesFrom_64 rfl ?_
    refine g_aload_n C (n' := 67) 4 rfl dX3_closesFrom_66 rfl rfl ?_
    refine g_get C (n' := 70) (Cn := RX3) (T := TX3) (N := 7) (ci := 2) (v := .int (iI (I 3))) ga_X3 0 rfl rfl 3 (by decide) kw_142 rfl rfl dX3_closesFrom_67 rfl ?_
    have h_67 := hI 3
    refine g_icmp_ge C (n' := 73) 135 dX3_closesFrom_70 (by decide) rfl (by unfold inR; omega) (by unfold inR; omega) (fun c1 => ?_) (fun c1 => ?_)
    · skip
      exfalso
      omega
    · skip
      refine g_aload_n C (n' := 74) 4 rfl dX3_closesFrom_73 rfl rfl ?_
      refine g_get C (n' := 77) (Cn := RX3) (T := TX3) (N := 7) (ci := 2) (v := .ref (q 0)) ga_X3 0 rfl rfl 0 (by decide) kw_139 rfl rfl dX3_closesFrom_74 rfl ?_
      refine g_iload C (n' := 79) 2 rfl dX3_closesFrom_77 rfl ?_
      refine g_aalA C (n' := 80) (v := q (20 + (A 2 3).toNat)) 1 7 rfl rfl (by omega) (by omega) (by decide) (if_pos (by omega)) dX3_closesFrom_79 rfl ?_
      refine g_iload C (n' := 82) 0 rfl dX3_closesFrom_80 rfl ?_
      refine g_iald C (n' := 83) (4 + (A 2 3).toNat) 0 (pl_row (by omega)) rfl (by omega) (by omega) (by decide) rfl dX3_closesFrom_82 rfl ?_
      have hb_82 := hB ((A 2 3).toNat) j.toNat
      refine g_istore C (n' := 85) [(7, .int (iI (B ((A 2 3).toNat) j.toNat))), (6, .int (iI j)), (5, .int (iI (B (A 2 3).toNat (A 2 0).toNat))), (4, .int (iI (A 2 3))), (3, .int (iI (A 2 0))), (0, .ref (q 99)), (1, .int (iI 4)), (2, .int (iI tog))] dX3_closesFrom_83 rfl (by decide) rfl ?_
      refine g_iload C (n' := 87) 0 rfl dX3_closesFrom_85 rfl ?_
      refine g_ldc C (n' := 89) 1000000000 (by decide) kw_455 dX3_closesFrom_87 rfl ?_
      refine g_icmp_eq C (n' := 92) 129 dX3_closesFrom_89 (by decide) rfl (by unfold inR; omega) (by unfold inR; omega) (fun c2 => ?_) (fun c2 => ?_)
      · skip
        refine g_iinc C (n' := 132) 1 [(6, .int (iI (j + 1))), (7, .int (iI (B ((A 2 3).toNat) j.toNat))), (5, .int (iI (B (A 2 3).toNat (A 2 0).toNat))), (4, .int (iI (A 2 3))), (3, .int (iI (A 2 0))), (0, .ref (q 99)), (1, .int (iI 4)), (2, .int (iI tog))] rfl dX3_closesFrom_129 rfl (by decide) rfl ?_
        refine g_goto C 64 dX3_closesFrom_132 (by decide) ?_
        have e1 : rg_loop (rg_fr (rg_b B) (I 3) 3) r (n9 + 1) j = rg_loop (rg_fr (rg_b B) (I 3) 3) r n9 (j + 1) := by
          have ho : rg_ok B (r ++ [j]) = false := by rw [rg_ok_app B j (fun q => by rw [q] at hL; cases hL), ← hLs, c2]; simp
          rw [rg_loop, rg_fr_none _ (r ++ [j]) (by simp) ho]
          split <;> rfl
        rw [e1] at K1 K0
        refine g_lv (lv' := [(6, .int (iI (j + 1))), (5, .int (iI (B (A 2 3).toNat (A 2 0).toNat))), (4, .int (iI (A 2 3))), (3, .int (iI (A 2 0))), (0, .ref (q 99)), (1, .int (iI 4)), (2, .int (iI tog))]) [0, 2, 3, 4, 5, 6, 7] rfl ?_
        exact ih (j + 1) R (by omega) (by omega) hsR hpre K1 K0
      · skip
        refine g_aload_n C (n' := 93) 5 rfl dX3_closesFrom_92 rfl rfl ?_
        refine g_iload C (n' := 95) 1 rfl dX3_closesFrom_93 rfl ?_
        refine g_iload_n C (n' := 96) 6 rfl dX3_closesFrom_95 rfl rfl ?_
        refine g_cVv C (n' := 99) (v := .int (iI (if j ∈ r then 1 else 0))) (c_X3_isInRing l D Y C.2.2.2.2.2.2.2.2.1 q I (sU A 2 R) B j 4 r hsI hRA hsB (by unfold inR; omega) (rg_at_pre hr (fun k hk => hpre k (by omega))) (by omega) (by omega)) 2 kw_537 kc_X3_isInRing (by decide +kernel) (pm0 _) 0 (ci := 2) rfl rfl rfl rfl ⟨Nat.le_of_ble_eq_true rfl, Nat.le_of_ble_eq_true rfl⟩ ⟨rfl, rfl⟩ ⟨Nat.le_of_ble_eq_true rfl, Nat.le_of_ble_eq_true rfl⟩ (Nat.le_of_ble_eq_true rfl) dX3_closesFrom_96 rfl rfl (wPlan q Y I (sU A 2 R) B) (pm0' _) ?_
        refine g_if_eq C (n' := 102) 105 dX3_closesFrom_99 (by decide) rfl bz_r (fun c3 => ?_) (fun c3 => ?_)
        · skip
          replace c3 := bz_eq.mp c3
          refine g_aload_n C (n' := 106) 5 rfl dX3_closesFrom_105 rfl rfl ?_
          refine g_get C (n' := 109) (Cn := RX3) (T := TX3) (N := 7) (ci := 2) (v := .ref (q 2)) ga_X3 0 rfl rfl 2 (by decide) kw_141 rfl rfl dX3_closesFrom_106 rfl ?_
          refine g_iload_n C (n' := 110) 6 rfl dX3_closesFrom_109 rfl rfl ?_
          refine g_iload C (n' := 112) 1 rfl dX3_closesFrom_110 rfl ?_
          refine g_iastN C (n' := 113) (f := R) (j := 4) 3 0 rfl rfl (by omega) (by decide) rfl dX3_closesFrom_112 rfl (wPlan q Y I (sU A 2 (sU R 4 j)) B) rfl ?_
          refine g_aload_n C (n' := 114) 5 rfl dX3_closesFrom_113 rfl rfl ?_
          refine g_iload_n C (n' := 115) 6 rfl dX3_closesFrom_114 rfl rfl ?_
          refine g_iconst C (n' := 116) dX3_closesFrom_115 rfl ?_
          refine g_iadd C (n' := 117) dX3_closesFrom_116 rfl ?_
          refine g_st (st' := [.int (iI 5), .ref (q 99)]) rfl ?_
          refine g_iload_n C (n' := 118) 7 rfl dX3_closesFrom_117 rfl rfl ?_
          refine g_iload C (n' := 120) 0 rfl dX3_closesFrom_118 rfl ?_
          refine g_iadd C (n' := 121) dX3_closesFrom_120 rfl ?_
          refine g_callV C (n' := 124) (c_X3_closesFrom_5 l D Y C.2.2.2.2.2.2.2.2.1 q I (sU A 2 (sU R 4 j)) B (tog + (B ((A 2 3).toNat) j.toNat)) (r ++ [j]) hsI (sm_putA hsA (sm_putR hsR (by omega))) hsB hn (by have := rg_at_app (rg_at_pre hr (fun k hk => hpre k (by omega))) j; rw [hL] at this; exact this) (by rw [List.length_append, hL]; rfl) (ring_in hin (by omega) (by omega)) (ring_nd hnd c3) (by rw [rg_es_app B j (fun q => by rw [q] at hL; cases hL), ← hLs, htog]) (by rw [rg_ok_app B j (fun q => by rw [q] at hL; cases hL), ← hLs, hok]; simpa using c2)) 2 kw_533 kc_X3_closesFrom (by decide +kernel) (pm0 _) 0 (ci := 2) rfl rfl rfl rfl ⟨Nat.le_of_ble_eq_true rfl, Nat.le_of_ble_eq_true rfl⟩ ⟨rfl, rfl⟩ ⟨Nat.le_of_ble_eq_true rfl, Nat.le_of_ble_eq_true rfl⟩ (Nat.le_of_ble_eq_true rfl) dX3_closesFrom_121 rfl (fun r9 w9 hp4 => ?_)
          obtain ⟨R5, hsR5, (⟨rfl, r6, q1, q2, q3, rfl⟩ | ⟨rfl, q1, q2, rfl⟩)⟩ := hp4
          · skip
            have hcR5 := And.intro q1 (And.intro q2 q3)
            refine g_perm (w' := (wPlan q Y (sU I 4 (r6.length : Int)) (sU A 2 R5) B)) (pm0' _) ?_
            refine g_st (st' := [.int (iI 1)]) rfl ?_
            refine g_if_eq C (n' := 127) 129 dX3_closesFrom_124 (by decide) rfl (by unfold inR; omega) (fun c7 => ?_) (fun c7 => ?_)
            · skip
              exfalso
              omega
            · skip
              refine g_lv [5] rfl ?_
              exact K1 R5 r6 (by rw [rg_loop, if_neg c3, hcR5.1]) hsR5 hcR5.2.1 hcR5.2.2
          · skip
            have hcR5 := And.intro q1 q2
            refine g_perm (w' := (wPlan q Y I (sU A 2 R5) B)) (pm0' _) ?_
            refine g_st (st' := [.int (iI 0)]) rfl ?_
            refine g_if_eq C (n' := 127) 129 dX3_closesFrom_124 (by decide) rfl (by unfold inR; omega) (fun c8 => ?_) (fun c8 => ?_)
            · skip
              refine g_iinc C (n' := 132) 1 [(6, .int (iI (j + 1))), (7, .int (iI (B ((A 2 3).toNat) j.toNat))), (5, .int (iI (B (A 2 3).toNat (A 2 0).toNat))), (4, .int (iI (A 2 3))), (3, .int (iI (A 2 0))), (0, .ref (q 99)), (1, .int (iI 4)), (2, .int (iI tog))] rfl dX3_closesFrom_129 rfl (by decide) rfl ?_
              refine g_goto C 64 dX3_closesFrom_132 (by decide) ?_
              have e1 : rg_loop (rg_fr (rg_b B) (I 3) 3) r (n9 + 1) j = rg_loop (rg_fr (rg_b B) (I 3) 3) r n9 (j + 1) := by
                rw [rg_loop, if_neg c3, hcR5.1]
              rw [e1] at K1 K0
              refine g_lv (lv' := [(6, .int (iI (j + 1))), (5, .int (iI (B (A 2 3).toNat (A 2 0).toNat))), (4, .int (iI (A 2 3))), (3, .int (iI (A 2 0))), (0, .ref (q 99)), (1, .int (iI 4)), (2, .int (iI tog))]) [0, 2, 3, 4, 5, 6, 7] rfl ?_
              exact ih (j + 1) R5 (by omega) (by omega) hsR5 (fun k hk => (hcR5.2 k (by omega)).trans ((show sU R 4 j k = R k from sU_n _ _ (by omega)).trans (hpre k hk))) K1 K0
            · skip
              exfalso
              omega
        · skip
          replace c3 := bz_neq.mp c3
          refine g_goto C 129 dX3_closesFrom_102 (by decide) ?_
          refine g_iinc C (n' := 132) 1 [(6, .int (iI (j + 1))), (7, .int (iI (B ((A 2 3).toNat) j.toNat))), (5, .int (iI (B (A 2 3).toNat (A 2 0).toNat))), (4, .int (iI (A 2 3))), (3, .int (iI (A 2 0))), (0, .ref (q 99)), (1, .int (iI 4)), (2, .int (iI tog))] rfl dX3_closesFrom_129 rfl (by decide) rfl ?_
          refine g_goto C 64 dX3_closesFrom_132 (by decide) ?_
          have e1 : rg_loop (rg_fr (rg_b B) (I 3) 3) r (n9 + 1) j = rg_loop (rg_fr (rg_b B) (I 3) 3) r n9 (j + 1) := by
            rw [rg_loop, if_pos c3]
          rw [e1] at K1 K0
          refine g_lv (lv' := [(6, .int (iI (j + 1))), (5, .int (iI (B (A 2 3).toNat (A 2 0).toNat))), (4, .int (iI (A 2 3))), (3, .int (iI (A 2 0))), (0, .ref (q 99)), (1, .int (iI 4)), (2, .int (iI tog))]) [0, 2, 3, 4, 5, 6, 7] rfl ?_
          exact ih (j + 1) R (by omega) (by omega) hsR hpre K1 K0
set_option maxRecDepth 100000 in
set_option maxHeartbeats 4000000 in
theorem c_X3_closesFrom_4 (l : Launch) (D : va_G) (Y : Nat → ClassId) {E : (Nat → Prop) → State → Heap → Prop} (hE : g_Stab E) (q : Nat → Nat) (I : Nat → Int) (A : Nat → Nat → Int) (B : Nat → Nat → Int) (tog : Int) (r : List Int) (hsI : smI I) (hsA : smA A) (hsB : okB B) (hn : 2 ≤ I 3 ∧ I 3 ≤ 8) (hr : rg_at (A 2) r) (hL : r.length = 4) (hin : ∀ x ∈ r, 0 ≤ x ∧ x < I 3) (hnd : r.Nodup) (htog : tog = rg_es B r) (hok : rg_ok B r = true) : g_Ct l yX3_closesFrom cX3_closesFrom 8 (some FieldType.boolean) ({ frames := 5, cells := 0, slots := 0, locals := 131 } : Room) D (tysY Y) E [.ref (q 99), .int (iI 4), .int (iI tog)] (wPlan q Y I A B) 0 0 (fun r9 w9 => ∃ R : Nat → Int, smR R ∧ ((r9 = some (.int (iI 1)) ∧ ∃ r2 : List Int, rg_fr (rg_b B) (I 3) 4 r = some r2 ∧ rg_at R r2 ∧ r2.length ≤ 8 ∧ w9 = wPlan q Y (sU I 4 (r2.length : Int)) (sU A 2 R) B) ∨ (r9 = some (.int (iI 0)) ∧ rg_fr (rg_b B) (I 3) 4 r = none ∧ (∀ k, k < 4 → R k = A 2 k) ∧ w9 = wPlan q Y I (sU A 2 R) B))) := by
  refine g_ofG (own := RX3) hE (by decide) rfl (Nat.le_of_ble_eq_true rfl) [(0, .ref (q 99)), (1, .int (iI 4)), (2, .int (iI tog))] rfl ?_
  intro p9 e9 s9 m9 b9 t9 c9 A9 C hr9 hlk hnm
  have hI := hsI
  have hA := hsA
  have hB := hsB
  unfold smI at hI
  unfold smA at hA
  unfold okB at hB
  have hF := rg_at_f hr (by omega)
  have hLs := rg_at_l hr (by omega)
  rw [hL] at hLs
  have hLs : A 2 3 = rg_l r := hLs
  have hFr := hin _ (rg_f_mem (by omega))
  have hLr := hin _ (rg_l_mem (by omega))
  rw [← hF] at hFr
  rw [← hLs] at hLr
  have hes := rg_es_r hsB hok
  rw [hL] at hes
  refine g_aload_n C (n' := 1) 0 rfl dX3_closesFrom_0 rfl rfl ?_
  refine g_get C (n' := 4) (Cn := RX3) (T := TX3) (N := 7) (ci := 2) (v := .ref (q 2)) ga_X3 0 rfl rfl 2 (by decide) kw_141 rfl rfl dX3_closesFrom_1 rfl ?_
  refine g_iconst C (n' := 5) dX3_closesFrom_4 rfl ?_
  refine g_ialdN C (n' := 6) (f := (A 2)) (j := 0) 3 0 rfl rfl (by omega) (by decide) rfl dX3_closesFrom_5 rfl ?_
  have h_5 := hA 2 0
  refine g_istore_n C (n' := 7) [(3, .int (iI ((A 2) 0))), (0, .ref (q 99)), (1, .int (iI 4)), (2, .int (iI tog))] dX3_closesFrom_6 rfl rfl (by decide) rfl ?_
  refine g_aload_n C (n' := 8) 1 rfl dX3_closesFrom_7 rfl rfl ?_
  refine g_get C (n' := 11) (Cn := RX3) (T := TX3) (N := 7) (ci := 2) (v := .ref (q 2)) ga_X3 0 rfl rfl 2 (by decide) kw_141 rfl rfl dX3_closesFrom_8 rfl ?_
  refine g_iload_n C (n' := 12) 2 rfl dX3_closesFrom_11 rfl rfl ?_
  refine g_iconst C (n' := 13) dX3_closesFrom_12 rfl ?_
  refine g_isub C (n' := 14) dX3_closesFrom_13 rfl ?_
  refine g_st (st' := [.int (iI 3), .ref (q 2)]) rfl ?_
  refine g_ialdN C (n' := 15) (f := (A 2)) (j := 3) 3 0 rfl rfl (by omega) (by decide) rfl dX3_closesFrom_14 rfl ?_
  have h_14 := hA 2 3
  refine g_istore C (n' := 17) [(4, .int (iI ((A 2) 3))), (3, .int (iI ((A 2) 0))), (0, .ref (q 99)), (1, .int (iI 4)), (2, .int (iI tog))] dX3_closesFrom_15 rfl (by decide) rfl ?_
  refine g_aload_n C (n' := 18) 2 rfl dX3_closesFrom_17 rfl rfl ?_
  refine g_get C (n' := 21) (Cn := RX3) (T := TX3) (N := 7) (ci := 2) (v := .ref (q 0)) ga_X3 0 rfl rfl 0 (by decide) kw_139 rfl rfl dX3_closesFrom_18 rfl ?_
  refine g_iload C (n' := 23) 0 rfl dX3_closesFrom_21 rfl ?_
  refine g_aalA C (n' := 24) (v := q (20 + ((A 2) 3).toNat)) 1 7 rfl rfl (by omega) (by omega) (by decide) (if_pos (by omega)) dX3_closesFrom_23 rfl ?_
  refine g_iload_n C (n' := 25) 1 rfl dX3_closesFrom_24 rfl rfl ?_
  refine g_iald C (n' := 26) (4 + ((A 2) 3).toNat) 0 (pl_row (by omega)) rfl (by omega) (by omega) (by decide) rfl dX3_closesFrom_25 rfl ?_
  have hb_25 := hB (((A 2) 3).toNat) (((A 2) 0).toNat)
  refine g_istore C (n' := 28) [(5, .int (iI (B (((A 2) 3).toNat) (((A 2) 0).toNat)))), (4, .int (iI ((A 2) 3))), (3, .int (iI ((A 2) 0))), (0, .ref (q 99)), (1, .int (iI 4)), (2, .int (iI tog))] dX3_closesFrom_26 rfl (by decide) rfl ?_
  refine g_iload C (n' := 30) 0 rfl dX3_closesFrom_28 rfl ?_
  refine g_ldc C (n' := 32) 1000000000 (by decide) kw_455 dX3_closesFrom_30 rfl ?_
  refine g_icmp_eq C (n' := 35) 49 dX3_closesFrom_32 (by decide) rfl (by unfold inR; omega) (by unfold inR; omega) (fun c1 => ?_) (fun c1 => ?_)
  · skip
    refine g_iload_n C (n' := 50) 4 rfl dX3_closesFrom_49 rfl rfl ?_
    refine g_aload_n C (n' := 51) 3 rfl dX3_closesFrom_50 rfl rfl ?_
    refine g_get C (n' := 54) (Cn := RX3) (T := TX3) (N := 7) (ci := 2) (v := .int (iI (I 3))) ga_X3 0 rfl rfl 3 (by decide) kw_142 rfl rfl dX3_closesFrom_51 rfl ?_
    have h_51 := hI 3
    refine g_icmp_lt C (n' := 57) 59 dX3_closesFrom_54 (by decide) rfl (by unfold inR; omega) (by unfold inR; omega) (fun c2 => ?_) (fun c2 => ?_)
    · skip
      refine g_iload_n C (n' := 60) 2 rfl dX3_closesFrom_59 rfl rfl ?_
      refine g_iconst C (n' := 61) dX3_closesFrom_60 rfl ?_
      refine g_iadd C (n' := 62) dX3_closesFrom_61 rfl ?_
      refine g_istore C (n' := 64) [(6, .int (iI (((A 2) 0) + 1))), (5, .int (iI (B (((A 2) 3).toNat) (((A 2) 0).toNat)))), (4, .int (iI ((A 2) 3))), (3, .int (iI ((A 2) 0))), (0, .ref (q 99)), (1, .int (iI 4)), (2, .int (iI tog))] dX3_closesFrom_62 rfl (by decide) rfl ?_
      have hb : ¬ rg_b B r = true := fun z => by
        have z2 := (rg_b_of hok (x := (B (A 2 3).toNat (A 2 0).toNat)) (by rw [← hF, ← hLs])).mp z
        omega
      refine g_wd (w' := (wPlan q Y I (sU A 2 (A 2)) B)) (by rw [sU_id]) ?_
      refine g_lv (lv' := [(6, .int (iI (((A 2) 0) + 1))), (5, .int (iI (B (A 2 3).toNat (A 2 0).toNat))), (4, .int (iI (A 2 3))), (3, .int (iI (A 2 0))), (0, .ref (q 99)), (1, .int (iI 4)), (2, .int (iI tog))]) [0, 1, 2, 3, 4, 5, 6] rfl ?_
      refine lp_X3_cl_4 C q I A B tog r hsI hsA hsB hn hr hL hin hnd htog hok (I 3 - (A 2 0 + 1)).toNat (A 2 0 + 1) (A 2) (by omega) (by omega) (hsA 2) (fun _ _ => rfl) (fun R r2 hfr hsR hat hle => ?_) (fun R hfr hsR hpre => ?_)
      · skip
        refine g_iconst C (n' := 128) dX3_closesFrom_127 rfl ?_
        exact g_iret C hr9 hlk (nar_z (by omega)) ⟨R, hsR, Or.inl ⟨rfl, r2, by rw [rg_miss hb, ← hF]; exact hfr, hat, hle, rfl⟩⟩ dX3_closesFrom_128
      · skip
        refine g_iconst C (n' := 136) dX3_closesFrom_135 rfl ?_
        exact g_iret C hr9 hlk (nar_z (by omega)) ⟨R, hsR, Or.inr ⟨rfl, by rw [rg_miss hb, ← hF]; exact hfr, hpre, rfl⟩⟩ dX3_closesFrom_136
    · skip
      refine g_iconst C (n' := 58) dX3_closesFrom_57 rfl ?_
      have hb : ¬ rg_b B r = true := fun z => by
        have z2 := (rg_b_of hok (x := (B (A 2 3).toNat (A 2 0).toNat)) (by rw [← hF, ← hLs])).mp z
        omega
      exact g_iret C hr9 hlk (nar_z (by omega)) ⟨A 2, hsA 2, Or.inr ⟨rfl, by rw [rg_miss hb, ← hF]; exact rg_loop_full (n := I 3) (fun j h0 h1 => rg_full hnd hin (by omega) ⟨h0, h1⟩) _ _ (by omega) (by omega), fun _ _ => rfl, by rw [sU_id]⟩⟩ dX3_closesFrom_58
  · skip
    refine g_iload_n C (n' := 36) 5 rfl dX3_closesFrom_35 rfl rfl ?_
    refine g_iload C (n' := 38) 0 rfl dX3_closesFrom_36 rfl ?_
    refine g_iadd C (n' := 39) dX3_closesFrom_38 rfl ?_
    refine g_if_ge C (n' := 42) 49 dX3_closesFrom_39 (by decide) rfl (by unfold inR; omega) (fun c3 => ?_) (fun c3 => ?_)
    · skip
      refine g_iload_n C (n' := 50) 4 rfl dX3_closesFrom_49 rfl rfl ?_
      refine g_aload_n C (n' := 51) 3 rfl dX3_closesFrom_50 rfl rfl ?_
      refine g_get C (n' := 54) (Cn := RX3) (T := TX3) (N := 7) (ci := 2) (v := .int (iI (I 3))) ga_X3 0 rfl rfl 3 (by decide) kw_142 rfl rfl dX3_closesFrom_51 rfl ?_
      have h_51 := hI 3
      refine g_icmp_lt C (n' := 57) 59 dX3_closesFrom_54 (by decide) rfl (by unfold inR; omega) (by unfold inR; omega) (fun c4 => ?_) (fun c4 => ?_)
      · skip
        refine g_iload_n C (n' := 60) 2 rfl dX3_closesFrom_59 rfl rfl ?_
        refine g_iconst C (n' := 61) dX3_closesFrom_60 rfl ?_
        refine g_iadd C (n' := 62) dX3_closesFrom_61 rfl ?_
        refine g_istore C (n' := 64) [(6, .int (iI (((A 2) 0) + 1))), (5, .int (iI (B (((A 2) 3).toNat) (((A 2) 0).toNat)))), (4, .int (iI ((A 2) 3))), (3, .int (iI ((A 2) 0))), (0, .ref (q 99)), (1, .int (iI 4)), (2, .int (iI tog))] dX3_closesFrom_62 rfl (by decide) rfl ?_
        have hb : ¬ rg_b B r = true := fun z => by
          have z2 := (rg_b_of hok (x := (B (A 2 3).toNat (A 2 0).toNat)) (by rw [← hF, ← hLs])).mp z
          omega
        refine g_wd (w' := (wPlan q Y I (sU A 2 (A 2)) B)) (by rw [sU_id]) ?_
        refine g_lv (lv' := [(6, .int (iI (((A 2) 0) + 1))), (5, .int (iI (B (A 2 3).toNat (A 2 0).toNat))), (4, .int (iI (A 2 3))), (3, .int (iI (A 2 0))), (0, .ref (q 99)), (1, .int (iI 4)), (2, .int (iI tog))]) [0, 1, 2, 3, 4, 5, 6] rfl ?_
        refine lp_X3_cl_4 C q I A B tog r hsI hsA hsB hn hr hL hin hnd htog hok (I 3 - (A 2 0 + 1)).toNat (A 2 0 + 1) (A 2) (by omega) (by omega) (hsA 2) (fun _ _ => rfl) (fun R r2 hfr hsR hat hle => ?_) (fun R hfr hsR hpre => ?_)
        · skip
          refine g_iconst C (n' := 128) dX3_closesFrom_127 rfl ?_
          exact g_iret C hr9 hlk (nar_z (by omega)) ⟨R, hsR, Or.inl ⟨rfl, r2, by rw [rg_miss hb, ← hF]; exact hfr, hat, hle, rfl⟩⟩ dX3_closesFrom_128
        · skip
          refine g_iconst C (n' := 136) dX3_closesFrom_135 rfl ?_
          exact g_iret C hr9 hlk (nar_z (by omega)) ⟨R, hsR, Or.inr ⟨rfl, by rw [rg_miss hb, ← hF]; exact hfr, hpre, rfl⟩⟩ dX3_closesFrom_136
      · skip
        refine g_iconst C (n' := 58) dX3_closesFrom_57 rfl ?_
        have hb : ¬ rg_b B r = true := fun z => by
          have z2 := (rg_b_of hok (x := (B (A 2 3).toNat (A 2 0).toNat)) (by rw [← hF, ← hLs])).mp z
          omega
        exact g_iret C hr9 hlk (nar_z (by omega)) ⟨A 2, hsA 2, Or.inr ⟨rfl, by rw [rg_miss hb, ← hF]; exact rg_loop_full (n := I 3) (fun j h0 h1 => rg_full hnd hin (by omega) ⟨h0, h1⟩) _ _ (by omega) (by omega), fun _ _ => rfl, by rw [sU_id]⟩⟩ dX3_closesFrom_58
    · skip
      refine g_aload_n C (n' := 43) 3 rfl dX3_closesFrom_42 rfl rfl ?_
      refine g_iload_n C (n' := 44) 4 rfl dX3_closesFrom_43 rfl rfl ?_
      refine g_put C (n' := 47) (Cn := RX3) (T := TX3) (N := 7) (ci := 2) (v := .int (iI 4)) ga_X3 0 rfl rfl 4 (by decide) kw_143 rfl tyX3 tyX3_ok nmX3 rfl rfl rfl rfl (Nat.le_of_ble_eq_true rfl) (wPlan q Y (sU I 4 4) A B) rfl dX3_closesFrom_44 rfl ?_
      refine g_iconst C (n' := 48) dX3_closesFrom_47 rfl ?_
      have hb : rg_b B r = true := (rg_b_of hok (x := (B (A 2 3).toNat (A 2 0).toNat)) (by rw [← hF, ← hLs])).mpr ⟨by omega, by omega⟩
      exact g_iret C hr9 hlk (nar_z (by omega)) ⟨A 2, hsA 2, Or.inl ⟨rfl, r, rg_hit hb _, hr, by omega, by rw [sU_id, hL]; rfl⟩⟩ dX3_closesFrom_48
set_option maxRecDepth 100000 in
set_option maxHeartbeats 4000000 in
theorem lp_X3_cl_3 {p9 : Program} {l : Launch} {e9 : Env} {s9 : State} {m9 : MethodId} {a9 : Array Value} {b9 : List Frame} {t9 : Method} {c9 : Code} {D : va_G} {A9 : Nat → Prop} {Q9 : State → Prop} {E : (Nat → Prop) → State → Heap → Prop} {Y : Nat → ClassId} (C : g_Cx p9 s9 m9 a9 c9 cX3_closesFrom 8 RX3 D (tysY Y) A9 E) (q : Nat → Nat) (I : Nat → Int) (A B : Nat → Nat → Int) (tog : Int) (r : List Int) (hsI : smI I) (hsA : smA A) (hsB : okB B) (hn : 2 ≤ I 3 ∧ I 3 ≤ 8) (hr : rg_at (A 2) r) (hL : r.length = 3) (hin : ∀ x ∈ r, 0 ≤ x ∧ x < I 3) (hnd : r.Nodup) (htog : tog = rg_es B r) (hok : rg_ok B r = true) : ∀ (n9 : Nat) (j : Int) (R : Nat → Int), A 2 0 < j → j + n9 = I 3 → smR R → (∀ k, k < 3 → R k = A 2 k) → (∀ (R : Nat → Int) (r2 : List Int), rg_loop (rg_fr (rg_b B) (I 3) 4) r n9 j = some r2 → smR R → rg_at R r2 → r2.length ≤ 8 → g_G p9 l e9 ({ frames := 6, cells := 0, slots := 0, locals := 158 } : Room) s9 m9 a9 b9 t9 c9 8 D A9 Q9 0 0 (wPlan q Y (sU I 4 (r2.length : Int)) (sU A 2 R) B) [(0, .ref (q 99))] 127 []) → (∀ R : Nat → Int, rg_loop (rg_fr (rg_b B) (I 3) 4) r n9 j = none → smR R → (∀ k, k < 3 → R k = A 2 k) → g_G p9 l e9 ({ frames := 6, cells := 0, slots := 0, locals := 158 } : Room) s9 m9 a9 b9 t9 c9 8 D A9 Q9 0 0 (wPlan q Y I (sU A 2 R) B) [(0, .ref (q 99))] 135 []) → g_G p9 l e9 ({ frames := 6, cells := 0, slots := 0, locals := 158 } : Room) s9 m9 a9 b9 t9 c9 8 D A9 Q9 0 0 (wPlan q Y I (sU A 2 R) B) [(6, .int (iI j)), (5, .int (iI (B (A 2 2).toNat (A 2 0).toNat))), (4, .int (iI (A 2 2))), (3, .int (iI (A 2 0))), (0, .ref (q 99)), (1, .int (iI 3)), (2, .int (iI tog))] 64 [] := by
  have hE := C.2.2.2.2.2.2.2.2.1
  intro n9
  induction n9 with
  | zero =>
    intro j R hj hjn hsR hpre K1 K0
    have hI := hsI
    have hA := hsA
    have hB := hsB
    unfold smI at hI
    unfold smA at hA
    unfold okB at hB
    have hF := rg_at_f hr (by omega)
    have hLs := rg_at_l hr (by omega)
    rw [hL] at hLs
    have hLs : A 2 2 = rg_l r := hLs
    have hFr := hin _ (rg_f_mem (by omega))
    have hLr := hin _ (rg_l_mem (by omega))
    rw [← hF] at hFr
    rw [← hLs] at hLr
    have hes := rg_es_r hsB hok
    rw [hL] at hes
    have hRA : smA (sU A 2 R) := sm_putA hsA hsR
    have hR9 := hsR
    unfold smR at hR9
    refine g_iload C (n' := 66) 0 rfl dX3_closesFrom_64 rfl ?_
    refine g_aload_n C (n' := 67) 4 rfl dX3_closesFrom_66 rfl rfl ?_
    refine g_get C (n' := 70) (Cn := RX3) (T := TX3) (N := 7) (ci := 2) (v := .int (iI (I 3))) ga_X3 0 rfl rfl 3 (by decide) kw_142 rfl rfl dX3_closesFrom_67 rfl ?_
    have h_67 := hI 3
    refine g_icmp_ge C (n' := 73) 135 dX3_closesFrom_70 (by decide) rfl (by unfold inR; omega) (by unfold inR; omega) (fun c1 => ?_) (fun c1 => ?_)
    · skip
      refine g_lv [4] rfl ?_
      exact K0 R rfl hsR hpre
    · skip
      exfalso
      omega
  | succ n9 ih =>
    intro j R hj hjn hsR hpre K1 K0
    have hI := hsI
    have hA := hsA
    have hB := hsB
    unfold smI at hI
    unfold smA at hA
    unfold okB at hB
    have hF := rg_at_f hr (by omega)
    have hLs := rg_at_l hr (by omega)
    rw [hL] at hLs
    have hLs : A 2 2 = rg_l r := hLs
    have hFr := hin _ (rg_f_mem (by omega))
    have hLr := hin _ (rg_l_mem (by omega))
    rw [← hF] at hFr
    rw [← hLs] at hLr
    have hes := rg_es_r hsB hok
    rw [hL] at hes
    have hRA : smA (sU A 2 R) := sm_putA hsA hsR
    have hR9 := hsR
    unfold smR at hR9
    refine g_iload C (n' := 66) 0 rfl dX3_closesFrom_64 rfl ?_
    refine g_aload_n C (n' := 67) 4 rfl dX3_closesFrom_66 rfl rfl ?_
    refine g_get C (n' := 70) (Cn := RX3) (T := TX3) (N := 7) (ci := 2) (v := .int (iI (I 3))) ga_X3 0 rfl rfl 3 (by decide) kw_142 rfl rfl dX3_closesFrom_67 rfl ?_
    have h_67 := hI 3
    refine g_icmp_ge C (n' := 73) 135 dX3_closesFrom_70 (by decide) rfl (by unfold inR; omega) (by unfold inR; omega) (fun c1 => ?_) (fun c1 => ?_)
    · skip
      exfalso
      omega
    · skip
      refine g_aload_n C (n' := 74) 4 rfl dX3_closesFrom_73 rfl rfl ?_
      refine g_get C (n' := 77) (Cn := RX3) (T := TX3) (N := 7) (ci := 2) (v := .ref (q 0)) ga_X3 0 rfl rfl 0 (by decide) kw_139 rfl rfl dX3_closesFrom_74 rfl ?_
      refine g_iload C (n' := 79) 2 rfl dX3_closesFrom_77 rfl ?_
      refine g_aalA C (n' := 80) (v := q (20 + (A 2 2).toNat)) 1 7 rfl rfl (by omega) (by omega) (by decide) (if_pos (by omega)) dX3_closesFrom_79 rfl ?_
      refine g_iload C (n' := 82) 0 rfl dX3_closesFrom_80 rfl ?_
      refine g_iald C (n' := 83) (4 + (A 2 2).toNat) 0 (pl_row (by omega)) rfl (by omega) (by omega) (by decide) rfl dX3_closesFrom_82 rfl ?_
      have hb_82 := hB ((A 2 2).toNat) j.toNat
      refine g_istore C (n' := 85) [(7, .int (iI (B ((A 2 2).toNat) j.toNat))), (6, .int (iI j)), (5, .int (iI (B (A 2 2).toNat (A 2 0).toNat))), (4, .int (iI (A 2 2))), (3, .int (iI (A 2 0))), (0, .ref (q 99)), (1, .int (iI 3)), (2, .int (iI tog))] dX3_closesFrom_83 rfl (by decide) rfl ?_
      refine g_iload C (n' := 87) 0 rfl dX3_closesFrom_85 rfl ?_
      refine g_ldc C (n' := 89) 1000000000 (by decide) kw_455 dX3_closesFrom_87 rfl ?_
      refine g_icmp_eq C (n' := 92) 129 dX3_closesFrom_89 (by decide) rfl (by unfold inR; omega) (by unfold inR; omega) (fun c2 => ?_) (fun c2 => ?_)
      · skip
        refine g_iinc C (n' := 132) 1 [(6, .int (iI (j + 1))), (7, .int (iI (B ((A 2 2).toNat) j.toNat))), (5, .int (iI (B (A 2 2).toNat (A 2 0).toNat))), (4, .int (iI (A 2 2))), (3, .int (iI (A 2 0))), (0, .ref (q 99)), (1, .int (iI 3)), (2, .int (iI tog))] rfl dX3_closesFrom_129 rfl (by decide) rfl ?_
        refine g_goto C 64 dX3_closesFrom_132 (by decide) ?_
        have e1 : rg_loop (rg_fr (rg_b B) (I 3) 4) r (n9 + 1) j = rg_loop (rg_fr (rg_b B) (I 3) 4) r n9 (j + 1) := by
          have ho : rg_ok B (r ++ [j]) = false := by rw [rg_ok_app B j (fun q => by rw [q] at hL; cases hL), ← hLs, c2]; simp
          rw [rg_loop, rg_fr_none _ (r ++ [j]) (by simp) ho]
          split <;> rfl
        rw [e1] at K1 K0
        refine g_lv (lv' := [(6, .int (iI (j + 1))), (5, .int (iI (B (A 2 2).toNat (A 2 0).toNat))), (4, .int (iI (A 2 2))), (3, .int (iI (A 2 0))), (0, .ref (q 99)), (1, .int (iI 3)), (2, .int (iI tog))]) [0, 2, 3, 4, 5, 6, 7] rfl ?_
        exact ih (j + 1) R (by omega) (by omega) hsR hpre K1 K0
      · skip
        refine g_aload_n C (n' := 93) 5 rfl dX3_closesFrom_92 rfl rfl ?_
        refine g_iload C (n' := 95) 1 rfl dX3_closesFrom_93 rfl ?_
        refine g_iload_n C (n' := 96) 6 rfl dX3_closesFrom_95 rfl rfl ?_
        refine g_cVv C (n' := 99) (v := .int (iI (if j ∈ r then 1 else 0))) (c_X3_isInRing l D Y C.2.2.2.2.2.2.2.2.1 q I (sU A 2 R) B j 3 r hsI hRA hsB (by unfold inR; omega) (rg_at_pre hr (fun k hk => hpre k (by omega))) (by omega) (by omega)) 2 kw_537 kc_X3_isInRing (by decide +kernel) (pm0 _) 0 (ci := 2) rfl rfl rfl rfl ⟨Nat.le_of_ble_eq_true rfl, Nat.le_of_ble_eq_true rfl⟩ ⟨rfl, rfl⟩ ⟨Nat.le_of_ble_eq_true rfl, Nat.le_of_ble_eq_true rfl⟩ (Nat.le_of_ble_eq_true rfl) dX3_closesFrom_96 rfl rfl (wPlan q Y I (sU A 2 R) B) (pm0' _) ?_
        refine g_if_eq C (n' := 102) 105 dX3_closesFrom_99 (by decide) rfl bz_r (fun c3 => ?_) (fun c3 => ?_)
        · skip
          replace c3 := bz_eq.mp c3
          refine g_aload_n C (n' := 106) 5 rfl dX3_closesFrom_105 rfl rfl ?_
          refine g_get C (n' := 109) (Cn := RX3) (T := TX3) (N := 7) (ci := 2) (v := .ref (q 2)) ga_X3 0 rfl rfl 2 (by decide) kw_141 rfl rfl dX3_closesFrom_106 rfl ?_
          refine g_iload_n C (n' := 110) 6 rfl dX3_closesFrom_109 rfl rfl ?_
          refine g_iload C (n' := 112) 1 rfl dX3_closesFrom_110 rfl ?_
          refine g_iastN C (n' := 113) (f := R) (j := 3) 3 0 rfl rfl (by omega) (by decide) rfl dX3_closesFrom_112 rfl (wPlan q Y I (sU A 2 (sU R 3 j)) B) rfl ?_
          refine g_aload_n C (n' := 114) 5 rfl dX3_closesFrom_113 rfl rfl ?_
          refine g_iload_n C (n' := 115) 6 rfl dX3_closesFrom_114 rfl rfl ?_
          refine g_iconst C (n' := 116) dX3_closesFrom_115 rfl ?_
          refine g_iadd C (n' := 117) dX3_closesFrom_116 rfl ?_
          refine g_st (st' := [.int (iI 4), .ref (q 99)]) rfl ?_
          refine g_iload_n C (n' := 118) 7 rfl dX3_closesFrom_117 rfl rfl ?_
          refine g_iload C (n' := 120) 0 rfl dX3_closesFrom_118 rfl ?_
          refine g_iadd C (n' := 121) dX3_closesFrom_120 rfl ?_
          refine g_callV C (n' := 124) (c_X3_closesFrom_4 l D Y C.2.2.2.2.2.2.2.2.1 q I (sU A 2 (sU R 3 j)) B (tog + (B ((A 2 2).toNat) j.toNat)) (r ++ [j]) hsI (sm_putA hsA (sm_putR hsR (by omega))) hsB hn (by have := rg_at_app (rg_at_pre hr (fun k hk => hpre k (by omega))) j; rw [hL] at this; exact this) (by rw [List.length_append, hL]; rfl) (ring_in hin (by omega) (by omega)) (ring_nd hnd c3) (by rw [rg_es_app B j (fun q => by rw [q] at hL; cases hL), ← hLs, htog]) (by rw [rg_ok_app B j (fun q => by rw [q] at hL; cases hL), ← hLs, hok]; simpa using c2)) 2 kw_533 kc_X3_closesFrom (by decide +kernel) (pm0 _) 0 (ci := 2) rfl rfl rfl rfl ⟨Nat.le_of_ble_eq_true rfl, Nat.le_of_ble_eq_true rfl⟩ ⟨rfl, rfl⟩ ⟨Nat.le_of_ble_eq_true rfl, Nat.le_of_ble_eq_true rfl⟩ (Nat.le_of_ble_eq_true rfl) dX3_closesFrom_121 rfl (fun r9 w9 hp4 => ?_)
          obtain ⟨R5, hsR5, (⟨rfl, r6, q1, q2, q3, rfl⟩ | ⟨rfl, q1, q2, rfl⟩)⟩ := hp4
          · skip
            have hcR5 := And.intro q1 (And.intro q2 q3)
            refine g_perm (w' := (wPlan q Y (sU I 4 (r6.length : Int)) (sU A 2 R5) B)) (pm0' _) ?_
            refine g_st (st' := [.int (iI 1)]) rfl ?_
            refine g_if_eq C (n' := 127) 129 dX3_closesFrom_124 (by decide) rfl (by unfold inR; omega) (fun c7 => ?_) (fun c7 => ?_)
            · skip
              exfalso
              omega
            · skip
              refine g_lv [5] rfl ?_
              exact K1 R5 r6 (by rw [rg_loop, if_neg c3, hcR5.1]) hsR5 hcR5.2.1 hcR5.2.2
          · skip
            have hcR5 := And.intro q1 q2
            refine g_perm (w' := (wPlan q Y I (sU A 2 R5) B)) (pm0' _) ?_
            refine g_st (st' := [.int (iI 0)]) rfl ?_
            refine g_if_eq C (n' := 127) 129 dX3_closesFrom_124 (by decide) rfl (by unfold inR; omega) (fun c8 => ?_) (fun c8 => ?_)
            · skip
              refine g_iinc C (n' := 132) 1 [(6, .int (iI (j + 1))), (7, .int (iI (B ((A 2 2).toNat) j.toNat))), (5, .int (iI (B (A 2 2).toNat (A 2 0).toNat))), (4, .int (iI (A 2 2))), (3, .int (iI (A 2 0))), (0, .ref (q 99)), (1, .int (iI 3)), (2, .int (iI tog))] rfl dX3_closesFrom_129 rfl (by decide) rfl ?_
              refine g_goto C 64 dX3_closesFrom_132 (by decide) ?_
              have e1 : rg_loop (rg_fr (rg_b B) (I 3) 4) r (n9 + 1) j = rg_loop (rg_fr (rg_b B) (I 3) 4) r n9 (j + 1) := by
                rw [rg_loop, if_neg c3, hcR5.1]
              rw [e1] at K1 K0
              refine g_lv (lv' := [(6, .int (iI (j + 1))), (5, .int (iI (B (A 2 2).toNat (A 2 0).toNat))), (4, .int (iI (A 2 2))), (3, .int (iI (A 2 0))), (0, .ref (q 99)), (1, .int (iI 3)), (2, .int (iI tog))]) [0, 2, 3, 4, 5, 6, 7] rfl ?_
              exact ih (j + 1) R5 (by omega) (by omega) hsR5 (fun k hk => (hcR5.2 k (by omega)).trans ((show sU R 3 j k = R k from sU_n _ _ (by omega)).trans (hpre k hk))) K1 K0
            · skip
              exfalso
              omega
        · skip
          replace c3 := bz_neq.mp c3
          refine g_goto C 129 dX3_closesFrom_102 (by decide) ?_
          refine g_iinc C (n' := 132) 1 [(6, .int (iI (j + 1))), (7, .int (iI (B ((A 2 2).toNat) j.toNat))), (5, .int (iI (B (A 2 2).toNat (A 2 0).toNat))), (4, .int (iI (A 2 2))), (3, .int (iI (A 2 0))), (0, .ref (q 99)), (1, .int (iI 3)), (2, .int (iI tog))] rfl dX3_closesFrom_129 rfl (by decide) rfl ?_
          refine g_goto C 64 dX3_closesFrom_132 (by decide) ?_
          have e1 : rg_loop (rg_fr (rg_b B) (I 3) 4) r (n9 + 1) j = rg_loop (rg_fr (rg_b B) (I 3) 4) r n9 (j + 1) := by
            rw [rg_loop, if_pos c3]
          rw [e1] at K1 K0
          refine g_lv (lv' := [(6, .int (iI (j + 1))), (5, .int (iI (B (A 2 2).toNat (A 2 0).toNat))), (4, .int (iI (A 2 2))), (3, .int (iI (A 2 0))), (0, .ref (q 99)), (1, .int (iI 3)), (2, .int (iI tog))]) [0, 2, 3, 4, 5, 6, 7] rfl ?_
          exact ih (j + 1) R (by omega) (by omega) hsR hpre K1 K0
set_option maxRecDepth 100000 in
set_option maxHeartbeats 4000000 in
theorem c_X3_closesFrom_3 (l : Launch) (D : va_G) (Y : Nat → ClassId) {E : (Nat → Prop) → State → Heap → Prop} (hE : g_Stab E) (q : Nat → Nat) (I : Nat → Int) (A : Nat → Nat → Int) (B : Nat → Nat → Int) (tog : Int) (r : List Int) (hsI : smI I) (hsA : smA A) (hsB : okB B) (hn : 2 ≤ I 3 ∧ I 3 ≤ 8) (hr : rg_at (A 2) r) (hL : r.length = 3) (hin : ∀ x ∈ r, 0 ≤ x ∧ x < I 3) (hnd : r.Nodup) (htog : tog = rg_es B r) (hok : rg_ok B r = true) : g_Ct l yX3_closesFrom cX3_closesFrom 8 (some FieldType.boolean) ({ frames := 6, cells := 0, slots := 0, locals := 158 } : Room) D (tysY Y) E [.ref (q 99), .int (iI 3), .int (iI tog)] (wPlan q Y I A B) 0 0 (fun r9 w9 => ∃ R : Nat → Int, smR R ∧ ((r9 = some (.int (iI 1)) ∧ ∃ r2 : List Int, rg_fr (rg_b B) (I 3) 5 r = some r2 ∧ rg_at R r2 ∧ r2.length ≤ 8 ∧ w9 = wPlan q Y (sU I 4 (r2.length : Int)) (sU A 2 R) B) ∨ (r9 = some (.int (iI 0)) ∧ rg_fr (rg_b B) (I 3) 5 r = none ∧ (∀ k, k < 3 → R k = A 2 k) ∧ w9 = wPlan q Y I (sU A 2 R) B))) := by
  refine g_ofG (own := RX3) hE (by decide) rfl (Nat.le_of_ble_eq_true rfl) [(0, .ref (q 99)), (1, .int (iI 3)), (2, .int (iI tog))] rfl ?_
  intro p9 e9 s9 m9 b9 t9 c9 A9 C hr9 hlk hnm
  have hI := hsI
  have hA := hsA
  have hB := hsB
  unfold smI at hI
  unfold smA at hA
  unfold okB at hB
  have hF := rg_at_f hr (by omega)
  have hLs := rg_at_l hr (by omega)
  rw [hL] at hLs
  have hLs : A 2 2 = rg_l r := hLs
  have hFr := hin _ (rg_f_mem (by omega))
  have hLr := hin _ (rg_l_mem (by omega))
  rw [← hF] at hFr
  rw [← hLs] at hLr
  have hes := rg_es_r hsB hok
  rw [hL] at hes
  refine g_aload_n C (n' := 1) 0 rfl dX3_closesFrom_0 rfl rfl ?_
  refine g_get C (n' := 4) (Cn := RX3) (T := TX3) (N := 7) (ci := 2) (v := .ref (q 2)) ga_X3 0 rfl rfl 2 (by decide) kw_141 rfl rfl dX3_closesFrom_1 rfl ?_
  refine g_iconst C (n' := 5) dX3_closesFrom_4 rfl ?_
  refine g_ialdN C (n' := 6) (f := (A 2)) (j := 0) 3 0 rfl rfl (by omega) (by decide) rfl dX3_closesFrom_5 rfl ?_
  have h_5 := hA 2 0
  refine g_istore_n C (n' := 7) [(3, .int (iI ((A 2) 0))), (0, .ref (q 99)), (1, .int (iI 3)), (2, .int (iI tog))] dX3_closesFrom_6 rfl rfl (by decide) rfl ?_
  refine g_aload_n C (n' := 8) 1 rfl dX3_closesFrom_7 rfl rfl ?_
  refine g_get C (n' := 11) (Cn := RX3) (T := TX3) (N := 7) (ci := 2) (v := .ref (q 2)) ga_X3 0 rfl rfl 2 (by decide) kw_141 rfl rfl dX3_closesFrom_8 rfl ?_
  refine g_iload_n C (n' := 12) 2 rfl dX3_closesFrom_11 rfl rfl ?_
  refine g_iconst C (n' := 13) dX3_closesFrom_12 rfl ?_
  refine g_isub C (n' := 14) dX3_closesFrom_13 rfl ?_
  refine g_st (st' := [.int (iI 2), .ref (q 2)]) rfl ?_
  refine g_ialdN C (n' := 15) (f := (A 2)) (j := 2) 3 0 rfl rfl (by omega) (by decide) rfl dX3_closesFrom_14 rfl ?_
  have h_14 := hA 2 2
  refine g_istore C (n' := 17) [(4, .int (iI ((A 2) 2))), (3, .int (iI ((A 2) 0))), (0, .ref (q 99)), (1, .int (iI 3)), (2, .int (iI tog))] dX3_closesFrom_15 rfl (by decide) rfl ?_
  refine g_aload_n C (n' := 18) 2 rfl dX3_closesFrom_17 rfl rfl ?_
  refine g_get C (n' := 21) (Cn := RX3) (T := TX3) (N := 7) (ci := 2) (v := .ref (q 0)) ga_X3 0 rfl rfl 0 (by decide) kw_139 rfl rfl dX3_closesFrom_18 rfl ?_
  refine g_iload C (n' := 23) 0 rfl dX3_closesFrom_21 rfl ?_
  refine g_aalA C (n' := 24) (v := q (20 + ((A 2) 2).toNat)) 1 7 rfl rfl (by omega) (by omega) (by decide) (if_pos (by omega)) dX3_closesFrom_23 rfl ?_
  refine g_iload_n C (n' := 25) 1 rfl dX3_closesFrom_24 rfl rfl ?_
  refine g_iald C (n' := 26) (4 + ((A 2) 2).toNat) 0 (pl_row (by omega)) rfl (by omega) (by omega) (by decide) rfl dX3_closesFrom_25 rfl ?_
  have hb_25 := hB (((A 2) 2).toNat) (((A 2) 0).toNat)
  refine g_istore C (n' := 28) [(5, .int (iI (B (((A 2) 2).toNat) (((A 2) 0).toNat)))), (4, .int (iI ((A 2) 2))), (3, .int (iI ((A 2) 0))), (0, .ref (q 99)), (1, .int (iI 3)), (2, .int (iI tog))] dX3_closesFrom_26 rfl (by decide) rfl ?_
  refine g_iload C (n' := 30) 0 rfl dX3_closesFrom_28 rfl ?_
  refine g_ldc C (n' := 32) 1000000000 (by decide) kw_455 dX3_closesFrom_30 rfl ?_
  refine g_icmp_eq C (n' := 35) 49 dX3_closesFrom_32 (by decide) rfl (by unfold inR; omega) (by unfold inR; omega) (fun c1 => ?_) (fun c1 => ?_)
  · skip
    refine g_iload_n C (n' := 50) 4 rfl dX3_closesFrom_49 rfl rfl ?_
    refine g_aload_n C (n' := 51) 3 rfl dX3_closesFrom_50 rfl rfl ?_
    refine g_get C (n' := 54) (Cn := RX3) (T := TX3) (N := 7) (ci := 2) (v := .int (iI (I 3))) ga_X3 0 rfl rfl 3 (by decide) kw_142 rfl rfl dX3_closesFrom_51 rfl ?_
    have h_51 := hI 3
    refine g_icmp_lt C (n' := 57) 59 dX3_closesFrom_54 (by decide) rfl (by unfold inR; omega) (by unfold inR; omega) (fun c2 => ?_) (fun c2 => ?_)
    · skip
      refine g_iload_n C (n' := 60) 2 rfl dX3_closesFrom_59 rfl rfl ?_
      refine g_iconst C (n' := 61) dX3_closesFrom_60 rfl ?_
      refine g_iadd C (n' := 62) dX3_closesFrom_61 rfl ?_
      refine g_istore C (n' := 64) [(6, .int (iI (((A 2) 0) + 1))), (5, .int (iI (B (((A 2) 2).toNat) (((A 2) 0).toNat)))), (4, .int (iI ((A 2) 2))), (3, .int (iI ((A 2) 0))), (0, .ref (q 99)), (1, .int (iI 3)), (2, .int (iI tog))] dX3_closesFrom_62 rfl (by decide) rfl ?_
      have hb : ¬ rg_b B r = true := fun z => by
        have z2 := (rg_b_of hok (x := (B (A 2 2).toNat (A 2 0).toNat)) (by rw [← hF, ← hLs])).mp z
        omega
      refine g_wd (w' := (wPlan q Y I (sU A 2 (A 2)) B)) (by rw [sU_id]) ?_
      refine g_lv (lv' := [(6, .int (iI (((A 2) 0) + 1))), (5, .int (iI (B (A 2 2).toNat (A 2 0).toNat))), (4, .int (iI (A 2 2))), (3, .int (iI (A 2 0))), (0, .ref (q 99)), (1, .int (iI 3)), (2, .int (iI tog))]) [0, 1, 2, 3, 4, 5, 6] rfl ?_
      refine lp_X3_cl_3 C q I A B tog r hsI hsA hsB hn hr hL hin hnd htog hok (I 3 - (A 2 0 + 1)).toNat (A 2 0 + 1) (A 2) (by omega) (by omega) (hsA 2) (fun _ _ => rfl) (fun R r2 hfr hsR hat hle => ?_) (fun R hfr hsR hpre => ?_)
      · skip
        refine g_iconst C (n' := 128) dX3_closesFrom_127 rfl ?_
        exact g_iret C hr9 hlk (nar_z (by omega)) ⟨R, hsR, Or.inl ⟨rfl, r2, by rw [rg_miss hb, ← hF]; exact hfr, hat, hle, rfl⟩⟩ dX3_closesFrom_128
      · skip
        refine g_iconst C (n' := 136) dX3_closesFrom_135 rfl ?_
        exact g_iret C hr9 hlk (nar_z (by omega)) ⟨R, hsR, Or.inr ⟨rfl, by rw [rg_miss hb, ← hF]; exact hfr, hpre, rfl⟩⟩ dX3_closesFrom_136
    · skip
      refine g_iconst C (n' := 58) dX3_closesFrom_57 rfl ?_
      have hb : ¬ rg_b B r = true := fun z => by
        have z2 := (rg_b_of hok (x := (B (A 2 2).toNat (A 2 0).toNat)) (by rw [← hF, ← hLs])).mp z
        omega
      exact g_iret C hr9 hlk (nar_z (by omega)) ⟨A 2, hsA 2, Or.inr ⟨rfl, by rw [rg_miss hb, ← hF]; exact rg_loop_full (n := I 3) (fun j h0 h1 => rg_full hnd hin (by omega) ⟨h0, h1⟩) _ _ (by omega) (by omega), fun _ _ => rfl, by rw [sU_id]⟩⟩ dX3_closesFrom_58
  · skip
    refine g_iload_n C (n' := 36) 5 rfl dX3_closesFrom_35 rfl rfl ?_
    refine g_iload C (n' := 38) 0 rfl dX3_closesFrom_36 rfl ?_
    refine g_iadd C (n' := 39) dX3_closesFrom_38 rfl ?_
    refine g_if_ge C (n' := 42) 49 dX3_closesFrom_39 (by decide) rfl (by unfold inR; omega) (fun c3 => ?_) (fun c3 => ?_)
    · skip
      refine g_iload_n C (n' := 50) 4 rfl dX3_closesFrom_49 rfl rfl ?_
      refine g_aload_n C (n' := 51) 3 rfl dX3_closesFrom_50 rfl rfl ?_
      refine g_get C (n' := 54) (Cn := RX3) (T := TX3) (N := 7) (ci := 2) (v := .int (iI (I 3))) ga_X3 0 rfl rfl 3 (by decide) kw_142 rfl rfl dX3_closesFrom_51 rfl ?_
      have h_51 := hI 3
      refine g_icmp_lt C (n' := 57) 59 dX3_closesFrom_54 (by decide) rfl (by unfold inR; omega) (by unfold inR; omega) (fun c4 => ?_) (fun c4 => ?_)
      · skip
        refine g_iload_n C (n' := 60) 2 rfl dX3_closesFrom_59 rfl rfl ?_
        refine g_iconst C (n' := 61) dX3_closesFrom_60 rfl ?_
        refine g_iadd C (n' := 62) dX3_closesFrom_61 rfl ?_
        refine g_istore C (n' := 64) [(6, .int (iI (((A 2) 0) + 1))), (5, .int (iI (B (((A 2) 2).toNat) (((A 2) 0).toNat)))), (4, .int (iI ((A 2) 2))), (3, .int (iI ((A 2) 0))), (0, .ref (q 99)), (1, .int (iI 3)), (2, .int (iI tog))] dX3_closesFrom_62 rfl (by decide) rfl ?_
        have hb : ¬ rg_b B r = true := fun z => by
          have z2 := (rg_b_of hok (x := (B (A 2 2).toNat (A 2 0).toNat)) (by rw [← hF, ← hLs])).mp z
          omega
        refine g_wd (w' := (wPlan q Y I (sU A 2 (A 2)) B)) (by rw [sU_id]) ?_
        refine g_lv (lv' := [(6, .int (iI (((A 2) 0) + 1))), (5, .int (iI (B (A 2 2).toNat (A 2 0).toNat))), (4, .int (iI (A 2 2))), (3, .int (iI (A 2 0))), (0, .ref (q 99)), (1, .int (iI 3)), (2, .int (iI tog))]) [0, 1, 2, 3, 4, 5, 6] rfl ?_
        refine lp_X3_cl_3 C q I A B tog r hsI hsA hsB hn hr hL hin hnd htog hok (I 3 - (A 2 0 + 1)).toNat (A 2 0 + 1) (A 2) (by omega) (by omega) (hsA 2) (fun _ _ => rfl) (fun R r2 hfr hsR hat hle => ?_) (fun R hfr hsR hpre => ?_)
        · skip
          refine g_iconst C (n' := 128) dX3_closesFrom_127 rfl ?_
          exact g_iret C hr9 hlk (nar_z (by omega)) ⟨R, hsR, Or.inl ⟨rfl, r2, by rw [rg_miss hb, ← hF]; exact hfr, hat, hle, rfl⟩⟩ dX3_closesFrom_128
        · skip
          refine g_iconst C (n' := 136) dX3_closesFrom_135 rfl ?_
          exact g_iret C hr9 hlk (nar_z (by omega)) ⟨R, hsR, Or.inr ⟨rfl, by rw [rg_miss hb, ← hF]; exact hfr, hpre, rfl⟩⟩ dX3_closesFrom_136
      · skip
        refine g_iconst C (n' := 58) dX3_closesFrom_57 rfl ?_
        have hb : ¬ rg_b B r = true := fun z => by
          have z2 := (rg_b_of hok (x := (B (A 2 2).toNat (A 2 0).toNat)) (by rw [← hF, ← hLs])).mp z
          omega
        exact g_iret C hr9 hlk (nar_z (by omega)) ⟨A 2, hsA 2, Or.inr ⟨rfl, by rw [rg_miss hb, ← hF]; exact rg_loop_full (n := I 3) (fun j h0 h1 => rg_full hnd hin (by omega) ⟨h0, h1⟩) _ _ (by omega) (by omega), fun _ _ => rfl, by rw [sU_id]⟩⟩ dX3_closesFrom_58
    · skip
      refine g_aload_n C (n' := 43) 3 rfl dX3_closesFrom_42 rfl rfl ?_
      refine g_iload_n C (n' := 44) 4 rfl dX3_closesFrom_43 rfl rfl ?_
      refine g_put C (n' := 47) (Cn := RX3) (T := TX3) (N := 7) (ci := 2) (v := .int (iI 3)) ga_X3 0 rfl rfl 4 (by decide) kw_143 rfl tyX3 tyX3_ok nmX3 rfl rfl rfl rfl (Nat.le_of_ble_eq_true rfl) (wPlan q Y (sU I 4 3) A B) rfl dX3_closesFrom_44 rfl ?_
      refine g_iconst C (n' := 48) dX3_closesFrom_47 rfl ?_
      have hb : rg_b B r = true := (rg_b_of hok (x := (B (A 2 2).toNat (A 2 0).toNat)) (by rw [← hF, ← hLs])).mpr ⟨by omega, by omega⟩
      exact g_iret C hr9 hlk (nar_z (by omega)) ⟨A 2, hsA 2, Or.inl ⟨rfl, r, rg_hit hb _, hr, by omega, by rw [sU_id, hL]; rfl⟩⟩ dX3_closesFrom_48
set_option maxRecDepth 100000 in
set_option maxHeartbeats 4000000 in
theorem lp_X3_cl_2 {p9 : Program} {l : Launch} {e9 : Env} {s9 : State} {m9 : MethodId} {a9 : Array Value} {b9 : List Frame} {t9 : Method} {c9 : Code} {D : va_G} {A9 : Nat → Prop} {Q9 : State → Prop} {E : (Nat → Prop) → State → Heap → Prop} {Y : Nat → ClassId} (C : g_Cx p9 s9 m9 a9 c9 cX3_closesFrom 8 RX3 D (tysY Y) A9 E) (q : Nat → Nat) (I : Nat → Int) (A B : Nat → Nat → Int) (tog : Int) (r : List Int) (hsI : smI I) (hsA : smA A) (hsB : okB B) (hn : 2 ≤ I 3 ∧ I 3 ≤ 8) (hr : rg_at (A 2) r) (hL : r.length = 2) (hin : ∀ x ∈ r, 0 ≤ x ∧ x < I 3) (hnd : r.Nodup) (htog : tog = rg_es B r) (hok : rg_ok B r = true) : ∀ (n9 : Nat) (j : Int) (R : Nat → Int), A 2 0 < j → j + n9 = I 3 → smR R → (∀ k, k < 2 → R k = A 2 k) → (∀ (R : Nat → Int) (r2 : List Int), rg_loop (rg_fr (rg_b B) (I 3) 5) r n9 j = some r2 → smR R → rg_at R r2 → r2.length ≤ 8 → g_G p9 l e9 ({ frames := 7, cells := 0, slots := 0, locals := 185 } : Room) s9 m9 a9 b9 t9 c9 8 D A9 Q9 0 0 (wPlan q Y (sU I 4 (r2.length : Int)) (sU A 2 R) B) [(0, .ref (q 99))] 127 []) → (∀ R : Nat → Int, rg_loop (rg_fr (rg_b B) (I 3) 5) r n9 j = none → smR R → (∀ k, k < 2 → R k = A 2 k) → g_G p9 l e9 ({ frames := 7, cells := 0, slots := 0, locals := 185 } : Room) s9 m9 a9 b9 t9 c9 8 D A9 Q9 0 0 (wPlan q Y I (sU A 2 R) B) [(0, .ref (q 99))] 135 []) → g_G p9 l e9 ({ frames := 7, cells := 0, slots := 0, locals := 185 } : Room) s9 m9 a9 b9 t9 c9 8 D A9 Q9 0 0 (wPlan q Y I (sU A 2 R) B) [(6, .int (iI j)), (5, .int (iI (B (A 2 1).toNat (A 2 0).toNat))), (4, .int (iI (A 2 1))), (3, .int (iI (A 2 0))), (0, .ref (q 99)), (1, .int (iI 2)), (2, .int (iI tog))] 64 [] := by
  have hE := C.2.2.2.2.2.2.2.2.1
  intro n9
  induction n9 with
  | zero =>
    intro j R hj hjn hsR hpre K1 K0
    have hI := hsI
    have hA := hsA
    have hB := hsB
    unfold smI at hI
    unfold smA at hA
    unfold okB at hB
    have hF := rg_at_f hr (by omega)
    have hLs := rg_at_l hr (by omega)
    rw [hL] at hLs
    have hLs : A 2 1 = rg_l r := hLs
    have hFr := hin _ (rg_f_mem (by omega))
    have hLr := hin _ (rg_l_mem (by omega))
    rw [← hF] at hFr
    rw [← hLs] at hLr
    have hes := rg_es_r hsB hok
    rw [hL] at hes
    have hRA : smA (sU A 2 R) := sm_putA hsA hsR
    have hR9 := hsR
    unfold smR at hR9
    refine g_iload C (n' := 66) 0 rfl dX3_closesFrom_64 rfl ?_
    refine g_aload_n C (n' := 67) 4 rfl dX3_closesFrom_66 rfl rfl ?_
    refine g_get C (n' := 70) (Cn := RX3) (T := TX3) (N := 7) (ci := 2) (v := .int (iI (I 3))) ga_X3 0 rfl rfl 3 (by decide) kw_142 rfl rfl dX3_closesFrom_67 rfl ?_
    have h_67 := hI 3
    refine g_icmp_ge C (n' := 73) 135 dX3_closesFrom_70 (by decide) rfl (by unfold inR; omega) (by unfold inR; omega) (fun c1 => ?_) (fun c1 => ?_)
    · skip
      refine g_lv [4] rfl ?_
      exact K0 R rfl hsR hpre
    · skip
      exfalso
      omega
  | succ n9 ih =>
    intro j R hj hjn hsR hpre K1 K0
    have hI := hsI
    have hA := hsA
    have hB := hsB
    unfold smI at hI
    unfold smA at hA
    unfold okB at hB
    have hF := rg_at_f hr (by omega)
    have hLs := rg_at_l hr (by omega)
    rw [hL] at hLs
    have hLs : A 2 1 = rg_l r := hLs
    have hFr := hin _ (rg_f_mem (by omega))
    have hLr := hin _ (rg_l_mem (by omega))
    rw [← hF] at hFr
    rw [← hLs] at hLr
    have hes := rg_es_r hsB hok
    rw [hL] at hes
    have hRA : smA (sU A 2 R) := sm_putA hsA hsR
    have hR9 := hsR
    unfold smR at hR9
    refine g_iload C (n' := 66) 0 rfl dX3_closesFrom_64 rfl ?_
    refine g_aload_n C (n' := 67) 4 rfl dX3_closesFrom_66 rfl rfl ?_
    refine g_get C (n' := 70) (Cn := RX3) (T := TX3) (N := 7) (ci := 2) (v := .int (iI (I 3))) ga_X3 0 rfl rfl 3 (by decide) kw_142 rfl rfl dX3_closesFrom_67 rfl ?_
    have h_67 := hI 3
    refine g_icmp_ge C (n' := 73) 135 dX3_closesFrom_70 (by decide) rfl (by unfold inR; omega) (by unfold inR; omega) (fun c1 => ?_) (fun c1 => ?_)
    · skip
      exfalso
      omega
    · skip
      refine g_aload_n C (n' := 74) 4 rfl dX3_closesFrom_73 rfl rfl ?_
      refine g_get C (n' := 77) (Cn := RX3) (T := TX3) (N := 7) (ci := 2) (v := .ref (q 0)) ga_X3 0 rfl rfl 0 (by decide) kw_139 rfl rfl dX3_closesFrom_74 rfl ?_
      refine g_iload C (n' := 79) 2 rfl dX3_closesFrom_77 rfl ?_
      refine g_aalA C (n' := 80) (v := q (20 + (A 2 1).toNat)) 1 7 rfl rfl (by omega) (by omega) (by decide) (if_pos (by omega)) dX3_closesFrom_79 rfl ?_
      refine g_iload C (n' := 82) 0 rfl dX3_closesFrom_80 rfl ?_
      refine g_iald C (n' := 83) (4 + (A 2 1).toNat) 0 (pl_row (by omega)) rfl (by omega) (by omega) (by decide) rfl dX3_closesFrom_82 rfl ?_
      have hb_82 := hB ((A 2 1).toNat) j.toNat
      refine g_istore C (n' := 85) [(7, .int (iI (B ((A 2 1).toNat) j.toNat))), (6, .int (iI j)), (5, .int (iI (B (A 2 1).toNat (A 2 0).toNat))), (4, .int (iI (A 2 1))), (3, .int (iI (A 2 0))), (0, .ref (q 99)), (1, .int (iI 2)), (2, .int (iI tog))] dX3_closesFrom_83 rfl (by decide) rfl ?_
      refine g_iload C (n' := 87) 0 rfl dX3_closesFrom_85 rfl ?_
      refine g_ldc C (n' := 89) 1000000000 (by decide) kw_455 dX3_closesFrom_87 rfl ?_
      refine g_icmp_eq C (n' := 92) 129 dX3_closesFrom_89 (by decide) rfl (by unfold inR; omega) (by unfold inR; omega) (fun c2 => ?_) (fun c2 => ?_)
      · skip
        refine g_iinc C (n' := 132) 1 [(6, .int (iI (j + 1))), (7, .int (iI (B ((A 2 1).toNat) j.toNat))), (5, .int (iI (B (A 2 1).toNat (A 2 0).toNat))), (4, .int (iI (A 2 1))), (3, .int (iI (A 2 0))), (0, .ref (q 99)), (1, .int (iI 2)), (2, .int (iI tog))] rfl dX3_closesFrom_129 rfl (by decide) rfl ?_
        refine g_goto C 64 dX3_closesFrom_132 (by decide) ?_
        have e1 : rg_loop (rg_fr (rg_b B) (I 3) 5) r (n9 + 1) j = rg_loop (rg_fr (rg_b B) (I 3) 5) r n9 (j + 1) := by
          have ho : rg_ok B (r ++ [j]) = false := by rw [rg_ok_app B j (fun q => by rw [q] at hL; cases hL), ← hLs, c2]; simp
          rw [rg_loop, rg_fr_none _ (r ++ [j]) (by simp) ho]
          split <;> rfl
        rw [e1] at K1 K0
        refine g_lv (lv' := [(6, .int (iI (j + 1))), (5, .int (iI (B (A 2 1).toNat (A 2 0).toNat))), (4, .int (iI (A 2 1))), (3, .int (iI (A 2 0))), (0, .ref (q 99)), (1, .int (iI 2)), (2, .int (iI tog))]) [0, 2, 3, 4, 5, 6, 7] rfl ?_
        exact ih (j + 1) R (by omega) (by omega) hsR hpre K1 K0
      · skip
        refine g_aload_n C (n' := 93) 5 rfl dX3_closesFrom_92 rfl rfl ?_
        refine g_iload C (n' := 95) 1 rfl dX3_closesFrom_93 rfl ?_
        refine g_iload_n C (n' := 96) 6 rfl dX3_closesFrom_95 rfl rfl ?_
        refine g_cVv C (n' := 99) (v := .int (iI (if j ∈ r then 1 else 0))) (c_X3_isInRing l D Y C.2.2.2.2.2.2.2.2.1 q I (sU A 2 R) B j 2 r hsI hRA hsB (by unfold inR; omega) (rg_at_pre hr (fun k hk => hpre k (by omega))) (by omega) (by omega)) 2 kw_537 kc_X3_isInRing (by decide +kernel) (pm0 _) 0 (ci := 2) rfl rfl rfl rfl ⟨Nat.le_of_ble_eq_true rfl, Nat.le_of_ble_eq_true rfl⟩ ⟨rfl, rfl⟩ ⟨Nat.le_of_ble_eq_true rfl, Nat.le_of_ble_eq_true rfl⟩ (Nat.le_of_ble_eq_true rfl) dX3_closesFrom_96 rfl rfl (wPlan q Y I (sU A 2 R) B) (pm0' _) ?_
        refine g_if_eq C (n' := 102) 105 dX3_closesFrom_99 (by decide) rfl bz_r (fun c3 => ?_) (fun c3 => ?_)
        · skip
          replace c3 := bz_eq.mp c3
          refine g_aload_n C (n' := 106) 5 rfl dX3_closesFrom_105 rfl rfl ?_
          refine g_get C (n' := 109) (Cn := RX3) (T := TX3) (N := 7) (ci := 2) (v := .ref (q 2)) ga_X3 0 rfl rfl 2 (by decide) kw_141 rfl rfl dX3_closesFrom_106 rfl ?_
          refine g_iload_n C (n' := 110) 6 rfl dX3_closesFrom_109 rfl rfl ?_
          refine g_iload C (n' := 112) 1 rfl dX3_closesFrom_110 rfl ?_
          refine g_iastN C (n' := 113) (f := R) (j := 2) 3 0 rfl rfl (by omega) (by decide) rfl dX3_closesFrom_112 rfl (wPlan q Y I (sU A 2 (sU R 2 j)) B) rfl ?_
          refine g_aload_n C (n' := 114) 5 rfl dX3_closesFrom_113 rfl rfl ?_
          refine g_iload_n C (n' := 115) 6 rfl dX3_closesFrom_114 rfl rfl ?_
          refine g_iconst C (n' := 116) dX3_closesFrom_115 rfl ?_
          refine g_iadd C (n' := 117) dX3_closesFrom_116 rfl ?_
          refine g_st (st' := [.int (iI 3), .ref (q 99)]) rfl ?_
          refine g_iload_n C (n' := 118) 7 rfl dX3_closesFrom_117 rfl rfl ?_
          refine g_iload C (n' := 120) 0 rfl dX3_closesFrom_118 rfl ?_
          refine g_iadd C (n' := 121) dX3_closesFrom_120 rfl ?_
          refine g_callV C (n' := 124) (c_X3_closesFrom_3 l D Y C.2.2.2.2.2.2.2.2.1 q I (sU A 2 (sU R 2 j)) B (tog + (B ((A 2 1).toNat) j.toNat)) (r ++ [j]) hsI (sm_putA hsA (sm_putR hsR (by omega))) hsB hn (by have := rg_at_app (rg_at_pre hr (fun k hk => hpre k (by omega))) j; rw [hL] at this; exact this) (by rw [List.length_append, hL]; rfl) (ring_in hin (by omega) (by omega)) (ring_nd hnd c3) (by rw [rg_es_app B j (fun q => by rw [q] at hL; cases hL), ← hLs, htog]) (by rw [rg_ok_app B j (fun q => by rw [q] at hL; cases hL), ← hLs, hok]; simpa using c2)) 2 kw_533 kc_X3_closesFrom (by decide +kernel) (pm0 _) 0 (ci := 2) rfl rfl rfl rfl ⟨Nat.le_of_ble_eq_true rfl, Nat.le_of_ble_eq_true rfl⟩ ⟨rfl, rfl⟩ ⟨Nat.le_of_ble_eq_true rfl, Nat.le_of_ble_eq_true rfl⟩ (Nat.le_of_ble_eq_true rfl) dX3_closesFrom_121 rfl (fun r9 w9 hp4 => ?_)
          obtain ⟨R5, hsR5, (⟨rfl, r6, q1, q2, q3, rfl⟩ | ⟨rfl, q1, q2, rfl⟩)⟩ := hp4
          · skip
            have hcR5 := And.intro q1 (And.intro q2 q3)
            refine g_perm (w' := (wPlan q Y (sU I 4 (r6.length : Int)) (sU A 2 R5) B)) (pm0' _) ?_
            refine g_st (st' := [.int (iI 1)]) rfl ?_
            refine g_if_eq C (n' := 127) 129 dX3_closesFrom_124 (by decide) rfl (by unfold inR; omega) (fun c7 => ?_) (fun c7 => ?_)
            · skip
              exfalso
              omega
            · skip
              refine g_lv [5] rfl ?_
              exact K1 R5 r6 (by rw [rg_loop, if_neg c3, hcR5.1]) hsR5 hcR5.2.1 hcR5.2.2
          · skip
            have hcR5 := And.intro q1 q2
            refine g_perm (w' := (wPlan q Y I (sU A 2 R5) B)) (pm0' _) ?_
            refine g_st (st' := [.int (iI 0)]) rfl ?_
            refine g_if_eq C (n' := 127) 129 dX3_closesFrom_124 (by decide) rfl (by unfold inR; omega) (fun c8 => ?_) (fun c8 => ?_)
            · skip
              refine g_iinc C (n' := 132) 1 [(6, .int (iI (j + 1))), (7, .int (iI (B ((A 2 1).toNat) j.toNat))), (5, .int (iI (B (A 2 1).toNat (A 2 0).toNat))), (4, .int (iI (A 2 1))), (3, .int (iI (A 2 0))), (0, .ref (q 99)), (1, .int (iI 2)), (2, .int (iI tog))] rfl dX3_closesFrom_129 rfl (by decide) rfl ?_
              refine g_goto C 64 dX3_closesFrom_132 (by decide) ?_
              have e1 : rg_loop (rg_fr (rg_b B) (I 3) 5) r (n9 + 1) j = rg_loop (rg_fr (rg_b B) (I 3) 5) r n9 (j + 1) := by
                rw [rg_loop, if_neg c3, hcR5.1]
              rw [e1] at K1 K0
              refine g_lv (lv' := [(6, .int (iI (j + 1))), (5, .int (iI (B (A 2 1).toNat (A 2 0).toNat))), (4, .int (iI (A 2 1))), (3, .int (iI (A 2 0))), (0, .ref (q 99)), (1, .int (iI 2)), (2, .int (iI tog))]) [0, 2, 3, 4, 5, 6, 7] rfl ?_
              exact ih (j + 1) R5 (by omega) (by omega) hsR5 (fun k hk => (hcR5.2 k (by omega)).trans ((show sU R 2 j k = R k from sU_n _ _ (by omega)).trans (hpre k hk))) K1 K0
            · skip
              exfalso
              omega
        · skip
          replace c3 := bz_neq.mp c3
          refine g_goto C 129 dX3_closesFrom_102 (by decide) ?_
          refine g_iinc C (n' := 132) 1 [(6, .int (iI (j + 1))), (7, .int (iI (B ((A 2 1).toNat) j.toNat))), (5, .int (iI (B (A 2 1).toNat (A 2 0).toNat))), (4, .int (iI (A 2 1))), (3, .int (iI (A 2 0))), (0, .ref (q 99)), (1, .int (iI 2)), (2, .int (iI tog))] rfl dX3_closesFrom_129 rfl (by decide) rfl ?_
          refine g_goto C 64 dX3_closesFrom_132 (by decide) ?_
          have e1 : rg_loop (rg_fr (rg_b B) (I 3) 5) r (n9 + 1) j = rg_loop (rg_fr (rg_b B) (I 3) 5) r n9 (j + 1) := by
            rw [rg_loop, if_pos c3]
          rw [e1] at K1 K0
          refine g_lv (lv' := [(6, .int (iI (j + 1))), (5, .int (iI (B (A 2 1).toNat (A 2 0).toNat))), (4, .int (iI (A 2 1))), (3, .int (iI (A 2 0))), (0, .ref (q 99)), (1, .int (iI 2)), (2, .int (iI tog))]) [0, 2, 3, 4, 5, 6, 7] rfl ?_
          exact ih (j + 1) R (by omega) (by omega) hsR hpre K1 K0
set_option maxRecDepth 100000 in
set_option maxHeartbeats 4000000 in
theorem c_X3_closesFrom_2 (l : Launch) (D : va_G) (Y : Nat → ClassId) {E : (Nat → Prop) → State → Heap → Prop} (hE : g_Stab E) (q : Nat → Nat) (I : Nat → Int) (A : Nat → Nat → Int) (B : Nat → Nat → Int) (tog : Int) (r : List Int) (hsI : smI I) (hsA : smA A) (hsB : okB B) (hn : 2 ≤ I 3 ∧ I 3 ≤ 8) (hr : rg_at (A 2) r) (hL : r.length = 2) (hin : ∀ x ∈ r, 0 ≤ x ∧ x < I 3) (hnd : r.Nodup) (htog : tog = rg_es B r) (hok : rg_ok B r = true) : g_Ct l yX3_closesFrom cX3_closesFrom 8 (some FieldType.boolean) ({ frames := 7, cells := 0, slots := 0, locals := 185 } : Room) D (tysY Y) E [.ref (q 99), .int (iI 2), .int (iI tog)] (wPlan q Y I A B) 0 0 (fun r9 w9 => ∃ R : Nat → Int, smR R ∧ ((r9 = some (.int (iI 1)) ∧ ∃ r2 : List Int, rg_fr (rg_b B) (I 3) 6 r = some r2 ∧ rg_at R r2 ∧ r2.length ≤ 8 ∧ w9 = wPlan q Y (sU I 4 (r2.length : Int)) (sU A 2 R) B) ∨ (r9 = some (.int (iI 0)) ∧ rg_fr (rg_b B) (I 3) 6 r = none ∧ (∀ k, k < 2 → R k = A 2 k) ∧ w9 = wPlan q Y I (sU A 2 R) B))) := by
  refine g_ofG (own := RX3) hE (by decide) rfl (Nat.le_of_ble_eq_true rfl) [(0, .ref (q 99)), (1, .int (iI 2)), (2, .int (iI tog))] rfl ?_
  intro p9 e9 s9 m9 b9 t9 c9 A9 C hr9 hlk hnm
  have hI := hsI
  have hA := hsA
  have hB := hsB
  unfold smI at hI
  unfold smA at hA
  unfold okB at hB
  have hF := rg_at_f hr (by omega)
  have hLs := rg_at_l hr (by omega)
  rw [hL] at hLs
  have hLs : A 2 1 = rg_l r := hLs
  have hFr := hin _ (rg_f_mem (by omega))
  have hLr := hin _ (rg_l_mem (by omega))
  rw [← hF] at hFr
  rw [← hLs] at hLr
  have hes := rg_es_r hsB hok
  rw [hL] at hes
  refine g_aload_n C (n' := 1) 0 rfl dX3_closesFrom_0 rfl rfl ?_
  refine g_get C (n' := 4) (Cn := RX3) (T := TX3) (N := 7) (ci := 2) (v := .ref (q 2)) ga_X3 0 rfl rfl 2 (by decide) kw_141 rfl rfl dX3_closesFrom_1 rfl ?_
  refine g_iconst C (n' := 5) dX3_closesFrom_4 rfl ?_
  refine g_ialdN C (n' := 6) (f := (A 2)) (j := 0) 3 0 rfl rfl (by omega) (by decide) rfl dX3_closesFrom_5 rfl ?_
  have h_5 := hA 2 0
  refine g_istore_n C (n' := 7) [(3, .int (iI ((A 2) 0))), (0, .ref (q 99)), (1, .int (iI 2)), (2, .int (iI tog))] dX3_closesFrom_6 rfl rfl (by decide) rfl ?_
  refine g_aload_n C (n' := 8) 1 rfl dX3_closesFrom_7 rfl rfl ?_
  refine g_get C (n' := 11) (Cn := RX3) (T := TX3) (N := 7) (ci := 2) (v := .ref (q 2)) ga_X3 0 rfl rfl 2 (by decide) kw_141 rfl rfl dX3_closesFrom_8 rfl ?_
  refine g_iload_n C (n' := 12) 2 rfl dX3_closesFrom_11 rfl rfl ?_
  refine g_iconst C (n' := 13) dX3_closesFrom_12 rfl ?_
  refine g_isub C (n' := 14) dX3_closesFrom_13 rfl ?_
  refine g_st (st' := [.int (iI 1), .ref (q 2)]) rfl ?_
  refine g_ialdN C (n' := 15) (f := (A 2)) (j := 1) 3 0 rfl rfl (by omega) (by decide) rfl dX3_closesFrom_14 rfl ?_
  have h_14 := hA 2 1
  refine g_istore C (n' := 17) [(4, .int (iI ((A 2) 1))), (3, .int (iI ((A 2) 0))), (0, .ref (q 99)), (1, .int (iI 2)), (2, .int (iI tog))] dX3_closesFrom_15 rfl (by decide) rfl ?_
  refine g_aload_n C (n' := 18) 2 rfl dX3_closesFrom_17 rfl rfl ?_
  refine g_get C (n' := 21) (Cn := RX3) (T := TX3) (N := 7) (ci := 2) (v := .ref (q 0)) ga_X3 0 rfl rfl 0 (by decide) kw_139 rfl rfl dX3_closesFrom_18 rfl ?_
  refine g_iload C (n' := 23) 0 rfl dX3_closesFrom_21 rfl ?_
  refine g_aalA C (n' := 24) (v := q (20 + ((A 2) 1).toNat)) 1 7 rfl rfl (by omega) (by omega) (by decide) (if_pos (by omega)) dX3_closesFrom_23 rfl ?_
  refine g_iload_n C (n' := 25) 1 rfl dX3_closesFrom_24 rfl rfl ?_
  refine g_iald C (n' := 26) (4 + ((A 2) 1).toNat) 0 (pl_row (by omega)) rfl (by omega) (by omega) (by decide) rfl dX3_closesFrom_25 rfl ?_
  have hb_25 := hB (((A 2) 1).toNat) (((A 2) 0).toNat)
  refine g_istore C (n' := 28) [(5, .int (iI (B (((A 2) 1).toNat) (((A 2) 0).toNat)))), (4, .int (iI ((A 2) 1))), (3, .int (iI ((A 2) 0))), (0, .ref (q 99)), (1, .int (iI 2)), (2, .int (iI tog))] dX3_closesFrom_26 rfl (by decide) rfl ?_
  refine g_iload C (n' := 30) 0 rfl dX3_closesFrom_28 rfl ?_
  refine g_ldc C (n' := 32) 1000000000 (by decide) kw_455 dX3_closesFrom_30 rfl ?_
  refine g_icmp_eq C (n' := 35) 49 dX3_closesFrom_32 (by decide) rfl (by unfold inR; omega) (by unfold inR; omega) (fun c1 => ?_) (fun c1 => ?_)
  · skip
    refine g_iload_n C (n' := 50) 4 rfl dX3_closesFrom_49 rfl rfl ?_
    refine g_aload_n C (n' := 51) 3 rfl dX3_closesFrom_50 rfl rfl ?_
    refine g_get C (n' := 54) (Cn := RX3) (T := TX3) (N := 7) (ci := 2) (v := .int (iI (I 3))) ga_X3 0 rfl rfl 3 (by decide) kw_142 rfl rfl dX3_closesFrom_51 rfl ?_
    have h_51 := hI 3
    refine g_icmp_lt C (n' := 57) 59 dX3_closesFrom_54 (by decide) rfl (by unfold inR; omega) (by unfold inR; omega) (fun c2 => ?_) (fun c2 => ?_)
    · skip
      refine g_iload_n C (n' := 60) 2 rfl dX3_closesFrom_59 rfl rfl ?_
      refine g_iconst C (n' := 61) dX3_closesFrom_60 rfl ?_
      refine g_iadd C (n' := 62) dX3_closesFrom_61 rfl ?_
      refine g_istore C (n' := 64) [(6, .int (iI (((A 2) 0) + 1))), (5, .int (iI (B (((A 2) 1).toNat) (((A 2) 0).toNat)))), (4, .int (iI ((A 2) 1))), (3, .int (iI ((A 2) 0))), (0, .ref (q 99)), (1, .int (iI 2)), (2, .int (iI tog))] dX3_closesFrom_62 rfl (by decide) rfl ?_
      have hb : ¬ rg_b B r = true := fun z => by
        have z2 := (rg_b_of hok (x := (B (A 2 1).toNat (A 2 0).toNat)) (by rw [← hF, ← hLs])).mp z
        omega
      refine g_wd (w' := (wPlan q Y I (sU A 2 (A 2)) B)) (by rw [sU_id]) ?_
      refine g_lv (lv' := [(6, .int (iI (((A 2) 0) + 1))), (5, .int (iI (B (A 2 1).toNat (A 2 0).toNat))), (4, .int (iI (A 2 1))), (3, .int (iI (A 2 0))), (0, .ref (q 99)), (1, .int (iI 2)), (2, .int (iI tog))]) [0, 1, 2, 3, 4, 5, 6] rfl ?_
      refine lp_X3_cl_2 C q I A B tog r hsI hsA hsB hn hr hL hin hnd htog hok (I 3 - (A 2 0 + 1)).toNat (A 2 0 + 1) (A 2) (by omega) (by omega) (hsA 2) (fun _ _ => rfl) (fun R r2 hfr hsR hat hle => ?_) (fun R hfr hsR hpre => ?_)
      · skip
        refine g_iconst C (n' := 128) dX3_closesFrom_127 rfl ?_
        exact g_iret C hr9 hlk (nar_z (by omega)) ⟨R, hsR, Or.inl ⟨rfl, r2, by rw [rg_miss hb, ← hF]; exact hfr, hat, hle, rfl⟩⟩ dX3_closesFrom_128
      · skip
        refine g_iconst C (n' := 136) dX3_closesFrom_135 rfl ?_
        exact g_iret C hr9 hlk (nar_z (by omega)) ⟨R, hsR, Or.inr ⟨rfl, by rw [rg_miss hb, ← hF]; exact hfr, hpre, rfl⟩⟩ dX3_closesFrom_136
    · skip
      refine g_iconst C (n' := 58) dX3_closesFrom_57 rfl ?_
      have hb : ¬ rg_b B r = true := fun z => by
        have z2 := (rg_b_of hok (x := (B (A 2 1).toNat (A 2 0).toNat)) (by rw [← hF, ← hLs])).mp z
        omega
      exact g_iret C hr9 hlk (nar_z (by omega)) ⟨A 2, hsA 2, Or.inr ⟨rfl, by rw [rg_miss hb, ← hF]; exact rg_loop_full (n := I 3) (fun j h0 h1 => rg_full hnd hin (by omega) ⟨h0, h1⟩) _ _ (by omega) (by omega), fun _ _ => rfl, by rw [sU_id]⟩⟩ dX3_closesFrom_58
  · skip
    refine g_iload_n C (n' := 36) 5 rfl dX3_closesFrom_35 rfl rfl ?_
    refine g_iload C (n' := 38) 0 rfl dX3_closesFrom_36 rfl ?_
    refine g_iadd C (n' := 39) dX3_closesFrom_38 rfl ?_
    refine g_if_ge C (n' := 42) 49 dX3_closesFrom_39 (by decide) rfl (by unfold inR; omega) (fun c3 => ?_) (fun c3 => ?_)
    · skip
      refine g_iload_n C (n' := 50) 4 rfl dX3_closesFrom_49 rfl rfl ?_
      refine g_aload_n C (n' := 51) 3 rfl dX3_closesFrom_50 rfl rfl ?_
      refine g_get C (n' := 54) (Cn := RX3) (T := TX3) (N := 7) (ci := 2) (v := .int (iI (I 3))) ga_X3 0 rfl rfl 3 (by decide) kw_142 rfl rfl dX3_closesFrom_51 rfl ?_
      have h_51 := hI 3
      refine g_icmp_lt C (n' := 57) 59 dX3_closesFrom_54 (by decide) rfl (by unfold inR; omega) (by unfold inR; omega) (fun c4 => ?_) (fun c4 => ?_)
      · skip
        refine g_iload_n C (n' := 60) 2 rfl dX3_closesFrom_59 rfl rfl ?_
        refine g_iconst C (n' := 61) dX3_closesFrom_60 rfl ?_
        refine g_iadd C (n' := 62) dX3_closesFrom_61 rfl ?_
        refine g_istore C (n' := 64) [(6, .int (iI (((A 2) 0) + 1))), (5, .int (iI (B (((A 2) 1).toNat) (((A 2) 0).toNat)))), (4, .int (iI ((A 2) 1))), (3, .int (iI ((A 2) 0))), (0, .ref (q 99)), (1, .int (iI 2)), (2, .int (iI tog))] dX3_closesFrom_62 rfl (by decide) rfl ?_
        have hb : ¬ rg_b B r = true := fun z => by
          have z2 := (rg_b_of hok (x := (B (A 2 1).toNat (A 2 0).toNat)) (by rw [← hF, ← hLs])).mp z
          omega
        refine g_wd (w' := (wPlan q Y I (sU A 2 (A 2)) B)) (by rw [sU_id]) ?_
        refine g_lv (lv' := [(6, .int (iI (((A 2) 0) + 1))), (5, .int (iI (B (A 2 1).toNat (A 2 0).toNat))), (4, .int (iI (A 2 1))), (3, .int (iI (A 2 0))), (0, .ref (q 99)), (1, .int (iI 2)), (2, .int (iI tog))]) [0, 1, 2, 3, 4, 5, 6] rfl ?_
        refine lp_X3_cl_2 C q I A B tog r hsI hsA hsB hn hr hL hin hnd htog hok (I 3 - (A 2 0 + 1)).toNat (A 2 0 + 1) (A 2) (by omega) (by omega) (hsA 2) (fun _ _ => rfl) (fun R r2 hfr hsR hat hle => ?_) (fun R hfr hsR hpre => ?_)
        · skip
          refine g_iconst C (n' := 128) dX3_closesFrom_127 rfl ?_
          exact g_iret C hr9 hlk (nar_z (by omega)) ⟨R, hsR, Or.inl ⟨rfl, r2, by rw [rg_miss hb, ← hF]; exact hfr, hat, hle, rfl⟩⟩ dX3_closesFrom_128
        · skip
          refine g_iconst C (n' := 136) dX3_closesFrom_135 rfl ?_
          exact g_iret C hr9 hlk (nar_z (by omega)) ⟨R, hsR, Or.inr ⟨rfl, by rw [rg_miss hb, ← hF]; exact hfr, hpre, rfl⟩⟩ dX3_closesFrom_136
      · skip
        refine g_iconst C (n' := 58) dX3_closesFrom_57 rfl ?_
        have hb : ¬ rg_b B r = true := fun z => by
          have z2 := (rg_b_of hok (x := (B (A 2 1).toNat (A 2 0).toNat)) (by rw [← hF, ← hLs])).mp z
          omega
        exact g_iret C hr9 hlk (nar_z (by omega)) ⟨A 2, hsA 2, Or.inr ⟨rfl, by rw [rg_miss hb, ← hF]; exact rg_loop_full (n := I 3) (fun j h0 h1 => rg_full hnd hin (by omega) ⟨h0, h1⟩) _ _ (by omega) (by omega), fun _ _ => rfl, by rw [sU_id]⟩⟩ dX3_closesFrom_58
    · skip
      refine g_aload_n C (n' := 43) 3 rfl dX3_closesFrom_42 rfl rfl ?_
      refine g_iload_n C (n' := 44) 4 rfl dX3_closesFrom_43 rfl rfl ?_
      refine g_put C (n' := 47) (Cn := RX3) (T := TX3) (N := 7) (ci := 2) (v := .int (iI 2)) ga_X3 0 rfl rfl 4 (by decide) kw_143 rfl tyX3 tyX3_ok nmX3 rfl rfl rfl rfl (Nat.le_of_ble_eq_true rfl) (wPlan q Y (sU I 4 2) A B) rfl dX3_closesFrom_44 rfl ?_
      refine g_iconst C (n' := 48) dX3_closesFrom_47 rfl ?_
      have hb : rg_b B r = true := (rg_b_of hok (x := (B (A 2 1).toNat (A 2 0).toNat)) (by rw [← hF, ← hLs])).mpr ⟨by omega, by omega⟩
      exact g_iret C hr9 hlk (nar_z (by omega)) ⟨A 2, hsA 2, Or.inl ⟨rfl, r, rg_hit hb _, hr, by omega, by rw [sU_id, hL]; rfl⟩⟩ dX3_closesFrom_48
set_option maxRecDepth 100000 in
set_option maxHeartbeats 4000000 in
theorem lp_X3_cl_1 {p9 : Program} {l : Launch} {e9 : Env} {s9 : State} {m9 : MethodId} {a9 : Array Value} {b9 : List Frame} {t9 : Method} {c9 : Code} {D : va_G} {A9 : Nat → Prop} {Q9 : State → Prop} {E : (Nat → Prop) → State → Heap → Prop} {Y : Nat → ClassId} (C : g_Cx p9 s9 m9 a9 c9 cX3_closesFrom 8 RX3 D (tysY Y) A9 E) (q : Nat → Nat) (I : Nat → Int) (A B : Nat → Nat → Int) (tog : Int) (r : List Int) (hsI : smI I) (hsA : smA A) (hsB : okB B) (hn : 2 ≤ I 3 ∧ I 3 ≤ 8) (hr : rg_at (A 2) r) (hL : r.length = 1) (hin : ∀ x ∈ r, 0 ≤ x ∧ x < I 3) (hnd : r.Nodup) (htog : tog = rg_es B r) (hok : rg_ok B r = true) : ∀ (n9 : Nat) (j : Int) (R : Nat → Int), A 2 0 < j → j + n9 = I 3 → smR R → (∀ k, k < 1 → R k = A 2 k) → (∀ (R : Nat → Int) (r2 : List Int), rg_loop (rg_fr (rg_b B) (I 3) 6) r n9 j = some r2 → smR R → rg_at R r2 → r2.length ≤ 8 → g_G p9 l e9 ({ frames := 8, cells := 0, slots := 0, locals := 212 } : Room) s9 m9 a9 b9 t9 c9 8 D A9 Q9 0 0 (wPlan q Y (sU I 4 (r2.length : Int)) (sU A 2 R) B) [(0, .ref (q 99))] 127 []) → (∀ R : Nat → Int, rg_loop (rg_fr (rg_b B) (I 3) 6) r n9 j = none → smR R → (∀ k, k < 1 → R k = A 2 k) → g_G p9 l e9 ({ frames := 8, cells := 0, slots := 0, locals := 212 } : Room) s9 m9 a9 b9 t9 c9 8 D A9 Q9 0 0 (wPlan q Y I (sU A 2 R) B) [(0, .ref (q 99))] 135 []) → g_G p9 l e9 ({ frames := 8, cells := 0, slots := 0, locals := 212 } : Room) s9 m9 a9 b9 t9 c9 8 D A9 Q9 0 0 (wPlan q Y I (sU A 2 R) B) [(6, .int (iI j)), (5, .int (iI (B (A 2 0).toNat (A 2 0).toNat))), (4, .int (iI (A 2 0))), (3, .int (iI (A 2 0))), (0, .ref (q 99)), (1, .int (iI 1)), (2, .int (iI tog))] 64 [] := by
  have hE := C.2.2.2.2.2.2.2.2.1
  intro n9
  induction n9 with
  | zero =>
    intro j R hj hjn hsR hpre K1 K0
    have hI := hsI
    have hA := hsA
    have hB := hsB
    unfold smI at hI
    unfold smA at hA
    unfold okB at hB
    have hF := rg_at_f hr (by omega)
    have hLs := rg_at_l hr (by omega)
    rw [hL] at hLs
    have hLs : A 2 0 = rg_l r := hLs
    have hFr := hin _ (rg_f_mem (by omega))
    have hLr := hin _ (rg_l_mem (by omega))
    rw [← hF] at hFr
    rw [← hLs] at hLr
    have hes := rg_es_r hsB hok
    rw [hL] at hes
    have hRA : smA (sU A 2 R) := sm_putA hsA hsR
    have hR9 := hsR
    unfold smR at hR9
    refine g_iload C (n' := 66) 0 rfl dX3_closesFrom_64 rfl ?_
    refine g_aload_n C (n' := 67) 4 rfl dX3_closesFrom_66 rfl rfl ?_
    refine g_get C (n' := 70) (Cn := RX3) (T := TX3) (N := 7) (ci := 2) (v := .int (iI (I 3))) ga_X3 0 rfl rfl 3 (by decide) kw_142 rfl rfl dX3_closesFrom_67 rfl ?_
    have h_67 := hI 3
    refine g_icmp_ge C (n' := 73) 135 dX3_closesFrom_70 (by decide) rfl (by unfold inR; omega) (by unfold inR; omega) (fun c1 => ?_) (fun c1 => ?_)
    · skip
      refine g_lv [4] rfl ?_
      exact K0 R rfl hsR hpre
    · skip
      exfalso
      omega
  | succ n9 ih =>
    intro j R hj hjn hsR hpre K1 K0
    have hI := hsI
    have hA := hsA
    have hB := hsB
    unfold smI at hI
    unfold smA at hA
    unfold okB at hB
    have hF := rg_at_f hr (by omega)
    have hLs := rg_at_l hr (by omega)
    rw [hL] at hLs
    have hLs : A 2 0 = rg_l r := hLs
    have hFr := hin _ (rg_f_mem (by omega))
    have hLr := hin _ (rg_l_mem (by omega))
    rw [← hF] at hFr
    rw [← hLs] at hLr
    have hes := rg_es_r hsB hok
    rw [hL] at hes
    have hRA : smA (sU A 2 R) := sm_putA hsA hsR
    have hR9 := hsR
    unfold smR at hR9
    refine g_iload C (n' := 66) 0 rfl dX3_closesFrom_64 rfl ?_
    refine g_aload_n C (n' := 67) 4 rfl dX3_closesFrom_66 rfl rfl ?_
    refine g_get C (n' := 70) (Cn := RX3) (T := TX3) (N := 7) (ci := 2) (v := .int (iI (I 3))) ga_X3 0 rfl rfl 3 (by decide) kw_142 rfl rfl dX3_closesFrom_67 rfl ?_
    have h_67 := hI 3
    refine g_icmp_ge C (n' := 73) 135 dX3_closesFrom_70 (by decide) rfl (by unfold inR; omega) (by unfold inR; omega) (fun c1 => ?_) (fun c1 => ?_)
    · skip
      exfalso
      omega
    · skip
      refine g_aload_n C (n' := 74) 4 rfl dX3_closesFrom_73 rfl rfl ?_
      refine g_get C (n' := 77) (Cn := RX3) (T := TX3) (N := 7) (ci := 2) (v := .ref (q 0)) ga_X3 0 rfl rfl 0 (by decide) kw_139 rfl rfl dX3_closesFrom_74 rfl ?_
      refine g_iload C (n' := 79) 2 rfl dX3_closesFrom_77 rfl ?_
      refine g_aalA C (n' := 80) (v := q (20 + (A 2 0).toNat)) 1 7 rfl rfl (by omega) (by omega) (by decide) (if_pos (by omega)) dX3_closesFrom_79 rfl ?_
      refine g_iload C (n' := 82) 0 rfl dX3_closesFrom_80 rfl ?_
      refine g_iald C (n' := 83) (4 + (A 2 0).toNat) 0 (pl_row (by omega)) rfl (by omega) (by omega) (by decide) rfl dX3_closesFrom_82 rfl ?_
      have hb_82 := hB ((A 2 0).toNat) j.toNat
      refine g_istore C (n' := 85) [(7, .int (iI (B ((A 2 0).toNat) j.toNat))), (6, .int (iI j)), (5, .int (iI (B (A 2 0).toNat (A 2 0).toNat))), (4, .int (iI (A 2 0))), (3, .int (iI (A 2 0))), (0, .ref (q 99)), (1, .int (iI 1)), (2, .int (iI tog))] dX3_closesFrom_83 rfl (by decide) rfl ?_
      refine g_iload C (n' := 87) 0 rfl dX3_closesFrom_85 rfl ?_
      refine g_ldc C (n' := 89) 1000000000 (by decide) kw_455 dX3_closesFrom_87 rfl ?_
      refine g_icmp_eq C (n' := 92) 129 dX3_closesFrom_89 (by decide) rfl (by unfold inR; omega) (by unfold inR; omega) (fun c2 => ?_) (fun c2 => ?_)
      · skip
        refine g_iinc C (n' := 132) 1 [(6, .int (iI (j + 1))), (7, .int (iI (B ((A 2 0).toNat) j.toNat))), (5, .int (iI (B (A 2 0).toNat (A 2 0).toNat))), (4, .int (iI (A 2 0))), (3, .int (iI (A 2 0))), (0, .ref (q 99)), (1, .int (iI 1)), (2, .int (iI tog))] rfl dX3_closesFrom_129 rfl (by decide) rfl ?_
        refine g_goto C 64 dX3_closesFrom_132 (by decide) ?_
        have e1 : rg_loop (rg_fr (rg_b B) (I 3) 6) r (n9 + 1) j = rg_loop (rg_fr (rg_b B) (I 3) 6) r n9 (j + 1) := by
          have ho : rg_ok B (r ++ [j]) = false := by rw [rg_ok_app B j (fun q => by rw [q] at hL; cases hL), ← hLs, c2]; simp
          rw [rg_loop, rg_fr_none _ (r ++ [j]) (by simp) ho]
          split <;> rfl
        rw [e1] at K1 K0
        refine g_lv (lv' := [(6, .int (iI (j + 1))), (5, .int (iI (B (A 2 0).toNat (A 2 0).toNat))), (4, .int (iI (A 2 0))), (3, .int (iI (A 2 0))), (0, .ref (q 99)), (1, .int (iI 1)), (2, .int (iI tog))]) [0, 2, 3, 4, 5, 6, 7] rfl ?_
        exact ih (j + 1) R (by omega) (by omega) hsR hpre K1 K0
      · skip
        refine g_aload_n C (n' := 93) 5 rfl dX3_closesFrom_92 rfl rfl ?_
        refine g_iload C (n' := 95) 1 rfl dX3_closesFrom_93 rfl ?_
        refine g_iload_n C (n' := 96) 6 rfl dX3_closesFrom_95 rfl rfl ?_
        refine g_cVv C (n' := 99) (v := .int (iI (if j ∈ r then 1 else 0))) (c_X3_isInRing l D Y C.2.2.2.2.2.2.2.2.1 q I (sU A 2 R) B j 1 r hsI hRA hsB (by unfold inR; omega) (rg_at_pre hr (fun k hk => hpre k (by omega))) (by omega) (by omega)) 2 kw_537 kc_X3_isInRing (by decide +kernel) (pm0 _) 0 (ci := 2) rfl rfl rfl rfl ⟨Nat.le_of_ble_eq_true rfl, Nat.le_of_ble_eq_true rfl⟩ ⟨rfl, rfl⟩ ⟨Nat.le_of_ble_eq_true rfl, Nat.le_of_ble_eq_true rfl⟩ (Nat.le_of_ble_eq_true rfl) dX3_closesFrom_96 rfl rfl (wPlan q Y I (sU A 2 R) B) (pm0' _) ?_
        refine g_if_eq C (n' := 102) 105 dX3_closesFrom_99 (by decide) rfl bz_r (fun c3 => ?_) (fun c3 => ?_)
        · skip
          replace c3 := bz_eq.mp c3
          refine g_aload_n C (n' := 106) 5 rfl dX3_closesFrom_105 rfl rfl ?_
          refine g_get C (n' := 109) (Cn := RX3) (T := TX3) (N := 7) (ci := 2) (v := .ref (q 2)) ga_X3 0 rfl rfl 2 (by decide) kw_141 rfl rfl dX3_closesFrom_106 rfl ?_
          refine g_iload_n C (n' := 110) 6 rfl dX3_closesFrom_109 rfl rfl ?_
          refine g_iload C (n' := 112) 1 rfl dX3_closesFrom_110 rfl ?_
          refine g_iastN C (n' := 113) (f := R) (j := 1) 3 0 rfl rfl (by omega) (by decide) rfl dX3_closesFrom_112 rfl (wPlan q Y I (sU A 2 (sU R 1 j)) B) rfl ?_
          refine g_aload_n C (n' := 114) 5 rfl dX3_closesFrom_113 rfl rfl ?_
          refine g_iload_n C (n' := 115) 6 rfl dX3_closesFrom_114 rfl rfl ?_
          refine g_iconst C (n' := 116) dX3_closesFrom_115 rfl ?_
          refine g_iadd C (n' := 117) dX3_closesFrom_116 rfl ?_
          refine g_st (st' := [.int (iI 2), .ref (q 99)]) rfl ?_
          refine g_iload_n C (n' := 118) 7 rfl dX3_closesFrom_117 rfl rfl ?_
          refine g_iload C (n' := 120) 0 rfl dX3_closesFrom_118 rfl ?_
          refine g_iadd C (n' := 121) dX3_closesFrom_120 rfl ?_
          refine g_callV C (n' := 124) (c_X3_closesFrom_2 l D Y C.2.2.2.2.2.2.2.2.1 q I (sU A 2 (sU R 1 j)) B (tog + (B ((A 2 0).toNat) j.toNat)) (r ++ [j]) hsI (sm_putA hsA (sm_putR hsR (by omega))) hsB hn (by have := rg_at_app (rg_at_pre hr (fun k hk => hpre k (by omega))) j; rw [hL] at this; exact this) (by rw [List.length_append, hL]; rfl) (ring_in hin (by omega) (by omega)) (ring_nd hnd c3) (by rw [rg_es_app B j (fun q => by rw [q] at hL; cases hL), ← hLs, htog]) (by rw [rg_ok_app B j (fun q => by rw [q] at hL; cases hL), ← hLs, hok]; simpa using c2)) 2 kw_533 kc_X3_closesFrom (by decide +kernel) (pm0 _) 0 (ci := 2) rfl rfl rfl rfl ⟨Nat.le_of_ble_eq_true rfl, Nat.le_of_ble_eq_true rfl⟩ ⟨rfl, rfl⟩ ⟨Nat.le_of_ble_eq_true rfl, Nat.le_of_ble_eq_true rfl⟩ (Nat.le_of_ble_eq_true rfl) dX3_closesFrom_121 rfl (fun r9 w9 hp4 => ?_)
          obtain ⟨R5, hsR5, (⟨rfl, r6, q1, q2, q3, rfl⟩ | ⟨rfl, q1, q2, rfl⟩)⟩ := hp4
          · skip
            have hcR5 := And.intro q1 (And.intro q2 q3)
            refine g_perm (w' := (wPlan q Y (sU I 4 (r6.length : Int)) (sU A 2 R5) B)) (pm0' _) ?_
            refine g_st (st' := [.int (iI 1)]) rfl ?_
            refine g_if_eq C (n' := 127) 129 dX3_closesFrom_124 (by decide) rfl (by unfold inR; omega) (fun c7 => ?_) (fun c7 => ?_)
            · skip
              exfalso
              omega
            · skip
              refine g_lv [5] rfl ?_
              exact K1 R5 r6 (by rw [rg_loop, if_neg c3, hcR5.1]) hsR5 hcR5.2.1 hcR5.2.2
          · skip
            have hcR5 := And.intro q1 q2
            refine g_perm (w' := (wPlan q Y I (sU A 2 R5) B)) (pm0' _) ?_
            refine g_st (st' := [.int (iI 0)]) rfl ?_
            refine g_if_eq C (n' := 127) 129 dX3_closesFrom_124 (by decide) rfl (by unfold inR; omega) (fun c8 => ?_) (fun c8 => ?_)
            · skip
              refine g_iinc C (n' := 132) 1 [(6, .int (iI (j + 1))), (7, .int (iI (B ((A 2 0).toNat) j.toNat))), (5, .int (iI (B (A 2 0).toNat (A 2 0).toNat))), (4, .int (iI (A 2 0))), (3, .int (iI (A 2 0))), (0, .ref (q 99)), (1, .int (iI 1)), (2, .int (iI tog))] rfl dX3_closesFrom_129 rfl (by decide) rfl ?_
              refine g_goto C 64 dX3_closesFrom_132 (by decide) ?_
              have e1 : rg_loop (rg_fr (rg_b B) (I 3) 6) r (n9 + 1) j = rg_loop (rg_fr (rg_b B) (I 3) 6) r n9 (j + 1) := by
                rw [rg_loop, if_neg c3, hcR5.1]
              rw [e1] at K1 K0
              refine g_lv (lv' := [(6, .int (iI (j + 1))), (5, .int (iI (B (A 2 0).toNat (A 2 0).toNat))), (4, .int (iI (A 2 0))), (3, .int (iI (A 2 0))), (0, .ref (q 99)), (1, .int (iI 1)), (2, .int (iI tog))]) [0, 2, 3, 4, 5, 6, 7] rfl ?_
              exact ih (j + 1) R5 (by omega) (by omega) hsR5 (fun k hk => (hcR5.2 k (by omega)).trans ((show sU R 1 j k = R k from sU_n _ _ (by omega)).trans (hpre k hk))) K1 K0
            · skip
              exfalso
              omega
        · skip
          replace c3 := bz_neq.mp c3
          refine g_goto C 129 dX3_closesFrom_102 (by decide) ?_
          refine g_iinc C (n' := 132) 1 [(6, .int (iI (j + 1))), (7, .int (iI (B ((A 2 0).toNat) j.toNat))), (5, .int (iI (B (A 2 0).toNat (A 2 0).toNat))), (4, .int (iI (A 2 0))), (3, .int (iI (A 2 0))), (0, .ref (q 99)), (1, .int (iI 1)), (2, .int (iI tog))] rfl dX3_closesFrom_129 rfl (by decide) rfl ?_
          refine g_goto C 64 dX3_closesFrom_132 (by decide) ?_
          have e1 : rg_loop (rg_fr (rg_b B) (I 3) 6) r (n9 + 1) j = rg_loop (rg_fr (rg_b B) (I 3) 6) r n9 (j + 1) := by
            rw [rg_loop, if_pos c3]
          rw [e1] at K1 K0
          refine g_lv (lv' := [(6, .int (iI (j + 1))), (5, .int (iI (B (A 2 0).toNat (A 2 0).toNat))), (4, .int (iI (A 2 0))), (3, .int (iI (A 2 0))), (0, .ref (q 99)), (1, .int (iI 1)), (2, .int (iI tog))]) [0, 2, 3, 4, 5, 6, 7] rfl ?_
          exact ih (j + 1) R (by omega) (by omega) hsR hpre K1 K0
set_option maxRecDepth 100000 in
set_option maxHeartbeats 4000000 in
theorem c_X3_closesFrom_1 (l : Launch) (D : va_G) (Y : Nat → ClassId) {E : (Nat → Prop) → State → Heap → Prop} (hE : g_Stab E) (q : Nat → Nat) (I : Nat → Int) (A : Nat → Nat → Int) (B : Nat → Nat → Int) (tog : Int) (r : List Int) (hsI : smI I) (hsA : smA A) (hsB : okB B) (hn : 2 ≤ I 3 ∧ I 3 ≤ 8) (hr : rg_at (A 2) r) (hL : r.length = 1) (hin : ∀ x ∈ r, 0 ≤ x ∧ x < I 3) (hnd : r.Nodup) (htog : tog = rg_es B r) (hok : rg_ok B r = true) : g_Ct l yX3_closesFrom cX3_closesFrom 8 (some FieldType.boolean) ({ frames := 8, cells := 0, slots := 0, locals := 212 } : Room) D (tysY Y) E [.ref (q 99), .int (iI 1), .int (iI tog)] (wPlan q Y I A B) 0 0 (fun r9 w9 => ∃ R : Nat → Int, smR R ∧ ((r9 = some (.int (iI 1)) ∧ ∃ r2 : List Int, rg_fr (rg_b B) (I 3) 7 r = some r2 ∧ rg_at R r2 ∧ r2.length ≤ 8 ∧ w9 = wPlan q Y (sU I 4 (r2.length : Int)) (sU A 2 R) B) ∨ (r9 = some (.int (iI 0)) ∧ rg_fr (rg_b B) (I 3) 7 r = none ∧ (∀ k, k < 1 → R k = A 2 k) ∧ w9 = wPlan q Y I (sU A 2 R) B))) := by
  refine g_ofG (own := RX3) hE (by decide) rfl (Nat.le_of_ble_eq_true rfl) [(0, .ref (q 99)), (1, .int (iI 1)), (2, .int (iI tog))] rfl ?_
  intro p9 e9 s9 m9 b9 t9 c9 A9 C hr9 hlk hnm
  have hI := hsI
  have hA := hsA
  have hB := hsB
  unfold smI at hI
  unfold smA at hA
  unfold okB at hB
  have hF := rg_at_f hr (by omega)
  have hLs := rg_at_l hr (by omega)
  rw [hL] at hLs
  have hLs : A 2 0 = rg_l r := hLs
  have hFr := hin _ (rg_f_mem (by omega))
  have hLr := hin _ (rg_l_mem (by omega))
  rw [← hF] at hFr
  rw [← hLs] at hLr
  have hes := rg_es_r hsB hok
  rw [hL] at hes
  refine g_aload_n C (n' := 1) 0 rfl dX3_closesFrom_0 rfl rfl ?_
  refine g_get C (n' := 4) (Cn := RX3) (T := TX3) (N := 7) (ci := 2) (v := .ref (q 2)) ga_X3 0 rfl rfl 2 (by decide) kw_141 rfl rfl dX3_closesFrom_1 rfl ?_
  refine g_iconst C (n' := 5) dX3_closesFrom_4 rfl ?_
  refine g_ialdN C (n' := 6) (f := (A 2)) (j := 0) 3 0 rfl rfl (by omega) (by decide) rfl dX3_closesFrom_5 rfl ?_
  have h_5 := hA 2 0
  refine g_istore_n C (n' := 7) [(3, .int (iI ((A 2) 0))), (0, .ref (q 99)), (1, .int (iI 1)), (2, .int (iI tog))] dX3_closesFrom_6 rfl rfl (by decide) rfl ?_
  refine g_aload_n C (n' := 8) 1 rfl dX3_closesFrom_7 rfl rfl ?_
  refine g_get C (n' := 11) (Cn := RX3) (T := TX3) (N := 7) (ci := 2) (v := .ref (q 2)) ga_X3 0 rfl rfl 2 (by decide) kw_141 rfl rfl dX3_closesFrom_8 rfl ?_
  refine g_iload_n C (n' := 12) 2 rfl dX3_closesFrom_11 rfl rfl ?_
  refine g_iconst C (n' := 13) dX3_closesFrom_12 rfl ?_
  refine g_isub C (n' := 14) dX3_closesFrom_13 rfl ?_
  refine g_st (st' := [.int (iI 0), .ref (q 2)]) rfl ?_
  refine g_ialdN C (n' := 15) (f := (A 2)) (j := 0) 3 0 rfl rfl (by omega) (by decide) rfl dX3_closesFrom_14 rfl ?_
  have h_14 := hA 2 0
  refine g_istore C (n' := 17) [(4, .int (iI ((A 2) 0))), (3, .int (iI ((A 2) 0))), (0, .ref (q 99)), (1, .int (iI 1)), (2, .int (iI tog))] dX3_closesFrom_15 rfl (by decide) rfl ?_
  refine g_aload_n C (n' := 18) 2 rfl dX3_closesFrom_17 rfl rfl ?_
  refine g_get C (n' := 21) (Cn := RX3) (T := TX3) (N := 7) (ci := 2) (v := .ref (q 0)) ga_X3 0 rfl rfl 0 (by decide) kw_139 rfl rfl dX3_closesFrom_18 rfl ?_
  refine g_iload C (n' := 23) 0 rfl dX3_closesFrom_21 rfl ?_
  refine g_aalA C (n' := 24) (v := q (20 + ((A 2) 0).toNat)) 1 7 rfl rfl (by omega) (by omega) (by decide) (if_pos (by omega)) dX3_closesFrom_23 rfl ?_
  refine g_iload_n C (n' := 25) 1 rfl dX3_closesFrom_24 rfl rfl ?_
  refine g_iald C (n' := 26) (4 + ((A 2) 0).toNat) 0 (pl_row (by omega)) rfl (by omega) (by omega) (by decide) rfl dX3_closesFrom_25 rfl ?_
  have hb_25 := hB (((A 2) 0).toNat) (((A 2) 0).toNat)
  refine g_istore C (n' := 28) [(5, .int (iI (B (((A 2) 0).toNat) (((A 2) 0).toNat)))), (4, .int (iI ((A 2) 0))), (3, .int (iI ((A 2) 0))), (0, .ref (q 99)), (1, .int (iI 1)), (2, .int (iI tog))] dX3_closesFrom_26 rfl (by decide) rfl ?_
  refine g_iload C (n' := 30) 0 rfl dX3_closesFrom_28 rfl ?_
  refine g_ldc C (n' := 32) 1000000000 (by decide) kw_455 dX3_closesFrom_30 rfl ?_
  refine g_icmp_eq C (n' := 35) 49 dX3_closesFrom_32 (by decide) rfl (by unfold inR; omega) (by unfold inR; omega) (fun c1 => ?_) (fun c1 => ?_)
  · skip
    refine g_iload_n C (n' := 50) 4 rfl dX3_closesFrom_49 rfl rfl ?_
    refine g_aload_n C (n' := 51) 3 rfl dX3_closesFrom_50 rfl rfl ?_
    refine g_get C (n' := 54) (Cn := RX3) (T := TX3) (N := 7) (ci := 2) (v := .int (iI (I 3))) ga_X3 0 rfl rfl 3 (by decide) kw_142 rfl rfl dX3_closesFrom_51 rfl ?_
    have h_51 := hI 3
    refine g_icmp_lt C (n' := 57) 59 dX3_closesFrom_54 (by decide) rfl (by unfold inR; omega) (by unfold inR; omega) (fun c2 => ?_) (fun c2 => ?_)
    · skip
      refine g_iload_n C (n' := 60) 2 rfl dX3_closesFrom_59 rfl rfl ?_
      refine g_iconst C (n' := 61) dX3_closesFrom_60 rfl ?_
      refine g_iadd C (n' := 62) dX3_closesFrom_61 rfl ?_
      refine g_istore C (n' := 64) [(6, .int (iI (((A 2) 0) + 1))), (5, .int (iI (B (((A 2) 0).toNat) (((A 2) 0).toNat)))), (4, .int (iI ((A 2) 0))), (3, .int (iI ((A 2) 0))), (0, .ref (q 99)), (1, .int (iI 1)), (2, .int (iI tog))] dX3_closesFrom_62 rfl (by decide) rfl ?_
      have hb : ¬ rg_b B r = true := fun z => by
        have z2 := (rg_b_of hok (x := (B (A 2 0).toNat (A 2 0).toNat)) (by rw [← hF, ← hLs])).mp z
        omega
      refine g_wd (w' := (wPlan q Y I (sU A 2 (A 2)) B)) (by rw [sU_id]) ?_
      refine g_lv (lv' := [(6, .int (iI (((A 2) 0) + 1))), (5, .int (iI (B (A 2 0).toNat (A 2 0).toNat))), (4, .int (iI (A 2 0))), (3, .int (iI (A 2 0))), (0, .ref (q 99)), (1, .int (iI 1)), (2, .int (iI tog))]) [0, 1, 2, 3, 4, 5, 6] rfl ?_
      refine lp_X3_cl_1 C q I A B tog r hsI hsA hsB hn hr hL hin hnd htog hok (I 3 - (A 2 0 + 1)).toNat (A 2 0 + 1) (A 2) (by omega) (by omega) (hsA 2) (fun _ _ => rfl) (fun R r2 hfr hsR hat hle => ?_) (fun R hfr hsR hpre => ?_)
      · skip
        refine g_iconst C (n' := 128) dX3_closesFrom_127 rfl ?_
        exact g_iret C hr9 hlk (nar_z (by omega)) ⟨R, hsR, Or.inl ⟨rfl, r2, by rw [rg_miss hb, ← hF]; exact hfr, hat, hle, rfl⟩⟩ dX3_closesFrom_128
      · skip
        refine g_iconst C (n' := 136) dX3_closesFrom_135 rfl ?_
        exact g_iret C hr9 hlk (nar_z (by omega)) ⟨R, hsR, Or.inr ⟨rfl, by rw [rg_miss hb, ← hF]; exact hfr, hpre, rfl⟩⟩ dX3_closesFrom_136
    · skip
      refine g_iconst C (n' := 58) dX3_closesFrom_57 rfl ?_
      have hb : ¬ rg_b B r = true := fun z => by
        have z2 := (rg_b_of hok (x := (B (A 2 0).toNat (A 2 0).toNat)) (by rw [← hF, ← hLs])).mp z
        omega
      exact g_iret C hr9 hlk (nar_z (by omega)) ⟨A 2, hsA 2, Or.inr ⟨rfl, by rw [rg_miss hb, ← hF]; exact rg_loop_full (n := I 3) (fun j h0 h1 => rg_full hnd hin (by omega) ⟨h0, h1⟩) _ _ (by omega) (by omega), fun _ _ => rfl, by rw [sU_id]⟩⟩ dX3_closesFrom_58
  · skip
    refine g_iload_n C (n' := 36) 5 rfl dX3_closesFrom_35 rfl rfl ?_
    refine g_iload C (n' := 38) 0 rfl dX3_closesFrom_36 rfl ?_
    refine g_iadd C (n' := 39) dX3_closesFrom_38 rfl ?_
    refine g_if_ge C (n' := 42) 49 dX3_closesFrom_39 (by decide) rfl (by unfold inR; omega) (fun c3 => ?_) (fun c3 => ?_)
    · skip
      refine g_iload_n C (n' := 50) 4 rfl dX3_closesFrom_49 rfl rfl ?_
      refine g_aload_n C (n' := 51) 3 rfl dX3_closesFrom_50 rfl rfl ?_
      refine g_get C (n' := 54) (Cn := RX3) (T := TX3) (N := 7) (ci := 2) (v := .int (iI (I 3))) ga_X3 0 rfl rfl 3 (by decide) kw_142 rfl rfl dX3_closesFrom_51 rfl ?_
      have h_51 := hI 3
      refine g_icmp_lt C (n' := 57) 59 dX3_closesFrom_54 (by decide) rfl (by unfold inR; omega) (by unfold inR; omega) (fun c4 => ?_) (fun c4 => ?_)
      · skip
        refine g_iload_n C (n' := 60) 2 rfl dX3_closesFrom_59 rfl rfl ?_
        refine g_iconst C (n' := 61) dX3_closesFrom_60 rfl ?_
        refine g_iadd C (n' := 62) dX3_closesFrom_61 rfl ?_
        refine g_istore C (n' := 64) [(6, .int (iI (((A 2) 0) + 1))), (5, .int (iI (B (((A 2) 0).toNat) (((A 2) 0).toNat)))), (4, .int (iI ((A 2) 0))), (3, .int (iI ((A 2) 0))), (0, .ref (q 99)), (1, .int (iI 1)), (2, .int (iI tog))] dX3_closesFrom_62 rfl (by decide) rfl ?_
        have hb : ¬ rg_b B r = true := fun z => by
          have z2 := (rg_b_of hok (x := (B (A 2 0).toNat (A 2 0).toNat)) (by rw [← hF, ← hLs])).mp z
          omega
        refine g_wd (w' := (wPlan q Y I (sU A 2 (A 2)) B)) (by rw [sU_id]) ?_
        refine g_lv (lv' := [(6, .int (iI (((A 2) 0) + 1))), (5, .int (iI (B (A 2 0).toNat (A 2 0).toNat))), (4, .int (iI (A 2 0))), (3, .int (iI (A 2 0))), (0, .ref (q 99)), (1, .int (iI 1)), (2, .int (iI tog))]) [0, 1, 2, 3, 4, 5, 6] rfl ?_
        refine lp_X3_cl_1 C q I A B tog r hsI hsA hsB hn hr hL hin hnd htog hok (I 3 - (A 2 0 + 1)).toNat (A 2 0 + 1) (A 2) (by omega) (by omega) (hsA 2) (fun _ _ => rfl) (fun R r2 hfr hsR hat hle => ?_) (fun R hfr hsR hpre => ?_)
        · skip
          refine g_iconst C (n' := 128) dX3_closesFrom_127 rfl ?_
          exact g_iret C hr9 hlk (nar_z (by omega)) ⟨R, hsR, Or.inl ⟨rfl, r2, by rw [rg_miss hb, ← hF]; exact hfr, hat, hle, rfl⟩⟩ dX3_closesFrom_128
        · skip
          refine g_iconst C (n' := 136) dX3_closesFrom_135 rfl ?_
          exact g_iret C hr9 hlk (nar_z (by omega)) ⟨R, hsR, Or.inr ⟨rfl, by rw [rg_miss hb, ← hF]; exact hfr, hpre, rfl⟩⟩ dX3_closesFrom_136
      · skip
        refine g_iconst C (n' := 58) dX3_closesFrom_57 rfl ?_
        have hb : ¬ rg_b B r = true := fun z => by
          have z2 := (rg_b_of hok (x := (B (A 2 0).toNat (A 2 0).toNat)) (by rw [← hF, ← hLs])).mp z
          omega
        exact g_iret C hr9 hlk (nar_z (by omega)) ⟨A 2, hsA 2, Or.inr ⟨rfl, by rw [rg_miss hb, ← hF]; exact rg_loop_full (n := I 3) (fun j h0 h1 => rg_full hnd hin (by omega) ⟨h0, h1⟩) _ _ (by omega) (by omega), fun _ _ => rfl, by rw [sU_id]⟩⟩ dX3_closesFrom_58
    · skip
      refine g_aload_n C (n' := 43) 3 rfl dX3_closesFrom_42 rfl rfl ?_
      refine g_iload_n C (n' := 44) 4 rfl dX3_closesFrom_43 rfl rfl ?_
      refine g_put C (n' := 47) (Cn := RX3) (T := TX3) (N := 7) (ci := 2) (v := .int (iI 1)) ga_X3 0 rfl rfl 4 (by decide) kw_143 rfl tyX3 tyX3_ok nmX3 rfl rfl rfl rfl (Nat.le_of_ble_eq_true rfl) (wPlan q Y (sU I 4 1) A B) rfl dX3_closesFrom_44 rfl ?_
      refine g_iconst C (n' := 48) dX3_closesFrom_47 rfl ?_
      have hb : rg_b B r = true := (rg_b_of hok (x := (B (A 2 0).toNat (A 2 0).toNat)) (by rw [← hF, ← hLs])).mpr ⟨by omega, by omega⟩
      exact g_iret C hr9 hlk (nar_z (by omega)) ⟨A 2, hsA 2, Or.inl ⟨rfl, r, rg_hit hb _, hr, by omega, by rw [sU_id, hL]; rfl⟩⟩ dX3_closesFrom_48
def rg_top (P : List Int → Bool) (n : Int) : Nat → Int → Option (List Int)
  | 0, _ => none
  | c + 1, j => match rg_fr P n 7 [j] with
    | some x => some x
    | none => rg_top P n c (j + 1)
set_option maxRecDepth 100000 in
set_option maxHeartbeats 4000000 in
theorem lp_X3_fg {p9 : Program} {l : Launch} {e9 : Env} {s9 : State} {m9 : MethodId} {a9 : Array Value} {b9 : List Frame} {t9 : Method} {c9 : Code} {D : va_G} {A9 : Nat → Prop} {Q9 : State → Prop} {E : (Nat → Prop) → State → Heap → Prop} {Y : Nat → ClassId} (C : g_Cx p9 s9 m9 a9 c9 cX3_findRing 2 RX3 D (tysY Y) A9 E) (q : Nat → Nat) (I : Nat → Int) (A B : Nat → Nat → Int) (hsI : smI I) (hsA : smA A) (hsB : okB B) (hn : 2 ≤ I 3 ∧ I 3 ≤ 8) : ∀ (n9 : Nat) (j : Int) (R : Nat → Int), 0 ≤ j → j + n9 = I 3 → smR R → (∀ (R : Nat → Int) (r2 : List Int), rg_top (rg_b B) (I 3) n9 j = some r2 → smR R → rg_at R r2 → r2.length ≤ 8 → g_G p9 l e9 ({ frames := 9, cells := 0, slots := 0, locals := 239 } : Room) s9 m9 a9 b9 t9 c9 2 D A9 Q9 0 0 (wPlan q Y (sU I 4 (r2.length : Int)) (sU A 2 R) B) [(0, .ref (q 99))] 31 []) → (∀ R : Nat → Int, rg_top (rg_b B) (I 3) n9 j = none → smR R → g_G p9 l e9 ({ frames := 9, cells := 0, slots := 0, locals := 239 } : Room) s9 m9 a9 b9 t9 c9 2 D A9 Q9 0 0 (wPlan q Y (sU I 4 0) (sU A 2 R) B) [(0, .ref (q 99))] 39 []) → g_G p9 l e9 ({ frames := 9, cells := 0, slots := 0, locals := 239 } : Room) s9 m9 a9 b9 t9 c9 2 D A9 Q9 0 0 (wPlan q Y (sU I 4 0) (sU A 2 R) B) [(1, .int (iI j)), (0, .ref (q 99))] 7 [] := by
  have hE := C.2.2.2.2.2.2.2.2.1
  intro n9
  induction n9 with
  | zero =>
    intro j R hj hjn hsR K1 K0
    have hI := hsI
    have hA := hsA
    have hB := hsB
    unfold smI at hI
    unfold smA at hA
    unfold okB at hB
    have hR9 := hsR
    unfold smR at hR9
    refine g_iload_n C (n' := 8) 0 rfl dX3_findRing_7 rfl rfl ?_
    refine g_aload_n C (n' := 9) 1 rfl dX3_findRing_8 rfl rfl ?_
    refine g_get C (n' := 12) (Cn := RX3) (T := TX3) (N := 7) (ci := 2) (v := .int (iI (I 3))) ga_X3 0 rfl rfl 3 (by decide) kw_142 rfl rfl dX3_findRing_9 rfl ?_
    have h_9 := hI 3
    refine g_icmp_ge C (n' := 15) 39 dX3_findRing_12 (by decide) rfl (by unfold inR; omega) (by unfold inR; omega) (fun c1 => ?_) (fun c1 => ?_)
    · skip
      refine g_lv [1] rfl ?_
      exact K0 R rfl hsR
    · skip
      exfalso
      omega
  | succ n9 ih =>
    intro j R hj hjn hsR K1 K0
    have hI := hsI
    have hA := hsA
    have hB := hsB
    unfold smI at hI
    unfold smA at hA
    unfold okB at hB
    have hR9 := hsR
    unfold smR at hR9
    refine g_iload_n C (n' := 8) 0 rfl dX3_findRing_7 rfl rfl ?_
    refine g_aload_n C (n' := 9) 1 rfl dX3_findRing_8 rfl rfl ?_
    refine g_get C (n' := 12) (Cn := RX3) (T := TX3) (N := 7) (ci := 2) (v := .int (iI (I 3))) ga_X3 0 rfl rfl 3 (by decide) kw_142 rfl rfl dX3_findRing_9 rfl ?_
    have h_9 := hI 3
    refine g_icmp_ge C (n' := 15) 39 dX3_findRing_12 (by decide) rfl (by unfold inR; omega) (by unfold inR; omega) (fun c1 => ?_) (fun c1 => ?_)
    · skip
      exfalso
      omega
    · skip
      refine g_aload_n C (n' := 16) 1 rfl dX3_findRing_15 rfl rfl ?_
      refine g_get C (n' := 19) (Cn := RX3) (T := TX3) (N := 7) (ci := 2) (v := .ref (q 2)) ga_X3 0 rfl rfl 2 (by decide) kw_141 rfl rfl dX3_findRing_16 rfl ?_
      refine g_iconst C (n' := 20) dX3_findRing_19 rfl ?_
      refine g_iload_n C (n' := 21) 0 rfl dX3_findRing_20 rfl rfl ?_
      refine g_iastN C (n' := 22) (f := R) (j := 0) 3 0 rfl rfl (by omega) (by decide) rfl dX3_findRing_21 rfl (wPlan q Y (sU I 4 0) (sU A 2 (sU R 0 j)) B) rfl ?_
      refine g_aload_n C (n' := 23) 1 rfl dX3_findRing_22 rfl rfl ?_
      refine g_iconst C (n' := 24) dX3_findRing_23 rfl ?_
      refine g_iconst C (n' := 25) dX3_findRing_24 rfl ?_
      refine g_callV C (n' := 28) (c_X3_closesFrom_1 l D Y C.2.2.2.2.2.2.2.2.1 q (sU I 4 0) (sU A 2 (sU R 0 j)) B 0 [j] (sm_put hsI (by omega)) (sm_putA hsA (sm_putR hsR (by omega))) hsB hn (rg_one j) rfl (fun x hx => by rw [List.mem_singleton.mp hx]; show 0 ≤ j ∧ j < I 3; omega) (by simp) rfl rfl) 2 kw_533 kc_X3_closesFrom (by decide +kernel) (pm0 _) 0 (ci := 2) rfl rfl rfl rfl ⟨Nat.le_of_ble_eq_true rfl, Nat.le_of_ble_eq_true rfl⟩ ⟨rfl, rfl⟩ ⟨Nat.le_of_ble_eq_true rfl, Nat.le_of_ble_eq_true rfl⟩ (Nat.le_of_ble_eq_true rfl) dX3_findRing_25 rfl (fun r9 w9 hp2 => ?_)
      obtain ⟨R3, hsR3, (⟨rfl, r4, q1, q2, q3, rfl⟩ | ⟨rfl, q1, q2, rfl⟩)⟩ := hp2
      · skip
        have hcR3 : rg_fr (rg_b B) (I 3) 7 [j] = some r4 ∧ rg_at R3 r4 ∧ r4.length ≤ 8 := And.intro q1 (And.intro q2 q3)
        refine g_perm (w' := (wPlan q Y (sU I 4 (r4.length : Int)) (sU A 2 R3) B)) (pm0' _) ?_
        refine g_st (st' := [.int (iI 1)]) rfl ?_
        refine g_if_eq C (n' := 31) 33 dX3_findRing_28 (by decide) rfl (by unfold inR; omega) (fun c5 => ?_) (fun c5 => ?_)
        · skip
          exfalso
          omega
        · skip
          refine g_lv [1] rfl ?_
          exact K1 R3 r4 (by rw [rg_top, hcR3.1]) hsR3 hcR3.2.1 hcR3.2.2
      · skip
        have hcR3 : rg_fr (rg_b B) (I 3) 7 [j] = none := q1
        refine g_perm (w' := (wPlan q Y (sU I 4 0) (sU A 2 R3) B)) (pm0' _) ?_
        refine g_st (st' := [.int (iI 0)]) rfl ?_
        refine g_if_eq C (n' := 31) 33 dX3_findRing_28 (by decide) rfl (by unfold inR; omega) (fun c6 => ?_) (fun c6 => ?_)
        · skip
          refine g_iinc C (n' := 36) 0 [(1, .int (iI (j + 1))), (0, .ref (q 99))] rfl dX3_findRing_33 rfl (by decide) rfl ?_
          refine g_goto C 7 dX3_findRing_36 (by decide) ?_
          have e1 : rg_top (rg_b B) (I 3) (n9 + 1) j = rg_top (rg_b B) (I 3) n9 (j + 1) := by rw [rg_top, hcR3]
          rw [e1] at K1 K0
          exact ih (j + 1) R3 (by omega) (by omega) hsR3 K1 K0
        · skip
          exfalso
          omega
set_option maxRecDepth 100000 in
set_option maxHeartbeats 4000000 in
theorem c_X3_findRing (l : Launch) (D : va_G) (Y : Nat → ClassId) {E : (Nat → Prop) → State → Heap → Prop} (hE : g_Stab E) (q : Nat → Nat) (I : Nat → Int) (A : Nat → Nat → Int) (B : Nat → Nat → Int) (hsI : smI I) (hsA : smA A) (hsB : okB B) (hn : 2 ≤ I 3 ∧ I 3 ≤ 8) : g_Ct l yX3_findRing cX3_findRing 2 (some FieldType.boolean) ({ frames := 9, cells := 0, slots := 0, locals := 239 } : Room) D (tysY Y) E [.ref (q 99)] (wPlan q Y I A B) 0 0 (fun r9 w9 => ∃ R : Nat → Int, smR R ∧ ((r9 = some (.int (iI 1)) ∧ ∃ r2 : List Int, rg_top (rg_b B) (I 3) (I 3).toNat 0 = some r2 ∧ rg_at R r2 ∧ r2.length ≤ 8 ∧ w9 = wPlan q Y (sU I 4 (r2.length : Int)) (sU A 2 R) B) ∨ (r9 = some (.int (iI 0)) ∧ rg_top (rg_b B) (I 3) (I 3).toNat 0 = none ∧ w9 = wPlan q Y (sU I 4 0) (sU A 2 R) B))) := by
  refine g_ofG (own := RX3) hE (by decide) rfl (Nat.le_of_ble_eq_true rfl) [(0, .ref (q 99))] rfl ?_
  intro p9 e9 s9 m9 b9 t9 c9 A9 C hr hlk hnm
  have hI := hsI
  have hA := hsA
  have hB := hsB
  unfold smI at hI
  unfold smA at hA
  unfold okB at hB
  refine g_aload_n C (n' := 1) 0 rfl dX3_findRing_0 rfl rfl ?_
  refine g_iconst C (n' := 2) dX3_findRing_1 rfl ?_
  refine g_put C (n' := 5) (Cn := RX3) (T := TX3) (N := 7) (ci := 2) (v := .int (iI 0)) ga_X3 0 rfl rfl 4 (by decide) kw_143 rfl tyX3 tyX3_ok nmX3 rfl rfl rfl rfl (Nat.le_of_ble_eq_true rfl) (wPlan q Y (sU I 4 0) A B) rfl dX3_findRing_2 rfl ?_
  refine g_iconst C (n' := 6) dX3_findRing_5 rfl ?_
  refine g_istore_n C (n' := 7) [(1, .int (iI 0)), (0, .ref (q 99))] dX3_findRing_6 rfl rfl (by decide) rfl ?_
  refine g_wd (w' := (wPlan q Y (sU I 4 0) (sU A 2 (A 2)) B)) (by rw [sU_id]) ?_
  refine g_lv (lv' := [(1, .int (iI 0)), (0, .ref (q 99))]) [0, 1] rfl ?_
  refine lp_X3_fg C q I A B hsI hsA hsB hn (I 3).toNat 0 (A 2) (by omega) (by omega) (hsA 2) (fun R r2 hfr hsR hat hle => ?_) (fun R hfr hsR => ?_)
  · skip
    refine g_iconst C (n' := 32) dX3_findRing_31 rfl ?_
    exact g_iret C hr hlk (nar_z (by omega)) ⟨R, hsR, Or.inl ⟨rfl, r2, hfr, hat, hle, rfl⟩⟩ dX3_findRing_32
  · skip
    refine g_iconst C (n' := 40) dX3_findRing_39 rfl ?_
    exact g_iret C hr hlk (nar_z (by omega)) ⟨R, hsR, Or.inr ⟨rfl, hfr, rfl⟩⟩ dX3_findRing_40
