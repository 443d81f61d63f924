/-! what is there from the start -/
def sIx : List Nat := [55, 61, 64, 67, 70, 73]
def sTm (i : Nat) : Term := .string "SkewPlan$Word" (sIx.getD i 0)
def eOf (t0 t1 : Nat) (aW aK aV : Nat → Nat) : Nat → Nat := fun n => if n = 0 then t0 else if n = 1 then t1 else if n < 20 then aW (n - 10) else if n < 30 then aK (n - 20) else aV (n - 30)
theorem lt6 {i : Nat} (h : i < 6) : i = 0 ∨ i = 1 ∨ i = 2 ∨ i = 3 ∨ i = 4 ∨ i = 5 := by omega
theorem va_T_f {ty : FieldType} {t N : Nat} {f g : Nat → Value} {A : Nat → Prop} {U : State} {H : Heap} (h : va_T ty t N f A U H) (e : ∀ j, j < N → f j = g j) : va_T ty t N g A U H := by
  obtain ⟨c, h1, h2, h3, h4, h5, h6, h7⟩ := h
  exact ⟨c, h1, h2, h3, h4, h5, fun j hj => by rw [← e j hj]; exact h6 j hj, h7⟩
set_option maxHeartbeats 4000000 in
theorem lw_env {b : Nat} {s : State} {A : Nat → Prop} (hg : (Jvm.Cond.and given_1 narrow_1).before #[Value.ref b] s = true) (hts : ∀ w ∈ lw_tbl, w.before #[Value.ref b] s = true) (hA : ∀ a : Nat, a < s.heap.size → ¬ A a) : ∃ e : Nat → Nat, wEnv e A s s.heap := by
  have hs := flat_of_before _ hg
  obtain ⟨aW, hW, hWe⟩ := va_Enof2 (args := #[Value.ref b]) (s := s) (E := "SkewPlan$Word") (d := "LSkewPlan$Word;") (nm := eNm) (F := eFs) (A := A)
    (fun i hi => by rcases lt6 hi with rfl | rfl | rfl | rfl | rfl | rfl <;> exact hts _ (by decide +kernel))
    (hts _ (by decide +kernel))
    (fun i hi => by rcases lt6 hi with rfl | rfl | rfl | rfl | rfl | rfl <;> exact hs _ (by decide +kernel))
    (fun q hq i hi => by
      simp only [eFs, List.mem_cons, List.not_mem_nil, or_false] at hq
      rcases hq with rfl | rfl | rfl <;> rcases lt6 hi with rfl | rfl | rfl | rfl | rfl | rfl <;> exact hs _ (by decide +kernel))
    (fun i j hi hj hij => by
      rcases lt6 hi with rfl | rfl | rfl | rfl | rfl | rfl <;> rcases lt6 hj with rfl | rfl | rfl | rfl | rfl | rfl <;> first | exact absurd rfl hij | exact Or.inl (hs _ (by decide +kernel)) | exact Or.inr (hs _ (by decide +kernel)))
    hA
  obtain ⟨aK, aV, hS, hSe⟩ := vk_Sof (args := #[Value.ref b]) (s := s) (N := 6) (tm := sTm) (len := eLn) (byt := eBy) (A := A)
    (fun i hi => by rcases lt6 hi with rfl | rfl | rfl | rfl | rfl | rfl <;> decide)
    (fun i hi => by rcases lt6 hi with rfl | rfl | rfl | rfl | rfl | rfl <;> exact hs _ (by decide +kernel))
    (fun i hi => by rcases lt6 hi with rfl | rfl | rfl | rfl | rfl | rfl <;> exact hs _ (by decide +kernel))
    (fun i hi => by rcases lt6 hi with rfl | rfl | rfl | rfl | rfl | rfl <;> exact hs _ (by decide +kernel))
    (fun i hi => by rcases lt6 hi with rfl | rfl | rfl | rfl | rfl | rfl <;> exact hs _ (by decide +kernel))
    (fun i hi j hj => by
      have h6 : j < 6 := by
        rcases lt6 hi with rfl | rfl | rfl | rfl | rfl | rfl <;> simp only [eLn, List.getD_cons_zero, List.getD_cons_succ] at hj <;> omega
      rcases lt6 hi with rfl | rfl | rfl | rfl | rfl | rfl <;> rcases lt6 h6 with rfl | rfl | rfl | rfl | rfl | rfl <;> first | exact absurd hj (by decide) | exact hs _ (by decide +kernel))
    (fun i j hi hj hij => by
      rcases lt6 hi with rfl | rfl | rfl | rfl | rfl | rfl <;> rcases lt6 hj with rfl | rfl | rfl | rfl | rfl | rfl <;> first | exact absurd rfl hij | exact Or.inl (hs _ (by decide +kernel)) | exact Or.inr (hs _ (by decide +kernel)))
    hA
  have hEf := va_Efof (args := #[Value.ref b]) (s := s) (N := 6) (E := "SkewPlan$Word") (d0 := "LSkewPlan$Word;") (o := "SkewPlan$Word") (n := "spelling") (d := "Ljava/lang/String;") (nm := eNm) (v := fun i => .ref (aK i)) (tm := sTm) (ad := aW) (A := A) hWe
    (fun i hi => by rcases lt6 hi with rfl | rfl | rfl | rfl | rfl | rfl <;> exact hs _ (by decide +kernel)) hSe hA
  obtain ⟨t0, ht0, hT0⟩ := va_Tof (args := #[Value.ref b]) (s := s) (tm := .static "SkewPlan" "WORDS" "[LSkewPlan$Word;") (ty := .object "SkewPlan$Word") (N := 6) (f := fun j => .ref (aW j)) (A := A) (by decide) (hs _ (by decide +kernel)) (va_eqt (hs _ (by decide +kernel)))
    (fun j hj => va_eqv (u := .static "SkewPlan$Word" (eNm.getD j "") "LSkewPlan$Word;") (by rcases lt6 hj with rfl | rfl | rfl | rfl | rfl | rfl <;> exact hs _ (by decide +kernel)) (hWe j hj)) hA
  obtain ⟨t1, ht1, hT1⟩ := va_Tof (args := #[Value.ref b]) (s := s) (tm := .static "SkewPlan$1" "$SwitchMap$SkewPlan$Word" "[I") (ty := .int) (N := 6) (f := fun j => .int (([1, 0, 2, 3, 4, 5] : List Int32).getD j 0)) (A := A) (by decide) (hs _ (by decide +kernel)) (va_eqt (hs _ (by decide +kernel)))
    (fun j hj => va_eqt (by rcases lt6 hj with rfl | rfl | rfl | rfl | rfl | rfl <;> exact hs _ (by decide +kernel))) hA
  have z0 := va_Zof (args := #[Value.ref b]) (s := s) (C := "SkewPlan") (n := "WORDS") (d := "[LSkewPlan$Word;") (A := A) (hts _ (by decide +kernel)) (hts _ (by decide +kernel)) ht0 hA
  have z1 := va_Zof (args := #[Value.ref b]) (s := s) (C := "SkewPlan$1") (n := "$SwitchMap$SkewPlan$Word") (d := "[I") (A := A) (hts _ (by decide +kernel)) (hts _ (by decide +kernel)) ht1 hA
  have z2 := va_Zof (args := #[Value.ref b]) (s := s) (C := "java/lang/String") (n := "COMPACT_STRINGS") (d := "Z") (v := .int 1) (A := A) (hts _ (by decide +kernel)) (hts _ (by decide +kernel)) (va_eqi (hs _ (by decide +kernel))) hA
  have z3 := va_Zqof (args := #[Value.ref b]) (s := s) (C := "jdk/internal/util/Preconditions") (n := "SIOOBE_FORMATTER") (d := "Ljava/util/function/BiFunction;") (A := A) (hts _ (by decide +kernel)) (hts _ (by decide +kernel)) (hs _ (by decide +kernel)) hA
  refine ⟨eOf t0 t1 aW aK aV, z0, ?_, ?_, ?_, z1, hT1, z2, z3, ?_⟩
  · refine va_T_f hT0 fun j hj => ?_
    rcases lt6 hj with rfl | rfl | rfl | rfl | rfl | rfl <;> rfl
  · refine ⟨fun i hi => ?_, fun i j hi hj => ?_⟩
    · rcases lt6 hi with rfl | rfl | rfl | rfl | rfl | rfl
      · exact hW.1 0 (by decide)
      · exact hW.1 1 (by decide)
      · exact hW.1 2 (by decide)
      · exact hW.1 3 (by decide)
      · exact hW.1 4 (by decide)
      · exact hW.1 5 (by decide)
    · rcases lt6 hi with rfl | rfl | rfl | rfl | rfl | rfl <;> rcases lt6 hj with rfl | rfl | rfl | rfl | rfl | rfl <;> exact hW.2 _ _ (by decide) (by decide)
  · intro i hi
    rcases lt6 hi with rfl | rfl | rfl | rfl | rfl | rfl
    · exact hEf 0 (by decide)
    · exact hEf 1 (by decide)
    · exact hEf 2 (by decide)
    · exact hEf 3 (by decide)
    · exact hEf 4 (by decide)
    · exact hEf 5 (by decide)
  · refine ⟨fun i hi => ?_, fun i j hi hj => ?_⟩
    · rcases lt6 hi with rfl | rfl | rfl | rfl | rfl | rfl
      · exact hS.1 0 (by decide)
      · exact hS.1 1 (by decide)
      · exact hS.1 2 (by decide)
      · exact hS.1 3 (by decide)
      · exact hS.1 4 (by decide)
      · exact hS.1 5 (by decide)
    · rcases lt6 hi with rfl | rfl | rfl | rfl | rfl | rfl <;> rcases lt6 hj with rfl | rfl | rfl | rfl | rfl | rfl <;> exact hS.2 _ _ (by decide) (by decide)
