/-! floats: what is alike -/
theorem nan64_iff {x : UInt64} : isNaN64 x = true ↔ FP.Core.val64 x = .nan := by
  rw [isNaN64_not]
  constructor
  · intro h
    refine Classical.byContradiction fun q => h ?_
    exact (Jvm.Free.Fl.val64_no (x := x)).mpr q
  · intro h q
    exact (Jvm.Free.Fl.val64_no (x := x)).mp q h
theorem nan32_iff {x : UInt32} : isNaN32 x = true ↔ FP.Core.val32 x = .nan := by
  rw [isNaN32_not]
  constructor
  · intro h
    refine Classical.byContradiction fun q => h ?_
    exact (Jvm.Free.Fl.val32_no (x := x)).mpr q
  · intro h q
    exact (Jvm.Free.Fl.val32_no (x := x)).mp q h
theorem al64 {x y : UInt64} : alike64 x y = true ↔ x = y ∨ (FP.Core.val64 x = .nan ∧ FP.Core.val64 y = .nan) := by
  unfold alike64
  rw [Bool.or_eq_true, Bool.and_eq_true, decide_eq_true_iff, nan64_iff, nan64_iff]
theorem al32 {x y : UInt32} : alike32 x y = true ↔ x = y ∨ (FP.Core.val32 x = .nan ∧ FP.Core.val32 y = .nan) := by
  unfold alike32
  rw [Bool.or_eq_true, Bool.and_eq_true, decide_eq_true_iff, nan32_iff, nan32_iff]
theorem al64_v {x y : UInt64} (h : alike64 x y = true) : FP.Core.val64 x = FP.Core.val64 y := by
  rcases al64.mp h with e | ⟨e1, e2⟩
  · rw [e]
  · rw [e1, e2]
theorem al32_v {x y : UInt32} (h : alike32 x y = true) : FP.Core.val32 x = FP.Core.val32 y := by
  rcases al32.mp h with e | ⟨e1, e2⟩
  · rw [e]
  · rw [e1, e2]
theorem al64_of {x y : UInt64} (h : FP.Core.val64 x = FP.Core.val64 y) : alike64 x y = true := by
  by_cases q : FP.Core.val64 x = .nan
  · exact al64.mpr (Or.inr ⟨q, h ▸ q⟩)
  · exact al64.mpr (Or.inl (FP.Core.val64_inj q h))
theorem al32_of {x y : UInt32} (h : FP.Core.val32 x = FP.Core.val32 y) : alike32 x y = true := by
  by_cases q : FP.Core.val32 x = .nan
  · exact al32.mpr (Or.inr ⟨q, h ▸ q⟩)
  · exact al32.mpr (Or.inl (FP.Core.val32_inj q h))
theorem dcV_v {op : CmpOp} {x y x' y' : UInt64} (hx : FP.Core.val64 x = FP.Core.val64 x') (hy : FP.Core.val64 y = FP.Core.val64 y') : dcV op x y = dcV op x' y' := by
  unfold dcV
  have e : FP.dcmp x y = FP.dcmp x' y' := by
    show FP.Core.order (FP.Core.val64 x) (FP.Core.val64 y) = FP.Core.order (FP.Core.val64 x') (FP.Core.val64 y')
    rw [hx, hy]
  rw [e]
theorem d2V_v {x x' : UInt64} (hx : FP.Core.val64 x = FP.Core.val64 x') : d2V x = d2V x' := by
  unfold d2V
  have e : FP.d2i x = FP.d2i x' := by
    show FP.Core.toI (FP.Core.val64 x) = FP.Core.toI (FP.Core.val64 x')
    rw [hx]
  rw [e]
theorem m_cut_v {x x' : UInt64} (hx : FP.Core.val64 x = FP.Core.val64 x') : m_cut x = m_cut x' := by
  unfold m_cut
  rw [dcV_v hx hx, dcV_v (op := .l) (y := 4696837146684686336) hx rfl, dcV_v (op := .g) (y := 13920209183539462144) hx rfl, d2V_v hx]
