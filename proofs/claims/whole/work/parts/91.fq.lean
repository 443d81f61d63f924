/-! numbers of traces: one answer for places that are one -/
theorem dcV_nan {op : CmpOp} {x y : UInt64} (h : FP.Core.val64 x = .nan ∨ FP.Core.val64 y = .nan) : dcV op x y = (Op.cmpValue none op).toInt := by
  unfold dcV
  have e : FP.dcmp x y = none := (FP.Core.dcmp_none x y).mpr h
  rw [e]
theorem cv_l : (Op.cmpValue none .l).toInt = -1 := by decide
theorem cv_g : (Op.cmpValue none .g).toInt = 1 := by decide
theorem dcV_self {op : CmpOp} {x : UInt64} (h : FP.Core.val64 x ≠ .nan) : dcV op x x = 0 := by
  rw [dcV_z h h, if_neg (by omega), if_pos rfl]
theorem dcV_nn {x : UInt64} : dcV .l x x = 0 ↔ FP.Core.val64 x ≠ .nan := by
  constructor
  · intro h hn
    rw [dcV_nan (Or.inl hn), cv_l] at h
    exact absurd h (by decide)
  · exact dcV_self
theorem m_cut_nan {x : UInt64} (h : FP.Core.val64 x = .nan) : m_cut x = 2000000 := by
  unfold m_cut
  rw [if_pos (fun e => dcV_nn.mp e h)]
theorem m_cut_t {x : UInt64} (h : FP.Core.val64 x ≠ .nan) : m_cut x = t_cut x := by
  unfold m_cut t_cut
  rw [if_neg (fun e => e (dcV_nn.mpr h))]
  split
  · rfl
  · split
    · rfl
    · omega
theorem k_val : FP.Core.val64 4652007308841189376 = .fin false 8796093022208000 (-43) := by decide +kernel
theorem k_fin32 : FP.Core.val32 1148846080 = .fin false 16384000 (-14) := by decide +kernel
theorem mul_k {x : UInt64} (h : FP.Core.val64 x ≠ .nan) : FP.Core.val64 (FP.dmul x 4652007308841189376) ≠ .nan := by
  rw [FP.Core.val64_dmul, k_val]
  intro e
  rw [FP.Core.round_nan] at e
  cases hx : FP.Core.val64 x with
  | nan => exact h hx
  | inf s => rw [hx] at e; simp [FP.Core.exactProduct] at e
  | fin s c q => rw [hx] at e; simp [FP.Core.exactProduct] at e
theorem mul_k32 {x : UInt32} (h : FP.Core.val32 x ≠ .nan) : FP.Core.val32 (FP.fmul x 1148846080) ≠ .nan := by
  rw [FP.Core.val32_fmul, k_fin32]
  intro e
  rw [FP.Core.round_nan] at e
  cases hx : FP.Core.val32 x with
  | nan => exact h hx
  | inf s => rw [hx] at e; simp [FP.Core.exactProduct] at e
  | fin s c q => rw [hx] at e; simp [FP.Core.exactProduct] at e
theorem f2d_c {f : UInt32} (h : FP.Core.val32 f ≠ .nan) : FP.f2d f = FP.Core.f2d f := by
  unfold FP.f2d
  rw [if_neg (fun e => h ((FP.Core.fIsNaN_iff f).mp e))]
theorem d2f_c {d : UInt64} (h : FP.Core.val64 d ≠ .nan) : FP.d2f d = FP.Core.d2f d := by
  unfold FP.d2f
  rw [if_neg (fun e => h ((FP.Core.dIsNaN_iff d).mp e))]
theorem f2d_val {f : UInt32} (h : FP.Core.val32 f ≠ .nan) : FP.Core.val64 (FP.f2d f) = FP.Core.round FP.Core.b64 (FP.Core.val32 f) := by
  rw [f2d_c h]
  exact FP.Core.val64_f2d f
theorem f2d_nn {f : UInt32} : FP.Core.val64 (FP.f2d f) = .nan ↔ FP.Core.val32 f = .nan := by
  constructor
  · intro h
    refine Classical.byContradiction fun z => ?_
    rw [f2d_val z, FP.Core.round_nan] at h
    exact z h
  · intro h
    refine Classical.byContradiction fun z => ?_
    exact (Jvm.Free.Fl.val32_no (x := f)).mp (Jvm.Free.Fl.f2d_in ((Jvm.Free.Fl.val64_no).mpr z)) h
theorem d2f_f2d' {f : UInt32} (h : FP.Core.val32 f ≠ .nan) : FP.d2f (FP.f2d f) = f := by
  rw [d2f_c (fun e => h (f2d_nn.mp e)), f2d_c h]
  exact FP.Core.d2f_f2d h
/-- the number of a place, told in thousandths -/
theorem ta_th {m s : Int} {v : UInt64} {f : UInt32} {d : UInt64} (hs : s = 0 ∨ s = 1) (h : plR m v (voV s f d)) (hv : m = 0 → plOK v) : taV m s v = thV s f d := by
  unfold taV thV
  rcases h with ⟨h1, h2⟩ | ⟨h1, h2⟩
  · rw [if_neg h1]
    unfold voV at h2
    rcases hs with rfl | rfl
    · rw [if_pos rfl] at h2 ⊢
      rw [f2d_nn] at h2
      rw [m_cut_nan (f2d_nn.mpr (FP.Core.fmul_nan (Or.inr h2)))]
    · rw [if_neg (by decide)] at h2 ⊢
      rw [m_cut_nan (FP.Core.dmul_nan (Or.inr h2))]
  · rw [if_pos h1]
    have hn := plOK_nn (hv h1)
    unfold voV at h2
    have e := FP.Core.val64_inj hn h2
    rcases hs with rfl | rfl
    · rw [if_pos rfl] at e
      rw [if_pos rfl, if_pos rfl]
      subst e
      have hf : FP.Core.val32 f ≠ .nan := fun z => hn (f2d_nn.mpr z)
      have e1 : FP.d2f (FP.f2d f) = f := d2f_f2d' hf
      have e2 : FP.fmul 1148846080 f = FP.fmul f 1148846080 := FP.Core.fmul_comm _ _
      rw [e1, e2, m_cut_t (fun z => mul_k32 hf (f2d_nn.mp z))]
    · rw [if_neg (by decide)] at e
      rw [if_neg (by decide), if_neg (by decide)]
      subst e
      have e2 : FP.dmul 4652007308841189376 v = FP.dmul v 4652007308841189376 := FP.Core.dmul_comm _ _
      rw [e2, m_cut_t (mul_k hn)]
theorem cm_cm {m n : Int} {v u x y : UInt64} (h : plR m v x) (k : plR n u y) : (if m = 0 ∧ n = 0 then cmV v u else 0) = cmV x y := by
  by_cases hm : FP.Core.val64 x = .nan ∨ FP.Core.val64 y = .nan
  · have e : cmV x y = 0 := by
      unfold cmV
      rw [dcV_nan hm, dcV_nan hm, cv_l, cv_g]
      decide
    rw [e]
    split
    · rename_i hz
      rcases h with ⟨h1, -⟩ | ⟨-, h2⟩
      · exact absurd hz.1 h1
      rcases k with ⟨k1, -⟩ | ⟨-, k2⟩
      · exact absurd hz.2 k1
      unfold cmV
      rw [dcV_v h2 k2, dcV_v h2 k2, dcV_nan hm, dcV_nan hm, cv_l, cv_g]
      decide
    · rfl
  · rcases h with ⟨-, h2⟩ | ⟨h1, h2⟩
    · exact absurd (Or.inl h2) hm
    rcases k with ⟨-, k2⟩ | ⟨k1, k2⟩
    · exact absurd (Or.inr k2) hm
    rw [if_pos ⟨h1, k1⟩]
    unfold cmV
    rw [dcV_v h2 k2, dcV_v h2 k2]
theorem nn_non {M : Nat → Int} {V x : Nat → UInt64} (hv : ∀ k : Nat, M k = 0 → plOK (V k)) : ∀ n : Nat, (∀ k : Nat, k < n → plR (M k) (V k) (x k)) → nnC M n = nonC x n
  | 0, _ => rfl
  | n + 1, h => by
    show nnC M n + _ = nonC x n + _
    rw [nn_non hv n fun k hk => h k (by omega)]
    rcases h n (by omega) with ⟨h1, h2⟩ | ⟨h1, h2⟩
    · rw [if_neg h1, if_neg (fun e => dcV_nn.mp e h2)]
    · have hn := plOK_nn (hv n h1)
      rw [h2] at hn
      rw [if_pos h1, if_pos (dcV_nn.mpr hn)]
