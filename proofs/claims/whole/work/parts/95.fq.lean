/-! numbers of traces: what is set -/
theorem one_64 : (2 : Nat) ^ (-FP.Core.b64.qmin).toNat = gO := by decide +kernel
theorem one_32 : (2 : Nat) ^ (-FP.Core.b32.qmin).toNat = FP.Core.one32 := by decide +kernel
theorem sg_abs {s : Bool} {n : Nat} {a : Int} {g : Nat} (h : FP.Core.signed s n = a * (g : Int)) : n = a.natAbs * g := by
  have e : (FP.Core.signed s n).natAbs = n := by
    unfold FP.Core.signed
    split
    · exact Int.natAbs_neg _
    · rfl
  rw [← e, h, Int.natAbs_mul]
  rfl
theorem i2d_m {a : Int} (h : inR a) : ∃ s c q, FP.Core.val64 (FP.i2d (iI a)) = .fin s c q ∧ FP.Core.b64.qmin ≤ q ∧ FP.Core.inUnits c q FP.Core.b64.qmin = a.natAbs * 2 ^ (-FP.Core.b64.qmin).toNat := by
  have h1 : FP.Core.DInt (iI a).toInt (FP.i2d (iI a)) := FP.Core.i2d_int (iI a)
  have h2 := FP.Core.DInt_zval h1
  have h3 := FP.Core.val64_fits (FP.i2d (iI a))
  rw [iI_toInt h] at h1 h2
  unfold FP.Core.DInt at h1
  cases hv : FP.Core.val64 (FP.i2d (iI a)) with
  | nan => rw [hv] at h1; exact h1.elim
  | inf s => rw [hv] at h1; exact h1.elim
  | fin s c q =>
    rw [hv] at h2 h3
    refine ⟨s, c, q, rfl, h3.2.1, ?_⟩
    rw [one_64]
    exact sg_abs h2
theorem i2f_m {a : Int} (h : -9999 ≤ a ∧ a ≤ 9999) : ∃ s c q, FP.Core.val32 (FP.i2f (iI a)) = .fin s c q ∧ FP.Core.b32.qmin ≤ q ∧ FP.Core.inUnits c q FP.Core.b32.qmin = a.natAbs * 2 ^ (-FP.Core.b32.qmin).toNat := by
  have hr : inR a := by unfold inR; omega
  have h1 : FP.Core.FInt (iI a).toInt (FP.i2f (iI a)) := FP.Core.i2f_int (by rw [iI_toInt hr]; omega)
  have h2 := FP.Core.FInt_zval h1
  have h3 := FP.Core.val32_fits (FP.i2f (iI a))
  rw [iI_toInt hr] at h1 h2
  unfold FP.Core.FInt at h1
  cases hv : FP.Core.val32 (FP.i2f (iI a)) with
  | nan => rw [hv] at h1; exact h1.elim
  | inf s => rw [hv] at h1; exact h1.elim
  | fin s c q =>
    rw [hv] at h2 h3
    refine ⟨s, c, q, rfl, h3.2.1, ?_⟩
    rw [one_32]
    exact sg_abs h2
theorem ddiv_val (x y : UInt64) : FP.Core.val64 (FP.ddiv x y) = FP.Core.quotient FP.Core.b64 (FP.Core.val64 x) (FP.Core.val64 y) := FP.Core.val64_ddiv x y
theorem fdiv_val (x y : UInt32) : FP.Core.val32 (FP.fdiv x y) = FP.Core.quotient FP.Core.b32 (FP.Core.val32 x) (FP.Core.val32 y) := FP.Core.val32_fdiv x y
theorem nabs_0 {a : Int} {g n : Nat} (h : n = a.natAbs * g) (hg : 0 < g) : n = 0 ↔ a = 0 := by
  rw [h]
  constructor
  · intro e
    rcases Nat.mul_eq_zero.mp e with e | e <;> omega
  · intro e
    rw [e]
    exact Nat.zero_mul _
theorem nine_m : FP.Core.zmag FP.Core.b64 (FP.Core.val64 4666722622711529472) = 9999 * 2 ^ (-FP.Core.b64.qmin).toNat := by decide +kernel
theorem nine_n : FP.Core.val64 4666722622711529472 ≠ .nan := by decide +kernel
theorem nine_m32 : FP.Core.zmag FP.Core.b32 (FP.Core.val32 1176255488) = 9999 * 2 ^ (-FP.Core.b32.qmin).toNat := by decide +kernel
theorem nine_n32 : FP.Core.val32 1176255488 ≠ .nan := by decide +kernel
theorem p953 : 2 ^ 53 * gG < 2 ^ 1060 := by decide +kernel
theorem pl_ddiv {a b : Int} {v : UInt64} (ha : -9999 ≤ a ∧ a ≤ 9999) (hb : -9999 ≤ b ∧ b ≤ 9999) (h0 : ¬ (a = 0 ∧ b = 0)) (hv : FP.Core.val64 v = FP.Core.val64 (FP.ddiv (FP.i2d (iI a)) (FP.i2d (iI b)))) : plOK v := by
  obtain ⟨s, c, q, e1, e2, e3⟩ := i2d_m (a := a) (by unfold inR; omega)
  obtain ⟨t, d, r, f1, f2, f3⟩ := i2d_m (a := b) (by unfold inR; omega)
  rw [ddiv_val, e1, f1] at hv
  have hv2 : FP.Core.val64 v = if d = 0 then (if c = 0 then .nan else .inf (s != t)) else FP.Core.roundRatio FP.Core.b64 (s != t) c d (q - r) := hv
  have hg : 0 < (2 : Nat) ^ (-FP.Core.b64.qmin).toNat := Nat.two_pow_pos _
  have zc : c = 0 ↔ a = 0 := iu_0.symm.trans (nabs_0 e3 hg)
  have zd : d = 0 ↔ b = 0 := iu_0.symm.trans (nabs_0 f3 hg)
  by_cases hd : d = 0
  · rw [if_pos hd, if_neg (fun hc => h0 ⟨zc.mp hc, zd.mp hd⟩)] at hv2
    exact Or.inr ⟨_, hv2⟩
  · rw [if_neg hd] at hv2
    have hb0 : b ≠ 0 := fun e => hd (zd.mpr e)
    have hq0 : FP.Core.b64.qmin ≤ 0 := by decide
    have hle := quo_le FP.Core.good_b64 (u := (s != t)) hq0 e2 f2 e3 f3 (Nat.pos_of_ne_zero hd) (FP.Core.val64_fits _) nine_n nine_m (by omega)
    rw [nine_m, one_64] at hle
    cases hD : FP.Core.roundRatio FP.Core.b64 (s != t) c d (q - r) with
    | nan => exact absurd hD (FP.Core.roundRatio_ne_nan _ _ _ _ _)
    | inf u =>
      exfalso
      rw [hD] at hle
      have h1 : FP.Core.b64.tails * 2 ^ (FP.Core.b64.exps - 2) ≤ 9999 * gO := hle
      have h2 := gT_top
      have h3 := gO_T
      omega
    | fin u c1 q1 =>
      rw [hD] at hv2 hle
      refine Or.inl ⟨u, _, ⟨c1, q1, hv2, rfl⟩, ?_, hle⟩
      by_cases ha0 : a = 0
      · have h1 := quo_le FP.Core.good_b64 (u := (s != t)) (V := FP.Core.val64 0) (W := 0) hq0 e2 f2 e3 f3 (Nat.pos_of_ne_zero hd) (FP.Core.val64_fits _) nn_0 (by decide +kernel) (by rw [ha0]; exact Nat.zero_le _)
        rw [hD] at h1
        have h2 : FP.Core.inUnits c1 q1 FP.Core.b64.qmin ≤ FP.Core.zmag FP.Core.b64 (FP.Core.val64 0) := h1
        rw [show FP.Core.zmag FP.Core.b64 (FP.Core.val64 0) = 0 by decide +kernel] at h2
        rw [Nat.le_zero.mp h2]
        exact Nat.dvd_zero _
      · have h1 := quo_ge (u := (s != t)) e2 f2 e3 f3 (Nat.pos_of_ne_zero hd) (by omega)
        rw [hD] at h1
        have h2 : 2 ^ 1060 ≤ FP.Core.inUnits c1 q1 FP.Core.b64.qmin := h1
        have h3 := FP.Core.val64_fits v
        rw [hv2] at h3
        have h4 : c1 < 2 ^ 53 := h3.1
        unfold FP.Core.inUnits at h2 ⊢
        by_cases hk : 900 ≤ (q1 - FP.Core.b64.qmin).toNat
        · exact Nat.dvd_trans (Nat.pow_dvd_pow 2 hk) (Nat.dvd_mul_left _ _)
        · exfalso
          have h5 : (2 : Nat) ^ (q1 - FP.Core.b64.qmin).toNat ≤ gG := Nat.pow_le_pow_right (by decide) (by omega)
          have h6 : c1 * 2 ^ (q1 - FP.Core.b64.qmin).toNat ≤ 2 ^ 53 * gG := Nat.mul_le_mul (Nat.le_of_lt h4) h5
          exact absurd (Nat.lt_of_le_of_lt h6 p953) (Nat.not_lt_of_le h2)
theorem pl_f2d {f : UInt32} (h : FP.Core.val32 f ≠ .nan) (hz : ∀ s c q, FP.Core.val32 f = .fin s c q → FP.Core.inUnits c q FP.Core.b32.qmin ≤ 9999 * FP.Core.one32) {v : UInt64} (hv : FP.Core.val64 v = FP.Core.val64 (FP.f2d f)) : plOK v := by
  cases hf : FP.Core.val32 f with
  | nan => exact absurd hf h
  | inf s => exact Or.inr ⟨s, by rw [hv]; exact f2d_inf hf⟩
  | fin s c q =>
    refine Or.inl ⟨s, _, pF_v hv (f2d_pF hf), Nat.dvd_trans gM_G (Nat.dvd_mul_left _ _), ?_⟩
    have e : 9999 * gO = (9999 * FP.Core.one32) * gM := by decide +kernel
    rw [e]
    exact Nat.mul_le_mul_right _ (hz s c q hf)
theorem pl_fdiv {a b : Int} {m : UInt32} {v : UInt64} (ha : -9999 ≤ a ∧ a ≤ 9999) (hb : -9999 ≤ b ∧ b ≤ 9999) (h0 : ¬ (a = 0 ∧ b = 0)) (hm : FP.Core.val32 m = FP.Core.val32 (FP.fdiv (FP.i2f (iI a)) (FP.i2f (iI b)))) (hv : FP.Core.val64 v = FP.Core.val64 (FP.f2d m)) : plOK v := by
  obtain ⟨s, c, q, e1, e2, e3⟩ := i2f_m ha
  obtain ⟨t, d, r, f1, f2, f3⟩ := i2f_m hb
  rw [fdiv_val, e1, f1] at hm
  have hm2 : FP.Core.val32 m = if d = 0 then (if c = 0 then .nan else .inf (s != t)) else FP.Core.roundRatio FP.Core.b32 (s != t) c d (q - r) := hm
  have hg : 0 < (2 : Nat) ^ (-FP.Core.b32.qmin).toNat := Nat.two_pow_pos _
  have zc : c = 0 ↔ a = 0 := iu_0.symm.trans (nabs_0 e3 hg)
  have zd : d = 0 ↔ b = 0 := iu_0.symm.trans (nabs_0 f3 hg)
  by_cases hd : d = 0
  · rw [if_pos hd, if_neg (fun hc => h0 ⟨zc.mp hc, zd.mp hd⟩)] at hm2
    refine pl_f2d (by rw [hm2]; exact fun z => FP.Core.Datum.noConfusion z) (fun s c q e => ?_) hv
    rw [hm2] at e
    exact FP.Core.Datum.noConfusion e
  · rw [if_neg hd] at hm2
    have hb0 : b ≠ 0 := fun e => hd (zd.mpr e)
    have hq0 : FP.Core.b32.qmin ≤ 0 := by decide
    have hle := quo_le FP.Core.good_b32 (u := (s != t)) hq0 e2 f2 e3 f3 (Nat.pos_of_ne_zero hd) (FP.Core.val32_fits _) nine_n32 nine_m32 (by omega)
    rw [nine_m32, one_32] at hle
    refine pl_f2d (by rw [hm2]; exact FP.Core.roundRatio_ne_nan _ _ _ _ _) (fun s1 c1 q1 e => ?_) hv
    rw [hm2] at e
    rw [e] at hle
    exact hle
/-- nothing by nothing -/
theorem div_00 : FP.Core.val64 (FP.ddiv (FP.i2d (iI 0)) (FP.i2d (iI 0))) = .nan ∧ FP.Core.val32 (FP.fdiv (FP.i2f (iI 0)) (FP.i2f (iI 0))) = .nan := by
  rw [ddiv_val, fdiv_val]
  decide +kernel
