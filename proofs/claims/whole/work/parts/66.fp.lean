/-! floats: a finite number by its sign and its size in least units -/
def gG : Nat := 2 ^ 900
def gT : Nat := 2 ^ 1100
theorem gG_53 : 2 ^ 53 ≤ gG := Nat.pow_le_pow_right (by decide) (by decide)
theorem gG_0 : 0 < gG := Nat.two_pow_pos _
def pF (x : UInt64) (s : Bool) (n : Nat) : Prop := ∃ c q, FP.Core.val64 x = .fin s c q ∧ FP.Core.inUnits c q FP.Core.b64.qmin = n
abbrev zz (x : UInt64) : Int := FP.Core.zval FP.Core.b64 (FP.Core.val64 x)
abbrev zm (x : UInt64) : Nat := FP.Core.zmag FP.Core.b64 (FP.Core.val64 x)
theorem pF_v {x y : UInt64} {s : Bool} {n : Nat} (h : FP.Core.val64 y = FP.Core.val64 x) (hp : pF x s n) : pF y s n := by
  obtain ⟨c, q, h1, h2⟩ := hp
  exact ⟨c, q, h.trans h1, h2⟩
theorem pF_nn {x : UInt64} {s : Bool} {n : Nat} (h : pF x s n) : FP.Core.val64 x ≠ .nan := by
  obtain ⟨c, q, h1, -⟩ := h
  rw [h1]
  exact fun z => FP.Core.Datum.noConfusion z
theorem pF_m {x : UInt64} {s : Bool} {n : Nat} (h : pF x s n) : zm x = n := by
  obtain ⟨c, q, h1, h2⟩ := h
  unfold zm
  rw [h1]
  exact h2
theorem pF_z {x : UInt64} {s : Bool} {n : Nat} (h : pF x s n) : zz x = if s = true then -(n : Int) else n := by
  obtain ⟨c, q, h1, h2⟩ := h
  unfold zz
  rw [h1]
  show FP.Core.signed s (FP.Core.inUnits c q FP.Core.b64.qmin) = _
  rw [h2]
  rfl
theorem pF_zf {x : UInt64} {n : Nat} (h : pF x false n) : zz x = (n : Int) := (pF_z h).trans (if_neg (by decide))
theorem fin_eq {s : Bool} {c d : Nat} {q r : Int} (f1 : FP.Core.fits FP.Core.b64 (.fin s c q)) (f2 : FP.Core.fits FP.Core.b64 (.fin s d r)) (h : FP.Core.inUnits c q FP.Core.b64.qmin = FP.Core.inUnits d r FP.Core.b64.qmin) : FP.Core.Datum.fin s c q = .fin s d r := by
  refine (FP.Core.round_of_fits FP.Core.good_b64 f1).symm.trans (Eq.trans ?_ (FP.Core.round_of_fits FP.Core.good_b64 f2))
  show FP.Core.roundRatio FP.Core.b64 s c 1 q = FP.Core.roundRatio FP.Core.b64 s d 1 r
  refine FP.Core.roundRatio_congr (by decide) (by decide) ?_
  obtain ⟨-, a2, -, -⟩ := f1
  obtain ⟨-, b2, -, -⟩ := f2
  unfold FP.Core.inUnits at h
  by_cases e : q ≤ r
  · rw [show (q - r).toNat = 0 by omega]
    rw [show (r - FP.Core.b64.qmin).toNat = (r - q).toNat + (q - FP.Core.b64.qmin).toNat by omega, Nat.pow_add, ← Nat.mul_assoc] at h
    have := Nat.eq_of_mul_eq_mul_right (Nat.two_pow_pos _) h
    rw [this]
    simp
  · rw [show (r - q).toNat = 0 by omega]
    rw [show (q - FP.Core.b64.qmin).toNat = (q - r).toNat + (r - FP.Core.b64.qmin).toNat by omega, Nat.pow_add, ← Nat.mul_assoc] at h
    have := Nat.eq_of_mul_eq_mul_right (Nat.two_pow_pos _) h
    rw [← this]
    simp
theorem pF_eq {x y : UInt64} {s : Bool} {n : Nat} (hx : pF x s n) (hy : pF y s n) : x = y := by
  have nn := pF_nn hx
  obtain ⟨c, q, h1, h2⟩ := hx
  obtain ⟨d, r, h3, h4⟩ := hy
  refine FP.Core.val64_inj nn ?_
  have f1 := FP.Core.val64_fits x
  have f2 := FP.Core.val64_fits y
  rw [h1] at f1
  rw [h3] at f2
  rw [h1, h3]
  exact fin_eq f1 f2 (h2.trans h4.symm)
theorem pF_sub {a b : UInt64} {n m : Nat} (ha : pF a false n) (hb : pF b false m) (h1 : m ≤ n) (h2 : n < 2 * m) : pF (FP.dsub a b) false (n - m) := by
  obtain ⟨c, q, e1, e2⟩ := ha
  obtain ⟨d, r, e3, e4⟩ := hb
  obtain ⟨c', q', k1, k2⟩ := dsub_ex e1 e3 (by rw [e2, e4]; exact h1) (by rw [e2, e4]; exact h2)
  exact ⟨c', q', k1, by rw [k2, e2, e4]⟩
theorem q_lo : FP.Core.b64.qmin = -1074 := by decide
theorem q_hi : FP.Core.b64.qmax = 971 := by decide
theorem pF_dbl {a : UInt64} {s : Bool} {n : Nat} (ha : pF a s n) (h0 : 0 < n) (h1 : n < gT) : pF (FP.dmul a 4611686018427387904) s (2 * n) := by
  obtain ⟨c, q, e1, e2⟩ := ha
  have hq : q + 1 ≤ FP.Core.b64.qmax := by
    rw [q_hi]
    refine Classical.byContradiction fun z => ?_
    have hc : 0 < c := Nat.pos_of_ne_zero fun e => by
      rw [e] at e2
      unfold FP.Core.inUnits at e2
      rw [Nat.zero_mul] at e2
      omega
    have k1 : 2 ^ 1100 ≤ 2 ^ (q - FP.Core.b64.qmin).toNat := Nat.pow_le_pow_right (by decide) (by rw [q_lo]; omega)
    have k2 : 2 ^ (q - FP.Core.b64.qmin).toNat ≤ c * 2 ^ (q - FP.Core.b64.qmin).toNat := Nat.le_mul_of_pos_left _ hc
    have k3 : gT ≤ n := by rw [← e2]; exact Nat.le_trans k1 k2
    exact Nat.lt_irrefl _ (Nat.lt_of_lt_of_le h1 k3)
  obtain ⟨c', q', k1, k2⟩ := ddbl_ex e1 hq
  exact ⟨c', q', k1, by rw [k2, e2]⟩
theorem pF_hlf {a : UInt64} {s : Bool} {n : Nat} (ha : pF a s n) (hd : gG ∣ n) : pF (FP.ddiv a 4611686018427387904) s (n / 2) := by
  obtain ⟨c, q, e1, e2⟩ := ha
  have fa := FP.Core.val64_fits a
  rw [e1] at fa
  obtain ⟨a1, a2, a3, a4⟩ := fa
  by_cases h0 : n = 0
  · have hc : c = 0 := by
      rw [h0] at e2
      unfold FP.Core.inUnits at e2
      exact (Nat.mul_eq_zero.mp e2).resolve_right (Nat.ne_of_gt (Nat.two_pow_pos _))
    refine ⟨0, FP.Core.b64.qmin, ?_, ?_⟩
    · show FP.Core.val64 (FP.Core.ddiv a 4611686018427387904) = _
      rw [FP.Core.val64_ddiv, e1, val_two, hc]
      show (if (4503599627370496 : Nat) = 0 then (if (0 : Nat) = 0 then FP.Core.Datum.nan else .inf (s != false)) else FP.Core.roundRatio FP.Core.b64 (s != false) 0 4503599627370496 (q - -51)) = _
      rw [if_neg (by decide), show (s != false) = s by cases s <;> rfl]
      rfl
    · rw [h0]
      unfold FP.Core.inUnits
      rw [Nat.zero_mul]
  · have hq : FP.Core.b64.qmin ≤ q - 1 := by
      refine Classical.byContradiction fun z => ?_
      have hq0 : q = FP.Core.b64.qmin := by omega
      have hn : n = c := by
        rw [← e2, hq0]
        unfold FP.Core.inUnits
        rw [Int.sub_self]
        simp
      have h53 : c < 2 ^ 53 := a1
      have := gG_53
      have := Nat.le_of_dvd (Nat.pos_of_ne_zero h0) hd
      omega
    obtain ⟨c', q', k1, k2⟩ := dhlf_ex e1 hq
    exact ⟨c', q', k1, by rw [e2] at k2; omega⟩
theorem pF_neg {a : UInt64} {s : Bool} {n : Nat} (ha : pF a s n) : pF (FP.dneg a) (!s) n := by
  obtain ⟨c, q, e1, e2⟩ := ha
  refine ⟨c, q, ?_, e2⟩
  rw [FP.val64_dneg, e1]
  rfl
theorem nn_neg {a : UInt64} (h : FP.Core.val64 a ≠ .nan) : FP.Core.val64 (FP.dneg a) ≠ .nan := by
  rw [FP.val64_dneg]
  cases hv : FP.Core.val64 a with
  | nan => exact absurd hv h
  | inf s => exact fun z => FP.Core.Datum.noConfusion z
  | fin s c q => exact fun z => FP.Core.Datum.noConfusion z
theorem zz_neg (a : UInt64) : zz (FP.dneg a) = -zz a := by
  unfold zz
  rw [FP.val64_dneg, FP.Core.zval_negate]
theorem zz_0 : zz 0 = 0 := by decide +kernel
theorem nn_0 : FP.Core.val64 0 ≠ .nan := by
  rw [FP.Core.val64_zero]
  exact fun z => FP.Core.Datum.noConfusion z
theorem dcV_z {op : CmpOp} {x y : UInt64} (hx : FP.Core.val64 x ≠ .nan) (hy : FP.Core.val64 y ≠ .nan) : dcV op x y = if zz x < zz y then -1 else if zz x = zz y then 0 else 1 := by
  unfold dcV
  have e : FP.dcmp x y = some (compare (zz x) (zz y)) := FP.Core.dcmp_zval hx hy
  rw [e, FP.Core.compare_ite]
  by_cases h1 : zz x < zz y
  · rw [if_pos h1, if_pos h1]
    rfl
  · rw [if_neg h1, if_neg h1]
    by_cases h2 : zz x = zz y
    · rw [if_pos h2, if_pos h2]
      rfl
    · rw [if_neg h2, if_neg h2]
      rfl
theorem zz_of (x : UInt64) : zz x = (zm x : Int) ∨ zz x = -(zm x : Int) := by
  show FP.Core.signed _ (zm x) = _ ∨ FP.Core.signed _ (zm x) = _
  unfold FP.Core.signed
  split
  · exact Or.inr rfl
  · exact Or.inl rfl
theorem top_b : FP.Core.b64.tails * 2 ^ (FP.Core.b64.exps - 2) = 2 ^ 2098 := by
  rw [show FP.Core.b64.tails = 2 ^ 52 by decide, show FP.Core.b64.exps - 2 = 2046 by decide, ← Nat.pow_add]
theorem gT_top : gT < FP.Core.b64.tails * 2 ^ (FP.Core.b64.exps - 2) := by
  rw [top_b]
  exact Nat.pow_lt_pow_right (by decide) (by decide)
theorem gG_top : gG ∣ FP.Core.b64.tails * 2 ^ (FP.Core.b64.exps - 2) := by
  rw [top_b]
  exact Nat.pow_dvd_pow 2 (by decide)
theorem pF_of {x : UInt64} {m : Nat} (hn : FP.Core.val64 x ≠ .nan) (hz : zz x = (m : Int)) (h0 : 0 < m) (ht : m < gT) : pF x false m := by
  cases hv : FP.Core.val64 x with
  | nan => exact absurd hv hn
  | inf s =>
    exfalso
    have h1 : zm x = FP.Core.b64.tails * 2 ^ (FP.Core.b64.exps - 2) := by
      unfold zm
      rw [hv]
      rfl
    have := gT_top
    rcases zz_of x with h | h <;> omega
  | fin s c q =>
    have h1 : pF x s (FP.Core.inUnits c q FP.Core.b64.qmin) := ⟨c, q, hv, rfl⟩
    have h2 := pF_z h1
    cases s with
    | false =>
      rw [if_neg (by decide), hz] at h2
      rw [Int.ofNat_inj.mp h2]
      exact h1
    | true =>
      rw [if_pos rfl, hz] at h2
      omega
theorem drem_pF {x y : UInt64} {s : Bool} {n m : Nat} (hx : pF x s n) (hy : FP.Core.val64 y ≠ .nan) (hm : zm y = m) (h0 : 0 < m) : pF (FP.drem x y) s (n % m) := by
  have hxm := pF_m hx
  obtain ⟨c, q, e1, e2⟩ := hx
  have hD : FP.Core.DFin x := ⟨s, c, q, e1⟩
  have hz : ¬ FP.Core.DZero y := fun ⟨t, r, e⟩ => by
    unfold zm at hm
    rw [e] at hm
    have h5 : FP.Core.inUnits 0 r FP.Core.b64.qmin = m := hm
    unfold FP.Core.inUnits at h5
    rw [Nat.zero_mul] at h5
    omega
  obtain ⟨k1, k2, k3⟩ := FP.Core.drem_zval hD hy hz
  have hlt := hD.zval_lt
  have k3' : FP.Core.zmag FP.Core.b64 (FP.Core.val64 (FP.Core.drem x y)) = n % m := by
    rw [k3]
    show zm x % zm y = _
    rw [hxm, hm]
  have hxl : n < FP.Core.b64.tails * 2 ^ (FP.Core.b64.exps - 2) := by rw [← hxm]; exact hlt
  show pF (FP.Core.drem x y) s (n % m)
  cases hv : FP.Core.val64 (FP.Core.drem x y) with
  | nan => exact absurd hv k1
  | inf t =>
    exfalso
    rw [hv] at k3'
    have h6 : FP.Core.b64.tails * 2 ^ (FP.Core.b64.exps - 2) = n % m := k3'
    have := Nat.mod_le n m
    omega
  | fin t d r =>
    rw [hv] at k2 k3'
    rw [e1] at k2
    have h7 : t = s := k2
    exact ⟨d, r, by rw [hv, h7], k3'⟩
