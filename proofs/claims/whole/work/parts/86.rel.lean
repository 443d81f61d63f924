/-! one state: what the class and the reference hold at the law's loop -/
/-- the place of a trace: its mark says that there is no number, or both numbers are one -/
def plR (m : Int) (v x : UInt64) : Prop := (m ≠ 0 ∧ FP.Core.val64 x = .nan) ∨ (m = 0 ∧ FP.Core.val64 v = FP.Core.val64 x)
def relR (Ir : Nat → Int) (V : Nat → UInt64) (M : Nat → Int) (z s : Int) (f : Nat → UInt32) (d : Nat → UInt64) : Prop := smI Ir ∧ bN01 M ∧ (Ir 2 = 0 ∨ Ir 2 = 1) ∧ (0 ≤ Ir 4 ∧ Ir 4 ≤ 8) ∧ (Ir 2 = 0 → z = -1 ∧ Ir 4 = 0) ∧ (Ir 2 = 1 → z = Ir 4 ∧ Ir 3 = s ∧ (s = 0 ∨ s = 1) ∧ ∀ k : Nat, k < 8 → plR (M k) (V k) (voV s (f k) (d k))) ∧ ∀ k : Nat, M k = 0 → plOK (V k)
def relT (It L : Nat → Int) (i11 : Int) (a10 : Nat → Int) : Prop := smI It ∧ smL L ∧ (0 ≤ It 1 ∧ It 1 ≤ 200) ∧ It 1 = i11 ∧ L = a10
def relN (J : Nat → Int) (N : Nat → Nat → Int) (i1 i2 i5 i6 i7 : Int) (a0 a3 a4 : Nat → Int) : Prop := smI J ∧ smA N ∧ okN J N ∧ mNv J N i1 i2 i5 i6 i7 a0 a3 a4
def relS (J : Nat → Int) (N : Nat → Nat → Int) : Prop := smI J ∧ smA N
def relK (K : Nat → Int) (Jk : Nat → Nat → Int) (Nk : Nat → Nat → Nat → Int) (i1 i2 i5 i6 i7 : Int) (a0 a3 a4 a9 : Nat → Int) : Prop := (∀ k, K k = 0 ∨ K k = 1) ∧ (∀ k, a9 k = 0 ∨ a9 k = 1) ∧ ∀ k, k < 2 → K k = a9 k ∧ smI (Jk k) ∧ smA (Nk k) ∧ (K k = 1 → okN (Jk k) (Nk k) ∧ mNv (Jk k) (Nk k) i1 i2 i5 i6 i7 (fun j => a0 (297 + 33 * k + j)) a3 a4)
def relH (Ih : Nat → Int) (Ah : Nat → Nat → Int) (i2 i8 : Int) (a0 : Nat → Int) : Prop := smI Ih ∧ smA Ah ∧ (0 ≤ Ih 2 ∧ Ih 2 < 8) ∧ (0 ≤ Ih 3 ∧ Ih 3 ≤ 8) ∧ Ih 3 = i8 ∧ (∀ k : Nat, Ah 0 k = -1 ∨ (0 ≤ Ah 0 k ∧ Ah 0 k < 16)) ∧ hring (Ih 2) Ah i2 a0 i8.toNat
def relP (Ip : Nat → Int) (Ap Bp : Nat → Nat → Int) : Prop := smI Ip ∧ smA Ap ∧ okB Bp
def relM (I : Nat → Int) (A : Nat → Nat → Int) : Prop := smI I ∧ smA A ∧ mwOK A ∧ szOK A
def relQ (Ir : Nat → Nat → Int) (V : Nat → Nat → UInt64) (M : Nat → Nat → Int) (a12 a13 : Nat → Int) (F : Nat → UInt32) (Dd : Nat → UInt64) : Prop := ∀ t, t < 3 → relR (Ir t) (V t) (M t) (a13 t) (a12 t) (fun k => F (8 * t + k)) (fun k => Dd (8 * t + k))
def REL (K It L : Nat → Int) (Jd : Nat → Int) (Nd : Nat → Nat → Int) (J : Nat → Int) (N : Nat → Nat → Int) (Js : Nat → Int) (Ns : Nat → Nat → Int) (Jk : Nat → Nat → Int) (Nk : Nat → Nat → Nat → Int) (Ih : Nat → Int) (Ah : Nat → Nat → Int) (Ip : Nat → Int) (Ap Bp : Nat → Nat → Int) (Ir : Nat → Nat → Int) (V : Nat → Nat → UInt64) (M : Nat → Nat → Int) (I : Nat → Int) (A : Nat → Nat → Int) (F : Nat → UInt32) (Dd : Nat → UInt64) : Prop :=
  relT It L (I 11) (A 10) ∧ relN J N (I 1) (I 2) (I 5) (I 6) (I 7) (A 0) (A 3) (A 4) ∧ relN Jd Nd (I 1) (I 2) (I 5) (I 6) (I 7) (fun j => A 0 (363 + j)) (A 3) (A 4) ∧ relS Js Ns ∧ relK K Jk Nk (I 1) (I 2) (I 5) (I 6) (I 7) (A 0) (A 3) (A 4) (A 9) ∧ relH Ih Ah (I 2) (I 8) (A 0) ∧ relP Ip Ap Bp ∧ relM I A ∧ relQ Ir V M (A 12) (A 13) F Dd
section
variable {K It L : Nat → Int} {Jd : Nat → Int} {Nd : Nat → Nat → Int} {J : Nat → Int} {N : Nat → Nat → Int} {Js : Nat → Int} {Ns : Nat → Nat → Int} {Jk : Nat → Nat → Int} {Nk : Nat → Nat → Nat → Int} {Ih : Nat → Int} {Ah : Nat → Nat → Int} {Ip : Nat → Int} {Ap Bp : Nat → Nat → Int} {Ir : Nat → Nat → Int} {V : Nat → Nat → UInt64} {M : Nat → Nat → Int} {I : Nat → Int} {A : Nat → Nat → Int} {F : Nat → UInt32} {Dd : Nat → UInt64}
theorem R_net (R : (REL K It L Jd Nd J N Js Ns Jk Nk Ih Ah Ip Ap Bp Ir V M I A F Dd)) : mNet J N I A := R.2.1.2.2.2
theorem R_told (R : (REL K It L Jd Nd J N Js Ns Jk Nk Ih Ah Ip Ap Bp Ir V M I A F Dd)) : mTold Jd Nd I A := R.2.2.1.2.2.2
theorem R_8 (R : (REL K It L Jd Nd J N Js Ns Jk Nk Ih Ah Ip Ap Bp Ir V M I A F Dd)) : 0 ≤ I 8 ∧ I 8 ≤ 8 := by
  obtain ⟨-, -, -, h3, e8, -⟩ := R.2.2.2.2.2.1
  rw [← e8]; exact h3
theorem R_11 (R : (REL K It L Jd Nd J N Js Ns Jk Nk Ih Ah Ip Ap Bp Ir V M I A F Dd)) : 0 ≤ I 11 ∧ I 11 ≤ 200 := by
  obtain ⟨-, -, h1, e1, -⟩ := R.1
  rw [← e1]; exact h1
theorem R_q (R : (REL K It L Jd Nd J N Js Ns Jk Nk Ih Ah Ip Ap Bp Ir V M I A F Dd)) : netQ J N (mJ I A) (mN A) := net_q (R_net R)
theorem R_o (R : (REL K It L Jd Nd J N Js Ns Jk Nk Ih Ah Ip Ap Bp Ir V M I A F Dd)) : okN (mJ I A) (mN A) := okN_q (R_q R) R.2.1.2.2.1
theorem R_5 (R : (REL K It L Jd Nd J N Js Ns Jk Nk Ih Ah Ip Ap Bp Ir V M I A F Dd)) : J 5 = I 2 := (R_net R).2.2.2.2.2.1
theorem R_4 (R : (REL K It L Jd Nd J N Js Ns Jk Nk Ih Ah Ip Ap Bp Ir V M I A F Dd)) : J 4 = A 0 0 := (R_net R).2.2.2.2.1
theorem R_16 (R : (REL K It L Jd Nd J N Js Ns Jk Nk Ih Ah Ip Ap Bp Ir V M I A F Dd)) : 0 ≤ I 2 ∧ I 2 ≤ 16 := by
  have h := R.2.1.2.2.1.2.2.2.2.2.1
  rw [R_5 R] at h
  exact h
/-- the reference's other slots don't matter -/
theorem R_t (R : (REL K It L Jd Nd J N Js Ns Jk Nk Ih Ah Ip Ap Bp Ir V M I A F Dd)) {I1 : Nat → Int} {A1 : Nat → Nat → Int} (hI1 : smI I1) (hA1 : smA A1) (hw1 : mwOK A1) (kI : I1 1 = I 1 ∧ I1 2 = I 2 ∧ I1 5 = I 5 ∧ I1 6 = I 6 ∧ I1 7 = I 7 ∧ I1 8 = I 8 ∧ I1 11 = I 11) (kA : A1 0 = A 0 ∧ A1 3 = A 3 ∧ A1 4 = A 4 ∧ A1 9 = A 9 ∧ A1 10 = A 10 ∧ A1 12 = A 12 ∧ A1 13 = A 13) : (REL K It L Jd Nd J N Js Ns Jk Nk Ih Ah Ip Ap Bp Ir V M I1 A1 F Dd) := by
  obtain ⟨i1, i2, i5, i6, i7, i8, i11⟩ := kI
  obtain ⟨a0, a3, a4, a9, a10, a12, a13⟩ := kA
  unfold REL at R ⊢
  rw [i1, i2, i5, i6, i7, i8, i11, a0, a3, a4, a9, a10, a12, a13]
  obtain ⟨r1, r2, r3, r4, r5, r6, r7, ⟨-, -, -, z1⟩, r9⟩ := R
  exact ⟨r1, r2, r3, r4, r5, r6, r7, ⟨hI1, hA1, hw1, by unfold szOK at *; rw [a13]; exact z1⟩, r9⟩
theorem R_ta (R : (REL K It L Jd Nd J N Js Ns Jk Nk Ih Ah Ip Ap Bp Ir V M I A F Dd)) {A1 : Nat → Nat → Int} (hA1 : smA A1) (k : kpA A A1) : (REL K It L Jd Nd J N Js Ns Jk Nk Ih Ah Ip Ap Bp Ir V M I A1 F Dd) :=
  R_t R R.2.2.2.2.2.2.2.1.1 hA1 (by unfold mwOK; rw [k 23 (by decide) (by decide) (by decide), k 24 (by decide) (by decide) (by decide), k 25 (by decide) (by decide) (by decide), k 26 (by decide) (by decide) (by decide), k 27 (by decide) (by decide) (by decide), k 28 (by decide) (by decide) (by decide)]; exact R.2.2.2.2.2.2.2.1.2.2.1) ⟨rfl, rfl, rfl, rfl, rfl, rfl, rfl⟩ ⟨k 0 (by decide) (by decide) (by decide), k 3 (by decide) (by decide) (by decide), k 4 (by decide) (by decide) (by decide), k 9 (by decide) (by decide) (by decide), k 10 (by decide) (by decide) (by decide), k 12 (by decide) (by decide) (by decide), k 13 (by decide) (by decide) (by decide)⟩
theorem R_tb (R : (REL K It L Jd Nd J N Js Ns Jk Nk Ih Ah Ip Ap Bp Ir V M I A F Dd)) {I1 : Nat → Int} {A1 : Nat → Nat → Int} (hI1 : smI I1) (hA1 : smA A1) (i : kpI I I1) (k : kpB A A1) : (REL K It L Jd Nd J N Js Ns Jk Nk Ih Ah Ip Ap Bp Ir V M I1 A1 F Dd) :=
  R_t R hI1 hA1 (by unfold mwOK; rw [k 23 (by decide), k 24 (by decide), k 25 (by decide), k 26 (by decide), k 27 (by decide), k 28 (by decide)]; exact R.2.2.2.2.2.2.2.1.2.2.1) ⟨i 1 (by decide), i 2 (by decide), i 5 (by decide), i 6 (by decide), i 7 (by decide), i 8 (by decide), i 11 (by decide)⟩ ⟨k 0 (by decide), k 3 (by decide), k 4 (by decide), k 9 (by decide), k 10 (by decide), k 12 (by decide), k 13 (by decide)⟩
theorem R_p (R : (REL K It L Jd Nd J N Js Ns Jk Nk Ih Ah Ip Ap Bp Ir V M I A F Dd)) {I1 : Nat → Int} {A1 B1 : Nat → Nat → Int} (h : relP I1 A1 B1) : (REL K It L Jd Nd J N Js Ns Jk Nk Ih Ah I1 A1 B1 Ir V M I A F Dd) := ⟨R.1, R.2.1, R.2.2.1, R.2.2.2.1, R.2.2.2.2.1, R.2.2.2.2.2.1, h, R.2.2.2.2.2.2.2⟩
theorem R_sc (R : (REL K It L Jd Nd J N Js Ns Jk Nk Ih Ah Ip Ap Bp Ir V M I A F Dd)) {J1 : Nat → Int} {N1 : Nat → Nat → Int} (h : relS J1 N1) : (REL K It L Jd Nd J N J1 N1 Jk Nk Ih Ah Ip Ap Bp Ir V M I A F Dd) := ⟨R.1, R.2.1, R.2.2.1, h, R.2.2.2.2⟩
theorem R_tx (R : (REL K It L Jd Nd J N Js Ns Jk Nk Ih Ah Ip Ap Bp Ir V M I A F Dd)) {I1 : Nat → Int} (h1 : smI I1) (h2 : I1 1 = It 1) : (REL K I1 L Jd Nd J N Js Ns Jk Nk Ih Ah Ip Ap Bp Ir V M I A F Dd) := by
  obtain ⟨⟨a1, a2, a3, a4, a5⟩, r⟩ := R
  exact ⟨⟨h1, a2, by rw [h2]; exact a3, by rw [h2]; exact a4, a5⟩, r⟩
end
