/-! one answer, call by call: changes, taking back, keeping -/
section
variable {K It L : Nat → Int} {Jd : Nat → Int} {Nd : Nat → Nat → Int} {J : Nat → Int} {N : Nat → Nat → Int} {Js : Nat → Int} {Ns : Nat → Nat → Int} {Jk : Nat → Nat → Int} {Nk : Nat → Nat → Nat → Int} {Ih : Nat → Int} {Ah : Nat → Nat → Int} {Ip : Nat → Int} {Ap Bp : Nat → Nat → Int} {Ir : Nat → Nat → Int} {V : Nat → Nat → UInt64} {M : Nat → Nat → Int} {I : Nat → Int} {A : Nat → Nat → Int} {F : Nat → UInt32} {Dd : Nat → UInt64}
variable {q : Nat → Nat} {Y : Nat → ClassId} {qt qd qn qs : Nat → Nat} {qk : Nat → Nat → Nat} {qh qp : Nat → Nat} {qr : Nat → Nat → Nat} {qm : Nat → Nat}
theorem mkp_lo {u : Int} {f : Nat → Int} (hu : 0 ≤ u ∧ u ≤ 8) {j : Nat} (hj : j < 33) : m_kp u f j = f j := by
  unfold m_kp
  split
  · have e1 : Int.toNat (33 + 33 * 7) = 264 := by decide
    rw [e1]
    unfold m_cp m_sh
    rw [if_neg (by omega), if_neg (by omega)]
  · unfold m_cp
    rw [if_neg (by omega)]
theorem mkp_hi {u : Int} {f : Nat → Int} (hu : 0 ≤ u ∧ u ≤ 8) {j : Nat} (hj : 297 ≤ j) : m_kp u f j = f j := by
  unfold m_kp
  split
  · have e1 : Int.toNat (33 + 33 * 7) = 264 := by decide
    rw [e1]
    unfold m_cp m_sh
    rw [if_neg (by omega), if_neg (by omega)]
  · unfold m_cp
    rw [if_neg (by omega)]
theorem smR_cp {f : Nat → Int} {a b n : Nat} (h : smR f) : smR (m_cp f a b n) := fun j => by
  unfold m_cp
  split
  · exact h _
  · exact h _
theorem smR_sh {f : Nat → Int} {n : Nat} (h : smR f) : smR (m_sh f n) := fun j => by
  unfold m_sh
  split
  · exact h _
  · exact h _
theorem smR_kp {u : Int} {f : Nat → Int} (h : smR f) : smR (m_kp u f) := by
  unfold m_kp
  split
  · exact smR_cp (smR_sh h)
  · exact smR_cp h
theorem mNv_f {i1 i2 i5 i6 i7 : Int} {a b a3 a4 : Nat → Int} (hn : i2 ≤ 16) (e : ∀ j, j < 33 → b j = a j) (h : mNv J N i1 i2 i5 i6 i7 a a3 a4) : mNv J N i1 i2 i5 i6 i7 b a3 a4 := by
  obtain ⟨h0, h1, h2, h3, h4, h5, h6⟩ := h
  refine ⟨h0, h1, h2, h3, by rw [e 0 (by omega)]; exact h4, h5, fun p hp => ?_⟩
  rw [e (1 + p) (by omega), e (17 + p) (by omega)]
  exact h6 p hp
theorem mNv_cp {X : Nat → Int} {Z : Nat → Nat → Int} {i1 i2 i5 i6 i7 : Int} {a a3 a4 : Nat → Int} (hn : i2 ≤ 16) (h : mNv J N i1 i2 i5 i6 i7 a a3 a4) : mNv (n_cpI X J) (n_cpA Z N) i1 i2 i5 i6 i7 a a3 a4 := by
  obtain ⟨h0, h1, h2, h3, h4, h5, h6⟩ := h
  refine ⟨h0, h1, h2, h3, h4, h5, fun p hp => ?_⟩
  have hp16 : p < 16 := by omega
  obtain ⟨k6, k7, k8, k9⟩ := h6 p hp
  refine ⟨Eq.trans ?_ k6, Eq.trans ?_ k7, Eq.trans ?_ k8, Eq.trans ?_ k9⟩
  · show sC (N 6) (Z 6) 16 p = N 6 p
    exact if_pos hp16
  · show sC (N 7) (Z 7) 16 p = N 7 p
    exact if_pos hp16
  · show sC (N 8) (Z 8) 16 p = N 8 p
    exact if_pos hp16
  · show sC (N 9) (Z 9) 16 p = N 9 p
    exact if_pos hp16
theorem row_ok {i1 i2 i5 i6 i7 : Int} {a a3 a4 : Nat → Int} (hO : okN J N) (h : mNv J N i1 i2 i5 i6 i7 a a3 a4) : hrOK i2 a := by
  obtain ⟨h0, h1, h2, h3, h4, h5, h6⟩ := h
  refine ⟨by rw [← h4]; exact hO.2.2.2.2.1, fun p hp => ?_⟩
  obtain ⟨k6, k7, k8, k9⟩ := h6 p hp
  rw [← k8, ← k9]
  exact (hO.2.2.2.2.2.2 p (by rw [h5]; exact hp)).2.2
/-- a change, kept in the ring and in the rows -/
theorem R_push (R : (REL K It L Jd Nd J N Js Ns Jk Nk Ih Ah Ip Ap Bp Ir V M I A F Dd)) {J1 : Nat → Int} {N1 : Nat → Nat → Int} {g : Nat → Int} {x y : Int} (hJ : smI J1) (hN : smA N1) (hO : okN J1 N1) (hm : mNv J1 N1 (I 1) (I 2) (I 5) (I 6) (I 7) g (A 3) (A 4)) (hg : smR g) (hh : ∀ j, 33 ≤ j → g j = m_kp (I 8) (A 0) j) (hx : x = -1 ∨ (0 ≤ x ∧ x < 16)) (hy : -1000000 ≤ y ∧ y ≤ 1000000) (hv : hrv (I 2) x y g (A 0)) : (REL K It L Jd Nd J1 N1 Js Ns Jk Nk (h_pushI Ih) (h_pushA Ih Ah x y) Ip Ap Bp Ir V M (sU I 8 (if I 8 = 8 then 8 else I 8 + 1)) (sU A 0 g) F Dd) := by
  have h8 := R_8 R
  have h16 := R_16 R
  obtain ⟨r1, r2, r3, r4, r5, ⟨a1, a2, a3, a4, a5, a6, a7⟩, r7, ⟨b1, b2, b3, b4⟩, r9⟩ := R
  have e8 : (if Ih 3 + 1 ≤ 8 then Ih 3 + 1 else 8) = (if I 8 = 8 then 8 else I 8 + 1) := by
    rw [a5]
    split <;> split <;> omega
  have et : (Ih 2 + 1).tmod 8 = (Ih 2 + 1) % 8 := Int.tmod_eq_emod_of_nonneg (by omega)
  refine ⟨r1, ⟨hJ, hN, hO, hm⟩, ?_, r4, ?_, ⟨?_, ?_, ?_, ?_, ?_, ?_, ?_⟩, r7, ⟨?_, sm_putA b2 hg, b3, b4⟩, r9⟩
  · refine ⟨r3.1, r3.2.1, r3.2.2.1, mNv_f h16.2 (fun j hj => ?_) r3.2.2.2⟩
    show g (363 + j) = A 0 (363 + j)
    rw [hh _ (by omega), mkp_hi h8 (by omega)]
  · refine ⟨r5.1, r5.2.1, fun k hk => ⟨(r5.2.2 k hk).1, (r5.2.2 k hk).2.1, (r5.2.2 k hk).2.2.1, fun e => ⟨((r5.2.2 k hk).2.2.2 e).1, mNv_f h16.2 (fun j hj => ?_) ((r5.2.2 k hk).2.2.2 e).2⟩⟩⟩
    show g (297 + 33 * k + j) = A 0 (297 + 33 * k + j)
    rw [hh _ (by omega), mkp_hi h8 (by omega)]
  · exact sm_put (sm_put a1 (by rw [et]; omega)) (by split <;> omega)
  · exact sm_putA (sm_putA a2 (sm_putR (smA_R a2 0) (by omega))) (sm_putR (smA_R a2 1) (by omega))
  · show 0 ≤ (Ih 2 + 1).tmod 8 ∧ (Ih 2 + 1).tmod 8 < 8
    rw [et]; omega
  · show 0 ≤ (if Ih 3 + 1 ≤ 8 then Ih 3 + 1 else 8) ∧ (if Ih 3 + 1 ≤ 8 then Ih 3 + 1 else 8) ≤ 8
    split <;> omega
  · exact e8
  · intro k
    show sU (Ah 0) (Ih 2).toNat x k = -1 ∨ (0 ≤ sU (Ah 0) (Ih 2).toNat x k ∧ sU (Ah 0) (Ih 2).toNat x k < 16)
    unfold sU
    split
    · exact hx
    · exact a6 k
  · exact hring_push a3 h8 h16.2 hh hv (row_ok r2.2.2.1 r2.2.2.2) a7
  · exact sm_put b1 (by split <;> omega)
theorem pr_period (R : (REL K It L Jd Nd J N Js Ns Jk Nk Ih Ah Ip Ap Bp Ir V M I A F Dd)) {x : Int} {r7 r8 : Option Value} {w7 w8 : va_W} (h7 : (fun r9 w9 => (¬ (0 ≤ x ∧ x ≤ 999) ∧ r9 = some (.int (iI (-3))) ∧ w9 = ((wTop q Y qt qd qn qs qk qh qp qr K) ++ ((wNet qn Y J N) ++ (wHist qh Y Ih Ah)))) ∨ ((0 ≤ x ∧ x ≤ 999) ∧ ((J 4 = x ∧ r9 = some (.int (iI (-4))) ∧ w9 = ((wTop q Y qt qd qn qs qk qh qp qr K) ++ ((wNet qn Y J N) ++ (wHist qh Y Ih Ah)))) ∨ (J 4 ≠ x ∧ r9 = some (.int (iI (J 4))) ∧ w9 = ((wTop q Y qt qd qn qs qk qh qp qr K) ++ ((wNet qn Y (sU J 4 x) N) ++ (wHist qh Y (h_pushI Ih) (h_pushA Ih Ah (-1) (J 4))))))))) r7 w7) (h8' : (fun r9 w9 => (¬ (0 ≤ x ∧ x ≤ 999) ∧ r9 = some (.int (iI (-3))) ∧ w9 = wMod qm Y I A F Dd) ∨ ((0 ≤ x ∧ x ≤ 999) ∧ ((A 0 0 = x ∧ r9 = some (.int (iI (-4))) ∧ w9 = wMod qm Y I A F Dd) ∨ (A 0 0 ≠ x ∧ r9 = some (.int (iI (A 0 0))) ∧ w9 = wMod qm Y (sU I 8 (if I 8 = 8 then 8 else I 8 + 1)) (sU A 0 (sU (m_kp (I 8) (A 0)) 0 x)) F Dd)))) r8 w8) : prR q Y qt qd qn qs qk qh qp qr qm r7 r8 (w8 ++ (w7 ++ ((wText qt Y It L) ++ ((wNet qd Y Jd Nd) ++ ((wNet qs Y Js Ns) ++ ((wNet (qk 0) Y (Jk 0) (Nk 0)) ++ ((wNet (qk 1) Y (Jk 1) (Nk 1)) ++ ((wPlan qp Y Ip Ap Bp) ++ ((wTrace (qr 0) Y (Ir 0) (V 0) (M 0)) ++ ((wTrace (qr 1) Y (Ir 1) (V 1) (M 1)) ++ (wTrace (qr 2) Y (Ir 2) (V 2) (M 2)))))))))))) := by
  have h4 := R_4 R
  have h8 := R_8 R
  have h16 := R_16 R
  rcases h7 with ⟨a, rfl, rfl⟩ | ⟨a, ⟨b, rfl, rfl⟩ | ⟨b, rfl, rfl⟩⟩
  · rcases h8' with ⟨c, rfl, rfl⟩ | ⟨c, -⟩
    · exact prS R pE_nh
    · exact absurd c a
  · rcases h8' with ⟨c, -⟩ | ⟨c, ⟨d, rfl, rfl⟩ | ⟨d, -⟩⟩
    · exact absurd a c
    · exact prS R pE_nh
    · omega
  · rcases h8' with ⟨c, -⟩ | ⟨c, ⟨d, -⟩ | ⟨d, rfl, rfl⟩⟩
    · exact absurd a c
    · omega
    · have hn := R.2.1
      refine prZ (R_push R (J1 := sU J 4 x) (N1 := N) (g := sU (m_kp (I 8) (A 0)) 0 x) (x := -1) (y := J 4) (sm_put hn.1 (by omega)) hn.2.1 ?_ ?_ ?_ ?_ (Or.inl rfl) (hn.1 4) ?_) h4 pE_nh
      · exact ⟨hn.2.2.1.1, hn.2.2.1.2.1, hn.2.2.1.2.2.1, hn.2.2.1.2.2.2.1, a, hn.2.2.1.2.2.2.2.2⟩
      · obtain ⟨e0, e1, e2, e3, e4, e5, e6⟩ := hn.2.2.2
        refine ⟨e0, e1, e2, e3, rfl, e5, fun p hp => ?_⟩
        rw [sU_n _ _ (by omega), sU_n _ _ (by omega), mkp_lo h8 (by omega), mkp_lo h8 (by omega)]
        exact e6 p hp
      · exact sm_putR (smR_kp (smA_R R.2.2.2.2.2.2.2.1.2.1 0)) (by omega)
      · exact fun j hj => sU_n _ _ (by omega)
      · refine Or.inl ⟨rfl, h4.symm, fun p hp => ?_⟩
        rw [sU_n _ _ (by omega), sU_n _ _ (by omega), mkp_lo h8 (by omega), mkp_lo h8 (by omega)]
        exact ⟨rfl, rfl⟩

theorem pr_slower (R : (REL K It L Jd Nd J N Js Ns Jk Nk Ih Ah Ip Ap Bp Ir V M I A F Dd)) {x y : Int} {r7 r8 : Option Value} {w7 w8 : va_W} (h7 : (fun r9 w9 => (¬ (0 ≤ x ∧ x < J 5) ∧ r9 = some (.int (iI (-2))) ∧ w9 = ((wTop q Y qt qd qn qs qk qh qp qr K) ++ ((wNet qn Y J N) ++ (wHist qh Y Ih Ah)))) ∨ ((0 ≤ x ∧ x < J 5) ∧ ((¬ (1 ≤ y ∧ y ≤ 20) ∧ r9 = some (.int (iI (-3))) ∧ w9 = ((wTop q Y qt qd qn qs qk qh qp qr K) ++ ((wNet qn Y J N) ++ (wHist qh Y Ih Ah)))) ∨ ((1 ≤ y ∧ y ≤ 20) ∧ ((199 < N 8 x.toNat + y ∧ r9 = some (.int (iI (-4))) ∧ w9 = ((wTop q Y qt qd qn qs qk qh qp qr K) ++ ((wNet qn Y J N) ++ (wHist qh Y Ih Ah)))) ∨ (N 8 x.toNat + y ≤ 199 ∧ r9 = some (.int (iI (N 8 x.toNat + y))) ∧ w9 = ((wTop q Y qt qd qn qs qk qh qp qr K) ++ ((wNet qn Y J (n_slow N x y)) ++ (wHist qh Y (h_pushI Ih) (h_pushA Ih Ah x y)))))))))) r7 w7) (h8' : (fun r9 w9 => (¬ (0 ≤ x ∧ x < I 2) ∧ r9 = some (.int (iI (-2))) ∧ w9 = wMod qm Y I A F Dd) ∨ ((0 ≤ x ∧ x < I 2) ∧ ((¬ (1 ≤ y ∧ y ≤ 20) ∧ r9 = some (.int (iI (-3))) ∧ w9 = wMod qm Y I A F Dd) ∨ ((1 ≤ y ∧ y ≤ 20) ∧ ((199 < A 0 (1 + x).toNat + y ∧ r9 = some (.int (iI (-4))) ∧ w9 = wMod qm Y I A F Dd) ∨ (A 0 (1 + x).toNat + y ≤ 199 ∧ r9 = some (.int (iI (A 0 (1 + x).toNat + y))) ∧ w9 = wMod qm Y (sU I 8 (if I 8 = 8 then 8 else I 8 + 1)) (sU A 0 (sU (sU (m_kp (I 8) (A 0)) (1 + x).toNat (A 0 (1 + x).toNat + y)) (17 + x).toNat (A 0 (17 + x).toNat + y))) F Dd)))))) r8 w8) : prR q Y qt qd qn qs qk qh qp qr qm r7 r8 (w8 ++ (w7 ++ ((wText qt Y It L) ++ ((wNet qd Y Jd Nd) ++ ((wNet qs Y Js Ns) ++ ((wNet (qk 0) Y (Jk 0) (Nk 0)) ++ ((wNet (qk 1) Y (Jk 1) (Nk 1)) ++ ((wPlan qp Y Ip Ap Bp) ++ ((wTrace (qr 0) Y (Ir 0) (V 0) (M 0)) ++ ((wTrace (qr 1) Y (Ir 1) (V 1) (M 1)) ++ (wTrace (qr 2) Y (Ir 2) (V 2) (M 2)))))))))))) := by
  have h8 := R_8 R
  have h16 := R_16 R
  have h5 := R_5 R
  have hn := R.2.1
  rcases h7 with ⟨a, rfl, rfl⟩ | ⟨a, h7⟩
  · rcases h8' with ⟨c, rfl, rfl⟩ | ⟨c, -⟩
    · exact prS R pE_nh
    · omega
  rcases h8' with ⟨c, -⟩ | ⟨c, h8'⟩
  · omega
  rcases h7 with ⟨a1, rfl, rfl⟩ | ⟨a1, h7⟩
  · rcases h8' with ⟨c1, rfl, rfl⟩ | ⟨c1, -⟩
    · exact prS R pE_nh
    · omega
  rcases h8' with ⟨c1, -⟩ | ⟨c1, h8'⟩
  · omega
  obtain ⟨e0, e1, e2, e3, e4, e5, e6⟩ := hn.2.2.2
  have ex : (1 + x).toNat = 1 + x.toNat := by omega
  have ex2 : (17 + x).toNat = 17 + x.toNat := by omega
  have k8 := (e6 x.toNat (by omega)).2.2.1
  have k9 := (e6 x.toNat (by omega)).2.2.2
  have hp9 := (hn.2.2.1.2.2.2.2.2.2 x.toNat (by omega)).2.2
  rw [ex, ex2] at h8'
  rcases h7 with ⟨a2, rfl, rfl⟩ | ⟨a2, rfl, rfl⟩
  · rcases h8' with ⟨c2, rfl, rfl⟩ | ⟨c2, -⟩
    · exact prS R pE_nh
    · omega
  rcases h8' with ⟨c2, -⟩ | ⟨c2, rfl, rfl⟩
  · omega
  have hl : ∀ p : Nat, p < 16 → sU (sU (m_kp (I 8) (A 0)) (1 + x.toNat) (A 0 (1 + x.toNat) + y)) (17 + x.toNat) (A 0 (17 + x.toNat) + y) (1 + p) = A 0 (1 + p) + (if p = x.toNat then y else 0) ∧ sU (sU (m_kp (I 8) (A 0)) (1 + x.toNat) (A 0 (1 + x.toNat) + y)) (17 + x.toNat) (A 0 (17 + x.toNat) + y) (17 + p) = A 0 (17 + p) + (if p = x.toNat then y else 0) := by
    intro p hp
    by_cases he : p = x.toNat
    · subst he
      rw [if_pos rfl, sU_n _ _ (by omega), sU_s, sU_s]
      exact ⟨rfl, rfl⟩
    · rw [if_neg he, sU_n _ _ (by omega), sU_n _ _ (by omega), sU_n _ _ (by omega), sU_n _ _ (by omega), mkp_lo h8 (by omega), mkp_lo h8 (by omega)]
      omega
  have hs : ∀ p : Nat, n_slow N x y 8 p = N 8 p + (if p = x.toNat then y else 0) ∧ n_slow N x y 9 p = N 9 p + (if p = x.toNat then y else 0) := by
    intro p
    show sU (N 8) x.toNat (N 8 x.toNat + y) p = _ ∧ sU (N 9) x.toNat (N 9 x.toNat + y) p = _
    by_cases he : p = x.toNat
    · subst he
      rw [if_pos rfl, sU_s, sU_s]
      exact ⟨rfl, rfl⟩
    · rw [if_neg he, sU_n _ _ he, sU_n _ _ he]
      omega
  refine prZ (R_push R (J1 := J) (N1 := n_slow N x y) (x := x) (y := y) hn.1 (sm_putA (sm_putA hn.2.1 (sm_putR (smA_R hn.2.1 8) (by omega))) (sm_putR (smA_R hn.2.1 9) (by omega))) ?_ ?_ ?_ ?_ (Or.inr (by omega)) (by omega) ?_) (by rw [k8]) pE_nh
  · refine ⟨hn.2.2.1.1, hn.2.2.1.2.1, hn.2.2.1.2.2.1, hn.2.2.1.2.2.2.1, hn.2.2.1.2.2.2.2.1, hn.2.2.1.2.2.2.2.2.1, fun p hp => ?_⟩
    obtain ⟨q6, q7, q8⟩ := hn.2.2.1.2.2.2.2.2.2 p hp
    refine ⟨q6, q7, ?_⟩
    rw [(hs p).1, (hs p).2]
    by_cases he : p = x.toNat
    · subst he
      rw [if_pos rfl]
      omega
    · rw [if_neg he]
      omega
  · refine ⟨e0, e1, e2, e3, ?_, e5, fun p hp => ?_⟩
    · rw [sU_n _ _ (by omega), sU_n _ _ (by omega), mkp_lo h8 (by omega)]
      exact e4
    · obtain ⟨q6, q7, q8, q9⟩ := e6 p hp
      rw [(hs p).1, (hs p).2, (hl p (by omega)).1, (hl p (by omega)).2, q8, q9]
      exact ⟨q6, q7, rfl, rfl⟩
  · exact sm_putR (sm_putR (smR_kp (smA_R R.2.2.2.2.2.2.2.1.2.1 0)) (by omega)) (by omega)
  · exact fun j hj => by rw [sU_n _ _ (by omega), sU_n _ _ (by omega)]
  · refine Or.inr ⟨by omega, ?_, fun p hp => ?_⟩
    · rw [sU_n _ _ (by omega), sU_n _ _ (by omega), mkp_lo h8 (by omega)]
    · rw [(hl p (by omega)).1, (hl p (by omega)).2]
      omega

end
