/-! one answer, call by call: taking back, keeping, a net told -/
section
variable {K It L : Nat → Int} {Jd : Nat → Int} {Nd : Nat → Nat → Int} {J : Nat → Int} {N : Nat → Nat → Int} {Js : Nat → Int} {Ns : Nat → Nat → Int} {Jk : Nat → Nat → Int} {Nk : Nat → Nat → Nat → Int} {Ih : Nat → Int} {Ah : Nat → Nat → Int} {Ip : Nat → Int} {Ap Bp : Nat → Nat → Int} {Ir : Nat → Nat → Int} {V : Nat → Nat → UInt64} {M : Nat → Nat → Int} {I : Nat → Int} {A : Nat → Nat → Int} {F : Nat → UInt32} {Dd : Nat → UInt64}
variable {q : Nat → Nat} {Y : Nat → ClassId} {qt qd qn qs : Nat → Nat} {qk : Nat → Nat → Nat} {qh qp : Nat → Nat} {qr : Nat → Nat → Nat} {qm : Nat → Nat}
theorem pr_undo (R : (REL K It L Jd Nd J N Js Ns Jk Nk Ih Ah Ip Ap Bp Ir V M I A F Dd))  {r7 r8 : Option Value} {w7 w8 : va_W} (h7 : (fun r9 w9 => (Ih 3 = 0 ∧ r9 = some (.int (iI (-4))) ∧ w9 = ((wTop q Y qt qd qn qs qk qh qp qr K) ++ ((wNet qn Y J N) ++ (wHist qh Y Ih Ah)))) ∨ (Ih 3 ≠ 0 ∧ r9 = some (.int (iI (Ih 3 - 1))) ∧ w9 = ((wTop q Y qt qd qn qs qk qh qp qr K) ++ ((wNet qn Y (h_revN Ih Ah J) (h_revB Ih Ah N)) ++ (wHist qh Y (h_revI Ih) Ah))))) r7 w7) (h8' : (fun r9 w9 => (I 8 = 0 ∧ r9 = some (.int (iI (-4))) ∧ w9 = wMod qm Y I A F Dd) ∨ (I 8 ≠ 0 ∧ r9 = some (.int (iI (I 8 - 1))) ∧ w9 = wMod qm Y (sU I 8 (I 8 - 1)) (sU A 0 (m_cp (A 0) (Int.toNat (33 + 33 * (I 8 - 1))) (Int.toNat 0) 33)) F Dd)) r8 w8) : prR q Y qt qd qn qs qk qh qp qr qm r7 r8 (w8 ++ (w7 ++ ((wText qt Y It L) ++ ((wNet qd Y Jd Nd) ++ ((wNet qs Y Js Ns) ++ ((wNet (qk 0) Y (Jk 0) (Nk 0)) ++ ((wNet (qk 1) Y (Jk 1) (Nk 1)) ++ ((wPlan qp Y Ip Ap Bp) ++ ((wTrace (qr 0) Y (Ir 0) (V 0) (M 0)) ++ ((wTrace (qr 1) Y (Ir 1) (V 1) (M 1)) ++ (wTrace (qr 2) Y (Ir 2) (V 2) (M 2)))))))))))) := by
  have h8 := R_8 R
  have h16 := R_16 R
  obtain ⟨r1, r2, r3, r4, r5, ⟨a1, a2, a3, a4, a5, a6, a7⟩, r7, ⟨b1, b2, b3, b4⟩, r9⟩ := id R
  rcases h7 with ⟨c, rfl, rfl⟩ | ⟨c, rfl, rfl⟩
  · rcases h8' with ⟨d, rfl, rfl⟩ | ⟨d, -⟩
    · exact prS R pE_nh
    · omega
  rcases h8' with ⟨d, -⟩ | ⟨d, rfl, rfl⟩
  · omega
  have et : (Ih 2 + 8 - 1).tmod 8 = (Ih 2 + 8 - 1) % 8 := Int.tmod_eq_emod_of_nonneg (by omega)
  have ep : ((Ih 2 + 7 - ((0 : Nat) : Int)) % 8).toNat = (h_nx Ih).toNat := by unfold h_nx; rw [et]; omega
  obtain ⟨v1, v2⟩ := a7 0 (by omega)
  rw [ep] at v1
  have eb : ∀ j : Nat, j < 33 → m_cp (A 0) (Int.toNat (33 + 33 * (I 8 - 1))) (Int.toNat 0) 33 j = hrow (A 0) (I 8).toNat (0 + 1) j := by
    intro j hj
    unfold m_cp hrow
    have e2 : Int.toNat 0 = 0 := by decide
    rw [e2, if_pos (by omega), if_neg (by omega)]
    exact congrArg (A 0) (by omega)
  have eh : ∀ j : Nat, 33 ≤ j → m_cp (A 0) (Int.toNat (33 + 33 * (I 8 - 1))) (Int.toNat 0) 33 j = A 0 j := by
    intro j hj
    unfold m_cp
    have e2 : Int.toNat 0 = 0 := by decide
    rw [e2, if_neg (by omega)]
  have key : smI (h_revN Ih Ah J) ∧ smA (h_revB Ih Ah N) ∧ okN (h_revN Ih Ah J) (h_revB Ih Ah N) ∧ mNv (h_revN Ih Ah J) (h_revB Ih Ah N) (I 1) (I 2) (I 5) (I 6) (I 7) (hrow (A 0) (I 8).toNat (0 + 1)) (A 3) (A 4) := by
    obtain ⟨n1, n2, n3, e0, e1, e2, e3, e4, e5, e6⟩ := r2
    unfold h_revN h_revB
    rw [if_neg c, if_neg c]
    rcases v1 with ⟨w1, w2, w3⟩ | ⟨w1, w2, w3⟩
    · rw [if_pos w1, if_pos w1, ← w2]
      refine ⟨sm_put n1 (by have := v2.1; omega), n2, ⟨n3.1, n3.2.1, n3.2.2.1, n3.2.2.2.1, ?_, n3.2.2.2.2.2⟩, e0, e1, e2, e3, rfl, e5, fun p hp => ?_⟩
      · rw [sU_s]
        exact v2.1
      · obtain ⟨q6, q7, q8, q9⟩ := e6 p hp
        rw [(w3 p hp).1, (w3 p hp).2]
        exact ⟨q6, q7, q8, q9⟩
    · rw [if_neg (by omega), if_neg (by omega)]
      have hs : ∀ p : Nat, n_slow N (Ah 0 (h_nx Ih).toNat) (-(Ah 1 (h_nx Ih).toNat)) 8 p = N 8 p - (if p = (Ah 0 (h_nx Ih).toNat).toNat then (Ah 1 (h_nx Ih).toNat) else 0) ∧ n_slow N (Ah 0 (h_nx Ih).toNat) (-(Ah 1 (h_nx Ih).toNat)) 9 p = N 9 p - (if p = (Ah 0 (h_nx Ih).toNat).toNat then (Ah 1 (h_nx Ih).toNat) else 0) := by
        intro p
        show sU (N 8) (Ah 0 (h_nx Ih).toNat).toNat (N 8 (Ah 0 (h_nx Ih).toNat).toNat + -(Ah 1 (h_nx Ih).toNat)) p = _ ∧ sU (N 9) (Ah 0 (h_nx Ih).toNat).toNat (N 9 (Ah 0 (h_nx Ih).toNat).toNat + -(Ah 1 (h_nx Ih).toNat)) p = _
        by_cases he : p = (Ah 0 (h_nx Ih).toNat).toNat
        · subst he
          rw [if_pos rfl, sU_s, sU_s]
          omega
        · rw [if_neg he, sU_n _ _ he, sU_n _ _ he]
          omega
      have hb : ∀ p : Nat, (p : Int) < I 2 → n_slow N (Ah 0 (h_nx Ih).toNat) (-(Ah 1 (h_nx Ih).toNat)) 8 p = hrow (A 0) (I 8).toNat (0 + 1) (1 + p) ∧ n_slow N (Ah 0 (h_nx Ih).toNat) (-(Ah 1 (h_nx Ih).toNat)) 9 p = hrow (A 0) (I 8).toNat (0 + 1) (17 + p) := by
        intro p hp
        obtain ⟨q6, q7, q8, q9⟩ := e6 p hp
        rw [(hs p).1, (hs p).2, (w3 p hp).1, (w3 p hp).2, q8, q9]
        exact ⟨rfl, rfl⟩
      have hz := hb (Ah 0 (h_nx Ih).toNat).toNat (by omega)
      have hy := v2.2 (Ah 0 (h_nx Ih).toNat).toNat (by omega)
      have hz8 : N 8 (Ah 0 (h_nx Ih).toNat).toNat + -(Ah 1 (h_nx Ih).toNat) = hrow (A 0) (I 8).toNat (0 + 1) (1 + (Ah 0 (h_nx Ih).toNat).toNat) := by
        rw [← hz.1, (hs _).1, if_pos rfl]; omega
      have hz9 : N 9 (Ah 0 (h_nx Ih).toNat).toNat + -(Ah 1 (h_nx Ih).toNat) = hrow (A 0) (I 8).toNat (0 + 1) (17 + (Ah 0 (h_nx Ih).toNat).toNat) := by
        rw [← hz.2, (hs _).2, if_pos rfl]; omega
      refine ⟨n1, sm_putA (sm_putA n2 (sm_putR (smA_R n2 8) (by rw [hz8]; omega))) (sm_putR (smA_R n2 9) (by rw [hz9]; omega)), ⟨n3.1, n3.2.1, n3.2.2.1, n3.2.2.2.1, n3.2.2.2.2.1, n3.2.2.2.2.2.1, fun p hp => ?_⟩, e0, e1, e2, e3, ?_, e5, fun p hp => ?_⟩
      · obtain ⟨q6, q7, -⟩ := n3.2.2.2.2.2.2 p hp
        rw [e5] at hp
        refine ⟨q6, q7, ?_⟩
        rw [(hb p hp).1, (hb p hp).2]
        exact v2.2 p hp
      · rw [w2]
        exact e4
      · obtain ⟨q6, q7, -⟩ := e6 p hp
        exact ⟨q6, q7, (hb p hp).1, (hb p hp).2⟩
  refine prZ (J := h_revN Ih Ah J) (N := h_revB Ih Ah N) (Ih := h_revI Ih) (I := sU I 8 (I 8 - 1)) (A := sU A 0 (m_cp (A 0) (Int.toNat (33 + 33 * (I 8 - 1))) (Int.toNat 0) 33)) ?_ (by omega) pE_nh
  have ei : h_revI Ih = sU (sU Ih 3 (Ih 3 - 1)) 2 (h_nx Ih) := if_neg c
  have en : 0 ≤ h_nx Ih ∧ h_nx Ih < 8 := by unfold h_nx; rw [et]; omega
  refine ⟨r1, ⟨key.1, key.2.1, key.2.2.1, mNv_f h16.2 eb key.2.2.2⟩, ⟨r3.1, r3.2.1, r3.2.2.1, mNv_f h16.2 (fun j hj => eh _ (by omega)) r3.2.2.2⟩, r4, ⟨r5.1, r5.2.1, fun k hk => ⟨(r5.2.2 k hk).1, (r5.2.2 k hk).2.1, (r5.2.2 k hk).2.2.1, fun e => ⟨((r5.2.2 k hk).2.2.2 e).1, mNv_f h16.2 (fun j hj => eh _ (by omega)) ((r5.2.2 k hk).2.2.2 e).2⟩⟩⟩, ?_, r7, ⟨sm_put b1 (by omega), sm_putA b2 (smR_cp (smA_R b2 0)), b3, b4⟩, r9⟩
  rw [ei]
  refine ⟨sm_put (sm_put a1 (by omega)) (by omega), a2, by rw [sU_s]; exact en, ?_, ?_, a6, ?_⟩
  · rw [sU_n _ _ (by decide), sU_s]; omega
  · rw [sU_n _ _ (by decide), sU_s, sU_s]; omega
  · rw [sU_s, sU_s]
    exact hring_pop a3 (by omega) h16.2 a7

theorem pr_keep_0 (R : (REL K It L Jd Nd J N Js Ns Jk Nk Ih Ah Ip Ap Bp Ir V M I A F Dd))  {r7 r8 : Option Value} {w7 w8 : va_W} (h7 : (g_det (some (.int (iI (J 4)))) ((wTop q Y qt qd qn qs qk qh qp qr (sU K 0 1)) ++ ((wNet qn Y J N) ++ (wNet (qk 0) Y (n_cpI (Jk 0) J) (n_cpA (Nk 0) N))))) r7 w7) (h8' : (fun r9 w9 => (¬ (0 ≤ (0 : Int) ∧ (0 : Int) ≤ 1) ∧ r9 = some (.int (iI (-2))) ∧ w9 = wMod qm Y I A F Dd) ∨ ((0 ≤ (0 : Int) ∧ (0 : Int) ≤ 1) ∧ r9 = some (.int (iI (A 0 0))) ∧ w9 = wMod qm Y I (sU (sU A 0 (m_cp (A 0) (Int.toNat 0) (Int.toNat (297 + 33 * (0 : Int))) 33)) 9 (sU (A 9) 0 1)) F Dd)) r8 w8) : prR q Y qt qd qn qs qk qh qp qr qm r7 r8 (w8 ++ (w7 ++ ((wText qt Y It L) ++ ((wNet qd Y Jd Nd) ++ ((wNet qs Y Js Ns) ++ ((wNet (qk 1) Y (Jk 1) (Nk 1)) ++ ((wHist qh Y Ih Ah) ++ ((wPlan qp Y Ip Ap Bp) ++ ((wTrace (qr 0) Y (Ir 0) (V 0) (M 0)) ++ ((wTrace (qr 1) Y (Ir 1) (V 1) (M 1)) ++ (wTrace (qr 2) Y (Ir 2) (V 2) (M 2)))))))))))) := by
  have h16 := R_16 R
  obtain ⟨rfl, rfl⟩ := h7
  rcases h8' with ⟨a, -⟩ | ⟨-, rfl, rfl⟩
  · exact absurd (by decide) a
  obtain ⟨r1, r2, r3, r4, r5, ⟨a1, a2, a3, a4, a5, a6, a7⟩, r7, ⟨b1, b2, b3, b4⟩, r9⟩ := id R
  have e2 : Int.toNat (297 + 33 * 0) = 297 + 33 * 0 := by decide
  have e3 : Int.toNat 0 = 0 := by decide
  rw [e2, e3]
  have eh : ∀ j : Nat, (j < 297 + 33 * 0 ∨ 297 + 33 * 0 + 33 ≤ j) → m_cp (A 0) 0 (297 + 33 * 0) 33 j = A 0 j := by
    intro j hj
    unfold m_cp
    rw [if_neg (by omega)]
  have eb : ∀ j : Nat, j < 33 → m_cp (A 0) 0 (297 + 33 * 0) 33 (297 + 33 * 0 + j) = A 0 j := by
    intro j hj
    unfold m_cp
    rw [if_pos (by omega)]
    exact congrArg (A 0) (by omega)
  refine prZ (K := sU K 0 1) (Jk := sU Jk 0 (n_cpI (Jk 0) J)) (Nk := sU Nk 0 (n_cpA (Nk 0) N)) (A := sU (sU A 0 (m_cp (A 0) 0 (297 + 33 * 0) 33)) 9 (sU (A 9) 0 1)) ?_ (R_4 R) pE_k0
  refine ⟨r1, ⟨r2.1, r2.2.1, r2.2.2.1, mNv_f h16.2 (fun j hj => eh j (by omega)) r2.2.2.2⟩, ⟨r3.1, r3.2.1, r3.2.2.1, mNv_f h16.2 (fun j hj => eh _ (by omega)) r3.2.2.2⟩, r4, ⟨fun j => ?_, fun j => ?_, fun j hj => ?_⟩, ⟨a1, a2, a3, a4, a5, a6, hring_f h16.2 (by have := R_8 R; omega) (fun j hj => eh j (by omega)) a7⟩, r7, ⟨b1, sm_putA (sm_putA b2 (smR_cp (smA_R b2 0))) (sm_putR (smA_R b2 9) (by decide)), b3, b4⟩, r9⟩
  · unfold sU
    split
    · exact Or.inr rfl
    · exact r5.1 j
  · show sU (A 9) 0 1 j = 0 ∨ sU (A 9) 0 1 j = 1
    unfold sU
    split
    · exact Or.inr rfl
    · exact r5.2.1 j
  · show sU K 0 1 j = sU (A 9) 0 1 j ∧ _
    by_cases he : j = 0
    · subst he
      rw [sU_s, sU_s, sU_s, sU_s]
      exact ⟨rfl, sm_cpI (r5.2.2 0 (by decide)).2.1 r2.1, sm_cpA (r5.2.2 0 (by decide)).2.2.1 r2.2.1, fun _ => ⟨okN_cp r2.2.2.1, mNv_f h16.2 (fun j hj => eb j hj) (mNv_cp h16.2 r2.2.2.2)⟩⟩
    · rw [sU_n _ _ he, sU_n _ _ he, sU_n _ _ he, sU_n _ _ he]
      obtain ⟨s1, s2, s3, s4⟩ := r5.2.2 j hj
      exact ⟨s1, s2, s3, fun e => ⟨(s4 e).1, mNv_f h16.2 (fun i hi => eh _ (by omega)) (s4 e).2⟩⟩

theorem pr_back_0 (R : (REL K It L Jd Nd J N Js Ns Jk Nk Ih Ah Ip Ap Bp Ir V M I A F Dd))  {r7 r8 : Option Value} {w7 w8 : va_W} (h7 : (fun r9 w9 => (K 0 = 0 ∧ r9 = some (.int (iI (-4))) ∧ w9 = ((wTop q Y qt qd qn qs qk qh qp qr K) ++ ((wNet qn Y J N) ++ ((wNet (qk 0) Y (Jk 0) (Nk 0)) ++ (wHist qh Y Ih Ah))))) ∨ (K 0 = 1 ∧ r9 = some (.int (iI ((Jk 0) 4))) ∧ w9 = ((wTop q Y qt qd qn qs qk qh qp qr K) ++ ((wNet qn Y (n_cpI J (Jk 0)) (n_cpA N (Nk 0))) ++ ((wNet (qk 0) Y (Jk 0) (Nk 0)) ++ (wHist qh Y (sU Ih 3 0) Ah)))))) r7 w7) (h8' : (fun r9 w9 => (¬ (0 ≤ (0 : Int) ∧ (0 : Int) ≤ 1) ∧ r9 = some (.int (iI (-2))) ∧ w9 = wMod qm Y I A F Dd) ∨ ((0 ≤ (0 : Int) ∧ (0 : Int) ≤ 1) ∧ ((A 9 0 = 0 ∧ r9 = some (.int (iI (-4))) ∧ w9 = wMod qm Y I A F Dd) ∨ (A 9 0 = 1 ∧ r9 = some (.int (iI (A 0 (Int.toNat (297 + 33 * (0 : Int)))))) ∧ w9 = wMod qm Y (sU I 8 0) (sU A 0 (m_cp (A 0) (Int.toNat (297 + 33 * (0 : Int))) (Int.toNat 0) 33)) F Dd)))) r8 w8) : prR q Y qt qd qn qs qk qh qp qr qm r7 r8 (w8 ++ (w7 ++ ((wText qt Y It L) ++ ((wNet qd Y Jd Nd) ++ ((wNet qs Y Js Ns) ++ ((wNet (qk 1) Y (Jk 1) (Nk 1)) ++ ((wPlan qp Y Ip Ap Bp) ++ ((wTrace (qr 0) Y (Ir 0) (V 0) (M 0)) ++ ((wTrace (qr 1) Y (Ir 1) (V 1) (M 1)) ++ (wTrace (qr 2) Y (Ir 2) (V 2) (M 2))))))))))) := by
  have h16 := R_16 R
  obtain ⟨r1, r2, r3, r4, r5, ⟨a1, a2, a3, a4, a5, a6, a7⟩, r7, ⟨b1, b2, b3, b4⟩, r9⟩ := id R
  obtain ⟨s1, s2, s3, s4⟩ := r5.2.2 0 (by decide)
  rcases h8' with ⟨a, -⟩ | ⟨-, h8'⟩
  · exact absurd (by decide) a
  rcases h7 with ⟨c, rfl, rfl⟩ | ⟨c, rfl, rfl⟩
  · rcases h8' with ⟨d, rfl, rfl⟩ | ⟨d, -⟩
    · exact prS R pE_b0
    · omega
  rcases h8' with ⟨d, -⟩ | ⟨d, rfl, rfl⟩
  · omega
  have e2 : Int.toNat (297 + 33 * 0) = 297 + 33 * 0 := by decide
  have e3 : Int.toNat 0 = 0 := by decide
  rw [e2, e3]
  have eh : ∀ j : Nat, 33 ≤ j → m_cp (A 0) (297 + 33 * 0) 0 33 j = A 0 j := by
    intro j hj
    unfold m_cp
    rw [if_neg (by omega)]
  have eb : ∀ j : Nat, j < 33 → m_cp (A 0) (297 + 33 * 0) 0 33 j = A 0 (297 + 33 * 0 + j) := by
    intro j hj
    unfold m_cp
    rw [if_pos (by omega)]
    exact congrArg (A 0) (by omega)
  obtain ⟨t1, t2⟩ := s4 c
  refine prZ (J := n_cpI J (Jk 0)) (N := n_cpA N (Nk 0)) (Ih := sU Ih 3 0) (I := sU I 8 0) (A := sU A 0 (m_cp (A 0) (297 + 33 * 0) 0 33)) ?_ t2.2.2.2.2.1 pE_b0
  exact ⟨r1, ⟨sm_cpI r2.1 s2, sm_cpA r2.2.1 s3, okN_cp t1, mNv_f h16.2 eb (mNv_cp h16.2 t2)⟩, ⟨r3.1, r3.2.1, r3.2.2.1, mNv_f h16.2 (fun j hj => eh _ (by omega)) r3.2.2.2⟩, r4, ⟨r5.1, r5.2.1, fun k hk => ⟨(r5.2.2 k hk).1, (r5.2.2 k hk).2.1, (r5.2.2 k hk).2.2.1, fun e => ⟨((r5.2.2 k hk).2.2.2 e).1, mNv_f h16.2 (fun j hj => eh _ (by omega)) ((r5.2.2 k hk).2.2.2 e).2⟩⟩⟩, ⟨sm_put a1 (by decide), a2, a3, by rw [sU_s]; decide, by rw [sU_s, sU_s], a6, hring_0⟩, r7, ⟨sm_put b1 (by decide), sm_putA b2 (smR_cp (smA_R b2 0)), b3, b4⟩, r9⟩

theorem pr_keep_1 (R : (REL K It L Jd Nd J N Js Ns Jk Nk Ih Ah Ip Ap Bp Ir V M I A F Dd))  {r7 r8 : Option Value} {w7 w8 : va_W} (h7 : (g_det (some (.int (iI (J 4)))) ((wTop q Y qt qd qn qs qk qh qp qr (sU K 1 1)) ++ ((wNet qn Y J N) ++ (wNet (qk 1) Y (n_cpI (Jk 1) J) (n_cpA (Nk 1) N))))) r7 w7) (h8' : (fun r9 w9 => (¬ (0 ≤ (1 : Int) ∧ (1 : Int) ≤ 1) ∧ r9 = some (.int (iI (-2))) ∧ w9 = wMod qm Y I A F Dd) ∨ ((0 ≤ (1 : Int) ∧ (1 : Int) ≤ 1) ∧ r9 = some (.int (iI (A 0 0))) ∧ w9 = wMod qm Y I (sU (sU A 0 (m_cp (A 0) (Int.toNat 0) (Int.toNat (297 + 33 * (1 : Int))) 33)) 9 (sU (A 9) 1 1)) F Dd)) r8 w8) : prR q Y qt qd qn qs qk qh qp qr qm r7 r8 (w8 ++ (w7 ++ ((wText qt Y It L) ++ ((wNet qd Y Jd Nd) ++ ((wNet qs Y Js Ns) ++ ((wNet (qk 0) Y (Jk 0) (Nk 0)) ++ ((wHist qh Y Ih Ah) ++ ((wPlan qp Y Ip Ap Bp) ++ ((wTrace (qr 0) Y (Ir 0) (V 0) (M 0)) ++ ((wTrace (qr 1) Y (Ir 1) (V 1) (M 1)) ++ (wTrace (qr 2) Y (Ir 2) (V 2) (M 2)))))))))))) := by
  have h16 := R_16 R
  obtain ⟨rfl, rfl⟩ := h7
  rcases h8' with ⟨a, -⟩ | ⟨-, rfl, rfl⟩
  · exact absurd (by decide) a
  obtain ⟨r1, r2, r3, r4, r5, ⟨a1, a2, a3, a4, a5, a6, a7⟩, r7, ⟨b1, b2, b3, b4⟩, r9⟩ := id R
  have e2 : Int.toNat (297 + 33 * 1) = 297 + 33 * 1 := by decide
  have e3 : Int.toNat 0 = 0 := by decide
  rw [e2, e3]
  have eh : ∀ j : Nat, (j < 297 + 33 * 1 ∨ 297 + 33 * 1 + 33 ≤ j) → m_cp (A 0) 0 (297 + 33 * 1) 33 j = A 0 j := by
    intro j hj
    unfold m_cp
    rw [if_neg (by omega)]
  have eb : ∀ j : Nat, j < 33 → m_cp (A 0) 0 (297 + 33 * 1) 33 (297 + 33 * 1 + j) = A 0 j := by
    intro j hj
    unfold m_cp
    rw [if_pos (by omega)]
    exact congrArg (A 0) (by omega)
  refine prZ (K := sU K 1 1) (Jk := sU Jk 1 (n_cpI (Jk 1) J)) (Nk := sU Nk 1 (n_cpA (Nk 1) N)) (A := sU (sU A 0 (m_cp (A 0) 0 (297 + 33 * 1) 33)) 9 (sU (A 9) 1 1)) ?_ (R_4 R) pE_k1
  refine ⟨r1, ⟨r2.1, r2.2.1, r2.2.2.1, mNv_f h16.2 (fun j hj => eh j (by omega)) r2.2.2.2⟩, ⟨r3.1, r3.2.1, r3.2.2.1, mNv_f h16.2 (fun j hj => eh _ (by omega)) r3.2.2.2⟩, r4, ⟨fun j => ?_, fun j => ?_, fun j hj => ?_⟩, ⟨a1, a2, a3, a4, a5, a6, hring_f h16.2 (by have := R_8 R; omega) (fun j hj => eh j (by omega)) a7⟩, r7, ⟨b1, sm_putA (sm_putA b2 (smR_cp (smA_R b2 0))) (sm_putR (smA_R b2 9) (by decide)), b3, b4⟩, r9⟩
  · unfold sU
    split
    · exact Or.inr rfl
    · exact r5.1 j
  · show sU (A 9) 1 1 j = 0 ∨ sU (A 9) 1 1 j = 1
    unfold sU
    split
    · exact Or.inr rfl
    · exact r5.2.1 j
  · show sU K 1 1 j = sU (A 9) 1 1 j ∧ _
    by_cases he : j = 1
    · subst he
      rw [sU_s, sU_s, sU_s, sU_s]
      exact ⟨rfl, sm_cpI (r5.2.2 1 (by decide)).2.1 r2.1, sm_cpA (r5.2.2 1 (by decide)).2.2.1 r2.2.1, fun _ => ⟨okN_cp r2.2.2.1, mNv_f h16.2 (fun j hj => eb j hj) (mNv_cp h16.2 r2.2.2.2)⟩⟩
    · rw [sU_n _ _ he, sU_n _ _ he, sU_n _ _ he, sU_n _ _ he]
      obtain ⟨s1, s2, s3, s4⟩ := r5.2.2 j hj
      exact ⟨s1, s2, s3, fun e => ⟨(s4 e).1, mNv_f h16.2 (fun i hi => eh _ (by omega)) (s4 e).2⟩⟩

theorem pr_back_1 (R : (REL K It L Jd Nd J N Js Ns Jk Nk Ih Ah Ip Ap Bp Ir V M I A F Dd))  {r7 r8 : Option Value} {w7 w8 : va_W} (h7 : (fun r9 w9 => (K 1 = 0 ∧ r9 = some (.int (iI (-4))) ∧ w9 = ((wTop q Y qt qd qn qs qk qh qp qr K) ++ ((wNet qn Y J N) ++ ((wNet (qk 1) Y (Jk 1) (Nk 1)) ++ (wHist qh Y Ih Ah))))) ∨ (K 1 = 1 ∧ r9 = some (.int (iI ((Jk 1) 4))) ∧ w9 = ((wTop q Y qt qd qn qs qk qh qp qr K) ++ ((wNet qn Y (n_cpI J (Jk 1)) (n_cpA N (Nk 1))) ++ ((wNet (qk 1) Y (Jk 1) (Nk 1)) ++ (wHist qh Y (sU Ih 3 0) Ah)))))) r7 w7) (h8' : (fun r9 w9 => (¬ (0 ≤ (1 : Int) ∧ (1 : Int) ≤ 1) ∧ r9 = some (.int (iI (-2))) ∧ w9 = wMod qm Y I A F Dd) ∨ ((0 ≤ (1 : Int) ∧ (1 : Int) ≤ 1) ∧ ((A 9 1 = 0 ∧ r9 = some (.int (iI (-4))) ∧ w9 = wMod qm Y I A F Dd) ∨ (A 9 1 = 1 ∧ r9 = some (.int (iI (A 0 (Int.toNat (297 + 33 * (1 : Int)))))) ∧ w9 = wMod qm Y (sU I 8 0) (sU A 0 (m_cp (A 0) (Int.toNat (297 + 33 * (1 : Int))) (Int.toNat 0) 33)) F Dd)))) r8 w8) : prR q Y qt qd qn qs qk qh qp qr qm r7 r8 (w8 ++ (w7 ++ ((wText qt Y It L) ++ ((wNet qd Y Jd Nd) ++ ((wNet qs Y Js Ns) ++ ((wNet (qk 0) Y (Jk 0) (Nk 0)) ++ ((wPlan qp Y Ip Ap Bp) ++ ((wTrace (qr 0) Y (Ir 0) (V 0) (M 0)) ++ ((wTrace (qr 1) Y (Ir 1) (V 1) (M 1)) ++ (wTrace (qr 2) Y (Ir 2) (V 2) (M 2))))))))))) := by
  have h16 := R_16 R
  obtain ⟨r1, r2, r3, r4, r5, ⟨a1, a2, a3, a4, a5, a6, a7⟩, r7, ⟨b1, b2, b3, b4⟩, r9⟩ := id R
  obtain ⟨s1, s2, s3, s4⟩ := r5.2.2 1 (by decide)
  rcases h8' with ⟨a, -⟩ | ⟨-, h8'⟩
  · exact absurd (by decide) a
  rcases h7 with ⟨c, rfl, rfl⟩ | ⟨c, rfl, rfl⟩
  · rcases h8' with ⟨d, rfl, rfl⟩ | ⟨d, -⟩
    · exact prS R pE_b1
    · omega
  rcases h8' with ⟨d, -⟩ | ⟨d, rfl, rfl⟩
  · omega
  have e2 : Int.toNat (297 + 33 * 1) = 297 + 33 * 1 := by decide
  have e3 : Int.toNat 0 = 0 := by decide
  rw [e2, e3]
  have eh : ∀ j : Nat, 33 ≤ j → m_cp (A 0) (297 + 33 * 1) 0 33 j = A 0 j := by
    intro j hj
    unfold m_cp
    rw [if_neg (by omega)]
  have eb : ∀ j : Nat, j < 33 → m_cp (A 0) (297 + 33 * 1) 0 33 j = A 0 (297 + 33 * 1 + j) := by
    intro j hj
    unfold m_cp
    rw [if_pos (by omega)]
    exact congrArg (A 0) (by omega)
  obtain ⟨t1, t2⟩ := s4 c
  refine prZ (J := n_cpI J (Jk 1)) (N := n_cpA N (Nk 1)) (Ih := sU Ih 3 0) (I := sU I 8 0) (A := sU A 0 (m_cp (A 0) (297 + 33 * 1) 0 33)) ?_ t2.2.2.2.2.1 pE_b1
  exact ⟨r1, ⟨sm_cpI r2.1 s2, sm_cpA r2.2.1 s3, okN_cp t1, mNv_f h16.2 eb (mNv_cp h16.2 t2)⟩, ⟨r3.1, r3.2.1, r3.2.2.1, mNv_f h16.2 (fun j hj => eh _ (by omega)) r3.2.2.2⟩, r4, ⟨r5.1, r5.2.1, fun k hk => ⟨(r5.2.2 k hk).1, (r5.2.2 k hk).2.1, (r5.2.2 k hk).2.2.1, fun e => ⟨((r5.2.2 k hk).2.2.2 e).1, mNv_f h16.2 (fun j hj => eh _ (by omega)) ((r5.2.2 k hk).2.2.2 e).2⟩⟩⟩, ⟨sm_put a1 (by decide), a2, a3, by rw [sU_s]; decide, by rw [sU_s, sU_s], a6, hring_0⟩, r7, ⟨sm_put b1 (by decide), sm_putA b2 (smR_cp (smA_R b2 0)), b3, b4⟩, r9⟩

theorem pr_keep_o (R : (REL K It L Jd Nd J N Js Ns Jk Nk Ih Ah Ip Ap Bp Ir V M I A F Dd)) {k : Int} (hk : ¬ (0 ≤ k ∧ k ≤ 1)) {r7 r8 : Option Value} {w7 w8 : va_W} (h7 : (g_det (some (.int (iI (-2)))) (wTop q Y qt qd qn qs qk qh qp qr K)) r7 w7) (h8 : (fun r9 w9 => (¬ (0 ≤ k ∧ k ≤ 1) ∧ r9 = some (.int (iI (-2))) ∧ w9 = wMod qm Y I A F Dd) ∨ ((0 ≤ k ∧ k ≤ 1) ∧ r9 = some (.int (iI (A 0 0))) ∧ w9 = wMod qm Y I (sU (sU A 0 (m_cp (A 0) (Int.toNat 0) (Int.toNat (297 + 33 * k)) 33)) 9 (sU (A 9) k.toNat 1)) F Dd)) r8 w8) : prR q Y qt qd qn qs qk qh qp qr qm r7 r8 (w8 ++ (w7 ++ ((wText qt Y It L) ++ ((wNet qd Y Jd Nd) ++ ((wNet qn Y J N) ++ ((wNet qs Y Js Ns) ++ ((wNet (qk 0) Y (Jk 0) (Nk 0)) ++ ((wNet (qk 1) Y (Jk 1) (Nk 1)) ++ ((wHist qh Y Ih Ah) ++ ((wPlan qp Y Ip Ap Bp) ++ ((wTrace (qr 0) Y (Ir 0) (V 0) (M 0)) ++ ((wTrace (qr 1) Y (Ir 1) (V 1) (M 1)) ++ (wTrace (qr 2) Y (Ir 2) (V 2) (M 2)))))))))))))) := by
  obtain ⟨rfl, rfl⟩ := h7
  rcases h8 with ⟨-, rfl, rfl⟩ | ⟨a, -⟩
  · exact prS R pE_T
  · exact absurd a hk

theorem pr_back_o (R : (REL K It L Jd Nd J N Js Ns Jk Nk Ih Ah Ip Ap Bp Ir V M I A F Dd)) {k : Int} (hk : ¬ (0 ≤ k ∧ k ≤ 1)) {r7 r8 : Option Value} {w7 w8 : va_W} (h7 : (g_det (some (.int (iI (-2)))) (wTop q Y qt qd qn qs qk qh qp qr K)) r7 w7) (h8 : (fun r9 w9 => (¬ (0 ≤ k ∧ k ≤ 1) ∧ r9 = some (.int (iI (-2))) ∧ w9 = wMod qm Y I A F Dd) ∨ ((0 ≤ k ∧ k ≤ 1) ∧ ((A 9 k.toNat = 0 ∧ r9 = some (.int (iI (-4))) ∧ w9 = wMod qm Y I A F Dd) ∨ (A 9 k.toNat = 1 ∧ r9 = some (.int (iI (A 0 (Int.toNat (297 + 33 * k))))) ∧ w9 = wMod qm Y (sU I 8 0) (sU A 0 (m_cp (A 0) (Int.toNat (297 + 33 * k)) (Int.toNat 0) 33)) F Dd)))) r8 w8) : prR q Y qt qd qn qs qk qh qp qr qm r7 r8 (w8 ++ (w7 ++ ((wText qt Y It L) ++ ((wNet qd Y Jd Nd) ++ ((wNet qn Y J N) ++ ((wNet qs Y Js Ns) ++ ((wNet (qk 0) Y (Jk 0) (Nk 0)) ++ ((wNet (qk 1) Y (Jk 1) (Nk 1)) ++ ((wHist qh Y Ih Ah) ++ ((wPlan qp Y Ip Ap Bp) ++ ((wTrace (qr 0) Y (Ir 0) (V 0) (M 0)) ++ ((wTrace (qr 1) Y (Ir 1) (V 1) (M 1)) ++ (wTrace (qr 2) Y (Ir 2) (V 2) (M 2)))))))))))))) := by
  obtain ⟨rfl, rfl⟩ := h7
  rcases h8 with ⟨-, rfl, rfl⟩ | ⟨a, -⟩
  · exact prS R pE_T
  · exact absurd a hk

theorem pr_net (R : (REL K It L Jd Nd J N Js Ns Jk Nk Ih Ah Ip Ap Bp Ir V M I A F Dd))  {r7 r8 : Option Value} {w7 w8 : va_W} (h7 : (fun r9 w9 => ∃ (I1 J1 : Nat → Int) (N1 : Nat → Nat → Int), (smI I1 ∧ I1 1 = It 1) ∧ (smI J1 ∧ smA N1 ∧ okN J1 N1) ∧ (((rdA L (It 1) (n_cpI Js Jd) (n_cpA Ns Nd)).1 = 0 ∧ r9 = some (.int (iI (-4))) ∧ w9 = ((wTop q Y qt qd qn qs qk qh qp qr K) ++ ((wText qt Y I1 L) ++ ((wNet qd Y Jd Nd) ++ ((wNet qn Y J N) ++ ((wNet qs Y J1 N1) ++ ((wHist qh Y Ih Ah) ++ ((wTrace (qr 0) Y (Ir 0) (V 0) (M 0)) ++ ((wTrace (qr 1) Y (Ir 1) (V 1) (M 1)) ++ (wTrace (qr 2) Y (Ir 2) (V 2) (M 2))))))))))) ∨ ((rdA L (It 1) (n_cpI Js Jd) (n_cpA Ns Nd)).1 = 1 ∧ r9 = some (.int (iI ((rdA L (It 1) (n_cpI Js Jd) (n_cpA Ns Nd)).2.2.1))) ∧ J1 = (rdA L (It 1) (n_cpI Js Jd) (n_cpA Ns Nd)).2.2.2.1 ∧ N1 = (rdA L (It 1) (n_cpI Js Jd) (n_cpA Ns Nd)).2.2.2.2 ∧ w9 = ((wTop q Y qt qd qn qs qk qh qp qr (sU (sU K 0 0) 1 0)) ++ ((wText qt Y (sU I1 1 0) L) ++ ((wNet qd Y (n_cpI Jd J1) (n_cpA Nd N1)) ++ ((wNet qn Y (n_cpI J (n_cpI Jd J1)) (n_cpA N (n_cpA Nd N1))) ++ ((wNet qs Y J1 N1) ++ ((wHist qh Y (sU Ih 3 0) Ah) ++ ((wTrace (qr 0) Y (sU (sU (Ir 0) 2 0) 4 0) (V 0) (M 0)) ++ ((wTrace (qr 1) Y (sU (sU (Ir 1) 2 0) 4 0) (V 1) (M 1)) ++ (wTrace (qr 2) Y (sU (sU (Ir 2) 2 0) 4 0) (V 2) (M 2))))))))))))) r7 w7) (h8' : (fun r9 w9 => ∃ (I1 : Nat → Int) (A1 : Nat → Nat → Int), w9 = wMod qm Y I1 A1 F Dd ∧ (((rdA (A 10) (I 11) (n_cpI Js Jd) (n_cpA Ns Nd)).1 = 0 ∧ r9 = some (.int (iI (-4))) ∧ rdP 0 I A I1 A1 (rdA (A 10) (I 11) (n_cpI Js Jd) (n_cpA Ns Nd))) ∨ ((rdA (A 10) (I 11) (n_cpI Js Jd) (n_cpA Ns Nd)).1 = 1 ∧ r9 = some (.int (iI (rdA (A 10) (I 11) (n_cpI Js Jd) (n_cpA Ns Nd)).2.2.1)) ∧ ntP (rdA (A 10) (I 11) (n_cpI Js Jd) (n_cpA Ns Nd)).2.2.2.1 (rdA (A 10) (I 11) (n_cpI Js Jd) (n_cpA Ns Nd)).2.2.2.2 I1 A1 ∧ mwOK A1 ∧ I1 34 = I 34 ∧ A1 12 = A 12 ∧ A1 10 = A 10 ∧ A1 9 = sU (sU (A 9) 0 0) 1 0 ∧ A1 13 = sU (sU (sU (A 13) 0 (-1)) 1 (-1)) 2 (-1)))) r8 w8) : prR q Y qt qd qn qs qk qh qp qr qm r7 r8 (w8 ++ (w7 ++ ((wNet (qk 0) Y (Jk 0) (Nk 0)) ++ ((wNet (qk 1) Y (Jk 1) (Nk 1)) ++ (wPlan qp Y Ip Ap Bp))))) := by
  have h16 := R_16 R
  obtain ⟨I1, J1, N1, ⟨a1, a2⟩, ⟨b1, b2, b3⟩, h7⟩ := h7
  obtain ⟨I2, A2, rfl, h8'⟩ := h8'
  rw [← R.1.2.2.2.1, ← R.1.2.2.2.2] at h8'
  rcases h7 with ⟨c, rfl, rfl⟩ | ⟨c, rfl, c2, c3, rfl⟩
  · rcases h8' with ⟨d, rfl, ⟨k1, k2⟩, k3, -, -, k4⟩ | ⟨d, -⟩
    · have c4' := k4 rfl
      exact prS (R_t (R_sc (R_tx R a1 a2) ⟨b1, b2⟩) k1 k2 (frR_w k3 R.2.2.2.2.2.2.2.1.2.2.1) ⟨c4'.1.1, c4'.1.2.1, c4'.1.2.2.1, c4'.1.2.2.2.1, c4'.1.2.2.2.2, k3.1.1, k3.1.2.1⟩ ⟨c4'.2.1, c4'.2.2.1, c4'.2.2.2, k3.2.1, k3.2.2.1, k3.2.2.2.1, k3.2.2.2.2.1⟩) pE_net
    · omega
  rcases h8' with ⟨d, -⟩ | ⟨d, rfl, ⟨⟨m1, m2⟩, m3, m4, ⟨m5, m6⟩, -, -⟩, n1, -, n3, n4, n5, n6⟩
  · omega
  rw [← c2, ← c3] at m3
  have hn2 : I2 2 ≤ 16 := by
    have := b3.2.2.2.2.2.1.2
    rw [m3.2.2.2.2.2.1] at this
    exact this
  refine prZ (K := sU (sU K 0 0) 1 0) (It := sU I1 1 0) (Jd := n_cpI Jd J1) (Nd := n_cpA Nd N1) (J := n_cpI J (n_cpI Jd J1)) (N := n_cpA N (n_cpA Nd N1)) (Js := J1) (Ns := N1) (Ih := sU Ih 3 0) (Ir := fun t => sU (sU (Ir t) 2 0) 4 0) (I := I2) (A := A2) ?_ rfl pE_net
  obtain ⟨r1, r2, r3, r4, r5, ⟨a1', a2', a3', a4', a5', a6', a7'⟩, r7, ⟨b1', b2', b3', b4'⟩, r9⟩ := id R
  refine ⟨⟨sm_put a1 (by decide), r1.2.1, by rw [sU_s]; decide, by rw [sU_s, m5], n4.symm⟩, ⟨sm_cpI r2.1 (sm_cpI r3.1 b1), sm_cpA r2.2.1 (sm_cpA r3.2.1 b2), okN_cp (okN_cp b3), mNv_cp hn2 (mNv_cp hn2 m3)⟩, ⟨sm_cpI r3.1 b1, sm_cpA r3.2.1 b2, okN_cp b3, mNv_f hn2 (fun j hj => m4 j hj) (mNv_cp hn2 m3)⟩, ⟨b1, b2⟩, ⟨fun k => ?_, fun k => ?_, fun k hk => ⟨?_, (r5.2.2 k hk).2.1, (r5.2.2 k hk).2.2.1, fun e => ?_⟩⟩, ⟨sm_put a1' (by decide), a2', a3', by rw [sU_s]; decide, by rw [sU_s, m6], a6', by rw [m6]; exact hring_0⟩, r7, ⟨m1, m2, n1, ?_⟩, fun t ht => ?_⟩
  · unfold sU
    split
    · exact Or.inl rfl
    · split
      · exact Or.inl rfl
      · exact r5.1 k
  · rw [n5]
    unfold sU
    split
    · exact Or.inl rfl
    · split
      · exact Or.inl rfl
      · exact r5.2.1 k
  · rw [n5]
    unfold sU
    split
    · rfl
    · split
      · rfl
      · omega
  · exfalso
    unfold sU at e
    split at e
    · omega
    · split at e
      · omega
      · omega
  · unfold szOK
    rw [n6]
    intro t
    unfold sU
    split
    · omega
    · split
      · omega
      · split
        · omega
        · exact b4' t
  · obtain ⟨s1, s2, s3, s4, s5, s6, s7⟩ := r9 t ht
    refine ⟨sm_put (sm_put s1 (by decide)) (by decide), s2, Or.inl rfl, (by show (0 : Int) ≤ 0 ∧ (0 : Int) ≤ 8; decide), fun _ => ⟨?_, rfl⟩, fun e => absurd (show (0 : Int) = 1 from e) (by decide), s7⟩
    rw [n6]
    unfold sU
    split
    · rfl
    · split
      · rfl
      · split
        · rfl
        · omega

end
