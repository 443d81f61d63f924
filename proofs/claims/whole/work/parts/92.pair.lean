/-! one answer, call by call: traces -/
section
variable {K It L : Nat → Int} {Jd : Nat → Int} {Nd : Nat → Nat → Int} {J : Nat → Int} {N : Nat → Nat → Int} {Js : Nat → Int} {Ns : Nat → Nat → Int} {Jk : Nat → Nat → Int} {Nk : Nat → Nat → Nat → Int} {Ih : Nat → Int} {Ah : Nat → Nat → Int} {Ip : Nat → Int} {Ap Bp : Nat → Nat → Int} {Ir : Nat → Nat → Int} {V : Nat → Nat → UInt64} {M : Nat → Nat → Int} {I : Nat → Int} {A : Nat → Nat → Int} {F : Nat → UInt32} {Dd : Nat → UInt64}
variable {q : Nat → Nat} {Y : Nat → ClassId} {qt qd qn qs : Nat → Nat} {qk : Nat → Nat → Nat} {qh qp : Nat → Nat} {qr : Nat → Nat → Nat} {qm : Nat → Nat}
theorem relR_c {Ir1 : Nat → Int} {V1 : Nat → UInt64} {M1 : Nat → Int} {z s : Int} {f f1 : Nat → UInt32} {d d1 : Nat → UInt64} (e : ∀ k, k < 8 → f1 k = f k ∧ d1 k = d k) (h : relR Ir1 V1 M1 z s f d) : relR Ir1 V1 M1 z s f1 d1 := by
  obtain ⟨h1, h2, h3, h4, h5, h6, h7⟩ := h
  refine ⟨h1, h2, h3, h4, h5, fun e1 => ⟨(h6 e1).1, (h6 e1).2.1, (h6 e1).2.2.1, fun k hk => ?_⟩, h7⟩
  rw [(e k hk).1, (e k hk).2]
  exact (h6 e1).2.2.2 k hk
/-- one trace changes -/
theorem R_r (R : (REL K It L Jd Nd J N Js Ns Jk Nk Ih Ah Ip Ap Bp Ir V M I A F Dd)) {t : Nat} (ht : t < 3) {X : Nat → Int} {V1 : Nat → UInt64} {M1 : Nat → Int} {A1 : Nat → Nat → Int} {F1 : Nat → UInt32} {D1 : Nat → UInt64} (h : relR X V1 M1 (A1 13 t) (A1 12 t) (fun k => F1 (8 * t + k)) (fun k => D1 (8 * t + k))) (ho : ∀ u, u < 3 → u ≠ t → A1 13 u = A 13 u ∧ A1 12 u = A 12 u ∧ ∀ k, k < 8 → F1 (8 * u + k) = F (8 * u + k) ∧ D1 (8 * u + k) = Dd (8 * u + k)) (hA1 : smA A1) (hw1 : mwOK A1) (hz1 : szOK A1) (kA : A1 0 = A 0 ∧ A1 3 = A 3 ∧ A1 4 = A 4 ∧ A1 9 = A 9 ∧ A1 10 = A 10) : (REL K It L Jd Nd J N Js Ns Jk Nk Ih Ah Ip Ap Bp (sU Ir t X) (sU V t V1) (sU M t M1) I A1 F1 D1) := by
  obtain ⟨a0, a3, a4, a9, a10⟩ := kA
  unfold REL at R ⊢
  rw [a0, a3, a4, a9, a10]
  obtain ⟨r1, r2, r3, r4, r5, r6, r7, ⟨b1, -, -, -⟩, r9⟩ := R
  refine ⟨r1, r2, r3, r4, r5, r6, r7, ⟨b1, hA1, hw1, hz1⟩, fun u hu => ?_⟩
  by_cases he : u = t
  · subst he
    rw [sU_s, sU_s, sU_s]
    exact h
  · rw [sU_n _ _ he, sU_n _ _ he, sU_n _ _ he, (ho u hu he).1, (ho u hu he).2.1]
    exact relR_c (ho u hu he).2.2 (r9 u hu)
theorem fn_np {X : Nat → Int} {V1 : Nat → UInt64} {M1 : Nat → Int} {z s : Int} {f : Nat → UInt32} {d : Nat → UInt64} (h : relR X V1 M1 z s f d) (x i j : Int) : fnV (X 2) (X 3) (X 4) x i j = (if npV z s x i j = 0 then -1 else npV z s x i j) ∧ (npV z s x i j = 0 → X 2 = 1 ∧ s = x ∧ (0 ≤ i ∧ i < X 4) ∧ (0 ≤ j ∧ j < X 4)) := by
  obtain ⟨h1, h2, h3, h4, h5, h6, h7⟩ := h
  unfold fnV npV
  rcases h3 with h3 | h3
  · rw [h3, (h5 h3).1, if_pos rfl, if_pos (show (-1 : Int) < 0 by decide)]
    exact ⟨by decide, fun e => absurd e (by decide)⟩
  · obtain ⟨e1, e2, e3, e4⟩ := h6 h3
    rw [h3, e1, e2, if_neg (by decide), if_neg (show ¬ X 4 < 0 by omega)]
    by_cases hx : s = x
    · rw [if_neg (show ¬ x ≠ s from fun c => c hx.symm), if_neg (show ¬ s ≠ x from fun c => c hx)]
      by_cases hc : (0 ≤ i ∧ i < X 4) ∧ (0 ≤ j ∧ j < X 4)
      · rw [if_pos hc, if_pos (by omega), if_pos rfl]
        exact ⟨rfl, fun _ => ⟨rfl, hx, hc.1, hc.2⟩⟩
      · rw [if_neg hc, if_neg (by omega)]
        exact ⟨by decide, fun e => absurd e (by decide)⟩
    · rw [if_pos (show x ≠ s from fun c => hx c.symm), if_pos (show s ≠ x from hx)]
      exact ⟨by decide, fun e => absurd e (by decide)⟩
theorem np_ne {z s x i j : Int} : npV z s x i j ≠ -1 := by
  unfold npV
  split
  · decide
  · split
    · decide
    · split <;> decide
theorem z_f2d : FP.Core.val64 (FP.f2d 0) = FP.Core.val64 0 := by
  rw [f2d_val (by rw [FP.Core.val32_zero]; exact fun z => FP.Core.Datum.noConfusion z), FP.Core.val32_zero, FP.Core.val64_zero]
  decide +kernel
theorem pl_0 : plOK 0 := by
  refine Or.inl ⟨false, 0, ⟨0, FP.Core.b64.qmin, FP.Core.val64_zero, ?_⟩, Nat.dvd_zero _, Nat.zero_le _⟩
  decide +kernel
theorem pr_drop_0 (R : (REL K It L Jd Nd J N Js Ns Jk Nk Ih Ah Ip Ap Bp Ir V M I A F Dd))  {r7 r8 : Option Value} {w7 w8 : va_W} (h7 : (fun r9 w9 => ((Ir 0) 2 = 0 ∧ r9 = some (.int (iI (-11))) ∧ w9 = ((wTop q Y qt qd qn qs qk qh qp qr K) ++ (wTrace (qr 0) Y (Ir 0) (V 0) (M 0)))) ∨ ((Ir 0) 2 ≠ 0 ∧ r9 = some (.int (iI ((Ir 0) 4))) ∧ w9 = ((wTop q Y qt qd qn qs qk qh qp qr K) ++ (wTrace (qr 0) Y (sU (sU (Ir 0) 2 0) 4 0) (V 0) (M 0))))) r7 w7) (h8 : (fun r9 w9 => (¬ (0 ≤ (0 : Int) ∧ (0 : Int) ≤ 2) ∧ r9 = some (.int (iI (-2))) ∧ w9 = wMod qm Y I A F Dd) ∨ ((0 ≤ (0 : Int) ∧ (0 : Int) ≤ 2) ∧ r9 = some (.int (iI (if A 13 0 < 0 then -11 else A 13 0))) ∧ w9 = wMod qm Y I (sU A 13 (sU (A 13) 0 (-1))) F Dd)) r8 w8) : prR q Y qt qd qn qs qk qh qp qr qm r7 r8 (w8 ++ (w7 ++ ((wText qt Y It L) ++ ((wNet qd Y Jd Nd) ++ ((wNet qn Y J N) ++ ((wNet qs Y Js Ns) ++ ((wNet (qk 0) Y (Jk 0) (Nk 0)) ++ ((wNet (qk 1) Y (Jk 1) (Nk 1)) ++ ((wHist qh Y Ih Ah) ++ ((wPlan qp Y Ip Ap Bp) ++ ((wTrace (qr 1) Y (Ir 1) (V 1) (M 1)) ++ (wTrace (qr 2) Y (Ir 2) (V 2) (M 2))))))))))))) := by
  have hr := R.2.2.2.2.2.2.2.2 0 (by decide)
  obtain ⟨s1, s2, s3, s4, s5, s6, s7⟩ := id hr
  rcases h8 with ⟨a, -⟩ | ⟨-, rfl, rfl⟩
  · exact absurd (by decide) a
  rcases h7 with ⟨c, rfl, rfl⟩ | ⟨c, rfl, rfl⟩
  · have e := (s5 c).1
    have e2 : sU (A 13) 0 (-1) = A 13 := by rw [← e]; exact sU_id _ _
    rw [e2, sU_id, e, if_pos (by decide)]
    exact prS R pE_r0
  · have c1 : Ir 0 2 = 1 := by omega
    have e := (s6 c1).1
    rw [if_neg (by omega)]
    refine prZ (R_r R (t := 0) (by decide) (X := sU (sU (Ir 0) 2 0) 4 0) (V1 := V 0) (M1 := M 0) (A1 := sU A 13 (sU (A 13) 0 (-1))) (F1 := F) (D1 := Dd) ?_ ?_ (sm_putA R.2.2.2.2.2.2.2.1.2.1 (sm_putR (smA_R R.2.2.2.2.2.2.2.1.2.1 13) (by decide))) R.2.2.2.2.2.2.2.1.2.2.1 ?_ ⟨rfl, rfl, rfl, rfl, rfl⟩) e.symm (by rw [sU_id, sU_id]; exact pE_r0)
    · exact ⟨sm_put (sm_put s1 (by decide)) (by decide), s2, Or.inl rfl, (by show (0 : Int) ≤ 0 ∧ (0 : Int) ≤ 8; decide), fun _ => ⟨rfl, rfl⟩, fun e => absurd (show (0 : Int) = 1 from e) (by decide), s7⟩
    · exact fun u hu hn => ⟨sU_n _ _ hn, rfl, fun k hk => ⟨rfl, rfl⟩⟩
    · intro u
      show -1 ≤ sU (A 13) 0 (-1) u ∧ sU (A 13) 0 (-1) u ≤ 8
      unfold sU
      split
      · decide
      · exact R.2.2.2.2.2.2.2.1.2.2.2 u

theorem pr_get_0 (R : (REL K It L Jd Nd J N Js Ns Jk Nk Ih Ah Ip Ap Bp Ir V M I A F Dd)) {x i : Int} {r7 r8 : Option Value} {w7 w8 : va_W} (h7 : (g_det (some (.int (iI (if (trV ((Ir 0) 2) ((Ir 0) 3) ((Ir 0) 4) x i i) ≠ -1 then (trV ((Ir 0) 2) ((Ir 0) 3) ((Ir 0) 4) x i i) else taV ((M 0) i.toNat) ((Ir 0) 3) ((V 0) i.toNat))))) ((wTop q Y qt qd qn qs qk qh qp qr K) ++ (wTrace (qr 0) Y (Ir 0) (V 0) (M 0)))) r7 w7) (h8 : (g_det (some (.int (iI (if 0 ≤ (0 : Int) ∧ (0 : Int) ≤ 2 then (if 0 ≤ x ∧ x ≤ 1 then (if npV (A 13 0) (A 12 0) x i i ≠ 0 then npV (A 13 0) (A 12 0) x i i else thV (A 12 0) (F (8 * (0 : Int) + i).toNat) (Dd (8 * (0 : Int) + i).toNat)) else -3) else -2)))) (wMod qm Y I A F Dd)) r8 w8) : prR q Y qt qd qn qs qk qh qp qr qm r7 r8 (w8 ++ (w7 ++ ((wText qt Y It L) ++ ((wNet qd Y Jd Nd) ++ ((wNet qn Y J N) ++ ((wNet qs Y Js Ns) ++ ((wNet (qk 0) Y (Jk 0) (Nk 0)) ++ ((wNet (qk 1) Y (Jk 1) (Nk 1)) ++ ((wHist qh Y Ih Ah) ++ ((wPlan qp Y Ip Ap Bp) ++ ((wTrace (qr 1) Y (Ir 1) (V 1) (M 1)) ++ (wTrace (qr 2) Y (Ir 2) (V 2) (M 2))))))))))))) := by
  obtain ⟨rfl, rfl⟩ := h7
  obtain ⟨rfl, rfl⟩ := h8
  have hr := R.2.2.2.2.2.2.2.2 0 (by decide)
  refine prZ R ?_ pE_r0
  rw [if_pos (show (0 : Int) ≤ 0 ∧ (0 : Int) ≤ 2 by decide)]
  unfold trV
  by_cases hx : x = 0 ∨ x = 1
  · rw [if_pos hx, if_pos (show 0 ≤ x ∧ x ≤ 1 by omega)]
    obtain ⟨f1, f2⟩ := fn_np hr x i i
    rw [f1]
    by_cases hp : npV (A 13 0) (A 12 0) x i i = 0
    · rw [if_pos hp, if_neg (show ¬ ((-1 : Int) ≠ -1) by decide), if_neg (fun c => c hp)]
      obtain ⟨g1, g2, g3, -⟩ := f2 hp
      obtain ⟨k1, k2, k3, k4⟩ := hr.2.2.2.2.2.1 g1
      have hr4 := hr.2.2.2.1
      have ei : (8 * 0 + i).toNat = 8 * 0 + i.toNat := by omega
      rw [ei, k2]
      exact ta_th k3 (k4 i.toNat (by omega)) (hr.2.2.2.2.2.2 _)
    · rw [if_neg hp, if_pos np_ne, if_pos hp]
  · rw [if_neg hx, if_pos (show (-3 : Int) ≠ -1 by decide), if_neg (show ¬ (0 ≤ x ∧ x ≤ 1) by omega)]

theorem pr_compare_0 (R : (REL K It L Jd Nd J N Js Ns Jk Nk Ih Ah Ip Ap Bp Ir V M I A F Dd)) {x i j : Int} {r7 r8 : Option Value} {w7 w8 : va_W} (h7 : (g_det (some (.int (iI (if (trV ((Ir 0) 2) ((Ir 0) 3) ((Ir 0) 4) x i j) ≠ -1 then (trV ((Ir 0) 2) ((Ir 0) 3) ((Ir 0) 4) x i j) else (if (M 0) i.toNat = 0 ∧ (M 0) j.toNat = 0 then cmV ((V 0) i.toNat) ((V 0) j.toNat) else 0))))) ((wTop q Y qt qd qn qs qk qh qp qr K) ++ (wTrace (qr 0) Y (Ir 0) (V 0) (M 0)))) r7 w7) (h8 : (g_det (some (.int (iI (if 0 ≤ (0 : Int) ∧ (0 : Int) ≤ 2 then (if 0 ≤ x ∧ x ≤ 1 then (if npV (A 13 0) (A 12 0) x i j ≠ 0 then npV (A 13 0) (A 12 0) x i j else cmV (voV (A 12 0) (F (8 * (0 : Int) + i).toNat) (Dd (8 * (0 : Int) + i).toNat)) (voV (A 12 0) (F (8 * (0 : Int) + j).toNat) (Dd (8 * (0 : Int) + j).toNat))) else -3) else -2)))) (wMod qm Y I A F Dd)) r8 w8) : prR q Y qt qd qn qs qk qh qp qr qm r7 r8 (w8 ++ (w7 ++ ((wText qt Y It L) ++ ((wNet qd Y Jd Nd) ++ ((wNet qn Y J N) ++ ((wNet qs Y Js Ns) ++ ((wNet (qk 0) Y (Jk 0) (Nk 0)) ++ ((wNet (qk 1) Y (Jk 1) (Nk 1)) ++ ((wHist qh Y Ih Ah) ++ ((wPlan qp Y Ip Ap Bp) ++ ((wTrace (qr 1) Y (Ir 1) (V 1) (M 1)) ++ (wTrace (qr 2) Y (Ir 2) (V 2) (M 2))))))))))))) := by
  obtain ⟨rfl, rfl⟩ := h7
  obtain ⟨rfl, rfl⟩ := h8
  have hr := R.2.2.2.2.2.2.2.2 0 (by decide)
  refine prZ R ?_ pE_r0
  rw [if_pos (show (0 : Int) ≤ 0 ∧ (0 : Int) ≤ 2 by decide)]
  unfold trV
  by_cases hx : x = 0 ∨ x = 1
  · rw [if_pos hx, if_pos (show 0 ≤ x ∧ x ≤ 1 by omega)]
    obtain ⟨f1, f2⟩ := fn_np hr x i j
    rw [f1]
    by_cases hp : npV (A 13 0) (A 12 0) x i j = 0
    · rw [if_pos hp, if_neg (show ¬ ((-1 : Int) ≠ -1) by decide), if_neg (show ¬ (npV (A 13 0) (A 12 0) x i j ≠ 0) from fun c => c hp)]
      obtain ⟨g1, g2, g3, g4⟩ := f2 hp
      obtain ⟨k1, k2, k3, k4⟩ := hr.2.2.2.2.2.1 g1
      have hr4 := hr.2.2.2.1
      have ei : (8 * 0 + i).toNat = 8 * 0 + i.toNat := by omega
      have ej : (8 * 0 + j).toNat = 8 * 0 + j.toNat := by omega
      rw [ei, ej]
      exact cm_cm (k4 i.toNat (by omega)) (k4 j.toNat (by omega))
    · rw [if_neg hp, if_pos np_ne, if_pos hp]
  · rw [if_neg hx, if_pos (show (-3 : Int) ≠ -1 by decide), if_neg (show ¬ (0 ≤ x ∧ x ≤ 1) by omega)]

theorem pr_trace_0 (R : (REL K It L Jd Nd J N Js Ns Jk Nk Ih Ah Ip Ap Bp Ir V M I A F Dd)) {x n : Int} {r7 r8 : Option Value} {w7 w8 : va_W} (h7 : (fun r9 w9 => (¬ ((x = 0 ∨ x = 1) ∧ n ≤ 8) ∧ r9 = some (.int (iI (-3))) ∧ w9 = ((wTop q Y qt qd qn qs qk qh qp qr K) ++ (wTrace (qr 0) Y (Ir 0) (V 0) (M 0)))) ∨ (((x = 0 ∨ x = 1) ∧ n ≤ 8) ∧ ((n < 0 ∧ r9 = some (.int (iI (-12))) ∧ w9 = ((wTop q Y qt qd qn qs qk qh qp qr K) ++ (wTrace (qr 0) Y (Ir 0) (V 0) (M 0)))) ∨ (0 ≤ n ∧ r9 = some (.int (iI (n))) ∧ w9 = ((wTop q Y qt qd qn qs qk qh qp qr K) ++ (wTrace (qr 0) Y (sU (sU (sU (Ir 0) 2 1) 3 x) 4 n) (m_clr 0 (V 0) 0 8) (m_clr 0 (M 0) 0 8))))))) r7 w7) (h8 : (fun r9 w9 => (¬ (0 ≤ (0 : Int) ∧ (0 : Int) ≤ 2) ∧ r9 = some (.int (iI (-2))) ∧ w9 = wMod qm Y I A F Dd) ∨ ((0 ≤ (0 : Int) ∧ (0 : Int) ≤ 2) ∧ ((¬ ((0 ≤ x ∧ x ≤ 1) ∧ n ≤ 8) ∧ r9 = some (.int (iI (-3))) ∧ w9 = wMod qm Y I A F Dd) ∨ (((0 ≤ x ∧ x ≤ 1) ∧ n ≤ 8) ∧ ((n < 0 ∧ r9 = some (.int (iI (-12))) ∧ w9 = wMod qm Y I A F Dd) ∨ (0 ≤ n ∧ r9 = some (.int (iI (n))) ∧ w9 = wMod qm Y I (sU (sU A 12 (sU (A 12) 0 x)) 13 (sU (A 13) 0 n)) (m_clr 0 F (8 * 0) 8) (m_clr 0 Dd (8 * 0) 8))))))) r8 w8) : prR q Y qt qd qn qs qk qh qp qr qm r7 r8 (w8 ++ (w7 ++ ((wText qt Y It L) ++ ((wNet qd Y Jd Nd) ++ ((wNet qn Y J N) ++ ((wNet qs Y Js Ns) ++ ((wNet (qk 0) Y (Jk 0) (Nk 0)) ++ ((wNet (qk 1) Y (Jk 1) (Nk 1)) ++ ((wHist qh Y Ih Ah) ++ ((wPlan qp Y Ip Ap Bp) ++ ((wTrace (qr 1) Y (Ir 1) (V 1) (M 1)) ++ (wTrace (qr 2) Y (Ir 2) (V 2) (M 2))))))))))))) := by
  have hr := R.2.2.2.2.2.2.2.2 0 (by decide)
  obtain ⟨s1, s2, s3, s4, s5, s6, s7⟩ := id hr
  rcases h8 with ⟨a, -⟩ | ⟨-, h8⟩
  · exact absurd (by decide) a
  rcases h7 with ⟨c, rfl, rfl⟩ | ⟨c, h7⟩
  · rcases h8 with ⟨d, rfl, rfl⟩ | ⟨d, -⟩
    · exact prS R pE_r0
    · omega
  rcases h8 with ⟨d, -⟩ | ⟨d, h8⟩
  · omega
  rcases h7 with ⟨c1, rfl, rfl⟩ | ⟨c1, rfl, rfl⟩
  · rcases h8 with ⟨d1, rfl, rfl⟩ | ⟨d1, -⟩
    · exact prS R pE_r0
    · omega
  rcases h8 with ⟨d1, -⟩ | ⟨d1, rfl, rfl⟩
  · omega
  refine prZ (R_r R (t := 0) (by decide) (X := sU (sU (sU (Ir 0) 2 1) 3 x) 4 n) (V1 := m_clr 0 (V 0) 0 8) (M1 := m_clr 0 (M 0) 0 8) (A1 := sU (sU A 12 (sU (A 12) 0 x)) 13 (sU (A 13) 0 n)) (F1 := m_clr 0 F (8 * 0) 8) (D1 := m_clr 0 Dd (8 * 0) 8) ?_ ?_ (sm_putA (sm_putA R.2.2.2.2.2.2.2.1.2.1 (sm_putR (smA_R R.2.2.2.2.2.2.2.1.2.1 12) (by omega))) (sm_putR (smA_R R.2.2.2.2.2.2.2.1.2.1 13) (by omega))) R.2.2.2.2.2.2.2.1.2.2.1 ?_ ⟨rfl, rfl, rfl, rfl, rfl⟩) rfl pE_r0
  · refine ⟨sm_put (sm_put (sm_put s1 (by decide)) (by omega)) (by omega), fun k => ?_, Or.inr rfl, (by show 0 ≤ n ∧ n ≤ 8; omega), fun e => absurd (show (1 : Int) = 0 from e) (by decide), fun _ => ⟨rfl, rfl, c.1, fun k hk => ?_⟩, fun k hk => ?_⟩
    · unfold m_clr
      split
      · exact Or.inl rfl
      · exact s2 k
    · refine Or.inr ⟨?_, ?_⟩
      · unfold m_clr
        rw [if_pos (by omega)]
      · show FP.Core.val64 (m_clr 0 (V 0) 0 8 k) = FP.Core.val64 (voV x (m_clr 0 F (8 * 0) 8 (8 * 0 + k)) (m_clr 0 Dd (8 * 0) 8 (8 * 0 + k)))
        have c1 : m_clr 0 (V 0) 0 8 k = 0 := if_pos (by omega)
        have c2 : m_clr 0 F (8 * 0) 8 (8 * 0 + k) = 0 := if_pos (by omega)
        have c3 : m_clr 0 Dd (8 * 0) 8 (8 * 0 + k) = 0 := if_pos (by omega)
        rw [c1, c2, c3]
        unfold voV
        split
        · exact z_f2d.symm
        · rfl
    · unfold m_clr at hk ⊢
      by_cases hb : 0 ≤ k ∧ k < 0 + 8
      · rw [if_pos hb]
        exact pl_0
      · rw [if_neg hb] at hk ⊢
        exact s7 k hk
  · intro u hu hn
    refine ⟨sU_n _ _ hn, sU_n _ _ hn, fun k hk => ?_⟩
    unfold m_clr
    rw [if_neg (by omega), if_neg (by omega)]
    exact ⟨rfl, rfl⟩
  · intro u
    show -1 ≤ sU (A 13) 0 n u ∧ sU (A 13) 0 n u ≤ 8
    unfold sU
    split
    · omega
    · exact R.2.2.2.2.2.2.2.1.2.2.2 u

theorem pr_drop_1 (R : (REL K It L Jd Nd J N Js Ns Jk Nk Ih Ah Ip Ap Bp Ir V M I A F Dd))  {r7 r8 : Option Value} {w7 w8 : va_W} (h7 : (fun r9 w9 => ((Ir 1) 2 = 0 ∧ r9 = some (.int (iI (-11))) ∧ w9 = ((wTop q Y qt qd qn qs qk qh qp qr K) ++ (wTrace (qr 1) Y (Ir 1) (V 1) (M 1)))) ∨ ((Ir 1) 2 ≠ 0 ∧ r9 = some (.int (iI ((Ir 1) 4))) ∧ w9 = ((wTop q Y qt qd qn qs qk qh qp qr K) ++ (wTrace (qr 1) Y (sU (sU (Ir 1) 2 0) 4 0) (V 1) (M 1))))) r7 w7) (h8 : (fun r9 w9 => (¬ (0 ≤ (1 : Int) ∧ (1 : Int) ≤ 2) ∧ r9 = some (.int (iI (-2))) ∧ w9 = wMod qm Y I A F Dd) ∨ ((0 ≤ (1 : Int) ∧ (1 : Int) ≤ 2) ∧ r9 = some (.int (iI (if A 13 1 < 0 then -11 else A 13 1))) ∧ w9 = wMod qm Y I (sU A 13 (sU (A 13) 1 (-1))) F Dd)) r8 w8) : prR q Y qt qd qn qs qk qh qp qr qm r7 r8 (w8 ++ (w7 ++ ((wText qt Y It L) ++ ((wNet qd Y Jd Nd) ++ ((wNet qn Y J N) ++ ((wNet qs Y Js Ns) ++ ((wNet (qk 0) Y (Jk 0) (Nk 0)) ++ ((wNet (qk 1) Y (Jk 1) (Nk 1)) ++ ((wHist qh Y Ih Ah) ++ ((wPlan qp Y Ip Ap Bp) ++ ((wTrace (qr 0) Y (Ir 0) (V 0) (M 0)) ++ (wTrace (qr 2) Y (Ir 2) (V 2) (M 2))))))))))))) := by
  have hr := R.2.2.2.2.2.2.2.2 1 (by decide)
  obtain ⟨s1, s2, s3, s4, s5, s6, s7⟩ := id hr
  rcases h8 with ⟨a, -⟩ | ⟨-, rfl, rfl⟩
  · exact absurd (by decide) a
  rcases h7 with ⟨c, rfl, rfl⟩ | ⟨c, rfl, rfl⟩
  · have e := (s5 c).1
    have e2 : sU (A 13) 1 (-1) = A 13 := by rw [← e]; exact sU_id _ _
    rw [e2, sU_id, e, if_pos (by decide)]
    exact prS R pE_r1
  · have c1 : Ir 1 2 = 1 := by omega
    have e := (s6 c1).1
    rw [if_neg (by omega)]
    refine prZ (R_r R (t := 1) (by decide) (X := sU (sU (Ir 1) 2 0) 4 0) (V1 := V 1) (M1 := M 1) (A1 := sU A 13 (sU (A 13) 1 (-1))) (F1 := F) (D1 := Dd) ?_ ?_ (sm_putA R.2.2.2.2.2.2.2.1.2.1 (sm_putR (smA_R R.2.2.2.2.2.2.2.1.2.1 13) (by decide))) R.2.2.2.2.2.2.2.1.2.2.1 ?_ ⟨rfl, rfl, rfl, rfl, rfl⟩) e.symm (by rw [sU_id, sU_id]; exact pE_r1)
    · exact ⟨sm_put (sm_put s1 (by decide)) (by decide), s2, Or.inl rfl, (by show (0 : Int) ≤ 0 ∧ (0 : Int) ≤ 8; decide), fun _ => ⟨rfl, rfl⟩, fun e => absurd (show (0 : Int) = 1 from e) (by decide), s7⟩
    · exact fun u hu hn => ⟨sU_n _ _ hn, rfl, fun k hk => ⟨rfl, rfl⟩⟩
    · intro u
      show -1 ≤ sU (A 13) 1 (-1) u ∧ sU (A 13) 1 (-1) u ≤ 8
      unfold sU
      split
      · decide
      · exact R.2.2.2.2.2.2.2.1.2.2.2 u

theorem pr_get_1 (R : (REL K It L Jd Nd J N Js Ns Jk Nk Ih Ah Ip Ap Bp Ir V M I A F Dd)) {x i : Int} {r7 r8 : Option Value} {w7 w8 : va_W} (h7 : (g_det (some (.int (iI (if (trV ((Ir 1) 2) ((Ir 1) 3) ((Ir 1) 4) x i i) ≠ -1 then (trV ((Ir 1) 2) ((Ir 1) 3) ((Ir 1) 4) x i i) else taV ((M 1) i.toNat) ((Ir 1) 3) ((V 1) i.toNat))))) ((wTop q Y qt qd qn qs qk qh qp qr K) ++ (wTrace (qr 1) Y (Ir 1) (V 1) (M 1)))) r7 w7) (h8 : (g_det (some (.int (iI (if 0 ≤ (1 : Int) ∧ (1 : Int) ≤ 2 then (if 0 ≤ x ∧ x ≤ 1 then (if npV (A 13 1) (A 12 1) x i i ≠ 0 then npV (A 13 1) (A 12 1) x i i else thV (A 12 1) (F (8 * (1 : Int) + i).toNat) (Dd (8 * (1 : Int) + i).toNat)) else -3) else -2)))) (wMod qm Y I A F Dd)) r8 w8) : prR q Y qt qd qn qs qk qh qp qr qm r7 r8 (w8 ++ (w7 ++ ((wText qt Y It L) ++ ((wNet qd Y Jd Nd) ++ ((wNet qn Y J N) ++ ((wNet qs Y Js Ns) ++ ((wNet (qk 0) Y (Jk 0) (Nk 0)) ++ ((wNet (qk 1) Y (Jk 1) (Nk 1)) ++ ((wHist qh Y Ih Ah) ++ ((wPlan qp Y Ip Ap Bp) ++ ((wTrace (qr 0) Y (Ir 0) (V 0) (M 0)) ++ (wTrace (qr 2) Y (Ir 2) (V 2) (M 2))))))))))))) := by
  obtain ⟨rfl, rfl⟩ := h7
  obtain ⟨rfl, rfl⟩ := h8
  have hr := R.2.2.2.2.2.2.2.2 1 (by decide)
  refine prZ R ?_ pE_r1
  rw [if_pos (show (0 : Int) ≤ 1 ∧ (1 : Int) ≤ 2 by decide)]
  unfold trV
  by_cases hx : x = 0 ∨ x = 1
  · rw [if_pos hx, if_pos (show 0 ≤ x ∧ x ≤ 1 by omega)]
    obtain ⟨f1, f2⟩ := fn_np hr x i i
    rw [f1]
    by_cases hp : npV (A 13 1) (A 12 1) x i i = 0
    · rw [if_pos hp, if_neg (show ¬ ((-1 : Int) ≠ -1) by decide), if_neg (fun c => c hp)]
      obtain ⟨g1, g2, g3, -⟩ := f2 hp
      obtain ⟨k1, k2, k3, k4⟩ := hr.2.2.2.2.2.1 g1
      have hr4 := hr.2.2.2.1
      have ei : (8 * 1 + i).toNat = 8 * 1 + i.toNat := by omega
      rw [ei, k2]
      exact ta_th k3 (k4 i.toNat (by omega)) (hr.2.2.2.2.2.2 _)
    · rw [if_neg hp, if_pos np_ne, if_pos hp]
  · rw [if_neg hx, if_pos (show (-3 : Int) ≠ -1 by decide), if_neg (show ¬ (0 ≤ x ∧ x ≤ 1) by omega)]

theorem pr_compare_1 (R : (REL K It L Jd Nd J N Js Ns Jk Nk Ih Ah Ip Ap Bp Ir V M I A F Dd)) {x i j : Int} {r7 r8 : Option Value} {w7 w8 : va_W} (h7 : (g_det (some (.int (iI (if (trV ((Ir 1) 2) ((Ir 1) 3) ((Ir 1) 4) x i j) ≠ -1 then (trV ((Ir 1) 2) ((Ir 1) 3) ((Ir 1) 4) x i j) else (if (M 1) i.toNat = 0 ∧ (M 1) j.toNat = 0 then cmV ((V 1) i.toNat) ((V 1) j.toNat) else 0))))) ((wTop q Y qt qd qn qs qk qh qp qr K) ++ (wTrace (qr 1) Y (Ir 1) (V 1) (M 1)))) r7 w7) (h8 : (g_det (some (.int (iI (if 0 ≤ (1 : Int) ∧ (1 : Int) ≤ 2 then (if 0 ≤ x ∧ x ≤ 1 then (if npV (A 13 1) (A 12 1) x i j ≠ 0 then npV (A 13 1) (A 12 1) x i j else cmV (voV (A 12 1) (F (8 * (1 : Int) + i).toNat) (Dd (8 * (1 : Int) + i).toNat)) (voV (A 12 1) (F (8 * (1 : Int) + j).toNat) (Dd (8 * (1 : Int) + j).toNat))) else -3) else -2)))) (wMod qm Y I A F Dd)) r8 w8) : prR q Y qt qd qn qs qk qh qp qr qm r7 r8 (w8 ++ (w7 ++ ((wText qt Y It L) ++ ((wNet qd Y Jd Nd) ++ ((wNet qn Y J N) ++ ((wNet qs Y Js Ns) ++ ((wNet (qk 0) Y (Jk 0) (Nk 0)) ++ ((wNet (qk 1) Y (Jk 1) (Nk 1)) ++ ((wHist qh Y Ih Ah) ++ ((wPlan qp Y Ip Ap Bp) ++ ((wTrace (qr 0) Y (Ir 0) (V 0) (M 0)) ++ (wTrace (qr 2) Y (Ir 2) (V 2) (M 2))))))))))))) := by
  obtain ⟨rfl, rfl⟩ := h7
  obtain ⟨rfl, rfl⟩ := h8
  have hr := R.2.2.2.2.2.2.2.2 1 (by decide)
  refine prZ R ?_ pE_r1
  rw [if_pos (show (0 : Int) ≤ 1 ∧ (1 : Int) ≤ 2 by decide)]
  unfold trV
  by_cases hx : x = 0 ∨ x = 1
  · rw [if_pos hx, if_pos (show 0 ≤ x ∧ x ≤ 1 by omega)]
    obtain ⟨f1, f2⟩ := fn_np hr x i j
    rw [f1]
    by_cases hp : npV (A 13 1) (A 12 1) x i j = 0
    · rw [if_pos hp, if_neg (show ¬ ((-1 : Int) ≠ -1) by decide), if_neg (show ¬ (npV (A 13 1) (A 12 1) x i j ≠ 0) from fun c => c hp)]
      obtain ⟨g1, g2, g3, g4⟩ := f2 hp
      obtain ⟨k1, k2, k3, k4⟩ := hr.2.2.2.2.2.1 g1
      have hr4 := hr.2.2.2.1
      have ei : (8 * 1 + i).toNat = 8 * 1 + i.toNat := by omega
      have ej : (8 * 1 + j).toNat = 8 * 1 + j.toNat := by omega
      rw [ei, ej]
      exact cm_cm (k4 i.toNat (by omega)) (k4 j.toNat (by omega))
    · rw [if_neg hp, if_pos np_ne, if_pos hp]
  · rw [if_neg hx, if_pos (show (-3 : Int) ≠ -1 by decide), if_neg (show ¬ (0 ≤ x ∧ x ≤ 1) by omega)]

theorem pr_trace_1 (R : (REL K It L Jd Nd J N Js Ns Jk Nk Ih Ah Ip Ap Bp Ir V M I A F Dd)) {x n : Int} {r7 r8 : Option Value} {w7 w8 : va_W} (h7 : (fun r9 w9 => (¬ ((x = 0 ∨ x = 1) ∧ n ≤ 8) ∧ r9 = some (.int (iI (-3))) ∧ w9 = ((wTop q Y qt qd qn qs qk qh qp qr K) ++ (wTrace (qr 1) Y (Ir 1) (V 1) (M 1)))) ∨ (((x = 0 ∨ x = 1) ∧ n ≤ 8) ∧ ((n < 0 ∧ r9 = some (.int (iI (-12))) ∧ w9 = ((wTop q Y qt qd qn qs qk qh qp qr K) ++ (wTrace (qr 1) Y (Ir 1) (V 1) (M 1)))) ∨ (0 ≤ n ∧ r9 = some (.int (iI (n))) ∧ w9 = ((wTop q Y qt qd qn qs qk qh qp qr K) ++ (wTrace (qr 1) Y (sU (sU (sU (Ir 1) 2 1) 3 x) 4 n) (m_clr 0 (V 1) 0 8) (m_clr 0 (M 1) 0 8))))))) r7 w7) (h8 : (fun r9 w9 => (¬ (0 ≤ (1 : Int) ∧ (1 : Int) ≤ 2) ∧ r9 = some (.int (iI (-2))) ∧ w9 = wMod qm Y I A F Dd) ∨ ((0 ≤ (1 : Int) ∧ (1 : Int) ≤ 2) ∧ ((¬ ((0 ≤ x ∧ x ≤ 1) ∧ n ≤ 8) ∧ r9 = some (.int (iI (-3))) ∧ w9 = wMod qm Y I A F Dd) ∨ (((0 ≤ x ∧ x ≤ 1) ∧ n ≤ 8) ∧ ((n < 0 ∧ r9 = some (.int (iI (-12))) ∧ w9 = wMod qm Y I A F Dd) ∨ (0 ≤ n ∧ r9 = some (.int (iI (n))) ∧ w9 = wMod qm Y I (sU (sU A 12 (sU (A 12) 1 x)) 13 (sU (A 13) 1 n)) (m_clr 0 F (8 * 1) 8) (m_clr 0 Dd (8 * 1) 8))))))) r8 w8) : prR q Y qt qd qn qs qk qh qp qr qm r7 r8 (w8 ++ (w7 ++ ((wText qt Y It L) ++ ((wNet qd Y Jd Nd) ++ ((wNet qn Y J N) ++ ((wNet qs Y Js Ns) ++ ((wNet (qk 0) Y (Jk 0) (Nk 0)) ++ ((wNet (qk 1) Y (Jk 1) (Nk 1)) ++ ((wHist qh Y Ih Ah) ++ ((wPlan qp Y Ip Ap Bp) ++ ((wTrace (qr 0) Y (Ir 0) (V 0) (M 0)) ++ (wTrace (qr 2) Y (Ir 2) (V 2) (M 2))))))))))))) := by
  have hr := R.2.2.2.2.2.2.2.2 1 (by decide)
  obtain ⟨s1, s2, s3, s4, s5, s6, s7⟩ := id hr
  rcases h8 with ⟨a, -⟩ | ⟨-, h8⟩
  · exact absurd (by decide) a
  rcases h7 with ⟨c, rfl, rfl⟩ | ⟨c, h7⟩
  · rcases h8 with ⟨d, rfl, rfl⟩ | ⟨d, -⟩
    · exact prS R pE_r1
    · omega
  rcases h8 with ⟨d, -⟩ | ⟨d, h8⟩
  · omega
  rcases h7 with ⟨c1, rfl, rfl⟩ | ⟨c1, rfl, rfl⟩
  · rcases h8 with ⟨d1, rfl, rfl⟩ | ⟨d1, -⟩
    · exact prS R pE_r1
    · omega
  rcases h8 with ⟨d1, -⟩ | ⟨d1, rfl, rfl⟩
  · omega
  refine prZ (R_r R (t := 1) (by decide) (X := sU (sU (sU (Ir 1) 2 1) 3 x) 4 n) (V1 := m_clr 0 (V 1) 0 8) (M1 := m_clr 0 (M 1) 0 8) (A1 := sU (sU A 12 (sU (A 12) 1 x)) 13 (sU (A 13) 1 n)) (F1 := m_clr 0 F (8 * 1) 8) (D1 := m_clr 0 Dd (8 * 1) 8) ?_ ?_ (sm_putA (sm_putA R.2.2.2.2.2.2.2.1.2.1 (sm_putR (smA_R R.2.2.2.2.2.2.2.1.2.1 12) (by omega))) (sm_putR (smA_R R.2.2.2.2.2.2.2.1.2.1 13) (by omega))) R.2.2.2.2.2.2.2.1.2.2.1 ?_ ⟨rfl, rfl, rfl, rfl, rfl⟩) rfl pE_r1
  · refine ⟨sm_put (sm_put (sm_put s1 (by decide)) (by omega)) (by omega), fun k => ?_, Or.inr rfl, (by show 0 ≤ n ∧ n ≤ 8; omega), fun e => absurd (show (1 : Int) = 0 from e) (by decide), fun _ => ⟨rfl, rfl, c.1, fun k hk => ?_⟩, fun k hk => ?_⟩
    · unfold m_clr
      split
      · exact Or.inl rfl
      · exact s2 k
    · refine Or.inr ⟨?_, ?_⟩
      · unfold m_clr
        rw [if_pos (by omega)]
      · show FP.Core.val64 (m_clr 0 (V 1) 0 8 k) = FP.Core.val64 (voV x (m_clr 0 F (8 * 1) 8 (8 * 1 + k)) (m_clr 0 Dd (8 * 1) 8 (8 * 1 + k)))
        have c1 : m_clr 0 (V 1) 0 8 k = 0 := if_pos (by omega)
        have c2 : m_clr 0 F (8 * 1) 8 (8 * 1 + k) = 0 := if_pos (by omega)
        have c3 : m_clr 0 Dd (8 * 1) 8 (8 * 1 + k) = 0 := if_pos (by omega)
        rw [c1, c2, c3]
        unfold voV
        split
        · exact z_f2d.symm
        · rfl
    · unfold m_clr at hk ⊢
      by_cases hb : 0 ≤ k ∧ k < 0 + 8
      · rw [if_pos hb]
        exact pl_0
      · rw [if_neg hb] at hk ⊢
        exact s7 k hk
  · intro u hu hn
    refine ⟨sU_n _ _ hn, sU_n _ _ hn, fun k hk => ?_⟩
    unfold m_clr
    rw [if_neg (by omega), if_neg (by omega)]
    exact ⟨rfl, rfl⟩
  · intro u
    show -1 ≤ sU (A 13) 1 n u ∧ sU (A 13) 1 n u ≤ 8
    unfold sU
    split
    · omega
    · exact R.2.2.2.2.2.2.2.1.2.2.2 u

theorem pr_drop_2 (R : (REL K It L Jd Nd J N Js Ns Jk Nk Ih Ah Ip Ap Bp Ir V M I A F Dd))  {r7 r8 : Option Value} {w7 w8 : va_W} (h7 : (fun r9 w9 => ((Ir 2) 2 = 0 ∧ r9 = some (.int (iI (-11))) ∧ w9 = ((wTop q Y qt qd qn qs qk qh qp qr K) ++ (wTrace (qr 2) Y (Ir 2) (V 2) (M 2)))) ∨ ((Ir 2) 2 ≠ 0 ∧ r9 = some (.int (iI ((Ir 2) 4))) ∧ w9 = ((wTop q Y qt qd qn qs qk qh qp qr K) ++ (wTrace (qr 2) Y (sU (sU (Ir 2) 2 0) 4 0) (V 2) (M 2))))) r7 w7) (h8 : (fun r9 w9 => (¬ (0 ≤ (2 : Int) ∧ (2 : Int) ≤ 2) ∧ r9 = some (.int (iI (-2))) ∧ w9 = wMod qm Y I A F Dd) ∨ ((0 ≤ (2 : Int) ∧ (2 : Int) ≤ 2) ∧ r9 = some (.int (iI (if A 13 2 < 0 then -11 else A 13 2))) ∧ w9 = wMod qm Y I (sU A 13 (sU (A 13) 2 (-1))) F Dd)) r8 w8) : prR q Y qt qd qn qs qk qh qp qr qm r7 r8 (w8 ++ (w7 ++ ((wText qt Y It L) ++ ((wNet qd Y Jd Nd) ++ ((wNet qn Y J N) ++ ((wNet qs Y Js Ns) ++ ((wNet (qk 0) Y (Jk 0) (Nk 0)) ++ ((wNet (qk 1) Y (Jk 1) (Nk 1)) ++ ((wHist qh Y Ih Ah) ++ ((wPlan qp Y Ip Ap Bp) ++ ((wTrace (qr 0) Y (Ir 0) (V 0) (M 0)) ++ (wTrace (qr 1) Y (Ir 1) (V 1) (M 1))))))))))))) := by
  have hr := R.2.2.2.2.2.2.2.2 2 (by decide)
  obtain ⟨s1, s2, s3, s4, s5, s6, s7⟩ := id hr
  rcases h8 with ⟨a, -⟩ | ⟨-, rfl, rfl⟩
  · exact absurd (by decide) a
  rcases h7 with ⟨c, rfl, rfl⟩ | ⟨c, rfl, rfl⟩
  · have e := (s5 c).1
    have e2 : sU (A 13) 2 (-1) = A 13 := by rw [← e]; exact sU_id _ _
    rw [e2, sU_id, e, if_pos (by decide)]
    exact prS R pE_r2
  · have c1 : Ir 2 2 = 1 := by omega
    have e := (s6 c1).1
    rw [if_neg (by omega)]
    refine prZ (R_r R (t := 2) (by decide) (X := sU (sU (Ir 2) 2 0) 4 0) (V1 := V 2) (M1 := M 2) (A1 := sU A 13 (sU (A 13) 2 (-1))) (F1 := F) (D1 := Dd) ?_ ?_ (sm_putA R.2.2.2.2.2.2.2.1.2.1 (sm_putR (smA_R R.2.2.2.2.2.2.2.1.2.1 13) (by decide))) R.2.2.2.2.2.2.2.1.2.2.1 ?_ ⟨rfl, rfl, rfl, rfl, rfl⟩) e.symm (by rw [sU_id, sU_id]; exact pE_r2)
    · exact ⟨sm_put (sm_put s1 (by decide)) (by decide), s2, Or.inl rfl, (by show (0 : Int) ≤ 0 ∧ (0 : Int) ≤ 8; decide), fun _ => ⟨rfl, rfl⟩, fun e => absurd (show (0 : Int) = 1 from e) (by decide), s7⟩
    · exact fun u hu hn => ⟨sU_n _ _ hn, rfl, fun k hk => ⟨rfl, rfl⟩⟩
    · intro u
      show -1 ≤ sU (A 13) 2 (-1) u ∧ sU (A 13) 2 (-1) u ≤ 8
      unfold sU
      split
      · decide
      · exact R.2.2.2.2.2.2.2.1.2.2.2 u

theorem pr_get_2 (R : (REL K It L Jd Nd J N Js Ns Jk Nk Ih Ah Ip Ap Bp Ir V M I A F Dd)) {x i : Int} {r7 r8 : Option Value} {w7 w8 : va_W} (h7 : (g_det (some (.int (iI (if (trV ((Ir 2) 2) ((Ir 2) 3) ((Ir 2) 4) x i i) ≠ -1 then (trV ((Ir 2) 2) ((Ir 2) 3) ((Ir 2) 4) x i i) else taV ((M 2) i.toNat) ((Ir 2) 3) ((V 2) i.toNat))))) ((wTop q Y qt qd qn qs qk qh qp qr K) ++ (wTrace (qr 2) Y (Ir 2) (V 2) (M 2)))) r7 w7) (h8 : (g_det (some (.int (iI (if 0 ≤ (2 : Int) ∧ (2 : Int) ≤ 2 then (if 0 ≤ x ∧ x ≤ 1 then (if npV (A 13 2) (A 12 2) x i i ≠ 0 then npV (A 13 2) (A 12 2) x i i else thV (A 12 2) (F (8 * (2 : Int) + i).toNat) (Dd (8 * (2 : Int) + i).toNat)) else -3) else -2)))) (wMod qm Y I A F Dd)) r8 w8) : prR q Y qt qd qn qs qk qh qp qr qm r7 r8 (w8 ++ (w7 ++ ((wText qt Y It L) ++ ((wNet qd Y Jd Nd) ++ ((wNet qn Y J N) ++ ((wNet qs Y Js Ns) ++ ((wNet (qk 0) Y (Jk 0) (Nk 0)) ++ ((wNet (qk 1) Y (Jk 1) (Nk 1)) ++ ((wHist qh Y Ih Ah) ++ ((wPlan qp Y Ip Ap Bp) ++ ((wTrace (qr 0) Y (Ir 0) (V 0) (M 0)) ++ (wTrace (qr 1) Y (Ir 1) (V 1) (M 1))))))))))))) := by
  obtain ⟨rfl, rfl⟩ := h7
  obtain ⟨rfl, rfl⟩ := h8
  have hr := R.2.2.2.2.2.2.2.2 2 (by decide)
  refine prZ R ?_ pE_r2
  rw [if_pos (show (0 : Int) ≤ 2 ∧ (2 : Int) ≤ 2 by decide)]
  unfold trV
  by_cases hx : x = 0 ∨ x = 1
  · rw [if_pos hx, if_pos (show 0 ≤ x ∧ x ≤ 1 by omega)]
    obtain ⟨f1, f2⟩ := fn_np hr x i i
    rw [f1]
    by_cases hp : npV (A 13 2) (A 12 2) x i i = 0
    · rw [if_pos hp, if_neg (show ¬ ((-1 : Int) ≠ -1) by decide), if_neg (fun c => c hp)]
      obtain ⟨g1, g2, g3, -⟩ := f2 hp
      obtain ⟨k1, k2, k3, k4⟩ := hr.2.2.2.2.2.1 g1
      have hr4 := hr.2.2.2.1
      have ei : (8 * 2 + i).toNat = 8 * 2 + i.toNat := by omega
      rw [ei, k2]
      exact ta_th k3 (k4 i.toNat (by omega)) (hr.2.2.2.2.2.2 _)
    · rw [if_neg hp, if_pos np_ne, if_pos hp]
  · rw [if_neg hx, if_pos (show (-3 : Int) ≠ -1 by decide), if_neg (show ¬ (0 ≤ x ∧ x ≤ 1) by omega)]

theorem pr_compare_2 (R : (REL K It L Jd Nd J N Js Ns Jk Nk Ih Ah Ip Ap Bp Ir V M I A F Dd)) {x i j : Int} {r7 r8 : Option Value} {w7 w8 : va_W} (h7 : (g_det (some (.int (iI (if (trV ((Ir 2) 2) ((Ir 2) 3) ((Ir 2) 4) x i j) ≠ -1 then (trV ((Ir 2) 2) ((Ir 2) 3) ((Ir 2) 4) x i j) else (if (M 2) i.toNat = 0 ∧ (M 2) j.toNat = 0 then cmV ((V 2) i.toNat) ((V 2) j.toNat) else 0))))) ((wTop q Y qt qd qn qs qk qh qp qr K) ++ (wTrace (qr 2) Y (Ir 2) (V 2) (M 2)))) r7 w7) (h8 : (g_det (some (.int (iI (if 0 ≤ (2 : Int) ∧ (2 : Int) ≤ 2 then (if 0 ≤ x ∧ x ≤ 1 then (if npV (A 13 2) (A 12 2) x i j ≠ 0 then npV (A 13 2) (A 12 2) x i j else cmV (voV (A 12 2) (F (8 * (2 : Int) + i).toNat) (Dd (8 * (2 : Int) + i).toNat)) (voV (A 12 2) (F (8 * (2 : Int) + j).toNat) (Dd (8 * (2 : Int) + j).toNat))) else -3) else -2)))) (wMod qm Y I A F Dd)) r8 w8) : prR q Y qt qd qn qs qk qh qp qr qm r7 r8 (w8 ++ (w7 ++ ((wText qt Y It L) ++ ((wNet qd Y Jd Nd) ++ ((wNet qn Y J N) ++ ((wNet qs Y Js Ns) ++ ((wNet (qk 0) Y (Jk 0) (Nk 0)) ++ ((wNet (qk 1) Y (Jk 1) (Nk 1)) ++ ((wHist qh Y Ih Ah) ++ ((wPlan qp Y Ip Ap Bp) ++ ((wTrace (qr 0) Y (Ir 0) (V 0) (M 0)) ++ (wTrace (qr 1) Y (Ir 1) (V 1) (M 1))))))))))))) := by
  obtain ⟨rfl, rfl⟩ := h7
  obtain ⟨rfl, rfl⟩ := h8
  have hr := R.2.2.2.2.2.2.2.2 2 (by decide)
  refine prZ R ?_ pE_r2
  rw [if_pos (show (0 : Int) ≤ 2 ∧ (2 : Int) ≤ 2 by decide)]
  unfold trV
  by_cases hx : x = 0 ∨ x = 1
  · rw [if_pos hx, if_pos (show 0 ≤ x ∧ x ≤ 1 by omega)]
    obtain ⟨f1, f2⟩ := fn_np hr x i j
    rw [f1]
    by_cases hp : npV (A 13 2) (A 12 2) x i j = 0
    · rw [if_pos hp, if_neg (show ¬ ((-1 : Int) ≠ -1) by decide), if_neg (show ¬ (npV (A 13 2) (A 12 2) x i j ≠ 0) from fun c => c hp)]
      obtain ⟨g1, g2, g3, g4⟩ := f2 hp
      obtain ⟨k1, k2, k3, k4⟩ := hr.2.2.2.2.2.1 g1
      have hr4 := hr.2.2.2.1
      have ei : (8 * 2 + i).toNat = 8 * 2 + i.toNat := by omega
      have ej : (8 * 2 + j).toNat = 8 * 2 + j.toNat := by omega
      rw [ei, ej]
      exact cm_cm (k4 i.toNat (by omega)) (k4 j.toNat (by omega))
    · rw [if_neg hp, if_pos np_ne, if_pos hp]
  · rw [if_neg hx, if_pos (show (-3 : Int) ≠ -1 by decide), if_neg (show ¬ (0 ≤ x ∧ x ≤ 1) by omega)]

theorem pr_trace_2 (R : (REL K It L Jd Nd J N Js Ns Jk Nk Ih Ah Ip Ap Bp Ir V M I A F Dd)) {x n : Int} {r7 r8 : Option Value} {w7 w8 : va_W} (h7 : (fun r9 w9 => (¬ ((x = 0 ∨ x = 1) ∧ n ≤ 8) ∧ r9 = some (.int (iI (-3))) ∧ w9 = ((wTop q Y qt qd qn qs qk qh qp qr K) ++ (wTrace (qr 2) Y (Ir 2) (V 2) (M 2)))) ∨ (((x = 0 ∨ x = 1) ∧ n ≤ 8) ∧ ((n < 0 ∧ r9 = some (.int (iI (-12))) ∧ w9 = ((wTop q Y qt qd qn qs qk qh qp qr K) ++ (wTrace (qr 2) Y (Ir 2) (V 2) (M 2)))) ∨ (0 ≤ n ∧ r9 = some (.int (iI (n))) ∧ w9 = ((wTop q Y qt qd qn qs qk qh qp qr K) ++ (wTrace (qr 2) Y (sU (sU (sU (Ir 2) 2 1) 3 x) 4 n) (m_clr 0 (V 2) 0 8) (m_clr 0 (M 2) 0 8))))))) r7 w7) (h8 : (fun r9 w9 => (¬ (0 ≤ (2 : Int) ∧ (2 : Int) ≤ 2) ∧ r9 = some (.int (iI (-2))) ∧ w9 = wMod qm Y I A F Dd) ∨ ((0 ≤ (2 : Int) ∧ (2 : Int) ≤ 2) ∧ ((¬ ((0 ≤ x ∧ x ≤ 1) ∧ n ≤ 8) ∧ r9 = some (.int (iI (-3))) ∧ w9 = wMod qm Y I A F Dd) ∨ (((0 ≤ x ∧ x ≤ 1) ∧ n ≤ 8) ∧ ((n < 0 ∧ r9 = some (.int (iI (-12))) ∧ w9 = wMod qm Y I A F Dd) ∨ (0 ≤ n ∧ r9 = some (.int (iI (n))) ∧ w9 = wMod qm Y I (sU (sU A 12 (sU (A 12) 2 x)) 13 (sU (A 13) 2 n)) (m_clr 0 F (8 * 2) 8) (m_clr 0 Dd (8 * 2) 8))))))) r8 w8) : prR q Y qt qd qn qs qk qh qp qr qm r7 r8 (w8 ++ (w7 ++ ((wText qt Y It L) ++ ((wNet qd Y Jd Nd) ++ ((wNet qn Y J N) ++ ((wNet qs Y Js Ns) ++ ((wNet (qk 0) Y (Jk 0) (Nk 0)) ++ ((wNet (qk 1) Y (Jk 1) (Nk 1)) ++ ((wHist qh Y Ih Ah) ++ ((wPlan qp Y Ip Ap Bp) ++ ((wTrace (qr 0) Y (Ir 0) (V 0) (M 0)) ++ (wTrace (qr 1) Y (Ir 1) (V 1) (M 1))))))))))))) := by
  have hr := R.2.2.2.2.2.2.2.2 2 (by decide)
  obtain ⟨s1, s2, s3, s4, s5, s6, s7⟩ := id hr
  rcases h8 with ⟨a, -⟩ | ⟨-, h8⟩
  · exact absurd (by decide) a
  rcases h7 with ⟨c, rfl, rfl⟩ | ⟨c, h7⟩
  · rcases h8 with ⟨d, rfl, rfl⟩ | ⟨d, -⟩
    · exact prS R pE_r2
    · omega
  rcases h8 with ⟨d, -⟩ | ⟨d, h8⟩
  · omega
  rcases h7 with ⟨c1, rfl, rfl⟩ | ⟨c1, rfl, rfl⟩
  · rcases h8 with ⟨d1, rfl, rfl⟩ | ⟨d1, -⟩
    · exact prS R pE_r2
    · omega
  rcases h8 with ⟨d1, -⟩ | ⟨d1, rfl, rfl⟩
  · omega
  refine prZ (R_r R (t := 2) (by decide) (X := sU (sU (sU (Ir 2) 2 1) 3 x) 4 n) (V1 := m_clr 0 (V 2) 0 8) (M1 := m_clr 0 (M 2) 0 8) (A1 := sU (sU A 12 (sU (A 12) 2 x)) 13 (sU (A 13) 2 n)) (F1 := m_clr 0 F (8 * 2) 8) (D1 := m_clr 0 Dd (8 * 2) 8) ?_ ?_ (sm_putA (sm_putA R.2.2.2.2.2.2.2.1.2.1 (sm_putR (smA_R R.2.2.2.2.2.2.2.1.2.1 12) (by omega))) (sm_putR (smA_R R.2.2.2.2.2.2.2.1.2.1 13) (by omega))) R.2.2.2.2.2.2.2.1.2.2.1 ?_ ⟨rfl, rfl, rfl, rfl, rfl⟩) rfl pE_r2
  · refine ⟨sm_put (sm_put (sm_put s1 (by decide)) (by omega)) (by omega), fun k => ?_, Or.inr rfl, (by show 0 ≤ n ∧ n ≤ 8; omega), fun e => absurd (show (1 : Int) = 0 from e) (by decide), fun _ => ⟨rfl, rfl, c.1, fun k hk => ?_⟩, fun k hk => ?_⟩
    · unfold m_clr
      split
      · exact Or.inl rfl
      · exact s2 k
    · refine Or.inr ⟨?_, ?_⟩
      · unfold m_clr
        rw [if_pos (by omega)]
      · show FP.Core.val64 (m_clr 0 (V 2) 0 8 k) = FP.Core.val64 (voV x (m_clr 0 F (8 * 2) 8 (8 * 2 + k)) (m_clr 0 Dd (8 * 2) 8 (8 * 2 + k)))
        have c1 : m_clr 0 (V 2) 0 8 k = 0 := if_pos (by omega)
        have c2 : m_clr 0 F (8 * 2) 8 (8 * 2 + k) = 0 := if_pos (by omega)
        have c3 : m_clr 0 Dd (8 * 2) 8 (8 * 2 + k) = 0 := if_pos (by omega)
        rw [c1, c2, c3]
        unfold voV
        split
        · exact z_f2d.symm
        · rfl
    · unfold m_clr at hk ⊢
      by_cases hb : 0 ≤ k ∧ k < 0 + 8
      · rw [if_pos hb]
        exact pl_0
      · rw [if_neg hb] at hk ⊢
        exact s7 k hk
  · intro u hu hn
    refine ⟨sU_n _ _ hn, sU_n _ _ hn, fun k hk => ?_⟩
    unfold m_clr
    rw [if_neg (by omega), if_neg (by omega)]
    exact ⟨rfl, rfl⟩
  · intro u
    show -1 ≤ sU (A 13) 2 n u ∧ sU (A 13) 2 n u ≤ 8
    unfold sU
    split
    · omega
    · exact R.2.2.2.2.2.2.2.1.2.2.2 u

theorem pr_trace_o (R : (REL K It L Jd Nd J N Js Ns Jk Nk Ih Ah Ip Ap Bp Ir V M I A F Dd)) {t x n : Int} (ht : ¬ (0 ≤ t ∧ t ≤ 2)) {r7 r8 : Option Value} {w7 w8 : va_W} (h7 : (g_det (some (.int (iI (-2)))) (wTop q Y qt qd qn qs qk qh qp qr K)) r7 w7) (h8 : (fun r9 w9 => (¬ (0 ≤ t ∧ t ≤ 2) ∧ r9 = some (.int (iI (-2))) ∧ w9 = wMod qm Y I A F Dd) ∨ ((0 ≤ t ∧ t ≤ 2) ∧ ((¬ ((0 ≤ x ∧ x ≤ 1) ∧ n ≤ 8) ∧ r9 = some (.int (iI (-3))) ∧ w9 = wMod qm Y I A F Dd) ∨ (((0 ≤ x ∧ x ≤ 1) ∧ n ≤ 8) ∧ ((n < 0 ∧ r9 = some (.int (iI (-12))) ∧ w9 = wMod qm Y I A F Dd) ∨ (0 ≤ n ∧ r9 = some (.int (iI (n))) ∧ w9 = wMod qm Y I (sU (sU A 12 (sU (A 12) t.toNat x)) 13 (sU (A 13) t.toNat n)) (m_clr 0 F (8 * t.toNat) 8) (m_clr 0 Dd (8 * t.toNat) 8))))))) r8 w8) : prR q Y qt qd qn qs qk qh qp qr qm r7 r8 (w8 ++ (w7 ++ ((wText qt Y It L) ++ ((wNet qd Y Jd Nd) ++ ((wNet qn Y J N) ++ ((wNet qs Y Js Ns) ++ ((wNet (qk 0) Y (Jk 0) (Nk 0)) ++ ((wNet (qk 1) Y (Jk 1) (Nk 1)) ++ ((wHist qh Y Ih Ah) ++ ((wPlan qp Y Ip Ap Bp) ++ ((wTrace (qr 0) Y (Ir 0) (V 0) (M 0)) ++ ((wTrace (qr 1) Y (Ir 1) (V 1) (M 1)) ++ (wTrace (qr 2) Y (Ir 2) (V 2) (M 2)))))))))))))) := by
  obtain ⟨rfl, rfl⟩ := h7
  rcases h8 with ⟨-, rfl, rfl⟩ | ⟨a, -⟩
  · exact prS R pE_T
  · exact absurd a ht

theorem pr_set_o (R : (REL K It L Jd Nd J N Js Ns Jk Nk Ih Ah Ip Ap Bp Ir V M I A F Dd)) {t x i a b : Int} (ht : ¬ (0 ≤ t ∧ t ≤ 2)) {r7 r8 : Option Value} {w7 w8 : va_W} (h7 : (g_det (some (.int (iI (-2)))) (wTop q Y qt qd qn qs qk qh qp qr K)) r7 w7) (h8 : (fun r9 w9 => (¬ (0 ≤ t ∧ t ≤ 2) ∧ r9 = some (.int (iI (-2))) ∧ w9 = wMod qm Y I A F Dd) ∨ ((0 ≤ t ∧ t ≤ 2) ∧ ((¬ ((0 ≤ x ∧ x ≤ 1) ∧ (-9999 ≤ a ∧ a ≤ 9999) ∧ (-9999 ≤ b ∧ b ≤ 9999)) ∧ r9 = some (.int (iI (-3))) ∧ w9 = wMod qm Y I A F Dd) ∨ (((0 ≤ x ∧ x ≤ 1) ∧ (-9999 ≤ a ∧ a ≤ 9999) ∧ (-9999 ≤ b ∧ b ≤ 9999)) ∧ ((npV (A 13 t.toNat) (A 12 t.toNat) x i i ≠ 0 ∧ r9 = some (.int (iI (npV (A 13 t.toNat) (A 12 t.toNat) x i i))) ∧ w9 = wMod qm Y I A F Dd) ∨ (npV (A 13 t.toNat) (A 12 t.toNat) x i i = 0 ∧ ((x = 0 ∧ ∃ r : UInt32, alike32 r (FP.fdiv (FP.i2f (iI a)) (FP.i2f (iI b))) = true ∧ r9 = some (.int (iI (thV 0 r 0))) ∧ w9 = wMod qm Y I A (sU F (8 * t + i).toNat r) Dd) ∨ (x = 1 ∧ ∃ r : UInt64, alike64 r (FP.ddiv (FP.i2d (iI a)) (FP.i2d (iI b))) = true ∧ r9 = some (.int (iI (thV 1 0 r))) ∧ w9 = wMod qm Y I A F (sU Dd (8 * t + i).toNat r))))))))) r8 w8) : prR q Y qt qd qn qs qk qh qp qr qm r7 r8 (w8 ++ (w7 ++ ((wText qt Y It L) ++ ((wNet qd Y Jd Nd) ++ ((wNet qn Y J N) ++ ((wNet qs Y Js Ns) ++ ((wNet (qk 0) Y (Jk 0) (Nk 0)) ++ ((wNet (qk 1) Y (Jk 1) (Nk 1)) ++ ((wHist qh Y Ih Ah) ++ ((wPlan qp Y Ip Ap Bp) ++ ((wTrace (qr 0) Y (Ir 0) (V 0) (M 0)) ++ ((wTrace (qr 1) Y (Ir 1) (V 1) (M 1)) ++ (wTrace (qr 2) Y (Ir 2) (V 2) (M 2)))))))))))))) := by
  obtain ⟨rfl, rfl⟩ := h7
  rcases h8 with ⟨-, rfl, rfl⟩ | ⟨a, -⟩
  · exact prS R pE_T
  · exact absurd a ht

theorem pr_get_o (R : (REL K It L Jd Nd J N Js Ns Jk Nk Ih Ah Ip Ap Bp Ir V M I A F Dd)) {t x i : Int} (ht : ¬ (0 ≤ t ∧ t ≤ 2)) {r7 r8 : Option Value} {w7 w8 : va_W} (h7 : (g_det (some (.int (iI (-2)))) (wTop q Y qt qd qn qs qk qh qp qr K)) r7 w7) (h8 : (g_det (some (.int (iI (if 0 ≤ t ∧ t ≤ 2 then (if 0 ≤ x ∧ x ≤ 1 then (if npV (A 13 t.toNat) (A 12 t.toNat) x i i ≠ 0 then npV (A 13 t.toNat) (A 12 t.toNat) x i i else thV (A 12 t.toNat) (F (8 * t + i).toNat) (Dd (8 * t + i).toNat)) else -3) else -2)))) (wMod qm Y I A F Dd)) r8 w8) : prR q Y qt qd qn qs qk qh qp qr qm r7 r8 (w8 ++ (w7 ++ ((wText qt Y It L) ++ ((wNet qd Y Jd Nd) ++ ((wNet qn Y J N) ++ ((wNet qs Y Js Ns) ++ ((wNet (qk 0) Y (Jk 0) (Nk 0)) ++ ((wNet (qk 1) Y (Jk 1) (Nk 1)) ++ ((wHist qh Y Ih Ah) ++ ((wPlan qp Y Ip Ap Bp) ++ ((wTrace (qr 0) Y (Ir 0) (V 0) (M 0)) ++ ((wTrace (qr 1) Y (Ir 1) (V 1) (M 1)) ++ (wTrace (qr 2) Y (Ir 2) (V 2) (M 2)))))))))))))) := by
  obtain ⟨rfl, rfl⟩ := h7
  obtain ⟨rfl, rfl⟩ := h8
  rw [if_neg ht]
  exact prS R pE_T

theorem pr_compare_o (R : (REL K It L Jd Nd J N Js Ns Jk Nk Ih Ah Ip Ap Bp Ir V M I A F Dd)) {t x i j : Int} (ht : ¬ (0 ≤ t ∧ t ≤ 2)) {r7 r8 : Option Value} {w7 w8 : va_W} (h7 : (g_det (some (.int (iI (-2)))) (wTop q Y qt qd qn qs qk qh qp qr K)) r7 w7) (h8 : (g_det (some (.int (iI (if 0 ≤ t ∧ t ≤ 2 then (if 0 ≤ x ∧ x ≤ 1 then (if npV (A 13 t.toNat) (A 12 t.toNat) x i j ≠ 0 then npV (A 13 t.toNat) (A 12 t.toNat) x i j else cmV (voV (A 12 t.toNat) (F (8 * t + i).toNat) (Dd (8 * t + i).toNat)) (voV (A 12 t.toNat) (F (8 * t + j).toNat) (Dd (8 * t + j).toNat))) else -3) else -2)))) (wMod qm Y I A F Dd)) r8 w8) : prR q Y qt qd qn qs qk qh qp qr qm r7 r8 (w8 ++ (w7 ++ ((wText qt Y It L) ++ ((wNet qd Y Jd Nd) ++ ((wNet qn Y J N) ++ ((wNet qs Y Js Ns) ++ ((wNet (qk 0) Y (Jk 0) (Nk 0)) ++ ((wNet (qk 1) Y (Jk 1) (Nk 1)) ++ ((wHist qh Y Ih Ah) ++ ((wPlan qp Y Ip Ap Bp) ++ ((wTrace (qr 0) Y (Ir 0) (V 0) (M 0)) ++ ((wTrace (qr 1) Y (Ir 1) (V 1) (M 1)) ++ (wTrace (qr 2) Y (Ir 2) (V 2) (M 2)))))))))))))) := by
  obtain ⟨rfl, rfl⟩ := h7
  obtain ⟨rfl, rfl⟩ := h8
  rw [if_neg ht]
  exact prS R pE_T

theorem pr_rest_o (R : (REL K It L Jd Nd J N Js Ns Jk Nk Ih Ah Ip Ap Bp Ir V M I A F Dd)) {t x i j : Int} (ht : ¬ (0 ≤ t ∧ t ≤ 2)) {r7 r8 : Option Value} {w7 w8 : va_W} (h7 : (g_det (some (.int (iI (-2)))) (wTop q Y qt qd qn qs qk qh qp qr K)) r7 w7) (h8 : (fun r9 w9 => (¬ (0 ≤ t ∧ t ≤ 2) ∧ r9 = some (.int (iI (-2))) ∧ w9 = wMod qm Y I A F Dd) ∨ ((0 ≤ t ∧ t ≤ 2) ∧ ((¬ (0 ≤ x ∧ x ≤ 1) ∧ r9 = some (.int (iI (-3))) ∧ w9 = wMod qm Y I A F Dd) ∨ ((0 ≤ x ∧ x ≤ 1) ∧ ((npV (A 13 t.toNat) (A 12 t.toNat) x i j ≠ 0 ∧ r9 = some (.int (iI (npV (A 13 t.toNat) (A 12 t.toNat) x i j))) ∧ w9 = wMod qm Y I A F Dd) ∨ (npV (A 13 t.toNat) (A 12 t.toNat) x i j = 0 ∧ ((x = 0 ∧ ∃ r : UInt32, alike32 r (FP.frem (F (8 * t + i).toNat) (F (8 * t + j).toNat)) = true ∧ r9 = some (.int (iI (thV 0 r 0))) ∧ w9 = wMod qm Y I A (sU F (8 * t + i).toNat r) Dd) ∨ (x = 1 ∧ ∃ r : UInt64, alike64 r (FP.drem (Dd (8 * t + i).toNat) (Dd (8 * t + j).toNat)) = true ∧ r9 = some (.int (iI (thV 1 0 r))) ∧ w9 = wMod qm Y I A F (sU Dd (8 * t + i).toNat r))))))))) r8 w8) : prR q Y qt qd qn qs qk qh qp qr qm r7 r8 (w8 ++ (w7 ++ ((wText qt Y It L) ++ ((wNet qd Y Jd Nd) ++ ((wNet qn Y J N) ++ ((wNet qs Y Js Ns) ++ ((wNet (qk 0) Y (Jk 0) (Nk 0)) ++ ((wNet (qk 1) Y (Jk 1) (Nk 1)) ++ ((wHist qh Y Ih Ah) ++ ((wPlan qp Y Ip Ap Bp) ++ ((wTrace (qr 0) Y (Ir 0) (V 0) (M 0)) ++ ((wTrace (qr 1) Y (Ir 1) (V 1) (M 1)) ++ (wTrace (qr 2) Y (Ir 2) (V 2) (M 2)))))))))))))) := by
  obtain ⟨rfl, rfl⟩ := h7
  rcases h8 with ⟨-, rfl, rfl⟩ | ⟨a, -⟩
  · exact prS R pE_T
  · exact absurd a ht

theorem pr_sum_o (R : (REL K It L Jd Nd J N Js Ns Jk Nk Ih Ah Ip Ap Bp Ir V M I A F Dd)) {t x : Int} (ht : ¬ (0 ≤ t ∧ t ≤ 2)) {r7 r8 : Option Value} {w7 w8 : va_W} (h7 : (g_det (some (.int (iI (-2)))) (wTop q Y qt qd qn qs qk qh qp qr K)) r7 w7) (h8 : (g_det (some (.int (iI (if 0 ≤ t ∧ t ≤ 2 then (if 0 ≤ x ∧ x ≤ 1 then (if A 13 t.toNat < 0 then -11 else if x = 0 then m_cut (FP.dmul 4652007308841189376 (sumD (plV (A 12 t.toNat) t F Dd) (A 13 t.toNat).toNat)) else nonC (plV (A 12 t.toNat) t F Dd) (A 13 t.toNat).toNat) else -3) else -2)))) (wMod qm Y I A F Dd)) r8 w8) : prR q Y qt qd qn qs qk qh qp qr qm r7 r8 (w8 ++ (w7 ++ ((wText qt Y It L) ++ ((wNet qd Y Jd Nd) ++ ((wNet qn Y J N) ++ ((wNet qs Y Js Ns) ++ ((wNet (qk 0) Y (Jk 0) (Nk 0)) ++ ((wNet (qk 1) Y (Jk 1) (Nk 1)) ++ ((wHist qh Y Ih Ah) ++ ((wPlan qp Y Ip Ap Bp) ++ ((wTrace (qr 0) Y (Ir 0) (V 0) (M 0)) ++ ((wTrace (qr 1) Y (Ir 1) (V 1) (M 1)) ++ (wTrace (qr 2) Y (Ir 2) (V 2) (M 2)))))))))))))) := by
  obtain ⟨rfl, rfl⟩ := h7
  obtain ⟨rfl, rfl⟩ := h8
  rw [if_neg ht]
  exact prS R pE_T

theorem pr_drop_o (R : (REL K It L Jd Nd J N Js Ns Jk Nk Ih Ah Ip Ap Bp Ir V M I A F Dd)) {t : Int} (ht : ¬ (0 ≤ t ∧ t ≤ 2)) {r7 r8 : Option Value} {w7 w8 : va_W} (h7 : (g_det (some (.int (iI (-2)))) (wTop q Y qt qd qn qs qk qh qp qr K)) r7 w7) (h8 : (fun r9 w9 => (¬ (0 ≤ t ∧ t ≤ 2) ∧ r9 = some (.int (iI (-2))) ∧ w9 = wMod qm Y I A F Dd) ∨ ((0 ≤ t ∧ t ≤ 2) ∧ r9 = some (.int (iI (if A 13 t.toNat < 0 then -11 else A 13 t.toNat))) ∧ w9 = wMod qm Y I (sU A 13 (sU (A 13) t.toNat (-1))) F Dd)) r8 w8) : prR q Y qt qd qn qs qk qh qp qr qm r7 r8 (w8 ++ (w7 ++ ((wText qt Y It L) ++ ((wNet qd Y Jd Nd) ++ ((wNet qn Y J N) ++ ((wNet qs Y Js Ns) ++ ((wNet (qk 0) Y (Jk 0) (Nk 0)) ++ ((wNet (qk 1) Y (Jk 1) (Nk 1)) ++ ((wHist qh Y Ih Ah) ++ ((wPlan qp Y Ip Ap Bp) ++ ((wTrace (qr 0) Y (Ir 0) (V 0) (M 0)) ++ ((wTrace (qr 1) Y (Ir 1) (V 1) (M 1)) ++ (wTrace (qr 2) Y (Ir 2) (V 2) (M 2)))))))))))))) := by
  obtain ⟨rfl, rfl⟩ := h7
  rcases h8 with ⟨-, rfl, rfl⟩ | ⟨a, -⟩
  · exact prS R pE_T
  · exact absurd a ht

end
