/-! one answer, call by call: what is foretold, the text, the counts -/
section
variable {K It L : Nat → Int} {Jd : Nat → Int} {Nd : Nat → Nat → Int} {J : Nat → Int} {N : Nat → Nat → Int} {Js : Nat → Int} {Ns : Nat → Nat → Int} {Jk : Nat → Nat → Int} {Nk : Nat → Nat → Nat → Int} {Ih : Nat → Int} {Ah : Nat → Nat → Int} {Ip : Nat → Int} {Ap Bp : Nat → Nat → Int} {Ir : Nat → Nat → Int} {V : Nat → Nat → UInt64} {M : Nat → Nat → Int} {I : Nat → Int} {A : Nat → Nat → Int} {F : Nat → UInt32} {Dd : Nat → UInt64}
variable {q : Nat → Nat} {Y : Nat → ClassId} {qt qd qn qs : Nat → Nat} {qk : Nat → Nat → Nat} {qh qp : Nat → Nat} {qr : Nat → Nat → Nat} {qm : Nat → Nat}
theorem pr_least (R : (REL K It L Jd Nd J N Js Ns Jk Nk Ih Ah Ip Ap Bp Ir V M I A F Dd))  {r7 r8 : Option Value} {w7 w8 : va_W} (h7 : (fun r9 w9 => ∃ (I1 : Nat → Int) (A1 B1 : Nat → Nat → Int), w9 = ((wTop q Y qt qd qn qs qk qh qp qr K) ++ ((wNet qn Y J N) ++ (wPlan qp Y I1 A1 B1))) ∧ smI I1 ∧ smA A1 ∧ okB B1 ∧ ∃ z : Int, r9 = some (.int (iI z)) ∧ lpIs J N 1 (J 3) 999 z) r7 w7) (h8 : (fun r9 w9 => ∃ A1 : Nat → Nat → Int, w9 = wMod qm Y I A1 F Dd ∧ smA A1 ∧ kpA A A1 ∧ ∃ z : Int, r9 = some (.int (iI z)) ∧ lpIs (mJ I A) (mN A) 1 (I 7) 999 z) r8 w8) : prR q Y qt qd qn qs qk qh qp qr qm r7 r8 (w8 ++ (w7 ++ ((wText qt Y It L) ++ ((wNet qd Y Jd Nd) ++ ((wNet qs Y Js Ns) ++ ((wNet (qk 0) Y (Jk 0) (Nk 0)) ++ ((wNet (qk 1) Y (Jk 1) (Nk 1)) ++ ((wHist qh Y Ih Ah) ++ ((wTrace (qr 0) Y (Ir 0) (V 0) (M 0)) ++ ((wTrace (qr 1) Y (Ir 1) (V 1) (M 1)) ++ (wTrace (qr 2) Y (Ir 2) (V 2) (M 2)))))))))))) := by
  obtain ⟨I1, A1, B1, rfl, b1, b2, b3, z, rfl, b4⟩ := h7
  obtain ⟨A2, rfl, c1, c2, y, rfl, c3⟩ := h8
  refine prZ (R_ta (R_p R ⟨b1, b2, b3⟩) c1 c2) ?_ pE_plan
  rw [← lpIs_q (R_q R), ← (R_net R).2.2.2.1] at c3
  exact lpIs_u R.2.1.2.2.1.2.2.2.1.1 b4 c3

theorem pr_margin (R : (REL K It L Jd Nd J N Js Ns Jk Nk Ih Ah Ip Ap Bp Ir V M I A F Dd))  {r7 r8 : Option Value} {w7 w8 : va_W} (h7 : (fun r9 w9 => ∃ (I1 : Nat → Int) (A1 B1 : Nat → Nat → Int), w9 = ((wTop q Y qt qd qn qs qk qh qp qr K) ++ ((wNet qn Y J N) ++ (wPlan qp Y I1 A1 B1))) ∧ smI I1 ∧ smA A1 ∧ okB B1 ∧ ∃ z : Int, r9 = some (.int (iI z)) ∧ ∃ y : Int, z = 2000 + y ∧ mgIs J N y) r7 w7) (h8 : (fun r9 w9 => ∃ A1 : Nat → Nat → Int, w9 = wMod qm Y I A1 F Dd ∧ smA A1 ∧ kpA A A1 ∧ ∃ z : Int, r9 = some (.int (iI z)) ∧ ∃ y : Int, z = y + 2000 ∧ mgIs (mJ I A) (mN A) y) r8 w8) : prR q Y qt qd qn qs qk qh qp qr qm r7 r8 (w8 ++ (w7 ++ ((wText qt Y It L) ++ ((wNet qd Y Jd Nd) ++ ((wNet qs Y Js Ns) ++ ((wNet (qk 0) Y (Jk 0) (Nk 0)) ++ ((wNet (qk 1) Y (Jk 1) (Nk 1)) ++ ((wHist qh Y Ih Ah) ++ ((wTrace (qr 0) Y (Ir 0) (V 0) (M 0)) ++ ((wTrace (qr 1) Y (Ir 1) (V 1) (M 1)) ++ (wTrace (qr 2) Y (Ir 2) (V 2) (M 2)))))))))))) := by
  obtain ⟨I1, A1, B1, rfl, b1, b2, b3, z, rfl, b4⟩ := h7
  obtain ⟨A2, rfl, c1, c2, y, rfl, c3⟩ := h8
  obtain ⟨y1, rfl, b5⟩ := b4
  obtain ⟨y2, rfl, c4⟩ := c3
  refine prZ (R_ta (R_p R ⟨b1, b2, b3⟩) c1 c2) ?_ pE_plan
  rw [mgIs_one b5 (mgIs_q (R_q R) c4)]
  omega

theorem pr_rate (R : (REL K It L Jd Nd J N Js Ns Jk Nk Ih Ah Ip Ap Bp Ir V M I A F Dd)) {x : Int} {r7 r8 : Option Value} {w7 w8 : va_W} (h7 : (fun r9 w9 => ∃ (I1 : Nat → Int) (A1 B1 : Nat → Nat → Int), w9 = ((wTop q Y qt qd qn qs qk qh qp qr K) ++ ((wNet qn Y J N) ++ (wPlan qp Y I1 A1 B1))) ∧ smI I1 ∧ smA A1 ∧ okB B1 ∧ ∃ z : Int, r9 = some (.int (iI z)) ∧ raP J N x z) r7 w7) (h8 : (fun r9 w9 => ∃ A1 : Nat → Nat → Int, w9 = wMod qm Y I A1 F Dd ∧ smA A1 ∧ kpA A A1 ∧ ∃ z : Int, r9 = some (.int (iI z)) ∧ raM (mJ I A) (mN A) x z) r8 w8) : prR q Y qt qd qn qs qk qh qp qr qm r7 r8 (w8 ++ (w7 ++ ((wText qt Y It L) ++ ((wNet qd Y Jd Nd) ++ ((wNet qs Y Js Ns) ++ ((wNet (qk 0) Y (Jk 0) (Nk 0)) ++ ((wNet (qk 1) Y (Jk 1) (Nk 1)) ++ ((wHist qh Y Ih Ah) ++ ((wTrace (qr 0) Y (Ir 0) (V 0) (M 0)) ++ ((wTrace (qr 1) Y (Ir 1) (V 1) (M 1)) ++ (wTrace (qr 2) Y (Ir 2) (V 2) (M 2)))))))))))) := by
  obtain ⟨I1, A1, B1, rfl, b1, b2, b3, z, rfl, b4⟩ := h7
  obtain ⟨A2, rfl, c1, c2, y, rfl, c3⟩ := h8
  exact prZ (R_ta (R_p R ⟨b1, b2, b3⟩) c1 c2) (ra_u (R_q R) R.2.1.2.2.1 b4 c3) pE_plan

theorem pr_buffer (R : (REL K It L Jd Nd J N Js Ns Jk Nk Ih Ah Ip Ap Bp Ir V M I A F Dd)) {n : Int} {r7 r8 : Option Value} {w7 w8 : va_W} (h7 : (fun r9 w9 => ∃ (I1 J1 : Nat → Int) (A1 B1 N1 : Nat → Nat → Int), w9 = ((wTop q Y qt qd qn qs qk qh qp qr K) ++ ((wNet qn Y J N) ++ ((wNet qs Y J1 N1) ++ (wPlan qp Y I1 A1 B1)))) ∧ smI I1 ∧ smA A1 ∧ okB B1 ∧ smI J1 ∧ smA N1 ∧ ∃ z : Int, r9 = some (.int (iI z)) ∧ bfM J N 1000 n z) r7 w7) (h8 : (fun r9 w9 => ∃ A1 : Nat → Nat → Int, w9 = wMod qm Y I A1 F Dd ∧ smA A1 ∧ kpA A A1 ∧ ∃ z : Int, r9 = some (.int (iI z)) ∧ bfM (mJ I A) (mN A) 99999 n z) r8 w8) : prR q Y qt qd qn qs qk qh qp qr qm r7 r8 (w8 ++ (w7 ++ ((wText qt Y It L) ++ ((wNet qd Y Jd Nd) ++ ((wNet (qk 0) Y (Jk 0) (Nk 0)) ++ ((wNet (qk 1) Y (Jk 1) (Nk 1)) ++ ((wHist qh Y Ih Ah) ++ ((wTrace (qr 0) Y (Ir 0) (V 0) (M 0)) ++ ((wTrace (qr 1) Y (Ir 1) (V 1) (M 1)) ++ (wTrace (qr 2) Y (Ir 2) (V 2) (M 2))))))))))) := by
  obtain ⟨I1, J1, A1, B1, N1, rfl, b1, b2, b3, b5, b6, z, rfl, b4⟩ := h7
  obtain ⟨A2, rfl, c1, c2, y, rfl, c3⟩ := h8
  exact prZ (R_ta (R_sc (R_p R ⟨b1, b2, b3⟩) ⟨b5, b6⟩) c1 c2) (bfM_u (R_q R) R.2.1.2.2.1 b4 c3) pE_buf

theorem pr_cycle (R : (REL K It L Jd Nd J N Js Ns Jk Nk Ih Ah Ip Ap Bp Ir V M I A F Dd)) {x : Int} {r7 r8 : Option Value} {w7 w8 : va_W} (h7 : (fun r9 w9 => ∃ (I1 : Nat → Int) (A1 B1 : Nat → Nat → Int), w9 = ((wTop q Y qt qd qn qs qk qh qp qr K) ++ ((wNet qn Y J N) ++ (wPlan qp Y I1 A1 B1))) ∧ smI I1 ∧ smA A1 ∧ okB B1 ∧ ∃ z : Int, r9 = some (.int (iI z)) ∧ cyP J N Bp x z) r7 w7) (h8 : (fun r9 w9 => ∃ (I1 : Nat → Int) (A1 : Nat → Nat → Int), w9 = wMod qm Y I1 A1 F Dd ∧ smI I1 ∧ kpI I I1 ∧ smA A1 ∧ kpB A A1 ∧ ∃ z : Int, r9 = some (.int (iI z)) ∧ cyIs I A x z) r8 w8) : prR q Y qt qd qn qs qk qh qp qr qm r7 r8 (w8 ++ (w7 ++ ((wText qt Y It L) ++ ((wNet qd Y Jd Nd) ++ ((wNet qs Y Js Ns) ++ ((wNet (qk 0) Y (Jk 0) (Nk 0)) ++ ((wNet (qk 1) Y (Jk 1) (Nk 1)) ++ ((wHist qh Y Ih Ah) ++ ((wTrace (qr 0) Y (Ir 0) (V 0) (M 0)) ++ ((wTrace (qr 1) Y (Ir 1) (V 1) (M 1)) ++ (wTrace (qr 2) Y (Ir 2) (V 2) (M 2)))))))))))) := by
  obtain ⟨I1, A1, B1, rfl, b1, b2, b3, z, rfl, b4⟩ := h7
  obtain ⟨I2, A2, rfl, c1, c2, c4, c5, y, rfl, c3⟩ := h8
  exact prZ (R_tb (R_p R ⟨b1, b2, b3⟩) c1 c4 c2 c5) (cy_u (R_net R) R.2.1.2.2.1 b4 c3) pE_plan

theorem n_ts_q {J2 : Nat → Int} {N2 : Nat → Nat → Int} (h : netQ J N J2 N2) : ∀ k : Nat, (k : Int) ≤ J 5 → n_ts J N k = n_ts J2 N2 k
  | 0, _ => rfl
  | k + 1, hk => by
    obtain ⟨e6, e7, e8, e9⟩ := h.2 k (by omega)
    show n_ts J N k + _ = n_ts J2 N2 k + _
    rw [n_ts_q h k (by omega), e9, h.1.2.2.1]
theorem R_sz (R : (REL K It L Jd Nd J N Js Ns Jk Nk Ih Ah Ip Ap Bp Ir V M I A F Dd)) {t : Nat} (ht : t < 3) : sz0 (A 13 t) = Ir t 4 := by
  obtain ⟨-, -, h2, h4, h5, h6, -⟩ := R.2.2.2.2.2.2.2.2 t ht
  unfold sz0
  rcases h2 with h2 | h2
  · obtain ⟨e1, e2⟩ := h5 h2
    rw [e1, e2]
    decide
  · rw [(h6 h2).1, if_neg (by omega)]
theorem pr_count (R : (REL K It L Jd Nd J N Js Ns Jk Nk Ih Ah Ip Ap Bp Ir V M I A F Dd)) {x : Int} {r7 r8 : Option Value} {w7 w8 : va_W} (h7 : (g_det (some (.int (iI (coV J N ((Ir 0) 4 + (Ir 1) 4 + (Ir 2) 4) (Ih 3) (It 1) x)))) ((wTop q Y qt qd qn qs qk qh qp qr K) ++ ((wText qt Y It L) ++ ((wNet qn Y J N) ++ ((wHist qh Y Ih Ah) ++ ((wTrace (qr 0) Y (Ir 0) (V 0) (M 0)) ++ ((wTrace (qr 1) Y (Ir 1) (V 1) (M 1)) ++ (wTrace (qr 2) Y (Ir 2) (V 2) (M 2))))))))) r7 w7) (h8 : (g_det (some (.int (iI (coV (mJ I A) (mN A) (sz0 (A 13 0) + sz0 (A 13 1) + sz0 (A 13 2)) (I 8) (I 11) x)))) (wMod qm Y I A F Dd)) r8 w8) : prR q Y qt qd qn qs qk qh qp qr qm r7 r8 (w8 ++ (w7 ++ ((wNet qd Y Jd Nd) ++ ((wNet qs Y Js Ns) ++ ((wNet (qk 0) Y (Jk 0) (Nk 0)) ++ ((wNet (qk 1) Y (Jk 1) (Nk 1)) ++ (wPlan qp Y Ip Ap Bp))))))) := by
  obtain ⟨rfl, rfl⟩ := h7
  obtain ⟨rfl, rfl⟩ := h8
  refine prZ R ?_ pE_count
  rw [R_sz R (by decide), R_sz R (by decide), R_sz R (by decide)]
  obtain ⟨⟨e0, e1, e2, e3, e4, e5⟩, e6⟩ := R_q R
  have h5 := R.2.1.2.2.1.2.2.2.2.2.1
  unfold coV
  rw [← R.1.2.2.2.1, ← R.2.2.2.2.2.1.2.2.2.2.1, ← e0, ← e1, ← e2, ← e3, ← e4, ← e5, n_ts_q (R_q R) (J 5).toNat (by omega)]

theorem pr_write (R : (REL K It L Jd Nd J N Js Ns Jk Nk Ih Ah Ip Ap Bp Ir V M I A F Dd)) {x : Int} {r7 r8 : Option Value} {w7 w8 : va_W} (h7 : (fun r9 w9 => (¬ (0 ≤ x ∧ x ≤ 255) ∧ r9 = some (.int (iI (-3))) ∧ w9 = ((wTop q Y qt qd qn qs qk qh qp qr K) ++ (wText qt Y It L))) ∨ ((0 ≤ x ∧ x ≤ 255) ∧ ((¬ It 1 < 200 ∧ r9 = some (.int (iI (-5))) ∧ w9 = ((wTop q Y qt qd qn qs qk qh qp qr K) ++ (wText qt Y It L))) ∨ (It 1 < 200 ∧ r9 = some (.int (iI (It 1 + 1))) ∧ w9 = ((wTop q Y qt qd qn qs qk qh qp qr K) ++ (wText qt Y (sU It 1 (It 1 + 1)) (sU L (It 1).toNat x))))))) r7 w7) (h8 : (g_det (some (.int (iI (if 0 ≤ x ∧ x ≤ 255 then (if I 11 = 200 then -5 else I 11 + 1) else -3)))) (wMod qm Y (m_wrI I x) (m_wrA I A x) F Dd)) r8 w8) : prR q Y qt qd qn qs qk qh qp qr qm r7 r8 (w8 ++ (w7 ++ ((wNet qd Y Jd Nd) ++ ((wNet qn Y J N) ++ ((wNet qs Y Js Ns) ++ ((wNet (qk 0) Y (Jk 0) (Nk 0)) ++ ((wNet (qk 1) Y (Jk 1) (Nk 1)) ++ ((wHist qh Y Ih Ah) ++ ((wPlan qp Y Ip Ap Bp) ++ ((wTrace (qr 0) Y (Ir 0) (V 0) (M 0)) ++ ((wTrace (qr 1) Y (Ir 1) (V 1) (M 1)) ++ (wTrace (qr 2) Y (Ir 2) (V 2) (M 2))))))))))))) := by
  obtain ⟨rfl, rfl⟩ := h8
  have e1 := R.1.2.2.2.1
  have eL := R.1.2.2.2.2
  have h1 := R.1.2.2.1
  rcases h7 with ⟨a, rfl, rfl⟩ | ⟨a, ⟨b, rfl, rfl⟩ | ⟨b, rfl, rfl⟩⟩
  · rw [if_neg a]
    unfold m_wrI m_wrA
    rw [if_neg (by omega), if_neg (by omega)]
    exact prS R pE_text
  · rw [if_pos a, if_pos (by omega)]
    unfold m_wrI m_wrA
    rw [if_neg (by omega), if_neg (by omega)]
    exact prS R pE_text
  · rw [if_pos a, if_neg (by omega)]
    unfold m_wrI m_wrA
    rw [if_pos (by omega), if_pos (by omega)]
    refine prZ (It := sU It 1 (It 1 + 1)) (L := sU L (It 1).toNat x) (I := sU I 11 (I 11 + 1)) (A := sU A 10 (sU (A 10) (I 11).toNat x)) ?_ (by omega) pE_text
    refine ⟨⟨sm_put R.1.1 (by omega), ?_, ?_, ?_, ?_⟩, R.2.1, R.2.2.1, R.2.2.2.1, R.2.2.2.2.1, R.2.2.2.2.2.1, R.2.2.2.2.2.2.1, ⟨sm_put R.2.2.2.2.2.2.2.1.1 (by omega), sm_putA R.2.2.2.2.2.2.2.1.2.1 (sm_putR (smA_R R.2.2.2.2.2.2.2.1.2.1 10) (by omega)), R.2.2.2.2.2.2.2.1.2.2.1, R.2.2.2.2.2.2.2.1.2.2.2⟩, R.2.2.2.2.2.2.2.2⟩
    · intro j
      unfold sU
      split
      · omega
      · exact R.1.2.1 j
    · rw [sU_s]; omega
    · rw [sU_s, sU_s]; omega
    · rw [sU_s, e1, eL]

theorem pr_erase (R : (REL K It L Jd Nd J N Js Ns Jk Nk Ih Ah Ip Ap Bp Ir V M I A F Dd))  {r7 r8 : Option Value} {w7 w8 : va_W} (h7 : (g_det (some (.int (iI (It 1)))) ((wTop q Y qt qd qn qs qk qh qp qr K) ++ (wText qt Y (sU It 1 0) L))) r7 w7) (h8 : (g_det (some (.int (iI (I 11)))) (wMod qm Y (sU I 11 0) A F Dd)) r8 w8) : prR q Y qt qd qn qs qk qh qp qr qm r7 r8 (w8 ++ (w7 ++ ((wNet qd Y Jd Nd) ++ ((wNet qn Y J N) ++ ((wNet qs Y Js Ns) ++ ((wNet (qk 0) Y (Jk 0) (Nk 0)) ++ ((wNet (qk 1) Y (Jk 1) (Nk 1)) ++ ((wHist qh Y Ih Ah) ++ ((wPlan qp Y Ip Ap Bp) ++ ((wTrace (qr 0) Y (Ir 0) (V 0) (M 0)) ++ ((wTrace (qr 1) Y (Ir 1) (V 1) (M 1)) ++ (wTrace (qr 2) Y (Ir 2) (V 2) (M 2))))))))))))) := by
  obtain ⟨rfl, rfl⟩ := h7
  obtain ⟨rfl, rfl⟩ := h8
  refine prZ (It := sU It 1 0) (I := sU I 11 0) ?_ R.1.2.2.2.1 pE_text
  exact ⟨⟨sm_put R.1.1 (by decide), R.1.2.1, by rw [sU_s]; decide, by rw [sU_s, sU_s], R.1.2.2.2.2⟩, R.2.1, R.2.2.1, R.2.2.2.1, R.2.2.2.2.1, R.2.2.2.2.2.1, R.2.2.2.2.2.2.1, ⟨sm_put R.2.2.2.2.2.2.2.1.1 (by decide), R.2.2.2.2.2.2.2.1.2⟩, R.2.2.2.2.2.2.2.2⟩

theorem pr_fault (R : (REL K It L Jd Nd J N Js Ns Jk Nk Ih Ah Ip Ap Bp Ir V M I A F Dd))  {r7 r8 : Option Value} {w7 w8 : va_W} (h7 : (fun r9 w9 => ∃ (I1 J1 : Nat → Int) (N1 : Nat → Nat → Int), (smI I1 ∧ I1 1 = It 1) ∧ (smI J1 ∧ smA N1 ∧ okN J1 N1) ∧ w9 = ((wTop q Y qt qd qn qs qk qh qp qr K) ++ ((wText qt Y I1 L) ++ ((wNet qd Y Jd Nd) ++ (wNet qs Y J1 N1)))) ∧ r9 = some (.int (iI (if (rdA L (It 1) (n_cpI Js Jd) (n_cpA Ns Nd)).1 = 0 then (rdA L (It 1) (n_cpI Js Jd) (n_cpA Ns Nd)).2.1 else -1)))) r7 w7) (h8 : (fun r9 w9 => ∃ (I1 : Nat → Int) (A1 : Nat → Nat → Int), w9 = wMod qm Y I1 A1 F Dd ∧ r9 = some (.int (iI (if (rdA (A 10) (I 11) (n_cpI Js Jd) (n_cpA Ns Nd)).1 = 0 then (rdA (A 10) (I 11) (n_cpI Js Jd) (n_cpA Ns Nd)).2.1 else -1))) ∧ rdP 0 I A I1 A1 (rdA (A 10) (I 11) (n_cpI Js Jd) (n_cpA Ns Nd))) r8 w8) : prR q Y qt qd qn qs qk qh qp qr qm r7 r8 (w8 ++ (w7 ++ ((wNet qn Y J N) ++ ((wNet (qk 0) Y (Jk 0) (Nk 0)) ++ ((wNet (qk 1) Y (Jk 1) (Nk 1)) ++ ((wHist qh Y Ih Ah) ++ ((wPlan qp Y Ip Ap Bp) ++ ((wTrace (qr 0) Y (Ir 0) (V 0) (M 0)) ++ ((wTrace (qr 1) Y (Ir 1) (V 1) (M 1)) ++ (wTrace (qr 2) Y (Ir 2) (V 2) (M 2))))))))))) := by
  obtain ⟨I1, J1, N1, ⟨a1, a2⟩, ⟨b1, b2, b3⟩, rfl, rfl⟩ := h7
  obtain ⟨I2, A2, rfl, rfl, ⟨c1, c2⟩, c3, -, -, c4⟩ := h8
  have c4' := c4 rfl
  refine prZ (R_t (R_sc (R_tx R a1 a2) ⟨b1, b2⟩) c1 c2 (frR_w c3 R.2.2.2.2.2.2.2.1.2.2.1) ⟨c4'.1.1, c4'.1.2.1, c4'.1.2.2.1, c4'.1.2.2.2.1, c4'.1.2.2.2.2, c3.1.1, c3.1.2.1⟩ ⟨c4'.2.1, c4'.2.2.1, c4'.2.2.2, c3.2.1, c3.2.2.1, c3.2.2.2.1, c3.2.2.2.2.1⟩) ?_ pE_fault
  rw [R.1.2.2.2.1, R.1.2.2.2.2]

end
