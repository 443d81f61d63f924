/-! one answer, call by call: numbers of traces -/
section
variable {K It L : Nat → Int} {Jd : Nat → Int} {Nd : Nat → Nat → Int} {J : Nat → Int} {N : Nat → Nat → Int} {Js : Nat → Int} {Ns : Nat → Nat → Int} {Jk : Nat → Nat → Int} {Nk : Nat → Nat → Nat → Int} {Ih : Nat → Int} {Ah : Nat → Nat → Int} {Ip : Nat → Int} {Ap Bp : Nat → Nat → Int} {Ir : Nat → Nat → Int} {V : Nat → Nat → UInt64} {M : Nat → Nat → Int} {I : Nat → Int} {A : Nat → Nat → Int} {F : Nat → UInt32} {Dd : Nat → UInt64}
variable {q : Nat → Nat} {Y : Nat → ClassId} {qt qd qn qs : Nat → Nat} {qk : Nat → Nat → Nat} {qh qp : Nat → Nat} {qr : Nat → Nat → Nat} {qm : Nat → Nat}
theorem R_put (R : (REL K It L Jd Nd J N Js Ns Jk Nk Ih Ah Ip Ap Bp Ir V M I A F Dd)) {t i : Nat} (ht : t < 3) (hi : i < 8) (hp : Ir t 2 = 1) {v : UInt64} {m : Int} {F1 : Nat → UInt32} {D1 : Nat → UInt64} (hm : m = 0 ∨ m = 1) (hv : m = 0 → plOK v) (hpl : plR m v (voV (A 12 t) (F1 (8 * t + i)) (D1 (8 * t + i)))) (hF : ∀ j, j ≠ 8 * t + i → F1 j = F j) (hD : ∀ j, j ≠ 8 * t + i → D1 j = Dd j) : (REL K It L Jd Nd J N Js Ns Jk Nk Ih Ah Ip Ap Bp Ir (sU V t (sU (V t) i v)) (sU M t (sU (M t) i m)) I A F1 D1) := by
  obtain ⟨s1, s2, s3, s4, s5, s6, s7⟩ := R.2.2.2.2.2.2.2.2 t ht
  have h := R_r R ht (X := Ir t) (V1 := sU (V t) i v) (M1 := sU (M t) i m) (A1 := A) (F1 := F1) (D1 := D1) ?_ (fun u hu hn => ⟨rfl, rfl, fun k hk => ⟨hF _ (by omega), hD _ (by omega)⟩⟩) R.2.2.2.2.2.2.2.1.2.1 R.2.2.2.2.2.2.2.1.2.2.1 R.2.2.2.2.2.2.2.1.2.2.2 ⟨rfl, rfl, rfl, rfl, rfl⟩
  · rw [sU_id] at h
    exact h
  · refine ⟨s1, fun k => ?_, s3, s4, s5, fun e => ⟨(s6 e).1, (s6 e).2.1, (s6 e).2.2.1, fun k hk => ?_⟩, fun k hk => ?_⟩
    · unfold sU
      split
      · exact hm
      · exact s2 k
    · by_cases he : k = i
      · subst he
        rw [sU_s, sU_s]
        exact hpl
      · rw [sU_n _ _ he, sU_n _ _ he]
        dsimp only
        rw [hF (8 * t + k) (by omega), hD (8 * t + k) (by omega)]
        exact (s6 e).2.2.2 k hk
    · by_cases he : k = i
      · subst he
        rw [sU_s] at hk ⊢
        exact hv hk
      · rw [sU_n _ _ he] at hk ⊢
        exact s7 k hk
theorem pr_sum_0 (R : (REL K It L Jd Nd J N Js Ns Jk Nk Ih Ah Ip Ap Bp Ir V M I A F Dd)) {x : Int} {r7 r8 : Option Value} {w7 w8 : va_W} (h7 : (fun r9 w9 => w9 = ((wTop q Y qt qd qn qs qk qh qp qr K) ++ (wTrace (qr 0) Y (Ir 0) (V 0) (M 0))) ∧ ((¬ (0 ≤ x ∧ x ≤ 1) ∧ r9 = some (.int (iI (-3)))) ∨ ((0 ≤ x ∧ x ≤ 1) ∧ (((Ir 0) 2 = 0 ∧ r9 = some (.int (iI (-11)))) ∨ ((Ir 0) 2 ≠ 0 ∧ ((x = 0 ∧ (((∃ k : Nat, k < ((Ir 0) 4).toNat ∧ badA (V 0) (M 0) k) ∧ r9 = some (.int (iI (2000000)))) ∨ ((∀ k : Nat, k < ((Ir 0) 4).toNat → ¬ badA (V 0) (M 0) k) ∧ r9 = some (.int (iI (t_cut (FP.dmul (sumD (V 0) ((Ir 0) 4).toNat) 4652007308841189376))))))) ∨ (x ≠ 0 ∧ r9 = some (.int (iI (nnC (M 0) ((Ir 0) 4).toNat)))))))))) r7 w7) (h8 : (g_det (some (.int (iI (if 0 ≤ (0 : Int) ∧ (0 : Int) ≤ 2 then (if 0 ≤ x ∧ x ≤ 1 then (if A 13 0 < 0 then -11 else if x = 0 then m_cut (FP.dmul 4652007308841189376 (sumD (plV (A 12 0) (0 : Int) F Dd) (A 13 0).toNat)) else nonC (plV (A 12 0) (0 : Int) F Dd) (A 13 0).toNat) else -3) else -2)))) (wMod qm Y I A F Dd)) r8 w8) : prR q Y qt qd qn qs qk qh qp qr qm r7 r8 (w8 ++ (w7 ++ ((wText qt Y It L) ++ ((wNet qd Y Jd Nd) ++ ((wNet qn Y J N) ++ ((wNet qs Y Js Ns) ++ ((wNet (qk 0) Y (Jk 0) (Nk 0)) ++ ((wNet (qk 1) Y (Jk 1) (Nk 1)) ++ ((wHist qh Y Ih Ah) ++ ((wPlan qp Y Ip Ap Bp) ++ ((wTrace (qr 1) Y (Ir 1) (V 1) (M 1)) ++ (wTrace (qr 2) Y (Ir 2) (V 2) (M 2))))))))))))) := by
  have hr := R.2.2.2.2.2.2.2.2 0 (by decide)
  obtain ⟨s1, s2, s3, s4, s5, s6, s7⟩ := id hr
  obtain ⟨rfl, h7⟩ := h7
  obtain ⟨rfl, rfl⟩ := h8
  rw [if_pos (show (0 : Int) ≤ (0 : Int) ∧ (0 : Int) ≤ 2 by decide)]
  rcases h7 with ⟨c, rfl⟩ | ⟨c, h7⟩
  · rw [if_neg c]
    exact prS R pE_r0
  rw [if_pos c]
  rcases h7 with ⟨c1, rfl⟩ | ⟨c1, h7⟩
  · rw [if_pos (show A 13 0 < 0 by rw [(s5 c1).1]; decide)]
    exact prS R pE_r0
  have p1 : Ir 0 2 = 1 := s3.resolve_left c1
  obtain ⟨k1, k2, k3, k4⟩ := s6 p1
  rw [if_neg (show ¬ A 13 0 < 0 by omega), k1]
  have hp : ∀ k : Nat, k < (Ir 0 4).toNat → plR (M 0 k) (V 0 k) (plV (A 12 0) 0 F Dd k) := by
    intro k hk
    have h9 := k4 k (by omega)
    unfold plV
    have e : (8 * (0 : Int) + (k : Int)).toNat = 8 * 0 + k := by omega
    rw [e]
    exact h9
  rcases h7 with ⟨c2, h7⟩ | ⟨c2, rfl⟩
  · rw [if_pos c2]
    obtain ⟨u1, u2⟩ := sum_sum s7 (Ir 0 4).toNat (by omega) hp
    have e9 : FP.dmul 4652007308841189376 (sumD (plV (A 12 0) 0 F Dd) (Ir 0 4).toNat) = FP.dmul (sumD (plV (A 12 0) 0 F Dd) (Ir 0 4).toNat) 4652007308841189376 := FP.Core.dmul_comm _ _
    rw [e9]
    rcases h7 with ⟨c3, rfl⟩ | ⟨c3, rfl⟩
    · refine prZ R ?_ pE_r0
      rw [m_cut_nan (FP.Core.dmul_nan (Or.inl (u1 c3)))]
    · refine prZ R ?_ pE_r0
      obtain ⟨v1, v2⟩ := u2 c3
      have v3 := sInv_nn v2
      rw [v1] at v3
      rw [m_cut_t (mul_k v3)]
      refine t_cut_v ?_
      have w1 := FP.Core.val64_dmul (sumD (V 0) (Ir 0 4).toNat) 4652007308841189376
      have w2 := FP.Core.val64_dmul (sumD (plV (A 12 0) 0 F Dd) (Ir 0 4).toNat) 4652007308841189376
      rw [v1] at w1
      exact w1.trans w2.symm
  · rw [if_neg c2]
    refine prZ R ?_ pE_r0
    exact nn_non s7 _ hp

theorem pr_set_0 (R : (REL K It L Jd Nd J N Js Ns Jk Nk Ih Ah Ip Ap Bp Ir V M I A F Dd)) {x i a b : Int} {r7 r8 : Option Value} {w7 w8 : va_W} (h7 : (fun r9 w9 => (¬ ((x = 0 ∨ x = 1) ∧ (-9999 ≤ a ∧ a ≤ 9999) ∧ (-9999 ≤ b ∧ b ≤ 9999)) ∧ r9 = some (.int (iI (-3))) ∧ w9 = ((wTop q Y qt qd qn qs qk qh qp qr K) ++ (wTrace (qr 0) Y (Ir 0) (V 0) (M 0)))) ∨ (((x = 0 ∨ x = 1) ∧ (-9999 ≤ a ∧ a ≤ 9999) ∧ (-9999 ≤ b ∧ b ≤ 9999)) ∧ ((fnV ((Ir 0) 2) ((Ir 0) 3) ((Ir 0) 4) x i i ≠ -1 ∧ r9 = some (.int (iI (fnV ((Ir 0) 2) ((Ir 0) 3) ((Ir 0) 4) x i i))) ∧ w9 = ((wTop q Y qt qd qn qs qk qh qp qr K) ++ (wTrace (qr 0) Y (Ir 0) (V 0) (M 0)))) ∨ (fnV ((Ir 0) 2) ((Ir 0) 3) ((Ir 0) 4) x i i = -1 ∧ ∃ (V1 : Nat → UInt64) (M1 : Nat → Int), (((a = 0 ∧ b = 0) ∧ V1 = sU (V 0) i.toNat 0 ∧ M1 = sU (M 0) i.toNat 1) ∨ (¬ (a = 0 ∧ b = 0) ∧ (((Ir 0) 3 = 0 ∧ ∃ (m : UInt32) (r : UInt64), alike32 m (FP.fdiv (FP.i2f (iI a)) (FP.i2f (iI b))) = true ∧ alike64 r (FP.f2d m) = true ∧ V1 = sU (V 0) i.toNat r ∧ M1 = sU (M 0) i.toNat 0) ∨ ((Ir 0) 3 ≠ 0 ∧ ∃ r : UInt64, alike64 r (FP.ddiv (FP.i2d (iI a)) (FP.i2d (iI b))) = true ∧ V1 = sU (V 0) i.toNat r ∧ M1 = sU (M 0) i.toNat 0)))) ∧ w9 = ((wTop q Y qt qd qn qs qk qh qp qr K) ++ (wTrace (qr 0) Y (Ir 0) V1 M1)) ∧ r9 = some (.int (iI (taV (M1 i.toNat) ((Ir 0) 3) (V1 i.toNat)))))))) r7 w7) (h8 : (fun r9 w9 => (¬ (0 ≤ (0 : Int) ∧ (0 : Int) ≤ 2) ∧ r9 = some (.int (iI (-2))) ∧ w9 = wMod qm Y I A F Dd) ∨ ((0 ≤ (0 : Int) ∧ (0 : Int) ≤ 2) ∧ ((¬ ((0 ≤ x ∧ x ≤ 1) ∧ (-9999 ≤ a ∧ a ≤ 9999) ∧ (-9999 ≤ b ∧ b ≤ 9999)) ∧ r9 = some (.int (iI (-3))) ∧ w9 = wMod qm Y I A F Dd) ∨ (((0 ≤ x ∧ x ≤ 1) ∧ (-9999 ≤ a ∧ a ≤ 9999) ∧ (-9999 ≤ b ∧ b ≤ 9999)) ∧ ((npV (A 13 0) (A 12 0) x i i ≠ 0 ∧ r9 = some (.int (iI (npV (A 13 0) (A 12 0) x i i))) ∧ w9 = wMod qm Y I A F Dd) ∨ (npV (A 13 0) (A 12 0) x i i = 0 ∧ ((x = 0 ∧ ∃ r : UInt32, alike32 r (FP.fdiv (FP.i2f (iI a)) (FP.i2f (iI b))) = true ∧ r9 = some (.int (iI (thV 0 r 0))) ∧ w9 = wMod qm Y I A (sU F (8 * (0 : Int) + i).toNat r) Dd) ∨ (x = 1 ∧ ∃ r : UInt64, alike64 r (FP.ddiv (FP.i2d (iI a)) (FP.i2d (iI b))) = true ∧ r9 = some (.int (iI (thV 1 0 r))) ∧ w9 = wMod qm Y I A F (sU Dd (8 * (0 : Int) + i).toNat r))))))))) r8 w8) : prR q Y qt qd qn qs qk qh qp qr qm r7 r8 (w8 ++ (w7 ++ ((wText qt Y It L) ++ ((wNet qd Y Jd Nd) ++ ((wNet qn Y J N) ++ ((wNet qs Y Js Ns) ++ ((wNet (qk 0) Y (Jk 0) (Nk 0)) ++ ((wNet (qk 1) Y (Jk 1) (Nk 1)) ++ ((wHist qh Y Ih Ah) ++ ((wPlan qp Y Ip Ap Bp) ++ ((wTrace (qr 1) Y (Ir 1) (V 1) (M 1)) ++ (wTrace (qr 2) Y (Ir 2) (V 2) (M 2))))))))))))) := by
  have hr := R.2.2.2.2.2.2.2.2 0 (by decide)
  obtain ⟨s1, s2, s3, s4, s5, s6, s7⟩ := id hr
  rcases h8 with ⟨d, -⟩ | ⟨-, h8⟩
  · exact absurd (by decide) d
  rcases h7 with ⟨c, rfl, rfl⟩ | ⟨c, h7⟩
  · rcases h8 with ⟨d, rfl, rfl⟩ | ⟨d, -⟩
    · exact prS R pE_r0
    · omega
  rcases h8 with ⟨d, -⟩ | ⟨d, h8⟩
  · omega
  obtain ⟨f1, f2⟩ := fn_np hr x i i
  rw [f1] at h7
  by_cases hp : npV (A 13 0) (A 12 0) x i i = 0
  case neg =>
    rw [if_neg hp] at h7
    rcases h7 with ⟨-, rfl, rfl⟩ | ⟨c1, -⟩
    · rcases h8 with ⟨d1, rfl, rfl⟩ | ⟨d1, -⟩
      · exact prS R pE_r0
      · exact absurd d1 hp
    · exact absurd c1 np_ne
  rw [if_pos hp] at h7
  rcases h7 with ⟨c1, -⟩ | ⟨-, V1, M1, h7, rfl, rfl⟩
  · exact absurd rfl c1
  rcases h8 with ⟨d1, -⟩ | ⟨-, h8⟩
  · exact absurd hp d1
  obtain ⟨g1, g2, g3, -⟩ := f2 hp
  obtain ⟨k1, k2, k3, k4⟩ := s6 g1
  have hi8 : i.toNat < 8 := by omega
  have ei : (8 * (0 : Int) + i).toNat = 8 * 0 + i.toNat := by omega
  rw [ei] at h8
  rw [k2, g2] at h7 ⊢
  rcases h8 with ⟨hx0, r, hr1, rfl, rfl⟩ | ⟨hx1, r, hr1, rfl, rfl⟩
  · have hr2 := al32_v hr1
    have hpl : ∃ (v : UInt64) (m : Int), V1 = sU (V 0) i.toNat v ∧ M1 = sU (M 0) i.toNat m ∧ (m = 0 ∨ m = 1) ∧ (m = 0 → plOK v) ∧ ∀ dd, plR m v (voV 0 r dd) := by
      rcases h7 with ⟨⟨a0, b0⟩, e1, e2⟩ | ⟨hab, ⟨-, m1, r1, w1, w2, e1, e2⟩ | ⟨hne, -⟩⟩
      · refine ⟨0, 1, e1, e2, Or.inr rfl, fun e => absurd e (by decide), fun dd => Or.inl ⟨by decide, ?_⟩⟩
        show FP.Core.val64 (FP.f2d r) = .nan
        rw [a0, b0] at hr2
        exact f2d_nn.mpr (hr2.trans div_00.2)
      · have q1 := al32_v w1
        have q2 := al64_v w2
        refine ⟨r1, 0, e1, e2, Or.inl rfl, fun _ => pl_fdiv (m := m1) c.2.1 c.2.2 hab q1 q2, fun dd => Or.inr ⟨rfl, ?_⟩⟩
        show FP.Core.val64 r1 = FP.Core.val64 (FP.f2d r)
        rw [q2]
        exact f2d_v (q1.trans hr2.symm)
      · exact absurd hx0 hne
    obtain ⟨v, m, rfl, rfl, hm, hv, hpl⟩ := hpl
    subst hx0
    refine prZ (R_put R (t := 0) (i := i.toNat) (by decide) hi8 g1 (v := v) (m := m) (F1 := sU F (8 * 0 + i.toNat) r) (D1 := Dd) hm hv ?_ (fun j hj => sU_n _ _ hj) (fun j hj => rfl)) ?_ pE_r0
    · rw [g2, sU_s]
      exact hpl _
    · rw [sU_s, sU_s]
      exact ta_th (Or.inl rfl) (hpl 0) hv
  · have hr2 := al64_v hr1
    have hpl : ∃ (v : UInt64) (m : Int), V1 = sU (V 0) i.toNat v ∧ M1 = sU (M 0) i.toNat m ∧ (m = 0 ∨ m = 1) ∧ (m = 0 → plOK v) ∧ ∀ ff, plR m v (voV 1 ff r) := by
      rcases h7 with ⟨⟨a0, b0⟩, e1, e2⟩ | ⟨hab, ⟨hne, -⟩ | ⟨-, r1, w2, e1, e2⟩⟩
      · refine ⟨0, 1, e1, e2, Or.inr rfl, fun e => absurd e (by decide), fun ff => Or.inl ⟨by decide, ?_⟩⟩
        show FP.Core.val64 r = .nan
        rw [a0, b0] at hr2
        exact hr2.trans div_00.1
      · omega
      · have q2 := al64_v w2
        refine ⟨r1, 0, e1, e2, Or.inl rfl, fun _ => pl_ddiv c.2.1 c.2.2 hab q2, fun ff => Or.inr ⟨rfl, ?_⟩⟩
        show FP.Core.val64 r1 = FP.Core.val64 r
        rw [q2, hr2]
    obtain ⟨v, m, rfl, rfl, hm, hv, hpl⟩ := hpl
    subst hx1
    refine prZ (R_put R (t := 0) (i := i.toNat) (by decide) hi8 g1 (v := v) (m := m) (F1 := F) (D1 := sU Dd (8 * 0 + i.toNat) r) hm hv ?_ (fun j hj => rfl) (fun j hj => sU_n _ _ hj)) ?_ pE_r0
    · rw [g2, sU_s]
      exact hpl _
    · rw [sU_s, sU_s]
      exact ta_th (Or.inr rfl) (hpl 0) hv

theorem pr_rest_0 (R : (REL K It L Jd Nd J N Js Ns Jk Nk Ih Ah Ip Ap Bp Ir V M I A F Dd)) {x i j : Int} {r7 r8 : Option Value} {w7 w8 : va_W} (h7 : (fun r9 w9 => ((trV ((Ir 0) 2) ((Ir 0) 3) ((Ir 0) 4) x i j) ≠ -1 ∧ r9 = some (.int (iI ((trV ((Ir 0) 2) ((Ir 0) 3) ((Ir 0) 4) x i j)))) ∧ w9 = ((wTop q Y qt qd qn qs qk qh qp qr K) ++ (wTrace (qr 0) Y (Ir 0) (V 0) (M 0)))) ∨ ((trV ((Ir 0) 2) ((Ir 0) 3) ((Ir 0) 4) x i j) = -1 ∧ ∃ (V1 : Nat → UInt64) (M1 : Nat → Int), ((¬ goodR (V 0) (M 0) i.toNat j.toNat ∧ V1 = sU (V 0) i.toNat 0 ∧ M1 = sU (M 0) i.toNat 1) ∨ (goodR (V 0) (M 0) i.toNat j.toNat ∧ V1 = sU (V 0) i.toNat (FP.drem ((V 0) i.toNat) ((V 0) j.toNat)) ∧ M1 = sU (M 0) i.toNat 0)) ∧ w9 = ((wTop q Y qt qd qn qs qk qh qp qr K) ++ (wTrace (qr 0) Y (Ir 0) V1 M1)) ∧ r9 = some (.int (iI (taV (M1 i.toNat) ((Ir 0) 3) (V1 i.toNat)))))) r7 w7) (h8 : (fun r9 w9 => (¬ (0 ≤ (0 : Int) ∧ (0 : Int) ≤ 2) ∧ r9 = some (.int (iI (-2))) ∧ w9 = wMod qm Y I A F Dd) ∨ ((0 ≤ (0 : Int) ∧ (0 : Int) ≤ 2) ∧ ((¬ (0 ≤ x ∧ x ≤ 1) ∧ r9 = some (.int (iI (-3))) ∧ w9 = wMod qm Y I A F Dd) ∨ ((0 ≤ x ∧ x ≤ 1) ∧ ((npV (A 13 0) (A 12 0) x i j ≠ 0 ∧ r9 = some (.int (iI (npV (A 13 0) (A 12 0) x i j))) ∧ w9 = wMod qm Y I A F Dd) ∨ (npV (A 13 0) (A 12 0) x i j = 0 ∧ ((x = 0 ∧ ∃ r : UInt32, alike32 r (FP.frem (F (8 * (0 : Int) + i).toNat) (F (8 * (0 : Int) + j).toNat)) = true ∧ r9 = some (.int (iI (thV 0 r 0))) ∧ w9 = wMod qm Y I A (sU F (8 * (0 : Int) + i).toNat r) Dd) ∨ (x = 1 ∧ ∃ r : UInt64, alike64 r (FP.drem (Dd (8 * (0 : Int) + i).toNat) (Dd (8 * (0 : Int) + j).toNat)) = true ∧ r9 = some (.int (iI (thV 1 0 r))) ∧ w9 = wMod qm Y I A F (sU Dd (8 * (0 : Int) + i).toNat r))))))))) r8 w8) : prR q Y qt qd qn qs qk qh qp qr qm r7 r8 (w8 ++ (w7 ++ ((wText qt Y It L) ++ ((wNet qd Y Jd Nd) ++ ((wNet qn Y J N) ++ ((wNet qs Y Js Ns) ++ ((wNet (qk 0) Y (Jk 0) (Nk 0)) ++ ((wNet (qk 1) Y (Jk 1) (Nk 1)) ++ ((wHist qh Y Ih Ah) ++ ((wPlan qp Y Ip Ap Bp) ++ ((wTrace (qr 1) Y (Ir 1) (V 1) (M 1)) ++ (wTrace (qr 2) Y (Ir 2) (V 2) (M 2))))))))))))) := by
  have hr := R.2.2.2.2.2.2.2.2 0 (by decide)
  obtain ⟨s1, s2, s3, s4, s5, s6, s7⟩ := id hr
  rcases h8 with ⟨d, -⟩ | ⟨-, h8⟩
  · exact absurd (by decide) d
  by_cases hx : x = 0 ∨ x = 1
  case neg =>
    have e : trV (Ir 0 2) (Ir 0 3) (Ir 0 4) x i j = -3 := if_neg hx
    rw [e] at h7
    rcases h7 with ⟨-, rfl, rfl⟩ | ⟨c, -⟩
    · rcases h8 with ⟨-, rfl, rfl⟩ | ⟨d, -⟩
      · exact prS R pE_r0
      · omega
    · exact absurd c (by decide)
  rcases h8 with ⟨d, -⟩ | ⟨d, h8⟩
  · omega
  have e : trV (Ir 0 2) (Ir 0 3) (Ir 0 4) x i j = fnV (Ir 0 2) (Ir 0 3) (Ir 0 4) x i j := if_pos hx
  obtain ⟨f1, f2⟩ := fn_np hr x i j
  rw [e, f1] at h7
  by_cases hp : npV (A 13 0) (A 12 0) x i j = 0
  case neg =>
    rw [if_neg hp] at h7
    rcases h7 with ⟨-, rfl, rfl⟩ | ⟨c1, -⟩
    · rcases h8 with ⟨d1, rfl, rfl⟩ | ⟨d1, -⟩
      · exact prS R pE_r0
      · exact absurd d1 hp
    · exact absurd c1 np_ne
  rw [if_pos hp] at h7
  rcases h7 with ⟨c1, -⟩ | ⟨-, V1, M1, h7, rfl, rfl⟩
  · exact absurd rfl c1
  rcases h8 with ⟨d1, -⟩ | ⟨-, h8⟩
  · exact absurd hp d1
  obtain ⟨g1, g2, g3, g4⟩ := f2 hp
  obtain ⟨k1, k2, k3, k4⟩ := s6 g1
  have hi8 : i.toNat < 8 := by omega
  have hj8 : j.toNat < 8 := by omega
  have ei : (8 * (0 : Int) + i).toNat = 8 * 0 + i.toNat := by omega
  have ej : (8 * (0 : Int) + j).toNat = 8 * 0 + j.toNat := by omega
  rw [ei, ej] at h8
  rw [k2, g2]
  have pi := k4 i.toNat hi8
  have pj := k4 j.toNat hj8
  dsimp only at pi pj
  rw [g2] at pi pj
  rcases h8 with ⟨hx0, r, hr1, rfl, rfl⟩ | ⟨hx1, r, hr1, rfl, rfl⟩
  · subst hx0
    have hr2 := al32_v hr1
    have hpl : ∃ (v : UInt64) (m : Int), V1 = sU (V 0) i.toNat v ∧ M1 = sU (M 0) i.toNat m ∧ (m = 0 ∨ m = 1) ∧ (m = 0 → plOK v) ∧ ∀ dd, plR m v (voV 0 r dd) := by
      rcases h7 with ⟨hg, e1, e2⟩ | ⟨hg, e1, e2⟩
      · refine ⟨0, 1, e1, e2, Or.inr rfl, fun e => absurd e (by decide), fun dd => Or.inl ⟨by decide, ?_⟩⟩
        show FP.Core.val64 (FP.f2d r) = .nan
        exact f2d_nn.mpr (hr2.trans ((not_good (Or.inl rfl) pi pj (s7 _) (s7 _) hg).1 rfl))
      · obtain ⟨m1, m2, m3, m4⟩ := hg
        refine ⟨_, 0, e1, e2, Or.inl rfl, fun _ => pl_rem (s7 _ m1) m3 (s7 _ m2) m4, fun dd => Or.inr ⟨rfl, ?_⟩⟩
        show FP.Core.val64 (FP.drem (V 0 i.toNat) (V 0 j.toNat)) = FP.Core.val64 (FP.f2d r)
        rcases pi with ⟨z, -⟩ | ⟨-, pi⟩
        · exact absurd m1 z
        rcases pj with ⟨z, -⟩ | ⟨-, pj⟩
        · exact absurd m2 z
        have ni := plOK_nn (s7 _ m1)
        have nj := plOK_nn (s7 _ m2)
        have ti : V 0 i.toNat = FP.f2d (F (8 * 0 + i.toNat)) := FP.Core.val64_inj ni pi
        have tj : V 0 j.toNat = FP.f2d (F (8 * 0 + j.toNat)) := FP.Core.val64_inj nj pj
        rw [ti, tj, f2d_v hr2]
        rw [ti] at ni m3
        rw [tj] at nj m4
        cases hf : FP.Core.val32 (F (8 * 0 + i.toNat)) with
        | nan => exact absurd (f2d_nn.mpr hf) ni
        | inf b => exact absurd (endV_inf (f2d_inf hf)) m3
        | fin b c q =>
          refine frem_d hf (fun z => nj (f2d_nn.mpr z)) fun b2 q2 z => m4 ?_
          have p5 := pF_z (f2d_pF z)
          rw [(iu_0 (c := 0)).mpr rfl, Nat.zero_mul] at p5
          rw [dcV_z nj nn_0, zz_0, p5]
          cases b2 <;> decide
    obtain ⟨v, m, rfl, rfl, hm, hv, hpl⟩ := hpl
    refine prZ (R_put R (t := 0) (i := i.toNat) (by decide) hi8 g1 (v := v) (m := m) (F1 := sU F (8 * 0 + i.toNat) r) (D1 := Dd) hm hv ?_ (fun j hj => sU_n _ _ hj) (fun j hj => rfl)) ?_ pE_r0
    · rw [g2, sU_s]
      exact hpl _
    · rw [sU_s, sU_s]
      exact ta_th (Or.inl rfl) (hpl 0) hv
  · subst hx1
    have hr2 := al64_v hr1
    have hpl : ∃ (v : UInt64) (m : Int), V1 = sU (V 0) i.toNat v ∧ M1 = sU (M 0) i.toNat m ∧ (m = 0 ∨ m = 1) ∧ (m = 0 → plOK v) ∧ ∀ ff, plR m v (voV 1 ff r) := by
      rcases h7 with ⟨hg, e1, e2⟩ | ⟨hg, e1, e2⟩
      · refine ⟨0, 1, e1, e2, Or.inr rfl, fun e => absurd e (by decide), fun ff => Or.inl ⟨by decide, ?_⟩⟩
        show FP.Core.val64 r = .nan
        exact hr2.trans ((not_good (Or.inr rfl) pi pj (s7 _) (s7 _) hg).2 rfl)
      · obtain ⟨m1, m2, m3, m4⟩ := hg
        refine ⟨_, 0, e1, e2, Or.inl rfl, fun _ => pl_rem (s7 _ m1) m3 (s7 _ m2) m4, fun ff => Or.inr ⟨rfl, ?_⟩⟩
        show FP.Core.val64 (FP.drem (V 0 i.toNat) (V 0 j.toNat)) = FP.Core.val64 r
        rcases pi with ⟨z, -⟩ | ⟨-, pi⟩
        · exact absurd m1 z
        rcases pj with ⟨z, -⟩ | ⟨-, pj⟩
        · exact absurd m2 z
        have ti : V 0 i.toNat = Dd (8 * 0 + i.toNat) := FP.Core.val64_inj (plOK_nn (s7 _ m1)) pi
        have tj : V 0 j.toNat = Dd (8 * 0 + j.toNat) := FP.Core.val64_inj (plOK_nn (s7 _ m2)) pj
        rw [ti, tj, hr2]
    obtain ⟨v, m, rfl, rfl, hm, hv, hpl⟩ := hpl
    refine prZ (R_put R (t := 0) (i := i.toNat) (by decide) hi8 g1 (v := v) (m := m) (F1 := F) (D1 := sU Dd (8 * 0 + i.toNat) r) hm hv ?_ (fun j hj => rfl) (fun j hj => sU_n _ _ hj)) ?_ pE_r0
    · rw [g2, sU_s]
      exact hpl _
    · rw [sU_s, sU_s]
      exact ta_th (Or.inr rfl) (hpl 0) hv

theorem pr_sum_1 (R : (REL K It L Jd Nd J N Js Ns Jk Nk Ih Ah Ip Ap Bp Ir V M I A F Dd)) {x : Int} {r7 r8 : Option Value} {w7 w8 : va_W} (h7 : (fun r9 w9 => w9 = ((wTop q Y qt qd qn qs qk qh qp qr K) ++ (wTrace (qr 1) Y (Ir 1) (V 1) (M 1))) ∧ ((¬ (0 ≤ x ∧ x ≤ 1) ∧ r9 = some (.int (iI (-3)))) ∨ ((0 ≤ x ∧ x ≤ 1) ∧ (((Ir 1) 2 = 0 ∧ r9 = some (.int (iI (-11)))) ∨ ((Ir 1) 2 ≠ 0 ∧ ((x = 0 ∧ (((∃ k : Nat, k < ((Ir 1) 4).toNat ∧ badA (V 1) (M 1) k) ∧ r9 = some (.int (iI (2000000)))) ∨ ((∀ k : Nat, k < ((Ir 1) 4).toNat → ¬ badA (V 1) (M 1) k) ∧ r9 = some (.int (iI (t_cut (FP.dmul (sumD (V 1) ((Ir 1) 4).toNat) 4652007308841189376))))))) ∨ (x ≠ 0 ∧ r9 = some (.int (iI (nnC (M 1) ((Ir 1) 4).toNat)))))))))) r7 w7) (h8 : (g_det (some (.int (iI (if 0 ≤ (1 : Int) ∧ (1 : Int) ≤ 2 then (if 0 ≤ x ∧ x ≤ 1 then (if A 13 1 < 0 then -11 else if x = 0 then m_cut (FP.dmul 4652007308841189376 (sumD (plV (A 12 1) (1 : Int) F Dd) (A 13 1).toNat)) else nonC (plV (A 12 1) (1 : Int) F Dd) (A 13 1).toNat) else -3) else -2)))) (wMod qm Y I A F Dd)) r8 w8) : prR q Y qt qd qn qs qk qh qp qr qm r7 r8 (w8 ++ (w7 ++ ((wText qt Y It L) ++ ((wNet qd Y Jd Nd) ++ ((wNet qn Y J N) ++ ((wNet qs Y Js Ns) ++ ((wNet (qk 0) Y (Jk 0) (Nk 0)) ++ ((wNet (qk 1) Y (Jk 1) (Nk 1)) ++ ((wHist qh Y Ih Ah) ++ ((wPlan qp Y Ip Ap Bp) ++ ((wTrace (qr 0) Y (Ir 0) (V 0) (M 0)) ++ (wTrace (qr 2) Y (Ir 2) (V 2) (M 2))))))))))))) := by
  have hr := R.2.2.2.2.2.2.2.2 1 (by decide)
  obtain ⟨s1, s2, s3, s4, s5, s6, s7⟩ := id hr
  obtain ⟨rfl, h7⟩ := h7
  obtain ⟨rfl, rfl⟩ := h8
  rw [if_pos (show (0 : Int) ≤ (1 : Int) ∧ (1 : Int) ≤ 2 by decide)]
  rcases h7 with ⟨c, rfl⟩ | ⟨c, h7⟩
  · rw [if_neg c]
    exact prS R pE_r1
  rw [if_pos c]
  rcases h7 with ⟨c1, rfl⟩ | ⟨c1, h7⟩
  · rw [if_pos (show A 13 1 < 0 by rw [(s5 c1).1]; decide)]
    exact prS R pE_r1
  have p1 : Ir 1 2 = 1 := s3.resolve_left c1
  obtain ⟨k1, k2, k3, k4⟩ := s6 p1
  rw [if_neg (show ¬ A 13 1 < 0 by omega), k1]
  have hp : ∀ k : Nat, k < (Ir 1 4).toNat → plR (M 1 k) (V 1 k) (plV (A 12 1) 1 F Dd k) := by
    intro k hk
    have h9 := k4 k (by omega)
    unfold plV
    have e : (8 * (1 : Int) + (k : Int)).toNat = 8 * 1 + k := by omega
    rw [e]
    exact h9
  rcases h7 with ⟨c2, h7⟩ | ⟨c2, rfl⟩
  · rw [if_pos c2]
    obtain ⟨u1, u2⟩ := sum_sum s7 (Ir 1 4).toNat (by omega) hp
    have e9 : FP.dmul 4652007308841189376 (sumD (plV (A 12 1) 1 F Dd) (Ir 1 4).toNat) = FP.dmul (sumD (plV (A 12 1) 1 F Dd) (Ir 1 4).toNat) 4652007308841189376 := FP.Core.dmul_comm _ _
    rw [e9]
    rcases h7 with ⟨c3, rfl⟩ | ⟨c3, rfl⟩
    · refine prZ R ?_ pE_r1
      rw [m_cut_nan (FP.Core.dmul_nan (Or.inl (u1 c3)))]
    · refine prZ R ?_ pE_r1
      obtain ⟨v1, v2⟩ := u2 c3
      have v3 := sInv_nn v2
      rw [v1] at v3
      rw [m_cut_t (mul_k v3)]
      refine t_cut_v ?_
      have w1 := FP.Core.val64_dmul (sumD (V 1) (Ir 1 4).toNat) 4652007308841189376
      have w2 := FP.Core.val64_dmul (sumD (plV (A 12 1) 1 F Dd) (Ir 1 4).toNat) 4652007308841189376
      rw [v1] at w1
      exact w1.trans w2.symm
  · rw [if_neg c2]
    refine prZ R ?_ pE_r1
    exact nn_non s7 _ hp

theorem pr_set_1 (R : (REL K It L Jd Nd J N Js Ns Jk Nk Ih Ah Ip Ap Bp Ir V M I A F Dd)) {x i a b : Int} {r7 r8 : Option Value} {w7 w8 : va_W} (h7 : (fun r9 w9 => (¬ ((x = 0 ∨ x = 1) ∧ (-9999 ≤ a ∧ a ≤ 9999) ∧ (-9999 ≤ b ∧ b ≤ 9999)) ∧ r9 = some (.int (iI (-3))) ∧ w9 = ((wTop q Y qt qd qn qs qk qh qp qr K) ++ (wTrace (qr 1) Y (Ir 1) (V 1) (M 1)))) ∨ (((x = 0 ∨ x = 1) ∧ (-9999 ≤ a ∧ a ≤ 9999) ∧ (-9999 ≤ b ∧ b ≤ 9999)) ∧ ((fnV ((Ir 1) 2) ((Ir 1) 3) ((Ir 1) 4) x i i ≠ -1 ∧ r9 = some (.int (iI (fnV ((Ir 1) 2) ((Ir 1) 3) ((Ir 1) 4) x i i))) ∧ w9 = ((wTop q Y qt qd qn qs qk qh qp qr K) ++ (wTrace (qr 1) Y (Ir 1) (V 1) (M 1)))) ∨ (fnV ((Ir 1) 2) ((Ir 1) 3) ((Ir 1) 4) x i i = -1 ∧ ∃ (V1 : Nat → UInt64) (M1 : Nat → Int), (((a = 0 ∧ b = 0) ∧ V1 = sU (V 1) i.toNat 0 ∧ M1 = sU (M 1) i.toNat 1) ∨ (¬ (a = 0 ∧ b = 0) ∧ (((Ir 1) 3 = 0 ∧ ∃ (m : UInt32) (r : UInt64), alike32 m (FP.fdiv (FP.i2f (iI a)) (FP.i2f (iI b))) = true ∧ alike64 r (FP.f2d m) = true ∧ V1 = sU (V 1) i.toNat r ∧ M1 = sU (M 1) i.toNat 0) ∨ ((Ir 1) 3 ≠ 0 ∧ ∃ r : UInt64, alike64 r (FP.ddiv (FP.i2d (iI a)) (FP.i2d (iI b))) = true ∧ V1 = sU (V 1) i.toNat r ∧ M1 = sU (M 1) i.toNat 0)))) ∧ w9 = ((wTop q Y qt qd qn qs qk qh qp qr K) ++ (wTrace (qr 1) Y (Ir 1) V1 M1)) ∧ r9 = some (.int (iI (taV (M1 i.toNat) ((Ir 1) 3) (V1 i.toNat)))))))) r7 w7) (h8 : (fun r9 w9 => (¬ (0 ≤ (1 : Int) ∧ (1 : Int) ≤ 2) ∧ r9 = some (.int (iI (-2))) ∧ w9 = wMod qm Y I A F Dd) ∨ ((0 ≤ (1 : Int) ∧ (1 : Int) ≤ 2) ∧ ((¬ ((0 ≤ x ∧ x ≤ 1) ∧ (-9999 ≤ a ∧ a ≤ 9999) ∧ (-9999 ≤ b ∧ b ≤ 9999)) ∧ r9 = some (.int (iI (-3))) ∧ w9 = wMod qm Y I A F Dd) ∨ (((0 ≤ x ∧ x ≤ 1) ∧ (-9999 ≤ a ∧ a ≤ 9999) ∧ (-9999 ≤ b ∧ b ≤ 9999)) ∧ ((npV (A 13 1) (A 12 1) x i i ≠ 0 ∧ r9 = some (.int (iI (npV (A 13 1) (A 12 1) x i i))) ∧ w9 = wMod qm Y I A F Dd) ∨ (npV (A 13 1) (A 12 1) x i i = 0 ∧ ((x = 0 ∧ ∃ r : UInt32, alike32 r (FP.fdiv (FP.i2f (iI a)) (FP.i2f (iI b))) = true ∧ r9 = some (.int (iI (thV 0 r 0))) ∧ w9 = wMod qm Y I A (sU F (8 * (1 : Int) + i).toNat r) Dd) ∨ (x = 1 ∧ ∃ r : UInt64, alike64 r (FP.ddiv (FP.i2d (iI a)) (FP.i2d (iI b))) = true ∧ r9 = some (.int (iI (thV 1 0 r))) ∧ w9 = wMod qm Y I A F (sU Dd (8 * (1 : Int) + i).toNat r))))))))) r8 w8) : prR q Y qt qd qn qs qk qh qp qr qm r7 r8 (w8 ++ (w7 ++ ((wText qt Y It L) ++ ((wNet qd Y Jd Nd) ++ ((wNet qn Y J N) ++ ((wNet qs Y Js Ns) ++ ((wNet (qk 0) Y (Jk 0) (Nk 0)) ++ ((wNet (qk 1) Y (Jk 1) (Nk 1)) ++ ((wHist qh Y Ih Ah) ++ ((wPlan qp Y Ip Ap Bp) ++ ((wTrace (qr 0) Y (Ir 0) (V 0) (M 0)) ++ (wTrace (qr 2) Y (Ir 2) (V 2) (M 2))))))))))))) := by
  have hr := R.2.2.2.2.2.2.2.2 1 (by decide)
  obtain ⟨s1, s2, s3, s4, s5, s6, s7⟩ := id hr
  rcases h8 with ⟨d, -⟩ | ⟨-, h8⟩
  · exact absurd (by decide) d
  rcases h7 with ⟨c, rfl, rfl⟩ | ⟨c, h7⟩
  · rcases h8 with ⟨d, rfl, rfl⟩ | ⟨d, -⟩
    · exact prS R pE_r1
    · omega
  rcases h8 with ⟨d, -⟩ | ⟨d, h8⟩
  · omega
  obtain ⟨f1, f2⟩ := fn_np hr x i i
  rw [f1] at h7
  by_cases hp : npV (A 13 1) (A 12 1) x i i = 0
  case neg =>
    rw [if_neg hp] at h7
    rcases h7 with ⟨-, rfl, rfl⟩ | ⟨c1, -⟩
    · rcases h8 with ⟨d1, rfl, rfl⟩ | ⟨d1, -⟩
      · exact prS R pE_r1
      · exact absurd d1 hp
    · exact absurd c1 np_ne
  rw [if_pos hp] at h7
  rcases h7 with ⟨c1, -⟩ | ⟨-, V1, M1, h7, rfl, rfl⟩
  · exact absurd rfl c1
  rcases h8 with ⟨d1, -⟩ | ⟨-, h8⟩
  · exact absurd hp d1
  obtain ⟨g1, g2, g3, -⟩ := f2 hp
  obtain ⟨k1, k2, k3, k4⟩ := s6 g1
  have hi8 : i.toNat < 8 := by omega
  have ei : (8 * (1 : Int) + i).toNat = 8 * 1 + i.toNat := by omega
  rw [ei] at h8
  rw [k2, g2] at h7 ⊢
  rcases h8 with ⟨hx0, r, hr1, rfl, rfl⟩ | ⟨hx1, r, hr1, rfl, rfl⟩
  · have hr2 := al32_v hr1
    have hpl : ∃ (v : UInt64) (m : Int), V1 = sU (V 1) i.toNat v ∧ M1 = sU (M 1) i.toNat m ∧ (m = 0 ∨ m = 1) ∧ (m = 0 → plOK v) ∧ ∀ dd, plR m v (voV 0 r dd) := by
      rcases h7 with ⟨⟨a0, b0⟩, e1, e2⟩ | ⟨hab, ⟨-, m1, r1, w1, w2, e1, e2⟩ | ⟨hne, -⟩⟩
      · refine ⟨0, 1, e1, e2, Or.inr rfl, fun e => absurd e (by decide), fun dd => Or.inl ⟨by decide, ?_⟩⟩
        show FP.Core.val64 (FP.f2d r) = .nan
        rw [a0, b0] at hr2
        exact f2d_nn.mpr (hr2.trans div_00.2)
      · have q1 := al32_v w1
        have q2 := al64_v w2
        refine ⟨r1, 0, e1, e2, Or.inl rfl, fun _ => pl_fdiv (m := m1) c.2.1 c.2.2 hab q1 q2, fun dd => Or.inr ⟨rfl, ?_⟩⟩
        show FP.Core.val64 r1 = FP.Core.val64 (FP.f2d r)
        rw [q2]
        exact f2d_v (q1.trans hr2.symm)
      · exact absurd hx0 hne
    obtain ⟨v, m, rfl, rfl, hm, hv, hpl⟩ := hpl
    subst hx0
    refine prZ (R_put R (t := 1) (i := i.toNat) (by decide) hi8 g1 (v := v) (m := m) (F1 := sU F (8 * 1 + i.toNat) r) (D1 := Dd) hm hv ?_ (fun j hj => sU_n _ _ hj) (fun j hj => rfl)) ?_ pE_r1
    · rw [g2, sU_s]
      exact hpl _
    · rw [sU_s, sU_s]
      exact ta_th (Or.inl rfl) (hpl 0) hv
  · have hr2 := al64_v hr1
    have hpl : ∃ (v : UInt64) (m : Int), V1 = sU (V 1) i.toNat v ∧ M1 = sU (M 1) i.toNat m ∧ (m = 0 ∨ m = 1) ∧ (m = 0 → plOK v) ∧ ∀ ff, plR m v (voV 1 ff r) := by
      rcases h7 with ⟨⟨a0, b0⟩, e1, e2⟩ | ⟨hab, ⟨hne, -⟩ | ⟨-, r1, w2, e1, e2⟩⟩
      · refine ⟨0, 1, e1, e2, Or.inr rfl, fun e => absurd e (by decide), fun ff => Or.inl ⟨by decide, ?_⟩⟩
        show FP.Core.val64 r = .nan
        rw [a0, b0] at hr2
        exact hr2.trans div_00.1
      · omega
      · have q2 := al64_v w2
        refine ⟨r1, 0, e1, e2, Or.inl rfl, fun _ => pl_ddiv c.2.1 c.2.2 hab q2, fun ff => Or.inr ⟨rfl, ?_⟩⟩
        show FP.Core.val64 r1 = FP.Core.val64 r
        rw [q2, hr2]
    obtain ⟨v, m, rfl, rfl, hm, hv, hpl⟩ := hpl
    subst hx1
    refine prZ (R_put R (t := 1) (i := i.toNat) (by decide) hi8 g1 (v := v) (m := m) (F1 := F) (D1 := sU Dd (8 * 1 + i.toNat) r) hm hv ?_ (fun j hj => rfl) (fun j hj => sU_n _ _ hj)) ?_ pE_r1
    · rw [g2, sU_s]
      exact hpl _
    · rw [sU_s, sU_s]
      exact ta_th (Or.inr rfl) (hpl 0) hv

theorem pr_rest_1 (R : (REL K It L Jd Nd J N Js Ns Jk Nk Ih Ah Ip Ap Bp Ir V M I A F Dd)) {x i j : Int} {r7 r8 : Option Value} {w7 w8 : va_W} (h7 : (fun r9 w9 => ((trV ((Ir 1) 2) ((Ir 1) 3) ((Ir 1) 4) x i j) ≠ -1 ∧ r9 = some (.int (iI ((trV ((Ir 1) 2) ((Ir 1) 3) ((Ir 1) 4) x i j)))) ∧ w9 = ((wTop q Y qt qd qn qs qk qh qp qr K) ++ (wTrace (qr 1) Y (Ir 1) (V 1) (M 1)))) ∨ ((trV ((Ir 1) 2) ((Ir 1) 3) ((Ir 1) 4) x i j) = -1 ∧ ∃ (V1 : Nat → UInt64) (M1 : Nat → Int), ((¬ goodR (V 1) (M 1) i.toNat j.toNat ∧ V1 = sU (V 1) i.toNat 0 ∧ M1 = sU (M 1) i.toNat 1) ∨ (goodR (V 1) (M 1) i.toNat j.toNat ∧ V1 = sU (V 1) i.toNat (FP.drem ((V 1) i.toNat) ((V 1) j.toNat)) ∧ M1 = sU (M 1) i.toNat 0)) ∧ w9 = ((wTop q Y qt qd qn qs qk qh qp qr K) ++ (wTrace (qr 1) Y (Ir 1) V1 M1)) ∧ r9 = some (.int (iI (taV (M1 i.toNat) ((Ir 1) 3) (V1 i.toNat)))))) r7 w7) (h8 : (fun r9 w9 => (¬ (0 ≤ (1 : Int) ∧ (1 : Int) ≤ 2) ∧ r9 = some (.int (iI (-2))) ∧ w9 = wMod qm Y I A F Dd) ∨ ((0 ≤ (1 : Int) ∧ (1 : Int) ≤ 2) ∧ ((¬ (0 ≤ x ∧ x ≤ 1) ∧ r9 = some (.int (iI (-3))) ∧ w9 = wMod qm Y I A F Dd) ∨ ((0 ≤ x ∧ x ≤ 1) ∧ ((npV (A 13 1) (A 12 1) x i j ≠ 0 ∧ r9 = some (.int (iI (npV (A 13 1) (A 12 1) x i j))) ∧ w9 = wMod qm Y I A F Dd) ∨ (npV (A 13 1) (A 12 1) x i j = 0 ∧ ((x = 0 ∧ ∃ r : UInt32, alike32 r (FP.frem (F (8 * (1 : Int) + i).toNat) (F (8 * (1 : Int) + j).toNat)) = true ∧ r9 = some (.int (iI (thV 0 r 0))) ∧ w9 = wMod qm Y I A (sU F (8 * (1 : Int) + i).toNat r) Dd) ∨ (x = 1 ∧ ∃ r : UInt64, alike64 r (FP.drem (Dd (8 * (1 : Int) + i).toNat) (Dd (8 * (1 : Int) + j).toNat)) = true ∧ r9 = some (.int (iI (thV 1 0 r))) ∧ w9 = wMod qm Y I A F (sU Dd (8 * (1 : Int) + i).toNat r))))))))) r8 w8) : prR q Y qt qd qn qs qk qh qp qr qm r7 r8 (w8 ++ (w7 ++ ((wText qt Y It L) ++ ((wNet qd Y Jd Nd) ++ ((wNet qn Y J N) ++ ((wNet qs Y Js Ns) ++ ((wNet (qk 0) Y (Jk 0) (Nk 0)) ++ ((wNet (qk 1) Y (Jk 1) (Nk 1)) ++ ((wHist qh Y Ih Ah) ++ ((wPlan qp Y Ip Ap Bp) ++ ((wTrace (qr 0) Y (Ir 0) (V 0) (M 0)) ++ (wTrace (qr 2) Y (Ir 2) (V 2) (M 2))))))))))))) := by
  have hr := R.2.2.2.2.2.2.2.2 1 (by decide)
  obtain ⟨s1, s2, s3, s4, s5, s6, s7⟩ := id hr
  rcases h8 with ⟨d, -⟩ | ⟨-, h8⟩
  · exact absurd (by decide) d
  by_cases hx : x = 0 ∨ x = 1
  case neg =>
    have e : trV (Ir 1 2) (Ir 1 3) (Ir 1 4) x i j = -3 := if_neg hx
    rw [e] at h7
    rcases h7 with ⟨-, rfl, rfl⟩ | ⟨c, -⟩
    · rcases h8 with ⟨-, rfl, rfl⟩ | ⟨d, -⟩
      · exact prS R pE_r1
      · omega
    · exact absurd c (by decide)
  rcases h8 with ⟨d, -⟩ | ⟨d, h8⟩
  · omega
  have e : trV (Ir 1 2) (Ir 1 3) (Ir 1 4) x i j = fnV (Ir 1 2) (Ir 1 3) (Ir 1 4) x i j := if_pos hx
  obtain ⟨f1, f2⟩ := fn_np hr x i j
  rw [e, f1] at h7
  by_cases hp : npV (A 13 1) (A 12 1) x i j = 0
  case neg =>
    rw [if_neg hp] at h7
    rcases h7 with ⟨-, rfl, rfl⟩ | ⟨c1, -⟩
    · rcases h8 with ⟨d1, rfl, rfl⟩ | ⟨d1, -⟩
      · exact prS R pE_r1
      · exact absurd d1 hp
    · exact absurd c1 np_ne
  rw [if_pos hp] at h7
  rcases h7 with ⟨c1, -⟩ | ⟨-, V1, M1, h7, rfl, rfl⟩
  · exact absurd rfl c1
  rcases h8 with ⟨d1, -⟩ | ⟨-, h8⟩
  · exact absurd hp d1
  obtain ⟨g1, g2, g3, g4⟩ := f2 hp
  obtain ⟨k1, k2, k3, k4⟩ := s6 g1
  have hi8 : i.toNat < 8 := by omega
  have hj8 : j.toNat < 8 := by omega
  have ei : (8 * (1 : Int) + i).toNat = 8 * 1 + i.toNat := by omega
  have ej : (8 * (1 : Int) + j).toNat = 8 * 1 + j.toNat := by omega
  rw [ei, ej] at h8
  rw [k2, g2]
  have pi := k4 i.toNat hi8
  have pj := k4 j.toNat hj8
  dsimp only at pi pj
  rw [g2] at pi pj
  rcases h8 with ⟨hx0, r, hr1, rfl, rfl⟩ | ⟨hx1, r, hr1, rfl, rfl⟩
  · subst hx0
    have hr2 := al32_v hr1
    have hpl : ∃ (v : UInt64) (m : Int), V1 = sU (V 1) i.toNat v ∧ M1 = sU (M 1) i.toNat m ∧ (m = 0 ∨ m = 1) ∧ (m = 0 → plOK v) ∧ ∀ dd, plR m v (voV 0 r dd) := by
      rcases h7 with ⟨hg, e1, e2⟩ | ⟨hg, e1, e2⟩
      · refine ⟨0, 1, e1, e2, Or.inr rfl, fun e => absurd e (by decide), fun dd => Or.inl ⟨by decide, ?_⟩⟩
        show FP.Core.val64 (FP.f2d r) = .nan
        exact f2d_nn.mpr (hr2.trans ((not_good (Or.inl rfl) pi pj (s7 _) (s7 _) hg).1 rfl))
      · obtain ⟨m1, m2, m3, m4⟩ := hg
        refine ⟨_, 0, e1, e2, Or.inl rfl, fun _ => pl_rem (s7 _ m1) m3 (s7 _ m2) m4, fun dd => Or.inr ⟨rfl, ?_⟩⟩
        show FP.Core.val64 (FP.drem (V 1 i.toNat) (V 1 j.toNat)) = FP.Core.val64 (FP.f2d r)
        rcases pi with ⟨z, -⟩ | ⟨-, pi⟩
        · exact absurd m1 z
        rcases pj with ⟨z, -⟩ | ⟨-, pj⟩
        · exact absurd m2 z
        have ni := plOK_nn (s7 _ m1)
        have nj := plOK_nn (s7 _ m2)
        have ti : V 1 i.toNat = FP.f2d (F (8 * 1 + i.toNat)) := FP.Core.val64_inj ni pi
        have tj : V 1 j.toNat = FP.f2d (F (8 * 1 + j.toNat)) := FP.Core.val64_inj nj pj
        rw [ti, tj, f2d_v hr2]
        rw [ti] at ni m3
        rw [tj] at nj m4
        cases hf : FP.Core.val32 (F (8 * 1 + i.toNat)) with
        | nan => exact absurd (f2d_nn.mpr hf) ni
        | inf b => exact absurd (endV_inf (f2d_inf hf)) m3
        | fin b c q =>
          refine frem_d hf (fun z => nj (f2d_nn.mpr z)) fun b2 q2 z => m4 ?_
          have p5 := pF_z (f2d_pF z)
          rw [(iu_0 (c := 0)).mpr rfl, Nat.zero_mul] at p5
          rw [dcV_z nj nn_0, zz_0, p5]
          cases b2 <;> decide
    obtain ⟨v, m, rfl, rfl, hm, hv, hpl⟩ := hpl
    refine prZ (R_put R (t := 1) (i := i.toNat) (by decide) hi8 g1 (v := v) (m := m) (F1 := sU F (8 * 1 + i.toNat) r) (D1 := Dd) hm hv ?_ (fun j hj => sU_n _ _ hj) (fun j hj => rfl)) ?_ pE_r1
    · rw [g2, sU_s]
      exact hpl _
    · rw [sU_s, sU_s]
      exact ta_th (Or.inl rfl) (hpl 0) hv
  · subst hx1
    have hr2 := al64_v hr1
    have hpl : ∃ (v : UInt64) (m : Int), V1 = sU (V 1) i.toNat v ∧ M1 = sU (M 1) i.toNat m ∧ (m = 0 ∨ m = 1) ∧ (m = 0 → plOK v) ∧ ∀ ff, plR m v (voV 1 ff r) := by
      rcases h7 with ⟨hg, e1, e2⟩ | ⟨hg, e1, e2⟩
      · refine ⟨0, 1, e1, e2, Or.inr rfl, fun e => absurd e (by decide), fun ff => Or.inl ⟨by decide, ?_⟩⟩
        show FP.Core.val64 r = .nan
        exact hr2.trans ((not_good (Or.inr rfl) pi pj (s7 _) (s7 _) hg).2 rfl)
      · obtain ⟨m1, m2, m3, m4⟩ := hg
        refine ⟨_, 0, e1, e2, Or.inl rfl, fun _ => pl_rem (s7 _ m1) m3 (s7 _ m2) m4, fun ff => Or.inr ⟨rfl, ?_⟩⟩
        show FP.Core.val64 (FP.drem (V 1 i.toNat) (V 1 j.toNat)) = FP.Core.val64 r
        rcases pi with ⟨z, -⟩ | ⟨-, pi⟩
        · exact absurd m1 z
        rcases pj with ⟨z, -⟩ | ⟨-, pj⟩
        · exact absurd m2 z
        have ti : V 1 i.toNat = Dd (8 * 1 + i.toNat) := FP.Core.val64_inj (plOK_nn (s7 _ m1)) pi
        have tj : V 1 j.toNat = Dd (8 * 1 + j.toNat) := FP.Core.val64_inj (plOK_nn (s7 _ m2)) pj
        rw [ti, tj, hr2]
    obtain ⟨v, m, rfl, rfl, hm, hv, hpl⟩ := hpl
    refine prZ (R_put R (t := 1) (i := i.toNat) (by decide) hi8 g1 (v := v) (m := m) (F1 := F) (D1 := sU Dd (8 * 1 + i.toNat) r) hm hv ?_ (fun j hj => rfl) (fun j hj => sU_n _ _ hj)) ?_ pE_r1
    · rw [g2, sU_s]
      exact hpl _
    · rw [sU_s, sU_s]
      exact ta_th (Or.inr rfl) (hpl 0) hv

theorem pr_sum_2 (R : (REL K It L Jd Nd J N Js Ns Jk Nk Ih Ah Ip Ap Bp Ir V M I A F Dd)) {x : Int} {r7 r8 : Option Value} {w7 w8 : va_W} (h7 : (fun r9 w9 => w9 = ((wTop q Y qt qd qn qs qk qh qp qr K) ++ (wTrace (qr 2) Y (Ir 2) (V 2) (M 2))) ∧ ((¬ (0 ≤ x ∧ x ≤ 1) ∧ r9 = some (.int (iI (-3)))) ∨ ((0 ≤ x ∧ x ≤ 1) ∧ (((Ir 2) 2 = 0 ∧ r9 = some (.int (iI (-11)))) ∨ ((Ir 2) 2 ≠ 0 ∧ ((x = 0 ∧ (((∃ k : Nat, k < ((Ir 2) 4).toNat ∧ badA (V 2) (M 2) k) ∧ r9 = some (.int (iI (2000000)))) ∨ ((∀ k : Nat, k < ((Ir 2) 4).toNat → ¬ badA (V 2) (M 2) k) ∧ r9 = some (.int (iI (t_cut (FP.dmul (sumD (V 2) ((Ir 2) 4).toNat) 4652007308841189376))))))) ∨ (x ≠ 0 ∧ r9 = some (.int (iI (nnC (M 2) ((Ir 2) 4).toNat)))))))))) r7 w7) (h8 : (g_det (some (.int (iI (if 0 ≤ (2 : Int) ∧ (2 : Int) ≤ 2 then (if 0 ≤ x ∧ x ≤ 1 then (if A 13 2 < 0 then -11 else if x = 0 then m_cut (FP.dmul 4652007308841189376 (sumD (plV (A 12 2) (2 : Int) F Dd) (A 13 2).toNat)) else nonC (plV (A 12 2) (2 : Int) F Dd) (A 13 2).toNat) else -3) else -2)))) (wMod qm Y I A F Dd)) r8 w8) : prR q Y qt qd qn qs qk qh qp qr qm r7 r8 (w8 ++ (w7 ++ ((wText qt Y It L) ++ ((wNet qd Y Jd Nd) ++ ((wNet qn Y J N) ++ ((wNet qs Y Js Ns) ++ ((wNet (qk 0) Y (Jk 0) (Nk 0)) ++ ((wNet (qk 1) Y (Jk 1) (Nk 1)) ++ ((wHist qh Y Ih Ah) ++ ((wPlan qp Y Ip Ap Bp) ++ ((wTrace (qr 0) Y (Ir 0) (V 0) (M 0)) ++ (wTrace (qr 1) Y (Ir 1) (V 1) (M 1))))))))))))) := by
  have hr := R.2.2.2.2.2.2.2.2 2 (by decide)
  obtain ⟨s1, s2, s3, s4, s5, s6, s7⟩ := id hr
  obtain ⟨rfl, h7⟩ := h7
  obtain ⟨rfl, rfl⟩ := h8
  rw [if_pos (show (0 : Int) ≤ (2 : Int) ∧ (2 : Int) ≤ 2 by decide)]
  rcases h7 with ⟨c, rfl⟩ | ⟨c, h7⟩
  · rw [if_neg c]
    exact prS R pE_r2
  rw [if_pos c]
  rcases h7 with ⟨c1, rfl⟩ | ⟨c1, h7⟩
  · rw [if_pos (show A 13 2 < 0 by rw [(s5 c1).1]; decide)]
    exact prS R pE_r2
  have p1 : Ir 2 2 = 1 := s3.resolve_left c1
  obtain ⟨k1, k2, k3, k4⟩ := s6 p1
  rw [if_neg (show ¬ A 13 2 < 0 by omega), k1]
  have hp : ∀ k : Nat, k < (Ir 2 4).toNat → plR (M 2 k) (V 2 k) (plV (A 12 2) 2 F Dd k) := by
    intro k hk
    have h9 := k4 k (by omega)
    unfold plV
    have e : (8 * (2 : Int) + (k : Int)).toNat = 8 * 2 + k := by omega
    rw [e]
    exact h9
  rcases h7 with ⟨c2, h7⟩ | ⟨c2, rfl⟩
  · rw [if_pos c2]
    obtain ⟨u1, u2⟩ := sum_sum s7 (Ir 2 4).toNat (by omega) hp
    have e9 : FP.dmul 4652007308841189376 (sumD (plV (A 12 2) 2 F Dd) (Ir 2 4).toNat) = FP.dmul (sumD (plV (A 12 2) 2 F Dd) (Ir 2 4).toNat) 4652007308841189376 := FP.Core.dmul_comm _ _
    rw [e9]
    rcases h7 with ⟨c3, rfl⟩ | ⟨c3, rfl⟩
    · refine prZ R ?_ pE_r2
      rw [m_cut_nan (FP.Core.dmul_nan (Or.inl (u1 c3)))]
    · refine prZ R ?_ pE_r2
      obtain ⟨v1, v2⟩ := u2 c3
      have v3 := sInv_nn v2
      rw [v1] at v3
      rw [m_cut_t (mul_k v3)]
      refine t_cut_v ?_
      have w1 := FP.Core.val64_dmul (sumD (V 2) (Ir 2 4).toNat) 4652007308841189376
      have w2 := FP.Core.val64_dmul (sumD (plV (A 12 2) 2 F Dd) (Ir 2 4).toNat) 4652007308841189376
      rw [v1] at w1
      exact w1.trans w2.symm
  · rw [if_neg c2]
    refine prZ R ?_ pE_r2
    exact nn_non s7 _ hp

theorem pr_set_2 (R : (REL K It L Jd Nd J N Js Ns Jk Nk Ih Ah Ip Ap Bp Ir V M I A F Dd)) {x i a b : Int} {r7 r8 : Option Value} {w7 w8 : va_W} (h7 : (fun r9 w9 => (¬ ((x = 0 ∨ x = 1) ∧ (-9999 ≤ a ∧ a ≤ 9999) ∧ (-9999 ≤ b ∧ b ≤ 9999)) ∧ r9 = some (.int (iI (-3))) ∧ w9 = ((wTop q Y qt qd qn qs qk qh qp qr K) ++ (wTrace (qr 2) Y (Ir 2) (V 2) (M 2)))) ∨ (((x = 0 ∨ x = 1) ∧ (-9999 ≤ a ∧ a ≤ 9999) ∧ (-9999 ≤ b ∧ b ≤ 9999)) ∧ ((fnV ((Ir 2) 2) ((Ir 2) 3) ((Ir 2) 4) x i i ≠ -1 ∧ r9 = some (.int (iI (fnV ((Ir 2) 2) ((Ir 2) 3) ((Ir 2) 4) x i i))) ∧ w9 = ((wTop q Y qt qd qn qs qk qh qp qr K) ++ (wTrace (qr 2) Y (Ir 2) (V 2) (M 2)))) ∨ (fnV ((Ir 2) 2) ((Ir 2) 3) ((Ir 2) 4) x i i = -1 ∧ ∃ (V1 : Nat → UInt64) (M1 : Nat → Int), (((a = 0 ∧ b = 0) ∧ V1 = sU (V 2) i.toNat 0 ∧ M1 = sU (M 2) i.toNat 1) ∨ (¬ (a = 0 ∧ b = 0) ∧ (((Ir 2) 3 = 0 ∧ ∃ (m : UInt32) (r : UInt64), alike32 m (FP.fdiv (FP.i2f (iI a)) (FP.i2f (iI b))) = true ∧ alike64 r (FP.f2d m) = true ∧ V1 = sU (V 2) i.toNat r ∧ M1 = sU (M 2) i.toNat 0) ∨ ((Ir 2) 3 ≠ 0 ∧ ∃ r : UInt64, alike64 r (FP.ddiv (FP.i2d (iI a)) (FP.i2d (iI b))) = true ∧ V1 = sU (V 2) i.toNat r ∧ M1 = sU (M 2) i.toNat 0)))) ∧ w9 = ((wTop q Y qt qd qn qs qk qh qp qr K) ++ (wTrace (qr 2) Y (Ir 2) V1 M1)) ∧ r9 = some (.int (iI (taV (M1 i.toNat) ((Ir 2) 3) (V1 i.toNat)))))))) r7 w7) (h8 : (fun r9 w9 => (¬ (0 ≤ (2 : Int) ∧ (2 : Int) ≤ 2) ∧ r9 = some (.int (iI (-2))) ∧ w9 = wMod qm Y I A F Dd) ∨ ((0 ≤ (2 : Int) ∧ (2 : Int) ≤ 2) ∧ ((¬ ((0 ≤ x ∧ x ≤ 1) ∧ (-9999 ≤ a ∧ a ≤ 9999) ∧ (-9999 ≤ b ∧ b ≤ 9999)) ∧ r9 = some (.int (iI (-3))) ∧ w9 = wMod qm Y I A F Dd) ∨ (((0 ≤ x ∧ x ≤ 1) ∧ (-9999 ≤ a ∧ a ≤ 9999) ∧ (-9999 ≤ b ∧ b ≤ 9999)) ∧ ((npV (A 13 2) (A 12 2) x i i ≠ 0 ∧ r9 = some (.int (iI (npV (A 13 2) (A 12 2) x i i))) ∧ w9 = wMod qm Y I A F Dd) ∨ (npV (A 13 2) (A 12 2) x i i = 0 ∧ ((x = 0 ∧ ∃ r : UInt32, alike32 r (FP.fdiv (FP.i2f (iI a)) (FP.i2f (iI b))) = true ∧ r9 = some (.int (iI (thV 0 r 0))) ∧ w9 = wMod qm Y I A (sU F (8 * (2 : Int) + i).toNat r) Dd) ∨ (x = 1 ∧ ∃ r : UInt64, alike64 r (FP.ddiv (FP.i2d (iI a)) (FP.i2d (iI b))) = true ∧ r9 = some (.int (iI (thV 1 0 r))) ∧ w9 = wMod qm Y I A F (sU Dd (8 * (2 : Int) + i).toNat r))))))))) r8 w8) : prR q Y qt qd qn qs qk qh qp qr qm r7 r8 (w8 ++ (w7 ++ ((wText qt Y It L) ++ ((wNet qd Y Jd Nd) ++ ((wNet qn Y J N) ++ ((wNet qs Y Js Ns) ++ ((wNet (qk 0) Y (Jk 0) (Nk 0)) ++ ((wNet (qk 1) Y (Jk 1) (Nk 1)) ++ ((wHist qh Y Ih Ah) ++ ((wPlan qp Y Ip Ap Bp) ++ ((wTrace (qr 0) Y (Ir 0) (V 0) (M 0)) ++ (wTrace (qr 1) Y (Ir 1) (V 1) (M 1))))))))))))) := by
  have hr := R.2.2.2.2.2.2.2.2 2 (by decide)
  obtain ⟨s1, s2, s3, s4, s5, s6, s7⟩ := id hr
  rcases h8 with ⟨d, -⟩ | ⟨-, h8⟩
  · exact absurd (by decide) d
  rcases h7 with ⟨c, rfl, rfl⟩ | ⟨c, h7⟩
  · rcases h8 with ⟨d, rfl, rfl⟩ | ⟨d, -⟩
    · exact prS R pE_r2
    · omega
  rcases h8 with ⟨d, -⟩ | ⟨d, h8⟩
  · omega
  obtain ⟨f1, f2⟩ := fn_np hr x i i
  rw [f1] at h7
  by_cases hp : npV (A 13 2) (A 12 2) x i i = 0
  case neg =>
    rw [if_neg hp] at h7
    rcases h7 with ⟨-, rfl, rfl⟩ | ⟨c1, -⟩
    · rcases h8 with ⟨d1, rfl, rfl⟩ | ⟨d1, -⟩
      · exact prS R pE_r2
      · exact absurd d1 hp
    · exact absurd c1 np_ne
  rw [if_pos hp] at h7
  rcases h7 with ⟨c1, -⟩ | ⟨-, V1, M1, h7, rfl, rfl⟩
  · exact absurd rfl c1
  rcases h8 with ⟨d1, -⟩ | ⟨-, h8⟩
  · exact absurd hp d1
  obtain ⟨g1, g2, g3, -⟩ := f2 hp
  obtain ⟨k1, k2, k3, k4⟩ := s6 g1
  have hi8 : i.toNat < 8 := by omega
  have ei : (8 * (2 : Int) + i).toNat = 8 * 2 + i.toNat := by omega
  rw [ei] at h8
  rw [k2, g2] at h7 ⊢
  rcases h8 with ⟨hx0, r, hr1, rfl, rfl⟩ | ⟨hx1, r, hr1, rfl, rfl⟩
  · have hr2 := al32_v hr1
    have hpl : ∃ (v : UInt64) (m : Int), V1 = sU (V 2) i.toNat v ∧ M1 = sU (M 2) i.toNat m ∧ (m = 0 ∨ m = 1) ∧ (m = 0 → plOK v) ∧ ∀ dd, plR m v (voV 0 r dd) := by
      rcases h7 with ⟨⟨a0, b0⟩, e1, e2⟩ | ⟨hab, ⟨-, m1, r1, w1, w2, e1, e2⟩ | ⟨hne, -⟩⟩
      · refine ⟨0, 1, e1, e2, Or.inr rfl, fun e => absurd e (by decide), fun dd => Or.inl ⟨by decide, ?_⟩⟩
        show FP.Core.val64 (FP.f2d r) = .nan
        rw [a0, b0] at hr2
        exact f2d_nn.mpr (hr2.trans div_00.2)
      · have q1 := al32_v w1
        have q2 := al64_v w2
        refine ⟨r1, 0, e1, e2, Or.inl rfl, fun _ => pl_fdiv (m := m1) c.2.1 c.2.2 hab q1 q2, fun dd => Or.inr ⟨rfl, ?_⟩⟩
        show FP.Core.val64 r1 = FP.Core.val64 (FP.f2d r)
        rw [q2]
        exact f2d_v (q1.trans hr2.symm)
      · exact absurd hx0 hne
    obtain ⟨v, m, rfl, rfl, hm, hv, hpl⟩ := hpl
    subst hx0
    refine prZ (R_put R (t := 2) (i := i.toNat) (by decide) hi8 g1 (v := v) (m := m) (F1 := sU F (8 * 2 + i.toNat) r) (D1 := Dd) hm hv ?_ (fun j hj => sU_n _ _ hj) (fun j hj => rfl)) ?_ pE_r2
    · rw [g2, sU_s]
      exact hpl _
    · rw [sU_s, sU_s]
      exact ta_th (Or.inl rfl) (hpl 0) hv
  · have hr2 := al64_v hr1
    have hpl : ∃ (v : UInt64) (m : Int), V1 = sU (V 2) i.toNat v ∧ M1 = sU (M 2) i.toNat m ∧ (m = 0 ∨ m = 1) ∧ (m = 0 → plOK v) ∧ ∀ ff, plR m v (voV 1 ff r) := by
      rcases h7 with ⟨⟨a0, b0⟩, e1, e2⟩ | ⟨hab, ⟨hne, -⟩ | ⟨-, r1, w2, e1, e2⟩⟩
      · refine ⟨0, 1, e1, e2, Or.inr rfl, fun e => absurd e (by decide), fun ff => Or.inl ⟨by decide, ?_⟩⟩
        show FP.Core.val64 r = .nan
        rw [a0, b0] at hr2
        exact hr2.trans div_00.1
      · omega
      · have q2 := al64_v w2
        refine ⟨r1, 0, e1, e2, Or.inl rfl, fun _ => pl_ddiv c.2.1 c.2.2 hab q2, fun ff => Or.inr ⟨rfl, ?_⟩⟩
        show FP.Core.val64 r1 = FP.Core.val64 r
        rw [q2, hr2]
    obtain ⟨v, m, rfl, rfl, hm, hv, hpl⟩ := hpl
    subst hx1
    refine prZ (R_put R (t := 2) (i := i.toNat) (by decide) hi8 g1 (v := v) (m := m) (F1 := F) (D1 := sU Dd (8 * 2 + i.toNat) r) hm hv ?_ (fun j hj => rfl) (fun j hj => sU_n _ _ hj)) ?_ pE_r2
    · rw [g2, sU_s]
      exact hpl _
    · rw [sU_s, sU_s]
      exact ta_th (Or.inr rfl) (hpl 0) hv

theorem pr_rest_2 (R : (REL K It L Jd Nd J N Js Ns Jk Nk Ih Ah Ip Ap Bp Ir V M I A F Dd)) {x i j : Int} {r7 r8 : Option Value} {w7 w8 : va_W} (h7 : (fun r9 w9 => ((trV ((Ir 2) 2) ((Ir 2) 3) ((Ir 2) 4) x i j) ≠ -1 ∧ r9 = some (.int (iI ((trV ((Ir 2) 2) ((Ir 2) 3) ((Ir 2) 4) x i j)))) ∧ w9 = ((wTop q Y qt qd qn qs qk qh qp qr K) ++ (wTrace (qr 2) Y (Ir 2) (V 2) (M 2)))) ∨ ((trV ((Ir 2) 2) ((Ir 2) 3) ((Ir 2) 4) x i j) = -1 ∧ ∃ (V1 : Nat → UInt64) (M1 : Nat → Int), ((¬ goodR (V 2) (M 2) i.toNat j.toNat ∧ V1 = sU (V 2) i.toNat 0 ∧ M1 = sU (M 2) i.toNat 1) ∨ (goodR (V 2) (M 2) i.toNat j.toNat ∧ V1 = sU (V 2) i.toNat (FP.drem ((V 2) i.toNat) ((V 2) j.toNat)) ∧ M1 = sU (M 2) i.toNat 0)) ∧ w9 = ((wTop q Y qt qd qn qs qk qh qp qr K) ++ (wTrace (qr 2) Y (Ir 2) V1 M1)) ∧ r9 = some (.int (iI (taV (M1 i.toNat) ((Ir 2) 3) (V1 i.toNat)))))) r7 w7) (h8 : (fun r9 w9 => (¬ (0 ≤ (2 : Int) ∧ (2 : Int) ≤ 2) ∧ r9 = some (.int (iI (-2))) ∧ w9 = wMod qm Y I A F Dd) ∨ ((0 ≤ (2 : Int) ∧ (2 : Int) ≤ 2) ∧ ((¬ (0 ≤ x ∧ x ≤ 1) ∧ r9 = some (.int (iI (-3))) ∧ w9 = wMod qm Y I A F Dd) ∨ ((0 ≤ x ∧ x ≤ 1) ∧ ((npV (A 13 2) (A 12 2) x i j ≠ 0 ∧ r9 = some (.int (iI (npV (A 13 2) (A 12 2) x i j))) ∧ w9 = wMod qm Y I A F Dd) ∨ (npV (A 13 2) (A 12 2) x i j = 0 ∧ ((x = 0 ∧ ∃ r : UInt32, alike32 r (FP.frem (F (8 * (2 : Int) + i).toNat) (F (8 * (2 : Int) + j).toNat)) = true ∧ r9 = some (.int (iI (thV 0 r 0))) ∧ w9 = wMod qm Y I A (sU F (8 * (2 : Int) + i).toNat r) Dd) ∨ (x = 1 ∧ ∃ r : UInt64, alike64 r (FP.drem (Dd (8 * (2 : Int) + i).toNat) (Dd (8 * (2 : Int) + j).toNat)) = true ∧ r9 = some (.int (iI (thV 1 0 r))) ∧ w9 = wMod qm Y I A F (sU Dd (8 * (2 : Int) + i).toNat r))))))))) r8 w8) : prR q Y qt qd qn qs qk qh qp qr qm r7 r8 (w8 ++ (w7 ++ ((wText qt Y It L) ++ ((wNet qd Y Jd Nd) ++ ((wNet qn Y J N) ++ ((wNet qs Y Js Ns) ++ ((wNet (qk 0) Y (Jk 0) (Nk 0)) ++ ((wNet (qk 1) Y (Jk 1) (Nk 1)) ++ ((wHist qh Y Ih Ah) ++ ((wPlan qp Y Ip Ap Bp) ++ ((wTrace (qr 0) Y (Ir 0) (V 0) (M 0)) ++ (wTrace (qr 1) Y (Ir 1) (V 1) (M 1))))))))))))) := by
  have hr := R.2.2.2.2.2.2.2.2 2 (by decide)
  obtain ⟨s1, s2, s3, s4, s5, s6, s7⟩ := id hr
  rcases h8 with ⟨d, -⟩ | ⟨-, h8⟩
  · exact absurd (by decide) d
  by_cases hx : x = 0 ∨ x = 1
  case neg =>
    have e : trV (Ir 2 2) (Ir 2 3) (Ir 2 4) x i j = -3 := if_neg hx
    rw [e] at h7
    rcases h7 with ⟨-, rfl, rfl⟩ | ⟨c, -⟩
    · rcases h8 with ⟨-, rfl, rfl⟩ | ⟨d, -⟩
      · exact prS R pE_r2
      · omega
    · exact absurd c (by decide)
  rcases h8 with ⟨d, -⟩ | ⟨d, h8⟩
  · omega
  have e : trV (Ir 2 2) (Ir 2 3) (Ir 2 4) x i j = fnV (Ir 2 2) (Ir 2 3) (Ir 2 4) x i j := if_pos hx
  obtain ⟨f1, f2⟩ := fn_np hr x i j
  rw [e, f1] at h7
  by_cases hp : npV (A 13 2) (A 12 2) x i j = 0
  case neg =>
    rw [if_neg hp] at h7
    rcases h7 with ⟨-, rfl, rfl⟩ | ⟨c1, -⟩
    · rcases h8 with ⟨d1, rfl, rfl⟩ | ⟨d1, -⟩
      · exact prS R pE_r2
      · exact absurd d1 hp
    · exact absurd c1 np_ne
  rw [if_pos hp] at h7
  rcases h7 with ⟨c1, -⟩ | ⟨-, V1, M1, h7, rfl, rfl⟩
  · exact absurd rfl c1
  rcases h8 with ⟨d1, -⟩ | ⟨-, h8⟩
  · exact absurd hp d1
  obtain ⟨g1, g2, g3, g4⟩ := f2 hp
  obtain ⟨k1, k2, k3, k4⟩ := s6 g1
  have hi8 : i.toNat < 8 := by omega
  have hj8 : j.toNat < 8 := by omega
  have ei : (8 * (2 : Int) + i).toNat = 8 * 2 + i.toNat := by omega
  have ej : (8 * (2 : Int) + j).toNat = 8 * 2 + j.toNat := by omega
  rw [ei, ej] at h8
  rw [k2, g2]
  have pi := k4 i.toNat hi8
  have pj := k4 j.toNat hj8
  dsimp only at pi pj
  rw [g2] at pi pj
  rcases h8 with ⟨hx0, r, hr1, rfl, rfl⟩ | ⟨hx1, r, hr1, rfl, rfl⟩
  · subst hx0
    have hr2 := al32_v hr1
    have hpl : ∃ (v : UInt64) (m : Int), V1 = sU (V 2) i.toNat v ∧ M1 = sU (M 2) i.toNat m ∧ (m = 0 ∨ m = 1) ∧ (m = 0 → plOK v) ∧ ∀ dd, plR m v (voV 0 r dd) := by
      rcases h7 with ⟨hg, e1, e2⟩ | ⟨hg, e1, e2⟩
      · refine ⟨0, 1, e1, e2, Or.inr rfl, fun e => absurd e (by decide), fun dd => Or.inl ⟨by decide, ?_⟩⟩
        show FP.Core.val64 (FP.f2d r) = .nan
        exact f2d_nn.mpr (hr2.trans ((not_good (Or.inl rfl) pi pj (s7 _) (s7 _) hg).1 rfl))
      · obtain ⟨m1, m2, m3, m4⟩ := hg
        refine ⟨_, 0, e1, e2, Or.inl rfl, fun _ => pl_rem (s7 _ m1) m3 (s7 _ m2) m4, fun dd => Or.inr ⟨rfl, ?_⟩⟩
        show FP.Core.val64 (FP.drem (V 2 i.toNat) (V 2 j.toNat)) = FP.Core.val64 (FP.f2d r)
        rcases pi with ⟨z, -⟩ | ⟨-, pi⟩
        · exact absurd m1 z
        rcases pj with ⟨z, -⟩ | ⟨-, pj⟩
        · exact absurd m2 z
        have ni := plOK_nn (s7 _ m1)
        have nj := plOK_nn (s7 _ m2)
        have ti : V 2 i.toNat = FP.f2d (F (8 * 2 + i.toNat)) := FP.Core.val64_inj ni pi
        have tj : V 2 j.toNat = FP.f2d (F (8 * 2 + j.toNat)) := FP.Core.val64_inj nj pj
        rw [ti, tj, f2d_v hr2]
        rw [ti] at ni m3
        rw [tj] at nj m4
        cases hf : FP.Core.val32 (F (8 * 2 + i.toNat)) with
        | nan => exact absurd (f2d_nn.mpr hf) ni
        | inf b => exact absurd (endV_inf (f2d_inf hf)) m3
        | fin b c q =>
          refine frem_d hf (fun z => nj (f2d_nn.mpr z)) fun b2 q2 z => m4 ?_
          have p5 := pF_z (f2d_pF z)
          rw [(iu_0 (c := 0)).mpr rfl, Nat.zero_mul] at p5
          rw [dcV_z nj nn_0, zz_0, p5]
          cases b2 <;> decide
    obtain ⟨v, m, rfl, rfl, hm, hv, hpl⟩ := hpl
    refine prZ (R_put R (t := 2) (i := i.toNat) (by decide) hi8 g1 (v := v) (m := m) (F1 := sU F (8 * 2 + i.toNat) r) (D1 := Dd) hm hv ?_ (fun j hj => sU_n _ _ hj) (fun j hj => rfl)) ?_ pE_r2
    · rw [g2, sU_s]
      exact hpl _
    · rw [sU_s, sU_s]
      exact ta_th (Or.inl rfl) (hpl 0) hv
  · subst hx1
    have hr2 := al64_v hr1
    have hpl : ∃ (v : UInt64) (m : Int), V1 = sU (V 2) i.toNat v ∧ M1 = sU (M 2) i.toNat m ∧ (m = 0 ∨ m = 1) ∧ (m = 0 → plOK v) ∧ ∀ ff, plR m v (voV 1 ff r) := by
      rcases h7 with ⟨hg, e1, e2⟩ | ⟨hg, e1, e2⟩
      · refine ⟨0, 1, e1, e2, Or.inr rfl, fun e => absurd e (by decide), fun ff => Or.inl ⟨by decide, ?_⟩⟩
        show FP.Core.val64 r = .nan
        exact hr2.trans ((not_good (Or.inr rfl) pi pj (s7 _) (s7 _) hg).2 rfl)
      · obtain ⟨m1, m2, m3, m4⟩ := hg
        refine ⟨_, 0, e1, e2, Or.inl rfl, fun _ => pl_rem (s7 _ m1) m3 (s7 _ m2) m4, fun ff => Or.inr ⟨rfl, ?_⟩⟩
        show FP.Core.val64 (FP.drem (V 2 i.toNat) (V 2 j.toNat)) = FP.Core.val64 r
        rcases pi with ⟨z, -⟩ | ⟨-, pi⟩
        · exact absurd m1 z
        rcases pj with ⟨z, -⟩ | ⟨-, pj⟩
        · exact absurd m2 z
        have ti : V 2 i.toNat = Dd (8 * 2 + i.toNat) := FP.Core.val64_inj (plOK_nn (s7 _ m1)) pi
        have tj : V 2 j.toNat = Dd (8 * 2 + j.toNat) := FP.Core.val64_inj (plOK_nn (s7 _ m2)) pj
        rw [ti, tj, hr2]
    obtain ⟨v, m, rfl, rfl, hm, hv, hpl⟩ := hpl
    refine prZ (R_put R (t := 2) (i := i.toNat) (by decide) hi8 g1 (v := v) (m := m) (F1 := F) (D1 := sU Dd (8 * 2 + i.toNat) r) hm hv ?_ (fun j hj => rfl) (fun j hj => sU_n _ _ hj)) ?_ pE_r2
    · rw [g2, sU_s]
      exact hpl _
    · rw [sU_s, sU_s]
      exact ta_th (Or.inr rfl) (hpl 0) hv

end
