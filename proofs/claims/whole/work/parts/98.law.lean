/-! the law: what is there at its loop -/
def eLaw (e : Nat → Nat) (b Ln : Nat) (xI : Nat → Int) (A : Nat → Prop) (U : State) (H : Heap) : Prop := wEnv e A U H ∧ cEnv U ∧ va_T .int b Ln (fun k => .int (iI (xI k))) A U H
theorem eLaw_stab (e : Nat → Nat) (b Ln : Nat) (xI : Nat → Int) : g_Stab (eLaw e b Ln xI) := by
  obtain ⟨w1, w2, w3⟩ := wEnv_stab e
  exact ⟨fun A u U H hv h => ⟨w1 A u U H hv h.1, cEnv_moved hv h.2.1, va_T.moved hv h.2.2⟩, fun A U H H1 hq h => ⟨w2 A U H H1 hq h.1, h.2.1, h.2.2.kept hq⟩, fun A B U H hAB h => ⟨w3 A B U H hAB h.1, h.2.1, h.2.2.narrow hAB⟩⟩
theorem eLaw_e {e : Nat → Nat} {b Ln : Nat} {xI : Nat → Int} : g_Env (eLaw e b Ln xI) e := fun _ _ _ h => h.1
theorem eLaw_c {e : Nat → Nat} {b Ln : Nat} {xI : Nat → Int} : g_EnvC (eLaw e b Ln xI) := fun _ _ _ h => h.2.1
section GS
variable {p : Program} {l : Launch} {e : Env} {R : Room} {s : State} {m : MethodId} {args : Array Value} {below : List Frame} {meth : Method} {c : Code} {Q : State → Prop}
variable {cc : ByteArray} {nL : Nat} {own : String} {D : va_G} {tys : List (ClassId × FieldType)} {A : Nat → Prop} {ce sl pc : Nat} {w : va_W} {lv : List (Nat × Value)} {st : List Value} {E : (Nat → Prop) → State → Heap → Prop}
theorem g_same (C : g_Cx p s m args c cc nL own D tys A E) {v : Int32} {off : Int} (tgt : Nat) (hdg : decode cc pc = .ok (.if_icmp .eq off, 3)) (ht : (pc : Int) + off = (tgt : Int)) (k : g_G p l e R s m args below meth c nL D A Q ce sl w lv tgt st) : g_G p l e R s m args below meth c nL D A Q ce sl w lv pc (.int v :: .int v :: st) := fun d0 H locs ls hd hP hD hS hl => lv_icmp_eq C.1 C.2.1 hdg ht (fun _ => k d0 H locs ls hd hP hD hS hl) (fun h => absurd rfl h)
end GS

section
variable {K It L : Nat → Int} {Jd : Nat → Int} {Nd : Nat → Nat → Int} {J : Nat → Int} {N : Nat → Nat → Int} {Js : Nat → Int} {Ns : Nat → Nat → Int} {Jk : Nat → Nat → Int} {Nk : Nat → Nat → Nat → Int} {Ih : Nat → Int} {Ah : Nat → Nat → Int} {Ip : Nat → Int} {Ap Bp : Nat → Nat → Int} {Ir : Nat → Nat → Int} {V : Nat → Nat → UInt64} {M : Nat → Nat → Int} {I : Nat → Int} {A : Nat → Nat → Int} {F : Nat → UInt32} {Dd : Nat → UInt64}
variable {q : Nat → Nat} {Y : Nat → ClassId} {qt qd qn qs : Nat → Nat} {qk : Nat → Nat → Nat} {qh qp : Nat → Nat} {qr : Nat → Nat → Nat} {qm : Nat → Nat}
variable {p : Program} {l : Launch} {e : Env} {s : State} {m : MethodId} {args : Array Value} {below : List Frame} {meth : Method} {c : Code} {Q : State → Prop} {D : va_G} {A9 : Nat → Prop} {e9 : Nat → Nat} {b Ln : Nat} {xI : Nat → Int} {i : Int}
theorem lw_write (C : g_Cx p s m args c cL_law 4 RL D (tysY Y) A9 (eLaw e9 b Ln xI)) (hi : 0 ≤ i ∧ i + 6 ≤ Ln ∧ Ln ≤ 3072) (hxs : ∀ k, inR (xI k)) (R : (REL K It L Jd Nd J N Js Ns Jk Nk Ih Ah Ip Ap Bp Ir V M I A F Dd)) (k : ∀ (K It L : Nat → Int) (Jd : Nat → Int) (Nd : Nat → Nat → Int) (J : Nat → Int) (N : Nat → Nat → Int) (Js : Nat → Int) (Ns : Nat → Nat → Int) (Jk : Nat → Nat → Int) (Nk : Nat → Nat → Nat → Int) (Ih : Nat → Int) (Ah : Nat → Nat → Int) (Ip : Nat → Int) (Ap Bp : Nat → Nat → Int) (Ir : Nat → Nat → Int) (V : Nat → Nat → UInt64) (M : Nat → Nat → Int) (I : Nat → Int) (A : Nat → Nat → Int) (F : Nat → UInt32) (Dd : Nat → UInt64), (REL K It L Jd Nd J N Js Ns Jk Nk Ih Ah Ip Ap Bp Ir V M I A F Dd) → g_G p l e room_1 s m args below meth c 4 D A9 Q 77 1630 (wS q Y qt qd qn qs qk qh qp qr qm K It L Jd Nd J N Js Ns Jk Nk Ih Ah Ip Ap Bp Ir V M I A F Dd) [(3, .int (iI i)), (2, .ref (qm 99)), (1, .ref (q 99)), (0, .ref b)] 860 []) : g_G p l e room_1 s m args below meth c 4 D A9 Q 77 1630 (wS q Y qt qd qn qs qk qh qp qr qm K It L Jd Nd J N Js Ns Jk Nk Ih Ah Ip Ap Bp Ir V M I A F Dd) [(3, .int (iI i)), (2, .ref (qm 99)), (1, .ref (q 99)), (0, .ref b)] 152 [] := by
  refine g_aload_n C (n' := 153) 2 rfl dL_law_152 rfl rfl ?_
  refine g_aload_n C (n' := 154) 3 rfl dL_law_153 rfl rfl ?_
  refine g_iload_n C (n' := 155) 0 rfl dL_law_154 rfl rfl ?_
  refine g_iconst C (n' := 156) dL_law_155 rfl ?_
  refine g_iadd C (n' := 157) dL_law_156 rfl ?_
  refine g_ti C (n' := 158) C.2.2.2.2.2.2.2.2.2.2.2 (by omega) (by omega) (by omega) (v := .int (iI (xI (i + 1).toNat))) rfl dL_law_157 rfl ?_
  refine g_callV C (n' := 161) (As := [.int (iI (xI (i + 1).toNat))]) (c_X7_write l D Y C.2.2.2.2.2.2.2.2.1 q qt qd qn qs qk qh qp qr K It L (xI (i + 1).toNat) R.1.1 R.1.2.1 R.1.2.2.1 (hxs _)) 1 kw_213 kc_X7_write (by decide +kernel) (pS_text _ _ _ _ _ _ _ _ _ _ _ _ _) 0 (ci := 5) rfl rfl rfl rfl ⟨Nat.le_of_ble_eq_true rfl, Nat.le_of_ble_eq_true rfl⟩ ⟨rfl, rfl⟩ ⟨Nat.le_of_ble_eq_true rfl, Nat.le_of_ble_eq_true rfl⟩ (Nat.le_of_ble_eq_true rfl) dL_law_158 rfl (fun r7 w7 h7 => ?_)
  have hz : ∃ z : Int, r7 = some (.int (iI z)) := by
    rcases h7 with ⟨_, h, _⟩ | ⟨_, ⟨_, h, _⟩ | ⟨_, h, _⟩⟩ <;> exact ⟨_, h⟩
  obtain ⟨z9, rfl⟩ := hz
  refine g_aload_n C (n' := 162) 1 rfl dL_law_161 rfl rfl ?_
  refine g_aload_n C (n' := 163) 3 rfl dL_law_162 rfl rfl ?_
  refine g_iload_n C (n' := 164) 0 rfl dL_law_163 rfl rfl ?_
  refine g_iconst C (n' := 165) dL_law_164 rfl ?_
  refine g_iadd C (n' := 166) dL_law_165 rfl ?_
  refine g_ti C (n' := 167) C.2.2.2.2.2.2.2.2.2.2.2 (by omega) (by omega) (by omega) (v := .int (iI (xI (i + 1).toNat))) rfl dL_law_166 rfl ?_
  refine g_callV C (n' := 170) (As := [.int (iI (xI (i + 1).toNat))]) (c_X8_write l D Y C.2.2.2.2.2.2.2.2.1 qm I A F Dd (xI (i + 1).toNat) R.2.2.2.2.2.2.2.1.1 R.2.2.2.2.2.2.2.1.2.1 (hxs _) (R_11 R)) 1 kw_797 kc_X8_write (by decide +kernel) pM 0 (ci := 6) rfl rfl rfl rfl ⟨Nat.le_of_ble_eq_true rfl, Nat.le_of_ble_eq_true rfl⟩ ⟨rfl, rfl⟩ ⟨Nat.le_of_ble_eq_true rfl, Nat.le_of_ble_eq_true rfl⟩ (Nat.le_of_ble_eq_true rfl) dL_law_167 rfl (fun r8 w8 h8 => ?_)
  obtain ⟨z, e7, rfl, K1, It1, L1, Jd1, Nd1, J1, N1, Js1, Ns1, Jk1, Nk1, Ih1, Ah1, Ip1, Ap1, Bp1, Ir1, V1, M1, I1, A1, F1, Dd1, R1, hp⟩ := pr_write R h7 h8
  have e8 := Value.int.inj (Option.some.inj e7)
  rw [e8]
  refine g_same C 860 dL_law_170 (by decide) ?_
  refine g_perm hp ?_
  exact k _ _ _ _ _ _ _ _ _ _ _ _ _ _ _ _ _ _ _ _ _ _ _ R1

theorem lw_erase (C : g_Cx p s m args c cL_law 4 RL D (tysY Y) A9 (eLaw e9 b Ln xI)) (hi : 0 ≤ i ∧ i + 6 ≤ Ln ∧ Ln ≤ 3072) (hxs : ∀ k, inR (xI k)) (R : (REL K It L Jd Nd J N Js Ns Jk Nk Ih Ah Ip Ap Bp Ir V M I A F Dd)) (k : ∀ (K It L : Nat → Int) (Jd : Nat → Int) (Nd : Nat → Nat → Int) (J : Nat → Int) (N : Nat → Nat → Int) (Js : Nat → Int) (Ns : Nat → Nat → Int) (Jk : Nat → Nat → Int) (Nk : Nat → Nat → Nat → Int) (Ih : Nat → Int) (Ah : Nat → Nat → Int) (Ip : Nat → Int) (Ap Bp : Nat → Nat → Int) (Ir : Nat → Nat → Int) (V : Nat → Nat → UInt64) (M : Nat → Nat → Int) (I : Nat → Int) (A : Nat → Nat → Int) (F : Nat → UInt32) (Dd : Nat → UInt64), (REL K It L Jd Nd J N Js Ns Jk Nk Ih Ah Ip Ap Bp Ir V M I A F Dd) → g_G p l e room_1 s m args below meth c 4 D A9 Q 77 1630 (wS q Y qt qd qn qs qk qh qp qr qm K It L Jd Nd J N Js Ns Jk Nk Ih Ah Ip Ap Bp Ir V M I A F Dd) [(3, .int (iI i)), (2, .ref (qm 99)), (1, .ref (q 99)), (0, .ref b)] 860 []) : g_G p l e room_1 s m args below meth c 4 D A9 Q 77 1630 (wS q Y qt qd qn qs qk qh qp qr qm K It L Jd Nd J N Js Ns Jk Nk Ih Ah Ip Ap Bp Ir V M I A F Dd) [(3, .int (iI i)), (2, .ref (qm 99)), (1, .ref (q 99)), (0, .ref b)] 175 [] := by
  refine g_aload_n C (n' := 176) 2 rfl dL_law_175 rfl rfl ?_
  refine g_callV C (n' := 179) (As := []) (c_X7_erase l D Y C.2.2.2.2.2.2.2.2.1 q qt qd qn qs qk qh qp qr K It L) 0 kw_228 kc_X7_erase (by decide +kernel) (pS_text _ _ _ _ _ _ _ _ _ _ _ _ _) 0 (ci := 5) rfl rfl rfl rfl ⟨Nat.le_of_ble_eq_true rfl, Nat.le_of_ble_eq_true rfl⟩ ⟨rfl, rfl⟩ ⟨Nat.le_of_ble_eq_true rfl, Nat.le_of_ble_eq_true rfl⟩ (Nat.le_of_ble_eq_true rfl) dL_law_176 rfl (fun r7 w7 h7 => ?_)
  have hz : ∃ z : Int, r7 = some (.int (iI z)) := by
    exact ⟨_, h7.1⟩
  obtain ⟨z9, rfl⟩ := hz
  refine g_aload_n C (n' := 180) 1 rfl dL_law_179 rfl rfl ?_
  refine g_callV C (n' := 183) (As := []) (c_X8_erase l D Y C.2.2.2.2.2.2.2.2.1 qm I A F Dd R.2.2.2.2.2.2.2.1.1 R.2.2.2.2.2.2.2.1.2.1) 0 kw_805 kc_X8_erase (by decide +kernel) pM 0 (ci := 6) rfl rfl rfl rfl ⟨Nat.le_of_ble_eq_true rfl, Nat.le_of_ble_eq_true rfl⟩ ⟨rfl, rfl⟩ ⟨Nat.le_of_ble_eq_true rfl, Nat.le_of_ble_eq_true rfl⟩ (Nat.le_of_ble_eq_true rfl) dL_law_180 rfl (fun r8 w8 h8 => ?_)
  obtain ⟨z, e7, rfl, K1, It1, L1, Jd1, Nd1, J1, N1, Js1, Ns1, Jk1, Nk1, Ih1, Ah1, Ip1, Ap1, Bp1, Ir1, V1, M1, I1, A1, F1, Dd1, R1, hp⟩ := pr_erase R h7 h8
  have e8 := Value.int.inj (Option.some.inj e7)
  rw [e8]
  refine g_same C 860 dL_law_183 (by decide) ?_
  refine g_perm hp ?_
  exact k _ _ _ _ _ _ _ _ _ _ _ _ _ _ _ _ _ _ _ _ _ _ _ R1

theorem lw_fault (C : g_Cx p s m args c cL_law 4 RL D (tysY Y) A9 (eLaw e9 b Ln xI)) (hi : 0 ≤ i ∧ i + 6 ≤ Ln ∧ Ln ≤ 3072) (hxs : ∀ k, inR (xI k)) (R : (REL K It L Jd Nd J N Js Ns Jk Nk Ih Ah Ip Ap Bp Ir V M I A F Dd)) (k : ∀ (K It L : Nat → Int) (Jd : Nat → Int) (Nd : Nat → Nat → Int) (J : Nat → Int) (N : Nat → Nat → Int) (Js : Nat → Int) (Ns : Nat → Nat → Int) (Jk : Nat → Nat → Int) (Nk : Nat → Nat → Nat → Int) (Ih : Nat → Int) (Ah : Nat → Nat → Int) (Ip : Nat → Int) (Ap Bp : Nat → Nat → Int) (Ir : Nat → Nat → Int) (V : Nat → Nat → UInt64) (M : Nat → Nat → Int) (I : Nat → Int) (A : Nat → Nat → Int) (F : Nat → UInt32) (Dd : Nat → UInt64), (REL K It L Jd Nd J N Js Ns Jk Nk Ih Ah Ip Ap Bp Ir V M I A F Dd) → g_G p l e room_1 s m args below meth c 4 D A9 Q 77 1630 (wS q Y qt qd qn qs qk qh qp qr qm K It L Jd Nd J N Js Ns Jk Nk Ih Ah Ip Ap Bp Ir V M I A F Dd) [(3, .int (iI i)), (2, .ref (qm 99)), (1, .ref (q 99)), (0, .ref b)] 860 []) : g_G p l e room_1 s m args below meth c 4 D A9 Q 77 1630 (wS q Y qt qd qn qs qk qh qp qr qm K It L Jd Nd J N Js Ns Jk Nk Ih Ah Ip Ap Bp Ir V M I A F Dd) [(3, .int (iI i)), (2, .ref (qm 99)), (1, .ref (q 99)), (0, .ref b)] 188 [] := by
  refine g_aload_n C (n' := 189) 2 rfl dL_law_188 rfl rfl ?_
  refine g_callV C (n' := 192) (As := []) (c_X7_fault l D Y C.2.2.2.2.2.2.2.2.1 q qt qd qn qs qk qh qp qr K It L Jd Nd Js Ns e9 R.1.1 R.1.2.1 R.1.2.2.1 R.2.2.1.1 R.2.2.1.2.1 R.2.2.1.2.2.1 R.2.2.2.1.1 R.2.2.2.1.2 eLaw_e) 0 kw_236 kc_X7_fault (by decide +kernel) (pS_fault _ _ _ _ _ _ _ _ _ _ _ _ _) 0 (ci := 5) rfl rfl rfl rfl ⟨Nat.le_of_ble_eq_true rfl, Nat.le_of_ble_eq_true rfl⟩ ⟨rfl, rfl⟩ ⟨Nat.le_of_ble_eq_true rfl, Nat.le_of_ble_eq_true rfl⟩ (Nat.le_of_ble_eq_true rfl) dL_law_189 rfl (fun r7 w7 h7 => ?_)
  have hz : ∃ z : Int, r7 = some (.int (iI z)) := by
    obtain ⟨_, _, _, _, _, _, h⟩ := h7
    exact ⟨_, h⟩
  obtain ⟨z9, rfl⟩ := hz
  refine g_aload_n C (n' := 193) 1 rfl dL_law_192 rfl rfl ?_
  refine g_callV C (n' := 196) (As := []) (c_X8_fault l D Y C.2.2.2.2.2.2.2.2.1 qm I A F Dd (n_cpI Js Jd) (n_cpA Ns Nd) R.2.2.2.2.2.2.2.1.1 R.2.2.2.2.2.2.2.1.2.1 R.2.2.2.2.2.2.2.1.2.2.1 (R_11 R) (okN_cp R.2.2.1.2.2.1) ⟨(R_told R).1, (R_told R).2.2.2.2.2.1⟩) 0 kw_809 kc_X8_fault (by decide +kernel) pM 0 (ci := 6) rfl rfl rfl rfl ⟨Nat.le_of_ble_eq_true rfl, Nat.le_of_ble_eq_true rfl⟩ ⟨rfl, rfl⟩ ⟨Nat.le_of_ble_eq_true rfl, Nat.le_of_ble_eq_true rfl⟩ (Nat.le_of_ble_eq_true rfl) dL_law_193 rfl (fun r8 w8 h8 => ?_)
  obtain ⟨z, e7, rfl, K1, It1, L1, Jd1, Nd1, J1, N1, Js1, Ns1, Jk1, Nk1, Ih1, Ah1, Ip1, Ap1, Bp1, Ir1, V1, M1, I1, A1, F1, Dd1, R1, hp⟩ := pr_fault R h7 h8
  have e8 := Value.int.inj (Option.some.inj e7)
  rw [e8]
  refine g_same C 860 dL_law_196 (by decide) ?_
  refine g_perm hp ?_
  exact k _ _ _ _ _ _ _ _ _ _ _ _ _ _ _ _ _ _ _ _ _ _ _ R1

theorem lw_net (C : g_Cx p s m args c cL_law 4 RL D (tysY Y) A9 (eLaw e9 b Ln xI)) (hi : 0 ≤ i ∧ i + 6 ≤ Ln ∧ Ln ≤ 3072) (hxs : ∀ k, inR (xI k)) (R : (REL K It L Jd Nd J N Js Ns Jk Nk Ih Ah Ip Ap Bp Ir V M I A F Dd)) (k : ∀ (K It L : Nat → Int) (Jd : Nat → Int) (Nd : Nat → Nat → Int) (J : Nat → Int) (N : Nat → Nat → Int) (Js : Nat → Int) (Ns : Nat → Nat → Int) (Jk : Nat → Nat → Int) (Nk : Nat → Nat → Nat → Int) (Ih : Nat → Int) (Ah : Nat → Nat → Int) (Ip : Nat → Int) (Ap Bp : Nat → Nat → Int) (Ir : Nat → Nat → Int) (V : Nat → Nat → UInt64) (M : Nat → Nat → Int) (I : Nat → Int) (A : Nat → Nat → Int) (F : Nat → UInt32) (Dd : Nat → UInt64), (REL K It L Jd Nd J N Js Ns Jk Nk Ih Ah Ip Ap Bp Ir V M I A F Dd) → g_G p l e room_1 s m args below meth c 4 D A9 Q 77 1630 (wS q Y qt qd qn qs qk qh qp qr qm K It L Jd Nd J N Js Ns Jk Nk Ih Ah Ip Ap Bp Ir V M I A F Dd) [(3, .int (iI i)), (2, .ref (qm 99)), (1, .ref (q 99)), (0, .ref b)] 860 []) : g_G p l e room_1 s m args below meth c 4 D A9 Q 77 1630 (wS q Y qt qd qn qs qk qh qp qr qm K It L Jd Nd J N Js Ns Jk Nk Ih Ah Ip Ap Bp Ir V M I A F Dd) [(3, .int (iI i)), (2, .ref (qm 99)), (1, .ref (q 99)), (0, .ref b)] 201 [] := by
  refine g_aload_n C (n' := 202) 2 rfl dL_law_201 rfl rfl ?_
  refine g_callV C (n' := 205) (As := []) (c_X7_net l D Y C.2.2.2.2.2.2.2.2.1 q qt qd qn qs qk qh qp qr K It L Jd Nd J N Js Ns Ih Ah (Ir 0) (V 0) (M 0) (Ir 1) (V 1) (M 1) (Ir 2) (V 2) (M 2) e9 R.1.1 R.1.2.1 R.1.2.2.1 R.2.2.1.1 R.2.2.1.2.1 R.2.2.1.2.2.1 R.2.2.2.1.1 R.2.2.2.1.2 eLaw_e) 0 kw_359 kc_X7_net (by decide +kernel) (pS_net _ _ _ _ _ _ _ _ _ _ _ _ _) 0 (ci := 5) rfl rfl rfl rfl ⟨Nat.le_of_ble_eq_true rfl, Nat.le_of_ble_eq_true rfl⟩ ⟨rfl, rfl⟩ ⟨Nat.le_of_ble_eq_true rfl, Nat.le_of_ble_eq_true rfl⟩ (Nat.le_of_ble_eq_true rfl) dL_law_202 rfl (fun r7 w7 h7 => ?_)
  have hz : ∃ z : Int, r7 = some (.int (iI z)) := by
    obtain ⟨_, _, _, _, _, h7⟩ := h7
    rcases h7 with ⟨_, h, _⟩ | ⟨_, h, _⟩ <;> exact ⟨_, h⟩
  obtain ⟨z9, rfl⟩ := hz
  refine g_aload_n C (n' := 206) 1 rfl dL_law_205 rfl rfl ?_
  refine g_callV C (n' := 209) (As := []) (c_X8_net l D Y C.2.2.2.2.2.2.2.2.1 qm I A F Dd (n_cpI Js Jd) (n_cpA Ns Nd) R.2.2.2.2.2.2.2.1.1 R.2.2.2.2.2.2.2.1.2.1 R.2.2.2.2.2.2.2.1.2.2.1 (R_11 R) (okN_cp R.2.2.1.2.2.1) (mNv_cp (R_16 R).2 (R_told R))) 0 kw_855 kc_X8_net (by decide +kernel) pM 0 (ci := 6) rfl rfl rfl rfl ⟨Nat.le_of_ble_eq_true rfl, Nat.le_of_ble_eq_true rfl⟩ ⟨rfl, rfl⟩ ⟨Nat.le_of_ble_eq_true rfl, Nat.le_of_ble_eq_true rfl⟩ (Nat.le_of_ble_eq_true rfl) dL_law_206 rfl (fun r8 w8 h8 => ?_)
  obtain ⟨z, e7, rfl, K1, It1, L1, Jd1, Nd1, J1, N1, Js1, Ns1, Jk1, Nk1, Ih1, Ah1, Ip1, Ap1, Bp1, Ir1, V1, M1, I1, A1, F1, Dd1, R1, hp⟩ := pr_net R h7 h8
  have e8 := Value.int.inj (Option.some.inj e7)
  rw [e8]
  refine g_same C 860 dL_law_209 (by decide) ?_
  refine g_perm hp ?_
  exact k _ _ _ _ _ _ _ _ _ _ _ _ _ _ _ _ _ _ _ _ _ _ _ R1

theorem lw_path (C : g_Cx p s m args c cL_law 4 RL D (tysY Y) A9 (eLaw e9 b Ln xI)) (hi : 0 ≤ i ∧ i + 6 ≤ Ln ∧ Ln ≤ 3072) (hxs : ∀ k, inR (xI k)) (R : (REL K It L Jd Nd J N Js Ns Jk Nk Ih Ah Ip Ap Bp Ir V M I A F Dd)) (k : ∀ (K It L : Nat → Int) (Jd : Nat → Int) (Nd : Nat → Nat → Int) (J : Nat → Int) (N : Nat → Nat → Int) (Js : Nat → Int) (Ns : Nat → Nat → Int) (Jk : Nat → Nat → Int) (Nk : Nat → Nat → Nat → Int) (Ih : Nat → Int) (Ah : Nat → Nat → Int) (Ip : Nat → Int) (Ap Bp : Nat → Nat → Int) (Ir : Nat → Nat → Int) (V : Nat → Nat → UInt64) (M : Nat → Nat → Int) (I : Nat → Int) (A : Nat → Nat → Int) (F : Nat → UInt32) (Dd : Nat → UInt64), (REL K It L Jd Nd J N Js Ns Jk Nk Ih Ah Ip Ap Bp Ir V M I A F Dd) → g_G p l e room_1 s m args below meth c 4 D A9 Q 77 1630 (wS q Y qt qd qn qs qk qh qp qr qm K It L Jd Nd J N Js Ns Jk Nk Ih Ah Ip Ap Bp Ir V M I A F Dd) [(3, .int (iI i)), (2, .ref (qm 99)), (1, .ref (q 99)), (0, .ref b)] 860 []) : g_G p l e room_1 s m args below meth c 4 D A9 Q 77 1630 (wS q Y qt qd qn qs qk qh qp qr qm K It L Jd Nd J N Js Ns Jk Nk Ih Ah Ip Ap Bp Ir V M I A F Dd) [(3, .int (iI i)), (2, .ref (qm 99)), (1, .ref (q 99)), (0, .ref b)] 214 [] := by
  refine g_aload_n C (n' := 215) 2 rfl dL_law_214 rfl rfl ?_
  refine g_aload_n C (n' := 216) 3 rfl dL_law_215 rfl rfl ?_
  refine g_iload_n C (n' := 217) 0 rfl dL_law_216 rfl rfl ?_
  refine g_iconst C (n' := 218) dL_law_217 rfl ?_
  refine g_iadd C (n' := 219) dL_law_218 rfl ?_
  refine g_ti C (n' := 220) C.2.2.2.2.2.2.2.2.2.2.2 (by omega) (by omega) (by omega) (v := .int (iI (xI (i + 1).toNat))) rfl dL_law_219 rfl ?_
  refine g_aload_n C (n' := 221) 3 rfl dL_law_220 rfl rfl ?_
  refine g_iload_n C (n' := 222) 0 rfl dL_law_221 rfl rfl ?_
  refine g_iconst C (n' := 223) dL_law_222 rfl ?_
  refine g_iadd C (n' := 224) dL_law_223 rfl ?_
  refine g_ti C (n' := 225) C.2.2.2.2.2.2.2.2.2.2.2 (by omega) (by omega) (by omega) (v := .int (iI (xI (i + 2).toNat))) rfl dL_law_224 rfl ?_
  refine g_callV C (n' := 228) (As := [.int (iI (xI (i + 1).toNat)), .int (iI (xI (i + 2).toNat))]) (c_X7_path l D Y C.2.2.2.2.2.2.2.2.1 q qt qd qn qs qk qh qp qr K J N (xI (i + 1).toNat) (xI (i + 2).toNat) R.2.1.1 R.2.1.2.1 R.2.1.2.2.1 (hxs _) (hxs _)) 2 kw_376 kc_X7_path (by decide +kernel) (pS_now _ _ _ _ _ _ _ _ _ _ _ _ _) 0 (ci := 5) rfl rfl rfl rfl ⟨Nat.le_of_ble_eq_true rfl, Nat.le_of_ble_eq_true rfl⟩ ⟨rfl, rfl⟩ ⟨Nat.le_of_ble_eq_true rfl, Nat.le_of_ble_eq_true rfl⟩ (Nat.le_of_ble_eq_true rfl) dL_law_225 rfl (fun r7 w7 h7 => ?_)
  have hz : ∃ z : Int, r7 = some (.int (iI z)) := by
    exact ⟨_, h7.1⟩
  obtain ⟨z9, rfl⟩ := hz
  refine g_aload_n C (n' := 229) 1 rfl dL_law_228 rfl rfl ?_
  refine g_aload_n C (n' := 230) 3 rfl dL_law_229 rfl rfl ?_
  refine g_iload_n C (n' := 231) 0 rfl dL_law_230 rfl rfl ?_
  refine g_iconst C (n' := 232) dL_law_231 rfl ?_
  refine g_iadd C (n' := 233) dL_law_232 rfl ?_
  refine g_ti C (n' := 234) C.2.2.2.2.2.2.2.2.2.2.2 (by omega) (by omega) (by omega) (v := .int (iI (xI (i + 1).toNat))) rfl dL_law_233 rfl ?_
  refine g_aload_n C (n' := 235) 3 rfl dL_law_234 rfl rfl ?_
  refine g_iload_n C (n' := 236) 0 rfl dL_law_235 rfl rfl ?_
  refine g_iconst C (n' := 237) dL_law_236 rfl ?_
  refine g_iadd C (n' := 238) dL_law_237 rfl ?_
  refine g_ti C (n' := 239) C.2.2.2.2.2.2.2.2.2.2.2 (by omega) (by omega) (by omega) (v := .int (iI (xI (i + 2).toNat))) rfl dL_law_238 rfl ?_
  refine g_callV C (n' := 242) (As := [.int (iI (xI (i + 1).toNat)), .int (iI (xI (i + 2).toNat))]) (c_X8_path l D Y C.2.2.2.2.2.2.2.2.1 qm I A F Dd (xI (i + 1).toNat) (xI (i + 2).toNat) R.2.2.2.2.2.2.2.1.1 R.2.2.2.2.2.2.2.1.2.1 (R_o R) (hxs _) (hxs _)) 2 kw_859 kc_X8_path (by decide +kernel) pM 0 (ci := 6) rfl rfl rfl rfl ⟨Nat.le_of_ble_eq_true rfl, Nat.le_of_ble_eq_true rfl⟩ ⟨rfl, rfl⟩ ⟨Nat.le_of_ble_eq_true rfl, Nat.le_of_ble_eq_true rfl⟩ (Nat.le_of_ble_eq_true rfl) dL_law_239 rfl (fun r8 w8 h8 => ?_)
  obtain ⟨z, e7, rfl, K1, It1, L1, Jd1, Nd1, J1, N1, Js1, Ns1, Jk1, Nk1, Ih1, Ah1, Ip1, Ap1, Bp1, Ir1, V1, M1, I1, A1, F1, Dd1, R1, hp⟩ := pr_path R h7 h8
  have e8 := Value.int.inj (Option.some.inj e7)
  rw [e8]
  refine g_same C 860 dL_law_242 (by decide) ?_
  refine g_perm hp ?_
  exact k _ _ _ _ _ _ _ _ _ _ _ _ _ _ _ _ _ _ _ _ _ _ _ R1

theorem lw_period (C : g_Cx p s m args c cL_law 4 RL D (tysY Y) A9 (eLaw e9 b Ln xI)) (hi : 0 ≤ i ∧ i + 6 ≤ Ln ∧ Ln ≤ 3072) (hxs : ∀ k, inR (xI k)) (R : (REL K It L Jd Nd J N Js Ns Jk Nk Ih Ah Ip Ap Bp Ir V M I A F Dd)) (k : ∀ (K It L : Nat → Int) (Jd : Nat → Int) (Nd : Nat → Nat → Int) (J : Nat → Int) (N : Nat → Nat → Int) (Js : Nat → Int) (Ns : Nat → Nat → Int) (Jk : Nat → Nat → Int) (Nk : Nat → Nat → Nat → Int) (Ih : Nat → Int) (Ah : Nat → Nat → Int) (Ip : Nat → Int) (Ap Bp : Nat → Nat → Int) (Ir : Nat → Nat → Int) (V : Nat → Nat → UInt64) (M : Nat → Nat → Int) (I : Nat → Int) (A : Nat → Nat → Int) (F : Nat → UInt32) (Dd : Nat → UInt64), (REL K It L Jd Nd J N Js Ns Jk Nk Ih Ah Ip Ap Bp Ir V M I A F Dd) → g_G p l e room_1 s m args below meth c 4 D A9 Q 77 1630 (wS q Y qt qd qn qs qk qh qp qr qm K It L Jd Nd J N Js Ns Jk Nk Ih Ah Ip Ap Bp Ir V M I A F Dd) [(3, .int (iI i)), (2, .ref (qm 99)), (1, .ref (q 99)), (0, .ref b)] 860 []) : g_G p l e room_1 s m args below meth c 4 D A9 Q 77 1630 (wS q Y qt qd qn qs qk qh qp qr qm K It L Jd Nd J N Js Ns Jk Nk Ih Ah Ip Ap Bp Ir V M I A F Dd) [(3, .int (iI i)), (2, .ref (qm 99)), (1, .ref (q 99)), (0, .ref b)] 247 [] := by
  refine g_aload_n C (n' := 248) 2 rfl dL_law_247 rfl rfl ?_
  refine g_aload_n C (n' := 249) 3 rfl dL_law_248 rfl rfl ?_
  refine g_iload_n C (n' := 250) 0 rfl dL_law_249 rfl rfl ?_
  refine g_iconst C (n' := 251) dL_law_250 rfl ?_
  refine g_iadd C (n' := 252) dL_law_251 rfl ?_
  refine g_ti C (n' := 253) C.2.2.2.2.2.2.2.2.2.2.2 (by omega) (by omega) (by omega) (v := .int (iI (xI (i + 1).toNat))) rfl dL_law_252 rfl ?_
  refine g_callV C (n' := 256) (As := [.int (iI (xI (i + 1).toNat))]) (c_X7_period l D Y C.2.2.2.2.2.2.2.2.1 q qt qd qn qs qk qh qp qr K J N Ih Ah (xI (i + 1).toNat) R.2.1.1 R.2.1.2.1 R.2.1.2.2.1 R.2.2.2.2.2.1.1 R.2.2.2.2.2.1.2.1 R.2.2.2.2.2.1.2.2.1 R.2.2.2.2.2.1.2.2.2.1 (hxs _)) 1 kw_392 kc_X7_period (by decide +kernel) (pS_nh _ _ _ _ _ _ _ _ _ _ _ _ _) 0 (ci := 5) rfl rfl rfl rfl ⟨Nat.le_of_ble_eq_true rfl, Nat.le_of_ble_eq_true rfl⟩ ⟨rfl, rfl⟩ ⟨Nat.le_of_ble_eq_true rfl, Nat.le_of_ble_eq_true rfl⟩ (Nat.le_of_ble_eq_true rfl) dL_law_253 rfl (fun r7 w7 h7 => ?_)
  have hz : ∃ z : Int, r7 = some (.int (iI z)) := by
    rcases h7 with ⟨_, h, _⟩ | ⟨_, ⟨_, h, _⟩ | ⟨_, h, _⟩⟩ <;> exact ⟨_, h⟩
  obtain ⟨z9, rfl⟩ := hz
  refine g_aload_n C (n' := 257) 1 rfl dL_law_256 rfl rfl ?_
  refine g_aload_n C (n' := 258) 3 rfl dL_law_257 rfl rfl ?_
  refine g_iload_n C (n' := 259) 0 rfl dL_law_258 rfl rfl ?_
  refine g_iconst C (n' := 260) dL_law_259 rfl ?_
  refine g_iadd C (n' := 261) dL_law_260 rfl ?_
  refine g_ti C (n' := 262) C.2.2.2.2.2.2.2.2.2.2.2 (by omega) (by omega) (by omega) (v := .int (iI (xI (i + 1).toNat))) rfl dL_law_261 rfl ?_
  refine g_callV C (n' := 265) (As := [.int (iI (xI (i + 1).toNat))]) (c_X8_period l D Y C.2.2.2.2.2.2.2.2.1 qm I A F Dd (xI (i + 1).toNat) R.2.2.2.2.2.2.2.1.1 R.2.2.2.2.2.2.2.1.2.1 (R_o R) (R_8 R) (hxs _)) 1 kw_875 kc_X8_period (by decide +kernel) pM 0 (ci := 6) rfl rfl rfl rfl ⟨Nat.le_of_ble_eq_true rfl, Nat.le_of_ble_eq_true rfl⟩ ⟨rfl, rfl⟩ ⟨Nat.le_of_ble_eq_true rfl, Nat.le_of_ble_eq_true rfl⟩ (Nat.le_of_ble_eq_true rfl) dL_law_262 rfl (fun r8 w8 h8 => ?_)
  obtain ⟨z, e7, rfl, K1, It1, L1, Jd1, Nd1, J1, N1, Js1, Ns1, Jk1, Nk1, Ih1, Ah1, Ip1, Ap1, Bp1, Ir1, V1, M1, I1, A1, F1, Dd1, R1, hp⟩ := pr_period R h7 h8
  have e8 := Value.int.inj (Option.some.inj e7)
  rw [e8]
  refine g_same C 860 dL_law_265 (by decide) ?_
  refine g_perm hp ?_
  exact k _ _ _ _ _ _ _ _ _ _ _ _ _ _ _ _ _ _ _ _ _ _ _ R1

theorem lw_slower (C : g_Cx p s m args c cL_law 4 RL D (tysY Y) A9 (eLaw e9 b Ln xI)) (hi : 0 ≤ i ∧ i + 6 ≤ Ln ∧ Ln ≤ 3072) (hxs : ∀ k, inR (xI k)) (R : (REL K It L Jd Nd J N Js Ns Jk Nk Ih Ah Ip Ap Bp Ir V M I A F Dd)) (k : ∀ (K It L : Nat → Int) (Jd : Nat → Int) (Nd : Nat → Nat → Int) (J : Nat → Int) (N : Nat → Nat → Int) (Js : Nat → Int) (Ns : Nat → Nat → Int) (Jk : Nat → Nat → Int) (Nk : Nat → Nat → Nat → Int) (Ih : Nat → Int) (Ah : Nat → Nat → Int) (Ip : Nat → Int) (Ap Bp : Nat → Nat → Int) (Ir : Nat → Nat → Int) (V : Nat → Nat → UInt64) (M : Nat → Nat → Int) (I : Nat → Int) (A : Nat → Nat → Int) (F : Nat → UInt32) (Dd : Nat → UInt64), (REL K It L Jd Nd J N Js Ns Jk Nk Ih Ah Ip Ap Bp Ir V M I A F Dd) → g_G p l e room_1 s m args below meth c 4 D A9 Q 77 1630 (wS q Y qt qd qn qs qk qh qp qr qm K It L Jd Nd J N Js Ns Jk Nk Ih Ah Ip Ap Bp Ir V M I A F Dd) [(3, .int (iI i)), (2, .ref (qm 99)), (1, .ref (q 99)), (0, .ref b)] 860 []) : g_G p l e room_1 s m args below meth c 4 D A9 Q 77 1630 (wS q Y qt qd qn qs qk qh qp qr qm K It L Jd Nd J N Js Ns Jk Nk Ih Ah Ip Ap Bp Ir V M I A F Dd) [(3, .int (iI i)), (2, .ref (qm 99)), (1, .ref (q 99)), (0, .ref b)] 270 [] := by
  refine g_aload_n C (n' := 271) 2 rfl dL_law_270 rfl rfl ?_
  refine g_aload_n C (n' := 272) 3 rfl dL_law_271 rfl rfl ?_
  refine g_iload_n C (n' := 273) 0 rfl dL_law_272 rfl rfl ?_
  refine g_iconst C (n' := 274) dL_law_273 rfl ?_
  refine g_iadd C (n' := 275) dL_law_274 rfl ?_
  refine g_ti C (n' := 276) C.2.2.2.2.2.2.2.2.2.2.2 (by omega) (by omega) (by omega) (v := .int (iI (xI (i + 1).toNat))) rfl dL_law_275 rfl ?_
  refine g_aload_n C (n' := 277) 3 rfl dL_law_276 rfl rfl ?_
  refine g_iload_n C (n' := 278) 0 rfl dL_law_277 rfl rfl ?_
  refine g_iconst C (n' := 279) dL_law_278 rfl ?_
  refine g_iadd C (n' := 280) dL_law_279 rfl ?_
  refine g_ti C (n' := 281) C.2.2.2.2.2.2.2.2.2.2.2 (by omega) (by omega) (by omega) (v := .int (iI (xI (i + 2).toNat))) rfl dL_law_280 rfl ?_
  refine g_callV C (n' := 284) (As := [.int (iI (xI (i + 1).toNat)), .int (iI (xI (i + 2).toNat))]) (c_X7_slower l D Y C.2.2.2.2.2.2.2.2.1 q qt qd qn qs qk qh qp qr K J N Ih Ah (xI (i + 1).toNat) (xI (i + 2).toNat) R.2.1.1 R.2.1.2.1 R.2.1.2.2.1 R.2.2.2.2.2.1.1 R.2.2.2.2.2.1.2.1 R.2.2.2.2.2.1.2.2.1 R.2.2.2.2.2.1.2.2.2.1 (hxs _) (hxs _)) 2 kw_403 kc_X7_slower (by decide +kernel) (pS_nh _ _ _ _ _ _ _ _ _ _ _ _ _) 0 (ci := 5) rfl rfl rfl rfl ⟨Nat.le_of_ble_eq_true rfl, Nat.le_of_ble_eq_true rfl⟩ ⟨rfl, rfl⟩ ⟨Nat.le_of_ble_eq_true rfl, Nat.le_of_ble_eq_true rfl⟩ (Nat.le_of_ble_eq_true rfl) dL_law_281 rfl (fun r7 w7 h7 => ?_)
  have hz : ∃ z : Int, r7 = some (.int (iI z)) := by
    rcases h7 with ⟨_, h, _⟩ | ⟨_, ⟨_, h, _⟩ | ⟨_, ⟨_, h, _⟩ | ⟨_, h, _⟩⟩⟩ <;> exact ⟨_, h⟩
  obtain ⟨z9, rfl⟩ := hz
  refine g_aload_n C (n' := 285) 1 rfl dL_law_284 rfl rfl ?_
  refine g_aload_n C (n' := 286) 3 rfl dL_law_285 rfl rfl ?_
  refine g_iload_n C (n' := 287) 0 rfl dL_law_286 rfl rfl ?_
  refine g_iconst C (n' := 288) dL_law_287 rfl ?_
  refine g_iadd C (n' := 289) dL_law_288 rfl ?_
  refine g_ti C (n' := 290) C.2.2.2.2.2.2.2.2.2.2.2 (by omega) (by omega) (by omega) (v := .int (iI (xI (i + 1).toNat))) rfl dL_law_289 rfl ?_
  refine g_aload_n C (n' := 291) 3 rfl dL_law_290 rfl rfl ?_
  refine g_iload_n C (n' := 292) 0 rfl dL_law_291 rfl rfl ?_
  refine g_iconst C (n' := 293) dL_law_292 rfl ?_
  refine g_iadd C (n' := 294) dL_law_293 rfl ?_
  refine g_ti C (n' := 295) C.2.2.2.2.2.2.2.2.2.2.2 (by omega) (by omega) (by omega) (v := .int (iI (xI (i + 2).toNat))) rfl dL_law_294 rfl ?_
  refine g_callV C (n' := 298) (As := [.int (iI (xI (i + 1).toNat)), .int (iI (xI (i + 2).toNat))]) (c_X8_slower l D Y C.2.2.2.2.2.2.2.2.1 qm I A F Dd (xI (i + 1).toNat) (xI (i + 2).toNat) R.2.2.2.2.2.2.2.1.1 R.2.2.2.2.2.2.2.1.2.1 (R_o R) (R_8 R) (hxs _) (hxs _)) 2 kw_884 kc_X8_slower (by decide +kernel) pM 0 (ci := 6) rfl rfl rfl rfl ⟨Nat.le_of_ble_eq_true rfl, Nat.le_of_ble_eq_true rfl⟩ ⟨rfl, rfl⟩ ⟨Nat.le_of_ble_eq_true rfl, Nat.le_of_ble_eq_true rfl⟩ (Nat.le_of_ble_eq_true rfl) dL_law_295 rfl (fun r8 w8 h8 => ?_)
  obtain ⟨z, e7, rfl, K1, It1, L1, Jd1, Nd1, J1, N1, Js1, Ns1, Jk1, Nk1, Ih1, Ah1, Ip1, Ap1, Bp1, Ir1, V1, M1, I1, A1, F1, Dd1, R1, hp⟩ := pr_slower R h7 h8
  have e8 := Value.int.inj (Option.some.inj e7)
  rw [e8]
  refine g_same C 860 dL_law_298 (by decide) ?_
  refine g_perm hp ?_
  exact k _ _ _ _ _ _ _ _ _ _ _ _ _ _ _ _ _ _ _ _ _ _ _ R1

theorem lw_undo (C : g_Cx p s m args c cL_law 4 RL D (tysY Y) A9 (eLaw e9 b Ln xI)) (hi : 0 ≤ i ∧ i + 6 ≤ Ln ∧ Ln ≤ 3072) (hxs : ∀ k, inR (xI k)) (R : (REL K It L Jd Nd J N Js Ns Jk Nk Ih Ah Ip Ap Bp Ir V M I A F Dd)) (k : ∀ (K It L : Nat → Int) (Jd : Nat → Int) (Nd : Nat → Nat → Int) (J : Nat → Int) (N : Nat → Nat → Int) (Js : Nat → Int) (Ns : Nat → Nat → Int) (Jk : Nat → Nat → Int) (Nk : Nat → Nat → Nat → Int) (Ih : Nat → Int) (Ah : Nat → Nat → Int) (Ip : Nat → Int) (Ap Bp : Nat → Nat → Int) (Ir : Nat → Nat → Int) (V : Nat → Nat → UInt64) (M : Nat → Nat → Int) (I : Nat → Int) (A : Nat → Nat → Int) (F : Nat → UInt32) (Dd : Nat → UInt64), (REL K It L Jd Nd J N Js Ns Jk Nk Ih Ah Ip Ap Bp Ir V M I A F Dd) → g_G p l e room_1 s m args below meth c 4 D A9 Q 77 1630 (wS q Y qt qd qn qs qk qh qp qr qm K It L Jd Nd J N Js Ns Jk Nk Ih Ah Ip Ap Bp Ir V M I A F Dd) [(3, .int (iI i)), (2, .ref (qm 99)), (1, .ref (q 99)), (0, .ref b)] 860 []) : g_G p l e room_1 s m args below meth c 4 D A9 Q 77 1630 (wS q Y qt qd qn qs qk qh qp qr qm K It L Jd Nd J N Js Ns Jk Nk Ih Ah Ip Ap Bp Ir V M I A F Dd) [(3, .int (iI i)), (2, .ref (qm 99)), (1, .ref (q 99)), (0, .ref b)] 303 [] := by
  refine g_aload_n C (n' := 304) 2 rfl dL_law_303 rfl rfl ?_
  refine g_callV C (n' := 307) (As := []) (c_X7_undo l D Y C.2.2.2.2.2.2.2.2.1 q qt qd qn qs qk qh qp qr K J N Ih Ah R.2.1.1 R.2.1.2.1 R.2.1.2.2.1 R.2.2.2.2.2.1.1 R.2.2.2.2.2.1.2.1 R.2.2.2.2.2.1.2.2.1 R.2.2.2.2.2.1.2.2.2.1 R.2.2.2.2.2.1.2.2.2.2.2.1) 0 kw_415 kc_X7_undo (by decide +kernel) (pS_nh _ _ _ _ _ _ _ _ _ _ _ _ _) 0 (ci := 5) rfl rfl rfl rfl ⟨Nat.le_of_ble_eq_true rfl, Nat.le_of_ble_eq_true rfl⟩ ⟨rfl, rfl⟩ ⟨Nat.le_of_ble_eq_true rfl, Nat.le_of_ble_eq_true rfl⟩ (Nat.le_of_ble_eq_true rfl) dL_law_304 rfl (fun r7 w7 h7 => ?_)
  have hz : ∃ z : Int, r7 = some (.int (iI z)) := by
    rcases h7 with ⟨_, h, _⟩ | ⟨_, h, _⟩ <;> exact ⟨_, h⟩
  obtain ⟨z9, rfl⟩ := hz
  refine g_aload_n C (n' := 308) 1 rfl dL_law_307 rfl rfl ?_
  refine g_callV C (n' := 311) (As := []) (c_X8_undo l D Y C.2.2.2.2.2.2.2.2.1 qm I A F Dd R.2.2.2.2.2.2.2.1.1 R.2.2.2.2.2.2.2.1.2.1 (R_o R) (R_8 R)) 0 kw_889 kc_X8_undo (by decide +kernel) pM 0 (ci := 6) rfl rfl rfl rfl ⟨Nat.le_of_ble_eq_true rfl, Nat.le_of_ble_eq_true rfl⟩ ⟨rfl, rfl⟩ ⟨Nat.le_of_ble_eq_true rfl, Nat.le_of_ble_eq_true rfl⟩ (Nat.le_of_ble_eq_true rfl) dL_law_308 rfl (fun r8 w8 h8 => ?_)
  obtain ⟨z, e7, rfl, K1, It1, L1, Jd1, Nd1, J1, N1, Js1, Ns1, Jk1, Nk1, Ih1, Ah1, Ip1, Ap1, Bp1, Ir1, V1, M1, I1, A1, F1, Dd1, R1, hp⟩ := pr_undo R h7 h8
  have e8 := Value.int.inj (Option.some.inj e7)
  rw [e8]
  refine g_same C 860 dL_law_311 (by decide) ?_
  refine g_perm hp ?_
  exact k _ _ _ _ _ _ _ _ _ _ _ _ _ _ _ _ _ _ _ _ _ _ _ R1

theorem lw_keep_0 (C : g_Cx p s m args c cL_law 4 RL D (tysY Y) A9 (eLaw e9 b Ln xI)) (hi : 0 ≤ i ∧ i + 6 ≤ Ln ∧ Ln ≤ 3072) (hxs : ∀ k, inR (xI k)) (hpl : xI (i + 1).toNat = (0 : Int)) (R : (REL K It L Jd Nd J N Js Ns Jk Nk Ih Ah Ip Ap Bp Ir V M I A F Dd)) (k : ∀ (K It L : Nat → Int) (Jd : Nat → Int) (Nd : Nat → Nat → Int) (J : Nat → Int) (N : Nat → Nat → Int) (Js : Nat → Int) (Ns : Nat → Nat → Int) (Jk : Nat → Nat → Int) (Nk : Nat → Nat → Nat → Int) (Ih : Nat → Int) (Ah : Nat → Nat → Int) (Ip : Nat → Int) (Ap Bp : Nat → Nat → Int) (Ir : Nat → Nat → Int) (V : Nat → Nat → UInt64) (M : Nat → Nat → Int) (I : Nat → Int) (A : Nat → Nat → Int) (F : Nat → UInt32) (Dd : Nat → UInt64), (REL K It L Jd Nd J N Js Ns Jk Nk Ih Ah Ip Ap Bp Ir V M I A F Dd) → g_G p l e room_1 s m args below meth c 4 D A9 Q 77 1630 (wS q Y qt qd qn qs qk qh qp qr qm K It L Jd Nd J N Js Ns Jk Nk Ih Ah Ip Ap Bp Ir V M I A F Dd) [(3, .int (iI i)), (2, .ref (qm 99)), (1, .ref (q 99)), (0, .ref b)] 860 []) : g_G p l e room_1 s m args below meth c 4 D A9 Q 77 1630 (wS q Y qt qd qn qs qk qh qp qr qm K It L Jd Nd J N Js Ns Jk Nk Ih Ah Ip Ap Bp Ir V M I A F Dd) [(3, .int (iI i)), (2, .ref (qm 99)), (1, .ref (q 99)), (0, .ref b)] 316 [] := by
  refine g_aload_n C (n' := 317) 2 rfl dL_law_316 rfl rfl ?_
  refine g_aload_n C (n' := 318) 3 rfl dL_law_317 rfl rfl ?_
  refine g_iload_n C (n' := 319) 0 rfl dL_law_318 rfl rfl ?_
  refine g_iconst C (n' := 320) dL_law_319 rfl ?_
  refine g_iadd C (n' := 321) dL_law_320 rfl ?_
  refine g_ti C (n' := 322) C.2.2.2.2.2.2.2.2.2.2.2 (by omega) (by omega) (by omega) (v := .int (iI (0 : Int))) (congrArg (fun z => Value.int (iI z)) hpl) dL_law_321 rfl ?_
  refine g_callV C (n' := 325) (As := [.int (iI (0 : Int))]) (c_X7_keep l D Y C.2.2.2.2.2.2.2.2.1 q qt qd qn qs qk qh qp qr K J N (Jk 0) (Nk 0) (0 : Int) (by decide)) 1 kw_428 kc_X7_keep (by decide +kernel) (pS_k0 _ _ _ _ _ _ _ _ _ _ _ _ _) 0 (ci := 5) rfl rfl rfl rfl ⟨Nat.le_of_ble_eq_true rfl, Nat.le_of_ble_eq_true rfl⟩ ⟨rfl, rfl⟩ ⟨Nat.le_of_ble_eq_true rfl, Nat.le_of_ble_eq_true rfl⟩ (Nat.le_of_ble_eq_true rfl) dL_law_322 rfl (fun r7 w7 h7 => ?_)
  have hz : ∃ z : Int, r7 = some (.int (iI z)) := by
    exact ⟨_, h7.1⟩
  obtain ⟨z9, rfl⟩ := hz
  refine g_aload_n C (n' := 326) 1 rfl dL_law_325 rfl rfl ?_
  refine g_aload_n C (n' := 327) 3 rfl dL_law_326 rfl rfl ?_
  refine g_iload_n C (n' := 328) 0 rfl dL_law_327 rfl rfl ?_
  refine g_iconst C (n' := 329) dL_law_328 rfl ?_
  refine g_iadd C (n' := 330) dL_law_329 rfl ?_
  refine g_ti C (n' := 331) C.2.2.2.2.2.2.2.2.2.2.2 (by omega) (by omega) (by omega) (v := .int (iI (0 : Int))) (congrArg (fun z => Value.int (iI z)) hpl) dL_law_330 rfl ?_
  refine g_callV C (n' := 334) (As := [.int (iI (0 : Int))]) (c_X8_keep l D Y C.2.2.2.2.2.2.2.2.1 qm I A F Dd (0 : Int) R.2.2.2.2.2.2.2.1.1 R.2.2.2.2.2.2.2.1.2.1 (R_o R) (by unfold inR; decide)) 1 kw_893 kc_X8_keep (by decide +kernel) pM 0 (ci := 6) rfl rfl rfl rfl ⟨Nat.le_of_ble_eq_true rfl, Nat.le_of_ble_eq_true rfl⟩ ⟨rfl, rfl⟩ ⟨Nat.le_of_ble_eq_true rfl, Nat.le_of_ble_eq_true rfl⟩ (Nat.le_of_ble_eq_true rfl) dL_law_331 rfl (fun r8 w8 h8 => ?_)
  obtain ⟨z, e7, rfl, K1, It1, L1, Jd1, Nd1, J1, N1, Js1, Ns1, Jk1, Nk1, Ih1, Ah1, Ip1, Ap1, Bp1, Ir1, V1, M1, I1, A1, F1, Dd1, R1, hp⟩ := pr_keep_0 R h7 h8
  have e8 := Value.int.inj (Option.some.inj e7)
  rw [e8]
  refine g_same C 860 dL_law_334 (by decide) ?_
  refine g_perm hp ?_
  exact k _ _ _ _ _ _ _ _ _ _ _ _ _ _ _ _ _ _ _ _ _ _ _ R1

theorem lw_keep_1 (C : g_Cx p s m args c cL_law 4 RL D (tysY Y) A9 (eLaw e9 b Ln xI)) (hi : 0 ≤ i ∧ i + 6 ≤ Ln ∧ Ln ≤ 3072) (hxs : ∀ k, inR (xI k)) (hpl : xI (i + 1).toNat = (1 : Int)) (R : (REL K It L Jd Nd J N Js Ns Jk Nk Ih Ah Ip Ap Bp Ir V M I A F Dd)) (k : ∀ (K It L : Nat → Int) (Jd : Nat → Int) (Nd : Nat → Nat → Int) (J : Nat → Int) (N : Nat → Nat → Int) (Js : Nat → Int) (Ns : Nat → Nat → Int) (Jk : Nat → Nat → Int) (Nk : Nat → Nat → Nat → Int) (Ih : Nat → Int) (Ah : Nat → Nat → Int) (Ip : Nat → Int) (Ap Bp : Nat → Nat → Int) (Ir : Nat → Nat → Int) (V : Nat → Nat → UInt64) (M : Nat → Nat → Int) (I : Nat → Int) (A : Nat → Nat → Int) (F : Nat → UInt32) (Dd : Nat → UInt64), (REL K It L Jd Nd J N Js Ns Jk Nk Ih Ah Ip Ap Bp Ir V M I A F Dd) → g_G p l e room_1 s m args below meth c 4 D A9 Q 77 1630 (wS q Y qt qd qn qs qk qh qp qr qm K It L Jd Nd J N Js Ns Jk Nk Ih Ah Ip Ap Bp Ir V M I A F Dd) [(3, .int (iI i)), (2, .ref (qm 99)), (1, .ref (q 99)), (0, .ref b)] 860 []) : g_G p l e room_1 s m args below meth c 4 D A9 Q 77 1630 (wS q Y qt qd qn qs qk qh qp qr qm K It L Jd Nd J N Js Ns Jk Nk Ih Ah Ip Ap Bp Ir V M I A F Dd) [(3, .int (iI i)), (2, .ref (qm 99)), (1, .ref (q 99)), (0, .ref b)] 316 [] := by
  refine g_aload_n C (n' := 317) 2 rfl dL_law_316 rfl rfl ?_
  refine g_aload_n C (n' := 318) 3 rfl dL_law_317 rfl rfl ?_
  refine g_iload_n C (n' := 319) 0 rfl dL_law_318 rfl rfl ?_
  refine g_iconst C (n' := 320) dL_law_319 rfl ?_
  refine g_iadd C (n' := 321) dL_law_320 rfl ?_
  refine g_ti C (n' := 322) C.2.2.2.2.2.2.2.2.2.2.2 (by omega) (by omega) (by omega) (v := .int (iI (1 : Int))) (congrArg (fun z => Value.int (iI z)) hpl) dL_law_321 rfl ?_
  refine g_callV C (n' := 325) (As := [.int (iI (1 : Int))]) (c_X7_keep l D Y C.2.2.2.2.2.2.2.2.1 q qt qd qn qs qk qh qp qr K J N (Jk 1) (Nk 1) (1 : Int) (by decide)) 1 kw_428 kc_X7_keep (by decide +kernel) (pS_k1 _ _ _ _ _ _ _ _ _ _ _ _ _) 0 (ci := 5) rfl rfl rfl rfl ⟨Nat.le_of_ble_eq_true rfl, Nat.le_of_ble_eq_true rfl⟩ ⟨rfl, rfl⟩ ⟨Nat.le_of_ble_eq_true rfl, Nat.le_of_ble_eq_true rfl⟩ (Nat.le_of_ble_eq_true rfl) dL_law_322 rfl (fun r7 w7 h7 => ?_)
  have hz : ∃ z : Int, r7 = some (.int (iI z)) := by
    exact ⟨_, h7.1⟩
  obtain ⟨z9, rfl⟩ := hz
  refine g_aload_n C (n' := 326) 1 rfl dL_law_325 rfl rfl ?_
  refine g_aload_n C (n' := 327) 3 rfl dL_law_326 rfl rfl ?_
  refine g_iload_n C (n' := 328) 0 rfl dL_law_327 rfl rfl ?_
  refine g_iconst C (n' := 329) dL_law_328 rfl ?_
  refine g_iadd C (n' := 330) dL_law_329 rfl ?_
  refine g_ti C (n' := 331) C.2.2.2.2.2.2.2.2.2.2.2 (by omega) (by omega) (by omega) (v := .int (iI (1 : Int))) (congrArg (fun z => Value.int (iI z)) hpl) dL_law_330 rfl ?_
  refine g_callV C (n' := 334) (As := [.int (iI (1 : Int))]) (c_X8_keep l D Y C.2.2.2.2.2.2.2.2.1 qm I A F Dd (1 : Int) R.2.2.2.2.2.2.2.1.1 R.2.2.2.2.2.2.2.1.2.1 (R_o R) (by unfold inR; decide)) 1 kw_893 kc_X8_keep (by decide +kernel) pM 0 (ci := 6) rfl rfl rfl rfl ⟨Nat.le_of_ble_eq_true rfl, Nat.le_of_ble_eq_true rfl⟩ ⟨rfl, rfl⟩ ⟨Nat.le_of_ble_eq_true rfl, Nat.le_of_ble_eq_true rfl⟩ (Nat.le_of_ble_eq_true rfl) dL_law_331 rfl (fun r8 w8 h8 => ?_)
  obtain ⟨z, e7, rfl, K1, It1, L1, Jd1, Nd1, J1, N1, Js1, Ns1, Jk1, Nk1, Ih1, Ah1, Ip1, Ap1, Bp1, Ir1, V1, M1, I1, A1, F1, Dd1, R1, hp⟩ := pr_keep_1 R h7 h8
  have e8 := Value.int.inj (Option.some.inj e7)
  rw [e8]
  refine g_same C 860 dL_law_334 (by decide) ?_
  refine g_perm hp ?_
  exact k _ _ _ _ _ _ _ _ _ _ _ _ _ _ _ _ _ _ _ _ _ _ _ R1

theorem lw_keep_o (C : g_Cx p s m args c cL_law 4 RL D (tysY Y) A9 (eLaw e9 b Ln xI)) (hi : 0 ≤ i ∧ i + 6 ≤ Ln ∧ Ln ≤ 3072) (hxs : ∀ k, inR (xI k)) (hpl : ¬ (0 ≤ xI (i + 1).toNat ∧ xI (i + 1).toNat ≤ 1)) (R : (REL K It L Jd Nd J N Js Ns Jk Nk Ih Ah Ip Ap Bp Ir V M I A F Dd)) (k : ∀ (K It L : Nat → Int) (Jd : Nat → Int) (Nd : Nat → Nat → Int) (J : Nat → Int) (N : Nat → Nat → Int) (Js : Nat → Int) (Ns : Nat → Nat → Int) (Jk : Nat → Nat → Int) (Nk : Nat → Nat → Nat → Int) (Ih : Nat → Int) (Ah : Nat → Nat → Int) (Ip : Nat → Int) (Ap Bp : Nat → Nat → Int) (Ir : Nat → Nat → Int) (V : Nat → Nat → UInt64) (M : Nat → Nat → Int) (I : Nat → Int) (A : Nat → Nat → Int) (F : Nat → UInt32) (Dd : Nat → UInt64), (REL K It L Jd Nd J N Js Ns Jk Nk Ih Ah Ip Ap Bp Ir V M I A F Dd) → g_G p l e room_1 s m args below meth c 4 D A9 Q 77 1630 (wS q Y qt qd qn qs qk qh qp qr qm K It L Jd Nd J N Js Ns Jk Nk Ih Ah Ip Ap Bp Ir V M I A F Dd) [(3, .int (iI i)), (2, .ref (qm 99)), (1, .ref (q 99)), (0, .ref b)] 860 []) : g_G p l e room_1 s m args below meth c 4 D A9 Q 77 1630 (wS q Y qt qd qn qs qk qh qp qr qm K It L Jd Nd J N Js Ns Jk Nk Ih Ah Ip Ap Bp Ir V M I A F Dd) [(3, .int (iI i)), (2, .ref (qm 99)), (1, .ref (q 99)), (0, .ref b)] 316 [] := by
  refine g_aload_n C (n' := 317) 2 rfl dL_law_316 rfl rfl ?_
  refine g_aload_n C (n' := 318) 3 rfl dL_law_317 rfl rfl ?_
  refine g_iload_n C (n' := 319) 0 rfl dL_law_318 rfl rfl ?_
  refine g_iconst C (n' := 320) dL_law_319 rfl ?_
  refine g_iadd C (n' := 321) dL_law_320 rfl ?_
  refine g_ti C (n' := 322) C.2.2.2.2.2.2.2.2.2.2.2 (by omega) (by omega) (by omega) (v := .int (iI (xI (i + 1).toNat))) rfl dL_law_321 rfl ?_
  refine g_callV C (n' := 325) (As := [.int (iI (xI (i + 1).toNat))]) (c_X7_keep_o l D Y C.2.2.2.2.2.2.2.2.1 q qt qd qn qs qk qh qp qr K (xI (i + 1).toNat) hpl (hxs _)) 1 kw_428 kc_X7_keep (by decide +kernel) (pS_T _ _ _ _ _ _ _ _ _ _ _ _ _) 0 (ci := 5) rfl rfl rfl rfl ⟨Nat.le_of_ble_eq_true rfl, Nat.le_of_ble_eq_true rfl⟩ ⟨rfl, rfl⟩ ⟨Nat.le_of_ble_eq_true rfl, Nat.le_of_ble_eq_true rfl⟩ (Nat.le_of_ble_eq_true rfl) dL_law_322 rfl (fun r7 w7 h7 => ?_)
  have hz : ∃ z : Int, r7 = some (.int (iI z)) := by
    exact ⟨_, h7.1⟩
  obtain ⟨z9, rfl⟩ := hz
  refine g_aload_n C (n' := 326) 1 rfl dL_law_325 rfl rfl ?_
  refine g_aload_n C (n' := 327) 3 rfl dL_law_326 rfl rfl ?_
  refine g_iload_n C (n' := 328) 0 rfl dL_law_327 rfl rfl ?_
  refine g_iconst C (n' := 329) dL_law_328 rfl ?_
  refine g_iadd C (n' := 330) dL_law_329 rfl ?_
  refine g_ti C (n' := 331) C.2.2.2.2.2.2.2.2.2.2.2 (by omega) (by omega) (by omega) (v := .int (iI (xI (i + 1).toNat))) rfl dL_law_330 rfl ?_
  refine g_callV C (n' := 334) (As := [.int (iI (xI (i + 1).toNat))]) (c_X8_keep l D Y C.2.2.2.2.2.2.2.2.1 qm I A F Dd (xI (i + 1).toNat) R.2.2.2.2.2.2.2.1.1 R.2.2.2.2.2.2.2.1.2.1 (R_o R) (hxs _)) 1 kw_893 kc_X8_keep (by decide +kernel) pM 0 (ci := 6) rfl rfl rfl rfl ⟨Nat.le_of_ble_eq_true rfl, Nat.le_of_ble_eq_true rfl⟩ ⟨rfl, rfl⟩ ⟨Nat.le_of_ble_eq_true rfl, Nat.le_of_ble_eq_true rfl⟩ (Nat.le_of_ble_eq_true rfl) dL_law_331 rfl (fun r8 w8 h8 => ?_)
  obtain ⟨z, e7, rfl, K1, It1, L1, Jd1, Nd1, J1, N1, Js1, Ns1, Jk1, Nk1, Ih1, Ah1, Ip1, Ap1, Bp1, Ir1, V1, M1, I1, A1, F1, Dd1, R1, hp⟩ := pr_keep_o R hpl h7 h8
  have e8 := Value.int.inj (Option.some.inj e7)
  rw [e8]
  refine g_same C 860 dL_law_334 (by decide) ?_
  refine g_perm hp ?_
  exact k _ _ _ _ _ _ _ _ _ _ _ _ _ _ _ _ _ _ _ _ _ _ _ R1

theorem lw_back_0 (C : g_Cx p s m args c cL_law 4 RL D (tysY Y) A9 (eLaw e9 b Ln xI)) (hi : 0 ≤ i ∧ i + 6 ≤ Ln ∧ Ln ≤ 3072) (hxs : ∀ k, inR (xI k)) (hpl : xI (i + 1).toNat = (0 : Int)) (R : (REL K It L Jd Nd J N Js Ns Jk Nk Ih Ah Ip Ap Bp Ir V M I A F Dd)) (k : ∀ (K It L : Nat → Int) (Jd : Nat → Int) (Nd : Nat → Nat → Int) (J : Nat → Int) (N : Nat → Nat → Int) (Js : Nat → Int) (Ns : Nat → Nat → Int) (Jk : Nat → Nat → Int) (Nk : Nat → Nat → Nat → Int) (Ih : Nat → Int) (Ah : Nat → Nat → Int) (Ip : Nat → Int) (Ap Bp : Nat → Nat → Int) (Ir : Nat → Nat → Int) (V : Nat → Nat → UInt64) (M : Nat → Nat → Int) (I : Nat → Int) (A : Nat → Nat → Int) (F : Nat → UInt32) (Dd : Nat → UInt64), (REL K It L Jd Nd J N Js Ns Jk Nk Ih Ah Ip Ap Bp Ir V M I A F Dd) → g_G p l e room_1 s m args below meth c 4 D A9 Q 77 1630 (wS q Y qt qd qn qs qk qh qp qr qm K It L Jd Nd J N Js Ns Jk Nk Ih Ah Ip Ap Bp Ir V M I A F Dd) [(3, .int (iI i)), (2, .ref (qm 99)), (1, .ref (q 99)), (0, .ref b)] 860 []) : g_G p l e room_1 s m args below meth c 4 D A9 Q 77 1630 (wS q Y qt qd qn qs qk qh qp qr qm K It L Jd Nd J N Js Ns Jk Nk Ih Ah Ip Ap Bp Ir V M I A F Dd) [(3, .int (iI i)), (2, .ref (qm 99)), (1, .ref (q 99)), (0, .ref b)] 339 [] := by
  refine g_aload_n C (n' := 340) 2 rfl dL_law_339 rfl rfl ?_
  refine g_aload_n C (n' := 341) 3 rfl dL_law_340 rfl rfl ?_
  refine g_iload_n C (n' := 342) 0 rfl dL_law_341 rfl rfl ?_
  refine g_iconst C (n' := 343) dL_law_342 rfl ?_
  refine g_iadd C (n' := 344) dL_law_343 rfl ?_
  refine g_ti C (n' := 345) C.2.2.2.2.2.2.2.2.2.2.2 (by omega) (by omega) (by omega) (v := .int (iI (0 : Int))) (congrArg (fun z => Value.int (iI z)) hpl) dL_law_344 rfl ?_
  refine g_callV C (n' := 348) (As := [.int (iI (0 : Int))]) (c_X7_back l D Y C.2.2.2.2.2.2.2.2.1 q qt qd qn qs qk qh qp qr K J N (Jk 0) (Nk 0) Ih Ah (0 : Int) (by decide) R.2.2.2.2.1.1) 1 kw_435 kc_X7_back (by decide +kernel) (pS_b0 _ _ _ _ _ _ _ _ _ _ _ _ _) 0 (ci := 5) rfl rfl rfl rfl ⟨Nat.le_of_ble_eq_true rfl, Nat.le_of_ble_eq_true rfl⟩ ⟨rfl, rfl⟩ ⟨Nat.le_of_ble_eq_true rfl, Nat.le_of_ble_eq_true rfl⟩ (Nat.le_of_ble_eq_true rfl) dL_law_345 rfl (fun r7 w7 h7 => ?_)
  have hz : ∃ z : Int, r7 = some (.int (iI z)) := by
    rcases h7 with ⟨_, h, _⟩ | ⟨_, h, _⟩ <;> exact ⟨_, h⟩
  obtain ⟨z9, rfl⟩ := hz
  refine g_aload_n C (n' := 349) 1 rfl dL_law_348 rfl rfl ?_
  refine g_aload_n C (n' := 350) 3 rfl dL_law_349 rfl rfl ?_
  refine g_iload_n C (n' := 351) 0 rfl dL_law_350 rfl rfl ?_
  refine g_iconst C (n' := 352) dL_law_351 rfl ?_
  refine g_iadd C (n' := 353) dL_law_352 rfl ?_
  refine g_ti C (n' := 354) C.2.2.2.2.2.2.2.2.2.2.2 (by omega) (by omega) (by omega) (v := .int (iI (0 : Int))) (congrArg (fun z => Value.int (iI z)) hpl) dL_law_353 rfl ?_
  refine g_callV C (n' := 357) (As := [.int (iI (0 : Int))]) (c_X8_back l D Y C.2.2.2.2.2.2.2.2.1 qm I A F Dd (0 : Int) R.2.2.2.2.2.2.2.1.1 R.2.2.2.2.2.2.2.1.2.1 (R_o R) (by unfold inR; decide) R.2.2.2.2.1.2.1) 1 kw_897 kc_X8_back (by decide +kernel) pM 0 (ci := 6) rfl rfl rfl rfl ⟨Nat.le_of_ble_eq_true rfl, Nat.le_of_ble_eq_true rfl⟩ ⟨rfl, rfl⟩ ⟨Nat.le_of_ble_eq_true rfl, Nat.le_of_ble_eq_true rfl⟩ (Nat.le_of_ble_eq_true rfl) dL_law_354 rfl (fun r8 w8 h8 => ?_)
  obtain ⟨z, e7, rfl, K1, It1, L1, Jd1, Nd1, J1, N1, Js1, Ns1, Jk1, Nk1, Ih1, Ah1, Ip1, Ap1, Bp1, Ir1, V1, M1, I1, A1, F1, Dd1, R1, hp⟩ := pr_back_0 R h7 h8
  have e8 := Value.int.inj (Option.some.inj e7)
  rw [e8]
  refine g_same C 860 dL_law_357 (by decide) ?_
  refine g_perm hp ?_
  exact k _ _ _ _ _ _ _ _ _ _ _ _ _ _ _ _ _ _ _ _ _ _ _ R1

theorem lw_back_1 (C : g_Cx p s m args c cL_law 4 RL D (tysY Y) A9 (eLaw e9 b Ln xI)) (hi : 0 ≤ i ∧ i + 6 ≤ Ln ∧ Ln ≤ 3072) (hxs : ∀ k, inR (xI k)) (hpl : xI (i + 1).toNat = (1 : Int)) (R : (REL K It L Jd Nd J N Js Ns Jk Nk Ih Ah Ip Ap Bp Ir V M I A F Dd)) (k : ∀ (K It L : Nat → Int) (Jd : Nat → Int) (Nd : Nat → Nat → Int) (J : Nat → Int) (N : Nat → Nat → Int) (Js : Nat → Int) (Ns : Nat → Nat → Int) (Jk : Nat → Nat → Int) (Nk : Nat → Nat → Nat → Int) (Ih : Nat → Int) (Ah : Nat → Nat → Int) (Ip : Nat → Int) (Ap Bp : Nat → Nat → Int) (Ir : Nat → Nat → Int) (V : Nat → Nat → UInt64) (M : Nat → Nat → Int) (I : Nat → Int) (A : Nat → Nat → Int) (F : Nat → UInt32) (Dd : Nat → UInt64), (REL K It L Jd Nd J N Js Ns Jk Nk Ih Ah Ip Ap Bp Ir V M I A F Dd) → g_G p l e room_1 s m args below meth c 4 D A9 Q 77 1630 (wS q Y qt qd qn qs qk qh qp qr qm K It L Jd Nd J N Js Ns Jk Nk Ih Ah Ip Ap Bp Ir V M I A F Dd) [(3, .int (iI i)), (2, .ref (qm 99)), (1, .ref (q 99)), (0, .ref b)] 860 []) : g_G p l e room_1 s m args below meth c 4 D A9 Q 77 1630 (wS q Y qt qd qn qs qk qh qp qr qm K It L Jd Nd J N Js Ns Jk Nk Ih Ah Ip Ap Bp Ir V M I A F Dd) [(3, .int (iI i)), (2, .ref (qm 99)), (1, .ref (q 99)), (0, .ref b)] 339 [] := by
  refine g_aload_n C (n' := 340) 2 rfl dL_law_339 rfl rfl ?_
  refine g_aload_n C (n' := 341) 3 rfl dL_law_340 rfl rfl ?_
  refine g_iload_n C (n' := 342) 0 rfl dL_law_341 rfl rfl ?_
  refine g_iconst C (n' := 343) dL_law_342 rfl ?_
  refine g_iadd C (n' := 344) dL_law_343 rfl ?_
  refine g_ti C (n' := 345) C.2.2.2.2.2.2.2.2.2.2.2 (by omega) (by omega) (by omega) (v := .int (iI (1 : Int))) (congrArg (fun z => Value.int (iI z)) hpl) dL_law_344 rfl ?_
  refine g_callV C (n' := 348) (As := [.int (iI (1 : Int))]) (c_X7_back l D Y C.2.2.2.2.2.2.2.2.1 q qt qd qn qs qk qh qp qr K J N (Jk 1) (Nk 1) Ih Ah (1 : Int) (by decide) R.2.2.2.2.1.1) 1 kw_435 kc_X7_back (by decide +kernel) (pS_b1 _ _ _ _ _ _ _ _ _ _ _ _ _) 0 (ci := 5) rfl rfl rfl rfl ⟨Nat.le_of_ble_eq_true rfl, Nat.le_of_ble_eq_true rfl⟩ ⟨rfl, rfl⟩ ⟨Nat.le_of_ble_eq_true rfl, Nat.le_of_ble_eq_true rfl⟩ (Nat.le_of_ble_eq_true rfl) dL_law_345 rfl (fun r7 w7 h7 => ?_)
  have hz : ∃ z : Int, r7 = some (.int (iI z)) := by
    rcases h7 with ⟨_, h, _⟩ | ⟨_, h, _⟩ <;> exact ⟨_, h⟩
  obtain ⟨z9, rfl⟩ := hz
  refine g_aload_n C (n' := 349) 1 rfl dL_law_348 rfl rfl ?_
  refine g_aload_n C (n' := 350) 3 rfl dL_law_349 rfl rfl ?_
  refine g_iload_n C (n' := 351) 0 rfl dL_law_350 rfl rfl ?_
  refine g_iconst C (n' := 352) dL_law_351 rfl ?_
  refine g_iadd C (n' := 353) dL_law_352 rfl ?_
  refine g_ti C (n' := 354) C.2.2.2.2.2.2.2.2.2.2.2 (by omega) (by omega) (by omega) (v := .int (iI (1 : Int))) (congrArg (fun z => Value.int (iI z)) hpl) dL_law_353 rfl ?_
  refine g_callV C (n' := 357) (As := [.int (iI (1 : Int))]) (c_X8_back l D Y C.2.2.2.2.2.2.2.2.1 qm I A F Dd (1 : Int) R.2.2.2.2.2.2.2.1.1 R.2.2.2.2.2.2.2.1.2.1 (R_o R) (by unfold inR; decide) R.2.2.2.2.1.2.1) 1 kw_897 kc_X8_back (by decide +kernel) pM 0 (ci := 6) rfl rfl rfl rfl ⟨Nat.le_of_ble_eq_true rfl, Nat.le_of_ble_eq_true rfl⟩ ⟨rfl, rfl⟩ ⟨Nat.le_of_ble_eq_true rfl, Nat.le_of_ble_eq_true rfl⟩ (Nat.le_of_ble_eq_true rfl) dL_law_354 rfl (fun r8 w8 h8 => ?_)
  obtain ⟨z, e7, rfl, K1, It1, L1, Jd1, Nd1, J1, N1, Js1, Ns1, Jk1, Nk1, Ih1, Ah1, Ip1, Ap1, Bp1, Ir1, V1, M1, I1, A1, F1, Dd1, R1, hp⟩ := pr_back_1 R h7 h8
  have e8 := Value.int.inj (Option.some.inj e7)
  rw [e8]
  refine g_same C 860 dL_law_357 (by decide) ?_
  refine g_perm hp ?_
  exact k _ _ _ _ _ _ _ _ _ _ _ _ _ _ _ _ _ _ _ _ _ _ _ R1

theorem lw_back_o (C : g_Cx p s m args c cL_law 4 RL D (tysY Y) A9 (eLaw e9 b Ln xI)) (hi : 0 ≤ i ∧ i + 6 ≤ Ln ∧ Ln ≤ 3072) (hxs : ∀ k, inR (xI k)) (hpl : ¬ (0 ≤ xI (i + 1).toNat ∧ xI (i + 1).toNat ≤ 1)) (R : (REL K It L Jd Nd J N Js Ns Jk Nk Ih Ah Ip Ap Bp Ir V M I A F Dd)) (k : ∀ (K It L : Nat → Int) (Jd : Nat → Int) (Nd : Nat → Nat → Int) (J : Nat → Int) (N : Nat → Nat → Int) (Js : Nat → Int) (Ns : Nat → Nat → Int) (Jk : Nat → Nat → Int) (Nk : Nat → Nat → Nat → Int) (Ih : Nat → Int) (Ah : Nat → Nat → Int) (Ip : Nat → Int) (Ap Bp : Nat → Nat → Int) (Ir : Nat → Nat → Int) (V : Nat → Nat → UInt64) (M : Nat → Nat → Int) (I : Nat → Int) (A : Nat → Nat → Int) (F : Nat → UInt32) (Dd : Nat → UInt64), (REL K It L Jd Nd J N Js Ns Jk Nk Ih Ah Ip Ap Bp Ir V M I A F Dd) → g_G p l e room_1 s m args below meth c 4 D A9 Q 77 1630 (wS q Y qt qd qn qs qk qh qp qr qm K It L Jd Nd J N Js Ns Jk Nk Ih Ah Ip Ap Bp Ir V M I A F Dd) [(3, .int (iI i)), (2, .ref (qm 99)), (1, .ref (q 99)), (0, .ref b)] 860 []) : g_G p l e room_1 s m args below meth c 4 D A9 Q 77 1630 (wS q Y qt qd qn qs qk qh qp qr qm K It L Jd Nd J N Js Ns Jk Nk Ih Ah Ip Ap Bp Ir V M I A F Dd) [(3, .int (iI i)), (2, .ref (qm 99)), (1, .ref (q 99)), (0, .ref b)] 339 [] := by
  refine g_aload_n C (n' := 340) 2 rfl dL_law_339 rfl rfl ?_
  refine g_aload_n C (n' := 341) 3 rfl dL_law_340 rfl rfl ?_
  refine g_iload_n C (n' := 342) 0 rfl dL_law_341 rfl rfl ?_
  refine g_iconst C (n' := 343) dL_law_342 rfl ?_
  refine g_iadd C (n' := 344) dL_law_343 rfl ?_
  refine g_ti C (n' := 345) C.2.2.2.2.2.2.2.2.2.2.2 (by omega) (by omega) (by omega) (v := .int (iI (xI (i + 1).toNat))) rfl dL_law_344 rfl ?_
  refine g_callV C (n' := 348) (As := [.int (iI (xI (i + 1).toNat))]) (c_X7_back_o l D Y C.2.2.2.2.2.2.2.2.1 q qt qd qn qs qk qh qp qr K (xI (i + 1).toNat) hpl (hxs _)) 1 kw_435 kc_X7_back (by decide +kernel) (pS_T _ _ _ _ _ _ _ _ _ _ _ _ _) 0 (ci := 5) rfl rfl rfl rfl ⟨Nat.le_of_ble_eq_true rfl, Nat.le_of_ble_eq_true rfl⟩ ⟨rfl, rfl⟩ ⟨Nat.le_of_ble_eq_true rfl, Nat.le_of_ble_eq_true rfl⟩ (Nat.le_of_ble_eq_true rfl) dL_law_345 rfl (fun r7 w7 h7 => ?_)
  have hz : ∃ z : Int, r7 = some (.int (iI z)) := by
    exact ⟨_, h7.1⟩
  obtain ⟨z9, rfl⟩ := hz
  refine g_aload_n C (n' := 349) 1 rfl dL_law_348 rfl rfl ?_
  refine g_aload_n C (n' := 350) 3 rfl dL_law_349 rfl rfl ?_
  refine g_iload_n C (n' := 351) 0 rfl dL_law_350 rfl rfl ?_
  refine g_iconst C (n' := 352) dL_law_351 rfl ?_
  refine g_iadd C (n' := 353) dL_law_352 rfl ?_
  refine g_ti C (n' := 354) C.2.2.2.2.2.2.2.2.2.2.2 (by omega) (by omega) (by omega) (v := .int (iI (xI (i + 1).toNat))) rfl dL_law_353 rfl ?_
  refine g_callV C (n' := 357) (As := [.int (iI (xI (i + 1).toNat))]) (c_X8_back l D Y C.2.2.2.2.2.2.2.2.1 qm I A F Dd (xI (i + 1).toNat) R.2.2.2.2.2.2.2.1.1 R.2.2.2.2.2.2.2.1.2.1 (R_o R) (hxs _) R.2.2.2.2.1.2.1) 1 kw_897 kc_X8_back (by decide +kernel) pM 0 (ci := 6) rfl rfl rfl rfl ⟨Nat.le_of_ble_eq_true rfl, Nat.le_of_ble_eq_true rfl⟩ ⟨rfl, rfl⟩ ⟨Nat.le_of_ble_eq_true rfl, Nat.le_of_ble_eq_true rfl⟩ (Nat.le_of_ble_eq_true rfl) dL_law_354 rfl (fun r8 w8 h8 => ?_)
  obtain ⟨z, e7, rfl, K1, It1, L1, Jd1, Nd1, J1, N1, Js1, Ns1, Jk1, Nk1, Ih1, Ah1, Ip1, Ap1, Bp1, Ir1, V1, M1, I1, A1, F1, Dd1, R1, hp⟩ := pr_back_o R hpl h7 h8
  have e8 := Value.int.inj (Option.some.inj e7)
  rw [e8]
  refine g_same C 860 dL_law_357 (by decide) ?_
  refine g_perm hp ?_
  exact k _ _ _ _ _ _ _ _ _ _ _ _ _ _ _ _ _ _ _ _ _ _ _ R1

theorem lw_feasible (C : g_Cx p s m args c cL_law 4 RL D (tysY Y) A9 (eLaw e9 b Ln xI)) (hi : 0 ≤ i ∧ i + 6 ≤ Ln ∧ Ln ≤ 3072) (hxs : ∀ k, inR (xI k)) (R : (REL K It L Jd Nd J N Js Ns Jk Nk Ih Ah Ip Ap Bp Ir V M I A F Dd)) (k : ∀ (K It L : Nat → Int) (Jd : Nat → Int) (Nd : Nat → Nat → Int) (J : Nat → Int) (N : Nat → Nat → Int) (Js : Nat → Int) (Ns : Nat → Nat → Int) (Jk : Nat → Nat → Int) (Nk : Nat → Nat → Nat → Int) (Ih : Nat → Int) (Ah : Nat → Nat → Int) (Ip : Nat → Int) (Ap Bp : Nat → Nat → Int) (Ir : Nat → Nat → Int) (V : Nat → Nat → UInt64) (M : Nat → Nat → Int) (I : Nat → Int) (A : Nat → Nat → Int) (F : Nat → UInt32) (Dd : Nat → UInt64), (REL K It L Jd Nd J N Js Ns Jk Nk Ih Ah Ip Ap Bp Ir V M I A F Dd) → g_G p l e room_1 s m args below meth c 4 D A9 Q 77 1630 (wS q Y qt qd qn qs qk qh qp qr qm K It L Jd Nd J N Js Ns Jk Nk Ih Ah Ip Ap Bp Ir V M I A F Dd) [(3, .int (iI i)), (2, .ref (qm 99)), (1, .ref (q 99)), (0, .ref b)] 860 []) : g_G p l e room_1 s m args below meth c 4 D A9 Q 77 1630 (wS q Y qt qd qn qs qk qh qp qr qm K It L Jd Nd J N Js Ns Jk Nk Ih Ah Ip Ap Bp Ir V M I A F Dd) [(3, .int (iI i)), (2, .ref (qm 99)), (1, .ref (q 99)), (0, .ref b)] 362 [] := by
  refine g_aload_n C (n' := 363) 2 rfl dL_law_362 rfl rfl ?_
  refine g_callV C (n' := 366) (As := []) (c_X7_feasible l D Y C.2.2.2.2.2.2.2.2.1 q qt qd qn qs qk qh qp qr K J N Ip Ap Bp R.2.1.1 R.2.1.2.1 R.2.1.2.2.1 R.2.2.2.2.2.2.1.1 R.2.2.2.2.2.2.1.2.1 R.2.2.2.2.2.2.1.2.2) 0 kw_439 kc_X7_feasible (by decide +kernel) (pS_plan _ _ _ _ _ _ _ _ _ _ _ _ _) 0 (ci := 5) rfl rfl rfl rfl ⟨Nat.le_of_ble_eq_true rfl, Nat.le_of_ble_eq_true rfl⟩ ⟨rfl, rfl⟩ ⟨Nat.le_of_ble_eq_true rfl, Nat.le_of_ble_eq_true rfl⟩ (Nat.le_of_ble_eq_true rfl) dL_law_363 rfl (fun r7 w7 h7 => ?_)
  have hz : ∃ z : Int, r7 = some (.int (iI z)) := by
    obtain ⟨_, _, _, _, _, _, _, z, h, _⟩ := h7
    exact ⟨z, h⟩
  obtain ⟨z9, rfl⟩ := hz
  refine g_aload_n C (n' := 367) 1 rfl dL_law_366 rfl rfl ?_
  refine g_callV C (n' := 370) (As := []) (c_X8_feasible l D Y C.2.2.2.2.2.2.2.2.1 qm I A F Dd R.2.2.2.2.2.2.2.1.1 R.2.2.2.2.2.2.2.1.2.1 (R_o R)) 0 kw_901 kc_X8_feasible (by decide +kernel) pM 0 (ci := 6) rfl rfl rfl rfl ⟨Nat.le_of_ble_eq_true rfl, Nat.le_of_ble_eq_true rfl⟩ ⟨rfl, rfl⟩ ⟨Nat.le_of_ble_eq_true rfl, Nat.le_of_ble_eq_true rfl⟩ (Nat.le_of_ble_eq_true rfl) dL_law_367 rfl (fun r8 w8 h8 => ?_)
  obtain ⟨z, e7, rfl, K1, It1, L1, Jd1, Nd1, J1, N1, Js1, Ns1, Jk1, Nk1, Ih1, Ah1, Ip1, Ap1, Bp1, Ir1, V1, M1, I1, A1, F1, Dd1, R1, hp⟩ := pr_feasible R h7 h8
  have e8 := Value.int.inj (Option.some.inj e7)
  rw [e8]
  refine g_same C 860 dL_law_370 (by decide) ?_
  refine g_perm hp ?_
  exact k _ _ _ _ _ _ _ _ _ _ _ _ _ _ _ _ _ _ _ _ _ _ _ R1

theorem lw_shift (C : g_Cx p s m args c cL_law 4 RL D (tysY Y) A9 (eLaw e9 b Ln xI)) (hi : 0 ≤ i ∧ i + 6 ≤ Ln ∧ Ln ≤ 3072) (hxs : ∀ k, inR (xI k)) (R : (REL K It L Jd Nd J N Js Ns Jk Nk Ih Ah Ip Ap Bp Ir V M I A F Dd)) (k : ∀ (K It L : Nat → Int) (Jd : Nat → Int) (Nd : Nat → Nat → Int) (J : Nat → Int) (N : Nat → Nat → Int) (Js : Nat → Int) (Ns : Nat → Nat → Int) (Jk : Nat → Nat → Int) (Nk : Nat → Nat → Nat → Int) (Ih : Nat → Int) (Ah : Nat → Nat → Int) (Ip : Nat → Int) (Ap Bp : Nat → Nat → Int) (Ir : Nat → Nat → Int) (V : Nat → Nat → UInt64) (M : Nat → Nat → Int) (I : Nat → Int) (A : Nat → Nat → Int) (F : Nat → UInt32) (Dd : Nat → UInt64), (REL K It L Jd Nd J N Js Ns Jk Nk Ih Ah Ip Ap Bp Ir V M I A F Dd) → g_G p l e room_1 s m args below meth c 4 D A9 Q 77 1630 (wS q Y qt qd qn qs qk qh qp qr qm K It L Jd Nd J N Js Ns Jk Nk Ih Ah Ip Ap Bp Ir V M I A F Dd) [(3, .int (iI i)), (2, .ref (qm 99)), (1, .ref (q 99)), (0, .ref b)] 860 []) : g_G p l e room_1 s m args below meth c 4 D A9 Q 77 1630 (wS q Y qt qd qn qs qk qh qp qr qm K It L Jd Nd J N Js Ns Jk Nk Ih Ah Ip Ap Bp Ir V M I A F Dd) [(3, .int (iI i)), (2, .ref (qm 99)), (1, .ref (q 99)), (0, .ref b)] 375 [] := by
  refine g_aload_n C (n' := 376) 2 rfl dL_law_375 rfl rfl ?_
  refine g_aload_n C (n' := 377) 3 rfl dL_law_376 rfl rfl ?_
  refine g_iload_n C (n' := 378) 0 rfl dL_law_377 rfl rfl ?_
  refine g_iconst C (n' := 379) dL_law_378 rfl ?_
  refine g_iadd C (n' := 380) dL_law_379 rfl ?_
  refine g_ti C (n' := 381) C.2.2.2.2.2.2.2.2.2.2.2 (by omega) (by omega) (by omega) (v := .int (iI (xI (i + 1).toNat))) rfl dL_law_380 rfl ?_
  refine g_callV C (n' := 384) (As := [.int (iI (xI (i + 1).toNat))]) (c_X7_shift l D Y C.2.2.2.2.2.2.2.2.1 q qt qd qn qs qk qh qp qr K J N Ip Ap Bp (xI (i + 1).toNat) R.2.1.1 R.2.1.2.1 R.2.1.2.2.1 R.2.2.2.2.2.2.1.1 R.2.2.2.2.2.2.1.2.1 R.2.2.2.2.2.2.1.2.2 (hxs _)) 1 kw_473 kc_X7_shift (by decide +kernel) (pS_plan _ _ _ _ _ _ _ _ _ _ _ _ _) 0 (ci := 5) rfl rfl rfl rfl ⟨Nat.le_of_ble_eq_true rfl, Nat.le_of_ble_eq_true rfl⟩ ⟨rfl, rfl⟩ ⟨Nat.le_of_ble_eq_true rfl, Nat.le_of_ble_eq_true rfl⟩ (Nat.le_of_ble_eq_true rfl) dL_law_381 rfl (fun r7 w7 h7 => ?_)
  have hz : ∃ z : Int, r7 = some (.int (iI z)) := by
    obtain ⟨_, _, _, _, _, _, _, z, h, _⟩ := h7
    exact ⟨z, h⟩
  obtain ⟨z9, rfl⟩ := hz
  refine g_aload_n C (n' := 385) 1 rfl dL_law_384 rfl rfl ?_
  refine g_aload_n C (n' := 386) 3 rfl dL_law_385 rfl rfl ?_
  refine g_iload_n C (n' := 387) 0 rfl dL_law_386 rfl rfl ?_
  refine g_iconst C (n' := 388) dL_law_387 rfl ?_
  refine g_iadd C (n' := 389) dL_law_388 rfl ?_
  refine g_ti C (n' := 390) C.2.2.2.2.2.2.2.2.2.2.2 (by omega) (by omega) (by omega) (v := .int (iI (xI (i + 1).toNat))) rfl dL_law_389 rfl ?_
  refine g_callV C (n' := 393) (As := [.int (iI (xI (i + 1).toNat))]) (c_X8_shift l D Y C.2.2.2.2.2.2.2.2.1 qm I A F Dd (xI (i + 1).toNat) R.2.2.2.2.2.2.2.1.1 R.2.2.2.2.2.2.2.1.2.1 (R_o R) (hxs _)) 1 kw_924 kc_X8_shift (by decide +kernel) pM 0 (ci := 6) rfl rfl rfl rfl ⟨Nat.le_of_ble_eq_true rfl, Nat.le_of_ble_eq_true rfl⟩ ⟨rfl, rfl⟩ ⟨Nat.le_of_ble_eq_true rfl, Nat.le_of_ble_eq_true rfl⟩ (Nat.le_of_ble_eq_true rfl) dL_law_390 rfl (fun r8 w8 h8 => ?_)
  obtain ⟨z, e7, rfl, K1, It1, L1, Jd1, Nd1, J1, N1, Js1, Ns1, Jk1, Nk1, Ih1, Ah1, Ip1, Ap1, Bp1, Ir1, V1, M1, I1, A1, F1, Dd1, R1, hp⟩ := pr_shift R h7 h8
  have e8 := Value.int.inj (Option.some.inj e7)
  rw [e8]
  refine g_same C 860 dL_law_393 (by decide) ?_
  refine g_perm hp ?_
  exact k _ _ _ _ _ _ _ _ _ _ _ _ _ _ _ _ _ _ _ _ _ _ _ R1

theorem lw_least (C : g_Cx p s m args c cL_law 4 RL D (tysY Y) A9 (eLaw e9 b Ln xI)) (hi : 0 ≤ i ∧ i + 6 ≤ Ln ∧ Ln ≤ 3072) (hxs : ∀ k, inR (xI k)) (R : (REL K It L Jd Nd J N Js Ns Jk Nk Ih Ah Ip Ap Bp Ir V M I A F Dd)) (k : ∀ (K It L : Nat → Int) (Jd : Nat → Int) (Nd : Nat → Nat → Int) (J : Nat → Int) (N : Nat → Nat → Int) (Js : Nat → Int) (Ns : Nat → Nat → Int) (Jk : Nat → Nat → Int) (Nk : Nat → Nat → Nat → Int) (Ih : Nat → Int) (Ah : Nat → Nat → Int) (Ip : Nat → Int) (Ap Bp : Nat → Nat → Int) (Ir : Nat → Nat → Int) (V : Nat → Nat → UInt64) (M : Nat → Nat → Int) (I : Nat → Int) (A : Nat → Nat → Int) (F : Nat → UInt32) (Dd : Nat → UInt64), (REL K It L Jd Nd J N Js Ns Jk Nk Ih Ah Ip Ap Bp Ir V M I A F Dd) → g_G p l e room_1 s m args below meth c 4 D A9 Q 77 1630 (wS q Y qt qd qn qs qk qh qp qr qm K It L Jd Nd J N Js Ns Jk Nk Ih Ah Ip Ap Bp Ir V M I A F Dd) [(3, .int (iI i)), (2, .ref (qm 99)), (1, .ref (q 99)), (0, .ref b)] 860 []) : g_G p l e room_1 s m args below meth c 4 D A9 Q 77 1630 (wS q Y qt qd qn qs qk qh qp qr qm K It L Jd Nd J N Js Ns Jk Nk Ih Ah Ip Ap Bp Ir V M I A F Dd) [(3, .int (iI i)), (2, .ref (qm 99)), (1, .ref (q 99)), (0, .ref b)] 398 [] := by
  refine g_aload_n C (n' := 399) 2 rfl dL_law_398 rfl rfl ?_
  refine g_callV C (n' := 402) (As := []) (c_X7_least l D Y C.2.2.2.2.2.2.2.2.1 q qt qd qn qs qk qh qp qr K J N Ip Ap Bp R.2.1.1 R.2.1.2.1 R.2.1.2.2.1 R.2.2.2.2.2.2.1.1 R.2.2.2.2.2.2.1.2.1 R.2.2.2.2.2.2.1.2.2) 0 kw_481 kc_X7_least (by decide +kernel) (pS_plan _ _ _ _ _ _ _ _ _ _ _ _ _) 0 (ci := 5) rfl rfl rfl rfl ⟨Nat.le_of_ble_eq_true rfl, Nat.le_of_ble_eq_true rfl⟩ ⟨rfl, rfl⟩ ⟨Nat.le_of_ble_eq_true rfl, Nat.le_of_ble_eq_true rfl⟩ (Nat.le_of_ble_eq_true rfl) dL_law_399 rfl (fun r7 w7 h7 => ?_)
  have hz : ∃ z : Int, r7 = some (.int (iI z)) := by
    obtain ⟨_, _, _, _, _, _, _, z, h, _⟩ := h7
    exact ⟨z, h⟩
  obtain ⟨z9, rfl⟩ := hz
  refine g_aload_n C (n' := 403) 1 rfl dL_law_402 rfl rfl ?_
  refine g_callV C (n' := 406) (As := []) (c_X8_least l D Y C.2.2.2.2.2.2.2.2.1 qm I A F Dd R.2.2.2.2.2.2.2.1.1 R.2.2.2.2.2.2.2.1.2.1 (R_o R)) 0 kw_932 kc_X8_least (by decide +kernel) pM 0 (ci := 6) rfl rfl rfl rfl ⟨Nat.le_of_ble_eq_true rfl, Nat.le_of_ble_eq_true rfl⟩ ⟨rfl, rfl⟩ ⟨Nat.le_of_ble_eq_true rfl, Nat.le_of_ble_eq_true rfl⟩ (Nat.le_of_ble_eq_true rfl) dL_law_403 rfl (fun r8 w8 h8 => ?_)
  obtain ⟨z, e7, rfl, K1, It1, L1, Jd1, Nd1, J1, N1, Js1, Ns1, Jk1, Nk1, Ih1, Ah1, Ip1, Ap1, Bp1, Ir1, V1, M1, I1, A1, F1, Dd1, R1, hp⟩ := pr_least R h7 h8
  have e8 := Value.int.inj (Option.some.inj e7)
  rw [e8]
  refine g_same C 860 dL_law_406 (by decide) ?_
  refine g_perm hp ?_
  exact k _ _ _ _ _ _ _ _ _ _ _ _ _ _ _ _ _ _ _ _ _ _ _ R1

theorem lw_rate (C : g_Cx p s m args c cL_law 4 RL D (tysY Y) A9 (eLaw e9 b Ln xI)) (hi : 0 ≤ i ∧ i + 6 ≤ Ln ∧ Ln ≤ 3072) (hxs : ∀ k, inR (xI k)) (R : (REL K It L Jd Nd J N Js Ns Jk Nk Ih Ah Ip Ap Bp Ir V M I A F Dd)) (k : ∀ (K It L : Nat → Int) (Jd : Nat → Int) (Nd : Nat → Nat → Int) (J : Nat → Int) (N : Nat → Nat → Int) (Js : Nat → Int) (Ns : Nat → Nat → Int) (Jk : Nat → Nat → Int) (Nk : Nat → Nat → Nat → Int) (Ih : Nat → Int) (Ah : Nat → Nat → Int) (Ip : Nat → Int) (Ap Bp : Nat → Nat → Int) (Ir : Nat → Nat → Int) (V : Nat → Nat → UInt64) (M : Nat → Nat → Int) (I : Nat → Int) (A : Nat → Nat → Int) (F : Nat → UInt32) (Dd : Nat → UInt64), (REL K It L Jd Nd J N Js Ns Jk Nk Ih Ah Ip Ap Bp Ir V M I A F Dd) → g_G p l e room_1 s m args below meth c 4 D A9 Q 77 1630 (wS q Y qt qd qn qs qk qh qp qr qm K It L Jd Nd J N Js Ns Jk Nk Ih Ah Ip Ap Bp Ir V M I A F Dd) [(3, .int (iI i)), (2, .ref (qm 99)), (1, .ref (q 99)), (0, .ref b)] 860 []) : g_G p l e room_1 s m args below meth c 4 D A9 Q 77 1630 (wS q Y qt qd qn qs qk qh qp qr qm K It L Jd Nd J N Js Ns Jk Nk Ih Ah Ip Ap Bp Ir V M I A F Dd) [(3, .int (iI i)), (2, .ref (qm 99)), (1, .ref (q 99)), (0, .ref b)] 411 [] := by
  refine g_aload_n C (n' := 412) 2 rfl dL_law_411 rfl rfl ?_
  refine g_aload_n C (n' := 413) 3 rfl dL_law_412 rfl rfl ?_
  refine g_iload_n C (n' := 414) 0 rfl dL_law_413 rfl rfl ?_
  refine g_iconst C (n' := 415) dL_law_414 rfl ?_
  refine g_iadd C (n' := 416) dL_law_415 rfl ?_
  refine g_ti C (n' := 417) C.2.2.2.2.2.2.2.2.2.2.2 (by omega) (by omega) (by omega) (v := .int (iI (xI (i + 1).toNat))) rfl dL_law_416 rfl ?_
  refine g_callV C (n' := 420) (As := [.int (iI (xI (i + 1).toNat))]) (c_X7_rate l D Y C.2.2.2.2.2.2.2.2.1 q qt qd qn qs qk qh qp qr K J N Ip Ap Bp (xI (i + 1).toNat) R.2.1.1 R.2.1.2.1 R.2.1.2.2.1 R.2.2.2.2.2.2.1.1 R.2.2.2.2.2.2.1.2.1 R.2.2.2.2.2.2.1.2.2 (hxs _)) 1 kw_497 kc_X7_rate (by decide +kernel) (pS_plan _ _ _ _ _ _ _ _ _ _ _ _ _) 0 (ci := 5) rfl rfl rfl rfl ⟨Nat.le_of_ble_eq_true rfl, Nat.le_of_ble_eq_true rfl⟩ ⟨rfl, rfl⟩ ⟨Nat.le_of_ble_eq_true rfl, Nat.le_of_ble_eq_true rfl⟩ (Nat.le_of_ble_eq_true rfl) dL_law_417 rfl (fun r7 w7 h7 => ?_)
  have hz : ∃ z : Int, r7 = some (.int (iI z)) := by
    obtain ⟨_, _, _, _, _, _, _, z, h, _⟩ := h7
    exact ⟨z, h⟩
  obtain ⟨z9, rfl⟩ := hz
  refine g_aload_n C (n' := 421) 1 rfl dL_law_420 rfl rfl ?_
  refine g_aload_n C (n' := 422) 3 rfl dL_law_421 rfl rfl ?_
  refine g_iload_n C (n' := 423) 0 rfl dL_law_422 rfl rfl ?_
  refine g_iconst C (n' := 424) dL_law_423 rfl ?_
  refine g_iadd C (n' := 425) dL_law_424 rfl ?_
  refine g_ti C (n' := 426) C.2.2.2.2.2.2.2.2.2.2.2 (by omega) (by omega) (by omega) (v := .int (iI (xI (i + 1).toNat))) rfl dL_law_425 rfl ?_
  refine g_callV C (n' := 429) (As := [.int (iI (xI (i + 1).toNat))]) (c_X8_rate l D Y C.2.2.2.2.2.2.2.2.1 qm I A F Dd (xI (i + 1).toNat) R.2.2.2.2.2.2.2.1.1 R.2.2.2.2.2.2.2.1.2.1 (R_o R) (hxs _)) 1 kw_940 kc_X8_rate (by decide +kernel) pM 0 (ci := 6) rfl rfl rfl rfl ⟨Nat.le_of_ble_eq_true rfl, Nat.le_of_ble_eq_true rfl⟩ ⟨rfl, rfl⟩ ⟨Nat.le_of_ble_eq_true rfl, Nat.le_of_ble_eq_true rfl⟩ (Nat.le_of_ble_eq_true rfl) dL_law_426 rfl (fun r8 w8 h8 => ?_)
  obtain ⟨z, e7, rfl, K1, It1, L1, Jd1, Nd1, J1, N1, Js1, Ns1, Jk1, Nk1, Ih1, Ah1, Ip1, Ap1, Bp1, Ir1, V1, M1, I1, A1, F1, Dd1, R1, hp⟩ := pr_rate R h7 h8
  have e8 := Value.int.inj (Option.some.inj e7)
  rw [e8]
  refine g_same C 860 dL_law_429 (by decide) ?_
  refine g_perm hp ?_
  exact k _ _ _ _ _ _ _ _ _ _ _ _ _ _ _ _ _ _ _ _ _ _ _ R1

theorem lw_margin (C : g_Cx p s m args c cL_law 4 RL D (tysY Y) A9 (eLaw e9 b Ln xI)) (hi : 0 ≤ i ∧ i + 6 ≤ Ln ∧ Ln ≤ 3072) (hxs : ∀ k, inR (xI k)) (R : (REL K It L Jd Nd J N Js Ns Jk Nk Ih Ah Ip Ap Bp Ir V M I A F Dd)) (k : ∀ (K It L : Nat → Int) (Jd : Nat → Int) (Nd : Nat → Nat → Int) (J : Nat → Int) (N : Nat → Nat → Int) (Js : Nat → Int) (Ns : Nat → Nat → Int) (Jk : Nat → Nat → Int) (Nk : Nat → Nat → Nat → Int) (Ih : Nat → Int) (Ah : Nat → Nat → Int) (Ip : Nat → Int) (Ap Bp : Nat → Nat → Int) (Ir : Nat → Nat → Int) (V : Nat → Nat → UInt64) (M : Nat → Nat → Int) (I : Nat → Int) (A : Nat → Nat → Int) (F : Nat → UInt32) (Dd : Nat → UInt64), (REL K It L Jd Nd J N Js Ns Jk Nk Ih Ah Ip Ap Bp Ir V M I A F Dd) → g_G p l e room_1 s m args below meth c 4 D A9 Q 77 1630 (wS q Y qt qd qn qs qk qh qp qr qm K It L Jd Nd J N Js Ns Jk Nk Ih Ah Ip Ap Bp Ir V M I A F Dd) [(3, .int (iI i)), (2, .ref (qm 99)), (1, .ref (q 99)), (0, .ref b)] 860 []) : g_G p l e room_1 s m args below meth c 4 D A9 Q 77 1630 (wS q Y qt qd qn qs qk qh qp qr qm K It L Jd Nd J N Js Ns Jk Nk Ih Ah Ip Ap Bp Ir V M I A F Dd) [(3, .int (iI i)), (2, .ref (qm 99)), (1, .ref (q 99)), (0, .ref b)] 434 [] := by
  refine g_aload_n C (n' := 435) 2 rfl dL_law_434 rfl rfl ?_
  refine g_callV C (n' := 438) (As := []) (c_X7_margin l D Y C.2.2.2.2.2.2.2.2.1 q qt qd qn qs qk qh qp qr K J N Ip Ap Bp R.2.1.1 R.2.1.2.1 R.2.1.2.2.1 R.2.2.2.2.2.2.1.1 R.2.2.2.2.2.2.1.2.1 R.2.2.2.2.2.2.1.2.2) 0 kw_513 kc_X7_margin (by decide +kernel) (pS_plan _ _ _ _ _ _ _ _ _ _ _ _ _) 0 (ci := 5) rfl rfl rfl rfl ⟨Nat.le_of_ble_eq_true rfl, Nat.le_of_ble_eq_true rfl⟩ ⟨rfl, rfl⟩ ⟨Nat.le_of_ble_eq_true rfl, Nat.le_of_ble_eq_true rfl⟩ (Nat.le_of_ble_eq_true rfl) dL_law_435 rfl (fun r7 w7 h7 => ?_)
  have hz : ∃ z : Int, r7 = some (.int (iI z)) := by
    obtain ⟨_, _, _, _, _, _, _, z, h, _⟩ := h7
    exact ⟨z, h⟩
  obtain ⟨z9, rfl⟩ := hz
  refine g_aload_n C (n' := 439) 1 rfl dL_law_438 rfl rfl ?_
  refine g_callV C (n' := 442) (As := []) (c_X8_margin l D Y C.2.2.2.2.2.2.2.2.1 qm I A F Dd R.2.2.2.2.2.2.2.1.1 R.2.2.2.2.2.2.2.1.2.1 (R_o R)) 0 kw_948 kc_X8_margin (by decide +kernel) pM 0 (ci := 6) rfl rfl rfl rfl ⟨Nat.le_of_ble_eq_true rfl, Nat.le_of_ble_eq_true rfl⟩ ⟨rfl, rfl⟩ ⟨Nat.le_of_ble_eq_true rfl, Nat.le_of_ble_eq_true rfl⟩ (Nat.le_of_ble_eq_true rfl) dL_law_439 rfl (fun r8 w8 h8 => ?_)
  obtain ⟨z, e7, rfl, K1, It1, L1, Jd1, Nd1, J1, N1, Js1, Ns1, Jk1, Nk1, Ih1, Ah1, Ip1, Ap1, Bp1, Ir1, V1, M1, I1, A1, F1, Dd1, R1, hp⟩ := pr_margin R h7 h8
  have e8 := Value.int.inj (Option.some.inj e7)
  rw [e8]
  refine g_same C 860 dL_law_442 (by decide) ?_
  refine g_perm hp ?_
  exact k _ _ _ _ _ _ _ _ _ _ _ _ _ _ _ _ _ _ _ _ _ _ _ R1

theorem lw_spare (C : g_Cx p s m args c cL_law 4 RL D (tysY Y) A9 (eLaw e9 b Ln xI)) (hi : 0 ≤ i ∧ i + 6 ≤ Ln ∧ Ln ≤ 3072) (hxs : ∀ k, inR (xI k)) (R : (REL K It L Jd Nd J N Js Ns Jk Nk Ih Ah Ip Ap Bp Ir V M I A F Dd)) (k : ∀ (K It L : Nat → Int) (Jd : Nat → Int) (Nd : Nat → Nat → Int) (J : Nat → Int) (N : Nat → Nat → Int) (Js : Nat → Int) (Ns : Nat → Nat → Int) (Jk : Nat → Nat → Int) (Nk : Nat → Nat → Nat → Int) (Ih : Nat → Int) (Ah : Nat → Nat → Int) (Ip : Nat → Int) (Ap Bp : Nat → Nat → Int) (Ir : Nat → Nat → Int) (V : Nat → Nat → UInt64) (M : Nat → Nat → Int) (I : Nat → Int) (A : Nat → Nat → Int) (F : Nat → UInt32) (Dd : Nat → UInt64), (REL K It L Jd Nd J N Js Ns Jk Nk Ih Ah Ip Ap Bp Ir V M I A F Dd) → g_G p l e room_1 s m args below meth c 4 D A9 Q 77 1630 (wS q Y qt qd qn qs qk qh qp qr qm K It L Jd Nd J N Js Ns Jk Nk Ih Ah Ip Ap Bp Ir V M I A F Dd) [(3, .int (iI i)), (2, .ref (qm 99)), (1, .ref (q 99)), (0, .ref b)] 860 []) : g_G p l e room_1 s m args below meth c 4 D A9 Q 77 1630 (wS q Y qt qd qn qs qk qh qp qr qm K It L Jd Nd J N Js Ns Jk Nk Ih Ah Ip Ap Bp Ir V M I A F Dd) [(3, .int (iI i)), (2, .ref (qm 99)), (1, .ref (q 99)), (0, .ref b)] 447 [] := by
  refine g_aload_n C (n' := 448) 2 rfl dL_law_447 rfl rfl ?_
  refine g_aload_n C (n' := 449) 3 rfl dL_law_448 rfl rfl ?_
  refine g_iload_n C (n' := 450) 0 rfl dL_law_449 rfl rfl ?_
  refine g_iconst C (n' := 451) dL_law_450 rfl ?_
  refine g_iadd C (n' := 452) dL_law_451 rfl ?_
  refine g_ti C (n' := 453) C.2.2.2.2.2.2.2.2.2.2.2 (by omega) (by omega) (by omega) (v := .int (iI (xI (i + 1).toNat))) rfl dL_law_452 rfl ?_
  refine g_aload_n C (n' := 454) 3 rfl dL_law_453 rfl rfl ?_
  refine g_iload_n C (n' := 455) 0 rfl dL_law_454 rfl rfl ?_
  refine g_iconst C (n' := 456) dL_law_455 rfl ?_
  refine g_iadd C (n' := 457) dL_law_456 rfl ?_
  refine g_ti C (n' := 458) C.2.2.2.2.2.2.2.2.2.2.2 (by omega) (by omega) (by omega) (v := .int (iI (xI (i + 2).toNat))) rfl dL_law_457 rfl ?_
  refine g_callV C (n' := 461) (As := [.int (iI (xI (i + 1).toNat)), .int (iI (xI (i + 2).toNat))]) (c_X7_spare l D Y C.2.2.2.2.2.2.2.2.1 q qt qd qn qs qk qh qp qr K J N Ip Ap Bp (xI (i + 1).toNat) (xI (i + 2).toNat) R.2.1.1 R.2.1.2.1 R.2.1.2.2.1 R.2.2.2.2.2.2.1.1 R.2.2.2.2.2.2.1.2.1 R.2.2.2.2.2.2.1.2.2 (hxs _) (hxs _)) 2 kw_521 kc_X7_spare (by decide +kernel) (pS_plan _ _ _ _ _ _ _ _ _ _ _ _ _) 0 (ci := 5) rfl rfl rfl rfl ⟨Nat.le_of_ble_eq_true rfl, Nat.le_of_ble_eq_true rfl⟩ ⟨rfl, rfl⟩ ⟨Nat.le_of_ble_eq_true rfl, Nat.le_of_ble_eq_true rfl⟩ (Nat.le_of_ble_eq_true rfl) dL_law_458 rfl (fun r7 w7 h7 => ?_)
  have hz : ∃ z : Int, r7 = some (.int (iI z)) := by
    obtain ⟨_, _, _, _, _, _, _, z, h, _⟩ := h7
    exact ⟨z, h⟩
  obtain ⟨z9, rfl⟩ := hz
  refine g_aload_n C (n' := 462) 1 rfl dL_law_461 rfl rfl ?_
  refine g_aload_n C (n' := 463) 3 rfl dL_law_462 rfl rfl ?_
  refine g_iload_n C (n' := 464) 0 rfl dL_law_463 rfl rfl ?_
  refine g_iconst C (n' := 465) dL_law_464 rfl ?_
  refine g_iadd C (n' := 466) dL_law_465 rfl ?_
  refine g_ti C (n' := 467) C.2.2.2.2.2.2.2.2.2.2.2 (by omega) (by omega) (by omega) (v := .int (iI (xI (i + 1).toNat))) rfl dL_law_466 rfl ?_
  refine g_aload_n C (n' := 468) 3 rfl dL_law_467 rfl rfl ?_
  refine g_iload_n C (n' := 469) 0 rfl dL_law_468 rfl rfl ?_
  refine g_iconst C (n' := 470) dL_law_469 rfl ?_
  refine g_iadd C (n' := 471) dL_law_470 rfl ?_
  refine g_ti C (n' := 472) C.2.2.2.2.2.2.2.2.2.2.2 (by omega) (by omega) (by omega) (v := .int (iI (xI (i + 2).toNat))) rfl dL_law_471 rfl ?_
  refine g_callV C (n' := 475) (As := [.int (iI (xI (i + 1).toNat)), .int (iI (xI (i + 2).toNat))]) (c_X8_spare l D Y C.2.2.2.2.2.2.2.2.1 qm I A F Dd (xI (i + 1).toNat) (xI (i + 2).toNat) R.2.2.2.2.2.2.2.1.1 R.2.2.2.2.2.2.2.1.2.1 (R_o R) (hxs _) (hxs _)) 2 kw_952 kc_X8_spare (by decide +kernel) pM 0 (ci := 6) rfl rfl rfl rfl ⟨Nat.le_of_ble_eq_true rfl, Nat.le_of_ble_eq_true rfl⟩ ⟨rfl, rfl⟩ ⟨Nat.le_of_ble_eq_true rfl, Nat.le_of_ble_eq_true rfl⟩ (Nat.le_of_ble_eq_true rfl) dL_law_472 rfl (fun r8 w8 h8 => ?_)
  obtain ⟨z, e7, rfl, K1, It1, L1, Jd1, Nd1, J1, N1, Js1, Ns1, Jk1, Nk1, Ih1, Ah1, Ip1, Ap1, Bp1, Ir1, V1, M1, I1, A1, F1, Dd1, R1, hp⟩ := pr_spare R h7 h8
  have e8 := Value.int.inj (Option.some.inj e7)
  rw [e8]
  refine g_same C 860 dL_law_475 (by decide) ?_
  refine g_perm hp ?_
  exact k _ _ _ _ _ _ _ _ _ _ _ _ _ _ _ _ _ _ _ _ _ _ _ R1

theorem lw_cycle (C : g_Cx p s m args c cL_law 4 RL D (tysY Y) A9 (eLaw e9 b Ln xI)) (hi : 0 ≤ i ∧ i + 6 ≤ Ln ∧ Ln ≤ 3072) (hxs : ∀ k, inR (xI k)) (R : (REL K It L Jd Nd J N Js Ns Jk Nk Ih Ah Ip Ap Bp Ir V M I A F Dd)) (k : ∀ (K It L : Nat → Int) (Jd : Nat → Int) (Nd : Nat → Nat → Int) (J : Nat → Int) (N : Nat → Nat → Int) (Js : Nat → Int) (Ns : Nat → Nat → Int) (Jk : Nat → Nat → Int) (Nk : Nat → Nat → Nat → Int) (Ih : Nat → Int) (Ah : Nat → Nat → Int) (Ip : Nat → Int) (Ap Bp : Nat → Nat → Int) (Ir : Nat → Nat → Int) (V : Nat → Nat → UInt64) (M : Nat → Nat → Int) (I : Nat → Int) (A : Nat → Nat → Int) (F : Nat → UInt32) (Dd : Nat → UInt64), (REL K It L Jd Nd J N Js Ns Jk Nk Ih Ah Ip Ap Bp Ir V M I A F Dd) → g_G p l e room_1 s m args below meth c 4 D A9 Q 77 1630 (wS q Y qt qd qn qs qk qh qp qr qm K It L Jd Nd J N Js Ns Jk Nk Ih Ah Ip Ap Bp Ir V M I A F Dd) [(3, .int (iI i)), (2, .ref (qm 99)), (1, .ref (q 99)), (0, .ref b)] 860 []) : g_G p l e room_1 s m args below meth c 4 D A9 Q 77 1630 (wS q Y qt qd qn qs qk qh qp qr qm K It L Jd Nd J N Js Ns Jk Nk Ih Ah Ip Ap Bp Ir V M I A F Dd) [(3, .int (iI i)), (2, .ref (qm 99)), (1, .ref (q 99)), (0, .ref b)] 480 [] := by
  refine g_aload_n C (n' := 481) 2 rfl dL_law_480 rfl rfl ?_
  refine g_aload_n C (n' := 482) 3 rfl dL_law_481 rfl rfl ?_
  refine g_iload_n C (n' := 483) 0 rfl dL_law_482 rfl rfl ?_
  refine g_iconst C (n' := 484) dL_law_483 rfl ?_
  refine g_iadd C (n' := 485) dL_law_484 rfl ?_
  refine g_ti C (n' := 486) C.2.2.2.2.2.2.2.2.2.2.2 (by omega) (by omega) (by omega) (v := .int (iI (xI (i + 1).toNat))) rfl dL_law_485 rfl ?_
  refine g_callV C (n' := 489) (As := [.int (iI (xI (i + 1).toNat))]) (c_X7_cycle l D Y C.2.2.2.2.2.2.2.2.1 q qt qd qn qs qk qh qp qr K J N Ip Ap Bp (xI (i + 1).toNat) R.2.1.1 R.2.1.2.1 R.2.1.2.2.1 R.2.2.2.2.2.2.1.1 R.2.2.2.2.2.2.1.2.1 R.2.2.2.2.2.2.1.2.2 (hxs _)) 1 kw_525 kc_X7_cycle (by decide +kernel) (pS_plan _ _ _ _ _ _ _ _ _ _ _ _ _) 0 (ci := 5) rfl rfl rfl rfl ⟨Nat.le_of_ble_eq_true rfl, Nat.le_of_ble_eq_true rfl⟩ ⟨rfl, rfl⟩ ⟨Nat.le_of_ble_eq_true rfl, Nat.le_of_ble_eq_true rfl⟩ (Nat.le_of_ble_eq_true rfl) dL_law_486 rfl (fun r7 w7 h7 => ?_)
  have hz : ∃ z : Int, r7 = some (.int (iI z)) := by
    obtain ⟨_, _, _, _, _, _, _, z, h, _⟩ := h7
    exact ⟨z, h⟩
  obtain ⟨z9, rfl⟩ := hz
  refine g_aload_n C (n' := 490) 1 rfl dL_law_489 rfl rfl ?_
  refine g_aload_n C (n' := 491) 3 rfl dL_law_490 rfl rfl ?_
  refine g_iload_n C (n' := 492) 0 rfl dL_law_491 rfl rfl ?_
  refine g_iconst C (n' := 493) dL_law_492 rfl ?_
  refine g_iadd C (n' := 494) dL_law_493 rfl ?_
  refine g_ti C (n' := 495) C.2.2.2.2.2.2.2.2.2.2.2 (by omega) (by omega) (by omega) (v := .int (iI (xI (i + 1).toNat))) rfl dL_law_494 rfl ?_
  refine g_callV C (n' := 498) (As := [.int (iI (xI (i + 1).toNat))]) (c_X8_cycle l D Y C.2.2.2.2.2.2.2.2.1 qm I A F Dd (xI (i + 1).toNat) R.2.2.2.2.2.2.2.1.1 R.2.2.2.2.2.2.2.1.2.1 (R_o R) (hxs _)) 1 kw_956 kc_X8_cycle (by decide +kernel) pM 0 (ci := 6) rfl rfl rfl rfl ⟨Nat.le_of_ble_eq_true rfl, Nat.le_of_ble_eq_true rfl⟩ ⟨rfl, rfl⟩ ⟨Nat.le_of_ble_eq_true rfl, Nat.le_of_ble_eq_true rfl⟩ (Nat.le_of_ble_eq_true rfl) dL_law_495 rfl (fun r8 w8 h8 => ?_)
  obtain ⟨z, e7, rfl, K1, It1, L1, Jd1, Nd1, J1, N1, Js1, Ns1, Jk1, Nk1, Ih1, Ah1, Ip1, Ap1, Bp1, Ir1, V1, M1, I1, A1, F1, Dd1, R1, hp⟩ := pr_cycle R h7 h8
  have e8 := Value.int.inj (Option.some.inj e7)
  rw [e8]
  refine g_same C 860 dL_law_498 (by decide) ?_
  refine g_perm hp ?_
  exact k _ _ _ _ _ _ _ _ _ _ _ _ _ _ _ _ _ _ _ _ _ _ _ R1

theorem lw_buffer (C : g_Cx p s m args c cL_law 4 RL D (tysY Y) A9 (eLaw e9 b Ln xI)) (hi : 0 ≤ i ∧ i + 6 ≤ Ln ∧ Ln ≤ 3072) (hxs : ∀ k, inR (xI k)) (R : (REL K It L Jd Nd J N Js Ns Jk Nk Ih Ah Ip Ap Bp Ir V M I A F Dd)) (k : ∀ (K It L : Nat → Int) (Jd : Nat → Int) (Nd : Nat → Nat → Int) (J : Nat → Int) (N : Nat → Nat → Int) (Js : Nat → Int) (Ns : Nat → Nat → Int) (Jk : Nat → Nat → Int) (Nk : Nat → Nat → Nat → Int) (Ih : Nat → Int) (Ah : Nat → Nat → Int) (Ip : Nat → Int) (Ap Bp : Nat → Nat → Int) (Ir : Nat → Nat → Int) (V : Nat → Nat → UInt64) (M : Nat → Nat → Int) (I : Nat → Int) (A : Nat → Nat → Int) (F : Nat → UInt32) (Dd : Nat → UInt64), (REL K It L Jd Nd J N Js Ns Jk Nk Ih Ah Ip Ap Bp Ir V M I A F Dd) → g_G p l e room_1 s m args below meth c 4 D A9 Q 77 1630 (wS q Y qt qd qn qs qk qh qp qr qm K It L Jd Nd J N Js Ns Jk Nk Ih Ah Ip Ap Bp Ir V M I A F Dd) [(3, .int (iI i)), (2, .ref (qm 99)), (1, .ref (q 99)), (0, .ref b)] 860 []) : g_G p l e room_1 s m args below meth c 4 D A9 Q 77 1630 (wS q Y qt qd qn qs qk qh qp qr qm K It L Jd Nd J N Js Ns Jk Nk Ih Ah Ip Ap Bp Ir V M I A F Dd) [(3, .int (iI i)), (2, .ref (qm 99)), (1, .ref (q 99)), (0, .ref b)] 503 [] := by
  refine g_aload_n C (n' := 504) 2 rfl dL_law_503 rfl rfl ?_
  refine g_aload_n C (n' := 505) 3 rfl dL_law_504 rfl rfl ?_
  refine g_iload_n C (n' := 506) 0 rfl dL_law_505 rfl rfl ?_
  refine g_iconst C (n' := 507) dL_law_506 rfl ?_
  refine g_iadd C (n' := 508) dL_law_507 rfl ?_
  refine g_ti C (n' := 509) C.2.2.2.2.2.2.2.2.2.2.2 (by omega) (by omega) (by omega) (v := .int (iI (xI (i + 1).toNat))) rfl dL_law_508 rfl ?_
  refine g_callV C (n' := 512) (As := [.int (iI (xI (i + 1).toNat))]) (c_X7_buffer l D Y C.2.2.2.2.2.2.2.2.1 q qt qd qn qs qk qh qp qr K J N Js Ns Ip Ap Bp (xI (i + 1).toNat) R.2.1.1 R.2.1.2.1 R.2.1.2.2.1 R.2.2.2.1.1 R.2.2.2.1.2 R.2.2.2.2.2.2.1.1 R.2.2.2.2.2.2.1.2.1 R.2.2.2.2.2.2.1.2.2 (hxs _)) 1 kw_549 kc_X7_buffer (by decide +kernel) (pS_buf _ _ _ _ _ _ _ _ _ _ _ _ _) 0 (ci := 5) rfl rfl rfl rfl ⟨Nat.le_of_ble_eq_true rfl, Nat.le_of_ble_eq_true rfl⟩ ⟨rfl, rfl⟩ ⟨Nat.le_of_ble_eq_true rfl, Nat.le_of_ble_eq_true rfl⟩ (Nat.le_of_ble_eq_true rfl) dL_law_509 rfl (fun r7 w7 h7 => ?_)
  have hz : ∃ z : Int, r7 = some (.int (iI z)) := by
    obtain ⟨_, _, _, _, _, _, _, _, _, _, _, z, h, _⟩ := h7
    exact ⟨z, h⟩
  obtain ⟨z9, rfl⟩ := hz
  refine g_aload_n C (n' := 513) 1 rfl dL_law_512 rfl rfl ?_
  refine g_aload_n C (n' := 514) 3 rfl dL_law_513 rfl rfl ?_
  refine g_iload_n C (n' := 515) 0 rfl dL_law_514 rfl rfl ?_
  refine g_iconst C (n' := 516) dL_law_515 rfl ?_
  refine g_iadd C (n' := 517) dL_law_516 rfl ?_
  refine g_ti C (n' := 518) C.2.2.2.2.2.2.2.2.2.2.2 (by omega) (by omega) (by omega) (v := .int (iI (xI (i + 1).toNat))) rfl dL_law_517 rfl ?_
  refine g_callV C (n' := 521) (As := [.int (iI (xI (i + 1).toNat))]) (c_X8_buffer l D Y C.2.2.2.2.2.2.2.2.1 qm I A F Dd (xI (i + 1).toNat) R.2.2.2.2.2.2.2.1.1 R.2.2.2.2.2.2.2.1.2.1 (R_o R) (hxs _)) 1 kw_981 kc_X8_buffer (by decide +kernel) pM 0 (ci := 6) rfl rfl rfl rfl ⟨Nat.le_of_ble_eq_true rfl, Nat.le_of_ble_eq_true rfl⟩ ⟨rfl, rfl⟩ ⟨Nat.le_of_ble_eq_true rfl, Nat.le_of_ble_eq_true rfl⟩ (Nat.le_of_ble_eq_true rfl) dL_law_518 rfl (fun r8 w8 h8 => ?_)
  obtain ⟨z, e7, rfl, K1, It1, L1, Jd1, Nd1, J1, N1, Js1, Ns1, Jk1, Nk1, Ih1, Ah1, Ip1, Ap1, Bp1, Ir1, V1, M1, I1, A1, F1, Dd1, R1, hp⟩ := pr_buffer R h7 h8
  have e8 := Value.int.inj (Option.some.inj e7)
  rw [e8]
  refine g_same C 860 dL_law_521 (by decide) ?_
  refine g_perm hp ?_
  exact k _ _ _ _ _ _ _ _ _ _ _ _ _ _ _ _ _ _ _ _ _ _ _ R1

theorem lw_trace_0 (C : g_Cx p s m args c cL_law 4 RL D (tysY Y) A9 (eLaw e9 b Ln xI)) (hi : 0 ≤ i ∧ i + 6 ≤ Ln ∧ Ln ≤ 3072) (hxs : ∀ k, inR (xI k)) (hpl : xI (i + 1).toNat = (0 : Int)) (R : (REL K It L Jd Nd J N Js Ns Jk Nk Ih Ah Ip Ap Bp Ir V M I A F Dd)) (k : ∀ (K It L : Nat → Int) (Jd : Nat → Int) (Nd : Nat → Nat → Int) (J : Nat → Int) (N : Nat → Nat → Int) (Js : Nat → Int) (Ns : Nat → Nat → Int) (Jk : Nat → Nat → Int) (Nk : Nat → Nat → Nat → Int) (Ih : Nat → Int) (Ah : Nat → Nat → Int) (Ip : Nat → Int) (Ap Bp : Nat → Nat → Int) (Ir : Nat → Nat → Int) (V : Nat → Nat → UInt64) (M : Nat → Nat → Int) (I : Nat → Int) (A : Nat → Nat → Int) (F : Nat → UInt32) (Dd : Nat → UInt64), (REL K It L Jd Nd J N Js Ns Jk Nk Ih Ah Ip Ap Bp Ir V M I A F Dd) → g_G p l e room_1 s m args below meth c 4 D A9 Q 77 1630 (wS q Y qt qd qn qs qk qh qp qr qm K It L Jd Nd J N Js Ns Jk Nk Ih Ah Ip Ap Bp Ir V M I A F Dd) [(3, .int (iI i)), (2, .ref (qm 99)), (1, .ref (q 99)), (0, .ref b)] 860 []) : g_G p l e room_1 s m args below meth c 4 D A9 Q 77 1630 (wS q Y qt qd qn qs qk qh qp qr qm K It L Jd Nd J N Js Ns Jk Nk Ih Ah Ip Ap Bp Ir V M I A F Dd) [(3, .int (iI i)), (2, .ref (qm 99)), (1, .ref (q 99)), (0, .ref b)] 526 [] := by
  refine g_aload_n C (n' := 527) 2 rfl dL_law_526 rfl rfl ?_
  refine g_aload_n C (n' := 528) 3 rfl dL_law_527 rfl rfl ?_
  refine g_iload_n C (n' := 529) 0 rfl dL_law_528 rfl rfl ?_
  refine g_iconst C (n' := 530) dL_law_529 rfl ?_
  refine g_iadd C (n' := 531) dL_law_530 rfl ?_
  refine g_ti C (n' := 532) C.2.2.2.2.2.2.2.2.2.2.2 (by omega) (by omega) (by omega) (v := .int (iI (0 : Int))) (congrArg (fun z => Value.int (iI z)) hpl) dL_law_531 rfl ?_
  refine g_aload_n C (n' := 533) 3 rfl dL_law_532 rfl rfl ?_
  refine g_iload_n C (n' := 534) 0 rfl dL_law_533 rfl rfl ?_
  refine g_iconst C (n' := 535) dL_law_534 rfl ?_
  refine g_iadd C (n' := 536) dL_law_535 rfl ?_
  refine g_ti C (n' := 537) C.2.2.2.2.2.2.2.2.2.2.2 (by omega) (by omega) (by omega) (v := .int (iI (xI (i + 2).toNat))) rfl dL_law_536 rfl ?_
  refine g_aload_n C (n' := 538) 3 rfl dL_law_537 rfl rfl ?_
  refine g_iload_n C (n' := 539) 0 rfl dL_law_538 rfl rfl ?_
  refine g_iconst C (n' := 540) dL_law_539 rfl ?_
  refine g_iadd C (n' := 541) dL_law_540 rfl ?_
  refine g_ti C (n' := 542) C.2.2.2.2.2.2.2.2.2.2.2 (by omega) (by omega) (by omega) (v := .int (iI (xI (i + 3).toNat))) rfl dL_law_541 rfl ?_
  refine g_callV C (n' := 545) (As := [.int (iI (0 : Int)), .int (iI (xI (i + 2).toNat)), .int (iI (xI (i + 3).toNat))]) (c_X7_trace l D Y C.2.2.2.2.2.2.2.2.1 q qt qd qn qs qk qh qp qr K (Ir 0) (V 0) (M 0) (0 : Int) (xI (i + 2).toNat) (xI (i + 3).toNat) (R.2.2.2.2.2.2.2.2 0 (by decide)).1 (R.2.2.2.2.2.2.2.2 0 (by decide)).2.1 (R.2.2.2.2.2.2.2.2 0 (by decide)).2.2.2.1 (by decide) (hxs _) (hxs _)) 3 kw_556 kc_X7_trace (by decide +kernel) (pS_r0 _ _ _ _ _ _ _ _ _ _ _ _ _) 0 (ci := 5) rfl rfl rfl rfl ⟨Nat.le_of_ble_eq_true rfl, Nat.le_of_ble_eq_true rfl⟩ ⟨rfl, rfl⟩ ⟨Nat.le_of_ble_eq_true rfl, Nat.le_of_ble_eq_true rfl⟩ (Nat.le_of_ble_eq_true rfl) dL_law_542 rfl (fun r7 w7 h7 => ?_)
  have hz : ∃ z : Int, r7 = some (.int (iI z)) := by
    rcases h7 with ⟨_, h, _⟩ | ⟨_, ⟨_, h, _⟩ | ⟨_, h, _⟩⟩ <;> exact ⟨_, h⟩
  obtain ⟨z9, rfl⟩ := hz
  refine g_aload_n C (n' := 546) 1 rfl dL_law_545 rfl rfl ?_
  refine g_aload_n C (n' := 547) 3 rfl dL_law_546 rfl rfl ?_
  refine g_iload_n C (n' := 548) 0 rfl dL_law_547 rfl rfl ?_
  refine g_iconst C (n' := 549) dL_law_548 rfl ?_
  refine g_iadd C (n' := 550) dL_law_549 rfl ?_
  refine g_ti C (n' := 551) C.2.2.2.2.2.2.2.2.2.2.2 (by omega) (by omega) (by omega) (v := .int (iI (0 : Int))) (congrArg (fun z => Value.int (iI z)) hpl) dL_law_550 rfl ?_
  refine g_aload_n C (n' := 552) 3 rfl dL_law_551 rfl rfl ?_
  refine g_iload_n C (n' := 553) 0 rfl dL_law_552 rfl rfl ?_
  refine g_iconst C (n' := 554) dL_law_553 rfl ?_
  refine g_iadd C (n' := 555) dL_law_554 rfl ?_
  refine g_ti C (n' := 556) C.2.2.2.2.2.2.2.2.2.2.2 (by omega) (by omega) (by omega) (v := .int (iI (xI (i + 2).toNat))) rfl dL_law_555 rfl ?_
  refine g_aload_n C (n' := 557) 3 rfl dL_law_556 rfl rfl ?_
  refine g_iload_n C (n' := 558) 0 rfl dL_law_557 rfl rfl ?_
  refine g_iconst C (n' := 559) dL_law_558 rfl ?_
  refine g_iadd C (n' := 560) dL_law_559 rfl ?_
  refine g_ti C (n' := 561) C.2.2.2.2.2.2.2.2.2.2.2 (by omega) (by omega) (by omega) (v := .int (iI (xI (i + 3).toNat))) rfl dL_law_560 rfl ?_
  refine g_callV C (n' := 564) (As := [.int (iI (0 : Int)), .int (iI (xI (i + 2).toNat)), .int (iI (xI (i + 3).toNat))]) (c_X8_trace l D Y C.2.2.2.2.2.2.2.2.1 qm I A F Dd (0 : Int) (xI (i + 2).toNat) (xI (i + 3).toNat) R.2.2.2.2.2.2.2.1.1 R.2.2.2.2.2.2.2.1.2.1 (by unfold inR; decide) (hxs _) (hxs _)) 3 kw_985 kc_X8_trace (by decide +kernel) pM 0 (ci := 6) rfl rfl rfl rfl ⟨Nat.le_of_ble_eq_true rfl, Nat.le_of_ble_eq_true rfl⟩ ⟨rfl, rfl⟩ ⟨Nat.le_of_ble_eq_true rfl, Nat.le_of_ble_eq_true rfl⟩ (Nat.le_of_ble_eq_true rfl) dL_law_561 rfl (fun r8 w8 h8 => ?_)
  obtain ⟨z, e7, rfl, K1, It1, L1, Jd1, Nd1, J1, N1, Js1, Ns1, Jk1, Nk1, Ih1, Ah1, Ip1, Ap1, Bp1, Ir1, V1, M1, I1, A1, F1, Dd1, R1, hp⟩ := pr_trace_0 R h7 h8
  have e8 := Value.int.inj (Option.some.inj e7)
  rw [e8]
  refine g_same C 860 dL_law_564 (by decide) ?_
  refine g_perm hp ?_
  exact k _ _ _ _ _ _ _ _ _ _ _ _ _ _ _ _ _ _ _ _ _ _ _ R1

theorem lw_trace_1 (C : g_Cx p s m args c cL_law 4 RL D (tysY Y) A9 (eLaw e9 b Ln xI)) (hi : 0 ≤ i ∧ i + 6 ≤ Ln ∧ Ln ≤ 3072) (hxs : ∀ k, inR (xI k)) (hpl : xI (i + 1).toNat = (1 : Int)) (R : (REL K It L Jd Nd J N Js Ns Jk Nk Ih Ah Ip Ap Bp Ir V M I A F Dd)) (k : ∀ (K It L : Nat → Int) (Jd : Nat → Int) (Nd : Nat → Nat → Int) (J : Nat → Int) (N : Nat → Nat → Int) (Js : Nat → Int) (Ns : Nat → Nat → Int) (Jk : Nat → Nat → Int) (Nk : Nat → Nat → Nat → Int) (Ih : Nat → Int) (Ah : Nat → Nat → Int) (Ip : Nat → Int) (Ap Bp : Nat → Nat → Int) (Ir : Nat → Nat → Int) (V : Nat → Nat → UInt64) (M : Nat → Nat → Int) (I : Nat → Int) (A : Nat → Nat → Int) (F : Nat → UInt32) (Dd : Nat → UInt64), (REL K It L Jd Nd J N Js Ns Jk Nk Ih Ah Ip Ap Bp Ir V M I A F Dd) → g_G p l e room_1 s m args below meth c 4 D A9 Q 77 1630 (wS q Y qt qd qn qs qk qh qp qr qm K It L Jd Nd J N Js Ns Jk Nk Ih Ah Ip Ap Bp Ir V M I A F Dd) [(3, .int (iI i)), (2, .ref (qm 99)), (1, .ref (q 99)), (0, .ref b)] 860 []) : g_G p l e room_1 s m args below meth c 4 D A9 Q 77 1630 (wS q Y qt qd qn qs qk qh qp qr qm K It L Jd Nd J N Js Ns Jk Nk Ih Ah Ip Ap Bp Ir V M I A F Dd) [(3, .int (iI i)), (2, .ref (qm 99)), (1, .ref (q 99)), (0, .ref b)] 526 [] := by
  refine g_aload_n C (n' := 527) 2 rfl dL_law_526 rfl rfl ?_
  refine g_aload_n C (n' := 528) 3 rfl dL_law_527 rfl rfl ?_
  refine g_iload_n C (n' := 529) 0 rfl dL_law_528 rfl rfl ?_
  refine g_iconst C (n' := 530) dL_law_529 rfl ?_
  refine g_iadd C (n' := 531) dL_law_530 rfl ?_
  refine g_ti C (n' := 532) C.2.2.2.2.2.2.2.2.2.2.2 (by omega) (by omega) (by omega) (v := .int (iI (1 : Int))) (congrArg (fun z => Value.int (iI z)) hpl) dL_law_531 rfl ?_
  refine g_aload_n C (n' := 533) 3 rfl dL_law_532 rfl rfl ?_
  refine g_iload_n C (n' := 534) 0 rfl dL_law_533 rfl rfl ?_
  refine g_iconst C (n' := 535) dL_law_534 rfl ?_
  refine g_iadd C (n' := 536) dL_law_535 rfl ?_
  refine g_ti C (n' := 537) C.2.2.2.2.2.2.2.2.2.2.2 (by omega) (by omega) (by omega) (v := .int (iI (xI (i + 2).toNat))) rfl dL_law_536 rfl ?_
  refine g_aload_n C (n' := 538) 3 rfl dL_law_537 rfl rfl ?_
  refine g_iload_n C (n' := 539) 0 rfl dL_law_538 rfl rfl ?_
  refine g_iconst C (n' := 540) dL_law_539 rfl ?_
  refine g_iadd C (n' := 541) dL_law_540 rfl ?_
  refine g_ti C (n' := 542) C.2.2.2.2.2.2.2.2.2.2.2 (by omega) (by omega) (by omega) (v := .int (iI (xI (i + 3).toNat))) rfl dL_law_541 rfl ?_
  refine g_callV C (n' := 545) (As := [.int (iI (1 : Int)), .int (iI (xI (i + 2).toNat)), .int (iI (xI (i + 3).toNat))]) (c_X7_trace l D Y C.2.2.2.2.2.2.2.2.1 q qt qd qn qs qk qh qp qr K (Ir 1) (V 1) (M 1) (1 : Int) (xI (i + 2).toNat) (xI (i + 3).toNat) (R.2.2.2.2.2.2.2.2 1 (by decide)).1 (R.2.2.2.2.2.2.2.2 1 (by decide)).2.1 (R.2.2.2.2.2.2.2.2 1 (by decide)).2.2.2.1 (by decide) (hxs _) (hxs _)) 3 kw_556 kc_X7_trace (by decide +kernel) (pS_r1 _ _ _ _ _ _ _ _ _ _ _ _ _) 0 (ci := 5) rfl rfl rfl rfl ⟨Nat.le_of_ble_eq_true rfl, Nat.le_of_ble_eq_true rfl⟩ ⟨rfl, rfl⟩ ⟨Nat.le_of_ble_eq_true rfl, Nat.le_of_ble_eq_true rfl⟩ (Nat.le_of_ble_eq_true rfl) dL_law_542 rfl (fun r7 w7 h7 => ?_)
  have hz : ∃ z : Int, r7 = some (.int (iI z)) := by
    rcases h7 with ⟨_, h, _⟩ | ⟨_, ⟨_, h, _⟩ | ⟨_, h, _⟩⟩ <;> exact ⟨_, h⟩
  obtain ⟨z9, rfl⟩ := hz
  refine g_aload_n C (n' := 546) 1 rfl dL_law_545 rfl rfl ?_
  refine g_aload_n C (n' := 547) 3 rfl dL_law_546 rfl rfl ?_
  refine g_iload_n C (n' := 548) 0 rfl dL_law_547 rfl rfl ?_
  refine g_iconst C (n' := 549) dL_law_548 rfl ?_
  refine g_iadd C (n' := 550) dL_law_549 rfl ?_
  refine g_ti C (n' := 551) C.2.2.2.2.2.2.2.2.2.2.2 (by omega) (by omega) (by omega) (v := .int (iI (1 : Int))) (congrArg (fun z => Value.int (iI z)) hpl) dL_law_550 rfl ?_
  refine g_aload_n C (n' := 552) 3 rfl dL_law_551 rfl rfl ?_
  refine g_iload_n C (n' := 553) 0 rfl dL_law_552 rfl rfl ?_
  refine g_iconst C (n' := 554) dL_law_553 rfl ?_
  refine g_iadd C (n' := 555) dL_law_554 rfl ?_
  refine g_ti C (n' := 556) C.2.2.2.2.2.2.2.2.2.2.2 (by omega) (by omega) (by omega) (v := .int (iI (xI (i + 2).toNat))) rfl dL_law_555 rfl ?_
  refine g_aload_n C (n' := 557) 3 rfl dL_law_556 rfl rfl ?_
  refine g_iload_n C (n' := 558) 0 rfl dL_law_557 rfl rfl ?_
  refine g_iconst C (n' := 559) dL_law_558 rfl ?_
  refine g_iadd C (n' := 560) dL_law_559 rfl ?_
  refine g_ti C (n' := 561) C.2.2.2.2.2.2.2.2.2.2.2 (by omega) (by omega) (by omega) (v := .int (iI (xI (i + 3).toNat))) rfl dL_law_560 rfl ?_
  refine g_callV C (n' := 564) (As := [.int (iI (1 : Int)), .int (iI (xI (i + 2).toNat)), .int (iI (xI (i + 3).toNat))]) (c_X8_trace l D Y C.2.2.2.2.2.2.2.2.1 qm I A F Dd (1 : Int) (xI (i + 2).toNat) (xI (i + 3).toNat) R.2.2.2.2.2.2.2.1.1 R.2.2.2.2.2.2.2.1.2.1 (by unfold inR; decide) (hxs _) (hxs _)) 3 kw_985 kc_X8_trace (by decide +kernel) pM 0 (ci := 6) rfl rfl rfl rfl ⟨Nat.le_of_ble_eq_true rfl, Nat.le_of_ble_eq_true rfl⟩ ⟨rfl, rfl⟩ ⟨Nat.le_of_ble_eq_true rfl, Nat.le_of_ble_eq_true rfl⟩ (Nat.le_of_ble_eq_true rfl) dL_law_561 rfl (fun r8 w8 h8 => ?_)
  obtain ⟨z, e7, rfl, K1, It1, L1, Jd1, Nd1, J1, N1, Js1, Ns1, Jk1, Nk1, Ih1, Ah1, Ip1, Ap1, Bp1, Ir1, V1, M1, I1, A1, F1, Dd1, R1, hp⟩ := pr_trace_1 R h7 h8
  have e8 := Value.int.inj (Option.some.inj e7)
  rw [e8]
  refine g_same C 860 dL_law_564 (by decide) ?_
  refine g_perm hp ?_
  exact k _ _ _ _ _ _ _ _ _ _ _ _ _ _ _ _ _ _ _ _ _ _ _ R1

theorem lw_trace_2 (C : g_Cx p s m args c cL_law 4 RL D (tysY Y) A9 (eLaw e9 b Ln xI)) (hi : 0 ≤ i ∧ i + 6 ≤ Ln ∧ Ln ≤ 3072) (hxs : ∀ k, inR (xI k)) (hpl : xI (i + 1).toNat = (2 : Int)) (R : (REL K It L Jd Nd J N Js Ns Jk Nk Ih Ah Ip Ap Bp Ir V M I A F Dd)) (k : ∀ (K It L : Nat → Int) (Jd : Nat → Int) (Nd : Nat → Nat → Int) (J : Nat → Int) (N : Nat → Nat → Int) (Js : Nat → Int) (Ns : Nat → Nat → Int) (Jk : Nat → Nat → Int) (Nk : Nat → Nat → Nat → Int) (Ih : Nat → Int) (Ah : Nat → Nat → Int) (Ip : Nat → Int) (Ap Bp : Nat → Nat → Int) (Ir : Nat → Nat → Int) (V : Nat → Nat → UInt64) (M : Nat → Nat → Int) (I : Nat → Int) (A : Nat → Nat → Int) (F : Nat → UInt32) (Dd : Nat → UInt64), (REL K It L Jd Nd J N Js Ns Jk Nk Ih Ah Ip Ap Bp Ir V M I A F Dd) → g_G p l e room_1 s m args below meth c 4 D A9 Q 77 1630 (wS q Y qt qd qn qs qk qh qp qr qm K It L Jd Nd J N Js Ns Jk Nk Ih Ah Ip Ap Bp Ir V M I A F Dd) [(3, .int (iI i)), (2, .ref (qm 99)), (1, .ref (q 99)), (0, .ref b)] 860 []) : g_G p l e room_1 s m args below meth c 4 D A9 Q 77 1630 (wS q Y qt qd qn qs qk qh qp qr qm K It L Jd Nd J N Js Ns Jk Nk Ih Ah Ip Ap Bp Ir V M I A F Dd) [(3, .int (iI i)), (2, .ref (qm 99)), (1, .ref (q 99)), (0, .ref b)] 526 [] := by
  refine g_aload_n C (n' := 527) 2 rfl dL_law_526 rfl rfl ?_
  refine g_aload_n C (n' := 528) 3 rfl dL_law_527 rfl rfl ?_
  refine g_iload_n C (n' := 529) 0 rfl dL_law_528 rfl rfl ?_
  refine g_iconst C (n' := 530) dL_law_529 rfl ?_
  refine g_iadd C (n' := 531) dL_law_530 rfl ?_
  refine g_ti C (n' := 532) C.2.2.2.2.2.2.2.2.2.2.2 (by omega) (by omega) (by omega) (v := .int (iI (2 : Int))) (congrArg (fun z => Value.int (iI z)) hpl) dL_law_531 rfl ?_
  refine g_aload_n C (n' := 533) 3 rfl dL_law_532 rfl rfl ?_
  refine g_iload_n C (n' := 534) 0 rfl dL_law_533 rfl rfl ?_
  refine g_iconst C (n' := 535) dL_law_534 rfl ?_
  refine g_iadd C (n' := 536) dL_law_535 rfl ?_
  refine g_ti C (n' := 537) C.2.2.2.2.2.2.2.2.2.2.2 (by omega) (by omega) (by omega) (v := .int (iI (xI (i + 2).toNat))) rfl dL_law_536 rfl ?_
  refine g_aload_n C (n' := 538) 3 rfl dL_law_537 rfl rfl ?_
  refine g_iload_n C (n' := 539) 0 rfl dL_law_538 rfl rfl ?_
  refine g_iconst C (n' := 540) dL_law_539 rfl ?_
  refine g_iadd C (n' := 541) dL_law_540 rfl ?_
  refine g_ti C (n' := 542) C.2.2.2.2.2.2.2.2.2.2.2 (by omega) (by omega) (by omega) (v := .int (iI (xI (i + 3).toNat))) rfl dL_law_541 rfl ?_
  refine g_callV C (n' := 545) (As := [.int (iI (2 : Int)), .int (iI (xI (i + 2).toNat)), .int (iI (xI (i + 3).toNat))]) (c_X7_trace l D Y C.2.2.2.2.2.2.2.2.1 q qt qd qn qs qk qh qp qr K (Ir 2) (V 2) (M 2) (2 : Int) (xI (i + 2).toNat) (xI (i + 3).toNat) (R.2.2.2.2.2.2.2.2 2 (by decide)).1 (R.2.2.2.2.2.2.2.2 2 (by decide)).2.1 (R.2.2.2.2.2.2.2.2 2 (by decide)).2.2.2.1 (by decide) (hxs _) (hxs _)) 3 kw_556 kc_X7_trace (by decide +kernel) (pS_r2 _ _ _ _ _ _ _ _ _ _ _ _ _) 0 (ci := 5) rfl rfl rfl rfl ⟨Nat.le_of_ble_eq_true rfl, Nat.le_of_ble_eq_true rfl⟩ ⟨rfl, rfl⟩ ⟨Nat.le_of_ble_eq_true rfl, Nat.le_of_ble_eq_true rfl⟩ (Nat.le_of_ble_eq_true rfl) dL_law_542 rfl (fun r7 w7 h7 => ?_)
  have hz : ∃ z : Int, r7 = some (.int (iI z)) := by
    rcases h7 with ⟨_, h, _⟩ | ⟨_, ⟨_, h, _⟩ | ⟨_, h, _⟩⟩ <;> exact ⟨_, h⟩
  obtain ⟨z9, rfl⟩ := hz
  refine g_aload_n C (n' := 546) 1 rfl dL_law_545 rfl rfl ?_
  refine g_aload_n C (n' := 547) 3 rfl dL_law_546 rfl rfl ?_
  refine g_iload_n C (n' := 548) 0 rfl dL_law_547 rfl rfl ?_
  refine g_iconst C (n' := 549) dL_law_548 rfl ?_
  refine g_iadd C (n' := 550) dL_law_549 rfl ?_
  refine g_ti C (n' := 551) C.2.2.2.2.2.2.2.2.2.2.2 (by omega) (by omega) (by omega) (v := .int (iI (2 : Int))) (congrArg (fun z => Value.int (iI z)) hpl) dL_law_550 rfl ?_
  refine g_aload_n C (n' := 552) 3 rfl dL_law_551 rfl rfl ?_
  refine g_iload_n C (n' := 553) 0 rfl dL_law_552 rfl rfl ?_
  refine g_iconst C (n' := 554) dL_law_553 rfl ?_
  refine g_iadd C (n' := 555) dL_law_554 rfl ?_
  refine g_ti C (n' := 556) C.2.2.2.2.2.2.2.2.2.2.2 (by omega) (by omega) (by omega) (v := .int (iI (xI (i + 2).toNat))) rfl dL_law_555 rfl ?_
  refine g_aload_n C (n' := 557) 3 rfl dL_law_556 rfl rfl ?_
  refine g_iload_n C (n' := 558) 0 rfl dL_law_557 rfl rfl ?_
  refine g_iconst C (n' := 559) dL_law_558 rfl ?_
  refine g_iadd C (n' := 560) dL_law_559 rfl ?_
  refine g_ti C (n' := 561) C.2.2.2.2.2.2.2.2.2.2.2 (by omega) (by omega) (by omega) (v := .int (iI (xI (i + 3).toNat))) rfl dL_law_560 rfl ?_
  refine g_callV C (n' := 564) (As := [.int (iI (2 : Int)), .int (iI (xI (i + 2).toNat)), .int (iI (xI (i + 3).toNat))]) (c_X8_trace l D Y C.2.2.2.2.2.2.2.2.1 qm I A F Dd (2 : Int) (xI (i + 2).toNat) (xI (i + 3).toNat) R.2.2.2.2.2.2.2.1.1 R.2.2.2.2.2.2.2.1.2.1 (by unfold inR; decide) (hxs _) (hxs _)) 3 kw_985 kc_X8_trace (by decide +kernel) pM 0 (ci := 6) rfl rfl rfl rfl ⟨Nat.le_of_ble_eq_true rfl, Nat.le_of_ble_eq_true rfl⟩ ⟨rfl, rfl⟩ ⟨Nat.le_of_ble_eq_true rfl, Nat.le_of_ble_eq_true rfl⟩ (Nat.le_of_ble_eq_true rfl) dL_law_561 rfl (fun r8 w8 h8 => ?_)
  obtain ⟨z, e7, rfl, K1, It1, L1, Jd1, Nd1, J1, N1, Js1, Ns1, Jk1, Nk1, Ih1, Ah1, Ip1, Ap1, Bp1, Ir1, V1, M1, I1, A1, F1, Dd1, R1, hp⟩ := pr_trace_2 R h7 h8
  have e8 := Value.int.inj (Option.some.inj e7)
  rw [e8]
  refine g_same C 860 dL_law_564 (by decide) ?_
  refine g_perm hp ?_
  exact k _ _ _ _ _ _ _ _ _ _ _ _ _ _ _ _ _ _ _ _ _ _ _ R1

theorem lw_trace_o (C : g_Cx p s m args c cL_law 4 RL D (tysY Y) A9 (eLaw e9 b Ln xI)) (hi : 0 ≤ i ∧ i + 6 ≤ Ln ∧ Ln ≤ 3072) (hxs : ∀ k, inR (xI k)) (hpl : ¬ (0 ≤ xI (i + 1).toNat ∧ xI (i + 1).toNat ≤ 2)) (R : (REL K It L Jd Nd J N Js Ns Jk Nk Ih Ah Ip Ap Bp Ir V M I A F Dd)) (k : ∀ (K It L : Nat → Int) (Jd : Nat → Int) (Nd : Nat → Nat → Int) (J : Nat → Int) (N : Nat → Nat → Int) (Js : Nat → Int) (Ns : Nat → Nat → Int) (Jk : Nat → Nat → Int) (Nk : Nat → Nat → Nat → Int) (Ih : Nat → Int) (Ah : Nat → Nat → Int) (Ip : Nat → Int) (Ap Bp : Nat → Nat → Int) (Ir : Nat → Nat → Int) (V : Nat → Nat → UInt64) (M : Nat → Nat → Int) (I : Nat → Int) (A : Nat → Nat → Int) (F : Nat → UInt32) (Dd : Nat → UInt64), (REL K It L Jd Nd J N Js Ns Jk Nk Ih Ah Ip Ap Bp Ir V M I A F Dd) → g_G p l e room_1 s m args below meth c 4 D A9 Q 77 1630 (wS q Y qt qd qn qs qk qh qp qr qm K It L Jd Nd J N Js Ns Jk Nk Ih Ah Ip Ap Bp Ir V M I A F Dd) [(3, .int (iI i)), (2, .ref (qm 99)), (1, .ref (q 99)), (0, .ref b)] 860 []) : g_G p l e room_1 s m args below meth c 4 D A9 Q 77 1630 (wS q Y qt qd qn qs qk qh qp qr qm K It L Jd Nd J N Js Ns Jk Nk Ih Ah Ip Ap Bp Ir V M I A F Dd) [(3, .int (iI i)), (2, .ref (qm 99)), (1, .ref (q 99)), (0, .ref b)] 526 [] := by
  refine g_aload_n C (n' := 527) 2 rfl dL_law_526 rfl rfl ?_
  refine g_aload_n C (n' := 528) 3 rfl dL_law_527 rfl rfl ?_
  refine g_iload_n C (n' := 529) 0 rfl dL_law_528 rfl rfl ?_
  refine g_iconst C (n' := 530) dL_law_529 rfl ?_
  refine g_iadd C (n' := 531) dL_law_530 rfl ?_
  refine g_ti C (n' := 532) C.2.2.2.2.2.2.2.2.2.2.2 (by omega) (by omega) (by omega) (v := .int (iI (xI (i + 1).toNat))) rfl dL_law_531 rfl ?_
  refine g_aload_n C (n' := 533) 3 rfl dL_law_532 rfl rfl ?_
  refine g_iload_n C (n' := 534) 0 rfl dL_law_533 rfl rfl ?_
  refine g_iconst C (n' := 535) dL_law_534 rfl ?_
  refine g_iadd C (n' := 536) dL_law_535 rfl ?_
  refine g_ti C (n' := 537) C.2.2.2.2.2.2.2.2.2.2.2 (by omega) (by omega) (by omega) (v := .int (iI (xI (i + 2).toNat))) rfl dL_law_536 rfl ?_
  refine g_aload_n C (n' := 538) 3 rfl dL_law_537 rfl rfl ?_
  refine g_iload_n C (n' := 539) 0 rfl dL_law_538 rfl rfl ?_
  refine g_iconst C (n' := 540) dL_law_539 rfl ?_
  refine g_iadd C (n' := 541) dL_law_540 rfl ?_
  refine g_ti C (n' := 542) C.2.2.2.2.2.2.2.2.2.2.2 (by omega) (by omega) (by omega) (v := .int (iI (xI (i + 3).toNat))) rfl dL_law_541 rfl ?_
  refine g_callV C (n' := 545) (As := [.int (iI (xI (i + 1).toNat)), .int (iI (xI (i + 2).toNat)), .int (iI (xI (i + 3).toNat))]) (c_X7_trace_o l D Y C.2.2.2.2.2.2.2.2.1 q qt qd qn qs qk qh qp qr K (xI (i + 1).toNat) (xI (i + 2).toNat) (xI (i + 3).toNat) hpl (hxs _)) 3 kw_556 kc_X7_trace (by decide +kernel) (pS_T _ _ _ _ _ _ _ _ _ _ _ _ _) 0 (ci := 5) rfl rfl rfl rfl ⟨Nat.le_of_ble_eq_true rfl, Nat.le_of_ble_eq_true rfl⟩ ⟨rfl, rfl⟩ ⟨Nat.le_of_ble_eq_true rfl, Nat.le_of_ble_eq_true rfl⟩ (Nat.le_of_ble_eq_true rfl) dL_law_542 rfl (fun r7 w7 h7 => ?_)
  have hz : ∃ z : Int, r7 = some (.int (iI z)) := by
    exact ⟨_, h7.1⟩
  obtain ⟨z9, rfl⟩ := hz
  refine g_aload_n C (n' := 546) 1 rfl dL_law_545 rfl rfl ?_
  refine g_aload_n C (n' := 547) 3 rfl dL_law_546 rfl rfl ?_
  refine g_iload_n C (n' := 548) 0 rfl dL_law_547 rfl rfl ?_
  refine g_iconst C (n' := 549) dL_law_548 rfl ?_
  refine g_iadd C (n' := 550) dL_law_549 rfl ?_
  refine g_ti C (n' := 551) C.2.2.2.2.2.2.2.2.2.2.2 (by omega) (by omega) (by omega) (v := .int (iI (xI (i + 1).toNat))) rfl dL_law_550 rfl ?_
  refine g_aload_n C (n' := 552) 3 rfl dL_law_551 rfl rfl ?_
  refine g_iload_n C (n' := 553) 0 rfl dL_law_552 rfl rfl ?_
  refine g_iconst C (n' := 554) dL_law_553 rfl ?_
  refine g_iadd C (n' := 555) dL_law_554 rfl ?_
  refine g_ti C (n' := 556) C.2.2.2.2.2.2.2.2.2.2.2 (by omega) (by omega) (by omega) (v := .int (iI (xI (i + 2).toNat))) rfl dL_law_555 rfl ?_
  refine g_aload_n C (n' := 557) 3 rfl dL_law_556 rfl rfl ?_
  refine g_iload_n C (n' := 558) 0 rfl dL_law_557 rfl rfl ?_
  refine g_iconst C (n' := 559) dL_law_558 rfl ?_
  refine g_iadd C (n' := 560) dL_law_559 rfl ?_
  refine g_ti C (n' := 561) C.2.2.2.2.2.2.2.2.2.2.2 (by omega) (by omega) (by omega) (v := .int (iI (xI (i + 3).toNat))) rfl dL_law_560 rfl ?_
  refine g_callV C (n' := 564) (As := [.int (iI (xI (i + 1).toNat)), .int (iI (xI (i + 2).toNat)), .int (iI (xI (i + 3).toNat))]) (c_X8_trace l D Y C.2.2.2.2.2.2.2.2.1 qm I A F Dd (xI (i + 1).toNat) (xI (i + 2).toNat) (xI (i + 3).toNat) R.2.2.2.2.2.2.2.1.1 R.2.2.2.2.2.2.2.1.2.1 (hxs _) (hxs _) (hxs _)) 3 kw_985 kc_X8_trace (by decide +kernel) pM 0 (ci := 6) rfl rfl rfl rfl ⟨Nat.le_of_ble_eq_true rfl, Nat.le_of_ble_eq_true rfl⟩ ⟨rfl, rfl⟩ ⟨Nat.le_of_ble_eq_true rfl, Nat.le_of_ble_eq_true rfl⟩ (Nat.le_of_ble_eq_true rfl) dL_law_561 rfl (fun r8 w8 h8 => ?_)
  obtain ⟨z, e7, rfl, K1, It1, L1, Jd1, Nd1, J1, N1, Js1, Ns1, Jk1, Nk1, Ih1, Ah1, Ip1, Ap1, Bp1, Ir1, V1, M1, I1, A1, F1, Dd1, R1, hp⟩ := pr_trace_o R hpl h7 h8
  have e8 := Value.int.inj (Option.some.inj e7)
  rw [e8]
  refine g_same C 860 dL_law_564 (by decide) ?_
  refine g_perm hp ?_
  exact k _ _ _ _ _ _ _ _ _ _ _ _ _ _ _ _ _ _ _ _ _ _ _ R1

theorem lw_set_0 (C : g_Cx p s m args c cL_law 4 RL D (tysY Y) A9 (eLaw e9 b Ln xI)) (hi : 0 ≤ i ∧ i + 6 ≤ Ln ∧ Ln ≤ 3072) (hxs : ∀ k, inR (xI k)) (hpl : xI (i + 1).toNat = (0 : Int)) (R : (REL K It L Jd Nd J N Js Ns Jk Nk Ih Ah Ip Ap Bp Ir V M I A F Dd)) (k : ∀ (K It L : Nat → Int) (Jd : Nat → Int) (Nd : Nat → Nat → Int) (J : Nat → Int) (N : Nat → Nat → Int) (Js : Nat → Int) (Ns : Nat → Nat → Int) (Jk : Nat → Nat → Int) (Nk : Nat → Nat → Nat → Int) (Ih : Nat → Int) (Ah : Nat → Nat → Int) (Ip : Nat → Int) (Ap Bp : Nat → Nat → Int) (Ir : Nat → Nat → Int) (V : Nat → Nat → UInt64) (M : Nat → Nat → Int) (I : Nat → Int) (A : Nat → Nat → Int) (F : Nat → UInt32) (Dd : Nat → UInt64), (REL K It L Jd Nd J N Js Ns Jk Nk Ih Ah Ip Ap Bp Ir V M I A F Dd) → g_G p l e room_1 s m args below meth c 4 D A9 Q 77 1630 (wS q Y qt qd qn qs qk qh qp qr qm K It L Jd Nd J N Js Ns Jk Nk Ih Ah Ip Ap Bp Ir V M I A F Dd) [(3, .int (iI i)), (2, .ref (qm 99)), (1, .ref (q 99)), (0, .ref b)] 860 []) : g_G p l e room_1 s m args below meth c 4 D A9 Q 77 1630 (wS q Y qt qd qn qs qk qh qp qr qm K It L Jd Nd J N Js Ns Jk Nk Ih Ah Ip Ap Bp Ir V M I A F Dd) [(3, .int (iI i)), (2, .ref (qm 99)), (1, .ref (q 99)), (0, .ref b)] 569 [] := by
  refine g_aload_n C (n' := 570) 2 rfl dL_law_569 rfl rfl ?_
  refine g_aload_n C (n' := 571) 3 rfl dL_law_570 rfl rfl ?_
  refine g_iload_n C (n' := 572) 0 rfl dL_law_571 rfl rfl ?_
  refine g_iconst C (n' := 573) dL_law_572 rfl ?_
  refine g_iadd C (n' := 574) dL_law_573 rfl ?_
  refine g_ti C (n' := 575) C.2.2.2.2.2.2.2.2.2.2.2 (by omega) (by omega) (by omega) (v := .int (iI (0 : Int))) (congrArg (fun z => Value.int (iI z)) hpl) dL_law_574 rfl ?_
  refine g_aload_n C (n' := 576) 3 rfl dL_law_575 rfl rfl ?_
  refine g_iload_n C (n' := 577) 0 rfl dL_law_576 rfl rfl ?_
  refine g_iconst C (n' := 578) dL_law_577 rfl ?_
  refine g_iadd C (n' := 579) dL_law_578 rfl ?_
  refine g_ti C (n' := 580) C.2.2.2.2.2.2.2.2.2.2.2 (by omega) (by omega) (by omega) (v := .int (iI (xI (i + 2).toNat))) rfl dL_law_579 rfl ?_
  refine g_aload_n C (n' := 581) 3 rfl dL_law_580 rfl rfl ?_
  refine g_iload_n C (n' := 582) 0 rfl dL_law_581 rfl rfl ?_
  refine g_iconst C (n' := 583) dL_law_582 rfl ?_
  refine g_iadd C (n' := 584) dL_law_583 rfl ?_
  refine g_ti C (n' := 585) C.2.2.2.2.2.2.2.2.2.2.2 (by omega) (by omega) (by omega) (v := .int (iI (xI (i + 3).toNat))) rfl dL_law_584 rfl ?_
  refine g_aload_n C (n' := 586) 3 rfl dL_law_585 rfl rfl ?_
  refine g_iload_n C (n' := 587) 0 rfl dL_law_586 rfl rfl ?_
  refine g_iconst C (n' := 588) dL_law_587 rfl ?_
  refine g_iadd C (n' := 589) dL_law_588 rfl ?_
  refine g_ti C (n' := 590) C.2.2.2.2.2.2.2.2.2.2.2 (by omega) (by omega) (by omega) (v := .int (iI (xI (i + 4).toNat))) rfl dL_law_589 rfl ?_
  refine g_aload_n C (n' := 591) 3 rfl dL_law_590 rfl rfl ?_
  refine g_iload_n C (n' := 592) 0 rfl dL_law_591 rfl rfl ?_
  refine g_iconst C (n' := 593) dL_law_592 rfl ?_
  refine g_iadd C (n' := 594) dL_law_593 rfl ?_
  refine g_ti C (n' := 595) C.2.2.2.2.2.2.2.2.2.2.2 (by omega) (by omega) (by omega) (v := .int (iI (xI (i + 5).toNat))) rfl dL_law_594 rfl ?_
  refine g_callV C (n' := 598) (As := [.int (iI (0 : Int)), .int (iI (xI (i + 2).toNat)), .int (iI (xI (i + 3).toNat)), .int (iI (xI (i + 4).toNat)), .int (iI (xI (i + 5).toNat))]) (c_X7_set l D Y C.2.2.2.2.2.2.2.2.1 q qt qd qn qs qk qh qp qr K (Ir 0) (V 0) (M 0) (0 : Int) (xI (i + 2).toNat) (xI (i + 3).toNat) (xI (i + 4).toNat) (xI (i + 5).toNat) (R.2.2.2.2.2.2.2.2 0 (by decide)).1 (R.2.2.2.2.2.2.2.2 0 (by decide)).2.1 (R.2.2.2.2.2.2.2.2 0 (by decide)).2.2.2.1 (by decide) (hxs _) (hxs _) (hxs _) (hxs _)) 5 kw_574 kc_X7_set (by decide +kernel) (pS_r0 _ _ _ _ _ _ _ _ _ _ _ _ _) 0 (ci := 5) rfl rfl rfl rfl ⟨Nat.le_of_ble_eq_true rfl, Nat.le_of_ble_eq_true rfl⟩ ⟨rfl, rfl⟩ ⟨Nat.le_of_ble_eq_true rfl, Nat.le_of_ble_eq_true rfl⟩ (Nat.le_of_ble_eq_true rfl) dL_law_595 rfl (fun r7 w7 h7 => ?_)
  have hz : ∃ z : Int, r7 = some (.int (iI z)) := by
    rcases h7 with ⟨_, h, _⟩ | ⟨_, ⟨_, h, _⟩ | ⟨_, _, _, _, _, h⟩⟩ <;> exact ⟨_, h⟩
  obtain ⟨z9, rfl⟩ := hz
  refine g_aload_n C (n' := 599) 1 rfl dL_law_598 rfl rfl ?_
  refine g_aload_n C (n' := 600) 3 rfl dL_law_599 rfl rfl ?_
  refine g_iload_n C (n' := 601) 0 rfl dL_law_600 rfl rfl ?_
  refine g_iconst C (n' := 602) dL_law_601 rfl ?_
  refine g_iadd C (n' := 603) dL_law_602 rfl ?_
  refine g_ti C (n' := 604) C.2.2.2.2.2.2.2.2.2.2.2 (by omega) (by omega) (by omega) (v := .int (iI (0 : Int))) (congrArg (fun z => Value.int (iI z)) hpl) dL_law_603 rfl ?_
  refine g_aload_n C (n' := 605) 3 rfl dL_law_604 rfl rfl ?_
  refine g_iload_n C (n' := 606) 0 rfl dL_law_605 rfl rfl ?_
  refine g_iconst C (n' := 607) dL_law_606 rfl ?_
  refine g_iadd C (n' := 608) dL_law_607 rfl ?_
  refine g_ti C (n' := 609) C.2.2.2.2.2.2.2.2.2.2.2 (by omega) (by omega) (by omega) (v := .int (iI (xI (i + 2).toNat))) rfl dL_law_608 rfl ?_
  refine g_aload_n C (n' := 610) 3 rfl dL_law_609 rfl rfl ?_
  refine g_iload_n C (n' := 611) 0 rfl dL_law_610 rfl rfl ?_
  refine g_iconst C (n' := 612) dL_law_611 rfl ?_
  refine g_iadd C (n' := 613) dL_law_612 rfl ?_
  refine g_ti C (n' := 614) C.2.2.2.2.2.2.2.2.2.2.2 (by omega) (by omega) (by omega) (v := .int (iI (xI (i + 3).toNat))) rfl dL_law_613 rfl ?_
  refine g_aload_n C (n' := 615) 3 rfl dL_law_614 rfl rfl ?_
  refine g_iload_n C (n' := 616) 0 rfl dL_law_615 rfl rfl ?_
  refine g_iconst C (n' := 617) dL_law_616 rfl ?_
  refine g_iadd C (n' := 618) dL_law_617 rfl ?_
  refine g_ti C (n' := 619) C.2.2.2.2.2.2.2.2.2.2.2 (by omega) (by omega) (by omega) (v := .int (iI (xI (i + 4).toNat))) rfl dL_law_618 rfl ?_
  refine g_aload_n C (n' := 620) 3 rfl dL_law_619 rfl rfl ?_
  refine g_iload_n C (n' := 621) 0 rfl dL_law_620 rfl rfl ?_
  refine g_iconst C (n' := 622) dL_law_621 rfl ?_
  refine g_iadd C (n' := 623) dL_law_622 rfl ?_
  refine g_ti C (n' := 624) C.2.2.2.2.2.2.2.2.2.2.2 (by omega) (by omega) (by omega) (v := .int (iI (xI (i + 5).toNat))) rfl dL_law_623 rfl ?_
  refine g_callV C (n' := 627) (As := [.int (iI (0 : Int)), .int (iI (xI (i + 2).toNat)), .int (iI (xI (i + 3).toNat)), .int (iI (xI (i + 4).toNat)), .int (iI (xI (i + 5).toNat))]) (c_X8_set l D Y C.2.2.2.2.2.2.2.2.1 qm I A F Dd (0 : Int) (xI (i + 2).toNat) (xI (i + 3).toNat) (xI (i + 4).toNat) (xI (i + 5).toNat) R.2.2.2.2.2.2.2.1.1 R.2.2.2.2.2.2.2.1.2.1 R.2.2.2.2.2.2.2.1.2.2.2 (by unfold inR; decide) (hxs _) (hxs _) (hxs _) (hxs _)) 5 kw_993 kc_X8_set (by decide +kernel) pM 0 (ci := 6) rfl rfl rfl rfl ⟨Nat.le_of_ble_eq_true rfl, Nat.le_of_ble_eq_true rfl⟩ ⟨rfl, rfl⟩ ⟨Nat.le_of_ble_eq_true rfl, Nat.le_of_ble_eq_true rfl⟩ (Nat.le_of_ble_eq_true rfl) dL_law_624 rfl (fun r8 w8 h8 => ?_)
  obtain ⟨z, e7, rfl, K1, It1, L1, Jd1, Nd1, J1, N1, Js1, Ns1, Jk1, Nk1, Ih1, Ah1, Ip1, Ap1, Bp1, Ir1, V1, M1, I1, A1, F1, Dd1, R1, hp⟩ := pr_set_0 R h7 h8
  have e8 := Value.int.inj (Option.some.inj e7)
  rw [e8]
  refine g_same C 860 dL_law_627 (by decide) ?_
  refine g_perm hp ?_
  exact k _ _ _ _ _ _ _ _ _ _ _ _ _ _ _ _ _ _ _ _ _ _ _ R1

theorem lw_set_1 (C : g_Cx p s m args c cL_law 4 RL D (tysY Y) A9 (eLaw e9 b Ln xI)) (hi : 0 ≤ i ∧ i + 6 ≤ Ln ∧ Ln ≤ 3072) (hxs : ∀ k, inR (xI k)) (hpl : xI (i + 1).toNat = (1 : Int)) (R : (REL K It L Jd Nd J N Js Ns Jk Nk Ih Ah Ip Ap Bp Ir V M I A F Dd)) (k : ∀ (K It L : Nat → Int) (Jd : Nat → Int) (Nd : Nat → Nat → Int) (J : Nat → Int) (N : Nat → Nat → Int) (Js : Nat → Int) (Ns : Nat → Nat → Int) (Jk : Nat → Nat → Int) (Nk : Nat → Nat → Nat → Int) (Ih : Nat → Int) (Ah : Nat → Nat → Int) (Ip : Nat → Int) (Ap Bp : Nat → Nat → Int) (Ir : Nat → Nat → Int) (V : Nat → Nat → UInt64) (M : Nat → Nat → Int) (I : Nat → Int) (A : Nat → Nat → Int) (F : Nat → UInt32) (Dd : Nat → UInt64), (REL K It L Jd Nd J N Js Ns Jk Nk Ih Ah Ip Ap Bp Ir V M I A F Dd) → g_G p l e room_1 s m args below meth c 4 D A9 Q 77 1630 (wS q Y qt qd qn qs qk qh qp qr qm K It L Jd Nd J N Js Ns Jk Nk Ih Ah Ip Ap Bp Ir V M I A F Dd) [(3, .int (iI i)), (2, .ref (qm 99)), (1, .ref (q 99)), (0, .ref b)] 860 []) : g_G p l e room_1 s m args below meth c 4 D A9 Q 77 1630 (wS q Y qt qd qn qs qk qh qp qr qm K It L Jd Nd J N Js Ns Jk Nk Ih Ah Ip Ap Bp Ir V M I A F Dd) [(3, .int (iI i)), (2, .ref (qm 99)), (1, .ref (q 99)), (0, .ref b)] 569 [] := by
  refine g_aload_n C (n' := 570) 2 rfl dL_law_569 rfl rfl ?_
  refine g_aload_n C (n' := 571) 3 rfl dL_law_570 rfl rfl ?_
  refine g_iload_n C (n' := 572) 0 rfl dL_law_571 rfl rfl ?_
  refine g_iconst C (n' := 573) dL_law_572 rfl ?_
  refine g_iadd C (n' := 574) dL_law_573 rfl ?_
  refine g_ti C (n' := 575) C.2.2.2.2.2.2.2.2.2.2.2 (by omega) (by omega) (by omega) (v := .int (iI (1 : Int))) (congrArg (fun z => Value.int (iI z)) hpl) dL_law_574 rfl ?_
  refine g_aload_n C (n' := 576) 3 rfl dL_law_575 rfl rfl ?_
  refine g_iload_n C (n' := 577) 0 rfl dL_law_576 rfl rfl ?_
  refine g_iconst C (n' := 578) dL_law_577 rfl ?_
  refine g_iadd C (n' := 579) dL_law_578 rfl ?_
  refine g_ti C (n' := 580) C.2.2.2.2.2.2.2.2.2.2.2 (by omega) (by omega) (by omega) (v := .int (iI (xI (i + 2).toNat))) rfl dL_law_579 rfl ?_
  refine g_aload_n C (n' := 581) 3 rfl dL_law_580 rfl rfl ?_
  refine g_iload_n C (n' := 582) 0 rfl dL_law_581 rfl rfl ?_
  refine g_iconst C (n' := 583) dL_law_582 rfl ?_
  refine g_iadd C (n' := 584) dL_law_583 rfl ?_
  refine g_ti C (n' := 585) C.2.2.2.2.2.2.2.2.2.2.2 (by omega) (by omega) (by omega) (v := .int (iI (xI (i + 3).toNat))) rfl dL_law_584 rfl ?_
  refine g_aload_n C (n' := 586) 3 rfl dL_law_585 rfl rfl ?_
  refine g_iload_n C (n' := 587) 0 rfl dL_law_586 rfl rfl ?_
  refine g_iconst C (n' := 588) dL_law_587 rfl ?_
  refine g_iadd C (n' := 589) dL_law_588 rfl ?_
  refine g_ti C (n' := 590) C.2.2.2.2.2.2.2.2.2.2.2 (by omega) (by omega) (by omega) (v := .int (iI (xI (i + 4).toNat))) rfl dL_law_589 rfl ?_
  refine g_aload_n C (n' := 591) 3 rfl dL_law_590 rfl rfl ?_
  refine g_iload_n C (n' := 592) 0 rfl dL_law_591 rfl rfl ?_
  refine g_iconst C (n' := 593) dL_law_592 rfl ?_
  refine g_iadd C (n' := 594) dL_law_593 rfl ?_
  refine g_ti C (n' := 595) C.2.2.2.2.2.2.2.2.2.2.2 (by omega) (by omega) (by omega) (v := .int (iI (xI (i + 5).toNat))) rfl dL_law_594 rfl ?_
  refine g_callV C (n' := 598) (As := [.int (iI (1 : Int)), .int (iI (xI (i + 2).toNat)), .int (iI (xI (i + 3).toNat)), .int (iI (xI (i + 4).toNat)), .int (iI (xI (i + 5).toNat))]) (c_X7_set l D Y C.2.2.2.2.2.2.2.2.1 q qt qd qn qs qk qh qp qr K (Ir 1) (V 1) (M 1) (1 : Int) (xI (i + 2).toNat) (xI (i + 3).toNat) (xI (i + 4).toNat) (xI (i + 5).toNat) (R.2.2.2.2.2.2.2.2 1 (by decide)).1 (R.2.2.2.2.2.2.2.2 1 (by decide)).2.1 (R.2.2.2.2.2.2.2.2 1 (by decide)).2.2.2.1 (by decide) (hxs _) (hxs _) (hxs _) (hxs _)) 5 kw_574 kc_X7_set (by decide +kernel) (pS_r1 _ _ _ _ _ _ _ _ _ _ _ _ _) 0 (ci := 5) rfl rfl rfl rfl ⟨Nat.le_of_ble_eq_true rfl, Nat.le_of_ble_eq_true rfl⟩ ⟨rfl, rfl⟩ ⟨Nat.le_of_ble_eq_true rfl, Nat.le_of_ble_eq_true rfl⟩ (Nat.le_of_ble_eq_true rfl) dL_law_595 rfl (fun r7 w7 h7 => ?_)
  have hz : ∃ z : Int, r7 = some (.int (iI z)) := by
    rcases h7 with ⟨_, h, _⟩ | ⟨_, ⟨_, h, _⟩ | ⟨_, _, _, _, _, h⟩⟩ <;> exact ⟨_, h⟩
  obtain ⟨z9, rfl⟩ := hz
  refine g_aload_n C (n' := 599) 1 rfl dL_law_598 rfl rfl ?_
  refine g_aload_n C (n' := 600) 3 rfl dL_law_599 rfl rfl ?_
  refine g_iload_n C (n' := 601) 0 rfl dL_law_600 rfl rfl ?_
  refine g_iconst C (n' := 602) dL_law_601 rfl ?_
  refine g_iadd C (n' := 603) dL_law_602 rfl ?_
  refine g_ti C (n' := 604) C.2.2.2.2.2.2.2.2.2.2.2 (by omega) (by omega) (by omega) (v := .int (iI (1 : Int))) (congrArg (fun z => Value.int (iI z)) hpl) dL_law_603 rfl ?_
  refine g_aload_n C (n' := 605) 3 rfl dL_law_604 rfl rfl ?_
  refine g_iload_n C (n' := 606) 0 rfl dL_law_605 rfl rfl ?_
  refine g_iconst C (n' := 607) dL_law_606 rfl ?_
  refine g_iadd C (n' := 608) dL_law_607 rfl ?_
  refine g_ti C (n' := 609) C.2.2.2.2.2.2.2.2.2.2.2 (by omega) (by omega) (by omega) (v := .int (iI (xI (i + 2).toNat))) rfl dL_law_608 rfl ?_
  refine g_aload_n C (n' := 610) 3 rfl dL_law_609 rfl rfl ?_
  refine g_iload_n C (n' := 611) 0 rfl dL_law_610 rfl rfl ?_
  refine g_iconst C (n' := 612) dL_law_611 rfl ?_
  refine g_iadd C (n' := 613) dL_law_612 rfl ?_
  refine g_ti C (n' := 614) C.2.2.2.2.2.2.2.2.2.2.2 (by omega) (by omega) (by omega) (v := .int (iI (xI (i + 3).toNat))) rfl dL_law_613 rfl ?_
  refine g_aload_n C (n' := 615) 3 rfl dL_law_614 rfl rfl ?_
  refine g_iload_n C (n' := 616) 0 rfl dL_law_615 rfl rfl ?_
  refine g_iconst C (n' := 617) dL_law_616 rfl ?_
  refine g_iadd C (n' := 618) dL_law_617 rfl ?_
  refine g_ti C (n' := 619) C.2.2.2.2.2.2.2.2.2.2.2 (by omega) (by omega) (by omega) (v := .int (iI (xI (i + 4).toNat))) rfl dL_law_618 rfl ?_
  refine g_aload_n C (n' := 620) 3 rfl dL_law_619 rfl rfl ?_
  refine g_iload_n C (n' := 621) 0 rfl dL_law_620 rfl rfl ?_
  refine g_iconst C (n' := 622) dL_law_621 rfl ?_
  refine g_iadd C (n' := 623) dL_law_622 rfl ?_
  refine g_ti C (n' := 624) C.2.2.2.2.2.2.2.2.2.2.2 (by omega) (by omega) (by omega) (v := .int (iI (xI (i + 5).toNat))) rfl dL_law_623 rfl ?_
  refine g_callV C (n' := 627) (As := [.int (iI (1 : Int)), .int (iI (xI (i + 2).toNat)), .int (iI (xI (i + 3).toNat)), .int (iI (xI (i + 4).toNat)), .int (iI (xI (i + 5).toNat))]) (c_X8_set l D Y C.2.2.2.2.2.2.2.2.1 qm I A F Dd (1 : Int) (xI (i + 2).toNat) (xI (i + 3).toNat) (xI (i + 4).toNat) (xI (i + 5).toNat) R.2.2.2.2.2.2.2.1.1 R.2.2.2.2.2.2.2.1.2.1 R.2.2.2.2.2.2.2.1.2.2.2 (by unfold inR; decide) (hxs _) (hxs _) (hxs _) (hxs _)) 5 kw_993 kc_X8_set (by decide +kernel) pM 0 (ci := 6) rfl rfl rfl rfl ⟨Nat.le_of_ble_eq_true rfl, Nat.le_of_ble_eq_true rfl⟩ ⟨rfl, rfl⟩ ⟨Nat.le_of_ble_eq_true rfl, Nat.le_of_ble_eq_true rfl⟩ (Nat.le_of_ble_eq_true rfl) dL_law_624 rfl (fun r8 w8 h8 => ?_)
  obtain ⟨z, e7, rfl, K1, It1, L1, Jd1, Nd1, J1, N1, Js1, Ns1, Jk1, Nk1, Ih1, Ah1, Ip1, Ap1, Bp1, Ir1, V1, M1, I1, A1, F1, Dd1, R1, hp⟩ := pr_set_1 R h7 h8
  have e8 := Value.int.inj (Option.some.inj e7)
  rw [e8]
  refine g_same C 860 dL_law_627 (by decide) ?_
  refine g_perm hp ?_
  exact k _ _ _ _ _ _ _ _ _ _ _ _ _ _ _ _ _ _ _ _ _ _ _ R1

theorem lw_set_2 (C : g_Cx p s m args c cL_law 4 RL D (tysY Y) A9 (eLaw e9 b Ln xI)) (hi : 0 ≤ i ∧ i + 6 ≤ Ln ∧ Ln ≤ 3072) (hxs : ∀ k, inR (xI k)) (hpl : xI (i + 1).toNat = (2 : Int)) (R : (REL K It L Jd Nd J N Js Ns Jk Nk Ih Ah Ip Ap Bp Ir V M I A F Dd)) (k : ∀ (K It L : Nat → Int) (Jd : Nat → Int) (Nd : Nat → Nat → Int) (J : Nat → Int) (N : Nat → Nat → Int) (Js : Nat → Int) (Ns : Nat → Nat → Int) (Jk : Nat → Nat → Int) (Nk : Nat → Nat → Nat → Int) (Ih : Nat → Int) (Ah : Nat → Nat → Int) (Ip : Nat → Int) (Ap Bp : Nat → Nat → Int) (Ir : Nat → Nat → Int) (V : Nat → Nat → UInt64) (M : Nat → Nat → Int) (I : Nat → Int) (A : Nat → Nat → Int) (F : Nat → UInt32) (Dd : Nat → UInt64), (REL K It L Jd Nd J N Js Ns Jk Nk Ih Ah Ip Ap Bp Ir V M I A F Dd) → g_G p l e room_1 s m args below meth c 4 D A9 Q 77 1630 (wS q Y qt qd qn qs qk qh qp qr qm K It L Jd Nd J N Js Ns Jk Nk Ih Ah Ip Ap Bp Ir V M I A F Dd) [(3, .int (iI i)), (2, .ref (qm 99)), (1, .ref (q 99)), (0, .ref b)] 860 []) : g_G p l e room_1 s m args below meth c 4 D A9 Q 77 1630 (wS q Y qt qd qn qs qk qh qp qr qm K It L Jd Nd J N Js Ns Jk Nk Ih Ah Ip Ap Bp Ir V M I A F Dd) [(3, .int (iI i)), (2, .ref (qm 99)), (1, .ref (q 99)), (0, .ref b)] 569 [] := by
  refine g_aload_n C (n' := 570) 2 rfl dL_law_569 rfl rfl ?_
  refine g_aload_n C (n' := 571) 3 rfl dL_law_570 rfl rfl ?_
  refine g_iload_n C (n' := 572) 0 rfl dL_law_571 rfl rfl ?_
  refine g_iconst C (n' := 573) dL_law_572 rfl ?_
  refine g_iadd C (n' := 574) dL_law_573 rfl ?_
  refine g_ti C (n' := 575) C.2.2.2.2.2.2.2.2.2.2.2 (by omega) (by omega) (by omega) (v := .int (iI (2 : Int))) (congrArg (fun z => Value.int (iI z)) hpl) dL_law_574 rfl ?_
  refine g_aload_n C (n' := 576) 3 rfl dL_law_575 rfl rfl ?_
  refine g_iload_n C (n' := 577) 0 rfl dL_law_576 rfl rfl ?_
  refine g_iconst C (n' := 578) dL_law_577 rfl ?_
  refine g_iadd C (n' := 579) dL_law_578 rfl ?_
  refine g_ti C (n' := 580) C.2.2.2.2.2.2.2.2.2.2.2 (by omega) (by omega) (by omega) (v := .int (iI (xI (i + 2).toNat))) rfl dL_law_579 rfl ?_
  refine g_aload_n C (n' := 581) 3 rfl dL_law_580 rfl rfl ?_
  refine g_iload_n C (n' := 582) 0 rfl dL_law_581 rfl rfl ?_
  refine g_iconst C (n' := 583) dL_law_582 rfl ?_
  refine g_iadd C (n' := 584) dL_law_583 rfl ?_
  refine g_ti C (n' := 585) C.2.2.2.2.2.2.2.2.2.2.2 (by omega) (by omega) (by omega) (v := .int (iI (xI (i + 3).toNat))) rfl dL_law_584 rfl ?_
  refine g_aload_n C (n' := 586) 3 rfl dL_law_585 rfl rfl ?_
  refine g_iload_n C (n' := 587) 0 rfl dL_law_586 rfl rfl ?_
  refine g_iconst C (n' := 588) dL_law_587 rfl ?_
  refine g_iadd C (n' := 589) dL_law_588 rfl ?_
  refine g_ti C (n' := 590) C.2.2.2.2.2.2.2.2.2.2.2 (by omega) (by omega) (by omega) (v := .int (iI (xI (i + 4).toNat))) rfl dL_law_589 rfl ?_
  refine g_aload_n C (n' := 591) 3 rfl dL_law_590 rfl rfl ?_
  refine g_iload_n C (n' := 592) 0 rfl dL_law_591 rfl rfl ?_
  refine g_iconst C (n' := 593) dL_law_592 rfl ?_
  refine g_iadd C (n' := 594) dL_law_593 rfl ?_
  refine g_ti C (n' := 595) C.2.2.2.2.2.2.2.2.2.2.2 (by omega) (by omega) (by omega) (v := .int (iI (xI (i + 5).toNat))) rfl dL_law_594 rfl ?_
  refine g_callV C (n' := 598) (As := [.int (iI (2 : Int)), .int (iI (xI (i + 2).toNat)), .int (iI (xI (i + 3).toNat)), .int (iI (xI (i + 4).toNat)), .int (iI (xI (i + 5).toNat))]) (c_X7_set l D Y C.2.2.2.2.2.2.2.2.1 q qt qd qn qs qk qh qp qr K (Ir 2) (V 2) (M 2) (2 : Int) (xI (i + 2).toNat) (xI (i + 3).toNat) (xI (i + 4).toNat) (xI (i + 5).toNat) (R.2.2.2.2.2.2.2.2 2 (by decide)).1 (R.2.2.2.2.2.2.2.2 2 (by decide)).2.1 (R.2.2.2.2.2.2.2.2 2 (by decide)).2.2.2.1 (by decide) (hxs _) (hxs _) (hxs _) (hxs _)) 5 kw_574 kc_X7_set (by decide +kernel) (pS_r2 _ _ _ _ _ _ _ _ _ _ _ _ _) 0 (ci := 5) rfl rfl rfl rfl ⟨Nat.le_of_ble_eq_true rfl, Nat.le_of_ble_eq_true rfl⟩ ⟨rfl, rfl⟩ ⟨Nat.le_of_ble_eq_true rfl, Nat.le_of_ble_eq_true rfl⟩ (Nat.le_of_ble_eq_true rfl) dL_law_595 rfl (fun r7 w7 h7 => ?_)
  have hz : ∃ z : Int, r7 = some (.int (iI z)) := by
    rcases h7 with ⟨_, h, _⟩ | ⟨_, ⟨_, h, _⟩ | ⟨_, _, _, _, _, h⟩⟩ <;> exact ⟨_, h⟩
  obtain ⟨z9, rfl⟩ := hz
  refine g_aload_n C (n' := 599) 1 rfl dL_law_598 rfl rfl ?_
  refine g_aload_n C (n' := 600) 3 rfl dL_law_599 rfl rfl ?_
  refine g_iload_n C (n' := 601) 0 rfl dL_law_600 rfl rfl ?_
  refine g_iconst C (n' := 602) dL_law_601 rfl ?_
  refine g_iadd C (n' := 603) dL_law_602 rfl ?_
  refine g_ti C (n' := 604) C.2.2.2.2.2.2.2.2.2.2.2 (by omega) (by omega) (by omega) (v := .int (iI (2 : Int))) (congrArg (fun z => Value.int (iI z)) hpl) dL_law_603 rfl ?_
  refine g_aload_n C (n' := 605) 3 rfl dL_law_604 rfl rfl ?_
  refine g_iload_n C (n' := 606) 0 rfl dL_law_605 rfl rfl ?_
  refine g_iconst C (n' := 607) dL_law_606 rfl ?_
  refine g_iadd C (n' := 608) dL_law_607 rfl ?_
  refine g_ti C (n' := 609) C.2.2.2.2.2.2.2.2.2.2.2 (by omega) (by omega) (by omega) (v := .int (iI (xI (i + 2).toNat))) rfl dL_law_608 rfl ?_
  refine g_aload_n C (n' := 610) 3 rfl dL_law_609 rfl rfl ?_
  refine g_iload_n C (n' := 611) 0 rfl dL_law_610 rfl rfl ?_
  refine g_iconst C (n' := 612) dL_law_611 rfl ?_
  refine g_iadd C (n' := 613) dL_law_612 rfl ?_
  refine g_ti C (n' := 614) C.2.2.2.2.2.2.2.2.2.2.2 (by omega) (by omega) (by omega) (v := .int (iI (xI (i + 3).toNat))) rfl dL_law_613 rfl ?_
  refine g_aload_n C (n' := 615) 3 rfl dL_law_614 rfl rfl ?_
  refine g_iload_n C (n' := 616) 0 rfl dL_law_615 rfl rfl ?_
  refine g_iconst C (n' := 617) dL_law_616 rfl ?_
  refine g_iadd C (n' := 618) dL_law_617 rfl ?_
  refine g_ti C (n' := 619) C.2.2.2.2.2.2.2.2.2.2.2 (by omega) (by omega) (by omega) (v := .int (iI (xI (i + 4).toNat))) rfl dL_law_618 rfl ?_
  refine g_aload_n C (n' := 620) 3 rfl dL_law_619 rfl rfl ?_
  refine g_iload_n C (n' := 621) 0 rfl dL_law_620 rfl rfl ?_
  refine g_iconst C (n' := 622) dL_law_621 rfl ?_
  refine g_iadd C (n' := 623) dL_law_622 rfl ?_
  refine g_ti C (n' := 624) C.2.2.2.2.2.2.2.2.2.2.2 (by omega) (by omega) (by omega) (v := .int (iI (xI (i + 5).toNat))) rfl dL_law_623 rfl ?_
  refine g_callV C (n' := 627) (As := [.int (iI (2 : Int)), .int (iI (xI (i + 2).toNat)), .int (iI (xI (i + 3).toNat)), .int (iI (xI (i + 4).toNat)), .int (iI (xI (i + 5).toNat))]) (c_X8_set l D Y C.2.2.2.2.2.2.2.2.1 qm I A F Dd (2 : Int) (xI (i + 2).toNat) (xI (i + 3).toNat) (xI (i + 4).toNat) (xI (i + 5).toNat) R.2.2.2.2.2.2.2.1.1 R.2.2.2.2.2.2.2.1.2.1 R.2.2.2.2.2.2.2.1.2.2.2 (by unfold inR; decide) (hxs _) (hxs _) (hxs _) (hxs _)) 5 kw_993 kc_X8_set (by decide +kernel) pM 0 (ci := 6) rfl rfl rfl rfl ⟨Nat.le_of_ble_eq_true rfl, Nat.le_of_ble_eq_true rfl⟩ ⟨rfl, rfl⟩ ⟨Nat.le_of_ble_eq_true rfl, Nat.le_of_ble_eq_true rfl⟩ (Nat.le_of_ble_eq_true rfl) dL_law_624 rfl (fun r8 w8 h8 => ?_)
  obtain ⟨z, e7, rfl, K1, It1, L1, Jd1, Nd1, J1, N1, Js1, Ns1, Jk1, Nk1, Ih1, Ah1, Ip1, Ap1, Bp1, Ir1, V1, M1, I1, A1, F1, Dd1, R1, hp⟩ := pr_set_2 R h7 h8
  have e8 := Value.int.inj (Option.some.inj e7)
  rw [e8]
  refine g_same C 860 dL_law_627 (by decide) ?_
  refine g_perm hp ?_
  exact k _ _ _ _ _ _ _ _ _ _ _ _ _ _ _ _ _ _ _ _ _ _ _ R1

theorem lw_set_o (C : g_Cx p s m args c cL_law 4 RL D (tysY Y) A9 (eLaw e9 b Ln xI)) (hi : 0 ≤ i ∧ i + 6 ≤ Ln ∧ Ln ≤ 3072) (hxs : ∀ k, inR (xI k)) (hpl : ¬ (0 ≤ xI (i + 1).toNat ∧ xI (i + 1).toNat ≤ 2)) (R : (REL K It L Jd Nd J N Js Ns Jk Nk Ih Ah Ip Ap Bp Ir V M I A F Dd)) (k : ∀ (K It L : Nat → Int) (Jd : Nat → Int) (Nd : Nat → Nat → Int) (J : Nat → Int) (N : Nat → Nat → Int) (Js : Nat → Int) (Ns : Nat → Nat → Int) (Jk : Nat → Nat → Int) (Nk : Nat → Nat → Nat → Int) (Ih : Nat → Int) (Ah : Nat → Nat → Int) (Ip : Nat → Int) (Ap Bp : Nat → Nat → Int) (Ir : Nat → Nat → Int) (V : Nat → Nat → UInt64) (M : Nat → Nat → Int) (I : Nat → Int) (A : Nat → Nat → Int) (F : Nat → UInt32) (Dd : Nat → UInt64), (REL K It L Jd Nd J N Js Ns Jk Nk Ih Ah Ip Ap Bp Ir V M I A F Dd) → g_G p l e room_1 s m args below meth c 4 D A9 Q 77 1630 (wS q Y qt qd qn qs qk qh qp qr qm K It L Jd Nd J N Js Ns Jk Nk Ih Ah Ip Ap Bp Ir V M I A F Dd) [(3, .int (iI i)), (2, .ref (qm 99)), (1, .ref (q 99)), (0, .ref b)] 860 []) : g_G p l e room_1 s m args below meth c 4 D A9 Q 77 1630 (wS q Y qt qd qn qs qk qh qp qr qm K It L Jd Nd J N Js Ns Jk Nk Ih Ah Ip Ap Bp Ir V M I A F Dd) [(3, .int (iI i)), (2, .ref (qm 99)), (1, .ref (q 99)), (0, .ref b)] 569 [] := by
  refine g_aload_n C (n' := 570) 2 rfl dL_law_569 rfl rfl ?_
  refine g_aload_n C (n' := 571) 3 rfl dL_law_570 rfl rfl ?_
  refine g_iload_n C (n' := 572) 0 rfl dL_law_571 rfl rfl ?_
  refine g_iconst C (n' := 573) dL_law_572 rfl ?_
  refine g_iadd C (n' := 574) dL_law_573 rfl ?_
  refine g_ti C (n' := 575) C.2.2.2.2.2.2.2.2.2.2.2 (by omega) (by omega) (by omega) (v := .int (iI (xI (i + 1).toNat))) rfl dL_law_574 rfl ?_
  refine g_aload_n C (n' := 576) 3 rfl dL_law_575 rfl rfl ?_
  refine g_iload_n C (n' := 577) 0 rfl dL_law_576 rfl rfl ?_
  refine g_iconst C (n' := 578) dL_law_577 rfl ?_
  refine g_iadd C (n' := 579) dL_law_578 rfl ?_
  refine g_ti C (n' := 580) C.2.2.2.2.2.2.2.2.2.2.2 (by omega) (by omega) (by omega) (v := .int (iI (xI (i + 2).toNat))) rfl dL_law_579 rfl ?_
  refine g_aload_n C (n' := 581) 3 rfl dL_law_580 rfl rfl ?_
  refine g_iload_n C (n' := 582) 0 rfl dL_law_581 rfl rfl ?_
  refine g_iconst C (n' := 583) dL_law_582 rfl ?_
  refine g_iadd C (n' := 584) dL_law_583 rfl ?_
  refine g_ti C (n' := 585) C.2.2.2.2.2.2.2.2.2.2.2 (by omega) (by omega) (by omega) (v := .int (iI (xI (i + 3).toNat))) rfl dL_law_584 rfl ?_
  refine g_aload_n C (n' := 586) 3 rfl dL_law_585 rfl rfl ?_
  refine g_iload_n C (n' := 587) 0 rfl dL_law_586 rfl rfl ?_
  refine g_iconst C (n' := 588) dL_law_587 rfl ?_
  refine g_iadd C (n' := 589) dL_law_588 rfl ?_
  refine g_ti C (n' := 590) C.2.2.2.2.2.2.2.2.2.2.2 (by omega) (by omega) (by omega) (v := .int (iI (xI (i + 4).toNat))) rfl dL_law_589 rfl ?_
  refine g_aload_n C (n' := 591) 3 rfl dL_law_590 rfl rfl ?_
  refine g_iload_n C (n' := 592) 0 rfl dL_law_591 rfl rfl ?_
  refine g_iconst C (n' := 593) dL_law_592 rfl ?_
  refine g_iadd C (n' := 594) dL_law_593 rfl ?_
  refine g_ti C (n' := 595) C.2.2.2.2.2.2.2.2.2.2.2 (by omega) (by omega) (by omega) (v := .int (iI (xI (i + 5).toNat))) rfl dL_law_594 rfl ?_
  refine g_callV C (n' := 598) (As := [.int (iI (xI (i + 1).toNat)), .int (iI (xI (i + 2).toNat)), .int (iI (xI (i + 3).toNat)), .int (iI (xI (i + 4).toNat)), .int (iI (xI (i + 5).toNat))]) (c_X7_set_o l D Y C.2.2.2.2.2.2.2.2.1 q qt qd qn qs qk qh qp qr K (xI (i + 1).toNat) (xI (i + 2).toNat) (xI (i + 3).toNat) (xI (i + 4).toNat) (xI (i + 5).toNat) hpl (hxs _)) 5 kw_574 kc_X7_set (by decide +kernel) (pS_T _ _ _ _ _ _ _ _ _ _ _ _ _) 0 (ci := 5) rfl rfl rfl rfl ⟨Nat.le_of_ble_eq_true rfl, Nat.le_of_ble_eq_true rfl⟩ ⟨rfl, rfl⟩ ⟨Nat.le_of_ble_eq_true rfl, Nat.le_of_ble_eq_true rfl⟩ (Nat.le_of_ble_eq_true rfl) dL_law_595 rfl (fun r7 w7 h7 => ?_)
  have hz : ∃ z : Int, r7 = some (.int (iI z)) := by
    exact ⟨_, h7.1⟩
  obtain ⟨z9, rfl⟩ := hz
  refine g_aload_n C (n' := 599) 1 rfl dL_law_598 rfl rfl ?_
  refine g_aload_n C (n' := 600) 3 rfl dL_law_599 rfl rfl ?_
  refine g_iload_n C (n' := 601) 0 rfl dL_law_600 rfl rfl ?_
  refine g_iconst C (n' := 602) dL_law_601 rfl ?_
  refine g_iadd C (n' := 603) dL_law_602 rfl ?_
  refine g_ti C (n' := 604) C.2.2.2.2.2.2.2.2.2.2.2 (by omega) (by omega) (by omega) (v := .int (iI (xI (i + 1).toNat))) rfl dL_law_603 rfl ?_
  refine g_aload_n C (n' := 605) 3 rfl dL_law_604 rfl rfl ?_
  refine g_iload_n C (n' := 606) 0 rfl dL_law_605 rfl rfl ?_
  refine g_iconst C (n' := 607) dL_law_606 rfl ?_
  refine g_iadd C (n' := 608) dL_law_607 rfl ?_
  refine g_ti C (n' := 609) C.2.2.2.2.2.2.2.2.2.2.2 (by omega) (by omega) (by omega) (v := .int (iI (xI (i + 2).toNat))) rfl dL_law_608 rfl ?_
  refine g_aload_n C (n' := 610) 3 rfl dL_law_609 rfl rfl ?_
  refine g_iload_n C (n' := 611) 0 rfl dL_law_610 rfl rfl ?_
  refine g_iconst C (n' := 612) dL_law_611 rfl ?_
  refine g_iadd C (n' := 613) dL_law_612 rfl ?_
  refine g_ti C (n' := 614) C.2.2.2.2.2.2.2.2.2.2.2 (by omega) (by omega) (by omega) (v := .int (iI (xI (i + 3).toNat))) rfl dL_law_613 rfl ?_
  refine g_aload_n C (n' := 615) 3 rfl dL_law_614 rfl rfl ?_
  refine g_iload_n C (n' := 616) 0 rfl dL_law_615 rfl rfl ?_
  refine g_iconst C (n' := 617) dL_law_616 rfl ?_
  refine g_iadd C (n' := 618) dL_law_617 rfl ?_
  refine g_ti C (n' := 619) C.2.2.2.2.2.2.2.2.2.2.2 (by omega) (by omega) (by omega) (v := .int (iI (xI (i + 4).toNat))) rfl dL_law_618 rfl ?_
  refine g_aload_n C (n' := 620) 3 rfl dL_law_619 rfl rfl ?_
  refine g_iload_n C (n' := 621) 0 rfl dL_law_620 rfl rfl ?_
  refine g_iconst C (n' := 622) dL_law_621 rfl ?_
  refine g_iadd C (n' := 623) dL_law_622 rfl ?_
  refine g_ti C (n' := 624) C.2.2.2.2.2.2.2.2.2.2.2 (by omega) (by omega) (by omega) (v := .int (iI (xI (i + 5).toNat))) rfl dL_law_623 rfl ?_
  refine g_callV C (n' := 627) (As := [.int (iI (xI (i + 1).toNat)), .int (iI (xI (i + 2).toNat)), .int (iI (xI (i + 3).toNat)), .int (iI (xI (i + 4).toNat)), .int (iI (xI (i + 5).toNat))]) (c_X8_set l D Y C.2.2.2.2.2.2.2.2.1 qm I A F Dd (xI (i + 1).toNat) (xI (i + 2).toNat) (xI (i + 3).toNat) (xI (i + 4).toNat) (xI (i + 5).toNat) R.2.2.2.2.2.2.2.1.1 R.2.2.2.2.2.2.2.1.2.1 R.2.2.2.2.2.2.2.1.2.2.2 (hxs _) (hxs _) (hxs _) (hxs _) (hxs _)) 5 kw_993 kc_X8_set (by decide +kernel) pM 0 (ci := 6) rfl rfl rfl rfl ⟨Nat.le_of_ble_eq_true rfl, Nat.le_of_ble_eq_true rfl⟩ ⟨rfl, rfl⟩ ⟨Nat.le_of_ble_eq_true rfl, Nat.le_of_ble_eq_true rfl⟩ (Nat.le_of_ble_eq_true rfl) dL_law_624 rfl (fun r8 w8 h8 => ?_)
  obtain ⟨z, e7, rfl, K1, It1, L1, Jd1, Nd1, J1, N1, Js1, Ns1, Jk1, Nk1, Ih1, Ah1, Ip1, Ap1, Bp1, Ir1, V1, M1, I1, A1, F1, Dd1, R1, hp⟩ := pr_set_o R hpl h7 h8
  have e8 := Value.int.inj (Option.some.inj e7)
  rw [e8]
  refine g_same C 860 dL_law_627 (by decide) ?_
  refine g_perm hp ?_
  exact k _ _ _ _ _ _ _ _ _ _ _ _ _ _ _ _ _ _ _ _ _ _ _ R1

theorem lw_get_0 (C : g_Cx p s m args c cL_law 4 RL D (tysY Y) A9 (eLaw e9 b Ln xI)) (hi : 0 ≤ i ∧ i + 6 ≤ Ln ∧ Ln ≤ 3072) (hxs : ∀ k, inR (xI k)) (hpl : xI (i + 1).toNat = (0 : Int)) (R : (REL K It L Jd Nd J N Js Ns Jk Nk Ih Ah Ip Ap Bp Ir V M I A F Dd)) (k : ∀ (K It L : Nat → Int) (Jd : Nat → Int) (Nd : Nat → Nat → Int) (J : Nat → Int) (N : Nat → Nat → Int) (Js : Nat → Int) (Ns : Nat → Nat → Int) (Jk : Nat → Nat → Int) (Nk : Nat → Nat → Nat → Int) (Ih : Nat → Int) (Ah : Nat → Nat → Int) (Ip : Nat → Int) (Ap Bp : Nat → Nat → Int) (Ir : Nat → Nat → Int) (V : Nat → Nat → UInt64) (M : Nat → Nat → Int) (I : Nat → Int) (A : Nat → Nat → Int) (F : Nat → UInt32) (Dd : Nat → UInt64), (REL K It L Jd Nd J N Js Ns Jk Nk Ih Ah Ip Ap Bp Ir V M I A F Dd) → g_G p l e room_1 s m args below meth c 4 D A9 Q 77 1630 (wS q Y qt qd qn qs qk qh qp qr qm K It L Jd Nd J N Js Ns Jk Nk Ih Ah Ip Ap Bp Ir V M I A F Dd) [(3, .int (iI i)), (2, .ref (qm 99)), (1, .ref (q 99)), (0, .ref b)] 860 []) : g_G p l e room_1 s m args below meth c 4 D A9 Q 77 1630 (wS q Y qt qd qn qs qk qh qp qr qm K It L Jd Nd J N Js Ns Jk Nk Ih Ah Ip Ap Bp Ir V M I A F Dd) [(3, .int (iI i)), (2, .ref (qm 99)), (1, .ref (q 99)), (0, .ref b)] 632 [] := by
  refine g_aload_n C (n' := 633) 2 rfl dL_law_632 rfl rfl ?_
  refine g_aload_n C (n' := 634) 3 rfl dL_law_633 rfl rfl ?_
  refine g_iload_n C (n' := 635) 0 rfl dL_law_634 rfl rfl ?_
  refine g_iconst C (n' := 636) dL_law_635 rfl ?_
  refine g_iadd C (n' := 637) dL_law_636 rfl ?_
  refine g_ti C (n' := 638) C.2.2.2.2.2.2.2.2.2.2.2 (by omega) (by omega) (by omega) (v := .int (iI (0 : Int))) (congrArg (fun z => Value.int (iI z)) hpl) dL_law_637 rfl ?_
  refine g_aload_n C (n' := 639) 3 rfl dL_law_638 rfl rfl ?_
  refine g_iload_n C (n' := 640) 0 rfl dL_law_639 rfl rfl ?_
  refine g_iconst C (n' := 641) dL_law_640 rfl ?_
  refine g_iadd C (n' := 642) dL_law_641 rfl ?_
  refine g_ti C (n' := 643) C.2.2.2.2.2.2.2.2.2.2.2 (by omega) (by omega) (by omega) (v := .int (iI (xI (i + 2).toNat))) rfl dL_law_642 rfl ?_
  refine g_aload_n C (n' := 644) 3 rfl dL_law_643 rfl rfl ?_
  refine g_iload_n C (n' := 645) 0 rfl dL_law_644 rfl rfl ?_
  refine g_iconst C (n' := 646) dL_law_645 rfl ?_
  refine g_iadd C (n' := 647) dL_law_646 rfl ?_
  refine g_ti C (n' := 648) C.2.2.2.2.2.2.2.2.2.2.2 (by omega) (by omega) (by omega) (v := .int (iI (xI (i + 3).toNat))) rfl dL_law_647 rfl ?_
  refine g_callV C (n' := 651) (As := [.int (iI (0 : Int)), .int (iI (xI (i + 2).toNat)), .int (iI (xI (i + 3).toNat))]) (c_X7_get l D Y C.2.2.2.2.2.2.2.2.1 q qt qd qn qs qk qh qp qr K (Ir 0) (V 0) (M 0) (0 : Int) (xI (i + 2).toNat) (xI (i + 3).toNat) (R.2.2.2.2.2.2.2.2 0 (by decide)).1 (R.2.2.2.2.2.2.2.2 0 (by decide)).2.1 (R.2.2.2.2.2.2.2.2 0 (by decide)).2.2.2.1 (by decide) (hxs _) (hxs _)) 3 kw_608 kc_X7_get (by decide +kernel) (pS_r0 _ _ _ _ _ _ _ _ _ _ _ _ _) 0 (ci := 5) rfl rfl rfl rfl ⟨Nat.le_of_ble_eq_true rfl, Nat.le_of_ble_eq_true rfl⟩ ⟨rfl, rfl⟩ ⟨Nat.le_of_ble_eq_true rfl, Nat.le_of_ble_eq_true rfl⟩ (Nat.le_of_ble_eq_true rfl) dL_law_648 rfl (fun r7 w7 h7 => ?_)
  have hz : ∃ z : Int, r7 = some (.int (iI z)) := by
    exact ⟨_, h7.1⟩
  obtain ⟨z9, rfl⟩ := hz
  refine g_aload_n C (n' := 652) 1 rfl dL_law_651 rfl rfl ?_
  refine g_aload_n C (n' := 653) 3 rfl dL_law_652 rfl rfl ?_
  refine g_iload_n C (n' := 654) 0 rfl dL_law_653 rfl rfl ?_
  refine g_iconst C (n' := 655) dL_law_654 rfl ?_
  refine g_iadd C (n' := 656) dL_law_655 rfl ?_
  refine g_ti C (n' := 657) C.2.2.2.2.2.2.2.2.2.2.2 (by omega) (by omega) (by omega) (v := .int (iI (0 : Int))) (congrArg (fun z => Value.int (iI z)) hpl) dL_law_656 rfl ?_
  refine g_aload_n C (n' := 658) 3 rfl dL_law_657 rfl rfl ?_
  refine g_iload_n C (n' := 659) 0 rfl dL_law_658 rfl rfl ?_
  refine g_iconst C (n' := 660) dL_law_659 rfl ?_
  refine g_iadd C (n' := 661) dL_law_660 rfl ?_
  refine g_ti C (n' := 662) C.2.2.2.2.2.2.2.2.2.2.2 (by omega) (by omega) (by omega) (v := .int (iI (xI (i + 2).toNat))) rfl dL_law_661 rfl ?_
  refine g_aload_n C (n' := 663) 3 rfl dL_law_662 rfl rfl ?_
  refine g_iload_n C (n' := 664) 0 rfl dL_law_663 rfl rfl ?_
  refine g_iconst C (n' := 665) dL_law_664 rfl ?_
  refine g_iadd C (n' := 666) dL_law_665 rfl ?_
  refine g_ti C (n' := 667) C.2.2.2.2.2.2.2.2.2.2.2 (by omega) (by omega) (by omega) (v := .int (iI (xI (i + 3).toNat))) rfl dL_law_666 rfl ?_
  refine g_callV C (n' := 670) (As := [.int (iI (0 : Int)), .int (iI (xI (i + 2).toNat)), .int (iI (xI (i + 3).toNat))]) (c_X8_get l D Y C.2.2.2.2.2.2.2.2.1 qm I A F Dd (0 : Int) (xI (i + 2).toNat) (xI (i + 3).toNat) R.2.2.2.2.2.2.2.1.1 R.2.2.2.2.2.2.2.1.2.1 R.2.2.2.2.2.2.2.1.2.2.2 (by unfold inR; decide) (hxs _) (hxs _)) 3 kw_1017 kc_X8_get (by decide +kernel) pM 0 (ci := 6) rfl rfl rfl rfl ⟨Nat.le_of_ble_eq_true rfl, Nat.le_of_ble_eq_true rfl⟩ ⟨rfl, rfl⟩ ⟨Nat.le_of_ble_eq_true rfl, Nat.le_of_ble_eq_true rfl⟩ (Nat.le_of_ble_eq_true rfl) dL_law_667 rfl (fun r8 w8 h8 => ?_)
  obtain ⟨z, e7, rfl, K1, It1, L1, Jd1, Nd1, J1, N1, Js1, Ns1, Jk1, Nk1, Ih1, Ah1, Ip1, Ap1, Bp1, Ir1, V1, M1, I1, A1, F1, Dd1, R1, hp⟩ := pr_get_0 R h7 h8
  have e8 := Value.int.inj (Option.some.inj e7)
  rw [e8]
  refine g_same C 860 dL_law_670 (by decide) ?_
  refine g_perm hp ?_
  exact k _ _ _ _ _ _ _ _ _ _ _ _ _ _ _ _ _ _ _ _ _ _ _ R1

theorem lw_get_1 (C : g_Cx p s m args c cL_law 4 RL D (tysY Y) A9 (eLaw e9 b Ln xI)) (hi : 0 ≤ i ∧ i + 6 ≤ Ln ∧ Ln ≤ 3072) (hxs : ∀ k, inR (xI k)) (hpl : xI (i + 1).toNat = (1 : Int)) (R : (REL K It L Jd Nd J N Js Ns Jk Nk Ih Ah Ip Ap Bp Ir V M I A F Dd)) (k : ∀ (K It L : Nat → Int) (Jd : Nat → Int) (Nd : Nat → Nat → Int) (J : Nat → Int) (N : Nat → Nat → Int) (Js : Nat → Int) (Ns : Nat → Nat → Int) (Jk : Nat → Nat → Int) (Nk : Nat → Nat → Nat → Int) (Ih : Nat → Int) (Ah : Nat → Nat → Int) (Ip : Nat → Int) (Ap Bp : Nat → Nat → Int) (Ir : Nat → Nat → Int) (V : Nat → Nat → UInt64) (M : Nat → Nat → Int) (I : Nat → Int) (A : Nat → Nat → Int) (F : Nat → UInt32) (Dd : Nat → UInt64), (REL K It L Jd Nd J N Js Ns Jk Nk Ih Ah Ip Ap Bp Ir V M I A F Dd) → g_G p l e room_1 s m args below meth c 4 D A9 Q 77 1630 (wS q Y qt qd qn qs qk qh qp qr qm K It L Jd Nd J N Js Ns Jk Nk Ih Ah Ip Ap Bp Ir V M I A F Dd) [(3, .int (iI i)), (2, .ref (qm 99)), (1, .ref (q 99)), (0, .ref b)] 860 []) : g_G p l e room_1 s m args below meth c 4 D A9 Q 77 1630 (wS q Y qt qd qn qs qk qh qp qr qm K It L Jd Nd J N Js Ns Jk Nk Ih Ah Ip Ap Bp Ir V M I A F Dd) [(3, .int (iI i)), (2, .ref (qm 99)), (1, .ref (q 99)), (0, .ref b)] 632 [] := by
  refine g_aload_n C (n' := 633) 2 rfl dL_law_632 rfl rfl ?_
  refine g_aload_n C (n' := 634) 3 rfl dL_law_633 rfl rfl ?_
  refine g_iload_n C (n' := 635) 0 rfl dL_law_634 rfl rfl ?_
  refine g_iconst C (n' := 636) dL_law_635 rfl ?_
  refine g_iadd C (n' := 637) dL_law_636 rfl ?_
  refine g_ti C (n' := 638) C.2.2.2.2.2.2.2.2.2.2.2 (by omega) (by omega) (by omega) (v := .int (iI (1 : Int))) (congrArg (fun z => Value.int (iI z)) hpl) dL_law_637 rfl ?_
  refine g_aload_n C (n' := 639) 3 rfl dL_law_638 rfl rfl ?_
  refine g_iload_n C (n' := 640) 0 rfl dL_law_639 rfl rfl ?_
  refine g_iconst C (n' := 641) dL_law_640 rfl ?_
  refine g_iadd C (n' := 642) dL_law_641 rfl ?_
  refine g_ti C (n' := 643) C.2.2.2.2.2.2.2.2.2.2.2 (by omega) (by omega) (by omega) (v := .int (iI (xI (i + 2).toNat))) rfl dL_law_642 rfl ?_
  refine g_aload_n C (n' := 644) 3 rfl dL_law_643 rfl rfl ?_
  refine g_iload_n C (n' := 645) 0 rfl dL_law_644 rfl rfl ?_
  refine g_iconst C (n' := 646) dL_law_645 rfl ?_
  refine g_iadd C (n' := 647) dL_law_646 rfl ?_
  refine g_ti C (n' := 648) C.2.2.2.2.2.2.2.2.2.2.2 (by omega) (by omega) (by omega) (v := .int (iI (xI (i + 3).toNat))) rfl dL_law_647 rfl ?_
  refine g_callV C (n' := 651) (As := [.int (iI (1 : Int)), .int (iI (xI (i + 2).toNat)), .int (iI (xI (i + 3).toNat))]) (c_X7_get l D Y C.2.2.2.2.2.2.2.2.1 q qt qd qn qs qk qh qp qr K (Ir 1) (V 1) (M 1) (1 : Int) (xI (i + 2).toNat) (xI (i + 3).toNat) (R.2.2.2.2.2.2.2.2 1 (by decide)).1 (R.2.2.2.2.2.2.2.2 1 (by decide)).2.1 (R.2.2.2.2.2.2.2.2 1 (by decide)).2.2.2.1 (by decide) (hxs _) (hxs _)) 3 kw_608 kc_X7_get (by decide +kernel) (pS_r1 _ _ _ _ _ _ _ _ _ _ _ _ _) 0 (ci := 5) rfl rfl rfl rfl ⟨Nat.le_of_ble_eq_true rfl, Nat.le_of_ble_eq_true rfl⟩ ⟨rfl, rfl⟩ ⟨Nat.le_of_ble_eq_true rfl, Nat.le_of_ble_eq_true rfl⟩ (Nat.le_of_ble_eq_true rfl) dL_law_648 rfl (fun r7 w7 h7 => ?_)
  have hz : ∃ z : Int, r7 = some (.int (iI z)) := by
    exact ⟨_, h7.1⟩
  obtain ⟨z9, rfl⟩ := hz
  refine g_aload_n C (n' := 652) 1 rfl dL_law_651 rfl rfl ?_
  refine g_aload_n C (n' := 653) 3 rfl dL_law_652 rfl rfl ?_
  refine g_iload_n C (n' := 654) 0 rfl dL_law_653 rfl rfl ?_
  refine g_iconst C (n' := 655) dL_law_654 rfl ?_
  refine g_iadd C (n' := 656) dL_law_655 rfl ?_
  refine g_ti C (n' := 657) C.2.2.2.2.2.2.2.2.2.2.2 (by omega) (by omega) (by omega) (v := .int (iI (1 : Int))) (congrArg (fun z => Value.int (iI z)) hpl) dL_law_656 rfl ?_
  refine g_aload_n C (n' := 658) 3 rfl dL_law_657 rfl rfl ?_
  refine g_iload_n C (n' := 659) 0 rfl dL_law_658 rfl rfl ?_
  refine g_iconst C (n' := 660) dL_law_659 rfl ?_
  refine g_iadd C (n' := 661) dL_law_660 rfl ?_
  refine g_ti C (n' := 662) C.2.2.2.2.2.2.2.2.2.2.2 (by omega) (by omega) (by omega) (v := .int (iI (xI (i + 2).toNat))) rfl dL_law_661 rfl ?_
  refine g_aload_n C (n' := 663) 3 rfl dL_law_662 rfl rfl ?_
  refine g_iload_n C (n' := 664) 0 rfl dL_law_663 rfl rfl ?_
  refine g_iconst C (n' := 665) dL_law_664 rfl ?_
  refine g_iadd C (n' := 666) dL_law_665 rfl ?_
  refine g_ti C (n' := 667) C.2.2.2.2.2.2.2.2.2.2.2 (by omega) (by omega) (by omega) (v := .int (iI (xI (i + 3).toNat))) rfl dL_law_666 rfl ?_
  refine g_callV C (n' := 670) (As := [.int (iI (1 : Int)), .int (iI (xI (i + 2).toNat)), .int (iI (xI (i + 3).toNat))]) (c_X8_get l D Y C.2.2.2.2.2.2.2.2.1 qm I A F Dd (1 : Int) (xI (i + 2).toNat) (xI (i + 3).toNat) R.2.2.2.2.2.2.2.1.1 R.2.2.2.2.2.2.2.1.2.1 R.2.2.2.2.2.2.2.1.2.2.2 (by unfold inR; decide) (hxs _) (hxs _)) 3 kw_1017 kc_X8_get (by decide +kernel) pM 0 (ci := 6) rfl rfl rfl rfl ⟨Nat.le_of_ble_eq_true rfl, Nat.le_of_ble_eq_true rfl⟩ ⟨rfl, rfl⟩ ⟨Nat.le_of_ble_eq_true rfl, Nat.le_of_ble_eq_true rfl⟩ (Nat.le_of_ble_eq_true rfl) dL_law_667 rfl (fun r8 w8 h8 => ?_)
  obtain ⟨z, e7, rfl, K1, It1, L1, Jd1, Nd1, J1, N1, Js1, Ns1, Jk1, Nk1, Ih1, Ah1, Ip1, Ap1, Bp1, Ir1, V1, M1, I1, A1, F1, Dd1, R1, hp⟩ := pr_get_1 R h7 h8
  have e8 := Value.int.inj (Option.some.inj e7)
  rw [e8]
  refine g_same C 860 dL_law_670 (by decide) ?_
  refine g_perm hp ?_
  exact k _ _ _ _ _ _ _ _ _ _ _ _ _ _ _ _ _ _ _ _ _ _ _ R1

theorem lw_get_2 (C : g_Cx p s m args c cL_law 4 RL D (tysY Y) A9 (eLaw e9 b Ln xI)) (hi : 0 ≤ i ∧ i + 6 ≤ Ln ∧ Ln ≤ 3072) (hxs : ∀ k, inR (xI k)) (hpl : xI (i + 1).toNat = (2 : Int)) (R : (REL K It L Jd Nd J N Js Ns Jk Nk Ih Ah Ip Ap Bp Ir V M I A F Dd)) (k : ∀ (K It L : Nat → Int) (Jd : Nat → Int) (Nd : Nat → Nat → Int) (J : Nat → Int) (N : Nat → Nat → Int) (Js : Nat → Int) (Ns : Nat → Nat → Int) (Jk : Nat → Nat → Int) (Nk : Nat → Nat → Nat → Int) (Ih : Nat → Int) (Ah : Nat → Nat → Int) (Ip : Nat → Int) (Ap Bp : Nat → Nat → Int) (Ir : Nat → Nat → Int) (V : Nat → Nat → UInt64) (M : Nat → Nat → Int) (I : Nat → Int) (A : Nat → Nat → Int) (F : Nat → UInt32) (Dd : Nat → UInt64), (REL K It L Jd Nd J N Js Ns Jk Nk Ih Ah Ip Ap Bp Ir V M I A F Dd) → g_G p l e room_1 s m args below meth c 4 D A9 Q 77 1630 (wS q Y qt qd qn qs qk qh qp qr qm K It L Jd Nd J N Js Ns Jk Nk Ih Ah Ip Ap Bp Ir V M I A F Dd) [(3, .int (iI i)), (2, .ref (qm 99)), (1, .ref (q 99)), (0, .ref b)] 860 []) : g_G p l e room_1 s m args below meth c 4 D A9 Q 77 1630 (wS q Y qt qd qn qs qk qh qp qr qm K It L Jd Nd J N Js Ns Jk Nk Ih Ah Ip Ap Bp Ir V M I A F Dd) [(3, .int (iI i)), (2, .ref (qm 99)), (1, .ref (q 99)), (0, .ref b)] 632 [] := by
  refine g_aload_n C (n' := 633) 2 rfl dL_law_632 rfl rfl ?_
  refine g_aload_n C (n' := 634) 3 rfl dL_law_633 rfl rfl ?_
  refine g_iload_n C (n' := 635) 0 rfl dL_law_634 rfl rfl ?_
  refine g_iconst C (n' := 636) dL_law_635 rfl ?_
  refine g_iadd C (n' := 637) dL_law_636 rfl ?_
  refine g_ti C (n' := 638) C.2.2.2.2.2.2.2.2.2.2.2 (by omega) (by omega) (by omega) (v := .int (iI (2 : Int))) (congrArg (fun z => Value.int (iI z)) hpl) dL_law_637 rfl ?_
  refine g_aload_n C (n' := 639) 3 rfl dL_law_638 rfl rfl ?_
  refine g_iload_n C (n' := 640) 0 rfl dL_law_639 rfl rfl ?_
  refine g_iconst C (n' := 641) dL_law_640 rfl ?_
  refine g_iadd C (n' := 642) dL_law_641 rfl ?_
  refine g_ti C (n' := 643) C.2.2.2.2.2.2.2.2.2.2.2 (by omega) (by omega) (by omega) (v := .int (iI (xI (i + 2).toNat))) rfl dL_law_642 rfl ?_
  refine g_aload_n C (n' := 644) 3 rfl dL_law_643 rfl rfl ?_
  refine g_iload_n C (n' := 645) 0 rfl dL_law_644 rfl rfl ?_
  refine g_iconst C (n' := 646) dL_law_645 rfl ?_
  refine g_iadd C (n' := 647) dL_law_646 rfl ?_
  refine g_ti C (n' := 648) C.2.2.2.2.2.2.2.2.2.2.2 (by omega) (by omega) (by omega) (v := .int (iI (xI (i + 3).toNat))) rfl dL_law_647 rfl ?_
  refine g_callV C (n' := 651) (As := [.int (iI (2 : Int)), .int (iI (xI (i + 2).toNat)), .int (iI (xI (i + 3).toNat))]) (c_X7_get l D Y C.2.2.2.2.2.2.2.2.1 q qt qd qn qs qk qh qp qr K (Ir 2) (V 2) (M 2) (2 : Int) (xI (i + 2).toNat) (xI (i + 3).toNat) (R.2.2.2.2.2.2.2.2 2 (by decide)).1 (R.2.2.2.2.2.2.2.2 2 (by decide)).2.1 (R.2.2.2.2.2.2.2.2 2 (by decide)).2.2.2.1 (by decide) (hxs _) (hxs _)) 3 kw_608 kc_X7_get (by decide +kernel) (pS_r2 _ _ _ _ _ _ _ _ _ _ _ _ _) 0 (ci := 5) rfl rfl rfl rfl ⟨Nat.le_of_ble_eq_true rfl, Nat.le_of_ble_eq_true rfl⟩ ⟨rfl, rfl⟩ ⟨Nat.le_of_ble_eq_true rfl, Nat.le_of_ble_eq_true rfl⟩ (Nat.le_of_ble_eq_true rfl) dL_law_648 rfl (fun r7 w7 h7 => ?_)
  have hz : ∃ z : Int, r7 = some (.int (iI z)) := by
    exact ⟨_, h7.1⟩
  obtain ⟨z9, rfl⟩ := hz
  refine g_aload_n C (n' := 652) 1 rfl dL_law_651 rfl rfl ?_
  refine g_aload_n C (n' := 653) 3 rfl dL_law_652 rfl rfl ?_
  refine g_iload_n C (n' := 654) 0 rfl dL_law_653 rfl rfl ?_
  refine g_iconst C (n' := 655) dL_law_654 rfl ?_
  refine g_iadd C (n' := 656) dL_law_655 rfl ?_
  refine g_ti C (n' := 657) C.2.2.2.2.2.2.2.2.2.2.2 (by omega) (by omega) (by omega) (v := .int (iI (2 : Int))) (congrArg (fun z => Value.int (iI z)) hpl) dL_law_656 rfl ?_
  refine g_aload_n C (n' := 658) 3 rfl dL_law_657 rfl rfl ?_
  refine g_iload_n C (n' := 659) 0 rfl dL_law_658 rfl rfl ?_
  refine g_iconst C (n' := 660) dL_law_659 rfl ?_
  refine g_iadd C (n' := 661) dL_law_660 rfl ?_
  refine g_ti C (n' := 662) C.2.2.2.2.2.2.2.2.2.2.2 (by omega) (by omega) (by omega) (v := .int (iI (xI (i + 2).toNat))) rfl dL_law_661 rfl ?_
  refine g_aload_n C (n' := 663) 3 rfl dL_law_662 rfl rfl ?_
  refine g_iload_n C (n' := 664) 0 rfl dL_law_663 rfl rfl ?_
  refine g_iconst C (n' := 665) dL_law_664 rfl ?_
  refine g_iadd C (n' := 666) dL_law_665 rfl ?_
  refine g_ti C (n' := 667) C.2.2.2.2.2.2.2.2.2.2.2 (by omega) (by omega) (by omega) (v := .int (iI (xI (i + 3).toNat))) rfl dL_law_666 rfl ?_
  refine g_callV C (n' := 670) (As := [.int (iI (2 : Int)), .int (iI (xI (i + 2).toNat)), .int (iI (xI (i + 3).toNat))]) (c_X8_get l D Y C.2.2.2.2.2.2.2.2.1 qm I A F Dd (2 : Int) (xI (i + 2).toNat) (xI (i + 3).toNat) R.2.2.2.2.2.2.2.1.1 R.2.2.2.2.2.2.2.1.2.1 R.2.2.2.2.2.2.2.1.2.2.2 (by unfold inR; decide) (hxs _) (hxs _)) 3 kw_1017 kc_X8_get (by decide +kernel) pM 0 (ci := 6) rfl rfl rfl rfl ⟨Nat.le_of_ble_eq_true rfl, Nat.le_of_ble_eq_true rfl⟩ ⟨rfl, rfl⟩ ⟨Nat.le_of_ble_eq_true rfl, Nat.le_of_ble_eq_true rfl⟩ (Nat.le_of_ble_eq_true rfl) dL_law_667 rfl (fun r8 w8 h8 => ?_)
  obtain ⟨z, e7, rfl, K1, It1, L1, Jd1, Nd1, J1, N1, Js1, Ns1, Jk1, Nk1, Ih1, Ah1, Ip1, Ap1, Bp1, Ir1, V1, M1, I1, A1, F1, Dd1, R1, hp⟩ := pr_get_2 R h7 h8
  have e8 := Value.int.inj (Option.some.inj e7)
  rw [e8]
  refine g_same C 860 dL_law_670 (by decide) ?_
  refine g_perm hp ?_
  exact k _ _ _ _ _ _ _ _ _ _ _ _ _ _ _ _ _ _ _ _ _ _ _ R1

theorem lw_get_o (C : g_Cx p s m args c cL_law 4 RL D (tysY Y) A9 (eLaw e9 b Ln xI)) (hi : 0 ≤ i ∧ i + 6 ≤ Ln ∧ Ln ≤ 3072) (hxs : ∀ k, inR (xI k)) (hpl : ¬ (0 ≤ xI (i + 1).toNat ∧ xI (i + 1).toNat ≤ 2)) (R : (REL K It L Jd Nd J N Js Ns Jk Nk Ih Ah Ip Ap Bp Ir V M I A F Dd)) (k : ∀ (K It L : Nat → Int) (Jd : Nat → Int) (Nd : Nat → Nat → Int) (J : Nat → Int) (N : Nat → Nat → Int) (Js : Nat → Int) (Ns : Nat → Nat → Int) (Jk : Nat → Nat → Int) (Nk : Nat → Nat → Nat → Int) (Ih : Nat → Int) (Ah : Nat → Nat → Int) (Ip : Nat → Int) (Ap Bp : Nat → Nat → Int) (Ir : Nat → Nat → Int) (V : Nat → Nat → UInt64) (M : Nat → Nat → Int) (I : Nat → Int) (A : Nat → Nat → Int) (F : Nat → UInt32) (Dd : Nat → UInt64), (REL K It L Jd Nd J N Js Ns Jk Nk Ih Ah Ip Ap Bp Ir V M I A F Dd) → g_G p l e room_1 s m args below meth c 4 D A9 Q 77 1630 (wS q Y qt qd qn qs qk qh qp qr qm K It L Jd Nd J N Js Ns Jk Nk Ih Ah Ip Ap Bp Ir V M I A F Dd) [(3, .int (iI i)), (2, .ref (qm 99)), (1, .ref (q 99)), (0, .ref b)] 860 []) : g_G p l e room_1 s m args below meth c 4 D A9 Q 77 1630 (wS q Y qt qd qn qs qk qh qp qr qm K It L Jd Nd J N Js Ns Jk Nk Ih Ah Ip Ap Bp Ir V M I A F Dd) [(3, .int (iI i)), (2, .ref (qm 99)), (1, .ref (q 99)), (0, .ref b)] 632 [] := by
  refine g_aload_n C (n' := 633) 2 rfl dL_law_632 rfl rfl ?_
  refine g_aload_n C (n' := 634) 3 rfl dL_law_633 rfl rfl ?_
  refine g_iload_n C (n' := 635) 0 rfl dL_law_634 rfl rfl ?_
  refine g_iconst C (n' := 636) dL_law_635 rfl ?_
  refine g_iadd C (n' := 637) dL_law_636 rfl ?_
  refine g_ti C (n' := 638) C.2.2.2.2.2.2.2.2.2.2.2 (by omega) (by omega) (by omega) (v := .int (iI (xI (i + 1).toNat))) rfl dL_law_637 rfl ?_
  refine g_aload_n C (n' := 639) 3 rfl dL_law_638 rfl rfl ?_
  refine g_iload_n C (n' := 640) 0 rfl dL_law_639 rfl rfl ?_
  refine g_iconst C (n' := 641) dL_law_640 rfl ?_
  refine g_iadd C (n' := 642) dL_law_641 rfl ?_
  refine g_ti C (n' := 643) C.2.2.2.2.2.2.2.2.2.2.2 (by omega) (by omega) (by omega) (v := .int (iI (xI (i + 2).toNat))) rfl dL_law_642 rfl ?_
  refine g_aload_n C (n' := 644) 3 rfl dL_law_643 rfl rfl ?_
  refine g_iload_n C (n' := 645) 0 rfl dL_law_644 rfl rfl ?_
  refine g_iconst C (n' := 646) dL_law_645 rfl ?_
  refine g_iadd C (n' := 647) dL_law_646 rfl ?_
  refine g_ti C (n' := 648) C.2.2.2.2.2.2.2.2.2.2.2 (by omega) (by omega) (by omega) (v := .int (iI (xI (i + 3).toNat))) rfl dL_law_647 rfl ?_
  refine g_callV C (n' := 651) (As := [.int (iI (xI (i + 1).toNat)), .int (iI (xI (i + 2).toNat)), .int (iI (xI (i + 3).toNat))]) (c_X7_get_o l D Y C.2.2.2.2.2.2.2.2.1 q qt qd qn qs qk qh qp qr K (xI (i + 1).toNat) (xI (i + 2).toNat) (xI (i + 3).toNat) hpl (hxs _)) 3 kw_608 kc_X7_get (by decide +kernel) (pS_T _ _ _ _ _ _ _ _ _ _ _ _ _) 0 (ci := 5) rfl rfl rfl rfl ⟨Nat.le_of_ble_eq_true rfl, Nat.le_of_ble_eq_true rfl⟩ ⟨rfl, rfl⟩ ⟨Nat.le_of_ble_eq_true rfl, Nat.le_of_ble_eq_true rfl⟩ (Nat.le_of_ble_eq_true rfl) dL_law_648 rfl (fun r7 w7 h7 => ?_)
  have hz : ∃ z : Int, r7 = some (.int (iI z)) := by
    exact ⟨_, h7.1⟩
  obtain ⟨z9, rfl⟩ := hz
  refine g_aload_n C (n' := 652) 1 rfl dL_law_651 rfl rfl ?_
  refine g_aload_n C (n' := 653) 3 rfl dL_law_652 rfl rfl ?_
  refine g_iload_n C (n' := 654) 0 rfl dL_law_653 rfl rfl ?_
  refine g_iconst C (n' := 655) dL_law_654 rfl ?_
  refine g_iadd C (n' := 656) dL_law_655 rfl ?_
  refine g_ti C (n' := 657) C.2.2.2.2.2.2.2.2.2.2.2 (by omega) (by omega) (by omega) (v := .int (iI (xI (i + 1).toNat))) rfl dL_law_656 rfl ?_
  refine g_aload_n C (n' := 658) 3 rfl dL_law_657 rfl rfl ?_
  refine g_iload_n C (n' := 659) 0 rfl dL_law_658 rfl rfl ?_
  refine g_iconst C (n' := 660) dL_law_659 rfl ?_
  refine g_iadd C (n' := 661) dL_law_660 rfl ?_
  refine g_ti C (n' := 662) C.2.2.2.2.2.2.2.2.2.2.2 (by omega) (by omega) (by omega) (v := .int (iI (xI (i + 2).toNat))) rfl dL_law_661 rfl ?_
  refine g_aload_n C (n' := 663) 3 rfl dL_law_662 rfl rfl ?_
  refine g_iload_n C (n' := 664) 0 rfl dL_law_663 rfl rfl ?_
  refine g_iconst C (n' := 665) dL_law_664 rfl ?_
  refine g_iadd C (n' := 666) dL_law_665 rfl ?_
  refine g_ti C (n' := 667) C.2.2.2.2.2.2.2.2.2.2.2 (by omega) (by omega) (by omega) (v := .int (iI (xI (i + 3).toNat))) rfl dL_law_666 rfl ?_
  refine g_callV C (n' := 670) (As := [.int (iI (xI (i + 1).toNat)), .int (iI (xI (i + 2).toNat)), .int (iI (xI (i + 3).toNat))]) (c_X8_get l D Y C.2.2.2.2.2.2.2.2.1 qm I A F Dd (xI (i + 1).toNat) (xI (i + 2).toNat) (xI (i + 3).toNat) R.2.2.2.2.2.2.2.1.1 R.2.2.2.2.2.2.2.1.2.1 R.2.2.2.2.2.2.2.1.2.2.2 (hxs _) (hxs _) (hxs _)) 3 kw_1017 kc_X8_get (by decide +kernel) pM 0 (ci := 6) rfl rfl rfl rfl ⟨Nat.le_of_ble_eq_true rfl, Nat.le_of_ble_eq_true rfl⟩ ⟨rfl, rfl⟩ ⟨Nat.le_of_ble_eq_true rfl, Nat.le_of_ble_eq_true rfl⟩ (Nat.le_of_ble_eq_true rfl) dL_law_667 rfl (fun r8 w8 h8 => ?_)
  obtain ⟨z, e7, rfl, K1, It1, L1, Jd1, Nd1, J1, N1, Js1, Ns1, Jk1, Nk1, Ih1, Ah1, Ip1, Ap1, Bp1, Ir1, V1, M1, I1, A1, F1, Dd1, R1, hp⟩ := pr_get_o R hpl h7 h8
  have e8 := Value.int.inj (Option.some.inj e7)
  rw [e8]
  refine g_same C 860 dL_law_670 (by decide) ?_
  refine g_perm hp ?_
  exact k _ _ _ _ _ _ _ _ _ _ _ _ _ _ _ _ _ _ _ _ _ _ _ R1

theorem lw_rest_0 (C : g_Cx p s m args c cL_law 4 RL D (tysY Y) A9 (eLaw e9 b Ln xI)) (hi : 0 ≤ i ∧ i + 6 ≤ Ln ∧ Ln ≤ 3072) (hxs : ∀ k, inR (xI k)) (hpl : xI (i + 1).toNat = (0 : Int)) (R : (REL K It L Jd Nd J N Js Ns Jk Nk Ih Ah Ip Ap Bp Ir V M I A F Dd)) (k : ∀ (K It L : Nat → Int) (Jd : Nat → Int) (Nd : Nat → Nat → Int) (J : Nat → Int) (N : Nat → Nat → Int) (Js : Nat → Int) (Ns : Nat → Nat → Int) (Jk : Nat → Nat → Int) (Nk : Nat → Nat → Nat → Int) (Ih : Nat → Int) (Ah : Nat → Nat → Int) (Ip : Nat → Int) (Ap Bp : Nat → Nat → Int) (Ir : Nat → Nat → Int) (V : Nat → Nat → UInt64) (M : Nat → Nat → Int) (I : Nat → Int) (A : Nat → Nat → Int) (F : Nat → UInt32) (Dd : Nat → UInt64), (REL K It L Jd Nd J N Js Ns Jk Nk Ih Ah Ip Ap Bp Ir V M I A F Dd) → g_G p l e room_1 s m args below meth c 4 D A9 Q 77 1630 (wS q Y qt qd qn qs qk qh qp qr qm K It L Jd Nd J N Js Ns Jk Nk Ih Ah Ip Ap Bp Ir V M I A F Dd) [(3, .int (iI i)), (2, .ref (qm 99)), (1, .ref (q 99)), (0, .ref b)] 860 []) : g_G p l e room_1 s m args below meth c 4 D A9 Q 77 1630 (wS q Y qt qd qn qs qk qh qp qr qm K It L Jd Nd J N Js Ns Jk Nk Ih Ah Ip Ap Bp Ir V M I A F Dd) [(3, .int (iI i)), (2, .ref (qm 99)), (1, .ref (q 99)), (0, .ref b)] 675 [] := by
  refine g_aload_n C (n' := 676) 2 rfl dL_law_675 rfl rfl ?_
  refine g_aload_n C (n' := 677) 3 rfl dL_law_676 rfl rfl ?_
  refine g_iload_n C (n' := 678) 0 rfl dL_law_677 rfl rfl ?_
  refine g_iconst C (n' := 679) dL_law_678 rfl ?_
  refine g_iadd C (n' := 680) dL_law_679 rfl ?_
  refine g_ti C (n' := 681) C.2.2.2.2.2.2.2.2.2.2.2 (by omega) (by omega) (by omega) (v := .int (iI (0 : Int))) (congrArg (fun z => Value.int (iI z)) hpl) dL_law_680 rfl ?_
  refine g_aload_n C (n' := 682) 3 rfl dL_law_681 rfl rfl ?_
  refine g_iload_n C (n' := 683) 0 rfl dL_law_682 rfl rfl ?_
  refine g_iconst C (n' := 684) dL_law_683 rfl ?_
  refine g_iadd C (n' := 685) dL_law_684 rfl ?_
  refine g_ti C (n' := 686) C.2.2.2.2.2.2.2.2.2.2.2 (by omega) (by omega) (by omega) (v := .int (iI (xI (i + 2).toNat))) rfl dL_law_685 rfl ?_
  refine g_aload_n C (n' := 687) 3 rfl dL_law_686 rfl rfl ?_
  refine g_iload_n C (n' := 688) 0 rfl dL_law_687 rfl rfl ?_
  refine g_iconst C (n' := 689) dL_law_688 rfl ?_
  refine g_iadd C (n' := 690) dL_law_689 rfl ?_
  refine g_ti C (n' := 691) C.2.2.2.2.2.2.2.2.2.2.2 (by omega) (by omega) (by omega) (v := .int (iI (xI (i + 3).toNat))) rfl dL_law_690 rfl ?_
  refine g_aload_n C (n' := 692) 3 rfl dL_law_691 rfl rfl ?_
  refine g_iload_n C (n' := 693) 0 rfl dL_law_692 rfl rfl ?_
  refine g_iconst C (n' := 694) dL_law_693 rfl ?_
  refine g_iadd C (n' := 695) dL_law_694 rfl ?_
  refine g_ti C (n' := 696) C.2.2.2.2.2.2.2.2.2.2.2 (by omega) (by omega) (by omega) (v := .int (iI (xI (i + 4).toNat))) rfl dL_law_695 rfl ?_
  refine g_callV C (n' := 699) (As := [.int (iI (0 : Int)), .int (iI (xI (i + 2).toNat)), .int (iI (xI (i + 3).toNat)), .int (iI (xI (i + 4).toNat))]) (c_X7_rest l D Y C.2.2.2.2.2.2.2.2.1 q qt qd qn qs qk qh qp qr K (Ir 0) (V 0) (M 0) (0 : Int) (xI (i + 2).toNat) (xI (i + 3).toNat) (xI (i + 4).toNat) (R.2.2.2.2.2.2.2.2 0 (by decide)).1 (R.2.2.2.2.2.2.2.2 0 (by decide)).2.1 (R.2.2.2.2.2.2.2.2 0 (by decide)).2.2.2.1 (by decide) (hxs _) (hxs _) (hxs _) (R.2.2.2.2.2.2.2.2 0 (by decide)).2.2.2.2.2.2) 4 kw_616 kc_X7_rest (by decide +kernel) (pS_r0 _ _ _ _ _ _ _ _ _ _ _ _ _) 0 (ci := 5) rfl rfl rfl rfl ⟨Nat.le_of_ble_eq_true rfl, Nat.le_of_ble_eq_true rfl⟩ ⟨rfl, rfl⟩ ⟨Nat.le_of_ble_eq_true rfl, Nat.le_of_ble_eq_true rfl⟩ (Nat.le_of_ble_eq_true rfl) dL_law_696 rfl (fun r7 w7 h7 => ?_)
  have hz : ∃ z : Int, r7 = some (.int (iI z)) := by
    rcases h7 with ⟨_, h, _⟩ | ⟨_, _, _, _, _, h⟩ <;> exact ⟨_, h⟩
  obtain ⟨z9, rfl⟩ := hz
  refine g_aload_n C (n' := 700) 1 rfl dL_law_699 rfl rfl ?_
  refine g_aload_n C (n' := 701) 3 rfl dL_law_700 rfl rfl ?_
  refine g_iload_n C (n' := 702) 0 rfl dL_law_701 rfl rfl ?_
  refine g_iconst C (n' := 703) dL_law_702 rfl ?_
  refine g_iadd C (n' := 704) dL_law_703 rfl ?_
  refine g_ti C (n' := 705) C.2.2.2.2.2.2.2.2.2.2.2 (by omega) (by omega) (by omega) (v := .int (iI (0 : Int))) (congrArg (fun z => Value.int (iI z)) hpl) dL_law_704 rfl ?_
  refine g_aload_n C (n' := 706) 3 rfl dL_law_705 rfl rfl ?_
  refine g_iload_n C (n' := 707) 0 rfl dL_law_706 rfl rfl ?_
  refine g_iconst C (n' := 708) dL_law_707 rfl ?_
  refine g_iadd C (n' := 709) dL_law_708 rfl ?_
  refine g_ti C (n' := 710) C.2.2.2.2.2.2.2.2.2.2.2 (by omega) (by omega) (by omega) (v := .int (iI (xI (i + 2).toNat))) rfl dL_law_709 rfl ?_
  refine g_aload_n C (n' := 711) 3 rfl dL_law_710 rfl rfl ?_
  refine g_iload_n C (n' := 712) 0 rfl dL_law_711 rfl rfl ?_
  refine g_iconst C (n' := 713) dL_law_712 rfl ?_
  refine g_iadd C (n' := 714) dL_law_713 rfl ?_
  refine g_ti C (n' := 715) C.2.2.2.2.2.2.2.2.2.2.2 (by omega) (by omega) (by omega) (v := .int (iI (xI (i + 3).toNat))) rfl dL_law_714 rfl ?_
  refine g_aload_n C (n' := 716) 3 rfl dL_law_715 rfl rfl ?_
  refine g_iload_n C (n' := 717) 0 rfl dL_law_716 rfl rfl ?_
  refine g_iconst C (n' := 718) dL_law_717 rfl ?_
  refine g_iadd C (n' := 719) dL_law_718 rfl ?_
  refine g_ti C (n' := 720) C.2.2.2.2.2.2.2.2.2.2.2 (by omega) (by omega) (by omega) (v := .int (iI (xI (i + 4).toNat))) rfl dL_law_719 rfl ?_
  refine g_callV C (n' := 723) (As := [.int (iI (0 : Int)), .int (iI (xI (i + 2).toNat)), .int (iI (xI (i + 3).toNat)), .int (iI (xI (i + 4).toNat))]) (c_X8_rest l D Y C.2.2.2.2.2.2.2.2.1 qm I A F Dd (0 : Int) (xI (i + 2).toNat) (xI (i + 3).toNat) (xI (i + 4).toNat) R.2.2.2.2.2.2.2.1.1 R.2.2.2.2.2.2.2.1.2.1 R.2.2.2.2.2.2.2.1.2.2.2 (by unfold inR; decide) (hxs _) (hxs _) (hxs _)) 4 kw_1021 kc_X8_rest (by decide +kernel) pM 0 (ci := 6) rfl rfl rfl rfl ⟨Nat.le_of_ble_eq_true rfl, Nat.le_of_ble_eq_true rfl⟩ ⟨rfl, rfl⟩ ⟨Nat.le_of_ble_eq_true rfl, Nat.le_of_ble_eq_true rfl⟩ (Nat.le_of_ble_eq_true rfl) dL_law_720 rfl (fun r8 w8 h8 => ?_)
  obtain ⟨z, e7, rfl, K1, It1, L1, Jd1, Nd1, J1, N1, Js1, Ns1, Jk1, Nk1, Ih1, Ah1, Ip1, Ap1, Bp1, Ir1, V1, M1, I1, A1, F1, Dd1, R1, hp⟩ := pr_rest_0 R h7 h8
  have e8 := Value.int.inj (Option.some.inj e7)
  rw [e8]
  refine g_same C 860 dL_law_723 (by decide) ?_
  refine g_perm hp ?_
  exact k _ _ _ _ _ _ _ _ _ _ _ _ _ _ _ _ _ _ _ _ _ _ _ R1

theorem lw_rest_1 (C : g_Cx p s m args c cL_law 4 RL D (tysY Y) A9 (eLaw e9 b Ln xI)) (hi : 0 ≤ i ∧ i + 6 ≤ Ln ∧ Ln ≤ 3072) (hxs : ∀ k, inR (xI k)) (hpl : xI (i + 1).toNat = (1 : Int)) (R : (REL K It L Jd Nd J N Js Ns Jk Nk Ih Ah Ip Ap Bp Ir V M I A F Dd)) (k : ∀ (K It L : Nat → Int) (Jd : Nat → Int) (Nd : Nat → Nat → Int) (J : Nat → Int) (N : Nat → Nat → Int) (Js : Nat → Int) (Ns : Nat → Nat → Int) (Jk : Nat → Nat → Int) (Nk : Nat → Nat → Nat → Int) (Ih : Nat → Int) (Ah : Nat → Nat → Int) (Ip : Nat → Int) (Ap Bp : Nat → Nat → Int) (Ir : Nat → Nat → Int) (V : Nat → Nat → UInt64) (M : Nat → Nat → Int) (I : Nat → Int) (A : Nat → Nat → Int) (F : Nat → UInt32) (Dd : Nat → UInt64), (REL K It L Jd Nd J N Js Ns Jk Nk Ih Ah Ip Ap Bp Ir V M I A F Dd) → g_G p l e room_1 s m args below meth c 4 D A9 Q 77 1630 (wS q Y qt qd qn qs qk qh qp qr qm K It L Jd Nd J N Js Ns Jk Nk Ih Ah Ip Ap Bp Ir V M I A F Dd) [(3, .int (iI i)), (2, .ref (qm 99)), (1, .ref (q 99)), (0, .ref b)] 860 []) : g_G p l e room_1 s m args below meth c 4 D A9 Q 77 1630 (wS q Y qt qd qn qs qk qh qp qr qm K It L Jd Nd J N Js Ns Jk Nk Ih Ah Ip Ap Bp Ir V M I A F Dd) [(3, .int (iI i)), (2, .ref (qm 99)), (1, .ref (q 99)), (0, .ref b)] 675 [] := by
  refine g_aload_n C (n' := 676) 2 rfl dL_law_675 rfl rfl ?_
  refine g_aload_n C (n' := 677) 3 rfl dL_law_676 rfl rfl ?_
  refine g_iload_n C (n' := 678) 0 rfl dL_law_677 rfl rfl ?_
  refine g_iconst C (n' := 679) dL_law_678 rfl ?_
  refine g_iadd C (n' := 680) dL_law_679 rfl ?_
  refine g_ti C (n' := 681) C.2.2.2.2.2.2.2.2.2.2.2 (by omega) (by omega) (by omega) (v := .int (iI (1 : Int))) (congrArg (fun z => Value.int (iI z)) hpl) dL_law_680 rfl ?_
  refine g_aload_n C (n' := 682) 3 rfl dL_law_681 rfl rfl ?_
  refine g_iload_n C (n' := 683) 0 rfl dL_law_682 rfl rfl ?_
  refine g_iconst C (n' := 684) dL_law_683 rfl ?_
  refine g_iadd C (n' := 685) dL_law_684 rfl ?_
  refine g_ti C (n' := 686) C.2.2.2.2.2.2.2.2.2.2.2 (by omega) (by omega) (by omega) (v := .int (iI (xI (i + 2).toNat))) rfl dL_law_685 rfl ?_
  refine g_aload_n C (n' := 687) 3 rfl dL_law_686 rfl rfl ?_
  refine g_iload_n C (n' := 688) 0 rfl dL_law_687 rfl rfl ?_
  refine g_iconst C (n' := 689) dL_law_688 rfl ?_
  refine g_iadd C (n' := 690) dL_law_689 rfl ?_
  refine g_ti C (n' := 691) C.2.2.2.2.2.2.2.2.2.2.2 (by omega) (by omega) (by omega) (v := .int (iI (xI (i + 3).toNat))) rfl dL_law_690 rfl ?_
  refine g_aload_n C (n' := 692) 3 rfl dL_law_691 rfl rfl ?_
  refine g_iload_n C (n' := 693) 0 rfl dL_law_692 rfl rfl ?_
  refine g_iconst C (n' := 694) dL_law_693 rfl ?_
  refine g_iadd C (n' := 695) dL_law_694 rfl ?_
  refine g_ti C (n' := 696) C.2.2.2.2.2.2.2.2.2.2.2 (by omega) (by omega) (by omega) (v := .int (iI (xI (i + 4).toNat))) rfl dL_law_695 rfl ?_
  refine g_callV C (n' := 699) (As := [.int (iI (1 : Int)), .int (iI (xI (i + 2).toNat)), .int (iI (xI (i + 3).toNat)), .int (iI (xI (i + 4).toNat))]) (c_X7_rest l D Y C.2.2.2.2.2.2.2.2.1 q qt qd qn qs qk qh qp qr K (Ir 1) (V 1) (M 1) (1 : Int) (xI (i + 2).toNat) (xI (i + 3).toNat) (xI (i + 4).toNat) (R.2.2.2.2.2.2.2.2 1 (by decide)).1 (R.2.2.2.2.2.2.2.2 1 (by decide)).2.1 (R.2.2.2.2.2.2.2.2 1 (by decide)).2.2.2.1 (by decide) (hxs _) (hxs _) (hxs _) (R.2.2.2.2.2.2.2.2 1 (by decide)).2.2.2.2.2.2) 4 kw_616 kc_X7_rest (by decide +kernel) (pS_r1 _ _ _ _ _ _ _ _ _ _ _ _ _) 0 (ci := 5) rfl rfl rfl rfl ⟨Nat.le_of_ble_eq_true rfl, Nat.le_of_ble_eq_true rfl⟩ ⟨rfl, rfl⟩ ⟨Nat.le_of_ble_eq_true rfl, Nat.le_of_ble_eq_true rfl⟩ (Nat.le_of_ble_eq_true rfl) dL_law_696 rfl (fun r7 w7 h7 => ?_)
  have hz : ∃ z : Int, r7 = some (.int (iI z)) := by
    rcases h7 with ⟨_, h, _⟩ | ⟨_, _, _, _, _, h⟩ <;> exact ⟨_, h⟩
  obtain ⟨z9, rfl⟩ := hz
  refine g_aload_n C (n' := 700) 1 rfl dL_law_699 rfl rfl ?_
  refine g_aload_n C (n' := 701) 3 rfl dL_law_700 rfl rfl ?_
  refine g_iload_n C (n' := 702) 0 rfl dL_law_701 rfl rfl ?_
  refine g_iconst C (n' := 703) dL_law_702 rfl ?_
  refine g_iadd C (n' := 704) dL_law_703 rfl ?_
  refine g_ti C (n' := 705) C.2.2.2.2.2.2.2.2.2.2.2 (by omega) (by omega) (by omega) (v := .int (iI (1 : Int))) (congrArg (fun z => Value.int (iI z)) hpl) dL_law_704 rfl ?_
  refine g_aload_n C (n' := 706) 3 rfl dL_law_705 rfl rfl ?_
  refine g_iload_n C (n' := 707) 0 rfl dL_law_706 rfl rfl ?_
  refine g_iconst C (n' := 708) dL_law_707 rfl ?_
  refine g_iadd C (n' := 709) dL_law_708 rfl ?_
  refine g_ti C (n' := 710) C.2.2.2.2.2.2.2.2.2.2.2 (by omega) (by omega) (by omega) (v := .int (iI (xI (i + 2).toNat))) rfl dL_law_709 rfl ?_
  refine g_aload_n C (n' := 711) 3 rfl dL_law_710 rfl rfl ?_
  refine g_iload_n C (n' := 712) 0 rfl dL_law_711 rfl rfl ?_
  refine g_iconst C (n' := 713) dL_law_712 rfl ?_
  refine g_iadd C (n' := 714) dL_law_713 rfl ?_
  refine g_ti C (n' := 715) C.2.2.2.2.2.2.2.2.2.2.2 (by omega) (by omega) (by omega) (v := .int (iI (xI (i + 3).toNat))) rfl dL_law_714 rfl ?_
  refine g_aload_n C (n' := 716) 3 rfl dL_law_715 rfl rfl ?_
  refine g_iload_n C (n' := 717) 0 rfl dL_law_716 rfl rfl ?_
  refine g_iconst C (n' := 718) dL_law_717 rfl ?_
  refine g_iadd C (n' := 719) dL_law_718 rfl ?_
  refine g_ti C (n' := 720) C.2.2.2.2.2.2.2.2.2.2.2 (by omega) (by omega) (by omega) (v := .int (iI (xI (i + 4).toNat))) rfl dL_law_719 rfl ?_
  refine g_callV C (n' := 723) (As := [.int (iI (1 : Int)), .int (iI (xI (i + 2).toNat)), .int (iI (xI (i + 3).toNat)), .int (iI (xI (i + 4).toNat))]) (c_X8_rest l D Y C.2.2.2.2.2.2.2.2.1 qm I A F Dd (1 : Int) (xI (i + 2).toNat) (xI (i + 3).toNat) (xI (i + 4).toNat) R.2.2.2.2.2.2.2.1.1 R.2.2.2.2.2.2.2.1.2.1 R.2.2.2.2.2.2.2.1.2.2.2 (by unfold inR; decide) (hxs _) (hxs _) (hxs _)) 4 kw_1021 kc_X8_rest (by decide +kernel) pM 0 (ci := 6) rfl rfl rfl rfl ⟨Nat.le_of_ble_eq_true rfl, Nat.le_of_ble_eq_true rfl⟩ ⟨rfl, rfl⟩ ⟨Nat.le_of_ble_eq_true rfl, Nat.le_of_ble_eq_true rfl⟩ (Nat.le_of_ble_eq_true rfl) dL_law_720 rfl (fun r8 w8 h8 => ?_)
  obtain ⟨z, e7, rfl, K1, It1, L1, Jd1, Nd1, J1, N1, Js1, Ns1, Jk1, Nk1, Ih1, Ah1, Ip1, Ap1, Bp1, Ir1, V1, M1, I1, A1, F1, Dd1, R1, hp⟩ := pr_rest_1 R h7 h8
  have e8 := Value.int.inj (Option.some.inj e7)
  rw [e8]
  refine g_same C 860 dL_law_723 (by decide) ?_
  refine g_perm hp ?_
  exact k _ _ _ _ _ _ _ _ _ _ _ _ _ _ _ _ _ _ _ _ _ _ _ R1

theorem lw_rest_2 (C : g_Cx p s m args c cL_law 4 RL D (tysY Y) A9 (eLaw e9 b Ln xI)) (hi : 0 ≤ i ∧ i + 6 ≤ Ln ∧ Ln ≤ 3072) (hxs : ∀ k, inR (xI k)) (hpl : xI (i + 1).toNat = (2 : Int)) (R : (REL K It L Jd Nd J N Js Ns Jk Nk Ih Ah Ip Ap Bp Ir V M I A F Dd)) (k : ∀ (K It L : Nat → Int) (Jd : Nat → Int) (Nd : Nat → Nat → Int) (J : Nat → Int) (N : Nat → Nat → Int) (Js : Nat → Int) (Ns : Nat → Nat → Int) (Jk : Nat → Nat → Int) (Nk : Nat → Nat → Nat → Int) (Ih : Nat → Int) (Ah : Nat → Nat → Int) (Ip : Nat → Int) (Ap Bp : Nat → Nat → Int) (Ir : Nat → Nat → Int) (V : Nat → Nat → UInt64) (M : Nat → Nat → Int) (I : Nat → Int) (A : Nat → Nat → Int) (F : Nat → UInt32) (Dd : Nat → UInt64), (REL K It L Jd Nd J N Js Ns Jk Nk Ih Ah Ip Ap Bp Ir V M I A F Dd) → g_G p l e room_1 s m args below meth c 4 D A9 Q 77 1630 (wS q Y qt qd qn qs qk qh qp qr qm K It L Jd Nd J N Js Ns Jk Nk Ih Ah Ip Ap Bp Ir V M I A F Dd) [(3, .int (iI i)), (2, .ref (qm 99)), (1, .ref (q 99)), (0, .ref b)] 860 []) : g_G p l e room_1 s m args below meth c 4 D A9 Q 77 1630 (wS q Y qt qd qn qs qk qh qp qr qm K It L Jd Nd J N Js Ns Jk Nk Ih Ah Ip Ap Bp Ir V M I A F Dd) [(3, .int (iI i)), (2, .ref (qm 99)), (1, .ref (q 99)), (0, .ref b)] 675 [] := by
  refine g_aload_n C (n' := 676) 2 rfl dL_law_675 rfl rfl ?_
  refine g_aload_n C (n' := 677) 3 rfl dL_law_676 rfl rfl ?_
  refine g_iload_n C (n' := 678) 0 rfl dL_law_677 rfl rfl ?_
  refine g_iconst C (n' := 679) dL_law_678 rfl ?_
  refine g_iadd C (n' := 680) dL_law_679 rfl ?_
  refine g_ti C (n' := 681) C.2.2.2.2.2.2.2.2.2.2.2 (by omega) (by omega) (by omega) (v := .int (iI (2 : Int))) (congrArg (fun z => Value.int (iI z)) hpl) dL_law_680 rfl ?_
  refine g_aload_n C (n' := 682) 3 rfl dL_law_681 rfl rfl ?_
  refine g_iload_n C (n' := 683) 0 rfl dL_law_682 rfl rfl ?_
  refine g_iconst C (n' := 684) dL_law_683 rfl ?_
  refine g_iadd C (n' := 685) dL_law_684 rfl ?_
  refine g_ti C (n' := 686) C.2.2.2.2.2.2.2.2.2.2.2 (by omega) (by omega) (by omega) (v := .int (iI (xI (i + 2).toNat))) rfl dL_law_685 rfl ?_
  refine g_aload_n C (n' := 687) 3 rfl dL_law_686 rfl rfl ?_
  refine g_iload_n C (n' := 688) 0 rfl dL_law_687 rfl rfl ?_
  refine g_iconst C (n' := 689) dL_law_688 rfl ?_
  refine g_iadd C (n' := 690) dL_law_689 rfl ?_
  refine g_ti C (n' := 691) C.2.2.2.2.2.2.2.2.2.2.2 (by omega) (by omega) (by omega) (v := .int (iI (xI (i + 3).toNat))) rfl dL_law_690 rfl ?_
  refine g_aload_n C (n' := 692) 3 rfl dL_law_691 rfl rfl ?_
  refine g_iload_n C (n' := 693) 0 rfl dL_law_692 rfl rfl ?_
  refine g_iconst C (n' := 694) dL_law_693 rfl ?_
  refine g_iadd C (n' := 695) dL_law_694 rfl ?_
  refine g_ti C (n' := 696) C.2.2.2.2.2.2.2.2.2.2.2 (by omega) (by omega) (by omega) (v := .int (iI (xI (i + 4).toNat))) rfl dL_law_695 rfl ?_
  refine g_callV C (n' := 699) (As := [.int (iI (2 : Int)), .int (iI (xI (i + 2).toNat)), .int (iI (xI (i + 3).toNat)), .int (iI (xI (i + 4).toNat))]) (c_X7_rest l D Y C.2.2.2.2.2.2.2.2.1 q qt qd qn qs qk qh qp qr K (Ir 2) (V 2) (M 2) (2 : Int) (xI (i + 2).toNat) (xI (i + 3).toNat) (xI (i + 4).toNat) (R.2.2.2.2.2.2.2.2 2 (by decide)).1 (R.2.2.2.2.2.2.2.2 2 (by decide)).2.1 (R.2.2.2.2.2.2.2.2 2 (by decide)).2.2.2.1 (by decide) (hxs _) (hxs _) (hxs _) (R.2.2.2.2.2.2.2.2 2 (by decide)).2.2.2.2.2.2) 4 kw_616 kc_X7_rest (by decide +kernel) (pS_r2 _ _ _ _ _ _ _ _ _ _ _ _ _) 0 (ci := 5) rfl rfl rfl rfl ⟨Nat.le_of_ble_eq_true rfl, Nat.le_of_ble_eq_true rfl⟩ ⟨rfl, rfl⟩ ⟨Nat.le_of_ble_eq_true rfl, Nat.le_of_ble_eq_true rfl⟩ (Nat.le_of_ble_eq_true rfl) dL_law_696 rfl (fun r7 w7 h7 => ?_)
  have hz : ∃ z : Int, r7 = some (.int (iI z)) := by
    rcases h7 with ⟨_, h, _⟩ | ⟨_, _, _, _, _, h⟩ <;> exact ⟨_, h⟩
  obtain ⟨z9, rfl⟩ := hz
  refine g_aload_n C (n' := 700) 1 rfl dL_law_699 rfl rfl ?_
  refine g_aload_n C (n' := 701) 3 rfl dL_law_700 rfl rfl ?_
  refine g_iload_n C (n' := 702) 0 rfl dL_law_701 rfl rfl ?_
  refine g_iconst C (n' := 703) dL_law_702 rfl ?_
  refine g_iadd C (n' := 704) dL_law_703 rfl ?_
  refine g_ti C (n' := 705) C.2.2.2.2.2.2.2.2.2.2.2 (by omega) (by omega) (by omega) (v := .int (iI (2 : Int))) (congrArg (fun z => Value.int (iI z)) hpl) dL_law_704 rfl ?_
  refine g_aload_n C (n' := 706) 3 rfl dL_law_705 rfl rfl ?_
  refine g_iload_n C (n' := 707) 0 rfl dL_law_706 rfl rfl ?_
  refine g_iconst C (n' := 708) dL_law_707 rfl ?_
  refine g_iadd C (n' := 709) dL_law_708 rfl ?_
  refine g_ti C (n' := 710) C.2.2.2.2.2.2.2.2.2.2.2 (by omega) (by omega) (by omega) (v := .int (iI (xI (i + 2).toNat))) rfl dL_law_709 rfl ?_
  refine g_aload_n C (n' := 711) 3 rfl dL_law_710 rfl rfl ?_
  refine g_iload_n C (n' := 712) 0 rfl dL_law_711 rfl rfl ?_
  refine g_iconst C (n' := 713) dL_law_712 rfl ?_
  refine g_iadd C (n' := 714) dL_law_713 rfl ?_
  refine g_ti C (n' := 715) C.2.2.2.2.2.2.2.2.2.2.2 (by omega) (by omega) (by omega) (v := .int (iI (xI (i + 3).toNat))) rfl dL_law_714 rfl ?_
  refine g_aload_n C (n' := 716) 3 rfl dL_law_715 rfl rfl ?_
  refine g_iload_n C (n' := 717) 0 rfl dL_law_716 rfl rfl ?_
  refine g_iconst C (n' := 718) dL_law_717 rfl ?_
  refine g_iadd C (n' := 719) dL_law_718 rfl ?_
  refine g_ti C (n' := 720) C.2.2.2.2.2.2.2.2.2.2.2 (by omega) (by omega) (by omega) (v := .int (iI (xI (i + 4).toNat))) rfl dL_law_719 rfl ?_
  refine g_callV C (n' := 723) (As := [.int (iI (2 : Int)), .int (iI (xI (i + 2).toNat)), .int (iI (xI (i + 3).toNat)), .int (iI (xI (i + 4).toNat))]) (c_X8_rest l D Y C.2.2.2.2.2.2.2.2.1 qm I A F Dd (2 : Int) (xI (i + 2).toNat) (xI (i + 3).toNat) (xI (i + 4).toNat) R.2.2.2.2.2.2.2.1.1 R.2.2.2.2.2.2.2.1.2.1 R.2.2.2.2.2.2.2.1.2.2.2 (by unfold inR; decide) (hxs _) (hxs _) (hxs _)) 4 kw_1021 kc_X8_rest (by decide +kernel) pM 0 (ci := 6) rfl rfl rfl rfl ⟨Nat.le_of_ble_eq_true rfl, Nat.le_of_ble_eq_true rfl⟩ ⟨rfl, rfl⟩ ⟨Nat.le_of_ble_eq_true rfl, Nat.le_of_ble_eq_true rfl⟩ (Nat.le_of_ble_eq_true rfl) dL_law_720 rfl (fun r8 w8 h8 => ?_)
  obtain ⟨z, e7, rfl, K1, It1, L1, Jd1, Nd1, J1, N1, Js1, Ns1, Jk1, Nk1, Ih1, Ah1, Ip1, Ap1, Bp1, Ir1, V1, M1, I1, A1, F1, Dd1, R1, hp⟩ := pr_rest_2 R h7 h8
  have e8 := Value.int.inj (Option.some.inj e7)
  rw [e8]
  refine g_same C 860 dL_law_723 (by decide) ?_
  refine g_perm hp ?_
  exact k _ _ _ _ _ _ _ _ _ _ _ _ _ _ _ _ _ _ _ _ _ _ _ R1

theorem lw_rest_o (C : g_Cx p s m args c cL_law 4 RL D (tysY Y) A9 (eLaw e9 b Ln xI)) (hi : 0 ≤ i ∧ i + 6 ≤ Ln ∧ Ln ≤ 3072) (hxs : ∀ k, inR (xI k)) (hpl : ¬ (0 ≤ xI (i + 1).toNat ∧ xI (i + 1).toNat ≤ 2)) (R : (REL K It L Jd Nd J N Js Ns Jk Nk Ih Ah Ip Ap Bp Ir V M I A F Dd)) (k : ∀ (K It L : Nat → Int) (Jd : Nat → Int) (Nd : Nat → Nat → Int) (J : Nat → Int) (N : Nat → Nat → Int) (Js : Nat → Int) (Ns : Nat → Nat → Int) (Jk : Nat → Nat → Int) (Nk : Nat → Nat → Nat → Int) (Ih : Nat → Int) (Ah : Nat → Nat → Int) (Ip : Nat → Int) (Ap Bp : Nat → Nat → Int) (Ir : Nat → Nat → Int) (V : Nat → Nat → UInt64) (M : Nat → Nat → Int) (I : Nat → Int) (A : Nat → Nat → Int) (F : Nat → UInt32) (Dd : Nat → UInt64), (REL K It L Jd Nd J N Js Ns Jk Nk Ih Ah Ip Ap Bp Ir V M I A F Dd) → g_G p l e room_1 s m args below meth c 4 D A9 Q 77 1630 (wS q Y qt qd qn qs qk qh qp qr qm K It L Jd Nd J N Js Ns Jk Nk Ih Ah Ip Ap Bp Ir V M I A F Dd) [(3, .int (iI i)), (2, .ref (qm 99)), (1, .ref (q 99)), (0, .ref b)] 860 []) : g_G p l e room_1 s m args below meth c 4 D A9 Q 77 1630 (wS q Y qt qd qn qs qk qh qp qr qm K It L Jd Nd J N Js Ns Jk Nk Ih Ah Ip Ap Bp Ir V M I A F Dd) [(3, .int (iI i)), (2, .ref (qm 99)), (1, .ref (q 99)), (0, .ref b)] 675 [] := by
  refine g_aload_n C (n' := 676) 2 rfl dL_law_675 rfl rfl ?_
  refine g_aload_n C (n' := 677) 3 rfl dL_law_676 rfl rfl ?_
  refine g_iload_n C (n' := 678) 0 rfl dL_law_677 rfl rfl ?_
  refine g_iconst C (n' := 679) dL_law_678 rfl ?_
  refine g_iadd C (n' := 680) dL_law_679 rfl ?_
  refine g_ti C (n' := 681) C.2.2.2.2.2.2.2.2.2.2.2 (by omega) (by omega) (by omega) (v := .int (iI (xI (i + 1).toNat))) rfl dL_law_680 rfl ?_
  refine g_aload_n C (n' := 682) 3 rfl dL_law_681 rfl rfl ?_
  refine g_iload_n C (n' := 683) 0 rfl dL_law_682 rfl rfl ?_
  refine g_iconst C (n' := 684) dL_law_683 rfl ?_
  refine g_iadd C (n' := 685) dL_law_684 rfl ?_
  refine g_ti C (n' := 686) C.2.2.2.2.2.2.2.2.2.2.2 (by omega) (by omega) (by omega) (v := .int (iI (xI (i + 2).toNat))) rfl dL_law_685 rfl ?_
  refine g_aload_n C (n' := 687) 3 rfl dL_law_686 rfl rfl ?_
  refine g_iload_n C (n' := 688) 0 rfl dL_law_687 rfl rfl ?_
  refine g_iconst C (n' := 689) dL_law_688 rfl ?_
  refine g_iadd C (n' := 690) dL_law_689 rfl ?_
  refine g_ti C (n' := 691) C.2.2.2.2.2.2.2.2.2.2.2 (by omega) (by omega) (by omega) (v := .int (iI (xI (i + 3).toNat))) rfl dL_law_690 rfl ?_
  refine g_aload_n C (n' := 692) 3 rfl dL_law_691 rfl rfl ?_
  refine g_iload_n C (n' := 693) 0 rfl dL_law_692 rfl rfl ?_
  refine g_iconst C (n' := 694) dL_law_693 rfl ?_
  refine g_iadd C (n' := 695) dL_law_694 rfl ?_
  refine g_ti C (n' := 696) C.2.2.2.2.2.2.2.2.2.2.2 (by omega) (by omega) (by omega) (v := .int (iI (xI (i + 4).toNat))) rfl dL_law_695 rfl ?_
  refine g_callV C (n' := 699) (As := [.int (iI (xI (i + 1).toNat)), .int (iI (xI (i + 2).toNat)), .int (iI (xI (i + 3).toNat)), .int (iI (xI (i + 4).toNat))]) (c_X7_rest_o l D Y C.2.2.2.2.2.2.2.2.1 q qt qd qn qs qk qh qp qr K (xI (i + 1).toNat) (xI (i + 2).toNat) (xI (i + 3).toNat) (xI (i + 4).toNat) hpl (hxs _)) 4 kw_616 kc_X7_rest (by decide +kernel) (pS_T _ _ _ _ _ _ _ _ _ _ _ _ _) 0 (ci := 5) rfl rfl rfl rfl ⟨Nat.le_of_ble_eq_true rfl, Nat.le_of_ble_eq_true rfl⟩ ⟨rfl, rfl⟩ ⟨Nat.le_of_ble_eq_true rfl, Nat.le_of_ble_eq_true rfl⟩ (Nat.le_of_ble_eq_true rfl) dL_law_696 rfl (fun r7 w7 h7 => ?_)
  have hz : ∃ z : Int, r7 = some (.int (iI z)) := by
    exact ⟨_, h7.1⟩
  obtain ⟨z9, rfl⟩ := hz
  refine g_aload_n C (n' := 700) 1 rfl dL_law_699 rfl rfl ?_
  refine g_aload_n C (n' := 701) 3 rfl dL_law_700 rfl rfl ?_
  refine g_iload_n C (n' := 702) 0 rfl dL_law_701 rfl rfl ?_
  refine g_iconst C (n' := 703) dL_law_702 rfl ?_
  refine g_iadd C (n' := 704) dL_law_703 rfl ?_
  refine g_ti C (n' := 705) C.2.2.2.2.2.2.2.2.2.2.2 (by omega) (by omega) (by omega) (v := .int (iI (xI (i + 1).toNat))) rfl dL_law_704 rfl ?_
  refine g_aload_n C (n' := 706) 3 rfl dL_law_705 rfl rfl ?_
  refine g_iload_n C (n' := 707) 0 rfl dL_law_706 rfl rfl ?_
  refine g_iconst C (n' := 708) dL_law_707 rfl ?_
  refine g_iadd C (n' := 709) dL_law_708 rfl ?_
  refine g_ti C (n' := 710) C.2.2.2.2.2.2.2.2.2.2.2 (by omega) (by omega) (by omega) (v := .int (iI (xI (i + 2).toNat))) rfl dL_law_709 rfl ?_
  refine g_aload_n C (n' := 711) 3 rfl dL_law_710 rfl rfl ?_
  refine g_iload_n C (n' := 712) 0 rfl dL_law_711 rfl rfl ?_
  refine g_iconst C (n' := 713) dL_law_712 rfl ?_
  refine g_iadd C (n' := 714) dL_law_713 rfl ?_
  refine g_ti C (n' := 715) C.2.2.2.2.2.2.2.2.2.2.2 (by omega) (by omega) (by omega) (v := .int (iI (xI (i + 3).toNat))) rfl dL_law_714 rfl ?_
  refine g_aload_n C (n' := 716) 3 rfl dL_law_715 rfl rfl ?_
  refine g_iload_n C (n' := 717) 0 rfl dL_law_716 rfl rfl ?_
  refine g_iconst C (n' := 718) dL_law_717 rfl ?_
  refine g_iadd C (n' := 719) dL_law_718 rfl ?_
  refine g_ti C (n' := 720) C.2.2.2.2.2.2.2.2.2.2.2 (by omega) (by omega) (by omega) (v := .int (iI (xI (i + 4).toNat))) rfl dL_law_719 rfl ?_
  refine g_callV C (n' := 723) (As := [.int (iI (xI (i + 1).toNat)), .int (iI (xI (i + 2).toNat)), .int (iI (xI (i + 3).toNat)), .int (iI (xI (i + 4).toNat))]) (c_X8_rest l D Y C.2.2.2.2.2.2.2.2.1 qm I A F Dd (xI (i + 1).toNat) (xI (i + 2).toNat) (xI (i + 3).toNat) (xI (i + 4).toNat) R.2.2.2.2.2.2.2.1.1 R.2.2.2.2.2.2.2.1.2.1 R.2.2.2.2.2.2.2.1.2.2.2 (hxs _) (hxs _) (hxs _) (hxs _)) 4 kw_1021 kc_X8_rest (by decide +kernel) pM 0 (ci := 6) rfl rfl rfl rfl ⟨Nat.le_of_ble_eq_true rfl, Nat.le_of_ble_eq_true rfl⟩ ⟨rfl, rfl⟩ ⟨Nat.le_of_ble_eq_true rfl, Nat.le_of_ble_eq_true rfl⟩ (Nat.le_of_ble_eq_true rfl) dL_law_720 rfl (fun r8 w8 h8 => ?_)
  obtain ⟨z, e7, rfl, K1, It1, L1, Jd1, Nd1, J1, N1, Js1, Ns1, Jk1, Nk1, Ih1, Ah1, Ip1, Ap1, Bp1, Ir1, V1, M1, I1, A1, F1, Dd1, R1, hp⟩ := pr_rest_o R hpl h7 h8
  have e8 := Value.int.inj (Option.some.inj e7)
  rw [e8]
  refine g_same C 860 dL_law_723 (by decide) ?_
  refine g_perm hp ?_
  exact k _ _ _ _ _ _ _ _ _ _ _ _ _ _ _ _ _ _ _ _ _ _ _ R1

theorem lw_compare_0 (C : g_Cx p s m args c cL_law 4 RL D (tysY Y) A9 (eLaw e9 b Ln xI)) (hi : 0 ≤ i ∧ i + 6 ≤ Ln ∧ Ln ≤ 3072) (hxs : ∀ k, inR (xI k)) (hpl : xI (i + 1).toNat = (0 : Int)) (R : (REL K It L Jd Nd J N Js Ns Jk Nk Ih Ah Ip Ap Bp Ir V M I A F Dd)) (k : ∀ (K It L : Nat → Int) (Jd : Nat → Int) (Nd : Nat → Nat → Int) (J : Nat → Int) (N : Nat → Nat → Int) (Js : Nat → Int) (Ns : Nat → Nat → Int) (Jk : Nat → Nat → Int) (Nk : Nat → Nat → Nat → Int) (Ih : Nat → Int) (Ah : Nat → Nat → Int) (Ip : Nat → Int) (Ap Bp : Nat → Nat → Int) (Ir : Nat → Nat → Int) (V : Nat → Nat → UInt64) (M : Nat → Nat → Int) (I : Nat → Int) (A : Nat → Nat → Int) (F : Nat → UInt32) (Dd : Nat → UInt64), (REL K It L Jd Nd J N Js Ns Jk Nk Ih Ah Ip Ap Bp Ir V M I A F Dd) → g_G p l e room_1 s m args below meth c 4 D A9 Q 77 1630 (wS q Y qt qd qn qs qk qh qp qr qm K It L Jd Nd J N Js Ns Jk Nk Ih Ah Ip Ap Bp Ir V M I A F Dd) [(3, .int (iI i)), (2, .ref (qm 99)), (1, .ref (q 99)), (0, .ref b)] 860 []) : g_G p l e room_1 s m args below meth c 4 D A9 Q 77 1630 (wS q Y qt qd qn qs qk qh qp qr qm K It L Jd Nd J N Js Ns Jk Nk Ih Ah Ip Ap Bp Ir V M I A F Dd) [(3, .int (iI i)), (2, .ref (qm 99)), (1, .ref (q 99)), (0, .ref b)] 728 [] := by
  refine g_aload_n C (n' := 729) 2 rfl dL_law_728 rfl rfl ?_
  refine g_aload_n C (n' := 730) 3 rfl dL_law_729 rfl rfl ?_
  refine g_iload_n C (n' := 731) 0 rfl dL_law_730 rfl rfl ?_
  refine g_iconst C (n' := 732) dL_law_731 rfl ?_
  refine g_iadd C (n' := 733) dL_law_732 rfl ?_
  refine g_ti C (n' := 734) C.2.2.2.2.2.2.2.2.2.2.2 (by omega) (by omega) (by omega) (v := .int (iI (0 : Int))) (congrArg (fun z => Value.int (iI z)) hpl) dL_law_733 rfl ?_
  refine g_aload_n C (n' := 735) 3 rfl dL_law_734 rfl rfl ?_
  refine g_iload_n C (n' := 736) 0 rfl dL_law_735 rfl rfl ?_
  refine g_iconst C (n' := 737) dL_law_736 rfl ?_
  refine g_iadd C (n' := 738) dL_law_737 rfl ?_
  refine g_ti C (n' := 739) C.2.2.2.2.2.2.2.2.2.2.2 (by omega) (by omega) (by omega) (v := .int (iI (xI (i + 2).toNat))) rfl dL_law_738 rfl ?_
  refine g_aload_n C (n' := 740) 3 rfl dL_law_739 rfl rfl ?_
  refine g_iload_n C (n' := 741) 0 rfl dL_law_740 rfl rfl ?_
  refine g_iconst C (n' := 742) dL_law_741 rfl ?_
  refine g_iadd C (n' := 743) dL_law_742 rfl ?_
  refine g_ti C (n' := 744) C.2.2.2.2.2.2.2.2.2.2.2 (by omega) (by omega) (by omega) (v := .int (iI (xI (i + 3).toNat))) rfl dL_law_743 rfl ?_
  refine g_aload_n C (n' := 745) 3 rfl dL_law_744 rfl rfl ?_
  refine g_iload_n C (n' := 746) 0 rfl dL_law_745 rfl rfl ?_
  refine g_iconst C (n' := 747) dL_law_746 rfl ?_
  refine g_iadd C (n' := 748) dL_law_747 rfl ?_
  refine g_ti C (n' := 749) C.2.2.2.2.2.2.2.2.2.2.2 (by omega) (by omega) (by omega) (v := .int (iI (xI (i + 4).toNat))) rfl dL_law_748 rfl ?_
  refine g_callV C (n' := 752) (As := [.int (iI (0 : Int)), .int (iI (xI (i + 2).toNat)), .int (iI (xI (i + 3).toNat)), .int (iI (xI (i + 4).toNat))]) (c_X7_compare l D Y C.2.2.2.2.2.2.2.2.1 q qt qd qn qs qk qh qp qr K (Ir 0) (V 0) (M 0) (0 : Int) (xI (i + 2).toNat) (xI (i + 3).toNat) (xI (i + 4).toNat) (R.2.2.2.2.2.2.2.2 0 (by decide)).1 (R.2.2.2.2.2.2.2.2 0 (by decide)).2.1 (R.2.2.2.2.2.2.2.2 0 (by decide)).2.2.2.1 (by decide) (hxs _) (hxs _) (hxs _)) 4 kw_631 kc_X7_compare (by decide +kernel) (pS_r0 _ _ _ _ _ _ _ _ _ _ _ _ _) 0 (ci := 5) rfl rfl rfl rfl ⟨Nat.le_of_ble_eq_true rfl, Nat.le_of_ble_eq_true rfl⟩ ⟨rfl, rfl⟩ ⟨Nat.le_of_ble_eq_true rfl, Nat.le_of_ble_eq_true rfl⟩ (Nat.le_of_ble_eq_true rfl) dL_law_749 rfl (fun r7 w7 h7 => ?_)
  have hz : ∃ z : Int, r7 = some (.int (iI z)) := by
    exact ⟨_, h7.1⟩
  obtain ⟨z9, rfl⟩ := hz
  refine g_aload_n C (n' := 753) 1 rfl dL_law_752 rfl rfl ?_
  refine g_aload_n C (n' := 754) 3 rfl dL_law_753 rfl rfl ?_
  refine g_iload_n C (n' := 755) 0 rfl dL_law_754 rfl rfl ?_
  refine g_iconst C (n' := 756) dL_law_755 rfl ?_
  refine g_iadd C (n' := 757) dL_law_756 rfl ?_
  refine g_ti C (n' := 758) C.2.2.2.2.2.2.2.2.2.2.2 (by omega) (by omega) (by omega) (v := .int (iI (0 : Int))) (congrArg (fun z => Value.int (iI z)) hpl) dL_law_757 rfl ?_
  refine g_aload_n C (n' := 759) 3 rfl dL_law_758 rfl rfl ?_
  refine g_iload_n C (n' := 760) 0 rfl dL_law_759 rfl rfl ?_
  refine g_iconst C (n' := 761) dL_law_760 rfl ?_
  refine g_iadd C (n' := 762) dL_law_761 rfl ?_
  refine g_ti C (n' := 763) C.2.2.2.2.2.2.2.2.2.2.2 (by omega) (by omega) (by omega) (v := .int (iI (xI (i + 2).toNat))) rfl dL_law_762 rfl ?_
  refine g_aload_n C (n' := 764) 3 rfl dL_law_763 rfl rfl ?_
  refine g_iload_n C (n' := 765) 0 rfl dL_law_764 rfl rfl ?_
  refine g_iconst C (n' := 766) dL_law_765 rfl ?_
  refine g_iadd C (n' := 767) dL_law_766 rfl ?_
  refine g_ti C (n' := 768) C.2.2.2.2.2.2.2.2.2.2.2 (by omega) (by omega) (by omega) (v := .int (iI (xI (i + 3).toNat))) rfl dL_law_767 rfl ?_
  refine g_aload_n C (n' := 769) 3 rfl dL_law_768 rfl rfl ?_
  refine g_iload_n C (n' := 770) 0 rfl dL_law_769 rfl rfl ?_
  refine g_iconst C (n' := 771) dL_law_770 rfl ?_
  refine g_iadd C (n' := 772) dL_law_771 rfl ?_
  refine g_ti C (n' := 773) C.2.2.2.2.2.2.2.2.2.2.2 (by omega) (by omega) (by omega) (v := .int (iI (xI (i + 4).toNat))) rfl dL_law_772 rfl ?_
  refine g_callV C (n' := 776) (As := [.int (iI (0 : Int)), .int (iI (xI (i + 2).toNat)), .int (iI (xI (i + 3).toNat)), .int (iI (xI (i + 4).toNat))]) (c_X8_compare l D Y C.2.2.2.2.2.2.2.2.1 qm I A F Dd (0 : Int) (xI (i + 2).toNat) (xI (i + 3).toNat) (xI (i + 4).toNat) R.2.2.2.2.2.2.2.1.1 R.2.2.2.2.2.2.2.1.2.1 R.2.2.2.2.2.2.2.1.2.2.2 (by unfold inR; decide) (hxs _) (hxs _) (hxs _)) 4 kw_1025 kc_X8_compare (by decide +kernel) pM 0 (ci := 6) rfl rfl rfl rfl ⟨Nat.le_of_ble_eq_true rfl, Nat.le_of_ble_eq_true rfl⟩ ⟨rfl, rfl⟩ ⟨Nat.le_of_ble_eq_true rfl, Nat.le_of_ble_eq_true rfl⟩ (Nat.le_of_ble_eq_true rfl) dL_law_773 rfl (fun r8 w8 h8 => ?_)
  obtain ⟨z, e7, rfl, K1, It1, L1, Jd1, Nd1, J1, N1, Js1, Ns1, Jk1, Nk1, Ih1, Ah1, Ip1, Ap1, Bp1, Ir1, V1, M1, I1, A1, F1, Dd1, R1, hp⟩ := pr_compare_0 R h7 h8
  have e8 := Value.int.inj (Option.some.inj e7)
  rw [e8]
  refine g_same C 860 dL_law_776 (by decide) ?_
  refine g_perm hp ?_
  exact k _ _ _ _ _ _ _ _ _ _ _ _ _ _ _ _ _ _ _ _ _ _ _ R1

theorem lw_compare_1 (C : g_Cx p s m args c cL_law 4 RL D (tysY Y) A9 (eLaw e9 b Ln xI)) (hi : 0 ≤ i ∧ i + 6 ≤ Ln ∧ Ln ≤ 3072) (hxs : ∀ k, inR (xI k)) (hpl : xI (i + 1).toNat = (1 : Int)) (R : (REL K It L Jd Nd J N Js Ns Jk Nk Ih Ah Ip Ap Bp Ir V M I A F Dd)) (k : ∀ (K It L : Nat → Int) (Jd : Nat → Int) (Nd : Nat → Nat → Int) (J : Nat → Int) (N : Nat → Nat → Int) (Js : Nat → Int) (Ns : Nat → Nat → Int) (Jk : Nat → Nat → Int) (Nk : Nat → Nat → Nat → Int) (Ih : Nat → Int) (Ah : Nat → Nat → Int) (Ip : Nat → Int) (Ap Bp : Nat → Nat → Int) (Ir : Nat → Nat → Int) (V : Nat → Nat → UInt64) (M : Nat → Nat → Int) (I : Nat → Int) (A : Nat → Nat → Int) (F : Nat → UInt32) (Dd : Nat → UInt64), (REL K It L Jd Nd J N Js Ns Jk Nk Ih Ah Ip Ap Bp Ir V M I A F Dd) → g_G p l e room_1 s m args below meth c 4 D A9 Q 77 1630 (wS q Y qt qd qn qs qk qh qp qr qm K It L Jd Nd J N Js Ns Jk Nk Ih Ah Ip Ap Bp Ir V M I A F Dd) [(3, .int (iI i)), (2, .ref (qm 99)), (1, .ref (q 99)), (0, .ref b)] 860 []) : g_G p l e room_1 s m args below meth c 4 D A9 Q 77 1630 (wS q Y qt qd qn qs qk qh qp qr qm K It L Jd Nd J N Js Ns Jk Nk Ih Ah Ip Ap Bp Ir V M I A F Dd) [(3, .int (iI i)), (2, .ref (qm 99)), (1, .ref (q 99)), (0, .ref b)] 728 [] := by
  refine g_aload_n C (n' := 729) 2 rfl dL_law_728 rfl rfl ?_
  refine g_aload_n C (n' := 730) 3 rfl dL_law_729 rfl rfl ?_
  refine g_iload_n C (n' := 731) 0 rfl dL_law_730 rfl rfl ?_
  refine g_iconst C (n' := 732) dL_law_731 rfl ?_
  refine g_iadd C (n' := 733) dL_law_732 rfl ?_
  refine g_ti C (n' := 734) C.2.2.2.2.2.2.2.2.2.2.2 (by omega) (by omega) (by omega) (v := .int (iI (1 : Int))) (congrArg (fun z => Value.int (iI z)) hpl) dL_law_733 rfl ?_
  refine g_aload_n C (n' := 735) 3 rfl dL_law_734 rfl rfl ?_
  refine g_iload_n C (n' := 736) 0 rfl dL_law_735 rfl rfl ?_
  refine g_iconst C (n' := 737) dL_law_736 rfl ?_
  refine g_iadd C (n' := 738) dL_law_737 rfl ?_
  refine g_ti C (n' := 739) C.2.2.2.2.2.2.2.2.2.2.2 (by omega) (by omega) (by omega) (v := .int (iI (xI (i + 2).toNat))) rfl dL_law_738 rfl ?_
  refine g_aload_n C (n' := 740) 3 rfl dL_law_739 rfl rfl ?_
  refine g_iload_n C (n' := 741) 0 rfl dL_law_740 rfl rfl ?_
  refine g_iconst C (n' := 742) dL_law_741 rfl ?_
  refine g_iadd C (n' := 743) dL_law_742 rfl ?_
  refine g_ti C (n' := 744) C.2.2.2.2.2.2.2.2.2.2.2 (by omega) (by omega) (by omega) (v := .int (iI (xI (i + 3).toNat))) rfl dL_law_743 rfl ?_
  refine g_aload_n C (n' := 745) 3 rfl dL_law_744 rfl rfl ?_
  refine g_iload_n C (n' := 746) 0 rfl dL_law_745 rfl rfl ?_
  refine g_iconst C (n' := 747) dL_law_746 rfl ?_
  refine g_iadd C (n' := 748) dL_law_747 rfl ?_
  refine g_ti C (n' := 749) C.2.2.2.2.2.2.2.2.2.2.2 (by omega) (by omega) (by omega) (v := .int (iI (xI (i + 4).toNat))) rfl dL_law_748 rfl ?_
  refine g_callV C (n' := 752) (As := [.int (iI (1 : Int)), .int (iI (xI (i + 2).toNat)), .int (iI (xI (i + 3).toNat)), .int (iI (xI (i + 4).toNat))]) (c_X7_compare l D Y C.2.2.2.2.2.2.2.2.1 q qt qd qn qs qk qh qp qr K (Ir 1) (V 1) (M 1) (1 : Int) (xI (i + 2).toNat) (xI (i + 3).toNat) (xI (i + 4).toNat) (R.2.2.2.2.2.2.2.2 1 (by decide)).1 (R.2.2.2.2.2.2.2.2 1 (by decide)).2.1 (R.2.2.2.2.2.2.2.2 1 (by decide)).2.2.2.1 (by decide) (hxs _) (hxs _) (hxs _)) 4 kw_631 kc_X7_compare (by decide +kernel) (pS_r1 _ _ _ _ _ _ _ _ _ _ _ _ _) 0 (ci := 5) rfl rfl rfl rfl ⟨Nat.le_of_ble_eq_true rfl, Nat.le_of_ble_eq_true rfl⟩ ⟨rfl, rfl⟩ ⟨Nat.le_of_ble_eq_true rfl, Nat.le_of_ble_eq_true rfl⟩ (Nat.le_of_ble_eq_true rfl) dL_law_749 rfl (fun r7 w7 h7 => ?_)
  have hz : ∃ z : Int, r7 = some (.int (iI z)) := by
    exact ⟨_, h7.1⟩
  obtain ⟨z9, rfl⟩ := hz
  refine g_aload_n C (n' := 753) 1 rfl dL_law_752 rfl rfl ?_
  refine g_aload_n C (n' := 754) 3 rfl dL_law_753 rfl rfl ?_
  refine g_iload_n C (n' := 755) 0 rfl dL_law_754 rfl rfl ?_
  refine g_iconst C (n' := 756) dL_law_755 rfl ?_
  refine g_iadd C (n' := 757) dL_law_756 rfl ?_
  refine g_ti C (n' := 758) C.2.2.2.2.2.2.2.2.2.2.2 (by omega) (by omega) (by omega) (v := .int (iI (1 : Int))) (congrArg (fun z => Value.int (iI z)) hpl) dL_law_757 rfl ?_
  refine g_aload_n C (n' := 759) 3 rfl dL_law_758 rfl rfl ?_
  refine g_iload_n C (n' := 760) 0 rfl dL_law_759 rfl rfl ?_
  refine g_iconst C (n' := 761) dL_law_760 rfl ?_
  refine g_iadd C (n' := 762) dL_law_761 rfl ?_
  refine g_ti C (n' := 763) C.2.2.2.2.2.2.2.2.2.2.2 (by omega) (by omega) (by omega) (v := .int (iI (xI (i + 2).toNat))) rfl dL_law_762 rfl ?_
  refine g_aload_n C (n' := 764) 3 rfl dL_law_763 rfl rfl ?_
  refine g_iload_n C (n' := 765) 0 rfl dL_law_764 rfl rfl ?_
  refine g_iconst C (n' := 766) dL_law_765 rfl ?_
  refine g_iadd C (n' := 767) dL_law_766 rfl ?_
  refine g_ti C (n' := 768) C.2.2.2.2.2.2.2.2.2.2.2 (by omega) (by omega) (by omega) (v := .int (iI (xI (i + 3).toNat))) rfl dL_law_767 rfl ?_
  refine g_aload_n C (n' := 769) 3 rfl dL_law_768 rfl rfl ?_
  refine g_iload_n C (n' := 770) 0 rfl dL_law_769 rfl rfl ?_
  refine g_iconst C (n' := 771) dL_law_770 rfl ?_
  refine g_iadd C (n' := 772) dL_law_771 rfl ?_
  refine g_ti C (n' := 773) C.2.2.2.2.2.2.2.2.2.2.2 (by omega) (by omega) (by omega) (v := .int (iI (xI (i + 4).toNat))) rfl dL_law_772 rfl ?_
  refine g_callV C (n' := 776) (As := [.int (iI (1 : Int)), .int (iI (xI (i + 2).toNat)), .int (iI (xI (i + 3).toNat)), .int (iI (xI (i + 4).toNat))]) (c_X8_compare l D Y C.2.2.2.2.2.2.2.2.1 qm I A F Dd (1 : Int) (xI (i + 2).toNat) (xI (i + 3).toNat) (xI (i + 4).toNat) R.2.2.2.2.2.2.2.1.1 R.2.2.2.2.2.2.2.1.2.1 R.2.2.2.2.2.2.2.1.2.2.2 (by unfold inR; decide) (hxs _) (hxs _) (hxs _)) 4 kw_1025 kc_X8_compare (by decide +kernel) pM 0 (ci := 6) rfl rfl rfl rfl ⟨Nat.le_of_ble_eq_true rfl, Nat.le_of_ble_eq_true rfl⟩ ⟨rfl, rfl⟩ ⟨Nat.le_of_ble_eq_true rfl, Nat.le_of_ble_eq_true rfl⟩ (Nat.le_of_ble_eq_true rfl) dL_law_773 rfl (fun r8 w8 h8 => ?_)
  obtain ⟨z, e7, rfl, K1, It1, L1, Jd1, Nd1, J1, N1, Js1, Ns1, Jk1, Nk1, Ih1, Ah1, Ip1, Ap1, Bp1, Ir1, V1, M1, I1, A1, F1, Dd1, R1, hp⟩ := pr_compare_1 R h7 h8
  have e8 := Value.int.inj (Option.some.inj e7)
  rw [e8]
  refine g_same C 860 dL_law_776 (by decide) ?_
  refine g_perm hp ?_
  exact k _ _ _ _ _ _ _ _ _ _ _ _ _ _ _ _ _ _ _ _ _ _ _ R1

theorem lw_compare_2 (C : g_Cx p s m args c cL_law 4 RL D (tysY Y) A9 (eLaw e9 b Ln xI)) (hi : 0 ≤ i ∧ i + 6 ≤ Ln ∧ Ln ≤ 3072) (hxs : ∀ k, inR (xI k)) (hpl : xI (i + 1).toNat = (2 : Int)) (R : (REL K It L Jd Nd J N Js Ns Jk Nk Ih Ah Ip Ap Bp Ir V M I A F Dd)) (k : ∀ (K It L : Nat → Int) (Jd : Nat → Int) (Nd : Nat → Nat → Int) (J : Nat → Int) (N : Nat → Nat → Int) (Js : Nat → Int) (Ns : Nat → Nat → Int) (Jk : Nat → Nat → Int) (Nk : Nat → Nat → Nat → Int) (Ih : Nat → Int) (Ah : Nat → Nat → Int) (Ip : Nat → Int) (Ap Bp : Nat → Nat → Int) (Ir : Nat → Nat → Int) (V : Nat → Nat → UInt64) (M : Nat → Nat → Int) (I : Nat → Int) (A : Nat → Nat → Int) (F : Nat → UInt32) (Dd : Nat → UInt64), (REL K It L Jd Nd J N Js Ns Jk Nk Ih Ah Ip Ap Bp Ir V M I A F Dd) → g_G p l e room_1 s m args below meth c 4 D A9 Q 77 1630 (wS q Y qt qd qn qs qk qh qp qr qm K It L Jd Nd J N Js Ns Jk Nk Ih Ah Ip Ap Bp Ir V M I A F Dd) [(3, .int (iI i)), (2, .ref (qm 99)), (1, .ref (q 99)), (0, .ref b)] 860 []) : g_G p l e room_1 s m args below meth c 4 D A9 Q 77 1630 (wS q Y qt qd qn qs qk qh qp qr qm K It L Jd Nd J N Js Ns Jk Nk Ih Ah Ip Ap Bp Ir V M I A F Dd) [(3, .int (iI i)), (2, .ref (qm 99)), (1, .ref (q 99)), (0, .ref b)] 728 [] := by
  refine g_aload_n C (n' := 729) 2 rfl dL_law_728 rfl rfl ?_
  refine g_aload_n C (n' := 730) 3 rfl dL_law_729 rfl rfl ?_
  refine g_iload_n C (n' := 731) 0 rfl dL_law_730 rfl rfl ?_
  refine g_iconst C (n' := 732) dL_law_731 rfl ?_
  refine g_iadd C (n' := 733) dL_law_732 rfl ?_
  refine g_ti C (n' := 734) C.2.2.2.2.2.2.2.2.2.2.2 (by omega) (by omega) (by omega) (v := .int (iI (2 : Int))) (congrArg (fun z => Value.int (iI z)) hpl) dL_law_733 rfl ?_
  refine g_aload_n C (n' := 735) 3 rfl dL_law_734 rfl rfl ?_
  refine g_iload_n C (n' := 736) 0 rfl dL_law_735 rfl rfl ?_
  refine g_iconst C (n' := 737) dL_law_736 rfl ?_
  refine g_iadd C (n' := 738) dL_law_737 rfl ?_
  refine g_ti C (n' := 739) C.2.2.2.2.2.2.2.2.2.2.2 (by omega) (by omega) (by omega) (v := .int (iI (xI (i + 2).toNat))) rfl dL_law_738 rfl ?_
  refine g_aload_n C (n' := 740) 3 rfl dL_law_739 rfl rfl ?_
  refine g_iload_n C (n' := 741) 0 rfl dL_law_740 rfl rfl ?_
  refine g_iconst C (n' := 742) dL_law_741 rfl ?_
  refine g_iadd C (n' := 743) dL_law_742 rfl ?_
  refine g_ti C (n' := 744) C.2.2.2.2.2.2.2.2.2.2.2 (by omega) (by omega) (by omega) (v := .int (iI (xI (i + 3).toNat))) rfl dL_law_743 rfl ?_
  refine g_aload_n C (n' := 745) 3 rfl dL_law_744 rfl rfl ?_
  refine g_iload_n C (n' := 746) 0 rfl dL_law_745 rfl rfl ?_
  refine g_iconst C (n' := 747) dL_law_746 rfl ?_
  refine g_iadd C (n' := 748) dL_law_747 rfl ?_
  refine g_ti C (n' := 749) C.2.2.2.2.2.2.2.2.2.2.2 (by omega) (by omega) (by omega) (v := .int (iI (xI (i + 4).toNat))) rfl dL_law_748 rfl ?_
  refine g_callV C (n' := 752) (As := [.int (iI (2 : Int)), .int (iI (xI (i + 2).toNat)), .int (iI (xI (i + 3).toNat)), .int (iI (xI (i + 4).toNat))]) (c_X7_compare l D Y C.2.2.2.2.2.2.2.2.1 q qt qd qn qs qk qh qp qr K (Ir 2) (V 2) (M 2) (2 : Int) (xI (i + 2).toNat) (xI (i + 3).toNat) (xI (i + 4).toNat) (R.2.2.2.2.2.2.2.2 2 (by decide)).1 (R.2.2.2.2.2.2.2.2 2 (by decide)).2.1 (R.2.2.2.2.2.2.2.2 2 (by decide)).2.2.2.1 (by decide) (hxs _) (hxs _) (hxs _)) 4 kw_631 kc_X7_compare (by decide +kernel) (pS_r2 _ _ _ _ _ _ _ _ _ _ _ _ _) 0 (ci := 5) rfl rfl rfl rfl ⟨Nat.le_of_ble_eq_true rfl, Nat.le_of_ble_eq_true rfl⟩ ⟨rfl, rfl⟩ ⟨Nat.le_of_ble_eq_true rfl, Nat.le_of_ble_eq_true rfl⟩ (Nat.le_of_ble_eq_true rfl) dL_law_749 rfl (fun r7 w7 h7 => ?_)
  have hz : ∃ z : Int, r7 = some (.int (iI z)) := by
    exact ⟨_, h7.1⟩
  obtain ⟨z9, rfl⟩ := hz
  refine g_aload_n C (n' := 753) 1 rfl dL_law_752 rfl rfl ?_
  refine g_aload_n C (n' := 754) 3 rfl dL_law_753 rfl rfl ?_
  refine g_iload_n C (n' := 755) 0 rfl dL_law_754 rfl rfl ?_
  refine g_iconst C (n' := 756) dL_law_755 rfl ?_
  refine g_iadd C (n' := 757) dL_law_756 rfl ?_
  refine g_ti C (n' := 758) C.2.2.2.2.2.2.2.2.2.2.2 (by omega) (by omega) (by omega) (v := .int (iI (2 : Int))) (congrArg (fun z => Value.int (iI z)) hpl) dL_law_757 rfl ?_
  refine g_aload_n C (n' := 759) 3 rfl dL_law_758 rfl rfl ?_
  refine g_iload_n C (n' := 760) 0 rfl dL_law_759 rfl rfl ?_
  refine g_iconst C (n' := 761) dL_law_760 rfl ?_
  refine g_iadd C (n' := 762) dL_law_761 rfl ?_
  refine g_ti C (n' := 763) C.2.2.2.2.2.2.2.2.2.2.2 (by omega) (by omega) (by omega) (v := .int (iI (xI (i + 2).toNat))) rfl dL_law_762 rfl ?_
  refine g_aload_n C (n' := 764) 3 rfl dL_law_763 rfl rfl ?_
  refine g_iload_n C (n' := 765) 0 rfl dL_law_764 rfl rfl ?_
  refine g_iconst C (n' := 766) dL_law_765 rfl ?_
  refine g_iadd C (n' := 767) dL_law_766 rfl ?_
  refine g_ti C (n' := 768) C.2.2.2.2.2.2.2.2.2.2.2 (by omega) (by omega) (by omega) (v := .int (iI (xI (i + 3).toNat))) rfl dL_law_767 rfl ?_
  refine g_aload_n C (n' := 769) 3 rfl dL_law_768 rfl rfl ?_
  refine g_iload_n C (n' := 770) 0 rfl dL_law_769 rfl rfl ?_
  refine g_iconst C (n' := 771) dL_law_770 rfl ?_
  refine g_iadd C (n' := 772) dL_law_771 rfl ?_
  refine g_ti C (n' := 773) C.2.2.2.2.2.2.2.2.2.2.2 (by omega) (by omega) (by omega) (v := .int (iI (xI (i + 4).toNat))) rfl dL_law_772 rfl ?_
  refine g_callV C (n' := 776) (As := [.int (iI (2 : Int)), .int (iI (xI (i + 2).toNat)), .int (iI (xI (i + 3).toNat)), .int (iI (xI (i + 4).toNat))]) (c_X8_compare l D Y C.2.2.2.2.2.2.2.2.1 qm I A F Dd (2 : Int) (xI (i + 2).toNat) (xI (i + 3).toNat) (xI (i + 4).toNat) R.2.2.2.2.2.2.2.1.1 R.2.2.2.2.2.2.2.1.2.1 R.2.2.2.2.2.2.2.1.2.2.2 (by unfold inR; decide) (hxs _) (hxs _) (hxs _)) 4 kw_1025 kc_X8_compare (by decide +kernel) pM 0 (ci := 6) rfl rfl rfl rfl ⟨Nat.le_of_ble_eq_true rfl, Nat.le_of_ble_eq_true rfl⟩ ⟨rfl, rfl⟩ ⟨Nat.le_of_ble_eq_true rfl, Nat.le_of_ble_eq_true rfl⟩ (Nat.le_of_ble_eq_true rfl) dL_law_773 rfl (fun r8 w8 h8 => ?_)
  obtain ⟨z, e7, rfl, K1, It1, L1, Jd1, Nd1, J1, N1, Js1, Ns1, Jk1, Nk1, Ih1, Ah1, Ip1, Ap1, Bp1, Ir1, V1, M1, I1, A1, F1, Dd1, R1, hp⟩ := pr_compare_2 R h7 h8
  have e8 := Value.int.inj (Option.some.inj e7)
  rw [e8]
  refine g_same C 860 dL_law_776 (by decide) ?_
  refine g_perm hp ?_
  exact k _ _ _ _ _ _ _ _ _ _ _ _ _ _ _ _ _ _ _ _ _ _ _ R1

theorem lw_compare_o (C : g_Cx p s m args c cL_law 4 RL D (tysY Y) A9 (eLaw e9 b Ln xI)) (hi : 0 ≤ i ∧ i + 6 ≤ Ln ∧ Ln ≤ 3072) (hxs : ∀ k, inR (xI k)) (hpl : ¬ (0 ≤ xI (i + 1).toNat ∧ xI (i + 1).toNat ≤ 2)) (R : (REL K It L Jd Nd J N Js Ns Jk Nk Ih Ah Ip Ap Bp Ir V M I A F Dd)) (k : ∀ (K It L : Nat → Int) (Jd : Nat → Int) (Nd : Nat → Nat → Int) (J : Nat → Int) (N : Nat → Nat → Int) (Js : Nat → Int) (Ns : Nat → Nat → Int) (Jk : Nat → Nat → Int) (Nk : Nat → Nat → Nat → Int) (Ih : Nat → Int) (Ah : Nat → Nat → Int) (Ip : Nat → Int) (Ap Bp : Nat → Nat → Int) (Ir : Nat → Nat → Int) (V : Nat → Nat → UInt64) (M : Nat → Nat → Int) (I : Nat → Int) (A : Nat → Nat → Int) (F : Nat → UInt32) (Dd : Nat → UInt64), (REL K It L Jd Nd J N Js Ns Jk Nk Ih Ah Ip Ap Bp Ir V M I A F Dd) → g_G p l e room_1 s m args below meth c 4 D A9 Q 77 1630 (wS q Y qt qd qn qs qk qh qp qr qm K It L Jd Nd J N Js Ns Jk Nk Ih Ah Ip Ap Bp Ir V M I A F Dd) [(3, .int (iI i)), (2, .ref (qm 99)), (1, .ref (q 99)), (0, .ref b)] 860 []) : g_G p l e room_1 s m args below meth c 4 D A9 Q 77 1630 (wS q Y qt qd qn qs qk qh qp qr qm K It L Jd Nd J N Js Ns Jk Nk Ih Ah Ip Ap Bp Ir V M I A F Dd) [(3, .int (iI i)), (2, .ref (qm 99)), (1, .ref (q 99)), (0, .ref b)] 728 [] := by
  refine g_aload_n C (n' := 729) 2 rfl dL_law_728 rfl rfl ?_
  refine g_aload_n C (n' := 730) 3 rfl dL_law_729 rfl rfl ?_
  refine g_iload_n C (n' := 731) 0 rfl dL_law_730 rfl rfl ?_
  refine g_iconst C (n' := 732) dL_law_731 rfl ?_
  refine g_iadd C (n' := 733) dL_law_732 rfl ?_
  refine g_ti C (n' := 734) C.2.2.2.2.2.2.2.2.2.2.2 (by omega) (by omega) (by omega) (v := .int (iI (xI (i + 1).toNat))) rfl dL_law_733 rfl ?_
  refine g_aload_n C (n' := 735) 3 rfl dL_law_734 rfl rfl ?_
  refine g_iload_n C (n' := 736) 0 rfl dL_law_735 rfl rfl ?_
  refine g_iconst C (n' := 737) dL_law_736 rfl ?_
  refine g_iadd C (n' := 738) dL_law_737 rfl ?_
  refine g_ti C (n' := 739) C.2.2.2.2.2.2.2.2.2.2.2 (by omega) (by omega) (by omega) (v := .int (iI (xI (i + 2).toNat))) rfl dL_law_738 rfl ?_
  refine g_aload_n C (n' := 740) 3 rfl dL_law_739 rfl rfl ?_
  refine g_iload_n C (n' := 741) 0 rfl dL_law_740 rfl rfl ?_
  refine g_iconst C (n' := 742) dL_law_741 rfl ?_
  refine g_iadd C (n' := 743) dL_law_742 rfl ?_
  refine g_ti C (n' := 744) C.2.2.2.2.2.2.2.2.2.2.2 (by omega) (by omega) (by omega) (v := .int (iI (xI (i + 3).toNat))) rfl dL_law_743 rfl ?_
  refine g_aload_n C (n' := 745) 3 rfl dL_law_744 rfl rfl ?_
  refine g_iload_n C (n' := 746) 0 rfl dL_law_745 rfl rfl ?_
  refine g_iconst C (n' := 747) dL_law_746 rfl ?_
  refine g_iadd C (n' := 748) dL_law_747 rfl ?_
  refine g_ti C (n' := 749) C.2.2.2.2.2.2.2.2.2.2.2 (by omega) (by omega) (by omega) (v := .int (iI (xI (i + 4).toNat))) rfl dL_law_748 rfl ?_
  refine g_callV C (n' := 752) (As := [.int (iI (xI (i + 1).toNat)), .int (iI (xI (i + 2).toNat)), .int (iI (xI (i + 3).toNat)), .int (iI (xI (i + 4).toNat))]) (c_X7_compare_o l D Y C.2.2.2.2.2.2.2.2.1 q qt qd qn qs qk qh qp qr K (xI (i + 1).toNat) (xI (i + 2).toNat) (xI (i + 3).toNat) (xI (i + 4).toNat) hpl (hxs _)) 4 kw_631 kc_X7_compare (by decide +kernel) (pS_T _ _ _ _ _ _ _ _ _ _ _ _ _) 0 (ci := 5) rfl rfl rfl rfl ⟨Nat.le_of_ble_eq_true rfl, Nat.le_of_ble_eq_true rfl⟩ ⟨rfl, rfl⟩ ⟨Nat.le_of_ble_eq_true rfl, Nat.le_of_ble_eq_true rfl⟩ (Nat.le_of_ble_eq_true rfl) dL_law_749 rfl (fun r7 w7 h7 => ?_)
  have hz : ∃ z : Int, r7 = some (.int (iI z)) := by
    exact ⟨_, h7.1⟩
  obtain ⟨z9, rfl⟩ := hz
  refine g_aload_n C (n' := 753) 1 rfl dL_law_752 rfl rfl ?_
  refine g_aload_n C (n' := 754) 3 rfl dL_law_753 rfl rfl ?_
  refine g_iload_n C (n' := 755) 0 rfl dL_law_754 rfl rfl ?_
  refine g_iconst C (n' := 756) dL_law_755 rfl ?_
  refine g_iadd C (n' := 757) dL_law_756 rfl ?_
  refine g_ti C (n' := 758) C.2.2.2.2.2.2.2.2.2.2.2 (by omega) (by omega) (by omega) (v := .int (iI (xI (i + 1).toNat))) rfl dL_law_757 rfl ?_
  refine g_aload_n C (n' := 759) 3 rfl dL_law_758 rfl rfl ?_
  refine g_iload_n C (n' := 760) 0 rfl dL_law_759 rfl rfl ?_
  refine g_iconst C (n' := 761) dL_law_760 rfl ?_
  refine g_iadd C (n' := 762) dL_law_761 rfl ?_
  refine g_ti C (n' := 763) C.2.2.2.2.2.2.2.2.2.2.2 (by omega) (by omega) (by omega) (v := .int (iI (xI (i + 2).toNat))) rfl dL_law_762 rfl ?_
  refine g_aload_n C (n' := 764) 3 rfl dL_law_763 rfl rfl ?_
  refine g_iload_n C (n' := 765) 0 rfl dL_law_764 rfl rfl ?_
  refine g_iconst C (n' := 766) dL_law_765 rfl ?_
  refine g_iadd C (n' := 767) dL_law_766 rfl ?_
  refine g_ti C (n' := 768) C.2.2.2.2.2.2.2.2.2.2.2 (by omega) (by omega) (by omega) (v := .int (iI (xI (i + 3).toNat))) rfl dL_law_767 rfl ?_
  refine g_aload_n C (n' := 769) 3 rfl dL_law_768 rfl rfl ?_
  refine g_iload_n C (n' := 770) 0 rfl dL_law_769 rfl rfl ?_
  refine g_iconst C (n' := 771) dL_law_770 rfl ?_
  refine g_iadd C (n' := 772) dL_law_771 rfl ?_
  refine g_ti C (n' := 773) C.2.2.2.2.2.2.2.2.2.2.2 (by omega) (by omega) (by omega) (v := .int (iI (xI (i + 4).toNat))) rfl dL_law_772 rfl ?_
  refine g_callV C (n' := 776) (As := [.int (iI (xI (i + 1).toNat)), .int (iI (xI (i + 2).toNat)), .int (iI (xI (i + 3).toNat)), .int (iI (xI (i + 4).toNat))]) (c_X8_compare l D Y C.2.2.2.2.2.2.2.2.1 qm I A F Dd (xI (i + 1).toNat) (xI (i + 2).toNat) (xI (i + 3).toNat) (xI (i + 4).toNat) R.2.2.2.2.2.2.2.1.1 R.2.2.2.2.2.2.2.1.2.1 R.2.2.2.2.2.2.2.1.2.2.2 (hxs _) (hxs _) (hxs _) (hxs _)) 4 kw_1025 kc_X8_compare (by decide +kernel) pM 0 (ci := 6) rfl rfl rfl rfl ⟨Nat.le_of_ble_eq_true rfl, Nat.le_of_ble_eq_true rfl⟩ ⟨rfl, rfl⟩ ⟨Nat.le_of_ble_eq_true rfl, Nat.le_of_ble_eq_true rfl⟩ (Nat.le_of_ble_eq_true rfl) dL_law_773 rfl (fun r8 w8 h8 => ?_)
  obtain ⟨z, e7, rfl, K1, It1, L1, Jd1, Nd1, J1, N1, Js1, Ns1, Jk1, Nk1, Ih1, Ah1, Ip1, Ap1, Bp1, Ir1, V1, M1, I1, A1, F1, Dd1, R1, hp⟩ := pr_compare_o R hpl h7 h8
  have e8 := Value.int.inj (Option.some.inj e7)
  rw [e8]
  refine g_same C 860 dL_law_776 (by decide) ?_
  refine g_perm hp ?_
  exact k _ _ _ _ _ _ _ _ _ _ _ _ _ _ _ _ _ _ _ _ _ _ _ R1

theorem lw_sum_0 (C : g_Cx p s m args c cL_law 4 RL D (tysY Y) A9 (eLaw e9 b Ln xI)) (hi : 0 ≤ i ∧ i + 6 ≤ Ln ∧ Ln ≤ 3072) (hxs : ∀ k, inR (xI k)) (hpl : xI (i + 1).toNat = (0 : Int)) (R : (REL K It L Jd Nd J N Js Ns Jk Nk Ih Ah Ip Ap Bp Ir V M I A F Dd)) (k : ∀ (K It L : Nat → Int) (Jd : Nat → Int) (Nd : Nat → Nat → Int) (J : Nat → Int) (N : Nat → Nat → Int) (Js : Nat → Int) (Ns : Nat → Nat → Int) (Jk : Nat → Nat → Int) (Nk : Nat → Nat → Nat → Int) (Ih : Nat → Int) (Ah : Nat → Nat → Int) (Ip : Nat → Int) (Ap Bp : Nat → Nat → Int) (Ir : Nat → Nat → Int) (V : Nat → Nat → UInt64) (M : Nat → Nat → Int) (I : Nat → Int) (A : Nat → Nat → Int) (F : Nat → UInt32) (Dd : Nat → UInt64), (REL K It L Jd Nd J N Js Ns Jk Nk Ih Ah Ip Ap Bp Ir V M I A F Dd) → g_G p l e room_1 s m args below meth c 4 D A9 Q 77 1630 (wS q Y qt qd qn qs qk qh qp qr qm K It L Jd Nd J N Js Ns Jk Nk Ih Ah Ip Ap Bp Ir V M I A F Dd) [(3, .int (iI i)), (2, .ref (qm 99)), (1, .ref (q 99)), (0, .ref b)] 860 []) : g_G p l e room_1 s m args below meth c 4 D A9 Q 77 1630 (wS q Y qt qd qn qs qk qh qp qr qm K It L Jd Nd J N Js Ns Jk Nk Ih Ah Ip Ap Bp Ir V M I A F Dd) [(3, .int (iI i)), (2, .ref (qm 99)), (1, .ref (q 99)), (0, .ref b)] 781 [] := by
  refine g_aload_n C (n' := 782) 2 rfl dL_law_781 rfl rfl ?_
  refine g_aload_n C (n' := 783) 3 rfl dL_law_782 rfl rfl ?_
  refine g_iload_n C (n' := 784) 0 rfl dL_law_783 rfl rfl ?_
  refine g_iconst C (n' := 785) dL_law_784 rfl ?_
  refine g_iadd C (n' := 786) dL_law_785 rfl ?_
  refine g_ti C (n' := 787) C.2.2.2.2.2.2.2.2.2.2.2 (by omega) (by omega) (by omega) (v := .int (iI (0 : Int))) (congrArg (fun z => Value.int (iI z)) hpl) dL_law_786 rfl ?_
  refine g_aload_n C (n' := 788) 3 rfl dL_law_787 rfl rfl ?_
  refine g_iload_n C (n' := 789) 0 rfl dL_law_788 rfl rfl ?_
  refine g_iconst C (n' := 790) dL_law_789 rfl ?_
  refine g_iadd C (n' := 791) dL_law_790 rfl ?_
  refine g_ti C (n' := 792) C.2.2.2.2.2.2.2.2.2.2.2 (by omega) (by omega) (by omega) (v := .int (iI (xI (i + 2).toNat))) rfl dL_law_791 rfl ?_
  refine g_callV C (n' := 795) (As := [.int (iI (0 : Int)), .int (iI (xI (i + 2).toNat))]) (c_X7_sum l D Y C.2.2.2.2.2.2.2.2.1 q qt qd qn qs qk qh qp qr K (Ir 0) (V 0) (M 0) (0 : Int) (xI (i + 2).toNat) (R.2.2.2.2.2.2.2.2 0 (by decide)).1 (R.2.2.2.2.2.2.2.2 0 (by decide)).2.1 (R.2.2.2.2.2.2.2.2 0 (by decide)).2.2.2.1 (by decide) (hxs _)) 2 kw_639 kc_X7_sum (by decide +kernel) (pS_r0 _ _ _ _ _ _ _ _ _ _ _ _ _) 0 (ci := 5) rfl rfl rfl rfl ⟨Nat.le_of_ble_eq_true rfl, Nat.le_of_ble_eq_true rfl⟩ ⟨rfl, rfl⟩ ⟨Nat.le_of_ble_eq_true rfl, Nat.le_of_ble_eq_true rfl⟩ (Nat.le_of_ble_eq_true rfl) dL_law_792 rfl (fun r7 w7 h7 => ?_)
  have hz : ∃ z : Int, r7 = some (.int (iI z)) := by
    obtain ⟨_, h7⟩ := h7
    rcases h7 with ⟨_, h⟩ | ⟨_, ⟨_, h⟩ | ⟨_, ⟨_, ⟨_, h⟩ | ⟨_, h⟩⟩ | ⟨_, h⟩⟩⟩ <;> exact ⟨_, h⟩
  obtain ⟨z9, rfl⟩ := hz
  refine g_aload_n C (n' := 796) 1 rfl dL_law_795 rfl rfl ?_
  refine g_aload_n C (n' := 797) 3 rfl dL_law_796 rfl rfl ?_
  refine g_iload_n C (n' := 798) 0 rfl dL_law_797 rfl rfl ?_
  refine g_iconst C (n' := 799) dL_law_798 rfl ?_
  refine g_iadd C (n' := 800) dL_law_799 rfl ?_
  refine g_ti C (n' := 801) C.2.2.2.2.2.2.2.2.2.2.2 (by omega) (by omega) (by omega) (v := .int (iI (0 : Int))) (congrArg (fun z => Value.int (iI z)) hpl) dL_law_800 rfl ?_
  refine g_aload_n C (n' := 802) 3 rfl dL_law_801 rfl rfl ?_
  refine g_iload_n C (n' := 803) 0 rfl dL_law_802 rfl rfl ?_
  refine g_iconst C (n' := 804) dL_law_803 rfl ?_
  refine g_iadd C (n' := 805) dL_law_804 rfl ?_
  refine g_ti C (n' := 806) C.2.2.2.2.2.2.2.2.2.2.2 (by omega) (by omega) (by omega) (v := .int (iI (xI (i + 2).toNat))) rfl dL_law_805 rfl ?_
  refine g_callV C (n' := 809) (As := [.int (iI (0 : Int)), .int (iI (xI (i + 2).toNat))]) (c_X8_sum l D Y C.2.2.2.2.2.2.2.2.1 qm I A F Dd (0 : Int) (xI (i + 2).toNat) R.2.2.2.2.2.2.2.1.1 R.2.2.2.2.2.2.2.1.2.1 R.2.2.2.2.2.2.2.1.2.2.2 (by unfold inR; decide) (hxs _)) 2 kw_1033 kc_X8_sum (by decide +kernel) pM 0 (ci := 6) rfl rfl rfl rfl ⟨Nat.le_of_ble_eq_true rfl, Nat.le_of_ble_eq_true rfl⟩ ⟨rfl, rfl⟩ ⟨Nat.le_of_ble_eq_true rfl, Nat.le_of_ble_eq_true rfl⟩ (Nat.le_of_ble_eq_true rfl) dL_law_806 rfl (fun r8 w8 h8 => ?_)
  obtain ⟨z, e7, rfl, K1, It1, L1, Jd1, Nd1, J1, N1, Js1, Ns1, Jk1, Nk1, Ih1, Ah1, Ip1, Ap1, Bp1, Ir1, V1, M1, I1, A1, F1, Dd1, R1, hp⟩ := pr_sum_0 R h7 h8
  have e8 := Value.int.inj (Option.some.inj e7)
  rw [e8]
  refine g_same C 860 dL_law_809 (by decide) ?_
  refine g_perm hp ?_
  exact k _ _ _ _ _ _ _ _ _ _ _ _ _ _ _ _ _ _ _ _ _ _ _ R1

theorem lw_sum_1 (C : g_Cx p s m args c cL_law 4 RL D (tysY Y) A9 (eLaw e9 b Ln xI)) (hi : 0 ≤ i ∧ i + 6 ≤ Ln ∧ Ln ≤ 3072) (hxs : ∀ k, inR (xI k)) (hpl : xI (i + 1).toNat = (1 : Int)) (R : (REL K It L Jd Nd J N Js Ns Jk Nk Ih Ah Ip Ap Bp Ir V M I A F Dd)) (k : ∀ (K It L : Nat → Int) (Jd : Nat → Int) (Nd : Nat → Nat → Int) (J : Nat → Int) (N : Nat → Nat → Int) (Js : Nat → Int) (Ns : Nat → Nat → Int) (Jk : Nat → Nat → Int) (Nk : Nat → Nat → Nat → Int) (Ih : Nat → Int) (Ah : Nat → Nat → Int) (Ip : Nat → Int) (Ap Bp : Nat → Nat → Int) (Ir : Nat → Nat → Int) (V : Nat → Nat → UInt64) (M : Nat → Nat → Int) (I : Nat → Int) (A : Nat → Nat → Int) (F : Nat → UInt32) (Dd : Nat → UInt64), (REL K It L Jd Nd J N Js Ns Jk Nk Ih Ah Ip Ap Bp Ir V M I A F Dd) → g_G p l e room_1 s m args below meth c 4 D A9 Q 77 1630 (wS q Y qt qd qn qs qk qh qp qr qm K It L Jd Nd J N Js Ns Jk Nk Ih Ah Ip Ap Bp Ir V M I A F Dd) [(3, .int (iI i)), (2, .ref (qm 99)), (1, .ref (q 99)), (0, .ref b)] 860 []) : g_G p l e room_1 s m args below meth c 4 D A9 Q 77 1630 (wS q Y qt qd qn qs qk qh qp qr qm K It L Jd Nd J N Js Ns Jk Nk Ih Ah Ip Ap Bp Ir V M I A F Dd) [(3, .int (iI i)), (2, .ref (qm 99)), (1, .ref (q 99)), (0, .ref b)] 781 [] := by
  refine g_aload_n C (n' := 782) 2 rfl dL_law_781 rfl rfl ?_
  refine g_aload_n C (n' := 783) 3 rfl dL_law_782 rfl rfl ?_
  refine g_iload_n C (n' := 784) 0 rfl dL_law_783 rfl rfl ?_
  refine g_iconst C (n' := 785) dL_law_784 rfl ?_
  refine g_iadd C (n' := 786) dL_law_785 rfl ?_
  refine g_ti C (n' := 787) C.2.2.2.2.2.2.2.2.2.2.2 (by omega) (by omega) (by omega) (v := .int (iI (1 : Int))) (congrArg (fun z => Value.int (iI z)) hpl) dL_law_786 rfl ?_
  refine g_aload_n C (n' := 788) 3 rfl dL_law_787 rfl rfl ?_
  refine g_iload_n C (n' := 789) 0 rfl dL_law_788 rfl rfl ?_
  refine g_iconst C (n' := 790) dL_law_789 rfl ?_
  refine g_iadd C (n' := 791) dL_law_790 rfl ?_
  refine g_ti C (n' := 792) C.2.2.2.2.2.2.2.2.2.2.2 (by omega) (by omega) (by omega) (v := .int (iI (xI (i + 2).toNat))) rfl dL_law_791 rfl ?_
  refine g_callV C (n' := 795) (As := [.int (iI (1 : Int)), .int (iI (xI (i + 2).toNat))]) (c_X7_sum l D Y C.2.2.2.2.2.2.2.2.1 q qt qd qn qs qk qh qp qr K (Ir 1) (V 1) (M 1) (1 : Int) (xI (i + 2).toNat) (R.2.2.2.2.2.2.2.2 1 (by decide)).1 (R.2.2.2.2.2.2.2.2 1 (by decide)).2.1 (R.2.2.2.2.2.2.2.2 1 (by decide)).2.2.2.1 (by decide) (hxs _)) 2 kw_639 kc_X7_sum (by decide +kernel) (pS_r1 _ _ _ _ _ _ _ _ _ _ _ _ _) 0 (ci := 5) rfl rfl rfl rfl ⟨Nat.le_of_ble_eq_true rfl, Nat.le_of_ble_eq_true rfl⟩ ⟨rfl, rfl⟩ ⟨Nat.le_of_ble_eq_true rfl, Nat.le_of_ble_eq_true rfl⟩ (Nat.le_of_ble_eq_true rfl) dL_law_792 rfl (fun r7 w7 h7 => ?_)
  have hz : ∃ z : Int, r7 = some (.int (iI z)) := by
    obtain ⟨_, h7⟩ := h7
    rcases h7 with ⟨_, h⟩ | ⟨_, ⟨_, h⟩ | ⟨_, ⟨_, ⟨_, h⟩ | ⟨_, h⟩⟩ | ⟨_, h⟩⟩⟩ <;> exact ⟨_, h⟩
  obtain ⟨z9, rfl⟩ := hz
  refine g_aload_n C (n' := 796) 1 rfl dL_law_795 rfl rfl ?_
  refine g_aload_n C (n' := 797) 3 rfl dL_law_796 rfl rfl ?_
  refine g_iload_n C (n' := 798) 0 rfl dL_law_797 rfl rfl ?_
  refine g_iconst C (n' := 799) dL_law_798 rfl ?_
  refine g_iadd C (n' := 800) dL_law_799 rfl ?_
  refine g_ti C (n' := 801) C.2.2.2.2.2.2.2.2.2.2.2 (by omega) (by omega) (by omega) (v := .int (iI (1 : Int))) (congrArg (fun z => Value.int (iI z)) hpl) dL_law_800 rfl ?_
  refine g_aload_n C (n' := 802) 3 rfl dL_law_801 rfl rfl ?_
  refine g_iload_n C (n' := 803) 0 rfl dL_law_802 rfl rfl ?_
  refine g_iconst C (n' := 804) dL_law_803 rfl ?_
  refine g_iadd C (n' := 805) dL_law_804 rfl ?_
  refine g_ti C (n' := 806) C.2.2.2.2.2.2.2.2.2.2.2 (by omega) (by omega) (by omega) (v := .int (iI (xI (i + 2).toNat))) rfl dL_law_805 rfl ?_
  refine g_callV C (n' := 809) (As := [.int (iI (1 : Int)), .int (iI (xI (i + 2).toNat))]) (c_X8_sum l D Y C.2.2.2.2.2.2.2.2.1 qm I A F Dd (1 : Int) (xI (i + 2).toNat) R.2.2.2.2.2.2.2.1.1 R.2.2.2.2.2.2.2.1.2.1 R.2.2.2.2.2.2.2.1.2.2.2 (by unfold inR; decide) (hxs _)) 2 kw_1033 kc_X8_sum (by decide +kernel) pM 0 (ci := 6) rfl rfl rfl rfl ⟨Nat.le_of_ble_eq_true rfl, Nat.le_of_ble_eq_true rfl⟩ ⟨rfl, rfl⟩ ⟨Nat.le_of_ble_eq_true rfl, Nat.le_of_ble_eq_true rfl⟩ (Nat.le_of_ble_eq_true rfl) dL_law_806 rfl (fun r8 w8 h8 => ?_)
  obtain ⟨z, e7, rfl, K1, It1, L1, Jd1, Nd1, J1, N1, Js1, Ns1, Jk1, Nk1, Ih1, Ah1, Ip1, Ap1, Bp1, Ir1, V1, M1, I1, A1, F1, Dd1, R1, hp⟩ := pr_sum_1 R h7 h8
  have e8 := Value.int.inj (Option.some.inj e7)
  rw [e8]
  refine g_same C 860 dL_law_809 (by decide) ?_
  refine g_perm hp ?_
  exact k _ _ _ _ _ _ _ _ _ _ _ _ _ _ _ _ _ _ _ _ _ _ _ R1

theorem lw_sum_2 (C : g_Cx p s m args c cL_law 4 RL D (tysY Y) A9 (eLaw e9 b Ln xI)) (hi : 0 ≤ i ∧ i + 6 ≤ Ln ∧ Ln ≤ 3072) (hxs : ∀ k, inR (xI k)) (hpl : xI (i + 1).toNat = (2 : Int)) (R : (REL K It L Jd Nd J N Js Ns Jk Nk Ih Ah Ip Ap Bp Ir V M I A F Dd)) (k : ∀ (K It L : Nat → Int) (Jd : Nat → Int) (Nd : Nat → Nat → Int) (J : Nat → Int) (N : Nat → Nat → Int) (Js : Nat → Int) (Ns : Nat → Nat → Int) (Jk : Nat → Nat → Int) (Nk : Nat → Nat → Nat → Int) (Ih : Nat → Int) (Ah : Nat → Nat → Int) (Ip : Nat → Int) (Ap Bp : Nat → Nat → Int) (Ir : Nat → Nat → Int) (V : Nat → Nat → UInt64) (M : Nat → Nat → Int) (I : Nat → Int) (A : Nat → Nat → Int) (F : Nat → UInt32) (Dd : Nat → UInt64), (REL K It L Jd Nd J N Js Ns Jk Nk Ih Ah Ip Ap Bp Ir V M I A F Dd) → g_G p l e room_1 s m args below meth c 4 D A9 Q 77 1630 (wS q Y qt qd qn qs qk qh qp qr qm K It L Jd Nd J N Js Ns Jk Nk Ih Ah Ip Ap Bp Ir V M I A F Dd) [(3, .int (iI i)), (2, .ref (qm 99)), (1, .ref (q 99)), (0, .ref b)] 860 []) : g_G p l e room_1 s m args below meth c 4 D A9 Q 77 1630 (wS q Y qt qd qn qs qk qh qp qr qm K It L Jd Nd J N Js Ns Jk Nk Ih Ah Ip Ap Bp Ir V M I A F Dd) [(3, .int (iI i)), (2, .ref (qm 99)), (1, .ref (q 99)), (0, .ref b)] 781 [] := by
  refine g_aload_n C (n' := 782) 2 rfl dL_law_781 rfl rfl ?_
  refine g_aload_n C (n' := 783) 3 rfl dL_law_782 rfl rfl ?_
  refine g_iload_n C (n' := 784) 0 rfl dL_law_783 rfl rfl ?_
  refine g_iconst C (n' := 785) dL_law_784 rfl ?_
  refine g_iadd C (n' := 786) dL_law_785 rfl ?_
  refine g_ti C (n' := 787) C.2.2.2.2.2.2.2.2.2.2.2 (by omega) (by omega) (by omega) (v := .int (iI (2 : Int))) (congrArg (fun z => Value.int (iI z)) hpl) dL_law_786 rfl ?_
  refine g_aload_n C (n' := 788) 3 rfl dL_law_787 rfl rfl ?_
  refine g_iload_n C (n' := 789) 0 rfl dL_law_788 rfl rfl ?_
  refine g_iconst C (n' := 790) dL_law_789 rfl ?_
  refine g_iadd C (n' := 791) dL_law_790 rfl ?_
  refine g_ti C (n' := 792) C.2.2.2.2.2.2.2.2.2.2.2 (by omega) (by omega) (by omega) (v := .int (iI (xI (i + 2).toNat))) rfl dL_law_791 rfl ?_
  refine g_callV C (n' := 795) (As := [.int (iI (2 : Int)), .int (iI (xI (i + 2).toNat))]) (c_X7_sum l D Y C.2.2.2.2.2.2.2.2.1 q qt qd qn qs qk qh qp qr K (Ir 2) (V 2) (M 2) (2 : Int) (xI (i + 2).toNat) (R.2.2.2.2.2.2.2.2 2 (by decide)).1 (R.2.2.2.2.2.2.2.2 2 (by decide)).2.1 (R.2.2.2.2.2.2.2.2 2 (by decide)).2.2.2.1 (by decide) (hxs _)) 2 kw_639 kc_X7_sum (by decide +kernel) (pS_r2 _ _ _ _ _ _ _ _ _ _ _ _ _) 0 (ci := 5) rfl rfl rfl rfl ⟨Nat.le_of_ble_eq_true rfl, Nat.le_of_ble_eq_true rfl⟩ ⟨rfl, rfl⟩ ⟨Nat.le_of_ble_eq_true rfl, Nat.le_of_ble_eq_true rfl⟩ (Nat.le_of_ble_eq_true rfl) dL_law_792 rfl (fun r7 w7 h7 => ?_)
  have hz : ∃ z : Int, r7 = some (.int (iI z)) := by
    obtain ⟨_, h7⟩ := h7
    rcases h7 with ⟨_, h⟩ | ⟨_, ⟨_, h⟩ | ⟨_, ⟨_, ⟨_, h⟩ | ⟨_, h⟩⟩ | ⟨_, h⟩⟩⟩ <;> exact ⟨_, h⟩
  obtain ⟨z9, rfl⟩ := hz
  refine g_aload_n C (n' := 796) 1 rfl dL_law_795 rfl rfl ?_
  refine g_aload_n C (n' := 797) 3 rfl dL_law_796 rfl rfl ?_
  refine g_iload_n C (n' := 798) 0 rfl dL_law_797 rfl rfl ?_
  refine g_iconst C (n' := 799) dL_law_798 rfl ?_
  refine g_iadd C (n' := 800) dL_law_799 rfl ?_
  refine g_ti C (n' := 801) C.2.2.2.2.2.2.2.2.2.2.2 (by omega) (by omega) (by omega) (v := .int (iI (2 : Int))) (congrArg (fun z => Value.int (iI z)) hpl) dL_law_800 rfl ?_
  refine g_aload_n C (n' := 802) 3 rfl dL_law_801 rfl rfl ?_
  refine g_iload_n C (n' := 803) 0 rfl dL_law_802 rfl rfl ?_
  refine g_iconst C (n' := 804) dL_law_803 rfl ?_
  refine g_iadd C (n' := 805) dL_law_804 rfl ?_
  refine g_ti C (n' := 806) C.2.2.2.2.2.2.2.2.2.2.2 (by omega) (by omega) (by omega) (v := .int (iI (xI (i + 2).toNat))) rfl dL_law_805 rfl ?_
  refine g_callV C (n' := 809) (As := [.int (iI (2 : Int)), .int (iI (xI (i + 2).toNat))]) (c_X8_sum l D Y C.2.2.2.2.2.2.2.2.1 qm I A F Dd (2 : Int) (xI (i + 2).toNat) R.2.2.2.2.2.2.2.1.1 R.2.2.2.2.2.2.2.1.2.1 R.2.2.2.2.2.2.2.1.2.2.2 (by unfold inR; decide) (hxs _)) 2 kw_1033 kc_X8_sum (by decide +kernel) pM 0 (ci := 6) rfl rfl rfl rfl ⟨Nat.le_of_ble_eq_true rfl, Nat.le_of_ble_eq_true rfl⟩ ⟨rfl, rfl⟩ ⟨Nat.le_of_ble_eq_true rfl, Nat.le_of_ble_eq_true rfl⟩ (Nat.le_of_ble_eq_true rfl) dL_law_806 rfl (fun r8 w8 h8 => ?_)
  obtain ⟨z, e7, rfl, K1, It1, L1, Jd1, Nd1, J1, N1, Js1, Ns1, Jk1, Nk1, Ih1, Ah1, Ip1, Ap1, Bp1, Ir1, V1, M1, I1, A1, F1, Dd1, R1, hp⟩ := pr_sum_2 R h7 h8
  have e8 := Value.int.inj (Option.some.inj e7)
  rw [e8]
  refine g_same C 860 dL_law_809 (by decide) ?_
  refine g_perm hp ?_
  exact k _ _ _ _ _ _ _ _ _ _ _ _ _ _ _ _ _ _ _ _ _ _ _ R1

theorem lw_sum_o (C : g_Cx p s m args c cL_law 4 RL D (tysY Y) A9 (eLaw e9 b Ln xI)) (hi : 0 ≤ i ∧ i + 6 ≤ Ln ∧ Ln ≤ 3072) (hxs : ∀ k, inR (xI k)) (hpl : ¬ (0 ≤ xI (i + 1).toNat ∧ xI (i + 1).toNat ≤ 2)) (R : (REL K It L Jd Nd J N Js Ns Jk Nk Ih Ah Ip Ap Bp Ir V M I A F Dd)) (k : ∀ (K It L : Nat → Int) (Jd : Nat → Int) (Nd : Nat → Nat → Int) (J : Nat → Int) (N : Nat → Nat → Int) (Js : Nat → Int) (Ns : Nat → Nat → Int) (Jk : Nat → Nat → Int) (Nk : Nat → Nat → Nat → Int) (Ih : Nat → Int) (Ah : Nat → Nat → Int) (Ip : Nat → Int) (Ap Bp : Nat → Nat → Int) (Ir : Nat → Nat → Int) (V : Nat → Nat → UInt64) (M : Nat → Nat → Int) (I : Nat → Int) (A : Nat → Nat → Int) (F : Nat → UInt32) (Dd : Nat → UInt64), (REL K It L Jd Nd J N Js Ns Jk Nk Ih Ah Ip Ap Bp Ir V M I A F Dd) → g_G p l e room_1 s m args below meth c 4 D A9 Q 77 1630 (wS q Y qt qd qn qs qk qh qp qr qm K It L Jd Nd J N Js Ns Jk Nk Ih Ah Ip Ap Bp Ir V M I A F Dd) [(3, .int (iI i)), (2, .ref (qm 99)), (1, .ref (q 99)), (0, .ref b)] 860 []) : g_G p l e room_1 s m args below meth c 4 D A9 Q 77 1630 (wS q Y qt qd qn qs qk qh qp qr qm K It L Jd Nd J N Js Ns Jk Nk Ih Ah Ip Ap Bp Ir V M I A F Dd) [(3, .int (iI i)), (2, .ref (qm 99)), (1, .ref (q 99)), (0, .ref b)] 781 [] := by
  refine g_aload_n C (n' := 782) 2 rfl dL_law_781 rfl rfl ?_
  refine g_aload_n C (n' := 783) 3 rfl dL_law_782 rfl rfl ?_
  refine g_iload_n C (n' := 784) 0 rfl dL_law_783 rfl rfl ?_
  refine g_iconst C (n' := 785) dL_law_784 rfl ?_
  refine g_iadd C (n' := 786) dL_law_785 rfl ?_
  refine g_ti C (n' := 787) C.2.2.2.2.2.2.2.2.2.2.2 (by omega) (by omega) (by omega) (v := .int (iI (xI (i + 1).toNat))) rfl dL_law_786 rfl ?_
  refine g_aload_n C (n' := 788) 3 rfl dL_law_787 rfl rfl ?_
  refine g_iload_n C (n' := 789) 0 rfl dL_law_788 rfl rfl ?_
  refine g_iconst C (n' := 790) dL_law_789 rfl ?_
  refine g_iadd C (n' := 791) dL_law_790 rfl ?_
  refine g_ti C (n' := 792) C.2.2.2.2.2.2.2.2.2.2.2 (by omega) (by omega) (by omega) (v := .int (iI (xI (i + 2).toNat))) rfl dL_law_791 rfl ?_
  refine g_callV C (n' := 795) (As := [.int (iI (xI (i + 1).toNat)), .int (iI (xI (i + 2).toNat))]) (c_X7_sum_o l D Y C.2.2.2.2.2.2.2.2.1 q qt qd qn qs qk qh qp qr K (xI (i + 1).toNat) (xI (i + 2).toNat) hpl (hxs _)) 2 kw_639 kc_X7_sum (by decide +kernel) (pS_T _ _ _ _ _ _ _ _ _ _ _ _ _) 0 (ci := 5) rfl rfl rfl rfl ⟨Nat.le_of_ble_eq_true rfl, Nat.le_of_ble_eq_true rfl⟩ ⟨rfl, rfl⟩ ⟨Nat.le_of_ble_eq_true rfl, Nat.le_of_ble_eq_true rfl⟩ (Nat.le_of_ble_eq_true rfl) dL_law_792 rfl (fun r7 w7 h7 => ?_)
  have hz : ∃ z : Int, r7 = some (.int (iI z)) := by
    exact ⟨_, h7.1⟩
  obtain ⟨z9, rfl⟩ := hz
  refine g_aload_n C (n' := 796) 1 rfl dL_law_795 rfl rfl ?_
  refine g_aload_n C (n' := 797) 3 rfl dL_law_796 rfl rfl ?_
  refine g_iload_n C (n' := 798) 0 rfl dL_law_797 rfl rfl ?_
  refine g_iconst C (n' := 799) dL_law_798 rfl ?_
  refine g_iadd C (n' := 800) dL_law_799 rfl ?_
  refine g_ti C (n' := 801) C.2.2.2.2.2.2.2.2.2.2.2 (by omega) (by omega) (by omega) (v := .int (iI (xI (i + 1).toNat))) rfl dL_law_800 rfl ?_
  refine g_aload_n C (n' := 802) 3 rfl dL_law_801 rfl rfl ?_
  refine g_iload_n C (n' := 803) 0 rfl dL_law_802 rfl rfl ?_
  refine g_iconst C (n' := 804) dL_law_803 rfl ?_
  refine g_iadd C (n' := 805) dL_law_804 rfl ?_
  refine g_ti C (n' := 806) C.2.2.2.2.2.2.2.2.2.2.2 (by omega) (by omega) (by omega) (v := .int (iI (xI (i + 2).toNat))) rfl dL_law_805 rfl ?_
  refine g_callV C (n' := 809) (As := [.int (iI (xI (i + 1).toNat)), .int (iI (xI (i + 2).toNat))]) (c_X8_sum l D Y C.2.2.2.2.2.2.2.2.1 qm I A F Dd (xI (i + 1).toNat) (xI (i + 2).toNat) R.2.2.2.2.2.2.2.1.1 R.2.2.2.2.2.2.2.1.2.1 R.2.2.2.2.2.2.2.1.2.2.2 (hxs _) (hxs _)) 2 kw_1033 kc_X8_sum (by decide +kernel) pM 0 (ci := 6) rfl rfl rfl rfl ⟨Nat.le_of_ble_eq_true rfl, Nat.le_of_ble_eq_true rfl⟩ ⟨rfl, rfl⟩ ⟨Nat.le_of_ble_eq_true rfl, Nat.le_of_ble_eq_true rfl⟩ (Nat.le_of_ble_eq_true rfl) dL_law_806 rfl (fun r8 w8 h8 => ?_)
  obtain ⟨z, e7, rfl, K1, It1, L1, Jd1, Nd1, J1, N1, Js1, Ns1, Jk1, Nk1, Ih1, Ah1, Ip1, Ap1, Bp1, Ir1, V1, M1, I1, A1, F1, Dd1, R1, hp⟩ := pr_sum_o R hpl h7 h8
  have e8 := Value.int.inj (Option.some.inj e7)
  rw [e8]
  refine g_same C 860 dL_law_809 (by decide) ?_
  refine g_perm hp ?_
  exact k _ _ _ _ _ _ _ _ _ _ _ _ _ _ _ _ _ _ _ _ _ _ _ R1

theorem lw_drop_0 (C : g_Cx p s m args c cL_law 4 RL D (tysY Y) A9 (eLaw e9 b Ln xI)) (hi : 0 ≤ i ∧ i + 6 ≤ Ln ∧ Ln ≤ 3072) (hxs : ∀ k, inR (xI k)) (hpl : xI (i + 1).toNat = (0 : Int)) (R : (REL K It L Jd Nd J N Js Ns Jk Nk Ih Ah Ip Ap Bp Ir V M I A F Dd)) (k : ∀ (K It L : Nat → Int) (Jd : Nat → Int) (Nd : Nat → Nat → Int) (J : Nat → Int) (N : Nat → Nat → Int) (Js : Nat → Int) (Ns : Nat → Nat → Int) (Jk : Nat → Nat → Int) (Nk : Nat → Nat → Nat → Int) (Ih : Nat → Int) (Ah : Nat → Nat → Int) (Ip : Nat → Int) (Ap Bp : Nat → Nat → Int) (Ir : Nat → Nat → Int) (V : Nat → Nat → UInt64) (M : Nat → Nat → Int) (I : Nat → Int) (A : Nat → Nat → Int) (F : Nat → UInt32) (Dd : Nat → UInt64), (REL K It L Jd Nd J N Js Ns Jk Nk Ih Ah Ip Ap Bp Ir V M I A F Dd) → g_G p l e room_1 s m args below meth c 4 D A9 Q 77 1630 (wS q Y qt qd qn qs qk qh qp qr qm K It L Jd Nd J N Js Ns Jk Nk Ih Ah Ip Ap Bp Ir V M I A F Dd) [(3, .int (iI i)), (2, .ref (qm 99)), (1, .ref (q 99)), (0, .ref b)] 860 []) : g_G p l e room_1 s m args below meth c 4 D A9 Q 77 1630 (wS q Y qt qd qn qs qk qh qp qr qm K It L Jd Nd J N Js Ns Jk Nk Ih Ah Ip Ap Bp Ir V M I A F Dd) [(3, .int (iI i)), (2, .ref (qm 99)), (1, .ref (q 99)), (0, .ref b)] 814 [] := by
  refine g_aload_n C (n' := 815) 2 rfl dL_law_814 rfl rfl ?_
  refine g_aload_n C (n' := 816) 3 rfl dL_law_815 rfl rfl ?_
  refine g_iload_n C (n' := 817) 0 rfl dL_law_816 rfl rfl ?_
  refine g_iconst C (n' := 818) dL_law_817 rfl ?_
  refine g_iadd C (n' := 819) dL_law_818 rfl ?_
  refine g_ti C (n' := 820) C.2.2.2.2.2.2.2.2.2.2.2 (by omega) (by omega) (by omega) (v := .int (iI (0 : Int))) (congrArg (fun z => Value.int (iI z)) hpl) dL_law_819 rfl ?_
  refine g_callV C (n' := 823) (As := [.int (iI (0 : Int))]) (c_X7_drop l D Y C.2.2.2.2.2.2.2.2.1 q qt qd qn qs qk qh qp qr K (Ir 0) (V 0) (M 0) (0 : Int) (R.2.2.2.2.2.2.2.2 0 (by decide)).1 (R.2.2.2.2.2.2.2.2 0 (by decide)).2.1 (R.2.2.2.2.2.2.2.2 0 (by decide)).2.2.2.1 (by decide)) 1 kw_655 kc_X7_drop (by decide +kernel) (pS_r0 _ _ _ _ _ _ _ _ _ _ _ _ _) 0 (ci := 5) rfl rfl rfl rfl ⟨Nat.le_of_ble_eq_true rfl, Nat.le_of_ble_eq_true rfl⟩ ⟨rfl, rfl⟩ ⟨Nat.le_of_ble_eq_true rfl, Nat.le_of_ble_eq_true rfl⟩ (Nat.le_of_ble_eq_true rfl) dL_law_820 rfl (fun r7 w7 h7 => ?_)
  have hz : ∃ z : Int, r7 = some (.int (iI z)) := by
    rcases h7 with ⟨_, h, _⟩ | ⟨_, h, _⟩ <;> exact ⟨_, h⟩
  obtain ⟨z9, rfl⟩ := hz
  refine g_aload_n C (n' := 824) 1 rfl dL_law_823 rfl rfl ?_
  refine g_aload_n C (n' := 825) 3 rfl dL_law_824 rfl rfl ?_
  refine g_iload_n C (n' := 826) 0 rfl dL_law_825 rfl rfl ?_
  refine g_iconst C (n' := 827) dL_law_826 rfl ?_
  refine g_iadd C (n' := 828) dL_law_827 rfl ?_
  refine g_ti C (n' := 829) C.2.2.2.2.2.2.2.2.2.2.2 (by omega) (by omega) (by omega) (v := .int (iI (0 : Int))) (congrArg (fun z => Value.int (iI z)) hpl) dL_law_828 rfl ?_
  refine g_callV C (n' := 832) (As := [.int (iI (0 : Int))]) (c_X8_drop l D Y C.2.2.2.2.2.2.2.2.1 qm I A F Dd (0 : Int) R.2.2.2.2.2.2.2.1.1 R.2.2.2.2.2.2.2.1.2.1 R.2.2.2.2.2.2.2.1.2.2.2 (by unfold inR; decide)) 1 kw_1037 kc_X8_drop (by decide +kernel) pM 0 (ci := 6) rfl rfl rfl rfl ⟨Nat.le_of_ble_eq_true rfl, Nat.le_of_ble_eq_true rfl⟩ ⟨rfl, rfl⟩ ⟨Nat.le_of_ble_eq_true rfl, Nat.le_of_ble_eq_true rfl⟩ (Nat.le_of_ble_eq_true rfl) dL_law_829 rfl (fun r8 w8 h8 => ?_)
  obtain ⟨z, e7, rfl, K1, It1, L1, Jd1, Nd1, J1, N1, Js1, Ns1, Jk1, Nk1, Ih1, Ah1, Ip1, Ap1, Bp1, Ir1, V1, M1, I1, A1, F1, Dd1, R1, hp⟩ := pr_drop_0 R h7 h8
  have e8 := Value.int.inj (Option.some.inj e7)
  rw [e8]
  refine g_same C 860 dL_law_832 (by decide) ?_
  refine g_perm hp ?_
  exact k _ _ _ _ _ _ _ _ _ _ _ _ _ _ _ _ _ _ _ _ _ _ _ R1

theorem lw_drop_1 (C : g_Cx p s m args c cL_law 4 RL D (tysY Y) A9 (eLaw e9 b Ln xI)) (hi : 0 ≤ i ∧ i + 6 ≤ Ln ∧ Ln ≤ 3072) (hxs : ∀ k, inR (xI k)) (hpl : xI (i + 1).toNat = (1 : Int)) (R : (REL K It L Jd Nd J N Js Ns Jk Nk Ih Ah Ip Ap Bp Ir V M I A F Dd)) (k : ∀ (K It L : Nat → Int) (Jd : Nat → Int) (Nd : Nat → Nat → Int) (J : Nat → Int) (N : Nat → Nat → Int) (Js : Nat → Int) (Ns : Nat → Nat → Int) (Jk : Nat → Nat → Int) (Nk : Nat → Nat → Nat → Int) (Ih : Nat → Int) (Ah : Nat → Nat → Int) (Ip : Nat → Int) (Ap Bp : Nat → Nat → Int) (Ir : Nat → Nat → Int) (V : Nat → Nat → UInt64) (M : Nat → Nat → Int) (I : Nat → Int) (A : Nat → Nat → Int) (F : Nat → UInt32) (Dd : Nat → UInt64), (REL K It L Jd Nd J N Js Ns Jk Nk Ih Ah Ip Ap Bp Ir V M I A F Dd) → g_G p l e room_1 s m args below meth c 4 D A9 Q 77 1630 (wS q Y qt qd qn qs qk qh qp qr qm K It L Jd Nd J N Js Ns Jk Nk Ih Ah Ip Ap Bp Ir V M I A F Dd) [(3, .int (iI i)), (2, .ref (qm 99)), (1, .ref (q 99)), (0, .ref b)] 860 []) : g_G p l e room_1 s m args below meth c 4 D A9 Q 77 1630 (wS q Y qt qd qn qs qk qh qp qr qm K It L Jd Nd J N Js Ns Jk Nk Ih Ah Ip Ap Bp Ir V M I A F Dd) [(3, .int (iI i)), (2, .ref (qm 99)), (1, .ref (q 99)), (0, .ref b)] 814 [] := by
  refine g_aload_n C (n' := 815) 2 rfl dL_law_814 rfl rfl ?_
  refine g_aload_n C (n' := 816) 3 rfl dL_law_815 rfl rfl ?_
  refine g_iload_n C (n' := 817) 0 rfl dL_law_816 rfl rfl ?_
  refine g_iconst C (n' := 818) dL_law_817 rfl ?_
  refine g_iadd C (n' := 819) dL_law_818 rfl ?_
  refine g_ti C (n' := 820) C.2.2.2.2.2.2.2.2.2.2.2 (by omega) (by omega) (by omega) (v := .int (iI (1 : Int))) (congrArg (fun z => Value.int (iI z)) hpl) dL_law_819 rfl ?_
  refine g_callV C (n' := 823) (As := [.int (iI (1 : Int))]) (c_X7_drop l D Y C.2.2.2.2.2.2.2.2.1 q qt qd qn qs qk qh qp qr K (Ir 1) (V 1) (M 1) (1 : Int) (R.2.2.2.2.2.2.2.2 1 (by decide)).1 (R.2.2.2.2.2.2.2.2 1 (by decide)).2.1 (R.2.2.2.2.2.2.2.2 1 (by decide)).2.2.2.1 (by decide)) 1 kw_655 kc_X7_drop (by decide +kernel) (pS_r1 _ _ _ _ _ _ _ _ _ _ _ _ _) 0 (ci := 5) rfl rfl rfl rfl ⟨Nat.le_of_ble_eq_true rfl, Nat.le_of_ble_eq_true rfl⟩ ⟨rfl, rfl⟩ ⟨Nat.le_of_ble_eq_true rfl, Nat.le_of_ble_eq_true rfl⟩ (Nat.le_of_ble_eq_true rfl) dL_law_820 rfl (fun r7 w7 h7 => ?_)
  have hz : ∃ z : Int, r7 = some (.int (iI z)) := by
    rcases h7 with ⟨_, h, _⟩ | ⟨_, h, _⟩ <;> exact ⟨_, h⟩
  obtain ⟨z9, rfl⟩ := hz
  refine g_aload_n C (n' := 824) 1 rfl dL_law_823 rfl rfl ?_
  refine g_aload_n C (n' := 825) 3 rfl dL_law_824 rfl rfl ?_
  refine g_iload_n C (n' := 826) 0 rfl dL_law_825 rfl rfl ?_
  refine g_iconst C (n' := 827) dL_law_826 rfl ?_
  refine g_iadd C (n' := 828) dL_law_827 rfl ?_
  refine g_ti C (n' := 829) C.2.2.2.2.2.2.2.2.2.2.2 (by omega) (by omega) (by omega) (v := .int (iI (1 : Int))) (congrArg (fun z => Value.int (iI z)) hpl) dL_law_828 rfl ?_
  refine g_callV C (n' := 832) (As := [.int (iI (1 : Int))]) (c_X8_drop l D Y C.2.2.2.2.2.2.2.2.1 qm I A F Dd (1 : Int) R.2.2.2.2.2.2.2.1.1 R.2.2.2.2.2.2.2.1.2.1 R.2.2.2.2.2.2.2.1.2.2.2 (by unfold inR; decide)) 1 kw_1037 kc_X8_drop (by decide +kernel) pM 0 (ci := 6) rfl rfl rfl rfl ⟨Nat.le_of_ble_eq_true rfl, Nat.le_of_ble_eq_true rfl⟩ ⟨rfl, rfl⟩ ⟨Nat.le_of_ble_eq_true rfl, Nat.le_of_ble_eq_true rfl⟩ (Nat.le_of_ble_eq_true rfl) dL_law_829 rfl (fun r8 w8 h8 => ?_)
  obtain ⟨z, e7, rfl, K1, It1, L1, Jd1, Nd1, J1, N1, Js1, Ns1, Jk1, Nk1, Ih1, Ah1, Ip1, Ap1, Bp1, Ir1, V1, M1, I1, A1, F1, Dd1, R1, hp⟩ := pr_drop_1 R h7 h8
  have e8 := Value.int.inj (Option.some.inj e7)
  rw [e8]
  refine g_same C 860 dL_law_832 (by decide) ?_
  refine g_perm hp ?_
  exact k _ _ _ _ _ _ _ _ _ _ _ _ _ _ _ _ _ _ _ _ _ _ _ R1

theorem lw_drop_2 (C : g_Cx p s m args c cL_law 4 RL D (tysY Y) A9 (eLaw e9 b Ln xI)) (hi : 0 ≤ i ∧ i + 6 ≤ Ln ∧ Ln ≤ 3072) (hxs : ∀ k, inR (xI k)) (hpl : xI (i + 1).toNat = (2 : Int)) (R : (REL K It L Jd Nd J N Js Ns Jk Nk Ih Ah Ip Ap Bp Ir V M I A F Dd)) (k : ∀ (K It L : Nat → Int) (Jd : Nat → Int) (Nd : Nat → Nat → Int) (J : Nat → Int) (N : Nat → Nat → Int) (Js : Nat → Int) (Ns : Nat → Nat → Int) (Jk : Nat → Nat → Int) (Nk : Nat → Nat → Nat → Int) (Ih : Nat → Int) (Ah : Nat → Nat → Int) (Ip : Nat → Int) (Ap Bp : Nat → Nat → Int) (Ir : Nat → Nat → Int) (V : Nat → Nat → UInt64) (M : Nat → Nat → Int) (I : Nat → Int) (A : Nat → Nat → Int) (F : Nat → UInt32) (Dd : Nat → UInt64), (REL K It L Jd Nd J N Js Ns Jk Nk Ih Ah Ip Ap Bp Ir V M I A F Dd) → g_G p l e room_1 s m args below meth c 4 D A9 Q 77 1630 (wS q Y qt qd qn qs qk qh qp qr qm K It L Jd Nd J N Js Ns Jk Nk Ih Ah Ip Ap Bp Ir V M I A F Dd) [(3, .int (iI i)), (2, .ref (qm 99)), (1, .ref (q 99)), (0, .ref b)] 860 []) : g_G p l e room_1 s m args below meth c 4 D A9 Q 77 1630 (wS q Y qt qd qn qs qk qh qp qr qm K It L Jd Nd J N Js Ns Jk Nk Ih Ah Ip Ap Bp Ir V M I A F Dd) [(3, .int (iI i)), (2, .ref (qm 99)), (1, .ref (q 99)), (0, .ref b)] 814 [] := by
  refine g_aload_n C (n' := 815) 2 rfl dL_law_814 rfl rfl ?_
  refine g_aload_n C (n' := 816) 3 rfl dL_law_815 rfl rfl ?_
  refine g_iload_n C (n' := 817) 0 rfl dL_law_816 rfl rfl ?_
  refine g_iconst C (n' := 818) dL_law_817 rfl ?_
  refine g_iadd C (n' := 819) dL_law_818 rfl ?_
  refine g_ti C (n' := 820) C.2.2.2.2.2.2.2.2.2.2.2 (by omega) (by omega) (by omega) (v := .int (iI (2 : Int))) (congrArg (fun z => Value.int (iI z)) hpl) dL_law_819 rfl ?_
  refine g_callV C (n' := 823) (As := [.int (iI (2 : Int))]) (c_X7_drop l D Y C.2.2.2.2.2.2.2.2.1 q qt qd qn qs qk qh qp qr K (Ir 2) (V 2) (M 2) (2 : Int) (R.2.2.2.2.2.2.2.2 2 (by decide)).1 (R.2.2.2.2.2.2.2.2 2 (by decide)).2.1 (R.2.2.2.2.2.2.2.2 2 (by decide)).2.2.2.1 (by decide)) 1 kw_655 kc_X7_drop (by decide +kernel) (pS_r2 _ _ _ _ _ _ _ _ _ _ _ _ _) 0 (ci := 5) rfl rfl rfl rfl ⟨Nat.le_of_ble_eq_true rfl, Nat.le_of_ble_eq_true rfl⟩ ⟨rfl, rfl⟩ ⟨Nat.le_of_ble_eq_true rfl, Nat.le_of_ble_eq_true rfl⟩ (Nat.le_of_ble_eq_true rfl) dL_law_820 rfl (fun r7 w7 h7 => ?_)
  have hz : ∃ z : Int, r7 = some (.int (iI z)) := by
    rcases h7 with ⟨_, h, _⟩ | ⟨_, h, _⟩ <;> exact ⟨_, h⟩
  obtain ⟨z9, rfl⟩ := hz
  refine g_aload_n C (n' := 824) 1 rfl dL_law_823 rfl rfl ?_
  refine g_aload_n C (n' := 825) 3 rfl dL_law_824 rfl rfl ?_
  refine g_iload_n C (n' := 826) 0 rfl dL_law_825 rfl rfl ?_
  refine g_iconst C (n' := 827) dL_law_826 rfl ?_
  refine g_iadd C (n' := 828) dL_law_827 rfl ?_
  refine g_ti C (n' := 829) C.2.2.2.2.2.2.2.2.2.2.2 (by omega) (by omega) (by omega) (v := .int (iI (2 : Int))) (congrArg (fun z => Value.int (iI z)) hpl) dL_law_828 rfl ?_
  refine g_callV C (n' := 832) (As := [.int (iI (2 : Int))]) (c_X8_drop l D Y C.2.2.2.2.2.2.2.2.1 qm I A F Dd (2 : Int) R.2.2.2.2.2.2.2.1.1 R.2.2.2.2.2.2.2.1.2.1 R.2.2.2.2.2.2.2.1.2.2.2 (by unfold inR; decide)) 1 kw_1037 kc_X8_drop (by decide +kernel) pM 0 (ci := 6) rfl rfl rfl rfl ⟨Nat.le_of_ble_eq_true rfl, Nat.le_of_ble_eq_true rfl⟩ ⟨rfl, rfl⟩ ⟨Nat.le_of_ble_eq_true rfl, Nat.le_of_ble_eq_true rfl⟩ (Nat.le_of_ble_eq_true rfl) dL_law_829 rfl (fun r8 w8 h8 => ?_)
  obtain ⟨z, e7, rfl, K1, It1, L1, Jd1, Nd1, J1, N1, Js1, Ns1, Jk1, Nk1, Ih1, Ah1, Ip1, Ap1, Bp1, Ir1, V1, M1, I1, A1, F1, Dd1, R1, hp⟩ := pr_drop_2 R h7 h8
  have e8 := Value.int.inj (Option.some.inj e7)
  rw [e8]
  refine g_same C 860 dL_law_832 (by decide) ?_
  refine g_perm hp ?_
  exact k _ _ _ _ _ _ _ _ _ _ _ _ _ _ _ _ _ _ _ _ _ _ _ R1

theorem lw_drop_o (C : g_Cx p s m args c cL_law 4 RL D (tysY Y) A9 (eLaw e9 b Ln xI)) (hi : 0 ≤ i ∧ i + 6 ≤ Ln ∧ Ln ≤ 3072) (hxs : ∀ k, inR (xI k)) (hpl : ¬ (0 ≤ xI (i + 1).toNat ∧ xI (i + 1).toNat ≤ 2)) (R : (REL K It L Jd Nd J N Js Ns Jk Nk Ih Ah Ip Ap Bp Ir V M I A F Dd)) (k : ∀ (K It L : Nat → Int) (Jd : Nat → Int) (Nd : Nat → Nat → Int) (J : Nat → Int) (N : Nat → Nat → Int) (Js : Nat → Int) (Ns : Nat → Nat → Int) (Jk : Nat → Nat → Int) (Nk : Nat → Nat → Nat → Int) (Ih : Nat → Int) (Ah : Nat → Nat → Int) (Ip : Nat → Int) (Ap Bp : Nat → Nat → Int) (Ir : Nat → Nat → Int) (V : Nat → Nat → UInt64) (M : Nat → Nat → Int) (I : Nat → Int) (A : Nat → Nat → Int) (F : Nat → UInt32) (Dd : Nat → UInt64), (REL K It L Jd Nd J N Js Ns Jk Nk Ih Ah Ip Ap Bp Ir V M I A F Dd) → g_G p l e room_1 s m args below meth c 4 D A9 Q 77 1630 (wS q Y qt qd qn qs qk qh qp qr qm K It L Jd Nd J N Js Ns Jk Nk Ih Ah Ip Ap Bp Ir V M I A F Dd) [(3, .int (iI i)), (2, .ref (qm 99)), (1, .ref (q 99)), (0, .ref b)] 860 []) : g_G p l e room_1 s m args below meth c 4 D A9 Q 77 1630 (wS q Y qt qd qn qs qk qh qp qr qm K It L Jd Nd J N Js Ns Jk Nk Ih Ah Ip Ap Bp Ir V M I A F Dd) [(3, .int (iI i)), (2, .ref (qm 99)), (1, .ref (q 99)), (0, .ref b)] 814 [] := by
  refine g_aload_n C (n' := 815) 2 rfl dL_law_814 rfl rfl ?_
  refine g_aload_n C (n' := 816) 3 rfl dL_law_815 rfl rfl ?_
  refine g_iload_n C (n' := 817) 0 rfl dL_law_816 rfl rfl ?_
  refine g_iconst C (n' := 818) dL_law_817 rfl ?_
  refine g_iadd C (n' := 819) dL_law_818 rfl ?_
  refine g_ti C (n' := 820) C.2.2.2.2.2.2.2.2.2.2.2 (by omega) (by omega) (by omega) (v := .int (iI (xI (i + 1).toNat))) rfl dL_law_819 rfl ?_
  refine g_callV C (n' := 823) (As := [.int (iI (xI (i + 1).toNat))]) (c_X7_drop_o l D Y C.2.2.2.2.2.2.2.2.1 q qt qd qn qs qk qh qp qr K (xI (i + 1).toNat) hpl (hxs _)) 1 kw_655 kc_X7_drop (by decide +kernel) (pS_T _ _ _ _ _ _ _ _ _ _ _ _ _) 0 (ci := 5) rfl rfl rfl rfl ⟨Nat.le_of_ble_eq_true rfl, Nat.le_of_ble_eq_true rfl⟩ ⟨rfl, rfl⟩ ⟨Nat.le_of_ble_eq_true rfl, Nat.le_of_ble_eq_true rfl⟩ (Nat.le_of_ble_eq_true rfl) dL_law_820 rfl (fun r7 w7 h7 => ?_)
  have hz : ∃ z : Int, r7 = some (.int (iI z)) := by
    exact ⟨_, h7.1⟩
  obtain ⟨z9, rfl⟩ := hz
  refine g_aload_n C (n' := 824) 1 rfl dL_law_823 rfl rfl ?_
  refine g_aload_n C (n' := 825) 3 rfl dL_law_824 rfl rfl ?_
  refine g_iload_n C (n' := 826) 0 rfl dL_law_825 rfl rfl ?_
  refine g_iconst C (n' := 827) dL_law_826 rfl ?_
  refine g_iadd C (n' := 828) dL_law_827 rfl ?_
  refine g_ti C (n' := 829) C.2.2.2.2.2.2.2.2.2.2.2 (by omega) (by omega) (by omega) (v := .int (iI (xI (i + 1).toNat))) rfl dL_law_828 rfl ?_
  refine g_callV C (n' := 832) (As := [.int (iI (xI (i + 1).toNat))]) (c_X8_drop l D Y C.2.2.2.2.2.2.2.2.1 qm I A F Dd (xI (i + 1).toNat) R.2.2.2.2.2.2.2.1.1 R.2.2.2.2.2.2.2.1.2.1 R.2.2.2.2.2.2.2.1.2.2.2 (hxs _)) 1 kw_1037 kc_X8_drop (by decide +kernel) pM 0 (ci := 6) rfl rfl rfl rfl ⟨Nat.le_of_ble_eq_true rfl, Nat.le_of_ble_eq_true rfl⟩ ⟨rfl, rfl⟩ ⟨Nat.le_of_ble_eq_true rfl, Nat.le_of_ble_eq_true rfl⟩ (Nat.le_of_ble_eq_true rfl) dL_law_829 rfl (fun r8 w8 h8 => ?_)
  obtain ⟨z, e7, rfl, K1, It1, L1, Jd1, Nd1, J1, N1, Js1, Ns1, Jk1, Nk1, Ih1, Ah1, Ip1, Ap1, Bp1, Ir1, V1, M1, I1, A1, F1, Dd1, R1, hp⟩ := pr_drop_o R hpl h7 h8
  have e8 := Value.int.inj (Option.some.inj e7)
  rw [e8]
  refine g_same C 860 dL_law_832 (by decide) ?_
  refine g_perm hp ?_
  exact k _ _ _ _ _ _ _ _ _ _ _ _ _ _ _ _ _ _ _ _ _ _ _ R1

theorem lw_count (C : g_Cx p s m args c cL_law 4 RL D (tysY Y) A9 (eLaw e9 b Ln xI)) (hi : 0 ≤ i ∧ i + 6 ≤ Ln ∧ Ln ≤ 3072) (hxs : ∀ k, inR (xI k)) (R : (REL K It L Jd Nd J N Js Ns Jk Nk Ih Ah Ip Ap Bp Ir V M I A F Dd)) (k : ∀ (K It L : Nat → Int) (Jd : Nat → Int) (Nd : Nat → Nat → Int) (J : Nat → Int) (N : Nat → Nat → Int) (Js : Nat → Int) (Ns : Nat → Nat → Int) (Jk : Nat → Nat → Int) (Nk : Nat → Nat → Nat → Int) (Ih : Nat → Int) (Ah : Nat → Nat → Int) (Ip : Nat → Int) (Ap Bp : Nat → Nat → Int) (Ir : Nat → Nat → Int) (V : Nat → Nat → UInt64) (M : Nat → Nat → Int) (I : Nat → Int) (A : Nat → Nat → Int) (F : Nat → UInt32) (Dd : Nat → UInt64), (REL K It L Jd Nd J N Js Ns Jk Nk Ih Ah Ip Ap Bp Ir V M I A F Dd) → g_G p l e room_1 s m args below meth c 4 D A9 Q 77 1630 (wS q Y qt qd qn qs qk qh qp qr qm K It L Jd Nd J N Js Ns Jk Nk Ih Ah Ip Ap Bp Ir V M I A F Dd) [(3, .int (iI i)), (2, .ref (qm 99)), (1, .ref (q 99)), (0, .ref b)] 860 []) : g_G p l e room_1 s m args below meth c 4 D A9 Q 77 1630 (wS q Y qt qd qn qs qk qh qp qr qm K It L Jd Nd J N Js Ns Jk Nk Ih Ah Ip Ap Bp Ir V M I A F Dd) [(3, .int (iI i)), (2, .ref (qm 99)), (1, .ref (q 99)), (0, .ref b)] 837 [] := by
  refine g_aload_n C (n' := 838) 2 rfl dL_law_837 rfl rfl ?_
  refine g_aload_n C (n' := 839) 3 rfl dL_law_838 rfl rfl ?_
  refine g_iload_n C (n' := 840) 0 rfl dL_law_839 rfl rfl ?_
  refine g_iconst C (n' := 841) dL_law_840 rfl ?_
  refine g_iadd C (n' := 842) dL_law_841 rfl ?_
  refine g_ti C (n' := 843) C.2.2.2.2.2.2.2.2.2.2.2 (by omega) (by omega) (by omega) (v := .int (iI (xI (i + 1).toNat))) rfl dL_law_842 rfl ?_
  refine g_callV C (n' := 846) (As := [.int (iI (xI (i + 1).toNat))]) (c_X7_count l D Y C.2.2.2.2.2.2.2.2.1 q qt qd qn qs qk qh qp qr K It L J N Ih Ah (Ir 0) (V 0) (M 0) (Ir 1) (V 1) (M 1) (Ir 2) (V 2) (M 2) (xI (i + 1).toNat) R.2.1.1 R.2.1.2.1 R.2.1.2.2.1 (hxs _)) 1 kw_663 kc_X7_count (by decide +kernel) (pS_count _ _ _ _ _ _ _ _ _ _ _ _ _) 0 (ci := 5) rfl rfl rfl rfl ⟨Nat.le_of_ble_eq_true rfl, Nat.le_of_ble_eq_true rfl⟩ ⟨rfl, rfl⟩ ⟨Nat.le_of_ble_eq_true rfl, Nat.le_of_ble_eq_true rfl⟩ (Nat.le_of_ble_eq_true rfl) dL_law_843 rfl (fun r7 w7 h7 => ?_)
  have hz : ∃ z : Int, r7 = some (.int (iI z)) := by
    exact ⟨_, h7.1⟩
  obtain ⟨z9, rfl⟩ := hz
  refine g_aload_n C (n' := 847) 1 rfl dL_law_846 rfl rfl ?_
  refine g_aload_n C (n' := 848) 3 rfl dL_law_847 rfl rfl ?_
  refine g_iload_n C (n' := 849) 0 rfl dL_law_848 rfl rfl ?_
  refine g_iconst C (n' := 850) dL_law_849 rfl ?_
  refine g_iadd C (n' := 851) dL_law_850 rfl ?_
  refine g_ti C (n' := 852) C.2.2.2.2.2.2.2.2.2.2.2 (by omega) (by omega) (by omega) (v := .int (iI (xI (i + 1).toNat))) rfl dL_law_851 rfl ?_
  refine g_callV C (n' := 855) (As := [.int (iI (xI (i + 1).toNat))]) (c_X8_count l D Y C.2.2.2.2.2.2.2.2.1 qm I A F Dd (xI (i + 1).toNat) R.2.2.2.2.2.2.2.1.1 R.2.2.2.2.2.2.2.1.2.1 (R_o R) R.2.2.2.2.2.2.2.1.2.2.2 (hxs _)) 1 kw_1041 kc_X8_count (by decide +kernel) pM 0 (ci := 6) rfl rfl rfl rfl ⟨Nat.le_of_ble_eq_true rfl, Nat.le_of_ble_eq_true rfl⟩ ⟨rfl, rfl⟩ ⟨Nat.le_of_ble_eq_true rfl, Nat.le_of_ble_eq_true rfl⟩ (Nat.le_of_ble_eq_true rfl) dL_law_852 rfl (fun r8 w8 h8 => ?_)
  obtain ⟨z, e7, rfl, K1, It1, L1, Jd1, Nd1, J1, N1, Js1, Ns1, Jk1, Nk1, Ih1, Ah1, Ip1, Ap1, Bp1, Ir1, V1, M1, I1, A1, F1, Dd1, R1, hp⟩ := pr_count R h7 h8
  have e8 := Value.int.inj (Option.some.inj e7)
  rw [e8]
  refine g_same C 860 dL_law_855 (by decide) ?_
  refine g_perm hp ?_
  exact k _ _ _ _ _ _ _ _ _ _ _ _ _ _ _ _ _ _ _ _ _ _ _ R1

end
