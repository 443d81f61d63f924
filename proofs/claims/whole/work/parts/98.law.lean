/-! the law: what is there at its loop -/
def eLaw (e : Nat → Nat) (b Ln : Nat) (xI : Nat → Int) (A : Nat → Prop) (U : State) (H : Heap) : Prop := wEnv e A U H ∧ cEnv U ∧ va_T .int b Ln (fun k => .int (iI (xI k))) A U H
theorem eLaw_stab (e : Nat → Nat) (b Ln : Nat) (xI : Nat → Int) : g_Stab (eLaw e b Ln xI) := by
  obtain ⟨w1, w2, w3⟩ := wEnv_stab e
  exact ⟨fun A u U H hv h => ⟨w1 A u U H hv h.1, cEnv_moved hv h.2.1, va_T.moved hv h.2.2⟩, fun A U H H1 hq h => ⟨w2 A U H H1 hq h.1, h.2.1, h.2.2.kept hq⟩, fun A B U H hAB h => ⟨w3 A B U H hAB h.1, h.2.1, h.2.2.narrow hAB⟩⟩
theorem eLaw_e {e : Nat → Nat} {b Ln : Nat} {xI : Nat → Int} : g_Env (eLaw e b Ln xI) e := fun _ _ _ h => h.1
theorem eLaw_c {e : Nat → Nat} {b Ln : Nat} {xI : Nat → Int} : g_EnvC (eLaw e b Ln xI) := fun _ _ _ h => h.2.1
section GS
variable {p : Program} {l : Launch} {e : Env} {R : Room} {s : State} {m : MethodId} {args : Array Value} {below : List Frame} {meth : Method} {c : Code} {Q : State → Prop}
variable {cc : ByteArray} {nL : Nat} {own : String} {D : va_G} {tys : List (ClassId × FieldType)} {A : Nat → Prop} {ce sl pc : Nat} {w : va_W} {lv : List (Nat × Value)} {st : List Value} {E : (Nat → Prop) → State → Heap → Prop}
theorem g_same (C : g_Cx p s m args c cc nL own D tys A E) {v : Int32} {off : Int} (tgt : Nat) (hdg : decode cc pc = .ok (.if_icmp .eq off, 3)) (ht : (pc : Int) + off = (tgt : Int)) (k : g_G p l e R s m args below meth c nL D A Q ce sl w lv tgt st) : g_G p l e R s m args below meth c nL D A Q ce sl w lv pc (.int v :: .int v :: st) := fun d0 H locs ls hd hP hD hS hl => lv_icmp_eq C.1 C.2.1 hdg ht (fun _ => k d0 H locs ls hd hP hD hS hl) (fun h => absurd rfl h)
end GS

section
variable {K It L : Nat → Int} {Jd : Nat → Int} {Nd : Nat → Nat → Int} {J : Nat → Int} {N : Nat → Nat → Int} {Js : Nat → Int} {Ns : Nat → Nat → Int} {Jk : Nat → Nat → Int} {Nk : Nat → Nat → Nat → Int} {Ih : Nat → Int} {Ah : Nat → Nat → Int} {Ip : Nat → Int} {Ap Bp : Nat → Nat → Int} {Ir : Nat → Nat → Int} {V : Nat → Nat → UInt64} {M : Nat → Nat → Int} {I : Nat → Int} {A : Nat → Nat → Int} {F : Nat → UInt32} {Dd : Nat → UInt64}
variable {q : Nat → Nat} {Y : Nat → ClassId} {qt qd qn qs : Nat → Nat} {qk : Nat → Nat → Nat} {qh qp : Nat → Nat} {qr : Nat → Nat → Nat} {qm : Nat → Nat}
variable {p : Program} {l : Launch} {e : Env} {s : State} {m : MethodId} {args : Array Value} {below : List Frame} {meth : Method} {c : Code} {Q : State → Prop} {D : va_G} {A9 : Nat → Prop} {e9 : Nat → Nat} {b Ln : Nat} {xI : Nat → Int} {i : Int}
theorem lw_write (C : g_Cx p s m args c cL_law 4 RL D (tysY Y) A9 (eLaw e9 b Ln xI)) (hi : 0 ≤ i ∧ i + 6 ≤ Ln ∧ Ln ≤ 3072) (hxs : ∀ k, inR (xI k)) (R : (REL K It L Jd Nd J N Js Ns Jk Nk Ih Ah Ip Ap Bp Ir V M I A F Dd)) (k : ∀ (K It L : Nat → Int) (Jd : Nat → Int) (Nd : Nat → Nat → Int) (J : Nat → Int) (N : Nat → Nat → Int) (Js : Nat → Int) (Ns : Nat → Nat → Int) (Jk : Nat → Nat → Int) (Nk : Nat → Nat → Nat → Int) (Ih : Nat → Int) (Ah : Nat → Nat → Int) (Ip : Nat → Int) (Ap Bp : Nat → Nat → Int) (Ir : Nat → Nat → Int) (V : Nat → Nat → UInt64) (M : Nat → Nat → Int) (I : Nat → Int) (A : Nat → Nat → Int) (F : Nat → UInt32) (Dd : Nat → UInt64), (REL K It L Jd Nd J N Js Ns Jk Nk Ih Ah Ip Ap Bp Ir V M I A F Dd) → g_G p l e room_1 s m args below meth c 4 D A9 Q 77 1630 (wS q Y qt qd qn qs qk qh qp qr qm K It L Jd Nd J N Js Ns Jk Nk Ih Ah Ip Ap Bp Ir V M I A F Dd) [(3, .int (iI i)), (2, .ref (qm 99)), (1, .ref (q 99)), (0, .ref b)] 860 []) : g_G p l e room_1 s m args below meth c 4 D A9 Q 77 1630 (wS q Y qt qd qn qs qk qh qp qr qm K It L Jd Nd J N Js Ns Jk Nk Ih Ah Ip Ap Bp Ir V M I A F Dd) [(3, .int (iI i)), (2, .ref (qm 99)), (1, .ref (q 99)), (0, .ref b)] 152 [] := by
  refine g_aload_n C (n' := 153) 2 rfl dL_law_152 rfl rfl ?_
  refine g_aload_n C (n' := 154) 3 rfl dL_law_153 rfl rfl ?_
  refine g_iload_n C (n' := 155) 0 rfl dL_law_154 rfl rfl ?_
  refine g_iconst C (n' := 156) dL_law_155 rfl ?_
  refine g_iadd C (n' := 157) dL_law_156 rfl ?_
  refine g_ti C (n' := 158) C.2.2.2.2.2.2.2.2.2.2.2 (by omega) (by omega) (by omega) (v := .int (iI (xI (i + 1).toNat))) rfl dL_law_157 rfl ?_
  refine g_callV C (n' := 161) (As := [.int (iI (xI (i + 1).toNat))]) (c_X7_write l D Y C.2.2.2.2.2.2.2.2.1 q qt qd qn qs qk qh qp qr K It L (xI (i + 1).toNat) R.1.1 R.1.2.1 R.1.2.2.1 (hxs _)) 1 kw_213 kc_X7_write (by decide +kernel) (pS_text _ _ _ _ _ _ _ _ _ _ _ _ _) 0 (ci := 5) rfl rfl rfl rfl ⟨Nat.le_of_ble_eq_true rfl, Nat.le_of_ble_eq_true rfl⟩ ⟨rfl, rfl⟩ ⟨Nat.le_of_ble_eq_true rfl, Nat.le_of_ble_eq_true rfl⟩ (Nat.le_of_ble_eq_true rfl) dL_law_158 rfl (fun r7 w7 h7 => ?_)
  have hz : ∃ z : Int, r7 = some (.int (iI z)) := by
    rcases h7 with ⟨_, h, _⟩ | ⟨_, ⟨_, h, _⟩ | ⟨_, h, _⟩⟩ <;> exact ⟨_, h⟩
  obtain ⟨z9, rfl⟩ := hz
  refine g_aload_n C (n' := 162) 1 rfl dL_law_161 rfl rfl ?_
  refine g_aload_n C (n' := 163) 3 rfl dL_law_162 rfl rfl ?_
  refine g_iload_n C (n' := 164) 0 rfl dL_law_163 rfl rfl ?_
  refine g_iconst C (n' := 165) dL_law_164 rfl ?_
  refine g_iadd C (n' := 166) dL_law_165 rfl ?_
  refine g_ti C (n' := 167) C.2.2.2.2.2.2.2.2.2.2.2 (by omega) (by omega) (by omega) (v := .int (iI (xI (i + 1).toNat))) rfl dL_law_166 rfl ?_
  refine g_callV C (n' := 170) (As := [.int (iI (xI (i + 1).toNat))]) (c_X8_write l D Y C.2.2.2.2.2.2.2.2.1 qm I A F Dd (xI (i + 1).toNat) R.2.2.2.2.2.2.2.1.1 R.2.2.2.2.2.2.2.1.2.1 (hxs _) (R_11 R)) 1 kw_797 kc_X8_write (by decide +kernel) pM 0 (ci := 6) rfl rfl rfl rfl ⟨Nat.le_of_ble_eq_true rfl, Nat.le_of_ble_eq_true rfl⟩ ⟨rfl, rfl⟩ ⟨Nat.le_of_ble_eq_true rfl, Nat.le_of_ble_eq_true rfl⟩ (Nat.le_of_ble_eq_true rfl) dL_law_167 rfl (fun r8 w8 h8 => ?_)
  obtain ⟨z, e7, rfl, K1, It1, L1, Jd1, Nd1, J1, N1, Js1, Ns1, Jk1, Nk1, Ih1, Ah1, Ip1, Ap1, Bp1, Ir1, V1, M1, I1, A1, F1, Dd1, R1, hp⟩ := pr_write R h7 h8
  obtain ⟨e7⟩ := Option.some.inj e7
  refine g_same C 860 dL_law_170 (by decide) ?_
  refine g_perm hp ?_
  exact k _ _ _ _ _ _ _ _ _ _ _ _ _ _ _ _ _ _ _ _ _ _ _ R1

theorem lw_path (C : g_Cx p s m args c cL_law 4 RL D (tysY Y) A9 (eLaw e9 b Ln xI)) (hi : 0 ≤ i ∧ i + 6 ≤ Ln ∧ Ln ≤ 3072) (hxs : ∀ k, inR (xI k)) (R : (REL K It L Jd Nd J N Js Ns Jk Nk Ih Ah Ip Ap Bp Ir V M I A F Dd)) (k : ∀ (K It L : Nat → Int) (Jd : Nat → Int) (Nd : Nat → Nat → Int) (J : Nat → Int) (N : Nat → Nat → Int) (Js : Nat → Int) (Ns : Nat → Nat → Int) (Jk : Nat → Nat → Int) (Nk : Nat → Nat → Nat → Int) (Ih : Nat → Int) (Ah : Nat → Nat → Int) (Ip : Nat → Int) (Ap Bp : Nat → Nat → Int) (Ir : Nat → Nat → Int) (V : Nat → Nat → UInt64) (M : Nat → Nat → Int) (I : Nat → Int) (A : Nat → Nat → Int) (F : Nat → UInt32) (Dd : Nat → UInt64), (REL K It L Jd Nd J N Js Ns Jk Nk Ih Ah Ip Ap Bp Ir V M I A F Dd) → g_G p l e room_1 s m args below meth c 4 D A9 Q 77 1630 (wS q Y qt qd qn qs qk qh qp qr qm K It L Jd Nd J N Js Ns Jk Nk Ih Ah Ip Ap Bp Ir V M I A F Dd) [(3, .int (iI i)), (2, .ref (qm 99)), (1, .ref (q 99)), (0, .ref b)] 860 []) : g_G p l e room_1 s m args below meth c 4 D A9 Q 77 1630 (wS q Y qt qd qn qs qk qh qp qr qm K It L Jd Nd J N Js Ns Jk Nk Ih Ah Ip Ap Bp Ir V M I A F Dd) [(3, .int (iI i)), (2, .ref (qm 99)), (1, .ref (q 99)), (0, .ref b)] 214 [] := by
  refine g_aload_n C (n' := 215) 2 rfl dL_law_214 rfl rfl ?_
  refine g_aload_n C (n' := 216) 3 rfl dL_law_215 rfl rfl ?_
  refine g_iload_n C (n' := 217) 0 rfl dL_law_216 rfl rfl ?_
  refine g_iconst C (n' := 218) dL_law_217 rfl ?_
  refine g_iadd C (n' := 219) dL_law_218 rfl ?_
  refine g_ti C (n' := 220) C.2.2.2.2.2.2.2.2.2.2.2 (by omega) (by omega) (by omega) (v := .int (iI (xI (i + 1).toNat))) rfl dL_law_219 rfl ?_
  refine g_aload_n C (n' := 221) 3 rfl dL_law_220 rfl rfl ?_
  refine g_iload_n C (n' := 222) 0 rfl dL_law_221 rfl rfl ?_
  refine g_iconst C (n' := 223) dL_law_222 rfl ?_
  refine g_iadd C (n' := 224) dL_law_223 rfl ?_
  refine g_ti C (n' := 225) C.2.2.2.2.2.2.2.2.2.2.2 (by omega) (by omega) (by omega) (v := .int (iI (xI (i + 2).toNat))) rfl dL_law_224 rfl ?_
  refine g_callV C (n' := 228) (As := [.int (iI (xI (i + 1).toNat)), .int (iI (xI (i + 2).toNat))]) (c_X7_path l D Y C.2.2.2.2.2.2.2.2.1 q qt qd qn qs qk qh qp qr K J N (xI (i + 1).toNat) (xI (i + 2).toNat) R.2.1.1 R.2.1.2.1 R.2.1.2.2.1 (hxs _) (hxs _)) 2 kw_376 kc_X7_path (by decide +kernel) (pS_now _ _ _ _ _ _ _ _ _ _ _ _ _) 0 (ci := 5) rfl rfl rfl rfl ⟨Nat.le_of_ble_eq_true rfl, Nat.le_of_ble_eq_true rfl⟩ ⟨rfl, rfl⟩ ⟨Nat.le_of_ble_eq_true rfl, Nat.le_of_ble_eq_true rfl⟩ (Nat.le_of_ble_eq_true rfl) dL_law_225 rfl (fun r7 w7 h7 => ?_)
  have hz : ∃ z : Int, r7 = some (.int (iI z)) := by
    exact ⟨_, h7.1⟩
  obtain ⟨z9, rfl⟩ := hz
  refine g_aload_n C (n' := 229) 1 rfl dL_law_228 rfl rfl ?_
  refine g_aload_n C (n' := 230) 3 rfl dL_law_229 rfl rfl ?_
  refine g_iload_n C (n' := 231) 0 rfl dL_law_230 rfl rfl ?_
  refine g_iconst C (n' := 232) dL_law_231 rfl ?_
  refine g_iadd C (n' := 233) dL_law_232 rfl ?_
  refine g_ti C (n' := 234) C.2.2.2.2.2.2.2.2.2.2.2 (by omega) (by omega) (by omega) (v := .int (iI (xI (i + 1).toNat))) rfl dL_law_233 rfl ?_
  refine g_aload_n C (n' := 235) 3 rfl dL_law_234 rfl rfl ?_
  refine g_iload_n C (n' := 236) 0 rfl dL_law_235 rfl rfl ?_
  refine g_iconst C (n' := 237) dL_law_236 rfl ?_
  refine g_iadd C (n' := 238) dL_law_237 rfl ?_
  refine g_ti C (n' := 239) C.2.2.2.2.2.2.2.2.2.2.2 (by omega) (by omega) (by omega) (v := .int (iI (xI (i + 2).toNat))) rfl dL_law_238 rfl ?_
  refine g_callV C (n' := 242) (As := [.int (iI (xI (i + 1).toNat)), .int (iI (xI (i + 2).toNat))]) (c_X8_path l D Y C.2.2.2.2.2.2.2.2.1 qm I A F Dd (xI (i + 1).toNat) (xI (i + 2).toNat) R.2.2.2.2.2.2.2.1.1 R.2.2.2.2.2.2.2.1.2.1 (R_o R) (hxs _) (hxs _)) 2 kw_859 kc_X8_path (by decide +kernel) pM 0 (ci := 6) rfl rfl rfl rfl ⟨Nat.le_of_ble_eq_true rfl, Nat.le_of_ble_eq_true rfl⟩ ⟨rfl, rfl⟩ ⟨Nat.le_of_ble_eq_true rfl, Nat.le_of_ble_eq_true rfl⟩ (Nat.le_of_ble_eq_true rfl) dL_law_239 rfl (fun r8 w8 h8 => ?_)
  obtain ⟨z, e7, rfl, K1, It1, L1, Jd1, Nd1, J1, N1, Js1, Ns1, Jk1, Nk1, Ih1, Ah1, Ip1, Ap1, Bp1, Ir1, V1, M1, I1, A1, F1, Dd1, R1, hp⟩ := pr_path R h7 h8
  obtain ⟨e7⟩ := Option.some.inj e7
  refine g_same C 860 dL_law_242 (by decide) ?_
  refine g_perm hp ?_
  exact k _ _ _ _ _ _ _ _ _ _ _ _ _ _ _ _ _ _ _ _ _ _ _ R1

end
