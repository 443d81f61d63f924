/-! the law: its loop -/
section
variable {K It L : Nat → Int} {Jd : Nat → Int} {Nd : Nat → Nat → Int} {J : Nat → Int} {N : Nat → Nat → Int} {Js : Nat → Int} {Ns : Nat → Nat → Int} {Jk : Nat → Nat → Int} {Nk : Nat → Nat → Nat → Int} {Ih : Nat → Int} {Ah : Nat → Nat → Int} {Ip : Nat → Int} {Ap Bp : Nat → Nat → Int} {Ir : Nat → Nat → Int} {V : Nat → Nat → UInt64} {M : Nat → Nat → Int} {I : Nat → Int} {A : Nat → Nat → Int} {F : Nat → UInt32} {Dd : Nat → UInt64}
variable {q : Nat → Nat} {Y : Nat → ClassId} {qt qd qn qs : Nat → Nat} {qk : Nat → Nat → Nat} {qh qp : Nat → Nat} {qr : Nat → Nat → Nat} {qm : Nat → Nat}
variable {p : Program} {l : Launch} {e : Env} {s : State} {m : MethodId} {args : Array Value} {below : List Frame} {meth : Method} {c : Code} {Q : State → Prop} {D : va_G} {A9 : Nat → Prop} {e9 : Nat → Nat} {b Ln : Nat} {xI : Nat → Int} {i : Int}
theorem lw_step (C : g_Cx p s m args c cL_law 4 RL D (tysY Y) A9 (eLaw e9 b Ln xI)) (hi : 0 ≤ i ∧ i + 6 ≤ Ln ∧ Ln ≤ 3072) (hxs : ∀ k, inR (xI k)) (R : (REL K It L Jd Nd J N Js Ns Jk Nk Ih Ah Ip Ap Bp Ir V M I A F Dd)) (hk : ∀ (K It L : Nat → Int) (Jd : Nat → Int) (Nd : Nat → Nat → Int) (J : Nat → Int) (N : Nat → Nat → Int) (Js : Nat → Int) (Ns : Nat → Nat → Int) (Jk : Nat → Nat → Int) (Nk : Nat → Nat → Nat → Int) (Ih : Nat → Int) (Ah : Nat → Nat → Int) (Ip : Nat → Int) (Ap Bp : Nat → Nat → Int) (Ir : Nat → Nat → Int) (V : Nat → Nat → UInt64) (M : Nat → Nat → Int) (I : Nat → Int) (A : Nat → Nat → Int) (F : Nat → UInt32) (Dd : Nat → UInt64), (REL K It L Jd Nd J N Js Ns Jk Nk Ih Ah Ip Ap Bp Ir V M I A F Dd) → g_G p l e room_1 s m args below meth c 4 D A9 Q 77 1630 (wS q Y qt qd qn qs qk qh qp qr qm K It L Jd Nd J N Js Ns Jk Nk Ih Ah Ip Ap Bp Ir V M I A F Dd) [(3, .int (iI i)), (2, .ref (qm 99)), (1, .ref (q 99)), (0, .ref b)] 860 []) {v : Int} (hv : inR v) : g_G p l e room_1 s m args below meth c 4 D A9 Q 77 1630 (wS q Y qt qd qn qs qk qh qp qr qm K It L Jd Nd J N Js Ns Jk Nk Ih Ah Ip Ap Bp Ir V M I A F Dd) [(3, .int (iI i)), (2, .ref (qm 99)), (1, .ref (q 99)), (0, .ref b)] 33 [.int (iI v)] := by
  by_cases h0 : v < 0 ∨ 25 < v
  · exact g_tsOut C 860 dL_law_33 hv h0 (by decide) (hk _ _ _ _ _ _ _ _ _ _ _ _ _ _ _ _ _ _ _ _ _ _ _ R)
  by_cases h1 : v = 0
  · refine g_tsIn C 152 dL_law_33 hv (by omega) (by omega) (by rw [h1]; rfl) (by decide) ?_
    exact lw_write C hi hxs R hk
  by_cases h2 : v = 1
  · refine g_tsIn C 175 dL_law_33 hv (by omega) (by omega) (by rw [h2]; rfl) (by decide) ?_
    exact lw_erase C hi hxs R hk
  by_cases h3 : v = 2
  · refine g_tsIn C 188 dL_law_33 hv (by omega) (by omega) (by rw [h3]; rfl) (by decide) ?_
    exact lw_fault C hi hxs R hk
  by_cases h4 : v = 3
  · refine g_tsIn C 201 dL_law_33 hv (by omega) (by omega) (by rw [h4]; rfl) (by decide) ?_
    exact lw_net C hi hxs R hk
  by_cases h5 : v = 4
  · refine g_tsIn C 214 dL_law_33 hv (by omega) (by omega) (by rw [h5]; rfl) (by decide) ?_
    exact lw_path C hi hxs R hk
  by_cases h6 : v = 5
  · refine g_tsIn C 247 dL_law_33 hv (by omega) (by omega) (by rw [h6]; rfl) (by decide) ?_
    exact lw_period C hi hxs R hk
  by_cases h7 : v = 6
  · refine g_tsIn C 270 dL_law_33 hv (by omega) (by omega) (by rw [h7]; rfl) (by decide) ?_
    exact lw_slower C hi hxs R hk
  by_cases h8 : v = 7
  · refine g_tsIn C 303 dL_law_33 hv (by omega) (by omega) (by rw [h8]; rfl) (by decide) ?_
    exact lw_undo C hi hxs R hk
  by_cases h9 : v = 8
  · refine g_tsIn C 316 dL_law_33 hv (by omega) (by omega) (by rw [h9]; rfl) (by decide) ?_
    by_cases k0 : xI (i + 1).toNat = 0
    · exact lw_keep_0 C hi hxs k0 R hk
    by_cases k1 : xI (i + 1).toNat = 1
    · exact lw_keep_1 C hi hxs k1 R hk
    exact lw_keep_o C hi hxs (by omega) R hk
  by_cases h10 : v = 9
  · refine g_tsIn C 339 dL_law_33 hv (by omega) (by omega) (by rw [h10]; rfl) (by decide) ?_
    by_cases k0 : xI (i + 1).toNat = 0
    · exact lw_back_0 C hi hxs k0 R hk
    by_cases k1 : xI (i + 1).toNat = 1
    · exact lw_back_1 C hi hxs k1 R hk
    exact lw_back_o C hi hxs (by omega) R hk
  by_cases h11 : v = 10
  · refine g_tsIn C 362 dL_law_33 hv (by omega) (by omega) (by rw [h11]; rfl) (by decide) ?_
    exact lw_feasible C hi hxs R hk
  by_cases h12 : v = 11
  · refine g_tsIn C 375 dL_law_33 hv (by omega) (by omega) (by rw [h12]; rfl) (by decide) ?_
    exact lw_shift C hi hxs R hk
  by_cases h13 : v = 12
  · refine g_tsIn C 398 dL_law_33 hv (by omega) (by omega) (by rw [h13]; rfl) (by decide) ?_
    exact lw_least C hi hxs R hk
  by_cases h14 : v = 13
  · refine g_tsIn C 411 dL_law_33 hv (by omega) (by omega) (by rw [h14]; rfl) (by decide) ?_
    exact lw_rate C hi hxs R hk
  by_cases h15 : v = 14
  · refine g_tsIn C 434 dL_law_33 hv (by omega) (by omega) (by rw [h15]; rfl) (by decide) ?_
    exact lw_margin C hi hxs R hk
  by_cases h16 : v = 15
  · refine g_tsIn C 447 dL_law_33 hv (by omega) (by omega) (by rw [h16]; rfl) (by decide) ?_
    exact lw_spare C hi hxs R hk
  by_cases h17 : v = 16
  · refine g_tsIn C 480 dL_law_33 hv (by omega) (by omega) (by rw [h17]; rfl) (by decide) ?_
    exact lw_cycle C hi hxs R hk
  by_cases h18 : v = 17
  · refine g_tsIn C 503 dL_law_33 hv (by omega) (by omega) (by rw [h18]; rfl) (by decide) ?_
    exact lw_buffer C hi hxs R hk
  by_cases h19 : v = 18
  · refine g_tsIn C 526 dL_law_33 hv (by omega) (by omega) (by rw [h19]; rfl) (by decide) ?_
    by_cases k0 : xI (i + 1).toNat = 0
    · exact lw_trace_0 C hi hxs k0 R hk
    by_cases k1 : xI (i + 1).toNat = 1
    · exact lw_trace_1 C hi hxs k1 R hk
    by_cases k2 : xI (i + 1).toNat = 2
    · exact lw_trace_2 C hi hxs k2 R hk
    exact lw_trace_o C hi hxs (by omega) R hk
  by_cases h20 : v = 19
  · refine g_tsIn C 569 dL_law_33 hv (by omega) (by omega) (by rw [h20]; rfl) (by decide) ?_
    by_cases k0 : xI (i + 1).toNat = 0
    · exact lw_set_0 C hi hxs k0 R hk
    by_cases k1 : xI (i + 1).toNat = 1
    · exact lw_set_1 C hi hxs k1 R hk
    by_cases k2 : xI (i + 1).toNat = 2
    · exact lw_set_2 C hi hxs k2 R hk
    exact lw_set_o C hi hxs (by omega) R hk
  by_cases h21 : v = 20
  · refine g_tsIn C 632 dL_law_33 hv (by omega) (by omega) (by rw [h21]; rfl) (by decide) ?_
    by_cases k0 : xI (i + 1).toNat = 0
    · exact lw_get_0 C hi hxs k0 R hk
    by_cases k1 : xI (i + 1).toNat = 1
    · exact lw_get_1 C hi hxs k1 R hk
    by_cases k2 : xI (i + 1).toNat = 2
    · exact lw_get_2 C hi hxs k2 R hk
    exact lw_get_o C hi hxs (by omega) R hk
  by_cases h22 : v = 21
  · refine g_tsIn C 675 dL_law_33 hv (by omega) (by omega) (by rw [h22]; rfl) (by decide) ?_
    by_cases k0 : xI (i + 1).toNat = 0
    · exact lw_rest_0 C hi hxs k0 R hk
    by_cases k1 : xI (i + 1).toNat = 1
    · exact lw_rest_1 C hi hxs k1 R hk
    by_cases k2 : xI (i + 1).toNat = 2
    · exact lw_rest_2 C hi hxs k2 R hk
    exact lw_rest_o C hi hxs (by omega) R hk
  by_cases h23 : v = 22
  · refine g_tsIn C 728 dL_law_33 hv (by omega) (by omega) (by rw [h23]; rfl) (by decide) ?_
    by_cases k0 : xI (i + 1).toNat = 0
    · exact lw_compare_0 C hi hxs k0 R hk
    by_cases k1 : xI (i + 1).toNat = 1
    · exact lw_compare_1 C hi hxs k1 R hk
    by_cases k2 : xI (i + 1).toNat = 2
    · exact lw_compare_2 C hi hxs k2 R hk
    exact lw_compare_o C hi hxs (by omega) R hk
  by_cases h24 : v = 23
  · refine g_tsIn C 781 dL_law_33 hv (by omega) (by omega) (by rw [h24]; rfl) (by decide) ?_
    by_cases k0 : xI (i + 1).toNat = 0
    · exact lw_sum_0 C hi hxs k0 R hk
    by_cases k1 : xI (i + 1).toNat = 1
    · exact lw_sum_1 C hi hxs k1 R hk
    by_cases k2 : xI (i + 1).toNat = 2
    · exact lw_sum_2 C hi hxs k2 R hk
    exact lw_sum_o C hi hxs (by omega) R hk
  by_cases h25 : v = 24
  · refine g_tsIn C 814 dL_law_33 hv (by omega) (by omega) (by rw [h25]; rfl) (by decide) ?_
    by_cases k0 : xI (i + 1).toNat = 0
    · exact lw_drop_0 C hi hxs k0 R hk
    by_cases k1 : xI (i + 1).toNat = 1
    · exact lw_drop_1 C hi hxs k1 R hk
    by_cases k2 : xI (i + 1).toNat = 2
    · exact lw_drop_2 C hi hxs k2 R hk
    exact lw_drop_o C hi hxs (by omega) R hk
  by_cases h26 : v = 25
  · refine g_tsIn C 837 dL_law_33 hv (by omega) (by omega) (by rw [h26]; rfl) (by decide) ?_
    exact lw_count C hi hxs R hk
  omega
theorem lw_loop (C : g_Cx p s m args c cL_law 4 RL D (tysY Y) A9 (eLaw e9 b Ln xI)) (hLn : Ln ≤ 3072) (hxs : ∀ k, inR (xI k)) (hend : ∀ w lv, g_G p l e room_1 s m args below meth c 4 D A9 Q 77 1630 w lv 866 []) : ∀ (n : Nat) (i : Int), 0 ≤ i → i ≤ 3072 → (Ln : Int) - i < n → ∀ (K It L : Nat → Int) (Jd : Nat → Int) (Nd : Nat → Nat → Int) (J : Nat → Int) (N : Nat → Nat → Int) (Js : Nat → Int) (Ns : Nat → Nat → Int) (Jk : Nat → Nat → Int) (Nk : Nat → Nat → Nat → Int) (Ih : Nat → Int) (Ah : Nat → Nat → Int) (Ip : Nat → Int) (Ap Bp : Nat → Nat → Int) (Ir : Nat → Nat → Int) (V : Nat → Nat → UInt64) (M : Nat → Nat → Int) (I : Nat → Int) (A : Nat → Nat → Int) (F : Nat → UInt32) (Dd : Nat → UInt64), (REL K It L Jd Nd J N Js Ns Jk Nk Ih Ah Ip Ap Bp Ir V M I A F Dd) → g_G p l e room_1 s m args below meth c 4 D A9 Q 77 1630 (wS q Y qt qd qn qs qk qh qp qr qm K It L Jd Nd J N Js Ns Jk Nk Ih Ah Ip Ap Bp Ir V M I A F Dd) [(3, .int (iI i)), (2, .ref (qm 99)), (1, .ref (q 99)), (0, .ref b)] 18 []
  | 0, i, h0, h1, h2 => by
    intro K It L Jd Nd J N Js Ns Jk Nk Ih Ah Ip Ap Bp Ir V M I A F Dd R
    refine g_iload_n C (n' := 19) 0 rfl dL_law_18 rfl rfl ?_
    refine g_aload_n C (n' := 20) 3 rfl dL_law_19 rfl rfl ?_
    refine g_tlen C (n' := 21) C.2.2.2.2.2.2.2.2.2.2.2 (v := (Ln : Int)) rfl dL_law_20 rfl ?_
    refine g_bipush C (n' := 23) (by decide) dL_law_21 rfl ?_
    refine g_isub C (n' := 24) dL_law_23 rfl ?_
    refine g_icmp_gt C (n' := 27) 866 dL_law_24 (by decide) rfl (by unfold inR; omega) (by unfold inR; omega) (fun _ => hend _ _) (fun c1 => ?_)
    omega
  | n + 1, i, h0, h1, h2 => by
    intro K It L Jd Nd J N Js Ns Jk Nk Ih Ah Ip Ap Bp Ir V M I A F Dd R
    refine g_iload_n C (n' := 19) 0 rfl dL_law_18 rfl rfl ?_
    refine g_aload_n C (n' := 20) 3 rfl dL_law_19 rfl rfl ?_
    refine g_tlen C (n' := 21) C.2.2.2.2.2.2.2.2.2.2.2 (v := (Ln : Int)) rfl dL_law_20 rfl ?_
    refine g_bipush C (n' := 23) (by decide) dL_law_21 rfl ?_
    refine g_isub C (n' := 24) dL_law_23 rfl ?_
    refine g_icmp_gt C (n' := 27) 866 dL_law_24 (by decide) rfl (by unfold inR; omega) (by unfold inR; omega) (fun _ => hend _ _) (fun c1 => ?_)
    refine g_aload_n C (n' := 28) 3 rfl dL_law_27 rfl rfl ?_
    refine g_iload_n C (n' := 29) 0 rfl dL_law_28 rfl rfl ?_
    refine g_ti C (n' := 30) C.2.2.2.2.2.2.2.2.2.2.2 (by omega) (by omega) (by omega) (v := .int (iI (xI i.toNat))) rfl dL_law_29 rfl ?_
    refine g_bipush C (n' := 32) (by decide) dL_law_30 rfl ?_
    refine g_iand C (n' := 33) (iI (xI i.toNat) &&& iI 31).toInt (iI_of _) dL_law_32 rfl ?_
    refine lw_step C ⟨h0, by omega, hLn⟩ hxs R ?_ ⟨Int32.le_toInt _, Int32.toInt_lt _⟩
    intro K It L Jd Nd J N Js Ns Jk Nk Ih Ah Ip Ap Bp Ir V M I A F Dd R
    refine g_iinc C (n' := 863) 0 [(3, .int (iI (i + 6))), (2, .ref (qm 99)), (1, .ref (q 99)), (0, .ref b)] rfl dL_law_860 rfl (by decide) rfl ?_
    refine g_goto C 18 dL_law_863 (by decide) ?_
    exact lw_loop C hLn hxs hend n (i + 6) (by omega) (by omega) (by omega) K It L Jd Nd J N Js Ns Jk Nk Ih Ah Ip Ap Bp Ir V M I A F Dd R
end
