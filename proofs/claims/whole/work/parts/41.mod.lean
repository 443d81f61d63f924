/-! the reference: tokens -/
def tk1 (L : Nat → Int) (n e : Int) : Int := t_skip L n 200 e
def tk2 (L : Nat → Int) (n e : Int) : Int := t_end L n (t_skip L n 200 e)
def mtok (I : Nat → Int) : Prop := 0 ≤ I 17 ∧ I 17 ≤ 200 ∧ 0 ≤ I 11 ∧ I 11 ≤ 200
theorem tk_r {L : Nat → Int} {n e : Int} (he : 0 ≤ e ∧ e ≤ 200) (hn : n ≤ 200) : 0 ≤ tk1 L n e ∧ tk1 L n e ≤ tk2 L n e ∧ tk2 L n e ≤ 200 ∧ (tk2 L n e ≤ n ∨ tk2 L n e = tk1 L n e) := by
  have h1 := t_skip_r L n 200 e
  have h2 := t_end_r L n (t_skip L n 200 e)
  unfold tk1 tk2
  omega
theorem t_cls_1 {x : Int} : t_cls x = 1 ↔ 97 ≤ x ∧ x ≤ 122 := by
  unfold t_cls
  (repeat' split) <;> omega
theorem t_cls_2 {x : Int} : t_cls x = 2 ↔ 48 ≤ x ∧ x ≤ 57 := by
  unfold t_cls
  (repeat' split) <;> omega
set_option maxRecDepth 100000 in
set_option maxHeartbeats 4000000 in
theorem lp_X8_nt1 {p9 : Program} {l : Launch} {e9 : Env} {s9 : State} {m9 : MethodId} {a9 : Array Value} {b9 : List Frame} {t9 : Method} {c9 : Code} {D : va_G} {A9 : Nat → Prop} {Q9 : State → Prop} {E : (Nat → Prop) → State → Heap → Prop} {Y : Nat → ClassId} (C : g_Cx p9 s9 m9 a9 c9 cX8_nextToken 1 RX8 D (tysY Y) A9 E) (q : Nat → Nat) (I : Nat → Int) (A : Nat → Nat → Int) (F : Nat → UInt32) (Dd : Nat → UInt64) (hsI : smI I) (hsA : smA A) (hT : mtok I) : ∀ (n9 : Nat) (i : Int), 0 ≤ i → i ≤ 200 → I 11 - i ≤ n9 → (g_G p9 l e9 ({ frames := 2, cells := 0, slots := 0, locals := 45 } : Room) s9 m9 a9 b9 t9 c9 1 D A9 Q9 0 0 (wMod q Y (sU I 16 (t_skip (A 10) (I 11) n9 i)) A F Dd) [(0, .ref (q 99))] 46 []) → g_G p9 l e9 ({ frames := 2, cells := 0, slots := 0, locals := 45 } : Room) s9 m9 a9 b9 t9 c9 1 D A9 Q9 0 0 (wMod q Y (sU I 16 i) A F Dd) [(0, .ref (q 99))] 8 [] := by
  have hE := C.2.2.2.2.2.2.2.2.1
  intro n9
  induction n9 with
  | zero =>
    intro i hi hi2 hm K
    have hI := hsI
    have hA := hsA
    unfold smI at hI
    unfold smA at hA
    have hT9 := hT
    unfold mtok at hT9
    refine g_aload_n C (n' := 9) 0 rfl dX8_nextToken_8 rfl rfl ?_
    refine g_get C (n' := 12) (Cn := RX8) (T := TX8) (N := 35) (ci := 6) (v := .int (iI i)) ga_X8 0 rfl rfl 16 (by decide) kw_706 rfl rfl dX8_nextToken_9 rfl ?_
    refine g_aload_n C (n' := 13) 0 rfl dX8_nextToken_12 rfl rfl ?_
    refine g_get C (n' := 16) (Cn := RX8) (T := TX8) (N := 35) (ci := 6) (v := .int (iI (I 11))) ga_X8 0 rfl rfl 11 (by decide) kw_701 rfl rfl dX8_nextToken_13 rfl ?_
    have h_13 := hI 11
    refine g_icmp_ge C (n' := 19) 46 dX8_nextToken_16 (by decide) rfl (by unfold inR; omega) (by unfold inR; omega) (fun c1 => ?_) (fun c1 => ?_)
    · skip
      exact K
    · skip
      exfalso
      omega
  | succ n9 ih =>
    intro i hi hi2 hm K
    have hI := hsI
    have hA := hsA
    unfold smI at hI
    unfold smA at hA
    have hT9 := hT
    unfold mtok at hT9
    refine g_aload_n C (n' := 9) 0 rfl dX8_nextToken_8 rfl rfl ?_
    refine g_get C (n' := 12) (Cn := RX8) (T := TX8) (N := 35) (ci := 6) (v := .int (iI i)) ga_X8 0 rfl rfl 16 (by decide) kw_706 rfl rfl dX8_nextToken_9 rfl ?_
    refine g_aload_n C (n' := 13) 0 rfl dX8_nextToken_12 rfl rfl ?_
    refine g_get C (n' := 16) (Cn := RX8) (T := TX8) (N := 35) (ci := 6) (v := .int (iI (I 11))) ga_X8 0 rfl rfl 11 (by decide) kw_701 rfl rfl dX8_nextToken_13 rfl ?_
    have h_13 := hI 11
    refine g_icmp_ge C (n' := 19) 46 dX8_nextToken_16 (by decide) rfl (by unfold inR; omega) (by unfold inR; omega) (fun c1 => ?_) (fun c1 => ?_)
    · skip
      rw [t_skip, if_neg (by omega)] at K
      exact K
    · skip
      refine g_aload_n C (n' := 20) 0 rfl dX8_nextToken_19 rfl rfl ?_
      refine g_get C (n' := 23) (Cn := RX8) (T := TX8) (N := 35) (ci := 6) (v := .ref (q 10)) ga_X8 0 rfl rfl 10 (by decide) kw_700 rfl rfl dX8_nextToken_20 rfl ?_
      refine g_aload_n C (n' := 24) 0 rfl dX8_nextToken_23 rfl rfl ?_
      refine g_get C (n' := 27) (Cn := RX8) (T := TX8) (N := 35) (ci := 6) (v := .int (iI i)) ga_X8 0 rfl rfl 16 (by decide) kw_706 rfl rfl dX8_nextToken_24 rfl ?_
      refine g_iald C (n' := 28) (f := (A 10)) 5 0 rfl rfl (by omega) (by omega) (by decide) rfl dX8_nextToken_27 rfl ?_
      have h_27 := hA 10 i.toNat
      refine g_bipush C (n' := 30) (by decide) dX8_nextToken_28 rfl ?_
      refine g_icmp_ne C (n' := 33) 46 dX8_nextToken_30 (by decide) rfl (by unfold inR; omega) (by unfold inR; omega) (fun c2 => ?_) (fun c2 => ?_)
      · skip
        rw [t_skip, if_neg (by omega)] at K
        exact K
      · skip
        refine g_aload_n C (n' := 34) 0 rfl dX8_nextToken_33 rfl rfl ?_
        refine g_dup C (n' := 35) rfl dX8_nextToken_34 rfl ?_
        refine g_get C (n' := 38) (Cn := RX8) (T := TX8) (N := 35) (ci := 6) (v := .int (iI i)) ga_X8 0 rfl rfl 16 (by decide) kw_706 rfl rfl dX8_nextToken_35 rfl ?_
        refine g_iconst C (n' := 39) dX8_nextToken_38 rfl ?_
        refine g_iadd C (n' := 40) dX8_nextToken_39 rfl ?_
        refine g_put C (n' := 43) (Cn := RX8) (T := TX8) (N := 35) (ci := 6) (v := .int (iI (i + 1))) ga_X8 0 rfl rfl 16 (by decide) kw_706 rfl tyX8 tyX8_ok nmX8 rfl rfl rfl rfl (Nat.le_of_ble_eq_true rfl) (wMod q Y (sU I 16 (i + 1)) A F Dd) rfl dX8_nextToken_40 rfl ?_
        refine g_goto C 8 dX8_nextToken_43 (by decide) ?_
        rw [t_skip, if_pos (by omega)] at K
        exact ih (i + 1) (by omega) (by omega) (by omega) K
set_option maxRecDepth 100000 in
set_option maxHeartbeats 4000000 in
theorem lp_X8_nt2 {p9 : Program} {l : Launch} {e9 : Env} {s9 : State} {m9 : MethodId} {a9 : Array Value} {b9 : List Frame} {t9 : Method} {c9 : Code} {D : va_G} {A9 : Nat → Prop} {Q9 : State → Prop} {E : (Nat → Prop) → State → Heap → Prop} {Y : Nat → ClassId} (C : g_Cx p9 s9 m9 a9 c9 cX8_nextToken 1 RX8 D (tysY Y) A9 E) (q : Nat → Nat) (I : Nat → Int) (A : Nat → Nat → Int) (F : Nat → UInt32) (Dd : Nat → UInt64) (s : Int) (hsI : smI I) (hsA : smA A) (hT : mtok I) (hs : 0 ≤ s ∧ s ≤ 200) : ∀ (n9 : Nat) (i : Int), 0 ≤ i → i ≤ 200 → I 11 - i ≤ n9 → (g_G p9 l e9 ({ frames := 2, cells := 0, slots := 0, locals := 45 } : Room) s9 m9 a9 b9 t9 c9 1 D A9 Q9 0 0 (wMod q Y (sU (sU I 16 s) 17 (t_run (A 10) (I 11) 1 n9 i)) A F Dd) [(0, .ref (q 99))] 204 []) → g_G p9 l e9 ({ frames := 2, cells := 0, slots := 0, locals := 45 } : Room) s9 m9 a9 b9 t9 c9 1 D A9 Q9 0 0 (wMod q Y (sU (sU I 16 s) 17 i) A F Dd) [(0, .ref (q 99))] 100 [] := by
  have hE := C.2.2.2.2.2.2.2.2.1
  intro n9
  induction n9 with
  | zero =>
    intro i hi hi2 hm K
    have hI := hsI
    have hA := hsA
    unfold smI at hI
    unfold smA at hA
    have hT9 := hT
    unfold mtok at hT9
    refine g_aload_n C (n' := 101) 0 rfl dX8_nextToken_100 rfl rfl ?_
    refine g_get C (n' := 104) (Cn := RX8) (T := TX8) (N := 35) (ci := 6) (v := .int (iI i)) ga_X8 0 rfl rfl 17 (by decide) kw_707 rfl rfl dX8_nextToken_101 rfl ?_
    refine g_aload_n C (n' := 105) 0 rfl dX8_nextToken_104 rfl rfl ?_
    refine g_get C (n' := 108) (Cn := RX8) (T := TX8) (N := 35) (ci := 6) (v := .int (iI (I 11))) ga_X8 0 rfl rfl 11 (by decide) kw_701 rfl rfl dX8_nextToken_105 rfl ?_
    have h_105 := hI 11
    refine g_icmp_ge C (n' := 111) 204 dX8_nextToken_108 (by decide) rfl (by unfold inR; omega) (by unfold inR; omega) (fun c1 => ?_) (fun c1 => ?_)
    · skip
      exact K
    · skip
      exfalso
      omega
  | succ n9 ih =>
    intro i hi hi2 hm K
    have hI := hsI
    have hA := hsA
    unfold smI at hI
    unfold smA at hA
    have hT9 := hT
    unfold mtok at hT9
    refine g_aload_n C (n' := 101) 0 rfl dX8_nextToken_100 rfl rfl ?_
    refine g_get C (n' := 104) (Cn := RX8) (T := TX8) (N := 35) (ci := 6) (v := .int (iI i)) ga_X8 0 rfl rfl 17 (by decide) kw_707 rfl rfl dX8_nextToken_101 rfl ?_
    refine g_aload_n C (n' := 105) 0 rfl dX8_nextToken_104 rfl rfl ?_
    refine g_get C (n' := 108) (Cn := RX8) (T := TX8) (N := 35) (ci := 6) (v := .int (iI (I 11))) ga_X8 0 rfl rfl 11 (by decide) kw_701 rfl rfl dX8_nextToken_105 rfl ?_
    have h_105 := hI 11
    refine g_icmp_ge C (n' := 111) 204 dX8_nextToken_108 (by decide) rfl (by unfold inR; omega) (by unfold inR; omega) (fun c1 => ?_) (fun c1 => ?_)
    · skip
      rw [t_run, if_neg (fun z => absurd z.1 (by omega))] at K
      exact K
    · skip
      refine g_aload_n C (n' := 112) 0 rfl dX8_nextToken_111 rfl rfl ?_
      refine g_get C (n' := 115) (Cn := RX8) (T := TX8) (N := 35) (ci := 6) (v := .ref (q 10)) ga_X8 0 rfl rfl 10 (by decide) kw_700 rfl rfl dX8_nextToken_112 rfl ?_
      refine g_aload_n C (n' := 116) 0 rfl dX8_nextToken_115 rfl rfl ?_
      refine g_get C (n' := 119) (Cn := RX8) (T := TX8) (N := 35) (ci := 6) (v := .int (iI i)) ga_X8 0 rfl rfl 17 (by decide) kw_707 rfl rfl dX8_nextToken_116 rfl ?_
      refine g_iald C (n' := 120) (f := (A 10)) 5 0 rfl rfl (by omega) (by omega) (by decide) rfl dX8_nextToken_119 rfl ?_
      have h_119 := hA 10 i.toNat
      refine g_cSv C (n' := 123) (v := .int (iI (if 97 ≤ ((A 10) i.toNat) ∧ ((A 10) i.toNat) ≤ 122 then 1 else 0))) (c_X8_isLetter l D Y C.2.2.2.2.2.2.2.2.1 ((A 10) i.toNat) (by unfold inR at *; omega)) 1 kw_821 kc_X8_isLetter (by decide +kernel) (pm_n _) rfl ⟨Nat.le_of_ble_eq_true rfl, Nat.le_of_ble_eq_true rfl⟩ ⟨rfl, rfl⟩ ⟨Nat.le_of_ble_eq_true rfl, Nat.le_of_ble_eq_true rfl⟩ (Nat.le_of_ble_eq_true rfl) dX8_nextToken_120 rfl rfl (wMod q Y (sU (sU I 16 s) 17 i) A F Dd) (pm_n _) ?_
      refine g_if_eq C (n' := 126) 204 dX8_nextToken_123 (by decide) rfl bz_r (fun c2 => ?_) (fun c2 => ?_)
      · skip
        replace c2 := bz_eq.mp c2
        rw [t_run, if_neg (fun z => absurd (t_cls_1.mp z.2) (by omega))] at K
        exact K
      · skip
        replace c2 := bz_neq.mp c2
        refine g_aload_n C (n' := 127) 0 rfl dX8_nextToken_126 rfl rfl ?_
        refine g_dup C (n' := 128) rfl dX8_nextToken_127 rfl ?_
        refine g_get C (n' := 131) (Cn := RX8) (T := TX8) (N := 35) (ci := 6) (v := .int (iI i)) ga_X8 0 rfl rfl 17 (by decide) kw_707 rfl rfl dX8_nextToken_128 rfl ?_
        refine g_iconst C (n' := 132) dX8_nextToken_131 rfl ?_
        refine g_iadd C (n' := 133) dX8_nextToken_132 rfl ?_
        refine g_put C (n' := 136) (Cn := RX8) (T := TX8) (N := 35) (ci := 6) (v := .int (iI (i + 1))) ga_X8 0 rfl rfl 17 (by decide) kw_707 rfl tyX8 tyX8_ok nmX8 rfl rfl rfl rfl (Nat.le_of_ble_eq_true rfl) (wMod q Y (sU (sU I 16 s) 17 (i + 1)) A F Dd) rfl dX8_nextToken_133 rfl ?_
        refine g_goto C 100 dX8_nextToken_136 (by decide) ?_
        rw [t_run, if_pos ⟨by omega, t_cls_1.mpr (by omega)⟩] at K
        exact ih (i + 1) (by omega) (by omega) (by omega) K
set_option maxRecDepth 100000 in
set_option maxHeartbeats 4000000 in
theorem lp_X8_nt3 {p9 : Program} {l : Launch} {e9 : Env} {s9 : State} {m9 : MethodId} {a9 : Array Value} {b9 : List Frame} {t9 : Method} {c9 : Code} {D : va_G} {A9 : Nat → Prop} {Q9 : State → Prop} {E : (Nat → Prop) → State → Heap → Prop} {Y : Nat → ClassId} (C : g_Cx p9 s9 m9 a9 c9 cX8_nextToken 1 RX8 D (tysY Y) A9 E) (q : Nat → Nat) (I : Nat → Int) (A : Nat → Nat → Int) (F : Nat → UInt32) (Dd : Nat → UInt64) (s : Int) (hsI : smI I) (hsA : smA A) (hT : mtok I) (hs : 0 ≤ s ∧ s ≤ 200) : ∀ (n9 : Nat) (i : Int), 0 ≤ i → i ≤ 200 → I 11 - i ≤ n9 → (g_G p9 l e9 ({ frames := 2, cells := 0, slots := 0, locals := 45 } : Room) s9 m9 a9 b9 t9 c9 1 D A9 Q9 0 0 (wMod q Y (sU (sU I 16 s) 17 (t_run (A 10) (I 11) 2 n9 i)) A F Dd) [(0, .ref (q 99))] 204 []) → g_G p9 l e9 ({ frames := 2, cells := 0, slots := 0, locals := 45 } : Room) s9 m9 a9 b9 t9 c9 1 D A9 Q9 0 0 (wMod q Y (sU (sU I 16 s) 17 i) A F Dd) [(0, .ref (q 99))] 165 [] := by
  have hE := C.2.2.2.2.2.2.2.2.1
  intro n9
  induction n9 with
  | zero =>
    intro i hi hi2 hm K
    have hI := hsI
    have hA := hsA
    unfold smI at hI
    unfold smA at hA
    have hT9 := hT
    unfold mtok at hT9
    refine g_aload_n C (n' := 166) 0 rfl dX8_nextToken_165 rfl rfl ?_
    refine g_get C (n' := 169) (Cn := RX8) (T := TX8) (N := 35) (ci := 6) (v := .int (iI i)) ga_X8 0 rfl rfl 17 (by decide) kw_707 rfl rfl dX8_nextToken_166 rfl ?_
    refine g_aload_n C (n' := 170) 0 rfl dX8_nextToken_169 rfl rfl ?_
    refine g_get C (n' := 173) (Cn := RX8) (T := TX8) (N := 35) (ci := 6) (v := .int (iI (I 11))) ga_X8 0 rfl rfl 11 (by decide) kw_701 rfl rfl dX8_nextToken_170 rfl ?_
    have h_170 := hI 11
    refine g_icmp_ge C (n' := 176) 204 dX8_nextToken_173 (by decide) rfl (by unfold inR; omega) (by unfold inR; omega) (fun c1 => ?_) (fun c1 => ?_)
    · skip
      exact K
    · skip
      exfalso
      omega
  | succ n9 ih =>
    intro i hi hi2 hm K
    have hI := hsI
    have hA := hsA
    unfold smI at hI
    unfold smA at hA
    have hT9 := hT
    unfold mtok at hT9
    refine g_aload_n C (n' := 166) 0 rfl dX8_nextToken_165 rfl rfl ?_
    refine g_get C (n' := 169) (Cn := RX8) (T := TX8) (N := 35) (ci := 6) (v := .int (iI i)) ga_X8 0 rfl rfl 17 (by decide) kw_707 rfl rfl dX8_nextToken_166 rfl ?_
    refine g_aload_n C (n' := 170) 0 rfl dX8_nextToken_169 rfl rfl ?_
    refine g_get C (n' := 173) (Cn := RX8) (T := TX8) (N := 35) (ci := 6) (v := .int (iI (I 11))) ga_X8 0 rfl rfl 11 (by decide) kw_701 rfl rfl dX8_nextToken_170 rfl ?_
    have h_170 := hI 11
    refine g_icmp_ge C (n' := 176) 204 dX8_nextToken_173 (by decide) rfl (by unfold inR; omega) (by unfold inR; omega) (fun c1 => ?_) (fun c1 => ?_)
    · skip
      rw [t_run, if_neg (fun z => absurd z.1 (by omega))] at K
      exact K
    · skip
      refine g_aload_n C (n' := 177) 0 rfl dX8_nextToken_176 rfl rfl ?_
      refine g_get C (n' := 180) (Cn := RX8) (T := TX8) (N := 35) (ci := 6) (v := .ref (q 10)) ga_X8 0 rfl rfl 10 (by decide) kw_700 rfl rfl dX8_nextToken_177 rfl ?_
      refine g_aload_n C (n' := 181) 0 rfl dX8_nextToken_180 rfl rfl ?_
      refine g_get C (n' := 184) (Cn := RX8) (T := TX8) (N := 35) (ci := 6) (v := .int (iI i)) ga_X8 0 rfl rfl 17 (by decide) kw_707 rfl rfl dX8_nextToken_181 rfl ?_
      refine g_iald C (n' := 185) (f := (A 10)) 5 0 rfl rfl (by omega) (by omega) (by decide) rfl dX8_nextToken_184 rfl ?_
      have h_184 := hA 10 i.toNat
      refine g_cSv C (n' := 188) (v := .int (iI (if 48 ≤ ((A 10) i.toNat) ∧ ((A 10) i.toNat) ≤ 57 then 1 else 0))) (c_X8_isDigit l D Y C.2.2.2.2.2.2.2.2.1 ((A 10) i.toNat) (by unfold inR at *; omega)) 1 kw_826 kc_X8_isDigit (by decide +kernel) (pm_n _) rfl ⟨Nat.le_of_ble_eq_true rfl, Nat.le_of_ble_eq_true rfl⟩ ⟨rfl, rfl⟩ ⟨Nat.le_of_ble_eq_true rfl, Nat.le_of_ble_eq_true rfl⟩ (Nat.le_of_ble_eq_true rfl) dX8_nextToken_185 rfl rfl (wMod q Y (sU (sU I 16 s) 17 i) A F Dd) (pm_n _) ?_
      refine g_if_eq C (n' := 191) 204 dX8_nextToken_188 (by decide) rfl bz_r (fun c2 => ?_) (fun c2 => ?_)
      · skip
        replace c2 := bz_eq.mp c2
        rw [t_run, if_neg (fun z => absurd (t_cls_2.mp z.2) (by omega))] at K
        exact K
      · skip
        replace c2 := bz_neq.mp c2
        refine g_aload_n C (n' := 192) 0 rfl dX8_nextToken_191 rfl rfl ?_
        refine g_dup C (n' := 193) rfl dX8_nextToken_192 rfl ?_
        refine g_get C (n' := 196) (Cn := RX8) (T := TX8) (N := 35) (ci := 6) (v := .int (iI i)) ga_X8 0 rfl rfl 17 (by decide) kw_707 rfl rfl dX8_nextToken_193 rfl ?_
        refine g_iconst C (n' := 197) dX8_nextToken_196 rfl ?_
        refine g_iadd C (n' := 198) dX8_nextToken_197 rfl ?_
        refine g_put C (n' := 201) (Cn := RX8) (T := TX8) (N := 35) (ci := 6) (v := .int (iI (i + 1))) ga_X8 0 rfl rfl 17 (by decide) kw_707 rfl tyX8 tyX8_ok nmX8 rfl rfl rfl rfl (Nat.le_of_ble_eq_true rfl) (wMod q Y (sU (sU I 16 s) 17 (i + 1)) A F Dd) rfl dX8_nextToken_198 rfl ?_
        refine g_goto C 165 dX8_nextToken_201 (by decide) ?_
        rw [t_run, if_pos ⟨by omega, t_cls_2.mpr (by omega)⟩] at K
        exact ih (i + 1) (by omega) (by omega) (by omega) K
set_option maxRecDepth 100000 in
set_option maxHeartbeats 4000000 in
theorem c_X8_nextToken (l : Launch) (D : va_G) (Y : Nat → ClassId) {E : (Nat → Prop) → State → Heap → Prop} (hE : g_Stab E) (q : Nat → Nat) (I : Nat → Int) (A : Nat → Nat → Int) (F : Nat → UInt32) (Dd : Nat → UInt64) (hsI : smI I) (hsA : smA A) (hT : mtok I) : g_Ct l yX8_nextToken cX8_nextToken 1 none ({ frames := 2, cells := 0, slots := 0, locals := 45 } : Room) D (tysY Y) E [.ref (q 99)] (wMod q Y I A F Dd) 0 0 (g_det none (wMod q Y (sU (sU I 16 (tk1 (A 10) (I 11) (I 17))) 17 (tk2 (A 10) (I 11) (I 17))) A F Dd)) := by
  refine g_ofG (own := RX8) hE (by decide) rfl (Nat.le_of_ble_eq_true rfl) [(0, .ref (q 99))] rfl ?_
  intro p9 e9 s9 m9 b9 t9 c9 A9 C hr hlk hnm
  have hI := hsI
  have hA := hsA
  unfold smI at hI
  unfold smA at hA
  have hT9 := hT
  unfold mtok at hT9
  refine g_aload_n C (n' := 1) 0 rfl dX8_nextToken_0 rfl rfl ?_
  refine g_aload_n C (n' := 2) 0 rfl dX8_nextToken_1 rfl rfl ?_
  refine g_get C (n' := 5) (Cn := RX8) (T := TX8) (N := 35) (ci := 6) (v := .int (iI (I 17))) ga_X8 0 rfl rfl 17 (by decide) kw_707 rfl rfl dX8_nextToken_2 rfl ?_
  have h_2 := hI 17
  refine g_put C (n' := 8) (Cn := RX8) (T := TX8) (N := 35) (ci := 6) (v := .int (iI (I 17))) ga_X8 0 rfl rfl 16 (by decide) kw_706 rfl tyX8 tyX8_ok nmX8 rfl rfl rfl rfl (Nat.le_of_ble_eq_true rfl) (wMod q Y (sU I 16 (I 17)) A F Dd) rfl dX8_nextToken_5 rfl ?_
  have hk := t_skip_r (A 10) (I 11) 200 (I 17)
  refine g_wd (w' := (wMod q Y (sU I 16 (I 17)) A F Dd)) rfl ?_
  refine lp_X8_nt1 C q I A F Dd hsI hsA hT 200 (I 17) (by omega) (by omega) (by omega) ?_
  generalize hsk : t_skip (A 10) (I 11) 200 (I 17) = s at hk ⊢
  refine g_aload_n C (n' := 47) 0 rfl dX8_nextToken_46 rfl rfl ?_
  refine g_aload_n C (n' := 48) 0 rfl dX8_nextToken_47 rfl rfl ?_
  refine g_get C (n' := 51) (Cn := RX8) (T := TX8) (N := 35) (ci := 6) (v := .int (iI s)) ga_X8 0 rfl rfl 16 (by decide) kw_706 rfl rfl dX8_nextToken_48 rfl ?_
  refine g_aload_n C (n' := 52) 0 rfl dX8_nextToken_51 rfl rfl ?_
  refine g_get C (n' := 55) (Cn := RX8) (T := TX8) (N := 35) (ci := 6) (v := .int (iI (I 11))) ga_X8 0 rfl rfl 11 (by decide) kw_701 rfl rfl dX8_nextToken_52 rfl ?_
  have h_52 := hI 11
  refine g_icmp_ge C (n' := 58) 67 dX8_nextToken_55 (by decide) rfl (by unfold inR; omega) (by unfold inR; omega) (fun c1 => ?_) (fun c1 => ?_)
  · skip
    refine g_aload_n C (n' := 68) 0 rfl dX8_nextToken_67 rfl rfl ?_
    refine g_get C (n' := 71) (Cn := RX8) (T := TX8) (N := 35) (ci := 6) (v := .int (iI s)) ga_X8 0 rfl rfl 16 (by decide) kw_706 rfl rfl dX8_nextToken_68 rfl ?_
    refine g_put C (n' := 74) (Cn := RX8) (T := TX8) (N := 35) (ci := 6) (v := .int (iI s)) ga_X8 0 rfl rfl 17 (by decide) kw_707 rfl tyX8 tyX8_ok nmX8 rfl rfl rfl rfl (Nat.le_of_ble_eq_true rfl) (wMod q Y (sU (sU I 16 s) 17 s) A F Dd) rfl dX8_nextToken_71 rfl ?_
    refine g_aload_n C (n' := 75) 0 rfl dX8_nextToken_74 rfl rfl ?_
    refine g_get C (n' := 78) (Cn := RX8) (T := TX8) (N := 35) (ci := 6) (v := .int (iI s)) ga_X8 0 rfl rfl 16 (by decide) kw_706 rfl rfl dX8_nextToken_75 rfl ?_
    refine g_aload_n C (n' := 79) 0 rfl dX8_nextToken_78 rfl rfl ?_
    refine g_get C (n' := 82) (Cn := RX8) (T := TX8) (N := 35) (ci := 6) (v := .int (iI (I 11))) ga_X8 0 rfl rfl 11 (by decide) kw_701 rfl rfl dX8_nextToken_79 rfl ?_
    have h_79 := hI 11
    refine g_icmp_ge C (n' := 85) 139 dX8_nextToken_82 (by decide) rfl (by unfold inR; omega) (by unfold inR; omega) (fun c2 => ?_) (fun c2 => ?_)
    · skip
      refine g_aload_n C (n' := 140) 0 rfl dX8_nextToken_139 rfl rfl ?_
      refine g_get C (n' := 143) (Cn := RX8) (T := TX8) (N := 35) (ci := 6) (v := .int (iI s)) ga_X8 0 rfl rfl 16 (by decide) kw_706 rfl rfl dX8_nextToken_140 rfl ?_
      refine g_aload_n C (n' := 144) 0 rfl dX8_nextToken_143 rfl rfl ?_
      refine g_get C (n' := 147) (Cn := RX8) (T := TX8) (N := 35) (ci := 6) (v := .int (iI (I 11))) ga_X8 0 rfl rfl 11 (by decide) kw_701 rfl rfl dX8_nextToken_144 rfl ?_
      have h_144 := hI 11
      refine g_icmp_ge C (n' := 150) 204 dX8_nextToken_147 (by decide) rfl (by unfold inR; omega) (by unfold inR; omega) (fun c3 => ?_) (fun c3 => ?_)
      · skip
        refine g_vret C hr hlk ⟨rfl, ?_⟩ dX8_nextToken_204
        unfold tk1 tk2 t_end
        rw [hsk]
        rw [if_pos (by omega)]
      · skip
        refine g_aload_n C (n' := 151) 0 rfl dX8_nextToken_150 rfl rfl ?_
        refine g_get C (n' := 154) (Cn := RX8) (T := TX8) (N := 35) (ci := 6) (v := .ref (q 10)) ga_X8 0 rfl rfl 10 (by decide) kw_700 rfl rfl dX8_nextToken_151 rfl ?_
        refine g_aload_n C (n' := 155) 0 rfl dX8_nextToken_154 rfl rfl ?_
        refine g_get C (n' := 158) (Cn := RX8) (T := TX8) (N := 35) (ci := 6) (v := .int (iI s)) ga_X8 0 rfl rfl 16 (by decide) kw_706 rfl rfl dX8_nextToken_155 rfl ?_
        refine g_iald C (n' := 159) (f := (A 10)) 5 0 rfl rfl (by omega) (by omega) (by decide) rfl dX8_nextToken_158 rfl ?_
        have h_158 := hA 10 s.toNat
        refine g_cSv C (n' := 162) (v := .int (iI (if 48 ≤ ((A 10) s.toNat) ∧ ((A 10) s.toNat) ≤ 57 then 1 else 0))) (c_X8_isDigit l D Y C.2.2.2.2.2.2.2.2.1 ((A 10) s.toNat) (by unfold inR at *; omega)) 1 kw_826 kc_X8_isDigit (by decide +kernel) (pm_n _) rfl ⟨Nat.le_of_ble_eq_true rfl, Nat.le_of_ble_eq_true rfl⟩ ⟨rfl, rfl⟩ ⟨Nat.le_of_ble_eq_true rfl, Nat.le_of_ble_eq_true rfl⟩ (Nat.le_of_ble_eq_true rfl) dX8_nextToken_159 rfl rfl (wMod q Y (sU (sU I 16 s) 17 s) A F Dd) (pm_n _) ?_
        refine g_if_eq C (n' := 165) 204 dX8_nextToken_162 (by decide) rfl bz_r (fun c4 => ?_) (fun c4 => ?_)
        · skip
          replace c4 := bz_eq.mp c4
          refine g_vret C hr hlk ⟨rfl, ?_⟩ dX8_nextToken_204
          unfold tk1 tk2 t_end
          rw [hsk]
          rw [if_pos (by omega)]
        · skip
          replace c4 := bz_neq.mp c4
          exfalso
          omega
    · skip
      refine g_aload_n C (n' := 86) 0 rfl dX8_nextToken_85 rfl rfl ?_
      refine g_get C (n' := 89) (Cn := RX8) (T := TX8) (N := 35) (ci := 6) (v := .ref (q 10)) ga_X8 0 rfl rfl 10 (by decide) kw_700 rfl rfl dX8_nextToken_86 rfl ?_
      refine g_aload_n C (n' := 90) 0 rfl dX8_nextToken_89 rfl rfl ?_
      refine g_get C (n' := 93) (Cn := RX8) (T := TX8) (N := 35) (ci := 6) (v := .int (iI s)) ga_X8 0 rfl rfl 16 (by decide) kw_706 rfl rfl dX8_nextToken_90 rfl ?_
      refine g_iald C (n' := 94) (f := (A 10)) 5 0 rfl rfl (by omega) (by omega) (by decide) rfl dX8_nextToken_93 rfl ?_
      have h_93 := hA 10 s.toNat
      refine g_cSv C (n' := 97) (v := .int (iI (if 97 ≤ ((A 10) s.toNat) ∧ ((A 10) s.toNat) ≤ 122 then 1 else 0))) (c_X8_isLetter l D Y C.2.2.2.2.2.2.2.2.1 ((A 10) s.toNat) (by unfold inR at *; omega)) 1 kw_821 kc_X8_isLetter (by decide +kernel) (pm_n _) rfl ⟨Nat.le_of_ble_eq_true rfl, Nat.le_of_ble_eq_true rfl⟩ ⟨rfl, rfl⟩ ⟨Nat.le_of_ble_eq_true rfl, Nat.le_of_ble_eq_true rfl⟩ (Nat.le_of_ble_eq_true rfl) dX8_nextToken_94 rfl rfl (wMod q Y (sU (sU I 16 s) 17 s) A F Dd) (pm_n _) ?_
      refine g_if_eq C (n' := 100) 139 dX8_nextToken_97 (by decide) rfl bz_r (fun c5 => ?_) (fun c5 => ?_)
      · skip
        replace c5 := bz_eq.mp c5
        refine g_aload_n C (n' := 140) 0 rfl dX8_nextToken_139 rfl rfl ?_
        refine g_get C (n' := 143) (Cn := RX8) (T := TX8) (N := 35) (ci := 6) (v := .int (iI s)) ga_X8 0 rfl rfl 16 (by decide) kw_706 rfl rfl dX8_nextToken_140 rfl ?_
        refine g_aload_n C (n' := 144) 0 rfl dX8_nextToken_143 rfl rfl ?_
        refine g_get C (n' := 147) (Cn := RX8) (T := TX8) (N := 35) (ci := 6) (v := .int (iI (I 11))) ga_X8 0 rfl rfl 11 (by decide) kw_701 rfl rfl dX8_nextToken_144 rfl ?_
        have h_144 := hI 11
        refine g_icmp_ge C (n' := 150) 204 dX8_nextToken_147 (by decide) rfl (by unfold inR; omega) (by unfold inR; omega) (fun c6 => ?_) (fun c6 => ?_)
        · skip
          refine g_vret C hr hlk ⟨rfl, ?_⟩ dX8_nextToken_204
          unfold tk1 tk2 t_end
          rw [hsk]
          rw [if_pos (by omega)]
        · skip
          refine g_aload_n C (n' := 151) 0 rfl dX8_nextToken_150 rfl rfl ?_
          refine g_get C (n' := 154) (Cn := RX8) (T := TX8) (N := 35) (ci := 6) (v := .ref (q 10)) ga_X8 0 rfl rfl 10 (by decide) kw_700 rfl rfl dX8_nextToken_151 rfl ?_
          refine g_aload_n C (n' := 155) 0 rfl dX8_nextToken_154 rfl rfl ?_
          refine g_get C (n' := 158) (Cn := RX8) (T := TX8) (N := 35) (ci := 6) (v := .int (iI s)) ga_X8 0 rfl rfl 16 (by decide) kw_706 rfl rfl dX8_nextToken_155 rfl ?_
          refine g_iald C (n' := 159) (f := (A 10)) 5 0 rfl rfl (by omega) (by omega) (by decide) rfl dX8_nextToken_158 rfl ?_
          have h_158 := hA 10 s.toNat
          refine g_cSv C (n' := 162) (v := .int (iI (if 48 ≤ ((A 10) s.toNat) ∧ ((A 10) s.toNat) ≤ 57 then 1 else 0))) (c_X8_isDigit l D Y C.2.2.2.2.2.2.2.2.1 ((A 10) s.toNat) (by unfold inR at *; omega)) 1 kw_826 kc_X8_isDigit (by decide +kernel) (pm_n _) rfl ⟨Nat.le_of_ble_eq_true rfl, Nat.le_of_ble_eq_true rfl⟩ ⟨rfl, rfl⟩ ⟨Nat.le_of_ble_eq_true rfl, Nat.le_of_ble_eq_true rfl⟩ (Nat.le_of_ble_eq_true rfl) dX8_nextToken_159 rfl rfl (wMod q Y (sU (sU I 16 s) 17 s) A F Dd) (pm_n _) ?_
          refine g_if_eq C (n' := 165) 204 dX8_nextToken_162 (by decide) rfl bz_r (fun c7 => ?_) (fun c7 => ?_)
          · skip
            replace c7 := bz_eq.mp c7
            refine g_vret C hr hlk ⟨rfl, ?_⟩ dX8_nextToken_204
            unfold tk1 tk2 t_end
            rw [hsk]
            rw [if_pos (by omega)]
          · skip
            replace c7 := bz_neq.mp c7
            exfalso
            omega
      · skip
        replace c5 := bz_neq.mp c5
        exfalso
        omega
  · skip
    refine g_aload_n C (n' := 59) 0 rfl dX8_nextToken_58 rfl rfl ?_
    refine g_get C (n' := 62) (Cn := RX8) (T := TX8) (N := 35) (ci := 6) (v := .int (iI s)) ga_X8 0 rfl rfl 16 (by decide) kw_706 rfl rfl dX8_nextToken_59 rfl ?_
    refine g_iconst C (n' := 63) dX8_nextToken_62 rfl ?_
    refine g_iadd C (n' := 64) dX8_nextToken_63 rfl ?_
    refine g_goto C 71 dX8_nextToken_64 (by decide) ?_
    refine g_put C (n' := 74) (Cn := RX8) (T := TX8) (N := 35) (ci := 6) (v := .int (iI (s + 1))) ga_X8 0 rfl rfl 17 (by decide) kw_707 rfl tyX8 tyX8_ok nmX8 rfl rfl rfl rfl (Nat.le_of_ble_eq_true rfl) (wMod q Y (sU (sU I 16 s) 17 (s + 1)) A F Dd) rfl dX8_nextToken_71 rfl ?_
    refine g_aload_n C (n' := 75) 0 rfl dX8_nextToken_74 rfl rfl ?_
    refine g_get C (n' := 78) (Cn := RX8) (T := TX8) (N := 35) (ci := 6) (v := .int (iI s)) ga_X8 0 rfl rfl 16 (by decide) kw_706 rfl rfl dX8_nextToken_75 rfl ?_
    refine g_aload_n C (n' := 79) 0 rfl dX8_nextToken_78 rfl rfl ?_
    refine g_get C (n' := 82) (Cn := RX8) (T := TX8) (N := 35) (ci := 6) (v := .int (iI (I 11))) ga_X8 0 rfl rfl 11 (by decide) kw_701 rfl rfl dX8_nextToken_79 rfl ?_
    have h_79 := hI 11
    refine g_icmp_ge C (n' := 85) 139 dX8_nextToken_82 (by decide) rfl (by unfold inR; omega) (by unfold inR; omega) (fun c8 => ?_) (fun c8 => ?_)
    · skip
      refine g_aload_n C (n' := 140) 0 rfl dX8_nextToken_139 rfl rfl ?_
      refine g_get C (n' := 143) (Cn := RX8) (T := TX8) (N := 35) (ci := 6) (v := .int (iI s)) ga_X8 0 rfl rfl 16 (by decide) kw_706 rfl rfl dX8_nextToken_140 rfl ?_
      refine g_aload_n C (n' := 144) 0 rfl dX8_nextToken_143 rfl rfl ?_
      refine g_get C (n' := 147) (Cn := RX8) (T := TX8) (N := 35) (ci := 6) (v := .int (iI (I 11))) ga_X8 0 rfl rfl 11 (by decide) kw_701 rfl rfl dX8_nextToken_144 rfl ?_
      have h_144 := hI 11
      refine g_icmp_ge C (n' := 150) 204 dX8_nextToken_147 (by decide) rfl (by unfold inR; omega) (by unfold inR; omega) (fun c9 => ?_) (fun c9 => ?_)
      · skip
        refine g_vret C hr hlk ⟨rfl, ?_⟩ dX8_nextToken_204
        unfold tk1 tk2 t_end
        rw [hsk]
        rw [if_neg (by omega), if_pos (t_cls_0 (by omega) (by omega))]
      · skip
        refine g_aload_n C (n' := 151) 0 rfl dX8_nextToken_150 rfl rfl ?_
        refine g_get C (n' := 154) (Cn := RX8) (T := TX8) (N := 35) (ci := 6) (v := .ref (q 10)) ga_X8 0 rfl rfl 10 (by decide) kw_700 rfl rfl dX8_nextToken_151 rfl ?_
        refine g_aload_n C (n' := 155) 0 rfl dX8_nextToken_154 rfl rfl ?_
        refine g_get C (n' := 158) (Cn := RX8) (T := TX8) (N := 35) (ci := 6) (v := .int (iI s)) ga_X8 0 rfl rfl 16 (by decide) kw_706 rfl rfl dX8_nextToken_155 rfl ?_
        refine g_iald C (n' := 159) (f := (A 10)) 5 0 rfl rfl (by omega) (by omega) (by decide) rfl dX8_nextToken_158 rfl ?_
        have h_158 := hA 10 s.toNat
        refine g_cSv C (n' := 162) (v := .int (iI (if 48 ≤ ((A 10) s.toNat) ∧ ((A 10) s.toNat) ≤ 57 then 1 else 0))) (c_X8_isDigit l D Y C.2.2.2.2.2.2.2.2.1 ((A 10) s.toNat) (by unfold inR at *; omega)) 1 kw_826 kc_X8_isDigit (by decide +kernel) (pm_n _) rfl ⟨Nat.le_of_ble_eq_true rfl, Nat.le_of_ble_eq_true rfl⟩ ⟨rfl, rfl⟩ ⟨Nat.le_of_ble_eq_true rfl, Nat.le_of_ble_eq_true rfl⟩ (Nat.le_of_ble_eq_true rfl) dX8_nextToken_159 rfl rfl (wMod q Y (sU (sU I 16 s) 17 (s + 1)) A F Dd) (pm_n _) ?_
        refine g_if_eq C (n' := 165) 204 dX8_nextToken_162 (by decide) rfl bz_r (fun c10 => ?_) (fun c10 => ?_)
        · skip
          replace c10 := bz_eq.mp c10
          refine g_vret C hr hlk ⟨rfl, ?_⟩ dX8_nextToken_204
          unfold tk1 tk2 t_end
          rw [hsk]
          rw [if_neg (by omega), if_pos (t_cls_0 (by omega) (by omega))]
        · skip
          replace c10 := bz_neq.mp c10
          refine lp_X8_nt3 C q I A F Dd s hsI hsA hT (by omega) 200 (s + 1) (by omega) (by omega) (by omega) ?_
          refine g_vret C hr hlk ⟨rfl, ?_⟩ dX8_nextToken_204
          unfold tk1 tk2 t_end
          rw [hsk]
          have hc9 := t_cls_2 (x := A 10 s.toNat)|>.mpr (by omega)
          rw [if_neg (by omega), if_neg (by omega), hc9]
    · skip
      refine g_aload_n C (n' := 86) 0 rfl dX8_nextToken_85 rfl rfl ?_
      refine g_get C (n' := 89) (Cn := RX8) (T := TX8) (N := 35) (ci := 6) (v := .ref (q 10)) ga_X8 0 rfl rfl 10 (by decide) kw_700 rfl rfl dX8_nextToken_86 rfl ?_
      refine g_aload_n C (n' := 90) 0 rfl dX8_nextToken_89 rfl rfl ?_
      refine g_get C (n' := 93) (Cn := RX8) (T := TX8) (N := 35) (ci := 6) (v := .int (iI s)) ga_X8 0 rfl rfl 16 (by decide) kw_706 rfl rfl dX8_nextToken_90 rfl ?_
      refine g_iald C (n' := 94) (f := (A 10)) 5 0 rfl rfl (by omega) (by omega) (by decide) rfl dX8_nextToken_93 rfl ?_
      have h_93 := hA 10 s.toNat
      refine g_cSv C (n' := 97) (v := .int (iI (if 97 ≤ ((A 10) s.toNat) ∧ ((A 10) s.toNat) ≤ 122 then 1 else 0))) (c_X8_isLetter l D Y C.2.2.2.2.2.2.2.2.1 ((A 10) s.toNat) (by unfold inR at *; omega)) 1 kw_821 kc_X8_isLetter (by decide +kernel) (pm_n _) rfl ⟨Nat.le_of_ble_eq_true rfl, Nat.le_of_ble_eq_true rfl⟩ ⟨rfl, rfl⟩ ⟨Nat.le_of_ble_eq_true rfl, Nat.le_of_ble_eq_true rfl⟩ (Nat.le_of_ble_eq_true rfl) dX8_nextToken_94 rfl rfl (wMod q Y (sU (sU I 16 s) 17 (s + 1)) A F Dd) (pm_n _) ?_
      refine g_if_eq C (n' := 100) 139 dX8_nextToken_97 (by decide) rfl bz_r (fun c11 => ?_) (fun c11 => ?_)
      · skip
        replace c11 := bz_eq.mp c11
        refine g_aload_n C (n' := 140) 0 rfl dX8_nextToken_139 rfl rfl ?_
        refine g_get C (n' := 143) (Cn := RX8) (T := TX8) (N := 35) (ci := 6) (v := .int (iI s)) ga_X8 0 rfl rfl 16 (by decide) kw_706 rfl rfl dX8_nextToken_140 rfl ?_
        refine g_aload_n C (n' := 144) 0 rfl dX8_nextToken_143 rfl rfl ?_
        refine g_get C (n' := 147) (Cn := RX8) (T := TX8) (N := 35) (ci := 6) (v := .int (iI (I 11))) ga_X8 0 rfl rfl 11 (by decide) kw_701 rfl rfl dX8_nextToken_144 rfl ?_
        have h_144 := hI 11
        refine g_icmp_ge C (n' := 150) 204 dX8_nextToken_147 (by decide) rfl (by unfold inR; omega) (by unfold inR; omega) (fun c12 => ?_) (fun c12 => ?_)
        · skip
          refine g_vret C hr hlk ⟨rfl, ?_⟩ dX8_nextToken_204
          unfold tk1 tk2 t_end
          rw [hsk]
          rw [if_neg (by omega), if_pos (t_cls_0 (by omega) (by omega))]
        · skip
          refine g_aload_n C (n' := 151) 0 rfl dX8_nextToken_150 rfl rfl ?_
          refine g_get C (n' := 154) (Cn := RX8) (T := TX8) (N := 35) (ci := 6) (v := .ref (q 10)) ga_X8 0 rfl rfl 10 (by decide) kw_700 rfl rfl dX8_nextToken_151 rfl ?_
          refine g_aload_n C (n' := 155) 0 rfl dX8_nextToken_154 rfl rfl ?_
          refine g_get C (n' := 158) (Cn := RX8) (T := TX8) (N := 35) (ci := 6) (v := .int (iI s)) ga_X8 0 rfl rfl 16 (by decide) kw_706 rfl rfl dX8_nextToken_155 rfl ?_
          refine g_iald C (n' := 159) (f := (A 10)) 5 0 rfl rfl (by omega) (by omega) (by decide) rfl dX8_nextToken_158 rfl ?_
          have h_158 := hA 10 s.toNat
          refine g_cSv C (n' := 162) (v := .int (iI (if 48 ≤ ((A 10) s.toNat) ∧ ((A 10) s.toNat) ≤ 57 then 1 else 0))) (c_X8_isDigit l D Y C.2.2.2.2.2.2.2.2.1 ((A 10) s.toNat) (by unfold inR at *; omega)) 1 kw_826 kc_X8_isDigit (by decide +kernel) (pm_n _) rfl ⟨Nat.le_of_ble_eq_true rfl, Nat.le_of_ble_eq_true rfl⟩ ⟨rfl, rfl⟩ ⟨Nat.le_of_ble_eq_true rfl, Nat.le_of_ble_eq_true rfl⟩ (Nat.le_of_ble_eq_true rfl) dX8_nextToken_159 rfl rfl (wMod q Y (sU (sU I 16 s) 17 (s + 1)) A F Dd) (pm_n _) ?_
          refine g_if_eq C (n' := 165) 204 dX8_nextToken_162 (by decide) rfl bz_r (fun c13 => ?_) (fun c13 => ?_)
          · skip
            replace c13 := bz_eq.mp c13
            refine g_vret C hr hlk ⟨rfl, ?_⟩ dX8_nextToken_204
            unfold tk1 tk2 t_end
            rw [hsk]
            rw [if_neg (by omega), if_pos (t_cls_0 (by omega) (by omega))]
          · skip
            replace c13 := bz_neq.mp c13
            refine lp_X8_nt3 C q I A F Dd s hsI hsA hT (by omega) 200 (s + 1) (by omega) (by omega) (by omega) ?_
            refine g_vret C hr hlk ⟨rfl, ?_⟩ dX8_nextToken_204
            unfold tk1 tk2 t_end
            rw [hsk]
            have hc9 := t_cls_2 (x := A 10 s.toNat)|>.mpr (by omega)
            rw [if_neg (by omega), if_neg (by omega), hc9]
      · skip
        replace c11 := bz_neq.mp c11
        refine lp_X8_nt2 C q I A F Dd s hsI hsA hT (by omega) 200 (s + 1) (by omega) (by omega) (by omega) ?_
        refine g_vret C hr hlk ⟨rfl, ?_⟩ dX8_nextToken_204
        unfold tk1 tk2 t_end
        rw [hsk]
        have hc9 := t_cls_1 (x := A 10 s.toNat)|>.mpr (by omega)
        rw [if_neg (by omega), if_neg (by omega), hc9]
