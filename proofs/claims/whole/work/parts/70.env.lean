/-! what is there from the start: the words, their spellings, the switch map -/
def eNm : List String := ["NET", "PATH", "SETUP", "HOLD", "STEP", "PERIOD"]
def eFs : List (String × String × String × List Int32) := [("java/lang/Enum", "ordinal", "I", [0, 1, 2, 3, 4, 5]), ("SkewPlan$Word", "low", "I", [2, 0, 0, 0, 1, 0]), ("SkewPlan$Word", "high", "I", [8, 0, 9, 9, 9, 999])]
def eLn : List Nat := [3, 4, 5, 4, 4, 6]
def eBy : List (List Int32) := [[110, 101, 116], [112, 97, 116, 104], [115, 101, 116, 117, 112], [104, 111, 108, 100], [115, 116, 101, 112], [112, 101, 114, 105, 111, 100]]
def wEnv (e : Nat → Nat) (A : Nat → Prop) (U : State) (H : Heap) : Prop :=
  va_Z "SkewPlan" "WORDS" "[LSkewPlan$Word;" (.ref (e 0)) A U H ∧
  va_T (.object "SkewPlan$Word") (e 0) 6 (fun j => .ref (e (10 + j))) A U H ∧
  va_En "SkewPlan$Word" "LSkewPlan$Word;" eNm eFs (fun i => e (10 + i)) A U H ∧
  va_Ef 6 "SkewPlan$Word" "spelling" "Ljava/lang/String;" (fun i => .ref (e (20 + i))) (fun i => e (10 + i)) A U H ∧
  va_Z "SkewPlan$1" "$SwitchMap$SkewPlan$Word" "[I" (.ref (e 1)) A U H ∧
  va_T .int (e 1) 6 (fun j => .int (([1, 0, 2, 3, 4, 5] : List Int32).getD j 0)) A U H ∧
  va_Z "java/lang/String" "COMPACT_STRINGS" "Z" (.int 1) A U H ∧
  va_Zq "jdk/internal/util/Preconditions" "SIOOBE_FORMATTER" "Ljava/util/function/BiFunction;" A U H ∧
  vk_S 6 eLn eBy (fun i => e (20 + i)) (fun i => e (30 + i)) A U H
theorem wEnv_stab (e : Nat → Nat) : g_Stab (wEnv e) := by
  refine ⟨fun A u U H hv h => ?_, fun A U H H1 hq h => ?_, fun A B U H hAB h => ?_⟩
  · obtain ⟨h1, h2, h3, h4, h5, h6, h7, h8, h9⟩ := h
    exact ⟨va_Z.moved hv h1, va_T.moved hv h2, va_En.moved hv h3, fun i hi => va_OF.moved hv (h4 i hi), va_Z.moved hv h5, va_T.moved hv h6, va_Z.moved hv h7, va_Zq.moved hv h8, vk_S.moved hv h9⟩
  · obtain ⟨h1, h2, h3, h4, h5, h6, h7, h8, h9⟩ := h
    exact ⟨h1.kept hq, h2.kept hq, h3.kept hq, fun i hi => (h4 i hi).kept hq, h5.kept hq, h6.kept hq, h7.kept hq, h8.kept hq, h9.kept hq⟩
  · obtain ⟨h1, h2, h3, h4, h5, h6, h7, h8, h9⟩ := h
    exact ⟨h1.narrow hAB, h2.narrow hAB, h3.narrow hAB, fun i hi => (h4 i hi).narrow hAB, h5.narrow hAB, h6.narrow hAB, h7.narrow hAB, h8.narrow hAB, h9.narrow hAB⟩
def g_Env (E : (Nat → Prop) → State → Heap → Prop) (e : Nat → Nat) : Prop := ∀ A U H, E A U H → wEnv e A U H
theorem ev_sio {e : Nat → Nat} {A : Nat → Prop} {U : State} {H : Heap} (h : wEnv e A U H) : ∃ v : Value, v.category = 1 ∧ va_Z "jdk/internal/util/Preconditions" "SIOOBE_FORMATTER" "Ljava/util/function/BiFunction;" v A U H := by
  rcases h.2.2.2.2.2.2.2.1 with h | ⟨t, h⟩
  · exact ⟨_, rfl, h⟩
  · exact ⟨_, rfl, h⟩
section GE
variable {p : Program} {l : Launch} {e : Env} {R : Room} {s : State} {m : MethodId} {args : Array Value} {below : List Frame} {meth : Method} {c : Code} {Q : State → Prop}
variable {cc : ByteArray} {nL : Nat} {own : String} {D : va_G} {tys : List (ClassId × FieldType)} {A : Nat → Prop} {ce sl pc : Nat} {w : va_W} {lv : List (Nat × Value)} {st : List Value} {E : (Nat → Prop) → State → Heap → Prop}
theorem g_gets (C : g_Cx p s m args c cc nL own D tys A E) {Cn n d ref : String} {v : Value} {index : Nat} (hZ : va_Z Cn n d v A s s.heap) (hlink : Cond.fieldLink own index ref n d ∈ g_all) (href : ref = Cn) (hdg : decode cc pc = .ok (.getstatic index, 3)) {n' : Nat} (hn : pc + 3 = n') (k : g_G p l e R s m args below meth c nL D A Q ce sl w lv n' (v :: st)) : g_G p l e R s m args below meth c nL D A Q ce sl w lv pc st := by
  subst hn
  intro d0 H locs ls hd hP hD hS hl
  exact va_gets (s := s.setDrawn d0) C.1 C.2.1 hZ hS C.2.2.2.1 (dr_words C.2.2.2.2.1 _ _ hlink) (fun x h => by rw [href]; exact h) hdg (k d0 H locs ls hd hP hD hS hl)
theorem g_getsN (C : g_Cx p s m args c cc nL own D tys A E) {Cn n d ref host : String} {v : Value} {index : Nat} (hZ : va_Z Cn n d v A s s.heap) (hlink : Cond.fieldLinkNest own index ref n d host ∈ g_nest) (href : ref = Cn) (hdg : decode cc pc = .ok (.getstatic index, 3)) {n' : Nat} (hn : pc + 3 = n') (k : g_G p l e R s m args below meth c nL D A Q ce sl w lv n' (v :: st)) : g_G p l e R s m args below meth c nL D A Q ce sl w lv pc st := by
  subst hn
  intro d0 H locs ls hd hP hD hS hl
  exact va_getsN (s := s.setDrawn d0) C.1 C.2.1 hZ hS C.2.2.2.1 (g_nestD C.2.2.2.2.2.2.2.1 d0 hlink) (fun x h => by rw [href]; exact h) hdg (k d0 H locs ls hd hP hD hS hl)
theorem g_getfE (C : g_Cx p s m args c cc nL own D tys A E) {o n d ref : String} {v : Value} {index q : Nat} (hF : va_OF o n d v q A s s.heap) (hlink : Cond.fieldLink own index ref n d ∈ g_all) (href : ref = o) (hdg : decode cc pc = .ok (.getfield index, 3)) {n' : Nat} (hn : pc + 3 = n') (k : g_G p l e R s m args below meth c nL D A Q ce sl w lv n' (v :: st)) : g_G p l e R s m args below meth c nL D A Q ce sl w lv pc (.ref q :: st) := by
  subst hn
  intro d0 H locs ls hd hP hD hS hl
  exact vk_getf (s := s.setDrawn d0) C.1 C.2.1 hF hS C.2.2.2.1 (dr_words C.2.2.2.2.1 _ _ hlink) (fun x h => by rw [href]; exact h) hdg (k d0 H locs ls hd hP hD hS hl)
theorem g_getfEN (C : g_Cx p s m args c cc nL own D tys A E) {o n d ref host : String} {v : Value} {index q : Nat} (hF : va_OF o n d v q A s s.heap) (hlink : Cond.fieldLinkNest own index ref n d host ∈ g_nest) (href : ref = o) (hdg : decode cc pc = .ok (.getfield index, 3)) {n' : Nat} (hn : pc + 3 = n') (k : g_G p l e R s m args below meth c nL D A Q ce sl w lv n' (v :: st)) : g_G p l e R s m args below meth c nL D A Q ce sl w lv pc (.ref q :: st) := by
  subst hn
  subst href
  intro d0 H locs ls hd hP hD hS hl
  obtain ⟨cf, k9, fi, f, cell, h1, h2, h3, h4, h5, h6⟩ := hF.kept hS.2.1
  exact va_Wgetf (s := s.setDrawn d0) C.1 C.2.1 C.2.2.2.1 (g_nestD C.2.2.2.2.2.2.2.1 d0 hlink) h1 h2 h3 h4 (v := v) h5 rfl rfl hdg (k d0 H locs ls hd hP hD hS hl)
theorem g_tq (C : g_Cx p s m args c cc nL own D tys A E) {Cn : String} {t N : Nat} {f : Nat → Value} (hT : va_T (.object Cn) t N f A s s.heap) {i : Int} (h0 : 0 ≤ i) (h1 : i < N) (hs : (N : Int) < 2147483648) {v : Value} (hv : f i.toNat = v) (hdg : decode cc pc = .ok (.aaload, 1)) {n' : Nat} (hn : pc + 1 = n') (k : g_G p l e R s m args below meth c nL D A Q ce sl w lv n' (v :: st)) : g_G p l e R s m args below meth c nL D A Q ce sl w lv pc (.int (iI i) :: .ref t :: st) := by
  subst hn
  intro d0 H locs ls hd hP hD hS hl
  exact vb_tq (s := s.setDrawn d0) C.1 C.2.1 hT hS (iI_in h0 h1 (by omega)) (by rw [iI_clamp ⟨by omega, by omega⟩]; exact hv) hdg (k d0 H locs ls hd hP hD hS hl)
theorem g_ti (C : g_Cx p s m args c cc nL own D tys A E) {t N : Nat} {f : Nat → Value} (hT : va_T .int t N f A s s.heap) {i : Int} (h0 : 0 ≤ i) (h1 : i < N) (hs : (N : Int) < 2147483648) {v : Value} (hv : f i.toNat = v) (hdg : decode cc pc = .ok (.iaload, 1)) {n' : Nat} (hn : pc + 1 = n') (k : g_G p l e R s m args below meth c nL D A Q ce sl w lv n' (v :: st)) : g_G p l e R s m args below meth c nL D A Q ce sl w lv pc (.int (iI i) :: .ref t :: st) := by
  subst hn
  intro d0 H locs ls hd hP hD hS hl
  exact va_ti (s := s.setDrawn d0) C.1 C.2.1 hT hS (iI_in h0 h1 (by omega)) (by rw [iI_clamp ⟨by omega, by omega⟩]; exact hv) hdg (k d0 H locs ls hd hP hD hS hl)
theorem g_tb (C : g_Cx p s m args c cc nL own D tys A E) {t N : Nat} {f : Nat → Value} (hT : va_T .byte t N f A s s.heap) {i : Int} (h0 : 0 ≤ i) (h1 : i < N) (hs : (N : Int) < 2147483648) {v : Value} (hv : f i.toNat = v) (hdg : decode cc pc = .ok (.baload, 1)) {n' : Nat} (hn : pc + 1 = n') (k : g_G p l e R s m args below meth c nL D A Q ce sl w lv n' (v :: st)) : g_G p l e R s m args below meth c nL D A Q ce sl w lv pc (.int (iI i) :: .ref t :: st) := by
  subst hn
  intro d0 H locs ls hd hP hD hS hl
  exact va_tb (s := s.setDrawn d0) C.1 C.2.1 hT hS (iI_in h0 h1 (by omega)) (by rw [iI_clamp ⟨by omega, by omega⟩]; exact hv) hdg (k d0 H locs ls hd hP hD hS hl)
theorem g_tlen (C : g_Cx p s m args c cc nL own D tys A E) {ty : FieldType} {t N : Nat} {f : Nat → Value} (hT : va_T ty t N f A s s.heap) {v : Int} (hv : Int32.ofNat N = iI v) (hdg : decode cc pc = .ok (.arraylength, 1)) {n' : Nat} (hn : pc + 1 = n') (k : g_G p l e R s m args below meth c nL D A Q ce sl w lv n' (.int (iI v) :: st)) : g_G p l e R s m args below meth c nL D A Q ce sl w lv pc (.ref t :: st) := by
  subst hn
  intro d0 H locs ls hd hP hD hS hl
  exact va_tlen (s := s.setDrawn d0) C.1 C.2.1 hT hS hv hdg (k d0 H locs ls hd hP hD hS hl)
theorem g_acmp_ne (C : g_Cx p s m args c cc nL own D tys A E) {x y : Nat} {off : Int} (tgt : Nat) (hdg : decode cc pc = .ok (.if_acmp .ne off, 3)) (ht : (pc : Int) + off = (tgt : Int)) {n' : Nat} (hn : pc + 3 = n') (kt : x ≠ y → g_G p l e R s m args below meth c nL D A Q ce sl w lv tgt st) (kf : x = y → g_G p l e R s m args below meth c nL D A Q ce sl w lv n' st) : g_G p l e R s m args below meth c nL D A Q ce sl w lv pc (.ref y :: .ref x :: st) := by
  subst hn
  intro d0 H locs ls hd hP hD hS hl
  exact lv_acmp_ne (s := s.setDrawn d0) (rx := some x) (ry := some y) C.1 C.2.1 hdg ht (fun q => kt (fun z => q (by rw [z])) d0 H locs ls hd hP hD hS hl) (fun q => kf (Option.some.inj q) d0 H locs ls hd hP hD hS hl)
theorem g_popV (C : g_Cx p s m args c cc nL own D tys A E) {va : Value} (hva : va.category = 1) (hdg : decode cc pc = .ok (.pop, 1)) {n' : Nat} (hn : pc + 1 = n') (k : g_G p l e R s m args below meth c nL D A Q ce sl w lv n' st) : g_G p l e R s m args below meth c nL D A Q ce sl w lv pc (va :: st) := g_pop C hva hdg hn k
/-- a call on an object that is there from the start -/
theorem g_callO (C : g_Cx p s m args c cc nL own D tys A E) {wc wr : va_W} {y : MethodName} {rm : Room} {bytes : ByteArray} {maxL mc ms index : Nat} {ret : Option FieldType} {post : Option Value → va_W → Prop} {Cn : String} {b : Nat} {As : List Value} (hM : g_Ct l y bytes maxL ret rm D tys E (.ref b :: As) wc mc ms post) (n : Nat) (hlk : Cond.methodLink own index y ∈ g_all) (hcd : g_cee Cn y bytes maxL ret) (hd : y.cls = Cn ∧ y.cls ≠ "java/lang/invoke/MethodHandle" ∧ y.cls ≠ "java/lang/invoke/VarHandle" ∧ (parseMethodDescriptor y.desc).map (fun d => d.parameters.length) = some n) (hp : w.Perm (wc ++ wr)) (hO : ∀ A U H, E A U H → va_O Cn b A U H) (hn : As.length = n) (hR : rm.frames + 1 ≤ R.frames ∧ 8 + (maxL + 11) + rm.locals ≤ R.locals) (hm : rm.cells = mc ∧ rm.slots = ms) (hf : ce + mc ≤ R.cells ∧ sl + ms ≤ R.slots) (hrm : (st.map fun v => v.category).sum ≤ 8) (hdg : decode cc pc = .ok (.invokevirtual index, 3)) {n' : Nat} (hn' : pc + 3 = n') (k : ∀ (r : Option Value) (w1 : va_W), post r w1 → g_G p l e R s m args below meth c nL D A Q (ce + mc) (sl + ms) (w1 ++ wr) lv n' (r.toList ++ st)) : g_G p l e R s m args below meth c nL D A Q ce sl w lv pc (As.reverse ++ .ref b :: st) := by
  subst hn'
  refine g_run (a := (Value.ref b :: As).toArray) C hp (fun d0 H locs ls hdr hPc hDc hEc hl => ?_) k
  have hrecv : ∃ cell : Cell, H[b]? = some cell ∧ cell.vm.isStatics = false ∧ (s.setDrawn d0).vm.findClass Cn = some cell.cls := by
    obtain ⟨cell, h1, h2, h3, -⟩ := hO _ _ _ (hEc (s.setDrawn d0) (State.WarmedH.refl _))
    exact ⟨cell, h1, h2, h3⟩
  exact va_runV_D (Ts := g_all) ⟨C.1, C.2.1, C.2.2.1, C.2.2.2.1, dr_words C.2.2.2.2.1 _⟩ (hM H.size) (cwV n (ws' := g_all) (dr_words C.2.2.2.2.1 _) (g_gV hlk hcd) rfl hm.1 hm.2 hd hR) ⟨ga_blind C.2.2.2.2.2.2.2.2.1, hrecv, fun U hU hW => ⟨rfl, by rw [hU], by rw [hU]; exact hPc, va_K.moved hW.alike C.2.2.2.2.2.1, hDc, g_nest_w hW (fun w hw => va_Nw.same (g_nest_t hw) (u := s) (U := s.setDrawn d0) rfl (C.2.2.2.2.2.2.2.1 w hw)), by rw [hU]; exact hEc U hW⟩⟩ rfl hn hl.1 rfl (lv_room hrm) hdg hf
theorem g_cOv (C : g_Cx p s m args c cc nL own D tys A E) {y : MethodName} {rm : Room} {bytes : ByteArray} {maxL index : Nat} {ret : Option FieldType} {v : Value} {Cn : String} {b : Nat} {As : List Value} (hM : g_Ct l y bytes maxL ret rm D tys E (.ref b :: As) [] 0 0 (g_det (some v) [])) (n : Nat) (hlk : Cond.methodLink own index y ∈ g_all) (hcd : g_cee Cn y bytes maxL ret) (hd : y.cls = Cn ∧ y.cls ≠ "java/lang/invoke/MethodHandle" ∧ y.cls ≠ "java/lang/invoke/VarHandle" ∧ (parseMethodDescriptor y.desc).map (fun d => d.parameters.length) = some n) (hO : ∀ A U H, E A U H → va_O Cn b A U H) (hn : As.length = n) (hR : rm.frames + 1 ≤ R.frames ∧ 8 + (maxL + 11) + rm.locals ≤ R.locals) (hm : rm.cells = 0 ∧ rm.slots = 0) (hf : ce + 0 ≤ R.cells ∧ sl + 0 ≤ R.slots) (hrm : (st.map fun v => v.category).sum ≤ 8) (hdg : decode cc pc = .ok (.invokevirtual index, 3)) {n' : Nat} (hn' : pc + 3 = n') {st0 : List Value} (hst : st0 = As.reverse ++ .ref b :: st) (k : g_G p l e R s m args below meth c nL D A Q ce sl w lv n' (v :: st)) : g_G p l e R s m args below meth c nL D A Q ce sl w lv pc st0 := by
  subst hst
  exact g_callO C hM n hlk hcd hd (pm_n w) hO hn hR hm hf hrm hdg hn' (fun r w1 h => by
    obtain ⟨rfl, rfl⟩ := h
    exact k)
/-- Word.ordinal, which Enum has -/
theorem g_cOrd (C : g_Cx p s m args c cc nL own D tys A E) {rm : Room} {bytes : ByteArray} {maxL index : Nat} {ret : Option FieldType} {v : Value} {x y : MethodName} {Cn owner : String} {b : Nat} (hM : g_Ct l y bytes maxL ret rm D tys E [.ref b] [] 0 0 (g_det (some v) [])) (hlk : Cond.methodLink own index x ∈ g_all) (hsm : Cond.sameMethod x.cls owner x.name x.desc ∈ g_all) (hse : Cond.selects Cn x y ∈ g_all) (hin : Cond.instanceMethod y ∈ g_all) (hini : Cond.initialized y.cls ∈ g_all) (hcd : Cond.code y bytes maxL ret ∈ g_all) (hyx : y = ⟨owner, x.name, x.desc⟩) (hd : owner ≠ "java/lang/invoke/MethodHandle" ∧ owner ≠ "java/lang/invoke/VarHandle" ∧ (parseMethodDescriptor x.desc).map (fun d => d.parameters.length) = some 0) (hO : ∀ A U H, E A U H → va_O Cn b A U H) (hR : rm.frames + 1 ≤ R.frames ∧ 8 + (maxL + 11) + rm.locals ≤ R.locals) (hm : rm.cells = 0 ∧ rm.slots = 0) (hf : ce + 0 ≤ R.cells ∧ sl + 0 ≤ R.slots) (hrm : (st.map fun v => v.category).sum ≤ 8) (hdg : decode cc pc = .ok (.invokevirtual index, 3)) {n' : Nat} (hn' : pc + 3 = n') (k : g_G p l e R s m args below meth c nL D A Q ce sl w lv n' (v :: st)) : g_G p l e R s m args below meth c nL D A Q ce sl w lv pc (.ref b :: st) := by
  subst hn'
  refine g_run (wc := []) (wr := w) (rest := st) (mc := 0) (ms := 0) (post := g_det (some v) []) (a := [Value.ref b].toArray) C (pm_n w) (fun d0 H locs ls hdr hPc hDc hEc hl => ?_) (fun r w1 h => by
    obtain ⟨rfl, rfl⟩ := h
    exact k)
  have hrecv : ∃ cell : Cell, H[b]? = some cell ∧ cell.vm.isStatics = false ∧ (s.setDrawn d0).vm.findClass Cn = some cell.cls := by
    obtain ⟨cell, h1, h2, h3, -⟩ := hO _ _ _ (hEc (s.setDrawn d0) (State.WarmedH.refl _))
    exact ⟨cell, h1, h2, h3⟩
  have hG : GoodIn g_all (va_wsU own index Cn owner x y (Cond.code y bytes maxL ret :: g_all)) := by
    intro z hz
    unfold va_wsU at hz
    rcases List.mem_append.mp hz with q | q
    · simp only [List.mem_cons, List.not_mem_nil, or_false] at q
      rcases q with rfl | rfl | rfl | rfl | rfl
      · exact ⟨hlk, g_ok hlk⟩
      · exact ⟨hsm, g_ok hsm⟩
      · exact ⟨hse, g_ok hse⟩
      · exact ⟨hin, g_ok hin⟩
      · exact ⟨hini, g_ok hini⟩
    · exact g_gN hcd z q
  exact va_runU_D (Ts := g_all) (As := []) (rest := st) ⟨C.1, C.2.1, C.2.2.1, C.2.2.2.1, dr_words C.2.2.2.2.1 _⟩ (hM H.size) (va_cwU 0 (ws' := g_all) (dr_words C.2.2.2.2.1 _) hG rfl hm.1 hm.2 hyx hd hR) ⟨ga_blind C.2.2.2.2.2.2.2.2.1, hrecv, fun U hU hW => ⟨rfl, by rw [hU], by rw [hU]; exact hPc, va_K.moved hW.alike C.2.2.2.2.2.1, hDc, g_nest_w hW (fun w hw => va_Nw.same (g_nest_t hw) (u := s) (U := s.setDrawn d0) rfl (C.2.2.2.2.2.2.2.1 w hw)), by rw [hU]; exact hEc U hW⟩⟩ rfl rfl hl.1 rfl (lv_room hrm) hdg hf
end GE
