/-! contracts over worlds, the ends of methods, calls -/
theorem ga_pair {w : va_W} : (∀ (i j : Nat) (p q : Nat × va_E), w[i]? = some p → w[j]? = some q → p.1 = q.1 → i = j) ↔ w.Pairwise (fun p q => p.1 ≠ q.1) := by
  rw [List.pairwise_iff_getElem]
  constructor
  · intro h i j hi hj hij e
    have := h i j _ _ (List.getElem?_eq_getElem hi) (List.getElem?_eq_getElem hj) e
    omega
  · intro h i j p q hp hq e
    obtain ⟨hi, rfl⟩ := List.getElem?_eq_some_iff.mp hp
    obtain ⟨hj, rfl⟩ := List.getElem?_eq_some_iff.mp hq
    rcases Nat.lt_trichotomy i j with z | z | z
    · exact absurd e (h i j hi hj z)
    · exact z
    · exact absurd e.symm (h j i hj hi z)
theorem ga_P {D : va_G} {cl : List vw_C} {w w' : va_W} {H : Heap} (h : w.Perm w') (hP : va_P D cl w H) : va_P D cl w' H := by
  intro k q hk
  obtain ⟨i, hi⟩ := List.getElem?_of_mem (h.mem_iff.mpr (List.mem_of_getElem? hk))
  exact hP i q hi
theorem ga_D {A : Nat → Prop} {w w' : va_W} (h : w.Perm w') (hD : va_D A w) : va_D A w' := by
  refine ⟨ga_pair.mpr ((h.pairwise_iff (fun {x y} z => Ne.symm z)).mp (ga_pair.mp hD.1)), fun k q hk => ?_⟩
  obtain ⟨i, hi⟩ := List.getElem?_of_mem (h.mem_iff.mpr (List.mem_of_getElem? hk))
  exact hD.2 i q hi
theorem ga_Pl {D : va_G} {cl : List vw_C} {w1 w2 : va_W} {H : Heap} (h : va_P D cl (w1 ++ w2) H) : va_P D cl w1 H := fun k q hk => h k q (by rw [List.getElem?_append_left (List.getElem?_eq_some_iff.mp hk).1]; exact hk)
theorem ga_Dl {A : Nat → Prop} {w1 w2 : va_W} (h : va_D A (w1 ++ w2)) : va_D A w1 := by
  have g : ∀ (k : Nat) (q : Nat × va_E), w1[k]? = some q → (w1 ++ w2)[k]? = some q := fun k q hk => by rw [List.getElem?_append_left (List.getElem?_eq_some_iff.mp hk).1]; exact hk
  exact ⟨fun i j p q hp hq => h.1 i j p q (g i p hp) (g j q hq), fun k q hk => h.2 k q (g k q hk)⟩
theorem ga_r {w1 w2 : va_W} {k : Nat} {q : Nat × va_E} (hk : w2[k]? = some q) : (w1 ++ w2)[w1.length + k]? = some q := by rw [List.getElem?_append_right (by omega), show w1.length + k - w1.length = k by omega]; exact hk
theorem ga_Dr {A : Nat → Prop} {w1 w2 : va_W} (h : va_D A (w1 ++ w2)) : va_D A w2 := ⟨fun i j p q hp hq e => by have := h.1 _ _ p q (ga_r hp) (ga_r hq) e; omega, fun k q hk => h.2 _ q (ga_r hk)⟩
/-- behind a call: the callee's new world beside the rest, which is unchanged -/
theorem ga_join {A : Nat → Prop} {D : va_G} {cl : List vw_C} {wc wr w1 : va_W} {H H1 : Heap} (hP : va_P D cl (wc ++ wr) H) (hD : va_D A (wc ++ wr)) (hk : ∀ q : Nat, q < H.size → ¬ va_A wc H.size q → H1[q]? = H[q]?) (hF : ∀ q, va_A wc H.size q → A q) (hP1 : va_P D cl w1 H1) (hD1 : va_D (va_A wc H.size) w1) : va_P D cl (w1 ++ wr) H1 ∧ va_D A (w1 ++ wr) := by
  have apart : ∀ (k : Nat) (q : Nat × va_E), wr[k]? = some q → q.1 < H.size ∧ ¬ va_A wc H.size q.1 := by
    intro k q hq
    have hl := (hP _ q (ga_r hq)).lt
    refine ⟨hl, fun h => ?_⟩
    rcases h with ⟨k2, e, h⟩ | h
    · have hk2 := (List.getElem?_eq_some_iff.mp h).1
      have := hD.1 _ _ q (q.1, e) (ga_r hq) (show (wc ++ wr)[k2]? = some (q.1, e) by rw [List.getElem?_append_left hk2]; exact h) rfl
      omega
    · omega
  refine ⟨va_P.app hP1 (fun k q hq => ?_), va_D.app (hD1.weaken (fun k q _ h => hF q.1 h)) (ga_Dr hD) (fun i j x y hx hy hxy => ?_)⟩
  · obtain ⟨g1, g2⟩ := apart k q hq
    exact (hP _ q (ga_r hq)).kept (hk q.1 g1 g2)
  · exact (apart j y hy).2 (by rw [← hxy]; exact hD1.2 i x hx)
theorem ga_free {A : Nat → Prop} {wc wr : va_W} {H0 H : Heap} {locs : List Loc} (hD : va_D A (wc ++ wr)) (hS : va_S A H0 H locs) (hA : ∀ q, H0.size ≤ q → A q) : ∀ q, va_A wc H.size q → A q := by
  intro q h
  rcases h with ⟨k, e, h⟩ | h
  · exact hD.2 k (q, e) (by rw [List.getElem?_append_left (List.getElem?_eq_some_iff.mp h).1]; exact h)
  · exact hA q (Nat.le_trans hS.1 h)
def g_Q (post : Option Value → va_W → Prop) (D : va_G) (A : Nat → Prop) : Array Value → State → Outcome → State → Prop := fun _ st oc t => (∃ (r : Option Value) (w' : va_W), oc = .returned r ∧ post r w' ∧ va_P D vwCl w' t.heap ∧ va_D A w') ∧ va_F A st t
def g_det (r0 : Option Value) (w0 : va_W) : Option Value → va_W → Prop := fun r w => r = r0 ∧ w = w0
def g_Pre (D : va_G) (tys : List (ClassId × FieldType)) (E : (Nat → Prop) → State → Heap → Prop) (w : va_W) (sz : Nat) (U : State) : Prop := U.heap.size = sz ∧ va_P D vwCl w U.heap ∧ va_K D vwCl tys U ∧ va_D (fun _ => True) w ∧ (∀ w ∈ g_nest, va_Nw w U) ∧ E (va_A w sz) U U.heap
/-- the contract of method y on the world w with the values av: it ends, 'post' of its answer and of the world then, at most mc cells of ms slots are new, nothing else changed -/
def g_Ct (l : Launch) (y : MethodName) (cc : ByteArray) (maxL : Nat) (ret : Option FieldType) (rm : Room) (D : va_G) (tys : List (ClassId × FieldType)) (E : (Nat → Prop) → State → Heap → Prop) (av : List Value) (w : va_W) (mc ms : Nat) (post : Option Value → va_W → Prop) : Prop := ∀ sz : Nat, MetD lw_cs l y (Cond.code y cc maxL ret :: g_all) rm (va_Pc av (g_Pre D tys E w sz)) (g_Q post D (va_A w sz)) mc ms (va_A w sz)
theorem g_ofG {l : Launch} {y : MethodName} {own : String} {rm : Room} {D : va_G} {tys : List (ClassId × FieldType)} {E : (Nat → Prop) → State → Heap → Prop} (hE : g_Stab E) {av : List Value} {w : va_W} {mc ms : Nat} {post : Option Value → va_W → Prop} {cc : ByteArray} {maxL : Nat} {ret : Option FieldType} (hy : plainName y.cls = true) (ho : y.cls = own) (hlen : (lg_sl av).length ≤ maxL) (lv0 : List (Nat × Value)) (hlv : lv_args 0 av = lv0)
    (body : ∀ (p : Program) (e : Env) (s : State) (m : MethodId) (below : List Frame) (meth : Method) (c : Code) (A : Nat → Prop), g_Cx p s m av.toArray c cc maxL own D tys A E → meth.sig.returnType = ret → meth.locks = false → meth.name = y.name → g_G p l e rm s m av.toArray below meth c maxL D A (MQD lw_cs below (g_Q post D A) av.toArray s mc ms A) 0 0 w lv0 0 []) : g_Ct l y cc maxL ret rm D tys E av w mc ms post := by
  intro sz
  refine MetD.ofW (cc := cc) (maxL := maxL) (ret := ret) hy rfl ?_
  subst ho
  intro p e s m args below meth c s₁ B hml hv hd0
  obtain ⟨rfl, hsz, hP, hK, hD0, hN, hE0⟩ := hv
  have hown : s.vm.findClass y.cls = some m.cls := findClass_of_methodNamed B.named
  subst hsz
  have hD := hD0.self (sz := s.heap.size)
  rw [lg_entry_eq]
  have hl := lv_entry av hlen
  rw [hlv] at hl
  exact body p e s m below meth c (va_A w s.heap.size) ⟨B.exec, B.bytes, hml, hown, fun w h => atoms_spec (ws := Cond.code y cc maxL ret :: g_all) B.pre w (List.mem_cons_of_mem _ h), hK, fun q h => Or.inr h, hN, hE, hE0⟩ B.returns B.notSynchronized (name_of_methodNamed B.named B.method).1 s.drawn s.heap [] _ hd0 hP hD va_S.rf hl
/-- a method that can be called: its code and what the tables say of it -/
def g_cee (Cn : String) (y : MethodName) (cc : ByteArray) (maxL : Nat) (ret : Option FieldType) : Prop := Cond.code y cc maxL ret ∈ g_all ∧ Cond.instanceMethod y ∈ g_all ∧ Cond.selects Cn y y ∈ g_all ∧ Cond.initialized Cn ∈ g_all
def g_sta (y : MethodName) (cc : ByteArray) (maxL : Nat) (ret : Option FieldType) : Prop := Cond.code y cc maxL ret ∈ g_all ∧ Cond.static y ∈ g_all ∧ Cond.initialized y.cls ∈ g_all
theorem g_ok {w : Cond} (h : w ∈ g_all) : (w.onTables && w.keeps) = true ∨ ∃ ty, w = .arrayClass ty := good_of_word (List.mem_filter.mp h).2
theorem g_gN {w : Cond} (h : w ∈ g_all) : GoodIn g_all (w :: g_all) := fun x hx => (List.mem_cons.mp hx).elim (fun q => by subst q; exact ⟨h, g_ok h⟩) (fun q => ⟨q, g_ok q⟩)
theorem g_gV {own : String} {index : Nat} {Cn : String} {y : MethodName} {cc : ByteArray} {maxL : Nat} {ret : Option FieldType} (hl : Cond.methodLink own index y ∈ g_all) (h : g_cee Cn y cc maxL ret) : GoodIn g_all (wsV own index Cn y (Cond.code y cc maxL ret :: g_all)) := by
  intro x hx
  unfold wsV at hx
  rcases List.mem_append.mp hx with q | q
  · simp only [List.mem_cons, List.not_mem_nil, or_false] at q
    rcases q with rfl | rfl | rfl | rfl
    · exact ⟨hl, g_ok hl⟩
    · exact ⟨h.2.1, g_ok h.2.1⟩
    · exact ⟨h.2.2.1, g_ok h.2.2.1⟩
    · exact ⟨h.2.2.2, g_ok h.2.2.2⟩
  · exact g_gN h.1 x q
theorem g_gS {own : String} {index : Nat} {y : MethodName} {cc : ByteArray} {maxL : Nat} {ret : Option FieldType} (hl : Cond.methodLink own index y ∈ g_all) (h : g_sta y cc maxL ret) : GoodIn g_all (va_wsS own index y (Cond.code y cc maxL ret :: g_all)) := by
  intro x hx
  unfold va_wsS at hx
  rcases List.mem_append.mp hx with q | q
  · simp only [List.mem_cons, List.not_mem_nil, or_false] at q
    rcases q with rfl | rfl | rfl
    · exact ⟨hl, g_ok hl⟩
    · exact ⟨h.2.1, g_ok h.2.1⟩
    · exact ⟨h.2.2, g_ok h.2.2⟩
  · exact g_gN h.1 x q
section GC
variable {p : Program} {l : Launch} {e : Env} {R : Room} {s : State} {m : MethodId} {args : Array Value} {below : List Frame} {meth : Method} {c : Code} {Q : State → Prop}
variable {cc : ByteArray} {nL : Nat} {own : String} {D : va_G} {tys : List (ClassId × FieldType)} {A : Nat → Prop} {ce sl pc : Nat} {w : va_W} {lv : List (Nat × Value)} {st : List Value} {E : (Nat → Prop) → State → Heap → Prop}
theorem g_iret (C : g_Cx p s m args c cc nL own D tys A E) {post : Option Value → va_W → Prop} {ty : FieldType} {v : Int32} (hr : meth.sig.returnType = some ty) (hlk : meth.locks = false) (hnr : narrow ty (.int v) = .int v) (hpost : post (some (.int v)) w) (hdg : decode cc pc = .ok (.ireturn, 1)) : g_G p l e R s m args below meth c nL D A (MQD lw_cs below (g_Q post D A) args s ce sl A) ce sl w lv pc [.int v] :=
  fun d0 H locs ls hd hP hD hS hl => W.endD hd (W.zret C.1 C.2.1 hr hnr (fun t ht hW => ⟨⟨_, w, rfl, hpost, by rw [ht]; exact hP, hD⟩, va_S.F hS ht⟩) hS.2.2 hdg hlk)
theorem g_vret (C : g_Cx p s m args c cc nL own D tys A E) {post : Option Value → va_W → Prop} (hr : meth.sig.returnType = none) (hlk : meth.locks = false) (hpost : post none w) (hdg : decode cc pc = .ok (.return_, 1)) : g_G p l e R s m args below meth c nL D A (MQD lw_cs below (g_Q post D A) args s ce sl A) ce sl w lv pc [] :=
  fun d0 H locs ls hd hP hD hS hl => W.endD hd (W.vret C.1 C.2.1 hr (fun t ht hW => ⟨⟨_, w, rfl, hpost, by rw [ht]; exact hP, hD⟩, va_S.F hS ht⟩) hS.2.2 hdg hlk)
theorem g_dret (C : g_Cx p s m args c cc nL own D tys A E) {post : Option Value → va_W → Prop} {v : UInt64} (hr : meth.sig.returnType = some .double) (hlk : meth.locks = false) (hpost : post (some (.double v)) w) (hdg : decode cc pc = .ok (.dreturn, 1)) : g_G p l e R s m args below meth c nL D A (MQD lw_cs below (g_Q post D A) args s ce sl A) ce sl w lv pc [.double v] :=
  fun d0 H locs ls hd hP hD hS hl => W.endD hd (W.dret C.1 C.2.1 hr (fun t ht hW => ⟨⟨_, w, rfl, hpost, by rw [ht]; exact hP, hD⟩, va_S.F hS ht⟩) hS.2.2 hdg hlk)
theorem fit_z {v : Int} (h : v = 0 ∨ v = 1) : fits .boolean (.int (iI v)) = true := by
  rcases h with rfl | rfl <;> decide
theorem nar_z {v : Int} (h : v = 0 ∨ v = 1) : narrow .boolean (.int (iI v)) = .int (iI v) := by
  rcases h with rfl | rfl <;> decide
theorem g_perm {w' : va_W} (h : w.Perm w') (k : g_G p l e R s m args below meth c nL D A Q ce sl w' lv pc st) : g_G p l e R s m args below meth c nL D A Q ce sl w lv pc st := fun d0 H locs ls hd hP hD hS hl => k d0 H locs ls hd (ga_P h hP) (ga_D h hD) hS hl
theorem g_lv {lv' : List (Nat × Value)} (ks : List Nat) (h : lv_pick lv ks = lv') (k : g_G p l e R s m args below meth c nL D A Q ce sl w lv' pc st) : g_G p l e R s m args below meth c nL D A Q ce sl w lv pc st := fun d0 H locs ls hd hP hD hS hl => k d0 H locs ls hd hP hD hS (lv_sub hl ks h)
theorem g_wd {w' : va_W} (h : w = w') (k : g_G p l e R s m args below meth c nL D A Q ce sl w' lv pc st) : g_G p l e R s m args below meth c nL D A Q ce sl w lv pc st := h ▸ k
theorem g_st {st' : List Value} (h : st = st') (k : g_G p l e R s m args below meth c nL D A Q ce sl w lv pc st') : g_G p l e R s m args below meth c nL D A Q ce sl w lv pc st := h ▸ k
theorem ga_blind (hE : g_Stab E) {av : List Value} {wc : va_W} {sz : Nat} : FrameBlind (va_Pc av (g_Pre D tys E wc sz)) := fun a U g mk q => by
  obtain ⟨q0, q1, qP, qK, qD, qN, qE⟩ := q
  exact ⟨q0, q1, qP, va_K.moved (u := U) (U := U.calling g mk a) (Vm.Alike.refl U.vm) qK, qD, fun w hw => va_Nw.same (g_nest_t hw) (u := U) (U := U.calling g mk a) rfl (qN w hw), hE.1 _ U (U.calling g mk a) _ (Vm.Alike.refl U.vm) qE⟩
/-- out of a run: the world behind it -/
theorem g_run {wc wr : va_W} {rest st0 : List Value} {mc ms : Nat} {a : Array Value} {post : Option Value → va_W → Prop} (C : g_Cx p s m args c cc nL own D tys A E) (hp : w.Perm (wc ++ wr))
    (hr : ∀ (d0 : Drawn) (H : Heap) (locs : List Loc) (ls : Array Slot), s.drawn.sameBut d0 lw_cs → va_P D vwCl wc H → va_D (fun _ => True) wc → (∀ U : State, (s.setDrawn d0).WarmedH U.vm → E (va_A wc H.size) U H) → lv_has ls nL lv → va_RunD lw_cs p l e R (s.setDrawn d0) m args below meth c H locs ce sl mc ms (F0 m pc ls st0) rest (g_Q post D (va_A wc H.size) a) (va_A wc H.size))
    (k : ∀ (r : Option Value) (w1 : va_W), post r w1 → g_G p l e R s m args below meth c nL D A Q (ce + mc) (sl + ms) (w1 ++ wr) lv (pc + 3) (r.toList ++ rest)) : g_G p l e R s m args below meth c nL D A Q ce sl w lv pc st0 := by
  intro d0 H locs ls hd hP hD hS hl
  have hP2 := ga_P hp hP
  have hD2 := ga_D hp hD
  have hF := ga_free hD2 hS C.2.2.2.2.2.2.1
  intro T hT X
  obtain ⟨v, st₀, t, T', L, d', hd', h0, X', hL, e1, e2, ⟨⟨r, w1, hv, hpost, hP1, hD1⟩, hz, hk⟩, st⟩ := hr d0 H locs ls hd (ga_Pl hP2) ((ga_Dl hD2).weaken (fun _ _ _ _ => trivial)) (fun U hW => C.2.2.2.2.2.2.2.2.1.1 _ s U _ (show s.vm.Alike U.vm from hW.alike) (C.2.2.2.2.2.2.2.2.1.2.2 _ _ _ _ hF (C.2.2.2.2.2.2.2.2.1.2.1 _ _ _ _ hS.2.1 C.2.2.2.2.2.2.2.2.2))) hl T hT X
  cases hv
  rw [h0] at hz hk
  rw [← e1] at hz hk hP1
  obtain ⟨j1, j2⟩ := ga_join hP2 hD2 hk hF hP1 hD1
  have hS2 : va_S A s.heap T'.heap (locs ++ L) := ⟨Nat.le_trans hS.1 hz, fun q h1 h2 => by rw [hk q (Nat.lt_of_lt_of_le h1 hS.1) (fun z => h2 (hF q z))]; exact hS.2.1 q h1 h2, fun q hq => by
    rcases List.mem_append.mp hq with h | h
    · exact hS.2.2 q h
    · exact hF _ (hL q h)⟩
  obtain ⟨t2, a1, b1⟩ := k _ w1 hpost d' T'.heap (locs ++ L) ls (hd.trans hd') j1 j2 hS2 hl T' rfl X'
  exact ⟨t2, st t2 a1, b1⟩
theorem g_callV (C : g_Cx p s m args c cc nL own D tys A E) {wc wr : va_W} {y : MethodName} {rm : Room} {bytes : ByteArray} {maxL mc ms index : Nat} {ret : Option FieldType} {post : Option Value → va_W → Prop} {Cn : String} {b : Nat} {As : List Value} (hM : g_Ct l y bytes maxL ret rm D tys E (.ref b :: As) wc mc ms post) (n : Nat) (hlk : Cond.methodLink own index y ∈ g_all) (hcd : g_cee Cn y bytes maxL ret) (hd : y.cls = Cn ∧ y.cls ≠ "java/lang/invoke/MethodHandle" ∧ y.cls ≠ "java/lang/invoke/VarHandle" ∧ (parseMethodDescriptor y.desc).map (fun d => d.parameters.length) = some n) (hp : w.Perm (wc ++ wr)) (q0 : Nat) {ci : Nat} {q : vw_C} {fs : List Value} (hc : vwCl[ci]? = some q) (hcn : q.1 = Cn) (he : wc[q0]? = some (b, .inr (ci, fs))) (hn : As.length = n) (hR : rm.frames + 1 ≤ R.frames ∧ 8 + (maxL + 11) + rm.locals ≤ R.locals) (hm : rm.cells = mc ∧ rm.slots = ms) (hf : ce + mc ≤ R.cells ∧ sl + ms ≤ R.slots) (hrm : (st.map fun v => v.category).sum ≤ 8) (hdg : decode cc pc = .ok (.invokevirtual index, 3)) {n' : Nat} (hn' : pc + 3 = n') (k : ∀ (r : Option Value) (w1 : va_W), post r w1 → g_G p l e R s m args below meth c nL D A Q (ce + mc) (sl + ms) (w1 ++ wr) lv n' (r.toList ++ st)) : g_G p l e R s m args below meth c nL D A Q ce sl w lv pc (As.reverse ++ .ref b :: st) := by
  subst hn'
  refine g_run (a := (Value.ref b :: As).toArray) C hp (fun d0 H locs ls hdr hPc hDc hEc hl => ?_) k
  exact va_runV_D (Ts := g_all) ⟨C.1, C.2.1, C.2.2.1, C.2.2.2.1, dr_words C.2.2.2.2.1 _⟩ (hM H.size) (cwV n (ws' := g_all) (dr_words C.2.2.2.2.1 _) (g_gV hlk hcd) rfl hm.1 hm.2 hd hR) ⟨ga_blind C.2.2.2.2.2.2.2.2.1, by rw [← hcn]; exact va_recv C.2.2.2.2.2.1 hPc hc he, fun U hU hW => ⟨rfl, by rw [hU], by rw [hU]; exact hPc, va_K.moved hW.alike C.2.2.2.2.2.1, hDc, g_nest_w hW (fun w hw => va_Nw.same (g_nest_t hw) (u := s) (U := s.setDrawn d0) rfl (C.2.2.2.2.2.2.2.1 w hw)), by rw [hU]; exact hEc U hW⟩⟩ rfl hn hl.1 rfl (lv_room hrm) hdg hf
theorem g_callS (C : g_Cx p s m args c cc nL own D tys A E) {wc wr : va_W} {y : MethodName} {rm : Room} {bytes : ByteArray} {maxL mc ms index : Nat} {ret : Option FieldType} {post : Option Value → va_W → Prop} {As : List Value} (hM : g_Ct l y bytes maxL ret rm D tys E As wc mc ms post) (n : Nat) (hlk : Cond.methodLink own index y ∈ g_all) (hcd : g_sta y bytes maxL ret) (hd : y.cls ≠ "java/lang/invoke/MethodHandle" ∧ y.cls ≠ "java/lang/invoke/VarHandle" ∧ (parseMethodDescriptor y.desc).map (fun d => d.parameters.length) = some n) (hp : w.Perm (wc ++ wr)) (hn : As.length = n) (hR : rm.frames + 1 ≤ R.frames ∧ 8 + (maxL + 11) + rm.locals ≤ R.locals) (hm : rm.cells = mc ∧ rm.slots = ms) (hf : ce + mc ≤ R.cells ∧ sl + ms ≤ R.slots) (hrm : (st.map fun v => v.category).sum ≤ 8) (hdg : decode cc pc = .ok (.invokestatic index, 3)) {n' : Nat} (hn' : pc + 3 = n') (k : ∀ (r : Option Value) (w1 : va_W), post r w1 → g_G p l e R s m args below meth c nL D A Q (ce + mc) (sl + ms) (w1 ++ wr) lv n' (r.toList ++ st)) : g_G p l e R s m args below meth c nL D A Q ce sl w lv pc (As.reverse ++ st) := by
  subst hn'
  refine g_run (a := As.toArray) C hp (fun d0 H locs ls hdr hPc hDc hEc hl => ?_) k
  exact va_runS_D (Ts := g_all) ⟨C.1, C.2.1, C.2.2.1, C.2.2.2.1, dr_words C.2.2.2.2.1 _⟩ (hM H.size) (va_cwS n (ws' := g_all) (dr_words C.2.2.2.2.1 _) (g_gS hlk hcd) rfl hm.1 hm.2 hd hR) ⟨ga_blind C.2.2.2.2.2.2.2.2.1, fun U hU hW => ⟨rfl, by rw [hU], by rw [hU]; exact hPc, va_K.moved hW.alike C.2.2.2.2.2.1, hDc, g_nest_w hW (fun w hw => va_Nw.same (g_nest_t hw) (u := s) (U := s.setDrawn d0) rfl (C.2.2.2.2.2.2.2.1 w hw)), by rw [hU]; exact hEc U hW⟩⟩ rfl hn hl.1 rfl (lv_room hrm) hdg hf
theorem g_callSN (C : g_Cx p s m args c cc nL own D tys A E) {wc wr : va_W} {y : MethodName} {rm : Room} {bytes : ByteArray} {maxL mc ms index : Nat} {ret : Option FieldType} {post : Option Value → va_W → Prop} {host : String} {As : List Value} (hM : g_Ct l y bytes maxL ret rm D tys E As wc mc ms post) (n : Nat) (hcd : g_sta y bytes maxL ret) (hl0 : Cond.methodLinkNest own index y host ∈ g_nest) (hd : y.cls ≠ "java/lang/invoke/MethodHandle" ∧ y.cls ≠ "java/lang/invoke/VarHandle" ∧ (parseMethodDescriptor y.desc).map (fun d => d.parameters.length) = some n) (hp : w.Perm (wc ++ wr)) (hn : As.length = n) (hR : rm.frames + 1 ≤ R.frames ∧ 8 + (maxL + 11) + rm.locals ≤ R.locals) (hm : rm.cells = mc ∧ rm.slots = ms) (hf : ce + mc ≤ R.cells ∧ sl + ms ≤ R.slots) (hrm : (st.map fun v => v.category).sum ≤ 8) (hdg : decode cc pc = .ok (.invokestatic index, 3)) {n' : Nat} (hn' : pc + 3 = n') (k : ∀ (r : Option Value) (w1 : va_W), post r w1 → g_G p l e R s m args below meth c nL D A Q (ce + mc) (sl + ms) (w1 ++ wr) lv n' (r.toList ++ st)) : g_G p l e R s m args below meth c nL D A Q ce sl w lv pc (As.reverse ++ st) := by
  subst hn'
  refine g_run (a := As.toArray) C hp (fun d0 H locs ls hdr hPc hDc hEc hl => ?_) k
  exact va_runSN_D (Ts := g_all) ⟨C.1, C.2.1, C.2.2.1, C.2.2.2.1, dr_words C.2.2.2.2.1 _⟩ (hM H.size) ⟨va_cnB n (ws' := g_all) (dr_words C.2.2.2.2.1 _) (g_gN hcd.1) rfl hm.1 hm.2 (va_Nw.of (A := #[]) rfl (g_nestD C.2.2.2.2.2.2.2.1 d0 hl0)) (dr_words C.2.2.2.2.1 _ _ hcd.2.2) hd hR, dr_words C.2.2.2.2.1 _ _ hcd.2.1, trivial⟩ ⟨ga_blind C.2.2.2.2.2.2.2.2.1, fun U hU hW => ⟨rfl, by rw [hU], by rw [hU]; exact hPc, va_K.moved hW.alike C.2.2.2.2.2.1, hDc, g_nest_w hW (fun w hw => va_Nw.same (g_nest_t hw) (u := s) (U := s.setDrawn d0) rfl (C.2.2.2.2.2.2.2.1 w hw)), by rw [hU]; exact hEc U hW⟩⟩ rfl hn hl.1 rfl (lv_room hrm) hdg hf
theorem g_cVv (C : g_Cx p s m args c cc nL own D tys A E) {wc wr : va_W} {y : MethodName} {rm : Room} {bytes : ByteArray} {maxL mc ms index : Nat} {ret : Option FieldType} {v : Value} {wc' : va_W} {Cn : String} {b : Nat} {As : List Value} (hM : g_Ct l y bytes maxL ret rm D tys E (.ref b :: As) wc mc ms (g_det (some v) wc')) (n : Nat) (hlk : Cond.methodLink own index y ∈ g_all) (hcd : g_cee Cn y bytes maxL ret) (hd : y.cls = Cn ∧ y.cls ≠ "java/lang/invoke/MethodHandle" ∧ y.cls ≠ "java/lang/invoke/VarHandle" ∧ (parseMethodDescriptor y.desc).map (fun d => d.parameters.length) = some n) (hp : w.Perm (wc ++ wr)) (q0 : Nat) {ci : Nat} {q : vw_C} {fs : List Value} (hc : vwCl[ci]? = some q) (hcn : q.1 = Cn) (he : wc[q0]? = some (b, .inr (ci, fs))) (hn : As.length = n) (hR : rm.frames + 1 ≤ R.frames ∧ 8 + (maxL + 11) + rm.locals ≤ R.locals) (hm : rm.cells = mc ∧ rm.slots = ms) (hf : ce + mc ≤ R.cells ∧ sl + ms ≤ R.slots) (hrm : (st.map fun v => v.category).sum ≤ 8) (hdg : decode cc pc = .ok (.invokevirtual index, 3)) {n' : Nat} (hn' : pc + 3 = n') {st0 : List Value} (hst : st0 = As.reverse ++ .ref b :: st) (w2 : va_W) (hp2 : (wc' ++ wr).Perm w2) (k : g_G p l e R s m args below meth c nL D A Q (ce + mc) (sl + ms) w2 lv n' (v :: st)) : g_G p l e R s m args below meth c nL D A Q ce sl w lv pc st0 := by
  subst hst
  exact g_callV C hM n hlk hcd hd hp q0 hc hcn he hn hR hm hf hrm hdg hn' (fun r w1 h => by
    obtain ⟨rfl, rfl⟩ := h
    exact g_perm hp2 k)
theorem g_cVn (C : g_Cx p s m args c cc nL own D tys A E) {wc wr : va_W} {y : MethodName} {rm : Room} {bytes : ByteArray} {maxL mc ms index : Nat} {ret : Option FieldType} {wc' : va_W} {Cn : String} {b : Nat} {As : List Value} (hM : g_Ct l y bytes maxL ret rm D tys E (.ref b :: As) wc mc ms (g_det none wc')) (n : Nat) (hlk : Cond.methodLink own index y ∈ g_all) (hcd : g_cee Cn y bytes maxL ret) (hd : y.cls = Cn ∧ y.cls ≠ "java/lang/invoke/MethodHandle" ∧ y.cls ≠ "java/lang/invoke/VarHandle" ∧ (parseMethodDescriptor y.desc).map (fun d => d.parameters.length) = some n) (hp : w.Perm (wc ++ wr)) (q0 : Nat) {ci : Nat} {q : vw_C} {fs : List Value} (hc : vwCl[ci]? = some q) (hcn : q.1 = Cn) (he : wc[q0]? = some (b, .inr (ci, fs))) (hn : As.length = n) (hR : rm.frames + 1 ≤ R.frames ∧ 8 + (maxL + 11) + rm.locals ≤ R.locals) (hm : rm.cells = mc ∧ rm.slots = ms) (hf : ce + mc ≤ R.cells ∧ sl + ms ≤ R.slots) (hrm : (st.map fun v => v.category).sum ≤ 8) (hdg : decode cc pc = .ok (.invokevirtual index, 3)) {n' : Nat} (hn' : pc + 3 = n') {st0 : List Value} (hst : st0 = As.reverse ++ .ref b :: st) (w2 : va_W) (hp2 : (wc' ++ wr).Perm w2) (k : g_G p l e R s m args below meth c nL D A Q (ce + mc) (sl + ms) w2 lv n' st) : g_G p l e R s m args below meth c nL D A Q ce sl w lv pc st0 := by
  subst hst
  exact g_callV C hM n hlk hcd hd hp q0 hc hcn he hn hR hm hf hrm hdg hn' (fun r w1 h => by
    obtain ⟨rfl, rfl⟩ := h
    exact g_perm hp2 k)
theorem g_cSv (C : g_Cx p s m args c cc nL own D tys A E) {wc wr : va_W} {y : MethodName} {rm : Room} {bytes : ByteArray} {maxL mc ms index : Nat} {ret : Option FieldType} {v : Value} {wc' : va_W} {As : List Value} (hM : g_Ct l y bytes maxL ret rm D tys E As wc mc ms (g_det (some v) wc')) (n : Nat) (hlk : Cond.methodLink own index y ∈ g_all) (hcd : g_sta y bytes maxL ret) (hd : y.cls ≠ "java/lang/invoke/MethodHandle" ∧ y.cls ≠ "java/lang/invoke/VarHandle" ∧ (parseMethodDescriptor y.desc).map (fun d => d.parameters.length) = some n) (hp : w.Perm (wc ++ wr)) (hn : As.length = n) (hR : rm.frames + 1 ≤ R.frames ∧ 8 + (maxL + 11) + rm.locals ≤ R.locals) (hm : rm.cells = mc ∧ rm.slots = ms) (hf : ce + mc ≤ R.cells ∧ sl + ms ≤ R.slots) (hrm : (st.map fun v => v.category).sum ≤ 8) (hdg : decode cc pc = .ok (.invokestatic index, 3)) {n' : Nat} (hn' : pc + 3 = n') {st0 : List Value} (hst : st0 = As.reverse ++ st) (w2 : va_W) (hp2 : (wc' ++ wr).Perm w2) (k : g_G p l e R s m args below meth c nL D A Q (ce + mc) (sl + ms) w2 lv n' (v :: st)) : g_G p l e R s m args below meth c nL D A Q ce sl w lv pc st0 := by
  subst hst
  exact g_callS C hM n hlk hcd hd hp hn hR hm hf hrm hdg hn' (fun r w1 h => by
    obtain ⟨rfl, rfl⟩ := h
    exact g_perm hp2 k)
theorem g_cSn (C : g_Cx p s m args c cc nL own D tys A E) {wc wr : va_W} {y : MethodName} {rm : Room} {bytes : ByteArray} {maxL mc ms index : Nat} {ret : Option FieldType} {wc' : va_W} {As : List Value} (hM : g_Ct l y bytes maxL ret rm D tys E As wc mc ms (g_det none wc')) (n : Nat) (hlk : Cond.methodLink own index y ∈ g_all) (hcd : g_sta y bytes maxL ret) (hd : y.cls ≠ "java/lang/invoke/MethodHandle" ∧ y.cls ≠ "java/lang/invoke/VarHandle" ∧ (parseMethodDescriptor y.desc).map (fun d => d.parameters.length) = some n) (hp : w.Perm (wc ++ wr)) (hn : As.length = n) (hR : rm.frames + 1 ≤ R.frames ∧ 8 + (maxL + 11) + rm.locals ≤ R.locals) (hm : rm.cells = mc ∧ rm.slots = ms) (hf : ce + mc ≤ R.cells ∧ sl + ms ≤ R.slots) (hrm : (st.map fun v => v.category).sum ≤ 8) (hdg : decode cc pc = .ok (.invokestatic index, 3)) {n' : Nat} (hn' : pc + 3 = n') {st0 : List Value} (hst : st0 = As.reverse ++ st) (w2 : va_W) (hp2 : (wc' ++ wr).Perm w2) (k : g_G p l e R s m args below meth c nL D A Q (ce + mc) (sl + ms) w2 lv n' st) : g_G p l e R s m args below meth c nL D A Q ce sl w lv pc st0 := by
  subst hst
  exact g_callS C hM n hlk hcd hd hp hn hR hm hf hrm hdg hn' (fun r w1 h => by
    obtain ⟨rfl, rfl⟩ := h
    exact g_perm hp2 k)
theorem g_cNv (C : g_Cx p s m args c cc nL own D tys A E) {wc wr : va_W} {y : MethodName} {rm : Room} {bytes : ByteArray} {maxL mc ms index : Nat} {ret : Option FieldType} {v : Value} {wc' : va_W} {host : String} {As : List Value} (hM : g_Ct l y bytes maxL ret rm D tys E As wc mc ms (g_det (some v) wc')) (n : Nat) (hlk : Cond.methodLinkNest own index y host ∈ g_nest) (hcd : g_sta y bytes maxL ret) (hd : y.cls ≠ "java/lang/invoke/MethodHandle" ∧ y.cls ≠ "java/lang/invoke/VarHandle" ∧ (parseMethodDescriptor y.desc).map (fun d => d.parameters.length) = some n) (hp : w.Perm (wc ++ wr)) (hn : As.length = n) (hR : rm.frames + 1 ≤ R.frames ∧ 8 + (maxL + 11) + rm.locals ≤ R.locals) (hm : rm.cells = mc ∧ rm.slots = ms) (hf : ce + mc ≤ R.cells ∧ sl + ms ≤ R.slots) (hrm : (st.map fun v => v.category).sum ≤ 8) (hdg : decode cc pc = .ok (.invokestatic index, 3)) {n' : Nat} (hn' : pc + 3 = n') {st0 : List Value} (hst : st0 = As.reverse ++ st) (w2 : va_W) (hp2 : (wc' ++ wr).Perm w2) (k : g_G p l e R s m args below meth c nL D A Q (ce + mc) (sl + ms) w2 lv n' (v :: st)) : g_G p l e R s m args below meth c nL D A Q ce sl w lv pc st0 := by
  subst hst
  exact g_callSN C hM n hcd hlk hd hp hn hR hm hf hrm hdg hn' (fun r w1 h => by
    obtain ⟨rfl, rfl⟩ := h
    exact g_perm hp2 k)
theorem g_cNn (C : g_Cx p s m args c cc nL own D tys A E) {wc wr : va_W} {y : MethodName} {rm : Room} {bytes : ByteArray} {maxL mc ms index : Nat} {ret : Option FieldType} {wc' : va_W} {host : String} {As : List Value} (hM : g_Ct l y bytes maxL ret rm D tys E As wc mc ms (g_det none wc')) (n : Nat) (hlk : Cond.methodLinkNest own index y host ∈ g_nest) (hcd : g_sta y bytes maxL ret) (hd : y.cls ≠ "java/lang/invoke/MethodHandle" ∧ y.cls ≠ "java/lang/invoke/VarHandle" ∧ (parseMethodDescriptor y.desc).map (fun d => d.parameters.length) = some n) (hp : w.Perm (wc ++ wr)) (hn : As.length = n) (hR : rm.frames + 1 ≤ R.frames ∧ 8 + (maxL + 11) + rm.locals ≤ R.locals) (hm : rm.cells = mc ∧ rm.slots = ms) (hf : ce + mc ≤ R.cells ∧ sl + ms ≤ R.slots) (hrm : (st.map fun v => v.category).sum ≤ 8) (hdg : decode cc pc = .ok (.invokestatic index, 3)) {n' : Nat} (hn' : pc + 3 = n') {st0 : List Value} (hst : st0 = As.reverse ++ st) (w2 : va_W) (hp2 : (wc' ++ wr).Perm w2) (k : g_G p l e R s m args below meth c nL D A Q (ce + mc) (sl + ms) w2 lv n' st) : g_G p l e R s m args below meth c nL D A Q ce sl w lv pc st0 := by
  subst hst
  exact g_callSN C hM n hcd hlk hd hp hn hR hm hf hrm hdg hn' (fun r w1 h => by
    obtain ⟨rfl, rfl⟩ := h
    exact g_perm hp2 k)
end GC
theorem pm0 (w : va_W) : w.Perm (w ++ []) := by rw [List.append_nil]
theorem pm0' (w : va_W) : (w ++ []).Perm w := by rw [List.append_nil]
theorem pm_n (w : va_W) : w.Perm ([] ++ w) := List.Perm.refl _
