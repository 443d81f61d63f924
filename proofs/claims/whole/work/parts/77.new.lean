/-! rows of constructors -/
/-- what is known of array classes -/
def cEnv (U : State) : Prop := va_AO RX2 U ∧ va_AO RX5 U ∧ (Cond.arrayOver (.array .int)).before #[] U = true
def g_EnvC (E : (Nat → Prop) → State → Heap → Prop) : Prop := ∀ A U H, E A U H → cEnv U
def qOf (l : List (Nat × Nat)) : Nat → Nat := fun k => (l.lookup k).getD 0
section GN
variable {p : Program} {l : Launch} {e : Env} {R : Room} {s : State} {m : MethodId} {args : Array Value} {below : List Frame} {meth : Method} {c : Code} {Q : State → Prop}
variable {cc : ByteArray} {nL : Nat} {own : String} {D : va_G} {tys : List (ClassId × FieldType)} {A : Nat → Prop} {ce sl pc : Nat} {w : va_W} {lv : List (Nat × Value)} {st : List Value} {E : (Nat → Prop) → State → Heap → Prop}
theorem g_objInit (C : g_Cx p s m args c cc nL own D tys A E) {a idx : Nat} (hlink : Cond.methodLink own idx Lib.objectInit ∈ g_all) (hdg : decode cc pc = .ok (.invokespecial idx, 3)) {n' : Nat} (hn : pc + 3 = n') (hfr : 1 ≤ R.frames) (hlo : (st.map fun v => v.category).sum + 12 ≤ R.locals) (k : g_G p l e R s m args below meth c nL D A Q ce sl w lv n' st) : g_G p l e R s m args below meth c nL D A Q ce sl w lv pc (.ref a :: st) := by
  subst hn
  intro d0 H locs ls hd hP hD hS hl
  exact W.objInit (s := s.setDrawn d0) C.1 C.2.1 C.2.2.2.1 (dr_words C.2.2.2.2.1 _ _ hlink) (dr_words C.2.2.2.2.1 _ _ kw_23) (dr_words C.2.2.2.2.1 _ _ kw_24) rfl (by rw [C.2.2.1]; exact hl.1) rfl hdg hfr (by show 2 * 0 + (st.map fun v => v.category).sum + 12 ≤ _; omega) (k d0 H locs ls hd hP hD hS hl)
theorem g_new (C : g_Cx p s m args c cc nL own D tys A E) {Cn : String} {T : u_T} {N ci index : Nat} (hin : ∀ w ∈ u_ws Cn T N, w ∈ g_all) (ty : Nat → FieldType) (hty : ∀ k, k < N → parseFieldDescriptor (T k).2.2.1 = some (ty k)) (hcl : Cond.classLink own index Cn ∈ g_all) (hinst : Cond.instantiable Cn N ∈ g_all) (hini : Cond.initialized Cn ∈ g_all) (hc : vwCl[ci]? = some (Cn, T, N)) {fs : List Value} (hfs : ∀ j, j < N → defaultValue (ty j) = vp_V fs j) (hcells : ce + 1 ≤ R.cells) (hslots : sl + N ≤ R.slots) (hdg : decode cc pc = .ok (.new index, 3)) {n' : Nat} (hn : pc + 3 = n') (k : ∀ q : Nat, g_G p l e R s m args below meth c nL D A Q (ce + 1) (sl + N) ([(q, .inr (ci, fs))] ++ w) lv n' (.ref q :: st)) : g_G p l e R s m args below meth c nL D A Q ce sl w lv pc st := by
  subst hn
  intro d0 H locs ls hd hP hD hS hl
  exact va_new (s := s.setDrawn d0) (H0 := s.heap) C.1 C.2.1 (dr_words C.2.2.2.2.1 _) hin ty hty C.2.2.2.1 (dr_words C.2.2.2.2.1 _ _ hcl) (dr_words C.2.2.2.2.1 _ _ hinst) (dr_words C.2.2.2.2.1 _ _ hini) C.2.2.2.2.2.1 hP hD hS C.2.2.2.2.2.2.1 hc hfs hcells hslots hdg (fun q H1 hP1 hD1 hS1 => k q d0 H1 locs ls hd (ga_P List.perm_append_comm hP1) (ga_D List.perm_append_comm hD1) hS1 hl)
theorem ra_one {U : State} {a b : ClassId} {ty : FieldType} (h1 : va_RA U a ty) (h2 : va_RA U b ty) : a = b := by
  cases ty with
  | object Cn =>
    obtain ⟨-, -, -, -, -, h3⟩ := h1
    obtain ⟨-, -, -, -, -, h4⟩ := h2
    exact Option.some.inj (h3.symm.trans h4)
  | _ => exact Option.some.inj (Eq.trans (Eq.symm (show U.vm.findClass _ = some a from h1)) h2)
theorem g_newa (C : g_Cx p s m args c cc nL own D tys A E) {atype : ArrayType} {ty : FieldType} (hty : newarray.typeOf atype = ty) (harr : Cond.arrayClass ty ∈ g_all) (t0 : Nat) {cY : ClassId} (ht : tys[t0]? = some (cY, ty)) {n : Int} {N : Nat} (hn0 : 0 ≤ n ∧ n < 2147483648) (hnN : n.toNat = N) {a0 : vp_A} (ha : ∀ cA : ClassId, vp_cell cA a0 = arrV cA N (fun _ => defaultValue ty)) (hbytes : N * componentBytes ty ≤ 536870912) (hcells : ce + 1 ≤ R.cells) (hslots : sl + N ≤ R.slots) (hdg : decode cc pc = .ok (.newarray atype, 2)) {n' : Nat} (hn : pc + 2 = n') (k : ∀ q : Nat, g_G p l e R s m args below meth c nL D A Q (ce + 1) (sl + N) ([(q, .inl (cY, a0))] ++ w) lv n' (.ref q :: st)) : g_G p l e R s m args below meth c nL D A Q ce sl w lv pc (.int (iI n) :: st) := by
  subst hn
  intro d0 H locs ls hd hP hD hS hl
  refine va_newa (s := s.setDrawn d0) (H0 := s.heap) C.1 C.2.1 (dr_words C.2.2.2.2.1 _ _ (hty ▸ harr)) hty C.2.2.2.2.2.1 hP hD hS C.2.2.2.2.2.2.1 ha (fun z => ?_) (by rw [iI_clamp ⟨by omega, hn0.2⟩]; exact hnN) hbytes hcells hslots hdg (fun q cA H1 hK1 hP1 hD1 hS1 => ?_)
  · have := (iI_lt (b := 0) (show inR n from ⟨by omega, hn0.2⟩) (by unfold inR; omega)).mp z
    omega
  · have e1 := (hK1.2 tys.length (cA, ty) (by rw [List.getElem?_append_right (Nat.le_refl _), Nat.sub_self]; rfl)).2
    have e2 := (C.2.2.2.2.2.1.2 t0 _ ht).2
    have e3 : cA = cY := ra_one e1 e2
    subst e3
    exact k q d0 H1 locs ls hd (ga_P List.perm_append_comm hP1) (ga_D List.perm_append_comm hD1) hS1 hl
theorem g_anew (C : g_Cx p s m args c cc nL own D tys A E) {Cn : String} {index : Nat} (hcl : Cond.classLink own index Cn ∈ g_all) (hov : va_AO Cn s) (t0 : Nat) {cY : ClassId} (ht : tys[t0]? = some (cY, .object Cn)) {n : Int} {N : Nat} (hn0 : 0 ≤ n ∧ n < 2147483648) (hnN : n.toNat = N) (hbytes : N * 4 ≤ 536870912) (hcells : ce + 1 ≤ R.cells) (hslots : sl + N ≤ R.slots) (hdg : decode cc pc = .ok (.anewarray index, 3)) {n' : Nat} (hn : pc + 3 = n') (k : ∀ q : Nat, g_G p l e R s m args below meth c nL D A Q (ce + 1) (sl + N) ([(q, .inl (cY, N, .inr (.inr (.inr (.inr (fun _ => none))))))] ++ w) lv n' (.ref q :: st)) : g_G p l e R s m args below meth c nL D A Q ce sl w lv pc (.int (iI n) :: st) := by
  subst hn
  intro d0 H locs ls hd hP hD hS hl
  refine va_newq (s := s.setDrawn d0) (H0 := s.heap) C.1 C.2.1 C.2.2.2.1 (dr_words C.2.2.2.2.1 _ _ hcl) hov C.2.2.2.2.2.1 hP hD hS C.2.2.2.2.2.2.1 (fun z => ?_) (by rw [iI_clamp ⟨by omega, hn0.2⟩]; exact hnN) hbytes hcells hslots hdg (fun q cA H1 hK1 hP1 hD1 hS1 => ?_)
  · have := (iI_lt (b := 0) (show inR n from ⟨by omega, hn0.2⟩) (by unfold inR; omega)).mp z
    omega
  · have e1 := (hK1.2 tys.length (cA, .object Cn) (by rw [List.getElem?_append_right (Nat.le_refl _), Nat.sub_self]; rfl)).2
    have e2 := (C.2.2.2.2.2.1.2 t0 _ ht).2
    have e3 : cA = cY := ra_one e1 e2
    subst e3
    exact k q d0 H1 locs ls hd (ga_P List.perm_append_comm hP1) (ga_D List.perm_append_comm hD1) hS1 hl
theorem g_aast (C : g_Cx p s m args c cc nL own D tys A E) (q0 t0 qk ci : Nat) {a : Nat} {cA : ClassId} {r : vw_C} {n v : Nat} {vs : List Value} {f : Nat → Option Nat} (ha : w[q0]? = some (a, .inl (cA, n, .inr (.inr (.inr (.inr f)))))) (ht : tys[t0]? = some (cA, .object r.1)) (hv : w[qk]? = some (v, .inr (ci, vs))) (hc : vwCl[ci]? = some r) {i : Int} (h0 : 0 ≤ i) (h1 : i < n) (hs : (n : Int) < 2147483648) (w' : va_W) (hw : w.set q0 (a, .inl (cA, n, .inr (.inr (.inr (.inr (sU f i.toNat (some v))))))) = w') (hdg : decode cc pc = .ok (.aastore, 1)) {n' : Nat} (hn : pc + 1 = n') (k : g_G p l e R s m args below meth c nL D A Q ce sl w' lv n' st) : g_G p l e R s m args below meth c nL D A Q ce sl w lv pc (.ref v :: .int (iI i) :: .ref a :: st) := by
  subst hn
  subst hw
  intro d0 H locs ls hd hP hD hS hl
  refine va_astq (s := s.setDrawn d0) (H0 := s.heap) C.1 C.2.1 C.2.2.2.2.2.1 hP hD hS q0 t0 qk ci ha ht hv hc (iI_in h0 h1 (by omega)) hdg (fun H1 locs1 hP1 hD1 hS1 => ?_)
  have e : va_up f (iI i).toNatClampNeg (some v) = sU f i.toNat (some v) := by
    rw [iI_clamp ⟨by omega, by omega⟩]
    rfl
  rw [e] at hP1 hD1
  exact k d0 H1 locs1 ls hd hP1 hD1 hS1 hl
theorem g_callI (C : g_Cx p s m args c cc nL own D tys A E) {wc wr : va_W} {y : MethodName} {rm : Room} {bytes : ByteArray} {maxL mc ms index : Nat} {post : Option Value → va_W → Prop} {b : Nat} (hM : g_Ct l y bytes maxL none rm D tys E [.ref b] wc mc ms post) (hlk : Cond.methodLink own index y ∈ g_all) (hcd : Cond.code y bytes maxL none ∈ g_all) (hini : Cond.initialized y.cls ∈ g_all) (hin : Cond.instanceMethod y ∈ g_all) (hy : y.name = "<init>") (hd : y.cls ≠ "java/lang/invoke/MethodHandle" ∧ y.cls ≠ "java/lang/invoke/VarHandle" ∧ (parseMethodDescriptor y.desc).map (fun d => d.parameters.length) = some 0) (hp : w.Perm (wc ++ wr)) (hR : rm.frames + 1 ≤ R.frames ∧ 8 + (maxL + 11) + rm.locals ≤ R.locals) (hm : rm.cells = mc ∧ rm.slots = ms) (hf : ce + mc ≤ R.cells ∧ sl + ms ≤ R.slots) (hrm : (st.map fun v => v.category).sum ≤ 8) (hdg : decode cc pc = .ok (.invokespecial index, 3)) {n' : Nat} (hn' : pc + 3 = n') (k : ∀ (r : Option Value) (w1 : va_W), post r w1 → g_G p l e R s m args below meth c nL D A Q (ce + mc) (sl + ms) (w1 ++ wr) lv n' (r.toList ++ st)) : g_G p l e R s m args below meth c nL D A Q ce sl w lv pc (.ref b :: st) := by
  subst hn'
  refine g_run (a := [Value.ref b].toArray) C hp (fun d0 H locs ls hdr hPc hDc hEc hl => ?_) k
  exact va_runI_D (Ts := g_all) (As := []) ⟨C.1, C.2.1, C.2.2.1, C.2.2.2.1, dr_words C.2.2.2.2.1 _⟩ (hM H.size) (cwI 0 (ws' := g_all) (dr_words C.2.2.2.2.1 _) (g_gN hcd) rfl hm.1 hm.2 (dr_words C.2.2.2.2.1 _ _ hini) (dr_words C.2.2.2.2.1 _ _ hlk) (dr_words C.2.2.2.2.1 _ _ hin) hy hd hR) ⟨ga_blind C.2.2.2.2.2.2.2.2.1, fun U hU hW => ⟨rfl, by rw [hU], by rw [hU]; exact hPc, va_K.moved hW.alike C.2.2.2.2.2.1, hDc, g_nest_w hW (fun w hw => va_Nw.same (g_nest_t hw) (u := s) (U := s.setDrawn d0) rfl (C.2.2.2.2.2.2.2.1 w hw)), by rw [hU]; exact hEc U hW⟩⟩ rfl rfl hl.1 rfl (lv_room hrm) hdg hf
theorem g_callIN (C : g_Cx p s m args c cc nL own D tys A E) {wc wr : va_W} {y : MethodName} {rm : Room} {bytes : ByteArray} {maxL mc ms index : Nat} {post : Option Value → va_W → Prop} {host : String} {b : Nat} (hM : g_Ct l y bytes maxL none rm D tys E [.ref b] wc mc ms post) (hlk : Cond.methodLinkNest own index y host ∈ g_nest) (hcd : Cond.code y bytes maxL none ∈ g_all) (hini : Cond.initialized y.cls ∈ g_all) (hin : Cond.instanceMethod y ∈ g_all) (hy : y.name = "<init>") (hd : y.cls ≠ "java/lang/invoke/MethodHandle" ∧ y.cls ≠ "java/lang/invoke/VarHandle" ∧ (parseMethodDescriptor y.desc).map (fun d => d.parameters.length) = some 0) (hp : w.Perm (wc ++ wr)) (hR : rm.frames + 1 ≤ R.frames ∧ 8 + (maxL + 11) + rm.locals ≤ R.locals) (hm : rm.cells = mc ∧ rm.slots = ms) (hf : ce + mc ≤ R.cells ∧ sl + ms ≤ R.slots) (hrm : (st.map fun v => v.category).sum ≤ 8) (hdg : decode cc pc = .ok (.invokespecial index, 3)) {n' : Nat} (hn' : pc + 3 = n') (k : ∀ (r : Option Value) (w1 : va_W), post r w1 → g_G p l e R s m args below meth c nL D A Q (ce + mc) (sl + ms) (w1 ++ wr) lv n' (r.toList ++ st)) : g_G p l e R s m args below meth c nL D A Q ce sl w lv pc (.ref b :: st) := by
  subst hn'
  refine g_run (a := [Value.ref b].toArray) C hp (fun d0 H locs ls hdr hPc hDc hEc hl => ?_) k
  exact va_runIN_D (Ts := g_all) (As := []) ⟨C.1, C.2.1, C.2.2.1, C.2.2.2.1, dr_words C.2.2.2.2.1 _⟩ (hM H.size) ⟨va_cnB 0 (ws' := g_all) (dr_words C.2.2.2.2.1 _) (g_gN hcd) rfl hm.1 hm.2 (va_Nw.of (A := #[]) rfl (g_nestD C.2.2.2.2.2.2.2.1 d0 hlk)) (dr_words C.2.2.2.2.1 _ _ hini) hd hR, hy, dr_words C.2.2.2.2.1 _ _ hin⟩ ⟨ga_blind C.2.2.2.2.2.2.2.2.1, fun U hU hW => ⟨rfl, by rw [hU], by rw [hU]; exact hPc, va_K.moved hW.alike C.2.2.2.2.2.1, hDc, g_nest_w hW (fun w hw => va_Nw.same (g_nest_t hw) (u := s) (U := s.setDrawn d0) rfl (C.2.2.2.2.2.2.2.1 w hw)), by rw [hU]; exact hEc U hW⟩⟩ rfl rfl hl.1 rfl (lv_room hrm) hdg hf
end GN
