/-! more rows -/
def sC {α : Type} (f g : Nat → α) (n : Nat) : Nat → α := fun k => if k < n then f k else g k
theorem iA_cpy (f g : Nat → Int) (n : Nat) : va_cpy (iA f) (iA g) 0 0 n = iA (sC f g n) := by
  funext j
  unfold iA sC
  by_cases h : j < n
  · rw [pk_cpy_in (Nat.zero_le j) (by omega), if_pos h]
    simp
  · rw [pk_cpy_out (Or.inr (by omega)), if_neg h]
theorem g_ofGF {l : Launch} {y : MethodName} {own : String} {rm : Room} {D : va_G} {tys : List (ClassId × FieldType)} {E : (Nat → Prop) → State → Heap → Prop} (hE : g_Stab E) {av : List Value} {w : va_W} {mc ms : Nat} {post : Option Value → va_W → Prop} {cc : ByteArray} {maxL : Nat} {ret : Option FieldType} (hy : plainFor y = true) (ho : y.cls = own) (hlen : (lg_sl av).length ≤ maxL) (lv0 : List (Nat × Value)) (hlv : lv_args 0 av = lv0)
    (body : ∀ (p : Program) (e : Env) (s : State) (m : MethodId) (below : List Frame) (meth : Method) (c : Code) (A : Nat → Prop), g_Cx p s m av.toArray c cc maxL own D tys A E → meth.sig.returnType = ret → meth.locks = false → meth.name = y.name → g_G p l e rm s m av.toArray below meth c maxL D A (MQD lw_cs below (g_Q post D A) av.toArray s mc ms A) 0 0 w lv0 0 []) : g_Ct l y cc maxL ret rm D tys E av w mc ms post := by
  intro sz
  subst ho
  refine Jvm.Free.MetFree.of_bodySF (code := cc) (maxLocals := maxL) (ret := ret) hy ?_ ?_
  · intro args s m h hn
    obtain ⟨meth, c, h1, h2, h3, h4, h5, h6, -, -⟩ := Cond.code_spec hn (atoms_spec (ws := Cond.code y cc maxL ret :: g_all) h _ List.mem_cons_self)
    exact ⟨meth, c, h1, h2, h3, h4, h5, h6⟩
  · intro p e s m args below meth c s₁ B hml hv _
    have hh0 : s₁.heap = s.heap := by rw [B.state]; rfl
    have X0 : Stand p l e rm (s.setDrawn s.drawn) m args below meth c s₁ [] 0 0 := Stand.of_body B
    obtain ⟨rfl, hsz, hP, hK, hD0, hN, hE0⟩ := hv
    have hown : s.vm.findClass y.cls = some m.cls := findClass_of_methodNamed B.named
    subst hsz
    have hD := hD0.self (sz := s.heap.size)
    have hl := lv_entry av hlen
    rw [hlv] at hl
    have K := body p e s m below meth c (va_A w s.heap.size) ⟨B.exec, B.bytes, hml, hown, fun w h => atoms_spec (ws := Cond.code y cc maxL ret :: g_all) B.pre w (List.mem_cons_of_mem _ h), hK, fun q h => Or.inr h, hN, hE, hE0⟩ B.returns B.notSynchronized (name_of_methodNamed B.named B.method).1 s.drawn s.heap [] _ (Drawn.sameBut.refl _ _) hP hD va_S.rf hl
    rw [← lg_entry_eq] at K
    obtain ⟨t, a1, d, hd, o, b1, b2, b3, b4⟩ := K s₁ hh0 X0
    exact ⟨t, o, a1, b1, b2, d, hd, b3, b4⟩
section GM
variable {p : Program} {l : Launch} {e : Env} {R : Room} {s : State} {m : MethodId} {args : Array Value} {below : List Frame} {meth : Method} {c : Code} {Q : State → Prop}
variable {cc : ByteArray} {nL : Nat} {own : String} {D : va_G} {tys : List (ClassId × FieldType)} {A : Nat → Prop} {ce sl pc : Nat} {w : va_W} {lv : List (Nat × Value)} {st : List Value} {E : (Nat → Prop) → State → Heap → Prop}
theorem g_copyi (C : g_Cx p s m args c cc nL own D tys A E) (q0 q1 t0 : Nat) {a a0 : Nat} {c0 : ClassId} {n0 n1 index : Nat} {f g : Nat → Int} (he0 : w[q0]? = some (a0, .inl (c0, n0, .inl (iA f)))) (he1 : w[q1]? = some (a, .inl (c0, n1, .inl (iA g)))) (ht0 : tys[t0]? = some (c0, .int)) (hlk : Cond.methodLink own index arraycopyName ∈ g_all) (hnat : Cond.native arraycopyName ∈ g_all) (hst : Cond.static arraycopyName ∈ g_all) (hini : Cond.initialized "java/lang/System" ∈ g_all) {n : Int} (h0 : 0 ≤ n) (h1 : n ≤ n0) (h2 : n ≤ n1) (hs : n < 2147483648) (hfr : 1 ≤ R.frames) (hlo : (st.map fun v => v.category).sum + (nativeFrameWords "java/lang/System" "arraycopy" 5 + 11) ≤ R.locals) (hdg : decode cc pc = .ok (.invokestatic index, 3)) {n' : Nat} (hn : pc + 3 = n') (w' : va_W) (hw : w.set q1 (a, .inl (c0, n1, .inl (iA (sC f g n.toNat)))) = w') (k : g_G p l e R s m args below meth c nL D A Q ce sl w' lv n' st) : g_G p l e R s m args below meth c nL D A Q ce sl w lv pc (.int (iI n) :: .int (iI 0) :: .ref a :: .int (iI 0) :: .ref a0 :: st) := by
  subst hn
  subst hw
  intro d0 H locs ls hd hP hD hS hl
  have hr : inR n := ⟨by omega, by omega⟩
  have z0 : (iI 0).toNatClampNeg = 0 := rfl
  refine va_copyi (s := s.setDrawn d0) C.1 C.2.1 (C.2.2.1.trans hl.1.symm) C.2.2.2.1 (dr_words C.2.2.2.2.1 _ _ hlk) (dr_words C.2.2.2.2.1 _ _ hnat) (dr_words C.2.2.2.2.1 _ _ hst) (dr_words C.2.2.2.2.1 _ _ hini) C.2.2.2.2.2.1 hP hD hS q0 q1 t0 t0 he0 he1 ht0 ht0 rfl (by decide) (by decide) (fun q => absurd ((iI_lt hr (b := 0) ⟨by omega, by omega⟩).mp q) (by omega)) (by rw [iI_clamp hr, z0]; omega) (by rw [iI_clamp hr, z0]; omega) (fun _ _ => rfl) hfr hlo hdg (fun H1 locs1 g1 g2 g3 => ?_)
  rw [iI_clamp hr, z0, iA_cpy] at g1 g2
  exact k d0 H1 locs1 ls hd g1 g2 g3 hl
theorem g_aalA (C : g_Cx p s m args c cc nL own D tys A E) (q0 t0 : Nat) {a : Nat} {cA : ClassId} {n : Nat} {f : Nat → Option Nat} (he : w[q0]? = some (a, .inl (cA, n, .inr (.inr (.inr (.inr f)))))) (ht : tys[t0]? = some (cA, .array .int)) {i : Int} (h0 : 0 ≤ i) (h1 : i < n) (hs : (n : Int) < 2147483648) {v : Nat} (hv : f i.toNat = some v) (hdg : decode cc pc = .ok (.aaload, 1)) {n' : Nat} (hn : pc + 1 = n') (k : g_G p l e R s m args below meth c nL D A Q ce sl w lv n' (.ref v :: st)) : g_G p l e R s m args below meth c nL D A Q ce sl w lv pc (.int (iI i) :: .ref a :: st) := by
  subst hn
  intro d0 H locs ls hd hP hD hS hl
  have hin : vp_in (iI i) n := iI_in h0 h1 (by omega)
  have hlt : (iI i).toNatClampNeg < n := Nat.not_le.mp fun q => hin (Or.inr q)
  refine W.aald (s := s.setDrawn d0) (v := va_rf (f (iI i).toNatClampNeg)) (ty := .array .int) C.1 C.2.1 (hP q0 _ he) ((C.2.2.2.2.2.1.2 t0 _ ht).1 n (fun j => va_rf (f j))) rfl (fun q => by cases q) (by show ¬ (iI i < 0 ∨ (arrV _ _ _).slots.size ≤ _); rw [arrV_size]; exact hin) (by show (arrV _ _ _).slots[_]? = _; rw [arrV_read _ _ hlt]) rfl rfl hdg ?_
  rw [iI_clamp ⟨by omega, by omega⟩, hv]
  exact k d0 H locs ls hd hP hD hS hl
theorem g_ldcf (C : g_Cx p s m args c cc nL own D tys A E) {index : Nat} {v : UInt32} (hc : Cond.constantFloat own index v ∈ g_all) (hdg : decode cc pc = .ok (.ldc index, 2)) {n' : Nat} (hn : pc + 2 = n') (k : g_G p l e R s m args below meth c nL D A Q ce sl w lv n' (.float v :: st)) : g_G p l e R s m args below meth c nL D A Q ce sl w lv pc st := by
  subst hn
  intro d0 H locs ls hd hP hD hS hl
  exact lv_ldcf (s := s.setDrawn d0) C.1 C.2.1 C.2.2.2.1 (dr_words C.2.2.2.2.1 _ _ hc) hdg (k d0 H locs ls hd hP hD hS hl)
end GM
