/-! the judgement of a walk: ints are Int behind iI, worlds are lists of cells, draws are let be -/
def sU {α : Type} (f : Nat → α) (k : Nat) (v : α) : Nat → α := fun j => if j = k then v else f j
theorem sU_s {α : Type} (f : Nat → α) (k : Nat) (v : α) : sU f k v k = v := if_pos rfl
theorem sU_n {α : Type} (f : Nat → α) {k j : Nat} (v : α) (h : j ≠ k) : sU f k v j = f j := if_neg h
theorem sU_id {α : Type} (f : Nat → α) (k : Nat) : sU f k (f k) = f := funext fun j => by
  by_cases h : j = k
  · rw [h, sU_s]
  · rw [sU_n _ _ h]
theorem sU_sU {α : Type} (f : Nat → α) (k : Nat) (v u : α) : sU (sU f k v) k u = sU f k u := funext fun j => by
  by_cases h : j = k
  · rw [h, sU_s, sU_s]
  · rw [sU_n _ _ h, sU_n _ _ h, sU_n _ _ h]
def iI (z : Int) : Int32 := Int32.ofInt z
def iA (f : Nat → Int) : Nat → Int32 := fun k => iI (f k)
def inR (z : Int) : Prop := -2147483648 ≤ z ∧ z < 2147483648
theorem iI_toInt {z : Int} (h : inR z) : (iI z).toInt = z := Int32.toInt_ofInt_of_le (by have := h.1; omega) (by have := h.2; omega)
theorem iI_of (x : Int32) : x = iI x.toInt := (Int32.ofInt_toInt x).symm
theorem inR_of (x : Int32) : inR x.toInt := ⟨Int32.le_toInt x, Int32.toInt_lt x⟩
theorem iI_add (a b : Int) : iI a + iI b = iI (a + b) := (Int32.ofInt_add a b).symm
theorem iI_sub (a b : Int) : iI a - iI b = iI (a - b) := (Int32.ofInt_sub a b).symm
theorem iI_mul (a b : Int) : iI a * iI b = iI (a * b) := (Int32.ofInt_mul a b).symm
theorem iI_neg (a : Int) : -iI a = iI (-a) := (Int32.ofInt_neg a).symm
theorem iI_lt {a b : Int} (ha : inR a) (hb : inR b) : iI a < iI b ↔ a < b := by rw [Int32.lt_iff_toInt_lt, iI_toInt ha, iI_toInt hb]
theorem iI_le {a b : Int} (ha : inR a) (hb : inR b) : iI a ≤ iI b ↔ a ≤ b := by rw [Int32.le_iff_toInt_le, iI_toInt ha, iI_toInt hb]
theorem iI_eq {a b : Int} (ha : inR a) (hb : inR b) : iI a = iI b ↔ a = b := ⟨fun h => by rw [← iI_toInt ha, ← iI_toInt hb, h], fun h => by rw [h]⟩
theorem iI_0 : iI 0 = 0 := rfl
theorem iI_clamp {z : Int} (h : inR z) : (iI z).toNatClampNeg = z.toNat := by
  show (iI z).toInt.toNat = z.toNat
  rw [iI_toInt h]
theorem iI_in {z : Int} {n : Nat} (h0 : 0 ≤ z) (h : z < n) (hr : z < 2147483648) : vp_in (iI z) n := by
  rw [vp_in_iff, iI_toInt ⟨by omega, hr⟩]
  exact ⟨h0, h⟩
theorem iI_div {a b : Int} (ha : inR a) (hb : inR b) (h0 : b ≠ 0) (h1 : inR (a.tdiv b)) : iI a / iI b = iI (a.tdiv b) := by
  apply Int32.toInt_inj.mp
  rw [Int32.toInt_div, iI_toInt ha, iI_toInt hb, iI_toInt h1]
  exact Int.bmod_eq_of_le (by have := h1.1; omega) (by have := h1.2; omega)
theorem iA_upd (f : Nat → Int) (z v : Int) (hz : inR z) : upd (iA f) (iI z).toNatClampNeg (iI v) = iA (sU f z.toNat v) := by
  rw [iI_clamp hz]
  funext j
  unfold upd iA sU
  by_cases h : j = z.toNat
  · rw [if_pos h, if_pos h]
  · rw [if_neg h, if_neg h]
theorem iA_get (f : Nat → Int) {z : Int} (hz : inR z) : iA f (iI z).toNatClampNeg = iI (f z.toNat) := by rw [iI_clamp hz]; rfl
def lL (z : Int) : Int64 := Int64.ofInt z
theorem iI_l {z : Int} (h : inR z) : (iI z).toInt64 = lL z := by
  apply Int64.toInt_inj.mp
  rw [Int32.toInt_toInt64, iI_toInt h]
  exact (Int64.toInt_ofInt_of_le (by have := h.1; omega) (by have := h.2; omega)).symm
theorem lL_toInt {z : Int} (h : inR z) : (lL z).toInt = z := Int64.toInt_ofInt_of_le (by have := h.1; omega) (by have := h.2; omega)
theorem lL_cmp {a b : Int} (ha : inR a) (hb : inR b) : lg_cmp (lL a) (lL b) = iI (if a < b then -1 else if a = b then 0 else 1) := by
  have h1 : lL a < lL b ↔ a < b := by rw [Int64.lt_iff_toInt_lt, lL_toInt ha, lL_toInt hb]
  have h2 : lL a = lL b ↔ a = b := ⟨fun h => by rw [← lL_toInt ha, ← lL_toInt hb, h], fun h => by rw [h]⟩
  have h3 : lL b < lL a ↔ b < a := by rw [Int64.lt_iff_toInt_lt, lL_toInt ha, lL_toInt hb]
  unfold lg_cmp
  simp only [h2, h3]
  by_cases q : a < b
  · rw [if_neg (by omega), if_neg (by omega), if_pos q]
    rfl
  · by_cases q2 : a = b
    · rw [if_neg (by omega), if_pos q2, if_neg q, if_pos q2]
      rfl
    · rw [if_pos (by omega), if_neg q, if_neg q2]
      rfl
def g_nest : List Cond := [.methodLinkNest "SkewPlan" 9 ⟨"SkewPlan$Text", "<init>", "()V"⟩ "SkewPlan", .fieldLinkNest "SkewPlan$Text" 86 "SkewPlan$Net" "registers" "I" "SkewPlan", .fieldLinkNest "SkewPlan$Planner" 61 "SkewPlan$Net" "registers" "I" "SkewPlan", .fieldLinkNest "SkewPlan" 140 "SkewPlan$Net" "registers" "I" "SkewPlan", .fieldLinkNest "SkewPlan$Planner" 84 "SkewPlan$Net" "setup" "I" "SkewPlan", .fieldLinkNest "SkewPlan" 227 "SkewPlan$Net" "setup" "I" "SkewPlan", .fieldLinkNest "SkewPlan" 230 "SkewPlan$Net" "hold" "I" "SkewPlan", .fieldLinkNest "SkewPlan$Planner" 42 "SkewPlan$Net" "step" "I" "SkewPlan", .fieldLinkNest "SkewPlan" 146 "SkewPlan$Net" "step" "I" "SkewPlan", .fieldLinkNest "SkewPlan$History" 31 "SkewPlan$Net" "period" "I" "SkewPlan", .fieldLinkNest "SkewPlan" 112 "SkewPlan$Net" "period" "I" "SkewPlan", .fieldLinkNest "SkewPlan$Planner" 37 "SkewPlan$Net" "period" "I" "SkewPlan", .fieldLinkNest "SkewPlan$Planner" 72 "SkewPlan$Net" "paths" "I" "SkewPlan", .fieldLinkNest "SkewPlan" 178 "SkewPlan$Net" "paths" "I" "SkewPlan", .fieldLinkNest "SkewPlan" 92 "SkewPlan$Net" "from" "[I" "SkewPlan", .fieldLinkNest "SkewPlan$Planner" 75 "SkewPlan$Net" "from" "[I" "SkewPlan", .fieldLinkNest "SkewPlan" 96 "SkewPlan$Net" "to" "[I" "SkewPlan", .fieldLinkNest "SkewPlan$Planner" 78 "SkewPlan$Net" "to" "[I" "SkewPlan", .fieldLinkNest "SkewPlan" 99 "SkewPlan$Net" "longs" "[I" "SkewPlan", .fieldLinkNest "SkewPlan$Planner" 81 "SkewPlan$Net" "longs" "[I" "SkewPlan", .fieldLinkNest "SkewPlan" 102 "SkewPlan$Net" "shorts" "[I" "SkewPlan", .methodLinkNest "SkewPlan" 39 ⟨"SkewPlan$History", "<init>", "()V"⟩ "SkewPlan", .methodLinkNest "SkewPlan" 46 ⟨"SkewPlan$Planner", "<init>", "()V"⟩ "SkewPlan", .methodLinkNest "SkewPlan" 57 ⟨"SkewPlan$Trace", "<init>", "()V"⟩ "SkewPlan", .fieldLinkNest "SkewPlan$Text" 56 "SkewPlan" "WORDS" "[LSkewPlan$Word;" "SkewPlan", .methodLinkNest "SkewPlan$Text" 109 ⟨"SkewPlan", "isWithin", "(III)Z"⟩ "SkewPlan", .methodLinkNest "SkewPlan$Trace" 34 ⟨"SkewPlan", "isWithin", "(III)Z"⟩ "SkewPlan", .fieldLinkNest "SkewPlan$Text" 93 "SkewPlan$Word" "spelling" "Ljava/lang/String;" "SkewPlan", .fieldLinkNest "SkewPlan$Text" 72 "SkewPlan$Word" "low" "I" "SkewPlan", .fieldLinkNest "SkewPlan$Text" 75 "SkewPlan$Word" "high" "I" "SkewPlan"]
def g_isN : Cond → Bool
  | .fieldLinkNest _ _ _ _ _ _ => true
  | .methodLinkNest _ _ _ _ => true
  | _ => false
theorem g_nest_is : g_nest.all g_isN = true := by decide +kernel
theorem g_nest_t {w : Cond} (h : w ∈ g_nest) : w.onTables = true := by
  have := List.all_eq_true.mp g_nest_is w h
  cases w <;> first | rfl | (simp [g_isN] at this)
theorem g_nest_w {s U : State} (hW : s.WarmedH U.vm) (h : ∀ w ∈ g_nest, va_Nw w s) : ∀ w ∈ g_nest, va_Nw w U := by
  intro w hw
  have h1 := List.all_eq_true.mp g_nest_is w hw
  have h2 := h w hw
  cases w <;> first | exact va_Nw.warmF hW h2 | exact va_Nw.warmM hW h2 | (simp [g_isN] at h1)
def g_Stab (E : (Nat → Prop) → State → Heap → Prop) : Prop := (∀ (A : Nat → Prop) (u U : State) (H : Heap), u.vm.Alike U.vm → E A u H → E A U H) ∧ (∀ (A : Nat → Prop) (U : State) (H H1 : Heap), (∀ a : Nat, a < H.size → ¬ A a → H1[a]? = H[a]?) → E A U H → E A U H1) ∧ (∀ (A B : Nat → Prop) (U : State) (H : Heap), (∀ q, B q → A q) → E A U H → E B U H)
theorem iI_char {x : Int} (h0 : 0 ≤ x) (h1 : x < 65536) : ((iI x).toUInt32 % 65536).toInt32 = iI x := by
  have e : iI x = nI x.toNat := by
    apply Int32.toInt_inj.mp
    rw [iI_toInt ⟨by omega, by omega⟩, nI_toInt (by omega)]
    omega
  rw [e, pk_char, pk_tn (by omega), Nat.mod_eq_of_lt (by omega)]
section GK
variable {p : Program} {l : Launch} {e : Env} {R : Room} {s : State} {m : MethodId} {args : Array Value} {below : List Frame} {meth : Method} {c : Code} {Q : State → Prop}
variable {cc : ByteArray} {nL : Nat} {own : String} {D : va_G} {tys : List (ClassId × FieldType)} {A : Nat → Prop} {ce sl pc : Nat} {w : va_W} {lv : List (Nat × Value)} {st : List Value} {E : (Nat → Prop) → State → Heap → Prop}
def g_Cx (p : Program) (s : State) (m : MethodId) (args : Array Value) (c : Code) (cc : ByteArray) (nL : Nat) (own : String) (D : va_G) (tys : List (ClassId × FieldType)) (A : Nat → Prop) (E : (Nat → Prop) → State → Heap → Prop) : Prop := p.tables.exec = Jvm.exec ∧ c.code = cc ∧ c.maxLocals = nL ∧ s.vm.findClass own = some m.cls ∧ (∀ w ∈ g_all, w.before args s = true) ∧ va_K D vwCl tys s ∧ (∀ q : Nat, s.heap.size ≤ q → A q) ∧ (∀ w ∈ g_nest, va_Nw w s) ∧ g_Stab E ∧ E A s s.heap
theorem g_nestD {s : State} (h : ∀ w ∈ g_nest, va_Nw w s) (d : Drawn) {args : Array Value} {w : Cond} (hw : w ∈ g_nest) : w.before args (s.setDrawn d) = true := va_Nw.use (g_nest_t hw) (va_Nw.same (g_nest_t hw) (u := s) (U := s.setDrawn d) rfl (h w hw))
def g_G (p : Program) (l : Launch) (e : Env) (R : Room) (s : State) (m : MethodId) (args : Array Value) (below : List Frame) (meth : Method) (c : Code) (nL : Nat) (D : va_G) (A : Nat → Prop) (Q : State → Prop) (ce sl : Nat) (w : va_W) (lv : List (Nat × Value)) (pc : Nat) (st : List Value) : Prop :=
  ∀ (d0 : Drawn) (H : Heap) (locs : List Loc) (ls : Array Slot), s.drawn.sameBut d0 lw_cs → va_P D vwCl w H → va_D A w → va_S A s.heap H locs → lv_has ls nL lv → W p l e R (s.setDrawn d0) m args below meth c H locs ce sl Q (F0 m pc ls st)
theorem g_iconst (C : g_Cx p s m args c cc nL own D tys A E) {n : Int}  (hdg : decode cc pc = .ok (.iconst n, 1)) {n' : Nat} (hn : pc + 1 = n')  (k : g_G p l e R s m args below meth c nL D A Q ce sl w lv n' (.int (iI n) :: st)) : g_G p l e R s m args below meth c nL D A Q ce sl w lv pc st := by
  subst hn
  intro d0 H locs ls hd hP hD hS hl
  have k := k d0 H locs ls hd hP hD hS hl
  exact lv_iconst C.1 C.2.1 hdg rfl k
theorem g_bipush (C : g_Cx p s m args c cc nL own D tys A E) {n : Int} (hv : (Int8.ofInt n).toInt32 = iI n) (hdg : decode cc pc = .ok (.bipush n, 2)) {n' : Nat} (hn : pc + 2 = n')  (k : g_G p l e R s m args below meth c nL D A Q ce sl w lv n' (.int (iI n) :: st)) : g_G p l e R s m args below meth c nL D A Q ce sl w lv pc st := by
  subst hn
  intro d0 H locs ls hd hP hD hS hl
  have k := k d0 H locs ls hd hP hD hS hl
  exact lv_bipush C.1 C.2.1 hdg hv k
theorem g_sipush (C : g_Cx p s m args c cc nL own D tys A E) {n : Int} (hv : (Int16.ofInt n).toInt32 = iI n) (hdg : decode cc pc = .ok (.sipush n, 3)) {n' : Nat} (hn : pc + 3 = n')  (k : g_G p l e R s m args below meth c nL D A Q ce sl w lv n' (.int (iI n) :: st)) : g_G p l e R s m args below meth c nL D A Q ce sl w lv pc st := by
  subst hn
  intro d0 H locs ls hd hP hD hS hl
  have k := k d0 H locs ls hd hP hD hS hl
  exact lv_sipush C.1 C.2.1 hdg hv k
theorem g_ldc (C : g_Cx p s m args c cc nL own D tys A E) {index : Nat} {v : Int32} (z : Int) (hz : v = iI z) (hc : Cond.constant own index v ∈ g_all) (hdg : decode cc pc = .ok (.ldc index, 2)) {n' : Nat} (hn : pc + 2 = n')  (k : g_G p l e R s m args below meth c nL D A Q ce sl w lv n' (.int (iI z) :: st)) : g_G p l e R s m args below meth c nL D A Q ce sl w lv pc st := by
  subst hn
  intro d0 H locs ls hd hP hD hS hl
  have k := k d0 H locs ls hd hP hD hS hl
  subst hz
  exact lv_ldc C.1 C.2.1 C.2.2.2.1 (dr_words C.2.2.2.2.1 _ _ hc) hdg k
theorem g_ldc2l (C : g_Cx p s m args c cc nL own D tys A E) {index : Nat} {v : Int64} (z : Int) (hz : v = lL z) (hc : Cond.constantLong own index v ∈ g_all) (hdg : decode cc pc = .ok (.ldc2_w index, 3)) {n' : Nat} (hn : pc + 3 = n')  (k : g_G p l e R s m args below meth c nL D A Q ce sl w lv n' (.long (lL z) :: st)) : g_G p l e R s m args below meth c nL D A Q ce sl w lv pc st := by
  subst hn
  intro d0 H locs ls hd hP hD hS hl
  have k := k d0 H locs ls hd hP hD hS hl
  subst hz
  exact lv_ldc2 C.1 C.2.1 C.2.2.2.1 (dr_words C.2.2.2.2.1 _ _ hc) hdg k
theorem g_ldc2d (C : g_Cx p s m args c cc nL own D tys A E) {index : Nat} {v : UInt64} (hc : Cond.constantDouble own index v ∈ g_all) (hdg : decode cc pc = .ok (.ldc2_w index, 3)) {n' : Nat} (hn : pc + 3 = n')  (k : g_G p l e R s m args below meth c nL D A Q ce sl w lv n' (.double v :: st)) : g_G p l e R s m args below meth c nL D A Q ce sl w lv pc st := by
  subst hn
  intro d0 H locs ls hd hP hD hS hl
  have k := k d0 H locs ls hd hP hD hS hl
  exact lv_ldc2d C.1 C.2.1 C.2.2.2.1 (dr_words C.2.2.2.2.1 _ _ hc) hdg k
theorem g_lconst (C : g_Cx p s m args c cc nL own D tys A E) {n : Fin 2} (z : Int) (hz : Int64.ofNat (n : Nat) = lL z) (hdg : decode cc pc = .ok (.lconst n, 1)) {n' : Nat} (hn : pc + 1 = n')  (k : g_G p l e R s m args below meth c nL D A Q ce sl w lv n' (.long (lL z) :: st)) : g_G p l e R s m args below meth c nL D A Q ce sl w lv pc st := by
  subst hn
  intro d0 H locs ls hd hP hD hS hl
  have k := k d0 H locs ls hd hP hD hS hl
  exact lv_lconst C.1 C.2.1 hdg hz k
theorem g_iload_n (C : g_Cx p s m args c cc nL own D tys A E) {k0 : Fin 4} {i : Nat} {x : Int32} (j : Nat) (hj : lv[j]? = some (i, .int x)) (hdg : decode cc pc = .ok (.iload_n k0, 1)) {n' : Nat} (hn : pc + 1 = n') (hi : (k0 : Nat) = i) (k : g_G p l e R s m args below meth c nL D A Q ce sl w lv n' (.int x :: st)) : g_G p l e R s m args below meth c nL D A Q ce sl w lv pc st := by
  subst hn
  intro d0 H locs ls hd hP hD hS hl
  have k := k d0 H locs ls hd hP hD hS hl
  exact lv_iload_n C.1 C.2.1 hdg hi (lv_at hl j hj) k
theorem g_iload (C : g_Cx p s m args c cc nL own D tys A E) {i : Nat} {x : Int32} (j : Nat) (hj : lv[j]? = some (i, .int x)) (hdg : decode cc pc = .ok (.iload i, 2)) {n' : Nat} (hn : pc + 2 = n')  (k : g_G p l e R s m args below meth c nL D A Q ce sl w lv n' (.int x :: st)) : g_G p l e R s m args below meth c nL D A Q ce sl w lv pc st := by
  subst hn
  intro d0 H locs ls hd hP hD hS hl
  have k := k d0 H locs ls hd hP hD hS hl
  exact lv_iload C.1 C.2.1 hdg (lv_at hl j hj) k
theorem g_aload_n (C : g_Cx p s m args c cc nL own D tys A E) {k0 : Fin 4} {i : Nat} {x : Nat} (j : Nat) (hj : lv[j]? = some (i, .ref x)) (hdg : decode cc pc = .ok (.aload_n k0, 1)) {n' : Nat} (hn : pc + 1 = n') (hi : (k0 : Nat) = i) (k : g_G p l e R s m args below meth c nL D A Q ce sl w lv n' (.ref x :: st)) : g_G p l e R s m args below meth c nL D A Q ce sl w lv pc st := by
  subst hn
  intro d0 H locs ls hd hP hD hS hl
  have k := k d0 H locs ls hd hP hD hS hl
  exact lv_aload_n C.1 C.2.1 hdg hi (lv_at hl j hj) k
theorem g_aload (C : g_Cx p s m args c cc nL own D tys A E) {i : Nat} {x : Nat} (j : Nat) (hj : lv[j]? = some (i, .ref x)) (hdg : decode cc pc = .ok (.aload i, 2)) {n' : Nat} (hn : pc + 2 = n')  (k : g_G p l e R s m args below meth c nL D A Q ce sl w lv n' (.ref x :: st)) : g_G p l e R s m args below meth c nL D A Q ce sl w lv pc st := by
  subst hn
  intro d0 H locs ls hd hP hD hS hl
  have k := k d0 H locs ls hd hP hD hS hl
  exact lv_aload C.1 C.2.1 hdg (lv_at hl j hj) k
theorem g_dload_n (C : g_Cx p s m args c cc nL own D tys A E) {k0 : Fin 4} {i : Nat} {x : UInt64} (j : Nat) (hj : lv[j]? = some (i, .double x)) (hdg : decode cc pc = .ok (.dload_n k0, 1)) {n' : Nat} (hn : pc + 1 = n') (hi : (k0 : Nat) = i) (k : g_G p l e R s m args below meth c nL D A Q ce sl w lv n' (.double x :: st)) : g_G p l e R s m args below meth c nL D A Q ce sl w lv pc st := by
  subst hn
  intro d0 H locs ls hd hP hD hS hl
  have k := k d0 H locs ls hd hP hD hS hl
  exact lv_dload_n C.1 C.2.1 hdg hi (lv_at hl j hj) k
theorem g_dload (C : g_Cx p s m args c cc nL own D tys A E) {i : Nat} {x : UInt64} (j : Nat) (hj : lv[j]? = some (i, .double x)) (hdg : decode cc pc = .ok (.dload i, 2)) {n' : Nat} (hn : pc + 2 = n')  (k : g_G p l e R s m args below meth c nL D A Q ce sl w lv n' (.double x :: st)) : g_G p l e R s m args below meth c nL D A Q ce sl w lv pc st := by
  subst hn
  intro d0 H locs ls hd hP hD hS hl
  have k := k d0 H locs ls hd hP hD hS hl
  exact lv_dload C.1 C.2.1 hdg (lv_at hl j hj) k
theorem g_lload_n (C : g_Cx p s m args c cc nL own D tys A E) {k0 : Fin 4} {i : Nat} {x : Int64} (j : Nat) (hj : lv[j]? = some (i, .long x)) (hdg : decode cc pc = .ok (.lload_n k0, 1)) {n' : Nat} (hn : pc + 1 = n') (hi : (k0 : Nat) = i) (k : g_G p l e R s m args below meth c nL D A Q ce sl w lv n' (.long x :: st)) : g_G p l e R s m args below meth c nL D A Q ce sl w lv pc st := by
  subst hn
  intro d0 H locs ls hd hP hD hS hl
  have k := k d0 H locs ls hd hP hD hS hl
  exact lv_lload_n C.1 C.2.1 hdg hi (lv_at hl j hj) k
theorem g_lload (C : g_Cx p s m args c cc nL own D tys A E) {i : Nat} {x : Int64} (j : Nat) (hj : lv[j]? = some (i, .long x)) (hdg : decode cc pc = .ok (.lload i, 2)) {n' : Nat} (hn : pc + 2 = n')  (k : g_G p l e R s m args below meth c nL D A Q ce sl w lv n' (.long x :: st)) : g_G p l e R s m args below meth c nL D A Q ce sl w lv pc st := by
  subst hn
  intro d0 H locs ls hd hP hD hS hl
  have k := k d0 H locs ls hd hP hD hS hl
  exact lv_lload C.1 C.2.1 hdg (lv_at hl j hj) k
theorem g_istore_n (C : g_Cx p s m args c cc nL own D tys A E) {k0 : Fin 4} {i : Nat} {x : Int32} (lv' : List (Nat × Value)) (hdg : decode cc pc = .ok (.istore_n k0, 1)) {n' : Nat} (hn : pc + 1 = n') (hi : (k0 : Nat) = i) (hb : i < nL) (hl' : (i, Value.int x) :: lv.filter (fun q => !(q.1 == i) && !(q.1 + 1 == i && q.2.category == 2)) = lv') (k : g_G p l e R s m args below meth c nL D A Q ce sl w lv' n' st) : g_G p l e R s m args below meth c nL D A Q ce sl w lv pc (.int x :: st) := by
  subst hn
  intro d0 H locs ls hd hP hD hS hl
  exact lv_istore_n C.1 C.2.1 hdg hi hl hb hl' (fun ls' h => k d0 H locs ls' hd hP hD hS h)
theorem g_istore (C : g_Cx p s m args c cc nL own D tys A E) {i : Nat} {x : Int32} (lv' : List (Nat × Value)) (hdg : decode cc pc = .ok (.istore i, 2)) {n' : Nat} (hn : pc + 2 = n') (hb : i < nL) (hl' : (i, Value.int x) :: lv.filter (fun q => !(q.1 == i) && !(q.1 + 1 == i && q.2.category == 2)) = lv') (k : g_G p l e R s m args below meth c nL D A Q ce sl w lv' n' st) : g_G p l e R s m args below meth c nL D A Q ce sl w lv pc (.int x :: st) := by
  subst hn
  intro d0 H locs ls hd hP hD hS hl
  exact lv_istore C.1 C.2.1 hdg hl hb hl' (fun ls' h => k d0 H locs ls' hd hP hD hS h)
theorem g_astore_n (C : g_Cx p s m args c cc nL own D tys A E) {k0 : Fin 4} {i : Nat} {x : Nat} (lv' : List (Nat × Value)) (hdg : decode cc pc = .ok (.astore_n k0, 1)) {n' : Nat} (hn : pc + 1 = n') (hi : (k0 : Nat) = i) (hb : i < nL) (hl' : (i, Value.ref x) :: lv.filter (fun q => !(q.1 == i) && !(q.1 + 1 == i && q.2.category == 2)) = lv') (k : g_G p l e R s m args below meth c nL D A Q ce sl w lv' n' st) : g_G p l e R s m args below meth c nL D A Q ce sl w lv pc (.ref x :: st) := by
  subst hn
  intro d0 H locs ls hd hP hD hS hl
  exact lv_astore_n C.1 C.2.1 hdg hi hl hb hl' (fun ls' h => k d0 H locs ls' hd hP hD hS h)
theorem g_astore (C : g_Cx p s m args c cc nL own D tys A E) {i : Nat} {x : Nat} (lv' : List (Nat × Value)) (hdg : decode cc pc = .ok (.astore i, 2)) {n' : Nat} (hn : pc + 2 = n') (hb : i < nL) (hl' : (i, Value.ref x) :: lv.filter (fun q => !(q.1 == i) && !(q.1 + 1 == i && q.2.category == 2)) = lv') (k : g_G p l e R s m args below meth c nL D A Q ce sl w lv' n' st) : g_G p l e R s m args below meth c nL D A Q ce sl w lv pc (.ref x :: st) := by
  subst hn
  intro d0 H locs ls hd hP hD hS hl
  exact lv_astore C.1 C.2.1 hdg hl hb hl' (fun ls' h => k d0 H locs ls' hd hP hD hS h)
theorem g_dstore_n (C : g_Cx p s m args c cc nL own D tys A E) {k0 : Fin 4} {i : Nat} {x : UInt64} (lv' : List (Nat × Value)) (hdg : decode cc pc = .ok (.dstore_n k0, 1)) {n' : Nat} (hn : pc + 1 = n') (hi : (k0 : Nat) = i) (hb : i + 1 < nL) (hl' : (i, Value.double x) :: lv.filter (fun q => !(q.1 == i) && (!(q.1 == i + 1) && !(q.1 + 1 == i && q.2.category == 2))) = lv') (k : g_G p l e R s m args below meth c nL D A Q ce sl w lv' n' st) : g_G p l e R s m args below meth c nL D A Q ce sl w lv pc (.double x :: st) := by
  subst hn
  intro d0 H locs ls hd hP hD hS hl
  exact lv_dstore_n C.1 C.2.1 hdg hi hl hb hl' (fun ls' h => k d0 H locs ls' hd hP hD hS h)
theorem g_dstore (C : g_Cx p s m args c cc nL own D tys A E) {i : Nat} {x : UInt64} (lv' : List (Nat × Value)) (hdg : decode cc pc = .ok (.dstore i, 2)) {n' : Nat} (hn : pc + 2 = n') (hb : i + 1 < nL) (hl' : (i, Value.double x) :: lv.filter (fun q => !(q.1 == i) && (!(q.1 == i + 1) && !(q.1 + 1 == i && q.2.category == 2))) = lv') (k : g_G p l e R s m args below meth c nL D A Q ce sl w lv' n' st) : g_G p l e R s m args below meth c nL D A Q ce sl w lv pc (.double x :: st) := by
  subst hn
  intro d0 H locs ls hd hP hD hS hl
  exact lv_dstore C.1 C.2.1 hdg hl hb hl' (fun ls' h => k d0 H locs ls' hd hP hD hS h)
theorem g_iinc (C : g_Cx p s m args c cc nL own D tys A E) {i : Nat} {n x : Int} (j : Nat) (lv' : List (Nat × Value)) (hj : lv[j]? = some (i, .int (iI x))) (hdg : decode cc pc = .ok (.iinc i n, 3)) {n' : Nat} (hn : pc + 3 = n') (hb : i < nL) (hl' : (i, Value.int (iI (x + n))) :: lv.filter (fun q => !(q.1 == i) && !(q.1 + 1 == i && q.2.category == 2)) = lv') (k : g_G p l e R s m args below meth c nL D A Q ce sl w lv' n' st) : g_G p l e R s m args below meth c nL D A Q ce sl w lv pc st := by
  subst hn
  intro d0 H locs ls hd hP hD hS hl
  exact lv_iinc C.1 C.2.1 hdg hl hj (iI_add x n) hb hl' (fun ls' h => k d0 H locs ls' hd hP hD hS h)
theorem g_dup (C : g_Cx p s m args c cc nL own D tys A E) {va : Value} (hva : va.category = 1) (hdg : decode cc pc = .ok (.dup, 1)) {n' : Nat} (hn : pc + 1 = n')  (k : g_G p l e R s m args below meth c nL D A Q ce sl w lv n' (va :: va :: st)) : g_G p l e R s m args below meth c nL D A Q ce sl w lv pc (va :: st) := by
  subst hn
  intro d0 H locs ls hd hP hD hS hl
  have k := k d0 H locs ls hd hP hD hS hl
  exact lv_dup C.1 C.2.1 hdg hva k
theorem g_pop (C : g_Cx p s m args c cc nL own D tys A E) {va : Value} (hva : va.category = 1) (hdg : decode cc pc = .ok (.pop, 1)) {n' : Nat} (hn : pc + 1 = n')  (k : g_G p l e R s m args below meth c nL D A Q ce sl w lv n' st) : g_G p l e R s m args below meth c nL D A Q ce sl w lv pc (va :: st) := by
  subst hn
  intro d0 H locs ls hd hP hD hS hl
  have k := k d0 H locs ls hd hP hD hS hl
  exact lv_pop C.1 C.2.1 hdg hva k
theorem g_dup2 (C : g_Cx p s m args c cc nL own D tys A E) {va vb : Value} (hva : va.category = 1) (hvb : vb.category = 1) (hdg : decode cc pc = .ok (.dup2, 1)) {n' : Nat} (hn : pc + 1 = n')  (k : g_G p l e R s m args below meth c nL D A Q ce sl w lv n' (va :: vb :: va :: vb :: st)) : g_G p l e R s m args below meth c nL D A Q ce sl w lv pc (va :: vb :: st) := by
  subst hn
  intro d0 H locs ls hd hP hD hS hl
  have k := k d0 H locs ls hd hP hD hS hl
  exact lv_dup2_11 C.1 C.2.1 hdg hva hvb k
theorem g_iadd (C : g_Cx p s m args c cc nL own D tys A E) {x y : Int}  (hdg : decode cc pc = .ok (.iadd, 1)) {n' : Nat} (hn : pc + 1 = n')  (k : g_G p l e R s m args below meth c nL D A Q ce sl w lv n' (.int (iI (x + y)) :: st)) : g_G p l e R s m args below meth c nL D A Q ce sl w lv pc (.int (iI y) :: .int (iI x) :: st) := by
  subst hn
  intro d0 H locs ls hd hP hD hS hl
  have k := k d0 H locs ls hd hP hD hS hl
  refine lv_iadd C.1 C.2.1 hdg ?_
  rw [iI_add]
  exact k
theorem g_isub (C : g_Cx p s m args c cc nL own D tys A E) {x y : Int}  (hdg : decode cc pc = .ok (.isub, 1)) {n' : Nat} (hn : pc + 1 = n')  (k : g_G p l e R s m args below meth c nL D A Q ce sl w lv n' (.int (iI (x - y)) :: st)) : g_G p l e R s m args below meth c nL D A Q ce sl w lv pc (.int (iI y) :: .int (iI x) :: st) := by
  subst hn
  intro d0 H locs ls hd hP hD hS hl
  have k := k d0 H locs ls hd hP hD hS hl
  refine lv_isub C.1 C.2.1 hdg ?_
  rw [iI_sub]
  exact k
theorem g_imul (C : g_Cx p s m args c cc nL own D tys A E) {x y : Int}  (hdg : decode cc pc = .ok (.imul, 1)) {n' : Nat} (hn : pc + 1 = n')  (k : g_G p l e R s m args below meth c nL D A Q ce sl w lv n' (.int (iI (x * y)) :: st)) : g_G p l e R s m args below meth c nL D A Q ce sl w lv pc (.int (iI y) :: .int (iI x) :: st) := by
  subst hn
  intro d0 H locs ls hd hP hD hS hl
  have k := k d0 H locs ls hd hP hD hS hl
  refine lv_imul C.1 C.2.1 hdg ?_
  rw [iI_mul]
  exact k
theorem g_ineg (C : g_Cx p s m args c cc nL own D tys A E) {x : Int}  (hdg : decode cc pc = .ok (.ineg, 1)) {n' : Nat} (hn : pc + 1 = n')  (k : g_G p l e R s m args below meth c nL D A Q ce sl w lv n' (.int (iI (-x)) :: st)) : g_G p l e R s m args below meth c nL D A Q ce sl w lv pc (.int (iI x) :: st) := by
  subst hn
  intro d0 H locs ls hd hP hD hS hl
  have k := k d0 H locs ls hd hP hD hS hl
  refine lv_ineg C.1 C.2.1 hdg ?_
  rw [iI_neg]
  exact k
theorem g_idiv (C : g_Cx p s m args c cc nL own D tys A E) {x y : Int} (hx : inR x) (hy : inR y) (h0 : y ≠ 0) (h1 : inR (x.tdiv y)) (hdg : decode cc pc = .ok (.idiv, 1)) {n' : Nat} (hn : pc + 1 = n')  (k : g_G p l e R s m args below meth c nL D A Q ce sl w lv n' (.int (iI (x.tdiv y)) :: st)) : g_G p l e R s m args below meth c nL D A Q ce sl w lv pc (.int (iI y) :: .int (iI x) :: st) := by
  subst hn
  intro d0 H locs ls hd hP hD hS hl
  have k := k d0 H locs ls hd hP hD hS hl
  refine lv_idiv C.1 C.2.1 hdg (fun q => h0 ((iI_eq hy (b := 0) (by unfold inR; omega)).mp q)) ?_
  rw [iI_div hx hy h0 h1]
  exact k
theorem g_irem (C : g_Cx p s m args c cc nL own D tys A E) {x y : Int} (hx : inR x) (hy : inR y) (h0 : y ≠ 0) (h1 : inR (x.tdiv y)) (hdg : decode cc pc = .ok (.irem, 1)) {n' : Nat} (hn : pc + 1 = n')  (k : g_G p l e R s m args below meth c nL D A Q ce sl w lv n' (.int (iI (x.tmod y)) :: st)) : g_G p l e R s m args below meth c nL D A Q ce sl w lv pc (.int (iI y) :: .int (iI x) :: st) := by
  subst hn
  intro d0 H locs ls hd hP hD hS hl
  have k := k d0 H locs ls hd hP hD hS hl
  refine lv_irem C.1 C.2.1 hdg (fun q => h0 ((iI_eq hy (b := 0) (by unfold inR; omega)).mp q)) ?_
  rw [iI_div hx hy h0 h1, iI_mul, iI_sub, show x - x.tdiv y * y = x.tmod y by rw [Int.tmod_def, Int.mul_comm]]
  exact k
theorem g_iand (C : g_Cx p s m args c cc nL own D tys A E) {x y : Int32} (v : Int) (hv : x &&& y = iI v) (hdg : decode cc pc = .ok (.iand, 1)) {n' : Nat} (hn : pc + 1 = n')  (k : g_G p l e R s m args below meth c nL D A Q ce sl w lv n' (.int (iI v) :: st)) : g_G p l e R s m args below meth c nL D A Q ce sl w lv pc (.int y :: .int x :: st) := by
  subst hn
  intro d0 H locs ls hd hP hD hS hl
  have k := k d0 H locs ls hd hP hD hS hl
  refine lv_iand C.1 C.2.1 hdg ?_
  rw [hv]
  exact k
theorem g_ior (C : g_Cx p s m args c cc nL own D tys A E) {x y : Int32} (v : Int) (hv : x ||| y = iI v) (hdg : decode cc pc = .ok (.ior, 1)) {n' : Nat} (hn : pc + 1 = n')  (k : g_G p l e R s m args below meth c nL D A Q ce sl w lv n' (.int (iI v) :: st)) : g_G p l e R s m args below meth c nL D A Q ce sl w lv pc (.int y :: .int x :: st) := by
  subst hn
  intro d0 H locs ls hd hP hD hS hl
  have k := k d0 H locs ls hd hP hD hS hl
  refine lv_ior C.1 C.2.1 hdg ?_
  rw [hv]
  exact k
theorem g_ixor (C : g_Cx p s m args c cc nL own D tys A E) {x y : Int32} (v : Int) (hv : x ^^^ y = iI v) (hdg : decode cc pc = .ok (.ixor, 1)) {n' : Nat} (hn : pc + 1 = n')  (k : g_G p l e R s m args below meth c nL D A Q ce sl w lv n' (.int (iI v) :: st)) : g_G p l e R s m args below meth c nL D A Q ce sl w lv pc (.int y :: .int x :: st) := by
  subst hn
  intro d0 H locs ls hd hP hD hS hl
  have k := k d0 H locs ls hd hP hD hS hl
  refine lv_ixor C.1 C.2.1 hdg ?_
  rw [hv]
  exact k
theorem g_ishl (C : g_Cx p s m args c cc nL own D tys A E) {x y : Int32} (v : Int) (hv : x <<< (y &&& 31) = iI v) (hdg : decode cc pc = .ok (.ishl, 1)) {n' : Nat} (hn : pc + 1 = n')  (k : g_G p l e R s m args below meth c nL D A Q ce sl w lv n' (.int (iI v) :: st)) : g_G p l e R s m args below meth c nL D A Q ce sl w lv pc (.int y :: .int x :: st) := by
  subst hn
  intro d0 H locs ls hd hP hD hS hl
  have k := k d0 H locs ls hd hP hD hS hl
  refine lv_ishl C.1 C.2.1 hdg ?_
  rw [hv]
  exact k
theorem g_ishr (C : g_Cx p s m args c cc nL own D tys A E) {x y : Int32} (v : Int) (hv : x >>> (y &&& 31) = iI v) (hdg : decode cc pc = .ok (.ishr, 1)) {n' : Nat} (hn : pc + 1 = n')  (k : g_G p l e R s m args below meth c nL D A Q ce sl w lv n' (.int (iI v) :: st)) : g_G p l e R s m args below meth c nL D A Q ce sl w lv pc (.int y :: .int x :: st) := by
  subst hn
  intro d0 H locs ls hd hP hD hS hl
  have k := k d0 H locs ls hd hP hD hS hl
  refine lv_ishr C.1 C.2.1 hdg ?_
  rw [hv]
  exact k
theorem g_i2l (C : g_Cx p s m args c cc nL own D tys A E) {x : Int} (hx : inR x) (hdg : decode cc pc = .ok (.i2l, 1)) {n' : Nat} (hn : pc + 1 = n')  (k : g_G p l e R s m args below meth c nL D A Q ce sl w lv n' (.long (lL x) :: st)) : g_G p l e R s m args below meth c nL D A Q ce sl w lv pc (.int (iI x) :: st) := by
  subst hn
  intro d0 H locs ls hd hP hD hS hl
  have k := k d0 H locs ls hd hP hD hS hl
  exact lv_i2l C.1 C.2.1 hdg (iI_l hx) k
theorem g_lcmp (C : g_Cx p s m args c cc nL own D tys A E) {x y : Int} (hx : inR x) (hy : inR y) (hdg : decode cc pc = .ok (.lcmp, 1)) {n' : Nat} (hn : pc + 1 = n')  (k : g_G p l e R s m args below meth c nL D A Q ce sl w lv n' (.int (iI (if x < y then -1 else if x = y then 0 else 1)) :: st)) : g_G p l e R s m args below meth c nL D A Q ce sl w lv pc (.long (lL y) :: .long (lL x) :: st) := by
  subst hn
  intro d0 H locs ls hd hP hD hS hl
  have k := k d0 H locs ls hd hP hD hS hl
  refine W.lcmp C.1 C.2.1 hdg ?_
  rw [lL_cmp hx hy]
  exact k
theorem g_i2c (C : g_Cx p s m args c cc nL own D tys A E) {x : Int} (h0 : 0 ≤ x) (h1 : x < 65536) (hdg : decode cc pc = .ok (.i2c, 1)) {n' : Nat} (hn : pc + 1 = n')  (k : g_G p l e R s m args below meth c nL D A Q ce sl w lv n' (.int (iI x) :: st)) : g_G p l e R s m args below meth c nL D A Q ce sl w lv pc (.int (iI x) :: st) := by
  subst hn
  intro d0 H locs ls hd hP hD hS hl
  have k := k d0 H locs ls hd hP hD hS hl
  exact lv_i2c C.1 C.2.1 hdg (iI_char h0 h1) k
theorem g_i2f (C : g_Cx p s m args c cc nL own D tys A E) {x : Int32}  (hdg : decode cc pc = .ok (.i2f, 1)) {n' : Nat} (hn : pc + 1 = n')  (k : g_G p l e R s m args below meth c nL D A Q ce sl w lv n' (.float (FP.i2f x) :: st)) : g_G p l e R s m args below meth c nL D A Q ce sl w lv pc (.int x :: st) := by
  subst hn
  intro d0 H locs ls hd hP hD hS hl
  have k := k d0 H locs ls hd hP hD hS hl
  exact lv_i2f C.1 C.2.1 hdg k
theorem g_i2d (C : g_Cx p s m args c cc nL own D tys A E) {x : Int32}  (hdg : decode cc pc = .ok (.i2d, 1)) {n' : Nat} (hn : pc + 1 = n')  (k : g_G p l e R s m args below meth c nL D A Q ce sl w lv n' (.double (FP.i2d x) :: st)) : g_G p l e R s m args below meth c nL D A Q ce sl w lv pc (.int x :: st) := by
  subst hn
  intro d0 H locs ls hd hP hD hS hl
  have k := k d0 H locs ls hd hP hD hS hl
  exact lv_i2d C.1 C.2.1 hdg k
theorem g_d2i (C : g_Cx p s m args c cc nL own D tys A E) {x : UInt64} (v : Int) (hv : FP.d2i x = iI v) (hdg : decode cc pc = .ok (.d2i, 1)) {n' : Nat} (hn : pc + 1 = n')  (k : g_G p l e R s m args below meth c nL D A Q ce sl w lv n' (.int (iI v) :: st)) : g_G p l e R s m args below meth c nL D A Q ce sl w lv pc (.double x :: st) := by
  subst hn
  intro d0 H locs ls hd hP hD hS hl
  have k := k d0 H locs ls hd hP hD hS hl
  refine lv_d2i C.1 C.2.1 hdg ?_
  rw [hv]
  exact k
theorem g_dneg (C : g_Cx p s m args c cc nL own D tys A E) {x : UInt64}  (hdg : decode cc pc = .ok (.dneg, 1)) {n' : Nat} (hn : pc + 1 = n')  (k : g_G p l e R s m args below meth c nL D A Q ce sl w lv n' (.double (FP.dneg x) :: st)) : g_G p l e R s m args below meth c nL D A Q ce sl w lv pc (.double x :: st) := by
  subst hn
  intro d0 H locs ls hd hP hD hS hl
  have k := k d0 H locs ls hd hP hD hS hl
  exact lv_dneg C.1 C.2.1 hdg k
theorem g_dcmp (C : g_Cx p s m args c cc nL own D tys A E) {x y : UInt64} {op : CmpOp} (v : Int) (hv : Op.cmpValue (FP.dcmp x y) op = iI v) (hdg : decode cc pc = .ok (.dcmp op, 1)) {n' : Nat} (hn : pc + 1 = n')  (k : g_G p l e R s m args below meth c nL D A Q ce sl w lv n' (.int (iI v) :: st)) : g_G p l e R s m args below meth c nL D A Q ce sl w lv pc (.double y :: .double x :: st) := by
  subst hn
  intro d0 H locs ls hd hP hD hS hl
  have k := k d0 H locs ls hd hP hD hS hl
  refine lv_dcmp C.1 C.2.1 hdg ?_
  rw [hv]
  exact k
theorem g_dconst0 (C : g_Cx p s m args c cc nL own D tys A E)   (hdg : decode cc pc = .ok (.dconst 0, 1)) {n' : Nat} (hn : pc + 1 = n')  (k : g_G p l e R s m args below meth c nL D A Q ce sl w lv n' (.double 0 :: st)) : g_G p l e R s m args below meth c nL D A Q ce sl w lv pc st := by
  subst hn
  intro d0 H locs ls hd hP hD hS hl
  have k := k d0 H locs ls hd hP hD hS hl
  exact lv_dconst0 C.1 C.2.1 hdg k
theorem g_fconst0 (C : g_Cx p s m args c cc nL own D tys A E)   (hdg : decode cc pc = .ok (.fconst 0, 1)) {n' : Nat} (hn : pc + 1 = n')  (k : g_G p l e R s m args below meth c nL D A Q ce sl w lv n' (.float 0 :: st)) : g_G p l e R s m args below meth c nL D A Q ce sl w lv pc st := by
  subst hn
  intro d0 H locs ls hd hP hD hS hl
  have k := k d0 H locs ls hd hP hD hS hl
  exact lv_fconst0 C.1 C.2.1 hdg k
theorem g_dadd (C : g_Cx p s m args c cc nL own D tys A E) {x y : UInt64} (hdg : decode cc pc = .ok (.dadd, 1)) {n' : Nat} (hn : pc + 1 = n') (k : ∀ r : UInt64, alike64 r (FP.dadd x y) = true → g_G p l e R s m args below meth c nL D A Q ce sl w lv n' (.double r :: st)) : g_G p l e R s m args below meth c nL D A Q ce sl w lv pc (.double y :: .double x :: st) := by
  subst hn
  intro d0 H locs ls hd hP hD hS hl
  exact lv_dadd_any hd lw_bits C.1 C.2.1 hdg (fun r d1 h1 h2 => k r h1 d1 H locs ls h2 hP hD hS hl)
theorem g_dsub (C : g_Cx p s m args c cc nL own D tys A E) {x y : UInt64} (hdg : decode cc pc = .ok (.dsub, 1)) {n' : Nat} (hn : pc + 1 = n') (k : ∀ r : UInt64, alike64 r (FP.dsub x y) = true → g_G p l e R s m args below meth c nL D A Q ce sl w lv n' (.double r :: st)) : g_G p l e R s m args below meth c nL D A Q ce sl w lv pc (.double y :: .double x :: st) := by
  subst hn
  intro d0 H locs ls hd hP hD hS hl
  exact lv_dsub_any hd lw_bits C.1 C.2.1 hdg (fun r d1 h1 h2 => k r h1 d1 H locs ls h2 hP hD hS hl)
theorem g_dmul (C : g_Cx p s m args c cc nL own D tys A E) {x y : UInt64} (hdg : decode cc pc = .ok (.dmul, 1)) {n' : Nat} (hn : pc + 1 = n') (k : ∀ r : UInt64, alike64 r (FP.dmul x y) = true → g_G p l e R s m args below meth c nL D A Q ce sl w lv n' (.double r :: st)) : g_G p l e R s m args below meth c nL D A Q ce sl w lv pc (.double y :: .double x :: st) := by
  subst hn
  intro d0 H locs ls hd hP hD hS hl
  exact lv_dmul_any hd lw_bits C.1 C.2.1 hdg (fun r d1 h1 h2 => k r h1 d1 H locs ls h2 hP hD hS hl)
theorem g_ddiv (C : g_Cx p s m args c cc nL own D tys A E) {x y : UInt64} (hdg : decode cc pc = .ok (.ddiv, 1)) {n' : Nat} (hn : pc + 1 = n') (k : ∀ r : UInt64, alike64 r (FP.ddiv x y) = true → g_G p l e R s m args below meth c nL D A Q ce sl w lv n' (.double r :: st)) : g_G p l e R s m args below meth c nL D A Q ce sl w lv pc (.double y :: .double x :: st) := by
  subst hn
  intro d0 H locs ls hd hP hD hS hl
  exact lv_ddiv_any hd lw_bits C.1 C.2.1 hdg (fun r d1 h1 h2 => k r h1 d1 H locs ls h2 hP hD hS hl)
theorem g_drem (C : g_Cx p s m args c cc nL own D tys A E) {x y : UInt64} (hdg : decode cc pc = .ok (.drem, 1)) {n' : Nat} (hn : pc + 1 = n') (k : ∀ r : UInt64, alike64 r (FP.drem x y) = true → g_G p l e R s m args below meth c nL D A Q ce sl w lv n' (.double r :: st)) : g_G p l e R s m args below meth c nL D A Q ce sl w lv pc (.double y :: .double x :: st) := by
  subst hn
  intro d0 H locs ls hd hP hD hS hl
  exact lv_drem_any hd lw_bits C.1 C.2.1 hdg (fun r d1 h1 h2 => k r h1 d1 H locs ls h2 hP hD hS hl)
theorem g_fmul (C : g_Cx p s m args c cc nL own D tys A E) {x y : UInt32} (hdg : decode cc pc = .ok (.fmul, 1)) {n' : Nat} (hn : pc + 1 = n') (k : ∀ r : UInt32, alike32 r (FP.fmul x y) = true → g_G p l e R s m args below meth c nL D A Q ce sl w lv n' (.float r :: st)) : g_G p l e R s m args below meth c nL D A Q ce sl w lv pc (.float y :: .float x :: st) := by
  subst hn
  intro d0 H locs ls hd hP hD hS hl
  exact lv_fmul_any hd lw_bits C.1 C.2.1 hdg (fun r d1 h1 h2 => k r h1 d1 H locs ls h2 hP hD hS hl)
theorem g_fdiv (C : g_Cx p s m args c cc nL own D tys A E) {x y : UInt32} (hdg : decode cc pc = .ok (.fdiv, 1)) {n' : Nat} (hn : pc + 1 = n') (k : ∀ r : UInt32, alike32 r (FP.fdiv x y) = true → g_G p l e R s m args below meth c nL D A Q ce sl w lv n' (.float r :: st)) : g_G p l e R s m args below meth c nL D A Q ce sl w lv pc (.float y :: .float x :: st) := by
  subst hn
  intro d0 H locs ls hd hP hD hS hl
  exact lv_fdiv_any hd lw_bits C.1 C.2.1 hdg (fun r d1 h1 h2 => k r h1 d1 H locs ls h2 hP hD hS hl)
theorem g_frem (C : g_Cx p s m args c cc nL own D tys A E) {x y : UInt32} (hdg : decode cc pc = .ok (.frem, 1)) {n' : Nat} (hn : pc + 1 = n') (k : ∀ r : UInt32, alike32 r (FP.frem x y) = true → g_G p l e R s m args below meth c nL D A Q ce sl w lv n' (.float r :: st)) : g_G p l e R s m args below meth c nL D A Q ce sl w lv pc (.float y :: .float x :: st) := by
  subst hn
  intro d0 H locs ls hd hP hD hS hl
  exact lv_frem_any hd lw_bits C.1 C.2.1 hdg (fun r d1 h1 h2 => k r h1 d1 H locs ls h2 hP hD hS hl)
theorem g_f2d (C : g_Cx p s m args c cc nL own D tys A E) {x : UInt32} (hdg : decode cc pc = .ok (.f2d, 1)) {n' : Nat} (hn : pc + 1 = n') (k : ∀ r : UInt64, alike64 r (FP.f2d x) = true → g_G p l e R s m args below meth c nL D A Q ce sl w lv n' (.double r :: st)) : g_G p l e R s m args below meth c nL D A Q ce sl w lv pc (.float x :: st) := by
  subst hn
  intro d0 H locs ls hd hP hD hS hl
  exact lv_f2d_any hd lw_bits C.1 C.2.1 hdg (fun r d1 h1 h2 => k r h1 d1 H locs ls h2 hP hD hS hl)
theorem g_d2f (C : g_Cx p s m args c cc nL own D tys A E) {x : UInt64} (hdg : decode cc pc = .ok (.d2f, 1)) {n' : Nat} (hn : pc + 1 = n') (k : ∀ r : UInt32, alike32 r (FP.d2f x) = true → g_G p l e R s m args below meth c nL D A Q ce sl w lv n' (.float r :: st)) : g_G p l e R s m args below meth c nL D A Q ce sl w lv pc (.double x :: st) := by
  subst hn
  intro d0 H locs ls hd hP hD hS hl
  exact lv_d2f_any hd lw_bits C.1 C.2.1 hdg (fun r d1 h1 h2 => k r h1 d1 H locs ls h2 hP hD hS hl)
theorem g_goto (C : g_Cx p s m args c cc nL own D tys A E) {off : Int} (tgt : Nat) (hdg : decode cc pc = .ok (.goto off, 3)) (ht : (pc : Int) + off = (tgt : Int)) (k : g_G p l e R s m args below meth c nL D A Q ce sl w lv tgt st) : g_G p l e R s m args below meth c nL D A Q ce sl w lv pc st := fun d0 H locs ls hd hP hD hS hl => lv_goto C.1 C.2.1 hdg ht (k d0 H locs ls hd hP hD hS hl)
theorem g_if_lt (C : g_Cx p s m args c cc nL own D tys A E) {x : Int} {off : Int} (tgt : Nat) (hdg : decode cc pc = .ok (.ifCond .lt off, 3)) (ht : (pc : Int) + off = (tgt : Int)) {n' : Nat} (hn : pc + 3 = n') (hx : inR x) (kt : x < 0 → g_G p l e R s m args below meth c nL D A Q ce sl w lv tgt st) (kf : ¬ x < 0 → g_G p l e R s m args below meth c nL D A Q ce sl w lv n' st) : g_G p l e R s m args below meth c nL D A Q ce sl w lv pc (.int (iI x) :: st) := by
  subst hn
  intro d0 H locs ls hd hP hD hS hl
  exact lv_if_lt C.1 C.2.1 hdg ht (fun q => kt ((iI_lt hx (b := 0) (by unfold inR; omega)).mp q) d0 H locs ls hd hP hD hS hl) (fun q => kf (fun z => q ((iI_lt hx (b := 0) (by unfold inR; omega)).mpr z)) d0 H locs ls hd hP hD hS hl)
theorem g_if_ge (C : g_Cx p s m args c cc nL own D tys A E) {x : Int} {off : Int} (tgt : Nat) (hdg : decode cc pc = .ok (.ifCond .ge off, 3)) (ht : (pc : Int) + off = (tgt : Int)) {n' : Nat} (hn : pc + 3 = n') (hx : inR x) (kt : 0 ≤ x → g_G p l e R s m args below meth c nL D A Q ce sl w lv tgt st) (kf : ¬ 0 ≤ x → g_G p l e R s m args below meth c nL D A Q ce sl w lv n' st) : g_G p l e R s m args below meth c nL D A Q ce sl w lv pc (.int (iI x) :: st) := by
  subst hn
  intro d0 H locs ls hd hP hD hS hl
  exact lv_if_ge C.1 C.2.1 hdg ht (fun q => kt ((iI_le (a := 0) (by unfold inR; omega) hx).mp q) d0 H locs ls hd hP hD hS hl) (fun q => kf (fun z => q ((iI_le (a := 0) (by unfold inR; omega) hx).mpr z)) d0 H locs ls hd hP hD hS hl)
theorem g_if_gt (C : g_Cx p s m args c cc nL own D tys A E) {x : Int} {off : Int} (tgt : Nat) (hdg : decode cc pc = .ok (.ifCond .gt off, 3)) (ht : (pc : Int) + off = (tgt : Int)) {n' : Nat} (hn : pc + 3 = n') (hx : inR x) (kt : 0 < x → g_G p l e R s m args below meth c nL D A Q ce sl w lv tgt st) (kf : ¬ 0 < x → g_G p l e R s m args below meth c nL D A Q ce sl w lv n' st) : g_G p l e R s m args below meth c nL D A Q ce sl w lv pc (.int (iI x) :: st) := by
  subst hn
  intro d0 H locs ls hd hP hD hS hl
  exact lv_if_gt C.1 C.2.1 hdg ht (fun q => kt ((iI_lt (a := 0) (by unfold inR; omega) hx).mp q) d0 H locs ls hd hP hD hS hl) (fun q => kf (fun z => q ((iI_lt (a := 0) (by unfold inR; omega) hx).mpr z)) d0 H locs ls hd hP hD hS hl)
theorem g_if_le (C : g_Cx p s m args c cc nL own D tys A E) {x : Int} {off : Int} (tgt : Nat) (hdg : decode cc pc = .ok (.ifCond .le off, 3)) (ht : (pc : Int) + off = (tgt : Int)) {n' : Nat} (hn : pc + 3 = n') (hx : inR x) (kt : x ≤ 0 → g_G p l e R s m args below meth c nL D A Q ce sl w lv tgt st) (kf : ¬ x ≤ 0 → g_G p l e R s m args below meth c nL D A Q ce sl w lv n' st) : g_G p l e R s m args below meth c nL D A Q ce sl w lv pc (.int (iI x) :: st) := by
  subst hn
  intro d0 H locs ls hd hP hD hS hl
  exact lv_if_le C.1 C.2.1 hdg ht (fun q => kt ((iI_le hx (b := 0) (by unfold inR; omega)).mp q) d0 H locs ls hd hP hD hS hl) (fun q => kf (fun z => q ((iI_le hx (b := 0) (by unfold inR; omega)).mpr z)) d0 H locs ls hd hP hD hS hl)
theorem g_if_eq (C : g_Cx p s m args c cc nL own D tys A E) {x : Int} {off : Int} (tgt : Nat) (hdg : decode cc pc = .ok (.ifCond .eq off, 3)) (ht : (pc : Int) + off = (tgt : Int)) {n' : Nat} (hn : pc + 3 = n') (hx : inR x) (kt : x = 0 → g_G p l e R s m args below meth c nL D A Q ce sl w lv tgt st) (kf : ¬ x = 0 → g_G p l e R s m args below meth c nL D A Q ce sl w lv n' st) : g_G p l e R s m args below meth c nL D A Q ce sl w lv pc (.int (iI x) :: st) := by
  subst hn
  intro d0 H locs ls hd hP hD hS hl
  exact lv_if_eq C.1 C.2.1 hdg ht (fun q => kt ((iI_eq hx (b := 0) (by unfold inR; omega)).mp q) d0 H locs ls hd hP hD hS hl) (fun q => kf (fun z => q ((iI_eq hx (b := 0) (by unfold inR; omega)).mpr z)) d0 H locs ls hd hP hD hS hl)
theorem g_if_ne (C : g_Cx p s m args c cc nL own D tys A E) {x : Int} {off : Int} (tgt : Nat) (hdg : decode cc pc = .ok (.ifCond .ne off, 3)) (ht : (pc : Int) + off = (tgt : Int)) {n' : Nat} (hn : pc + 3 = n') (hx : inR x) (kt : x ≠ 0 → g_G p l e R s m args below meth c nL D A Q ce sl w lv tgt st) (kf : ¬ x ≠ 0 → g_G p l e R s m args below meth c nL D A Q ce sl w lv n' st) : g_G p l e R s m args below meth c nL D A Q ce sl w lv pc (.int (iI x) :: st) := by
  subst hn
  intro d0 H locs ls hd hP hD hS hl
  exact lv_if_ne C.1 C.2.1 hdg ht (fun q => kt ((not_congr (iI_eq hx (b := 0) (by unfold inR; omega))).mp q) d0 H locs ls hd hP hD hS hl) (fun q => kf (fun z => z ((iI_eq hx (b := 0) (by unfold inR; omega)).mp q)) d0 H locs ls hd hP hD hS hl)
theorem g_icmp_lt (C : g_Cx p s m args c cc nL own D tys A E) {x y : Int} {off : Int} (tgt : Nat) (hdg : decode cc pc = .ok (.if_icmp .lt off, 3)) (ht : (pc : Int) + off = (tgt : Int)) {n' : Nat} (hn : pc + 3 = n') (hx : inR x) (hy : inR y) (kt : x < y → g_G p l e R s m args below meth c nL D A Q ce sl w lv tgt st) (kf : ¬ x < y → g_G p l e R s m args below meth c nL D A Q ce sl w lv n' st) : g_G p l e R s m args below meth c nL D A Q ce sl w lv pc (.int (iI y) :: .int (iI x) :: st) := by
  subst hn
  intro d0 H locs ls hd hP hD hS hl
  exact lv_icmp_lt C.1 C.2.1 hdg ht (fun q => kt ((iI_lt hx hy).mp q) d0 H locs ls hd hP hD hS hl) (fun q => kf (fun z => q ((iI_lt hx hy).mpr z)) d0 H locs ls hd hP hD hS hl)
theorem g_icmp_ge (C : g_Cx p s m args c cc nL own D tys A E) {x y : Int} {off : Int} (tgt : Nat) (hdg : decode cc pc = .ok (.if_icmp .ge off, 3)) (ht : (pc : Int) + off = (tgt : Int)) {n' : Nat} (hn : pc + 3 = n') (hx : inR x) (hy : inR y) (kt : y ≤ x → g_G p l e R s m args below meth c nL D A Q ce sl w lv tgt st) (kf : ¬ y ≤ x → g_G p l e R s m args below meth c nL D A Q ce sl w lv n' st) : g_G p l e R s m args below meth c nL D A Q ce sl w lv pc (.int (iI y) :: .int (iI x) :: st) := by
  subst hn
  intro d0 H locs ls hd hP hD hS hl
  exact lv_icmp_ge C.1 C.2.1 hdg ht (fun q => kt ((iI_le hy hx).mp q) d0 H locs ls hd hP hD hS hl) (fun q => kf (fun z => q ((iI_le hy hx).mpr z)) d0 H locs ls hd hP hD hS hl)
theorem g_icmp_gt (C : g_Cx p s m args c cc nL own D tys A E) {x y : Int} {off : Int} (tgt : Nat) (hdg : decode cc pc = .ok (.if_icmp .gt off, 3)) (ht : (pc : Int) + off = (tgt : Int)) {n' : Nat} (hn : pc + 3 = n') (hx : inR x) (hy : inR y) (kt : y < x → g_G p l e R s m args below meth c nL D A Q ce sl w lv tgt st) (kf : ¬ y < x → g_G p l e R s m args below meth c nL D A Q ce sl w lv n' st) : g_G p l e R s m args below meth c nL D A Q ce sl w lv pc (.int (iI y) :: .int (iI x) :: st) := by
  subst hn
  intro d0 H locs ls hd hP hD hS hl
  exact lv_icmp_gt C.1 C.2.1 hdg ht (fun q => kt ((iI_lt hy hx).mp q) d0 H locs ls hd hP hD hS hl) (fun q => kf (fun z => q ((iI_lt hy hx).mpr z)) d0 H locs ls hd hP hD hS hl)
theorem g_icmp_le (C : g_Cx p s m args c cc nL own D tys A E) {x y : Int} {off : Int} (tgt : Nat) (hdg : decode cc pc = .ok (.if_icmp .le off, 3)) (ht : (pc : Int) + off = (tgt : Int)) {n' : Nat} (hn : pc + 3 = n') (hx : inR x) (hy : inR y) (kt : x ≤ y → g_G p l e R s m args below meth c nL D A Q ce sl w lv tgt st) (kf : ¬ x ≤ y → g_G p l e R s m args below meth c nL D A Q ce sl w lv n' st) : g_G p l e R s m args below meth c nL D A Q ce sl w lv pc (.int (iI y) :: .int (iI x) :: st) := by
  subst hn
  intro d0 H locs ls hd hP hD hS hl
  exact lv_icmp_le C.1 C.2.1 hdg ht (fun q => kt ((iI_le hx hy).mp q) d0 H locs ls hd hP hD hS hl) (fun q => kf (fun z => q ((iI_le hx hy).mpr z)) d0 H locs ls hd hP hD hS hl)
theorem g_icmp_eq (C : g_Cx p s m args c cc nL own D tys A E) {x y : Int} {off : Int} (tgt : Nat) (hdg : decode cc pc = .ok (.if_icmp .eq off, 3)) (ht : (pc : Int) + off = (tgt : Int)) {n' : Nat} (hn : pc + 3 = n') (hx : inR x) (hy : inR y) (kt : x = y → g_G p l e R s m args below meth c nL D A Q ce sl w lv tgt st) (kf : ¬ x = y → g_G p l e R s m args below meth c nL D A Q ce sl w lv n' st) : g_G p l e R s m args below meth c nL D A Q ce sl w lv pc (.int (iI y) :: .int (iI x) :: st) := by
  subst hn
  intro d0 H locs ls hd hP hD hS hl
  exact lv_icmp_eq C.1 C.2.1 hdg ht (fun q => kt ((iI_eq hx hy).mp q) d0 H locs ls hd hP hD hS hl) (fun q => kf (fun z => q ((iI_eq hx hy).mpr z)) d0 H locs ls hd hP hD hS hl)
theorem g_icmp_ne (C : g_Cx p s m args c cc nL own D tys A E) {x y : Int} {off : Int} (tgt : Nat) (hdg : decode cc pc = .ok (.if_icmp .ne off, 3)) (ht : (pc : Int) + off = (tgt : Int)) {n' : Nat} (hn : pc + 3 = n') (hx : inR x) (hy : inR y) (kt : x ≠ y → g_G p l e R s m args below meth c nL D A Q ce sl w lv tgt st) (kf : ¬ x ≠ y → g_G p l e R s m args below meth c nL D A Q ce sl w lv n' st) : g_G p l e R s m args below meth c nL D A Q ce sl w lv pc (.int (iI y) :: .int (iI x) :: st) := by
  subst hn
  intro d0 H locs ls hd hP hD hS hl
  exact lv_icmp_ne C.1 C.2.1 hdg ht (fun q => kt ((not_congr (iI_eq hx hy)).mp q) d0 H locs ls hd hP hD hS hl) (fun q => kf (fun z => z ((iI_eq hx hy).mp q)) d0 H locs ls hd hP hD hS hl)
theorem g_tsIn (C : g_Cx p s m args c cc nL own D tys A E) {x : Int} {dflt lo hi : Int} {offs : Array Int} {len : Nat} {off : Int} (tgt : Nat) (hdg : decode cc pc = .ok (.tableswitch dflt lo hi offs, len)) (hx : inR x) (h1 : lo ≤ x) (h2 : x ≤ hi) (ho : offs[(x - lo).toNat]? = some off) (ht : (pc : Int) + off = (tgt : Int)) (k : g_G p l e R s m args below meth c nL D A Q ce sl w lv tgt st) : g_G p l e R s m args below meth c nL D A Q ce sl w lv pc (.int (iI x) :: st) := by
  intro d0 H locs ls hd hP hD hS hl
  exact lv_tableIn C.1 C.2.1 hdg (by rw [iI_toInt hx]; omega) (by rw [iI_toInt hx]; omega) (by rw [iI_toInt hx]; exact ho) ht (k d0 H locs ls hd hP hD hS hl)
theorem g_tsOut (C : g_Cx p s m args c cc nL own D tys A E) {x : Int} {dflt lo hi : Int} {offs : Array Int} {len : Nat} (tgt : Nat) (hdg : decode cc pc = .ok (.tableswitch dflt lo hi offs, len)) (hx : inR x) (h1 : x < lo ∨ hi < x) (ht : (pc : Int) + dflt = (tgt : Int)) (k : g_G p l e R s m args below meth c nL D A Q ce sl w lv tgt st) : g_G p l e R s m args below meth c nL D A Q ce sl w lv pc (.int (iI x) :: st) := by
  intro d0 H locs ls hd hP hD hS hl
  exact lv_tableOut C.1 C.2.1 hdg (by rw [iI_toInt hx]; exact h1) ht (k d0 H locs ls hd hP hD hS hl)
theorem g_get (C : g_Cx p s m args c cc nL own D tys A E) {ref Cn : String} {T : u_T} {N ci index : Nat} (hin : ∀ w ∈ u_ws Cn T N, w ∈ g_all) (q0 : Nat) {a : Nat} {fs : List Value} (he : w[q0]? = some (a, .inr (ci, fs))) (hc : vwCl[ci]? = some (Cn, T, N)) (k : Nat) (hk : k < N) (hlink : Cond.fieldLink own index ref (T k).2.1 (T k).2.2.1 ∈ g_all) (href : ref = (T k).1) {v : Value} (hv : fs[k]? = some v) (hdg : decode cc pc = .ok (.getfield index, 3)) {n' : Nat} (hn : pc + 3 = n') (kk : g_G p l e R s m args below meth c nL D A Q ce sl w lv n' (v :: st)) : g_G p l e R s m args below meth c nL D A Q ce sl w lv pc (.ref a :: st) := by
  subst hn
  intro d0 H locs ls hd hP hD hS hl
  exact va_get (s := s.setDrawn d0) C.1 C.2.1 (dr_words C.2.2.2.2.1 _) hin C.2.2.2.1 C.2.2.2.2.2.1 hP q0 he hc k hk (dr_words C.2.2.2.2.1 _ _ hlink) (fun x h => by rw [href]; exact h) hv hdg (kk d0 H locs ls hd hP hD hS hl)
theorem g_getN (C : g_Cx p s m args c cc nL own D tys A E) {ref Cn : String} {host : String} {T : u_T} {N ci index : Nat} (hin : ∀ w ∈ u_ws Cn T N, w ∈ g_all) (q0 : Nat) {a : Nat} {fs : List Value} (he : w[q0]? = some (a, .inr (ci, fs))) (hc : vwCl[ci]? = some (Cn, T, N)) (k : Nat) (hk : k < N) (hlink : Cond.fieldLinkNest own index ref (T k).2.1 (T k).2.2.1 host ∈ g_nest) (href : ref = (T k).1) {v : Value} (hv : fs[k]? = some v) (hdg : decode cc pc = .ok (.getfield index, 3)) {n' : Nat} (hn : pc + 3 = n') (kk : g_G p l e R s m args below meth c nL D A Q ce sl w lv n' (v :: st)) : g_G p l e R s m args below meth c nL D A Q ce sl w lv pc (.ref a :: st) := by
  subst hn
  intro d0 H locs ls hd hP hD hS hl
  exact va_getN (s := s.setDrawn d0) C.1 C.2.1 (dr_words C.2.2.2.2.1 _) hin C.2.2.2.1 C.2.2.2.2.2.1 hP q0 he hc k hk (g_nestD C.2.2.2.2.2.2.2.1 d0 hlink) (fun x h => by rw [href]; exact h) hv hdg (kk d0 H locs ls hd hP hD hS hl)
theorem g_put (C : g_Cx p s m args c cc nL own D tys A E) {ref Cn : String} {T : u_T} {N ci index : Nat} (hin : ∀ w ∈ u_ws Cn T N, w ∈ g_all) (q0 : Nat) {a : Nat} {fs : List Value} (he : w[q0]? = some (a, .inr (ci, fs))) (hc : vwCl[ci]? = some (Cn, T, N)) (k : Nat) (hk : k < N) (hlink : Cond.fieldLink own index ref (T k).2.1 (T k).2.2.1 ∈ g_all) (href : ref = (T k).1) (ty0 : Nat → FieldType) (hty : ∀ k, k < N → parseFieldDescriptor (T k).2.2.1 = some (ty0 k)) (hnm : ∀ a, a < N → ∀ b, b < N → a ≠ b → (T a).2.1 ≠ (T b).2.1) (hfin : (T k).2.2.2 = false) {ty : FieldType} {v : Value} (hd : parseFieldDescriptor (T k).2.2.1 = some ty) (hnr : narrow ty v = v) (hfit : fits ty v = true) (hl0 : k < fs.length) (w' : va_W) (hw : w.set q0 (a, .inr (ci, fs.set k v)) = w') (hdg : decode cc pc = .ok (.putfield index, 3)) {n' : Nat} (hn : pc + 3 = n') (kk : g_G p l e R s m args below meth c nL D A Q ce sl w' lv n' st) : g_G p l e R s m args below meth c nL D A Q ce sl w lv pc (v :: .ref a :: st) := by
  subst hn
  subst hw
  intro d0 H locs ls hdr hP hD hS hl
  exact va_put (s := s.setDrawn d0) C.1 C.2.1 (dr_words C.2.2.2.2.1 _) hin ty0 hty hnm C.2.2.2.1 C.2.2.2.2.2.1 hP hD hS q0 he hc k hk (dr_words C.2.2.2.2.1 _ _ hlink) (fun x h => by rw [href]; exact h) hfin hd hnr hfit hl0 hdg (fun H1 locs1 h1 h2 h3 => kk d0 H1 locs1 ls hdr h1 h2 h3 hl)
theorem g_putN (C : g_Cx p s m args c cc nL own D tys A E) {ref Cn : String} {host : String} {T : u_T} {N ci index : Nat} (hin : ∀ w ∈ u_ws Cn T N, w ∈ g_all) (q0 : Nat) {a : Nat} {fs : List Value} (he : w[q0]? = some (a, .inr (ci, fs))) (hc : vwCl[ci]? = some (Cn, T, N)) (k : Nat) (hk : k < N) (hlink : Cond.fieldLinkNest own index ref (T k).2.1 (T k).2.2.1 host ∈ g_nest) (href : ref = (T k).1) (ty0 : Nat → FieldType) (hty : ∀ k, k < N → parseFieldDescriptor (T k).2.2.1 = some (ty0 k)) (hnm : ∀ a, a < N → ∀ b, b < N → a ≠ b → (T a).2.1 ≠ (T b).2.1) (hfin : (T k).2.2.2 = false) {ty : FieldType} {v : Value} (hd : parseFieldDescriptor (T k).2.2.1 = some ty) (hnr : narrow ty v = v) (hfit : fits ty v = true) (hl0 : k < fs.length) (w' : va_W) (hw : w.set q0 (a, .inr (ci, fs.set k v)) = w') (hdg : decode cc pc = .ok (.putfield index, 3)) {n' : Nat} (hn : pc + 3 = n') (kk : g_G p l e R s m args below meth c nL D A Q ce sl w' lv n' st) : g_G p l e R s m args below meth c nL D A Q ce sl w lv pc (v :: .ref a :: st) := by
  subst hn
  subst hw
  intro d0 H locs ls hdr hP hD hS hl
  exact va_putN (s := s.setDrawn d0) C.1 C.2.1 (dr_words C.2.2.2.2.1 _) hin ty0 hty hnm C.2.2.2.1 C.2.2.2.2.2.1 hP hD hS q0 he hc k hk (g_nestD C.2.2.2.2.2.2.2.1 d0 hlink) (fun x h => by rw [href]; exact h) hfin hd hnr hfit hl0 hdg (fun H1 locs1 h1 h2 h3 => kk d0 H1 locs1 ls hdr h1 h2 h3 hl)
theorem g_putF (C : g_Cx p s m args c cc nL own D tys A E) {ref Cn : String} {T : u_T} {N ci index : Nat} (hin : ∀ w ∈ u_ws Cn T N, w ∈ g_all) (q0 : Nat) {a : Nat} {fs : List Value} (he : w[q0]? = some (a, .inr (ci, fs))) (hc : vwCl[ci]? = some (Cn, T, N)) (k : Nat) (hk : k < N) (hlink : Cond.fieldLink own index ref (T k).2.1 (T k).2.2.1 ∈ g_all) (href : ref = (T k).1) (ty0 : Nat → FieldType) (hty : ∀ k, k < N → parseFieldDescriptor (T k).2.2.1 = some (ty0 k)) (hnm : ∀ a, a < N → ∀ b, b < N → a ≠ b → (T a).2.1 ≠ (T b).2.1) (hfin : (T k).2.2.2 = true) (hin2 : meth.name = "<init>") (hdecl : (T k).1 = own) {ty : FieldType} {v : Value} (hd : parseFieldDescriptor (T k).2.2.1 = some ty) (hnr : narrow ty v = v) (hfit : fits ty v = true) (hl0 : k < fs.length) (w' : va_W) (hw : w.set q0 (a, .inr (ci, fs.set k v)) = w') (hdg : decode cc pc = .ok (.putfield index, 3)) {n' : Nat} (hn : pc + 3 = n') (kk : g_G p l e R s m args below meth c nL D A Q ce sl w' lv n' st) : g_G p l e R s m args below meth c nL D A Q ce sl w lv pc (v :: .ref a :: st) := by
  subst hn
  subst hw
  intro d0 H locs ls hdr hP hD hS hl
  exact va_putF (s := s.setDrawn d0) C.1 C.2.1 (dr_words C.2.2.2.2.1 _) hin ty0 hty hnm C.2.2.2.1 C.2.2.2.2.2.1 hP hD hS q0 he hc k hk (dr_words C.2.2.2.2.1 _ _ hlink) (fun x h => by rw [href]; exact h) hfin hin2 hdecl hd hnr hfit hl0 hdg (fun H1 locs1 h1 h2 h3 => kk d0 H1 locs1 ls hdr h1 h2 h3 hl)
theorem vp_nar_charI {x : Int} (h0 : 0 ≤ x) (h1 : x < 65536) : vp_nar .char (iI x) = iI x := by
  have e : iI x = nI x.toNat := by
    apply Int32.toInt_inj.mp
    rw [iI_toInt ⟨by omega, by omega⟩, nI_toInt (by omega)]
    omega
  rw [e]
  have h := (pk_charN (q := x.toNat) (by omega)).1
  show (match narrow .char (.int (nI x.toNat)) with | .int z => z | _ => 0) = _
  rw [h]
theorem vp_nar_boolI {x : Int} (h : x = 0 ∨ x = 1) : vp_nar .boolean (iI x) = iI x := by
  rcases h with rfl | rfl <;> decide
theorem g_iald (C : g_Cx p s m args c cc nL own D tys A E) (q0 t0 : Nat) {a : Nat} {cA : ClassId} {n : Nat} {f : Nat → Int} (he : w[q0]? = some (a, .inl (cA, n, .inl (iA f)))) (ht : tys[t0]? = some (cA, .int)) {i : Int} (h0 : 0 ≤ i) (h1 : i < n) (hs : (n : Int) < 2147483648) {ins : Instr} (hi : ins = .iaload) (hdg : decode cc pc = .ok (ins, 1)) {n' : Nat} (hn : pc + 1 = n') (k : g_G p l e R s m args below meth c nL D A Q ce sl w lv n' (.int (iI (f i.toNat)) :: st)) : g_G p l e R s m args below meth c nL D A Q ce sl w lv pc (.int (iI i) :: .ref a :: st) := by
  subst hn
  subst hi
  intro d0 H locs ls hd hP hD hS hl
  refine va_iald (s := s.setDrawn d0) C.1 C.2.1 C.2.2.2.2.2.1 hP q0 t0 he ht (iI_in h0 h1 (by omega)) hdg ?_
  rw [iA_get f ⟨by omega, by omega⟩]
  exact k d0 H locs ls hd hP hD hS hl
theorem g_iast (C : g_Cx p s m args c cc nL own D tys A E) (q0 t0 : Nat) {a : Nat} {cA : ClassId} {n : Nat} {f : Nat → Int} (he : w[q0]? = some (a, .inl (cA, n, .inl (iA f)))) (ht : tys[t0]? = some (cA, .int)) {i x : Int} (h0 : 0 ≤ i) (h1 : i < n) (hs : (n : Int) < 2147483648) {ins : Instr} (hi : ins = .iastore) (hdg : decode cc pc = .ok (ins, 1)) {n' : Nat} (hn : pc + 1 = n') (w' : va_W) (hw : w.set q0 (a, .inl (cA, n, .inl (iA (sU f i.toNat x)))) = w') (k : g_G p l e R s m args below meth c nL D A Q ce sl w' lv n' st) : g_G p l e R s m args below meth c nL D A Q ce sl w lv pc (.int (iI x) :: .int (iI i) :: .ref a :: st) := by
  subst hn
  subst hi
  subst hw
  intro d0 H locs ls hd hP hD hS hl
  refine va_iast (s := s.setDrawn d0) C.1 C.2.1 C.2.2.2.2.2.1 hP hD hS q0 t0 he ht (iI_in h0 h1 (by omega)) hdg (fun H1 locs1 h1 h2 h3 => ?_)
  rw [iA_upd f i x ⟨by omega, by omega⟩] at h1 h2
  exact k d0 H1 locs1 ls hd h1 h2 h3 hl
theorem g_cald (C : g_Cx p s m args c cc nL own D tys A E) (q0 t0 : Nat) {a : Nat} {cA : ClassId} {n : Nat} {f : Nat → Int} (he : w[q0]? = some (a, .inl (cA, n, .inl (iA f)))) (ht : tys[t0]? = some (cA, .char)) {i : Int} (h0 : 0 ≤ i) (h1 : i < n) (hs : (n : Int) < 2147483648) {ins : Instr} (hi : ins = .caload) (hdg : decode cc pc = .ok (ins, 1)) {n' : Nat} (hn : pc + 1 = n') (k : g_G p l e R s m args below meth c nL D A Q ce sl w lv n' (.int (iI (f i.toNat)) :: st)) : g_G p l e R s m args below meth c nL D A Q ce sl w lv pc (.int (iI i) :: .ref a :: st) := by
  subst hn
  subst hi
  intro d0 H locs ls hd hP hD hS hl
  refine va_cald (s := s.setDrawn d0) C.1 C.2.1 C.2.2.2.2.2.1 hP q0 t0 he ht (iI_in h0 h1 (by omega)) hdg ?_
  rw [iA_get f ⟨by omega, by omega⟩]
  exact k d0 H locs ls hd hP hD hS hl
theorem g_cast (C : g_Cx p s m args c cc nL own D tys A E) (q0 t0 : Nat) {a : Nat} {cA : ClassId} {n : Nat} {f : Nat → Int} (he : w[q0]? = some (a, .inl (cA, n, .inl (iA f)))) (ht : tys[t0]? = some (cA, .char)) {i x : Int} (h0 : 0 ≤ i) (h1 : i < n) (hs : (n : Int) < 2147483648) (hv0 : 0 ≤ x) (hv1 : x < 65536) {ins : Instr} (hi : ins = .castore) (hdg : decode cc pc = .ok (ins, 1)) {n' : Nat} (hn : pc + 1 = n') (w' : va_W) (hw : w.set q0 (a, .inl (cA, n, .inl (iA (sU f i.toNat x)))) = w') (k : g_G p l e R s m args below meth c nL D A Q ce sl w' lv n' st) : g_G p l e R s m args below meth c nL D A Q ce sl w lv pc (.int (iI x) :: .int (iI i) :: .ref a :: st) := by
  subst hn
  subst hi
  subst hw
  intro d0 H locs ls hd hP hD hS hl
  refine va_cast (s := s.setDrawn d0) C.1 C.2.1 C.2.2.2.2.2.1 hP hD hS q0 t0 he ht (iI_in h0 h1 (by omega)) hdg (fun H1 locs1 h1 h2 h3 => ?_)
  rw [vp_nar_charI hv0 hv1] at h1 h2
  rw [iA_upd f i x ⟨by omega, by omega⟩] at h1 h2
  exact k d0 H1 locs1 ls hd h1 h2 h3 hl
theorem g_zald (C : g_Cx p s m args c cc nL own D tys A E) (q0 t0 : Nat) {a : Nat} {cA : ClassId} {n : Nat} {f : Nat → Int} (he : w[q0]? = some (a, .inl (cA, n, .inl (iA f)))) (ht : tys[t0]? = some (cA, .boolean)) {i : Int} (h0 : 0 ≤ i) (h1 : i < n) (hs : (n : Int) < 2147483648) {ins : Instr} (hi : ins = .baload) (hdg : decode cc pc = .ok (ins, 1)) {n' : Nat} (hn : pc + 1 = n') (k : g_G p l e R s m args below meth c nL D A Q ce sl w lv n' (.int (iI (f i.toNat)) :: st)) : g_G p l e R s m args below meth c nL D A Q ce sl w lv pc (.int (iI i) :: .ref a :: st) := by
  subst hn
  subst hi
  intro d0 H locs ls hd hP hD hS hl
  refine va_zald (s := s.setDrawn d0) C.1 C.2.1 C.2.2.2.2.2.1 hP q0 t0 he ht (iI_in h0 h1 (by omega)) hdg ?_
  rw [iA_get f ⟨by omega, by omega⟩]
  exact k d0 H locs ls hd hP hD hS hl
theorem g_zast (C : g_Cx p s m args c cc nL own D tys A E) (q0 t0 : Nat) {a : Nat} {cA : ClassId} {n : Nat} {f : Nat → Int} (he : w[q0]? = some (a, .inl (cA, n, .inl (iA f)))) (ht : tys[t0]? = some (cA, .boolean)) {i x : Int} (h0 : 0 ≤ i) (h1 : i < n) (hs : (n : Int) < 2147483648) (hv0 : x = 0 ∨ x = 1) {ins : Instr} (hi : ins = .bastore) (hdg : decode cc pc = .ok (ins, 1)) {n' : Nat} (hn : pc + 1 = n') (w' : va_W) (hw : w.set q0 (a, .inl (cA, n, .inl (iA (sU f i.toNat x)))) = w') (k : g_G p l e R s m args below meth c nL D A Q ce sl w' lv n' st) : g_G p l e R s m args below meth c nL D A Q ce sl w lv pc (.int (iI x) :: .int (iI i) :: .ref a :: st) := by
  subst hn
  subst hi
  subst hw
  intro d0 H locs ls hd hP hD hS hl
  refine va_zast (s := s.setDrawn d0) C.1 C.2.1 C.2.2.2.2.2.1 hP hD hS q0 t0 he ht (iI_in h0 h1 (by omega)) hdg (fun H1 locs1 h1 h2 h3 => ?_)
  rw [vp_nar_boolI hv0] at h1 h2
  rw [iA_upd f i x ⟨by omega, by omega⟩] at h1 h2
  exact k d0 H1 locs1 ls hd h1 h2 h3 hl
theorem g_dald (C : g_Cx p s m args c cc nL own D tys A E) (q0 t0 : Nat) {a : Nat} {cA : ClassId} {n : Nat} {f : Nat → UInt64} (he : w[q0]? = some (a, .inl (cA, n, (.inr (.inr (.inr (.inl f))))))) (ht : tys[t0]? = some (cA, .double)) {i : Int} (h0 : 0 ≤ i) (h1 : i < n) (hs : (n : Int) < 2147483648) (hdg : decode cc pc = .ok (.daload, 1)) {n' : Nat} (hn : pc + 1 = n') (k : g_G p l e R s m args below meth c nL D A Q ce sl w lv n' (.double (f i.toNat) :: st)) : g_G p l e R s m args below meth c nL D A Q ce sl w lv pc (.int (iI i) :: .ref a :: st) := by
  subst hn
  intro d0 H locs ls hd hP hD hS hl
  refine va_dald (s := s.setDrawn d0) C.1 C.2.1 C.2.2.2.2.2.1 hP q0 t0 he ht (iI_in h0 h1 (by omega)) hdg ?_
  rw [iI_clamp ⟨by omega, by omega⟩]
  exact k d0 H locs ls hd hP hD hS hl
theorem g_dast (C : g_Cx p s m args c cc nL own D tys A E) (q0 t0 : Nat) {a : Nat} {cA : ClassId} {n : Nat} {f : Nat → UInt64} (he : w[q0]? = some (a, .inl (cA, n, (.inr (.inr (.inr (.inl f))))))) (ht : tys[t0]? = some (cA, .double)) {i : Int} {x : UInt64} (h0 : 0 ≤ i) (h1 : i < n) (hs : (n : Int) < 2147483648) (hdg : decode cc pc = .ok (.dastore, 1)) {n' : Nat} (hn : pc + 1 = n') (w' : va_W) (hw : w.set q0 (a, .inl (cA, n, (.inr (.inr (.inr (.inl (sU f i.toNat x))))))) = w') (k : g_G p l e R s m args below meth c nL D A Q ce sl w' lv n' st) : g_G p l e R s m args below meth c nL D A Q ce sl w lv pc (.double x :: .int (iI i) :: .ref a :: st) := by
  subst hn
  subst hw
  intro d0 H locs ls hd hP hD hS hl
  refine va_dast (s := s.setDrawn d0) C.1 C.2.1 C.2.2.2.2.2.1 hP hD hS q0 t0 he ht (iI_in h0 h1 (by omega)) hdg (fun H1 locs1 h1 h2 h3 => ?_)
  rw [iI_clamp ⟨by omega, by omega⟩] at h1 h2
  exact k d0 H1 locs1 ls hd h1 h2 h3 hl
theorem g_fald (C : g_Cx p s m args c cc nL own D tys A E) (q0 t0 : Nat) {a : Nat} {cA : ClassId} {n : Nat} {f : Nat → UInt32} (he : w[q0]? = some (a, .inl (cA, n, (.inr (.inr (.inl f)))))) (ht : tys[t0]? = some (cA, .float)) {i : Int} (h0 : 0 ≤ i) (h1 : i < n) (hs : (n : Int) < 2147483648) (hdg : decode cc pc = .ok (.faload, 1)) {n' : Nat} (hn : pc + 1 = n') (k : g_G p l e R s m args below meth c nL D A Q ce sl w lv n' (.float (f i.toNat) :: st)) : g_G p l e R s m args below meth c nL D A Q ce sl w lv pc (.int (iI i) :: .ref a :: st) := by
  subst hn
  intro d0 H locs ls hd hP hD hS hl
  refine va_fald (s := s.setDrawn d0) C.1 C.2.1 C.2.2.2.2.2.1 hP q0 t0 he ht (iI_in h0 h1 (by omega)) hdg ?_
  rw [iI_clamp ⟨by omega, by omega⟩]
  exact k d0 H locs ls hd hP hD hS hl
theorem g_fast (C : g_Cx p s m args c cc nL own D tys A E) (q0 t0 : Nat) {a : Nat} {cA : ClassId} {n : Nat} {f : Nat → UInt32} (he : w[q0]? = some (a, .inl (cA, n, (.inr (.inr (.inl f)))))) (ht : tys[t0]? = some (cA, .float)) {i : Int} {x : UInt32} (h0 : 0 ≤ i) (h1 : i < n) (hs : (n : Int) < 2147483648) (hdg : decode cc pc = .ok (.fastore, 1)) {n' : Nat} (hn : pc + 1 = n') (w' : va_W) (hw : w.set q0 (a, .inl (cA, n, (.inr (.inr (.inl (sU f i.toNat x)))))) = w') (k : g_G p l e R s m args below meth c nL D A Q ce sl w' lv n' st) : g_G p l e R s m args below meth c nL D A Q ce sl w lv pc (.float x :: .int (iI i) :: .ref a :: st) := by
  subst hn
  subst hw
  intro d0 H locs ls hd hP hD hS hl
  refine va_fast (s := s.setDrawn d0) C.1 C.2.1 C.2.2.2.2.2.1 hP hD hS q0 t0 he ht (iI_in h0 h1 (by omega)) hdg (fun H1 locs1 h1 h2 h3 => ?_)
  rw [iI_clamp ⟨by omega, by omega⟩] at h1 h2
  exact k d0 H1 locs1 ls hd h1 h2 h3 hl
theorem g_aald (C : g_Cx p s m args c cc nL own D tys A E) (q0 t0 : Nat) {a : Nat} {cA : ClassId} {Cn : String} {n : Nat} {f : Nat → Option Nat} (he : w[q0]? = some (a, .inl (cA, n, .inr (.inr (.inr (.inr f)))))) (ht : tys[t0]? = some (cA, .object Cn)) {i : Int} (h0 : 0 ≤ i) (h1 : i < n) (hs : (n : Int) < 2147483648) {v : Nat} (hv : f i.toNat = some v) (hdg : decode cc pc = .ok (.aaload, 1)) {n' : Nat} (hn : pc + 1 = n') (k : g_G p l e R s m args below meth c nL D A Q ce sl w lv n' (.ref v :: st)) : g_G p l e R s m args below meth c nL D A Q ce sl w lv pc (.int (iI i) :: .ref a :: st) := by
  subst hn
  intro d0 H locs ls hd hP hD hS hl
  refine va_aldq (s := s.setDrawn d0) C.1 C.2.1 C.2.2.2.2.2.1 hP q0 t0 he ht (iI_in h0 h1 (by omega)) hdg ?_
  rw [iI_clamp ⟨by omega, by omega⟩, hv]
  exact k d0 H locs ls hd hP hD hS hl
theorem g_alen (C : g_Cx p s m args c cc nL own D tys A E) (q0 t0 : Nat) {a : Nat} {cA : ClassId} {x : vp_A} (he : w[q0]? = some (a, .inl (cA, x))) {ty : FieldType} (ht : tys[t0]? = some (cA, ty)) {v : Int} (hv : Int32.ofNat x.1 = iI v) (hdg : decode cc pc = .ok (.arraylength, 1)) {n' : Nat} (hn : pc + 1 = n') (k : g_G p l e R s m args below meth c nL D A Q ce sl w lv n' (.int (iI v) :: st)) : g_G p l e R s m args below meth c nL D A Q ce sl w lv pc (.ref a :: st) := by
  subst hn
  intro d0 H locs ls hd hP hD hS hl
  exact va_alen (s := s.setDrawn d0) C.1 C.2.1 C.2.2.2.2.2.1 hP q0 t0 he ht hv hdg (k d0 H locs ls hd hP hD hS hl)
end GK
