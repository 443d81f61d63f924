/-! rings: the first one, by numbers, whose bounds together are below 0 -/
def rg_es (B : Nat → Nat → Int) : List Int → Int
  | [] => 0
  | [_] => 0
  | a :: b :: t => B a.toNat b.toNat + rg_es B (b :: t)
def rg_ok (B : Nat → Nat → Int) : List Int → Bool
  | [] => true
  | [_] => true
  | a :: b :: t => decide (B a.toNat b.toNat ≠ 1000000000) && rg_ok B (b :: t)
def rg_l (r : List Int) : Int := r.getLastD 0
def rg_f (r : List Int) : Int := r.headD 0
def rg_b (B : Nat → Nat → Int) (r : List Int) : Bool := rg_ok B r && (decide (B (rg_l r).toNat (rg_f r).toNat ≠ 1000000000) && decide (rg_es B r + B (rg_l r).toNat (rg_f r).toNat < 0))
def rg_loop (g : List Int → Option (List Int)) (r : List Int) : Nat → Int → Option (List Int)
  | 0, _ => none
  | c + 1, j => if j ∈ r then rg_loop g r c (j + 1) else match g (r ++ [j]) with
    | some x => some x
    | none => rg_loop g r c (j + 1)
def rg_fr (P : List Int → Bool) (n : Int) : Nat → List Int → Option (List Int)
  | 0, r => if P r = true then some r else none
  | f + 1, r => if P r = true then some r else rg_loop (rg_fr P n f) r (n - (rg_f r + 1)).toNat (rg_f r + 1)
theorem rg_l_app (r : List Int) (j : Int) : rg_l (r ++ [j]) = j := by simp [rg_l]
theorem rg_f_app {r : List Int} (h : r ≠ []) (j : Int) : rg_f (r ++ [j]) = rg_f r := by
  cases r with
  | nil => exact absurd rfl h
  | cons a t => rfl
theorem rg_es_app (B : Nat → Nat → Int) (j : Int) : ∀ {r : List Int}, r ≠ [] → rg_es B (r ++ [j]) = rg_es B r + B (rg_l r).toNat j.toNat
  | [], h => absurd rfl h
  | [a], _ => by simp [rg_es, rg_l]
  | a :: b :: t, _ => by
    have h := rg_es_app B j (r := b :: t) (by simp)
    show B a.toNat b.toNat + rg_es B ((b :: t) ++ [j]) = B a.toNat b.toNat + rg_es B (b :: t) + B (rg_l (a :: b :: t)).toNat j.toNat
    rw [h, show rg_l (a :: b :: t) = rg_l (b :: t) by simp [rg_l]]
    omega
theorem rg_ok_app (B : Nat → Nat → Int) (j : Int) : ∀ {r : List Int}, r ≠ [] → rg_ok B (r ++ [j]) = (rg_ok B r && decide (B (rg_l r).toNat j.toNat ≠ 1000000000))
  | [], h => absurd rfl h
  | [a], _ => by simp [rg_ok, rg_l]
  | a :: b :: t, _ => by
    have h := rg_ok_app B j (r := b :: t) (by simp)
    show (decide (B a.toNat b.toNat ≠ 1000000000) && rg_ok B ((b :: t) ++ [j])) = ((decide (B a.toNat b.toNat ≠ 1000000000) && rg_ok B (b :: t)) && decide (B (rg_l (a :: b :: t)).toNat j.toNat ≠ 1000000000))
    rw [h, show rg_l (a :: b :: t) = rg_l (b :: t) by simp [rg_l], Bool.and_assoc]
theorem rg_loop_none {g : List Int → Option (List Int)} {r : List Int} (h : ∀ j, g (r ++ [j]) = none) : ∀ (c : Nat) (j : Int), rg_loop g r c j = none
  | 0, _ => rfl
  | c + 1, j => by
    rw [rg_loop, h j]
    have := rg_loop_none h c (j + 1)
    split
    · exact this
    · exact this
theorem rg_fr_none {B : Nat → Nat → Int} {n : Int} : ∀ (f : Nat) (r : List Int), r ≠ [] → rg_ok B r = false → rg_fr (rg_b B) n f r = none
  | 0, r, _, h => by
    rw [rg_fr, rg_b, h]
    simp
  | f + 1, r, hr, h => by
    rw [rg_fr, if_neg (by rw [rg_b, h]; simp)]
    exact rg_loop_none (fun j => rg_fr_none f (r ++ [j]) (by simp) (by rw [rg_ok_app B j hr, h]; simp)) _ _
/-- the cells of the ring hold the row r -/
def rg_at (R : Nat → Int) (r : List Int) : Prop := ∀ k : Nat, k < r.length → R k = r.getD k 0
theorem rg_at_f {R : Nat → Int} {r : List Int} (h : rg_at R r) (hr : 0 < r.length) : R 0 = rg_f r := by
  rw [h 0 hr]
  cases r with
  | nil => simp at hr
  | cons a t => rfl
theorem rg_at_l {R : Nat → Int} {r : List Int} (h : rg_at R r) (hr : 0 < r.length) : R (r.length - 1) = rg_l r := by
  rw [h _ (by omega)]
  unfold rg_l
  rw [List.getLastD_eq_getLast?, List.getLast?_eq_getElem?]
  rfl
theorem rg_at_app {R : Nat → Int} {r : List Int} (h : rg_at R r) (j : Int) : rg_at (sU R r.length j) (r ++ [j]) := fun k hk => by
  rw [List.length_append] at hk
  have h1 : ([j] : List Int).length = 1 := rfl
  by_cases e : k = r.length
  · subst e
    rw [sU_s]
    simp
  · rw [sU_n _ _ e, h k (by omega)]
    simp only [List.getD_eq_getElem?_getD]
    rw [List.getElem?_append_left (by omega)]
theorem rg_mem {R : Nat → Int} {r : List Int} (h : rg_at R r) (j : Int) : j ∈ r ↔ ∃ k, k < r.length ∧ R k = j := by
  constructor
  · intro q
    obtain ⟨k, hk, e⟩ := List.mem_iff_getElem.mp q
    refine ⟨k, hk, ?_⟩
    rw [h k hk, List.getD_eq_getElem?_getD, List.getElem?_eq_getElem hk]
    exact e
  · rintro ⟨k, hk, e⟩
    rw [h k hk, List.getD_eq_getElem?_getD, List.getElem?_eq_getElem hk] at e
    exact e ▸ List.getElem_mem hk
