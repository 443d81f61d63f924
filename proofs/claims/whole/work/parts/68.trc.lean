/-! Trace: a place's number, the remainder put -/
def gO : Nat := 2 ^ 1074
def plOK (v : UInt64) : Prop := (∃ s n, pF v s n ∧ gG ∣ n ∧ n ≤ 9999 * gO) ∨ ∃ s, FP.Core.val64 v = .inf s
theorem gO_T : 9999 * gO < gT := by
  have h1 : gT = 67108864 * gO := by decide +kernel
  have h2 : 0 < gO := Nat.two_pow_pos _
  omega
theorem zz_mio : zz 4696837146684686336 = 1000000 * (gO : Int) := by decide +kernel
theorem zz_nio : zz 13920209183539462144 = -(1000000 * (gO : Int)) := by decide +kernel
theorem nn_mio : FP.Core.val64 4696837146684686336 ≠ .nan := by decide +kernel
theorem nn_nio : FP.Core.val64 13920209183539462144 ≠ .nan := by decide +kernel
theorem plOK_nn {v : UInt64} (h : plOK v) : FP.Core.val64 v ≠ .nan := by
  rcases h with ⟨s, n, h, -, -⟩ | ⟨s, h⟩
  · exact pF_nn h
  · rw [h]
    exact fun z => FP.Core.Datum.noConfusion z
theorem endV_z {v : UInt64} (h : FP.Core.val64 v ≠ .nan) : endV v ↔ 1000000 * (gO : Int) < zz v ∨ zz v < -(1000000 * (gO : Int)) := by
  unfold endV
  rw [dcV_z h nn_mio, dcV_z h nn_nio, zz_mio, zz_nio]
  constructor
  · rintro (h | h)
    · split at h
      · omega
      · split at h <;> omega
    · split at h
      · omega
      · split at h <;> omega
  · rintro (h | h)
    · left
      rw [if_neg (by omega), if_neg (by omega)]
      decide
    · right
      rw [if_pos (by omega)]
      decide
theorem zz_inf {v : UInt64} {s : Bool} (h : FP.Core.val64 v = .inf s) : zz v = if s = true then -((FP.Core.b64.tails * 2 ^ (FP.Core.b64.exps - 2) : Nat) : Int) else ((FP.Core.b64.tails * 2 ^ (FP.Core.b64.exps - 2) : Nat) : Int) := by
  unfold zz
  rw [h]
  rfl
theorem gO_top : 1000000 * gO < FP.Core.b64.tails * 2 ^ (FP.Core.b64.exps - 2) := by
  refine Nat.lt_trans ?_ gT_top
  have h1 : gT = 67108864 * gO := by decide +kernel
  have h2 : 0 < gO := Nat.two_pow_pos _
  omega
theorem endV_inf {v : UInt64} {s : Bool} (h : FP.Core.val64 v = .inf s) : endV v := by
  have hn : FP.Core.val64 v ≠ .nan := by
    rw [h]
    exact fun z => FP.Core.Datum.noConfusion z
  rw [endV_z hn, zz_inf h]
  have := gO_top
  generalize FP.Core.b64.tails * 2 ^ (FP.Core.b64.exps - 2) = x at *
  cases s with
  | false =>
    left
    rw [if_neg (by decide)]
    omega
  | true =>
    right
    rw [if_pos rfl]
    omega
theorem endV_fin {v : UInt64} {s : Bool} {n : Nat} (h : pF v s n) (hn : n ≤ 1000000 * gO) : ¬ endV v := by
  rw [endV_z (pF_nn h), pF_z h]
  split <;> omega
theorem pl_fin {v : UInt64} (h : plOK v) (he : ¬ endV v) : ∃ s n, pF v s n ∧ gG ∣ n ∧ n ≤ 9999 * gO ∧ n < gT := by
  rcases h with ⟨s, n, h1, h2, h3⟩ | ⟨s, h⟩
  · exact ⟨s, n, h1, h2, h3, Nat.lt_of_le_of_lt h3 gO_T⟩
  · exact absurd (endV_inf h) he
theorem pl_div {v : UInt64} (h : plOK v) (hz : dcV .l v 0 ≠ 0) : FP.Core.val64 v ≠ .nan ∧ 0 < zm v ∧ gG ∣ zm v := by
  refine ⟨plOK_nn h, ?_, ?_⟩
  · refine Nat.pos_of_ne_zero fun e => hz ?_
    rw [dcV_z (plOK_nn h) nn_0, zz_0]
    have : zz v = 0 := by rcases zz_of v with q | q <;> omega
    rw [if_neg (by omega), if_pos this]
  · rcases h with ⟨s, n, h1, h2, h3⟩ | ⟨s, h⟩
    · rw [pF_m h1]
      exact h2
    · unfold zm
      rw [h]
      exact gG_top
theorem pl_rem {v u : UInt64} (hv : plOK v) (he : ¬ endV v) (hu : plOK u) (hz : dcV .l u 0 ≠ 0) : plOK (FP.drem v u) := by
  obtain ⟨s, n, h1, h2, h3, -⟩ := pl_fin hv he
  obtain ⟨k1, k2, k3⟩ := pl_div hu hz
  refine Or.inl ⟨s, n % zm u, drem_pF h1 k1 rfl k2, (Nat.dvd_mod_iff k3).mpr h2, Nat.le_trans (Nat.mod_le _ _) h3⟩
def goodR (V : Nat → UInt64) (N : Nat → Int) (i j : Nat) : Prop := N i = 0 ∧ N j = 0 ∧ ¬ endV (V i) ∧ dcV .l (V j) 0 ≠ 0
set_option maxRecDepth 100000 in
set_option maxHeartbeats 4000000 in
theorem c_X5_putRemainder (l : Launch) (D : va_G) (Y : Nat → ClassId) {E : (Nat → Prop) → State → Heap → Prop} (hE : g_Stab E) (q : Nat → Nat) (I : Nat → Int) (V : Nat → UInt64) (N : Nat → Int) (i : Int) (j : Int) (hsI : smI I) (hB : bN01 N) (hi : 0 ≤ i ∧ i < 8) (hj : 0 ≤ j ∧ j < 8) (hV : ∀ k : Nat, N k = 0 → plOK (V k)) : g_Ct l yX5_putRemainder cX5_putRemainder 3 none ({ frames := 1, cells := 0, slots := 0, locals := 29 } : Room) D (tysY Y) E [.ref (q 99), .int (iI i), .int (iI j)] (wTrace q Y I V N) 0 0 (fun r9 w9 => r9 = none ∧ ((¬ goodR V N i.toNat j.toNat ∧ w9 = wTrace q Y I (sU V i.toNat 0) (sU N i.toNat 1)) ∨ (goodR V N i.toNat j.toNat ∧ w9 = wTrace q Y I (sU V i.toNat (FP.drem (V i.toNat) (V j.toNat))) (sU N i.toNat 0)))) := by
  refine g_ofG (own := RX5) hE (by decide) rfl (Nat.le_of_ble_eq_true rfl) [(0, .ref (q 99)), (1, .int (iI i)), (2, .int (iI j))] rfl ?_
  intro p9 e9 s9 m9 b9 t9 c9 A9 C hr hlk hnm
  have hI := hsI
  unfold smI at hI
  refine g_aload_n C (n' := 1) 0 rfl dX5_putRemainder_0 rfl rfl ?_
  refine g_get C (n' := 4) (Cn := RX5) (T := TX5) (N := 5) (ci := 4) (v := .ref (q 1)) ga_X5 0 rfl rfl 1 (by decide) kw_169 rfl rfl dX5_putRemainder_1 rfl ?_
  refine g_iload_n C (n' := 5) 1 rfl dX5_putRemainder_4 rfl rfl ?_
  refine g_zald C (n' := 6) (f := N) 2 2 rfl rfl (by omega) (by omega) (by decide) rfl dX5_putRemainder_5 rfl ?_
  have h_5 := hB i.toNat
  refine g_if_ne C (n' := 9) 41 dX5_putRemainder_6 (by decide) rfl (by unfold inR; omega) (fun c1 => ?_) (fun c1 => ?_)
  · skip
    refine g_aload_n C (n' := 42) 0 rfl dX5_putRemainder_41 rfl rfl ?_
    refine g_iload_n C (n' := 43) 1 rfl dX5_putRemainder_42 rfl rfl ?_
    refine g_cVn C (n' := 46) (c_X5_putNoNumber l D Y C.2.2.2.2.2.2.2.2.1 q I V N i hi) 1 kw_590 kc_X5_putNoNumber (by decide +kernel) (pm0 _) 0 (ci := 4) rfl rfl rfl rfl ⟨Nat.le_of_ble_eq_true rfl, Nat.le_of_ble_eq_true rfl⟩ ⟨rfl, rfl⟩ ⟨Nat.le_of_ble_eq_true rfl, Nat.le_of_ble_eq_true rfl⟩ (Nat.le_of_ble_eq_true rfl) dX5_putRemainder_43 rfl rfl (wTrace q Y I (sU V i.toNat 0) (sU N i.toNat 1)) (pm0' _) ?_
    refine g_goto C 69 dX5_putRemainder_46 (by decide) ?_
    exact g_vret C hr hlk ⟨rfl, Or.inl ⟨by rintro ⟨g1, g2, -, -⟩; omega, rfl⟩⟩ dX5_putRemainder_69
  · skip
    refine g_aload_n C (n' := 10) 0 rfl dX5_putRemainder_9 rfl rfl ?_
    refine g_get C (n' := 13) (Cn := RX5) (T := TX5) (N := 5) (ci := 4) (v := .ref (q 1)) ga_X5 0 rfl rfl 1 (by decide) kw_169 rfl rfl dX5_putRemainder_10 rfl ?_
    refine g_iload_n C (n' := 14) 2 rfl dX5_putRemainder_13 rfl rfl ?_
    refine g_zald C (n' := 15) (f := N) 2 2 rfl rfl (by omega) (by omega) (by decide) rfl dX5_putRemainder_14 rfl ?_
    have h_14 := hB j.toNat
    refine g_if_ne C (n' := 18) 41 dX5_putRemainder_15 (by decide) rfl (by unfold inR; omega) (fun c2 => ?_) (fun c2 => ?_)
    · skip
      refine g_aload_n C (n' := 42) 0 rfl dX5_putRemainder_41 rfl rfl ?_
      refine g_iload_n C (n' := 43) 1 rfl dX5_putRemainder_42 rfl rfl ?_
      refine g_cVn C (n' := 46) (c_X5_putNoNumber l D Y C.2.2.2.2.2.2.2.2.1 q I V N i hi) 1 kw_590 kc_X5_putNoNumber (by decide +kernel) (pm0 _) 0 (ci := 4) rfl rfl rfl rfl ⟨Nat.le_of_ble_eq_true rfl, Nat.le_of_ble_eq_true rfl⟩ ⟨rfl, rfl⟩ ⟨Nat.le_of_ble_eq_true rfl, Nat.le_of_ble_eq_true rfl⟩ (Nat.le_of_ble_eq_true rfl) dX5_putRemainder_43 rfl rfl (wTrace q Y I (sU V i.toNat 0) (sU N i.toNat 1)) (pm0' _) ?_
      refine g_goto C 69 dX5_putRemainder_46 (by decide) ?_
      exact g_vret C hr hlk ⟨rfl, Or.inl ⟨by rintro ⟨g1, g2, -, -⟩; omega, rfl⟩⟩ dX5_putRemainder_69
    · skip
      refine g_aload_n C (n' := 19) 0 rfl dX5_putRemainder_18 rfl rfl ?_
      refine g_get C (n' := 22) (Cn := RX5) (T := TX5) (N := 5) (ci := 4) (v := .ref (q 0)) ga_X5 0 rfl rfl 0 (by decide) kw_168 rfl rfl dX5_putRemainder_19 rfl ?_
      refine g_iload_n C (n' := 23) 1 rfl dX5_putRemainder_22 rfl rfl ?_
      refine g_dald C (n' := 24) (f := V) 1 3 rfl rfl (by omega) (by omega) (by decide) dX5_putRemainder_23 rfl ?_
      refine g_callS C (n' := 27) (c_X5_isEndless l D Y C.2.2.2.2.2.2.2.2.1 (V i.toNat)) 1 kw_624 kc_X5_isEndless (by decide +kernel) (pm_n _) rfl ⟨Nat.le_of_ble_eq_true rfl, Nat.le_of_ble_eq_true rfl⟩ ⟨rfl, rfl⟩ ⟨Nat.le_of_ble_eq_true rfl, Nat.le_of_ble_eq_true rfl⟩ (Nat.le_of_ble_eq_true rfl) dX5_putRemainder_24 rfl (fun r9 w9 hp3 => ?_)
      obtain ⟨rfl, (⟨he4, rfl⟩ | ⟨he4, rfl⟩)⟩ := hp3
      · skip
        refine g_perm (w' := (wTrace q Y I V N)) (pm_n _) ?_
        refine g_st (st' := [.int (iI 1)]) rfl ?_
        refine g_if_ne C (n' := 30) 41 dX5_putRemainder_27 (by decide) rfl (by unfold inR; omega) (fun c5 => ?_) (fun c5 => ?_)
        · skip
          refine g_aload_n C (n' := 42) 0 rfl dX5_putRemainder_41 rfl rfl ?_
          refine g_iload_n C (n' := 43) 1 rfl dX5_putRemainder_42 rfl rfl ?_
          refine g_cVn C (n' := 46) (c_X5_putNoNumber l D Y C.2.2.2.2.2.2.2.2.1 q I V N i hi) 1 kw_590 kc_X5_putNoNumber (by decide +kernel) (pm0 _) 0 (ci := 4) rfl rfl rfl rfl ⟨Nat.le_of_ble_eq_true rfl, Nat.le_of_ble_eq_true rfl⟩ ⟨rfl, rfl⟩ ⟨Nat.le_of_ble_eq_true rfl, Nat.le_of_ble_eq_true rfl⟩ (Nat.le_of_ble_eq_true rfl) dX5_putRemainder_43 rfl rfl (wTrace q Y I (sU V i.toNat 0) (sU N i.toNat 1)) (pm0' _) ?_
          refine g_goto C 69 dX5_putRemainder_46 (by decide) ?_
          exact g_vret C hr hlk ⟨rfl, Or.inl ⟨by rintro ⟨-, -, g3, -⟩; exact g3 he4, rfl⟩⟩ dX5_putRemainder_69
        · skip
          exfalso
          omega
      · skip
        refine g_perm (w' := (wTrace q Y I V N)) (pm_n _) ?_
        refine g_st (st' := [.int (iI 0)]) rfl ?_
        refine g_if_ne C (n' := 30) 41 dX5_putRemainder_27 (by decide) rfl (by unfold inR; omega) (fun c6 => ?_) (fun c6 => ?_)
        · skip
          exfalso
          omega
        · skip
          refine g_aload_n C (n' := 31) 0 rfl dX5_putRemainder_30 rfl rfl ?_
          refine g_get C (n' := 34) (Cn := RX5) (T := TX5) (N := 5) (ci := 4) (v := .ref (q 0)) ga_X5 0 rfl rfl 0 (by decide) kw_168 rfl rfl dX5_putRemainder_31 rfl ?_
          refine g_iload_n C (n' := 35) 2 rfl dX5_putRemainder_34 rfl rfl ?_
          refine g_dald C (n' := 36) (f := V) 1 3 rfl rfl (by omega) (by omega) (by decide) dX5_putRemainder_35 rfl ?_
          refine g_dconst0 C (n' := 37) dX5_putRemainder_36 rfl ?_
          refine g_dcmp C (n' := 38) (dcV .l (V j.toNat) 0) (dcV_e _ _ _) dX5_putRemainder_37 rfl ?_
          have h_37 := dcV_r .l (V j.toNat) 0
          refine g_if_ne C (n' := 41) 49 dX5_putRemainder_38 (by decide) rfl (by unfold inR; omega) (fun c7 => ?_) (fun c7 => ?_)
          · skip
            obtain ⟨s8, n8, hx8, hg8, hb8, hn8⟩ := pl_fin (hV i.toNat (by omega)) he4
            obtain ⟨ky8, k08, kg8⟩ := pl_div (hV j.toNat (by omega)) (by omega)
            refine g_aload_n C (n' := 50) 0 rfl dX5_putRemainder_49 rfl rfl ?_
            refine g_iload_n C (n' := 51) 1 rfl dX5_putRemainder_50 rfl rfl ?_
            refine g_aload_n C (n' := 52) 0 rfl dX5_putRemainder_51 rfl rfl ?_
            refine g_get C (n' := 55) (Cn := RX5) (T := TX5) (N := 5) (ci := 4) (v := .ref (q 0)) ga_X5 0 rfl rfl 0 (by decide) kw_168 rfl rfl dX5_putRemainder_52 rfl ?_
            refine g_iload_n C (n' := 56) 1 rfl dX5_putRemainder_55 rfl rfl ?_
            refine g_dald C (n' := 57) (f := V) 1 3 rfl rfl (by omega) (by omega) (by decide) dX5_putRemainder_56 rfl ?_
            refine g_aload_n C (n' := 58) 0 rfl dX5_putRemainder_57 rfl rfl ?_
            refine g_get C (n' := 61) (Cn := RX5) (T := TX5) (N := 5) (ci := 4) (v := .ref (q 0)) ga_X5 0 rfl rfl 0 (by decide) kw_168 rfl rfl dX5_putRemainder_58 rfl ?_
            refine g_iload_n C (n' := 62) 2 rfl dX5_putRemainder_61 rfl rfl ?_
            refine g_dald C (n' := 63) (f := V) 1 3 rfl rfl (by omega) (by omega) (by decide) dX5_putRemainder_62 rfl ?_
            refine g_cSv C (n' := 66) (v := .double (FP.drem (V i.toNat) (V j.toNat))) (c_X5_remainder l D Y C.2.2.2.2.2.2.2.2.1 (V i.toNat) (V j.toNat) s8 n8 (zm (V j.toNat)) hx8 hg8 hn8 ky8 rfl k08 kg8) 2 kw_627 kc_X5_remainder (by decide +kernel) (pm_n _) rfl ⟨Nat.le_of_ble_eq_true rfl, Nat.le_of_ble_eq_true rfl⟩ ⟨rfl, rfl⟩ ⟨Nat.le_of_ble_eq_true rfl, Nat.le_of_ble_eq_true rfl⟩ (Nat.le_of_ble_eq_true rfl) dX5_putRemainder_63 rfl rfl (wTrace q Y I V N) (pm_n _) ?_
            refine g_cVn C (n' := 69) (c_X5_putNumber l D Y C.2.2.2.2.2.2.2.2.1 q I V N i (FP.drem (V i.toNat) (V j.toNat)) hi) 2 kw_570 kc_X5_putNumber (by decide +kernel) (pm0 _) 0 (ci := 4) rfl rfl rfl rfl ⟨Nat.le_of_ble_eq_true rfl, Nat.le_of_ble_eq_true rfl⟩ ⟨rfl, rfl⟩ ⟨Nat.le_of_ble_eq_true rfl, Nat.le_of_ble_eq_true rfl⟩ (Nat.le_of_ble_eq_true rfl) dX5_putRemainder_66 rfl rfl (wTrace q Y I (sU V i.toNat (FP.drem (V i.toNat) (V j.toNat))) (sU N i.toNat 0)) (pm0' _) ?_
            exact g_vret C hr hlk ⟨rfl, Or.inr ⟨⟨by omega, by omega, he4, by omega⟩, rfl⟩⟩ dX5_putRemainder_69
          · skip
            refine g_aload_n C (n' := 42) 0 rfl dX5_putRemainder_41 rfl rfl ?_
            refine g_iload_n C (n' := 43) 1 rfl dX5_putRemainder_42 rfl rfl ?_
            refine g_cVn C (n' := 46) (c_X5_putNoNumber l D Y C.2.2.2.2.2.2.2.2.1 q I V N i hi) 1 kw_590 kc_X5_putNoNumber (by decide +kernel) (pm0 _) 0 (ci := 4) rfl rfl rfl rfl ⟨Nat.le_of_ble_eq_true rfl, Nat.le_of_ble_eq_true rfl⟩ ⟨rfl, rfl⟩ ⟨Nat.le_of_ble_eq_true rfl, Nat.le_of_ble_eq_true rfl⟩ (Nat.le_of_ble_eq_true rfl) dX5_putRemainder_43 rfl rfl (wTrace q Y I (sU V i.toNat 0) (sU N i.toNat 1)) (pm0' _) ?_
            refine g_goto C 69 dX5_putRemainder_46 (by decide) ?_
            exact g_vret C hr hlk ⟨rfl, Or.inl ⟨by rintro ⟨-, -, -, g4⟩; omega, rfl⟩⟩ dX5_putRemainder_69
