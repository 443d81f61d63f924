/-! the reference: traces -/
def dcV (op : CmpOp) (x y : UInt64) : Int := (Op.cmpValue (FP.dcmp x y) op).toInt
theorem dcV_e (op : CmpOp) (x y : UInt64) : Op.cmpValue (FP.dcmp x y) op = iI (dcV op x y) := iI_of _
theorem dcV_r (op : CmpOp) (x y : UInt64) : -2147483648 ≤ dcV op x y ∧ dcV op x y < 2147483648 := by
  have h1 := Int32.toInt_lt (Op.cmpValue (FP.dcmp x y) op)
  have h2 := Int32.le_toInt (Op.cmpValue (FP.dcmp x y) op)
  unfold dcV
  omega
def d2V (x : UInt64) : Int := (FP.d2i x).toInt
theorem d2V_e (x : UInt64) : FP.d2i x = iI (d2V x) := iI_of _
def m_cut (v : UInt64) : Int := if dcV .l v v ≠ 0 then 2000000 else if 0 ≤ dcV .l v 4696837146684686336 then 3000000 else if dcV .g v 13920209183539462144 ≤ 0 then 1000000 else d2V v + 2000000
set_option maxRecDepth 100000 in
set_option maxHeartbeats 4000000 in
theorem c_X8_cut (l : Launch) (D : va_G) (Y : Nat → ClassId) {E : (Nat → Prop) → State → Heap → Prop} (hE : g_Stab E) (v : UInt64) : g_Ct l yX8_cut cX8_cut 2 (some FieldType.int) ({ frames := 0, cells := 0, slots := 0, locals := 0 } : Room) D (tysY Y) E [.double v] [] 0 0 (g_det (some (.int (iI (m_cut v)))) []) := by
  refine g_ofG (own := RX8) hE (by decide) rfl (Nat.le_of_ble_eq_true rfl) [(0, .double v)] rfl ?_
  intro p9 e9 s9 m9 b9 t9 c9 A9 C hr hlk hnm
  refine g_dload_n C (n' := 1) 0 rfl dX8_cut_0 rfl rfl ?_
  refine g_dload_n C (n' := 2) 0 rfl dX8_cut_1 rfl rfl ?_
  refine g_dcmp C (n' := 3) (dcV .l v v) (dcV_e _ _ _) dX8_cut_2 rfl ?_
  have h_2 := dcV_r .l v v
  refine g_if_eq C (n' := 6) 11 dX8_cut_3 (by decide) rfl (by unfold inR; omega) (fun c1 => ?_) (fun c1 => ?_)
  · skip
    refine g_dload_n C (n' := 12) 0 rfl dX8_cut_11 rfl rfl ?_
    refine g_ldc2d C (n' := 15) kw_1012 dX8_cut_12 rfl ?_
    refine g_dcmp C (n' := 16) (dcV .l v 4696837146684686336) (dcV_e _ _ _) dX8_cut_15 rfl ?_
    have h_15 := dcV_r .l v 4696837146684686336
    refine g_if_lt C (n' := 19) 24 dX8_cut_16 (by decide) rfl (by unfold inR; omega) (fun c2 => ?_) (fun c2 => ?_)
    · skip
      refine g_dload_n C (n' := 25) 0 rfl dX8_cut_24 rfl rfl ?_
      refine g_ldc2d C (n' := 28) kw_1014 dX8_cut_25 rfl ?_
      refine g_dcmp C (n' := 29) (dcV .g v 13920209183539462144) (dcV_e _ _ _) dX8_cut_28 rfl ?_
      have h_28 := dcV_r .g v 13920209183539462144
      refine g_if_gt C (n' := 32) 37 dX8_cut_29 (by decide) rfl (by unfold inR; omega) (fun c3 => ?_) (fun c3 => ?_)
      · skip
        refine g_dload_n C (n' := 38) 0 rfl dX8_cut_37 rfl rfl ?_
        refine g_d2i C (n' := 39) (d2V v) (d2V_e _) dX8_cut_38 rfl ?_
        refine g_ldc C (n' := 41) 2000000 (by decide) kw_1011 dX8_cut_39 rfl ?_
        refine g_iadd C (n' := 42) dX8_cut_41 rfl ?_
        refine g_iret C hr hlk rfl ⟨congrArg (fun z : Int => some (Value.int (iI z))) ?_, ?_⟩ dX8_cut_42
        · first | rfl | (unfold m_cut; (repeat' split) <;> first | rfl | omega)
        · first | rfl | (unfold m_cut; (repeat' split) <;> first | rfl | omega)
      · skip
        refine g_ldc C (n' := 34) 1000000 (by decide) kw_1015 dX8_cut_32 rfl ?_
        refine g_goto C 42 dX8_cut_34 (by decide) ?_
        refine g_iret C hr hlk rfl ⟨congrArg (fun z : Int => some (Value.int (iI z))) ?_, ?_⟩ dX8_cut_42
        · first | rfl | (unfold m_cut; (repeat' split) <;> first | rfl | omega)
        · first | rfl | (unfold m_cut; (repeat' split) <;> first | rfl | omega)
    · skip
      refine g_ldc C (n' := 21) 3000000 (by decide) kw_1013 dX8_cut_19 rfl ?_
      refine g_goto C 42 dX8_cut_21 (by decide) ?_
      refine g_iret C hr hlk rfl ⟨congrArg (fun z : Int => some (Value.int (iI z))) ?_, ?_⟩ dX8_cut_42
      · first | rfl | (unfold m_cut; (repeat' split) <;> first | rfl | omega)
      · first | rfl | (unfold m_cut; (repeat' split) <;> first | rfl | omega)
  · skip
    refine g_ldc C (n' := 8) 2000000 (by decide) kw_1011 dX8_cut_6 rfl ?_
    refine g_goto C 42 dX8_cut_8 (by decide) ?_
    refine g_iret C hr hlk rfl ⟨congrArg (fun z : Int => some (Value.int (iI z))) ?_, ?_⟩ dX8_cut_42
    · first | rfl | (unfold m_cut; (repeat' split) <;> first | rfl | omega)
    · first | rfl | (unfold m_cut; (repeat' split) <;> first | rfl | omega)
