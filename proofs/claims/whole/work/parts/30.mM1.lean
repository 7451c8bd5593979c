def p_M_type (n1 : Int32) : Int32 :=
  ((n1 >>> ((8 : Int32) &&& 31)) &&& (15 : Int32))
set_option maxHeartbeats 4000000 in
set_option maxRecDepth 100000 in
theorem m_M_type {l : Launch} {D : va_G} {a : Nat → Nat} {cA : Nat → ClassId} {B0 : Nat → Prop} {σ : Mem} {n1 : Int32} : cI l y_M_type (.code y_M_type c_M_type 1 (some FieldType.int) :: TG) (rmO 0 0) D (rwL a cA) (rty cA) B0 [.int n1] σ (p_M_type n1, σ) := by
  refine cI_of (by decide) (Nat.le_of_ble_eq_true rfl) ?_
  intro p e s m args below meth c Q ls hx hb hF hl hs hret
  have hl : lv_has ls 1 [(0, .int n1)] := hl
  refine lv_iload_n hx hb d_M_type_0 rfl (lv_at hl 0 rfl) ?_
  refine lv_bipush (v := 8) hx hb d_M_type_1 (by decide) ?_
  refine lv_ishr hx hb d_M_type_3 ?_
  refine lv_bipush (v := 15) hx hb d_M_type_4 (by decide) ?_
  refine lv_iand hx hb d_M_type_6 ?_
  refine hret _ _ _ _ _ _ hs ?_ d_M_type_7
  exact pr_eq (rfl)
def p_M_unit (n1 : Int32) : Int64 :=
  ((1 : Int64) <<< ((((n1 >>> ((12 : Int32) &&& 31)) &&& (31 : Int32))).toInt64 &&& 63))
set_option maxHeartbeats 4000000 in
set_option maxRecDepth 100000 in
theorem m_M_unit {l : Launch} {D : va_G} {a : Nat → Nat} {cA : Nat → ClassId} {B0 : Nat → Prop} {σ : Mem} {n1 : Int32} : cL l y_M_unit (.code y_M_unit c_M_unit 1 (some FieldType.long) :: TG) (rmO 0 0) D (rwL a cA) (rty cA) B0 [.int n1] σ (p_M_unit n1, σ) := by
  refine cL_of (by decide) (Nat.le_of_ble_eq_true rfl) ?_
  intro p e s m args below meth c Q ls hx hb hF hl hs hret
  have hl : lv_has ls 1 [(0, .int n1)] := hl
  refine lv_lconst (v := 1) hx hb d_M_unit_0 (by decide) ?_
  refine lv_iload_n hx hb d_M_unit_1 rfl (lv_at hl 0 rfl) ?_
  refine lv_bipush (v := 12) hx hb d_M_unit_2 (by decide) ?_
  refine lv_ishr hx hb d_M_unit_4 ?_
  refine lv_bipush (v := 31) hx hb d_M_unit_5 (by decide) ?_
  refine lv_iand hx hb d_M_unit_7 ?_
  refine lv_lshl hx hb d_M_unit_8 rfl ?_
  refine hret _ _ _ _ _ _ hs ?_ d_M_unit_9
  exact pr_eq (rfl)
def p_M_unsigned (n1 : Int32) : Int64 :=
  if (0 : Int32) ≤ n1 then
    (n1).toInt64
  else
    ((n1).toInt64 + (4294967296 : Int64))
set_option maxHeartbeats 4000000 in
set_option maxRecDepth 100000 in
theorem m_M_unsigned {l : Launch} {D : va_G} {a : Nat → Nat} {cA : Nat → ClassId} {B0 : Nat → Prop} {σ : Mem} {n1 : Int32} : cL l y_M_unsigned (.code y_M_unsigned c_M_unsigned 1 (some FieldType.long) :: TG) (rmO 0 0) D (rwL a cA) (rty cA) B0 [.int n1] σ (p_M_unsigned n1, σ) := by
  refine cL_of (by decide) (Nat.le_of_ble_eq_true rfl) ?_
  intro p e s m args below meth c Q ls hx hb hF hl hs hret
  have hl : lv_has ls 1 [(0, .int n1)] := hl
  refine lv_iload_n hx hb d_M_unsigned_0 rfl (lv_at hl 0 rfl) ?_
  refine lv_if_ge (tgt := 13) hx hb d_M_unsigned_1 (by decide) (fun h1 => ?_) (fun h1 => ?_)
  · refine lv_iload_n hx hb d_M_unsigned_13 rfl (lv_at hl 0 rfl) ?_
    refine lv_i2l hx hb d_M_unsigned_14 rfl ?_
    refine hret _ _ _ _ _ _ hs ?_ d_M_unsigned_15
    exact pr_eq ((if_pos h1).trans rfl)
  · refine lv_iload_n hx hb d_M_unsigned_4 rfl (lv_at hl 0 rfl) ?_
    refine lv_i2l hx hb d_M_unsigned_5 rfl ?_
    refine x_ldc2 hx hb hF k_cL_M_36 d_M_unsigned_6 ?_
    refine lv_ladd hx hb d_M_unsigned_9 ?_
    refine lv_goto (tgt := 15) hx hb d_M_unsigned_10 (by decide) ?_
    refine hret _ _ _ _ _ _ hs ?_ d_M_unsigned_15
    exact pr_eq ((if_neg h1).trans rfl)
def p_M_rest (g1 : Int64) (g2 : Int64) : Int64 :=
  if (0 : Int32) ≤ (lg_cmp (g1 - g1 / g2 * g2) (0 : Int64)) then
    (g1 - g1 / g2 * g2)
  else
    ((g1 - g1 / g2 * g2) + (g2 : Int64))
set_option maxHeartbeats 4000000 in
set_option maxRecDepth 100000 in
theorem m_M_rest {l : Launch} {D : va_G} {a : Nat → Nat} {cA : Nat → ClassId} {B0 : Nat → Prop} {σ : Mem} {g1 : Int64} {g2 : Int64} (h_g2 : ¬ g2 = 0) : cL l y_M_rest (.code y_M_rest c_M_rest 6 (some FieldType.long) :: TG) (rmO 0 0) D (rwL a cA) (rty cA) B0 [.long g1, .long g2] σ (p_M_rest g1 g2, σ) := by
  refine cL_of (by decide) (Nat.le_of_ble_eq_true rfl) ?_
  intro p e s m args below meth c Q ls hx hb hF hl hs hret
  have hl : lv_has ls 6 [(0, .long g1), (2, .long g2)] := hl
  refine lv_lload_n hx hb d_M_rest_0 rfl (lv_at hl 0 rfl) ?_
  refine lv_lload_n hx hb d_M_rest_1 rfl (lv_at hl 1 rfl) ?_
  refine lv_lrem hx hb d_M_rest_2 h_g2 ?_
  refine lv_lstore (lv' := [(4, _), (0, _), (2, _)]) hx hb d_M_rest_3 hl (by decide) rfl (fun ls hl => ?_)
  refine lv_lload hx hb d_M_rest_5 (lv_at hl 0 rfl) ?_
  refine lv_lconst (v := 0) hx hb d_M_rest_7 (by decide) ?_
  refine W.lcmp hx hb d_M_rest_8 ?_
  refine lv_if_ge (tgt := 19) hx hb d_M_rest_9 (by decide) (fun h1 => ?_) (fun h1 => ?_)
  · refine lv_lload hx hb d_M_rest_19 (lv_at hl 0 rfl) ?_
    refine hret _ _ _ _ _ _ hs ?_ d_M_rest_21
    exact pr_eq ((if_pos h1).trans rfl)
  · refine lv_lload hx hb d_M_rest_12 (lv_at hl 0 rfl) ?_
    refine lv_lload_n hx hb d_M_rest_14 rfl (lv_at hl 2 rfl) ?_
    refine lv_ladd hx hb d_M_rest_15 ?_
    refine lv_goto (tgt := 21) hx hb d_M_rest_16 (by decide) ?_
    refine hret _ _ _ _ _ _ hs ?_ d_M_rest_21
    exact pr_eq ((if_neg h1).trans rfl)
