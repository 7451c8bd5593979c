def p_K_permissions (σ : Mem) (i0 : Nat) : Int32 :=
  ((σ 3 i0) &&& (255 : Int32))
set_option maxHeartbeats 4000000 in
set_option maxRecDepth 100000 in
theorem m_K_permissions {l : Launch} {D : va_G} {a : Nat → Nat} {cA : Nat → ClassId} {B0 : Nat → Prop} {σ : Mem} {i0 : Nat} (h_i0 : i0 < 13) : cI l y_K_permissions (.code y_K_permissions c_K_permissions 1 (some FieldType.int) :: TG) (rmO 0 0) D (cwL a cA) (cty cA) B0 [.ref (a (4 + i0))] σ (p_K_permissions σ i0, σ) := by
  refine cI_of (by decide) (Nat.le_of_ble_eq_true rfl) ?_
  intro p e s m args below meth c Q ls hx hb hF hl hs hret
  have hl : lv_has ls 1 [(0, .ref (a (4 + i0)))] := hl
  refine lv_aload_n hx hb d_K_permissions_0 rfl (lv_at hl 0 rfl) ?_
  refine xg_K hx hb hF hs 1 (by decide) h_i0 k_fl_K_15 rfl d_K_permissions_1 ?_
  refine lv_sipush (v := 255) hx hb d_K_permissions_4 (by decide) ?_
  refine lv_iand hx hb d_K_permissions_7 ?_
  refine hret _ _ _ _ _ _ hs ?_ d_K_permissions_8
  exact pr_eq (rfl)
def p_K_type (σ : Mem) (i0 : Nat) : Int32 :=
  (((((σ 3 i0)).toUInt32 >>> (((8 : Int32)).toUInt32 &&& Int32.toUInt32 31)).toInt32) &&& (15 : Int32))
set_option maxHeartbeats 4000000 in
set_option maxRecDepth 100000 in
theorem m_K_type {l : Launch} {D : va_G} {a : Nat → Nat} {cA : Nat → ClassId} {B0 : Nat → Prop} {σ : Mem} {i0 : Nat} (h_i0 : i0 < 13) : cI l y_K_type (.code y_K_type c_K_type 1 (some FieldType.int) :: TG) (rmO 0 0) D (cwL a cA) (cty cA) B0 [.ref (a (4 + i0))] σ (p_K_type σ i0, σ) := by
  refine cI_of (by decide) (Nat.le_of_ble_eq_true rfl) ?_
  intro p e s m args below meth c Q ls hx hb hF hl hs hret
  have hl : lv_has ls 1 [(0, .ref (a (4 + i0)))] := hl
  refine lv_aload_n hx hb d_K_type_0 rfl (lv_at hl 0 rfl) ?_
  refine xg_K hx hb hF hs 1 (by decide) h_i0 k_fl_K_15 rfl d_K_type_1 ?_
  refine lv_bipush (v := 8) hx hb d_K_type_4 (by decide) ?_
  refine lv_iushr hx hb d_K_type_6 rfl ?_
  refine lv_bipush (v := 15) hx hb d_K_type_7 (by decide) ?_
  refine lv_iand hx hb d_K_type_9 ?_
  refine hret _ _ _ _ _ _ hs ?_ d_K_type_10
  exact pr_eq (rfl)
def p_K_permits (σ : Mem) (i0 : Nat) (n1 : Int32) : Int32 :=
  if ((p_K_permissions σ i0) &&& (n1 : Int32)) = n1 then
    (1 : Int32)
  else
    (0 : Int32)
set_option maxHeartbeats 4000000 in
set_option maxRecDepth 100000 in
theorem m_K_permits {l : Launch} {D : va_G} {a : Nat → Nat} {cA : Nat → ClassId} {B0 : Nat → Prop} {σ : Mem} {i0 : Nat} {n1 : Int32} (h_i0 : i0 < 13) : cI l y_K_permits (.code y_K_permits c_K_permits 2 (some FieldType.boolean) :: TG) (rmO 1 20) D (cwL a cA) (cty cA) B0 [.ref (a (4 + i0)), .int n1] σ (p_K_permits σ i0 n1, σ) := by
  refine cZ_of (by decide) (Nat.le_of_ble_eq_true rfl) ?_
  intro p e s m args below meth c Q ls hx hb hF hl hs hret
  have hl : lv_has ls 2 [(0, .ref (a (4 + i0))), (1, .int n1)] := hl
  refine lv_aload_n hx hb d_K_permits_0 rfl (lv_at hl 0 rfl) ?_
  refine x_Vip hF hs v_K_permissions k_ml_K_28 (m_K_permissions h_i0) rfl rfl ⟨by decide, by decide⟩ rfl rfl hl.1 (Nat.le_of_ble_eq_true rfl) (rK h_i0) d_K_permits_1 ⟨Nat.zero_le _, Nat.zero_le _⟩ (fun H locs hs => ?_)
  refine lv_iload_n hx hb d_K_permits_4 rfl (lv_at hl 1 rfl) ?_
  refine lv_iand hx hb d_K_permits_5 ?_
  refine lv_iload_n hx hb d_K_permits_6 rfl (lv_at hl 1 rfl) ?_
  refine lv_icmp_ne (tgt := 14) hx hb d_K_permits_7 (by decide) (fun h1 => ?_) (fun h1 => ?_)
  · refine lv_iconst (v := 0) hx hb d_K_permits_14 (by decide) ?_
    refine hret _ _ _ _ _ _ hs bo_0 ?_ d_K_permits_15
    exact pr_eq ((if_neg h1).trans rfl)
  · refine lv_iconst (v := 1) hx hb d_K_permits_10 (by decide) ?_
    refine lv_goto (tgt := 15) hx hb d_K_permits_11 (by decide) ?_
    refine hret _ _ _ _ _ _ hs bo_1 ?_ d_K_permits_15
    exact pr_eq ((if_pos h1).trans rfl)
def p_K_isSealed (σ : Mem) (i0 : Nat) : Int32 :=
  if (p_K_type σ i0) = (0 : Int32) then
    (0 : Int32)
  else
    (1 : Int32)
set_option maxHeartbeats 4000000 in
set_option maxRecDepth 100000 in
theorem m_K_isSealed {l : Launch} {D : va_G} {a : Nat → Nat} {cA : Nat → ClassId} {B0 : Nat → Prop} {σ : Mem} {i0 : Nat} (h_i0 : i0 < 13) : cI l y_K_isSealed (.code y_K_isSealed c_K_isSealed 1 (some FieldType.boolean) :: TG) (rmO 1 20) D (cwL a cA) (cty cA) B0 [.ref (a (4 + i0))] σ (p_K_isSealed σ i0, σ) := by
  refine cZ_of (by decide) (Nat.le_of_ble_eq_true rfl) ?_
  intro p e s m args below meth c Q ls hx hb hF hl hs hret
  have hl : lv_has ls 1 [(0, .ref (a (4 + i0)))] := hl
  refine lv_aload_n hx hb d_K_isSealed_0 rfl (lv_at hl 0 rfl) ?_
  refine x_Vip hF hs v_K_type k_ml_K_32 (m_K_type h_i0) rfl rfl ⟨by decide, by decide⟩ rfl rfl hl.1 (Nat.le_of_ble_eq_true rfl) (rK h_i0) d_K_isSealed_1 ⟨Nat.zero_le _, Nat.zero_le _⟩ (fun H locs hs => ?_)
  refine lv_if_eq (tgt := 11) hx hb d_K_isSealed_4 (by decide) (fun h1 => ?_) (fun h1 => ?_)
  · refine lv_iconst (v := 0) hx hb d_K_isSealed_11 (by decide) ?_
    refine hret _ _ _ _ _ _ hs bo_0 ?_ d_K_isSealed_12
    exact pr_eq ((if_pos h1).trans rfl)
  · refine lv_iconst (v := 1) hx hb d_K_isSealed_7 (by decide) ?_
    refine lv_goto (tgt := 12) hx hb d_K_isSealed_8 (by decide) ?_
    refine hret _ _ _ _ _ _ hs bo_1 ?_ d_K_isSealed_12
    exact pr_eq ((if_neg h1).trans rfl)
def p_K_setType (σ : Mem) (i0 : Nat) (n1 : Int32) : Mem :=
  let σ1 : Mem := wr σ 3 i0 (((σ 3 i0) &&& ((-3841) : Int32)) ||| ((n1 <<< ((8 : Int32) &&& 31)) : Int32));
  σ1
set_option maxHeartbeats 4000000 in
set_option maxRecDepth 100000 in
theorem m_K_setType {l : Launch} {D : va_G} {a : Nat → Nat} {cA : Nat → ClassId} {B0 : Nat → Prop} {σ : Mem} {i0 : Nat} {n1 : Int32} (h_i0 : i0 < 13) : cV l y_K_setType (.code y_K_setType c_K_setType 2 (none) :: TG) (rmO 0 0) D (cwL a cA) (cty cA) B0 [.ref (a (4 + i0)), .int n1] σ (p_K_setType σ i0 n1) := by
  refine cV_of (by decide) (Nat.le_of_ble_eq_true rfl) ?_
  intro p e s m args below meth c Q ls hx hb hF hl hs hret
  have hl : lv_has ls 2 [(0, .ref (a (4 + i0))), (1, .int n1)] := hl
  refine lv_aload_n hx hb d_K_setType_0 rfl (lv_at hl 0 rfl) ?_
  refine lv_aload_n hx hb d_K_setType_1 rfl (lv_at hl 0 rfl) ?_
  refine xg_K hx hb hF hs 1 (by decide) h_i0 k_fl_K_15 rfl d_K_setType_2 ?_
  refine lv_sipush (v := (-3841)) hx hb d_K_setType_5 (by decide) ?_
  refine lv_iand hx hb d_K_setType_8 ?_
  refine lv_iload_n hx hb d_K_setType_9 rfl (lv_at hl 1 rfl) ?_
  refine lv_bipush (v := 8) hx hb d_K_setType_10 (by decide) ?_
  refine lv_ishl hx hb d_K_setType_12 ?_
  refine lv_ior hx hb d_K_setType_13 ?_
  refine xp_K3 hx hb hF hs h_i0 k_fl_K_15 d_K_setType_14 (fun H locs hs => ?_)
  refine hret _ _ _ _ _ hs ?_ d_K_setType_17
  exact rfl
def p_K_keepPermissions (σ : Mem) (i0 : Nat) (n1 : Int32) : Mem :=
  let σ1 : Mem := wr σ 3 i0 ((σ 3 i0) &&& ((n1 ||| ((-256) : Int32)) : Int32));
  σ1
set_option maxHeartbeats 4000000 in
set_option maxRecDepth 100000 in
theorem m_K_keepPermissions {l : Launch} {D : va_G} {a : Nat → Nat} {cA : Nat → ClassId} {B0 : Nat → Prop} {σ : Mem} {i0 : Nat} {n1 : Int32} (h_i0 : i0 < 13) : cV l y_K_keepPermissions (.code y_K_keepPermissions c_K_keepPermissions 2 (none) :: TG) (rmO 0 0) D (cwL a cA) (cty cA) B0 [.ref (a (4 + i0)), .int n1] σ (p_K_keepPermissions σ i0 n1) := by
  refine cV_of (by decide) (Nat.le_of_ble_eq_true rfl) ?_
  intro p e s m args below meth c Q ls hx hb hF hl hs hret
  have hl : lv_has ls 2 [(0, .ref (a (4 + i0))), (1, .int n1)] := hl
  refine lv_aload_n hx hb d_K_keepPermissions_0 rfl (lv_at hl 0 rfl) ?_
  refine lv_dup hx hb d_K_keepPermissions_1 rfl ?_
  refine xg_K hx hb hF hs 1 (by decide) h_i0 k_fl_K_15 rfl d_K_keepPermissions_2 ?_
  refine lv_iload_n hx hb d_K_keepPermissions_5 rfl (lv_at hl 1 rfl) ?_
  refine lv_sipush (v := (-256)) hx hb d_K_keepPermissions_6 (by decide) ?_
  refine lv_ior hx hb d_K_keepPermissions_9 ?_
  refine lv_iand hx hb d_K_keepPermissions_10 ?_
  refine xp_K3 hx hb hF hs h_i0 k_fl_K_15 d_K_keepPermissions_11 (fun H locs hs => ?_)
  refine hret _ _ _ _ _ hs ?_ d_K_keepPermissions_14
  exact rfl
def p_K_unitsUp (g1 : Int64) (n2 : Int32) : Int64 :=
  (((g1 + (((1 : Int64) <<< ((n2).toInt64 &&& 63)) : Int64)) - (1 : Int64)) >>> ((n2).toInt64 &&& 63))
set_option maxHeartbeats 4000000 in
set_option maxRecDepth 100000 in
theorem m_K_unitsUp {l : Launch} {D : va_G} {a : Nat → Nat} {cA : Nat → ClassId} {B0 : Nat → Prop} {σ : Mem} {g1 : Int64} {n2 : Int32} : cL l y_K_unitsUp (.code y_K_unitsUp c_K_unitsUp 3 (some FieldType.long) :: TG) (rmO 0 0) D (cwL a cA) (cty cA) B0 [.long g1, .int n2] σ (p_K_unitsUp g1 n2, σ) := by
  refine cL_of (by decide) (Nat.le_of_ble_eq_true rfl) ?_
  intro p e s m args below meth c Q ls hx hb hF hl hs hret
  have hl : lv_has ls 3 [(0, .long g1), (2, .int n2)] := hl
  refine lv_lload_n hx hb d_K_unitsUp_0 rfl (lv_at hl 0 rfl) ?_
  refine lv_lconst (v := 1) hx hb d_K_unitsUp_1 (by decide) ?_
  refine lv_iload_n hx hb d_K_unitsUp_2 rfl (lv_at hl 1 rfl) ?_
  refine lv_lshl hx hb d_K_unitsUp_3 rfl ?_
  refine lv_ladd hx hb d_K_unitsUp_4 ?_
  refine lv_lconst (v := 1) hx hb d_K_unitsUp_5 (by decide) ?_
  refine lv_lsub hx hb d_K_unitsUp_6 ?_
  refine lv_iload_n hx hb d_K_unitsUp_7 rfl (lv_at hl 1 rfl) ?_
  refine lv_lshr hx hb d_K_unitsUp_8 rfl ?_
  refine hret _ _ _ _ _ _ hs ?_ d_K_unitsUp_9
  exact pr_eq (rfl)
def p_K_lowerBound (σ : Mem) (i0 : Nat) : Int64 :=
  (((((((σ 4 i0)).toInt64 &&& (4294967295 : Int64)) >>> (((((((σ 3 i0)).toUInt32 >>> (((12 : Int32)).toUInt32 &&& Int32.toUInt32 31)).toInt32) &&& (31 : Int32))).toInt64 &&& 63)) - ((((((((σ 4 i0)).toInt64 &&& (4294967295 : Int64)) >>> (((((((σ 3 i0)).toUInt32 >>> (((12 : Int32)).toUInt32 &&& Int32.toUInt32 31)).toInt32) &&& (31 : Int32))).toInt64 &&& 63)) - (((((((σ 3 i0)).toUInt32 >>> (((17 : Int32)).toUInt32 &&& Int32.toUInt32 31)).toInt32) &&& (127 : Int32))).toInt64 : Int64)) + (16 : Int64)) &&& (127 : Int64)) : Int64)) + (16 : Int64)) <<< (((((((σ 3 i0)).toUInt32 >>> (((12 : Int32)).toUInt32 &&& Int32.toUInt32 31)).toInt32) &&& (31 : Int32))).toInt64 &&& 63))
set_option maxHeartbeats 4000000 in
set_option maxRecDepth 100000 in
theorem m_K_lowerBound {l : Launch} {D : va_G} {a : Nat → Nat} {cA : Nat → ClassId} {B0 : Nat → Prop} {σ : Mem} {i0 : Nat} (h_i0 : i0 < 13) : cL l y_K_lowerBound (.code y_K_lowerBound c_K_lowerBound 7 (some FieldType.long) :: TG) (rmO 0 0) D (cwL a cA) (cty cA) B0 [.ref (a (4 + i0))] σ (p_K_lowerBound σ i0, σ) := by
  refine cL_of (by decide) (Nat.le_of_ble_eq_true rfl) ?_
  intro p e s m args below meth c Q ls hx hb hF hl hs hret
  have hl : lv_has ls 7 [(0, .ref (a (4 + i0)))] := hl
  refine lv_aload_n hx hb d_K_lowerBound_0 rfl (lv_at hl 0 rfl) ?_
  refine xg_K hx hb hF hs 1 (by decide) h_i0 k_fl_K_15 rfl d_K_lowerBound_1 ?_
  refine lv_bipush (v := 12) hx hb d_K_lowerBound_4 (by decide) ?_
  refine lv_iushr hx hb d_K_lowerBound_6 rfl ?_
  refine lv_bipush (v := 31) hx hb d_K_lowerBound_7 (by decide) ?_
  refine lv_iand hx hb d_K_lowerBound_9 ?_
  refine lv_istore_n (lv' := [(1, _), (0, _)]) hx hb d_K_lowerBound_10 rfl hl (by decide) rfl (fun ls hl => ?_)
  refine lv_aload_n hx hb d_K_lowerBound_11 rfl (lv_at hl 1 rfl) ?_
  refine xg_K hx hb hF hs 1 (by decide) h_i0 k_fl_K_15 rfl d_K_lowerBound_12 ?_
  refine lv_bipush (v := 17) hx hb d_K_lowerBound_15 (by decide) ?_
  refine lv_iushr hx hb d_K_lowerBound_17 rfl ?_
  refine lv_bipush (v := 127) hx hb d_K_lowerBound_18 (by decide) ?_
  refine lv_iand hx hb d_K_lowerBound_20 ?_
  refine lv_istore_n (lv' := [(2, _), (1, _), (0, _)]) hx hb d_K_lowerBound_21 rfl hl (by decide) rfl (fun ls hl => ?_)
  refine lv_aload_n hx hb d_K_lowerBound_22 rfl (lv_at hl 2 rfl) ?_
  refine xg_K hx hb hF hs 2 (by decide) h_i0 k_fl_K_19 rfl d_K_lowerBound_23 ?_
  refine lv_i2l hx hb d_K_lowerBound_26 rfl ?_
  refine x_ldc2 hx hb hF k_cL_K_52 d_K_lowerBound_27 ?_
  refine lv_land hx hb d_K_lowerBound_30 ?_
  refine lv_iload_n hx hb d_K_lowerBound_31 rfl (lv_at hl 1 rfl) ?_
  refine lv_lshr hx hb d_K_lowerBound_32 rfl ?_
  refine lv_lstore_n (lv' := [(3, _), (2, _), (1, _), (0, _)]) hx hb d_K_lowerBound_33 rfl hl (by decide) rfl (fun ls hl => ?_)
  refine lv_lload_n hx hb d_K_lowerBound_34 rfl (lv_at hl 0 rfl) ?_
  refine lv_lload_n hx hb d_K_lowerBound_35 rfl (lv_at hl 0 rfl) ?_
  refine lv_iload_n hx hb d_K_lowerBound_36 rfl (lv_at hl 1 rfl) ?_
  refine lv_i2l hx hb d_K_lowerBound_37 rfl ?_
  refine lv_lsub hx hb d_K_lowerBound_38 ?_
  refine x_ldc2 hx hb hF k_cL_K_54 d_K_lowerBound_39 ?_
  refine lv_ladd hx hb d_K_lowerBound_42 ?_
  refine x_ldc2 hx hb hF k_cL_K_56 d_K_lowerBound_43 ?_
  refine lv_land hx hb d_K_lowerBound_46 ?_
  refine lv_lsub hx hb d_K_lowerBound_47 ?_
  refine lv_lstore (lv' := [(5, _), (3, _), (2, _), (1, _), (0, _)]) hx hb d_K_lowerBound_48 hl (by decide) rfl (fun ls hl => ?_)
  refine lv_lload hx hb d_K_lowerBound_50 (lv_at hl 0 rfl) ?_
  refine x_ldc2 hx hb hF k_cL_K_54 d_K_lowerBound_52 ?_
  refine lv_ladd hx hb d_K_lowerBound_55 ?_
  refine lv_iload_n hx hb d_K_lowerBound_56 rfl (lv_at hl 3 rfl) ?_
  refine lv_lshl hx hb d_K_lowerBound_57 rfl ?_
  refine hret _ _ _ _ _ _ hs ?_ d_K_lowerBound_58
  exact pr_eq (rfl)
def p_K_upperBound (σ : Mem) (i0 : Nat) : Int64 :=
  ((p_K_lowerBound σ i0) + ((((((((((((σ 3 i0)).toUInt32 >>> (((24 : Int32)).toUInt32 &&& Int32.toUInt32 31)).toInt32) &&& (127 : Int32)) - ((((((σ 3 i0)).toUInt32 >>> (((17 : Int32)).toUInt32 &&& Int32.toUInt32 31)).toInt32) &&& (127 : Int32)) : Int32)) + (16 : Int32)) &&& (127 : Int32)) - (16 : Int32))).toInt64 <<< (((((((σ 3 i0)).toUInt32 >>> (((12 : Int32)).toUInt32 &&& Int32.toUInt32 31)).toInt32) &&& (31 : Int32))).toInt64 &&& 63)) : Int64))
set_option maxHeartbeats 4000000 in
set_option maxRecDepth 100000 in
theorem m_K_upperBound {l : Launch} {D : va_G} {a : Nat → Nat} {cA : Nat → ClassId} {B0 : Nat → Prop} {σ : Mem} {i0 : Nat} (h_i0 : i0 < 13) : cL l y_K_upperBound (.code y_K_upperBound c_K_upperBound 6 (some FieldType.long) :: TG) (rmO 1 26) D (cwL a cA) (cty cA) B0 [.ref (a (4 + i0))] σ (p_K_upperBound σ i0, σ) := by
  refine cL_of (by decide) (Nat.le_of_ble_eq_true rfl) ?_
  intro p e s m args below meth c Q ls hx hb hF hl hs hret
  have hl : lv_has ls 6 [(0, .ref (a (4 + i0)))] := hl
  refine lv_aload_n hx hb d_K_upperBound_0 rfl (lv_at hl 0 rfl) ?_
  refine xg_K hx hb hF hs 1 (by decide) h_i0 k_fl_K_15 rfl d_K_upperBound_1 ?_
  refine lv_bipush (v := 12) hx hb d_K_upperBound_4 (by decide) ?_
  refine lv_iushr hx hb d_K_upperBound_6 rfl ?_
  refine lv_bipush (v := 31) hx hb d_K_upperBound_7 (by decide) ?_
  refine lv_iand hx hb d_K_upperBound_9 ?_
  refine lv_istore_n (lv' := [(1, _), (0, _)]) hx hb d_K_upperBound_10 rfl hl (by decide) rfl (fun ls hl => ?_)
  refine lv_aload_n hx hb d_K_upperBound_11 rfl (lv_at hl 1 rfl) ?_
  refine xg_K hx hb hF hs 1 (by decide) h_i0 k_fl_K_15 rfl d_K_upperBound_12 ?_
  refine lv_bipush (v := 17) hx hb d_K_upperBound_15 (by decide) ?_
  refine lv_iushr hx hb d_K_upperBound_17 rfl ?_
  refine lv_bipush (v := 127) hx hb d_K_upperBound_18 (by decide) ?_
  refine lv_iand hx hb d_K_upperBound_20 ?_
  refine lv_istore_n (lv' := [(2, _), (1, _), (0, _)]) hx hb d_K_upperBound_21 rfl hl (by decide) rfl (fun ls hl => ?_)
  refine lv_aload_n hx hb d_K_upperBound_22 rfl (lv_at hl 2 rfl) ?_
  refine xg_K hx hb hF hs 1 (by decide) h_i0 k_fl_K_15 rfl d_K_upperBound_23 ?_
  refine lv_bipush (v := 24) hx hb d_K_upperBound_26 (by decide) ?_
  refine lv_iushr hx hb d_K_upperBound_28 rfl ?_
  refine lv_bipush (v := 127) hx hb d_K_upperBound_29 (by decide) ?_
  refine lv_iand hx hb d_K_upperBound_31 ?_
  refine lv_istore_n (lv' := [(3, _), (2, _), (1, _), (0, _)]) hx hb d_K_upperBound_32 rfl hl (by decide) rfl (fun ls hl => ?_)
  refine lv_iload_n hx hb d_K_upperBound_33 rfl (lv_at hl 0 rfl) ?_
  refine lv_iload_n hx hb d_K_upperBound_34 rfl (lv_at hl 1 rfl) ?_
  refine lv_isub hx hb d_K_upperBound_35 ?_
  refine lv_bipush (v := 16) hx hb d_K_upperBound_36 (by decide) ?_
  refine lv_iadd hx hb d_K_upperBound_38 ?_
  refine lv_bipush (v := 127) hx hb d_K_upperBound_39 (by decide) ?_
  refine lv_iand hx hb d_K_upperBound_41 ?_
  refine lv_bipush (v := 16) hx hb d_K_upperBound_42 (by decide) ?_
  refine lv_isub hx hb d_K_upperBound_44 ?_
  refine lv_i2l hx hb d_K_upperBound_45 rfl ?_
  refine lv_lstore (lv' := [(4, _), (3, _), (2, _), (1, _), (0, _)]) hx hb d_K_upperBound_46 hl (by decide) rfl (fun ls hl => ?_)
  refine lv_aload_n hx hb d_K_upperBound_48 rfl (lv_at hl 4 rfl) ?_
  refine x_Vlp hF hs v_K_lowerBound k_ml_K_35 (m_K_lowerBound h_i0) rfl rfl ⟨by decide, by decide⟩ rfl rfl hl.1 (Nat.le_of_ble_eq_true rfl) (rK h_i0) d_K_upperBound_49 ⟨Nat.zero_le _, Nat.zero_le _⟩ (fun H locs hs => ?_)
  refine lv_lload hx hb d_K_upperBound_52 (lv_at hl 0 rfl) ?_
  refine lv_iload_n hx hb d_K_upperBound_54 rfl (lv_at hl 3 rfl) ?_
  refine lv_lshl hx hb d_K_upperBound_55 rfl ?_
  refine lv_ladd hx hb d_K_upperBound_56 ?_
  refine hret _ _ _ _ _ _ hs ?_ d_K_upperBound_57
  exact pr_eq (rfl)
def p_K_copy (σ : Mem) (i0 : Nat) (i1 : Nat) : Mem :=
  let σ1 : Mem := wr σ 2 i0 (bo (σ 2 i1));
  let σ2 : Mem := wr σ1 3 i0 (σ1 3 i1);
  let σ3 : Mem := wr σ2 4 i0 (σ2 4 i1);
  σ3
set_option maxHeartbeats 4000000 in
set_option maxRecDepth 100000 in
theorem m_K_copy {l : Launch} {D : va_G} {a : Nat → Nat} {cA : Nat → ClassId} {B0 : Nat → Prop} {σ : Mem} {i0 : Nat} {i1 : Nat} (h_i0 : i0 < 13) (h_i1 : i1 < 13) : cV l y_K_copy (.code y_K_copy c_K_copy 2 (none) :: TG) (rmO 0 0) D (cwL a cA) (cty cA) B0 [.ref (a (4 + i0)), .ref (a (4 + i1))] σ (p_K_copy σ i0 i1) := by
  refine cV_of (by decide) (Nat.le_of_ble_eq_true rfl) ?_
  intro p e s m args below meth c Q ls hx hb hF hl hs hret
  have hl : lv_has ls 2 [(0, .ref (a (4 + i0))), (1, .ref (a (4 + i1)))] := hl
  refine lv_aload_n hx hb d_K_copy_0 rfl (lv_at hl 0 rfl) ?_
  refine lv_aload_n hx hb d_K_copy_1 rfl (lv_at hl 1 rfl) ?_
  refine xg_K hx hb hF hs 0 (by decide) h_i1 k_fl_K_11 rfl d_K_copy_2 ?_
  refine xp_K2 hx hb hF hs h_i0 k_fl_K_11 (bo_bo _) d_K_copy_5 (fun H locs hs => ?_)
  refine lv_aload_n hx hb d_K_copy_8 rfl (lv_at hl 0 rfl) ?_
  refine lv_aload_n hx hb d_K_copy_9 rfl (lv_at hl 1 rfl) ?_
  refine xg_K hx hb hF hs 1 (by decide) h_i1 k_fl_K_15 rfl d_K_copy_10 ?_
  refine xp_K3 hx hb hF hs h_i0 k_fl_K_15 d_K_copy_13 (fun H locs hs => ?_)
  refine lv_aload_n hx hb d_K_copy_16 rfl (lv_at hl 0 rfl) ?_
  refine lv_aload_n hx hb d_K_copy_17 rfl (lv_at hl 1 rfl) ?_
  refine xg_K hx hb hF hs 2 (by decide) h_i1 k_fl_K_19 rfl d_K_copy_18 ?_
  refine xp_K4 hx hb hF hs h_i0 k_fl_K_19 d_K_copy_21 (fun H locs hs => ?_)
  refine hret _ _ _ _ _ hs ?_ d_K_copy_24
  exact rfl
def p_K_becomeNumber (σ : Mem) (i0 : Nat) (n1 : Int32) : Mem :=
  let σ1 : Mem := wr σ 2 i0 (0 : Int32);
  let σ2 : Mem := wr σ1 3 i0 (0 : Int32);
  let σ3 : Mem := wr σ2 4 i0 n1;
  σ3
set_option maxHeartbeats 4000000 in
set_option maxRecDepth 100000 in
theorem m_K_becomeNumber {l : Launch} {D : va_G} {a : Nat → Nat} {cA : Nat → ClassId} {B0 : Nat → Prop} {σ : Mem} {i0 : Nat} {n1 : Int32} (h_i0 : i0 < 13) : cV l y_K_becomeNumber (.code y_K_becomeNumber c_K_becomeNumber 2 (none) :: TG) (rmO 0 0) D (cwL a cA) (cty cA) B0 [.ref (a (4 + i0)), .int n1] σ (p_K_becomeNumber σ i0 n1) := by
  refine cV_of (by decide) (Nat.le_of_ble_eq_true rfl) ?_
  intro p e s m args below meth c Q ls hx hb hF hl hs hret
  have hl : lv_has ls 2 [(0, .ref (a (4 + i0))), (1, .int n1)] := hl
  refine lv_aload_n hx hb d_K_becomeNumber_0 rfl (lv_at hl 0 rfl) ?_
  refine lv_iconst (v := 0) hx hb d_K_becomeNumber_1 (by decide) ?_
  refine xp_K2 hx hb hF hs h_i0 k_fl_K_11 bo_0 d_K_becomeNumber_2 (fun H locs hs => ?_)
  refine lv_aload_n hx hb d_K_becomeNumber_5 rfl (lv_at hl 0 rfl) ?_
  refine lv_iconst (v := 0) hx hb d_K_becomeNumber_6 (by decide) ?_
  refine xp_K3 hx hb hF hs h_i0 k_fl_K_15 d_K_becomeNumber_7 (fun H locs hs => ?_)
  refine lv_aload_n hx hb d_K_becomeNumber_10 rfl (lv_at hl 0 rfl) ?_
  refine lv_iload_n hx hb d_K_becomeNumber_11 rfl (lv_at hl 1 rfl) ?_
  refine xp_K4 hx hb hF hs h_i0 k_fl_K_19 d_K_becomeNumber_12 (fun H locs hs => ?_)
  refine hret _ _ _ _ _ hs ?_ d_K_becomeNumber_15
  exact rfl
def p_K_move (σ : Mem) (i0 : Nat) (n1 : Int32) : Mem :=
  let σ1 : Mem := wr σ 4 i0 n1;
  if (p_K_isSealed σ1 i0) = (0 : Int32) then
    if (lg_cmp (p_K_lowerBound σ1 i0) (p_K_lowerBound σ i0)) = (0 : Int32) then
      if (lg_cmp (p_K_upperBound σ1 i0) (p_K_upperBound σ i0)) = (0 : Int32) then
        σ1
      else
        let σ4 : Mem := wr σ1 2 i0 (0 : Int32);
        σ4
    else
      let σ3 : Mem := wr σ1 2 i0 (0 : Int32);
      σ3
  else
    let σ2 : Mem := wr σ1 2 i0 (0 : Int32);
    σ2
set_option maxHeartbeats 4000000 in
set_option maxRecDepth 100000 in
theorem m_K_move {l : Launch} {D : va_G} {a : Nat → Nat} {cA : Nat → ClassId} {B0 : Nat → Prop} {σ : Mem} {i0 : Nat} {n1 : Int32} (h_i0 : i0 < 13) : cV l y_K_move (.code y_K_move c_K_move 6 (none) :: TG) (rmO 2 51) D (cwL a cA) (cty cA) B0 [.ref (a (4 + i0)), .int n1] σ (p_K_move σ i0 n1) := by
  refine cV_of (by decide) (Nat.le_of_ble_eq_true rfl) ?_
  intro p e s m args below meth c Q ls hx hb hF hl hs hret
  have hl : lv_has ls 6 [(0, .ref (a (4 + i0))), (1, .int n1)] := hl
  refine lv_aload_n hx hb d_K_move_0 rfl (lv_at hl 0 rfl) ?_
  refine x_Vlp hF hs v_K_lowerBound k_ml_K_35 (m_K_lowerBound h_i0) rfl rfl ⟨by decide, by decide⟩ rfl rfl hl.1 (Nat.le_of_ble_eq_true rfl) (rK h_i0) d_K_move_1 ⟨Nat.zero_le _, Nat.zero_le _⟩ (fun H locs hs => ?_)
  refine lv_lstore_n (lv' := [(2, _), (0, _), (1, _)]) hx hb d_K_move_4 rfl hl (by decide) rfl (fun ls hl => ?_)
  refine lv_aload_n hx hb d_K_move_5 rfl (lv_at hl 1 rfl) ?_
  refine x_Vlp hF hs v_K_upperBound k_ml_K_39 (m_K_upperBound h_i0) rfl rfl ⟨by decide, by decide⟩ rfl rfl hl.1 (Nat.le_of_ble_eq_true rfl) (rK h_i0) d_K_move_6 ⟨Nat.zero_le _, Nat.zero_le _⟩ (fun H locs hs => ?_)
  refine lv_lstore (lv' := [(4, _), (2, _), (0, _), (1, _)]) hx hb d_K_move_9 hl (by decide) rfl (fun ls hl => ?_)
  refine lv_aload_n hx hb d_K_move_11 rfl (lv_at hl 2 rfl) ?_
  refine lv_iload_n hx hb d_K_move_12 rfl (lv_at hl 3 rfl) ?_
  refine xp_K4 hx hb hF hs h_i0 k_fl_K_19 d_K_move_13 (fun H locs hs => ?_)
  refine lv_aload_n hx hb d_K_move_16 rfl (lv_at hl 2 rfl) ?_
  refine x_Vip hF hs v_K_isSealed k_ml_K_42 (m_K_isSealed h_i0) rfl rfl ⟨by decide, by decide⟩ rfl rfl hl.1 (Nat.le_of_ble_eq_true rfl) (rK h_i0) d_K_move_17 ⟨Nat.zero_le _, Nat.zero_le _⟩ (fun H locs hs => ?_)
  refine lv_if_ne (tgt := 42) hx hb d_K_move_20 (by decide) (fun h1 => ?_) (fun h1 => ?_)
  · refine lv_aload_n hx hb d_K_move_42 rfl (lv_at hl 2 rfl) ?_
    refine lv_iconst (v := 0) hx hb d_K_move_43 (by decide) ?_
    refine xp_K2 hx hb hF hs h_i0 k_fl_K_11 bo_0 d_K_move_44 (fun H locs hs => ?_)
    refine hret _ _ _ _ _ hs ?_ d_K_move_47
    exact (if_neg h1).trans rfl
  · refine lv_aload_n hx hb d_K_move_23 rfl (lv_at hl 2 rfl) ?_
    refine x_Vlp hF hs v_K_lowerBound k_ml_K_35 (m_K_lowerBound h_i0) rfl rfl ⟨by decide, by decide⟩ rfl rfl hl.1 (Nat.le_of_ble_eq_true rfl) (rK h_i0) d_K_move_24 ⟨Nat.zero_le _, Nat.zero_le _⟩ (fun H locs hs => ?_)
    refine lv_lload_n hx hb d_K_move_27 rfl (lv_at hl 1 rfl) ?_
    refine W.lcmp hx hb d_K_move_28 ?_
    refine lv_if_ne (tgt := 42) hx hb d_K_move_29 (by decide) (fun h2 => ?_) (fun h2 => ?_)
    · refine lv_aload_n hx hb d_K_move_42 rfl (lv_at hl 2 rfl) ?_
      refine lv_iconst (v := 0) hx hb d_K_move_43 (by decide) ?_
      refine xp_K2 hx hb hF hs h_i0 k_fl_K_11 bo_0 d_K_move_44 (fun H locs hs => ?_)
      refine hret _ _ _ _ _ hs ?_ d_K_move_47
      exact (if_pos h1).trans ((if_neg h2).trans rfl)
    · refine lv_aload_n hx hb d_K_move_32 rfl (lv_at hl 2 rfl) ?_
      refine x_Vlp hF hs v_K_upperBound k_ml_K_39 (m_K_upperBound h_i0) rfl rfl ⟨by decide, by decide⟩ rfl rfl hl.1 (Nat.le_of_ble_eq_true rfl) (rK h_i0) d_K_move_33 ⟨Nat.zero_le _, Nat.zero_le _⟩ (fun H locs hs => ?_)
      refine lv_lload hx hb d_K_move_36 (lv_at hl 0 rfl) ?_
      refine W.lcmp hx hb d_K_move_38 ?_
      refine lv_if_eq (tgt := 47) hx hb d_K_move_39 (by decide) (fun h3 => ?_) (fun h3 => ?_)
      · refine hret _ _ _ _ _ hs ?_ d_K_move_47
        exact (if_pos h1).trans ((if_pos h2).trans ((if_pos h3).trans rfl))
      · refine lv_aload_n hx hb d_K_move_42 rfl (lv_at hl 2 rfl) ?_
        refine lv_iconst (v := 0) hx hb d_K_move_43 (by decide) ?_
        refine xp_K2 hx hb hF hs h_i0 k_fl_K_11 bo_0 d_K_move_44 (fun H locs hs => ?_)
        refine hret _ _ _ _ _ hs ?_ d_K_move_47
        exact (if_pos h1).trans ((if_pos h2).trans ((if_neg h3).trans rfl))
