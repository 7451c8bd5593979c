def p_X_load (σ : Mem) (n1 : Int32) (n2 : Int32) (n3 : Int32) : Int32 × Mem :=
  if (p_X_check σ n2 (2 : Int32) (4 : Int32) ((σ 4 (n2.toNatClampNeg)) + (n3 : Int32))) = (0 : Int32) then
    let σ1 : Mem := p_X_writeNumber σ n1 (σ 0 ((((((σ 4 (n2.toNatClampNeg)) + (n3 : Int32))).toUInt32 >>> (((2 : Int32)).toUInt32 &&& Int32.toUInt32 31)).toInt32) : Int32).toNatClampNeg);
    ((p_X_check σ n2 (2 : Int32) (4 : Int32) ((σ 4 (n2.toNatClampNeg)) + (n3 : Int32))), σ1)
  else
    ((p_X_check σ n2 (2 : Int32) (4 : Int32) ((σ 4 (n2.toNatClampNeg)) + (n3 : Int32))), σ)
set_option maxHeartbeats 4000000 in
set_option maxRecDepth 100000 in
theorem m_X_load {l : Launch} {D : va_G} {a : Nat → Nat} {cA : Nat → ClassId} {B0 : Nat → Prop} {σ : Mem} {n1 : Int32} {n2 : Int32} {n3 : Int32} (h_n1 : vp_in n1 12) (h_n2 : vp_in n2 12) : cI l y_X_load (.code y_X_load c_X_load 6 (some FieldType.int) :: TG) (rmO 3 78) D (cwL a cA) (cty cA) B0 [.ref (a 0), .int n1, .int n2, .int n3] σ (p_X_load σ n1 n2 n3) := by
  refine cI_of (by decide) (Nat.le_of_ble_eq_true rfl) ?_
  intro p e s m args below meth c Q ls hx hb hF hl hs hret
  have hl : lv_has ls 6 [(0, .ref (a 0)), (1, .int n1), (2, .int n2), (3, .int n3)] := hl
  refine lv_aload_n hx hb d_X_load_0 rfl (lv_at hl 0 rfl) ?_
  refine xg_X hx hb hF hs 2 (by decide) k_fl_X_19 rfl d_X_load_1 ?_
  refine lv_iload_n hx hb d_X_load_4 rfl (lv_at hl 2 rfl) ?_
  refine xr_ld hx hb hF hs h_n2 d_X_load_5 ?_
  refine xg_N4 hx hb hF hs (in13 h_n2) d_X_load_6 ?_
  refine lv_iload_n hx hb d_X_load_9 rfl (lv_at hl 3 rfl) ?_
  refine lv_iadd hx hb d_X_load_10 ?_
  refine lv_istore (lv' := [(4, _), (0, _), (1, _), (2, _), (3, _)]) hx hb d_X_load_11 hl (by decide) rfl (fun ls hl => ?_)
  refine lv_aload_n hx hb d_X_load_13 rfl (lv_at hl 1 rfl) ?_
  refine lv_iload_n hx hb d_X_load_14 rfl (lv_at hl 3 rfl) ?_
  refine lv_iconst (v := 2) hx hb d_X_load_15 (by decide) ?_
  refine lv_iconst (v := 4) hx hb d_X_load_16 (by decide) ?_
  refine lv_iload hx hb d_X_load_17 (lv_at hl 0 rfl) ?_
  refine x_Vip hF hs v_X_check k_ml_X_82 (m_X_check h_n2) rfl rfl ⟨by decide, by decide⟩ rfl rfl hl.1 (Nat.le_of_ble_eq_true rfl) rX d_X_load_19 ⟨Nat.zero_le _, Nat.zero_le _⟩ (fun H locs hs => ?_)
  refine lv_istore (lv' := [(5, _), (4, _), (0, _), (1, _), (2, _), (3, _)]) hx hb d_X_load_22 hl (by decide) rfl (fun ls hl => ?_)
  refine lv_iload hx hb d_X_load_24 (lv_at hl 0 rfl) ?_
  refine lv_if_ne (tgt := 43) hx hb d_X_load_26 (by decide) (fun h1 => ?_) (fun h1 => ?_)
  · refine lv_iload hx hb d_X_load_43 (lv_at hl 0 rfl) ?_
    refine hret _ _ _ _ _ _ hs ?_ d_X_load_45
    exact (if_neg h1).trans rfl
  · refine lv_aload_n hx hb d_X_load_29 rfl (lv_at hl 2 rfl) ?_
    refine lv_iload_n hx hb d_X_load_30 rfl (lv_at hl 3 rfl) ?_
    refine lv_aload_n hx hb d_X_load_31 rfl (lv_at hl 2 rfl) ?_
    refine xg_X hx hb hF hs 0 (by decide) k_fl_X_9 rfl d_X_load_32 ?_
    refine lv_iload hx hb d_X_load_35 (lv_at hl 1 rfl) ?_
    refine lv_iconst (v := 2) hx hb d_X_load_37 (by decide) ?_
    refine lv_iushr hx hb d_X_load_38 rfl ?_
    refine xw_ld hx hb hF hs (ix_c4 h1) d_X_load_39 ?_
    refine x_Vv hF hs v_X_writeNumber k_ml_X_79 (m_X_writeNumber h_n1) rfl rfl ⟨by decide, by decide⟩ rfl rfl hl.1 (Nat.le_of_ble_eq_true rfl) rX d_X_load_40 ⟨Nat.zero_le _, Nat.zero_le _⟩ (fun H locs hs => ?_)
    refine lv_iload hx hb d_X_load_43 (lv_at hl 0 rfl) ?_
    refine hret _ _ _ _ _ _ hs ?_ d_X_load_45
    exact (if_pos h1).trans rfl
def p_X_store (σ : Mem) (n1 : Int32) (n2 : Int32) (n3 : Int32) : Int32 × Mem :=
  if (p_X_check σ n1 (4 : Int32) (4 : Int32) ((σ 4 (n1.toNatClampNeg)) + (n3 : Int32))) = (0 : Int32) then
    let σ1 : Mem := p_X_writeWord σ (((((σ 4 (n1.toNatClampNeg)) + (n3 : Int32))).toUInt32 >>> (((2 : Int32)).toUInt32 &&& Int32.toUInt32 31)).toInt32) (σ 4 (n2.toNatClampNeg));
    ((p_X_check σ n1 (4 : Int32) (4 : Int32) ((σ 4 (n1.toNatClampNeg)) + (n3 : Int32))), σ1)
  else
    ((p_X_check σ n1 (4 : Int32) (4 : Int32) ((σ 4 (n1.toNatClampNeg)) + (n3 : Int32))), σ)
set_option maxHeartbeats 4000000 in
set_option maxRecDepth 100000 in
theorem m_X_store {l : Launch} {D : va_G} {a : Nat → Nat} {cA : Nat → ClassId} {B0 : Nat → Prop} {σ : Mem} {n1 : Int32} {n2 : Int32} {n3 : Int32} (h_n1 : vp_in n1 12) (h_n2 : vp_in n2 12) : cI l y_X_store (.code y_X_store c_X_store 6 (some FieldType.int) :: TG) (rmO 3 78) D (cwL a cA) (cty cA) B0 [.ref (a 0), .int n1, .int n2, .int n3] σ (p_X_store σ n1 n2 n3) := by
  refine cI_of (by decide) (Nat.le_of_ble_eq_true rfl) ?_
  intro p e s m args below meth c Q ls hx hb hF hl hs hret
  have hl : lv_has ls 6 [(0, .ref (a 0)), (1, .int n1), (2, .int n2), (3, .int n3)] := hl
  refine lv_aload_n hx hb d_X_store_0 rfl (lv_at hl 0 rfl) ?_
  refine xg_X hx hb hF hs 2 (by decide) k_fl_X_19 rfl d_X_store_1 ?_
  refine lv_iload_n hx hb d_X_store_4 rfl (lv_at hl 1 rfl) ?_
  refine xr_ld hx hb hF hs h_n1 d_X_store_5 ?_
  refine xg_N4 hx hb hF hs (in13 h_n1) d_X_store_6 ?_
  refine lv_iload_n hx hb d_X_store_9 rfl (lv_at hl 3 rfl) ?_
  refine lv_iadd hx hb d_X_store_10 ?_
  refine lv_istore (lv' := [(4, _), (0, _), (1, _), (2, _), (3, _)]) hx hb d_X_store_11 hl (by decide) rfl (fun ls hl => ?_)
  refine lv_aload_n hx hb d_X_store_13 rfl (lv_at hl 1 rfl) ?_
  refine lv_iload_n hx hb d_X_store_14 rfl (lv_at hl 2 rfl) ?_
  refine lv_iconst (v := 4) hx hb d_X_store_15 (by decide) ?_
  refine lv_iconst (v := 4) hx hb d_X_store_16 (by decide) ?_
  refine lv_iload hx hb d_X_store_17 (lv_at hl 0 rfl) ?_
  refine x_Vip hF hs v_X_check k_ml_X_82 (m_X_check h_n1) rfl rfl ⟨by decide, by decide⟩ rfl rfl hl.1 (Nat.le_of_ble_eq_true rfl) rX d_X_store_19 ⟨Nat.zero_le _, Nat.zero_le _⟩ (fun H locs hs => ?_)
  refine lv_istore (lv' := [(5, _), (4, _), (0, _), (1, _), (2, _), (3, _)]) hx hb d_X_store_22 hl (by decide) rfl (fun ls hl => ?_)
  refine lv_iload hx hb d_X_store_24 (lv_at hl 0 rfl) ?_
  refine lv_if_ne (tgt := 46) hx hb d_X_store_26 (by decide) (fun h1 => ?_) (fun h1 => ?_)
  · refine lv_iload hx hb d_X_store_46 (lv_at hl 0 rfl) ?_
    refine hret _ _ _ _ _ _ hs ?_ d_X_store_48
    exact (if_neg h1).trans rfl
  · refine lv_aload_n hx hb d_X_store_29 rfl (lv_at hl 2 rfl) ?_
    refine lv_iload hx hb d_X_store_30 (lv_at hl 1 rfl) ?_
    refine lv_iconst (v := 2) hx hb d_X_store_32 (by decide) ?_
    refine lv_iushr hx hb d_X_store_33 rfl ?_
    refine lv_aload_n hx hb d_X_store_34 rfl (lv_at hl 2 rfl) ?_
    refine xg_X hx hb hF hs 2 (by decide) k_fl_X_19 rfl d_X_store_35 ?_
    refine lv_iload_n hx hb d_X_store_38 rfl (lv_at hl 4 rfl) ?_
    refine xr_ld hx hb hF hs h_n2 d_X_store_39 ?_
    refine xg_N4 hx hb hF hs (in13 h_n2) d_X_store_40 ?_
    refine x_Vv hF hs v_X_writeWord k_ml_X_52 (m_X_writeWord (ix_c4 h1)) rfl rfl ⟨by decide, by decide⟩ rfl rfl hl.1 (Nat.le_of_ble_eq_true rfl) rX d_X_store_43 ⟨Nat.zero_le _, Nat.zero_le _⟩ (fun H locs hs => ?_)
    refine lv_iload hx hb d_X_store_46 (lv_at hl 0 rfl) ?_
    refine hret _ _ _ _ _ _ hs ?_ d_X_store_48
    exact (if_pos h1).trans rfl
def p_X_loadCapability (σ : Mem) (n1 : Int32) (n2 : Int32) (n3 : Int32) : Int32 × Mem :=
  if (p_X_check σ n2 (2 : Int32) (8 : Int32) ((σ 4 (n2.toNatClampNeg)) + (n3 : Int32))) = (0 : Int32) then
    let σ1 : Mem := wr σ 4 12 (σ 0 (((2 : Int32) * ((((((σ 4 (n2.toNatClampNeg)) + (n3 : Int32))).toUInt32 >>> (((3 : Int32)).toUInt32 &&& Int32.toUInt32 31)).toInt32) : Int32)) : Int32).toNatClampNeg);
    let σ2 : Mem := wr σ1 3 12 (σ1 0 ((((2 : Int32) * ((((((σ 4 (n2.toNatClampNeg)) + (n3 : Int32))).toUInt32 >>> (((3 : Int32)).toUInt32 &&& Int32.toUInt32 31)).toInt32) : Int32)) + (1 : Int32)) : Int32).toNatClampNeg);
    if (bo (σ2 1 ((((((σ 4 (n2.toNatClampNeg)) + (n3 : Int32))).toUInt32 >>> (((3 : Int32)).toUInt32 &&& Int32.toUInt32 31)).toInt32) : Int32).toNatClampNeg)) = (0 : Int32) then
      let σ3 : Mem := wr σ2 2 12 (0 : Int32);
      let σ4 : Mem := p_X_writeMade σ3 n1;
      ((p_X_check σ n2 (2 : Int32) (8 : Int32) ((σ 4 (n2.toNatClampNeg)) + (n3 : Int32))), σ4)
    else
      if (p_K_permits σ2 (n2.toNatClampNeg) (8 : Int32)) = (0 : Int32) then
        let σ5 : Mem := wr σ2 2 12 (0 : Int32);
        let σ6 : Mem := p_X_writeMade σ5 n1;
        ((p_X_check σ n2 (2 : Int32) (8 : Int32) ((σ 4 (n2.toNatClampNeg)) + (n3 : Int32))), σ6)
      else
        let σ7 : Mem := wr σ2 2 12 (1 : Int32);
        let σ8 : Mem := p_X_writeMade σ7 n1;
        ((p_X_check σ n2 (2 : Int32) (8 : Int32) ((σ 4 (n2.toNatClampNeg)) + (n3 : Int32))), σ8)
  else
    ((p_X_check σ n2 (2 : Int32) (8 : Int32) ((σ 4 (n2.toNatClampNeg)) + (n3 : Int32))), σ)
set_option maxHeartbeats 4000000 in
set_option maxRecDepth 100000 in
theorem m_X_loadCapability {l : Launch} {D : va_G} {a : Nat → Nat} {cA : Nat → ClassId} {B0 : Nat → Prop} {σ : Mem} {n1 : Int32} {n2 : Int32} {n3 : Int32} (h_n1 : vp_in n1 12) (h_n2 : vp_in n2 12) : cI l y_X_loadCapability (.code y_X_loadCapability c_X_loadCapability 7 (some FieldType.int) :: TG) (rmO 3 78) D (cwL a cA) (cty cA) B0 [.ref (a 0), .int n1, .int n2, .int n3] σ (p_X_loadCapability σ n1 n2 n3) := by
  refine cI_of (by decide) (Nat.le_of_ble_eq_true rfl) ?_
  intro p e s m args below meth c Q ls hx hb hF hl hs hret
  have hl : lv_has ls 7 [(0, .ref (a 0)), (1, .int n1), (2, .int n2), (3, .int n3)] := hl
  refine lv_aload_n hx hb d_X_loadCapability_0 rfl (lv_at hl 0 rfl) ?_
  refine xg_X hx hb hF hs 2 (by decide) k_fl_X_19 rfl d_X_loadCapability_1 ?_
  refine lv_iload_n hx hb d_X_loadCapability_4 rfl (lv_at hl 2 rfl) ?_
  refine xr_ld hx hb hF hs h_n2 d_X_loadCapability_5 ?_
  refine xg_N4 hx hb hF hs (in13 h_n2) d_X_loadCapability_6 ?_
  refine lv_iload_n hx hb d_X_loadCapability_9 rfl (lv_at hl 3 rfl) ?_
  refine lv_iadd hx hb d_X_loadCapability_10 ?_
  refine lv_istore (lv' := [(4, _), (0, _), (1, _), (2, _), (3, _)]) hx hb d_X_loadCapability_11 hl (by decide) rfl (fun ls hl => ?_)
  refine lv_aload_n hx hb d_X_loadCapability_13 rfl (lv_at hl 1 rfl) ?_
  refine lv_iload_n hx hb d_X_loadCapability_14 rfl (lv_at hl 3 rfl) ?_
  refine lv_iconst (v := 2) hx hb d_X_loadCapability_15 (by decide) ?_
  refine lv_bipush (v := 8) hx hb d_X_loadCapability_16 (by decide) ?_
  refine lv_iload hx hb d_X_loadCapability_18 (lv_at hl 0 rfl) ?_
  refine x_Vip hF hs v_X_check k_ml_X_82 (m_X_check h_n2) rfl rfl ⟨by decide, by decide⟩ rfl rfl hl.1 (Nat.le_of_ble_eq_true rfl) rX d_X_loadCapability_20 ⟨Nat.zero_le _, Nat.zero_le _⟩ (fun H locs hs => ?_)
  refine lv_istore (lv' := [(5, _), (4, _), (0, _), (1, _), (2, _), (3, _)]) hx hb d_X_loadCapability_23 hl (by decide) rfl (fun ls hl => ?_)
  refine lv_iload hx hb d_X_loadCapability_25 (lv_at hl 0 rfl) ?_
  refine lv_if_ne (tgt := 111) hx hb d_X_loadCapability_27 (by decide) (fun h1 => ?_) (fun h1 => ?_)
  · refine lv_iload hx hb d_X_loadCapability_111 (lv_at hl 0 rfl) ?_
    refine hret _ _ _ _ _ _ hs ?_ d_X_loadCapability_113
    exact (if_neg h1).trans rfl
  · refine lv_iload hx hb d_X_loadCapability_30 (lv_at hl 1 rfl) ?_
    refine lv_iconst (v := 3) hx hb d_X_loadCapability_32 (by decide) ?_
    refine lv_iushr hx hb d_X_loadCapability_33 rfl ?_
    refine lv_istore (lv' := [(6, _), (5, _), (4, _), (0, _), (1, _), (2, _), (3, _)]) hx hb d_X_loadCapability_34 hl (by decide) rfl (fun ls hl => ?_)
    refine lv_aload_n hx hb d_X_loadCapability_36 rfl (lv_at hl 3 rfl) ?_
    refine xg_X hx hb hF hs 4 (by decide) k_fl_X_24 rfl d_X_loadCapability_37 ?_
    refine lv_aload_n hx hb d_X_loadCapability_40 rfl (lv_at hl 3 rfl) ?_
    refine xg_X hx hb hF hs 0 (by decide) k_fl_X_9 rfl d_X_loadCapability_41 ?_
    refine lv_iconst (v := 2) hx hb d_X_loadCapability_44 (by decide) ?_
    refine lv_iload hx hb d_X_loadCapability_45 (lv_at hl 0 rfl) ?_
    refine lv_imul hx hb d_X_loadCapability_47 ?_
    refine xw_ld hx hb hF hs (ix_c8a h1) d_X_loadCapability_48 ?_
    refine xp_N4 hx hb hF hs lt12_13 d_X_loadCapability_49 (fun H locs hs => ?_)
    refine lv_aload_n hx hb d_X_loadCapability_52 rfl (lv_at hl 3 rfl) ?_
    refine xg_X hx hb hF hs 4 (by decide) k_fl_X_24 rfl d_X_loadCapability_53 ?_
    refine lv_aload_n hx hb d_X_loadCapability_56 rfl (lv_at hl 3 rfl) ?_
    refine xg_X hx hb hF hs 0 (by decide) k_fl_X_9 rfl d_X_loadCapability_57 ?_
    refine lv_iconst (v := 2) hx hb d_X_loadCapability_60 (by decide) ?_
    refine lv_iload hx hb d_X_loadCapability_61 (lv_at hl 0 rfl) ?_
    refine lv_imul hx hb d_X_loadCapability_63 ?_
    refine lv_iconst (v := 1) hx hb d_X_loadCapability_64 (by decide) ?_
    refine lv_iadd hx hb d_X_loadCapability_65 ?_
    refine xw_ld hx hb hF hs (ix_c8b h1) d_X_loadCapability_66 ?_
    refine xp_N3 hx hb hF hs lt12_13 d_X_loadCapability_67 (fun H locs hs => ?_)
    refine lv_aload_n hx hb d_X_loadCapability_70 rfl (lv_at hl 3 rfl) ?_
    refine xg_X hx hb hF hs 4 (by decide) k_fl_X_24 rfl d_X_loadCapability_71 ?_
    refine lv_aload_n hx hb d_X_loadCapability_74 rfl (lv_at hl 3 rfl) ?_
    refine xg_X hx hb hF hs 1 (by decide) k_fl_X_13 rfl d_X_loadCapability_75 ?_
    refine lv_iload hx hb d_X_loadCapability_78 (lv_at hl 0 rfl) ?_
    refine xt_ld hx hb hF hs (ix_c8g h1) d_X_loadCapability_80 ?_
    refine lv_if_eq (tgt := 102) hx hb d_X_loadCapability_81 (by decide) (fun h2 => ?_) (fun h2 => ?_)
    · refine lv_iconst (v := 0) hx hb d_X_loadCapability_102 (by decide) ?_
      refine xp_N2 hx hb hF hs lt12_13 bo_0 d_X_loadCapability_103 (fun H locs hs => ?_)
      refine lv_aload_n hx hb d_X_loadCapability_106 rfl (lv_at hl 3 rfl) ?_
      refine lv_iload_n hx hb d_X_loadCapability_107 rfl (lv_at hl 4 rfl) ?_
      refine x_Vv hF hs v_X_writeMade k_ml_X_172 (m_X_writeMade h_n1) rfl rfl ⟨by decide, by decide⟩ rfl rfl hl.1 (Nat.le_of_ble_eq_true rfl) rX d_X_loadCapability_108 ⟨Nat.zero_le _, Nat.zero_le _⟩ (fun H locs hs => ?_)
      refine lv_iload hx hb d_X_loadCapability_111 (lv_at hl 1 rfl) ?_
      refine hret _ _ _ _ _ _ hs ?_ d_X_loadCapability_113
      exact (if_pos h1).trans ((if_pos h2).trans rfl)
    · refine lv_aload_n hx hb d_X_loadCapability_84 rfl (lv_at hl 3 rfl) ?_
      refine xg_X hx hb hF hs 2 (by decide) k_fl_X_19 rfl d_X_loadCapability_85 ?_
      refine lv_iload_n hx hb d_X_loadCapability_88 rfl (lv_at hl 5 rfl) ?_
      refine xr_ld hx hb hF hs h_n2 d_X_loadCapability_89 ?_
      refine lv_bipush (v := 8) hx hb d_X_loadCapability_90 (by decide) ?_
      refine x_Vip hF hs v_K_permits k_ml_X_101 (m_K_permits (in13 h_n2)) rfl rfl ⟨by decide, by decide⟩ rfl rfl hl.1 (Nat.le_of_ble_eq_true rfl) (rK (in13 h_n2)) d_X_loadCapability_92 ⟨Nat.zero_le _, Nat.zero_le _⟩ (fun H locs hs => ?_)
      refine lv_if_eq (tgt := 102) hx hb d_X_loadCapability_95 (by decide) (fun h3 => ?_) (fun h3 => ?_)
      · refine lv_iconst (v := 0) hx hb d_X_loadCapability_102 (by decide) ?_
        refine xp_N2 hx hb hF hs lt12_13 bo_0 d_X_loadCapability_103 (fun H locs hs => ?_)
        refine lv_aload_n hx hb d_X_loadCapability_106 rfl (lv_at hl 3 rfl) ?_
        refine lv_iload_n hx hb d_X_loadCapability_107 rfl (lv_at hl 4 rfl) ?_
        refine x_Vv hF hs v_X_writeMade k_ml_X_172 (m_X_writeMade h_n1) rfl rfl ⟨by decide, by decide⟩ rfl rfl hl.1 (Nat.le_of_ble_eq_true rfl) rX d_X_loadCapability_108 ⟨Nat.zero_le _, Nat.zero_le _⟩ (fun H locs hs => ?_)
        refine lv_iload hx hb d_X_loadCapability_111 (lv_at hl 1 rfl) ?_
        refine hret _ _ _ _ _ _ hs ?_ d_X_loadCapability_113
        exact (if_pos h1).trans ((if_neg h2).trans ((if_pos h3).trans rfl))
      · refine lv_iconst (v := 1) hx hb d_X_loadCapability_98 (by decide) ?_
        refine lv_goto (tgt := 103) hx hb d_X_loadCapability_99 (by decide) ?_
        refine xp_N2 hx hb hF hs lt12_13 bo_1 d_X_loadCapability_103 (fun H locs hs => ?_)
        refine lv_aload_n hx hb d_X_loadCapability_106 rfl (lv_at hl 3 rfl) ?_
        refine lv_iload_n hx hb d_X_loadCapability_107 rfl (lv_at hl 4 rfl) ?_
        refine x_Vv hF hs v_X_writeMade k_ml_X_172 (m_X_writeMade h_n1) rfl rfl ⟨by decide, by decide⟩ rfl rfl hl.1 (Nat.le_of_ble_eq_true rfl) rX d_X_loadCapability_108 ⟨Nat.zero_le _, Nat.zero_le _⟩ (fun H locs hs => ?_)
        refine lv_iload hx hb d_X_loadCapability_111 (lv_at hl 1 rfl) ?_
        refine hret _ _ _ _ _ _ hs ?_ d_X_loadCapability_113
        exact (if_pos h1).trans ((if_neg h2).trans ((if_neg h3).trans rfl))
def p_X_storeCapability (σ : Mem) (n1 : Int32) (n2 : Int32) (n3 : Int32) : Int32 × Mem :=
  if (bo (σ 2 (n2.toNatClampNeg))) = (0 : Int32) then
    if (p_X_check σ n1 (4 : Int32) (8 : Int32) ((σ 4 (n1.toNatClampNeg)) + (n3 : Int32))) = (0 : Int32) then
      let σ1 : Mem := wr σ 0 (((2 : Int32) * ((((((σ 4 (n1.toNatClampNeg)) + (n3 : Int32))).toUInt32 >>> (((3 : Int32)).toUInt32 &&& Int32.toUInt32 31)).toInt32) : Int32)) : Int32).toNatClampNeg (σ 4 (n2.toNatClampNeg));
      let σ2 : Mem := wr σ1 0 ((((2 : Int32) * ((((((σ 4 (n1.toNatClampNeg)) + (n3 : Int32))).toUInt32 >>> (((3 : Int32)).toUInt32 &&& Int32.toUInt32 31)).toInt32) : Int32)) + (1 : Int32)) : Int32).toNatClampNeg (σ1 3 (n2.toNatClampNeg));
      let σ3 : Mem := wr σ2 1 ((((((σ 4 (n1.toNatClampNeg)) + (n3 : Int32))).toUInt32 >>> (((3 : Int32)).toUInt32 &&& Int32.toUInt32 31)).toInt32) : Int32).toNatClampNeg (bo (σ2 2 (n2.toNatClampNeg)));
      ((p_X_check σ n1 (4 : Int32) (8 : Int32) ((σ 4 (n1.toNatClampNeg)) + (n3 : Int32))), σ3)
    else
      ((p_X_check σ n1 (4 : Int32) (8 : Int32) ((σ 4 (n1.toNatClampNeg)) + (n3 : Int32))), σ)
  else
    if (p_X_check σ n1 (20 : Int32) (8 : Int32) ((σ 4 (n1.toNatClampNeg)) + (n3 : Int32))) = (0 : Int32) then
      let σ4 : Mem := wr σ 0 (((2 : Int32) * ((((((σ 4 (n1.toNatClampNeg)) + (n3 : Int32))).toUInt32 >>> (((3 : Int32)).toUInt32 &&& Int32.toUInt32 31)).toInt32) : Int32)) : Int32).toNatClampNeg (σ 4 (n2.toNatClampNeg));
      let σ5 : Mem := wr σ4 0 ((((2 : Int32) * ((((((σ 4 (n1.toNatClampNeg)) + (n3 : Int32))).toUInt32 >>> (((3 : Int32)).toUInt32 &&& Int32.toUInt32 31)).toInt32) : Int32)) + (1 : Int32)) : Int32).toNatClampNeg (σ4 3 (n2.toNatClampNeg));
      let σ6 : Mem := wr σ5 1 ((((((σ 4 (n1.toNatClampNeg)) + (n3 : Int32))).toUInt32 >>> (((3 : Int32)).toUInt32 &&& Int32.toUInt32 31)).toInt32) : Int32).toNatClampNeg (bo (σ5 2 (n2.toNatClampNeg)));
      ((p_X_check σ n1 (20 : Int32) (8 : Int32) ((σ 4 (n1.toNatClampNeg)) + (n3 : Int32))), σ6)
    else
      ((p_X_check σ n1 (20 : Int32) (8 : Int32) ((σ 4 (n1.toNatClampNeg)) + (n3 : Int32))), σ)
set_option maxHeartbeats 4000000 in
set_option maxRecDepth 100000 in
theorem m_X_storeCapability {l : Launch} {D : va_G} {a : Nat → Nat} {cA : Nat → ClassId} {B0 : Nat → Prop} {σ : Mem} {n1 : Int32} {n2 : Int32} {n3 : Int32} (h_n1 : vp_in n1 12) (h_n2 : vp_in n2 12) : cI l y_X_storeCapability (.code y_X_storeCapability c_X_storeCapability 8 (some FieldType.int) :: TG) (rmO 3 78) D (cwL a cA) (cty cA) B0 [.ref (a 0), .int n1, .int n2, .int n3] σ (p_X_storeCapability σ n1 n2 n3) := by
  refine cI_of (by decide) (Nat.le_of_ble_eq_true rfl) ?_
  intro p e s m args below meth c Q ls hx hb hF hl hs hret
  have hl : lv_has ls 8 [(0, .ref (a 0)), (1, .int n1), (2, .int n2), (3, .int n3)] := hl
  refine lv_aload_n hx hb d_X_storeCapability_0 rfl (lv_at hl 0 rfl) ?_
  refine xg_X hx hb hF hs 2 (by decide) k_fl_X_19 rfl d_X_storeCapability_1 ?_
  refine lv_iload_n hx hb d_X_storeCapability_4 rfl (lv_at hl 2 rfl) ?_
  refine xr_ld hx hb hF hs h_n2 d_X_storeCapability_5 ?_
  refine lv_astore (lv' := [(4, _), (0, _), (1, _), (2, _), (3, _)]) hx hb d_X_storeCapability_6 hl (by decide) rfl (fun ls hl => ?_)
  refine lv_aload_n hx hb d_X_storeCapability_8 rfl (lv_at hl 1 rfl) ?_
  refine xg_X hx hb hF hs 2 (by decide) k_fl_X_19 rfl d_X_storeCapability_9 ?_
  refine lv_iload_n hx hb d_X_storeCapability_12 rfl (lv_at hl 2 rfl) ?_
  refine xr_ld hx hb hF hs h_n1 d_X_storeCapability_13 ?_
  refine xg_N4 hx hb hF hs (in13 h_n1) d_X_storeCapability_14 ?_
  refine lv_iload_n hx hb d_X_storeCapability_17 rfl (lv_at hl 4 rfl) ?_
  refine lv_iadd hx hb d_X_storeCapability_18 ?_
  refine lv_istore (lv' := [(5, _), (4, _), (0, _), (1, _), (2, _), (3, _)]) hx hb d_X_storeCapability_19 hl (by decide) rfl (fun ls hl => ?_)
  refine lv_aload_n hx hb d_X_storeCapability_21 rfl (lv_at hl 2 rfl) ?_
  refine lv_iload_n hx hb d_X_storeCapability_22 rfl (lv_at hl 3 rfl) ?_
  refine lv_aload hx hb d_X_storeCapability_23 (lv_at hl 1 rfl) ?_
  refine xg_N2 hx hb hF hs (in13 h_n2) d_X_storeCapability_25 ?_
  refine lv_if_eq (tgt := 36) hx hb d_X_storeCapability_28 (by decide) (fun h1 => ?_) (fun h1 => ?_)
  · refine lv_iconst (v := 4) hx hb d_X_storeCapability_36 (by decide) ?_
    refine lv_bipush (v := 8) hx hb d_X_storeCapability_37 (by decide) ?_
    refine lv_iload hx hb d_X_storeCapability_39 (lv_at hl 0 rfl) ?_
    refine x_Vip hF hs v_X_check k_ml_X_82 (m_X_check h_n1) rfl rfl ⟨by decide, by decide⟩ rfl rfl hl.1 (Nat.le_of_ble_eq_true rfl) rX d_X_storeCapability_41 ⟨Nat.zero_le _, Nat.zero_le _⟩ (fun H locs hs => ?_)
    refine lv_istore (lv' := [(6, _), (5, _), (4, _), (0, _), (1, _), (2, _), (3, _)]) hx hb d_X_storeCapability_44 hl (by decide) rfl (fun ls hl => ?_)
    refine lv_iload hx hb d_X_storeCapability_46 (lv_at hl 0 rfl) ?_
    refine lv_if_ne (tgt := 99) hx hb d_X_storeCapability_48 (by decide) (fun h2 => ?_) (fun h2 => ?_)
    · refine lv_iload hx hb d_X_storeCapability_99 (lv_at hl 0 rfl) ?_
      refine hret _ _ _ _ _ _ hs ?_ d_X_storeCapability_101
      exact (if_pos h1).trans ((if_neg h2).trans rfl)
    · refine lv_iload hx hb d_X_storeCapability_51 (lv_at hl 1 rfl) ?_
      refine lv_iconst (v := 3) hx hb d_X_storeCapability_53 (by decide) ?_
      refine lv_iushr hx hb d_X_storeCapability_54 rfl ?_
      refine lv_istore (lv' := [(7, _), (6, _), (5, _), (4, _), (0, _), (1, _), (2, _), (3, _)]) hx hb d_X_storeCapability_55 hl (by decide) rfl (fun ls hl => ?_)
      refine lv_aload_n hx hb d_X_storeCapability_57 rfl (lv_at hl 4 rfl) ?_
      refine xg_X hx hb hF hs 0 (by decide) k_fl_X_9 rfl d_X_storeCapability_58 ?_
      refine lv_iconst (v := 2) hx hb d_X_storeCapability_61 (by decide) ?_
      refine lv_iload hx hb d_X_storeCapability_62 (lv_at hl 0 rfl) ?_
      refine lv_imul hx hb d_X_storeCapability_64 ?_
      refine lv_aload hx hb d_X_storeCapability_65 (lv_at hl 3 rfl) ?_
      refine xg_N4 hx hb hF hs (in13 h_n2) d_X_storeCapability_67 ?_
      refine xw_st hx hb hF hs (ix_c8a h2) d_X_storeCapability_70 (fun H locs hs => ?_)
      refine lv_aload_n hx hb d_X_storeCapability_71 rfl (lv_at hl 4 rfl) ?_
      refine xg_X hx hb hF hs 0 (by decide) k_fl_X_9 rfl d_X_storeCapability_72 ?_
      refine lv_iconst (v := 2) hx hb d_X_storeCapability_75 (by decide) ?_
      refine lv_iload hx hb d_X_storeCapability_76 (lv_at hl 0 rfl) ?_
      refine lv_imul hx hb d_X_storeCapability_78 ?_
      refine lv_iconst (v := 1) hx hb d_X_storeCapability_79 (by decide) ?_
      refine lv_iadd hx hb d_X_storeCapability_80 ?_
      refine lv_aload hx hb d_X_storeCapability_81 (lv_at hl 3 rfl) ?_
      refine xg_N3 hx hb hF hs (in13 h_n2) d_X_storeCapability_83 ?_
      refine xw_st hx hb hF hs (ix_c8b h2) d_X_storeCapability_86 (fun H locs hs => ?_)
      refine lv_aload_n hx hb d_X_storeCapability_87 rfl (lv_at hl 4 rfl) ?_
      refine xg_X hx hb hF hs 1 (by decide) k_fl_X_13 rfl d_X_storeCapability_88 ?_
      refine lv_iload hx hb d_X_storeCapability_91 (lv_at hl 0 rfl) ?_
      refine lv_aload hx hb d_X_storeCapability_93 (lv_at hl 3 rfl) ?_
      refine xg_N2 hx hb hF hs (in13 h_n2) d_X_storeCapability_95 ?_
      refine xt_st hx hb hF hs (ix_c8g h2) d_X_storeCapability_98 (fun H locs hs => ?_)
      refine lv_iload hx hb d_X_storeCapability_99 (lv_at hl 1 rfl) ?_
      refine hret _ _ _ _ _ _ hs ?_ d_X_storeCapability_101
      exact (if_pos h1).trans ((if_pos h2).trans rfl)
  · refine lv_bipush (v := 20) hx hb d_X_storeCapability_31 (by decide) ?_
    refine lv_goto (tgt := 37) hx hb d_X_storeCapability_33 (by decide) ?_
    refine lv_bipush (v := 8) hx hb d_X_storeCapability_37 (by decide) ?_
    refine lv_iload hx hb d_X_storeCapability_39 (lv_at hl 0 rfl) ?_
    refine x_Vip hF hs v_X_check k_ml_X_82 (m_X_check h_n1) rfl rfl ⟨by decide, by decide⟩ rfl rfl hl.1 (Nat.le_of_ble_eq_true rfl) rX d_X_storeCapability_41 ⟨Nat.zero_le _, Nat.zero_le _⟩ (fun H locs hs => ?_)
    refine lv_istore (lv' := [(6, _), (5, _), (4, _), (0, _), (1, _), (2, _), (3, _)]) hx hb d_X_storeCapability_44 hl (by decide) rfl (fun ls hl => ?_)
    refine lv_iload hx hb d_X_storeCapability_46 (lv_at hl 0 rfl) ?_
    refine lv_if_ne (tgt := 99) hx hb d_X_storeCapability_48 (by decide) (fun h2 => ?_) (fun h2 => ?_)
    · refine lv_iload hx hb d_X_storeCapability_99 (lv_at hl 0 rfl) ?_
      refine hret _ _ _ _ _ _ hs ?_ d_X_storeCapability_101
      exact (if_neg h1).trans ((if_neg h2).trans rfl)
    · refine lv_iload hx hb d_X_storeCapability_51 (lv_at hl 1 rfl) ?_
      refine lv_iconst (v := 3) hx hb d_X_storeCapability_53 (by decide) ?_
      refine lv_iushr hx hb d_X_storeCapability_54 rfl ?_
      refine lv_istore (lv' := [(7, _), (6, _), (5, _), (4, _), (0, _), (1, _), (2, _), (3, _)]) hx hb d_X_storeCapability_55 hl (by decide) rfl (fun ls hl => ?_)
      refine lv_aload_n hx hb d_X_storeCapability_57 rfl (lv_at hl 4 rfl) ?_
      refine xg_X hx hb hF hs 0 (by decide) k_fl_X_9 rfl d_X_storeCapability_58 ?_
      refine lv_iconst (v := 2) hx hb d_X_storeCapability_61 (by decide) ?_
      refine lv_iload hx hb d_X_storeCapability_62 (lv_at hl 0 rfl) ?_
      refine lv_imul hx hb d_X_storeCapability_64 ?_
      refine lv_aload hx hb d_X_storeCapability_65 (lv_at hl 3 rfl) ?_
      refine xg_N4 hx hb hF hs (in13 h_n2) d_X_storeCapability_67 ?_
      refine xw_st hx hb hF hs (ix_c8a h2) d_X_storeCapability_70 (fun H locs hs => ?_)
      refine lv_aload_n hx hb d_X_storeCapability_71 rfl (lv_at hl 4 rfl) ?_
      refine xg_X hx hb hF hs 0 (by decide) k_fl_X_9 rfl d_X_storeCapability_72 ?_
      refine lv_iconst (v := 2) hx hb d_X_storeCapability_75 (by decide) ?_
      refine lv_iload hx hb d_X_storeCapability_76 (lv_at hl 0 rfl) ?_
      refine lv_imul hx hb d_X_storeCapability_78 ?_
      refine lv_iconst (v := 1) hx hb d_X_storeCapability_79 (by decide) ?_
      refine lv_iadd hx hb d_X_storeCapability_80 ?_
      refine lv_aload hx hb d_X_storeCapability_81 (lv_at hl 3 rfl) ?_
      refine xg_N3 hx hb hF hs (in13 h_n2) d_X_storeCapability_83 ?_
      refine xw_st hx hb hF hs (ix_c8b h2) d_X_storeCapability_86 (fun H locs hs => ?_)
      refine lv_aload_n hx hb d_X_storeCapability_87 rfl (lv_at hl 4 rfl) ?_
      refine xg_X hx hb hF hs 1 (by decide) k_fl_X_13 rfl d_X_storeCapability_88 ?_
      refine lv_iload hx hb d_X_storeCapability_91 (lv_at hl 0 rfl) ?_
      refine lv_aload hx hb d_X_storeCapability_93 (lv_at hl 3 rfl) ?_
      refine xg_N2 hx hb hF hs (in13 h_n2) d_X_storeCapability_95 ?_
      refine xt_st hx hb hF hs (ix_c8g h2) d_X_storeCapability_98 (fun H locs hs => ?_)
      refine lv_iload hx hb d_X_storeCapability_99 (lv_at hl 1 rfl) ?_
      refine hret _ _ _ _ _ _ hs ?_ d_X_storeCapability_101
      exact (if_neg h1).trans ((if_pos h2).trans rfl)
def p_X_narrow (σ : Mem) (i1 : Nat) (n2 : Int32) : Mem :=
  let σ1 : Mem := p_K_bound σ 12 (((σ 4 i1)).toInt64 &&& (4294967295 : Int64)) ((((σ 4 i1)).toInt64 &&& (4294967295 : Int64)) + (((n2).toInt64 &&& (4294967295 : Int64)) : Int64));
  if (bo (σ1 2 i1)) = (0 : Int32) then
    let σ2 : Mem := wr σ1 2 12 (0 : Int32);
    σ2
  else
    if (p_K_isSealed σ1 i1) = (0 : Int32) then
      if (lg_cmp (p_K_lowerBound σ1 12) (p_K_lowerBound σ1 i1)) < (0 : Int32) then
        let σ4 : Mem := wr σ1 2 12 (0 : Int32);
        σ4
      else
        if (0 : Int32) < (lg_cmp (p_K_upperBound σ1 12) (p_K_upperBound σ1 i1)) then
          let σ5 : Mem := wr σ1 2 12 (0 : Int32);
          σ5
        else
          let σ6 : Mem := wr σ1 2 12 (1 : Int32);
          σ6
    else
      let σ3 : Mem := wr σ1 2 12 (0 : Int32);
      σ3
set_option maxHeartbeats 4000000 in
set_option maxRecDepth 100000 in
theorem m_X_narrow {l : Launch} {D : va_G} {a : Nat → Nat} {cA : Nat → ClassId} {B0 : Nat → Prop} {σ : Mem} {i1 : Nat} {n2 : Int32} (h_i1 : i1 < 13) : cV l y_X_narrow (.code y_X_narrow c_X_narrow 5 (none) :: TG) (rmO 2 51) D (cwL a cA) (cty cA) B0 [.ref (a 0), .ref (a (4 + i1)), .int n2] σ (p_X_narrow σ i1 n2) := by
  refine cV_of (by decide) (Nat.le_of_ble_eq_true rfl) ?_
  intro p e s m args below meth c Q ls hx hb hF hl hs hret
  have hl : lv_has ls 5 [(0, .ref (a 0)), (1, .ref (a (4 + i1))), (2, .int n2)] := hl
  refine lv_aload_n hx hb d_X_narrow_0 rfl (lv_at hl 1 rfl) ?_
  refine xg_N4 hx hb hF hs h_i1 d_X_narrow_1 ?_
  refine lv_i2l hx hb d_X_narrow_4 rfl ?_
  refine x_ldc2 hx hb hF k_cL_X_104 d_X_narrow_5 ?_
  refine lv_land hx hb d_X_narrow_8 ?_
  refine lv_lstore_n (lv' := [(3, _), (0, _), (1, _), (2, _)]) hx hb d_X_narrow_9 rfl hl (by decide) rfl (fun ls hl => ?_)
  refine lv_aload_n hx hb d_X_narrow_10 rfl (lv_at hl 1 rfl) ?_
  refine xg_X hx hb hF hs 4 (by decide) k_fl_X_24 rfl d_X_narrow_11 ?_
  refine lv_lload_n hx hb d_X_narrow_14 rfl (lv_at hl 0 rfl) ?_
  refine lv_lload_n hx hb d_X_narrow_15 rfl (lv_at hl 0 rfl) ?_
  refine lv_iload_n hx hb d_X_narrow_16 rfl (lv_at hl 3 rfl) ?_
  refine lv_i2l hx hb d_X_narrow_17 rfl ?_
  refine x_ldc2 hx hb hF k_cL_X_104 d_X_narrow_18 ?_
  refine lv_land hx hb d_X_narrow_21 ?_
  refine lv_ladd hx hb d_X_narrow_22 ?_
  refine x_Vv hF hs v_K_bound k_ml_X_175 (m_K_bound lt12_13) rfl rfl ⟨by decide, by decide⟩ rfl rfl hl.1 (Nat.le_of_ble_eq_true rfl) (rK lt12_13) d_X_narrow_23 ⟨Nat.zero_le _, Nat.zero_le _⟩ (fun H locs hs => ?_)
  refine lv_aload_n hx hb d_X_narrow_26 rfl (lv_at hl 1 rfl) ?_
  refine xg_X hx hb hF hs 4 (by decide) k_fl_X_24 rfl d_X_narrow_27 ?_
  refine lv_aload_n hx hb d_X_narrow_30 rfl (lv_at hl 2 rfl) ?_
  refine xg_N2 hx hb hF hs h_i1 d_X_narrow_31 ?_
  refine lv_if_eq (tgt := 78) hx hb d_X_narrow_34 (by decide) (fun h1 => ?_) (fun h1 => ?_)
  · refine lv_iconst (v := 0) hx hb d_X_narrow_78 (by decide) ?_
    refine xp_N2 hx hb hF hs lt12_13 bo_0 d_X_narrow_79 (fun H locs hs => ?_)
    refine hret _ _ _ _ _ hs ?_ d_X_narrow_82
    exact (if_pos h1).trans rfl
  · refine lv_aload_n hx hb d_X_narrow_37 rfl (lv_at hl 2 rfl) ?_
    refine x_Vip hF hs v_K_isSealed k_ml_X_97 (m_K_isSealed h_i1) rfl rfl ⟨by decide, by decide⟩ rfl rfl hl.1 (Nat.le_of_ble_eq_true rfl) (rK h_i1) d_X_narrow_38 ⟨Nat.zero_le _, Nat.zero_le _⟩ (fun H locs hs => ?_)
    refine lv_if_ne (tgt := 78) hx hb d_X_narrow_41 (by decide) (fun h2 => ?_) (fun h2 => ?_)
    · refine lv_iconst (v := 0) hx hb d_X_narrow_78 (by decide) ?_
      refine xp_N2 hx hb hF hs lt12_13 bo_0 d_X_narrow_79 (fun H locs hs => ?_)
      refine hret _ _ _ _ _ hs ?_ d_X_narrow_82
      exact (if_neg h1).trans ((if_neg h2).trans rfl)
    · refine lv_aload_n hx hb d_X_narrow_44 rfl (lv_at hl 1 rfl) ?_
      refine xg_X hx hb hF hs 4 (by decide) k_fl_X_24 rfl d_X_narrow_45 ?_
      refine x_Vlp hF hs v_K_lowerBound k_ml_X_72 (m_K_lowerBound lt12_13) rfl rfl ⟨by decide, by decide⟩ rfl rfl hl.1 (Nat.le_of_ble_eq_true rfl) (rK lt12_13) d_X_narrow_48 ⟨Nat.zero_le _, Nat.zero_le _⟩ (fun H locs hs => ?_)
      refine lv_aload_n hx hb d_X_narrow_51 rfl (lv_at hl 2 rfl) ?_
      refine x_Vlp hF hs v_K_lowerBound k_ml_X_72 (m_K_lowerBound h_i1) rfl rfl ⟨by decide, by decide⟩ rfl rfl hl.1 (Nat.le_of_ble_eq_true rfl) (rK h_i1) d_X_narrow_52 ⟨Nat.zero_le _, Nat.zero_le _⟩ (fun H locs hs => ?_)
      refine W.lcmp hx hb d_X_narrow_55 ?_
      refine lv_if_lt (tgt := 78) hx hb d_X_narrow_56 (by decide) (fun h3 => ?_) (fun h3 => ?_)
      · refine lv_iconst (v := 0) hx hb d_X_narrow_78 (by decide) ?_
        refine xp_N2 hx hb hF hs lt12_13 bo_0 d_X_narrow_79 (fun H locs hs => ?_)
        refine hret _ _ _ _ _ hs ?_ d_X_narrow_82
        exact (if_neg h1).trans ((if_pos h2).trans ((if_pos h3).trans rfl))
      · refine lv_aload_n hx hb d_X_narrow_59 rfl (lv_at hl 1 rfl) ?_
        refine xg_X hx hb hF hs 4 (by decide) k_fl_X_24 rfl d_X_narrow_60 ?_
        refine x_Vlp hF hs v_K_upperBound k_ml_X_76 (m_K_upperBound lt12_13) rfl rfl ⟨by decide, by decide⟩ rfl rfl hl.1 (Nat.le_of_ble_eq_true rfl) (rK lt12_13) d_X_narrow_63 ⟨Nat.zero_le _, Nat.zero_le _⟩ (fun H locs hs => ?_)
        refine lv_aload_n hx hb d_X_narrow_66 rfl (lv_at hl 2 rfl) ?_
        refine x_Vlp hF hs v_K_upperBound k_ml_X_76 (m_K_upperBound h_i1) rfl rfl ⟨by decide, by decide⟩ rfl rfl hl.1 (Nat.le_of_ble_eq_true rfl) (rK h_i1) d_X_narrow_67 ⟨Nat.zero_le _, Nat.zero_le _⟩ (fun H locs hs => ?_)
        refine W.lcmp hx hb d_X_narrow_70 ?_
        refine lv_if_gt (tgt := 78) hx hb d_X_narrow_71 (by decide) (fun h4 => ?_) (fun h4 => ?_)
        · refine lv_iconst (v := 0) hx hb d_X_narrow_78 (by decide) ?_
          refine xp_N2 hx hb hF hs lt12_13 bo_0 d_X_narrow_79 (fun H locs hs => ?_)
          refine hret _ _ _ _ _ hs ?_ d_X_narrow_82
          exact (if_neg h1).trans ((if_pos h2).trans ((if_neg h3).trans ((if_pos h4).trans rfl)))
        · refine lv_iconst (v := 1) hx hb d_X_narrow_74 (by decide) ?_
          refine lv_goto (tgt := 79) hx hb d_X_narrow_75 (by decide) ?_
          refine xp_N2 hx hb hF hs lt12_13 bo_1 d_X_narrow_79 (fun H locs hs => ?_)
          refine hret _ _ _ _ _ hs ?_ d_X_narrow_82
          exact (if_neg h1).trans ((if_pos h2).trans ((if_neg h3).trans ((if_neg h4).trans rfl)))
def p_X_derive (σ : Mem) (n1 : Int32) (n2 : Int32) (i3 : Nat) (i4 : Nat) : Mem :=
  let σ1 : Mem := p_K_copy σ 12 i3;
  if n1 = (19 : Int32) then
    let σ2 : Mem := p_X_narrow σ1 i3 (σ1 4 i4);
    let σ3 : Mem := p_X_writeMade σ2 n2;
    σ3
  else
  if n1 = (20 : Int32) then
    let σ4 : Mem := p_K_keepPermissions σ1 12 (σ1 4 i4);
    if (bo (σ4 2 i3)) = (0 : Int32) then
      let σ5 : Mem := wr σ4 2 12 (0 : Int32);
      let σ6 : Mem := p_X_writeMade σ5 n2;
      σ6
    else
      if (p_K_isSealed σ4 i3) = (0 : Int32) then
        let σ9 : Mem := wr σ4 2 12 (1 : Int32);
        let σ10 : Mem := p_X_writeMade σ9 n2;
        σ10
      else
        let σ7 : Mem := wr σ4 2 12 (0 : Int32);
        let σ8 : Mem := p_X_writeMade σ7 n2;
        σ8
  else
  if n1 = (21 : Int32) then
    let σ11 : Mem := p_K_move σ1 12 ((σ1 4 i3) + ((σ1 4 i4) : Int32));
    let σ12 : Mem := p_X_writeMade σ11 n2;
    σ12
  else
  if n1 = (22 : Int32) then
    let σ13 : Mem := p_K_move σ1 12 (σ1 4 i4);
    let σ14 : Mem := p_X_writeMade σ13 n2;
    σ14
  else
  if n1 = (26 : Int32) then
    let σ15 : Mem := p_K_copy σ1 12 i4;
    let σ16 : Mem := wr σ15 2 12 (p_X_mayBuild σ15 i3 i4);
    let σ17 : Mem := p_X_writeMade σ16 n2;
    σ17
  else
  if n1 = (28 : Int32) then
    let σ18 : Mem := wr σ1 2 12 (0 : Int32);
    let σ19 : Mem := p_X_writeMade σ18 n2;
    σ19
  else
    let σ20 : Mem := p_X_writeMade σ1 n2;
    σ20
set_option maxHeartbeats 4000000 in
set_option maxRecDepth 100000 in
theorem m_X_derive {l : Launch} {D : va_G} {a : Nat → Nat} {cA : Nat → ClassId} {B0 : Nat → Prop} {σ : Mem} {n1 : Int32} {n2 : Int32} {i3 : Nat} {i4 : Nat} (h_i3 : i3 < 13) (h_i4 : i4 < 13) (h_n2 : vp_in n2 12) : cV l y_X_derive (.code y_X_derive c_X_derive 5 (none) :: TG) (rmO 3 76) D (cwL a cA) (cty cA) B0 [.ref (a 0), .int n1, .int n2, .ref (a (4 + i3)), .ref (a (4 + i4))] σ (p_X_derive σ n1 n2 i3 i4) := by
  refine cV_of (by decide) (Nat.le_of_ble_eq_true rfl) ?_
  intro p e s m args below meth c Q ls hx hb hF hl hs hret
  have hl : lv_has ls 5 [(0, .ref (a 0)), (1, .int n1), (2, .int n2), (3, .ref (a (4 + i3))), (4, .ref (a (4 + i4)))] := hl
  refine lv_aload_n hx hb d_X_derive_0 rfl (lv_at hl 0 rfl) ?_
  refine xg_X hx hb hF hs 4 (by decide) k_fl_X_24 rfl d_X_derive_1 ?_
  refine lv_aload_n hx hb d_X_derive_4 rfl (lv_at hl 3 rfl) ?_
  refine x_Vv hF hs v_K_copy k_ml_X_93 (m_K_copy lt12_13 h_i3) rfl rfl ⟨by decide, by decide⟩ rfl rfl hl.1 (Nat.le_of_ble_eq_true rfl) (rK lt12_13) d_X_derive_5 ⟨Nat.zero_le _, Nat.zero_le _⟩ (fun H locs hs => ?_)
  refine lv_iload_n hx hb d_X_derive_8 rfl (lv_at hl 1 rfl) ?_
  by_cases h1 : n1 = (19 : Int32)
  · refine lv_tableIn (tgt := 64) (off := 55) hx hb d_X_derive_9 (by rw [h1]; decide) (by rw [h1]; decide) (by rw [h1]; rfl) (by decide) ?_
    refine lv_aload_n hx hb d_X_derive_64 rfl (lv_at hl 0 rfl) ?_
    refine lv_aload_n hx hb d_X_derive_65 rfl (lv_at hl 3 rfl) ?_
    refine lv_aload hx hb d_X_derive_66 (lv_at hl 4 rfl) ?_
    refine xg_N4 hx hb hF hs h_i4 d_X_derive_68 ?_
    refine x_Vv hF hs v_X_narrow k_ml_X_158 (m_X_narrow h_i3) rfl rfl ⟨by decide, by decide⟩ rfl rfl hl.1 (Nat.le_of_ble_eq_true rfl) rX d_X_derive_71 ⟨Nat.zero_le _, Nat.zero_le _⟩ (fun H locs hs => ?_)
    refine lv_goto (tgt := 189) hx hb d_X_derive_74 (by decide) ?_
    refine lv_aload_n hx hb d_X_derive_189 rfl (lv_at hl 0 rfl) ?_
    refine lv_iload_n hx hb d_X_derive_190 rfl (lv_at hl 2 rfl) ?_
    refine x_Vv hF hs v_X_writeMade k_ml_X_172 (m_X_writeMade h_n2) rfl rfl ⟨by decide, by decide⟩ rfl rfl hl.1 (Nat.le_of_ble_eq_true rfl) rX d_X_derive_191 ⟨Nat.zero_le _, Nat.zero_le _⟩ (fun H locs hs => ?_)
    refine hret _ _ _ _ _ hs ?_ d_X_derive_194
    exact (if_pos h1).trans rfl
  by_cases h2 : n1 = (20 : Int32)
  · refine lv_tableIn (tgt := 77) (off := 68) hx hb d_X_derive_9 (by rw [h2]; decide) (by rw [h2]; decide) (by rw [h2]; rfl) (by decide) ?_
    refine lv_aload_n hx hb d_X_derive_77 rfl (lv_at hl 0 rfl) ?_
    refine xg_X hx hb hF hs 4 (by decide) k_fl_X_24 rfl d_X_derive_78 ?_
    refine lv_aload hx hb d_X_derive_81 (lv_at hl 4 rfl) ?_
    refine xg_N4 hx hb hF hs h_i4 d_X_derive_83 ?_
    refine x_Vv hF hs v_K_keepPermissions k_ml_X_162 (m_K_keepPermissions lt12_13) rfl rfl ⟨by decide, by decide⟩ rfl rfl hl.1 (Nat.le_of_ble_eq_true rfl) (rK lt12_13) d_X_derive_86 ⟨Nat.zero_le _, Nat.zero_le _⟩ (fun H locs hs => ?_)
    refine lv_aload_n hx hb d_X_derive_89 rfl (lv_at hl 0 rfl) ?_
    refine xg_X hx hb hF hs 4 (by decide) k_fl_X_24 rfl d_X_derive_90 ?_
    refine lv_aload_n hx hb d_X_derive_93 rfl (lv_at hl 3 rfl) ?_
    refine xg_N2 hx hb hF hs h_i3 d_X_derive_94 ?_
    refine lv_if_eq (tgt := 111) hx hb d_X_derive_97 (by decide) (fun h3 => ?_) (fun h3 => ?_)
    · refine lv_iconst (v := 0) hx hb d_X_derive_111 (by decide) ?_
      refine xp_N2 hx hb hF hs lt12_13 bo_0 d_X_derive_112 (fun H locs hs => ?_)
      refine lv_goto (tgt := 189) hx hb d_X_derive_115 (by decide) ?_
      refine lv_aload_n hx hb d_X_derive_189 rfl (lv_at hl 0 rfl) ?_
      refine lv_iload_n hx hb d_X_derive_190 rfl (lv_at hl 2 rfl) ?_
      refine x_Vv hF hs v_X_writeMade k_ml_X_172 (m_X_writeMade h_n2) rfl rfl ⟨by decide, by decide⟩ rfl rfl hl.1 (Nat.le_of_ble_eq_true rfl) rX d_X_derive_191 ⟨Nat.zero_le _, Nat.zero_le _⟩ (fun H locs hs => ?_)
      refine hret _ _ _ _ _ hs ?_ d_X_derive_194
      exact (if_neg h1).trans ((if_pos h2).trans ((if_pos h3).trans rfl))
    · refine lv_aload_n hx hb d_X_derive_100 rfl (lv_at hl 3 rfl) ?_
      refine x_Vip hF hs v_K_isSealed k_ml_X_97 (m_K_isSealed h_i3) rfl rfl ⟨by decide, by decide⟩ rfl rfl hl.1 (Nat.le_of_ble_eq_true rfl) (rK h_i3) d_X_derive_101 ⟨Nat.zero_le _, Nat.zero_le _⟩ (fun H locs hs => ?_)
      refine lv_if_ne (tgt := 111) hx hb d_X_derive_104 (by decide) (fun h4 => ?_) (fun h4 => ?_)
      · refine lv_iconst (v := 0) hx hb d_X_derive_111 (by decide) ?_
        refine xp_N2 hx hb hF hs lt12_13 bo_0 d_X_derive_112 (fun H locs hs => ?_)
        refine lv_goto (tgt := 189) hx hb d_X_derive_115 (by decide) ?_
        refine lv_aload_n hx hb d_X_derive_189 rfl (lv_at hl 0 rfl) ?_
        refine lv_iload_n hx hb d_X_derive_190 rfl (lv_at hl 2 rfl) ?_
        refine x_Vv hF hs v_X_writeMade k_ml_X_172 (m_X_writeMade h_n2) rfl rfl ⟨by decide, by decide⟩ rfl rfl hl.1 (Nat.le_of_ble_eq_true rfl) rX d_X_derive_191 ⟨Nat.zero_le _, Nat.zero_le _⟩ (fun H locs hs => ?_)
        refine hret _ _ _ _ _ hs ?_ d_X_derive_194
        exact (if_neg h1).trans ((if_pos h2).trans ((if_neg h3).trans ((if_neg h4).trans rfl)))
      · refine lv_iconst (v := 1) hx hb d_X_derive_107 (by decide) ?_
        refine lv_goto (tgt := 112) hx hb d_X_derive_108 (by decide) ?_
        refine xp_N2 hx hb hF hs lt12_13 bo_1 d_X_derive_112 (fun H locs hs => ?_)
        refine lv_goto (tgt := 189) hx hb d_X_derive_115 (by decide) ?_
        refine lv_aload_n hx hb d_X_derive_189 rfl (lv_at hl 0 rfl) ?_
        refine lv_iload_n hx hb d_X_derive_190 rfl (lv_at hl 2 rfl) ?_
        refine x_Vv hF hs v_X_writeMade k_ml_X_172 (m_X_writeMade h_n2) rfl rfl ⟨by decide, by decide⟩ rfl rfl hl.1 (Nat.le_of_ble_eq_true rfl) rX d_X_derive_191 ⟨Nat.zero_le _, Nat.zero_le _⟩ (fun H locs hs => ?_)
        refine hret _ _ _ _ _ hs ?_ d_X_derive_194
        exact (if_neg h1).trans ((if_pos h2).trans ((if_neg h3).trans ((if_pos h4).trans rfl)))
  by_cases h3 : n1 = (21 : Int32)
  · refine lv_tableIn (tgt := 118) (off := 109) hx hb d_X_derive_9 (by rw [h3]; decide) (by rw [h3]; decide) (by rw [h3]; rfl) (by decide) ?_
    refine lv_aload_n hx hb d_X_derive_118 rfl (lv_at hl 0 rfl) ?_
    refine xg_X hx hb hF hs 4 (by decide) k_fl_X_24 rfl d_X_derive_119 ?_
    refine lv_aload_n hx hb d_X_derive_122 rfl (lv_at hl 3 rfl) ?_
    refine xg_N4 hx hb hF hs h_i3 d_X_derive_123 ?_
    refine lv_aload hx hb d_X_derive_126 (lv_at hl 4 rfl) ?_
    refine xg_N4 hx hb hF hs h_i4 d_X_derive_128 ?_
    refine lv_iadd hx hb d_X_derive_131 ?_
    refine x_Vv hF hs v_K_move k_ml_X_165 (m_K_move lt12_13) rfl rfl ⟨by decide, by decide⟩ rfl rfl hl.1 (Nat.le_of_ble_eq_true rfl) (rK lt12_13) d_X_derive_132 ⟨Nat.zero_le _, Nat.zero_le _⟩ (fun H locs hs => ?_)
    refine lv_goto (tgt := 189) hx hb d_X_derive_135 (by decide) ?_
    refine lv_aload_n hx hb d_X_derive_189 rfl (lv_at hl 0 rfl) ?_
    refine lv_iload_n hx hb d_X_derive_190 rfl (lv_at hl 2 rfl) ?_
    refine x_Vv hF hs v_X_writeMade k_ml_X_172 (m_X_writeMade h_n2) rfl rfl ⟨by decide, by decide⟩ rfl rfl hl.1 (Nat.le_of_ble_eq_true rfl) rX d_X_derive_191 ⟨Nat.zero_le _, Nat.zero_le _⟩ (fun H locs hs => ?_)
    refine hret _ _ _ _ _ hs ?_ d_X_derive_194
    exact (if_neg h1).trans ((if_neg h2).trans ((if_pos h3).trans rfl))
  by_cases h4 : n1 = (22 : Int32)
  · refine lv_tableIn (tgt := 138) (off := 129) hx hb d_X_derive_9 (by rw [h4]; decide) (by rw [h4]; decide) (by rw [h4]; rfl) (by decide) ?_
    refine lv_aload_n hx hb d_X_derive_138 rfl (lv_at hl 0 rfl) ?_
    refine xg_X hx hb hF hs 4 (by decide) k_fl_X_24 rfl d_X_derive_139 ?_
    refine lv_aload hx hb d_X_derive_142 (lv_at hl 4 rfl) ?_
    refine xg_N4 hx hb hF hs h_i4 d_X_derive_144 ?_
    refine x_Vv hF hs v_K_move k_ml_X_165 (m_K_move lt12_13) rfl rfl ⟨by decide, by decide⟩ rfl rfl hl.1 (Nat.le_of_ble_eq_true rfl) (rK lt12_13) d_X_derive_147 ⟨Nat.zero_le _, Nat.zero_le _⟩ (fun H locs hs => ?_)
    refine lv_goto (tgt := 189) hx hb d_X_derive_150 (by decide) ?_
    refine lv_aload_n hx hb d_X_derive_189 rfl (lv_at hl 0 rfl) ?_
    refine lv_iload_n hx hb d_X_derive_190 rfl (lv_at hl 2 rfl) ?_
    refine x_Vv hF hs v_X_writeMade k_ml_X_172 (m_X_writeMade h_n2) rfl rfl ⟨by decide, by decide⟩ rfl rfl hl.1 (Nat.le_of_ble_eq_true rfl) rX d_X_derive_191 ⟨Nat.zero_le _, Nat.zero_le _⟩ (fun H locs hs => ?_)
    refine hret _ _ _ _ _ hs ?_ d_X_derive_194
    exact (if_neg h1).trans ((if_neg h2).trans ((if_neg h3).trans ((if_pos h4).trans rfl)))
  by_cases h5 : n1 = (26 : Int32)
  · refine lv_tableIn (tgt := 153) (off := 144) hx hb d_X_derive_9 (by rw [h5]; decide) (by rw [h5]; decide) (by rw [h5]; rfl) (by decide) ?_
    refine lv_aload_n hx hb d_X_derive_153 rfl (lv_at hl 0 rfl) ?_
    refine xg_X hx hb hF hs 4 (by decide) k_fl_X_24 rfl d_X_derive_154 ?_
    refine lv_aload hx hb d_X_derive_157 (lv_at hl 4 rfl) ?_
    refine x_Vv hF hs v_K_copy k_ml_X_93 (m_K_copy lt12_13 h_i4) rfl rfl ⟨by decide, by decide⟩ rfl rfl hl.1 (Nat.le_of_ble_eq_true rfl) (rK lt12_13) d_X_derive_159 ⟨Nat.zero_le _, Nat.zero_le _⟩ (fun H locs hs => ?_)
    refine lv_aload_n hx hb d_X_derive_162 rfl (lv_at hl 0 rfl) ?_
    refine xg_X hx hb hF hs 4 (by decide) k_fl_X_24 rfl d_X_derive_163 ?_
    refine lv_aload_n hx hb d_X_derive_166 rfl (lv_at hl 3 rfl) ?_
    refine lv_aload hx hb d_X_derive_167 (lv_at hl 4 rfl) ?_
    refine x_Sip hF hs v_X_mayBuild k_ml_X_168 (m_X_mayBuild h_i3 h_i4) rfl rfl ⟨by decide, by decide⟩ rfl rfl hl.1 (Nat.le_of_ble_eq_true rfl) d_X_derive_169 ⟨Nat.zero_le _, Nat.zero_le _⟩ (fun H locs hs => ?_)
    refine xp_N2 hx hb hF hs lt12_13 (bo_X_mayBuild _ _ _) d_X_derive_172 (fun H locs hs => ?_)
    refine lv_goto (tgt := 189) hx hb d_X_derive_175 (by decide) ?_
    refine lv_aload_n hx hb d_X_derive_189 rfl (lv_at hl 0 rfl) ?_
    refine lv_iload_n hx hb d_X_derive_190 rfl (lv_at hl 2 rfl) ?_
    refine x_Vv hF hs v_X_writeMade k_ml_X_172 (m_X_writeMade h_n2) rfl rfl ⟨by decide, by decide⟩ rfl rfl hl.1 (Nat.le_of_ble_eq_true rfl) rX d_X_derive_191 ⟨Nat.zero_le _, Nat.zero_le _⟩ (fun H locs hs => ?_)
    refine hret _ _ _ _ _ hs ?_ d_X_derive_194
    exact (if_neg h1).trans ((if_neg h2).trans ((if_neg h3).trans ((if_neg h4).trans ((if_pos h5).trans rfl))))
  by_cases h6 : n1 = (28 : Int32)
  · refine lv_tableIn (tgt := 178) (off := 169) hx hb d_X_derive_9 (by rw [h6]; decide) (by rw [h6]; decide) (by rw [h6]; rfl) (by decide) ?_
    refine lv_aload_n hx hb d_X_derive_178 rfl (lv_at hl 0 rfl) ?_
    refine xg_X hx hb hF hs 4 (by decide) k_fl_X_24 rfl d_X_derive_179 ?_
    refine lv_iconst (v := 0) hx hb d_X_derive_182 (by decide) ?_
    refine xp_N2 hx hb hF hs lt12_13 bo_0 d_X_derive_183 (fun H locs hs => ?_)
    refine lv_goto (tgt := 189) hx hb d_X_derive_186 (by decide) ?_
    refine lv_aload_n hx hb d_X_derive_189 rfl (lv_at hl 0 rfl) ?_
    refine lv_iload_n hx hb d_X_derive_190 rfl (lv_at hl 2 rfl) ?_
    refine x_Vv hF hs v_X_writeMade k_ml_X_172 (m_X_writeMade h_n2) rfl rfl ⟨by decide, by decide⟩ rfl rfl hl.1 (Nat.le_of_ble_eq_true rfl) rX d_X_derive_191 ⟨Nat.zero_le _, Nat.zero_le _⟩ (fun H locs hs => ?_)
    refine hret _ _ _ _ _ hs ?_ d_X_derive_194
    exact (if_neg h1).trans ((if_neg h2).trans ((if_neg h3).trans ((if_neg h4).trans ((if_neg h5).trans ((if_pos h6).trans rfl)))))
  refine x_tabD (tgt := 189) hx hb [19, 20, 21, 22, 26, 28] d_X_derive_9 (List.forall_mem_cons.mpr ⟨lv_neT h1 (by decide), List.forall_mem_cons.mpr ⟨lv_neT h2 (by decide), List.forall_mem_cons.mpr ⟨lv_neT h3 (by decide), List.forall_mem_cons.mpr ⟨lv_neT h4 (by decide), List.forall_mem_cons.mpr ⟨lv_neT h5 (by decide), List.forall_mem_cons.mpr ⟨lv_neT h6 (by decide), fun _ z => absurd z List.not_mem_nil⟩⟩⟩⟩⟩⟩) (by decide) (by decide) (by decide) ?_
  refine lv_aload_n hx hb d_X_derive_189 rfl (lv_at hl 0 rfl) ?_
  refine lv_iload_n hx hb d_X_derive_190 rfl (lv_at hl 2 rfl) ?_
  refine x_Vv hF hs v_X_writeMade k_ml_X_172 (m_X_writeMade h_n2) rfl rfl ⟨by decide, by decide⟩ rfl rfl hl.1 (Nat.le_of_ble_eq_true rfl) rX d_X_derive_191 ⟨Nat.zero_le _, Nat.zero_le _⟩ (fun H locs hs => ?_)
  refine hret _ _ _ _ _ hs ?_ d_X_derive_194
  exact (if_neg h1).trans ((if_neg h2).trans ((if_neg h3).trans ((if_neg h4).trans ((if_neg h5).trans ((if_neg h6).trans rfl)))))
