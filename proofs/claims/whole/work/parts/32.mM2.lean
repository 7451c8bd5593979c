def p_M_window (n1 : Int32) (n2 : Int32) : Int64 :=
  ((((p_M_unsigned n2) / (p_M_unit n1)) * ((p_M_unit n1) : Int64)) - ((p_M_rest ((((p_M_unsigned n2) / (p_M_unit n1)) * ((p_M_unit n1) : Int64)) - ((((((n1 >>> ((17 : Int32) &&& 31)) &&& (127 : Int32)) - (16 : Int32))).toInt64 * ((p_M_unit n1) : Int64)) : Int64)) ((128 : Int64) * ((p_M_unit n1) : Int64))) : Int64))
set_option maxHeartbeats 4000000 in
set_option maxRecDepth 100000 in
theorem m_M_window {l : Launch} {D : va_G} {a : Nat → Nat} {cA : Nat → ClassId} {B0 : Nat → Prop} {σ : Mem} {n1 : Int32} {n2 : Int32} : cL l y_M_window (.code y_M_window c_M_window 8 (some FieldType.long) :: TG) (rmO 1 25) D (rwL a cA) (rty cA) B0 [.int n1, .int n2] σ (p_M_window n1 n2, σ) := by
  refine cL_of (by decide) (Nat.le_of_ble_eq_true rfl) ?_
  intro p e s m args below meth c Q ls hx hb hF hl hs hret
  have hl : lv_has ls 8 [(0, .int n1), (1, .int n2)] := hl
  refine lv_iload_n hx hb d_M_window_0 rfl (lv_at hl 0 rfl) ?_
  refine x_Slp hF hs v_M_unit k_ml_M_38 (m_M_unit) rfl rfl ⟨by decide, by decide⟩ rfl rfl hl.1 (Nat.le_of_ble_eq_true rfl) d_M_window_1 ⟨Nat.zero_le _, Nat.zero_le _⟩ (fun H locs hs => ?_)
  refine lv_lstore_n (lv' := [(2, _), (0, _), (1, _)]) hx hb d_M_window_4 rfl hl (by decide) rfl (fun ls hl => ?_)
  refine lv_iload_n hx hb d_M_window_5 rfl (lv_at hl 2 rfl) ?_
  refine x_Slp hF hs v_M_unsigned k_ml_M_42 (m_M_unsigned) rfl rfl ⟨by decide, by decide⟩ rfl rfl hl.1 (Nat.le_of_ble_eq_true rfl) d_M_window_6 ⟨Nat.zero_le _, Nat.zero_le _⟩ (fun H locs hs => ?_)
  refine lv_lload_n hx hb d_M_window_9 rfl (lv_at hl 0 rfl) ?_
  refine lv_ldiv hx hb d_M_window_10 (u_ne _) ?_
  refine lv_lload_n hx hb d_M_window_11 rfl (lv_at hl 0 rfl) ?_
  refine lv_lmul hx hb d_M_window_12 ?_
  refine lv_lstore (lv' := [(4, _), (2, _), (0, _), (1, _)]) hx hb d_M_window_13 hl (by decide) rfl (fun ls hl => ?_)
  refine lv_iload_n hx hb d_M_window_15 rfl (lv_at hl 2 rfl) ?_
  refine lv_bipush (v := 17) hx hb d_M_window_16 (by decide) ?_
  refine lv_ishr hx hb d_M_window_18 ?_
  refine lv_bipush (v := 127) hx hb d_M_window_19 (by decide) ?_
  refine lv_iand hx hb d_M_window_21 ?_
  refine lv_bipush (v := 16) hx hb d_M_window_22 (by decide) ?_
  refine lv_isub hx hb d_M_window_24 ?_
  refine lv_i2l hx hb d_M_window_25 rfl ?_
  refine lv_lstore (lv' := [(6, _), (4, _), (2, _), (0, _), (1, _)]) hx hb d_M_window_26 hl (by decide) rfl (fun ls hl => ?_)
  refine lv_lload hx hb d_M_window_28 (lv_at hl 1 rfl) ?_
  refine lv_lload hx hb d_M_window_30 (lv_at hl 1 rfl) ?_
  refine lv_lload hx hb d_M_window_32 (lv_at hl 0 rfl) ?_
  refine lv_lload_n hx hb d_M_window_34 rfl (lv_at hl 2 rfl) ?_
  refine lv_lmul hx hb d_M_window_35 ?_
  refine lv_lsub hx hb d_M_window_36 ?_
  refine x_ldc2 hx hb hF k_cL_M_45 d_M_window_37 ?_
  refine lv_lload_n hx hb d_M_window_40 rfl (lv_at hl 2 rfl) ?_
  refine lv_lmul hx hb d_M_window_41 ?_
  refine x_Slp hF hs v_M_rest k_ml_M_47 (m_M_rest (u_128 _)) rfl rfl ⟨by decide, by decide⟩ rfl rfl hl.1 (Nat.le_of_ble_eq_true rfl) d_M_window_42 ⟨Nat.zero_le _, Nat.zero_le _⟩ (fun H locs hs => ?_)
  refine lv_lsub hx hb d_M_window_45 ?_
  refine hret _ _ _ _ _ _ hs ?_ d_M_window_46
  exact pr_eq (rfl)
def p_M_baseOf (n1 : Int32) (n2 : Int32) : Int64 :=
  ((p_M_window n1 n2) + ((p_M_rest (((((n1 >>> ((17 : Int32) &&& 31)) &&& (127 : Int32))).toInt64 * ((p_M_unit n1) : Int64)) - ((p_M_window n1 n2) : Int64)) ((128 : Int64) * ((p_M_unit n1) : Int64))) : Int64))
set_option maxHeartbeats 4000000 in
set_option maxRecDepth 100000 in
theorem m_M_baseOf {l : Launch} {D : va_G} {a : Nat → Nat} {cA : Nat → ClassId} {B0 : Nat → Prop} {σ : Mem} {n1 : Int32} {n2 : Int32} : cL l y_M_baseOf (.code y_M_baseOf c_M_baseOf 6 (some FieldType.long) :: TG) (rmO 2 52) D (rwL a cA) (rty cA) B0 [.int n1, .int n2] σ (p_M_baseOf n1 n2, σ) := by
  refine cL_of (by decide) (Nat.le_of_ble_eq_true rfl) ?_
  intro p e s m args below meth c Q ls hx hb hF hl hs hret
  have hl : lv_has ls 6 [(0, .int n1), (1, .int n2)] := hl
  refine lv_iload_n hx hb d_M_baseOf_0 rfl (lv_at hl 0 rfl) ?_
  refine lv_iload_n hx hb d_M_baseOf_1 rfl (lv_at hl 1 rfl) ?_
  refine x_Slp hF hs v_M_window k_ml_M_51 (m_M_window) rfl rfl ⟨by decide, by decide⟩ rfl rfl hl.1 (Nat.le_of_ble_eq_true rfl) d_M_baseOf_2 ⟨Nat.zero_le _, Nat.zero_le _⟩ (fun H locs hs => ?_)
  refine lv_lstore_n (lv' := [(2, _), (0, _), (1, _)]) hx hb d_M_baseOf_5 rfl hl (by decide) rfl (fun ls hl => ?_)
  refine lv_iload_n hx hb d_M_baseOf_6 rfl (lv_at hl 1 rfl) ?_
  refine x_Slp hF hs v_M_unit k_ml_M_38 (m_M_unit) rfl rfl ⟨by decide, by decide⟩ rfl rfl hl.1 (Nat.le_of_ble_eq_true rfl) d_M_baseOf_7 ⟨Nat.zero_le _, Nat.zero_le _⟩ (fun H locs hs => ?_)
  refine lv_lstore (lv' := [(4, _), (2, _), (0, _), (1, _)]) hx hb d_M_baseOf_10 hl (by decide) rfl (fun ls hl => ?_)
  refine lv_lload_n hx hb d_M_baseOf_12 rfl (lv_at hl 1 rfl) ?_
  refine lv_iload_n hx hb d_M_baseOf_13 rfl (lv_at hl 2 rfl) ?_
  refine lv_bipush (v := 17) hx hb d_M_baseOf_14 (by decide) ?_
  refine lv_ishr hx hb d_M_baseOf_16 ?_
  refine lv_bipush (v := 127) hx hb d_M_baseOf_17 (by decide) ?_
  refine lv_iand hx hb d_M_baseOf_19 ?_
  refine lv_i2l hx hb d_M_baseOf_20 rfl ?_
  refine lv_lload hx hb d_M_baseOf_21 (lv_at hl 0 rfl) ?_
  refine lv_lmul hx hb d_M_baseOf_23 ?_
  refine lv_lload_n hx hb d_M_baseOf_24 rfl (lv_at hl 1 rfl) ?_
  refine lv_lsub hx hb d_M_baseOf_25 ?_
  refine x_ldc2 hx hb hF k_cL_M_45 d_M_baseOf_26 ?_
  refine lv_lload hx hb d_M_baseOf_29 (lv_at hl 0 rfl) ?_
  refine lv_lmul hx hb d_M_baseOf_31 ?_
  refine x_Slp hF hs v_M_rest k_ml_M_47 (m_M_rest (u_128 _)) rfl rfl ⟨by decide, by decide⟩ rfl rfl hl.1 (Nat.le_of_ble_eq_true rfl) d_M_baseOf_32 ⟨Nat.zero_le _, Nat.zero_le _⟩ (fun H locs hs => ?_)
  refine lv_ladd hx hb d_M_baseOf_35 ?_
  refine hret _ _ _ _ _ _ hs ?_ d_M_baseOf_36
  exact pr_eq (rfl)
def p_M_topOf (n1 : Int32) (n2 : Int32) : Int64 :=
  ((p_M_window n1 n2) + ((p_M_rest (((((n1 >>> ((24 : Int32) &&& 31)) &&& (127 : Int32))).toInt64 * ((p_M_unit n1) : Int64)) - ((p_M_window n1 n2) : Int64)) ((128 : Int64) * ((p_M_unit n1) : Int64))) : Int64))
set_option maxHeartbeats 4000000 in
set_option maxRecDepth 100000 in
theorem m_M_topOf {l : Launch} {D : va_G} {a : Nat → Nat} {cA : Nat → ClassId} {B0 : Nat → Prop} {σ : Mem} {n1 : Int32} {n2 : Int32} : cL l y_M_topOf (.code y_M_topOf c_M_topOf 6 (some FieldType.long) :: TG) (rmO 2 52) D (rwL a cA) (rty cA) B0 [.int n1, .int n2] σ (p_M_topOf n1 n2, σ) := by
  refine cL_of (by decide) (Nat.le_of_ble_eq_true rfl) ?_
  intro p e s m args below meth c Q ls hx hb hF hl hs hret
  have hl : lv_has ls 6 [(0, .int n1), (1, .int n2)] := hl
  refine lv_iload_n hx hb d_M_topOf_0 rfl (lv_at hl 0 rfl) ?_
  refine lv_iload_n hx hb d_M_topOf_1 rfl (lv_at hl 1 rfl) ?_
  refine x_Slp hF hs v_M_window k_ml_M_51 (m_M_window) rfl rfl ⟨by decide, by decide⟩ rfl rfl hl.1 (Nat.le_of_ble_eq_true rfl) d_M_topOf_2 ⟨Nat.zero_le _, Nat.zero_le _⟩ (fun H locs hs => ?_)
  refine lv_lstore_n (lv' := [(2, _), (0, _), (1, _)]) hx hb d_M_topOf_5 rfl hl (by decide) rfl (fun ls hl => ?_)
  refine lv_iload_n hx hb d_M_topOf_6 rfl (lv_at hl 1 rfl) ?_
  refine x_Slp hF hs v_M_unit k_ml_M_38 (m_M_unit) rfl rfl ⟨by decide, by decide⟩ rfl rfl hl.1 (Nat.le_of_ble_eq_true rfl) d_M_topOf_7 ⟨Nat.zero_le _, Nat.zero_le _⟩ (fun H locs hs => ?_)
  refine lv_lstore (lv' := [(4, _), (2, _), (0, _), (1, _)]) hx hb d_M_topOf_10 hl (by decide) rfl (fun ls hl => ?_)
  refine lv_lload_n hx hb d_M_topOf_12 rfl (lv_at hl 1 rfl) ?_
  refine lv_iload_n hx hb d_M_topOf_13 rfl (lv_at hl 2 rfl) ?_
  refine lv_bipush (v := 24) hx hb d_M_topOf_14 (by decide) ?_
  refine lv_ishr hx hb d_M_topOf_16 ?_
  refine lv_bipush (v := 127) hx hb d_M_topOf_17 (by decide) ?_
  refine lv_iand hx hb d_M_topOf_19 ?_
  refine lv_i2l hx hb d_M_topOf_20 rfl ?_
  refine lv_lload hx hb d_M_topOf_21 (lv_at hl 0 rfl) ?_
  refine lv_lmul hx hb d_M_topOf_23 ?_
  refine lv_lload_n hx hb d_M_topOf_24 rfl (lv_at hl 1 rfl) ?_
  refine lv_lsub hx hb d_M_topOf_25 ?_
  refine x_ldc2 hx hb hF k_cL_M_45 d_M_topOf_26 ?_
  refine lv_lload hx hb d_M_topOf_29 (lv_at hl 0 rfl) ?_
  refine lv_lmul hx hb d_M_topOf_31 ?_
  refine x_Slp hF hs v_M_rest k_ml_M_47 (m_M_rest (u_128 _)) rfl rfl ⟨by decide, by decide⟩ rfl rfl hl.1 (Nat.le_of_ble_eq_true rfl) d_M_topOf_32 ⟨Nat.zero_le _, Nat.zero_le _⟩ (fun H locs hs => ?_)
  refine lv_ladd hx hb d_M_topOf_35 ?_
  refine hret _ _ _ _ _ _ hs ?_ d_M_topOf_36
  exact pr_eq (rfl)
def p_M_has (σ : Mem) (n1 : Int32) (n2 : Int32) : Int32 :=
  if ((σ 3 (n1 : Int32).toNatClampNeg) &&& (n2 : Int32)) = n2 then
    (1 : Int32)
  else
    (0 : Int32)
set_option maxHeartbeats 4000000 in
set_option maxRecDepth 100000 in
theorem m_M_has {l : Launch} {D : va_G} {a : Nat → Nat} {cA : Nat → ClassId} {B0 : Nat → Prop} {σ : Mem} {n1 : Int32} {n2 : Int32} (h_n1 : vp_in n1 12) : cI l y_M_has (.code y_M_has c_M_has 3 (some FieldType.boolean) :: TG) (rmO 0 0) D (rwL a cA) (rty cA) B0 [.ref (a 0), .int n1, .int n2] σ (p_M_has σ n1 n2, σ) := by
  refine cZ_of (by decide) (Nat.le_of_ble_eq_true rfl) ?_
  intro p e s m args below meth c Q ls hx hb hF hl hs hret
  have hl : lv_has ls 3 [(0, .ref (a 0)), (1, .int n1), (2, .int n2)] := hl
  refine lv_aload_n hx hb d_M_has_0 rfl (lv_at hl 0 rfl) ?_
  refine xg_M hx hb hF hs 1 (by decide) k_fl_M_13 rfl d_M_has_1 ?_
  refine lv_iload_n hx hb d_M_has_4 rfl (lv_at hl 1 rfl) ?_
  refine x3_ld hx hb hF hs h_n1 d_M_has_5 ?_
  refine lv_iload_n hx hb d_M_has_6 rfl (lv_at hl 2 rfl) ?_
  refine lv_iand hx hb d_M_has_7 ?_
  refine lv_iload_n hx hb d_M_has_8 rfl (lv_at hl 2 rfl) ?_
  refine lv_icmp_ne (tgt := 16) hx hb d_M_has_9 (by decide) (fun h1 => ?_) (fun h1 => ?_)
  · refine lv_iconst (v := 0) hx hb d_M_has_16 (by decide) ?_
    refine hret _ _ _ _ _ _ hs bo_0 ?_ d_M_has_17
    exact pr_eq ((if_neg h1).trans rfl)
  · refine lv_iconst (v := 1) hx hb d_M_has_12 (by decide) ?_
    refine lv_goto (tgt := 17) hx hb d_M_has_13 (by decide) ?_
    refine hret _ _ _ _ _ _ hs bo_1 ?_ d_M_has_17
    exact pr_eq ((if_pos h1).trans rfl)
def p_M_check (σ : Mem) (n1 : Int32) (n2 : Int32) (n3 : Int32) (n4 : Int32) : Int32 :=
  if (bo (σ 2 (n1 : Int32).toNatClampNeg)) = (0 : Int32) then
    (1 : Int32)
  else
    if (p_M_type (σ 3 (n1 : Int32).toNatClampNeg)) = (0 : Int32) then
      if (p_M_has σ n1 n2) = (0 : Int32) then
        (3 : Int32)
      else
        if (lg_cmp ((p_M_unsigned n4) - (p_M_unsigned n4) / (n3).toInt64 * (n3).toInt64) (0 : Int64)) = (0 : Int32) then
          if (lg_cmp (p_M_unsigned n4) (p_M_baseOf (σ 3 (n1 : Int32).toNatClampNeg) (σ 4 (n1 : Int32).toNatClampNeg))) < (0 : Int32) then
            (5 : Int32)
          else
            if (lg_cmp ((p_M_unsigned n4) + ((n3).toInt64 : Int64)) (p_M_topOf (σ 3 (n1 : Int32).toNatClampNeg) (σ 4 (n1 : Int32).toNatClampNeg))) ≤ (0 : Int32) then
              if (lg_cmp ((p_M_unsigned n4) + ((n3).toInt64 : Int64)) (1024 : Int64)) ≤ (0 : Int32) then
                (0 : Int32)
              else
                (6 : Int32)
            else
              (5 : Int32)
        else
          (4 : Int32)
    else
      (2 : Int32)
set_option maxHeartbeats 4000000 in
set_option maxRecDepth 100000 in
theorem m_M_check {l : Launch} {D : va_G} {a : Nat → Nat} {cA : Nat → ClassId} {B0 : Nat → Prop} {σ : Mem} {n1 : Int32} {n2 : Int32} {n3 : Int32} {n4 : Int32} (h_n1 : vp_in n1 12) (h_n3 : ¬ n3.toInt64 = 0) : cI l y_M_check (.code y_M_check c_M_check 7 (some FieldType.int) :: TG) (rmO 3 77) D (rwL a cA) (rty cA) B0 [.ref (a 0), .int n1, .int n2, .int n3, .int n4] σ (p_M_check σ n1 n2 n3 n4, σ) := by
  refine cI_of (by decide) (Nat.le_of_ble_eq_true rfl) ?_
  intro p e s m args below meth c Q ls hx hb hF hl hs hret
  have hl : lv_has ls 7 [(0, .ref (a 0)), (1, .int n1), (2, .int n2), (3, .int n3), (4, .int n4)] := hl
  refine lv_iload hx hb d_M_check_0 (lv_at hl 4 rfl) ?_
  refine x_Slp hF hs v_M_unsigned k_ml_M_42 (m_M_unsigned) rfl rfl ⟨by decide, by decide⟩ rfl rfl hl.1 (Nat.le_of_ble_eq_true rfl) d_M_check_2 ⟨Nat.zero_le _, Nat.zero_le _⟩ (fun H locs hs => ?_)
  refine lv_lstore (lv' := [(5, _), (0, _), (1, _), (2, _), (3, _), (4, _)]) hx hb d_M_check_5 hl (by decide) rfl (fun ls hl => ?_)
  refine lv_aload_n hx hb d_M_check_7 rfl (lv_at hl 1 rfl) ?_
  refine xg_M hx hb hF hs 2 (by decide) k_fl_M_16 rfl d_M_check_8 ?_
  refine lv_iload_n hx hb d_M_check_11 rfl (lv_at hl 2 rfl) ?_
  refine x2_ld hx hb hF hs h_n1 d_M_check_12 ?_
  refine lv_if_ne (tgt := 18) hx hb d_M_check_13 (by decide) (fun h1 => ?_) (fun h1 => ?_)
  · refine lv_aload_n hx hb d_M_check_18 rfl (lv_at hl 1 rfl) ?_
    refine xg_M hx hb hF hs 1 (by decide) k_fl_M_13 rfl d_M_check_19 ?_
    refine lv_iload_n hx hb d_M_check_22 rfl (lv_at hl 2 rfl) ?_
    refine x3_ld hx hb hF hs h_n1 d_M_check_23 ?_
    refine x_Sip hF hs v_M_type k_ml_M_57 (m_M_type) rfl rfl ⟨by decide, by decide⟩ rfl rfl hl.1 (Nat.le_of_ble_eq_true rfl) d_M_check_24 ⟨Nat.zero_le _, Nat.zero_le _⟩ (fun H locs hs => ?_)
    refine lv_if_eq (tgt := 32) hx hb d_M_check_27 (by decide) (fun h2 => ?_) (fun h2 => ?_)
    · refine lv_aload_n hx hb d_M_check_32 rfl (lv_at hl 1 rfl) ?_
      refine lv_iload_n hx hb d_M_check_33 rfl (lv_at hl 2 rfl) ?_
      refine lv_iload_n hx hb d_M_check_34 rfl (lv_at hl 3 rfl) ?_
      refine x_Vip hF hs v_M_has k_ml_M_61 (m_M_has h_n1) rfl rfl ⟨by decide, by decide⟩ rfl rfl hl.1 (Nat.le_of_ble_eq_true rfl) rM d_M_check_35 ⟨Nat.zero_le _, Nat.zero_le _⟩ (fun H locs hs => ?_)
      refine lv_if_ne (tgt := 43) hx hb d_M_check_38 (by decide) (fun h3 => ?_) (fun h3 => ?_)
      · refine lv_lload hx hb d_M_check_43 (lv_at hl 0 rfl) ?_
        refine lv_iload_n hx hb d_M_check_45 rfl (lv_at hl 4 rfl) ?_
        refine lv_i2l hx hb d_M_check_46 rfl ?_
        refine lv_lrem hx hb d_M_check_47 h_n3 ?_
        refine lv_lconst (v := 0) hx hb d_M_check_48 (by decide) ?_
        refine W.lcmp hx hb d_M_check_49 ?_
        refine lv_if_eq (tgt := 55) hx hb d_M_check_50 (by decide) (fun h4 => ?_) (fun h4 => ?_)
        · refine lv_lload hx hb d_M_check_55 (lv_at hl 0 rfl) ?_
          refine lv_aload_n hx hb d_M_check_57 rfl (lv_at hl 1 rfl) ?_
          refine xg_M hx hb hF hs 1 (by decide) k_fl_M_13 rfl d_M_check_58 ?_
          refine lv_iload_n hx hb d_M_check_61 rfl (lv_at hl 2 rfl) ?_
          refine x3_ld hx hb hF hs h_n1 d_M_check_62 ?_
          refine lv_aload_n hx hb d_M_check_63 rfl (lv_at hl 1 rfl) ?_
          refine xg_M hx hb hF hs 0 (by decide) k_fl_M_7 rfl d_M_check_64 ?_
          refine lv_iload_n hx hb d_M_check_67 rfl (lv_at hl 2 rfl) ?_
          refine x4_ld hx hb hF hs h_n1 d_M_check_68 ?_
          refine x_Slp hF hs v_M_baseOf k_ml_M_65 (m_M_baseOf) rfl rfl ⟨by decide, by decide⟩ rfl rfl hl.1 (Nat.le_of_ble_eq_true rfl) d_M_check_69 ⟨Nat.zero_le _, Nat.zero_le _⟩ (fun H locs hs => ?_)
          refine W.lcmp hx hb d_M_check_72 ?_
          refine lv_if_lt (tgt := 100) hx hb d_M_check_73 (by decide) (fun h5 => ?_) (fun h5 => ?_)
          · refine lv_iconst (v := 5) hx hb d_M_check_100 (by decide) ?_
            refine hret _ _ _ _ _ _ hs ?_ d_M_check_101
            exact pr_eq ((if_neg h1).trans ((if_pos h2).trans ((if_neg h3).trans ((if_pos h4).trans ((if_pos h5).trans rfl)))))
          · refine lv_lload hx hb d_M_check_76 (lv_at hl 0 rfl) ?_
            refine lv_iload_n hx hb d_M_check_78 rfl (lv_at hl 4 rfl) ?_
            refine lv_i2l hx hb d_M_check_79 rfl ?_
            refine lv_ladd hx hb d_M_check_80 ?_
            refine lv_aload_n hx hb d_M_check_81 rfl (lv_at hl 1 rfl) ?_
            refine xg_M hx hb hF hs 1 (by decide) k_fl_M_13 rfl d_M_check_82 ?_
            refine lv_iload_n hx hb d_M_check_85 rfl (lv_at hl 2 rfl) ?_
            refine x3_ld hx hb hF hs h_n1 d_M_check_86 ?_
            refine lv_aload_n hx hb d_M_check_87 rfl (lv_at hl 1 rfl) ?_
            refine xg_M hx hb hF hs 0 (by decide) k_fl_M_7 rfl d_M_check_88 ?_
            refine lv_iload_n hx hb d_M_check_91 rfl (lv_at hl 2 rfl) ?_
            refine x4_ld hx hb hF hs h_n1 d_M_check_92 ?_
            refine x_Slp hF hs v_M_topOf k_ml_M_68 (m_M_topOf) rfl rfl ⟨by decide, by decide⟩ rfl rfl hl.1 (Nat.le_of_ble_eq_true rfl) d_M_check_93 ⟨Nat.zero_le _, Nat.zero_le _⟩ (fun H locs hs => ?_)
            refine W.lcmp hx hb d_M_check_96 ?_
            refine lv_if_le (tgt := 102) hx hb d_M_check_97 (by decide) (fun h6 => ?_) (fun h6 => ?_)
            · refine lv_lload hx hb d_M_check_102 (lv_at hl 0 rfl) ?_
              refine lv_iload_n hx hb d_M_check_104 rfl (lv_at hl 4 rfl) ?_
              refine lv_i2l hx hb d_M_check_105 rfl ?_
              refine lv_ladd hx hb d_M_check_106 ?_
              refine x_ldc2 hx hb hF k_cL_M_30 d_M_check_107 ?_
              refine W.lcmp hx hb d_M_check_110 ?_
              refine lv_if_le (tgt := 119) hx hb d_M_check_111 (by decide) (fun h7 => ?_) (fun h7 => ?_)
              · refine lv_iconst (v := 0) hx hb d_M_check_119 (by decide) ?_
                refine hret _ _ _ _ _ _ hs ?_ d_M_check_120
                exact pr_eq ((if_neg h1).trans ((if_pos h2).trans ((if_neg h3).trans ((if_pos h4).trans ((if_neg h5).trans ((if_pos h6).trans ((if_pos h7).trans rfl)))))))
              · refine lv_bipush (v := 6) hx hb d_M_check_114 (by decide) ?_
                refine lv_goto (tgt := 120) hx hb d_M_check_116 (by decide) ?_
                refine hret _ _ _ _ _ _ hs ?_ d_M_check_120
                exact pr_eq ((if_neg h1).trans ((if_pos h2).trans ((if_neg h3).trans ((if_pos h4).trans ((if_neg h5).trans ((if_pos h6).trans ((if_neg h7).trans rfl)))))))
            · refine lv_iconst (v := 5) hx hb d_M_check_100 (by decide) ?_
              refine hret _ _ _ _ _ _ hs ?_ d_M_check_101
              exact pr_eq ((if_neg h1).trans ((if_pos h2).trans ((if_neg h3).trans ((if_pos h4).trans ((if_neg h5).trans ((if_neg h6).trans rfl))))))
        · refine lv_iconst (v := 4) hx hb d_M_check_53 (by decide) ?_
          refine hret _ _ _ _ _ _ hs ?_ d_M_check_54
          exact pr_eq ((if_neg h1).trans ((if_pos h2).trans ((if_neg h3).trans ((if_neg h4).trans rfl))))
      · refine lv_iconst (v := 3) hx hb d_M_check_41 (by decide) ?_
        refine hret _ _ _ _ _ _ hs ?_ d_M_check_42
        exact pr_eq ((if_neg h1).trans ((if_pos h2).trans ((if_pos h3).trans rfl)))
    · refine lv_iconst (v := 2) hx hb d_M_check_30 (by decide) ?_
      refine hret _ _ _ _ _ _ hs ?_ d_M_check_31
      exact pr_eq ((if_neg h1).trans ((if_neg h2).trans rfl))
  · refine lv_iconst (v := 1) hx hb d_M_check_16 (by decide) ?_
    refine hret _ _ _ _ _ _ hs ?_ d_M_check_17
    exact pr_eq ((if_pos h1).trans rfl)
def p_M_of (n1 : Int32) (n2 : Int32) : Int32 :=
  if n2 = (0 : Int32) then
    (0 : Int32)
  else
    (n2 + (((16 : Int32) * (n1 : Int32)) : Int32))
set_option maxHeartbeats 4000000 in
set_option maxRecDepth 100000 in
theorem m_M_of {l : Launch} {D : va_G} {a : Nat → Nat} {cA : Nat → ClassId} {B0 : Nat → Prop} {σ : Mem} {n1 : Int32} {n2 : Int32} : cI l y_M_of (.code y_M_of c_M_of 2 (some FieldType.int) :: TG) (rmO 0 0) D (rwL a cA) (rty cA) B0 [.int n1, .int n2] σ (p_M_of n1 n2, σ) := by
  refine cI_of (by decide) (Nat.le_of_ble_eq_true rfl) ?_
  intro p e s m args below meth c Q ls hx hb hF hl hs hret
  have hl : lv_has ls 2 [(0, .int n1), (1, .int n2)] := hl
  refine lv_iload_n hx hb d_M_of_0 rfl (lv_at hl 1 rfl) ?_
  refine lv_if_ne (tgt := 8) hx hb d_M_of_1 (by decide) (fun h1 => ?_) (fun h1 => ?_)
  · refine lv_iload_n hx hb d_M_of_8 rfl (lv_at hl 1 rfl) ?_
    refine lv_bipush (v := 16) hx hb d_M_of_9 (by decide) ?_
    refine lv_iload_n hx hb d_M_of_11 rfl (lv_at hl 0 rfl) ?_
    refine lv_imul hx hb d_M_of_12 ?_
    refine lv_iadd hx hb d_M_of_13 ?_
    refine hret _ _ _ _ _ _ hs ?_ d_M_of_14
    exact pr_eq ((if_neg h1).trans rfl)
  · refine lv_iconst (v := 0) hx hb d_M_of_4 (by decide) ?_
    refine lv_goto (tgt := 14) hx hb d_M_of_5 (by decide) ?_
    refine hret _ _ _ _ _ _ hs ?_ d_M_of_14
    exact pr_eq ((if_pos h1).trans rfl)
def p_M_take (σ : Mem) (n1 : Int32) : Mem :=
  let σ1 : Mem := wr σ 6 0 (σ 4 (n1 : Int32).toNatClampNeg);
  let σ2 : Mem := wr σ1 6 1 (σ1 3 (n1 : Int32).toNatClampNeg);
  let σ3 : Mem := wr σ2 6 2 (bo (σ2 2 (n1 : Int32).toNatClampNeg));
  σ3
set_option maxHeartbeats 4000000 in
set_option maxRecDepth 100000 in
theorem m_M_take {l : Launch} {D : va_G} {a : Nat → Nat} {cA : Nat → ClassId} {B0 : Nat → Prop} {σ : Mem} {n1 : Int32} (h_n1 : vp_in n1 12) : cV l y_M_take (.code y_M_take c_M_take 2 (none) :: TG) (rmO 0 0) D (rwL a cA) (rty cA) B0 [.ref (a 0), .int n1] σ (p_M_take σ n1) := by
  refine cV_of (by decide) (Nat.le_of_ble_eq_true rfl) ?_
  intro p e s m args below meth c Q ls hx hb hF hl hs hret
  have hl : lv_has ls 2 [(0, .ref (a 0)), (1, .int n1)] := hl
  refine lv_aload_n hx hb d_M_take_0 rfl (lv_at hl 0 rfl) ?_
  refine lv_aload_n hx hb d_M_take_1 rfl (lv_at hl 0 rfl) ?_
  refine xg_M hx hb hF hs 0 (by decide) k_fl_M_7 rfl d_M_take_2 ?_
  refine lv_iload_n hx hb d_M_take_5 rfl (lv_at hl 1 rfl) ?_
  refine x4_ld hx hb hF hs h_n1 d_M_take_6 ?_
  refine xp_M6 hx hb hF hs 0 (by decide) k_fl_M_71 d_M_take_7 (fun H locs hs => ?_)
  refine lv_aload_n hx hb d_M_take_10 rfl (lv_at hl 0 rfl) ?_
  refine lv_aload_n hx hb d_M_take_11 rfl (lv_at hl 0 rfl) ?_
  refine xg_M hx hb hF hs 1 (by decide) k_fl_M_13 rfl d_M_take_12 ?_
  refine lv_iload_n hx hb d_M_take_15 rfl (lv_at hl 1 rfl) ?_
  refine x3_ld hx hb hF hs h_n1 d_M_take_16 ?_
  refine xp_M6 hx hb hF hs 1 (by decide) k_fl_M_75 d_M_take_17 (fun H locs hs => ?_)
  refine lv_aload_n hx hb d_M_take_20 rfl (lv_at hl 0 rfl) ?_
  refine lv_aload_n hx hb d_M_take_21 rfl (lv_at hl 0 rfl) ?_
  refine xg_M hx hb hF hs 2 (by decide) k_fl_M_16 rfl d_M_take_22 ?_
  refine lv_iload_n hx hb d_M_take_25 rfl (lv_at hl 1 rfl) ?_
  refine x2_ld hx hb hF hs h_n1 d_M_take_26 ?_
  refine xp_M62 hx hb hF hs k_fl_M_78 (bo_bo _) d_M_take_27 (fun H locs hs => ?_)
  refine hret _ _ _ _ _ hs ?_ d_M_take_30
  exact rfl
def p_M_number (σ : Mem) (n1 : Int32) : Mem :=
  let σ1 : Mem := wr σ 6 0 n1;
  let σ2 : Mem := wr σ1 6 1 (0 : Int32);
  let σ3 : Mem := wr σ2 6 2 (0 : Int32);
  σ3
set_option maxHeartbeats 4000000 in
set_option maxRecDepth 100000 in
theorem m_M_number {l : Launch} {D : va_G} {a : Nat → Nat} {cA : Nat → ClassId} {B0 : Nat → Prop} {σ : Mem} {n1 : Int32} : cV l y_M_number (.code y_M_number c_M_number 2 (none) :: TG) (rmO 0 0) D (rwL a cA) (rty cA) B0 [.ref (a 0), .int n1] σ (p_M_number σ n1) := by
  refine cV_of (by decide) (Nat.le_of_ble_eq_true rfl) ?_
  intro p e s m args below meth c Q ls hx hb hF hl hs hret
  have hl : lv_has ls 2 [(0, .ref (a 0)), (1, .int n1)] := hl
  refine lv_aload_n hx hb d_M_number_0 rfl (lv_at hl 0 rfl) ?_
  refine lv_iload_n hx hb d_M_number_1 rfl (lv_at hl 1 rfl) ?_
  refine xp_M6 hx hb hF hs 0 (by decide) k_fl_M_71 d_M_number_2 (fun H locs hs => ?_)
  refine lv_aload_n hx hb d_M_number_5 rfl (lv_at hl 0 rfl) ?_
  refine lv_iconst (v := 0) hx hb d_M_number_6 (by decide) ?_
  refine xp_M6 hx hb hF hs 1 (by decide) k_fl_M_75 d_M_number_7 (fun H locs hs => ?_)
  refine lv_aload_n hx hb d_M_number_10 rfl (lv_at hl 0 rfl) ?_
  refine lv_iconst (v := 0) hx hb d_M_number_11 (by decide) ?_
  refine xp_M62 hx hb hF hs k_fl_M_78 bo_0 d_M_number_12 (fun H locs hs => ?_)
  refine hret _ _ _ _ _ hs ?_ d_M_number_15
  exact rfl
def p_M_move (σ : Mem) (n1 : Int32) : Mem :=
  let σ1 : Mem := wr σ 6 0 n1;
  if (bo (σ1 6 2)) = (0 : Int32) then
    let σ2 : Mem := wr σ1 6 2 (0 : Int32);
    σ2
  else
    if (p_M_type (σ1 6 1)) = (0 : Int32) then
      if (lg_cmp (p_M_baseOf (σ1 6 1) n1) (p_M_baseOf (σ 6 1) (σ 6 0))) = (0 : Int32) then
        if (lg_cmp (p_M_topOf (σ1 6 1) n1) (p_M_topOf (σ 6 1) (σ 6 0))) = (0 : Int32) then
          let σ6 : Mem := wr σ1 6 2 (1 : Int32);
          σ6
        else
          let σ5 : Mem := wr σ1 6 2 (0 : Int32);
          σ5
      else
        let σ4 : Mem := wr σ1 6 2 (0 : Int32);
        σ4
    else
      let σ3 : Mem := wr σ1 6 2 (0 : Int32);
      σ3
set_option maxHeartbeats 4000000 in
set_option maxRecDepth 100000 in
theorem m_M_move {l : Launch} {D : va_G} {a : Nat → Nat} {cA : Nat → ClassId} {B0 : Nat → Prop} {σ : Mem} {n1 : Int32} : cV l y_M_move (.code y_M_move c_M_move 6 (none) :: TG) (rmO 3 77) D (rwL a cA) (rty cA) B0 [.ref (a 0), .int n1] σ (p_M_move σ n1) := by
  refine cV_of (by decide) (Nat.le_of_ble_eq_true rfl) ?_
  intro p e s m args below meth c Q ls hx hb hF hl hs hret
  have hl : lv_has ls 6 [(0, .ref (a 0)), (1, .int n1)] := hl
  refine lv_aload_n hx hb d_M_move_0 rfl (lv_at hl 0 rfl) ?_
  refine xg_M hx hb hF hs 10 (by decide) k_fl_M_75 rfl d_M_move_1 ?_
  refine lv_aload_n hx hb d_M_move_4 rfl (lv_at hl 0 rfl) ?_
  refine xg_M hx hb hF hs 9 (by decide) k_fl_M_71 rfl d_M_move_5 ?_
  refine x_Slp hF hs v_M_baseOf k_ml_M_65 (m_M_baseOf) rfl rfl ⟨by decide, by decide⟩ rfl rfl hl.1 (Nat.le_of_ble_eq_true rfl) d_M_move_8 ⟨Nat.zero_le _, Nat.zero_le _⟩ (fun H locs hs => ?_)
  refine lv_lstore_n (lv' := [(2, _), (0, _), (1, _)]) hx hb d_M_move_11 rfl hl (by decide) rfl (fun ls hl => ?_)
  refine lv_aload_n hx hb d_M_move_12 rfl (lv_at hl 1 rfl) ?_
  refine xg_M hx hb hF hs 10 (by decide) k_fl_M_75 rfl d_M_move_13 ?_
  refine lv_aload_n hx hb d_M_move_16 rfl (lv_at hl 1 rfl) ?_
  refine xg_M hx hb hF hs 9 (by decide) k_fl_M_71 rfl d_M_move_17 ?_
  refine x_Slp hF hs v_M_topOf k_ml_M_68 (m_M_topOf) rfl rfl ⟨by decide, by decide⟩ rfl rfl hl.1 (Nat.le_of_ble_eq_true rfl) d_M_move_20 ⟨Nat.zero_le _, Nat.zero_le _⟩ (fun H locs hs => ?_)
  refine lv_lstore (lv' := [(4, _), (2, _), (0, _), (1, _)]) hx hb d_M_move_23 hl (by decide) rfl (fun ls hl => ?_)
  refine lv_aload_n hx hb d_M_move_25 rfl (lv_at hl 2 rfl) ?_
  refine lv_iload_n hx hb d_M_move_26 rfl (lv_at hl 3 rfl) ?_
  refine xp_M6 hx hb hF hs 0 (by decide) k_fl_M_71 d_M_move_27 (fun H locs hs => ?_)
  refine lv_aload_n hx hb d_M_move_30 rfl (lv_at hl 2 rfl) ?_
  refine lv_aload_n hx hb d_M_move_31 rfl (lv_at hl 2 rfl) ?_
  refine xg_M hx hb hF hs 11 (by decide) k_fl_M_78 rfl d_M_move_32 ?_
  refine lv_if_eq (tgt := 79) hx hb d_M_move_35 (by decide) (fun h1 => ?_) (fun h1 => ?_)
  · refine lv_iconst (v := 0) hx hb d_M_move_79 (by decide) ?_
    refine xp_M62 hx hb hF hs k_fl_M_78 bo_0 d_M_move_80 (fun H locs hs => ?_)
    refine hret _ _ _ _ _ hs ?_ d_M_move_83
    exact (if_pos h1).trans rfl
  · refine lv_aload_n hx hb d_M_move_38 rfl (lv_at hl 2 rfl) ?_
    refine xg_M hx hb hF hs 10 (by decide) k_fl_M_75 rfl d_M_move_39 ?_
    refine x_Sip hF hs v_M_type k_ml_M_57 (m_M_type) rfl rfl ⟨by decide, by decide⟩ rfl rfl hl.1 (Nat.le_of_ble_eq_true rfl) d_M_move_42 ⟨Nat.zero_le _, Nat.zero_le _⟩ (fun H locs hs => ?_)
    refine lv_if_ne (tgt := 79) hx hb d_M_move_45 (by decide) (fun h2 => ?_) (fun h2 => ?_)
    · refine lv_iconst (v := 0) hx hb d_M_move_79 (by decide) ?_
      refine xp_M62 hx hb hF hs k_fl_M_78 bo_0 d_M_move_80 (fun H locs hs => ?_)
      refine hret _ _ _ _ _ hs ?_ d_M_move_83
      exact (if_neg h1).trans ((if_neg h2).trans rfl)
    · refine lv_aload_n hx hb d_M_move_48 rfl (lv_at hl 2 rfl) ?_
      refine xg_M hx hb hF hs 10 (by decide) k_fl_M_75 rfl d_M_move_49 ?_
      refine lv_iload_n hx hb d_M_move_52 rfl (lv_at hl 3 rfl) ?_
      refine x_Slp hF hs v_M_baseOf k_ml_M_65 (m_M_baseOf) rfl rfl ⟨by decide, by decide⟩ rfl rfl hl.1 (Nat.le_of_ble_eq_true rfl) d_M_move_53 ⟨Nat.zero_le _, Nat.zero_le _⟩ (fun H locs hs => ?_)
      refine lv_lload_n hx hb d_M_move_56 rfl (lv_at hl 1 rfl) ?_
      refine W.lcmp hx hb d_M_move_57 ?_
      refine lv_if_ne (tgt := 79) hx hb d_M_move_58 (by decide) (fun h3 => ?_) (fun h3 => ?_)
      · refine lv_iconst (v := 0) hx hb d_M_move_79 (by decide) ?_
        refine xp_M62 hx hb hF hs k_fl_M_78 bo_0 d_M_move_80 (fun H locs hs => ?_)
        refine hret _ _ _ _ _ hs ?_ d_M_move_83
        exact (if_neg h1).trans ((if_pos h2).trans ((if_neg h3).trans rfl))
      · refine lv_aload_n hx hb d_M_move_61 rfl (lv_at hl 2 rfl) ?_
        refine xg_M hx hb hF hs 10 (by decide) k_fl_M_75 rfl d_M_move_62 ?_
        refine lv_iload_n hx hb d_M_move_65 rfl (lv_at hl 3 rfl) ?_
        refine x_Slp hF hs v_M_topOf k_ml_M_68 (m_M_topOf) rfl rfl ⟨by decide, by decide⟩ rfl rfl hl.1 (Nat.le_of_ble_eq_true rfl) d_M_move_66 ⟨Nat.zero_le _, Nat.zero_le _⟩ (fun H locs hs => ?_)
        refine lv_lload hx hb d_M_move_69 (lv_at hl 0 rfl) ?_
        refine W.lcmp hx hb d_M_move_71 ?_
        refine lv_if_ne (tgt := 79) hx hb d_M_move_72 (by decide) (fun h4 => ?_) (fun h4 => ?_)
        · refine lv_iconst (v := 0) hx hb d_M_move_79 (by decide) ?_
          refine xp_M62 hx hb hF hs k_fl_M_78 bo_0 d_M_move_80 (fun H locs hs => ?_)
          refine hret _ _ _ _ _ hs ?_ d_M_move_83
          exact (if_neg h1).trans ((if_pos h2).trans ((if_pos h3).trans ((if_neg h4).trans rfl)))
        · refine lv_iconst (v := 1) hx hb d_M_move_75 (by decide) ?_
          refine lv_goto (tgt := 80) hx hb d_M_move_76 (by decide) ?_
          refine xp_M62 hx hb hF hs k_fl_M_78 bo_1 d_M_move_80 (fun H locs hs => ?_)
          refine hret _ _ _ _ _ hs ?_ d_M_move_83
          exact (if_neg h1).trans ((if_pos h2).trans ((if_pos h3).trans ((if_pos h4).trans rfl)))
def p_M_typed (σ : Mem) (n1 : Int32) (n2 : Int32) : Mem :=
  let σ1 : Mem := wr σ 6 1 ((n1 &&& ((-3841) : Int32)) ||| ((n2 <<< ((8 : Int32) &&& 31)) : Int32));
  σ1
set_option maxHeartbeats 4000000 in
set_option maxRecDepth 100000 in
theorem m_M_typed {l : Launch} {D : va_G} {a : Nat → Nat} {cA : Nat → ClassId} {B0 : Nat → Prop} {σ : Mem} {n1 : Int32} {n2 : Int32} : cV l y_M_typed (.code y_M_typed c_M_typed 3 (none) :: TG) (rmO 0 0) D (rwL a cA) (rty cA) B0 [.ref (a 0), .int n1, .int n2] σ (p_M_typed σ n1 n2) := by
  refine cV_of (by decide) (Nat.le_of_ble_eq_true rfl) ?_
  intro p e s m args below meth c Q ls hx hb hF hl hs hret
  have hl : lv_has ls 3 [(0, .ref (a 0)), (1, .int n1), (2, .int n2)] := hl
  refine lv_aload_n hx hb d_M_typed_0 rfl (lv_at hl 0 rfl) ?_
  refine lv_iload_n hx hb d_M_typed_1 rfl (lv_at hl 1 rfl) ?_
  refine lv_sipush (v := (-3841)) hx hb d_M_typed_2 (by decide) ?_
  refine lv_iand hx hb d_M_typed_5 ?_
  refine lv_iload_n hx hb d_M_typed_6 rfl (lv_at hl 2 rfl) ?_
  refine lv_bipush (v := 8) hx hb d_M_typed_7 (by decide) ?_
  refine lv_ishl hx hb d_M_typed_9 ?_
  refine lv_ior hx hb d_M_typed_10 ?_
  refine xp_M6 hx hb hF hs 1 (by decide) k_fl_M_75 d_M_typed_11 (fun H locs hs => ?_)
  refine hret _ _ _ _ _ hs ?_ d_M_typed_14
  exact rfl
def p_M_put (σ : Mem) (n1 : Int32) : Mem :=
  if n1 ≤ (0 : Int32) then
    σ
  else
    let σ1 : Mem := wr σ 4 (n1 : Int32).toNatClampNeg (σ 6 0);
    let σ2 : Mem := wr σ1 3 (n1 : Int32).toNatClampNeg (σ1 6 1);
    let σ3 : Mem := wr σ2 2 (n1 : Int32).toNatClampNeg (bo (σ2 6 2));
    σ3
set_option maxHeartbeats 4000000 in
set_option maxRecDepth 100000 in
theorem m_M_put {l : Launch} {D : va_G} {a : Nat → Nat} {cA : Nat → ClassId} {B0 : Nat → Prop} {σ : Mem} {n1 : Int32} (h_n1 : vp_in n1 12) : cV l y_M_put (.code y_M_put c_M_put 2 (none) :: TG) (rmO 0 0) D (rwL a cA) (rty cA) B0 [.ref (a 0), .int n1] σ (p_M_put σ n1) := by
  refine cV_of (by decide) (Nat.le_of_ble_eq_true rfl) ?_
  intro p e s m args below meth c Q ls hx hb hF hl hs hret
  have hl : lv_has ls 2 [(0, .ref (a 0)), (1, .int n1)] := hl
  refine lv_iload_n hx hb d_M_put_0 rfl (lv_at hl 1 rfl) ?_
  refine lv_if_le (tgt := 34) hx hb d_M_put_1 (by decide) (fun h1 => ?_) (fun h1 => ?_)
  · refine hret _ _ _ _ _ hs ?_ d_M_put_34
    exact (if_pos h1).trans rfl
  · refine lv_aload_n hx hb d_M_put_4 rfl (lv_at hl 0 rfl) ?_
    refine xg_M hx hb hF hs 0 (by decide) k_fl_M_7 rfl d_M_put_5 ?_
    refine lv_iload_n hx hb d_M_put_8 rfl (lv_at hl 1 rfl) ?_
    refine lv_aload_n hx hb d_M_put_9 rfl (lv_at hl 0 rfl) ?_
    refine xg_M hx hb hF hs 9 (by decide) k_fl_M_71 rfl d_M_put_10 ?_
    refine x4_st hx hb hF hs h_n1 d_M_put_13 (fun H locs hs => ?_)
    refine lv_aload_n hx hb d_M_put_14 rfl (lv_at hl 0 rfl) ?_
    refine xg_M hx hb hF hs 1 (by decide) k_fl_M_13 rfl d_M_put_15 ?_
    refine lv_iload_n hx hb d_M_put_18 rfl (lv_at hl 1 rfl) ?_
    refine lv_aload_n hx hb d_M_put_19 rfl (lv_at hl 0 rfl) ?_
    refine xg_M hx hb hF hs 10 (by decide) k_fl_M_75 rfl d_M_put_20 ?_
    refine x3_st hx hb hF hs h_n1 d_M_put_23 (fun H locs hs => ?_)
    refine lv_aload_n hx hb d_M_put_24 rfl (lv_at hl 0 rfl) ?_
    refine xg_M hx hb hF hs 2 (by decide) k_fl_M_16 rfl d_M_put_25 ?_
    refine lv_iload_n hx hb d_M_put_28 rfl (lv_at hl 1 rfl) ?_
    refine lv_aload_n hx hb d_M_put_29 rfl (lv_at hl 0 rfl) ?_
    refine xg_M hx hb hF hs 11 (by decide) k_fl_M_78 rfl d_M_put_30 ?_
    refine x2_st hx hb hF hs h_n1 d_M_put_33 (fun H locs hs => ?_)
    refine hret _ _ _ _ _ hs ?_ d_M_put_34
    exact (if_neg h1).trans rfl
def p_M_go (σ : Mem) (n1 : Int32) : Mem :=
  let σ1 : Mem := p_M_take σ (8 : Int32);
  let σ2 : Mem := p_M_move σ1 ((σ1 4 ((8 : Int32) : Int32).toNatClampNeg) + (n1 : Int32));
  let σ3 : Mem := p_M_put σ2 (8 : Int32);
  σ3
set_option maxHeartbeats 4000000 in
set_option maxRecDepth 100000 in
theorem m_M_go {l : Launch} {D : va_G} {a : Nat → Nat} {cA : Nat → ClassId} {B0 : Nat → Prop} {σ : Mem} {n1 : Int32} : cV l y_M_go (.code y_M_go c_M_go 2 (none) :: TG) (rmO 4 102) D (rwL a cA) (rty cA) B0 [.ref (a 0), .int n1] σ (p_M_go σ n1) := by
  refine cV_of (by decide) (Nat.le_of_ble_eq_true rfl) ?_
  intro p e s m args below meth c Q ls hx hb hF hl hs hret
  have hl : lv_has ls 2 [(0, .ref (a 0)), (1, .int n1)] := hl
  refine lv_aload_n hx hb d_M_go_0 rfl (lv_at hl 0 rfl) ?_
  refine lv_bipush (v := 8) hx hb d_M_go_1 (by decide) ?_
  refine x_Vv hF hs v_M_take k_ml_M_82 (m_M_take ic_8_12) rfl rfl ⟨by decide, by decide⟩ rfl rfl hl.1 (Nat.le_of_ble_eq_true rfl) rM d_M_go_3 ⟨Nat.zero_le _, Nat.zero_le _⟩ (fun H locs hs => ?_)
  refine lv_aload_n hx hb d_M_go_6 rfl (lv_at hl 0 rfl) ?_
  refine lv_aload_n hx hb d_M_go_7 rfl (lv_at hl 0 rfl) ?_
  refine xg_M hx hb hF hs 0 (by decide) k_fl_M_7 rfl d_M_go_8 ?_
  refine lv_bipush (v := 8) hx hb d_M_go_11 (by decide) ?_
  refine x4_ld hx hb hF hs ic_8_12 d_M_go_13 ?_
  refine lv_iload_n hx hb d_M_go_14 rfl (lv_at hl 1 rfl) ?_
  refine lv_iadd hx hb d_M_go_15 ?_
  refine x_Vv hF hs v_M_move k_ml_M_86 (m_M_move) rfl rfl ⟨by decide, by decide⟩ rfl rfl hl.1 (Nat.le_of_ble_eq_true rfl) rM d_M_go_16 ⟨Nat.zero_le _, Nat.zero_le _⟩ (fun H locs hs => ?_)
  refine lv_aload_n hx hb d_M_go_19 rfl (lv_at hl 0 rfl) ?_
  refine lv_bipush (v := 8) hx hb d_M_go_20 (by decide) ?_
  refine x_Vv hF hs v_M_put k_ml_M_89 (m_M_put ic_8_12) rfl rfl ⟨by decide, by decide⟩ rfl rfl hl.1 (Nat.le_of_ble_eq_true rfl) rM d_M_go_22 ⟨Nat.zero_le _, Nat.zero_le _⟩ (fun H locs hs => ?_)
  refine hret _ _ _ _ _ hs ?_ d_M_go_25
  exact rfl
def p_M_link (σ : Mem) : Mem :=
  let σ1 : Mem := p_M_take σ (8 : Int32);
  let σ2 : Mem := p_M_move σ1 ((σ1 4 ((8 : Int32) : Int32).toNatClampNeg) + (4 : Int32));
  let σ3 : Mem := p_M_typed σ2 (σ2 6 1) (1 : Int32);
  σ3
set_option maxHeartbeats 4000000 in
set_option maxRecDepth 100000 in
theorem m_M_link {l : Launch} {D : va_G} {a : Nat → Nat} {cA : Nat → ClassId} {B0 : Nat → Prop} {σ : Mem} : cV l y_M_link (.code y_M_link c_M_link 1 (none) :: TG) (rmO 4 102) D (rwL a cA) (rty cA) B0 [.ref (a 0)] σ (p_M_link σ) := by
  refine cV_of (by decide) (Nat.le_of_ble_eq_true rfl) ?_
  intro p e s m args below meth c Q ls hx hb hF hl hs hret
  have hl : lv_has ls 1 [(0, .ref (a 0))] := hl
  refine lv_aload_n hx hb d_M_link_0 rfl (lv_at hl 0 rfl) ?_
  refine lv_bipush (v := 8) hx hb d_M_link_1 (by decide) ?_
  refine x_Vv hF hs v_M_take k_ml_M_82 (m_M_take ic_8_12) rfl rfl ⟨by decide, by decide⟩ rfl rfl hl.1 (Nat.le_of_ble_eq_true rfl) rM d_M_link_3 ⟨Nat.zero_le _, Nat.zero_le _⟩ (fun H locs hs => ?_)
  refine lv_aload_n hx hb d_M_link_6 rfl (lv_at hl 0 rfl) ?_
  refine lv_aload_n hx hb d_M_link_7 rfl (lv_at hl 0 rfl) ?_
  refine xg_M hx hb hF hs 0 (by decide) k_fl_M_7 rfl d_M_link_8 ?_
  refine lv_bipush (v := 8) hx hb d_M_link_11 (by decide) ?_
  refine x4_ld hx hb hF hs ic_8_12 d_M_link_13 ?_
  refine lv_iconst (v := 4) hx hb d_M_link_14 (by decide) ?_
  refine lv_iadd hx hb d_M_link_15 ?_
  refine x_Vv hF hs v_M_move k_ml_M_86 (m_M_move) rfl rfl ⟨by decide, by decide⟩ rfl rfl hl.1 (Nat.le_of_ble_eq_true rfl) rM d_M_link_16 ⟨Nat.zero_le _, Nat.zero_le _⟩ (fun H locs hs => ?_)
  refine lv_aload_n hx hb d_M_link_19 rfl (lv_at hl 0 rfl) ?_
  refine lv_aload_n hx hb d_M_link_20 rfl (lv_at hl 0 rfl) ?_
  refine xg_M hx hb hF hs 10 (by decide) k_fl_M_75 rfl d_M_link_21 ?_
  refine lv_iconst (v := 1) hx hb d_M_link_24 (by decide) ?_
  refine x_Vv hF hs v_M_typed k_ml_M_92 (m_M_typed) rfl rfl ⟨by decide, by decide⟩ rfl rfl hl.1 (Nat.le_of_ble_eq_true rfl) rM d_M_link_25 ⟨Nat.zero_le _, Nat.zero_le _⟩ (fun H locs hs => ?_)
  refine hret _ _ _ _ _ hs ?_ d_M_link_28
  exact rfl
def p_M_reckoned (n1 : Int32) (n2 : Int32) (n3 : Int32) (n4 : Int32) : Int32 :=
  if n1 = (1 : Int32) then
    (n2 + (n4 : Int32))
  else
  if n1 = (2 : Int32) then
    (n2 + (n3 : Int32))
  else
  if n1 = (3 : Int32) then
    (n2 - (n3 : Int32))
  else
  if n1 = (4 : Int32) then
    (n2 &&& (n3 : Int32))
  else
  if n1 = (5 : Int32) then
    (n2 ||| (n3 : Int32))
  else
  if n1 = (6 : Int32) then
    (n2 ^^^ (n3 : Int32))
  else
  if n1 = (7 : Int32) then
    (n2 <<< ((n3 &&& (31 : Int32)) &&& 31))
  else
  if n1 = (8 : Int32) then
    (((n2).toUInt32 >>> (((n3 &&& (31 : Int32))).toUInt32 &&& Int32.toUInt32 31)).toInt32)
  else
  if n1 = (9 : Int32) then
    if n3 ≤ n2 then
      (0 : Int32)
    else
      (1 : Int32)
  else
    (n4 * (16384 : Int32))
set_option maxHeartbeats 4000000 in
set_option maxRecDepth 100000 in
theorem m_M_reckoned {l : Launch} {D : va_G} {a : Nat → Nat} {cA : Nat → ClassId} {B0 : Nat → Prop} {σ : Mem} {n1 : Int32} {n2 : Int32} {n3 : Int32} {n4 : Int32} : cI l y_M_reckoned (.code y_M_reckoned c_M_reckoned 4 (some FieldType.int) :: TG) (rmO 0 0) D (rwL a cA) (rty cA) B0 [.int n1, .int n2, .int n3, .int n4] σ (p_M_reckoned n1 n2 n3 n4, σ) := by
  refine cI_of (by decide) (Nat.le_of_ble_eq_true rfl) ?_
  intro p e s m args below meth c Q ls hx hb hF hl hs hret
  have hl : lv_has ls 4 [(0, .int n1), (1, .int n2), (2, .int n3), (3, .int n4)] := hl
  refine lv_iload_n hx hb d_M_reckoned_0 rfl (lv_at hl 0 rfl) ?_
  by_cases h1 : n1 = (1 : Int32)
  · refine lv_tableIn (tgt := 52) (off := 51) hx hb d_M_reckoned_1 (by rw [h1]; decide) (by rw [h1]; decide) (by rw [h1]; rfl) (by decide) ?_
    refine lv_iload_n hx hb d_M_reckoned_52 rfl (lv_at hl 1 rfl) ?_
    refine lv_iload_n hx hb d_M_reckoned_53 rfl (lv_at hl 3 rfl) ?_
    refine lv_iadd hx hb d_M_reckoned_54 ?_
    refine hret _ _ _ _ _ _ hs ?_ d_M_reckoned_55
    exact pr_eq ((if_pos h1).trans rfl)
  by_cases h2 : n1 = (2 : Int32)
  · refine lv_tableIn (tgt := 56) (off := 55) hx hb d_M_reckoned_1 (by rw [h2]; decide) (by rw [h2]; decide) (by rw [h2]; rfl) (by decide) ?_
    refine lv_iload_n hx hb d_M_reckoned_56 rfl (lv_at hl 1 rfl) ?_
    refine lv_iload_n hx hb d_M_reckoned_57 rfl (lv_at hl 2 rfl) ?_
    refine lv_iadd hx hb d_M_reckoned_58 ?_
    refine hret _ _ _ _ _ _ hs ?_ d_M_reckoned_59
    exact pr_eq ((if_neg h1).trans ((if_pos h2).trans rfl))
  by_cases h3 : n1 = (3 : Int32)
  · refine lv_tableIn (tgt := 60) (off := 59) hx hb d_M_reckoned_1 (by rw [h3]; decide) (by rw [h3]; decide) (by rw [h3]; rfl) (by decide) ?_
    refine lv_iload_n hx hb d_M_reckoned_60 rfl (lv_at hl 1 rfl) ?_
    refine lv_iload_n hx hb d_M_reckoned_61 rfl (lv_at hl 2 rfl) ?_
    refine lv_isub hx hb d_M_reckoned_62 ?_
    refine hret _ _ _ _ _ _ hs ?_ d_M_reckoned_63
    exact pr_eq ((if_neg h1).trans ((if_neg h2).trans ((if_pos h3).trans rfl)))
  by_cases h4 : n1 = (4 : Int32)
  · refine lv_tableIn (tgt := 64) (off := 63) hx hb d_M_reckoned_1 (by rw [h4]; decide) (by rw [h4]; decide) (by rw [h4]; rfl) (by decide) ?_
    refine lv_iload_n hx hb d_M_reckoned_64 rfl (lv_at hl 1 rfl) ?_
    refine lv_iload_n hx hb d_M_reckoned_65 rfl (lv_at hl 2 rfl) ?_
    refine lv_iand hx hb d_M_reckoned_66 ?_
    refine hret _ _ _ _ _ _ hs ?_ d_M_reckoned_67
    exact pr_eq ((if_neg h1).trans ((if_neg h2).trans ((if_neg h3).trans ((if_pos h4).trans rfl))))
  by_cases h5 : n1 = (5 : Int32)
  · refine lv_tableIn (tgt := 68) (off := 67) hx hb d_M_reckoned_1 (by rw [h5]; decide) (by rw [h5]; decide) (by rw [h5]; rfl) (by decide) ?_
    refine lv_iload_n hx hb d_M_reckoned_68 rfl (lv_at hl 1 rfl) ?_
    refine lv_iload_n hx hb d_M_reckoned_69 rfl (lv_at hl 2 rfl) ?_
    refine lv_ior hx hb d_M_reckoned_70 ?_
    refine hret _ _ _ _ _ _ hs ?_ d_M_reckoned_71
    exact pr_eq ((if_neg h1).trans ((if_neg h2).trans ((if_neg h3).trans ((if_neg h4).trans ((if_pos h5).trans rfl)))))
  by_cases h6 : n1 = (6 : Int32)
  · refine lv_tableIn (tgt := 72) (off := 71) hx hb d_M_reckoned_1 (by rw [h6]; decide) (by rw [h6]; decide) (by rw [h6]; rfl) (by decide) ?_
    refine lv_iload_n hx hb d_M_reckoned_72 rfl (lv_at hl 1 rfl) ?_
    refine lv_iload_n hx hb d_M_reckoned_73 rfl (lv_at hl 2 rfl) ?_
    refine lv_ixor hx hb d_M_reckoned_74 ?_
    refine hret _ _ _ _ _ _ hs ?_ d_M_reckoned_75
    exact pr_eq ((if_neg h1).trans ((if_neg h2).trans ((if_neg h3).trans ((if_neg h4).trans ((if_neg h5).trans ((if_pos h6).trans rfl))))))
  by_cases h7 : n1 = (7 : Int32)
  · refine lv_tableIn (tgt := 76) (off := 75) hx hb d_M_reckoned_1 (by rw [h7]; decide) (by rw [h7]; decide) (by rw [h7]; rfl) (by decide) ?_
    refine lv_iload_n hx hb d_M_reckoned_76 rfl (lv_at hl 1 rfl) ?_
    refine lv_iload_n hx hb d_M_reckoned_77 rfl (lv_at hl 2 rfl) ?_
    refine lv_bipush (v := 31) hx hb d_M_reckoned_78 (by decide) ?_
    refine lv_iand hx hb d_M_reckoned_80 ?_
    refine lv_ishl hx hb d_M_reckoned_81 ?_
    refine hret _ _ _ _ _ _ hs ?_ d_M_reckoned_82
    exact pr_eq ((if_neg h1).trans ((if_neg h2).trans ((if_neg h3).trans ((if_neg h4).trans ((if_neg h5).trans ((if_neg h6).trans ((if_pos h7).trans rfl)))))))
  by_cases h8 : n1 = (8 : Int32)
  · refine lv_tableIn (tgt := 83) (off := 82) hx hb d_M_reckoned_1 (by rw [h8]; decide) (by rw [h8]; decide) (by rw [h8]; rfl) (by decide) ?_
    refine lv_iload_n hx hb d_M_reckoned_83 rfl (lv_at hl 1 rfl) ?_
    refine lv_iload_n hx hb d_M_reckoned_84 rfl (lv_at hl 2 rfl) ?_
    refine lv_bipush (v := 31) hx hb d_M_reckoned_85 (by decide) ?_
    refine lv_iand hx hb d_M_reckoned_87 ?_
    refine lv_iushr hx hb d_M_reckoned_88 rfl ?_
    refine hret _ _ _ _ _ _ hs ?_ d_M_reckoned_89
    exact pr_eq ((if_neg h1).trans ((if_neg h2).trans ((if_neg h3).trans ((if_neg h4).trans ((if_neg h5).trans ((if_neg h6).trans ((if_neg h7).trans ((if_pos h8).trans rfl))))))))
  by_cases h9 : n1 = (9 : Int32)
  · refine lv_tableIn (tgt := 90) (off := 89) hx hb d_M_reckoned_1 (by rw [h9]; decide) (by rw [h9]; decide) (by rw [h9]; rfl) (by decide) ?_
    refine lv_iload_n hx hb d_M_reckoned_90 rfl (lv_at hl 1 rfl) ?_
    refine lv_iload_n hx hb d_M_reckoned_91 rfl (lv_at hl 2 rfl) ?_
    refine lv_icmp_ge (tgt := 99) hx hb d_M_reckoned_92 (by decide) (fun h10 => ?_) (fun h10 => ?_)
    · refine lv_iconst (v := 0) hx hb d_M_reckoned_99 (by decide) ?_
      refine hret _ _ _ _ _ _ hs ?_ d_M_reckoned_100
      exact pr_eq ((if_neg h1).trans ((if_neg h2).trans ((if_neg h3).trans ((if_neg h4).trans ((if_neg h5).trans ((if_neg h6).trans ((if_neg h7).trans ((if_neg h8).trans ((if_pos h9).trans ((if_pos h10).trans rfl))))))))))
    · refine lv_iconst (v := 1) hx hb d_M_reckoned_95 (by decide) ?_
      refine lv_goto (tgt := 100) hx hb d_M_reckoned_96 (by decide) ?_
      refine hret _ _ _ _ _ _ hs ?_ d_M_reckoned_100
      exact pr_eq ((if_neg h1).trans ((if_neg h2).trans ((if_neg h3).trans ((if_neg h4).trans ((if_neg h5).trans ((if_neg h6).trans ((if_neg h7).trans ((if_neg h8).trans ((if_pos h9).trans ((if_neg h10).trans rfl))))))))))
  refine x_tabD (tgt := 101) hx hb [1, 2, 3, 4, 5, 6, 7, 8, 9] d_M_reckoned_1 (List.forall_mem_cons.mpr ⟨lv_neT h1 (by decide), List.forall_mem_cons.mpr ⟨lv_neT h2 (by decide), List.forall_mem_cons.mpr ⟨lv_neT h3 (by decide), List.forall_mem_cons.mpr ⟨lv_neT h4 (by decide), List.forall_mem_cons.mpr ⟨lv_neT h5 (by decide), List.forall_mem_cons.mpr ⟨lv_neT h6 (by decide), List.forall_mem_cons.mpr ⟨lv_neT h7 (by decide), List.forall_mem_cons.mpr ⟨lv_neT h8 (by decide), List.forall_mem_cons.mpr ⟨lv_neT h9 (by decide), fun _ z => absurd z List.not_mem_nil⟩⟩⟩⟩⟩⟩⟩⟩⟩) (by decide) (by decide) (by decide) ?_
  refine lv_iload_n hx hb d_M_reckoned_101 rfl (lv_at hl 3 rfl) ?_
  refine lv_sipush (v := 16384) hx hb d_M_reckoned_102 (by decide) ?_
  refine lv_imul hx hb d_M_reckoned_105 ?_
  refine hret _ _ _ _ _ _ hs ?_ d_M_reckoned_106
  exact pr_eq ((if_neg h1).trans ((if_neg h2).trans ((if_neg h3).trans ((if_neg h4).trans ((if_neg h5).trans ((if_neg h6).trans ((if_neg h7).trans ((if_neg h8).trans ((if_neg h9).trans rfl)))))))))
def p_M_isRegister (n1 : Int32) : Int32 :=
  if n1 < (0 : Int32) then
    (0 : Int32)
  else
    if (11 : Int32) < n1 then
      (0 : Int32)
    else
      (1 : Int32)
set_option maxHeartbeats 4000000 in
set_option maxRecDepth 100000 in
theorem m_M_isRegister {l : Launch} {D : va_G} {a : Nat → Nat} {cA : Nat → ClassId} {B0 : Nat → Prop} {σ : Mem} {n1 : Int32} : cI l y_M_isRegister (.code y_M_isRegister c_M_isRegister 1 (some FieldType.boolean) :: TG) (rmO 0 0) D (rwL a cA) (rty cA) B0 [.int n1] σ (p_M_isRegister n1, σ) := by
  refine cZ_of (by decide) (Nat.le_of_ble_eq_true rfl) ?_
  intro p e s m args below meth c Q ls hx hb hF hl hs hret
  have hl : lv_has ls 1 [(0, .int n1)] := hl
  refine lv_iload_n hx hb d_M_isRegister_0 rfl (lv_at hl 0 rfl) ?_
  refine lv_if_lt (tgt := 14) hx hb d_M_isRegister_1 (by decide) (fun h1 => ?_) (fun h1 => ?_)
  · refine lv_iconst (v := 0) hx hb d_M_isRegister_14 (by decide) ?_
    refine hret _ _ _ _ _ _ hs bo_0 ?_ d_M_isRegister_15
    exact pr_eq ((if_pos h1).trans rfl)
  · refine lv_iload_n hx hb d_M_isRegister_4 rfl (lv_at hl 0 rfl) ?_
    refine lv_bipush (v := 11) hx hb d_M_isRegister_5 (by decide) ?_
    refine lv_icmp_gt (tgt := 14) hx hb d_M_isRegister_7 (by decide) (fun h2 => ?_) (fun h2 => ?_)
    · refine lv_iconst (v := 0) hx hb d_M_isRegister_14 (by decide) ?_
      refine hret _ _ _ _ _ _ hs bo_0 ?_ d_M_isRegister_15
      exact pr_eq ((if_neg h1).trans ((if_pos h2).trans rfl))
    · refine lv_iconst (v := 1) hx hb d_M_isRegister_10 (by decide) ?_
      refine lv_goto (tgt := 15) hx hb d_M_isRegister_11 (by decide) ?_
      refine hret _ _ _ _ _ _ hs bo_1 ?_ d_M_isRegister_15
      exact pr_eq ((if_neg h1).trans ((if_neg h2).trans rfl))
def p_M_sealing (σ : Mem) (n1 : Int32) (n2 : Int32) (n3 : Int32) (n4 : Int32) : Int32 :=
  if (bo (σ 2 (n2 : Int32).toNatClampNeg)) = (0 : Int32) then
    (p_M_of n2 (1 : Int32))
  else
    if n1 = (0 : Int32) then
      if (2 : Int32) ≤ (p_M_type (σ 3 (n2 : Int32).toNatClampNeg)) then
        if (p_M_check σ n3 (64 : Int32) (1 : Int32) n4) = (0 : Int32) then
          if n4 = (p_M_type (σ 3 (n2 : Int32).toNatClampNeg)) then
            (0 : Int32)
          else
            (p_M_of n3 (7 : Int32))
        else
          (p_M_of n3 (p_M_check σ n3 (64 : Int32) (1 : Int32) n4))
      else
        (p_M_of n2 (2 : Int32))
    else
      if (p_M_type (σ 3 (n2 : Int32).toNatClampNeg)) = (0 : Int32) then
        if (p_M_check σ n3 (32 : Int32) (1 : Int32) n4) = (0 : Int32) then
          if n4 < (2 : Int32) then
            (p_M_of n3 (7 : Int32))
          else
            if (15 : Int32) < n4 then
              (p_M_of n3 (7 : Int32))
            else
              (0 : Int32)
        else
          (p_M_of n3 (p_M_check σ n3 (32 : Int32) (1 : Int32) n4))
      else
        (p_M_of n2 (2 : Int32))
set_option maxHeartbeats 4000000 in
set_option maxRecDepth 100000 in
theorem m_M_sealing {l : Launch} {D : va_G} {a : Nat → Nat} {cA : Nat → ClassId} {B0 : Nat → Prop} {σ : Mem} {n1 : Int32} {n2 : Int32} {n3 : Int32} {n4 : Int32} (h_n2 : vp_in n2 12) (h_n3 : vp_in n3 12) : cI l y_M_sealing (.code y_M_sealing c_M_sealing 8 (some FieldType.int) :: TG) (rmO 4 103) D (rwL a cA) (rty cA) B0 [.ref (a 0), .int n1, .int n2, .int n3, .int n4] σ (p_M_sealing σ n1 n2 n3 n4, σ) := by
  refine cI_of (by decide) (Nat.le_of_ble_eq_true rfl) ?_
  intro p e s m args below meth c Q ls hx hb hF hl hs hret
  have hl : lv_has ls 8 [(0, .ref (a 0)), (1, .int n1), (2, .int n2), (3, .int n3), (4, .int n4)] := hl
  refine lv_aload_n hx hb d_M_sealing_0 rfl (lv_at hl 0 rfl) ?_
  refine xg_M hx hb hF hs 1 (by decide) k_fl_M_13 rfl d_M_sealing_1 ?_
  refine lv_iload_n hx hb d_M_sealing_4 rfl (lv_at hl 2 rfl) ?_
  refine x3_ld hx hb hF hs h_n2 d_M_sealing_5 ?_
  refine x_Sip hF hs v_M_type k_ml_M_57 (m_M_type) rfl rfl ⟨by decide, by decide⟩ rfl rfl hl.1 (Nat.le_of_ble_eq_true rfl) d_M_sealing_6 ⟨Nat.zero_le _, Nat.zero_le _⟩ (fun H locs hs => ?_)
  refine lv_istore (lv' := [(5, _), (0, _), (1, _), (2, _), (3, _), (4, _)]) hx hb d_M_sealing_9 hl (by decide) rfl (fun ls hl => ?_)
  refine lv_aload_n hx hb d_M_sealing_11 rfl (lv_at hl 1 rfl) ?_
  refine xg_M hx hb hF hs 2 (by decide) k_fl_M_16 rfl d_M_sealing_12 ?_
  refine lv_iload_n hx hb d_M_sealing_15 rfl (lv_at hl 3 rfl) ?_
  refine x2_ld hx hb hF hs h_n2 d_M_sealing_16 ?_
  refine lv_if_ne (tgt := 26) hx hb d_M_sealing_17 (by decide) (fun h1 => ?_) (fun h1 => ?_)
  · refine lv_iload_n hx hb d_M_sealing_26 rfl (lv_at hl 2 rfl) ?_
    refine lv_if_eq (tgt := 38) hx hb d_M_sealing_27 (by decide) (fun h2 => ?_) (fun h2 => ?_)
    · refine lv_iload hx hb d_M_sealing_38 (lv_at hl 0 rfl) ?_
      refine lv_iconst (v := 2) hx hb d_M_sealing_40 (by decide) ?_
      refine lv_icmp_ge (tgt := 50) hx hb d_M_sealing_41 (by decide) (fun h3 => ?_) (fun h3 => ?_)
      · refine lv_aload_n hx hb d_M_sealing_50 rfl (lv_at hl 1 rfl) ?_
        refine lv_iload_n hx hb d_M_sealing_51 rfl (lv_at hl 4 rfl) ?_
        refine lv_iload_n hx hb d_M_sealing_52 rfl (lv_at hl 2 rfl) ?_
        refine lv_if_eq (tgt := 61) hx hb d_M_sealing_53 (by decide) (fun _ => ?_) (fun h => absurd h2 h)
        refine lv_bipush (v := 64) hx hb d_M_sealing_61 (by decide) ?_
        refine lv_iconst (v := 1) hx hb d_M_sealing_63 (by decide) ?_
        refine lv_iload hx hb d_M_sealing_64 (lv_at hl 5 rfl) ?_
        refine x_Vip hF hs v_M_check k_ml_M_95 (m_M_check h_n3 (by decide)) rfl rfl ⟨by decide, by decide⟩ rfl rfl hl.1 (Nat.le_of_ble_eq_true rfl) rM d_M_sealing_66 ⟨Nat.zero_le _, Nat.zero_le _⟩ (fun H locs hs => ?_)
        refine lv_istore (lv' := [(6, _), (5, _), (0, _), (1, _), (2, _), (3, _), (4, _)]) hx hb d_M_sealing_69 hl (by decide) rfl (fun ls hl => ?_)
        refine lv_iload hx hb d_M_sealing_71 (lv_at hl 0 rfl) ?_
        refine lv_if_eq (tgt := 83) hx hb d_M_sealing_73 (by decide) (fun h4 => ?_) (fun h4 => ?_)
        · refine lv_iload_n hx hb d_M_sealing_83 rfl (lv_at hl 3 rfl) ?_
          refine lv_if_eq (tgt := 108) hx hb d_M_sealing_84 (by decide) (fun _ => ?_) (fun h => absurd h2 h)
          refine lv_iload hx hb d_M_sealing_108 (lv_at hl 6 rfl) ?_
          refine lv_iload hx hb d_M_sealing_110 (lv_at hl 1 rfl) ?_
          refine lv_icmp_ne (tgt := 119) hx hb d_M_sealing_112 (by decide) (fun h5 => ?_) (fun h5 => ?_)
          · refine lv_iconst (v := 0) hx hb d_M_sealing_119 (by decide) ?_
            refine lv_istore (lv' := [(7, _), (6, _), (5, _), (0, _), (1, _), (2, _), (3, _), (4, _)]) hx hb d_M_sealing_120 hl (by decide) rfl (fun ls hl => ?_)
            refine lv_iload hx hb d_M_sealing_122 (lv_at hl 0 rfl) ?_
            refine lv_if_eq (tgt := 131) hx hb d_M_sealing_124 (by decide) (fun _ => ?_) (fun h => absurd h (by decide))
            refine lv_iload_n hx hb d_M_sealing_131 rfl (lv_at hl 6 rfl) ?_
            refine lv_bipush (v := 7) hx hb d_M_sealing_132 (by decide) ?_
            refine x_Sip hF hs v_M_of k_ml_M_99 (m_M_of) rfl rfl ⟨by decide, by decide⟩ rfl rfl hl.1 (Nat.le_of_ble_eq_true rfl) d_M_sealing_134 ⟨Nat.zero_le _, Nat.zero_le _⟩ (fun H locs hs => ?_)
            refine hret _ _ _ _ _ _ hs ?_ d_M_sealing_137
            exact pr_eq ((if_neg h1).trans ((if_pos h2).trans ((if_pos h3).trans ((if_pos h4).trans ((if_neg h5).trans rfl)))))
          · refine lv_iconst (v := 1) hx hb d_M_sealing_115 (by decide) ?_
            refine lv_goto (tgt := 120) hx hb d_M_sealing_116 (by decide) ?_
            refine lv_istore (lv' := [(7, _), (6, _), (5, _), (0, _), (1, _), (2, _), (3, _), (4, _)]) hx hb d_M_sealing_120 hl (by decide) rfl (fun ls hl => ?_)
            refine lv_iload hx hb d_M_sealing_122 (lv_at hl 0 rfl) ?_
            refine lv_if_eq (tgt := 131) hx hb d_M_sealing_124 (by decide) (fun h => absurd h (by decide)) (fun _ => ?_)
            refine lv_iconst (v := 0) hx hb d_M_sealing_127 (by decide) ?_
            refine lv_goto (tgt := 137) hx hb d_M_sealing_128 (by decide) ?_
            refine hret _ _ _ _ _ _ hs ?_ d_M_sealing_137
            exact pr_eq ((if_neg h1).trans ((if_pos h2).trans ((if_pos h3).trans ((if_pos h4).trans ((if_pos h5).trans rfl)))))
        · refine lv_iload_n hx hb d_M_sealing_76 rfl (lv_at hl 5 rfl) ?_
          refine lv_iload hx hb d_M_sealing_77 (lv_at hl 0 rfl) ?_
          refine x_Sip hF hs v_M_of k_ml_M_99 (m_M_of) rfl rfl ⟨by decide, by decide⟩ rfl rfl hl.1 (Nat.le_of_ble_eq_true rfl) d_M_sealing_79 ⟨Nat.zero_le _, Nat.zero_le _⟩ (fun H locs hs => ?_)
          refine hret _ _ _ _ _ _ hs ?_ d_M_sealing_82
          exact pr_eq ((if_neg h1).trans ((if_pos h2).trans ((if_pos h3).trans ((if_neg h4).trans rfl))))
      · refine lv_iload_n hx hb d_M_sealing_44 rfl (lv_at hl 3 rfl) ?_
        refine lv_iconst (v := 2) hx hb d_M_sealing_45 (by decide) ?_
        refine x_Sip hF hs v_M_of k_ml_M_99 (m_M_of) rfl rfl ⟨by decide, by decide⟩ rfl rfl hl.1 (Nat.le_of_ble_eq_true rfl) d_M_sealing_46 ⟨Nat.zero_le _, Nat.zero_le _⟩ (fun H locs hs => ?_)
        refine hret _ _ _ _ _ _ hs ?_ d_M_sealing_49
        exact pr_eq ((if_neg h1).trans ((if_pos h2).trans ((if_neg h3).trans rfl)))
    · refine lv_iload hx hb d_M_sealing_30 (lv_at hl 0 rfl) ?_
      refine lv_if_eq (tgt := 50) hx hb d_M_sealing_32 (by decide) (fun h3 => ?_) (fun h3 => ?_)
      · refine lv_aload_n hx hb d_M_sealing_50 rfl (lv_at hl 1 rfl) ?_
        refine lv_iload_n hx hb d_M_sealing_51 rfl (lv_at hl 4 rfl) ?_
        refine lv_iload_n hx hb d_M_sealing_52 rfl (lv_at hl 2 rfl) ?_
        refine lv_if_eq (tgt := 61) hx hb d_M_sealing_53 (by decide) (fun h => absurd h h2) (fun _ => ?_)
        refine lv_bipush (v := 32) hx hb d_M_sealing_56 (by decide) ?_
        refine lv_goto (tgt := 63) hx hb d_M_sealing_58 (by decide) ?_
        refine lv_iconst (v := 1) hx hb d_M_sealing_63 (by decide) ?_
        refine lv_iload hx hb d_M_sealing_64 (lv_at hl 5 rfl) ?_
        refine x_Vip hF hs v_M_check k_ml_M_95 (m_M_check h_n3 (by decide)) rfl rfl ⟨by decide, by decide⟩ rfl rfl hl.1 (Nat.le_of_ble_eq_true rfl) rM d_M_sealing_66 ⟨Nat.zero_le _, Nat.zero_le _⟩ (fun H locs hs => ?_)
        refine lv_istore (lv' := [(6, _), (5, _), (0, _), (1, _), (2, _), (3, _), (4, _)]) hx hb d_M_sealing_69 hl (by decide) rfl (fun ls hl => ?_)
        refine lv_iload hx hb d_M_sealing_71 (lv_at hl 0 rfl) ?_
        refine lv_if_eq (tgt := 83) hx hb d_M_sealing_73 (by decide) (fun h4 => ?_) (fun h4 => ?_)
        · refine lv_iload_n hx hb d_M_sealing_83 rfl (lv_at hl 3 rfl) ?_
          refine lv_if_eq (tgt := 108) hx hb d_M_sealing_84 (by decide) (fun h => absurd h h2) (fun _ => ?_)
          refine lv_iload hx hb d_M_sealing_87 (lv_at hl 6 rfl) ?_
          refine lv_iconst (v := 2) hx hb d_M_sealing_89 (by decide) ?_
          refine lv_icmp_lt (tgt := 104) hx hb d_M_sealing_90 (by decide) (fun h5 => ?_) (fun h5 => ?_)
          · refine lv_iconst (v := 0) hx hb d_M_sealing_104 (by decide) ?_
            refine lv_goto (tgt := 120) hx hb d_M_sealing_105 (by decide) ?_
            refine lv_istore (lv' := [(7, _), (6, _), (5, _), (0, _), (1, _), (2, _), (3, _), (4, _)]) hx hb d_M_sealing_120 hl (by decide) rfl (fun ls hl => ?_)
            refine lv_iload hx hb d_M_sealing_122 (lv_at hl 0 rfl) ?_
            refine lv_if_eq (tgt := 131) hx hb d_M_sealing_124 (by decide) (fun _ => ?_) (fun h => absurd h (by decide))
            refine lv_iload_n hx hb d_M_sealing_131 rfl (lv_at hl 6 rfl) ?_
            refine lv_bipush (v := 7) hx hb d_M_sealing_132 (by decide) ?_
            refine x_Sip hF hs v_M_of k_ml_M_99 (m_M_of) rfl rfl ⟨by decide, by decide⟩ rfl rfl hl.1 (Nat.le_of_ble_eq_true rfl) d_M_sealing_134 ⟨Nat.zero_le _, Nat.zero_le _⟩ (fun H locs hs => ?_)
            refine hret _ _ _ _ _ _ hs ?_ d_M_sealing_137
            exact pr_eq ((if_neg h1).trans ((if_neg h2).trans ((if_pos h3).trans ((if_pos h4).trans ((if_pos h5).trans rfl)))))
          · refine lv_iload hx hb d_M_sealing_93 (lv_at hl 6 rfl) ?_
            refine lv_bipush (v := 15) hx hb d_M_sealing_95 (by decide) ?_
            refine lv_icmp_gt (tgt := 104) hx hb d_M_sealing_97 (by decide) (fun h6 => ?_) (fun h6 => ?_)
            · refine lv_iconst (v := 0) hx hb d_M_sealing_104 (by decide) ?_
              refine lv_goto (tgt := 120) hx hb d_M_sealing_105 (by decide) ?_
              refine lv_istore (lv' := [(7, _), (6, _), (5, _), (0, _), (1, _), (2, _), (3, _), (4, _)]) hx hb d_M_sealing_120 hl (by decide) rfl (fun ls hl => ?_)
              refine lv_iload hx hb d_M_sealing_122 (lv_at hl 0 rfl) ?_
              refine lv_if_eq (tgt := 131) hx hb d_M_sealing_124 (by decide) (fun _ => ?_) (fun h => absurd h (by decide))
              refine lv_iload_n hx hb d_M_sealing_131 rfl (lv_at hl 6 rfl) ?_
              refine lv_bipush (v := 7) hx hb d_M_sealing_132 (by decide) ?_
              refine x_Sip hF hs v_M_of k_ml_M_99 (m_M_of) rfl rfl ⟨by decide, by decide⟩ rfl rfl hl.1 (Nat.le_of_ble_eq_true rfl) d_M_sealing_134 ⟨Nat.zero_le _, Nat.zero_le _⟩ (fun H locs hs => ?_)
              refine hret _ _ _ _ _ _ hs ?_ d_M_sealing_137
              exact pr_eq ((if_neg h1).trans ((if_neg h2).trans ((if_pos h3).trans ((if_pos h4).trans ((if_neg h5).trans ((if_pos h6).trans rfl))))))
            · refine lv_iconst (v := 1) hx hb d_M_sealing_100 (by decide) ?_
              refine lv_goto (tgt := 120) hx hb d_M_sealing_101 (by decide) ?_
              refine lv_istore (lv' := [(7, _), (6, _), (5, _), (0, _), (1, _), (2, _), (3, _), (4, _)]) hx hb d_M_sealing_120 hl (by decide) rfl (fun ls hl => ?_)
              refine lv_iload hx hb d_M_sealing_122 (lv_at hl 0 rfl) ?_
              refine lv_if_eq (tgt := 131) hx hb d_M_sealing_124 (by decide) (fun h => absurd h (by decide)) (fun _ => ?_)
              refine lv_iconst (v := 0) hx hb d_M_sealing_127 (by decide) ?_
              refine lv_goto (tgt := 137) hx hb d_M_sealing_128 (by decide) ?_
              refine hret _ _ _ _ _ _ hs ?_ d_M_sealing_137
              exact pr_eq ((if_neg h1).trans ((if_neg h2).trans ((if_pos h3).trans ((if_pos h4).trans ((if_neg h5).trans ((if_neg h6).trans rfl))))))
        · refine lv_iload_n hx hb d_M_sealing_76 rfl (lv_at hl 5 rfl) ?_
          refine lv_iload hx hb d_M_sealing_77 (lv_at hl 0 rfl) ?_
          refine x_Sip hF hs v_M_of k_ml_M_99 (m_M_of) rfl rfl ⟨by decide, by decide⟩ rfl rfl hl.1 (Nat.le_of_ble_eq_true rfl) d_M_sealing_79 ⟨Nat.zero_le _, Nat.zero_le _⟩ (fun H locs hs => ?_)
          refine hret _ _ _ _ _ _ hs ?_ d_M_sealing_82
          exact pr_eq ((if_neg h1).trans ((if_neg h2).trans ((if_pos h3).trans ((if_neg h4).trans rfl))))
      · refine lv_goto (tgt := 44) hx hb d_M_sealing_35 (by decide) ?_
        refine lv_iload_n hx hb d_M_sealing_44 rfl (lv_at hl 3 rfl) ?_
        refine lv_iconst (v := 2) hx hb d_M_sealing_45 (by decide) ?_
        refine x_Sip hF hs v_M_of k_ml_M_99 (m_M_of) rfl rfl ⟨by decide, by decide⟩ rfl rfl hl.1 (Nat.le_of_ble_eq_true rfl) d_M_sealing_46 ⟨Nat.zero_le _, Nat.zero_le _⟩ (fun H locs hs => ?_)
        refine hret _ _ _ _ _ _ hs ?_ d_M_sealing_49
        exact pr_eq ((if_neg h1).trans ((if_neg h2).trans ((if_neg h3).trans rfl)))
  · refine lv_iload_n hx hb d_M_sealing_20 rfl (lv_at hl 3 rfl) ?_
    refine lv_iconst (v := 1) hx hb d_M_sealing_21 (by decide) ?_
    refine x_Sip hF hs v_M_of k_ml_M_99 (m_M_of) rfl rfl ⟨by decide, by decide⟩ rfl rfl hl.1 (Nat.le_of_ble_eq_true rfl) d_M_sealing_22 ⟨Nat.zero_le _, Nat.zero_le _⟩ (fun H locs hs => ?_)
    refine hret _ _ _ _ _ _ hs ?_ d_M_sealing_25
    exact pr_eq ((if_pos h1).trans rfl)
def p_M_trapOf (σ : Mem) (n1 : Int32) (n2 : Int32) (n3 : Int32) (n4 : Int32) : Int32 :=
  if n1 = (11 : Int32) then
    (p_M_of n2 (p_M_check σ n2 (2 : Int32) (4 : Int32) ((σ 4 (n2 : Int32).toNatClampNeg) + (n4 : Int32))))
  else
    if n1 = (13 : Int32) then
      (p_M_of n2 (p_M_check σ n2 (2 : Int32) (8 : Int32) ((σ 4 (n2 : Int32).toNatClampNeg) + (n4 : Int32))))
    else
      if n1 = (12 : Int32) then
        (p_M_of n2 (p_M_check σ n2 (4 : Int32) (4 : Int32) ((σ 4 (n2 : Int32).toNatClampNeg) + (n4 : Int32))))
      else
        if n1 = (14 : Int32) then
          if (bo (σ 2 (n3 : Int32).toNatClampNeg)) = (0 : Int32) then
            (p_M_of n2 (p_M_check σ n2 (4 : Int32) (8 : Int32) ((σ 4 (n2 : Int32).toNatClampNeg) + (n4 : Int32))))
          else
            (p_M_of n2 (p_M_check σ n2 (20 : Int32) (8 : Int32) ((σ 4 (n2 : Int32).toNatClampNeg) + (n4 : Int32))))
        else
          if n1 = (18 : Int32) then
            if (bo (σ 2 (n2 : Int32).toNatClampNeg)) = (0 : Int32) then
              (p_M_of n2 (1 : Int32))
            else
              if (p_M_type (σ 3 (n2 : Int32).toNatClampNeg)) ≤ (1 : Int32) then
                if (p_M_has σ n2 (1 : Int32)) = (0 : Int32) then
                  (p_M_of n2 (3 : Int32))
                else
                  (p_M_of n2 (0 : Int32))
              else
                (p_M_of n2 (2 : Int32))
          else
            if n1 = (23 : Int32) then
              (p_M_sealing σ (1 : Int32) n2 n3 (σ 4 (n3 : Int32).toNatClampNeg))
            else
              if n1 = (24 : Int32) then
                (p_M_sealing σ (0 : Int32) n2 n3 (σ 4 (n3 : Int32).toNatClampNeg))
              else
                if n1 = (29 : Int32) then
                  if (p_M_has σ (8 : Int32) (128 : Int32)) = (0 : Int32) then
                    (p_M_of (8 : Int32) (3 : Int32))
                  else
                    if n4 < (0 : Int32) then
                      (p_M_of (8 : Int32) (8 : Int32))
                    else
                      if n4 ≤ (2 : Int32) then
                        (p_M_of (8 : Int32) (0 : Int32))
                      else
                        (p_M_of (8 : Int32) (8 : Int32))
                else
                  if n1 = (31 : Int32) then
                    if (p_M_has σ (8 : Int32) (128 : Int32)) = (0 : Int32) then
                      (p_M_of (8 : Int32) (3 : Int32))
                    else
                      (p_M_of (8 : Int32) (0 : Int32))
                  else
                    if n1 = (30 : Int32) then
                      (9 : Int32)
                    else
                      (0 : Int32)
set_option maxHeartbeats 4000000 in
set_option maxRecDepth 100000 in
theorem m_M_trapOf {l : Launch} {D : va_G} {a : Nat → Nat} {cA : Nat → ClassId} {B0 : Nat → Prop} {σ : Mem} {n1 : Int32} {n2 : Int32} {n3 : Int32} {n4 : Int32} (h_n2 : vp_in n2 12) (h_n3 : vp_in n3 12) : cI l y_M_trapOf (.code y_M_trapOf c_M_trapOf 7 (some FieldType.int) :: TG) (rmO 5 130) D (rwL a cA) (rty cA) B0 [.ref (a 0), .int n1, .int n2, .int n3, .int n4] σ (p_M_trapOf σ n1 n2 n3 n4, σ) := by
  refine cI_of (by decide) (Nat.le_of_ble_eq_true rfl) ?_
  intro p e s m args below meth c Q ls hx hb hF hl hs hret
  have hl : lv_has ls 7 [(0, .ref (a 0)), (1, .int n1), (2, .int n2), (3, .int n3), (4, .int n4)] := hl
  refine lv_aload_n hx hb d_M_trapOf_0 rfl (lv_at hl 0 rfl) ?_
  refine xg_M hx hb hF hs 0 (by decide) k_fl_M_7 rfl d_M_trapOf_1 ?_
  refine lv_iload_n hx hb d_M_trapOf_4 rfl (lv_at hl 2 rfl) ?_
  refine x4_ld hx hb hF hs h_n2 d_M_trapOf_5 ?_
  refine lv_istore (lv' := [(5, _), (0, _), (1, _), (2, _), (3, _), (4, _)]) hx hb d_M_trapOf_6 hl (by decide) rfl (fun ls hl => ?_)
  refine lv_aload_n hx hb d_M_trapOf_8 rfl (lv_at hl 1 rfl) ?_
  refine xg_M hx hb hF hs 0 (by decide) k_fl_M_7 rfl d_M_trapOf_9 ?_
  refine lv_iload_n hx hb d_M_trapOf_12 rfl (lv_at hl 4 rfl) ?_
  refine x4_ld hx hb hF hs h_n3 d_M_trapOf_13 ?_
  refine lv_istore (lv' := [(6, _), (5, _), (0, _), (1, _), (2, _), (3, _), (4, _)]) hx hb d_M_trapOf_14 hl (by decide) rfl (fun ls hl => ?_)
  refine lv_iload_n hx hb d_M_trapOf_16 rfl (lv_at hl 3 rfl) ?_
  refine lv_bipush (v := 11) hx hb d_M_trapOf_17 (by decide) ?_
  refine lv_icmp_eq (tgt := 28) hx hb d_M_trapOf_19 (by decide) (fun h1 => ?_) (fun h1 => ?_)
  · refine lv_iload_n hx hb d_M_trapOf_28 rfl (lv_at hl 4 rfl) ?_
    refine lv_aload_n hx hb d_M_trapOf_29 rfl (lv_at hl 2 rfl) ?_
    refine lv_iload_n hx hb d_M_trapOf_30 rfl (lv_at hl 4 rfl) ?_
    refine lv_iconst (v := 2) hx hb d_M_trapOf_31 (by decide) ?_
    refine lv_iload_n hx hb d_M_trapOf_32 rfl (lv_at hl 3 rfl) ?_
    refine lv_bipush (v := 11) hx hb d_M_trapOf_33 (by decide) ?_
    refine lv_icmp_ne (tgt := 42) hx hb d_M_trapOf_35 (by decide) (fun h => absurd h1 h) (fun _ => ?_)
    refine lv_iconst (v := 4) hx hb d_M_trapOf_38 (by decide) ?_
    refine lv_goto (tgt := 44) hx hb d_M_trapOf_39 (by decide) ?_
    refine lv_iload hx hb d_M_trapOf_44 (lv_at hl 1 rfl) ?_
    refine lv_iload hx hb d_M_trapOf_46 (lv_at hl 6 rfl) ?_
    refine lv_iadd hx hb d_M_trapOf_48 ?_
    refine x_Vip hF hs v_M_check k_ml_M_95 (m_M_check h_n2 (by decide)) rfl rfl ⟨by decide, by decide⟩ rfl rfl hl.1 (Nat.le_of_ble_eq_true rfl) rM d_M_trapOf_49 ⟨Nat.zero_le _, Nat.zero_le _⟩ (fun H locs hs => ?_)
    refine x_Sip hF hs v_M_of k_ml_M_99 (m_M_of) rfl rfl ⟨by decide, by decide⟩ rfl rfl hl.1 (Nat.le_of_ble_eq_true rfl) d_M_trapOf_52 ⟨Nat.zero_le _, Nat.zero_le _⟩ (fun H locs hs => ?_)
    refine hret _ _ _ _ _ _ hs ?_ d_M_trapOf_55
    exact pr_eq ((if_pos h1).trans rfl)
  · refine lv_iload_n hx hb d_M_trapOf_22 rfl (lv_at hl 3 rfl) ?_
    refine lv_bipush (v := 13) hx hb d_M_trapOf_23 (by decide) ?_
    refine lv_icmp_ne (tgt := 56) hx hb d_M_trapOf_25 (by decide) (fun h2 => ?_) (fun h2 => ?_)
    · refine lv_iload_n hx hb d_M_trapOf_56 rfl (lv_at hl 3 rfl) ?_
      refine lv_bipush (v := 12) hx hb d_M_trapOf_57 (by decide) ?_
      refine lv_icmp_eq (tgt := 68) hx hb d_M_trapOf_59 (by decide) (fun h3 => ?_) (fun h3 => ?_)
      · refine lv_iload_n hx hb d_M_trapOf_68 rfl (lv_at hl 4 rfl) ?_
        refine lv_aload_n hx hb d_M_trapOf_69 rfl (lv_at hl 2 rfl) ?_
        refine lv_iload_n hx hb d_M_trapOf_70 rfl (lv_at hl 4 rfl) ?_
        refine lv_iload_n hx hb d_M_trapOf_71 rfl (lv_at hl 3 rfl) ?_
        refine lv_bipush (v := 14) hx hb d_M_trapOf_72 (by decide) ?_
        refine lv_icmp_ne (tgt := 91) hx hb d_M_trapOf_74 (by decide) (fun _ => ?_) (fun h => absurd (h3.symm.trans h) (by decide))
        refine lv_iconst (v := 4) hx hb d_M_trapOf_91 (by decide) ?_
        refine lv_iload_n hx hb d_M_trapOf_92 rfl (lv_at hl 3 rfl) ?_
        refine lv_bipush (v := 12) hx hb d_M_trapOf_93 (by decide) ?_
        refine lv_icmp_ne (tgt := 102) hx hb d_M_trapOf_95 (by decide) (fun h => absurd h3 h) (fun _ => ?_)
        refine lv_iconst (v := 4) hx hb d_M_trapOf_98 (by decide) ?_
        refine lv_goto (tgt := 104) hx hb d_M_trapOf_99 (by decide) ?_
        refine lv_iload hx hb d_M_trapOf_104 (lv_at hl 1 rfl) ?_
        refine lv_iload hx hb d_M_trapOf_106 (lv_at hl 6 rfl) ?_
        refine lv_iadd hx hb d_M_trapOf_108 ?_
        refine x_Vip hF hs v_M_check k_ml_M_95 (m_M_check h_n2 (by decide)) rfl rfl ⟨by decide, by decide⟩ rfl rfl hl.1 (Nat.le_of_ble_eq_true rfl) rM d_M_trapOf_109 ⟨Nat.zero_le _, Nat.zero_le _⟩ (fun H locs hs => ?_)
        refine x_Sip hF hs v_M_of k_ml_M_99 (m_M_of) rfl rfl ⟨by decide, by decide⟩ rfl rfl hl.1 (Nat.le_of_ble_eq_true rfl) d_M_trapOf_112 ⟨Nat.zero_le _, Nat.zero_le _⟩ (fun H locs hs => ?_)
        refine hret _ _ _ _ _ _ hs ?_ d_M_trapOf_115
        exact pr_eq ((if_neg h1).trans ((if_neg h2).trans ((if_pos h3).trans rfl)))
      · refine lv_iload_n hx hb d_M_trapOf_62 rfl (lv_at hl 3 rfl) ?_
        refine lv_bipush (v := 14) hx hb d_M_trapOf_63 (by decide) ?_
        refine lv_icmp_ne (tgt := 116) hx hb d_M_trapOf_65 (by decide) (fun h4 => ?_) (fun h4 => ?_)
        · refine lv_iload_n hx hb d_M_trapOf_116 rfl (lv_at hl 3 rfl) ?_
          refine lv_bipush (v := 18) hx hb d_M_trapOf_117 (by decide) ?_
          refine lv_icmp_ne (tgt := 171) hx hb d_M_trapOf_119 (by decide) (fun h5 => ?_) (fun h5 => ?_)
          · refine lv_iload_n hx hb d_M_trapOf_171 rfl (lv_at hl 3 rfl) ?_
            refine lv_bipush (v := 23) hx hb d_M_trapOf_172 (by decide) ?_
            refine lv_icmp_eq (tgt := 183) hx hb d_M_trapOf_174 (by decide) (fun h6 => ?_) (fun h6 => ?_)
            · refine lv_aload_n hx hb d_M_trapOf_183 rfl (lv_at hl 2 rfl) ?_
              refine lv_iload_n hx hb d_M_trapOf_184 rfl (lv_at hl 3 rfl) ?_
              refine lv_bipush (v := 23) hx hb d_M_trapOf_185 (by decide) ?_
              refine lv_icmp_ne (tgt := 194) hx hb d_M_trapOf_187 (by decide) (fun h => absurd h6 h) (fun _ => ?_)
              refine lv_iconst (v := 1) hx hb d_M_trapOf_190 (by decide) ?_
              refine lv_goto (tgt := 195) hx hb d_M_trapOf_191 (by decide) ?_
              refine lv_iload_n hx hb d_M_trapOf_195 rfl (lv_at hl 4 rfl) ?_
              refine lv_iload_n hx hb d_M_trapOf_196 rfl (lv_at hl 5 rfl) ?_
              refine lv_iload hx hb d_M_trapOf_197 (lv_at hl 0 rfl) ?_
              refine x_Vip hF hs v_M_sealing k_ml_M_103 (m_M_sealing h_n2 h_n3) rfl rfl ⟨by decide, by decide⟩ rfl rfl hl.1 (Nat.le_of_ble_eq_true rfl) rM d_M_trapOf_199 ⟨Nat.zero_le _, Nat.zero_le _⟩ (fun H locs hs => ?_)
              refine hret _ _ _ _ _ _ hs ?_ d_M_trapOf_202
              exact pr_eq ((if_neg h1).trans ((if_neg h2).trans ((if_neg h3).trans ((if_neg h4).trans ((if_neg h5).trans ((if_pos h6).trans rfl))))))
            · refine lv_iload_n hx hb d_M_trapOf_177 rfl (lv_at hl 3 rfl) ?_
              refine lv_bipush (v := 24) hx hb d_M_trapOf_178 (by decide) ?_
              refine lv_icmp_ne (tgt := 203) hx hb d_M_trapOf_180 (by decide) (fun h7 => ?_) (fun h7 => ?_)
              · refine lv_iload_n hx hb d_M_trapOf_203 rfl (lv_at hl 3 rfl) ?_
                refine lv_bipush (v := 29) hx hb d_M_trapOf_204 (by decide) ?_
                refine lv_icmp_ne (tgt := 248) hx hb d_M_trapOf_206 (by decide) (fun h8 => ?_) (fun h8 => ?_)
                · refine lv_iload_n hx hb d_M_trapOf_248 rfl (lv_at hl 3 rfl) ?_
                  refine lv_bipush (v := 31) hx hb d_M_trapOf_249 (by decide) ?_
                  refine lv_icmp_ne (tgt := 277) hx hb d_M_trapOf_251 (by decide) (fun h9 => ?_) (fun h9 => ?_)
                  · refine lv_iload_n hx hb d_M_trapOf_277 rfl (lv_at hl 3 rfl) ?_
                    refine lv_bipush (v := 30) hx hb d_M_trapOf_278 (by decide) ?_
                    refine lv_icmp_ne (tgt := 288) hx hb d_M_trapOf_280 (by decide) (fun h10 => ?_) (fun h10 => ?_)
                    · refine lv_iconst (v := 0) hx hb d_M_trapOf_288 (by decide) ?_
                      refine hret _ _ _ _ _ _ hs ?_ d_M_trapOf_289
                      exact pr_eq ((if_neg h1).trans ((if_neg h2).trans ((if_neg h3).trans ((if_neg h4).trans ((if_neg h5).trans ((if_neg h6).trans ((if_neg h7).trans ((if_neg h8).trans ((if_neg h9).trans ((if_neg h10).trans rfl))))))))))
                    · refine lv_bipush (v := 9) hx hb d_M_trapOf_283 (by decide) ?_
                      refine lv_goto (tgt := 289) hx hb d_M_trapOf_285 (by decide) ?_
                      refine hret _ _ _ _ _ _ hs ?_ d_M_trapOf_289
                      exact pr_eq ((if_neg h1).trans ((if_neg h2).trans ((if_neg h3).trans ((if_neg h4).trans ((if_neg h5).trans ((if_neg h6).trans ((if_neg h7).trans ((if_neg h8).trans ((if_neg h9).trans ((if_pos h10).trans rfl))))))))))
                  · refine lv_bipush (v := 8) hx hb d_M_trapOf_254 (by decide) ?_
                    refine lv_aload_n hx hb d_M_trapOf_256 rfl (lv_at hl 2 rfl) ?_
                    refine lv_bipush (v := 8) hx hb d_M_trapOf_257 (by decide) ?_
                    refine lv_sipush (v := 128) hx hb d_M_trapOf_259 (by decide) ?_
                    refine x_Vip hF hs v_M_has k_ml_M_61 (m_M_has ic_8_12) rfl rfl ⟨by decide, by decide⟩ rfl rfl hl.1 (Nat.le_of_ble_eq_true rfl) rM d_M_trapOf_262 ⟨Nat.zero_le _, Nat.zero_le _⟩ (fun H locs hs => ?_)
                    refine lv_if_eq (tgt := 272) hx hb d_M_trapOf_265 (by decide) (fun h10 => ?_) (fun h10 => ?_)
                    · refine lv_iconst (v := 3) hx hb d_M_trapOf_272 (by decide) ?_
                      refine x_Sip hF hs v_M_of k_ml_M_99 (m_M_of) rfl rfl ⟨by decide, by decide⟩ rfl rfl hl.1 (Nat.le_of_ble_eq_true rfl) d_M_trapOf_273 ⟨Nat.zero_le _, Nat.zero_le _⟩ (fun H locs hs => ?_)
                      refine hret _ _ _ _ _ _ hs ?_ d_M_trapOf_276
                      exact pr_eq ((if_neg h1).trans ((if_neg h2).trans ((if_neg h3).trans ((if_neg h4).trans ((if_neg h5).trans ((if_neg h6).trans ((if_neg h7).trans ((if_neg h8).trans ((if_pos h9).trans ((if_pos h10).trans rfl))))))))))
                    · refine lv_iconst (v := 0) hx hb d_M_trapOf_268 (by decide) ?_
                      refine lv_goto (tgt := 273) hx hb d_M_trapOf_269 (by decide) ?_
                      refine x_Sip hF hs v_M_of k_ml_M_99 (m_M_of) rfl rfl ⟨by decide, by decide⟩ rfl rfl hl.1 (Nat.le_of_ble_eq_true rfl) d_M_trapOf_273 ⟨Nat.zero_le _, Nat.zero_le _⟩ (fun H locs hs => ?_)
                      refine hret _ _ _ _ _ _ hs ?_ d_M_trapOf_276
                      exact pr_eq ((if_neg h1).trans ((if_neg h2).trans ((if_neg h3).trans ((if_neg h4).trans ((if_neg h5).trans ((if_neg h6).trans ((if_neg h7).trans ((if_neg h8).trans ((if_pos h9).trans ((if_neg h10).trans rfl))))))))))
                · refine lv_bipush (v := 8) hx hb d_M_trapOf_209 (by decide) ?_
                  refine lv_aload_n hx hb d_M_trapOf_211 rfl (lv_at hl 2 rfl) ?_
                  refine lv_bipush (v := 8) hx hb d_M_trapOf_212 (by decide) ?_
                  refine lv_sipush (v := 128) hx hb d_M_trapOf_214 (by decide) ?_
                  refine x_Vip hF hs v_M_has k_ml_M_61 (m_M_has ic_8_12) rfl rfl ⟨by decide, by decide⟩ rfl rfl hl.1 (Nat.le_of_ble_eq_true rfl) rM d_M_trapOf_217 ⟨Nat.zero_le _, Nat.zero_le _⟩ (fun H locs hs => ?_)
                  refine lv_if_ne (tgt := 227) hx hb d_M_trapOf_220 (by decide) (fun h9 => ?_) (fun h9 => ?_)
                  · refine lv_iload hx hb d_M_trapOf_227 (lv_at hl 6 rfl) ?_
                    refine lv_if_lt (tgt := 238) hx hb d_M_trapOf_229 (by decide) (fun h10 => ?_) (fun h10 => ?_)
                    · refine lv_bipush (v := 8) hx hb d_M_trapOf_238 (by decide) ?_
                      refine lv_goto (tgt := 244) hx hb d_M_trapOf_240 (by decide) ?_
                      refine x_Sip hF hs v_M_of k_ml_M_99 (m_M_of) rfl rfl ⟨by decide, by decide⟩ rfl rfl hl.1 (Nat.le_of_ble_eq_true rfl) d_M_trapOf_244 ⟨Nat.zero_le _, Nat.zero_le _⟩ (fun H locs hs => ?_)
                      refine hret _ _ _ _ _ _ hs ?_ d_M_trapOf_247
                      exact pr_eq ((if_neg h1).trans ((if_neg h2).trans ((if_neg h3).trans ((if_neg h4).trans ((if_neg h5).trans ((if_neg h6).trans ((if_neg h7).trans ((if_pos h8).trans ((if_neg h9).trans ((if_pos h10).trans rfl))))))))))
                    · refine lv_iload hx hb d_M_trapOf_232 (lv_at hl 6 rfl) ?_
                      refine lv_iconst (v := 2) hx hb d_M_trapOf_234 (by decide) ?_
                      refine lv_icmp_le (tgt := 243) hx hb d_M_trapOf_235 (by decide) (fun h11 => ?_) (fun h11 => ?_)
                      · refine lv_iconst (v := 0) hx hb d_M_trapOf_243 (by decide) ?_
                        refine x_Sip hF hs v_M_of k_ml_M_99 (m_M_of) rfl rfl ⟨by decide, by decide⟩ rfl rfl hl.1 (Nat.le_of_ble_eq_true rfl) d_M_trapOf_244 ⟨Nat.zero_le _, Nat.zero_le _⟩ (fun H locs hs => ?_)
                        refine hret _ _ _ _ _ _ hs ?_ d_M_trapOf_247
                        exact pr_eq ((if_neg h1).trans ((if_neg h2).trans ((if_neg h3).trans ((if_neg h4).trans ((if_neg h5).trans ((if_neg h6).trans ((if_neg h7).trans ((if_pos h8).trans ((if_neg h9).trans ((if_neg h10).trans ((if_pos h11).trans rfl)))))))))))
                      · refine lv_bipush (v := 8) hx hb d_M_trapOf_238 (by decide) ?_
                        refine lv_goto (tgt := 244) hx hb d_M_trapOf_240 (by decide) ?_
                        refine x_Sip hF hs v_M_of k_ml_M_99 (m_M_of) rfl rfl ⟨by decide, by decide⟩ rfl rfl hl.1 (Nat.le_of_ble_eq_true rfl) d_M_trapOf_244 ⟨Nat.zero_le _, Nat.zero_le _⟩ (fun H locs hs => ?_)
                        refine hret _ _ _ _ _ _ hs ?_ d_M_trapOf_247
                        exact pr_eq ((if_neg h1).trans ((if_neg h2).trans ((if_neg h3).trans ((if_neg h4).trans ((if_neg h5).trans ((if_neg h6).trans ((if_neg h7).trans ((if_pos h8).trans ((if_neg h9).trans ((if_neg h10).trans ((if_neg h11).trans rfl)))))))))))
                  · refine lv_iconst (v := 3) hx hb d_M_trapOf_223 (by decide) ?_
                    refine lv_goto (tgt := 244) hx hb d_M_trapOf_224 (by decide) ?_
                    refine x_Sip hF hs v_M_of k_ml_M_99 (m_M_of) rfl rfl ⟨by decide, by decide⟩ rfl rfl hl.1 (Nat.le_of_ble_eq_true rfl) d_M_trapOf_244 ⟨Nat.zero_le _, Nat.zero_le _⟩ (fun H locs hs => ?_)
                    refine hret _ _ _ _ _ _ hs ?_ d_M_trapOf_247
                    exact pr_eq ((if_neg h1).trans ((if_neg h2).trans ((if_neg h3).trans ((if_neg h4).trans ((if_neg h5).trans ((if_neg h6).trans ((if_neg h7).trans ((if_pos h8).trans ((if_pos h9).trans rfl)))))))))
              · refine lv_aload_n hx hb d_M_trapOf_183 rfl (lv_at hl 2 rfl) ?_
                refine lv_iload_n hx hb d_M_trapOf_184 rfl (lv_at hl 3 rfl) ?_
                refine lv_bipush (v := 23) hx hb d_M_trapOf_185 (by decide) ?_
                refine lv_icmp_ne (tgt := 194) hx hb d_M_trapOf_187 (by decide) (fun _ => ?_) (fun h => absurd h h6)
                refine lv_iconst (v := 0) hx hb d_M_trapOf_194 (by decide) ?_
                refine lv_iload_n hx hb d_M_trapOf_195 rfl (lv_at hl 4 rfl) ?_
                refine lv_iload_n hx hb d_M_trapOf_196 rfl (lv_at hl 5 rfl) ?_
                refine lv_iload hx hb d_M_trapOf_197 (lv_at hl 0 rfl) ?_
                refine x_Vip hF hs v_M_sealing k_ml_M_103 (m_M_sealing h_n2 h_n3) rfl rfl ⟨by decide, by decide⟩ rfl rfl hl.1 (Nat.le_of_ble_eq_true rfl) rM d_M_trapOf_199 ⟨Nat.zero_le _, Nat.zero_le _⟩ (fun H locs hs => ?_)
                refine hret _ _ _ _ _ _ hs ?_ d_M_trapOf_202
                exact pr_eq ((if_neg h1).trans ((if_neg h2).trans ((if_neg h3).trans ((if_neg h4).trans ((if_neg h5).trans ((if_neg h6).trans ((if_pos h7).trans rfl)))))))
          · refine lv_iload_n hx hb d_M_trapOf_122 rfl (lv_at hl 4 rfl) ?_
            refine lv_aload_n hx hb d_M_trapOf_123 rfl (lv_at hl 2 rfl) ?_
            refine xg_M hx hb hF hs 2 (by decide) k_fl_M_16 rfl d_M_trapOf_124 ?_
            refine lv_iload_n hx hb d_M_trapOf_127 rfl (lv_at hl 4 rfl) ?_
            refine x2_ld hx hb hF hs h_n2 d_M_trapOf_128 ?_
            refine lv_if_ne (tgt := 136) hx hb d_M_trapOf_129 (by decide) (fun h6 => ?_) (fun h6 => ?_)
            · refine lv_aload_n hx hb d_M_trapOf_136 rfl (lv_at hl 2 rfl) ?_
              refine xg_M hx hb hF hs 1 (by decide) k_fl_M_13 rfl d_M_trapOf_137 ?_
              refine lv_iload_n hx hb d_M_trapOf_140 rfl (lv_at hl 4 rfl) ?_
              refine x3_ld hx hb hF hs h_n2 d_M_trapOf_141 ?_
              refine x_Sip hF hs v_M_type k_ml_M_57 (m_M_type) rfl rfl ⟨by decide, by decide⟩ rfl rfl hl.1 (Nat.le_of_ble_eq_true rfl) d_M_trapOf_142 ⟨Nat.zero_le _, Nat.zero_le _⟩ (fun H locs hs => ?_)
              refine lv_iconst (v := 1) hx hb d_M_trapOf_145 (by decide) ?_
              refine lv_icmp_le (tgt := 153) hx hb d_M_trapOf_146 (by decide) (fun h7 => ?_) (fun h7 => ?_)
              · refine lv_aload_n hx hb d_M_trapOf_153 rfl (lv_at hl 2 rfl) ?_
                refine lv_iload_n hx hb d_M_trapOf_154 rfl (lv_at hl 4 rfl) ?_
                refine lv_iconst (v := 1) hx hb d_M_trapOf_155 (by decide) ?_
                refine x_Vip hF hs v_M_has k_ml_M_61 (m_M_has h_n2) rfl rfl ⟨by decide, by decide⟩ rfl rfl hl.1 (Nat.le_of_ble_eq_true rfl) rM d_M_trapOf_156 ⟨Nat.zero_le _, Nat.zero_le _⟩ (fun H locs hs => ?_)
                refine lv_if_ne (tgt := 166) hx hb d_M_trapOf_159 (by decide) (fun h8 => ?_) (fun h8 => ?_)
                · refine lv_iconst (v := 0) hx hb d_M_trapOf_166 (by decide) ?_
                  refine x_Sip hF hs v_M_of k_ml_M_99 (m_M_of) rfl rfl ⟨by decide, by decide⟩ rfl rfl hl.1 (Nat.le_of_ble_eq_true rfl) d_M_trapOf_167 ⟨Nat.zero_le _, Nat.zero_le _⟩ (fun H locs hs => ?_)
                  refine hret _ _ _ _ _ _ hs ?_ d_M_trapOf_170
                  exact pr_eq ((if_neg h1).trans ((if_neg h2).trans ((if_neg h3).trans ((if_neg h4).trans ((if_pos h5).trans ((if_neg h6).trans ((if_pos h7).trans ((if_neg h8).trans rfl))))))))
                · refine lv_iconst (v := 3) hx hb d_M_trapOf_162 (by decide) ?_
                  refine lv_goto (tgt := 167) hx hb d_M_trapOf_163 (by decide) ?_
                  refine x_Sip hF hs v_M_of k_ml_M_99 (m_M_of) rfl rfl ⟨by decide, by decide⟩ rfl rfl hl.1 (Nat.le_of_ble_eq_true rfl) d_M_trapOf_167 ⟨Nat.zero_le _, Nat.zero_le _⟩ (fun H locs hs => ?_)
                  refine hret _ _ _ _ _ _ hs ?_ d_M_trapOf_170
                  exact pr_eq ((if_neg h1).trans ((if_neg h2).trans ((if_neg h3).trans ((if_neg h4).trans ((if_pos h5).trans ((if_neg h6).trans ((if_pos h7).trans ((if_pos h8).trans rfl))))))))
              · refine lv_iconst (v := 2) hx hb d_M_trapOf_149 (by decide) ?_
                refine lv_goto (tgt := 167) hx hb d_M_trapOf_150 (by decide) ?_
                refine x_Sip hF hs v_M_of k_ml_M_99 (m_M_of) rfl rfl ⟨by decide, by decide⟩ rfl rfl hl.1 (Nat.le_of_ble_eq_true rfl) d_M_trapOf_167 ⟨Nat.zero_le _, Nat.zero_le _⟩ (fun H locs hs => ?_)
                refine hret _ _ _ _ _ _ hs ?_ d_M_trapOf_170
                exact pr_eq ((if_neg h1).trans ((if_neg h2).trans ((if_neg h3).trans ((if_neg h4).trans ((if_pos h5).trans ((if_neg h6).trans ((if_neg h7).trans rfl)))))))
            · refine lv_iconst (v := 1) hx hb d_M_trapOf_132 (by decide) ?_
              refine lv_goto (tgt := 167) hx hb d_M_trapOf_133 (by decide) ?_
              refine x_Sip hF hs v_M_of k_ml_M_99 (m_M_of) rfl rfl ⟨by decide, by decide⟩ rfl rfl hl.1 (Nat.le_of_ble_eq_true rfl) d_M_trapOf_167 ⟨Nat.zero_le _, Nat.zero_le _⟩ (fun H locs hs => ?_)
              refine hret _ _ _ _ _ _ hs ?_ d_M_trapOf_170
              exact pr_eq ((if_neg h1).trans ((if_neg h2).trans ((if_neg h3).trans ((if_neg h4).trans ((if_pos h5).trans ((if_pos h6).trans rfl))))))
        · refine lv_iload_n hx hb d_M_trapOf_68 rfl (lv_at hl 4 rfl) ?_
          refine lv_aload_n hx hb d_M_trapOf_69 rfl (lv_at hl 2 rfl) ?_
          refine lv_iload_n hx hb d_M_trapOf_70 rfl (lv_at hl 4 rfl) ?_
          refine lv_iload_n hx hb d_M_trapOf_71 rfl (lv_at hl 3 rfl) ?_
          refine lv_bipush (v := 14) hx hb d_M_trapOf_72 (by decide) ?_
          refine lv_icmp_ne (tgt := 91) hx hb d_M_trapOf_74 (by decide) (fun h => absurd h4 h) (fun _ => ?_)
          refine lv_aload_n hx hb d_M_trapOf_77 rfl (lv_at hl 2 rfl) ?_
          refine xg_M hx hb hF hs 2 (by decide) k_fl_M_16 rfl d_M_trapOf_78 ?_
          refine lv_iload_n hx hb d_M_trapOf_81 rfl (lv_at hl 5 rfl) ?_
          refine x2_ld hx hb hF hs h_n3 d_M_trapOf_82 ?_
          refine lv_if_eq (tgt := 91) hx hb d_M_trapOf_83 (by decide) (fun h5 => ?_) (fun h5 => ?_)
          · refine lv_iconst (v := 4) hx hb d_M_trapOf_91 (by decide) ?_
            refine lv_iload_n hx hb d_M_trapOf_92 rfl (lv_at hl 3 rfl) ?_
            refine lv_bipush (v := 12) hx hb d_M_trapOf_93 (by decide) ?_
            refine lv_icmp_ne (tgt := 102) hx hb d_M_trapOf_95 (by decide) (fun _ => ?_) (fun h => absurd h h3)
            refine lv_bipush (v := 8) hx hb d_M_trapOf_102 (by decide) ?_
            refine lv_iload hx hb d_M_trapOf_104 (lv_at hl 1 rfl) ?_
            refine lv_iload hx hb d_M_trapOf_106 (lv_at hl 6 rfl) ?_
            refine lv_iadd hx hb d_M_trapOf_108 ?_
            refine x_Vip hF hs v_M_check k_ml_M_95 (m_M_check h_n2 (by decide)) rfl rfl ⟨by decide, by decide⟩ rfl rfl hl.1 (Nat.le_of_ble_eq_true rfl) rM d_M_trapOf_109 ⟨Nat.zero_le _, Nat.zero_le _⟩ (fun H locs hs => ?_)
            refine x_Sip hF hs v_M_of k_ml_M_99 (m_M_of) rfl rfl ⟨by decide, by decide⟩ rfl rfl hl.1 (Nat.le_of_ble_eq_true rfl) d_M_trapOf_112 ⟨Nat.zero_le _, Nat.zero_le _⟩ (fun H locs hs => ?_)
            refine hret _ _ _ _ _ _ hs ?_ d_M_trapOf_115
            exact pr_eq ((if_neg h1).trans ((if_neg h2).trans ((if_neg h3).trans ((if_pos h4).trans ((if_pos h5).trans rfl)))))
          · refine lv_bipush (v := 20) hx hb d_M_trapOf_86 (by decide) ?_
            refine lv_goto (tgt := 92) hx hb d_M_trapOf_88 (by decide) ?_
            refine lv_iload_n hx hb d_M_trapOf_92 rfl (lv_at hl 3 rfl) ?_
            refine lv_bipush (v := 12) hx hb d_M_trapOf_93 (by decide) ?_
            refine lv_icmp_ne (tgt := 102) hx hb d_M_trapOf_95 (by decide) (fun _ => ?_) (fun h => absurd h h3)
            refine lv_bipush (v := 8) hx hb d_M_trapOf_102 (by decide) ?_
            refine lv_iload hx hb d_M_trapOf_104 (lv_at hl 1 rfl) ?_
            refine lv_iload hx hb d_M_trapOf_106 (lv_at hl 6 rfl) ?_
            refine lv_iadd hx hb d_M_trapOf_108 ?_
            refine x_Vip hF hs v_M_check k_ml_M_95 (m_M_check h_n2 (by decide)) rfl rfl ⟨by decide, by decide⟩ rfl rfl hl.1 (Nat.le_of_ble_eq_true rfl) rM d_M_trapOf_109 ⟨Nat.zero_le _, Nat.zero_le _⟩ (fun H locs hs => ?_)
            refine x_Sip hF hs v_M_of k_ml_M_99 (m_M_of) rfl rfl ⟨by decide, by decide⟩ rfl rfl hl.1 (Nat.le_of_ble_eq_true rfl) d_M_trapOf_112 ⟨Nat.zero_le _, Nat.zero_le _⟩ (fun H locs hs => ?_)
            refine hret _ _ _ _ _ _ hs ?_ d_M_trapOf_115
            exact pr_eq ((if_neg h1).trans ((if_neg h2).trans ((if_neg h3).trans ((if_pos h4).trans ((if_neg h5).trans rfl)))))
    · refine lv_iload_n hx hb d_M_trapOf_28 rfl (lv_at hl 4 rfl) ?_
      refine lv_aload_n hx hb d_M_trapOf_29 rfl (lv_at hl 2 rfl) ?_
      refine lv_iload_n hx hb d_M_trapOf_30 rfl (lv_at hl 4 rfl) ?_
      refine lv_iconst (v := 2) hx hb d_M_trapOf_31 (by decide) ?_
      refine lv_iload_n hx hb d_M_trapOf_32 rfl (lv_at hl 3 rfl) ?_
      refine lv_bipush (v := 11) hx hb d_M_trapOf_33 (by decide) ?_
      refine lv_icmp_ne (tgt := 42) hx hb d_M_trapOf_35 (by decide) (fun _ => ?_) (fun h => absurd h h1)
      refine lv_bipush (v := 8) hx hb d_M_trapOf_42 (by decide) ?_
      refine lv_iload hx hb d_M_trapOf_44 (lv_at hl 1 rfl) ?_
      refine lv_iload hx hb d_M_trapOf_46 (lv_at hl 6 rfl) ?_
      refine lv_iadd hx hb d_M_trapOf_48 ?_
      refine x_Vip hF hs v_M_check k_ml_M_95 (m_M_check h_n2 (by decide)) rfl rfl ⟨by decide, by decide⟩ rfl rfl hl.1 (Nat.le_of_ble_eq_true rfl) rM d_M_trapOf_49 ⟨Nat.zero_le _, Nat.zero_le _⟩ (fun H locs hs => ?_)
      refine x_Sip hF hs v_M_of k_ml_M_99 (m_M_of) rfl rfl ⟨by decide, by decide⟩ rfl rfl hl.1 (Nat.le_of_ble_eq_true rfl) d_M_trapOf_52 ⟨Nat.zero_le _, Nat.zero_le _⟩ (fun H locs hs => ?_)
      refine hret _ _ _ _ _ _ hs ?_ d_M_trapOf_55
      exact pr_eq ((if_neg h1).trans ((if_pos h2).trans rfl))
def p_M_trap (σ : Mem) (n1 : Int32) : Mem :=
  let σ1 : Mem := p_M_take σ (8 : Int32);
  let σ2 : Mem := p_M_put σ1 (10 : Int32);
  let σ3 : Mem := wr σ2 5 1 n1;
  let σ4 : Mem := wr σ3 5 3 ((σ3 5 3) + (1 : Int32));
  if (bo (σ4 2 ((9 : Int32) : Int32).toNatClampNeg)) = (0 : Int32) then
    let σ5 : Mem := wr σ4 5 0 (2 : Int32);
    σ5
  else
    if (p_M_type (σ4 3 ((9 : Int32) : Int32).toNatClampNeg)) = (0 : Int32) then
      if (p_M_has σ4 (9 : Int32) (1 : Int32)) = (0 : Int32) then
        let σ7 : Mem := wr σ4 5 0 (2 : Int32);
        σ7
      else
        let σ8 : Mem := p_M_take σ4 (9 : Int32);
        let σ9 : Mem := p_M_put σ8 (8 : Int32);
        σ9
    else
      let σ6 : Mem := wr σ4 5 0 (2 : Int32);
      σ6
set_option maxHeartbeats 4000000 in
set_option maxRecDepth 100000 in
theorem m_M_trap {l : Launch} {D : va_G} {a : Nat → Nat} {cA : Nat → ClassId} {B0 : Nat → Prop} {σ : Mem} {n1 : Int32} : cV l y_M_trap (.code y_M_trap c_M_trap 2 (none) :: TG) (rmO 1 22) D (rwL a cA) (rty cA) B0 [.ref (a 0), .int n1] σ (p_M_trap σ n1) := by
  refine cV_of (by decide) (Nat.le_of_ble_eq_true rfl) ?_
  intro p e s m args below meth c Q ls hx hb hF hl hs hret
  have hl : lv_has ls 2 [(0, .ref (a 0)), (1, .int n1)] := hl
  refine lv_aload_n hx hb d_M_trap_0 rfl (lv_at hl 0 rfl) ?_
  refine lv_bipush (v := 8) hx hb d_M_trap_1 (by decide) ?_
  refine x_Vv hF hs v_M_take k_ml_M_82 (m_M_take ic_8_12) rfl rfl ⟨by decide, by decide⟩ rfl rfl hl.1 (Nat.le_of_ble_eq_true rfl) rM d_M_trap_3 ⟨Nat.zero_le _, Nat.zero_le _⟩ (fun H locs hs => ?_)
  refine lv_aload_n hx hb d_M_trap_6 rfl (lv_at hl 0 rfl) ?_
  refine lv_bipush (v := 10) hx hb d_M_trap_7 (by decide) ?_
  refine x_Vv hF hs v_M_put k_ml_M_89 (m_M_put ic_10_12) rfl rfl ⟨by decide, by decide⟩ rfl rfl hl.1 (Nat.le_of_ble_eq_true rfl) rM d_M_trap_9 ⟨Nat.zero_le _, Nat.zero_le _⟩ (fun H locs hs => ?_)
  refine lv_aload_n hx hb d_M_trap_12 rfl (lv_at hl 0 rfl) ?_
  refine lv_iload_n hx hb d_M_trap_13 rfl (lv_at hl 1 rfl) ?_
  refine xp_M5 hx hb hF hs 1 (by decide) k_fl_M_107 d_M_trap_14 (fun H locs hs => ?_)
  refine lv_aload_n hx hb d_M_trap_17 rfl (lv_at hl 0 rfl) ?_
  refine lv_dup hx hb d_M_trap_18 rfl ?_
  refine xg_M hx hb hF hs 8 (by decide) k_fl_M_110 rfl d_M_trap_19 ?_
  refine lv_iconst (v := 1) hx hb d_M_trap_22 (by decide) ?_
  refine lv_iadd hx hb d_M_trap_23 ?_
  refine xp_M5 hx hb hF hs 3 (by decide) k_fl_M_110 d_M_trap_24 (fun H locs hs => ?_)
  refine lv_aload_n hx hb d_M_trap_27 rfl (lv_at hl 0 rfl) ?_
  refine xg_M hx hb hF hs 2 (by decide) k_fl_M_16 rfl d_M_trap_28 ?_
  refine lv_bipush (v := 9) hx hb d_M_trap_31 (by decide) ?_
  refine x2_ld hx hb hF hs ic_9_12 d_M_trap_33 ?_
  refine lv_if_eq (tgt := 75) hx hb d_M_trap_34 (by decide) (fun h1 => ?_) (fun h1 => ?_)
  · refine lv_aload_n hx hb d_M_trap_75 rfl (lv_at hl 0 rfl) ?_
    refine lv_iconst (v := 2) hx hb d_M_trap_76 (by decide) ?_
    refine xp_M5 hx hb hF hs 0 (by decide) k_fl_M_113 d_M_trap_77 (fun H locs hs => ?_)
    refine hret _ _ _ _ _ hs ?_ d_M_trap_80
    exact (if_pos h1).trans rfl
  · refine lv_aload_n hx hb d_M_trap_37 rfl (lv_at hl 0 rfl) ?_
    refine xg_M hx hb hF hs 1 (by decide) k_fl_M_13 rfl d_M_trap_38 ?_
    refine lv_bipush (v := 9) hx hb d_M_trap_41 (by decide) ?_
    refine x3_ld hx hb hF hs ic_9_12 d_M_trap_43 ?_
    refine x_Sip hF hs v_M_type k_ml_M_57 (m_M_type) rfl rfl ⟨by decide, by decide⟩ rfl rfl hl.1 (Nat.le_of_ble_eq_true rfl) d_M_trap_44 ⟨Nat.zero_le _, Nat.zero_le _⟩ (fun H locs hs => ?_)
    refine lv_if_ne (tgt := 75) hx hb d_M_trap_47 (by decide) (fun h2 => ?_) (fun h2 => ?_)
    · refine lv_aload_n hx hb d_M_trap_75 rfl (lv_at hl 0 rfl) ?_
      refine lv_iconst (v := 2) hx hb d_M_trap_76 (by decide) ?_
      refine xp_M5 hx hb hF hs 0 (by decide) k_fl_M_113 d_M_trap_77 (fun H locs hs => ?_)
      refine hret _ _ _ _ _ hs ?_ d_M_trap_80
      exact (if_neg h1).trans ((if_neg h2).trans rfl)
    · refine lv_aload_n hx hb d_M_trap_50 rfl (lv_at hl 0 rfl) ?_
      refine lv_bipush (v := 9) hx hb d_M_trap_51 (by decide) ?_
      refine lv_iconst (v := 1) hx hb d_M_trap_53 (by decide) ?_
      refine x_Vip hF hs v_M_has k_ml_M_61 (m_M_has ic_9_12) rfl rfl ⟨by decide, by decide⟩ rfl rfl hl.1 (Nat.le_of_ble_eq_true rfl) rM d_M_trap_54 ⟨Nat.zero_le _, Nat.zero_le _⟩ (fun H locs hs => ?_)
      refine lv_if_eq (tgt := 75) hx hb d_M_trap_57 (by decide) (fun h3 => ?_) (fun h3 => ?_)
      · refine lv_aload_n hx hb d_M_trap_75 rfl (lv_at hl 0 rfl) ?_
        refine lv_iconst (v := 2) hx hb d_M_trap_76 (by decide) ?_
        refine xp_M5 hx hb hF hs 0 (by decide) k_fl_M_113 d_M_trap_77 (fun H locs hs => ?_)
        refine hret _ _ _ _ _ hs ?_ d_M_trap_80
        exact (if_neg h1).trans ((if_pos h2).trans ((if_pos h3).trans rfl))
      · refine lv_aload_n hx hb d_M_trap_60 rfl (lv_at hl 0 rfl) ?_
        refine lv_bipush (v := 9) hx hb d_M_trap_61 (by decide) ?_
        refine x_Vv hF hs v_M_take k_ml_M_82 (m_M_take ic_9_12) rfl rfl ⟨by decide, by decide⟩ rfl rfl hl.1 (Nat.le_of_ble_eq_true rfl) rM d_M_trap_63 ⟨Nat.zero_le _, Nat.zero_le _⟩ (fun H locs hs => ?_)
        refine lv_aload_n hx hb d_M_trap_66 rfl (lv_at hl 0 rfl) ?_
        refine lv_bipush (v := 8) hx hb d_M_trap_67 (by decide) ?_
        refine x_Vv hF hs v_M_put k_ml_M_89 (m_M_put ic_8_12) rfl rfl ⟨by decide, by decide⟩ rfl rfl hl.1 (Nat.le_of_ble_eq_true rfl) rM d_M_trap_69 ⟨Nat.zero_le _, Nat.zero_le _⟩ (fun H locs hs => ?_)
        refine lv_goto (tgt := 80) hx hb d_M_trap_72 (by decide) ?_
        refine hret _ _ _ _ _ hs ?_ d_M_trap_80
        exact (if_neg h1).trans ((if_pos h2).trans ((if_neg h3).trans rfl))
def p_M_access (σ : Mem) (n1 : Int32) (n2 : Int32) (n3 : Int32) (n4 : Int32) (n5 : Int32) : Mem :=
  if n1 = (11 : Int32) then
    let σ14 : Mem := p_M_number σ (σ 0 ((((σ 4 (n3 : Int32).toNatClampNeg) + (n5 : Int32)) / (4 : Int32)) : Int32).toNatClampNeg);
    let σ15 : Mem := p_M_put σ14 n2;
    σ15
  else
    if n1 = (12 : Int32) then
      let σ12 : Mem := wr σ 0 ((((σ 4 (n3 : Int32).toNatClampNeg) + (n5 : Int32)) / (4 : Int32)) : Int32).toNatClampNeg (σ 4 (n4 : Int32).toNatClampNeg);
      let σ13 : Mem := wr σ12 1 ((((σ 4 (n3 : Int32).toNatClampNeg) + (n5 : Int32)) / (8 : Int32)) : Int32).toNatClampNeg (0 : Int32);
      σ13
    else
      if n1 = (13 : Int32) then
        let σ4 : Mem := wr σ 6 0 (σ 0 ((((σ 4 (n3 : Int32).toNatClampNeg) + (n5 : Int32)) / (4 : Int32)) : Int32).toNatClampNeg);
        let σ5 : Mem := wr σ4 6 1 (σ4 0 (((((σ 4 (n3 : Int32).toNatClampNeg) + (n5 : Int32)) / (4 : Int32)) + (1 : Int32)) : Int32).toNatClampNeg);
        if (bo (σ5 1 ((((σ 4 (n3 : Int32).toNatClampNeg) + (n5 : Int32)) / (8 : Int32)) : Int32).toNatClampNeg)) = (0 : Int32) then
          let σ6 : Mem := wr σ5 6 2 (0 : Int32);
          let σ7 : Mem := p_M_put σ6 n2;
          σ7
        else
          if (p_M_has σ5 n3 (8 : Int32)) = (0 : Int32) then
            let σ8 : Mem := wr σ5 6 2 (0 : Int32);
            let σ9 : Mem := p_M_put σ8 n2;
            σ9
          else
            let σ10 : Mem := wr σ5 6 2 (1 : Int32);
            let σ11 : Mem := p_M_put σ10 n2;
            σ11
      else
        let σ1 : Mem := wr σ 0 ((((σ 4 (n3 : Int32).toNatClampNeg) + (n5 : Int32)) / (4 : Int32)) : Int32).toNatClampNeg (σ 4 (n4 : Int32).toNatClampNeg);
        let σ2 : Mem := wr σ1 0 (((((σ 4 (n3 : Int32).toNatClampNeg) + (n5 : Int32)) / (4 : Int32)) + (1 : Int32)) : Int32).toNatClampNeg (σ1 3 (n4 : Int32).toNatClampNeg);
        let σ3 : Mem := wr σ2 1 ((((σ 4 (n3 : Int32).toNatClampNeg) + (n5 : Int32)) / (8 : Int32)) : Int32).toNatClampNeg (bo (σ2 2 (n4 : Int32).toNatClampNeg));
        σ3
set_option maxHeartbeats 4000000 in
set_option maxRecDepth 100000 in
theorem m_M_access {l : Launch} {D : va_G} {a : Nat → Nat} {cA : Nat → ClassId} {B0 : Nat → Prop} {σ : Mem} {n1 : Int32} {n2 : Int32} {n3 : Int32} {n4 : Int32} {n5 : Int32} (h_n2 : vp_in n2 12) (h_n3 : vp_in n3 12) (h_n4 : vp_in n4 12) (h_a1 : vp_in ((σ 4 n3.toNatClampNeg + n5) / 4) 256) (h_a2 : vp_in ((σ 4 n3.toNatClampNeg + n5) / 8) 128) (h_a3 : ¬ n1 = 11 → ¬ n1 = 12 → vp_in ((σ 4 n3.toNatClampNeg + n5) / 4 + 1) 256) : cV l y_M_access (.code y_M_access c_M_access 7 (none) :: TG) (rmO 1 22) D (rwL a cA) (rty cA) B0 [.ref (a 0), .int n1, .int n2, .int n3, .int n4, .int n5] σ (p_M_access σ n1 n2 n3 n4 n5) := by
  refine cV_of (by decide) (Nat.le_of_ble_eq_true rfl) ?_
  intro p e s m args below meth c Q ls hx hb hF hl hs hret
  have hl : lv_has ls 7 [(0, .ref (a 0)), (1, .int n1), (2, .int n2), (3, .int n3), (4, .int n4), (5, .int n5)] := hl
  refine lv_aload_n hx hb d_M_access_0 rfl (lv_at hl 0 rfl) ?_
  refine xg_M hx hb hF hs 0 (by decide) k_fl_M_7 rfl d_M_access_1 ?_
  refine lv_iload_n hx hb d_M_access_4 rfl (lv_at hl 3 rfl) ?_
  refine x4_ld hx hb hF hs h_n3 d_M_access_5 ?_
  refine lv_iload hx hb d_M_access_6 (lv_at hl 5 rfl) ?_
  refine lv_iadd hx hb d_M_access_8 ?_
  refine lv_istore (lv' := [(6, _), (0, _), (1, _), (2, _), (3, _), (4, _), (5, _)]) hx hb d_M_access_9 hl (by decide) rfl (fun ls hl => ?_)
  refine lv_iload_n hx hb d_M_access_11 rfl (lv_at hl 2 rfl) ?_
  refine lv_bipush (v := 11) hx hb d_M_access_12 (by decide) ?_
  refine lv_icmp_ne (tgt := 38) hx hb d_M_access_14 (by decide) (fun h1 => ?_) (fun h1 => ?_)
  · refine lv_iload_n hx hb d_M_access_38 rfl (lv_at hl 2 rfl) ?_
    refine lv_bipush (v := 12) hx hb d_M_access_39 (by decide) ?_
    refine lv_icmp_ne (tgt := 74) hx hb d_M_access_41 (by decide) (fun h2 => ?_) (fun h2 => ?_)
    · refine lv_iload_n hx hb d_M_access_74 rfl (lv_at hl 2 rfl) ?_
      refine lv_bipush (v := 13) hx hb d_M_access_75 (by decide) ?_
      refine lv_icmp_ne (tgt := 148) hx hb d_M_access_77 (by decide) (fun h3 => ?_) (fun h3 => ?_)
      · refine lv_aload_n hx hb d_M_access_148 rfl (lv_at hl 1 rfl) ?_
        refine xg_M hx hb hF hs 3 (by decide) k_fl_M_20 rfl d_M_access_149 ?_
        refine lv_iload hx hb d_M_access_152 (lv_at hl 0 rfl) ?_
        refine lv_iconst (v := 4) hx hb d_M_access_154 (by decide) ?_
        refine lv_idiv hx hb d_M_access_155 (by decide) ?_
        refine lv_aload_n hx hb d_M_access_156 rfl (lv_at hl 1 rfl) ?_
        refine xg_M hx hb hF hs 0 (by decide) k_fl_M_7 rfl d_M_access_157 ?_
        refine lv_iload hx hb d_M_access_160 (lv_at hl 5 rfl) ?_
        refine x4_ld hx hb hF hs h_n4 d_M_access_162 ?_
        refine x0_st hx hb hF hs h_a1 d_M_access_163 (fun H locs hs => ?_)
        refine lv_aload_n hx hb d_M_access_164 rfl (lv_at hl 1 rfl) ?_
        refine xg_M hx hb hF hs 3 (by decide) k_fl_M_20 rfl d_M_access_165 ?_
        refine lv_iload hx hb d_M_access_168 (lv_at hl 0 rfl) ?_
        refine lv_iconst (v := 4) hx hb d_M_access_170 (by decide) ?_
        refine lv_idiv hx hb d_M_access_171 (by decide) ?_
        refine lv_iconst (v := 1) hx hb d_M_access_172 (by decide) ?_
        refine lv_iadd hx hb d_M_access_173 ?_
        refine lv_aload_n hx hb d_M_access_174 rfl (lv_at hl 1 rfl) ?_
        refine xg_M hx hb hF hs 1 (by decide) k_fl_M_13 rfl d_M_access_175 ?_
        refine lv_iload hx hb d_M_access_178 (lv_at hl 5 rfl) ?_
        refine x3_ld hx hb hF hs h_n4 d_M_access_180 ?_
        refine x0_st hx hb hF hs (h_a3 h1 h2) d_M_access_181 (fun H locs hs => ?_)
        refine lv_aload_n hx hb d_M_access_182 rfl (lv_at hl 1 rfl) ?_
        refine xg_M hx hb hF hs 4 (by decide) k_fl_M_23 rfl d_M_access_183 ?_
        refine lv_iload hx hb d_M_access_186 (lv_at hl 0 rfl) ?_
        refine lv_bipush (v := 8) hx hb d_M_access_188 (by decide) ?_
        refine lv_idiv hx hb d_M_access_190 (by decide) ?_
        refine lv_aload_n hx hb d_M_access_191 rfl (lv_at hl 1 rfl) ?_
        refine xg_M hx hb hF hs 2 (by decide) k_fl_M_16 rfl d_M_access_192 ?_
        refine lv_iload hx hb d_M_access_195 (lv_at hl 5 rfl) ?_
        refine x2_ld hx hb hF hs h_n4 d_M_access_197 ?_
        refine x1_st hx hb hF hs h_a2 d_M_access_198 (fun H locs hs => ?_)
        refine hret _ _ _ _ _ hs ?_ d_M_access_199
        exact (if_neg h1).trans ((if_neg h2).trans ((if_neg h3).trans rfl))
      · refine lv_aload_n hx hb d_M_access_80 rfl (lv_at hl 1 rfl) ?_
        refine lv_aload_n hx hb d_M_access_81 rfl (lv_at hl 1 rfl) ?_
        refine xg_M hx hb hF hs 3 (by decide) k_fl_M_20 rfl d_M_access_82 ?_
        refine lv_iload hx hb d_M_access_85 (lv_at hl 0 rfl) ?_
        refine lv_iconst (v := 4) hx hb d_M_access_87 (by decide) ?_
        refine lv_idiv hx hb d_M_access_88 (by decide) ?_
        refine x0_ld hx hb hF hs h_a1 d_M_access_89 ?_
        refine xp_M6 hx hb hF hs 0 (by decide) k_fl_M_71 d_M_access_90 (fun H locs hs => ?_)
        refine lv_aload_n hx hb d_M_access_93 rfl (lv_at hl 1 rfl) ?_
        refine lv_aload_n hx hb d_M_access_94 rfl (lv_at hl 1 rfl) ?_
        refine xg_M hx hb hF hs 3 (by decide) k_fl_M_20 rfl d_M_access_95 ?_
        refine lv_iload hx hb d_M_access_98 (lv_at hl 0 rfl) ?_
        refine lv_iconst (v := 4) hx hb d_M_access_100 (by decide) ?_
        refine lv_idiv hx hb d_M_access_101 (by decide) ?_
        refine lv_iconst (v := 1) hx hb d_M_access_102 (by decide) ?_
        refine lv_iadd hx hb d_M_access_103 ?_
        refine x0_ld hx hb hF hs (h_a3 h1 h2) d_M_access_104 ?_
        refine xp_M6 hx hb hF hs 1 (by decide) k_fl_M_75 d_M_access_105 (fun H locs hs => ?_)
        refine lv_aload_n hx hb d_M_access_108 rfl (lv_at hl 1 rfl) ?_
        refine lv_aload_n hx hb d_M_access_109 rfl (lv_at hl 1 rfl) ?_
        refine xg_M hx hb hF hs 4 (by decide) k_fl_M_23 rfl d_M_access_110 ?_
        refine lv_iload hx hb d_M_access_113 (lv_at hl 0 rfl) ?_
        refine lv_bipush (v := 8) hx hb d_M_access_115 (by decide) ?_
        refine lv_idiv hx hb d_M_access_117 (by decide) ?_
        refine x1_ld hx hb hF hs h_a2 d_M_access_118 ?_
        refine lv_if_eq (tgt := 136) hx hb d_M_access_119 (by decide) (fun h4 => ?_) (fun h4 => ?_)
        · refine lv_iconst (v := 0) hx hb d_M_access_136 (by decide) ?_
          refine xp_M62 hx hb hF hs k_fl_M_78 bo_0 d_M_access_137 (fun H locs hs => ?_)
          refine lv_aload_n hx hb d_M_access_140 rfl (lv_at hl 1 rfl) ?_
          refine lv_iload_n hx hb d_M_access_141 rfl (lv_at hl 3 rfl) ?_
          refine x_Vv hF hs v_M_put k_ml_M_89 (m_M_put h_n2) rfl rfl ⟨by decide, by decide⟩ rfl rfl hl.1 (Nat.le_of_ble_eq_true rfl) rM d_M_access_142 ⟨Nat.zero_le _, Nat.zero_le _⟩ (fun H locs hs => ?_)
          refine lv_goto (tgt := 199) hx hb d_M_access_145 (by decide) ?_
          refine hret _ _ _ _ _ hs ?_ d_M_access_199
          exact (if_neg h1).trans ((if_neg h2).trans ((if_pos h3).trans ((if_pos h4).trans rfl)))
        · refine lv_aload_n hx hb d_M_access_122 rfl (lv_at hl 1 rfl) ?_
          refine lv_iload_n hx hb d_M_access_123 rfl (lv_at hl 4 rfl) ?_
          refine lv_bipush (v := 8) hx hb d_M_access_124 (by decide) ?_
          refine x_Vip hF hs v_M_has k_ml_M_61 (m_M_has h_n3) rfl rfl ⟨by decide, by decide⟩ rfl rfl hl.1 (Nat.le_of_ble_eq_true rfl) rM d_M_access_126 ⟨Nat.zero_le _, Nat.zero_le _⟩ (fun H locs hs => ?_)
          refine lv_if_eq (tgt := 136) hx hb d_M_access_129 (by decide) (fun h5 => ?_) (fun h5 => ?_)
          · refine lv_iconst (v := 0) hx hb d_M_access_136 (by decide) ?_
            refine xp_M62 hx hb hF hs k_fl_M_78 bo_0 d_M_access_137 (fun H locs hs => ?_)
            refine lv_aload_n hx hb d_M_access_140 rfl (lv_at hl 1 rfl) ?_
            refine lv_iload_n hx hb d_M_access_141 rfl (lv_at hl 3 rfl) ?_
            refine x_Vv hF hs v_M_put k_ml_M_89 (m_M_put h_n2) rfl rfl ⟨by decide, by decide⟩ rfl rfl hl.1 (Nat.le_of_ble_eq_true rfl) rM d_M_access_142 ⟨Nat.zero_le _, Nat.zero_le _⟩ (fun H locs hs => ?_)
            refine lv_goto (tgt := 199) hx hb d_M_access_145 (by decide) ?_
            refine hret _ _ _ _ _ hs ?_ d_M_access_199
            exact (if_neg h1).trans ((if_neg h2).trans ((if_pos h3).trans ((if_neg h4).trans ((if_pos h5).trans rfl))))
          · refine lv_iconst (v := 1) hx hb d_M_access_132 (by decide) ?_
            refine lv_goto (tgt := 137) hx hb d_M_access_133 (by decide) ?_
            refine xp_M62 hx hb hF hs k_fl_M_78 bo_1 d_M_access_137 (fun H locs hs => ?_)
            refine lv_aload_n hx hb d_M_access_140 rfl (lv_at hl 1 rfl) ?_
            refine lv_iload_n hx hb d_M_access_141 rfl (lv_at hl 3 rfl) ?_
            refine x_Vv hF hs v_M_put k_ml_M_89 (m_M_put h_n2) rfl rfl ⟨by decide, by decide⟩ rfl rfl hl.1 (Nat.le_of_ble_eq_true rfl) rM d_M_access_142 ⟨Nat.zero_le _, Nat.zero_le _⟩ (fun H locs hs => ?_)
            refine lv_goto (tgt := 199) hx hb d_M_access_145 (by decide) ?_
            refine hret _ _ _ _ _ hs ?_ d_M_access_199
            exact (if_neg h1).trans ((if_neg h2).trans ((if_pos h3).trans ((if_neg h4).trans ((if_neg h5).trans rfl))))
    · refine lv_aload_n hx hb d_M_access_44 rfl (lv_at hl 1 rfl) ?_
      refine xg_M hx hb hF hs 3 (by decide) k_fl_M_20 rfl d_M_access_45 ?_
      refine lv_iload hx hb d_M_access_48 (lv_at hl 0 rfl) ?_
      refine lv_iconst (v := 4) hx hb d_M_access_50 (by decide) ?_
      refine lv_idiv hx hb d_M_access_51 (by decide) ?_
      refine lv_aload_n hx hb d_M_access_52 rfl (lv_at hl 1 rfl) ?_
      refine xg_M hx hb hF hs 0 (by decide) k_fl_M_7 rfl d_M_access_53 ?_
      refine lv_iload hx hb d_M_access_56 (lv_at hl 5 rfl) ?_
      refine x4_ld hx hb hF hs h_n4 d_M_access_58 ?_
      refine x0_st hx hb hF hs h_a1 d_M_access_59 (fun H locs hs => ?_)
      refine lv_aload_n hx hb d_M_access_60 rfl (lv_at hl 1 rfl) ?_
      refine xg_M hx hb hF hs 4 (by decide) k_fl_M_23 rfl d_M_access_61 ?_
      refine lv_iload hx hb d_M_access_64 (lv_at hl 0 rfl) ?_
      refine lv_bipush (v := 8) hx hb d_M_access_66 (by decide) ?_
      refine lv_idiv hx hb d_M_access_68 (by decide) ?_
      refine lv_iconst (v := 0) hx hb d_M_access_69 (by decide) ?_
      refine x1_st hx hb hF hs h_a2 d_M_access_70 (fun H locs hs => ?_)
      refine lv_goto (tgt := 199) hx hb d_M_access_71 (by decide) ?_
      refine hret _ _ _ _ _ hs ?_ d_M_access_199
      exact (if_neg h1).trans ((if_pos h2).trans rfl)
  · refine lv_aload_n hx hb d_M_access_17 rfl (lv_at hl 1 rfl) ?_
    refine lv_aload_n hx hb d_M_access_18 rfl (lv_at hl 1 rfl) ?_
    refine xg_M hx hb hF hs 3 (by decide) k_fl_M_20 rfl d_M_access_19 ?_
    refine lv_iload hx hb d_M_access_22 (lv_at hl 0 rfl) ?_
    refine lv_iconst (v := 4) hx hb d_M_access_24 (by decide) ?_
    refine lv_idiv hx hb d_M_access_25 (by decide) ?_
    refine x0_ld hx hb hF hs h_a1 d_M_access_26 ?_
    refine x_Vv hF hs v_M_number k_ml_M_128 (m_M_number) rfl rfl ⟨by decide, by decide⟩ rfl rfl hl.1 (Nat.le_of_ble_eq_true rfl) rM d_M_access_27 ⟨Nat.zero_le _, Nat.zero_le _⟩ (fun H locs hs => ?_)
    refine lv_aload_n hx hb d_M_access_30 rfl (lv_at hl 1 rfl) ?_
    refine lv_iload_n hx hb d_M_access_31 rfl (lv_at hl 3 rfl) ?_
    refine x_Vv hF hs v_M_put k_ml_M_89 (m_M_put h_n2) rfl rfl ⟨by decide, by decide⟩ rfl rfl hl.1 (Nat.le_of_ble_eq_true rfl) rM d_M_access_32 ⟨Nat.zero_le _, Nat.zero_le _⟩ (fun H locs hs => ?_)
    refine lv_goto (tgt := 199) hx hb d_M_access_35 (by decide) ?_
    refine hret _ _ _ _ _ hs ?_ d_M_access_199
    exact (if_pos h1).trans rfl
def p_M_turn (σ : Mem) (n1 : Int32) (n2 : Int32) (n3 : Int32) (n4 : Int32) (n5 : Int32) : Mem :=
  if n1 = (15 : Int32) then
    if (σ 4 (n3 : Int32).toNatClampNeg) = (σ 4 (n4 : Int32).toNatClampNeg) then
      let σ2 : Mem := p_M_go σ ((4 : Int32) * (n5 : Int32));
      σ2
    else
      let σ1 : Mem := p_M_go σ (4 : Int32);
      σ1
  else
    if n1 = (16 : Int32) then
      if (σ 4 (n4 : Int32).toNatClampNeg) ≤ (σ 4 (n3 : Int32).toNatClampNeg) then
        let σ12 : Mem := p_M_go σ (4 : Int32);
        σ12
      else
        let σ13 : Mem := p_M_go σ ((4 : Int32) * (n5 : Int32));
        σ13
    else
      if n1 = (17 : Int32) then
        let σ9 : Mem := p_M_link σ;
        let σ10 : Mem := p_M_put σ9 n2;
        let σ11 : Mem := p_M_go σ10 ((4 : Int32) * (n5 : Int32));
        σ11
      else
        let σ3 : Mem := p_M_link σ;
        let σ4 : Mem := p_M_put σ3 n2;
        let σ5 : Mem := wr σ4 6 0 (σ 4 (n3 : Int32).toNatClampNeg);
        let σ6 : Mem := p_M_typed σ5 (σ 3 (n3 : Int32).toNatClampNeg) (0 : Int32);
        let σ7 : Mem := wr σ6 6 2 (1 : Int32);
        let σ8 : Mem := p_M_put σ7 (8 : Int32);
        σ8
set_option maxHeartbeats 4000000 in
set_option maxRecDepth 100000 in
theorem m_M_turn {l : Launch} {D : va_G} {a : Nat → Nat} {cA : Nat → ClassId} {B0 : Nat → Prop} {σ : Mem} {n1 : Int32} {n2 : Int32} {n3 : Int32} {n4 : Int32} {n5 : Int32} (h_n2 : vp_in n2 12) (h_n3 : vp_in n3 12) (h_n4 : vp_in n4 12) : cV l y_M_turn (.code y_M_turn c_M_turn 8 (none) :: TG) (rmO 5 123) D (rwL a cA) (rty cA) B0 [.ref (a 0), .int n1, .int n2, .int n3, .int n4, .int n5] σ (p_M_turn σ n1 n2 n3 n4 n5) := by
  refine cV_of (by decide) (Nat.le_of_ble_eq_true rfl) ?_
  intro p e s m args below meth c Q ls hx hb hF hl hs hret
  have hl : lv_has ls 8 [(0, .ref (a 0)), (1, .int n1), (2, .int n2), (3, .int n3), (4, .int n4), (5, .int n5)] := hl
  refine lv_iload_n hx hb d_M_turn_0 rfl (lv_at hl 1 rfl) ?_
  refine lv_bipush (v := 15) hx hb d_M_turn_1 (by decide) ?_
  refine lv_icmp_eq (tgt := 12) hx hb d_M_turn_3 (by decide) (fun h1 => ?_) (fun h1 => ?_)
  · refine lv_iload_n hx hb d_M_turn_12 rfl (lv_at hl 1 rfl) ?_
    refine lv_bipush (v := 15) hx hb d_M_turn_13 (by decide) ?_
    refine lv_icmp_ne (tgt := 42) hx hb d_M_turn_15 (by decide) (fun h => absurd h1 h) (fun _ => ?_)
    refine lv_aload_n hx hb d_M_turn_18 rfl (lv_at hl 0 rfl) ?_
    refine xg_M hx hb hF hs 0 (by decide) k_fl_M_7 rfl d_M_turn_19 ?_
    refine lv_iload_n hx hb d_M_turn_22 rfl (lv_at hl 3 rfl) ?_
    refine x4_ld hx hb hF hs h_n3 d_M_turn_23 ?_
    refine lv_aload_n hx hb d_M_turn_24 rfl (lv_at hl 0 rfl) ?_
    refine xg_M hx hb hF hs 0 (by decide) k_fl_M_7 rfl d_M_turn_25 ?_
    refine lv_iload hx hb d_M_turn_28 (lv_at hl 4 rfl) ?_
    refine x4_ld hx hb hF hs h_n4 d_M_turn_30 ?_
    refine lv_icmp_ne (tgt := 38) hx hb d_M_turn_31 (by decide) (fun h2 => ?_) (fun h2 => ?_)
    · refine lv_iconst (v := 0) hx hb d_M_turn_38 (by decide) ?_
      refine lv_goto (tgt := 63) hx hb d_M_turn_39 (by decide) ?_
      refine lv_istore (lv' := [(6, _), (0, _), (1, _), (2, _), (3, _), (4, _), (5, _)]) hx hb d_M_turn_63 hl (by decide) rfl (fun ls hl => ?_)
      refine lv_aload_n hx hb d_M_turn_65 rfl (lv_at hl 1 rfl) ?_
      refine lv_iload hx hb d_M_turn_66 (lv_at hl 0 rfl) ?_
      refine lv_if_eq (tgt := 78) hx hb d_M_turn_68 (by decide) (fun _ => ?_) (fun h => absurd h (by decide))
      refine lv_iconst (v := 4) hx hb d_M_turn_78 (by decide) ?_
      refine x_Vv hF hs v_M_go k_ml_M_131 (m_M_go) rfl rfl ⟨by decide, by decide⟩ rfl rfl hl.1 (Nat.le_of_ble_eq_true rfl) rM d_M_turn_79 ⟨Nat.zero_le _, Nat.zero_le _⟩ (fun H locs hs => ?_)
      refine hret _ _ _ _ _ hs ?_ d_M_turn_82
      exact (if_pos h1).trans ((if_neg h2).trans rfl)
    · refine lv_iconst (v := 1) hx hb d_M_turn_34 (by decide) ?_
      refine lv_goto (tgt := 63) hx hb d_M_turn_35 (by decide) ?_
      refine lv_istore (lv' := [(6, _), (0, _), (1, _), (2, _), (3, _), (4, _), (5, _)]) hx hb d_M_turn_63 hl (by decide) rfl (fun ls hl => ?_)
      refine lv_aload_n hx hb d_M_turn_65 rfl (lv_at hl 1 rfl) ?_
      refine lv_iload hx hb d_M_turn_66 (lv_at hl 0 rfl) ?_
      refine lv_if_eq (tgt := 78) hx hb d_M_turn_68 (by decide) (fun h => absurd h (by decide)) (fun _ => ?_)
      refine lv_iconst (v := 4) hx hb d_M_turn_71 (by decide) ?_
      refine lv_iload hx hb d_M_turn_72 (lv_at hl 6 rfl) ?_
      refine lv_imul hx hb d_M_turn_74 ?_
      refine lv_goto (tgt := 79) hx hb d_M_turn_75 (by decide) ?_
      refine x_Vv hF hs v_M_go k_ml_M_131 (m_M_go) rfl rfl ⟨by decide, by decide⟩ rfl rfl hl.1 (Nat.le_of_ble_eq_true rfl) rM d_M_turn_79 ⟨Nat.zero_le _, Nat.zero_le _⟩ (fun H locs hs => ?_)
      refine hret _ _ _ _ _ hs ?_ d_M_turn_82
      exact (if_pos h1).trans ((if_pos h2).trans rfl)
  · refine lv_iload_n hx hb d_M_turn_6 rfl (lv_at hl 1 rfl) ?_
    refine lv_bipush (v := 16) hx hb d_M_turn_7 (by decide) ?_
    refine lv_icmp_ne (tgt := 83) hx hb d_M_turn_9 (by decide) (fun h2 => ?_) (fun h2 => ?_)
    · refine lv_iload_n hx hb d_M_turn_83 rfl (lv_at hl 1 rfl) ?_
      refine lv_bipush (v := 17) hx hb d_M_turn_84 (by decide) ?_
      refine lv_icmp_ne (tgt := 107) hx hb d_M_turn_86 (by decide) (fun h3 => ?_) (fun h3 => ?_)
      · refine lv_aload_n hx hb d_M_turn_107 rfl (lv_at hl 0 rfl) ?_
        refine xg_M hx hb hF hs 0 (by decide) k_fl_M_7 rfl d_M_turn_108 ?_
        refine lv_iload_n hx hb d_M_turn_111 rfl (lv_at hl 3 rfl) ?_
        refine x4_ld hx hb hF hs h_n3 d_M_turn_112 ?_
        refine lv_istore (lv' := [(6, _), (0, _), (1, _), (2, _), (3, _), (4, _), (5, _)]) hx hb d_M_turn_113 hl (by decide) rfl (fun ls hl => ?_)
        refine lv_aload_n hx hb d_M_turn_115 rfl (lv_at hl 1 rfl) ?_
        refine xg_M hx hb hF hs 1 (by decide) k_fl_M_13 rfl d_M_turn_116 ?_
        refine lv_iload_n hx hb d_M_turn_119 rfl (lv_at hl 4 rfl) ?_
        refine x3_ld hx hb hF hs h_n3 d_M_turn_120 ?_
        refine lv_istore (lv' := [(7, _), (6, _), (0, _), (1, _), (2, _), (3, _), (4, _), (5, _)]) hx hb d_M_turn_121 hl (by decide) rfl (fun ls hl => ?_)
        refine lv_aload_n hx hb d_M_turn_123 rfl (lv_at hl 2 rfl) ?_
        refine x_Vv hF hs v_M_link k_ml_M_148 (m_M_link) rfl rfl ⟨by decide, by decide⟩ rfl rfl hl.1 (Nat.le_of_ble_eq_true rfl) rM d_M_turn_124 ⟨Nat.zero_le _, Nat.zero_le _⟩ (fun H locs hs => ?_)
        refine lv_aload_n hx hb d_M_turn_127 rfl (lv_at hl 2 rfl) ?_
        refine lv_iload_n hx hb d_M_turn_128 rfl (lv_at hl 4 rfl) ?_
        refine x_Vv hF hs v_M_put k_ml_M_89 (m_M_put h_n2) rfl rfl ⟨by decide, by decide⟩ rfl rfl hl.1 (Nat.le_of_ble_eq_true rfl) rM d_M_turn_129 ⟨Nat.zero_le _, Nat.zero_le _⟩ (fun H locs hs => ?_)
        refine lv_aload_n hx hb d_M_turn_132 rfl (lv_at hl 2 rfl) ?_
        refine lv_iload hx hb d_M_turn_133 (lv_at hl 1 rfl) ?_
        refine xp_M6 hx hb hF hs 0 (by decide) k_fl_M_71 d_M_turn_135 (fun H locs hs => ?_)
        refine lv_aload_n hx hb d_M_turn_138 rfl (lv_at hl 2 rfl) ?_
        refine lv_iload hx hb d_M_turn_139 (lv_at hl 0 rfl) ?_
        refine lv_iconst (v := 0) hx hb d_M_turn_141 (by decide) ?_
        refine x_Vv hF hs v_M_typed k_ml_M_92 (m_M_typed) rfl rfl ⟨by decide, by decide⟩ rfl rfl hl.1 (Nat.le_of_ble_eq_true rfl) rM d_M_turn_142 ⟨Nat.zero_le _, Nat.zero_le _⟩ (fun H locs hs => ?_)
        refine lv_aload_n hx hb d_M_turn_145 rfl (lv_at hl 2 rfl) ?_
        refine lv_iconst (v := 1) hx hb d_M_turn_146 (by decide) ?_
        refine xp_M62 hx hb hF hs k_fl_M_78 bo_1 d_M_turn_147 (fun H locs hs => ?_)
        refine lv_aload_n hx hb d_M_turn_150 rfl (lv_at hl 2 rfl) ?_
        refine lv_bipush (v := 8) hx hb d_M_turn_151 (by decide) ?_
        refine x_Vv hF hs v_M_put k_ml_M_89 (m_M_put ic_8_12) rfl rfl ⟨by decide, by decide⟩ rfl rfl hl.1 (Nat.le_of_ble_eq_true rfl) rM d_M_turn_153 ⟨Nat.zero_le _, Nat.zero_le _⟩ (fun H locs hs => ?_)
        refine hret _ _ _ _ _ hs ?_ d_M_turn_156
        exact (if_neg h1).trans ((if_neg h2).trans ((if_neg h3).trans rfl))
      · refine lv_aload_n hx hb d_M_turn_89 rfl (lv_at hl 0 rfl) ?_
        refine x_Vv hF hs v_M_link k_ml_M_148 (m_M_link) rfl rfl ⟨by decide, by decide⟩ rfl rfl hl.1 (Nat.le_of_ble_eq_true rfl) rM d_M_turn_90 ⟨Nat.zero_le _, Nat.zero_le _⟩ (fun H locs hs => ?_)
        refine lv_aload_n hx hb d_M_turn_93 rfl (lv_at hl 0 rfl) ?_
        refine lv_iload_n hx hb d_M_turn_94 rfl (lv_at hl 2 rfl) ?_
        refine x_Vv hF hs v_M_put k_ml_M_89 (m_M_put h_n2) rfl rfl ⟨by decide, by decide⟩ rfl rfl hl.1 (Nat.le_of_ble_eq_true rfl) rM d_M_turn_95 ⟨Nat.zero_le _, Nat.zero_le _⟩ (fun H locs hs => ?_)
        refine lv_aload_n hx hb d_M_turn_98 rfl (lv_at hl 0 rfl) ?_
        refine lv_iconst (v := 4) hx hb d_M_turn_99 (by decide) ?_
        refine lv_iload hx hb d_M_turn_100 (lv_at hl 5 rfl) ?_
        refine lv_imul hx hb d_M_turn_102 ?_
        refine x_Vv hF hs v_M_go k_ml_M_131 (m_M_go) rfl rfl ⟨by decide, by decide⟩ rfl rfl hl.1 (Nat.le_of_ble_eq_true rfl) rM d_M_turn_103 ⟨Nat.zero_le _, Nat.zero_le _⟩ (fun H locs hs => ?_)
        refine hret _ _ _ _ _ hs ?_ d_M_turn_106
        exact (if_neg h1).trans ((if_neg h2).trans ((if_pos h3).trans rfl))
    · refine lv_iload_n hx hb d_M_turn_12 rfl (lv_at hl 1 rfl) ?_
      refine lv_bipush (v := 15) hx hb d_M_turn_13 (by decide) ?_
      refine lv_icmp_ne (tgt := 42) hx hb d_M_turn_15 (by decide) (fun _ => ?_) (fun h => absurd h h1)
      refine lv_aload_n hx hb d_M_turn_42 rfl (lv_at hl 0 rfl) ?_
      refine xg_M hx hb hF hs 0 (by decide) k_fl_M_7 rfl d_M_turn_43 ?_
      refine lv_iload_n hx hb d_M_turn_46 rfl (lv_at hl 3 rfl) ?_
      refine x4_ld hx hb hF hs h_n3 d_M_turn_47 ?_
      refine lv_aload_n hx hb d_M_turn_48 rfl (lv_at hl 0 rfl) ?_
      refine xg_M hx hb hF hs 0 (by decide) k_fl_M_7 rfl d_M_turn_49 ?_
      refine lv_iload hx hb d_M_turn_52 (lv_at hl 4 rfl) ?_
      refine x4_ld hx hb hF hs h_n4 d_M_turn_54 ?_
      refine lv_icmp_ge (tgt := 62) hx hb d_M_turn_55 (by decide) (fun h3 => ?_) (fun h3 => ?_)
      · refine lv_iconst (v := 0) hx hb d_M_turn_62 (by decide) ?_
        refine lv_istore (lv' := [(6, _), (0, _), (1, _), (2, _), (3, _), (4, _), (5, _)]) hx hb d_M_turn_63 hl (by decide) rfl (fun ls hl => ?_)
        refine lv_aload_n hx hb d_M_turn_65 rfl (lv_at hl 1 rfl) ?_
        refine lv_iload hx hb d_M_turn_66 (lv_at hl 0 rfl) ?_
        refine lv_if_eq (tgt := 78) hx hb d_M_turn_68 (by decide) (fun _ => ?_) (fun h => absurd h (by decide))
        refine lv_iconst (v := 4) hx hb d_M_turn_78 (by decide) ?_
        refine x_Vv hF hs v_M_go k_ml_M_131 (m_M_go) rfl rfl ⟨by decide, by decide⟩ rfl rfl hl.1 (Nat.le_of_ble_eq_true rfl) rM d_M_turn_79 ⟨Nat.zero_le _, Nat.zero_le _⟩ (fun H locs hs => ?_)
        refine hret _ _ _ _ _ hs ?_ d_M_turn_82
        exact (if_neg h1).trans ((if_pos h2).trans ((if_pos h3).trans rfl))
      · refine lv_iconst (v := 1) hx hb d_M_turn_58 (by decide) ?_
        refine lv_goto (tgt := 63) hx hb d_M_turn_59 (by decide) ?_
        refine lv_istore (lv' := [(6, _), (0, _), (1, _), (2, _), (3, _), (4, _), (5, _)]) hx hb d_M_turn_63 hl (by decide) rfl (fun ls hl => ?_)
        refine lv_aload_n hx hb d_M_turn_65 rfl (lv_at hl 1 rfl) ?_
        refine lv_iload hx hb d_M_turn_66 (lv_at hl 0 rfl) ?_
        refine lv_if_eq (tgt := 78) hx hb d_M_turn_68 (by decide) (fun h => absurd h (by decide)) (fun _ => ?_)
        refine lv_iconst (v := 4) hx hb d_M_turn_71 (by decide) ?_
        refine lv_iload hx hb d_M_turn_72 (lv_at hl 6 rfl) ?_
        refine lv_imul hx hb d_M_turn_74 ?_
        refine lv_goto (tgt := 79) hx hb d_M_turn_75 (by decide) ?_
        refine x_Vv hF hs v_M_go k_ml_M_131 (m_M_go) rfl rfl ⟨by decide, by decide⟩ rfl rfl hl.1 (Nat.le_of_ble_eq_true rfl) rM d_M_turn_79 ⟨Nat.zero_le _, Nat.zero_le _⟩ (fun H locs hs => ?_)
        refine hret _ _ _ _ _ hs ?_ d_M_turn_82
        exact (if_neg h1).trans ((if_pos h2).trans ((if_neg h3).trans rfl))
def p_M_told (σ : Mem) (n1 : Int32) (n2 : Int32) : Int32 :=
  if n2 = (0 : Int32) then
    ((p_M_baseOf (σ 3 (n1 : Int32).toNatClampNeg) (σ 4 (n1 : Int32).toNatClampNeg))).toInt32
  else
    if n2 = (1 : Int32) then
      (((p_M_topOf (σ 3 (n1 : Int32).toNatClampNeg) (σ 4 (n1 : Int32).toNatClampNeg)) - ((p_M_baseOf (σ 3 (n1 : Int32).toNatClampNeg) (σ 4 (n1 : Int32).toNatClampNeg)) : Int64))).toInt32
    else
      if n2 = (2 : Int32) then
        ((σ 3 (n1 : Int32).toNatClampNeg) &&& (255 : Int32))
      else
        if n2 = (3 : Int32) then
          (p_M_type (σ 3 (n1 : Int32).toNatClampNeg))
        else
          if n2 = (4 : Int32) then
            if (bo (σ 2 (n1 : Int32).toNatClampNeg)) = (0 : Int32) then
              (0 : Int32)
            else
              (1 : Int32)
          else
            if n2 = (5 : Int32) then
              (σ 4 (n1 : Int32).toNatClampNeg)
            else
              if n2 = (6 : Int32) then
                (σ 3 (n1 : Int32).toNatClampNeg)
              else
                (0 : Int32)
set_option maxHeartbeats 4000000 in
set_option maxRecDepth 100000 in
theorem m_M_told {l : Launch} {D : va_G} {a : Nat → Nat} {cA : Nat → ClassId} {B0 : Nat → Prop} {σ : Mem} {n1 : Int32} {n2 : Int32} (h_n1 : vp_in n1 12) : cI l y_M_told (.code y_M_told c_M_told 5 (some FieldType.int) :: TG) (rmO 3 77) D (rwL a cA) (rty cA) B0 [.ref (a 0), .int n1, .int n2] σ (p_M_told σ n1 n2, σ) := by
  refine cI_of (by decide) (Nat.le_of_ble_eq_true rfl) ?_
  intro p e s m args below meth c Q ls hx hb hF hl hs hret
  have hl : lv_has ls 5 [(0, .ref (a 0)), (1, .int n1), (2, .int n2)] := hl
  refine lv_aload_n hx hb d_M_told_0 rfl (lv_at hl 0 rfl) ?_
  refine xg_M hx hb hF hs 1 (by decide) k_fl_M_13 rfl d_M_told_1 ?_
  refine lv_iload_n hx hb d_M_told_4 rfl (lv_at hl 1 rfl) ?_
  refine x3_ld hx hb hF hs h_n1 d_M_told_5 ?_
  refine lv_aload_n hx hb d_M_told_6 rfl (lv_at hl 0 rfl) ?_
  refine xg_M hx hb hF hs 0 (by decide) k_fl_M_7 rfl d_M_told_7 ?_
  refine lv_iload_n hx hb d_M_told_10 rfl (lv_at hl 1 rfl) ?_
  refine x4_ld hx hb hF hs h_n1 d_M_told_11 ?_
  refine x_Slp hF hs v_M_baseOf k_ml_M_65 (m_M_baseOf) rfl rfl ⟨by decide, by decide⟩ rfl rfl hl.1 (Nat.le_of_ble_eq_true rfl) d_M_told_12 ⟨Nat.zero_le _, Nat.zero_le _⟩ (fun H locs hs => ?_)
  refine lv_lstore_n (lv' := [(3, _), (0, _), (1, _), (2, _)]) hx hb d_M_told_15 rfl hl (by decide) rfl (fun ls hl => ?_)
  refine lv_iload_n hx hb d_M_told_16 rfl (lv_at hl 3 rfl) ?_
  refine lv_if_ne (tgt := 23) hx hb d_M_told_17 (by decide) (fun h1 => ?_) (fun h1 => ?_)
  · refine lv_iload_n hx hb d_M_told_23 rfl (lv_at hl 3 rfl) ?_
    refine lv_iconst (v := 1) hx hb d_M_told_24 (by decide) ?_
    refine lv_icmp_ne (tgt := 47) hx hb d_M_told_25 (by decide) (fun h2 => ?_) (fun h2 => ?_)
    · refine lv_iload_n hx hb d_M_told_47 rfl (lv_at hl 3 rfl) ?_
      refine lv_iconst (v := 2) hx hb d_M_told_48 (by decide) ?_
      refine lv_icmp_ne (tgt := 65) hx hb d_M_told_49 (by decide) (fun h3 => ?_) (fun h3 => ?_)
      · refine lv_iload_n hx hb d_M_told_65 rfl (lv_at hl 3 rfl) ?_
        refine lv_iconst (v := 3) hx hb d_M_told_66 (by decide) ?_
        refine lv_icmp_ne (tgt := 82) hx hb d_M_told_67 (by decide) (fun h4 => ?_) (fun h4 => ?_)
        · refine lv_iload_n hx hb d_M_told_82 rfl (lv_at hl 3 rfl) ?_
          refine lv_iconst (v := 4) hx hb d_M_told_83 (by decide) ?_
          refine lv_icmp_ne (tgt := 104) hx hb d_M_told_84 (by decide) (fun h5 => ?_) (fun h5 => ?_)
          · refine lv_iload_n hx hb d_M_told_104 rfl (lv_at hl 3 rfl) ?_
            refine lv_iconst (v := 5) hx hb d_M_told_105 (by decide) ?_
            refine lv_icmp_ne (tgt := 118) hx hb d_M_told_106 (by decide) (fun h6 => ?_) (fun h6 => ?_)
            · refine lv_iload_n hx hb d_M_told_118 rfl (lv_at hl 3 rfl) ?_
              refine lv_bipush (v := 6) hx hb d_M_told_119 (by decide) ?_
              refine lv_icmp_ne (tgt := 133) hx hb d_M_told_121 (by decide) (fun h7 => ?_) (fun h7 => ?_)
              · refine lv_iconst (v := 0) hx hb d_M_told_133 (by decide) ?_
                refine hret _ _ _ _ _ _ hs ?_ d_M_told_134
                exact pr_eq ((if_neg h1).trans ((if_neg h2).trans ((if_neg h3).trans ((if_neg h4).trans ((if_neg h5).trans ((if_neg h6).trans ((if_neg h7).trans rfl)))))))
              · refine lv_aload_n hx hb d_M_told_124 rfl (lv_at hl 1 rfl) ?_
                refine xg_M hx hb hF hs 1 (by decide) k_fl_M_13 rfl d_M_told_125 ?_
                refine lv_iload_n hx hb d_M_told_128 rfl (lv_at hl 2 rfl) ?_
                refine x3_ld hx hb hF hs h_n1 d_M_told_129 ?_
                refine lv_goto (tgt := 134) hx hb d_M_told_130 (by decide) ?_
                refine hret _ _ _ _ _ _ hs ?_ d_M_told_134
                exact pr_eq ((if_neg h1).trans ((if_neg h2).trans ((if_neg h3).trans ((if_neg h4).trans ((if_neg h5).trans ((if_neg h6).trans ((if_pos h7).trans rfl)))))))
            · refine lv_aload_n hx hb d_M_told_109 rfl (lv_at hl 1 rfl) ?_
              refine xg_M hx hb hF hs 0 (by decide) k_fl_M_7 rfl d_M_told_110 ?_
              refine lv_iload_n hx hb d_M_told_113 rfl (lv_at hl 2 rfl) ?_
              refine x4_ld hx hb hF hs h_n1 d_M_told_114 ?_
              refine lv_goto (tgt := 134) hx hb d_M_told_115 (by decide) ?_
              refine hret _ _ _ _ _ _ hs ?_ d_M_told_134
              exact pr_eq ((if_neg h1).trans ((if_neg h2).trans ((if_neg h3).trans ((if_neg h4).trans ((if_neg h5).trans ((if_pos h6).trans rfl))))))
          · refine lv_aload_n hx hb d_M_told_87 rfl (lv_at hl 1 rfl) ?_
            refine xg_M hx hb hF hs 2 (by decide) k_fl_M_16 rfl d_M_told_88 ?_
            refine lv_iload_n hx hb d_M_told_91 rfl (lv_at hl 2 rfl) ?_
            refine x2_ld hx hb hF hs h_n1 d_M_told_92 ?_
            refine lv_if_eq (tgt := 100) hx hb d_M_told_93 (by decide) (fun h6 => ?_) (fun h6 => ?_)
            · refine lv_iconst (v := 0) hx hb d_M_told_100 (by decide) ?_
              refine lv_goto (tgt := 134) hx hb d_M_told_101 (by decide) ?_
              refine hret _ _ _ _ _ _ hs ?_ d_M_told_134
              exact pr_eq ((if_neg h1).trans ((if_neg h2).trans ((if_neg h3).trans ((if_neg h4).trans ((if_pos h5).trans ((if_pos h6).trans rfl))))))
            · refine lv_iconst (v := 1) hx hb d_M_told_96 (by decide) ?_
              refine lv_goto (tgt := 134) hx hb d_M_told_97 (by decide) ?_
              refine hret _ _ _ _ _ _ hs ?_ d_M_told_134
              exact pr_eq ((if_neg h1).trans ((if_neg h2).trans ((if_neg h3).trans ((if_neg h4).trans ((if_pos h5).trans ((if_neg h6).trans rfl))))))
        · refine lv_aload_n hx hb d_M_told_70 rfl (lv_at hl 1 rfl) ?_
          refine xg_M hx hb hF hs 1 (by decide) k_fl_M_13 rfl d_M_told_71 ?_
          refine lv_iload_n hx hb d_M_told_74 rfl (lv_at hl 2 rfl) ?_
          refine x3_ld hx hb hF hs h_n1 d_M_told_75 ?_
          refine x_Sip hF hs v_M_type k_ml_M_57 (m_M_type) rfl rfl ⟨by decide, by decide⟩ rfl rfl hl.1 (Nat.le_of_ble_eq_true rfl) d_M_told_76 ⟨Nat.zero_le _, Nat.zero_le _⟩ (fun H locs hs => ?_)
          refine lv_goto (tgt := 134) hx hb d_M_told_79 (by decide) ?_
          refine hret _ _ _ _ _ _ hs ?_ d_M_told_134
          exact pr_eq ((if_neg h1).trans ((if_neg h2).trans ((if_neg h3).trans ((if_pos h4).trans rfl))))
      · refine lv_aload_n hx hb d_M_told_52 rfl (lv_at hl 1 rfl) ?_
        refine xg_M hx hb hF hs 1 (by decide) k_fl_M_13 rfl d_M_told_53 ?_
        refine lv_iload_n hx hb d_M_told_56 rfl (lv_at hl 2 rfl) ?_
        refine x3_ld hx hb hF hs h_n1 d_M_told_57 ?_
        refine lv_sipush (v := 255) hx hb d_M_told_58 (by decide) ?_
        refine lv_iand hx hb d_M_told_61 ?_
        refine lv_goto (tgt := 134) hx hb d_M_told_62 (by decide) ?_
        refine hret _ _ _ _ _ _ hs ?_ d_M_told_134
        exact pr_eq ((if_neg h1).trans ((if_neg h2).trans ((if_pos h3).trans rfl)))
    · refine lv_aload_n hx hb d_M_told_28 rfl (lv_at hl 1 rfl) ?_
      refine xg_M hx hb hF hs 1 (by decide) k_fl_M_13 rfl d_M_told_29 ?_
      refine lv_iload_n hx hb d_M_told_32 rfl (lv_at hl 2 rfl) ?_
      refine x3_ld hx hb hF hs h_n1 d_M_told_33 ?_
      refine lv_aload_n hx hb d_M_told_34 rfl (lv_at hl 1 rfl) ?_
      refine xg_M hx hb hF hs 0 (by decide) k_fl_M_7 rfl d_M_told_35 ?_
      refine lv_iload_n hx hb d_M_told_38 rfl (lv_at hl 2 rfl) ?_
      refine x4_ld hx hb hF hs h_n1 d_M_told_39 ?_
      refine x_Slp hF hs v_M_topOf k_ml_M_68 (m_M_topOf) rfl rfl ⟨by decide, by decide⟩ rfl rfl hl.1 (Nat.le_of_ble_eq_true rfl) d_M_told_40 ⟨Nat.zero_le _, Nat.zero_le _⟩ (fun H locs hs => ?_)
      refine lv_lload_n hx hb d_M_told_43 rfl (lv_at hl 0 rfl) ?_
      refine lv_lsub hx hb d_M_told_44 ?_
      refine lv_l2i hx hb d_M_told_45 rfl ?_
      refine hret _ _ _ _ _ _ hs ?_ d_M_told_46
      exact pr_eq ((if_neg h1).trans ((if_pos h2).trans rfl))
  · refine lv_lload_n hx hb d_M_told_20 rfl (lv_at hl 0 rfl) ?_
    refine lv_l2i hx hb d_M_told_21 rfl ?_
    refine hret _ _ _ _ _ _ hs ?_ d_M_told_22
    exact pr_eq ((if_pos h1).trans rfl)
def p_M_build (σ : Mem) (n1 : Int32) (n2 : Int32) : Mem :=
  if (lg_cmp (p_M_baseOf (σ 3 (n2 : Int32).toNatClampNeg) (σ 4 (n2 : Int32).toNatClampNeg)) (p_M_baseOf (σ 3 (n1 : Int32).toNatClampNeg) (σ 4 (n1 : Int32).toNatClampNeg))) < (0 : Int32) then
    if (p_M_type (σ 3 (n1 : Int32).toNatClampNeg)) = (0 : Int32) then
      if (p_M_type (σ 3 (n2 : Int32).toNatClampNeg)) = (0 : Int32) then
        if (((σ 3 (n2 : Int32).toNatClampNeg) &&& (255 : Int32)) &&& (((σ 3 (n1 : Int32).toNatClampNeg) ^^^ ((-1) : Int32)) : Int32)) = (0 : Int32) then
          if (bo (σ 2 (n1 : Int32).toNatClampNeg)) = (0 : Int32) then
            let σ13 : Mem := p_M_take σ n2;
            let σ14 : Mem := wr σ13 6 2 (0 : Int32);
            σ14
          else
            let σ15 : Mem := p_M_take σ n2;
            let σ16 : Mem := wr σ15 6 2 (0 : Int32);
            σ16
        else
          if (bo (σ 2 (n1 : Int32).toNatClampNeg)) = (0 : Int32) then
            let σ9 : Mem := p_M_take σ n2;
            let σ10 : Mem := wr σ9 6 2 (0 : Int32);
            σ10
          else
            let σ11 : Mem := p_M_take σ n2;
            let σ12 : Mem := wr σ11 6 2 (0 : Int32);
            σ12
      else
        if (bo (σ 2 (n1 : Int32).toNatClampNeg)) = (0 : Int32) then
          let σ5 : Mem := p_M_take σ n2;
          let σ6 : Mem := wr σ5 6 2 (0 : Int32);
          σ6
        else
          let σ7 : Mem := p_M_take σ n2;
          let σ8 : Mem := wr σ7 6 2 (0 : Int32);
          σ8
    else
      if (bo (σ 2 (n1 : Int32).toNatClampNeg)) = (0 : Int32) then
        let σ1 : Mem := p_M_take σ n2;
        let σ2 : Mem := wr σ1 6 2 (0 : Int32);
        σ2
      else
        let σ3 : Mem := p_M_take σ n2;
        let σ4 : Mem := wr σ3 6 2 (0 : Int32);
        σ4
  else
    if (0 : Int32) < (lg_cmp (p_M_baseOf (σ 3 (n2 : Int32).toNatClampNeg) (σ 4 (n2 : Int32).toNatClampNeg)) (p_M_topOf (σ 3 (n2 : Int32).toNatClampNeg) (σ 4 (n2 : Int32).toNatClampNeg))) then
      if (p_M_type (σ 3 (n1 : Int32).toNatClampNeg)) = (0 : Int32) then
        if (p_M_type (σ 3 (n2 : Int32).toNatClampNeg)) = (0 : Int32) then
          if (((σ 3 (n2 : Int32).toNatClampNeg) &&& (255 : Int32)) &&& (((σ 3 (n1 : Int32).toNatClampNeg) ^^^ ((-1) : Int32)) : Int32)) = (0 : Int32) then
            if (bo (σ 2 (n1 : Int32).toNatClampNeg)) = (0 : Int32) then
              let σ29 : Mem := p_M_take σ n2;
              let σ30 : Mem := wr σ29 6 2 (0 : Int32);
              σ30
            else
              let σ31 : Mem := p_M_take σ n2;
              let σ32 : Mem := wr σ31 6 2 (0 : Int32);
              σ32
          else
            if (bo (σ 2 (n1 : Int32).toNatClampNeg)) = (0 : Int32) then
              let σ25 : Mem := p_M_take σ n2;
              let σ26 : Mem := wr σ25 6 2 (0 : Int32);
              σ26
            else
              let σ27 : Mem := p_M_take σ n2;
              let σ28 : Mem := wr σ27 6 2 (0 : Int32);
              σ28
        else
          if (bo (σ 2 (n1 : Int32).toNatClampNeg)) = (0 : Int32) then
            let σ21 : Mem := p_M_take σ n2;
            let σ22 : Mem := wr σ21 6 2 (0 : Int32);
            σ22
          else
            let σ23 : Mem := p_M_take σ n2;
            let σ24 : Mem := wr σ23 6 2 (0 : Int32);
            σ24
      else
        if (bo (σ 2 (n1 : Int32).toNatClampNeg)) = (0 : Int32) then
          let σ17 : Mem := p_M_take σ n2;
          let σ18 : Mem := wr σ17 6 2 (0 : Int32);
          σ18
        else
          let σ19 : Mem := p_M_take σ n2;
          let σ20 : Mem := wr σ19 6 2 (0 : Int32);
          σ20
    else
      if (0 : Int32) < (lg_cmp (p_M_topOf (σ 3 (n2 : Int32).toNatClampNeg) (σ 4 (n2 : Int32).toNatClampNeg)) (p_M_topOf (σ 3 (n1 : Int32).toNatClampNeg) (σ 4 (n1 : Int32).toNatClampNeg))) then
        if (p_M_type (σ 3 (n1 : Int32).toNatClampNeg)) = (0 : Int32) then
          if (p_M_type (σ 3 (n2 : Int32).toNatClampNeg)) = (0 : Int32) then
            if (((σ 3 (n2 : Int32).toNatClampNeg) &&& (255 : Int32)) &&& (((σ 3 (n1 : Int32).toNatClampNeg) ^^^ ((-1) : Int32)) : Int32)) = (0 : Int32) then
              if (bo (σ 2 (n1 : Int32).toNatClampNeg)) = (0 : Int32) then
                let σ45 : Mem := p_M_take σ n2;
                let σ46 : Mem := wr σ45 6 2 (0 : Int32);
                σ46
              else
                let σ47 : Mem := p_M_take σ n2;
                let σ48 : Mem := wr σ47 6 2 (0 : Int32);
                σ48
            else
              if (bo (σ 2 (n1 : Int32).toNatClampNeg)) = (0 : Int32) then
                let σ41 : Mem := p_M_take σ n2;
                let σ42 : Mem := wr σ41 6 2 (0 : Int32);
                σ42
              else
                let σ43 : Mem := p_M_take σ n2;
                let σ44 : Mem := wr σ43 6 2 (0 : Int32);
                σ44
          else
            if (bo (σ 2 (n1 : Int32).toNatClampNeg)) = (0 : Int32) then
              let σ37 : Mem := p_M_take σ n2;
              let σ38 : Mem := wr σ37 6 2 (0 : Int32);
              σ38
            else
              let σ39 : Mem := p_M_take σ n2;
              let σ40 : Mem := wr σ39 6 2 (0 : Int32);
              σ40
        else
          if (bo (σ 2 (n1 : Int32).toNatClampNeg)) = (0 : Int32) then
            let σ33 : Mem := p_M_take σ n2;
            let σ34 : Mem := wr σ33 6 2 (0 : Int32);
            σ34
          else
            let σ35 : Mem := p_M_take σ n2;
            let σ36 : Mem := wr σ35 6 2 (0 : Int32);
            σ36
      else
        if (p_M_type (σ 3 (n1 : Int32).toNatClampNeg)) = (0 : Int32) then
          if (p_M_type (σ 3 (n2 : Int32).toNatClampNeg)) = (0 : Int32) then
            if (((σ 3 (n2 : Int32).toNatClampNeg) &&& (255 : Int32)) &&& (((σ 3 (n1 : Int32).toNatClampNeg) ^^^ ((-1) : Int32)) : Int32)) = (0 : Int32) then
              if (bo (σ 2 (n1 : Int32).toNatClampNeg)) = (0 : Int32) then
                let σ61 : Mem := p_M_take σ n2;
                let σ62 : Mem := wr σ61 6 2 (0 : Int32);
                σ62
              else
                let σ63 : Mem := p_M_take σ n2;
                let σ64 : Mem := wr σ63 6 2 (1 : Int32);
                σ64
            else
              if (bo (σ 2 (n1 : Int32).toNatClampNeg)) = (0 : Int32) then
                let σ57 : Mem := p_M_take σ n2;
                let σ58 : Mem := wr σ57 6 2 (0 : Int32);
                σ58
              else
                let σ59 : Mem := p_M_take σ n2;
                let σ60 : Mem := wr σ59 6 2 (0 : Int32);
                σ60
          else
            if (bo (σ 2 (n1 : Int32).toNatClampNeg)) = (0 : Int32) then
              let σ53 : Mem := p_M_take σ n2;
              let σ54 : Mem := wr σ53 6 2 (0 : Int32);
              σ54
            else
              let σ55 : Mem := p_M_take σ n2;
              let σ56 : Mem := wr σ55 6 2 (0 : Int32);
              σ56
        else
          if (bo (σ 2 (n1 : Int32).toNatClampNeg)) = (0 : Int32) then
            let σ49 : Mem := p_M_take σ n2;
            let σ50 : Mem := wr σ49 6 2 (0 : Int32);
            σ50
          else
            let σ51 : Mem := p_M_take σ n2;
            let σ52 : Mem := wr σ51 6 2 (0 : Int32);
            σ52
set_option maxHeartbeats 4000000 in
set_option maxRecDepth 100000 in
theorem m_M_build {l : Launch} {D : va_G} {a : Nat → Nat} {cA : Nat → ClassId} {B0 : Nat → Prop} {σ : Mem} {n1 : Int32} {n2 : Int32} (h_n1 : vp_in n1 12) (h_n2 : vp_in n2 12) : cV l y_M_build (.code y_M_build c_M_build 10 (none) :: TG) (rmO 3 77) D (rwL a cA) (rty cA) B0 [.ref (a 0), .int n1, .int n2] σ (p_M_build σ n1 n2) := by
  refine cV_of (by decide) (Nat.le_of_ble_eq_true rfl) ?_
  intro p e s m args below meth c Q ls hx hb hF hl hs hret
  have hl : lv_has ls 10 [(0, .ref (a 0)), (1, .int n1), (2, .int n2)] := hl
  refine lv_aload_n hx hb d_M_build_0 rfl (lv_at hl 0 rfl) ?_
  refine xg_M hx hb hF hs 1 (by decide) k_fl_M_13 rfl d_M_build_1 ?_
  refine lv_iload_n hx hb d_M_build_4 rfl (lv_at hl 2 rfl) ?_
  refine x3_ld hx hb hF hs h_n2 d_M_build_5 ?_
  refine lv_aload_n hx hb d_M_build_6 rfl (lv_at hl 0 rfl) ?_
  refine xg_M hx hb hF hs 0 (by decide) k_fl_M_7 rfl d_M_build_7 ?_
  refine lv_iload_n hx hb d_M_build_10 rfl (lv_at hl 2 rfl) ?_
  refine x4_ld hx hb hF hs h_n2 d_M_build_11 ?_
  refine x_Slp hF hs v_M_baseOf k_ml_M_65 (m_M_baseOf) rfl rfl ⟨by decide, by decide⟩ rfl rfl hl.1 (Nat.le_of_ble_eq_true rfl) d_M_build_12 ⟨Nat.zero_le _, Nat.zero_le _⟩ (fun H locs hs => ?_)
  refine lv_lstore_n (lv' := [(3, _), (0, _), (1, _), (2, _)]) hx hb d_M_build_15 rfl hl (by decide) rfl (fun ls hl => ?_)
  refine lv_aload_n hx hb d_M_build_16 rfl (lv_at hl 1 rfl) ?_
  refine xg_M hx hb hF hs 1 (by decide) k_fl_M_13 rfl d_M_build_17 ?_
  refine lv_iload_n hx hb d_M_build_20 rfl (lv_at hl 3 rfl) ?_
  refine x3_ld hx hb hF hs h_n2 d_M_build_21 ?_
  refine lv_aload_n hx hb d_M_build_22 rfl (lv_at hl 1 rfl) ?_
  refine xg_M hx hb hF hs 0 (by decide) k_fl_M_7 rfl d_M_build_23 ?_
  refine lv_iload_n hx hb d_M_build_26 rfl (lv_at hl 3 rfl) ?_
  refine x4_ld hx hb hF hs h_n2 d_M_build_27 ?_
  refine x_Slp hF hs v_M_topOf k_ml_M_68 (m_M_topOf) rfl rfl ⟨by decide, by decide⟩ rfl rfl hl.1 (Nat.le_of_ble_eq_true rfl) d_M_build_28 ⟨Nat.zero_le _, Nat.zero_le _⟩ (fun H locs hs => ?_)
  refine lv_lstore (lv' := [(5, _), (3, _), (0, _), (1, _), (2, _)]) hx hb d_M_build_31 hl (by decide) rfl (fun ls hl => ?_)
  refine lv_lload_n hx hb d_M_build_33 rfl (lv_at hl 1 rfl) ?_
  refine lv_aload_n hx hb d_M_build_34 rfl (lv_at hl 2 rfl) ?_
  refine xg_M hx hb hF hs 1 (by decide) k_fl_M_13 rfl d_M_build_35 ?_
  refine lv_iload_n hx hb d_M_build_38 rfl (lv_at hl 3 rfl) ?_
  refine x3_ld hx hb hF hs h_n1 d_M_build_39 ?_
  refine lv_aload_n hx hb d_M_build_40 rfl (lv_at hl 2 rfl) ?_
  refine xg_M hx hb hF hs 0 (by decide) k_fl_M_7 rfl d_M_build_41 ?_
  refine lv_iload_n hx hb d_M_build_44 rfl (lv_at hl 3 rfl) ?_
  refine x4_ld hx hb hF hs h_n1 d_M_build_45 ?_
  refine x_Slp hF hs v_M_baseOf k_ml_M_65 (m_M_baseOf) rfl rfl ⟨by decide, by decide⟩ rfl rfl hl.1 (Nat.le_of_ble_eq_true rfl) d_M_build_46 ⟨Nat.zero_le _, Nat.zero_le _⟩ (fun H locs hs => ?_)
  refine W.lcmp hx hb d_M_build_49 ?_
  refine lv_if_lt (tgt := 85) hx hb d_M_build_50 (by decide) (fun h1 => ?_) (fun h1 => ?_)
  · refine lv_iconst (v := 0) hx hb d_M_build_85 (by decide) ?_
    refine lv_istore (lv' := [(7, _), (5, _), (3, _), (0, _), (1, _), (2, _)]) hx hb d_M_build_86 hl (by decide) rfl (fun ls hl => ?_)
    refine lv_aload_n hx hb d_M_build_88 rfl (lv_at hl 3 rfl) ?_
    refine xg_M hx hb hF hs 1 (by decide) k_fl_M_13 rfl d_M_build_89 ?_
    refine lv_iload_n hx hb d_M_build_92 rfl (lv_at hl 4 rfl) ?_
    refine x3_ld hx hb hF hs h_n1 d_M_build_93 ?_
    refine x_Sip hF hs v_M_type k_ml_M_57 (m_M_type) rfl rfl ⟨by decide, by decide⟩ rfl rfl hl.1 (Nat.le_of_ble_eq_true rfl) d_M_build_94 ⟨Nat.zero_le _, Nat.zero_le _⟩ (fun H locs hs => ?_)
    refine lv_if_ne (tgt := 138) hx hb d_M_build_97 (by decide) (fun h2 => ?_) (fun h2 => ?_)
    · refine lv_iconst (v := 0) hx hb d_M_build_138 (by decide) ?_
      refine lv_istore (lv' := [(8, _), (7, _), (5, _), (3, _), (0, _), (1, _), (2, _)]) hx hb d_M_build_139 hl (by decide) rfl (fun ls hl => ?_)
      refine lv_aload_n hx hb d_M_build_141 rfl (lv_at hl 4 rfl) ?_
      refine xg_M hx hb hF hs 2 (by decide) k_fl_M_16 rfl d_M_build_142 ?_
      refine lv_iload_n hx hb d_M_build_145 rfl (lv_at hl 5 rfl) ?_
      refine x2_ld hx hb hF hs h_n1 d_M_build_146 ?_
      refine lv_if_eq (tgt := 164) hx hb d_M_build_147 (by decide) (fun h3 => ?_) (fun h3 => ?_)
      · refine lv_iconst (v := 0) hx hb d_M_build_164 (by decide) ?_
        refine lv_istore (lv' := [(9, _), (8, _), (7, _), (5, _), (3, _), (0, _), (1, _), (2, _)]) hx hb d_M_build_165 hl (by decide) rfl (fun ls hl => ?_)
        refine lv_aload_n hx hb d_M_build_167 rfl (lv_at hl 5 rfl) ?_
        refine lv_iload_n hx hb d_M_build_168 rfl (lv_at hl 7 rfl) ?_
        refine x_Vv hF hs v_M_take k_ml_M_82 (m_M_take h_n2) rfl rfl ⟨by decide, by decide⟩ rfl rfl hl.1 (Nat.le_of_ble_eq_true rfl) rM d_M_build_169 ⟨Nat.zero_le _, Nat.zero_le _⟩ (fun H locs hs => ?_)
        refine lv_aload_n hx hb d_M_build_172 rfl (lv_at hl 5 rfl) ?_
        refine lv_iload hx hb d_M_build_173 (lv_at hl 0 rfl) ?_
        refine xp_M62 hx hb hF hs k_fl_M_78 bo_0 d_M_build_175 (fun H locs hs => ?_)
        refine hret _ _ _ _ _ hs ?_ d_M_build_178
        exact (if_pos h1).trans ((if_neg h2).trans ((if_pos h3).trans rfl))
      · refine lv_iload hx hb d_M_build_150 (lv_at hl 1 rfl) ?_
        refine lv_if_eq (tgt := 164) hx hb d_M_build_152 (by decide) (fun _ => ?_) (fun h => absurd h (by decide))
        refine lv_iconst (v := 0) hx hb d_M_build_164 (by decide) ?_
        refine lv_istore (lv' := [(9, _), (8, _), (7, _), (5, _), (3, _), (0, _), (1, _), (2, _)]) hx hb d_M_build_165 hl (by decide) rfl (fun ls hl => ?_)
        refine lv_aload_n hx hb d_M_build_167 rfl (lv_at hl 5 rfl) ?_
        refine lv_iload_n hx hb d_M_build_168 rfl (lv_at hl 7 rfl) ?_
        refine x_Vv hF hs v_M_take k_ml_M_82 (m_M_take h_n2) rfl rfl ⟨by decide, by decide⟩ rfl rfl hl.1 (Nat.le_of_ble_eq_true rfl) rM d_M_build_169 ⟨Nat.zero_le _, Nat.zero_le _⟩ (fun H locs hs => ?_)
        refine lv_aload_n hx hb d_M_build_172 rfl (lv_at hl 5 rfl) ?_
        refine lv_iload hx hb d_M_build_173 (lv_at hl 0 rfl) ?_
        refine xp_M62 hx hb hF hs k_fl_M_78 bo_0 d_M_build_175 (fun H locs hs => ?_)
        refine hret _ _ _ _ _ hs ?_ d_M_build_178
        exact (if_pos h1).trans ((if_neg h2).trans ((if_neg h3).trans rfl))
    · refine lv_aload_n hx hb d_M_build_100 rfl (lv_at hl 3 rfl) ?_
      refine xg_M hx hb hF hs 1 (by decide) k_fl_M_13 rfl d_M_build_101 ?_
      refine lv_iload_n hx hb d_M_build_104 rfl (lv_at hl 5 rfl) ?_
      refine x3_ld hx hb hF hs h_n2 d_M_build_105 ?_
      refine x_Sip hF hs v_M_type k_ml_M_57 (m_M_type) rfl rfl ⟨by decide, by decide⟩ rfl rfl hl.1 (Nat.le_of_ble_eq_true rfl) d_M_build_106 ⟨Nat.zero_le _, Nat.zero_le _⟩ (fun H locs hs => ?_)
      refine lv_if_ne (tgt := 138) hx hb d_M_build_109 (by decide) (fun h3 => ?_) (fun h3 => ?_)
      · refine lv_iconst (v := 0) hx hb d_M_build_138 (by decide) ?_
        refine lv_istore (lv' := [(8, _), (7, _), (5, _), (3, _), (0, _), (1, _), (2, _)]) hx hb d_M_build_139 hl (by decide) rfl (fun ls hl => ?_)
        refine lv_aload_n hx hb d_M_build_141 rfl (lv_at hl 4 rfl) ?_
        refine xg_M hx hb hF hs 2 (by decide) k_fl_M_16 rfl d_M_build_142 ?_
        refine lv_iload_n hx hb d_M_build_145 rfl (lv_at hl 5 rfl) ?_
        refine x2_ld hx hb hF hs h_n1 d_M_build_146 ?_
        refine lv_if_eq (tgt := 164) hx hb d_M_build_147 (by decide) (fun h4 => ?_) (fun h4 => ?_)
        · refine lv_iconst (v := 0) hx hb d_M_build_164 (by decide) ?_
          refine lv_istore (lv' := [(9, _), (8, _), (7, _), (5, _), (3, _), (0, _), (1, _), (2, _)]) hx hb d_M_build_165 hl (by decide) rfl (fun ls hl => ?_)
          refine lv_aload_n hx hb d_M_build_167 rfl (lv_at hl 5 rfl) ?_
          refine lv_iload_n hx hb d_M_build_168 rfl (lv_at hl 7 rfl) ?_
          refine x_Vv hF hs v_M_take k_ml_M_82 (m_M_take h_n2) rfl rfl ⟨by decide, by decide⟩ rfl rfl hl.1 (Nat.le_of_ble_eq_true rfl) rM d_M_build_169 ⟨Nat.zero_le _, Nat.zero_le _⟩ (fun H locs hs => ?_)
          refine lv_aload_n hx hb d_M_build_172 rfl (lv_at hl 5 rfl) ?_
          refine lv_iload hx hb d_M_build_173 (lv_at hl 0 rfl) ?_
          refine xp_M62 hx hb hF hs k_fl_M_78 bo_0 d_M_build_175 (fun H locs hs => ?_)
          refine hret _ _ _ _ _ hs ?_ d_M_build_178
          exact (if_pos h1).trans ((if_pos h2).trans ((if_neg h3).trans ((if_pos h4).trans rfl)))
        · refine lv_iload hx hb d_M_build_150 (lv_at hl 1 rfl) ?_
          refine lv_if_eq (tgt := 164) hx hb d_M_build_152 (by decide) (fun _ => ?_) (fun h => absurd h (by decide))
          refine lv_iconst (v := 0) hx hb d_M_build_164 (by decide) ?_
          refine lv_istore (lv' := [(9, _), (8, _), (7, _), (5, _), (3, _), (0, _), (1, _), (2, _)]) hx hb d_M_build_165 hl (by decide) rfl (fun ls hl => ?_)
          refine lv_aload_n hx hb d_M_build_167 rfl (lv_at hl 5 rfl) ?_
          refine lv_iload_n hx hb d_M_build_168 rfl (lv_at hl 7 rfl) ?_
          refine x_Vv hF hs v_M_take k_ml_M_82 (m_M_take h_n2) rfl rfl ⟨by decide, by decide⟩ rfl rfl hl.1 (Nat.le_of_ble_eq_true rfl) rM d_M_build_169 ⟨Nat.zero_le _, Nat.zero_le _⟩ (fun H locs hs => ?_)
          refine lv_aload_n hx hb d_M_build_172 rfl (lv_at hl 5 rfl) ?_
          refine lv_iload hx hb d_M_build_173 (lv_at hl 0 rfl) ?_
          refine xp_M62 hx hb hF hs k_fl_M_78 bo_0 d_M_build_175 (fun H locs hs => ?_)
          refine hret _ _ _ _ _ hs ?_ d_M_build_178
          exact (if_pos h1).trans ((if_pos h2).trans ((if_neg h3).trans ((if_neg h4).trans rfl)))
      · refine lv_aload_n hx hb d_M_build_112 rfl (lv_at hl 3 rfl) ?_
        refine xg_M hx hb hF hs 1 (by decide) k_fl_M_13 rfl d_M_build_113 ?_
        refine lv_iload_n hx hb d_M_build_116 rfl (lv_at hl 5 rfl) ?_
        refine x3_ld hx hb hF hs h_n2 d_M_build_117 ?_
        refine lv_sipush (v := 255) hx hb d_M_build_118 (by decide) ?_
        refine lv_iand hx hb d_M_build_121 ?_
        refine lv_aload_n hx hb d_M_build_122 rfl (lv_at hl 3 rfl) ?_
        refine xg_M hx hb hF hs 1 (by decide) k_fl_M_13 rfl d_M_build_123 ?_
        refine lv_iload_n hx hb d_M_build_126 rfl (lv_at hl 4 rfl) ?_
        refine x3_ld hx hb hF hs h_n1 d_M_build_127 ?_
        refine lv_iconst (v := (-1)) hx hb d_M_build_128 (by decide) ?_
        refine lv_ixor hx hb d_M_build_129 ?_
        refine lv_iand hx hb d_M_build_130 ?_
        refine lv_if_ne (tgt := 138) hx hb d_M_build_131 (by decide) (fun h4 => ?_) (fun h4 => ?_)
        · refine lv_iconst (v := 0) hx hb d_M_build_138 (by decide) ?_
          refine lv_istore (lv' := [(8, _), (7, _), (5, _), (3, _), (0, _), (1, _), (2, _)]) hx hb d_M_build_139 hl (by decide) rfl (fun ls hl => ?_)
          refine lv_aload_n hx hb d_M_build_141 rfl (lv_at hl 4 rfl) ?_
          refine xg_M hx hb hF hs 2 (by decide) k_fl_M_16 rfl d_M_build_142 ?_
          refine lv_iload_n hx hb d_M_build_145 rfl (lv_at hl 5 rfl) ?_
          refine x2_ld hx hb hF hs h_n1 d_M_build_146 ?_
          refine lv_if_eq (tgt := 164) hx hb d_M_build_147 (by decide) (fun h5 => ?_) (fun h5 => ?_)
          · refine lv_iconst (v := 0) hx hb d_M_build_164 (by decide) ?_
            refine lv_istore (lv' := [(9, _), (8, _), (7, _), (5, _), (3, _), (0, _), (1, _), (2, _)]) hx hb d_M_build_165 hl (by decide) rfl (fun ls hl => ?_)
            refine lv_aload_n hx hb d_M_build_167 rfl (lv_at hl 5 rfl) ?_
            refine lv_iload_n hx hb d_M_build_168 rfl (lv_at hl 7 rfl) ?_
            refine x_Vv hF hs v_M_take k_ml_M_82 (m_M_take h_n2) rfl rfl ⟨by decide, by decide⟩ rfl rfl hl.1 (Nat.le_of_ble_eq_true rfl) rM d_M_build_169 ⟨Nat.zero_le _, Nat.zero_le _⟩ (fun H locs hs => ?_)
            refine lv_aload_n hx hb d_M_build_172 rfl (lv_at hl 5 rfl) ?_
            refine lv_iload hx hb d_M_build_173 (lv_at hl 0 rfl) ?_
            refine xp_M62 hx hb hF hs k_fl_M_78 bo_0 d_M_build_175 (fun H locs hs => ?_)
            refine hret _ _ _ _ _ hs ?_ d_M_build_178
            exact (if_pos h1).trans ((if_pos h2).trans ((if_pos h3).trans ((if_neg h4).trans ((if_pos h5).trans rfl))))
          · refine lv_iload hx hb d_M_build_150 (lv_at hl 1 rfl) ?_
            refine lv_if_eq (tgt := 164) hx hb d_M_build_152 (by decide) (fun _ => ?_) (fun h => absurd h (by decide))
            refine lv_iconst (v := 0) hx hb d_M_build_164 (by decide) ?_
            refine lv_istore (lv' := [(9, _), (8, _), (7, _), (5, _), (3, _), (0, _), (1, _), (2, _)]) hx hb d_M_build_165 hl (by decide) rfl (fun ls hl => ?_)
            refine lv_aload_n hx hb d_M_build_167 rfl (lv_at hl 5 rfl) ?_
            refine lv_iload_n hx hb d_M_build_168 rfl (lv_at hl 7 rfl) ?_
            refine x_Vv hF hs v_M_take k_ml_M_82 (m_M_take h_n2) rfl rfl ⟨by decide, by decide⟩ rfl rfl hl.1 (Nat.le_of_ble_eq_true rfl) rM d_M_build_169 ⟨Nat.zero_le _, Nat.zero_le _⟩ (fun H locs hs => ?_)
            refine lv_aload_n hx hb d_M_build_172 rfl (lv_at hl 5 rfl) ?_
            refine lv_iload hx hb d_M_build_173 (lv_at hl 0 rfl) ?_
            refine xp_M62 hx hb hF hs k_fl_M_78 bo_0 d_M_build_175 (fun H locs hs => ?_)
            refine hret _ _ _ _ _ hs ?_ d_M_build_178
            exact (if_pos h1).trans ((if_pos h2).trans ((if_pos h3).trans ((if_neg h4).trans ((if_neg h5).trans rfl))))
        · refine lv_iconst (v := 1) hx hb d_M_build_134 (by decide) ?_
          refine lv_goto (tgt := 139) hx hb d_M_build_135 (by decide) ?_
          refine lv_istore (lv' := [(8, _), (7, _), (5, _), (3, _), (0, _), (1, _), (2, _)]) hx hb d_M_build_139 hl (by decide) rfl (fun ls hl => ?_)
          refine lv_aload_n hx hb d_M_build_141 rfl (lv_at hl 4 rfl) ?_
          refine xg_M hx hb hF hs 2 (by decide) k_fl_M_16 rfl d_M_build_142 ?_
          refine lv_iload_n hx hb d_M_build_145 rfl (lv_at hl 5 rfl) ?_
          refine x2_ld hx hb hF hs h_n1 d_M_build_146 ?_
          refine lv_if_eq (tgt := 164) hx hb d_M_build_147 (by decide) (fun h5 => ?_) (fun h5 => ?_)
          · refine lv_iconst (v := 0) hx hb d_M_build_164 (by decide) ?_
            refine lv_istore (lv' := [(9, _), (8, _), (7, _), (5, _), (3, _), (0, _), (1, _), (2, _)]) hx hb d_M_build_165 hl (by decide) rfl (fun ls hl => ?_)
            refine lv_aload_n hx hb d_M_build_167 rfl (lv_at hl 5 rfl) ?_
            refine lv_iload_n hx hb d_M_build_168 rfl (lv_at hl 7 rfl) ?_
            refine x_Vv hF hs v_M_take k_ml_M_82 (m_M_take h_n2) rfl rfl ⟨by decide, by decide⟩ rfl rfl hl.1 (Nat.le_of_ble_eq_true rfl) rM d_M_build_169 ⟨Nat.zero_le _, Nat.zero_le _⟩ (fun H locs hs => ?_)
            refine lv_aload_n hx hb d_M_build_172 rfl (lv_at hl 5 rfl) ?_
            refine lv_iload hx hb d_M_build_173 (lv_at hl 0 rfl) ?_
            refine xp_M62 hx hb hF hs k_fl_M_78 bo_0 d_M_build_175 (fun H locs hs => ?_)
            refine hret _ _ _ _ _ hs ?_ d_M_build_178
            exact (if_pos h1).trans ((if_pos h2).trans ((if_pos h3).trans ((if_pos h4).trans ((if_pos h5).trans rfl))))
          · refine lv_iload hx hb d_M_build_150 (lv_at hl 1 rfl) ?_
            refine lv_if_eq (tgt := 164) hx hb d_M_build_152 (by decide) (fun _ => ?_) (fun h => absurd h (by decide))
            refine lv_iconst (v := 0) hx hb d_M_build_164 (by decide) ?_
            refine lv_istore (lv' := [(9, _), (8, _), (7, _), (5, _), (3, _), (0, _), (1, _), (2, _)]) hx hb d_M_build_165 hl (by decide) rfl (fun ls hl => ?_)
            refine lv_aload_n hx hb d_M_build_167 rfl (lv_at hl 5 rfl) ?_
            refine lv_iload_n hx hb d_M_build_168 rfl (lv_at hl 7 rfl) ?_
            refine x_Vv hF hs v_M_take k_ml_M_82 (m_M_take h_n2) rfl rfl ⟨by decide, by decide⟩ rfl rfl hl.1 (Nat.le_of_ble_eq_true rfl) rM d_M_build_169 ⟨Nat.zero_le _, Nat.zero_le _⟩ (fun H locs hs => ?_)
            refine lv_aload_n hx hb d_M_build_172 rfl (lv_at hl 5 rfl) ?_
            refine lv_iload hx hb d_M_build_173 (lv_at hl 0 rfl) ?_
            refine xp_M62 hx hb hF hs k_fl_M_78 bo_0 d_M_build_175 (fun H locs hs => ?_)
            refine hret _ _ _ _ _ hs ?_ d_M_build_178
            exact (if_pos h1).trans ((if_pos h2).trans ((if_pos h3).trans ((if_pos h4).trans ((if_neg h5).trans rfl))))
  · refine lv_lload_n hx hb d_M_build_53 rfl (lv_at hl 1 rfl) ?_
    refine lv_lload hx hb d_M_build_54 (lv_at hl 0 rfl) ?_
    refine W.lcmp hx hb d_M_build_56 ?_
    refine lv_if_gt (tgt := 85) hx hb d_M_build_57 (by decide) (fun h2 => ?_) (fun h2 => ?_)
    · refine lv_iconst (v := 0) hx hb d_M_build_85 (by decide) ?_
      refine lv_istore (lv' := [(7, _), (5, _), (3, _), (0, _), (1, _), (2, _)]) hx hb d_M_build_86 hl (by decide) rfl (fun ls hl => ?_)
      refine lv_aload_n hx hb d_M_build_88 rfl (lv_at hl 3 rfl) ?_
      refine xg_M hx hb hF hs 1 (by decide) k_fl_M_13 rfl d_M_build_89 ?_
      refine lv_iload_n hx hb d_M_build_92 rfl (lv_at hl 4 rfl) ?_
      refine x3_ld hx hb hF hs h_n1 d_M_build_93 ?_
      refine x_Sip hF hs v_M_type k_ml_M_57 (m_M_type) rfl rfl ⟨by decide, by decide⟩ rfl rfl hl.1 (Nat.le_of_ble_eq_true rfl) d_M_build_94 ⟨Nat.zero_le _, Nat.zero_le _⟩ (fun H locs hs => ?_)
      refine lv_if_ne (tgt := 138) hx hb d_M_build_97 (by decide) (fun h3 => ?_) (fun h3 => ?_)
      · refine lv_iconst (v := 0) hx hb d_M_build_138 (by decide) ?_
        refine lv_istore (lv' := [(8, _), (7, _), (5, _), (3, _), (0, _), (1, _), (2, _)]) hx hb d_M_build_139 hl (by decide) rfl (fun ls hl => ?_)
        refine lv_aload_n hx hb d_M_build_141 rfl (lv_at hl 4 rfl) ?_
        refine xg_M hx hb hF hs 2 (by decide) k_fl_M_16 rfl d_M_build_142 ?_
        refine lv_iload_n hx hb d_M_build_145 rfl (lv_at hl 5 rfl) ?_
        refine x2_ld hx hb hF hs h_n1 d_M_build_146 ?_
        refine lv_if_eq (tgt := 164) hx hb d_M_build_147 (by decide) (fun h4 => ?_) (fun h4 => ?_)
        · refine lv_iconst (v := 0) hx hb d_M_build_164 (by decide) ?_
          refine lv_istore (lv' := [(9, _), (8, _), (7, _), (5, _), (3, _), (0, _), (1, _), (2, _)]) hx hb d_M_build_165 hl (by decide) rfl (fun ls hl => ?_)
          refine lv_aload_n hx hb d_M_build_167 rfl (lv_at hl 5 rfl) ?_
          refine lv_iload_n hx hb d_M_build_168 rfl (lv_at hl 7 rfl) ?_
          refine x_Vv hF hs v_M_take k_ml_M_82 (m_M_take h_n2) rfl rfl ⟨by decide, by decide⟩ rfl rfl hl.1 (Nat.le_of_ble_eq_true rfl) rM d_M_build_169 ⟨Nat.zero_le _, Nat.zero_le _⟩ (fun H locs hs => ?_)
          refine lv_aload_n hx hb d_M_build_172 rfl (lv_at hl 5 rfl) ?_
          refine lv_iload hx hb d_M_build_173 (lv_at hl 0 rfl) ?_
          refine xp_M62 hx hb hF hs k_fl_M_78 bo_0 d_M_build_175 (fun H locs hs => ?_)
          refine hret _ _ _ _ _ hs ?_ d_M_build_178
          exact (if_neg h1).trans ((if_pos h2).trans ((if_neg h3).trans ((if_pos h4).trans rfl)))
        · refine lv_iload hx hb d_M_build_150 (lv_at hl 1 rfl) ?_
          refine lv_if_eq (tgt := 164) hx hb d_M_build_152 (by decide) (fun _ => ?_) (fun h => absurd h (by decide))
          refine lv_iconst (v := 0) hx hb d_M_build_164 (by decide) ?_
          refine lv_istore (lv' := [(9, _), (8, _), (7, _), (5, _), (3, _), (0, _), (1, _), (2, _)]) hx hb d_M_build_165 hl (by decide) rfl (fun ls hl => ?_)
          refine lv_aload_n hx hb d_M_build_167 rfl (lv_at hl 5 rfl) ?_
          refine lv_iload_n hx hb d_M_build_168 rfl (lv_at hl 7 rfl) ?_
          refine x_Vv hF hs v_M_take k_ml_M_82 (m_M_take h_n2) rfl rfl ⟨by decide, by decide⟩ rfl rfl hl.1 (Nat.le_of_ble_eq_true rfl) rM d_M_build_169 ⟨Nat.zero_le _, Nat.zero_le _⟩ (fun H locs hs => ?_)
          refine lv_aload_n hx hb d_M_build_172 rfl (lv_at hl 5 rfl) ?_
          refine lv_iload hx hb d_M_build_173 (lv_at hl 0 rfl) ?_
          refine xp_M62 hx hb hF hs k_fl_M_78 bo_0 d_M_build_175 (fun H locs hs => ?_)
          refine hret _ _ _ _ _ hs ?_ d_M_build_178
          exact (if_neg h1).trans ((if_pos h2).trans ((if_neg h3).trans ((if_neg h4).trans rfl)))
      · refine lv_aload_n hx hb d_M_build_100 rfl (lv_at hl 3 rfl) ?_
        refine xg_M hx hb hF hs 1 (by decide) k_fl_M_13 rfl d_M_build_101 ?_
        refine lv_iload_n hx hb d_M_build_104 rfl (lv_at hl 5 rfl) ?_
        refine x3_ld hx hb hF hs h_n2 d_M_build_105 ?_
        refine x_Sip hF hs v_M_type k_ml_M_57 (m_M_type) rfl rfl ⟨by decide, by decide⟩ rfl rfl hl.1 (Nat.le_of_ble_eq_true rfl) d_M_build_106 ⟨Nat.zero_le _, Nat.zero_le _⟩ (fun H locs hs => ?_)
        refine lv_if_ne (tgt := 138) hx hb d_M_build_109 (by decide) (fun h4 => ?_) (fun h4 => ?_)
        · refine lv_iconst (v := 0) hx hb d_M_build_138 (by decide) ?_
          refine lv_istore (lv' := [(8, _), (7, _), (5, _), (3, _), (0, _), (1, _), (2, _)]) hx hb d_M_build_139 hl (by decide) rfl (fun ls hl => ?_)
          refine lv_aload_n hx hb d_M_build_141 rfl (lv_at hl 4 rfl) ?_
          refine xg_M hx hb hF hs 2 (by decide) k_fl_M_16 rfl d_M_build_142 ?_
          refine lv_iload_n hx hb d_M_build_145 rfl (lv_at hl 5 rfl) ?_
          refine x2_ld hx hb hF hs h_n1 d_M_build_146 ?_
          refine lv_if_eq (tgt := 164) hx hb d_M_build_147 (by decide) (fun h5 => ?_) (fun h5 => ?_)
          · refine lv_iconst (v := 0) hx hb d_M_build_164 (by decide) ?_
            refine lv_istore (lv' := [(9, _), (8, _), (7, _), (5, _), (3, _), (0, _), (1, _), (2, _)]) hx hb d_M_build_165 hl (by decide) rfl (fun ls hl => ?_)
            refine lv_aload_n hx hb d_M_build_167 rfl (lv_at hl 5 rfl) ?_
            refine lv_iload_n hx hb d_M_build_168 rfl (lv_at hl 7 rfl) ?_
            refine x_Vv hF hs v_M_take k_ml_M_82 (m_M_take h_n2) rfl rfl ⟨by decide, by decide⟩ rfl rfl hl.1 (Nat.le_of_ble_eq_true rfl) rM d_M_build_169 ⟨Nat.zero_le _, Nat.zero_le _⟩ (fun H locs hs => ?_)
            refine lv_aload_n hx hb d_M_build_172 rfl (lv_at hl 5 rfl) ?_
            refine lv_iload hx hb d_M_build_173 (lv_at hl 0 rfl) ?_
            refine xp_M62 hx hb hF hs k_fl_M_78 bo_0 d_M_build_175 (fun H locs hs => ?_)
            refine hret _ _ _ _ _ hs ?_ d_M_build_178
            exact (if_neg h1).trans ((if_pos h2).trans ((if_pos h3).trans ((if_neg h4).trans ((if_pos h5).trans rfl))))
          · refine lv_iload hx hb d_M_build_150 (lv_at hl 1 rfl) ?_
            refine lv_if_eq (tgt := 164) hx hb d_M_build_152 (by decide) (fun _ => ?_) (fun h => absurd h (by decide))
            refine lv_iconst (v := 0) hx hb d_M_build_164 (by decide) ?_
            refine lv_istore (lv' := [(9, _), (8, _), (7, _), (5, _), (3, _), (0, _), (1, _), (2, _)]) hx hb d_M_build_165 hl (by decide) rfl (fun ls hl => ?_)
            refine lv_aload_n hx hb d_M_build_167 rfl (lv_at hl 5 rfl) ?_
            refine lv_iload_n hx hb d_M_build_168 rfl (lv_at hl 7 rfl) ?_
            refine x_Vv hF hs v_M_take k_ml_M_82 (m_M_take h_n2) rfl rfl ⟨by decide, by decide⟩ rfl rfl hl.1 (Nat.le_of_ble_eq_true rfl) rM d_M_build_169 ⟨Nat.zero_le _, Nat.zero_le _⟩ (fun H locs hs => ?_)
            refine lv_aload_n hx hb d_M_build_172 rfl (lv_at hl 5 rfl) ?_
            refine lv_iload hx hb d_M_build_173 (lv_at hl 0 rfl) ?_
            refine xp_M62 hx hb hF hs k_fl_M_78 bo_0 d_M_build_175 (fun H locs hs => ?_)
            refine hret _ _ _ _ _ hs ?_ d_M_build_178
            exact (if_neg h1).trans ((if_pos h2).trans ((if_pos h3).trans ((if_neg h4).trans ((if_neg h5).trans rfl))))
        · refine lv_aload_n hx hb d_M_build_112 rfl (lv_at hl 3 rfl) ?_
          refine xg_M hx hb hF hs 1 (by decide) k_fl_M_13 rfl d_M_build_113 ?_
          refine lv_iload_n hx hb d_M_build_116 rfl (lv_at hl 5 rfl) ?_
          refine x3_ld hx hb hF hs h_n2 d_M_build_117 ?_
          refine lv_sipush (v := 255) hx hb d_M_build_118 (by decide) ?_
          refine lv_iand hx hb d_M_build_121 ?_
          refine lv_aload_n hx hb d_M_build_122 rfl (lv_at hl 3 rfl) ?_
          refine xg_M hx hb hF hs 1 (by decide) k_fl_M_13 rfl d_M_build_123 ?_
          refine lv_iload_n hx hb d_M_build_126 rfl (lv_at hl 4 rfl) ?_
          refine x3_ld hx hb hF hs h_n1 d_M_build_127 ?_
          refine lv_iconst (v := (-1)) hx hb d_M_build_128 (by decide) ?_
          refine lv_ixor hx hb d_M_build_129 ?_
          refine lv_iand hx hb d_M_build_130 ?_
          refine lv_if_ne (tgt := 138) hx hb d_M_build_131 (by decide) (fun h5 => ?_) (fun h5 => ?_)
          · refine lv_iconst (v := 0) hx hb d_M_build_138 (by decide) ?_
            refine lv_istore (lv' := [(8, _), (7, _), (5, _), (3, _), (0, _), (1, _), (2, _)]) hx hb d_M_build_139 hl (by decide) rfl (fun ls hl => ?_)
            refine lv_aload_n hx hb d_M_build_141 rfl (lv_at hl 4 rfl) ?_
            refine xg_M hx hb hF hs 2 (by decide) k_fl_M_16 rfl d_M_build_142 ?_
            refine lv_iload_n hx hb d_M_build_145 rfl (lv_at hl 5 rfl) ?_
            refine x2_ld hx hb hF hs h_n1 d_M_build_146 ?_
            refine lv_if_eq (tgt := 164) hx hb d_M_build_147 (by decide) (fun h6 => ?_) (fun h6 => ?_)
            · refine lv_iconst (v := 0) hx hb d_M_build_164 (by decide) ?_
              refine lv_istore (lv' := [(9, _), (8, _), (7, _), (5, _), (3, _), (0, _), (1, _), (2, _)]) hx hb d_M_build_165 hl (by decide) rfl (fun ls hl => ?_)
              refine lv_aload_n hx hb d_M_build_167 rfl (lv_at hl 5 rfl) ?_
              refine lv_iload_n hx hb d_M_build_168 rfl (lv_at hl 7 rfl) ?_
              refine x_Vv hF hs v_M_take k_ml_M_82 (m_M_take h_n2) rfl rfl ⟨by decide, by decide⟩ rfl rfl hl.1 (Nat.le_of_ble_eq_true rfl) rM d_M_build_169 ⟨Nat.zero_le _, Nat.zero_le _⟩ (fun H locs hs => ?_)
              refine lv_aload_n hx hb d_M_build_172 rfl (lv_at hl 5 rfl) ?_
              refine lv_iload hx hb d_M_build_173 (lv_at hl 0 rfl) ?_
              refine xp_M62 hx hb hF hs k_fl_M_78 bo_0 d_M_build_175 (fun H locs hs => ?_)
              refine hret _ _ _ _ _ hs ?_ d_M_build_178
              exact (if_neg h1).trans ((if_pos h2).trans ((if_pos h3).trans ((if_pos h4).trans ((if_neg h5).trans ((if_pos h6).trans rfl)))))
            · refine lv_iload hx hb d_M_build_150 (lv_at hl 1 rfl) ?_
              refine lv_if_eq (tgt := 164) hx hb d_M_build_152 (by decide) (fun _ => ?_) (fun h => absurd h (by decide))
              refine lv_iconst (v := 0) hx hb d_M_build_164 (by decide) ?_
              refine lv_istore (lv' := [(9, _), (8, _), (7, _), (5, _), (3, _), (0, _), (1, _), (2, _)]) hx hb d_M_build_165 hl (by decide) rfl (fun ls hl => ?_)
              refine lv_aload_n hx hb d_M_build_167 rfl (lv_at hl 5 rfl) ?_
              refine lv_iload_n hx hb d_M_build_168 rfl (lv_at hl 7 rfl) ?_
              refine x_Vv hF hs v_M_take k_ml_M_82 (m_M_take h_n2) rfl rfl ⟨by decide, by decide⟩ rfl rfl hl.1 (Nat.le_of_ble_eq_true rfl) rM d_M_build_169 ⟨Nat.zero_le _, Nat.zero_le _⟩ (fun H locs hs => ?_)
              refine lv_aload_n hx hb d_M_build_172 rfl (lv_at hl 5 rfl) ?_
              refine lv_iload hx hb d_M_build_173 (lv_at hl 0 rfl) ?_
              refine xp_M62 hx hb hF hs k_fl_M_78 bo_0 d_M_build_175 (fun H locs hs => ?_)
              refine hret _ _ _ _ _ hs ?_ d_M_build_178
              exact (if_neg h1).trans ((if_pos h2).trans ((if_pos h3).trans ((if_pos h4).trans ((if_neg h5).trans ((if_neg h6).trans rfl)))))
          · refine lv_iconst (v := 1) hx hb d_M_build_134 (by decide) ?_
            refine lv_goto (tgt := 139) hx hb d_M_build_135 (by decide) ?_
            refine lv_istore (lv' := [(8, _), (7, _), (5, _), (3, _), (0, _), (1, _), (2, _)]) hx hb d_M_build_139 hl (by decide) rfl (fun ls hl => ?_)
            refine lv_aload_n hx hb d_M_build_141 rfl (lv_at hl 4 rfl) ?_
            refine xg_M hx hb hF hs 2 (by decide) k_fl_M_16 rfl d_M_build_142 ?_
            refine lv_iload_n hx hb d_M_build_145 rfl (lv_at hl 5 rfl) ?_
            refine x2_ld hx hb hF hs h_n1 d_M_build_146 ?_
            refine lv_if_eq (tgt := 164) hx hb d_M_build_147 (by decide) (fun h6 => ?_) (fun h6 => ?_)
            · refine lv_iconst (v := 0) hx hb d_M_build_164 (by decide) ?_
              refine lv_istore (lv' := [(9, _), (8, _), (7, _), (5, _), (3, _), (0, _), (1, _), (2, _)]) hx hb d_M_build_165 hl (by decide) rfl (fun ls hl => ?_)
              refine lv_aload_n hx hb d_M_build_167 rfl (lv_at hl 5 rfl) ?_
              refine lv_iload_n hx hb d_M_build_168 rfl (lv_at hl 7 rfl) ?_
              refine x_Vv hF hs v_M_take k_ml_M_82 (m_M_take h_n2) rfl rfl ⟨by decide, by decide⟩ rfl rfl hl.1 (Nat.le_of_ble_eq_true rfl) rM d_M_build_169 ⟨Nat.zero_le _, Nat.zero_le _⟩ (fun H locs hs => ?_)
              refine lv_aload_n hx hb d_M_build_172 rfl (lv_at hl 5 rfl) ?_
              refine lv_iload hx hb d_M_build_173 (lv_at hl 0 rfl) ?_
              refine xp_M62 hx hb hF hs k_fl_M_78 bo_0 d_M_build_175 (fun H locs hs => ?_)
              refine hret _ _ _ _ _ hs ?_ d_M_build_178
              exact (if_neg h1).trans ((if_pos h2).trans ((if_pos h3).trans ((if_pos h4).trans ((if_pos h5).trans ((if_pos h6).trans rfl)))))
            · refine lv_iload hx hb d_M_build_150 (lv_at hl 1 rfl) ?_
              refine lv_if_eq (tgt := 164) hx hb d_M_build_152 (by decide) (fun _ => ?_) (fun h => absurd h (by decide))
              refine lv_iconst (v := 0) hx hb d_M_build_164 (by decide) ?_
              refine lv_istore (lv' := [(9, _), (8, _), (7, _), (5, _), (3, _), (0, _), (1, _), (2, _)]) hx hb d_M_build_165 hl (by decide) rfl (fun ls hl => ?_)
              refine lv_aload_n hx hb d_M_build_167 rfl (lv_at hl 5 rfl) ?_
              refine lv_iload_n hx hb d_M_build_168 rfl (lv_at hl 7 rfl) ?_
              refine x_Vv hF hs v_M_take k_ml_M_82 (m_M_take h_n2) rfl rfl ⟨by decide, by decide⟩ rfl rfl hl.1 (Nat.le_of_ble_eq_true rfl) rM d_M_build_169 ⟨Nat.zero_le _, Nat.zero_le _⟩ (fun H locs hs => ?_)
              refine lv_aload_n hx hb d_M_build_172 rfl (lv_at hl 5 rfl) ?_
              refine lv_iload hx hb d_M_build_173 (lv_at hl 0 rfl) ?_
              refine xp_M62 hx hb hF hs k_fl_M_78 bo_0 d_M_build_175 (fun H locs hs => ?_)
              refine hret _ _ _ _ _ hs ?_ d_M_build_178
              exact (if_neg h1).trans ((if_pos h2).trans ((if_pos h3).trans ((if_pos h4).trans ((if_pos h5).trans ((if_neg h6).trans rfl)))))
    · refine lv_lload hx hb d_M_build_60 (lv_at hl 0 rfl) ?_
      refine lv_aload_n hx hb d_M_build_62 rfl (lv_at hl 2 rfl) ?_
      refine xg_M hx hb hF hs 1 (by decide) k_fl_M_13 rfl d_M_build_63 ?_
      refine lv_iload_n hx hb d_M_build_66 rfl (lv_at hl 3 rfl) ?_
      refine x3_ld hx hb hF hs h_n1 d_M_build_67 ?_
      refine lv_aload_n hx hb d_M_build_68 rfl (lv_at hl 2 rfl) ?_
      refine xg_M hx hb hF hs 0 (by decide) k_fl_M_7 rfl d_M_build_69 ?_
      refine lv_iload_n hx hb d_M_build_72 rfl (lv_at hl 3 rfl) ?_
      refine x4_ld hx hb hF hs h_n1 d_M_build_73 ?_
      refine x_Slp hF hs v_M_topOf k_ml_M_68 (m_M_topOf) rfl rfl ⟨by decide, by decide⟩ rfl rfl hl.1 (Nat.le_of_ble_eq_true rfl) d_M_build_74 ⟨Nat.zero_le _, Nat.zero_le _⟩ (fun H locs hs => ?_)
      refine W.lcmp hx hb d_M_build_77 ?_
      refine lv_if_gt (tgt := 85) hx hb d_M_build_78 (by decide) (fun h3 => ?_) (fun h3 => ?_)
      · refine lv_iconst (v := 0) hx hb d_M_build_85 (by decide) ?_
        refine lv_istore (lv' := [(7, _), (5, _), (3, _), (0, _), (1, _), (2, _)]) hx hb d_M_build_86 hl (by decide) rfl (fun ls hl => ?_)
        refine lv_aload_n hx hb d_M_build_88 rfl (lv_at hl 3 rfl) ?_
        refine xg_M hx hb hF hs 1 (by decide) k_fl_M_13 rfl d_M_build_89 ?_
        refine lv_iload_n hx hb d_M_build_92 rfl (lv_at hl 4 rfl) ?_
        refine x3_ld hx hb hF hs h_n1 d_M_build_93 ?_
        refine x_Sip hF hs v_M_type k_ml_M_57 (m_M_type) rfl rfl ⟨by decide, by decide⟩ rfl rfl hl.1 (Nat.le_of_ble_eq_true rfl) d_M_build_94 ⟨Nat.zero_le _, Nat.zero_le _⟩ (fun H locs hs => ?_)
        refine lv_if_ne (tgt := 138) hx hb d_M_build_97 (by decide) (fun h4 => ?_) (fun h4 => ?_)
        · refine lv_iconst (v := 0) hx hb d_M_build_138 (by decide) ?_
          refine lv_istore (lv' := [(8, _), (7, _), (5, _), (3, _), (0, _), (1, _), (2, _)]) hx hb d_M_build_139 hl (by decide) rfl (fun ls hl => ?_)
          refine lv_aload_n hx hb d_M_build_141 rfl (lv_at hl 4 rfl) ?_
          refine xg_M hx hb hF hs 2 (by decide) k_fl_M_16 rfl d_M_build_142 ?_
          refine lv_iload_n hx hb d_M_build_145 rfl (lv_at hl 5 rfl) ?_
          refine x2_ld hx hb hF hs h_n1 d_M_build_146 ?_
          refine lv_if_eq (tgt := 164) hx hb d_M_build_147 (by decide) (fun h5 => ?_) (fun h5 => ?_)
          · refine lv_iconst (v := 0) hx hb d_M_build_164 (by decide) ?_
            refine lv_istore (lv' := [(9, _), (8, _), (7, _), (5, _), (3, _), (0, _), (1, _), (2, _)]) hx hb d_M_build_165 hl (by decide) rfl (fun ls hl => ?_)
            refine lv_aload_n hx hb d_M_build_167 rfl (lv_at hl 5 rfl) ?_
            refine lv_iload_n hx hb d_M_build_168 rfl (lv_at hl 7 rfl) ?_
            refine x_Vv hF hs v_M_take k_ml_M_82 (m_M_take h_n2) rfl rfl ⟨by decide, by decide⟩ rfl rfl hl.1 (Nat.le_of_ble_eq_true rfl) rM d_M_build_169 ⟨Nat.zero_le _, Nat.zero_le _⟩ (fun H locs hs => ?_)
            refine lv_aload_n hx hb d_M_build_172 rfl (lv_at hl 5 rfl) ?_
            refine lv_iload hx hb d_M_build_173 (lv_at hl 0 rfl) ?_
            refine xp_M62 hx hb hF hs k_fl_M_78 bo_0 d_M_build_175 (fun H locs hs => ?_)
            refine hret _ _ _ _ _ hs ?_ d_M_build_178
            exact (if_neg h1).trans ((if_neg h2).trans ((if_pos h3).trans ((if_neg h4).trans ((if_pos h5).trans rfl))))
          · refine lv_iload hx hb d_M_build_150 (lv_at hl 1 rfl) ?_
            refine lv_if_eq (tgt := 164) hx hb d_M_build_152 (by decide) (fun _ => ?_) (fun h => absurd h (by decide))
            refine lv_iconst (v := 0) hx hb d_M_build_164 (by decide) ?_
            refine lv_istore (lv' := [(9, _), (8, _), (7, _), (5, _), (3, _), (0, _), (1, _), (2, _)]) hx hb d_M_build_165 hl (by decide) rfl (fun ls hl => ?_)
            refine lv_aload_n hx hb d_M_build_167 rfl (lv_at hl 5 rfl) ?_
            refine lv_iload_n hx hb d_M_build_168 rfl (lv_at hl 7 rfl) ?_
            refine x_Vv hF hs v_M_take k_ml_M_82 (m_M_take h_n2) rfl rfl ⟨by decide, by decide⟩ rfl rfl hl.1 (Nat.le_of_ble_eq_true rfl) rM d_M_build_169 ⟨Nat.zero_le _, Nat.zero_le _⟩ (fun H locs hs => ?_)
            refine lv_aload_n hx hb d_M_build_172 rfl (lv_at hl 5 rfl) ?_
            refine lv_iload hx hb d_M_build_173 (lv_at hl 0 rfl) ?_
            refine xp_M62 hx hb hF hs k_fl_M_78 bo_0 d_M_build_175 (fun H locs hs => ?_)
            refine hret _ _ _ _ _ hs ?_ d_M_build_178
            exact (if_neg h1).trans ((if_neg h2).trans ((if_pos h3).trans ((if_neg h4).trans ((if_neg h5).trans rfl))))
        · refine lv_aload_n hx hb d_M_build_100 rfl (lv_at hl 3 rfl) ?_
          refine xg_M hx hb hF hs 1 (by decide) k_fl_M_13 rfl d_M_build_101 ?_
          refine lv_iload_n hx hb d_M_build_104 rfl (lv_at hl 5 rfl) ?_
          refine x3_ld hx hb hF hs h_n2 d_M_build_105 ?_
          refine x_Sip hF hs v_M_type k_ml_M_57 (m_M_type) rfl rfl ⟨by decide, by decide⟩ rfl rfl hl.1 (Nat.le_of_ble_eq_true rfl) d_M_build_106 ⟨Nat.zero_le _, Nat.zero_le _⟩ (fun H locs hs => ?_)
          refine lv_if_ne (tgt := 138) hx hb d_M_build_109 (by decide) (fun h5 => ?_) (fun h5 => ?_)
          · refine lv_iconst (v := 0) hx hb d_M_build_138 (by decide) ?_
            refine lv_istore (lv' := [(8, _), (7, _), (5, _), (3, _), (0, _), (1, _), (2, _)]) hx hb d_M_build_139 hl (by decide) rfl (fun ls hl => ?_)
            refine lv_aload_n hx hb d_M_build_141 rfl (lv_at hl 4 rfl) ?_
            refine xg_M hx hb hF hs 2 (by decide) k_fl_M_16 rfl d_M_build_142 ?_
            refine lv_iload_n hx hb d_M_build_145 rfl (lv_at hl 5 rfl) ?_
            refine x2_ld hx hb hF hs h_n1 d_M_build_146 ?_
            refine lv_if_eq (tgt := 164) hx hb d_M_build_147 (by decide) (fun h6 => ?_) (fun h6 => ?_)
            · refine lv_iconst (v := 0) hx hb d_M_build_164 (by decide) ?_
              refine lv_istore (lv' := [(9, _), (8, _), (7, _), (5, _), (3, _), (0, _), (1, _), (2, _)]) hx hb d_M_build_165 hl (by decide) rfl (fun ls hl => ?_)
              refine lv_aload_n hx hb d_M_build_167 rfl (lv_at hl 5 rfl) ?_
              refine lv_iload_n hx hb d_M_build_168 rfl (lv_at hl 7 rfl) ?_
              refine x_Vv hF hs v_M_take k_ml_M_82 (m_M_take h_n2) rfl rfl ⟨by decide, by decide⟩ rfl rfl hl.1 (Nat.le_of_ble_eq_true rfl) rM d_M_build_169 ⟨Nat.zero_le _, Nat.zero_le _⟩ (fun H locs hs => ?_)
              refine lv_aload_n hx hb d_M_build_172 rfl (lv_at hl 5 rfl) ?_
              refine lv_iload hx hb d_M_build_173 (lv_at hl 0 rfl) ?_
              refine xp_M62 hx hb hF hs k_fl_M_78 bo_0 d_M_build_175 (fun H locs hs => ?_)
              refine hret _ _ _ _ _ hs ?_ d_M_build_178
              exact (if_neg h1).trans ((if_neg h2).trans ((if_pos h3).trans ((if_pos h4).trans ((if_neg h5).trans ((if_pos h6).trans rfl)))))
            · refine lv_iload hx hb d_M_build_150 (lv_at hl 1 rfl) ?_
              refine lv_if_eq (tgt := 164) hx hb d_M_build_152 (by decide) (fun _ => ?_) (fun h => absurd h (by decide))
              refine lv_iconst (v := 0) hx hb d_M_build_164 (by decide) ?_
              refine lv_istore (lv' := [(9, _), (8, _), (7, _), (5, _), (3, _), (0, _), (1, _), (2, _)]) hx hb d_M_build_165 hl (by decide) rfl (fun ls hl => ?_)
              refine lv_aload_n hx hb d_M_build_167 rfl (lv_at hl 5 rfl) ?_
              refine lv_iload_n hx hb d_M_build_168 rfl (lv_at hl 7 rfl) ?_
              refine x_Vv hF hs v_M_take k_ml_M_82 (m_M_take h_n2) rfl rfl ⟨by decide, by decide⟩ rfl rfl hl.1 (Nat.le_of_ble_eq_true rfl) rM d_M_build_169 ⟨Nat.zero_le _, Nat.zero_le _⟩ (fun H locs hs => ?_)
              refine lv_aload_n hx hb d_M_build_172 rfl (lv_at hl 5 rfl) ?_
              refine lv_iload hx hb d_M_build_173 (lv_at hl 0 rfl) ?_
              refine xp_M62 hx hb hF hs k_fl_M_78 bo_0 d_M_build_175 (fun H locs hs => ?_)
              refine hret _ _ _ _ _ hs ?_ d_M_build_178
              exact (if_neg h1).trans ((if_neg h2).trans ((if_pos h3).trans ((if_pos h4).trans ((if_neg h5).trans ((if_neg h6).trans rfl)))))
          · refine lv_aload_n hx hb d_M_build_112 rfl (lv_at hl 3 rfl) ?_
            refine xg_M hx hb hF hs 1 (by decide) k_fl_M_13 rfl d_M_build_113 ?_
            refine lv_iload_n hx hb d_M_build_116 rfl (lv_at hl 5 rfl) ?_
            refine x3_ld hx hb hF hs h_n2 d_M_build_117 ?_
            refine lv_sipush (v := 255) hx hb d_M_build_118 (by decide) ?_
            refine lv_iand hx hb d_M_build_121 ?_
            refine lv_aload_n hx hb d_M_build_122 rfl (lv_at hl 3 rfl) ?_
            refine xg_M hx hb hF hs 1 (by decide) k_fl_M_13 rfl d_M_build_123 ?_
            refine lv_iload_n hx hb d_M_build_126 rfl (lv_at hl 4 rfl) ?_
            refine x3_ld hx hb hF hs h_n1 d_M_build_127 ?_
            refine lv_iconst (v := (-1)) hx hb d_M_build_128 (by decide) ?_
            refine lv_ixor hx hb d_M_build_129 ?_
            refine lv_iand hx hb d_M_build_130 ?_
            refine lv_if_ne (tgt := 138) hx hb d_M_build_131 (by decide) (fun h6 => ?_) (fun h6 => ?_)
            · refine lv_iconst (v := 0) hx hb d_M_build_138 (by decide) ?_
              refine lv_istore (lv' := [(8, _), (7, _), (5, _), (3, _), (0, _), (1, _), (2, _)]) hx hb d_M_build_139 hl (by decide) rfl (fun ls hl => ?_)
              refine lv_aload_n hx hb d_M_build_141 rfl (lv_at hl 4 rfl) ?_
              refine xg_M hx hb hF hs 2 (by decide) k_fl_M_16 rfl d_M_build_142 ?_
              refine lv_iload_n hx hb d_M_build_145 rfl (lv_at hl 5 rfl) ?_
              refine x2_ld hx hb hF hs h_n1 d_M_build_146 ?_
              refine lv_if_eq (tgt := 164) hx hb d_M_build_147 (by decide) (fun h7 => ?_) (fun h7 => ?_)
              · refine lv_iconst (v := 0) hx hb d_M_build_164 (by decide) ?_
                refine lv_istore (lv' := [(9, _), (8, _), (7, _), (5, _), (3, _), (0, _), (1, _), (2, _)]) hx hb d_M_build_165 hl (by decide) rfl (fun ls hl => ?_)
                refine lv_aload_n hx hb d_M_build_167 rfl (lv_at hl 5 rfl) ?_
                refine lv_iload_n hx hb d_M_build_168 rfl (lv_at hl 7 rfl) ?_
                refine x_Vv hF hs v_M_take k_ml_M_82 (m_M_take h_n2) rfl rfl ⟨by decide, by decide⟩ rfl rfl hl.1 (Nat.le_of_ble_eq_true rfl) rM d_M_build_169 ⟨Nat.zero_le _, Nat.zero_le _⟩ (fun H locs hs => ?_)
                refine lv_aload_n hx hb d_M_build_172 rfl (lv_at hl 5 rfl) ?_
                refine lv_iload hx hb d_M_build_173 (lv_at hl 0 rfl) ?_
                refine xp_M62 hx hb hF hs k_fl_M_78 bo_0 d_M_build_175 (fun H locs hs => ?_)
                refine hret _ _ _ _ _ hs ?_ d_M_build_178
                exact (if_neg h1).trans ((if_neg h2).trans ((if_pos h3).trans ((if_pos h4).trans ((if_pos h5).trans ((if_neg h6).trans ((if_pos h7).trans rfl))))))
              · refine lv_iload hx hb d_M_build_150 (lv_at hl 1 rfl) ?_
                refine lv_if_eq (tgt := 164) hx hb d_M_build_152 (by decide) (fun _ => ?_) (fun h => absurd h (by decide))
                refine lv_iconst (v := 0) hx hb d_M_build_164 (by decide) ?_
                refine lv_istore (lv' := [(9, _), (8, _), (7, _), (5, _), (3, _), (0, _), (1, _), (2, _)]) hx hb d_M_build_165 hl (by decide) rfl (fun ls hl => ?_)
                refine lv_aload_n hx hb d_M_build_167 rfl (lv_at hl 5 rfl) ?_
                refine lv_iload_n hx hb d_M_build_168 rfl (lv_at hl 7 rfl) ?_
                refine x_Vv hF hs v_M_take k_ml_M_82 (m_M_take h_n2) rfl rfl ⟨by decide, by decide⟩ rfl rfl hl.1 (Nat.le_of_ble_eq_true rfl) rM d_M_build_169 ⟨Nat.zero_le _, Nat.zero_le _⟩ (fun H locs hs => ?_)
                refine lv_aload_n hx hb d_M_build_172 rfl (lv_at hl 5 rfl) ?_
                refine lv_iload hx hb d_M_build_173 (lv_at hl 0 rfl) ?_
                refine xp_M62 hx hb hF hs k_fl_M_78 bo_0 d_M_build_175 (fun H locs hs => ?_)
                refine hret _ _ _ _ _ hs ?_ d_M_build_178
                exact (if_neg h1).trans ((if_neg h2).trans ((if_pos h3).trans ((if_pos h4).trans ((if_pos h5).trans ((if_neg h6).trans ((if_neg h7).trans rfl))))))
            · refine lv_iconst (v := 1) hx hb d_M_build_134 (by decide) ?_
              refine lv_goto (tgt := 139) hx hb d_M_build_135 (by decide) ?_
              refine lv_istore (lv' := [(8, _), (7, _), (5, _), (3, _), (0, _), (1, _), (2, _)]) hx hb d_M_build_139 hl (by decide) rfl (fun ls hl => ?_)
              refine lv_aload_n hx hb d_M_build_141 rfl (lv_at hl 4 rfl) ?_
              refine xg_M hx hb hF hs 2 (by decide) k_fl_M_16 rfl d_M_build_142 ?_
              refine lv_iload_n hx hb d_M_build_145 rfl (lv_at hl 5 rfl) ?_
              refine x2_ld hx hb hF hs h_n1 d_M_build_146 ?_
              refine lv_if_eq (tgt := 164) hx hb d_M_build_147 (by decide) (fun h7 => ?_) (fun h7 => ?_)
              · refine lv_iconst (v := 0) hx hb d_M_build_164 (by decide) ?_
                refine lv_istore (lv' := [(9, _), (8, _), (7, _), (5, _), (3, _), (0, _), (1, _), (2, _)]) hx hb d_M_build_165 hl (by decide) rfl (fun ls hl => ?_)
                refine lv_aload_n hx hb d_M_build_167 rfl (lv_at hl 5 rfl) ?_
                refine lv_iload_n hx hb d_M_build_168 rfl (lv_at hl 7 rfl) ?_
                refine x_Vv hF hs v_M_take k_ml_M_82 (m_M_take h_n2) rfl rfl ⟨by decide, by decide⟩ rfl rfl hl.1 (Nat.le_of_ble_eq_true rfl) rM d_M_build_169 ⟨Nat.zero_le _, Nat.zero_le _⟩ (fun H locs hs => ?_)
                refine lv_aload_n hx hb d_M_build_172 rfl (lv_at hl 5 rfl) ?_
                refine lv_iload hx hb d_M_build_173 (lv_at hl 0 rfl) ?_
                refine xp_M62 hx hb hF hs k_fl_M_78 bo_0 d_M_build_175 (fun H locs hs => ?_)
                refine hret _ _ _ _ _ hs ?_ d_M_build_178
                exact (if_neg h1).trans ((if_neg h2).trans ((if_pos h3).trans ((if_pos h4).trans ((if_pos h5).trans ((if_pos h6).trans ((if_pos h7).trans rfl))))))
              · refine lv_iload hx hb d_M_build_150 (lv_at hl 1 rfl) ?_
                refine lv_if_eq (tgt := 164) hx hb d_M_build_152 (by decide) (fun _ => ?_) (fun h => absurd h (by decide))
                refine lv_iconst (v := 0) hx hb d_M_build_164 (by decide) ?_
                refine lv_istore (lv' := [(9, _), (8, _), (7, _), (5, _), (3, _), (0, _), (1, _), (2, _)]) hx hb d_M_build_165 hl (by decide) rfl (fun ls hl => ?_)
                refine lv_aload_n hx hb d_M_build_167 rfl (lv_at hl 5 rfl) ?_
                refine lv_iload_n hx hb d_M_build_168 rfl (lv_at hl 7 rfl) ?_
                refine x_Vv hF hs v_M_take k_ml_M_82 (m_M_take h_n2) rfl rfl ⟨by decide, by decide⟩ rfl rfl hl.1 (Nat.le_of_ble_eq_true rfl) rM d_M_build_169 ⟨Nat.zero_le _, Nat.zero_le _⟩ (fun H locs hs => ?_)
                refine lv_aload_n hx hb d_M_build_172 rfl (lv_at hl 5 rfl) ?_
                refine lv_iload hx hb d_M_build_173 (lv_at hl 0 rfl) ?_
                refine xp_M62 hx hb hF hs k_fl_M_78 bo_0 d_M_build_175 (fun H locs hs => ?_)
                refine hret _ _ _ _ _ hs ?_ d_M_build_178
                exact (if_neg h1).trans ((if_neg h2).trans ((if_pos h3).trans ((if_pos h4).trans ((if_pos h5).trans ((if_pos h6).trans ((if_neg h7).trans rfl))))))
      · refine lv_iconst (v := 1) hx hb d_M_build_81 (by decide) ?_
        refine lv_goto (tgt := 86) hx hb d_M_build_82 (by decide) ?_
        refine lv_istore (lv' := [(7, _), (5, _), (3, _), (0, _), (1, _), (2, _)]) hx hb d_M_build_86 hl (by decide) rfl (fun ls hl => ?_)
        refine lv_aload_n hx hb d_M_build_88 rfl (lv_at hl 3 rfl) ?_
        refine xg_M hx hb hF hs 1 (by decide) k_fl_M_13 rfl d_M_build_89 ?_
        refine lv_iload_n hx hb d_M_build_92 rfl (lv_at hl 4 rfl) ?_
        refine x3_ld hx hb hF hs h_n1 d_M_build_93 ?_
        refine x_Sip hF hs v_M_type k_ml_M_57 (m_M_type) rfl rfl ⟨by decide, by decide⟩ rfl rfl hl.1 (Nat.le_of_ble_eq_true rfl) d_M_build_94 ⟨Nat.zero_le _, Nat.zero_le _⟩ (fun H locs hs => ?_)
        refine lv_if_ne (tgt := 138) hx hb d_M_build_97 (by decide) (fun h4 => ?_) (fun h4 => ?_)
        · refine lv_iconst (v := 0) hx hb d_M_build_138 (by decide) ?_
          refine lv_istore (lv' := [(8, _), (7, _), (5, _), (3, _), (0, _), (1, _), (2, _)]) hx hb d_M_build_139 hl (by decide) rfl (fun ls hl => ?_)
          refine lv_aload_n hx hb d_M_build_141 rfl (lv_at hl 4 rfl) ?_
          refine xg_M hx hb hF hs 2 (by decide) k_fl_M_16 rfl d_M_build_142 ?_
          refine lv_iload_n hx hb d_M_build_145 rfl (lv_at hl 5 rfl) ?_
          refine x2_ld hx hb hF hs h_n1 d_M_build_146 ?_
          refine lv_if_eq (tgt := 164) hx hb d_M_build_147 (by decide) (fun h5 => ?_) (fun h5 => ?_)
          · refine lv_iconst (v := 0) hx hb d_M_build_164 (by decide) ?_
            refine lv_istore (lv' := [(9, _), (8, _), (7, _), (5, _), (3, _), (0, _), (1, _), (2, _)]) hx hb d_M_build_165 hl (by decide) rfl (fun ls hl => ?_)
            refine lv_aload_n hx hb d_M_build_167 rfl (lv_at hl 5 rfl) ?_
            refine lv_iload_n hx hb d_M_build_168 rfl (lv_at hl 7 rfl) ?_
            refine x_Vv hF hs v_M_take k_ml_M_82 (m_M_take h_n2) rfl rfl ⟨by decide, by decide⟩ rfl rfl hl.1 (Nat.le_of_ble_eq_true rfl) rM d_M_build_169 ⟨Nat.zero_le _, Nat.zero_le _⟩ (fun H locs hs => ?_)
            refine lv_aload_n hx hb d_M_build_172 rfl (lv_at hl 5 rfl) ?_
            refine lv_iload hx hb d_M_build_173 (lv_at hl 0 rfl) ?_
            refine xp_M62 hx hb hF hs k_fl_M_78 bo_0 d_M_build_175 (fun H locs hs => ?_)
            refine hret _ _ _ _ _ hs ?_ d_M_build_178
            exact (if_neg h1).trans ((if_neg h2).trans ((if_neg h3).trans ((if_neg h4).trans ((if_pos h5).trans rfl))))
          · refine lv_iload hx hb d_M_build_150 (lv_at hl 1 rfl) ?_
            refine lv_if_eq (tgt := 164) hx hb d_M_build_152 (by decide) (fun h => absurd h (by decide)) (fun _ => ?_)
            refine lv_iload hx hb d_M_build_155 (lv_at hl 0 rfl) ?_
            refine lv_if_eq (tgt := 164) hx hb d_M_build_157 (by decide) (fun _ => ?_) (fun h => absurd h (by decide))
            refine lv_iconst (v := 0) hx hb d_M_build_164 (by decide) ?_
            refine lv_istore (lv' := [(9, _), (8, _), (7, _), (5, _), (3, _), (0, _), (1, _), (2, _)]) hx hb d_M_build_165 hl (by decide) rfl (fun ls hl => ?_)
            refine lv_aload_n hx hb d_M_build_167 rfl (lv_at hl 5 rfl) ?_
            refine lv_iload_n hx hb d_M_build_168 rfl (lv_at hl 7 rfl) ?_
            refine x_Vv hF hs v_M_take k_ml_M_82 (m_M_take h_n2) rfl rfl ⟨by decide, by decide⟩ rfl rfl hl.1 (Nat.le_of_ble_eq_true rfl) rM d_M_build_169 ⟨Nat.zero_le _, Nat.zero_le _⟩ (fun H locs hs => ?_)
            refine lv_aload_n hx hb d_M_build_172 rfl (lv_at hl 5 rfl) ?_
            refine lv_iload hx hb d_M_build_173 (lv_at hl 0 rfl) ?_
            refine xp_M62 hx hb hF hs k_fl_M_78 bo_0 d_M_build_175 (fun H locs hs => ?_)
            refine hret _ _ _ _ _ hs ?_ d_M_build_178
            exact (if_neg h1).trans ((if_neg h2).trans ((if_neg h3).trans ((if_neg h4).trans ((if_neg h5).trans rfl))))
        · refine lv_aload_n hx hb d_M_build_100 rfl (lv_at hl 3 rfl) ?_
          refine xg_M hx hb hF hs 1 (by decide) k_fl_M_13 rfl d_M_build_101 ?_
          refine lv_iload_n hx hb d_M_build_104 rfl (lv_at hl 5 rfl) ?_
          refine x3_ld hx hb hF hs h_n2 d_M_build_105 ?_
          refine x_Sip hF hs v_M_type k_ml_M_57 (m_M_type) rfl rfl ⟨by decide, by decide⟩ rfl rfl hl.1 (Nat.le_of_ble_eq_true rfl) d_M_build_106 ⟨Nat.zero_le _, Nat.zero_le _⟩ (fun H locs hs => ?_)
          refine lv_if_ne (tgt := 138) hx hb d_M_build_109 (by decide) (fun h5 => ?_) (fun h5 => ?_)
          · refine lv_iconst (v := 0) hx hb d_M_build_138 (by decide) ?_
            refine lv_istore (lv' := [(8, _), (7, _), (5, _), (3, _), (0, _), (1, _), (2, _)]) hx hb d_M_build_139 hl (by decide) rfl (fun ls hl => ?_)
            refine lv_aload_n hx hb d_M_build_141 rfl (lv_at hl 4 rfl) ?_
            refine xg_M hx hb hF hs 2 (by decide) k_fl_M_16 rfl d_M_build_142 ?_
            refine lv_iload_n hx hb d_M_build_145 rfl (lv_at hl 5 rfl) ?_
            refine x2_ld hx hb hF hs h_n1 d_M_build_146 ?_
            refine lv_if_eq (tgt := 164) hx hb d_M_build_147 (by decide) (fun h6 => ?_) (fun h6 => ?_)
            · refine lv_iconst (v := 0) hx hb d_M_build_164 (by decide) ?_
              refine lv_istore (lv' := [(9, _), (8, _), (7, _), (5, _), (3, _), (0, _), (1, _), (2, _)]) hx hb d_M_build_165 hl (by decide) rfl (fun ls hl => ?_)
              refine lv_aload_n hx hb d_M_build_167 rfl (lv_at hl 5 rfl) ?_
              refine lv_iload_n hx hb d_M_build_168 rfl (lv_at hl 7 rfl) ?_
              refine x_Vv hF hs v_M_take k_ml_M_82 (m_M_take h_n2) rfl rfl ⟨by decide, by decide⟩ rfl rfl hl.1 (Nat.le_of_ble_eq_true rfl) rM d_M_build_169 ⟨Nat.zero_le _, Nat.zero_le _⟩ (fun H locs hs => ?_)
              refine lv_aload_n hx hb d_M_build_172 rfl (lv_at hl 5 rfl) ?_
              refine lv_iload hx hb d_M_build_173 (lv_at hl 0 rfl) ?_
              refine xp_M62 hx hb hF hs k_fl_M_78 bo_0 d_M_build_175 (fun H locs hs => ?_)
              refine hret _ _ _ _ _ hs ?_ d_M_build_178
              exact (if_neg h1).trans ((if_neg h2).trans ((if_neg h3).trans ((if_pos h4).trans ((if_neg h5).trans ((if_pos h6).trans rfl)))))
            · refine lv_iload hx hb d_M_build_150 (lv_at hl 1 rfl) ?_
              refine lv_if_eq (tgt := 164) hx hb d_M_build_152 (by decide) (fun h => absurd h (by decide)) (fun _ => ?_)
              refine lv_iload hx hb d_M_build_155 (lv_at hl 0 rfl) ?_
              refine lv_if_eq (tgt := 164) hx hb d_M_build_157 (by decide) (fun _ => ?_) (fun h => absurd h (by decide))
              refine lv_iconst (v := 0) hx hb d_M_build_164 (by decide) ?_
              refine lv_istore (lv' := [(9, _), (8, _), (7, _), (5, _), (3, _), (0, _), (1, _), (2, _)]) hx hb d_M_build_165 hl (by decide) rfl (fun ls hl => ?_)
              refine lv_aload_n hx hb d_M_build_167 rfl (lv_at hl 5 rfl) ?_
              refine lv_iload_n hx hb d_M_build_168 rfl (lv_at hl 7 rfl) ?_
              refine x_Vv hF hs v_M_take k_ml_M_82 (m_M_take h_n2) rfl rfl ⟨by decide, by decide⟩ rfl rfl hl.1 (Nat.le_of_ble_eq_true rfl) rM d_M_build_169 ⟨Nat.zero_le _, Nat.zero_le _⟩ (fun H locs hs => ?_)
              refine lv_aload_n hx hb d_M_build_172 rfl (lv_at hl 5 rfl) ?_
              refine lv_iload hx hb d_M_build_173 (lv_at hl 0 rfl) ?_
              refine xp_M62 hx hb hF hs k_fl_M_78 bo_0 d_M_build_175 (fun H locs hs => ?_)
              refine hret _ _ _ _ _ hs ?_ d_M_build_178
              exact (if_neg h1).trans ((if_neg h2).trans ((if_neg h3).trans ((if_pos h4).trans ((if_neg h5).trans ((if_neg h6).trans rfl)))))
          · refine lv_aload_n hx hb d_M_build_112 rfl (lv_at hl 3 rfl) ?_
            refine xg_M hx hb hF hs 1 (by decide) k_fl_M_13 rfl d_M_build_113 ?_
            refine lv_iload_n hx hb d_M_build_116 rfl (lv_at hl 5 rfl) ?_
            refine x3_ld hx hb hF hs h_n2 d_M_build_117 ?_
            refine lv_sipush (v := 255) hx hb d_M_build_118 (by decide) ?_
            refine lv_iand hx hb d_M_build_121 ?_
            refine lv_aload_n hx hb d_M_build_122 rfl (lv_at hl 3 rfl) ?_
            refine xg_M hx hb hF hs 1 (by decide) k_fl_M_13 rfl d_M_build_123 ?_
            refine lv_iload_n hx hb d_M_build_126 rfl (lv_at hl 4 rfl) ?_
            refine x3_ld hx hb hF hs h_n1 d_M_build_127 ?_
            refine lv_iconst (v := (-1)) hx hb d_M_build_128 (by decide) ?_
            refine lv_ixor hx hb d_M_build_129 ?_
            refine lv_iand hx hb d_M_build_130 ?_
            refine lv_if_ne (tgt := 138) hx hb d_M_build_131 (by decide) (fun h6 => ?_) (fun h6 => ?_)
            · refine lv_iconst (v := 0) hx hb d_M_build_138 (by decide) ?_
              refine lv_istore (lv' := [(8, _), (7, _), (5, _), (3, _), (0, _), (1, _), (2, _)]) hx hb d_M_build_139 hl (by decide) rfl (fun ls hl => ?_)
              refine lv_aload_n hx hb d_M_build_141 rfl (lv_at hl 4 rfl) ?_
              refine xg_M hx hb hF hs 2 (by decide) k_fl_M_16 rfl d_M_build_142 ?_
              refine lv_iload_n hx hb d_M_build_145 rfl (lv_at hl 5 rfl) ?_
              refine x2_ld hx hb hF hs h_n1 d_M_build_146 ?_
              refine lv_if_eq (tgt := 164) hx hb d_M_build_147 (by decide) (fun h7 => ?_) (fun h7 => ?_)
              · refine lv_iconst (v := 0) hx hb d_M_build_164 (by decide) ?_
                refine lv_istore (lv' := [(9, _), (8, _), (7, _), (5, _), (3, _), (0, _), (1, _), (2, _)]) hx hb d_M_build_165 hl (by decide) rfl (fun ls hl => ?_)
                refine lv_aload_n hx hb d_M_build_167 rfl (lv_at hl 5 rfl) ?_
                refine lv_iload_n hx hb d_M_build_168 rfl (lv_at hl 7 rfl) ?_
                refine x_Vv hF hs v_M_take k_ml_M_82 (m_M_take h_n2) rfl rfl ⟨by decide, by decide⟩ rfl rfl hl.1 (Nat.le_of_ble_eq_true rfl) rM d_M_build_169 ⟨Nat.zero_le _, Nat.zero_le _⟩ (fun H locs hs => ?_)
                refine lv_aload_n hx hb d_M_build_172 rfl (lv_at hl 5 rfl) ?_
                refine lv_iload hx hb d_M_build_173 (lv_at hl 0 rfl) ?_
                refine xp_M62 hx hb hF hs k_fl_M_78 bo_0 d_M_build_175 (fun H locs hs => ?_)
                refine hret _ _ _ _ _ hs ?_ d_M_build_178
                exact (if_neg h1).trans ((if_neg h2).trans ((if_neg h3).trans ((if_pos h4).trans ((if_pos h5).trans ((if_neg h6).trans ((if_pos h7).trans rfl))))))
              · refine lv_iload hx hb d_M_build_150 (lv_at hl 1 rfl) ?_
                refine lv_if_eq (tgt := 164) hx hb d_M_build_152 (by decide) (fun h => absurd h (by decide)) (fun _ => ?_)
                refine lv_iload hx hb d_M_build_155 (lv_at hl 0 rfl) ?_
                refine lv_if_eq (tgt := 164) hx hb d_M_build_157 (by decide) (fun _ => ?_) (fun h => absurd h (by decide))
                refine lv_iconst (v := 0) hx hb d_M_build_164 (by decide) ?_
                refine lv_istore (lv' := [(9, _), (8, _), (7, _), (5, _), (3, _), (0, _), (1, _), (2, _)]) hx hb d_M_build_165 hl (by decide) rfl (fun ls hl => ?_)
                refine lv_aload_n hx hb d_M_build_167 rfl (lv_at hl 5 rfl) ?_
                refine lv_iload_n hx hb d_M_build_168 rfl (lv_at hl 7 rfl) ?_
                refine x_Vv hF hs v_M_take k_ml_M_82 (m_M_take h_n2) rfl rfl ⟨by decide, by decide⟩ rfl rfl hl.1 (Nat.le_of_ble_eq_true rfl) rM d_M_build_169 ⟨Nat.zero_le _, Nat.zero_le _⟩ (fun H locs hs => ?_)
                refine lv_aload_n hx hb d_M_build_172 rfl (lv_at hl 5 rfl) ?_
                refine lv_iload hx hb d_M_build_173 (lv_at hl 0 rfl) ?_
                refine xp_M62 hx hb hF hs k_fl_M_78 bo_0 d_M_build_175 (fun H locs hs => ?_)
                refine hret _ _ _ _ _ hs ?_ d_M_build_178
                exact (if_neg h1).trans ((if_neg h2).trans ((if_neg h3).trans ((if_pos h4).trans ((if_pos h5).trans ((if_neg h6).trans ((if_neg h7).trans rfl))))))
            · refine lv_iconst (v := 1) hx hb d_M_build_134 (by decide) ?_
              refine lv_goto (tgt := 139) hx hb d_M_build_135 (by decide) ?_
              refine lv_istore (lv' := [(8, _), (7, _), (5, _), (3, _), (0, _), (1, _), (2, _)]) hx hb d_M_build_139 hl (by decide) rfl (fun ls hl => ?_)
              refine lv_aload_n hx hb d_M_build_141 rfl (lv_at hl 4 rfl) ?_
              refine xg_M hx hb hF hs 2 (by decide) k_fl_M_16 rfl d_M_build_142 ?_
              refine lv_iload_n hx hb d_M_build_145 rfl (lv_at hl 5 rfl) ?_
              refine x2_ld hx hb hF hs h_n1 d_M_build_146 ?_
              refine lv_if_eq (tgt := 164) hx hb d_M_build_147 (by decide) (fun h7 => ?_) (fun h7 => ?_)
              · refine lv_iconst (v := 0) hx hb d_M_build_164 (by decide) ?_
                refine lv_istore (lv' := [(9, _), (8, _), (7, _), (5, _), (3, _), (0, _), (1, _), (2, _)]) hx hb d_M_build_165 hl (by decide) rfl (fun ls hl => ?_)
                refine lv_aload_n hx hb d_M_build_167 rfl (lv_at hl 5 rfl) ?_
                refine lv_iload_n hx hb d_M_build_168 rfl (lv_at hl 7 rfl) ?_
                refine x_Vv hF hs v_M_take k_ml_M_82 (m_M_take h_n2) rfl rfl ⟨by decide, by decide⟩ rfl rfl hl.1 (Nat.le_of_ble_eq_true rfl) rM d_M_build_169 ⟨Nat.zero_le _, Nat.zero_le _⟩ (fun H locs hs => ?_)
                refine lv_aload_n hx hb d_M_build_172 rfl (lv_at hl 5 rfl) ?_
                refine lv_iload hx hb d_M_build_173 (lv_at hl 0 rfl) ?_
                refine xp_M62 hx hb hF hs k_fl_M_78 bo_0 d_M_build_175 (fun H locs hs => ?_)
                refine hret _ _ _ _ _ hs ?_ d_M_build_178
                exact (if_neg h1).trans ((if_neg h2).trans ((if_neg h3).trans ((if_pos h4).trans ((if_pos h5).trans ((if_pos h6).trans ((if_pos h7).trans rfl))))))
              · refine lv_iload hx hb d_M_build_150 (lv_at hl 1 rfl) ?_
                refine lv_if_eq (tgt := 164) hx hb d_M_build_152 (by decide) (fun h => absurd h (by decide)) (fun _ => ?_)
                refine lv_iload hx hb d_M_build_155 (lv_at hl 0 rfl) ?_
                refine lv_if_eq (tgt := 164) hx hb d_M_build_157 (by decide) (fun h => absurd h (by decide)) (fun _ => ?_)
                refine lv_iconst (v := 1) hx hb d_M_build_160 (by decide) ?_
                refine lv_goto (tgt := 165) hx hb d_M_build_161 (by decide) ?_
                refine lv_istore (lv' := [(9, _), (8, _), (7, _), (5, _), (3, _), (0, _), (1, _), (2, _)]) hx hb d_M_build_165 hl (by decide) rfl (fun ls hl => ?_)
                refine lv_aload_n hx hb d_M_build_167 rfl (lv_at hl 5 rfl) ?_
                refine lv_iload_n hx hb d_M_build_168 rfl (lv_at hl 7 rfl) ?_
                refine x_Vv hF hs v_M_take k_ml_M_82 (m_M_take h_n2) rfl rfl ⟨by decide, by decide⟩ rfl rfl hl.1 (Nat.le_of_ble_eq_true rfl) rM d_M_build_169 ⟨Nat.zero_le _, Nat.zero_le _⟩ (fun H locs hs => ?_)
                refine lv_aload_n hx hb d_M_build_172 rfl (lv_at hl 5 rfl) ?_
                refine lv_iload hx hb d_M_build_173 (lv_at hl 0 rfl) ?_
                refine xp_M62 hx hb hF hs k_fl_M_78 bo_1 d_M_build_175 (fun H locs hs => ?_)
                refine hret _ _ _ _ _ hs ?_ d_M_build_178
                exact (if_neg h1).trans ((if_neg h2).trans ((if_neg h3).trans ((if_pos h4).trans ((if_pos h5).trans ((if_pos h6).trans ((if_neg h7).trans rfl))))))
