def p_X_isWord (n1 : Int32) : Int32 :=
  if n1 < (0 : Int32) then
    (0 : Int32)
  else
    if (256 : Int32) ≤ n1 then
      (0 : Int32)
    else
      (1 : Int32)
set_option maxHeartbeats 4000000 in
set_option maxRecDepth 100000 in
theorem m_X_isWord {l : Launch} {D : va_G} {a : Nat → Nat} {cA : Nat → ClassId} {B0 : Nat → Prop} {σ : Mem} {n1 : Int32} : cI l y_X_isWord (.code y_X_isWord c_X_isWord 1 (some FieldType.boolean) :: TG) (rmO 0 0) D (cwL a cA) (cty cA) B0 [.int n1] σ (p_X_isWord n1, σ) := by
  refine cZ_of (by decide) (Nat.le_of_ble_eq_true rfl) ?_
  intro p e s m args below meth c Q ls hx hb hF hl hs hret
  have hl : lv_has ls 1 [(0, .int n1)] := hl
  refine lv_iload_n hx hb d_X_isWord_0 rfl (lv_at hl 0 rfl) ?_
  refine lv_if_lt (tgt := 15) hx hb d_X_isWord_1 (by decide) (fun h1 => ?_) (fun h1 => ?_)
  · refine lv_iconst (v := 0) hx hb d_X_isWord_15 (by decide) ?_
    refine hret _ _ _ _ _ _ hs bo_0 ?_ d_X_isWord_16
    exact pr_eq ((if_pos h1).trans rfl)
  · refine lv_iload_n hx hb d_X_isWord_4 rfl (lv_at hl 0 rfl) ?_
    refine lv_sipush (v := 256) hx hb d_X_isWord_5 (by decide) ?_
    refine lv_icmp_ge (tgt := 15) hx hb d_X_isWord_8 (by decide) (fun h2 => ?_) (fun h2 => ?_)
    · refine lv_iconst (v := 0) hx hb d_X_isWord_15 (by decide) ?_
      refine hret _ _ _ _ _ _ hs bo_0 ?_ d_X_isWord_16
      exact pr_eq ((if_neg h1).trans ((if_pos h2).trans rfl))
    · refine lv_iconst (v := 1) hx hb d_X_isWord_11 (by decide) ?_
      refine lv_goto (tgt := 16) hx hb d_X_isWord_12 (by decide) ?_
      refine hret _ _ _ _ _ _ hs bo_1 ?_ d_X_isWord_16
      exact pr_eq ((if_neg h1).trans ((if_neg h2).trans rfl))
def p_X_isRegister (n1 : Int32) : Int32 :=
  if n1 < (0 : Int32) then
    (0 : Int32)
  else
    if (12 : Int32) ≤ n1 then
      (0 : Int32)
    else
      (1 : Int32)
set_option maxHeartbeats 4000000 in
set_option maxRecDepth 100000 in
theorem m_X_isRegister {l : Launch} {D : va_G} {a : Nat → Nat} {cA : Nat → ClassId} {B0 : Nat → Prop} {σ : Mem} {n1 : Int32} : cI l y_X_isRegister (.code y_X_isRegister c_X_isRegister 1 (some FieldType.boolean) :: TG) (rmO 0 0) D (cwL a cA) (cty cA) B0 [.int n1] σ (p_X_isRegister n1, σ) := by
  refine cZ_of (by decide) (Nat.le_of_ble_eq_true rfl) ?_
  intro p e s m args below meth c Q ls hx hb hF hl hs hret
  have hl : lv_has ls 1 [(0, .int n1)] := hl
  refine lv_iload_n hx hb d_X_isRegister_0 rfl (lv_at hl 0 rfl) ?_
  refine lv_if_lt (tgt := 14) hx hb d_X_isRegister_1 (by decide) (fun h1 => ?_) (fun h1 => ?_)
  · refine lv_iconst (v := 0) hx hb d_X_isRegister_14 (by decide) ?_
    refine hret _ _ _ _ _ _ hs bo_0 ?_ d_X_isRegister_15
    exact pr_eq ((if_pos h1).trans rfl)
  · refine lv_iload_n hx hb d_X_isRegister_4 rfl (lv_at hl 0 rfl) ?_
    refine lv_bipush (v := 12) hx hb d_X_isRegister_5 (by decide) ?_
    refine lv_icmp_ge (tgt := 14) hx hb d_X_isRegister_7 (by decide) (fun h2 => ?_) (fun h2 => ?_)
    · refine lv_iconst (v := 0) hx hb d_X_isRegister_14 (by decide) ?_
      refine hret _ _ _ _ _ _ hs bo_0 ?_ d_X_isRegister_15
      exact pr_eq ((if_neg h1).trans ((if_pos h2).trans rfl))
    · refine lv_iconst (v := 1) hx hb d_X_isRegister_10 (by decide) ?_
      refine lv_goto (tgt := 15) hx hb d_X_isRegister_11 (by decide) ?_
      refine hret _ _ _ _ _ _ hs bo_1 ?_ d_X_isRegister_15
      exact pr_eq ((if_neg h1).trans ((if_neg h2).trans rfl))
def p_X_trapOf (n1 : Int32) (n2 : Int32) : Int32 :=
  (n2 + (((16 : Int32) * (n1 : Int32)) : Int32))
set_option maxHeartbeats 4000000 in
set_option maxRecDepth 100000 in
theorem m_X_trapOf {l : Launch} {D : va_G} {a : Nat → Nat} {cA : Nat → ClassId} {B0 : Nat → Prop} {σ : Mem} {n1 : Int32} {n2 : Int32} : cI l y_X_trapOf (.code y_X_trapOf c_X_trapOf 2 (some FieldType.int) :: TG) (rmO 0 0) D (cwL a cA) (cty cA) B0 [.int n1, .int n2] σ (p_X_trapOf n1 n2, σ) := by
  refine cI_of (by decide) (Nat.le_of_ble_eq_true rfl) ?_
  intro p e s m args below meth c Q ls hx hb hF hl hs hret
  have hl : lv_has ls 2 [(0, .int n1), (1, .int n2)] := hl
  refine lv_iload_n hx hb d_X_trapOf_0 rfl (lv_at hl 1 rfl) ?_
  refine lv_bipush (v := 16) hx hb d_X_trapOf_1 (by decide) ?_
  refine lv_iload_n hx hb d_X_trapOf_3 rfl (lv_at hl 0 rfl) ?_
  refine lv_imul hx hb d_X_trapOf_4 ?_
  refine lv_iadd hx hb d_X_trapOf_5 ?_
  refine hret _ _ _ _ _ _ hs ?_ d_X_trapOf_6
  exact pr_eq (rfl)
def p_X_check (σ : Mem) (n1 : Int32) (n2 : Int32) (n3 : Int32) (n4 : Int32) : Int32 :=
  if (bo (σ 2 (n1.toNatClampNeg))) = (0 : Int32) then
    (p_X_trapOf n1 (1 : Int32))
  else
    if (p_K_isSealed σ (n1.toNatClampNeg)) = (0 : Int32) then
      if (p_K_permits σ (n1.toNatClampNeg) n2) = (0 : Int32) then
        (p_X_trapOf n1 (3 : Int32))
      else
        if (n4 &&& ((n3 - (1 : Int32)) : Int32)) = (0 : Int32) then
          if (lg_cmp ((n4).toInt64 &&& (4294967295 : Int64)) (p_K_lowerBound σ (n1.toNatClampNeg))) < (0 : Int32) then
            (p_X_trapOf n1 (5 : Int32))
          else
            if (lg_cmp (((n4).toInt64 &&& (4294967295 : Int64)) + ((n3).toInt64 : Int64)) (p_K_upperBound σ (n1.toNatClampNeg))) ≤ (0 : Int32) then
              if (lg_cmp (((n4).toInt64 &&& (4294967295 : Int64)) + ((n3).toInt64 : Int64)) (1024 : Int64)) ≤ (0 : Int32) then
                (0 : Int32)
              else
                (p_X_trapOf n1 (6 : Int32))
            else
              (p_X_trapOf n1 (5 : Int32))
        else
          (p_X_trapOf n1 (4 : Int32))
    else
      (p_X_trapOf n1 (2 : Int32))
set_option maxHeartbeats 4000000 in
set_option maxRecDepth 100000 in
theorem m_X_check {l : Launch} {D : va_G} {a : Nat → Nat} {cA : Nat → ClassId} {B0 : Nat → Prop} {σ : Mem} {n1 : Int32} {n2 : Int32} {n3 : Int32} {n4 : Int32} (h_n1 : vp_in n1 12) : cI l y_X_check (.code y_X_check c_X_check 8 (some FieldType.int) :: TG) (rmO 2 51) D (cwL a cA) (cty cA) B0 [.ref (a 0), .int n1, .int n2, .int n3, .int n4] σ (p_X_check σ n1 n2 n3 n4, σ) := by
  refine cI_of (by decide) (Nat.le_of_ble_eq_true rfl) ?_
  intro p e s m args below meth c Q ls hx hb hF hl hs hret
  have hl : lv_has ls 8 [(0, .ref (a 0)), (1, .int n1), (2, .int n2), (3, .int n3), (4, .int n4)] := hl
  refine lv_aload_n hx hb d_X_check_0 rfl (lv_at hl 0 rfl) ?_
  refine xg_X hx hb hF hs 2 (by decide) k_fl_X_19 rfl d_X_check_1 ?_
  refine lv_iload_n hx hb d_X_check_4 rfl (lv_at hl 1 rfl) ?_
  refine xr_ld hx hb hF hs h_n1 d_X_check_5 ?_
  refine lv_astore (lv' := [(5, _), (0, _), (1, _), (2, _), (3, _), (4, _)]) hx hb d_X_check_6 hl (by decide) rfl (fun ls hl => ?_)
  refine lv_iload hx hb d_X_check_8 (lv_at hl 5 rfl) ?_
  refine lv_i2l hx hb d_X_check_10 rfl ?_
  refine x_ldc2 hx hb hF k_cL_X_104 d_X_check_11 ?_
  refine lv_land hx hb d_X_check_14 ?_
  refine lv_lstore (lv' := [(6, _), (5, _), (0, _), (1, _), (2, _), (3, _), (4, _)]) hx hb d_X_check_15 hl (by decide) rfl (fun ls hl => ?_)
  refine lv_aload hx hb d_X_check_17 (lv_at hl 1 rfl) ?_
  refine xg_N2 hx hb hF hs (in13 h_n1) d_X_check_19 ?_
  refine lv_if_ne (tgt := 31) hx hb d_X_check_22 (by decide) (fun h1 => ?_) (fun h1 => ?_)
  · refine lv_aload hx hb d_X_check_31 (lv_at hl 1 rfl) ?_
    refine x_Vip hF hs v_K_isSealed k_ml_X_97 (m_K_isSealed (in13 h_n1)) rfl rfl ⟨by decide, by decide⟩ rfl rfl hl.1 (Nat.le_of_ble_eq_true rfl) (rK (in13 h_n1)) d_X_check_33 ⟨Nat.zero_le _, Nat.zero_le _⟩ (fun H locs hs => ?_)
    refine lv_if_eq (tgt := 45) hx hb d_X_check_36 (by decide) (fun h2 => ?_) (fun h2 => ?_)
    · refine lv_aload hx hb d_X_check_45 (lv_at hl 1 rfl) ?_
      refine lv_iload_n hx hb d_X_check_47 rfl (lv_at hl 4 rfl) ?_
      refine x_Vip hF hs v_K_permits k_ml_X_101 (m_K_permits (in13 h_n1)) rfl rfl ⟨by decide, by decide⟩ rfl rfl hl.1 (Nat.le_of_ble_eq_true rfl) (rK (in13 h_n1)) d_X_check_48 ⟨Nat.zero_le _, Nat.zero_le _⟩ (fun H locs hs => ?_)
      refine lv_if_ne (tgt := 60) hx hb d_X_check_51 (by decide) (fun h3 => ?_) (fun h3 => ?_)
      · refine lv_iload hx hb d_X_check_60 (lv_at hl 6 rfl) ?_
        refine lv_iload_n hx hb d_X_check_62 rfl (lv_at hl 5 rfl) ?_
        refine lv_iconst (v := 1) hx hb d_X_check_63 (by decide) ?_
        refine lv_isub hx hb d_X_check_64 ?_
        refine lv_iand hx hb d_X_check_65 ?_
        refine lv_if_eq (tgt := 75) hx hb d_X_check_66 (by decide) (fun h4 => ?_) (fun h4 => ?_)
        · refine lv_lload hx hb d_X_check_75 (lv_at hl 0 rfl) ?_
          refine lv_aload hx hb d_X_check_77 (lv_at hl 1 rfl) ?_
          refine x_Vlp hF hs v_K_lowerBound k_ml_X_72 (m_K_lowerBound (in13 h_n1)) rfl rfl ⟨by decide, by decide⟩ rfl rfl hl.1 (Nat.le_of_ble_eq_true rfl) (rK (in13 h_n1)) d_X_check_79 ⟨Nat.zero_le _, Nat.zero_le _⟩ (fun H locs hs => ?_)
          refine W.lcmp hx hb d_X_check_82 ?_
          refine lv_if_lt (tgt := 100) hx hb d_X_check_83 (by decide) (fun h5 => ?_) (fun h5 => ?_)
          · refine lv_iload_n hx hb d_X_check_100 rfl (lv_at hl 3 rfl) ?_
            refine lv_iconst (v := 5) hx hb d_X_check_101 (by decide) ?_
            refine x_Sip hF hs v_X_trapOf k_ml_X_106 (m_X_trapOf) rfl rfl ⟨by decide, by decide⟩ rfl rfl hl.1 (Nat.le_of_ble_eq_true rfl) d_X_check_102 ⟨Nat.zero_le _, Nat.zero_le _⟩ (fun H locs hs => ?_)
            refine hret _ _ _ _ _ _ hs ?_ d_X_check_105
            exact pr_eq ((if_neg h1).trans ((if_pos h2).trans ((if_neg h3).trans ((if_pos h4).trans ((if_pos h5).trans rfl)))))
          · refine lv_lload hx hb d_X_check_86 (lv_at hl 0 rfl) ?_
            refine lv_iload_n hx hb d_X_check_88 rfl (lv_at hl 5 rfl) ?_
            refine lv_i2l hx hb d_X_check_89 rfl ?_
            refine lv_ladd hx hb d_X_check_90 ?_
            refine lv_aload hx hb d_X_check_91 (lv_at hl 1 rfl) ?_
            refine x_Vlp hF hs v_K_upperBound k_ml_X_76 (m_K_upperBound (in13 h_n1)) rfl rfl ⟨by decide, by decide⟩ rfl rfl hl.1 (Nat.le_of_ble_eq_true rfl) (rK (in13 h_n1)) d_X_check_93 ⟨Nat.zero_le _, Nat.zero_le _⟩ (fun H locs hs => ?_)
            refine W.lcmp hx hb d_X_check_96 ?_
            refine lv_if_le (tgt := 106) hx hb d_X_check_97 (by decide) (fun h6 => ?_) (fun h6 => ?_)
            · refine lv_lload hx hb d_X_check_106 (lv_at hl 0 rfl) ?_
              refine lv_iload_n hx hb d_X_check_108 rfl (lv_at hl 5 rfl) ?_
              refine lv_i2l hx hb d_X_check_109 rfl ?_
              refine lv_ladd hx hb d_X_check_110 ?_
              refine x_ldc2 hx hb hF k_cL_X_110 d_X_check_111 ?_
              refine W.lcmp hx hb d_X_check_114 ?_
              refine lv_if_le (tgt := 125) hx hb d_X_check_115 (by decide) (fun h7 => ?_) (fun h7 => ?_)
              · refine lv_iconst (v := 0) hx hb d_X_check_125 (by decide) ?_
                refine hret _ _ _ _ _ _ hs ?_ d_X_check_126
                exact pr_eq ((if_neg h1).trans ((if_pos h2).trans ((if_neg h3).trans ((if_pos h4).trans ((if_neg h5).trans ((if_pos h6).trans ((if_pos h7).trans rfl)))))))
              · refine lv_iload_n hx hb d_X_check_118 rfl (lv_at hl 3 rfl) ?_
                refine lv_bipush (v := 6) hx hb d_X_check_119 (by decide) ?_
                refine x_Sip hF hs v_X_trapOf k_ml_X_106 (m_X_trapOf) rfl rfl ⟨by decide, by decide⟩ rfl rfl hl.1 (Nat.le_of_ble_eq_true rfl) d_X_check_121 ⟨Nat.zero_le _, Nat.zero_le _⟩ (fun H locs hs => ?_)
                refine hret _ _ _ _ _ _ hs ?_ d_X_check_124
                exact pr_eq ((if_neg h1).trans ((if_pos h2).trans ((if_neg h3).trans ((if_pos h4).trans ((if_neg h5).trans ((if_pos h6).trans ((if_neg h7).trans rfl)))))))
            · refine lv_iload_n hx hb d_X_check_100 rfl (lv_at hl 3 rfl) ?_
              refine lv_iconst (v := 5) hx hb d_X_check_101 (by decide) ?_
              refine x_Sip hF hs v_X_trapOf k_ml_X_106 (m_X_trapOf) rfl rfl ⟨by decide, by decide⟩ rfl rfl hl.1 (Nat.le_of_ble_eq_true rfl) d_X_check_102 ⟨Nat.zero_le _, Nat.zero_le _⟩ (fun H locs hs => ?_)
              refine hret _ _ _ _ _ _ hs ?_ d_X_check_105
              exact pr_eq ((if_neg h1).trans ((if_pos h2).trans ((if_neg h3).trans ((if_pos h4).trans ((if_neg h5).trans ((if_neg h6).trans rfl))))))
        · refine lv_iload_n hx hb d_X_check_69 rfl (lv_at hl 3 rfl) ?_
          refine lv_iconst (v := 4) hx hb d_X_check_70 (by decide) ?_
          refine x_Sip hF hs v_X_trapOf k_ml_X_106 (m_X_trapOf) rfl rfl ⟨by decide, by decide⟩ rfl rfl hl.1 (Nat.le_of_ble_eq_true rfl) d_X_check_71 ⟨Nat.zero_le _, Nat.zero_le _⟩ (fun H locs hs => ?_)
          refine hret _ _ _ _ _ _ hs ?_ d_X_check_74
          exact pr_eq ((if_neg h1).trans ((if_pos h2).trans ((if_neg h3).trans ((if_neg h4).trans rfl))))
      · refine lv_iload_n hx hb d_X_check_54 rfl (lv_at hl 3 rfl) ?_
        refine lv_iconst (v := 3) hx hb d_X_check_55 (by decide) ?_
        refine x_Sip hF hs v_X_trapOf k_ml_X_106 (m_X_trapOf) rfl rfl ⟨by decide, by decide⟩ rfl rfl hl.1 (Nat.le_of_ble_eq_true rfl) d_X_check_56 ⟨Nat.zero_le _, Nat.zero_le _⟩ (fun H locs hs => ?_)
        refine hret _ _ _ _ _ _ hs ?_ d_X_check_59
        exact pr_eq ((if_neg h1).trans ((if_pos h2).trans ((if_pos h3).trans rfl)))
    · refine lv_iload_n hx hb d_X_check_39 rfl (lv_at hl 3 rfl) ?_
      refine lv_iconst (v := 2) hx hb d_X_check_40 (by decide) ?_
      refine x_Sip hF hs v_X_trapOf k_ml_X_106 (m_X_trapOf) rfl rfl ⟨by decide, by decide⟩ rfl rfl hl.1 (Nat.le_of_ble_eq_true rfl) d_X_check_41 ⟨Nat.zero_le _, Nat.zero_le _⟩ (fun H locs hs => ?_)
      refine hret _ _ _ _ _ _ hs ?_ d_X_check_44
      exact pr_eq ((if_neg h1).trans ((if_neg h2).trans rfl))
  · refine lv_iload_n hx hb d_X_check_25 rfl (lv_at hl 3 rfl) ?_
    refine lv_iconst (v := 1) hx hb d_X_check_26 (by decide) ?_
    refine x_Sip hF hs v_X_trapOf k_ml_X_106 (m_X_trapOf) rfl rfl ⟨by decide, by decide⟩ rfl rfl hl.1 (Nat.le_of_ble_eq_true rfl) d_X_check_27 ⟨Nat.zero_le _, Nat.zero_le _⟩ (fun H locs hs => ?_)
    refine hret _ _ _ _ _ _ hs ?_ d_X_check_30
    exact pr_eq ((if_pos h1).trans rfl)
def p_X_compute (n1 : Int32) (n2 : Int32) (n3 : Int32) (n4 : Int32) : Int32 :=
  if n1 = (1 : Int32) then
    (n2 + (n4 : Int32))
  else
  if n1 = (2 : Int32) then
    (n2 + (n3 : Int32))
  else
  if n1 = (3 : Int32) then
    (n2 - (n3 : Int32))
  else
  if n1 = (4 : Int32) then
    (n2 &&& (n3 : Int32))
  else
  if n1 = (5 : Int32) then
    (n2 ||| (n3 : Int32))
  else
  if n1 = (6 : Int32) then
    (n2 ^^^ (n3 : Int32))
  else
  if n1 = (7 : Int32) then
    (n2 <<< ((n3 &&& (31 : Int32)) &&& 31))
  else
  if n1 = (8 : Int32) then
    (((n2).toUInt32 >>> (((n3 &&& (31 : Int32))).toUInt32 &&& Int32.toUInt32 31)).toInt32)
  else
  if n1 = (9 : Int32) then
    if n3 ≤ n2 then
      (0 : Int32)
    else
      (1 : Int32)
  else
    (n4 <<< ((14 : Int32) &&& 31))
set_option maxHeartbeats 4000000 in
set_option maxRecDepth 100000 in
theorem m_X_compute {l : Launch} {D : va_G} {a : Nat → Nat} {cA : Nat → ClassId} {B0 : Nat → Prop} {σ : Mem} {n1 : Int32} {n2 : Int32} {n3 : Int32} {n4 : Int32} : cI l y_X_compute (.code y_X_compute c_X_compute 4 (some FieldType.int) :: TG) (rmO 0 0) D (cwL a cA) (cty cA) B0 [.int n1, .int n2, .int n3, .int n4] σ (p_X_compute n1 n2 n3 n4, σ) := by
  refine cI_of (by decide) (Nat.le_of_ble_eq_true rfl) ?_
  intro p e s m args below meth c Q ls hx hb hF hl hs hret
  have hl : lv_has ls 4 [(0, .int n1), (1, .int n2), (2, .int n3), (3, .int n4)] := hl
  refine lv_iload_n hx hb d_X_compute_0 rfl (lv_at hl 0 rfl) ?_
  by_cases h1 : n1 = (1 : Int32)
  · refine lv_tableIn (tgt := 52) (off := 51) hx hb d_X_compute_1 (by rw [h1]; decide) (by rw [h1]; decide) (by rw [h1]; rfl) (by decide) ?_
    refine lv_iload_n hx hb d_X_compute_52 rfl (lv_at hl 1 rfl) ?_
    refine lv_iload_n hx hb d_X_compute_53 rfl (lv_at hl 3 rfl) ?_
    refine lv_iadd hx hb d_X_compute_54 ?_
    refine hret _ _ _ _ _ _ hs ?_ d_X_compute_55
    exact pr_eq ((if_pos h1).trans rfl)
  by_cases h2 : n1 = (2 : Int32)
  · refine lv_tableIn (tgt := 56) (off := 55) hx hb d_X_compute_1 (by rw [h2]; decide) (by rw [h2]; decide) (by rw [h2]; rfl) (by decide) ?_
    refine lv_iload_n hx hb d_X_compute_56 rfl (lv_at hl 1 rfl) ?_
    refine lv_iload_n hx hb d_X_compute_57 rfl (lv_at hl 2 rfl) ?_
    refine lv_iadd hx hb d_X_compute_58 ?_
    refine hret _ _ _ _ _ _ hs ?_ d_X_compute_59
    exact pr_eq ((if_neg h1).trans ((if_pos h2).trans rfl))
  by_cases h3 : n1 = (3 : Int32)
  · refine lv_tableIn (tgt := 60) (off := 59) hx hb d_X_compute_1 (by rw [h3]; decide) (by rw [h3]; decide) (by rw [h3]; rfl) (by decide) ?_
    refine lv_iload_n hx hb d_X_compute_60 rfl (lv_at hl 1 rfl) ?_
    refine lv_iload_n hx hb d_X_compute_61 rfl (lv_at hl 2 rfl) ?_
    refine lv_isub hx hb d_X_compute_62 ?_
    refine hret _ _ _ _ _ _ hs ?_ d_X_compute_63
    exact pr_eq ((if_neg h1).trans ((if_neg h2).trans ((if_pos h3).trans rfl)))
  by_cases h4 : n1 = (4 : Int32)
  · refine lv_tableIn (tgt := 64) (off := 63) hx hb d_X_compute_1 (by rw [h4]; decide) (by rw [h4]; decide) (by rw [h4]; rfl) (by decide) ?_
    refine lv_iload_n hx hb d_X_compute_64 rfl (lv_at hl 1 rfl) ?_
    refine lv_iload_n hx hb d_X_compute_65 rfl (lv_at hl 2 rfl) ?_
    refine lv_iand hx hb d_X_compute_66 ?_
    refine hret _ _ _ _ _ _ hs ?_ d_X_compute_67
    exact pr_eq ((if_neg h1).trans ((if_neg h2).trans ((if_neg h3).trans ((if_pos h4).trans rfl))))
  by_cases h5 : n1 = (5 : Int32)
  · refine lv_tableIn (tgt := 68) (off := 67) hx hb d_X_compute_1 (by rw [h5]; decide) (by rw [h5]; decide) (by rw [h5]; rfl) (by decide) ?_
    refine lv_iload_n hx hb d_X_compute_68 rfl (lv_at hl 1 rfl) ?_
    refine lv_iload_n hx hb d_X_compute_69 rfl (lv_at hl 2 rfl) ?_
    refine lv_ior hx hb d_X_compute_70 ?_
    refine hret _ _ _ _ _ _ hs ?_ d_X_compute_71
    exact pr_eq ((if_neg h1).trans ((if_neg h2).trans ((if_neg h3).trans ((if_neg h4).trans ((if_pos h5).trans rfl)))))
  by_cases h6 : n1 = (6 : Int32)
  · refine lv_tableIn (tgt := 72) (off := 71) hx hb d_X_compute_1 (by rw [h6]; decide) (by rw [h6]; decide) (by rw [h6]; rfl) (by decide) ?_
    refine lv_iload_n hx hb d_X_compute_72 rfl (lv_at hl 1 rfl) ?_
    refine lv_iload_n hx hb d_X_compute_73 rfl (lv_at hl 2 rfl) ?_
    refine lv_ixor hx hb d_X_compute_74 ?_
    refine hret _ _ _ _ _ _ hs ?_ d_X_compute_75
    exact pr_eq ((if_neg h1).trans ((if_neg h2).trans ((if_neg h3).trans ((if_neg h4).trans ((if_neg h5).trans ((if_pos h6).trans rfl))))))
  by_cases h7 : n1 = (7 : Int32)
  · refine lv_tableIn (tgt := 76) (off := 75) hx hb d_X_compute_1 (by rw [h7]; decide) (by rw [h7]; decide) (by rw [h7]; rfl) (by decide) ?_
    refine lv_iload_n hx hb d_X_compute_76 rfl (lv_at hl 1 rfl) ?_
    refine lv_iload_n hx hb d_X_compute_77 rfl (lv_at hl 2 rfl) ?_
    refine lv_bipush (v := 31) hx hb d_X_compute_78 (by decide) ?_
    refine lv_iand hx hb d_X_compute_80 ?_
    refine lv_ishl hx hb d_X_compute_81 ?_
    refine hret _ _ _ _ _ _ hs ?_ d_X_compute_82
    exact pr_eq ((if_neg h1).trans ((if_neg h2).trans ((if_neg h3).trans ((if_neg h4).trans ((if_neg h5).trans ((if_neg h6).trans ((if_pos h7).trans rfl)))))))
  by_cases h8 : n1 = (8 : Int32)
  · refine lv_tableIn (tgt := 83) (off := 82) hx hb d_X_compute_1 (by rw [h8]; decide) (by rw [h8]; decide) (by rw [h8]; rfl) (by decide) ?_
    refine lv_iload_n hx hb d_X_compute_83 rfl (lv_at hl 1 rfl) ?_
    refine lv_iload_n hx hb d_X_compute_84 rfl (lv_at hl 2 rfl) ?_
    refine lv_bipush (v := 31) hx hb d_X_compute_85 (by decide) ?_
    refine lv_iand hx hb d_X_compute_87 ?_
    refine lv_iushr hx hb d_X_compute_88 rfl ?_
    refine hret _ _ _ _ _ _ hs ?_ d_X_compute_89
    exact pr_eq ((if_neg h1).trans ((if_neg h2).trans ((if_neg h3).trans ((if_neg h4).trans ((if_neg h5).trans ((if_neg h6).trans ((if_neg h7).trans ((if_pos h8).trans rfl))))))))
  by_cases h9 : n1 = (9 : Int32)
  · refine lv_tableIn (tgt := 90) (off := 89) hx hb d_X_compute_1 (by rw [h9]; decide) (by rw [h9]; decide) (by rw [h9]; rfl) (by decide) ?_
    refine lv_iload_n hx hb d_X_compute_90 rfl (lv_at hl 1 rfl) ?_
    refine lv_iload_n hx hb d_X_compute_91 rfl (lv_at hl 2 rfl) ?_
    refine lv_icmp_ge (tgt := 99) hx hb d_X_compute_92 (by decide) (fun h10 => ?_) (fun h10 => ?_)
    · refine lv_iconst (v := 0) hx hb d_X_compute_99 (by decide) ?_
      refine hret _ _ _ _ _ _ hs ?_ d_X_compute_100
      exact pr_eq ((if_neg h1).trans ((if_neg h2).trans ((if_neg h3).trans ((if_neg h4).trans ((if_neg h5).trans ((if_neg h6).trans ((if_neg h7).trans ((if_neg h8).trans ((if_pos h9).trans ((if_pos h10).trans rfl))))))))))
    · refine lv_iconst (v := 1) hx hb d_X_compute_95 (by decide) ?_
      refine lv_goto (tgt := 100) hx hb d_X_compute_96 (by decide) ?_
      refine hret _ _ _ _ _ _ hs ?_ d_X_compute_100
      exact pr_eq ((if_neg h1).trans ((if_neg h2).trans ((if_neg h3).trans ((if_neg h4).trans ((if_neg h5).trans ((if_neg h6).trans ((if_neg h7).trans ((if_neg h8).trans ((if_pos h9).trans ((if_neg h10).trans rfl))))))))))
  refine x_tabD (tgt := 101) hx hb [1, 2, 3, 4, 5, 6, 7, 8, 9] d_X_compute_1 (List.forall_mem_cons.mpr ⟨lv_neT h1 (by decide), List.forall_mem_cons.mpr ⟨lv_neT h2 (by decide), List.forall_mem_cons.mpr ⟨lv_neT h3 (by decide), List.forall_mem_cons.mpr ⟨lv_neT h4 (by decide), List.forall_mem_cons.mpr ⟨lv_neT h5 (by decide), List.forall_mem_cons.mpr ⟨lv_neT h6 (by decide), List.forall_mem_cons.mpr ⟨lv_neT h7 (by decide), List.forall_mem_cons.mpr ⟨lv_neT h8 (by decide), List.forall_mem_cons.mpr ⟨lv_neT h9 (by decide), fun _ z => absurd z List.not_mem_nil⟩⟩⟩⟩⟩⟩⟩⟩⟩) (by decide) (by decide) (by decide) ?_
  refine lv_iload_n hx hb d_X_compute_101 rfl (lv_at hl 3 rfl) ?_
  refine lv_bipush (v := 14) hx hb d_X_compute_102 (by decide) ?_
  refine lv_ishl hx hb d_X_compute_104 ?_
  refine hret _ _ _ _ _ _ hs ?_ d_X_compute_105
  exact pr_eq ((if_neg h1).trans ((if_neg h2).trans ((if_neg h3).trans ((if_neg h4).trans ((if_neg h5).trans ((if_neg h6).trans ((if_neg h7).trans ((if_neg h8).trans ((if_neg h9).trans rfl)))))))))
def p_X_tell (σ : Mem) (i1 : Nat) (n2 : Int32) : Int32 :=
  if n2 = (0 : Int32) then
    ((p_K_lowerBound σ i1)).toInt32
  else
  if n2 = (1 : Int32) then
    (((p_K_upperBound σ i1) - ((p_K_lowerBound σ i1) : Int64))).toInt32
  else
  if n2 = (2 : Int32) then
    (p_K_permissions σ i1)
  else
  if n2 = (3 : Int32) then
    (p_K_type σ i1)
  else
  if n2 = (4 : Int32) then
    if (bo (σ 2 i1)) = (0 : Int32) then
      (0 : Int32)
    else
      (1 : Int32)
  else
  if n2 = (5 : Int32) then
    (σ 4 i1)
  else
  if n2 = (6 : Int32) then
    (σ 3 i1)
  else
    (0 : Int32)
set_option maxHeartbeats 4000000 in
set_option maxRecDepth 100000 in
theorem m_X_tell {l : Launch} {D : va_G} {a : Nat → Nat} {cA : Nat → ClassId} {B0 : Nat → Prop} {σ : Mem} {i1 : Nat} {n2 : Int32} (h_i1 : i1 < 13) : cI l y_X_tell (.code y_X_tell c_X_tell 2 (some FieldType.int) :: TG) (rmO 2 51) D (cwL a cA) (cty cA) B0 [.ref (a (4 + i1)), .int n2] σ (p_X_tell σ i1 n2, σ) := by
  refine cI_of (by decide) (Nat.le_of_ble_eq_true rfl) ?_
  intro p e s m args below meth c Q ls hx hb hF hl hs hret
  have hl : lv_has ls 2 [(0, .ref (a (4 + i1))), (1, .int n2)] := hl
  refine lv_iload_n hx hb d_X_tell_0 rfl (lv_at hl 1 rfl) ?_
  by_cases h1 : n2 = (0 : Int32)
  · refine lv_tableIn (tgt := 44) (off := 43) hx hb d_X_tell_1 (by rw [h1]; decide) (by rw [h1]; decide) (by rw [h1]; rfl) (by decide) ?_
    refine lv_aload_n hx hb d_X_tell_44 rfl (lv_at hl 0 rfl) ?_
    refine x_Vlp hF hs v_K_lowerBound k_ml_X_72 (m_K_lowerBound h_i1) rfl rfl ⟨by decide, by decide⟩ rfl rfl hl.1 (Nat.le_of_ble_eq_true rfl) (rK h_i1) d_X_tell_45 ⟨Nat.zero_le _, Nat.zero_le _⟩ (fun H locs hs => ?_)
    refine lv_l2i hx hb d_X_tell_48 rfl ?_
    refine hret _ _ _ _ _ _ hs ?_ d_X_tell_49
    exact pr_eq ((if_pos h1).trans rfl)
  by_cases h2 : n2 = (1 : Int32)
  · refine lv_tableIn (tgt := 50) (off := 49) hx hb d_X_tell_1 (by rw [h2]; decide) (by rw [h2]; decide) (by rw [h2]; rfl) (by decide) ?_
    refine lv_aload_n hx hb d_X_tell_50 rfl (lv_at hl 0 rfl) ?_
    refine x_Vlp hF hs v_K_upperBound k_ml_X_76 (m_K_upperBound h_i1) rfl rfl ⟨by decide, by decide⟩ rfl rfl hl.1 (Nat.le_of_ble_eq_true rfl) (rK h_i1) d_X_tell_51 ⟨Nat.zero_le _, Nat.zero_le _⟩ (fun H locs hs => ?_)
    refine lv_aload_n hx hb d_X_tell_54 rfl (lv_at hl 0 rfl) ?_
    refine x_Vlp hF hs v_K_lowerBound k_ml_X_72 (m_K_lowerBound h_i1) rfl rfl ⟨by decide, by decide⟩ rfl rfl hl.1 (Nat.le_of_ble_eq_true rfl) (rK h_i1) d_X_tell_55 ⟨Nat.zero_le _, Nat.zero_le _⟩ (fun H locs hs => ?_)
    refine lv_lsub hx hb d_X_tell_58 ?_
    refine lv_l2i hx hb d_X_tell_59 rfl ?_
    refine hret _ _ _ _ _ _ hs ?_ d_X_tell_60
    exact pr_eq ((if_neg h1).trans ((if_pos h2).trans rfl))
  by_cases h3 : n2 = (2 : Int32)
  · refine lv_tableIn (tgt := 61) (off := 60) hx hb d_X_tell_1 (by rw [h3]; decide) (by rw [h3]; decide) (by rw [h3]; rfl) (by decide) ?_
    refine lv_aload_n hx hb d_X_tell_61 rfl (lv_at hl 0 rfl) ?_
    refine x_Vip hF hs v_K_permissions k_ml_X_179 (m_K_permissions h_i1) rfl rfl ⟨by decide, by decide⟩ rfl rfl hl.1 (Nat.le_of_ble_eq_true rfl) (rK h_i1) d_X_tell_62 ⟨Nat.zero_le _, Nat.zero_le _⟩ (fun H locs hs => ?_)
    refine hret _ _ _ _ _ _ hs ?_ d_X_tell_65
    exact pr_eq ((if_neg h1).trans ((if_neg h2).trans ((if_pos h3).trans rfl)))
  by_cases h4 : n2 = (3 : Int32)
  · refine lv_tableIn (tgt := 66) (off := 65) hx hb d_X_tell_1 (by rw [h4]; decide) (by rw [h4]; decide) (by rw [h4]; rfl) (by decide) ?_
    refine lv_aload_n hx hb d_X_tell_66 rfl (lv_at hl 0 rfl) ?_
    refine x_Vip hF hs v_K_type k_ml_X_182 (m_K_type h_i1) rfl rfl ⟨by decide, by decide⟩ rfl rfl hl.1 (Nat.le_of_ble_eq_true rfl) (rK h_i1) d_X_tell_67 ⟨Nat.zero_le _, Nat.zero_le _⟩ (fun H locs hs => ?_)
    refine hret _ _ _ _ _ _ hs ?_ d_X_tell_70
    exact pr_eq ((if_neg h1).trans ((if_neg h2).trans ((if_neg h3).trans ((if_pos h4).trans rfl))))
  by_cases h5 : n2 = (4 : Int32)
  · refine lv_tableIn (tgt := 71) (off := 70) hx hb d_X_tell_1 (by rw [h5]; decide) (by rw [h5]; decide) (by rw [h5]; rfl) (by decide) ?_
    refine lv_aload_n hx hb d_X_tell_71 rfl (lv_at hl 0 rfl) ?_
    refine xg_N2 hx hb hF hs h_i1 d_X_tell_72 ?_
    refine lv_if_eq (tgt := 82) hx hb d_X_tell_75 (by decide) (fun h6 => ?_) (fun h6 => ?_)
    · refine lv_iconst (v := 0) hx hb d_X_tell_82 (by decide) ?_
      refine hret _ _ _ _ _ _ hs ?_ d_X_tell_83
      exact pr_eq ((if_neg h1).trans ((if_neg h2).trans ((if_neg h3).trans ((if_neg h4).trans ((if_pos h5).trans ((if_pos h6).trans rfl))))))
    · refine lv_iconst (v := 1) hx hb d_X_tell_78 (by decide) ?_
      refine lv_goto (tgt := 83) hx hb d_X_tell_79 (by decide) ?_
      refine hret _ _ _ _ _ _ hs ?_ d_X_tell_83
      exact pr_eq ((if_neg h1).trans ((if_neg h2).trans ((if_neg h3).trans ((if_neg h4).trans ((if_pos h5).trans ((if_neg h6).trans rfl))))))
  by_cases h6 : n2 = (5 : Int32)
  · refine lv_tableIn (tgt := 84) (off := 83) hx hb d_X_tell_1 (by rw [h6]; decide) (by rw [h6]; decide) (by rw [h6]; rfl) (by decide) ?_
    refine lv_aload_n hx hb d_X_tell_84 rfl (lv_at hl 0 rfl) ?_
    refine xg_N4 hx hb hF hs h_i1 d_X_tell_85 ?_
    refine hret _ _ _ _ _ _ hs ?_ d_X_tell_88
    exact pr_eq ((if_neg h1).trans ((if_neg h2).trans ((if_neg h3).trans ((if_neg h4).trans ((if_neg h5).trans ((if_pos h6).trans rfl))))))
  by_cases h7 : n2 = (6 : Int32)
  · refine lv_tableIn (tgt := 89) (off := 88) hx hb d_X_tell_1 (by rw [h7]; decide) (by rw [h7]; decide) (by rw [h7]; rfl) (by decide) ?_
    refine lv_aload_n hx hb d_X_tell_89 rfl (lv_at hl 0 rfl) ?_
    refine xg_N3 hx hb hF hs h_i1 d_X_tell_90 ?_
    refine hret _ _ _ _ _ _ hs ?_ d_X_tell_93
    exact pr_eq ((if_neg h1).trans ((if_neg h2).trans ((if_neg h3).trans ((if_neg h4).trans ((if_neg h5).trans ((if_neg h6).trans ((if_pos h7).trans rfl)))))))
  refine x_tabD (tgt := 94) hx hb [0, 1, 2, 3, 4, 5, 6] d_X_tell_1 (List.forall_mem_cons.mpr ⟨lv_neT h1 (by decide), List.forall_mem_cons.mpr ⟨lv_neT h2 (by decide), List.forall_mem_cons.mpr ⟨lv_neT h3 (by decide), List.forall_mem_cons.mpr ⟨lv_neT h4 (by decide), List.forall_mem_cons.mpr ⟨lv_neT h5 (by decide), List.forall_mem_cons.mpr ⟨lv_neT h6 (by decide), List.forall_mem_cons.mpr ⟨lv_neT h7 (by decide), fun _ z => absurd z List.not_mem_nil⟩⟩⟩⟩⟩⟩⟩) (by decide) (by decide) (by decide) ?_
  refine lv_iconst (v := 0) hx hb d_X_tell_94 (by decide) ?_
  refine hret _ _ _ _ _ _ hs ?_ d_X_tell_95
  exact pr_eq ((if_neg h1).trans ((if_neg h2).trans ((if_neg h3).trans ((if_neg h4).trans ((if_neg h5).trans ((if_neg h6).trans ((if_neg h7).trans rfl)))))))
def p_X_mayBuild (σ : Mem) (i1 : Nat) (i2 : Nat) : Int32 :=
  if (bo (σ 2 i1)) = (0 : Int32) then
    (0 : Int32)
  else
    if (p_K_isSealed σ i1) = (0 : Int32) then
      if (p_K_isSealed σ i2) = (0 : Int32) then
        if (lg_cmp (p_K_lowerBound σ i2) (p_K_lowerBound σ i1)) < (0 : Int32) then
          (0 : Int32)
        else
          if (0 : Int32) < (lg_cmp (p_K_lowerBound σ i2) (p_K_upperBound σ i2)) then
            (0 : Int32)
          else
            if (0 : Int32) < (lg_cmp (p_K_upperBound σ i2) (p_K_upperBound σ i1)) then
              (0 : Int32)
            else
              if (p_K_permits σ i1 (p_K_permissions σ i2)) = (0 : Int32) then
                (0 : Int32)
              else
                (1 : Int32)
      else
        (0 : Int32)
    else
      (0 : Int32)
set_option maxHeartbeats 4000000 in
set_option maxRecDepth 100000 in
theorem m_X_mayBuild {l : Launch} {D : va_G} {a : Nat → Nat} {cA : Nat → ClassId} {B0 : Nat → Prop} {σ : Mem} {i1 : Nat} {i2 : Nat} (h_i1 : i1 < 13) (h_i2 : i2 < 13) : cI l y_X_mayBuild (.code y_X_mayBuild c_X_mayBuild 2 (some FieldType.boolean) :: TG) (rmO 2 51) D (cwL a cA) (cty cA) B0 [.ref (a (4 + i1)), .ref (a (4 + i2))] σ (p_X_mayBuild σ i1 i2, σ) := by
  refine cZ_of (by decide) (Nat.le_of_ble_eq_true rfl) ?_
  intro p e s m args below meth c Q ls hx hb hF hl hs hret
  have hl : lv_has ls 2 [(0, .ref (a (4 + i1))), (1, .ref (a (4 + i2)))] := hl
  refine lv_aload_n hx hb d_X_mayBuild_0 rfl (lv_at hl 0 rfl) ?_
  refine xg_N2 hx hb hF hs h_i1 d_X_mayBuild_1 ?_
  refine lv_if_eq (tgt := 72) hx hb d_X_mayBuild_4 (by decide) (fun h1 => ?_) (fun h1 => ?_)
  · refine lv_iconst (v := 0) hx hb d_X_mayBuild_72 (by decide) ?_
    refine hret _ _ _ _ _ _ hs bo_0 ?_ d_X_mayBuild_73
    exact pr_eq ((if_pos h1).trans rfl)
  · refine lv_aload_n hx hb d_X_mayBuild_7 rfl (lv_at hl 0 rfl) ?_
    refine x_Vip hF hs v_K_isSealed k_ml_X_97 (m_K_isSealed h_i1) rfl rfl ⟨by decide, by decide⟩ rfl rfl hl.1 (Nat.le_of_ble_eq_true rfl) (rK h_i1) d_X_mayBuild_8 ⟨Nat.zero_le _, Nat.zero_le _⟩ (fun H locs hs => ?_)
    refine lv_if_ne (tgt := 72) hx hb d_X_mayBuild_11 (by decide) (fun h2 => ?_) (fun h2 => ?_)
    · refine lv_iconst (v := 0) hx hb d_X_mayBuild_72 (by decide) ?_
      refine hret _ _ _ _ _ _ hs bo_0 ?_ d_X_mayBuild_73
      exact pr_eq ((if_neg h1).trans ((if_neg h2).trans rfl))
    · refine lv_aload_n hx hb d_X_mayBuild_14 rfl (lv_at hl 1 rfl) ?_
      refine x_Vip hF hs v_K_isSealed k_ml_X_97 (m_K_isSealed h_i2) rfl rfl ⟨by decide, by decide⟩ rfl rfl hl.1 (Nat.le_of_ble_eq_true rfl) (rK h_i2) d_X_mayBuild_15 ⟨Nat.zero_le _, Nat.zero_le _⟩ (fun H locs hs => ?_)
      refine lv_if_ne (tgt := 72) hx hb d_X_mayBuild_18 (by decide) (fun h3 => ?_) (fun h3 => ?_)
      · refine lv_iconst (v := 0) hx hb d_X_mayBuild_72 (by decide) ?_
        refine hret _ _ _ _ _ _ hs bo_0 ?_ d_X_mayBuild_73
        exact pr_eq ((if_neg h1).trans ((if_pos h2).trans ((if_neg h3).trans rfl)))
      · refine lv_aload_n hx hb d_X_mayBuild_21 rfl (lv_at hl 1 rfl) ?_
        refine x_Vlp hF hs v_K_lowerBound k_ml_X_72 (m_K_lowerBound h_i2) rfl rfl ⟨by decide, by decide⟩ rfl rfl hl.1 (Nat.le_of_ble_eq_true rfl) (rK h_i2) d_X_mayBuild_22 ⟨Nat.zero_le _, Nat.zero_le _⟩ (fun H locs hs => ?_)
        refine lv_aload_n hx hb d_X_mayBuild_25 rfl (lv_at hl 0 rfl) ?_
        refine x_Vlp hF hs v_K_lowerBound k_ml_X_72 (m_K_lowerBound h_i1) rfl rfl ⟨by decide, by decide⟩ rfl rfl hl.1 (Nat.le_of_ble_eq_true rfl) (rK h_i1) d_X_mayBuild_26 ⟨Nat.zero_le _, Nat.zero_le _⟩ (fun H locs hs => ?_)
        refine W.lcmp hx hb d_X_mayBuild_29 ?_
        refine lv_if_lt (tgt := 72) hx hb d_X_mayBuild_30 (by decide) (fun h4 => ?_) (fun h4 => ?_)
        · refine lv_iconst (v := 0) hx hb d_X_mayBuild_72 (by decide) ?_
          refine hret _ _ _ _ _ _ hs bo_0 ?_ d_X_mayBuild_73
          exact pr_eq ((if_neg h1).trans ((if_pos h2).trans ((if_pos h3).trans ((if_pos h4).trans rfl))))
        · refine lv_aload_n hx hb d_X_mayBuild_33 rfl (lv_at hl 1 rfl) ?_
          refine x_Vlp hF hs v_K_lowerBound k_ml_X_72 (m_K_lowerBound h_i2) rfl rfl ⟨by decide, by decide⟩ rfl rfl hl.1 (Nat.le_of_ble_eq_true rfl) (rK h_i2) d_X_mayBuild_34 ⟨Nat.zero_le _, Nat.zero_le _⟩ (fun H locs hs => ?_)
          refine lv_aload_n hx hb d_X_mayBuild_37 rfl (lv_at hl 1 rfl) ?_
          refine x_Vlp hF hs v_K_upperBound k_ml_X_76 (m_K_upperBound h_i2) rfl rfl ⟨by decide, by decide⟩ rfl rfl hl.1 (Nat.le_of_ble_eq_true rfl) (rK h_i2) d_X_mayBuild_38 ⟨Nat.zero_le _, Nat.zero_le _⟩ (fun H locs hs => ?_)
          refine W.lcmp hx hb d_X_mayBuild_41 ?_
          refine lv_if_gt (tgt := 72) hx hb d_X_mayBuild_42 (by decide) (fun h5 => ?_) (fun h5 => ?_)
          · refine lv_iconst (v := 0) hx hb d_X_mayBuild_72 (by decide) ?_
            refine hret _ _ _ _ _ _ hs bo_0 ?_ d_X_mayBuild_73
            exact pr_eq ((if_neg h1).trans ((if_pos h2).trans ((if_pos h3).trans ((if_neg h4).trans ((if_pos h5).trans rfl)))))
          · refine lv_aload_n hx hb d_X_mayBuild_45 rfl (lv_at hl 1 rfl) ?_
            refine x_Vlp hF hs v_K_upperBound k_ml_X_76 (m_K_upperBound h_i2) rfl rfl ⟨by decide, by decide⟩ rfl rfl hl.1 (Nat.le_of_ble_eq_true rfl) (rK h_i2) d_X_mayBuild_46 ⟨Nat.zero_le _, Nat.zero_le _⟩ (fun H locs hs => ?_)
            refine lv_aload_n hx hb d_X_mayBuild_49 rfl (lv_at hl 0 rfl) ?_
            refine x_Vlp hF hs v_K_upperBound k_ml_X_76 (m_K_upperBound h_i1) rfl rfl ⟨by decide, by decide⟩ rfl rfl hl.1 (Nat.le_of_ble_eq_true rfl) (rK h_i1) d_X_mayBuild_50 ⟨Nat.zero_le _, Nat.zero_le _⟩ (fun H locs hs => ?_)
            refine W.lcmp hx hb d_X_mayBuild_53 ?_
            refine lv_if_gt (tgt := 72) hx hb d_X_mayBuild_54 (by decide) (fun h6 => ?_) (fun h6 => ?_)
            · refine lv_iconst (v := 0) hx hb d_X_mayBuild_72 (by decide) ?_
              refine hret _ _ _ _ _ _ hs bo_0 ?_ d_X_mayBuild_73
              exact pr_eq ((if_neg h1).trans ((if_pos h2).trans ((if_pos h3).trans ((if_neg h4).trans ((if_neg h5).trans ((if_pos h6).trans rfl))))))
            · refine lv_aload_n hx hb d_X_mayBuild_57 rfl (lv_at hl 0 rfl) ?_
              refine lv_aload_n hx hb d_X_mayBuild_58 rfl (lv_at hl 1 rfl) ?_
              refine x_Vip hF hs v_K_permissions k_ml_X_179 (m_K_permissions h_i2) rfl rfl ⟨by decide, by decide⟩ rfl rfl hl.1 (Nat.le_of_ble_eq_true rfl) (rK h_i2) d_X_mayBuild_59 ⟨Nat.zero_le _, Nat.zero_le _⟩ (fun H locs hs => ?_)
              refine x_Vip hF hs v_K_permits k_ml_X_101 (m_K_permits h_i1) rfl rfl ⟨by decide, by decide⟩ rfl rfl hl.1 (Nat.le_of_ble_eq_true rfl) (rK h_i1) d_X_mayBuild_62 ⟨Nat.zero_le _, Nat.zero_le _⟩ (fun H locs hs => ?_)
              refine lv_if_eq (tgt := 72) hx hb d_X_mayBuild_65 (by decide) (fun h7 => ?_) (fun h7 => ?_)
              · refine lv_iconst (v := 0) hx hb d_X_mayBuild_72 (by decide) ?_
                refine hret _ _ _ _ _ _ hs bo_0 ?_ d_X_mayBuild_73
                exact pr_eq ((if_neg h1).trans ((if_pos h2).trans ((if_pos h3).trans ((if_neg h4).trans ((if_neg h5).trans ((if_neg h6).trans ((if_pos h7).trans rfl)))))))
              · refine lv_iconst (v := 1) hx hb d_X_mayBuild_68 (by decide) ?_
                refine lv_goto (tgt := 73) hx hb d_X_mayBuild_69 (by decide) ?_
                refine hret _ _ _ _ _ _ hs bo_1 ?_ d_X_mayBuild_73
                exact pr_eq ((if_neg h1).trans ((if_pos h2).trans ((if_pos h3).trans ((if_neg h4).trans ((if_neg h5).trans ((if_neg h6).trans ((if_neg h7).trans rfl)))))))
def p_X_writeWord (σ : Mem) (n1 : Int32) (n2 : Int32) : Mem :=
  let σ1 : Mem := wr σ 0 (n1 : Int32).toNatClampNeg n2;
  let σ2 : Mem := wr σ1 1 ((n1 >>> ((1 : Int32) &&& 31)) : Int32).toNatClampNeg (0 : Int32);
  σ2
set_option maxHeartbeats 4000000 in
set_option maxRecDepth 100000 in
theorem m_X_writeWord {l : Launch} {D : va_G} {a : Nat → Nat} {cA : Nat → ClassId} {B0 : Nat → Prop} {σ : Mem} {n1 : Int32} {n2 : Int32} (h_n1 : vp_in n1 256) : cV l y_X_writeWord (.code y_X_writeWord c_X_writeWord 3 (none) :: TG) (rmO 0 0) D (cwL a cA) (cty cA) B0 [.ref (a 0), .int n1, .int n2] σ (p_X_writeWord σ n1 n2) := by
  refine cV_of (by decide) (Nat.le_of_ble_eq_true rfl) ?_
  intro p e s m args below meth c Q ls hx hb hF hl hs hret
  have hl : lv_has ls 3 [(0, .ref (a 0)), (1, .int n1), (2, .int n2)] := hl
  refine lv_aload_n hx hb d_X_writeWord_0 rfl (lv_at hl 0 rfl) ?_
  refine xg_X hx hb hF hs 0 (by decide) k_fl_X_9 rfl d_X_writeWord_1 ?_
  refine lv_iload_n hx hb d_X_writeWord_4 rfl (lv_at hl 1 rfl) ?_
  refine lv_iload_n hx hb d_X_writeWord_5 rfl (lv_at hl 2 rfl) ?_
  refine xw_st hx hb hF hs h_n1 d_X_writeWord_6 (fun H locs hs => ?_)
  refine lv_aload_n hx hb d_X_writeWord_7 rfl (lv_at hl 0 rfl) ?_
  refine xg_X hx hb hF hs 1 (by decide) k_fl_X_13 rfl d_X_writeWord_8 ?_
  refine lv_iload_n hx hb d_X_writeWord_11 rfl (lv_at hl 1 rfl) ?_
  refine lv_iconst (v := 1) hx hb d_X_writeWord_12 (by decide) ?_
  refine lv_ishr hx hb d_X_writeWord_13 ?_
  refine lv_iconst (v := 0) hx hb d_X_writeWord_14 (by decide) ?_
  refine xt_st hx hb hF hs (ix_half h_n1) d_X_writeWord_15 (fun H locs hs => ?_)
  refine hret _ _ _ _ _ hs ?_ d_X_writeWord_16
  exact rfl
def p_X_writeNumber (σ : Mem) (n1 : Int32) (n2 : Int32) : Mem :=
  if n1 = (0 : Int32) then
    σ
  else
    let σ1 : Mem := p_K_becomeNumber σ (n1.toNatClampNeg) n2;
    σ1
set_option maxHeartbeats 4000000 in
set_option maxRecDepth 100000 in
theorem m_X_writeNumber {l : Launch} {D : va_G} {a : Nat → Nat} {cA : Nat → ClassId} {B0 : Nat → Prop} {σ : Mem} {n1 : Int32} {n2 : Int32} (h_n1 : vp_in n1 12) : cV l y_X_writeNumber (.code y_X_writeNumber c_X_writeNumber 3 (none) :: TG) (rmO 1 21) D (cwL a cA) (cty cA) B0 [.ref (a 0), .int n1, .int n2] σ (p_X_writeNumber σ n1 n2) := by
  refine cV_of (by decide) (Nat.le_of_ble_eq_true rfl) ?_
  intro p e s m args below meth c Q ls hx hb hF hl hs hret
  have hl : lv_has ls 3 [(0, .ref (a 0)), (1, .int n1), (2, .int n2)] := hl
  refine lv_iload_n hx hb d_X_writeNumber_0 rfl (lv_at hl 1 rfl) ?_
  refine lv_if_eq (tgt := 14) hx hb d_X_writeNumber_1 (by decide) (fun h1 => ?_) (fun h1 => ?_)
  · refine hret _ _ _ _ _ hs ?_ d_X_writeNumber_14
    exact (if_pos h1).trans rfl
  · refine lv_aload_n hx hb d_X_writeNumber_4 rfl (lv_at hl 0 rfl) ?_
    refine xg_X hx hb hF hs 2 (by decide) k_fl_X_19 rfl d_X_writeNumber_5 ?_
    refine lv_iload_n hx hb d_X_writeNumber_8 rfl (lv_at hl 1 rfl) ?_
    refine xr_ld hx hb hF hs h_n1 d_X_writeNumber_9 ?_
    refine lv_iload_n hx hb d_X_writeNumber_10 rfl (lv_at hl 2 rfl) ?_
    refine x_Vv hF hs v_K_becomeNumber k_ml_X_192 (m_K_becomeNumber (in13 h_n1)) rfl rfl ⟨by decide, by decide⟩ rfl rfl hl.1 (Nat.le_of_ble_eq_true rfl) (rK (in13 h_n1)) d_X_writeNumber_11 ⟨Nat.zero_le _, Nat.zero_le _⟩ (fun H locs hs => ?_)
    refine hret _ _ _ _ _ hs ?_ d_X_writeNumber_14
    exact (if_neg h1).trans rfl
def p_X_writeMade (σ : Mem) (n1 : Int32) : Mem :=
  if n1 = (0 : Int32) then
    σ
  else
    let σ1 : Mem := p_K_copy σ (n1.toNatClampNeg) 12;
    σ1
set_option maxHeartbeats 4000000 in
set_option maxRecDepth 100000 in
theorem m_X_writeMade {l : Launch} {D : va_G} {a : Nat → Nat} {cA : Nat → ClassId} {B0 : Nat → Prop} {σ : Mem} {n1 : Int32} (h_n1 : vp_in n1 12) : cV l y_X_writeMade (.code y_X_writeMade c_X_writeMade 2 (none) :: TG) (rmO 1 21) D (cwL a cA) (cty cA) B0 [.ref (a 0), .int n1] σ (p_X_writeMade σ n1) := by
  refine cV_of (by decide) (Nat.le_of_ble_eq_true rfl) ?_
  intro p e s m args below meth c Q ls hx hb hF hl hs hret
  have hl : lv_has ls 2 [(0, .ref (a 0)), (1, .int n1)] := hl
  refine lv_iload_n hx hb d_X_writeMade_0 rfl (lv_at hl 1 rfl) ?_
  refine lv_if_eq (tgt := 17) hx hb d_X_writeMade_1 (by decide) (fun h1 => ?_) (fun h1 => ?_)
  · refine hret _ _ _ _ _ hs ?_ d_X_writeMade_17
    exact (if_pos h1).trans rfl
  · refine lv_aload_n hx hb d_X_writeMade_4 rfl (lv_at hl 0 rfl) ?_
    refine xg_X hx hb hF hs 2 (by decide) k_fl_X_19 rfl d_X_writeMade_5 ?_
    refine lv_iload_n hx hb d_X_writeMade_8 rfl (lv_at hl 1 rfl) ?_
    refine xr_ld hx hb hF hs h_n1 d_X_writeMade_9 ?_
    refine lv_aload_n hx hb d_X_writeMade_10 rfl (lv_at hl 0 rfl) ?_
    refine xg_X hx hb hF hs 4 (by decide) k_fl_X_24 rfl d_X_writeMade_11 ?_
    refine x_Vv hF hs v_K_copy k_ml_X_93 (m_K_copy (in13 h_n1) lt12_13) rfl rfl ⟨by decide, by decide⟩ rfl rfl hl.1 (Nat.le_of_ble_eq_true rfl) (rK (in13 h_n1)) d_X_writeMade_14 ⟨Nat.zero_le _, Nat.zero_le _⟩ (fun H locs hs => ?_)
    refine hret _ _ _ _ _ hs ?_ d_X_writeMade_17
    exact (if_neg h1).trans rfl
def p_X_writeLink (σ : Mem) (n1 : Int32) : Mem :=
  if n1 = (0 : Int32) then
    σ
  else
    let σ1 : Mem := p_K_copy σ (n1.toNatClampNeg) 8;
    let σ2 : Mem := p_K_move σ1 (n1.toNatClampNeg) ((σ1 4 8) + (4 : Int32));
    let σ3 : Mem := p_K_setType σ2 (n1.toNatClampNeg) (1 : Int32);
    σ3
set_option maxHeartbeats 4000000 in
set_option maxRecDepth 100000 in
theorem m_X_writeLink {l : Launch} {D : va_G} {a : Nat → Nat} {cA : Nat → ClassId} {B0 : Nat → Prop} {σ : Mem} {n1 : Int32} (h_n1 : vp_in n1 12) : cV l y_X_writeLink (.code y_X_writeLink c_X_writeLink 2 (none) :: TG) (rmO 3 76) D (cwL a cA) (cty cA) B0 [.ref (a 0), .int n1] σ (p_X_writeLink σ n1) := by
  refine cV_of (by decide) (Nat.le_of_ble_eq_true rfl) ?_
  intro p e s m args below meth c Q ls hx hb hF hl hs hret
  have hl : lv_has ls 2 [(0, .ref (a 0)), (1, .int n1)] := hl
  refine lv_iload_n hx hb d_X_writeLink_0 rfl (lv_at hl 1 rfl) ?_
  refine lv_if_eq (tgt := 45) hx hb d_X_writeLink_1 (by decide) (fun h1 => ?_) (fun h1 => ?_)
  · refine hret _ _ _ _ _ hs ?_ d_X_writeLink_45
    exact (if_pos h1).trans rfl
  · refine lv_aload_n hx hb d_X_writeLink_4 rfl (lv_at hl 0 rfl) ?_
    refine xg_X hx hb hF hs 2 (by decide) k_fl_X_19 rfl d_X_writeLink_5 ?_
    refine lv_iload_n hx hb d_X_writeLink_8 rfl (lv_at hl 1 rfl) ?_
    refine xr_ld hx hb hF hs h_n1 d_X_writeLink_9 ?_
    refine lv_aload_n hx hb d_X_writeLink_10 rfl (lv_at hl 0 rfl) ?_
    refine xg_X hx hb hF hs 3 (by decide) k_fl_X_41 rfl d_X_writeLink_11 ?_
    refine x_Vv hF hs v_K_copy k_ml_X_93 (m_K_copy (in13 h_n1) lt8_13) rfl rfl ⟨by decide, by decide⟩ rfl rfl hl.1 (Nat.le_of_ble_eq_true rfl) (rK (in13 h_n1)) d_X_writeLink_14 ⟨Nat.zero_le _, Nat.zero_le _⟩ (fun H locs hs => ?_)
    refine lv_aload_n hx hb d_X_writeLink_17 rfl (lv_at hl 0 rfl) ?_
    refine xg_X hx hb hF hs 2 (by decide) k_fl_X_19 rfl d_X_writeLink_18 ?_
    refine lv_iload_n hx hb d_X_writeLink_21 rfl (lv_at hl 1 rfl) ?_
    refine xr_ld hx hb hF hs h_n1 d_X_writeLink_22 ?_
    refine lv_aload_n hx hb d_X_writeLink_23 rfl (lv_at hl 0 rfl) ?_
    refine xg_X hx hb hF hs 3 (by decide) k_fl_X_41 rfl d_X_writeLink_24 ?_
    refine xg_N4 hx hb hF hs lt8_13 d_X_writeLink_27 ?_
    refine lv_iconst (v := 4) hx hb d_X_writeLink_30 (by decide) ?_
    refine lv_iadd hx hb d_X_writeLink_31 ?_
    refine x_Vv hF hs v_K_move k_ml_X_165 (m_K_move (in13 h_n1)) rfl rfl ⟨by decide, by decide⟩ rfl rfl hl.1 (Nat.le_of_ble_eq_true rfl) (rK (in13 h_n1)) d_X_writeLink_32 ⟨Nat.zero_le _, Nat.zero_le _⟩ (fun H locs hs => ?_)
    refine lv_aload_n hx hb d_X_writeLink_35 rfl (lv_at hl 0 rfl) ?_
    refine xg_X hx hb hF hs 2 (by decide) k_fl_X_19 rfl d_X_writeLink_36 ?_
    refine lv_iload_n hx hb d_X_writeLink_39 rfl (lv_at hl 1 rfl) ?_
    refine xr_ld hx hb hF hs h_n1 d_X_writeLink_40 ?_
    refine lv_iconst (v := 1) hx hb d_X_writeLink_41 (by decide) ?_
    refine x_Vv hF hs v_K_setType k_ml_X_185 (m_K_setType (in13 h_n1)) rfl rfl ⟨by decide, by decide⟩ rfl rfl hl.1 (Nat.le_of_ble_eq_true rfl) (rK (in13 h_n1)) d_X_writeLink_42 ⟨Nat.zero_le _, Nat.zero_le _⟩ (fun H locs hs => ?_)
    refine hret _ _ _ _ _ hs ?_ d_X_writeLink_45
    exact (if_neg h1).trans rfl
def p_X_writeWithType (σ : Mem) (n1 : Int32) (i2 : Nat) (n3 : Int32) : Mem :=
  let σ1 : Mem := p_K_copy σ 12 i2;
  let σ2 : Mem := p_K_setType σ1 12 n3;
  let σ3 : Mem := p_X_writeMade σ2 n1;
  σ3
set_option maxHeartbeats 4000000 in
set_option maxRecDepth 100000 in
theorem m_X_writeWithType {l : Launch} {D : va_G} {a : Nat → Nat} {cA : Nat → ClassId} {B0 : Nat → Prop} {σ : Mem} {n1 : Int32} {i2 : Nat} {n3 : Int32} (h_i2 : i2 < 13) (h_n1 : vp_in n1 12) : cV l y_X_writeWithType (.code y_X_writeWithType c_X_writeWithType 4 (none) :: TG) (rmO 2 42) D (cwL a cA) (cty cA) B0 [.ref (a 0), .int n1, .ref (a (4 + i2)), .int n3] σ (p_X_writeWithType σ n1 i2 n3) := by
  refine cV_of (by decide) (Nat.le_of_ble_eq_true rfl) ?_
  intro p e s m args below meth c Q ls hx hb hF hl hs hret
  have hl : lv_has ls 4 [(0, .ref (a 0)), (1, .int n1), (2, .ref (a (4 + i2))), (3, .int n3)] := hl
  refine lv_aload_n hx hb d_X_writeWithType_0 rfl (lv_at hl 0 rfl) ?_
  refine xg_X hx hb hF hs 4 (by decide) k_fl_X_24 rfl d_X_writeWithType_1 ?_
  refine lv_aload_n hx hb d_X_writeWithType_4 rfl (lv_at hl 2 rfl) ?_
  refine x_Vv hF hs v_K_copy k_ml_X_93 (m_K_copy lt12_13 h_i2) rfl rfl ⟨by decide, by decide⟩ rfl rfl hl.1 (Nat.le_of_ble_eq_true rfl) (rK lt12_13) d_X_writeWithType_5 ⟨Nat.zero_le _, Nat.zero_le _⟩ (fun H locs hs => ?_)
  refine lv_aload_n hx hb d_X_writeWithType_8 rfl (lv_at hl 0 rfl) ?_
  refine xg_X hx hb hF hs 4 (by decide) k_fl_X_24 rfl d_X_writeWithType_9 ?_
  refine lv_iload_n hx hb d_X_writeWithType_12 rfl (lv_at hl 3 rfl) ?_
  refine x_Vv hF hs v_K_setType k_ml_X_185 (m_K_setType lt12_13) rfl rfl ⟨by decide, by decide⟩ rfl rfl hl.1 (Nat.le_of_ble_eq_true rfl) (rK lt12_13) d_X_writeWithType_13 ⟨Nat.zero_le _, Nat.zero_le _⟩ (fun H locs hs => ?_)
  refine lv_aload_n hx hb d_X_writeWithType_16 rfl (lv_at hl 0 rfl) ?_
  refine lv_iload_n hx hb d_X_writeWithType_17 rfl (lv_at hl 1 rfl) ?_
  refine x_Vv hF hs v_X_writeMade k_ml_X_172 (m_X_writeMade h_n1) rfl rfl ⟨by decide, by decide⟩ rfl rfl hl.1 (Nat.le_of_ble_eq_true rfl) rX d_X_writeWithType_18 ⟨Nat.zero_le _, Nat.zero_le _⟩ (fun H locs hs => ?_)
  refine hret _ _ _ _ _ hs ?_ d_X_writeWithType_21
  exact rfl
def p_X_branch (σ : Mem) (n1 : Int32) : Int32 × Mem :=
  let σ1 : Mem := p_K_move σ 8 ((σ 4 8) + (((4 : Int32) * (n1 : Int32)) : Int32));
  ((0 : Int32), σ1)
set_option maxHeartbeats 4000000 in
set_option maxRecDepth 100000 in
theorem m_X_branch {l : Launch} {D : va_G} {a : Nat → Nat} {cA : Nat → ClassId} {B0 : Nat → Prop} {σ : Mem} {n1 : Int32} : cI l y_X_branch (.code y_X_branch c_X_branch 2 (some FieldType.int) :: TG) (rmO 3 76) D (cwL a cA) (cty cA) B0 [.ref (a 0), .int n1] σ (p_X_branch σ n1) := by
  refine cI_of (by decide) (Nat.le_of_ble_eq_true rfl) ?_
  intro p e s m args below meth c Q ls hx hb hF hl hs hret
  have hl : lv_has ls 2 [(0, .ref (a 0)), (1, .int n1)] := hl
  refine lv_aload_n hx hb d_X_branch_0 rfl (lv_at hl 0 rfl) ?_
  refine xg_X hx hb hF hs 3 (by decide) k_fl_X_41 rfl d_X_branch_1 ?_
  refine lv_aload_n hx hb d_X_branch_4 rfl (lv_at hl 0 rfl) ?_
  refine xg_X hx hb hF hs 3 (by decide) k_fl_X_41 rfl d_X_branch_5 ?_
  refine xg_N4 hx hb hF hs lt8_13 d_X_branch_8 ?_
  refine lv_iconst (v := 4) hx hb d_X_branch_11 (by decide) ?_
  refine lv_iload_n hx hb d_X_branch_12 rfl (lv_at hl 1 rfl) ?_
  refine lv_imul hx hb d_X_branch_13 ?_
  refine lv_iadd hx hb d_X_branch_14 ?_
  refine x_Vv hF hs v_K_move k_ml_X_165 (m_K_move lt8_13) rfl rfl ⟨by decide, by decide⟩ rfl rfl hl.1 (Nat.le_of_ble_eq_true rfl) (rK lt8_13) d_X_branch_15 ⟨Nat.zero_le _, Nat.zero_le _⟩ (fun H locs hs => ?_)
  refine lv_iconst (v := 0) hx hb d_X_branch_18 (by decide) ?_
  refine hret _ _ _ _ _ _ hs ?_ d_X_branch_19
  exact rfl
def p_X_returnFromTrap (σ : Mem) : Int32 × Mem :=
  if (p_K_permits σ 8 (128 : Int32)) = (0 : Int32) then
    ((p_X_trapOf (8 : Int32) (3 : Int32)), σ)
  else
    let σ1 : Mem := p_K_copy σ 8 (((10 : Int32) : Int32).toNatClampNeg);
    if (p_K_type σ1 8) = (1 : Int32) then
      let σ2 : Mem := p_K_setType σ1 8 (0 : Int32);
      ((0 : Int32), σ2)
    else
      ((0 : Int32), σ1)
set_option maxHeartbeats 4000000 in
set_option maxRecDepth 100000 in
theorem m_X_returnFromTrap {l : Launch} {D : va_G} {a : Nat → Nat} {cA : Nat → ClassId} {B0 : Nat → Prop} {σ : Mem} : cI l y_X_returnFromTrap (.code y_X_returnFromTrap c_X_returnFromTrap 1 (some FieldType.int) :: TG) (rmO 2 41) D (cwL a cA) (cty cA) B0 [.ref (a 0)] σ (p_X_returnFromTrap σ) := by
  refine cI_of (by decide) (Nat.le_of_ble_eq_true rfl) ?_
  intro p e s m args below meth c Q ls hx hb hF hl hs hret
  have hl : lv_has ls 1 [(0, .ref (a 0))] := hl
  refine lv_aload_n hx hb d_X_returnFromTrap_0 rfl (lv_at hl 0 rfl) ?_
  refine xg_X hx hb hF hs 3 (by decide) k_fl_X_41 rfl d_X_returnFromTrap_1 ?_
  refine lv_sipush (v := 128) hx hb d_X_returnFromTrap_4 (by decide) ?_
  refine x_Vip hF hs v_K_permits k_ml_X_101 (m_K_permits lt8_13) rfl rfl ⟨by decide, by decide⟩ rfl rfl hl.1 (Nat.le_of_ble_eq_true rfl) (rK lt8_13) d_X_returnFromTrap_7 ⟨Nat.zero_le _, Nat.zero_le _⟩ (fun H locs hs => ?_)
  refine lv_if_ne (tgt := 20) hx hb d_X_returnFromTrap_10 (by decide) (fun h1 => ?_) (fun h1 => ?_)
  · refine lv_aload_n hx hb d_X_returnFromTrap_20 rfl (lv_at hl 0 rfl) ?_
    refine xg_X hx hb hF hs 3 (by decide) k_fl_X_41 rfl d_X_returnFromTrap_21 ?_
    refine lv_aload_n hx hb d_X_returnFromTrap_24 rfl (lv_at hl 0 rfl) ?_
    refine xg_X hx hb hF hs 2 (by decide) k_fl_X_19 rfl d_X_returnFromTrap_25 ?_
    refine lv_bipush (v := 10) hx hb d_X_returnFromTrap_28 (by decide) ?_
    refine xr_ld hx hb hF hs ic_10_12 d_X_returnFromTrap_30 ?_
    refine x_Vv hF hs v_K_copy k_ml_X_93 (m_K_copy lt8_13 (in13 ic_10_12)) rfl rfl ⟨by decide, by decide⟩ rfl rfl hl.1 (Nat.le_of_ble_eq_true rfl) (rK lt8_13) d_X_returnFromTrap_31 ⟨Nat.zero_le _, Nat.zero_le _⟩ (fun H locs hs => ?_)
    refine lv_aload_n hx hb d_X_returnFromTrap_34 rfl (lv_at hl 0 rfl) ?_
    refine xg_X hx hb hF hs 3 (by decide) k_fl_X_41 rfl d_X_returnFromTrap_35 ?_
    refine x_Vip hF hs v_K_type k_ml_X_182 (m_K_type lt8_13) rfl rfl ⟨by decide, by decide⟩ rfl rfl hl.1 (Nat.le_of_ble_eq_true rfl) (rK lt8_13) d_X_returnFromTrap_38 ⟨Nat.zero_le _, Nat.zero_le _⟩ (fun H locs hs => ?_)
    refine lv_iconst (v := 1) hx hb d_X_returnFromTrap_41 (by decide) ?_
    refine lv_icmp_ne (tgt := 53) hx hb d_X_returnFromTrap_42 (by decide) (fun h2 => ?_) (fun h2 => ?_)
    · refine lv_iconst (v := 0) hx hb d_X_returnFromTrap_53 (by decide) ?_
      refine hret _ _ _ _ _ _ hs ?_ d_X_returnFromTrap_54
      exact (if_neg h1).trans ((if_neg h2).trans rfl)
    · refine lv_aload_n hx hb d_X_returnFromTrap_45 rfl (lv_at hl 0 rfl) ?_
      refine xg_X hx hb hF hs 3 (by decide) k_fl_X_41 rfl d_X_returnFromTrap_46 ?_
      refine lv_iconst (v := 0) hx hb d_X_returnFromTrap_49 (by decide) ?_
      refine x_Vv hF hs v_K_setType k_ml_X_185 (m_K_setType lt8_13) rfl rfl ⟨by decide, by decide⟩ rfl rfl hl.1 (Nat.le_of_ble_eq_true rfl) (rK lt8_13) d_X_returnFromTrap_50 ⟨Nat.zero_le _, Nat.zero_le _⟩ (fun H locs hs => ?_)
      refine lv_iconst (v := 0) hx hb d_X_returnFromTrap_53 (by decide) ?_
      refine hret _ _ _ _ _ _ hs ?_ d_X_returnFromTrap_54
      exact (if_neg h1).trans ((if_pos h2).trans rfl)
  · refine lv_bipush (v := 8) hx hb d_X_returnFromTrap_13 (by decide) ?_
    refine lv_iconst (v := 3) hx hb d_X_returnFromTrap_15 (by decide) ?_
    refine x_Sip hF hs v_X_trapOf k_ml_X_106 (m_X_trapOf) rfl rfl ⟨by decide, by decide⟩ rfl rfl hl.1 (Nat.le_of_ble_eq_true rfl) d_X_returnFromTrap_16 ⟨Nat.zero_le _, Nat.zero_le _⟩ (fun H locs hs => ?_)
    refine hret _ _ _ _ _ _ hs ?_ d_X_returnFromTrap_19
    exact (if_pos h1).trans rfl
def p_X_swap (σ : Mem) (n1 : Int32) (n2 : Int32) (n3 : Int32) : Int32 × Mem :=
  if (p_K_permits σ 8 (128 : Int32)) = (0 : Int32) then
    ((p_X_trapOf (8 : Int32) (3 : Int32)), σ)
  else
    if n3 < (0 : Int32) then
      ((p_X_trapOf (8 : Int32) (8 : Int32)), σ)
    else
      if n3 ≤ (2 : Int32) then
        let σ1 : Mem := p_K_copy σ 12 (((9 : Int32) + (n3 : Int32)).toNatClampNeg);
        if n2 = (0 : Int32) then
          let σ2 : Mem := p_X_writeMade σ1 n1;
          ((0 : Int32), σ2)
        else
          let σ3 : Mem := p_K_copy σ1 (((9 : Int32) + (n3 : Int32)).toNatClampNeg) (n2.toNatClampNeg);
          let σ4 : Mem := p_X_writeMade σ3 n1;
          ((0 : Int32), σ4)
      else
        ((p_X_trapOf (8 : Int32) (8 : Int32)), σ)
set_option maxHeartbeats 4000000 in
set_option maxRecDepth 100000 in
theorem m_X_swap {l : Launch} {D : va_G} {a : Nat → Nat} {cA : Nat → ClassId} {B0 : Nat → Prop} {σ : Mem} {n1 : Int32} {n2 : Int32} {n3 : Int32} (h_n1 : vp_in n1 12) (h_n2 : vp_in n2 12) : cI l y_X_swap (.code y_X_swap c_X_swap 5 (some FieldType.int) :: TG) (rmO 2 42) D (cwL a cA) (cty cA) B0 [.ref (a 0), .int n1, .int n2, .int n3] σ (p_X_swap σ n1 n2 n3) := by
  refine cI_of (by decide) (Nat.le_of_ble_eq_true rfl) ?_
  intro p e s m args below meth c Q ls hx hb hF hl hs hret
  have hl : lv_has ls 5 [(0, .ref (a 0)), (1, .int n1), (2, .int n2), (3, .int n3)] := hl
  refine lv_aload_n hx hb d_X_swap_0 rfl (lv_at hl 0 rfl) ?_
  refine xg_X hx hb hF hs 3 (by decide) k_fl_X_41 rfl d_X_swap_1 ?_
  refine lv_sipush (v := 128) hx hb d_X_swap_4 (by decide) ?_
  refine x_Vip hF hs v_K_permits k_ml_X_101 (m_K_permits lt8_13) rfl rfl ⟨by decide, by decide⟩ rfl rfl hl.1 (Nat.le_of_ble_eq_true rfl) (rK lt8_13) d_X_swap_7 ⟨Nat.zero_le _, Nat.zero_le _⟩ (fun H locs hs => ?_)
  refine lv_if_ne (tgt := 20) hx hb d_X_swap_10 (by decide) (fun h1 => ?_) (fun h1 => ?_)
  · refine lv_iload_n hx hb d_X_swap_20 rfl (lv_at hl 3 rfl) ?_
    refine lv_if_lt (tgt := 29) hx hb d_X_swap_21 (by decide) (fun h2 => ?_) (fun h2 => ?_)
    · refine lv_bipush (v := 8) hx hb d_X_swap_29 (by decide) ?_
      refine lv_bipush (v := 8) hx hb d_X_swap_31 (by decide) ?_
      refine x_Sip hF hs v_X_trapOf k_ml_X_106 (m_X_trapOf) rfl rfl ⟨by decide, by decide⟩ rfl rfl hl.1 (Nat.le_of_ble_eq_true rfl) d_X_swap_33 ⟨Nat.zero_le _, Nat.zero_le _⟩ (fun H locs hs => ?_)
      refine hret _ _ _ _ _ _ hs ?_ d_X_swap_36
      exact (if_neg h1).trans ((if_pos h2).trans rfl)
    · refine lv_iload_n hx hb d_X_swap_24 rfl (lv_at hl 3 rfl) ?_
      refine lv_iconst (v := 2) hx hb d_X_swap_25 (by decide) ?_
      refine lv_icmp_le (tgt := 37) hx hb d_X_swap_26 (by decide) (fun h3 => ?_) (fun h3 => ?_)
      · refine lv_aload_n hx hb d_X_swap_37 rfl (lv_at hl 0 rfl) ?_
        refine xg_X hx hb hF hs 2 (by decide) k_fl_X_19 rfl d_X_swap_38 ?_
        refine lv_bipush (v := 9) hx hb d_X_swap_41 (by decide) ?_
        refine lv_iload_n hx hb d_X_swap_43 rfl (lv_at hl 3 rfl) ?_
        refine lv_iadd hx hb d_X_swap_44 ?_
        refine xr_ld hx hb hF hs (ix_swap h2 h3) d_X_swap_45 ?_
        refine lv_astore (lv' := [(4, _), (0, _), (1, _), (2, _), (3, _)]) hx hb d_X_swap_46 hl (by decide) rfl (fun ls hl => ?_)
        refine lv_aload_n hx hb d_X_swap_48 rfl (lv_at hl 1 rfl) ?_
        refine xg_X hx hb hF hs 4 (by decide) k_fl_X_24 rfl d_X_swap_49 ?_
        refine lv_aload hx hb d_X_swap_52 (lv_at hl 0 rfl) ?_
        refine x_Vv hF hs v_K_copy k_ml_X_93 (m_K_copy lt12_13 (in13 (ix_swap h2 h3))) rfl rfl ⟨by decide, by decide⟩ rfl rfl hl.1 (Nat.le_of_ble_eq_true rfl) (rK lt12_13) d_X_swap_54 ⟨Nat.zero_le _, Nat.zero_le _⟩ (fun H locs hs => ?_)
        refine lv_iload_n hx hb d_X_swap_57 rfl (lv_at hl 3 rfl) ?_
        refine lv_if_eq (tgt := 72) hx hb d_X_swap_58 (by decide) (fun h4 => ?_) (fun h4 => ?_)
        · refine lv_aload_n hx hb d_X_swap_72 rfl (lv_at hl 1 rfl) ?_
          refine lv_iload_n hx hb d_X_swap_73 rfl (lv_at hl 2 rfl) ?_
          refine x_Vv hF hs v_X_writeMade k_ml_X_172 (m_X_writeMade h_n1) rfl rfl ⟨by decide, by decide⟩ rfl rfl hl.1 (Nat.le_of_ble_eq_true rfl) rX d_X_swap_74 ⟨Nat.zero_le _, Nat.zero_le _⟩ (fun H locs hs => ?_)
          refine lv_iconst (v := 0) hx hb d_X_swap_77 (by decide) ?_
          refine hret _ _ _ _ _ _ hs ?_ d_X_swap_78
          exact (if_neg h1).trans ((if_neg h2).trans ((if_pos h3).trans ((if_pos h4).trans rfl)))
        · refine lv_aload hx hb d_X_swap_61 (lv_at hl 0 rfl) ?_
          refine lv_aload_n hx hb d_X_swap_63 rfl (lv_at hl 1 rfl) ?_
          refine xg_X hx hb hF hs 2 (by decide) k_fl_X_19 rfl d_X_swap_64 ?_
          refine lv_iload_n hx hb d_X_swap_67 rfl (lv_at hl 3 rfl) ?_
          refine xr_ld hx hb hF hs h_n2 d_X_swap_68 ?_
          refine x_Vv hF hs v_K_copy k_ml_X_93 (m_K_copy (in13 (ix_swap h2 h3)) (in13 h_n2)) rfl rfl ⟨by decide, by decide⟩ rfl rfl hl.1 (Nat.le_of_ble_eq_true rfl) (rK (in13 (ix_swap h2 h3))) d_X_swap_69 ⟨Nat.zero_le _, Nat.zero_le _⟩ (fun H locs hs => ?_)
          refine lv_aload_n hx hb d_X_swap_72 rfl (lv_at hl 1 rfl) ?_
          refine lv_iload_n hx hb d_X_swap_73 rfl (lv_at hl 2 rfl) ?_
          refine x_Vv hF hs v_X_writeMade k_ml_X_172 (m_X_writeMade h_n1) rfl rfl ⟨by decide, by decide⟩ rfl rfl hl.1 (Nat.le_of_ble_eq_true rfl) rX d_X_swap_74 ⟨Nat.zero_le _, Nat.zero_le _⟩ (fun H locs hs => ?_)
          refine lv_iconst (v := 0) hx hb d_X_swap_77 (by decide) ?_
          refine hret _ _ _ _ _ _ hs ?_ d_X_swap_78
          exact (if_neg h1).trans ((if_neg h2).trans ((if_pos h3).trans ((if_neg h4).trans rfl)))
      · refine lv_bipush (v := 8) hx hb d_X_swap_29 (by decide) ?_
        refine lv_bipush (v := 8) hx hb d_X_swap_31 (by decide) ?_
        refine x_Sip hF hs v_X_trapOf k_ml_X_106 (m_X_trapOf) rfl rfl ⟨by decide, by decide⟩ rfl rfl hl.1 (Nat.le_of_ble_eq_true rfl) d_X_swap_33 ⟨Nat.zero_le _, Nat.zero_le _⟩ (fun H locs hs => ?_)
        refine hret _ _ _ _ _ _ hs ?_ d_X_swap_36
        exact (if_neg h1).trans ((if_neg h2).trans ((if_neg h3).trans rfl))
  · refine lv_bipush (v := 8) hx hb d_X_swap_13 (by decide) ?_
    refine lv_iconst (v := 3) hx hb d_X_swap_15 (by decide) ?_
    refine x_Sip hF hs v_X_trapOf k_ml_X_106 (m_X_trapOf) rfl rfl ⟨by decide, by decide⟩ rfl rfl hl.1 (Nat.le_of_ble_eq_true rfl) d_X_swap_16 ⟨Nat.zero_le _, Nat.zero_le _⟩ (fun H locs hs => ?_)
    refine hret _ _ _ _ _ _ hs ?_ d_X_swap_19
    exact (if_pos h1).trans rfl
def p_X_jump (σ : Mem) (n1 : Int32) (n2 : Int32) : Int32 × Mem :=
  if (bo (σ 2 (n2.toNatClampNeg))) = (0 : Int32) then
    ((p_X_trapOf n2 (1 : Int32)), σ)
  else
    if (p_K_isSealed σ (n2.toNatClampNeg)) = (0 : Int32) then
      if (p_K_permits σ (n2.toNatClampNeg) (1 : Int32)) = (0 : Int32) then
        ((p_X_trapOf n2 (3 : Int32)), σ)
      else
        let σ1 : Mem := p_K_copy σ 12 (n2.toNatClampNeg);
        let σ2 : Mem := p_K_setType σ1 12 (0 : Int32);
        let σ3 : Mem := p_X_writeLink σ2 n1;
        let σ4 : Mem := p_K_copy σ3 8 12;
        ((0 : Int32), σ4)
    else
      if (p_K_type σ (n2.toNatClampNeg)) = (1 : Int32) then
        if (p_K_permits σ (n2.toNatClampNeg) (1 : Int32)) = (0 : Int32) then
          ((p_X_trapOf n2 (3 : Int32)), σ)
        else
          let σ5 : Mem := p_K_copy σ 12 (n2.toNatClampNeg);
          let σ6 : Mem := p_K_setType σ5 12 (0 : Int32);
          let σ7 : Mem := p_X_writeLink σ6 n1;
          let σ8 : Mem := p_K_copy σ7 8 12;
          ((0 : Int32), σ8)
      else
        ((p_X_trapOf n2 (2 : Int32)), σ)
set_option maxHeartbeats 4000000 in
set_option maxRecDepth 100000 in
theorem m_X_jump {l : Launch} {D : va_G} {a : Nat → Nat} {cA : Nat → ClassId} {B0 : Nat → Prop} {σ : Mem} {n1 : Int32} {n2 : Int32} (h_n1 : vp_in n1 12) (h_n2 : vp_in n2 12) : cI l y_X_jump (.code y_X_jump c_X_jump 4 (some FieldType.int) :: TG) (rmO 4 97) D (cwL a cA) (cty cA) B0 [.ref (a 0), .int n1, .int n2] σ (p_X_jump σ n1 n2) := by
  refine cI_of (by decide) (Nat.le_of_ble_eq_true rfl) ?_
  intro p e s m args below meth c Q ls hx hb hF hl hs hret
  have hl : lv_has ls 4 [(0, .ref (a 0)), (1, .int n1), (2, .int n2)] := hl
  refine lv_aload_n hx hb d_X_jump_0 rfl (lv_at hl 0 rfl) ?_
  refine xg_X hx hb hF hs 2 (by decide) k_fl_X_19 rfl d_X_jump_1 ?_
  refine lv_iload_n hx hb d_X_jump_4 rfl (lv_at hl 2 rfl) ?_
  refine xr_ld hx hb hF hs h_n2 d_X_jump_5 ?_
  refine lv_astore_n (lv' := [(3, _), (0, _), (1, _), (2, _)]) hx hb d_X_jump_6 rfl hl (by decide) rfl (fun ls hl => ?_)
  refine lv_aload_n hx hb d_X_jump_7 rfl (lv_at hl 0 rfl) ?_
  refine xg_N2 hx hb hF hs (in13 h_n2) d_X_jump_8 ?_
  refine lv_if_ne (tgt := 20) hx hb d_X_jump_11 (by decide) (fun h1 => ?_) (fun h1 => ?_)
  · refine lv_aload_n hx hb d_X_jump_20 rfl (lv_at hl 0 rfl) ?_
    refine x_Vip hF hs v_K_isSealed k_ml_X_97 (m_K_isSealed (in13 h_n2)) rfl rfl ⟨by decide, by decide⟩ rfl rfl hl.1 (Nat.le_of_ble_eq_true rfl) (rK (in13 h_n2)) d_X_jump_21 ⟨Nat.zero_le _, Nat.zero_le _⟩ (fun H locs hs => ?_)
    refine lv_if_eq (tgt := 41) hx hb d_X_jump_24 (by decide) (fun h2 => ?_) (fun h2 => ?_)
    · refine lv_aload_n hx hb d_X_jump_41 rfl (lv_at hl 0 rfl) ?_
      refine lv_iconst (v := 1) hx hb d_X_jump_42 (by decide) ?_
      refine x_Vip hF hs v_K_permits k_ml_X_101 (m_K_permits (in13 h_n2)) rfl rfl ⟨by decide, by decide⟩ rfl rfl hl.1 (Nat.le_of_ble_eq_true rfl) (rK (in13 h_n2)) d_X_jump_43 ⟨Nat.zero_le _, Nat.zero_le _⟩ (fun H locs hs => ?_)
      refine lv_if_ne (tgt := 55) hx hb d_X_jump_46 (by decide) (fun h3 => ?_) (fun h3 => ?_)
      · refine lv_aload_n hx hb d_X_jump_55 rfl (lv_at hl 1 rfl) ?_
        refine xg_X hx hb hF hs 4 (by decide) k_fl_X_24 rfl d_X_jump_56 ?_
        refine lv_aload_n hx hb d_X_jump_59 rfl (lv_at hl 0 rfl) ?_
        refine x_Vv hF hs v_K_copy k_ml_X_93 (m_K_copy lt12_13 (in13 h_n2)) rfl rfl ⟨by decide, by decide⟩ rfl rfl hl.1 (Nat.le_of_ble_eq_true rfl) (rK lt12_13) d_X_jump_60 ⟨Nat.zero_le _, Nat.zero_le _⟩ (fun H locs hs => ?_)
        refine lv_aload_n hx hb d_X_jump_63 rfl (lv_at hl 1 rfl) ?_
        refine xg_X hx hb hF hs 4 (by decide) k_fl_X_24 rfl d_X_jump_64 ?_
        refine lv_iconst (v := 0) hx hb d_X_jump_67 (by decide) ?_
        refine x_Vv hF hs v_K_setType k_ml_X_185 (m_K_setType lt12_13) rfl rfl ⟨by decide, by decide⟩ rfl rfl hl.1 (Nat.le_of_ble_eq_true rfl) (rK lt12_13) d_X_jump_68 ⟨Nat.zero_le _, Nat.zero_le _⟩ (fun H locs hs => ?_)
        refine lv_aload_n hx hb d_X_jump_71 rfl (lv_at hl 1 rfl) ?_
        refine lv_iload_n hx hb d_X_jump_72 rfl (lv_at hl 2 rfl) ?_
        refine x_Vv hF hs v_X_writeLink k_ml_X_128 (m_X_writeLink h_n1) rfl rfl ⟨by decide, by decide⟩ rfl rfl hl.1 (Nat.le_of_ble_eq_true rfl) rX d_X_jump_73 ⟨Nat.zero_le _, Nat.zero_le _⟩ (fun H locs hs => ?_)
        refine lv_aload_n hx hb d_X_jump_76 rfl (lv_at hl 1 rfl) ?_
        refine xg_X hx hb hF hs 3 (by decide) k_fl_X_41 rfl d_X_jump_77 ?_
        refine lv_aload_n hx hb d_X_jump_80 rfl (lv_at hl 1 rfl) ?_
        refine xg_X hx hb hF hs 4 (by decide) k_fl_X_24 rfl d_X_jump_81 ?_
        refine x_Vv hF hs v_K_copy k_ml_X_93 (m_K_copy lt8_13 lt12_13) rfl rfl ⟨by decide, by decide⟩ rfl rfl hl.1 (Nat.le_of_ble_eq_true rfl) (rK lt8_13) d_X_jump_84 ⟨Nat.zero_le _, Nat.zero_le _⟩ (fun H locs hs => ?_)
        refine lv_iconst (v := 0) hx hb d_X_jump_87 (by decide) ?_
        refine hret _ _ _ _ _ _ hs ?_ d_X_jump_88
        exact (if_neg h1).trans ((if_pos h2).trans ((if_neg h3).trans rfl))
      · refine lv_iload_n hx hb d_X_jump_49 rfl (lv_at hl 3 rfl) ?_
        refine lv_iconst (v := 3) hx hb d_X_jump_50 (by decide) ?_
        refine x_Sip hF hs v_X_trapOf k_ml_X_106 (m_X_trapOf) rfl rfl ⟨by decide, by decide⟩ rfl rfl hl.1 (Nat.le_of_ble_eq_true rfl) d_X_jump_51 ⟨Nat.zero_le _, Nat.zero_le _⟩ (fun H locs hs => ?_)
        refine hret _ _ _ _ _ _ hs ?_ d_X_jump_54
        exact (if_neg h1).trans ((if_pos h2).trans ((if_pos h3).trans rfl))
    · refine lv_aload_n hx hb d_X_jump_27 rfl (lv_at hl 0 rfl) ?_
      refine x_Vip hF hs v_K_type k_ml_X_182 (m_K_type (in13 h_n2)) rfl rfl ⟨by decide, by decide⟩ rfl rfl hl.1 (Nat.le_of_ble_eq_true rfl) (rK (in13 h_n2)) d_X_jump_28 ⟨Nat.zero_le _, Nat.zero_le _⟩ (fun H locs hs => ?_)
      refine lv_iconst (v := 1) hx hb d_X_jump_31 (by decide) ?_
      refine lv_icmp_eq (tgt := 41) hx hb d_X_jump_32 (by decide) (fun h3 => ?_) (fun h3 => ?_)
      · refine lv_aload_n hx hb d_X_jump_41 rfl (lv_at hl 0 rfl) ?_
        refine lv_iconst (v := 1) hx hb d_X_jump_42 (by decide) ?_
        refine x_Vip hF hs v_K_permits k_ml_X_101 (m_K_permits (in13 h_n2)) rfl rfl ⟨by decide, by decide⟩ rfl rfl hl.1 (Nat.le_of_ble_eq_true rfl) (rK (in13 h_n2)) d_X_jump_43 ⟨Nat.zero_le _, Nat.zero_le _⟩ (fun H locs hs => ?_)
        refine lv_if_ne (tgt := 55) hx hb d_X_jump_46 (by decide) (fun h4 => ?_) (fun h4 => ?_)
        · refine lv_aload_n hx hb d_X_jump_55 rfl (lv_at hl 1 rfl) ?_
          refine xg_X hx hb hF hs 4 (by decide) k_fl_X_24 rfl d_X_jump_56 ?_
          refine lv_aload_n hx hb d_X_jump_59 rfl (lv_at hl 0 rfl) ?_
          refine x_Vv hF hs v_K_copy k_ml_X_93 (m_K_copy lt12_13 (in13 h_n2)) rfl rfl ⟨by decide, by decide⟩ rfl rfl hl.1 (Nat.le_of_ble_eq_true rfl) (rK lt12_13) d_X_jump_60 ⟨Nat.zero_le _, Nat.zero_le _⟩ (fun H locs hs => ?_)
          refine lv_aload_n hx hb d_X_jump_63 rfl (lv_at hl 1 rfl) ?_
          refine xg_X hx hb hF hs 4 (by decide) k_fl_X_24 rfl d_X_jump_64 ?_
          refine lv_iconst (v := 0) hx hb d_X_jump_67 (by decide) ?_
          refine x_Vv hF hs v_K_setType k_ml_X_185 (m_K_setType lt12_13) rfl rfl ⟨by decide, by decide⟩ rfl rfl hl.1 (Nat.le_of_ble_eq_true rfl) (rK lt12_13) d_X_jump_68 ⟨Nat.zero_le _, Nat.zero_le _⟩ (fun H locs hs => ?_)
          refine lv_aload_n hx hb d_X_jump_71 rfl (lv_at hl 1 rfl) ?_
          refine lv_iload_n hx hb d_X_jump_72 rfl (lv_at hl 2 rfl) ?_
          refine x_Vv hF hs v_X_writeLink k_ml_X_128 (m_X_writeLink h_n1) rfl rfl ⟨by decide, by decide⟩ rfl rfl hl.1 (Nat.le_of_ble_eq_true rfl) rX d_X_jump_73 ⟨Nat.zero_le _, Nat.zero_le _⟩ (fun H locs hs => ?_)
          refine lv_aload_n hx hb d_X_jump_76 rfl (lv_at hl 1 rfl) ?_
          refine xg_X hx hb hF hs 3 (by decide) k_fl_X_41 rfl d_X_jump_77 ?_
          refine lv_aload_n hx hb d_X_jump_80 rfl (lv_at hl 1 rfl) ?_
          refine xg_X hx hb hF hs 4 (by decide) k_fl_X_24 rfl d_X_jump_81 ?_
          refine x_Vv hF hs v_K_copy k_ml_X_93 (m_K_copy lt8_13 lt12_13) rfl rfl ⟨by decide, by decide⟩ rfl rfl hl.1 (Nat.le_of_ble_eq_true rfl) (rK lt8_13) d_X_jump_84 ⟨Nat.zero_le _, Nat.zero_le _⟩ (fun H locs hs => ?_)
          refine lv_iconst (v := 0) hx hb d_X_jump_87 (by decide) ?_
          refine hret _ _ _ _ _ _ hs ?_ d_X_jump_88
          exact (if_neg h1).trans ((if_neg h2).trans ((if_pos h3).trans ((if_neg h4).trans rfl)))
        · refine lv_iload_n hx hb d_X_jump_49 rfl (lv_at hl 3 rfl) ?_
          refine lv_iconst (v := 3) hx hb d_X_jump_50 (by decide) ?_
          refine x_Sip hF hs v_X_trapOf k_ml_X_106 (m_X_trapOf) rfl rfl ⟨by decide, by decide⟩ rfl rfl hl.1 (Nat.le_of_ble_eq_true rfl) d_X_jump_51 ⟨Nat.zero_le _, Nat.zero_le _⟩ (fun H locs hs => ?_)
          refine hret _ _ _ _ _ _ hs ?_ d_X_jump_54
          exact (if_neg h1).trans ((if_neg h2).trans ((if_pos h3).trans ((if_pos h4).trans rfl)))
      · refine lv_iload_n hx hb d_X_jump_35 rfl (lv_at hl 3 rfl) ?_
        refine lv_iconst (v := 2) hx hb d_X_jump_36 (by decide) ?_
        refine x_Sip hF hs v_X_trapOf k_ml_X_106 (m_X_trapOf) rfl rfl ⟨by decide, by decide⟩ rfl rfl hl.1 (Nat.le_of_ble_eq_true rfl) d_X_jump_37 ⟨Nat.zero_le _, Nat.zero_le _⟩ (fun H locs hs => ?_)
        refine hret _ _ _ _ _ _ hs ?_ d_X_jump_40
        exact (if_neg h1).trans ((if_neg h2).trans ((if_neg h3).trans rfl))
  · refine lv_iload_n hx hb d_X_jump_14 rfl (lv_at hl 3 rfl) ?_
    refine lv_iconst (v := 1) hx hb d_X_jump_15 (by decide) ?_
    refine x_Sip hF hs v_X_trapOf k_ml_X_106 (m_X_trapOf) rfl rfl ⟨by decide, by decide⟩ rfl rfl hl.1 (Nat.le_of_ble_eq_true rfl) d_X_jump_16 ⟨Nat.zero_le _, Nat.zero_le _⟩ (fun H locs hs => ?_)
    refine hret _ _ _ _ _ _ hs ?_ d_X_jump_19
    exact (if_pos h1).trans rfl
def p_X_seal (σ : Mem) (n1 : Int32) (n2 : Int32) (n3 : Int32) : Int32 × Mem :=
  if (bo (σ 2 (n2.toNatClampNeg))) = (0 : Int32) then
    ((p_X_trapOf n2 (1 : Int32)), σ)
  else
    if (p_K_isSealed σ (n2.toNatClampNeg)) = (0 : Int32) then
      if (p_X_check σ n3 (32 : Int32) (1 : Int32) (σ 4 (n3.toNatClampNeg))) = (0 : Int32) then
        if (σ 4 (n3.toNatClampNeg)) < (2 : Int32) then
          ((p_X_trapOf n3 (7 : Int32)), σ)
        else
          if (σ 4 (n3.toNatClampNeg)) ≤ (15 : Int32) then
            let σ1 : Mem := p_X_writeWithType σ n1 (n2.toNatClampNeg) (σ 4 (n3.toNatClampNeg));
            ((0 : Int32), σ1)
          else
            ((p_X_trapOf n3 (7 : Int32)), σ)
      else
        ((p_X_check σ n3 (32 : Int32) (1 : Int32) (σ 4 (n3.toNatClampNeg))), σ)
    else
      ((p_X_trapOf n2 (2 : Int32)), σ)
set_option maxHeartbeats 4000000 in
set_option maxRecDepth 100000 in
theorem m_X_seal {l : Launch} {D : va_G} {a : Nat → Nat} {cA : Nat → ClassId} {B0 : Nat → Prop} {σ : Mem} {n1 : Int32} {n2 : Int32} {n3 : Int32} (h_n1 : vp_in n1 12) (h_n2 : vp_in n2 12) (h_n3 : vp_in n3 12) : cI l y_X_seal (.code y_X_seal c_X_seal 7 (some FieldType.int) :: TG) (rmO 3 78) D (cwL a cA) (cty cA) B0 [.ref (a 0), .int n1, .int n2, .int n3] σ (p_X_seal σ n1 n2 n3) := by
  refine cI_of (by decide) (Nat.le_of_ble_eq_true rfl) ?_
  intro p e s m args below meth c Q ls hx hb hF hl hs hret
  have hl : lv_has ls 7 [(0, .ref (a 0)), (1, .int n1), (2, .int n2), (3, .int n3)] := hl
  refine lv_aload_n hx hb d_X_seal_0 rfl (lv_at hl 0 rfl) ?_
  refine xg_X hx hb hF hs 2 (by decide) k_fl_X_19 rfl d_X_seal_1 ?_
  refine lv_iload_n hx hb d_X_seal_4 rfl (lv_at hl 2 rfl) ?_
  refine xr_ld hx hb hF hs h_n2 d_X_seal_5 ?_
  refine lv_astore (lv' := [(4, _), (0, _), (1, _), (2, _), (3, _)]) hx hb d_X_seal_6 hl (by decide) rfl (fun ls hl => ?_)
  refine lv_aload hx hb d_X_seal_8 (lv_at hl 0 rfl) ?_
  refine xg_N2 hx hb hF hs (in13 h_n2) d_X_seal_10 ?_
  refine lv_if_ne (tgt := 22) hx hb d_X_seal_13 (by decide) (fun h1 => ?_) (fun h1 => ?_)
  · refine lv_aload hx hb d_X_seal_22 (lv_at hl 0 rfl) ?_
    refine x_Vip hF hs v_K_isSealed k_ml_X_97 (m_K_isSealed (in13 h_n2)) rfl rfl ⟨by decide, by decide⟩ rfl rfl hl.1 (Nat.le_of_ble_eq_true rfl) (rK (in13 h_n2)) d_X_seal_24 ⟨Nat.zero_le _, Nat.zero_le _⟩ (fun H locs hs => ?_)
    refine lv_if_eq (tgt := 36) hx hb d_X_seal_27 (by decide) (fun h2 => ?_) (fun h2 => ?_)
    · refine lv_aload_n hx hb d_X_seal_36 rfl (lv_at hl 1 rfl) ?_
      refine xg_X hx hb hF hs 2 (by decide) k_fl_X_19 rfl d_X_seal_37 ?_
      refine lv_iload_n hx hb d_X_seal_40 rfl (lv_at hl 4 rfl) ?_
      refine xr_ld hx hb hF hs h_n3 d_X_seal_41 ?_
      refine xg_N4 hx hb hF hs (in13 h_n3) d_X_seal_42 ?_
      refine lv_istore (lv' := [(5, _), (4, _), (0, _), (1, _), (2, _), (3, _)]) hx hb d_X_seal_45 hl (by decide) rfl (fun ls hl => ?_)
      refine lv_aload_n hx hb d_X_seal_47 rfl (lv_at hl 2 rfl) ?_
      refine lv_iload_n hx hb d_X_seal_48 rfl (lv_at hl 5 rfl) ?_
      refine lv_bipush (v := 32) hx hb d_X_seal_49 (by decide) ?_
      refine lv_iconst (v := 1) hx hb d_X_seal_51 (by decide) ?_
      refine lv_iload hx hb d_X_seal_52 (lv_at hl 0 rfl) ?_
      refine x_Vip hF hs v_X_check k_ml_X_82 (m_X_check h_n3) rfl rfl ⟨by decide, by decide⟩ rfl rfl hl.1 (Nat.le_of_ble_eq_true rfl) rX d_X_seal_54 ⟨Nat.zero_le _, Nat.zero_le _⟩ (fun H locs hs => ?_)
      refine lv_istore (lv' := [(6, _), (5, _), (4, _), (0, _), (1, _), (2, _), (3, _)]) hx hb d_X_seal_57 hl (by decide) rfl (fun ls hl => ?_)
      refine lv_iload hx hb d_X_seal_59 (lv_at hl 0 rfl) ?_
      refine lv_if_eq (tgt := 67) hx hb d_X_seal_61 (by decide) (fun h3 => ?_) (fun h3 => ?_)
      · refine lv_iload hx hb d_X_seal_67 (lv_at hl 1 rfl) ?_
        refine lv_iconst (v := 2) hx hb d_X_seal_69 (by decide) ?_
        refine lv_icmp_lt (tgt := 80) hx hb d_X_seal_70 (by decide) (fun h4 => ?_) (fun h4 => ?_)
        · refine lv_iload_n hx hb d_X_seal_80 rfl (lv_at hl 6 rfl) ?_
          refine lv_bipush (v := 7) hx hb d_X_seal_81 (by decide) ?_
          refine x_Sip hF hs v_X_trapOf k_ml_X_106 (m_X_trapOf) rfl rfl ⟨by decide, by decide⟩ rfl rfl hl.1 (Nat.le_of_ble_eq_true rfl) d_X_seal_83 ⟨Nat.zero_le _, Nat.zero_le _⟩ (fun H locs hs => ?_)
          refine hret _ _ _ _ _ _ hs ?_ d_X_seal_86
          exact (if_neg h1).trans ((if_pos h2).trans ((if_pos h3).trans ((if_pos h4).trans rfl)))
        · refine lv_iload hx hb d_X_seal_73 (lv_at hl 1 rfl) ?_
          refine lv_bipush (v := 15) hx hb d_X_seal_75 (by decide) ?_
          refine lv_icmp_le (tgt := 87) hx hb d_X_seal_77 (by decide) (fun h5 => ?_) (fun h5 => ?_)
          · refine lv_aload_n hx hb d_X_seal_87 rfl (lv_at hl 3 rfl) ?_
            refine lv_iload_n hx hb d_X_seal_88 rfl (lv_at hl 4 rfl) ?_
            refine lv_aload hx hb d_X_seal_89 (lv_at hl 2 rfl) ?_
            refine lv_iload hx hb d_X_seal_91 (lv_at hl 1 rfl) ?_
            refine x_Vv hF hs v_X_writeWithType k_ml_X_188 (m_X_writeWithType (in13 h_n2) h_n1) rfl rfl ⟨by decide, by decide⟩ rfl rfl hl.1 (Nat.le_of_ble_eq_true rfl) rX d_X_seal_93 ⟨Nat.zero_le _, Nat.zero_le _⟩ (fun H locs hs => ?_)
            refine lv_iconst (v := 0) hx hb d_X_seal_96 (by decide) ?_
            refine hret _ _ _ _ _ _ hs ?_ d_X_seal_97
            exact (if_neg h1).trans ((if_pos h2).trans ((if_pos h3).trans ((if_neg h4).trans ((if_pos h5).trans rfl))))
          · refine lv_iload_n hx hb d_X_seal_80 rfl (lv_at hl 6 rfl) ?_
            refine lv_bipush (v := 7) hx hb d_X_seal_81 (by decide) ?_
            refine x_Sip hF hs v_X_trapOf k_ml_X_106 (m_X_trapOf) rfl rfl ⟨by decide, by decide⟩ rfl rfl hl.1 (Nat.le_of_ble_eq_true rfl) d_X_seal_83 ⟨Nat.zero_le _, Nat.zero_le _⟩ (fun H locs hs => ?_)
            refine hret _ _ _ _ _ _ hs ?_ d_X_seal_86
            exact (if_neg h1).trans ((if_pos h2).trans ((if_pos h3).trans ((if_neg h4).trans ((if_neg h5).trans rfl))))
      · refine lv_iload hx hb d_X_seal_64 (lv_at hl 0 rfl) ?_
        refine hret _ _ _ _ _ _ hs ?_ d_X_seal_66
        exact (if_neg h1).trans ((if_pos h2).trans ((if_neg h3).trans rfl))
    · refine lv_iload_n hx hb d_X_seal_30 rfl (lv_at hl 3 rfl) ?_
      refine lv_iconst (v := 2) hx hb d_X_seal_31 (by decide) ?_
      refine x_Sip hF hs v_X_trapOf k_ml_X_106 (m_X_trapOf) rfl rfl ⟨by decide, by decide⟩ rfl rfl hl.1 (Nat.le_of_ble_eq_true rfl) d_X_seal_32 ⟨Nat.zero_le _, Nat.zero_le _⟩ (fun H locs hs => ?_)
      refine hret _ _ _ _ _ _ hs ?_ d_X_seal_35
      exact (if_neg h1).trans ((if_neg h2).trans rfl)
  · refine lv_iload_n hx hb d_X_seal_16 rfl (lv_at hl 3 rfl) ?_
    refine lv_iconst (v := 1) hx hb d_X_seal_17 (by decide) ?_
    refine x_Sip hF hs v_X_trapOf k_ml_X_106 (m_X_trapOf) rfl rfl ⟨by decide, by decide⟩ rfl rfl hl.1 (Nat.le_of_ble_eq_true rfl) d_X_seal_18 ⟨Nat.zero_le _, Nat.zero_le _⟩ (fun H locs hs => ?_)
    refine hret _ _ _ _ _ _ hs ?_ d_X_seal_21
    exact (if_pos h1).trans rfl
def p_X_unseal (σ : Mem) (n1 : Int32) (n2 : Int32) (n3 : Int32) : Int32 × Mem :=
  if (bo (σ 2 (n2.toNatClampNeg))) = (0 : Int32) then
    ((p_X_trapOf n2 (1 : Int32)), σ)
  else
    if (p_K_isSealed σ (n2.toNatClampNeg)) = (0 : Int32) then
      ((p_X_trapOf n2 (2 : Int32)), σ)
    else
      if (p_K_type σ (n2.toNatClampNeg)) = (1 : Int32) then
        ((p_X_trapOf n2 (2 : Int32)), σ)
      else
        if (p_X_check σ n3 (64 : Int32) (1 : Int32) (σ 4 (n3.toNatClampNeg))) = (0 : Int32) then
          if (σ 4 (n3.toNatClampNeg)) = (p_K_type σ (n2.toNatClampNeg)) then
            let σ1 : Mem := p_X_writeWithType σ n1 (n2.toNatClampNeg) (0 : Int32);
            ((0 : Int32), σ1)
          else
            ((p_X_trapOf n3 (7 : Int32)), σ)
        else
          ((p_X_check σ n3 (64 : Int32) (1 : Int32) (σ 4 (n3.toNatClampNeg))), σ)
set_option maxHeartbeats 4000000 in
set_option maxRecDepth 100000 in
theorem m_X_unseal {l : Launch} {D : va_G} {a : Nat → Nat} {cA : Nat → ClassId} {B0 : Nat → Prop} {σ : Mem} {n1 : Int32} {n2 : Int32} {n3 : Int32} (h_n1 : vp_in n1 12) (h_n2 : vp_in n2 12) (h_n3 : vp_in n3 12) : cI l y_X_unseal (.code y_X_unseal c_X_unseal 7 (some FieldType.int) :: TG) (rmO 3 78) D (cwL a cA) (cty cA) B0 [.ref (a 0), .int n1, .int n2, .int n3] σ (p_X_unseal σ n1 n2 n3) := by
  refine cI_of (by decide) (Nat.le_of_ble_eq_true rfl) ?_
  intro p e s m args below meth c Q ls hx hb hF hl hs hret
  have hl : lv_has ls 7 [(0, .ref (a 0)), (1, .int n1), (2, .int n2), (3, .int n3)] := hl
  refine lv_aload_n hx hb d_X_unseal_0 rfl (lv_at hl 0 rfl) ?_
  refine xg_X hx hb hF hs 2 (by decide) k_fl_X_19 rfl d_X_unseal_1 ?_
  refine lv_iload_n hx hb d_X_unseal_4 rfl (lv_at hl 2 rfl) ?_
  refine xr_ld hx hb hF hs h_n2 d_X_unseal_5 ?_
  refine lv_astore (lv' := [(4, _), (0, _), (1, _), (2, _), (3, _)]) hx hb d_X_unseal_6 hl (by decide) rfl (fun ls hl => ?_)
  refine lv_aload hx hb d_X_unseal_8 (lv_at hl 0 rfl) ?_
  refine xg_N2 hx hb hF hs (in13 h_n2) d_X_unseal_10 ?_
  refine lv_if_ne (tgt := 22) hx hb d_X_unseal_13 (by decide) (fun h1 => ?_) (fun h1 => ?_)
  · refine lv_aload hx hb d_X_unseal_22 (lv_at hl 0 rfl) ?_
    refine x_Vip hF hs v_K_isSealed k_ml_X_97 (m_K_isSealed (in13 h_n2)) rfl rfl ⟨by decide, by decide⟩ rfl rfl hl.1 (Nat.le_of_ble_eq_true rfl) (rK (in13 h_n2)) d_X_unseal_24 ⟨Nat.zero_le _, Nat.zero_le _⟩ (fun H locs hs => ?_)
    refine lv_if_eq (tgt := 39) hx hb d_X_unseal_27 (by decide) (fun h2 => ?_) (fun h2 => ?_)
    · refine lv_iload_n hx hb d_X_unseal_39 rfl (lv_at hl 3 rfl) ?_
      refine lv_iconst (v := 2) hx hb d_X_unseal_40 (by decide) ?_
      refine x_Sip hF hs v_X_trapOf k_ml_X_106 (m_X_trapOf) rfl rfl ⟨by decide, by decide⟩ rfl rfl hl.1 (Nat.le_of_ble_eq_true rfl) d_X_unseal_41 ⟨Nat.zero_le _, Nat.zero_le _⟩ (fun H locs hs => ?_)
      refine hret _ _ _ _ _ _ hs ?_ d_X_unseal_44
      exact (if_neg h1).trans ((if_pos h2).trans rfl)
    · refine lv_aload hx hb d_X_unseal_30 (lv_at hl 0 rfl) ?_
      refine x_Vip hF hs v_K_type k_ml_X_182 (m_K_type (in13 h_n2)) rfl rfl ⟨by decide, by decide⟩ rfl rfl hl.1 (Nat.le_of_ble_eq_true rfl) (rK (in13 h_n2)) d_X_unseal_32 ⟨Nat.zero_le _, Nat.zero_le _⟩ (fun H locs hs => ?_)
      refine lv_iconst (v := 1) hx hb d_X_unseal_35 (by decide) ?_
      refine lv_icmp_ne (tgt := 45) hx hb d_X_unseal_36 (by decide) (fun h3 => ?_) (fun h3 => ?_)
      · refine lv_aload_n hx hb d_X_unseal_45 rfl (lv_at hl 1 rfl) ?_
        refine xg_X hx hb hF hs 2 (by decide) k_fl_X_19 rfl d_X_unseal_46 ?_
        refine lv_iload_n hx hb d_X_unseal_49 rfl (lv_at hl 4 rfl) ?_
        refine xr_ld hx hb hF hs h_n3 d_X_unseal_50 ?_
        refine xg_N4 hx hb hF hs (in13 h_n3) d_X_unseal_51 ?_
        refine lv_istore (lv' := [(5, _), (4, _), (0, _), (1, _), (2, _), (3, _)]) hx hb d_X_unseal_54 hl (by decide) rfl (fun ls hl => ?_)
        refine lv_aload_n hx hb d_X_unseal_56 rfl (lv_at hl 2 rfl) ?_
        refine lv_iload_n hx hb d_X_unseal_57 rfl (lv_at hl 5 rfl) ?_
        refine lv_bipush (v := 64) hx hb d_X_unseal_58 (by decide) ?_
        refine lv_iconst (v := 1) hx hb d_X_unseal_60 (by decide) ?_
        refine lv_iload hx hb d_X_unseal_61 (lv_at hl 0 rfl) ?_
        refine x_Vip hF hs v_X_check k_ml_X_82 (m_X_check h_n3) rfl rfl ⟨by decide, by decide⟩ rfl rfl hl.1 (Nat.le_of_ble_eq_true rfl) rX d_X_unseal_63 ⟨Nat.zero_le _, Nat.zero_le _⟩ (fun H locs hs => ?_)
        refine lv_istore (lv' := [(6, _), (5, _), (4, _), (0, _), (1, _), (2, _), (3, _)]) hx hb d_X_unseal_66 hl (by decide) rfl (fun ls hl => ?_)
        refine lv_iload hx hb d_X_unseal_68 (lv_at hl 0 rfl) ?_
        refine lv_if_eq (tgt := 76) hx hb d_X_unseal_70 (by decide) (fun h4 => ?_) (fun h4 => ?_)
        · refine lv_iload hx hb d_X_unseal_76 (lv_at hl 1 rfl) ?_
          refine lv_aload hx hb d_X_unseal_78 (lv_at hl 2 rfl) ?_
          refine x_Vip hF hs v_K_type k_ml_X_182 (m_K_type (in13 h_n2)) rfl rfl ⟨by decide, by decide⟩ rfl rfl hl.1 (Nat.le_of_ble_eq_true rfl) (rK (in13 h_n2)) d_X_unseal_80 ⟨Nat.zero_le _, Nat.zero_le _⟩ (fun H locs hs => ?_)
          refine lv_icmp_eq (tgt := 93) hx hb d_X_unseal_83 (by decide) (fun h5 => ?_) (fun h5 => ?_)
          · refine lv_aload_n hx hb d_X_unseal_93 rfl (lv_at hl 3 rfl) ?_
            refine lv_iload_n hx hb d_X_unseal_94 rfl (lv_at hl 4 rfl) ?_
            refine lv_aload hx hb d_X_unseal_95 (lv_at hl 2 rfl) ?_
            refine lv_iconst (v := 0) hx hb d_X_unseal_97 (by decide) ?_
            refine x_Vv hF hs v_X_writeWithType k_ml_X_188 (m_X_writeWithType (in13 h_n2) h_n1) rfl rfl ⟨by decide, by decide⟩ rfl rfl hl.1 (Nat.le_of_ble_eq_true rfl) rX d_X_unseal_98 ⟨Nat.zero_le _, Nat.zero_le _⟩ (fun H locs hs => ?_)
            refine lv_iconst (v := 0) hx hb d_X_unseal_101 (by decide) ?_
            refine hret _ _ _ _ _ _ hs ?_ d_X_unseal_102
            exact (if_neg h1).trans ((if_neg h2).trans ((if_neg h3).trans ((if_pos h4).trans ((if_pos h5).trans rfl))))
          · refine lv_iload_n hx hb d_X_unseal_86 rfl (lv_at hl 6 rfl) ?_
            refine lv_bipush (v := 7) hx hb d_X_unseal_87 (by decide) ?_
            refine x_Sip hF hs v_X_trapOf k_ml_X_106 (m_X_trapOf) rfl rfl ⟨by decide, by decide⟩ rfl rfl hl.1 (Nat.le_of_ble_eq_true rfl) d_X_unseal_89 ⟨Nat.zero_le _, Nat.zero_le _⟩ (fun H locs hs => ?_)
            refine hret _ _ _ _ _ _ hs ?_ d_X_unseal_92
            exact (if_neg h1).trans ((if_neg h2).trans ((if_neg h3).trans ((if_pos h4).trans ((if_neg h5).trans rfl))))
        · refine lv_iload hx hb d_X_unseal_73 (lv_at hl 0 rfl) ?_
          refine hret _ _ _ _ _ _ hs ?_ d_X_unseal_75
          exact (if_neg h1).trans ((if_neg h2).trans ((if_neg h3).trans ((if_neg h4).trans rfl)))
      · refine lv_iload_n hx hb d_X_unseal_39 rfl (lv_at hl 3 rfl) ?_
        refine lv_iconst (v := 2) hx hb d_X_unseal_40 (by decide) ?_
        refine x_Sip hF hs v_X_trapOf k_ml_X_106 (m_X_trapOf) rfl rfl ⟨by decide, by decide⟩ rfl rfl hl.1 (Nat.le_of_ble_eq_true rfl) d_X_unseal_41 ⟨Nat.zero_le _, Nat.zero_le _⟩ (fun H locs hs => ?_)
        refine hret _ _ _ _ _ _ hs ?_ d_X_unseal_44
        exact (if_neg h1).trans ((if_neg h2).trans ((if_pos h3).trans rfl))
  · refine lv_iload_n hx hb d_X_unseal_16 rfl (lv_at hl 3 rfl) ?_
    refine lv_iconst (v := 1) hx hb d_X_unseal_17 (by decide) ?_
    refine x_Sip hF hs v_X_trapOf k_ml_X_106 (m_X_trapOf) rfl rfl ⟨by decide, by decide⟩ rfl rfl hl.1 (Nat.le_of_ble_eq_true rfl) d_X_unseal_18 ⟨Nat.zero_le _, Nat.zero_le _⟩ (fun H locs hs => ?_)
    refine hret _ _ _ _ _ _ hs ?_ d_X_unseal_21
    exact (if_pos h1).trans rfl
def p_X_enterTrap (σ : Mem) (n1 : Int32) : Mem :=
  let σ1 : Mem := wr σ 5 3 ((σ 5 3) + (1 : Int32));
  let σ2 : Mem := wr σ1 5 1 n1;
  let σ3 : Mem := p_K_copy σ2 (((10 : Int32) : Int32).toNatClampNeg) 8;
  if (bo (σ3 2 (((9 : Int32) : Int32).toNatClampNeg))) = (0 : Int32) then
    let σ4 : Mem := wr σ3 5 0 (2 : Int32);
    σ4
  else
    if (p_K_isSealed σ3 (((9 : Int32) : Int32).toNatClampNeg)) = (0 : Int32) then
      if (p_K_permits σ3 (((9 : Int32) : Int32).toNatClampNeg) (1 : Int32)) = (0 : Int32) then
        let σ6 : Mem := wr σ3 5 0 (2 : Int32);
        σ6
      else
        let σ7 : Mem := p_K_copy σ3 8 (((9 : Int32) : Int32).toNatClampNeg);
        σ7
    else
      let σ5 : Mem := wr σ3 5 0 (2 : Int32);
      σ5
set_option maxHeartbeats 4000000 in
set_option maxRecDepth 100000 in
theorem m_X_enterTrap {l : Launch} {D : va_G} {a : Nat → Nat} {cA : Nat → ClassId} {B0 : Nat → Prop} {σ : Mem} {n1 : Int32} : cV l y_X_enterTrap (.code y_X_enterTrap c_X_enterTrap 3 (none) :: TG) (rmO 2 41) D (cwL a cA) (cty cA) B0 [.ref (a 0), .int n1] σ (p_X_enterTrap σ n1) := by
  refine cV_of (by decide) (Nat.le_of_ble_eq_true rfl) ?_
  intro p e s m args below meth c Q ls hx hb hF hl hs hret
  have hl : lv_has ls 3 [(0, .ref (a 0)), (1, .int n1)] := hl
  refine lv_aload_n hx hb d_X_enterTrap_0 rfl (lv_at hl 0 rfl) ?_
  refine lv_dup hx hb d_X_enterTrap_1 rfl ?_
  refine xg_X hx hb hF hs 8 (by decide) k_fl_X_38 rfl d_X_enterTrap_2 ?_
  refine lv_iconst (v := 1) hx hb d_X_enterTrap_5 (by decide) ?_
  refine lv_iadd hx hb d_X_enterTrap_6 ?_
  refine xp_X hx hb hF hs 3 (by decide) k_fl_X_38 d_X_enterTrap_7 (fun H locs hs => ?_)
  refine lv_aload_n hx hb d_X_enterTrap_10 rfl (lv_at hl 0 rfl) ?_
  refine lv_iload_n hx hb d_X_enterTrap_11 rfl (lv_at hl 1 rfl) ?_
  refine xp_X hx hb hF hs 1 (by decide) k_fl_X_32 d_X_enterTrap_12 (fun H locs hs => ?_)
  refine lv_aload_n hx hb d_X_enterTrap_15 rfl (lv_at hl 0 rfl) ?_
  refine xg_X hx hb hF hs 2 (by decide) k_fl_X_19 rfl d_X_enterTrap_16 ?_
  refine lv_bipush (v := 10) hx hb d_X_enterTrap_19 (by decide) ?_
  refine xr_ld hx hb hF hs ic_10_12 d_X_enterTrap_21 ?_
  refine lv_aload_n hx hb d_X_enterTrap_22 rfl (lv_at hl 0 rfl) ?_
  refine xg_X hx hb hF hs 3 (by decide) k_fl_X_41 rfl d_X_enterTrap_23 ?_
  refine x_Vv hF hs v_K_copy k_ml_X_93 (m_K_copy (in13 ic_10_12) lt8_13) rfl rfl ⟨by decide, by decide⟩ rfl rfl hl.1 (Nat.le_of_ble_eq_true rfl) (rK (in13 ic_10_12)) d_X_enterTrap_26 ⟨Nat.zero_le _, Nat.zero_le _⟩ (fun H locs hs => ?_)
  refine lv_aload_n hx hb d_X_enterTrap_29 rfl (lv_at hl 0 rfl) ?_
  refine xg_X hx hb hF hs 2 (by decide) k_fl_X_19 rfl d_X_enterTrap_30 ?_
  refine lv_bipush (v := 9) hx hb d_X_enterTrap_33 (by decide) ?_
  refine xr_ld hx hb hF hs ic_9_12 d_X_enterTrap_35 ?_
  refine lv_astore_n (lv' := [(2, _), (0, _), (1, _)]) hx hb d_X_enterTrap_36 rfl hl (by decide) rfl (fun ls hl => ?_)
  refine lv_aload_n hx hb d_X_enterTrap_37 rfl (lv_at hl 0 rfl) ?_
  refine xg_N2 hx hb hF hs (in13 ic_9_12) d_X_enterTrap_38 ?_
  refine lv_if_eq (tgt := 70) hx hb d_X_enterTrap_41 (by decide) (fun h1 => ?_) (fun h1 => ?_)
  · refine lv_aload_n hx hb d_X_enterTrap_70 rfl (lv_at hl 1 rfl) ?_
    refine lv_iconst (v := 2) hx hb d_X_enterTrap_71 (by decide) ?_
    refine xp_X hx hb hF hs 0 (by decide) k_fl_X_28 d_X_enterTrap_72 (fun H locs hs => ?_)
    refine hret _ _ _ _ _ hs ?_ d_X_enterTrap_75
    exact (if_pos h1).trans rfl
  · refine lv_aload_n hx hb d_X_enterTrap_44 rfl (lv_at hl 0 rfl) ?_
    refine x_Vip hF hs v_K_isSealed k_ml_X_97 (m_K_isSealed (in13 ic_9_12)) rfl rfl ⟨by decide, by decide⟩ rfl rfl hl.1 (Nat.le_of_ble_eq_true rfl) (rK (in13 ic_9_12)) d_X_enterTrap_45 ⟨Nat.zero_le _, Nat.zero_le _⟩ (fun H locs hs => ?_)
    refine lv_if_ne (tgt := 70) hx hb d_X_enterTrap_48 (by decide) (fun h2 => ?_) (fun h2 => ?_)
    · refine lv_aload_n hx hb d_X_enterTrap_70 rfl (lv_at hl 1 rfl) ?_
      refine lv_iconst (v := 2) hx hb d_X_enterTrap_71 (by decide) ?_
      refine xp_X hx hb hF hs 0 (by decide) k_fl_X_28 d_X_enterTrap_72 (fun H locs hs => ?_)
      refine hret _ _ _ _ _ hs ?_ d_X_enterTrap_75
      exact (if_neg h1).trans ((if_neg h2).trans rfl)
    · refine lv_aload_n hx hb d_X_enterTrap_51 rfl (lv_at hl 0 rfl) ?_
      refine lv_iconst (v := 1) hx hb d_X_enterTrap_52 (by decide) ?_
      refine x_Vip hF hs v_K_permits k_ml_X_101 (m_K_permits (in13 ic_9_12)) rfl rfl ⟨by decide, by decide⟩ rfl rfl hl.1 (Nat.le_of_ble_eq_true rfl) (rK (in13 ic_9_12)) d_X_enterTrap_53 ⟨Nat.zero_le _, Nat.zero_le _⟩ (fun H locs hs => ?_)
      refine lv_if_eq (tgt := 70) hx hb d_X_enterTrap_56 (by decide) (fun h3 => ?_) (fun h3 => ?_)
      · refine lv_aload_n hx hb d_X_enterTrap_70 rfl (lv_at hl 1 rfl) ?_
        refine lv_iconst (v := 2) hx hb d_X_enterTrap_71 (by decide) ?_
        refine xp_X hx hb hF hs 0 (by decide) k_fl_X_28 d_X_enterTrap_72 (fun H locs hs => ?_)
        refine hret _ _ _ _ _ hs ?_ d_X_enterTrap_75
        exact (if_neg h1).trans ((if_pos h2).trans ((if_pos h3).trans rfl))
      · refine lv_aload_n hx hb d_X_enterTrap_59 rfl (lv_at hl 1 rfl) ?_
        refine xg_X hx hb hF hs 3 (by decide) k_fl_X_41 rfl d_X_enterTrap_60 ?_
        refine lv_aload_n hx hb d_X_enterTrap_63 rfl (lv_at hl 0 rfl) ?_
        refine x_Vv hF hs v_K_copy k_ml_X_93 (m_K_copy lt8_13 (in13 ic_9_12)) rfl rfl ⟨by decide, by decide⟩ rfl rfl hl.1 (Nat.le_of_ble_eq_true rfl) (rK lt8_13) d_X_enterTrap_64 ⟨Nat.zero_le _, Nat.zero_le _⟩ (fun H locs hs => ?_)
        refine lv_goto (tgt := 75) hx hb d_X_enterTrap_67 (by decide) ?_
        refine hret _ _ _ _ _ hs ?_ d_X_enterTrap_75
        exact (if_neg h1).trans ((if_pos h2).trans ((if_neg h3).trans rfl))
