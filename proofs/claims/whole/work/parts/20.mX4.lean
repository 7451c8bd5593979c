def p_X_poke (σ : Mem) (n1 : Int32) (n2 : Int32) : Int32 × Mem :=
  if (p_X_isWord n1) = (0 : Int32) then
    ((0 : Int32), σ)
  else
    let σ1 : Mem := p_X_writeWord σ n1 n2;
    ((1 : Int32), σ1)
set_option maxHeartbeats 4000000 in
set_option maxRecDepth 100000 in
theorem m_X_poke {l : Launch} {D : va_G} {a : Nat → Nat} {cA : Nat → ClassId} {B0 : Nat → Prop} {σ : Mem} {n1 : Int32} {n2 : Int32} : cI l y_X_poke (.code y_X_poke c_X_poke 3 (some FieldType.boolean) :: TG) (rmO 1 22) D (cwL a cA) (cty cA) B0 [.ref (a 0), .int n1, .int n2] σ (p_X_poke σ n1 n2) := by
  refine cZ_of (by decide) (Nat.le_of_ble_eq_true rfl) ?_
  intro p e s m args below meth c Q ls hx hb hF hl hs hret
  have hl : lv_has ls 3 [(0, .ref (a 0)), (1, .int n1), (2, .int n2)] := hl
  refine lv_iload_n hx hb d_X_poke_0 rfl (lv_at hl 1 rfl) ?_
  refine x_Sip hF hs v_X_isWord k_ml_X_48 (m_X_isWord) rfl rfl ⟨by decide, by decide⟩ rfl rfl hl.1 (Nat.le_of_ble_eq_true rfl) d_X_poke_1 ⟨Nat.zero_le _, Nat.zero_le _⟩ (fun H locs hs => ?_)
  refine lv_if_ne (tgt := 9) hx hb d_X_poke_4 (by decide) (fun h1 => ?_) (fun h1 => ?_)
  · refine lv_aload_n hx hb d_X_poke_9 rfl (lv_at hl 0 rfl) ?_
    refine lv_iload_n hx hb d_X_poke_10 rfl (lv_at hl 1 rfl) ?_
    refine lv_iload_n hx hb d_X_poke_11 rfl (lv_at hl 2 rfl) ?_
    refine x_Vv hF hs v_X_writeWord k_ml_X_52 (m_X_writeWord (ix_word h1)) rfl rfl ⟨by decide, by decide⟩ rfl rfl hl.1 (Nat.le_of_ble_eq_true rfl) rX d_X_poke_12 ⟨Nat.zero_le _, Nat.zero_le _⟩ (fun H locs hs => ?_)
    refine lv_iconst (v := 1) hx hb d_X_poke_15 (by decide) ?_
    refine hret _ _ _ _ _ _ hs bo_1 ?_ d_X_poke_16
    exact (if_neg h1).trans rfl
  · refine lv_iconst (v := 0) hx hb d_X_poke_7 (by decide) ?_
    refine hret _ _ _ _ _ _ hs bo_0 ?_ d_X_poke_8
    exact (if_pos h1).trans rfl
def p_X_peek (σ : Mem) (n1 : Int32) : Int32 :=
  if (p_X_isWord n1) = (0 : Int32) then
    (0 : Int32)
  else
    (σ 0 (n1 : Int32).toNatClampNeg)
set_option maxHeartbeats 4000000 in
set_option maxRecDepth 100000 in
theorem m_X_peek {l : Launch} {D : va_G} {a : Nat → Nat} {cA : Nat → ClassId} {B0 : Nat → Prop} {σ : Mem} {n1 : Int32} : cI l y_X_peek (.code y_X_peek c_X_peek 2 (some FieldType.int) :: TG) (rmO 1 20) D (cwL a cA) (cty cA) B0 [.ref (a 0), .int n1] σ (p_X_peek σ n1, σ) := by
  refine cI_of (by decide) (Nat.le_of_ble_eq_true rfl) ?_
  intro p e s m args below meth c Q ls hx hb hF hl hs hret
  have hl : lv_has ls 2 [(0, .ref (a 0)), (1, .int n1)] := hl
  refine lv_iload_n hx hb d_X_peek_0 rfl (lv_at hl 1 rfl) ?_
  refine x_Sip hF hs v_X_isWord k_ml_X_48 (m_X_isWord) rfl rfl ⟨by decide, by decide⟩ rfl rfl hl.1 (Nat.le_of_ble_eq_true rfl) d_X_peek_1 ⟨Nat.zero_le _, Nat.zero_le _⟩ (fun H locs hs => ?_)
  refine lv_if_eq (tgt := 16) hx hb d_X_peek_4 (by decide) (fun h1 => ?_) (fun h1 => ?_)
  · refine lv_iconst (v := 0) hx hb d_X_peek_16 (by decide) ?_
    refine hret _ _ _ _ _ _ hs ?_ d_X_peek_17
    exact pr_eq ((if_pos h1).trans rfl)
  · refine lv_aload_n hx hb d_X_peek_7 rfl (lv_at hl 0 rfl) ?_
    refine xg_X hx hb hF hs 0 (by decide) k_fl_X_9 rfl d_X_peek_8 ?_
    refine lv_iload_n hx hb d_X_peek_11 rfl (lv_at hl 1 rfl) ?_
    refine xw_ld hx hb hF hs (ix_word h1) d_X_peek_12 ?_
    refine lv_goto (tgt := 17) hx hb d_X_peek_13 (by decide) ?_
    refine hret _ _ _ _ _ _ hs ?_ d_X_peek_17
    exact pr_eq ((if_neg h1).trans rfl)
def p_X_tagged (σ : Mem) (n1 : Int32) : Int32 :=
  if n1 < (0 : Int32) then
    (0 : Int32)
  else
    if (128 : Int32) ≤ n1 then
      (0 : Int32)
    else
      if (bo (σ 1 (n1 : Int32).toNatClampNeg)) = (0 : Int32) then
        (0 : Int32)
      else
        (1 : Int32)
set_option maxHeartbeats 4000000 in
set_option maxRecDepth 100000 in
theorem m_X_tagged {l : Launch} {D : va_G} {a : Nat → Nat} {cA : Nat → ClassId} {B0 : Nat → Prop} {σ : Mem} {n1 : Int32} : cI l y_X_tagged (.code y_X_tagged c_X_tagged 2 (some FieldType.boolean) :: TG) (rmO 0 0) D (cwL a cA) (cty cA) B0 [.ref (a 0), .int n1] σ (p_X_tagged σ n1, σ) := by
  refine cZ_of (by decide) (Nat.le_of_ble_eq_true rfl) ?_
  intro p e s m args below meth c Q ls hx hb hF hl hs hret
  have hl : lv_has ls 2 [(0, .ref (a 0)), (1, .int n1)] := hl
  refine lv_iload_n hx hb d_X_tagged_0 rfl (lv_at hl 1 rfl) ?_
  refine lv_if_lt (tgt := 24) hx hb d_X_tagged_1 (by decide) (fun h1 => ?_) (fun h1 => ?_)
  · refine lv_iconst (v := 0) hx hb d_X_tagged_24 (by decide) ?_
    refine hret _ _ _ _ _ _ hs bo_0 ?_ d_X_tagged_25
    exact pr_eq ((if_pos h1).trans rfl)
  · refine lv_iload_n hx hb d_X_tagged_4 rfl (lv_at hl 1 rfl) ?_
    refine lv_sipush (v := 128) hx hb d_X_tagged_5 (by decide) ?_
    refine lv_icmp_ge (tgt := 24) hx hb d_X_tagged_8 (by decide) (fun h2 => ?_) (fun h2 => ?_)
    · refine lv_iconst (v := 0) hx hb d_X_tagged_24 (by decide) ?_
      refine hret _ _ _ _ _ _ hs bo_0 ?_ d_X_tagged_25
      exact pr_eq ((if_neg h1).trans ((if_pos h2).trans rfl))
    · refine lv_aload_n hx hb d_X_tagged_11 rfl (lv_at hl 0 rfl) ?_
      refine xg_X hx hb hF hs 1 (by decide) k_fl_X_13 rfl d_X_tagged_12 ?_
      refine lv_iload_n hx hb d_X_tagged_15 rfl (lv_at hl 1 rfl) ?_
      refine xt_ld hx hb hF hs (ix_lt128 h1 h2) d_X_tagged_16 ?_
      refine lv_if_eq (tgt := 24) hx hb d_X_tagged_17 (by decide) (fun h3 => ?_) (fun h3 => ?_)
      · refine lv_iconst (v := 0) hx hb d_X_tagged_24 (by decide) ?_
        refine hret _ _ _ _ _ _ hs bo_0 ?_ d_X_tagged_25
        exact pr_eq ((if_neg h1).trans ((if_neg h2).trans ((if_pos h3).trans rfl)))
      · refine lv_iconst (v := 1) hx hb d_X_tagged_20 (by decide) ?_
        refine lv_goto (tgt := 25) hx hb d_X_tagged_21 (by decide) ?_
        refine hret _ _ _ _ _ _ hs bo_1 ?_ d_X_tagged_25
        exact pr_eq ((if_neg h1).trans ((if_neg h2).trans ((if_neg h3).trans rfl)))
def p_X_state (σ : Mem) : Int32 :=
  (σ 5 0)
set_option maxHeartbeats 4000000 in
set_option maxRecDepth 100000 in
theorem m_X_state {l : Launch} {D : va_G} {a : Nat → Nat} {cA : Nat → ClassId} {B0 : Nat → Prop} {σ : Mem} : cI l y_X_state (.code y_X_state c_X_state 1 (some FieldType.int) :: TG) (rmO 0 0) D (cwL a cA) (cty cA) B0 [.ref (a 0)] σ (p_X_state σ, σ) := by
  refine cI_of (by decide) (Nat.le_of_ble_eq_true rfl) ?_
  intro p e s m args below meth c Q ls hx hb hF hl hs hret
  have hl : lv_has ls 1 [(0, .ref (a 0))] := hl
  refine lv_aload_n hx hb d_X_state_0 rfl (lv_at hl 0 rfl) ?_
  refine xg_X hx hb hF hs 5 (by decide) k_fl_X_28 rfl d_X_state_1 ?_
  refine hret _ _ _ _ _ _ hs ?_ d_X_state_4
  exact pr_eq (rfl)
def p_X_wake (σ : Mem) (n1 : Int32) : Int32 × Mem :=
  if (σ 5 0) = (0 : Int32) then
    ((0 : Int32), σ)
  else
    if (p_X_isWord n1) = (0 : Int32) then
      ((0 : Int32), σ)
    else
      let σ1 : Mem := wr σ 5 0 (0 : Int32);
      let σ2 : Mem := p_K_becomeRoot σ1 8 ((4 : Int32) * (n1 : Int32));
      ((1 : Int32), σ2)
set_option maxHeartbeats 4000000 in
set_option maxRecDepth 100000 in
theorem m_X_wake {l : Launch} {D : va_G} {a : Nat → Nat} {cA : Nat → ClassId} {B0 : Nat → Prop} {σ : Mem} {n1 : Int32} : cI l y_X_wake (.code y_X_wake c_X_wake 2 (some FieldType.boolean) :: TG) (rmO 3 70) D (cwL a cA) (cty cA) B0 [.ref (a 0), .int n1] σ (p_X_wake σ n1) := by
  refine cZ_of (by decide) (Nat.le_of_ble_eq_true rfl) ?_
  intro p e s m args below meth c Q ls hx hb hF hl hs hret
  have hl : lv_has ls 2 [(0, .ref (a 0)), (1, .int n1)] := hl
  refine lv_aload_n hx hb d_X_wake_0 rfl (lv_at hl 0 rfl) ?_
  refine xg_X hx hb hF hs 5 (by decide) k_fl_X_28 rfl d_X_wake_1 ?_
  refine lv_if_eq (tgt := 14) hx hb d_X_wake_4 (by decide) (fun h1 => ?_) (fun h1 => ?_)
  · refine lv_iconst (v := 0) hx hb d_X_wake_14 (by decide) ?_
    refine hret _ _ _ _ _ _ hs bo_0 ?_ d_X_wake_15
    exact (if_pos h1).trans rfl
  · refine lv_iload_n hx hb d_X_wake_7 rfl (lv_at hl 1 rfl) ?_
    refine x_Sip hF hs v_X_isWord k_ml_X_48 (m_X_isWord) rfl rfl ⟨by decide, by decide⟩ rfl rfl hl.1 (Nat.le_of_ble_eq_true rfl) d_X_wake_8 ⟨Nat.zero_le _, Nat.zero_le _⟩ (fun H locs hs => ?_)
    refine lv_if_ne (tgt := 16) hx hb d_X_wake_11 (by decide) (fun h2 => ?_) (fun h2 => ?_)
    · refine lv_aload_n hx hb d_X_wake_16 rfl (lv_at hl 0 rfl) ?_
      refine lv_iconst (v := 0) hx hb d_X_wake_17 (by decide) ?_
      refine xp_X hx hb hF hs 0 (by decide) k_fl_X_28 d_X_wake_18 (fun H locs hs => ?_)
      refine lv_aload_n hx hb d_X_wake_21 rfl (lv_at hl 0 rfl) ?_
      refine xg_X hx hb hF hs 3 (by decide) k_fl_X_41 rfl d_X_wake_22 ?_
      refine lv_iconst (v := 4) hx hb d_X_wake_25 (by decide) ?_
      refine lv_iload_n hx hb d_X_wake_26 rfl (lv_at hl 1 rfl) ?_
      refine lv_imul hx hb d_X_wake_27 ?_
      refine x_Vv hF hs v_K_becomeRoot k_ml_X_44 (m_K_becomeRoot lt8_13) rfl rfl ⟨by decide, by decide⟩ rfl rfl hl.1 (Nat.le_of_ble_eq_true rfl) (rK lt8_13) d_X_wake_28 ⟨Nat.zero_le _, Nat.zero_le _⟩ (fun H locs hs => ?_)
      refine lv_iconst (v := 1) hx hb d_X_wake_31 (by decide) ?_
      refine hret _ _ _ _ _ _ hs bo_1 ?_ d_X_wake_32
      exact (if_neg h1).trans ((if_neg h2).trans rfl)
    · refine lv_iconst (v := 0) hx hb d_X_wake_14 (by decide) ?_
      refine hret _ _ _ _ _ _ hs bo_0 ?_ d_X_wake_15
      exact (if_neg h1).trans ((if_pos h2).trans rfl)
def p_X_cause (σ : Mem) : Int32 :=
  (σ 5 1)
set_option maxHeartbeats 4000000 in
set_option maxRecDepth 100000 in
theorem m_X_cause {l : Launch} {D : va_G} {a : Nat → Nat} {cA : Nat → ClassId} {B0 : Nat → Prop} {σ : Mem} : cI l y_X_cause (.code y_X_cause c_X_cause 1 (some FieldType.int) :: TG) (rmO 0 0) D (cwL a cA) (cty cA) B0 [.ref (a 0)] σ (p_X_cause σ, σ) := by
  refine cI_of (by decide) (Nat.le_of_ble_eq_true rfl) ?_
  intro p e s m args below meth c Q ls hx hb hF hl hs hret
  have hl : lv_has ls 1 [(0, .ref (a 0))] := hl
  refine lv_aload_n hx hb d_X_cause_0 rfl (lv_at hl 0 rfl) ?_
  refine xg_X hx hb hF hs 6 (by decide) k_fl_X_32 rfl d_X_cause_1 ?_
  refine hret _ _ _ _ _ _ hs ?_ d_X_cause_4
  exact pr_eq (rfl)
def p_X_steps (σ : Mem) : Int32 :=
  (σ 5 2)
set_option maxHeartbeats 4000000 in
set_option maxRecDepth 100000 in
theorem m_X_steps {l : Launch} {D : va_G} {a : Nat → Nat} {cA : Nat → ClassId} {B0 : Nat → Prop} {σ : Mem} : cI l y_X_steps (.code y_X_steps c_X_steps 1 (some FieldType.int) :: TG) (rmO 0 0) D (cwL a cA) (cty cA) B0 [.ref (a 0)] σ (p_X_steps σ, σ) := by
  refine cI_of (by decide) (Nat.le_of_ble_eq_true rfl) ?_
  intro p e s m args below meth c Q ls hx hb hF hl hs hret
  have hl : lv_has ls 1 [(0, .ref (a 0))] := hl
  refine lv_aload_n hx hb d_X_steps_0 rfl (lv_at hl 0 rfl) ?_
  refine xg_X hx hb hF hs 7 (by decide) k_fl_X_35 rfl d_X_steps_1 ?_
  refine hret _ _ _ _ _ _ hs ?_ d_X_steps_4
  exact pr_eq (rfl)
def p_X_traps (σ : Mem) : Int32 :=
  (σ 5 3)
set_option maxHeartbeats 4000000 in
set_option maxRecDepth 100000 in
theorem m_X_traps {l : Launch} {D : va_G} {a : Nat → Nat} {cA : Nat → ClassId} {B0 : Nat → Prop} {σ : Mem} : cI l y_X_traps (.code y_X_traps c_X_traps 1 (some FieldType.int) :: TG) (rmO 0 0) D (cwL a cA) (cty cA) B0 [.ref (a 0)] σ (p_X_traps σ, σ) := by
  refine cI_of (by decide) (Nat.le_of_ble_eq_true rfl) ?_
  intro p e s m args below meth c Q ls hx hb hF hl hs hret
  have hl : lv_has ls 1 [(0, .ref (a 0))] := hl
  refine lv_aload_n hx hb d_X_traps_0 rfl (lv_at hl 0 rfl) ?_
  refine xg_X hx hb hF hs 8 (by decide) k_fl_X_38 rfl d_X_traps_1 ?_
  refine hret _ _ _ _ _ _ hs ?_ d_X_traps_4
  exact pr_eq (rfl)
def p_X_register (σ : Mem) (n1 : Int32) (n2 : Int32) : Int32 :=
  if (p_X_isRegister n1) = (0 : Int32) then
    ((-1) : Int32)
  else
    if n2 = (0 : Int32) then
      (σ 4 (n1.toNatClampNeg))
    else
    if n2 = (1 : Int32) then
      (σ 3 (n1.toNatClampNeg))
    else
    if n2 = (2 : Int32) then
      if (bo (σ 2 (n1.toNatClampNeg))) = (0 : Int32) then
        (0 : Int32)
      else
        (1 : Int32)
    else
      ((-1) : Int32)
set_option maxHeartbeats 4000000 in
set_option maxRecDepth 100000 in
theorem m_X_register {l : Launch} {D : va_G} {a : Nat → Nat} {cA : Nat → ClassId} {B0 : Nat → Prop} {σ : Mem} {n1 : Int32} {n2 : Int32} : cI l y_X_register (.code y_X_register c_X_register 3 (some FieldType.int) :: TG) (rmO 1 20) D (cwL a cA) (cty cA) B0 [.ref (a 0), .int n1, .int n2] σ (p_X_register σ n1 n2, σ) := by
  refine cI_of (by decide) (Nat.le_of_ble_eq_true rfl) ?_
  intro p e s m args below meth c Q ls hx hb hF hl hs hret
  have hl : lv_has ls 3 [(0, .ref (a 0)), (1, .int n1), (2, .int n2)] := hl
  refine lv_iload_n hx hb d_X_register_0 rfl (lv_at hl 1 rfl) ?_
  refine x_Sip hF hs v_X_isRegister k_ml_X_59 (m_X_isRegister) rfl rfl ⟨by decide, by decide⟩ rfl rfl hl.1 (Nat.le_of_ble_eq_true rfl) d_X_register_1 ⟨Nat.zero_le _, Nat.zero_le _⟩ (fun H locs hs => ?_)
  refine lv_if_ne (tgt := 9) hx hb d_X_register_4 (by decide) (fun h1 => ?_) (fun h1 => ?_)
  · refine lv_iload_n hx hb d_X_register_9 rfl (lv_at hl 2 rfl) ?_
    by_cases h2 : n2 = (0 : Int32)
    · refine lv_tableIn (tgt := 36) (off := 26) hx hb d_X_register_10 (by rw [h2]; decide) (by rw [h2]; decide) (by rw [h2]; rfl) (by decide) ?_
      refine lv_aload_n hx hb d_X_register_36 rfl (lv_at hl 0 rfl) ?_
      refine xg_X hx hb hF hs 2 (by decide) k_fl_X_19 rfl d_X_register_37 ?_
      refine lv_iload_n hx hb d_X_register_40 rfl (lv_at hl 1 rfl) ?_
      refine xr_ld hx hb hF hs (ix_reg h1) d_X_register_41 ?_
      refine xg_N4 hx hb hF hs (in13 (ix_reg h1)) d_X_register_42 ?_
      refine hret _ _ _ _ _ _ hs ?_ d_X_register_45
      exact pr_eq ((if_neg h1).trans ((if_pos h2).trans rfl))
    by_cases h3 : n2 = (1 : Int32)
    · refine lv_tableIn (tgt := 46) (off := 36) hx hb d_X_register_10 (by rw [h3]; decide) (by rw [h3]; decide) (by rw [h3]; rfl) (by decide) ?_
      refine lv_aload_n hx hb d_X_register_46 rfl (lv_at hl 0 rfl) ?_
      refine xg_X hx hb hF hs 2 (by decide) k_fl_X_19 rfl d_X_register_47 ?_
      refine lv_iload_n hx hb d_X_register_50 rfl (lv_at hl 1 rfl) ?_
      refine xr_ld hx hb hF hs (ix_reg h1) d_X_register_51 ?_
      refine xg_N3 hx hb hF hs (in13 (ix_reg h1)) d_X_register_52 ?_
      refine hret _ _ _ _ _ _ hs ?_ d_X_register_55
      exact pr_eq ((if_neg h1).trans ((if_neg h2).trans ((if_pos h3).trans rfl)))
    by_cases h4 : n2 = (2 : Int32)
    · refine lv_tableIn (tgt := 56) (off := 46) hx hb d_X_register_10 (by rw [h4]; decide) (by rw [h4]; decide) (by rw [h4]; rfl) (by decide) ?_
      refine lv_aload_n hx hb d_X_register_56 rfl (lv_at hl 0 rfl) ?_
      refine xg_X hx hb hF hs 2 (by decide) k_fl_X_19 rfl d_X_register_57 ?_
      refine lv_iload_n hx hb d_X_register_60 rfl (lv_at hl 1 rfl) ?_
      refine xr_ld hx hb hF hs (ix_reg h1) d_X_register_61 ?_
      refine xg_N2 hx hb hF hs (in13 (ix_reg h1)) d_X_register_62 ?_
      refine lv_if_eq (tgt := 72) hx hb d_X_register_65 (by decide) (fun h5 => ?_) (fun h5 => ?_)
      · refine lv_iconst (v := 0) hx hb d_X_register_72 (by decide) ?_
        refine hret _ _ _ _ _ _ hs ?_ d_X_register_73
        exact pr_eq ((if_neg h1).trans ((if_neg h2).trans ((if_neg h3).trans ((if_pos h4).trans ((if_pos h5).trans rfl)))))
      · refine lv_iconst (v := 1) hx hb d_X_register_68 (by decide) ?_
        refine lv_goto (tgt := 73) hx hb d_X_register_69 (by decide) ?_
        refine hret _ _ _ _ _ _ hs ?_ d_X_register_73
        exact pr_eq ((if_neg h1).trans ((if_neg h2).trans ((if_neg h3).trans ((if_pos h4).trans ((if_neg h5).trans rfl)))))
    refine x_tabD (tgt := 74) hx hb [0, 1, 2] d_X_register_10 (List.forall_mem_cons.mpr ⟨lv_neT h2 (by decide), List.forall_mem_cons.mpr ⟨lv_neT h3 (by decide), List.forall_mem_cons.mpr ⟨lv_neT h4 (by decide), fun _ z => absurd z List.not_mem_nil⟩⟩⟩) (by decide) (by decide) (by decide) ?_
    refine lv_iconst (v := (-1)) hx hb d_X_register_74 (by decide) ?_
    refine hret _ _ _ _ _ _ hs ?_ d_X_register_75
    exact pr_eq ((if_neg h1).trans ((if_neg h2).trans ((if_neg h3).trans ((if_neg h4).trans rfl))))
  · refine lv_iconst (v := (-1)) hx hb d_X_register_7 (by decide) ?_
    refine hret _ _ _ _ _ _ hs ?_ d_X_register_8
    exact pr_eq ((if_pos h1).trans rfl)
def p_X_base (σ : Mem) (n1 : Int32) : Int64 :=
  if (p_X_isRegister n1) = (0 : Int32) then
    (0 : Int64)
  else
    (p_K_lowerBound σ (n1.toNatClampNeg))
set_option maxHeartbeats 4000000 in
set_option maxRecDepth 100000 in
theorem m_X_base {l : Launch} {D : va_G} {a : Nat → Nat} {cA : Nat → ClassId} {B0 : Nat → Prop} {σ : Mem} {n1 : Int32} : cL l y_X_base (.code y_X_base c_X_base 2 (some FieldType.long) :: TG) (rmO 1 26) D (cwL a cA) (cty cA) B0 [.ref (a 0), .int n1] σ (p_X_base σ n1, σ) := by
  refine cL_of (by decide) (Nat.le_of_ble_eq_true rfl) ?_
  intro p e s m args below meth c Q ls hx hb hF hl hs hret
  have hl : lv_has ls 2 [(0, .ref (a 0)), (1, .int n1)] := hl
  refine lv_iload_n hx hb d_X_base_0 rfl (lv_at hl 1 rfl) ?_
  refine x_Sip hF hs v_X_isRegister k_ml_X_59 (m_X_isRegister) rfl rfl ⟨by decide, by decide⟩ rfl rfl hl.1 (Nat.le_of_ble_eq_true rfl) d_X_base_1 ⟨Nat.zero_le _, Nat.zero_le _⟩ (fun H locs hs => ?_)
  refine lv_if_eq (tgt := 19) hx hb d_X_base_4 (by decide) (fun h1 => ?_) (fun h1 => ?_)
  · refine lv_lconst (v := 0) hx hb d_X_base_19 (by decide) ?_
    refine hret _ _ _ _ _ _ hs ?_ d_X_base_20
    exact pr_eq ((if_pos h1).trans rfl)
  · refine lv_aload_n hx hb d_X_base_7 rfl (lv_at hl 0 rfl) ?_
    refine xg_X hx hb hF hs 2 (by decide) k_fl_X_19 rfl d_X_base_8 ?_
    refine lv_iload_n hx hb d_X_base_11 rfl (lv_at hl 1 rfl) ?_
    refine xr_ld hx hb hF hs (ix_reg h1) d_X_base_12 ?_
    refine x_Vlp hF hs v_K_lowerBound k_ml_X_72 (m_K_lowerBound (in13 (ix_reg h1))) rfl rfl ⟨by decide, by decide⟩ rfl rfl hl.1 (Nat.le_of_ble_eq_true rfl) (rK (in13 (ix_reg h1))) d_X_base_13 ⟨Nat.zero_le _, Nat.zero_le _⟩ (fun H locs hs => ?_)
    refine lv_goto (tgt := 20) hx hb d_X_base_16 (by decide) ?_
    refine hret _ _ _ _ _ _ hs ?_ d_X_base_20
    exact pr_eq ((if_neg h1).trans rfl)
def p_X_top (σ : Mem) (n1 : Int32) : Int64 :=
  if (p_X_isRegister n1) = (0 : Int32) then
    (0 : Int64)
  else
    (p_K_upperBound σ (n1.toNatClampNeg))
set_option maxHeartbeats 4000000 in
set_option maxRecDepth 100000 in
theorem m_X_top {l : Launch} {D : va_G} {a : Nat → Nat} {cA : Nat → ClassId} {B0 : Nat → Prop} {σ : Mem} {n1 : Int32} : cL l y_X_top (.code y_X_top c_X_top 2 (some FieldType.long) :: TG) (rmO 2 51) D (cwL a cA) (cty cA) B0 [.ref (a 0), .int n1] σ (p_X_top σ n1, σ) := by
  refine cL_of (by decide) (Nat.le_of_ble_eq_true rfl) ?_
  intro p e s m args below meth c Q ls hx hb hF hl hs hret
  have hl : lv_has ls 2 [(0, .ref (a 0)), (1, .int n1)] := hl
  refine lv_iload_n hx hb d_X_top_0 rfl (lv_at hl 1 rfl) ?_
  refine x_Sip hF hs v_X_isRegister k_ml_X_59 (m_X_isRegister) rfl rfl ⟨by decide, by decide⟩ rfl rfl hl.1 (Nat.le_of_ble_eq_true rfl) d_X_top_1 ⟨Nat.zero_le _, Nat.zero_le _⟩ (fun H locs hs => ?_)
  refine lv_if_eq (tgt := 19) hx hb d_X_top_4 (by decide) (fun h1 => ?_) (fun h1 => ?_)
  · refine lv_lconst (v := 0) hx hb d_X_top_19 (by decide) ?_
    refine hret _ _ _ _ _ _ hs ?_ d_X_top_20
    exact pr_eq ((if_pos h1).trans rfl)
  · refine lv_aload_n hx hb d_X_top_7 rfl (lv_at hl 0 rfl) ?_
    refine xg_X hx hb hF hs 2 (by decide) k_fl_X_19 rfl d_X_top_8 ?_
    refine lv_iload_n hx hb d_X_top_11 rfl (lv_at hl 1 rfl) ?_
    refine xr_ld hx hb hF hs (ix_reg h1) d_X_top_12 ?_
    refine x_Vlp hF hs v_K_upperBound k_ml_X_76 (m_K_upperBound (in13 (ix_reg h1))) rfl rfl ⟨by decide, by decide⟩ rfl rfl hl.1 (Nat.le_of_ble_eq_true rfl) (rK (in13 (ix_reg h1))) d_X_top_13 ⟨Nat.zero_le _, Nat.zero_le _⟩ (fun H locs hs => ?_)
    refine lv_goto (tgt := 20) hx hb d_X_top_16 (by decide) ?_
    refine hret _ _ _ _ _ _ hs ?_ d_X_top_20
    exact pr_eq ((if_neg h1).trans rfl)
def p_X_give (σ : Mem) (n1 : Int32) (n2 : Int32) : Int32 × Mem :=
  if n1 < (1 : Int32) then
    ((0 : Int32), σ)
  else
    if n1 < (8 : Int32) then
      let σ1 : Mem := p_X_writeNumber σ n1 n2;
      ((1 : Int32), σ1)
    else
      ((0 : Int32), σ)
set_option maxHeartbeats 4000000 in
set_option maxRecDepth 100000 in
theorem m_X_give {l : Launch} {D : va_G} {a : Nat → Nat} {cA : Nat → ClassId} {B0 : Nat → Prop} {σ : Mem} {n1 : Int32} {n2 : Int32} : cI l y_X_give (.code y_X_give c_X_give 3 (some FieldType.boolean) :: TG) (rmO 2 43) D (cwL a cA) (cty cA) B0 [.ref (a 0), .int n1, .int n2] σ (p_X_give σ n1 n2) := by
  refine cZ_of (by decide) (Nat.le_of_ble_eq_true rfl) ?_
  intro p e s m args below meth c Q ls hx hb hF hl hs hret
  have hl : lv_has ls 3 [(0, .ref (a 0)), (1, .int n1), (2, .int n2)] := hl
  refine lv_iload_n hx hb d_X_give_0 rfl (lv_at hl 1 rfl) ?_
  refine lv_iconst (v := 1) hx hb d_X_give_1 (by decide) ?_
  refine lv_icmp_lt (tgt := 11) hx hb d_X_give_2 (by decide) (fun h1 => ?_) (fun h1 => ?_)
  · refine lv_iconst (v := 0) hx hb d_X_give_11 (by decide) ?_
    refine hret _ _ _ _ _ _ hs bo_0 ?_ d_X_give_12
    exact (if_pos h1).trans rfl
  · refine lv_iload_n hx hb d_X_give_5 rfl (lv_at hl 1 rfl) ?_
    refine lv_bipush (v := 8) hx hb d_X_give_6 (by decide) ?_
    refine lv_icmp_lt (tgt := 13) hx hb d_X_give_8 (by decide) (fun h2 => ?_) (fun h2 => ?_)
    · refine lv_aload_n hx hb d_X_give_13 rfl (lv_at hl 0 rfl) ?_
      refine lv_iload_n hx hb d_X_give_14 rfl (lv_at hl 1 rfl) ?_
      refine lv_iload_n hx hb d_X_give_15 rfl (lv_at hl 2 rfl) ?_
      refine x_Vv hF hs v_X_writeNumber k_ml_X_79 (m_X_writeNumber (ix_give h1 h2)) rfl rfl ⟨by decide, by decide⟩ rfl rfl hl.1 (Nat.le_of_ble_eq_true rfl) rX d_X_give_16 ⟨Nat.zero_le _, Nat.zero_le _⟩ (fun H locs hs => ?_)
      refine lv_iconst (v := 1) hx hb d_X_give_19 (by decide) ?_
      refine hret _ _ _ _ _ _ hs bo_1 ?_ d_X_give_20
      exact (if_neg h1).trans ((if_pos h2).trans rfl)
    · refine lv_iconst (v := 0) hx hb d_X_give_11 (by decide) ?_
      refine hret _ _ _ _ _ _ hs bo_0 ?_ d_X_give_12
      exact (if_neg h1).trans ((if_neg h2).trans rfl)
