def p_M_poke (σ : Mem) (n1 : Int32) (n2 : Int32) : Int32 × Mem :=
  if n1 < (0 : Int32) then
    ((0 : Int32), σ)
  else
    if n1 ≤ (255 : Int32) then
      let σ1 : Mem := wr σ 0 (n1 : Int32).toNatClampNeg n2;
      let σ2 : Mem := wr σ1 1 ((n1 / (2 : Int32)) : Int32).toNatClampNeg (0 : Int32);
      ((1 : Int32), σ2)
    else
      ((0 : Int32), σ)
set_option maxHeartbeats 4000000 in
set_option maxRecDepth 100000 in
theorem m_M_poke {l : Launch} {D : va_G} {a : Nat → Nat} {cA : Nat → ClassId} {B0 : Nat → Prop} {σ : Mem} {n1 : Int32} {n2 : Int32} : cI l y_M_poke (.code y_M_poke c_M_poke 3 (some FieldType.boolean) :: TG) (rmO 0 0) D (rwL a cA) (rty cA) B0 [.ref (a 0), .int n1, .int n2] σ (p_M_poke σ n1 n2) := by
  refine cZ_of (by decide) (Nat.le_of_ble_eq_true rfl) ?_
  intro p e s m args below meth c Q ls hx hb hF hl hs hret
  have hl : lv_has ls 3 [(0, .ref (a 0)), (1, .int n1), (2, .int n2)] := hl
  refine lv_iload_n hx hb d_M_poke_0 rfl (lv_at hl 1 rfl) ?_
  refine lv_if_lt (tgt := 11) hx hb d_M_poke_1 (by decide) (fun h1 => ?_) (fun h1 => ?_)
  · refine lv_iconst (v := 0) hx hb d_M_poke_11 (by decide) ?_
    refine hret _ _ _ _ _ _ hs bo_0 ?_ d_M_poke_12
    exact (if_pos h1).trans rfl
  · refine lv_iload_n hx hb d_M_poke_4 rfl (lv_at hl 1 rfl) ?_
    refine lv_sipush (v := 255) hx hb d_M_poke_5 (by decide) ?_
    refine lv_icmp_le (tgt := 13) hx hb d_M_poke_8 (by decide) (fun h2 => ?_) (fun h2 => ?_)
    · refine lv_aload_n hx hb d_M_poke_13 rfl (lv_at hl 0 rfl) ?_
      refine xg_M hx hb hF hs 3 (by decide) k_fl_M_20 rfl d_M_poke_14 ?_
      refine lv_iload_n hx hb d_M_poke_17 rfl (lv_at hl 1 rfl) ?_
      refine lv_iload_n hx hb d_M_poke_18 rfl (lv_at hl 2 rfl) ?_
      refine x0_st hx hb hF hs (ix_le255 h1 h2) d_M_poke_19 (fun H locs hs => ?_)
      refine lv_aload_n hx hb d_M_poke_20 rfl (lv_at hl 0 rfl) ?_
      refine xg_M hx hb hF hs 4 (by decide) k_fl_M_23 rfl d_M_poke_21 ?_
      refine lv_iload_n hx hb d_M_poke_24 rfl (lv_at hl 1 rfl) ?_
      refine lv_iconst (v := 2) hx hb d_M_poke_25 (by decide) ?_
      refine lv_idiv hx hb d_M_poke_26 (by decide) ?_
      refine lv_iconst (v := 0) hx hb d_M_poke_27 (by decide) ?_
      refine x1_st hx hb hF hs (ix_div2 h1 h2) d_M_poke_28 (fun H locs hs => ?_)
      refine lv_iconst (v := 1) hx hb d_M_poke_29 (by decide) ?_
      refine hret _ _ _ _ _ _ hs bo_1 ?_ d_M_poke_30
      exact (if_neg h1).trans ((if_pos h2).trans rfl)
    · refine lv_iconst (v := 0) hx hb d_M_poke_11 (by decide) ?_
      refine hret _ _ _ _ _ _ hs bo_0 ?_ d_M_poke_12
      exact (if_neg h1).trans ((if_neg h2).trans rfl)
def p_M_peek (σ : Mem) (n1 : Int32) : Int32 :=
  if n1 < (0 : Int32) then
    (0 : Int32)
  else
    if n1 ≤ (255 : Int32) then
      (σ 0 (n1 : Int32).toNatClampNeg)
    else
      (0 : Int32)
set_option maxHeartbeats 4000000 in
set_option maxRecDepth 100000 in
theorem m_M_peek {l : Launch} {D : va_G} {a : Nat → Nat} {cA : Nat → ClassId} {B0 : Nat → Prop} {σ : Mem} {n1 : Int32} : cI l y_M_peek (.code y_M_peek c_M_peek 2 (some FieldType.int) :: TG) (rmO 0 0) D (rwL a cA) (rty cA) B0 [.ref (a 0), .int n1] σ (p_M_peek σ n1, σ) := by
  refine cI_of (by decide) (Nat.le_of_ble_eq_true rfl) ?_
  intro p e s m args below meth c Q ls hx hb hF hl hs hret
  have hl : lv_has ls 2 [(0, .ref (a 0)), (1, .int n1)] := hl
  refine lv_iload_n hx hb d_M_peek_0 rfl (lv_at hl 1 rfl) ?_
  refine lv_if_lt (tgt := 11) hx hb d_M_peek_1 (by decide) (fun h1 => ?_) (fun h1 => ?_)
  · refine lv_iconst (v := 0) hx hb d_M_peek_11 (by decide) ?_
    refine lv_goto (tgt := 21) hx hb d_M_peek_12 (by decide) ?_
    refine hret _ _ _ _ _ _ hs ?_ d_M_peek_21
    exact pr_eq ((if_pos h1).trans rfl)
  · refine lv_iload_n hx hb d_M_peek_4 rfl (lv_at hl 1 rfl) ?_
    refine lv_sipush (v := 255) hx hb d_M_peek_5 (by decide) ?_
    refine lv_icmp_le (tgt := 15) hx hb d_M_peek_8 (by decide) (fun h2 => ?_) (fun h2 => ?_)
    · refine lv_aload_n hx hb d_M_peek_15 rfl (lv_at hl 0 rfl) ?_
      refine xg_M hx hb hF hs 3 (by decide) k_fl_M_20 rfl d_M_peek_16 ?_
      refine lv_iload_n hx hb d_M_peek_19 rfl (lv_at hl 1 rfl) ?_
      refine x0_ld hx hb hF hs (ix_le255 h1 h2) d_M_peek_20 ?_
      refine hret _ _ _ _ _ _ hs ?_ d_M_peek_21
      exact pr_eq ((if_neg h1).trans ((if_pos h2).trans rfl))
    · refine lv_iconst (v := 0) hx hb d_M_peek_11 (by decide) ?_
      refine lv_goto (tgt := 21) hx hb d_M_peek_12 (by decide) ?_
      refine hret _ _ _ _ _ _ hs ?_ d_M_peek_21
      exact pr_eq ((if_neg h1).trans ((if_neg h2).trans rfl))
def p_M_tagged (σ : Mem) (n1 : Int32) : Int32 :=
  if n1 < (0 : Int32) then
    (0 : Int32)
  else
    if (128 : Int32) ≤ n1 then
      (0 : Int32)
    else
      if (bo (σ 1 (n1 : Int32).toNatClampNeg)) = (0 : Int32) then
        (0 : Int32)
      else
        (1 : Int32)
set_option maxHeartbeats 4000000 in
set_option maxRecDepth 100000 in
theorem m_M_tagged {l : Launch} {D : va_G} {a : Nat → Nat} {cA : Nat → ClassId} {B0 : Nat → Prop} {σ : Mem} {n1 : Int32} : cI l y_M_tagged (.code y_M_tagged c_M_tagged 2 (some FieldType.boolean) :: TG) (rmO 0 0) D (rwL a cA) (rty cA) B0 [.ref (a 0), .int n1] σ (p_M_tagged σ n1, σ) := by
  refine cZ_of (by decide) (Nat.le_of_ble_eq_true rfl) ?_
  intro p e s m args below meth c Q ls hx hb hF hl hs hret
  have hl : lv_has ls 2 [(0, .ref (a 0)), (1, .int n1)] := hl
  refine lv_iload_n hx hb d_M_tagged_0 rfl (lv_at hl 1 rfl) ?_
  refine lv_if_lt (tgt := 24) hx hb d_M_tagged_1 (by decide) (fun h1 => ?_) (fun h1 => ?_)
  · refine lv_iconst (v := 0) hx hb d_M_tagged_24 (by decide) ?_
    refine hret _ _ _ _ _ _ hs bo_0 ?_ d_M_tagged_25
    exact pr_eq ((if_pos h1).trans rfl)
  · refine lv_iload_n hx hb d_M_tagged_4 rfl (lv_at hl 1 rfl) ?_
    refine lv_sipush (v := 128) hx hb d_M_tagged_5 (by decide) ?_
    refine lv_icmp_ge (tgt := 24) hx hb d_M_tagged_8 (by decide) (fun h2 => ?_) (fun h2 => ?_)
    · refine lv_iconst (v := 0) hx hb d_M_tagged_24 (by decide) ?_
      refine hret _ _ _ _ _ _ hs bo_0 ?_ d_M_tagged_25
      exact pr_eq ((if_neg h1).trans ((if_pos h2).trans rfl))
    · refine lv_aload_n hx hb d_M_tagged_11 rfl (lv_at hl 0 rfl) ?_
      refine xg_M hx hb hF hs 4 (by decide) k_fl_M_23 rfl d_M_tagged_12 ?_
      refine lv_iload_n hx hb d_M_tagged_15 rfl (lv_at hl 1 rfl) ?_
      refine x1_ld hx hb hF hs (ix_lt128 h1 h2) d_M_tagged_16 ?_
      refine lv_if_eq (tgt := 24) hx hb d_M_tagged_17 (by decide) (fun h3 => ?_) (fun h3 => ?_)
      · refine lv_iconst (v := 0) hx hb d_M_tagged_24 (by decide) ?_
        refine hret _ _ _ _ _ _ hs bo_0 ?_ d_M_tagged_25
        exact pr_eq ((if_neg h1).trans ((if_neg h2).trans ((if_pos h3).trans rfl)))
      · refine lv_iconst (v := 1) hx hb d_M_tagged_20 (by decide) ?_
        refine lv_goto (tgt := 25) hx hb d_M_tagged_21 (by decide) ?_
        refine hret _ _ _ _ _ _ hs bo_1 ?_ d_M_tagged_25
        exact pr_eq ((if_neg h1).trans ((if_neg h2).trans ((if_neg h3).trans rfl)))
def p_M_state (σ : Mem) : Int32 :=
  (σ 5 0)
set_option maxHeartbeats 4000000 in
set_option maxRecDepth 100000 in
theorem m_M_state {l : Launch} {D : va_G} {a : Nat → Nat} {cA : Nat → ClassId} {B0 : Nat → Prop} {σ : Mem} : cI l y_M_state (.code y_M_state c_M_state 1 (some FieldType.int) :: TG) (rmO 0 0) D (rwL a cA) (rty cA) B0 [.ref (a 0)] σ (p_M_state σ, σ) := by
  refine cI_of (by decide) (Nat.le_of_ble_eq_true rfl) ?_
  intro p e s m args below meth c Q ls hx hb hF hl hs hret
  have hl : lv_has ls 1 [(0, .ref (a 0))] := hl
  refine lv_aload_n hx hb d_M_state_0 rfl (lv_at hl 0 rfl) ?_
  refine xg_M hx hb hF hs 5 (by decide) k_fl_M_113 rfl d_M_state_1 ?_
  refine hret _ _ _ _ _ _ hs ?_ d_M_state_4
  exact pr_eq (rfl)
def p_M_wake (σ : Mem) (n1 : Int32) : Int32 × Mem :=
  if (σ 5 0) = (0 : Int32) then
    ((0 : Int32), σ)
  else
    if n1 < (0 : Int32) then
      ((0 : Int32), σ)
    else
      if n1 ≤ (255 : Int32) then
        let σ1 : Mem := wr σ 5 0 (0 : Int32);
        let σ2 : Mem := p_M_first σ1 (8 : Int32) ((4 : Int32) * (n1 : Int32));
        ((1 : Int32), σ2)
      else
        ((0 : Int32), σ)
set_option maxHeartbeats 4000000 in
set_option maxRecDepth 100000 in
theorem m_M_wake {l : Launch} {D : va_G} {a : Nat → Nat} {cA : Nat → ClassId} {B0 : Nat → Prop} {σ : Mem} {n1 : Int32} : cI l y_M_wake (.code y_M_wake c_M_wake 2 (some FieldType.boolean) :: TG) (rmO 2 51) D (rwL a cA) (rty cA) B0 [.ref (a 0), .int n1] σ (p_M_wake σ n1) := by
  refine cZ_of (by decide) (Nat.le_of_ble_eq_true rfl) ?_
  intro p e s m args below meth c Q ls hx hb hF hl hs hret
  have hl : lv_has ls 2 [(0, .ref (a 0)), (1, .int n1)] := hl
  refine lv_aload_n hx hb d_M_wake_0 rfl (lv_at hl 0 rfl) ?_
  refine xg_M hx hb hF hs 5 (by decide) k_fl_M_113 rfl d_M_wake_1 ?_
  refine lv_if_eq (tgt := 18) hx hb d_M_wake_4 (by decide) (fun h1 => ?_) (fun h1 => ?_)
  · refine lv_iconst (v := 0) hx hb d_M_wake_18 (by decide) ?_
    refine hret _ _ _ _ _ _ hs bo_0 ?_ d_M_wake_19
    exact (if_pos h1).trans rfl
  · refine lv_iload_n hx hb d_M_wake_7 rfl (lv_at hl 1 rfl) ?_
    refine lv_if_lt (tgt := 18) hx hb d_M_wake_8 (by decide) (fun h2 => ?_) (fun h2 => ?_)
    · refine lv_iconst (v := 0) hx hb d_M_wake_18 (by decide) ?_
      refine hret _ _ _ _ _ _ hs bo_0 ?_ d_M_wake_19
      exact (if_neg h1).trans ((if_pos h2).trans rfl)
    · refine lv_iload_n hx hb d_M_wake_11 rfl (lv_at hl 1 rfl) ?_
      refine lv_sipush (v := 255) hx hb d_M_wake_12 (by decide) ?_
      refine lv_icmp_le (tgt := 20) hx hb d_M_wake_15 (by decide) (fun h3 => ?_) (fun h3 => ?_)
      · refine lv_aload_n hx hb d_M_wake_20 rfl (lv_at hl 0 rfl) ?_
        refine lv_iconst (v := 0) hx hb d_M_wake_21 (by decide) ?_
        refine xp_M5 hx hb hF hs 0 (by decide) k_fl_M_113 d_M_wake_22 (fun H locs hs => ?_)
        refine lv_aload_n hx hb d_M_wake_25 rfl (lv_at hl 0 rfl) ?_
        refine lv_bipush (v := 8) hx hb d_M_wake_26 (by decide) ?_
        refine lv_iconst (v := 4) hx hb d_M_wake_28 (by decide) ?_
        refine lv_iload_n hx hb d_M_wake_29 rfl (lv_at hl 1 rfl) ?_
        refine lv_imul hx hb d_M_wake_30 ?_
        refine x_Vv hF hs v_M_first k_ml_M_26 (m_M_first ic_8_12) rfl rfl ⟨by decide, by decide⟩ rfl rfl hl.1 (Nat.le_of_ble_eq_true rfl) rM d_M_wake_31 ⟨Nat.zero_le _, Nat.zero_le _⟩ (fun H locs hs => ?_)
        refine lv_iconst (v := 1) hx hb d_M_wake_34 (by decide) ?_
        refine hret _ _ _ _ _ _ hs bo_1 ?_ d_M_wake_35
        exact (if_neg h1).trans ((if_neg h2).trans ((if_pos h3).trans rfl))
      · refine lv_iconst (v := 0) hx hb d_M_wake_18 (by decide) ?_
        refine hret _ _ _ _ _ _ hs bo_0 ?_ d_M_wake_19
        exact (if_neg h1).trans ((if_neg h2).trans ((if_neg h3).trans rfl))
def p_M_cause (σ : Mem) : Int32 :=
  (σ 5 1)
set_option maxHeartbeats 4000000 in
set_option maxRecDepth 100000 in
theorem m_M_cause {l : Launch} {D : va_G} {a : Nat → Nat} {cA : Nat → ClassId} {B0 : Nat → Prop} {σ : Mem} : cI l y_M_cause (.code y_M_cause c_M_cause 1 (some FieldType.int) :: TG) (rmO 0 0) D (rwL a cA) (rty cA) B0 [.ref (a 0)] σ (p_M_cause σ, σ) := by
  refine cI_of (by decide) (Nat.le_of_ble_eq_true rfl) ?_
  intro p e s m args below meth c Q ls hx hb hF hl hs hret
  have hl : lv_has ls 1 [(0, .ref (a 0))] := hl
  refine lv_aload_n hx hb d_M_cause_0 rfl (lv_at hl 0 rfl) ?_
  refine xg_M hx hb hF hs 6 (by decide) k_fl_M_107 rfl d_M_cause_1 ?_
  refine hret _ _ _ _ _ _ hs ?_ d_M_cause_4
  exact pr_eq (rfl)
def p_M_steps (σ : Mem) : Int32 :=
  (σ 5 2)
set_option maxHeartbeats 4000000 in
set_option maxRecDepth 100000 in
theorem m_M_steps {l : Launch} {D : va_G} {a : Nat → Nat} {cA : Nat → ClassId} {B0 : Nat → Prop} {σ : Mem} : cI l y_M_steps (.code y_M_steps c_M_steps 1 (some FieldType.int) :: TG) (rmO 0 0) D (rwL a cA) (rty cA) B0 [.ref (a 0)] σ (p_M_steps σ, σ) := by
  refine cI_of (by decide) (Nat.le_of_ble_eq_true rfl) ?_
  intro p e s m args below meth c Q ls hx hb hF hl hs hret
  have hl : lv_has ls 1 [(0, .ref (a 0))] := hl
  refine lv_aload_n hx hb d_M_steps_0 rfl (lv_at hl 0 rfl) ?_
  refine xg_M hx hb hF hs 7 (by decide) k_fl_M_116 rfl d_M_steps_1 ?_
  refine hret _ _ _ _ _ _ hs ?_ d_M_steps_4
  exact pr_eq (rfl)
def p_M_traps (σ : Mem) : Int32 :=
  (σ 5 3)
set_option maxHeartbeats 4000000 in
set_option maxRecDepth 100000 in
theorem m_M_traps {l : Launch} {D : va_G} {a : Nat → Nat} {cA : Nat → ClassId} {B0 : Nat → Prop} {σ : Mem} : cI l y_M_traps (.code y_M_traps c_M_traps 1 (some FieldType.int) :: TG) (rmO 0 0) D (rwL a cA) (rty cA) B0 [.ref (a 0)] σ (p_M_traps σ, σ) := by
  refine cI_of (by decide) (Nat.le_of_ble_eq_true rfl) ?_
  intro p e s m args below meth c Q ls hx hb hF hl hs hret
  have hl : lv_has ls 1 [(0, .ref (a 0))] := hl
  refine lv_aload_n hx hb d_M_traps_0 rfl (lv_at hl 0 rfl) ?_
  refine xg_M hx hb hF hs 8 (by decide) k_fl_M_110 rfl d_M_traps_1 ?_
  refine hret _ _ _ _ _ _ hs ?_ d_M_traps_4
  exact pr_eq (rfl)
def p_M_register (σ : Mem) (n1 : Int32) (n2 : Int32) : Int32 :=
  if (p_M_isRegister n1) = (0 : Int32) then
    ((-1) : Int32)
  else
    if n2 < (0 : Int32) then
      ((-1) : Int32)
    else
      if n2 ≤ (2 : Int32) then
        if n2 = (0 : Int32) then
          (σ 4 (n1 : Int32).toNatClampNeg)
        else
          if n2 = (1 : Int32) then
            (σ 3 (n1 : Int32).toNatClampNeg)
          else
            if (bo (σ 2 (n1 : Int32).toNatClampNeg)) = (0 : Int32) then
              (0 : Int32)
            else
              (1 : Int32)
      else
        ((-1) : Int32)
set_option maxHeartbeats 4000000 in
set_option maxRecDepth 100000 in
theorem m_M_register {l : Launch} {D : va_G} {a : Nat → Nat} {cA : Nat → ClassId} {B0 : Nat → Prop} {σ : Mem} {n1 : Int32} {n2 : Int32} : cI l y_M_register (.code y_M_register c_M_register 3 (some FieldType.int) :: TG) (rmO 1 20) D (rwL a cA) (rty cA) B0 [.ref (a 0), .int n1, .int n2] σ (p_M_register σ n1 n2, σ) := by
  refine cI_of (by decide) (Nat.le_of_ble_eq_true rfl) ?_
  intro p e s m args below meth c Q ls hx hb hF hl hs hret
  have hl : lv_has ls 3 [(0, .ref (a 0)), (1, .int n1), (2, .int n2)] := hl
  refine lv_iload_n hx hb d_M_register_0 rfl (lv_at hl 1 rfl) ?_
  refine x_Sip hF hs v_M_isRegister k_ml_M_160 (m_M_isRegister) rfl rfl ⟨by decide, by decide⟩ rfl rfl hl.1 (Nat.le_of_ble_eq_true rfl) d_M_register_1 ⟨Nat.zero_le _, Nat.zero_le _⟩ (fun H locs hs => ?_)
  refine lv_if_eq (tgt := 16) hx hb d_M_register_4 (by decide) (fun h1 => ?_) (fun h1 => ?_)
  · refine lv_iconst (v := (-1)) hx hb d_M_register_16 (by decide) ?_
    refine hret _ _ _ _ _ _ hs ?_ d_M_register_17
    exact pr_eq ((if_pos h1).trans rfl)
  · refine lv_iload_n hx hb d_M_register_7 rfl (lv_at hl 2 rfl) ?_
    refine lv_if_lt (tgt := 16) hx hb d_M_register_8 (by decide) (fun h2 => ?_) (fun h2 => ?_)
    · refine lv_iconst (v := (-1)) hx hb d_M_register_16 (by decide) ?_
      refine hret _ _ _ _ _ _ hs ?_ d_M_register_17
      exact pr_eq ((if_neg h1).trans ((if_pos h2).trans rfl))
    · refine lv_iload_n hx hb d_M_register_11 rfl (lv_at hl 2 rfl) ?_
      refine lv_iconst (v := 2) hx hb d_M_register_12 (by decide) ?_
      refine lv_icmp_le (tgt := 18) hx hb d_M_register_13 (by decide) (fun h3 => ?_) (fun h3 => ?_)
      · refine lv_iload_n hx hb d_M_register_18 rfl (lv_at hl 2 rfl) ?_
        refine lv_if_ne (tgt := 31) hx hb d_M_register_19 (by decide) (fun h4 => ?_) (fun h4 => ?_)
        · refine lv_iload_n hx hb d_M_register_31 rfl (lv_at hl 2 rfl) ?_
          refine lv_iconst (v := 1) hx hb d_M_register_32 (by decide) ?_
          refine lv_icmp_ne (tgt := 45) hx hb d_M_register_33 (by decide) (fun h5 => ?_) (fun h5 => ?_)
          · refine lv_aload_n hx hb d_M_register_45 rfl (lv_at hl 0 rfl) ?_
            refine xg_M hx hb hF hs 2 (by decide) k_fl_M_16 rfl d_M_register_46 ?_
            refine lv_iload_n hx hb d_M_register_49 rfl (lv_at hl 1 rfl) ?_
            refine x2_ld hx hb hF hs (ix_mreg h1) d_M_register_50 ?_
            refine lv_if_eq (tgt := 58) hx hb d_M_register_51 (by decide) (fun h6 => ?_) (fun h6 => ?_)
            · refine lv_iconst (v := 0) hx hb d_M_register_58 (by decide) ?_
              refine hret _ _ _ _ _ _ hs ?_ d_M_register_59
              exact pr_eq ((if_neg h1).trans ((if_neg h2).trans ((if_pos h3).trans ((if_neg h4).trans ((if_neg h5).trans ((if_pos h6).trans rfl))))))
            · refine lv_iconst (v := 1) hx hb d_M_register_54 (by decide) ?_
              refine lv_goto (tgt := 59) hx hb d_M_register_55 (by decide) ?_
              refine hret _ _ _ _ _ _ hs ?_ d_M_register_59
              exact pr_eq ((if_neg h1).trans ((if_neg h2).trans ((if_pos h3).trans ((if_neg h4).trans ((if_neg h5).trans ((if_neg h6).trans rfl))))))
          · refine lv_aload_n hx hb d_M_register_36 rfl (lv_at hl 0 rfl) ?_
            refine xg_M hx hb hF hs 1 (by decide) k_fl_M_13 rfl d_M_register_37 ?_
            refine lv_iload_n hx hb d_M_register_40 rfl (lv_at hl 1 rfl) ?_
            refine x3_ld hx hb hF hs (ix_mreg h1) d_M_register_41 ?_
            refine lv_goto (tgt := 59) hx hb d_M_register_42 (by decide) ?_
            refine hret _ _ _ _ _ _ hs ?_ d_M_register_59
            exact pr_eq ((if_neg h1).trans ((if_neg h2).trans ((if_pos h3).trans ((if_neg h4).trans ((if_pos h5).trans rfl)))))
        · refine lv_aload_n hx hb d_M_register_22 rfl (lv_at hl 0 rfl) ?_
          refine xg_M hx hb hF hs 0 (by decide) k_fl_M_7 rfl d_M_register_23 ?_
          refine lv_iload_n hx hb d_M_register_26 rfl (lv_at hl 1 rfl) ?_
          refine x4_ld hx hb hF hs (ix_mreg h1) d_M_register_27 ?_
          refine lv_goto (tgt := 59) hx hb d_M_register_28 (by decide) ?_
          refine hret _ _ _ _ _ _ hs ?_ d_M_register_59
          exact pr_eq ((if_neg h1).trans ((if_neg h2).trans ((if_pos h3).trans ((if_pos h4).trans rfl))))
      · refine lv_iconst (v := (-1)) hx hb d_M_register_16 (by decide) ?_
        refine hret _ _ _ _ _ _ hs ?_ d_M_register_17
        exact pr_eq ((if_neg h1).trans ((if_neg h2).trans ((if_neg h3).trans rfl)))
def p_M_base (σ : Mem) (n1 : Int32) : Int64 :=
  if (p_M_isRegister n1) = (0 : Int32) then
    (0 : Int64)
  else
    (p_M_baseOf (σ 3 (n1 : Int32).toNatClampNeg) (σ 4 (n1 : Int32).toNatClampNeg))
set_option maxHeartbeats 4000000 in
set_option maxRecDepth 100000 in
theorem m_M_base {l : Launch} {D : va_G} {a : Nat → Nat} {cA : Nat → ClassId} {B0 : Nat → Prop} {σ : Mem} {n1 : Int32} : cL l y_M_base (.code y_M_base c_M_base 2 (some FieldType.long) :: TG) (rmO 3 77) D (rwL a cA) (rty cA) B0 [.ref (a 0), .int n1] σ (p_M_base σ n1, σ) := by
  refine cL_of (by decide) (Nat.le_of_ble_eq_true rfl) ?_
  intro p e s m args below meth c Q ls hx hb hF hl hs hret
  have hl : lv_has ls 2 [(0, .ref (a 0)), (1, .int n1)] := hl
  refine lv_iload_n hx hb d_M_base_0 rfl (lv_at hl 1 rfl) ?_
  refine x_Sip hF hs v_M_isRegister k_ml_M_160 (m_M_isRegister) rfl rfl ⟨by decide, by decide⟩ rfl rfl hl.1 (Nat.le_of_ble_eq_true rfl) d_M_base_1 ⟨Nat.zero_le _, Nat.zero_le _⟩ (fun H locs hs => ?_)
  refine lv_if_eq (tgt := 25) hx hb d_M_base_4 (by decide) (fun h1 => ?_) (fun h1 => ?_)
  · refine lv_lconst (v := 0) hx hb d_M_base_25 (by decide) ?_
    refine hret _ _ _ _ _ _ hs ?_ d_M_base_26
    exact pr_eq ((if_pos h1).trans rfl)
  · refine lv_aload_n hx hb d_M_base_7 rfl (lv_at hl 0 rfl) ?_
    refine xg_M hx hb hF hs 1 (by decide) k_fl_M_13 rfl d_M_base_8 ?_
    refine lv_iload_n hx hb d_M_base_11 rfl (lv_at hl 1 rfl) ?_
    refine x3_ld hx hb hF hs (ix_mreg h1) d_M_base_12 ?_
    refine lv_aload_n hx hb d_M_base_13 rfl (lv_at hl 0 rfl) ?_
    refine xg_M hx hb hF hs 0 (by decide) k_fl_M_7 rfl d_M_base_14 ?_
    refine lv_iload_n hx hb d_M_base_17 rfl (lv_at hl 1 rfl) ?_
    refine x4_ld hx hb hF hs (ix_mreg h1) d_M_base_18 ?_
    refine x_Slp hF hs v_M_baseOf k_ml_M_65 (m_M_baseOf) rfl rfl ⟨by decide, by decide⟩ rfl rfl hl.1 (Nat.le_of_ble_eq_true rfl) d_M_base_19 ⟨Nat.zero_le _, Nat.zero_le _⟩ (fun H locs hs => ?_)
    refine lv_goto (tgt := 26) hx hb d_M_base_22 (by decide) ?_
    refine hret _ _ _ _ _ _ hs ?_ d_M_base_26
    exact pr_eq ((if_neg h1).trans rfl)
def p_M_top (σ : Mem) (n1 : Int32) : Int64 :=
  if (p_M_isRegister n1) = (0 : Int32) then
    (0 : Int64)
  else
    (p_M_topOf (σ 3 (n1 : Int32).toNatClampNeg) (σ 4 (n1 : Int32).toNatClampNeg))
set_option maxHeartbeats 4000000 in
set_option maxRecDepth 100000 in
theorem m_M_top {l : Launch} {D : va_G} {a : Nat → Nat} {cA : Nat → ClassId} {B0 : Nat → Prop} {σ : Mem} {n1 : Int32} : cL l y_M_top (.code y_M_top c_M_top 2 (some FieldType.long) :: TG) (rmO 3 77) D (rwL a cA) (rty cA) B0 [.ref (a 0), .int n1] σ (p_M_top σ n1, σ) := by
  refine cL_of (by decide) (Nat.le_of_ble_eq_true rfl) ?_
  intro p e s m args below meth c Q ls hx hb hF hl hs hret
  have hl : lv_has ls 2 [(0, .ref (a 0)), (1, .int n1)] := hl
  refine lv_iload_n hx hb d_M_top_0 rfl (lv_at hl 1 rfl) ?_
  refine x_Sip hF hs v_M_isRegister k_ml_M_160 (m_M_isRegister) rfl rfl ⟨by decide, by decide⟩ rfl rfl hl.1 (Nat.le_of_ble_eq_true rfl) d_M_top_1 ⟨Nat.zero_le _, Nat.zero_le _⟩ (fun H locs hs => ?_)
  refine lv_if_eq (tgt := 25) hx hb d_M_top_4 (by decide) (fun h1 => ?_) (fun h1 => ?_)
  · refine lv_lconst (v := 0) hx hb d_M_top_25 (by decide) ?_
    refine hret _ _ _ _ _ _ hs ?_ d_M_top_26
    exact pr_eq ((if_pos h1).trans rfl)
  · refine lv_aload_n hx hb d_M_top_7 rfl (lv_at hl 0 rfl) ?_
    refine xg_M hx hb hF hs 1 (by decide) k_fl_M_13 rfl d_M_top_8 ?_
    refine lv_iload_n hx hb d_M_top_11 rfl (lv_at hl 1 rfl) ?_
    refine x3_ld hx hb hF hs (ix_mreg h1) d_M_top_12 ?_
    refine lv_aload_n hx hb d_M_top_13 rfl (lv_at hl 0 rfl) ?_
    refine xg_M hx hb hF hs 0 (by decide) k_fl_M_7 rfl d_M_top_14 ?_
    refine lv_iload_n hx hb d_M_top_17 rfl (lv_at hl 1 rfl) ?_
    refine x4_ld hx hb hF hs (ix_mreg h1) d_M_top_18 ?_
    refine x_Slp hF hs v_M_topOf k_ml_M_68 (m_M_topOf) rfl rfl ⟨by decide, by decide⟩ rfl rfl hl.1 (Nat.le_of_ble_eq_true rfl) d_M_top_19 ⟨Nat.zero_le _, Nat.zero_le _⟩ (fun H locs hs => ?_)
    refine lv_goto (tgt := 26) hx hb d_M_top_22 (by decide) ?_
    refine hret _ _ _ _ _ _ hs ?_ d_M_top_26
    exact pr_eq ((if_neg h1).trans rfl)
def p_M_give (σ : Mem) (n1 : Int32) (n2 : Int32) : Int32 × Mem :=
  if n1 < (1 : Int32) then
    ((0 : Int32), σ)
  else
    if n1 ≤ (7 : Int32) then
      let σ1 : Mem := wr σ 4 (n1 : Int32).toNatClampNeg n2;
      let σ2 : Mem := wr σ1 3 (n1 : Int32).toNatClampNeg (0 : Int32);
      let σ3 : Mem := wr σ2 2 (n1 : Int32).toNatClampNeg (0 : Int32);
      ((1 : Int32), σ3)
    else
      ((0 : Int32), σ)
set_option maxHeartbeats 4000000 in
set_option maxRecDepth 100000 in
theorem m_M_give {l : Launch} {D : va_G} {a : Nat → Nat} {cA : Nat → ClassId} {B0 : Nat → Prop} {σ : Mem} {n1 : Int32} {n2 : Int32} : cI l y_M_give (.code y_M_give c_M_give 3 (some FieldType.boolean) :: TG) (rmO 0 0) D (rwL a cA) (rty cA) B0 [.ref (a 0), .int n1, .int n2] σ (p_M_give σ n1 n2) := by
  refine cZ_of (by decide) (Nat.le_of_ble_eq_true rfl) ?_
  intro p e s m args below meth c Q ls hx hb hF hl hs hret
  have hl : lv_has ls 3 [(0, .ref (a 0)), (1, .int n1), (2, .int n2)] := hl
  refine lv_iload_n hx hb d_M_give_0 rfl (lv_at hl 1 rfl) ?_
  refine lv_iconst (v := 1) hx hb d_M_give_1 (by decide) ?_
  refine lv_icmp_lt (tgt := 11) hx hb d_M_give_2 (by decide) (fun h1 => ?_) (fun h1 => ?_)
  · refine lv_iconst (v := 0) hx hb d_M_give_11 (by decide) ?_
    refine hret _ _ _ _ _ _ hs bo_0 ?_ d_M_give_12
    exact (if_pos h1).trans rfl
  · refine lv_iload_n hx hb d_M_give_5 rfl (lv_at hl 1 rfl) ?_
    refine lv_bipush (v := 7) hx hb d_M_give_6 (by decide) ?_
    refine lv_icmp_le (tgt := 13) hx hb d_M_give_8 (by decide) (fun h2 => ?_) (fun h2 => ?_)
    · refine lv_aload_n hx hb d_M_give_13 rfl (lv_at hl 0 rfl) ?_
      refine xg_M hx hb hF hs 0 (by decide) k_fl_M_7 rfl d_M_give_14 ?_
      refine lv_iload_n hx hb d_M_give_17 rfl (lv_at hl 1 rfl) ?_
      refine lv_iload_n hx hb d_M_give_18 rfl (lv_at hl 2 rfl) ?_
      refine x4_st hx hb hF hs (ix_give7 h1 h2) d_M_give_19 (fun H locs hs => ?_)
      refine lv_aload_n hx hb d_M_give_20 rfl (lv_at hl 0 rfl) ?_
      refine xg_M hx hb hF hs 1 (by decide) k_fl_M_13 rfl d_M_give_21 ?_
      refine lv_iload_n hx hb d_M_give_24 rfl (lv_at hl 1 rfl) ?_
      refine lv_iconst (v := 0) hx hb d_M_give_25 (by decide) ?_
      refine x3_st hx hb hF hs (ix_give7 h1 h2) d_M_give_26 (fun H locs hs => ?_)
      refine lv_aload_n hx hb d_M_give_27 rfl (lv_at hl 0 rfl) ?_
      refine xg_M hx hb hF hs 2 (by decide) k_fl_M_16 rfl d_M_give_28 ?_
      refine lv_iload_n hx hb d_M_give_31 rfl (lv_at hl 1 rfl) ?_
      refine lv_iconst (v := 0) hx hb d_M_give_32 (by decide) ?_
      refine x2_st hx hb hF hs (ix_give7 h1 h2) d_M_give_33 (fun H locs hs => ?_)
      refine lv_iconst (v := 1) hx hb d_M_give_34 (by decide) ?_
      refine hret _ _ _ _ _ _ hs bo_1 ?_ d_M_give_35
      exact (if_neg h1).trans ((if_pos h2).trans rfl)
    · refine lv_iconst (v := 0) hx hb d_M_give_11 (by decide) ?_
      refine hret _ _ _ _ _ _ hs bo_0 ?_ d_M_give_12
      exact (if_neg h1).trans ((if_neg h2).trans rfl)
