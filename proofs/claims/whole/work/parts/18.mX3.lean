def p_X_execute (σ : Mem) (n1 : Int32) : Int32 × Mem :=
  if (n1 &&& (31 : Int32)) = (0 : Int32) then
    let σ1 : Mem := wr σ 5 0 (1 : Int32);
    ((0 : Int32), σ1)
  else
  if (n1 &&& (31 : Int32)) = (11 : Int32) then
    let r2 := p_X_load σ ((((n1).toUInt32 >>> (((5 : Int32)).toUInt32 &&& Int32.toUInt32 31)).toInt32) &&& (7 : Int32)) ((((n1).toUInt32 >>> (((8 : Int32)).toUInt32 &&& Int32.toUInt32 31)).toInt32) &&& (7 : Int32)) (n1 >>> ((14 : Int32) &&& 31));
    if r2.1 = (0 : Int32) then
      let r3 := p_X_branch r2.2 (1 : Int32);
      (r3.1, r3.2)
    else
      (r2.1, r2.2)
  else
  if (n1 &&& (31 : Int32)) = (12 : Int32) then
    let r4 := p_X_store σ ((((n1).toUInt32 >>> (((8 : Int32)).toUInt32 &&& Int32.toUInt32 31)).toInt32) &&& (7 : Int32)) ((((n1).toUInt32 >>> (((11 : Int32)).toUInt32 &&& Int32.toUInt32 31)).toInt32) &&& (7 : Int32)) (n1 >>> ((14 : Int32) &&& 31));
    if r4.1 = (0 : Int32) then
      let r5 := p_X_branch r4.2 (1 : Int32);
      (r5.1, r5.2)
    else
      (r4.1, r4.2)
  else
  if (n1 &&& (31 : Int32)) = (13 : Int32) then
    let r6 := p_X_loadCapability σ ((((n1).toUInt32 >>> (((5 : Int32)).toUInt32 &&& Int32.toUInt32 31)).toInt32) &&& (7 : Int32)) ((((n1).toUInt32 >>> (((8 : Int32)).toUInt32 &&& Int32.toUInt32 31)).toInt32) &&& (7 : Int32)) (n1 >>> ((14 : Int32) &&& 31));
    if r6.1 = (0 : Int32) then
      let r7 := p_X_branch r6.2 (1 : Int32);
      (r7.1, r7.2)
    else
      (r6.1, r6.2)
  else
  if (n1 &&& (31 : Int32)) = (14 : Int32) then
    let r8 := p_X_storeCapability σ ((((n1).toUInt32 >>> (((8 : Int32)).toUInt32 &&& Int32.toUInt32 31)).toInt32) &&& (7 : Int32)) ((((n1).toUInt32 >>> (((11 : Int32)).toUInt32 &&& Int32.toUInt32 31)).toInt32) &&& (7 : Int32)) (n1 >>> ((14 : Int32) &&& 31));
    if r8.1 = (0 : Int32) then
      let r9 := p_X_branch r8.2 (1 : Int32);
      (r9.1, r9.2)
    else
      (r8.1, r8.2)
  else
  if (n1 &&& (31 : Int32)) = (15 : Int32) then
    if (σ 4 (((((n1).toUInt32 >>> (((8 : Int32)).toUInt32 &&& Int32.toUInt32 31)).toInt32) &&& (7 : Int32)).toNatClampNeg)) = (σ 4 (((((n1).toUInt32 >>> (((11 : Int32)).toUInt32 &&& Int32.toUInt32 31)).toInt32) &&& (7 : Int32)).toNatClampNeg)) then
      let r11 := p_X_branch σ (n1 >>> ((14 : Int32) &&& 31));
      (r11.1, r11.2)
    else
      let r10 := p_X_branch σ (1 : Int32);
      (r10.1, r10.2)
  else
  if (n1 &&& (31 : Int32)) = (16 : Int32) then
    if (σ 4 (((((n1).toUInt32 >>> (((11 : Int32)).toUInt32 &&& Int32.toUInt32 31)).toInt32) &&& (7 : Int32)).toNatClampNeg)) ≤ (σ 4 (((((n1).toUInt32 >>> (((8 : Int32)).toUInt32 &&& Int32.toUInt32 31)).toInt32) &&& (7 : Int32)).toNatClampNeg)) then
      let r12 := p_X_branch σ (1 : Int32);
      (r12.1, r12.2)
    else
      let r13 := p_X_branch σ (n1 >>> ((14 : Int32) &&& 31));
      (r13.1, r13.2)
  else
  if (n1 &&& (31 : Int32)) = (17 : Int32) then
    let σ14 : Mem := p_X_writeLink σ ((((n1).toUInt32 >>> (((5 : Int32)).toUInt32 &&& Int32.toUInt32 31)).toInt32) &&& (7 : Int32));
    let r15 := p_X_branch σ14 (n1 >>> ((14 : Int32) &&& 31));
    (r15.1, r15.2)
  else
  if (n1 &&& (31 : Int32)) = (18 : Int32) then
    let r16 := p_X_jump σ ((((n1).toUInt32 >>> (((5 : Int32)).toUInt32 &&& Int32.toUInt32 31)).toInt32) &&& (7 : Int32)) ((((n1).toUInt32 >>> (((8 : Int32)).toUInt32 &&& Int32.toUInt32 31)).toInt32) &&& (7 : Int32));
    (r16.1, r16.2)
  else
  if (n1 &&& (31 : Int32)) = (23 : Int32) then
    let r17 := p_X_seal σ ((((n1).toUInt32 >>> (((5 : Int32)).toUInt32 &&& Int32.toUInt32 31)).toInt32) &&& (7 : Int32)) ((((n1).toUInt32 >>> (((8 : Int32)).toUInt32 &&& Int32.toUInt32 31)).toInt32) &&& (7 : Int32)) ((((n1).toUInt32 >>> (((11 : Int32)).toUInt32 &&& Int32.toUInt32 31)).toInt32) &&& (7 : Int32));
    if r17.1 = (0 : Int32) then
      let r18 := p_X_branch r17.2 (1 : Int32);
      (r18.1, r18.2)
    else
      (r17.1, r17.2)
  else
  if (n1 &&& (31 : Int32)) = (24 : Int32) then
    let r19 := p_X_unseal σ ((((n1).toUInt32 >>> (((5 : Int32)).toUInt32 &&& Int32.toUInt32 31)).toInt32) &&& (7 : Int32)) ((((n1).toUInt32 >>> (((8 : Int32)).toUInt32 &&& Int32.toUInt32 31)).toInt32) &&& (7 : Int32)) ((((n1).toUInt32 >>> (((11 : Int32)).toUInt32 &&& Int32.toUInt32 31)).toInt32) &&& (7 : Int32));
    if r19.1 = (0 : Int32) then
      let r20 := p_X_branch r19.2 (1 : Int32);
      (r20.1, r20.2)
    else
      (r19.1, r19.2)
  else
  if (n1 &&& (31 : Int32)) = (25 : Int32) then
    let σ21 : Mem := p_X_writeNumber σ ((((n1).toUInt32 >>> (((5 : Int32)).toUInt32 &&& Int32.toUInt32 31)).toInt32) &&& (7 : Int32)) (p_X_tell σ (((((n1).toUInt32 >>> (((8 : Int32)).toUInt32 &&& Int32.toUInt32 31)).toInt32) &&& (7 : Int32)).toNatClampNeg) (n1 >>> ((14 : Int32) &&& 31)));
    let r22 := p_X_branch σ21 (1 : Int32);
    (r22.1, r22.2)
  else
  if (n1 &&& (31 : Int32)) = (29 : Int32) then
    let r23 := p_X_swap σ ((((n1).toUInt32 >>> (((5 : Int32)).toUInt32 &&& Int32.toUInt32 31)).toInt32) &&& (7 : Int32)) ((((n1).toUInt32 >>> (((8 : Int32)).toUInt32 &&& Int32.toUInt32 31)).toInt32) &&& (7 : Int32)) (n1 >>> ((14 : Int32) &&& 31));
    if r23.1 = (0 : Int32) then
      let r24 := p_X_branch r23.2 (1 : Int32);
      (r24.1, r24.2)
    else
      (r23.1, r23.2)
  else
  if (n1 &&& (31 : Int32)) = (30 : Int32) then
    ((p_X_trapOf (0 : Int32) (9 : Int32)), σ)
  else
  if (n1 &&& (31 : Int32)) = (31 : Int32) then
    let r25 := p_X_returnFromTrap σ;
    (r25.1, r25.2)
  else
    if (10 : Int32) < (n1 &&& (31 : Int32)) then
      let σ26 : Mem := p_X_derive σ (n1 &&& (31 : Int32)) ((((n1).toUInt32 >>> (((5 : Int32)).toUInt32 &&& Int32.toUInt32 31)).toInt32) &&& (7 : Int32)) (((((n1).toUInt32 >>> (((8 : Int32)).toUInt32 &&& Int32.toUInt32 31)).toInt32) &&& (7 : Int32)).toNatClampNeg) (((((n1).toUInt32 >>> (((11 : Int32)).toUInt32 &&& Int32.toUInt32 31)).toInt32) &&& (7 : Int32)).toNatClampNeg);
      let r27 := p_X_branch σ26 (1 : Int32);
      (r27.1, r27.2)
    else
      let σ28 : Mem := p_X_writeNumber σ ((((n1).toUInt32 >>> (((5 : Int32)).toUInt32 &&& Int32.toUInt32 31)).toInt32) &&& (7 : Int32)) (p_X_compute (n1 &&& (31 : Int32)) (σ 4 (((((n1).toUInt32 >>> (((8 : Int32)).toUInt32 &&& Int32.toUInt32 31)).toInt32) &&& (7 : Int32)).toNatClampNeg)) (σ 4 (((((n1).toUInt32 >>> (((11 : Int32)).toUInt32 &&& Int32.toUInt32 31)).toInt32) &&& (7 : Int32)).toNatClampNeg)) (n1 >>> ((14 : Int32) &&& 31)));
      let r29 := p_X_branch σ28 (1 : Int32);
      (r29.1, r29.2)
set_option maxHeartbeats 4000000 in
set_option maxRecDepth 100000 in
theorem m_X_execute {l : Launch} {D : va_G} {a : Nat → Nat} {cA : Nat → ClassId} {B0 : Nat → Prop} {σ : Mem} {n1 : Int32} : cI l y_X_execute (.code y_X_execute c_X_execute 8 (some FieldType.int) :: TG) (rmO 5 120) D (cwL a cA) (cty cA) B0 [.ref (a 0), .int n1] σ (p_X_execute σ n1) := by
  refine cI_of (by decide) (Nat.le_of_ble_eq_true rfl) ?_
  intro p e s m args below meth c Q ls hx hb hF hl hs hret
  have hl : lv_has ls 8 [(0, .ref (a 0)), (1, .int n1)] := hl
  refine lv_iload_n hx hb d_X_execute_0 rfl (lv_at hl 1 rfl) ?_
  refine lv_bipush (v := 31) hx hb d_X_execute_1 (by decide) ?_
  refine lv_iand hx hb d_X_execute_3 ?_
  refine lv_istore_n (lv' := [(2, _), (0, _), (1, _)]) hx hb d_X_execute_4 rfl hl (by decide) rfl (fun ls hl => ?_)
  refine lv_iload_n hx hb d_X_execute_5 rfl (lv_at hl 2 rfl) ?_
  refine lv_iconst (v := 5) hx hb d_X_execute_6 (by decide) ?_
  refine lv_iushr hx hb d_X_execute_7 rfl ?_
  refine lv_bipush (v := 7) hx hb d_X_execute_8 (by decide) ?_
  refine lv_iand hx hb d_X_execute_10 ?_
  refine lv_istore_n (lv' := [(3, _), (2, _), (0, _), (1, _)]) hx hb d_X_execute_11 rfl hl (by decide) rfl (fun ls hl => ?_)
  refine lv_iload_n hx hb d_X_execute_12 rfl (lv_at hl 3 rfl) ?_
  refine lv_bipush (v := 8) hx hb d_X_execute_13 (by decide) ?_
  refine lv_iushr hx hb d_X_execute_15 rfl ?_
  refine lv_bipush (v := 7) hx hb d_X_execute_16 (by decide) ?_
  refine lv_iand hx hb d_X_execute_18 ?_
  refine lv_istore (lv' := [(4, _), (3, _), (2, _), (0, _), (1, _)]) hx hb d_X_execute_19 hl (by decide) rfl (fun ls hl => ?_)
  refine lv_iload_n hx hb d_X_execute_21 rfl (lv_at hl 4 rfl) ?_
  refine lv_bipush (v := 11) hx hb d_X_execute_22 (by decide) ?_
  refine lv_iushr hx hb d_X_execute_24 rfl ?_
  refine lv_bipush (v := 7) hx hb d_X_execute_25 (by decide) ?_
  refine lv_iand hx hb d_X_execute_27 ?_
  refine lv_istore (lv' := [(5, _), (4, _), (3, _), (2, _), (0, _), (1, _)]) hx hb d_X_execute_28 hl (by decide) rfl (fun ls hl => ?_)
  refine lv_iload_n hx hb d_X_execute_30 rfl (lv_at hl 5 rfl) ?_
  refine lv_bipush (v := 14) hx hb d_X_execute_31 (by decide) ?_
  refine lv_ishr hx hb d_X_execute_33 ?_
  refine lv_istore (lv' := [(6, _), (5, _), (4, _), (3, _), (2, _), (0, _), (1, _)]) hx hb d_X_execute_34 hl (by decide) rfl (fun ls hl => ?_)
  refine lv_iconst (v := 0) hx hb d_X_execute_36 (by decide) ?_
  refine lv_istore (lv' := [(7, _), (6, _), (5, _), (4, _), (3, _), (2, _), (0, _), (1, _)]) hx hb d_X_execute_37 hl (by decide) rfl (fun ls hl => ?_)
  refine lv_iload_n hx hb d_X_execute_39 rfl (lv_at hl 5 rfl) ?_
  by_cases h1 : (n1 &&& (31 : Int32)) = (0 : Int32)
  · refine lv_tableIn (tgt := 184) (off := 144) hx hb d_X_execute_40 (by rw [h1]; decide) (by rw [h1]; decide) (by rw [h1]; rfl) (by decide) ?_
    refine lv_aload_n hx hb d_X_execute_184 rfl (lv_at hl 6 rfl) ?_
    refine lv_iconst (v := 1) hx hb d_X_execute_185 (by decide) ?_
    refine xp_X hx hb hF hs 0 (by decide) k_fl_X_28 d_X_execute_186 (fun H locs hs => ?_)
    refine lv_iconst (v := 0) hx hb d_X_execute_189 (by decide) ?_
    refine hret _ _ _ _ _ _ hs ?_ d_X_execute_190
    exact (if_pos h1).trans rfl
  by_cases h2 : (n1 &&& (31 : Int32)) = (11 : Int32)
  · refine lv_tableIn (tgt := 191) (off := 151) hx hb d_X_execute_40 (by rw [h2]; decide) (by rw [h2]; decide) (by rw [h2]; rfl) (by decide) ?_
    refine lv_aload_n hx hb d_X_execute_191 rfl (lv_at hl 6 rfl) ?_
    refine lv_iload_n hx hb d_X_execute_192 rfl (lv_at hl 4 rfl) ?_
    refine lv_iload hx hb d_X_execute_193 (lv_at hl 3 rfl) ?_
    refine lv_iload hx hb d_X_execute_195 (lv_at hl 1 rfl) ?_
    refine x_Vi hF hs v_X_load k_ml_X_112 (m_X_load (ix_and7 _) (ix_and7 _)) rfl rfl ⟨by decide, by decide⟩ rfl rfl hl.1 (Nat.le_of_ble_eq_true rfl) rX d_X_execute_197 ⟨Nat.zero_le _, Nat.zero_le _⟩ (fun H locs hs => ?_)
    refine lv_istore (lv' := [(7, _), (6, _), (5, _), (4, _), (3, _), (2, _), (0, _), (1, _)]) hx hb d_X_execute_200 hl (by decide) rfl (fun ls hl => ?_)
    refine lv_goto (tgt := 471) hx hb d_X_execute_202 (by decide) ?_
    refine lv_iload hx hb d_X_execute_471 (lv_at hl 0 rfl) ?_
    refine lv_if_ne (tgt := 484) hx hb d_X_execute_473 (by decide) (fun h3 => ?_) (fun h3 => ?_)
    · refine lv_iload hx hb d_X_execute_484 (lv_at hl 0 rfl) ?_
      refine hret _ _ _ _ _ _ hs ?_ d_X_execute_486
      exact (if_neg h1).trans ((if_pos h2).trans ((if_neg h3).trans rfl))
    · refine lv_aload_n hx hb d_X_execute_476 rfl (lv_at hl 6 rfl) ?_
      refine lv_iconst (v := 1) hx hb d_X_execute_477 (by decide) ?_
      refine x_Vi hF hs v_X_branch k_ml_X_125 (m_X_branch) rfl rfl ⟨by decide, by decide⟩ rfl rfl hl.1 (Nat.le_of_ble_eq_true rfl) rX d_X_execute_478 ⟨Nat.zero_le _, Nat.zero_le _⟩ (fun H locs hs => ?_)
      refine lv_goto (tgt := 486) hx hb d_X_execute_481 (by decide) ?_
      refine hret _ _ _ _ _ _ hs ?_ d_X_execute_486
      exact (if_neg h1).trans ((if_pos h2).trans ((if_pos h3).trans rfl))
  by_cases h3 : (n1 &&& (31 : Int32)) = (12 : Int32)
  · refine lv_tableIn (tgt := 205) (off := 165) hx hb d_X_execute_40 (by rw [h3]; decide) (by rw [h3]; decide) (by rw [h3]; rfl) (by decide) ?_
    refine lv_aload_n hx hb d_X_execute_205 rfl (lv_at hl 6 rfl) ?_
    refine lv_iload hx hb d_X_execute_206 (lv_at hl 3 rfl) ?_
    refine lv_iload hx hb d_X_execute_208 (lv_at hl 2 rfl) ?_
    refine lv_iload hx hb d_X_execute_210 (lv_at hl 1 rfl) ?_
    refine x_Vi hF hs v_X_store k_ml_X_116 (m_X_store (ix_and7 _) (ix_and7 _)) rfl rfl ⟨by decide, by decide⟩ rfl rfl hl.1 (Nat.le_of_ble_eq_true rfl) rX d_X_execute_212 ⟨Nat.zero_le _, Nat.zero_le _⟩ (fun H locs hs => ?_)
    refine lv_istore (lv' := [(7, _), (6, _), (5, _), (4, _), (3, _), (2, _), (0, _), (1, _)]) hx hb d_X_execute_215 hl (by decide) rfl (fun ls hl => ?_)
    refine lv_goto (tgt := 471) hx hb d_X_execute_217 (by decide) ?_
    refine lv_iload hx hb d_X_execute_471 (lv_at hl 0 rfl) ?_
    refine lv_if_ne (tgt := 484) hx hb d_X_execute_473 (by decide) (fun h4 => ?_) (fun h4 => ?_)
    · refine lv_iload hx hb d_X_execute_484 (lv_at hl 0 rfl) ?_
      refine hret _ _ _ _ _ _ hs ?_ d_X_execute_486
      exact (if_neg h1).trans ((if_neg h2).trans ((if_pos h3).trans ((if_neg h4).trans rfl)))
    · refine lv_aload_n hx hb d_X_execute_476 rfl (lv_at hl 6 rfl) ?_
      refine lv_iconst (v := 1) hx hb d_X_execute_477 (by decide) ?_
      refine x_Vi hF hs v_X_branch k_ml_X_125 (m_X_branch) rfl rfl ⟨by decide, by decide⟩ rfl rfl hl.1 (Nat.le_of_ble_eq_true rfl) rX d_X_execute_478 ⟨Nat.zero_le _, Nat.zero_le _⟩ (fun H locs hs => ?_)
      refine lv_goto (tgt := 486) hx hb d_X_execute_481 (by decide) ?_
      refine hret _ _ _ _ _ _ hs ?_ d_X_execute_486
      exact (if_neg h1).trans ((if_neg h2).trans ((if_pos h3).trans ((if_pos h4).trans rfl)))
  by_cases h4 : (n1 &&& (31 : Int32)) = (13 : Int32)
  · refine lv_tableIn (tgt := 220) (off := 180) hx hb d_X_execute_40 (by rw [h4]; decide) (by rw [h4]; decide) (by rw [h4]; rfl) (by decide) ?_
    refine lv_aload_n hx hb d_X_execute_220 rfl (lv_at hl 6 rfl) ?_
    refine lv_iload_n hx hb d_X_execute_221 rfl (lv_at hl 4 rfl) ?_
    refine lv_iload hx hb d_X_execute_222 (lv_at hl 3 rfl) ?_
    refine lv_iload hx hb d_X_execute_224 (lv_at hl 1 rfl) ?_
    refine x_Vi hF hs v_X_loadCapability k_ml_X_119 (m_X_loadCapability (ix_and7 _) (ix_and7 _)) rfl rfl ⟨by decide, by decide⟩ rfl rfl hl.1 (Nat.le_of_ble_eq_true rfl) rX d_X_execute_226 ⟨Nat.zero_le _, Nat.zero_le _⟩ (fun H locs hs => ?_)
    refine lv_istore (lv' := [(7, _), (6, _), (5, _), (4, _), (3, _), (2, _), (0, _), (1, _)]) hx hb d_X_execute_229 hl (by decide) rfl (fun ls hl => ?_)
    refine lv_goto (tgt := 471) hx hb d_X_execute_231 (by decide) ?_
    refine lv_iload hx hb d_X_execute_471 (lv_at hl 0 rfl) ?_
    refine lv_if_ne (tgt := 484) hx hb d_X_execute_473 (by decide) (fun h5 => ?_) (fun h5 => ?_)
    · refine lv_iload hx hb d_X_execute_484 (lv_at hl 0 rfl) ?_
      refine hret _ _ _ _ _ _ hs ?_ d_X_execute_486
      exact (if_neg h1).trans ((if_neg h2).trans ((if_neg h3).trans ((if_pos h4).trans ((if_neg h5).trans rfl))))
    · refine lv_aload_n hx hb d_X_execute_476 rfl (lv_at hl 6 rfl) ?_
      refine lv_iconst (v := 1) hx hb d_X_execute_477 (by decide) ?_
      refine x_Vi hF hs v_X_branch k_ml_X_125 (m_X_branch) rfl rfl ⟨by decide, by decide⟩ rfl rfl hl.1 (Nat.le_of_ble_eq_true rfl) rX d_X_execute_478 ⟨Nat.zero_le _, Nat.zero_le _⟩ (fun H locs hs => ?_)
      refine lv_goto (tgt := 486) hx hb d_X_execute_481 (by decide) ?_
      refine hret _ _ _ _ _ _ hs ?_ d_X_execute_486
      exact (if_neg h1).trans ((if_neg h2).trans ((if_neg h3).trans ((if_pos h4).trans ((if_pos h5).trans rfl))))
  by_cases h5 : (n1 &&& (31 : Int32)) = (14 : Int32)
  · refine lv_tableIn (tgt := 234) (off := 194) hx hb d_X_execute_40 (by rw [h5]; decide) (by rw [h5]; decide) (by rw [h5]; rfl) (by decide) ?_
    refine lv_aload_n hx hb d_X_execute_234 rfl (lv_at hl 6 rfl) ?_
    refine lv_iload hx hb d_X_execute_235 (lv_at hl 3 rfl) ?_
    refine lv_iload hx hb d_X_execute_237 (lv_at hl 2 rfl) ?_
    refine lv_iload hx hb d_X_execute_239 (lv_at hl 1 rfl) ?_
    refine x_Vi hF hs v_X_storeCapability k_ml_X_122 (m_X_storeCapability (ix_and7 _) (ix_and7 _)) rfl rfl ⟨by decide, by decide⟩ rfl rfl hl.1 (Nat.le_of_ble_eq_true rfl) rX d_X_execute_241 ⟨Nat.zero_le _, Nat.zero_le _⟩ (fun H locs hs => ?_)
    refine lv_istore (lv' := [(7, _), (6, _), (5, _), (4, _), (3, _), (2, _), (0, _), (1, _)]) hx hb d_X_execute_244 hl (by decide) rfl (fun ls hl => ?_)
    refine lv_goto (tgt := 471) hx hb d_X_execute_246 (by decide) ?_
    refine lv_iload hx hb d_X_execute_471 (lv_at hl 0 rfl) ?_
    refine lv_if_ne (tgt := 484) hx hb d_X_execute_473 (by decide) (fun h6 => ?_) (fun h6 => ?_)
    · refine lv_iload hx hb d_X_execute_484 (lv_at hl 0 rfl) ?_
      refine hret _ _ _ _ _ _ hs ?_ d_X_execute_486
      exact (if_neg h1).trans ((if_neg h2).trans ((if_neg h3).trans ((if_neg h4).trans ((if_pos h5).trans ((if_neg h6).trans rfl)))))
    · refine lv_aload_n hx hb d_X_execute_476 rfl (lv_at hl 6 rfl) ?_
      refine lv_iconst (v := 1) hx hb d_X_execute_477 (by decide) ?_
      refine x_Vi hF hs v_X_branch k_ml_X_125 (m_X_branch) rfl rfl ⟨by decide, by decide⟩ rfl rfl hl.1 (Nat.le_of_ble_eq_true rfl) rX d_X_execute_478 ⟨Nat.zero_le _, Nat.zero_le _⟩ (fun H locs hs => ?_)
      refine lv_goto (tgt := 486) hx hb d_X_execute_481 (by decide) ?_
      refine hret _ _ _ _ _ _ hs ?_ d_X_execute_486
      exact (if_neg h1).trans ((if_neg h2).trans ((if_neg h3).trans ((if_neg h4).trans ((if_pos h5).trans ((if_pos h6).trans rfl)))))
  by_cases h6 : (n1 &&& (31 : Int32)) = (15 : Int32)
  · refine lv_tableIn (tgt := 249) (off := 209) hx hb d_X_execute_40 (by rw [h6]; decide) (by rw [h6]; decide) (by rw [h6]; rfl) (by decide) ?_
    refine lv_aload_n hx hb d_X_execute_249 rfl (lv_at hl 6 rfl) ?_
    refine lv_aload_n hx hb d_X_execute_250 rfl (lv_at hl 6 rfl) ?_
    refine xg_X hx hb hF hs 2 (by decide) k_fl_X_19 rfl d_X_execute_251 ?_
    refine lv_iload hx hb d_X_execute_254 (lv_at hl 3 rfl) ?_
    refine xr_ld hx hb hF hs (ix_and7 _) d_X_execute_256 ?_
    refine xg_N4 hx hb hF hs (in13 (ix_and7 _)) d_X_execute_257 ?_
    refine lv_aload_n hx hb d_X_execute_260 rfl (lv_at hl 6 rfl) ?_
    refine xg_X hx hb hF hs 2 (by decide) k_fl_X_19 rfl d_X_execute_261 ?_
    refine lv_iload hx hb d_X_execute_264 (lv_at hl 2 rfl) ?_
    refine xr_ld hx hb hF hs (ix_and7 _) d_X_execute_266 ?_
    refine xg_N4 hx hb hF hs (in13 (ix_and7 _)) d_X_execute_267 ?_
    refine lv_icmp_ne (tgt := 278) hx hb d_X_execute_270 (by decide) (fun h7 => ?_) (fun h7 => ?_)
    · refine lv_iconst (v := 1) hx hb d_X_execute_278 (by decide) ?_
      refine x_Vi hF hs v_X_branch k_ml_X_125 (m_X_branch) rfl rfl ⟨by decide, by decide⟩ rfl rfl hl.1 (Nat.le_of_ble_eq_true rfl) rX d_X_execute_279 ⟨Nat.zero_le _, Nat.zero_le _⟩ (fun H locs hs => ?_)
      refine hret _ _ _ _ _ _ hs ?_ d_X_execute_282
      exact (if_neg h1).trans ((if_neg h2).trans ((if_neg h3).trans ((if_neg h4).trans ((if_neg h5).trans ((if_pos h6).trans ((if_neg h7).trans rfl))))))
    · refine lv_iload hx hb d_X_execute_273 (lv_at hl 1 rfl) ?_
      refine lv_goto (tgt := 279) hx hb d_X_execute_275 (by decide) ?_
      refine x_Vi hF hs v_X_branch k_ml_X_125 (m_X_branch) rfl rfl ⟨by decide, by decide⟩ rfl rfl hl.1 (Nat.le_of_ble_eq_true rfl) rX d_X_execute_279 ⟨Nat.zero_le _, Nat.zero_le _⟩ (fun H locs hs => ?_)
      refine hret _ _ _ _ _ _ hs ?_ d_X_execute_282
      exact (if_neg h1).trans ((if_neg h2).trans ((if_neg h3).trans ((if_neg h4).trans ((if_neg h5).trans ((if_pos h6).trans ((if_pos h7).trans rfl))))))
  by_cases h7 : (n1 &&& (31 : Int32)) = (16 : Int32)
  · refine lv_tableIn (tgt := 283) (off := 243) hx hb d_X_execute_40 (by rw [h7]; decide) (by rw [h7]; decide) (by rw [h7]; rfl) (by decide) ?_
    refine lv_aload_n hx hb d_X_execute_283 rfl (lv_at hl 6 rfl) ?_
    refine lv_aload_n hx hb d_X_execute_284 rfl (lv_at hl 6 rfl) ?_
    refine xg_X hx hb hF hs 2 (by decide) k_fl_X_19 rfl d_X_execute_285 ?_
    refine lv_iload hx hb d_X_execute_288 (lv_at hl 3 rfl) ?_
    refine xr_ld hx hb hF hs (ix_and7 _) d_X_execute_290 ?_
    refine xg_N4 hx hb hF hs (in13 (ix_and7 _)) d_X_execute_291 ?_
    refine lv_aload_n hx hb d_X_execute_294 rfl (lv_at hl 6 rfl) ?_
    refine xg_X hx hb hF hs 2 (by decide) k_fl_X_19 rfl d_X_execute_295 ?_
    refine lv_iload hx hb d_X_execute_298 (lv_at hl 2 rfl) ?_
    refine xr_ld hx hb hF hs (ix_and7 _) d_X_execute_300 ?_
    refine xg_N4 hx hb hF hs (in13 (ix_and7 _)) d_X_execute_301 ?_
    refine lv_icmp_ge (tgt := 312) hx hb d_X_execute_304 (by decide) (fun h8 => ?_) (fun h8 => ?_)
    · refine lv_iconst (v := 1) hx hb d_X_execute_312 (by decide) ?_
      refine x_Vi hF hs v_X_branch k_ml_X_125 (m_X_branch) rfl rfl ⟨by decide, by decide⟩ rfl rfl hl.1 (Nat.le_of_ble_eq_true rfl) rX d_X_execute_313 ⟨Nat.zero_le _, Nat.zero_le _⟩ (fun H locs hs => ?_)
      refine hret _ _ _ _ _ _ hs ?_ d_X_execute_316
      exact (if_neg h1).trans ((if_neg h2).trans ((if_neg h3).trans ((if_neg h4).trans ((if_neg h5).trans ((if_neg h6).trans ((if_pos h7).trans ((if_pos h8).trans rfl)))))))
    · refine lv_iload hx hb d_X_execute_307 (lv_at hl 1 rfl) ?_
      refine lv_goto (tgt := 313) hx hb d_X_execute_309 (by decide) ?_
      refine x_Vi hF hs v_X_branch k_ml_X_125 (m_X_branch) rfl rfl ⟨by decide, by decide⟩ rfl rfl hl.1 (Nat.le_of_ble_eq_true rfl) rX d_X_execute_313 ⟨Nat.zero_le _, Nat.zero_le _⟩ (fun H locs hs => ?_)
      refine hret _ _ _ _ _ _ hs ?_ d_X_execute_316
      exact (if_neg h1).trans ((if_neg h2).trans ((if_neg h3).trans ((if_neg h4).trans ((if_neg h5).trans ((if_neg h6).trans ((if_pos h7).trans ((if_neg h8).trans rfl)))))))
  by_cases h8 : (n1 &&& (31 : Int32)) = (17 : Int32)
  · refine lv_tableIn (tgt := 317) (off := 277) hx hb d_X_execute_40 (by rw [h8]; decide) (by rw [h8]; decide) (by rw [h8]; rfl) (by decide) ?_
    refine lv_aload_n hx hb d_X_execute_317 rfl (lv_at hl 6 rfl) ?_
    refine lv_iload_n hx hb d_X_execute_318 rfl (lv_at hl 4 rfl) ?_
    refine x_Vv hF hs v_X_writeLink k_ml_X_128 (m_X_writeLink (ix_and7 _)) rfl rfl ⟨by decide, by decide⟩ rfl rfl hl.1 (Nat.le_of_ble_eq_true rfl) rX d_X_execute_319 ⟨Nat.zero_le _, Nat.zero_le _⟩ (fun H locs hs => ?_)
    refine lv_aload_n hx hb d_X_execute_322 rfl (lv_at hl 6 rfl) ?_
    refine lv_iload hx hb d_X_execute_323 (lv_at hl 1 rfl) ?_
    refine x_Vi hF hs v_X_branch k_ml_X_125 (m_X_branch) rfl rfl ⟨by decide, by decide⟩ rfl rfl hl.1 (Nat.le_of_ble_eq_true rfl) rX d_X_execute_325 ⟨Nat.zero_le _, Nat.zero_le _⟩ (fun H locs hs => ?_)
    refine hret _ _ _ _ _ _ hs ?_ d_X_execute_328
    exact (if_neg h1).trans ((if_neg h2).trans ((if_neg h3).trans ((if_neg h4).trans ((if_neg h5).trans ((if_neg h6).trans ((if_neg h7).trans ((if_pos h8).trans rfl)))))))
  by_cases h9 : (n1 &&& (31 : Int32)) = (18 : Int32)
  · refine lv_tableIn (tgt := 329) (off := 289) hx hb d_X_execute_40 (by rw [h9]; decide) (by rw [h9]; decide) (by rw [h9]; rfl) (by decide) ?_
    refine lv_aload_n hx hb d_X_execute_329 rfl (lv_at hl 6 rfl) ?_
    refine lv_iload_n hx hb d_X_execute_330 rfl (lv_at hl 4 rfl) ?_
    refine lv_iload hx hb d_X_execute_331 (lv_at hl 3 rfl) ?_
    refine x_Vi hF hs v_X_jump k_ml_X_131 (m_X_jump (ix_and7 _) (ix_and7 _)) rfl rfl ⟨by decide, by decide⟩ rfl rfl hl.1 (Nat.le_of_ble_eq_true rfl) rX d_X_execute_333 ⟨Nat.zero_le _, Nat.zero_le _⟩ (fun H locs hs => ?_)
    refine hret _ _ _ _ _ _ hs ?_ d_X_execute_336
    exact (if_neg h1).trans ((if_neg h2).trans ((if_neg h3).trans ((if_neg h4).trans ((if_neg h5).trans ((if_neg h6).trans ((if_neg h7).trans ((if_neg h8).trans ((if_pos h9).trans rfl))))))))
  by_cases h10 : (n1 &&& (31 : Int32)) = (23 : Int32)
  · refine lv_tableIn (tgt := 337) (off := 297) hx hb d_X_execute_40 (by rw [h10]; decide) (by rw [h10]; decide) (by rw [h10]; rfl) (by decide) ?_
    refine lv_aload_n hx hb d_X_execute_337 rfl (lv_at hl 6 rfl) ?_
    refine lv_iload_n hx hb d_X_execute_338 rfl (lv_at hl 4 rfl) ?_
    refine lv_iload hx hb d_X_execute_339 (lv_at hl 3 rfl) ?_
    refine lv_iload hx hb d_X_execute_341 (lv_at hl 2 rfl) ?_
    refine x_Vi hF hs v_X_seal k_ml_X_134 (m_X_seal (ix_and7 _) (ix_and7 _) (ix_and7 _)) rfl rfl ⟨by decide, by decide⟩ rfl rfl hl.1 (Nat.le_of_ble_eq_true rfl) rX d_X_execute_343 ⟨Nat.zero_le _, Nat.zero_le _⟩ (fun H locs hs => ?_)
    refine lv_istore (lv' := [(7, _), (6, _), (5, _), (4, _), (3, _), (2, _), (0, _), (1, _)]) hx hb d_X_execute_346 hl (by decide) rfl (fun ls hl => ?_)
    refine lv_goto (tgt := 471) hx hb d_X_execute_348 (by decide) ?_
    refine lv_iload hx hb d_X_execute_471 (lv_at hl 0 rfl) ?_
    refine lv_if_ne (tgt := 484) hx hb d_X_execute_473 (by decide) (fun h11 => ?_) (fun h11 => ?_)
    · refine lv_iload hx hb d_X_execute_484 (lv_at hl 0 rfl) ?_
      refine hret _ _ _ _ _ _ hs ?_ d_X_execute_486
      exact (if_neg h1).trans ((if_neg h2).trans ((if_neg h3).trans ((if_neg h4).trans ((if_neg h5).trans ((if_neg h6).trans ((if_neg h7).trans ((if_neg h8).trans ((if_neg h9).trans ((if_pos h10).trans ((if_neg h11).trans rfl))))))))))
    · refine lv_aload_n hx hb d_X_execute_476 rfl (lv_at hl 6 rfl) ?_
      refine lv_iconst (v := 1) hx hb d_X_execute_477 (by decide) ?_
      refine x_Vi hF hs v_X_branch k_ml_X_125 (m_X_branch) rfl rfl ⟨by decide, by decide⟩ rfl rfl hl.1 (Nat.le_of_ble_eq_true rfl) rX d_X_execute_478 ⟨Nat.zero_le _, Nat.zero_le _⟩ (fun H locs hs => ?_)
      refine lv_goto (tgt := 486) hx hb d_X_execute_481 (by decide) ?_
      refine hret _ _ _ _ _ _ hs ?_ d_X_execute_486
      exact (if_neg h1).trans ((if_neg h2).trans ((if_neg h3).trans ((if_neg h4).trans ((if_neg h5).trans ((if_neg h6).trans ((if_neg h7).trans ((if_neg h8).trans ((if_neg h9).trans ((if_pos h10).trans ((if_pos h11).trans rfl))))))))))
  by_cases h11 : (n1 &&& (31 : Int32)) = (24 : Int32)
  · refine lv_tableIn (tgt := 351) (off := 311) hx hb d_X_execute_40 (by rw [h11]; decide) (by rw [h11]; decide) (by rw [h11]; rfl) (by decide) ?_
    refine lv_aload_n hx hb d_X_execute_351 rfl (lv_at hl 6 rfl) ?_
    refine lv_iload_n hx hb d_X_execute_352 rfl (lv_at hl 4 rfl) ?_
    refine lv_iload hx hb d_X_execute_353 (lv_at hl 3 rfl) ?_
    refine lv_iload hx hb d_X_execute_355 (lv_at hl 2 rfl) ?_
    refine x_Vi hF hs v_X_unseal k_ml_X_137 (m_X_unseal (ix_and7 _) (ix_and7 _) (ix_and7 _)) rfl rfl ⟨by decide, by decide⟩ rfl rfl hl.1 (Nat.le_of_ble_eq_true rfl) rX d_X_execute_357 ⟨Nat.zero_le _, Nat.zero_le _⟩ (fun H locs hs => ?_)
    refine lv_istore (lv' := [(7, _), (6, _), (5, _), (4, _), (3, _), (2, _), (0, _), (1, _)]) hx hb d_X_execute_360 hl (by decide) rfl (fun ls hl => ?_)
    refine lv_goto (tgt := 471) hx hb d_X_execute_362 (by decide) ?_
    refine lv_iload hx hb d_X_execute_471 (lv_at hl 0 rfl) ?_
    refine lv_if_ne (tgt := 484) hx hb d_X_execute_473 (by decide) (fun h12 => ?_) (fun h12 => ?_)
    · refine lv_iload hx hb d_X_execute_484 (lv_at hl 0 rfl) ?_
      refine hret _ _ _ _ _ _ hs ?_ d_X_execute_486
      exact (if_neg h1).trans ((if_neg h2).trans ((if_neg h3).trans ((if_neg h4).trans ((if_neg h5).trans ((if_neg h6).trans ((if_neg h7).trans ((if_neg h8).trans ((if_neg h9).trans ((if_neg h10).trans ((if_pos h11).trans ((if_neg h12).trans rfl)))))))))))
    · refine lv_aload_n hx hb d_X_execute_476 rfl (lv_at hl 6 rfl) ?_
      refine lv_iconst (v := 1) hx hb d_X_execute_477 (by decide) ?_
      refine x_Vi hF hs v_X_branch k_ml_X_125 (m_X_branch) rfl rfl ⟨by decide, by decide⟩ rfl rfl hl.1 (Nat.le_of_ble_eq_true rfl) rX d_X_execute_478 ⟨Nat.zero_le _, Nat.zero_le _⟩ (fun H locs hs => ?_)
      refine lv_goto (tgt := 486) hx hb d_X_execute_481 (by decide) ?_
      refine hret _ _ _ _ _ _ hs ?_ d_X_execute_486
      exact (if_neg h1).trans ((if_neg h2).trans ((if_neg h3).trans ((if_neg h4).trans ((if_neg h5).trans ((if_neg h6).trans ((if_neg h7).trans ((if_neg h8).trans ((if_neg h9).trans ((if_neg h10).trans ((if_pos h11).trans ((if_pos h12).trans rfl)))))))))))
  by_cases h12 : (n1 &&& (31 : Int32)) = (25 : Int32)
  · refine lv_tableIn (tgt := 365) (off := 325) hx hb d_X_execute_40 (by rw [h12]; decide) (by rw [h12]; decide) (by rw [h12]; rfl) (by decide) ?_
    refine lv_aload_n hx hb d_X_execute_365 rfl (lv_at hl 6 rfl) ?_
    refine lv_iload_n hx hb d_X_execute_366 rfl (lv_at hl 4 rfl) ?_
    refine lv_aload_n hx hb d_X_execute_367 rfl (lv_at hl 6 rfl) ?_
    refine xg_X hx hb hF hs 2 (by decide) k_fl_X_19 rfl d_X_execute_368 ?_
    refine lv_iload hx hb d_X_execute_371 (lv_at hl 3 rfl) ?_
    refine xr_ld hx hb hF hs (ix_and7 _) d_X_execute_373 ?_
    refine lv_iload hx hb d_X_execute_374 (lv_at hl 1 rfl) ?_
    refine x_Sip hF hs v_X_tell k_ml_X_140 (m_X_tell (in13 (ix_and7 _))) rfl rfl ⟨by decide, by decide⟩ rfl rfl hl.1 (Nat.le_of_ble_eq_true rfl) d_X_execute_376 ⟨Nat.zero_le _, Nat.zero_le _⟩ (fun H locs hs => ?_)
    refine x_Vv hF hs v_X_writeNumber k_ml_X_79 (m_X_writeNumber (ix_and7 _)) rfl rfl ⟨by decide, by decide⟩ rfl rfl hl.1 (Nat.le_of_ble_eq_true rfl) rX d_X_execute_379 ⟨Nat.zero_le _, Nat.zero_le _⟩ (fun H locs hs => ?_)
    refine lv_goto (tgt := 471) hx hb d_X_execute_382 (by decide) ?_
    refine lv_iload hx hb d_X_execute_471 (lv_at hl 0 rfl) ?_
    refine lv_if_ne (tgt := 484) hx hb d_X_execute_473 (by decide) (fun h => absurd h (by decide)) (fun _ => ?_)
    refine lv_aload_n hx hb d_X_execute_476 rfl (lv_at hl 6 rfl) ?_
    refine lv_iconst (v := 1) hx hb d_X_execute_477 (by decide) ?_
    refine x_Vi hF hs v_X_branch k_ml_X_125 (m_X_branch) rfl rfl ⟨by decide, by decide⟩ rfl rfl hl.1 (Nat.le_of_ble_eq_true rfl) rX d_X_execute_478 ⟨Nat.zero_le _, Nat.zero_le _⟩ (fun H locs hs => ?_)
    refine lv_goto (tgt := 486) hx hb d_X_execute_481 (by decide) ?_
    refine hret _ _ _ _ _ _ hs ?_ d_X_execute_486
    exact (if_neg h1).trans ((if_neg h2).trans ((if_neg h3).trans ((if_neg h4).trans ((if_neg h5).trans ((if_neg h6).trans ((if_neg h7).trans ((if_neg h8).trans ((if_neg h9).trans ((if_neg h10).trans ((if_neg h11).trans ((if_pos h12).trans rfl)))))))))))
  by_cases h13 : (n1 &&& (31 : Int32)) = (29 : Int32)
  · refine lv_tableIn (tgt := 385) (off := 345) hx hb d_X_execute_40 (by rw [h13]; decide) (by rw [h13]; decide) (by rw [h13]; rfl) (by decide) ?_
    refine lv_aload_n hx hb d_X_execute_385 rfl (lv_at hl 6 rfl) ?_
    refine lv_iload_n hx hb d_X_execute_386 rfl (lv_at hl 4 rfl) ?_
    refine lv_iload hx hb d_X_execute_387 (lv_at hl 3 rfl) ?_
    refine lv_iload hx hb d_X_execute_389 (lv_at hl 1 rfl) ?_
    refine x_Vi hF hs v_X_swap k_ml_X_144 (m_X_swap (ix_and7 _) (ix_and7 _)) rfl rfl ⟨by decide, by decide⟩ rfl rfl hl.1 (Nat.le_of_ble_eq_true rfl) rX d_X_execute_391 ⟨Nat.zero_le _, Nat.zero_le _⟩ (fun H locs hs => ?_)
    refine lv_istore (lv' := [(7, _), (6, _), (5, _), (4, _), (3, _), (2, _), (0, _), (1, _)]) hx hb d_X_execute_394 hl (by decide) rfl (fun ls hl => ?_)
    refine lv_goto (tgt := 471) hx hb d_X_execute_396 (by decide) ?_
    refine lv_iload hx hb d_X_execute_471 (lv_at hl 0 rfl) ?_
    refine lv_if_ne (tgt := 484) hx hb d_X_execute_473 (by decide) (fun h14 => ?_) (fun h14 => ?_)
    · refine lv_iload hx hb d_X_execute_484 (lv_at hl 0 rfl) ?_
      refine hret _ _ _ _ _ _ hs ?_ d_X_execute_486
      exact (if_neg h1).trans ((if_neg h2).trans ((if_neg h3).trans ((if_neg h4).trans ((if_neg h5).trans ((if_neg h6).trans ((if_neg h7).trans ((if_neg h8).trans ((if_neg h9).trans ((if_neg h10).trans ((if_neg h11).trans ((if_neg h12).trans ((if_pos h13).trans ((if_neg h14).trans rfl)))))))))))))
    · refine lv_aload_n hx hb d_X_execute_476 rfl (lv_at hl 6 rfl) ?_
      refine lv_iconst (v := 1) hx hb d_X_execute_477 (by decide) ?_
      refine x_Vi hF hs v_X_branch k_ml_X_125 (m_X_branch) rfl rfl ⟨by decide, by decide⟩ rfl rfl hl.1 (Nat.le_of_ble_eq_true rfl) rX d_X_execute_478 ⟨Nat.zero_le _, Nat.zero_le _⟩ (fun H locs hs => ?_)
      refine lv_goto (tgt := 486) hx hb d_X_execute_481 (by decide) ?_
      refine hret _ _ _ _ _ _ hs ?_ d_X_execute_486
      exact (if_neg h1).trans ((if_neg h2).trans ((if_neg h3).trans ((if_neg h4).trans ((if_neg h5).trans ((if_neg h6).trans ((if_neg h7).trans ((if_neg h8).trans ((if_neg h9).trans ((if_neg h10).trans ((if_neg h11).trans ((if_neg h12).trans ((if_pos h13).trans ((if_pos h14).trans rfl)))))))))))))
  by_cases h14 : (n1 &&& (31 : Int32)) = (30 : Int32)
  · refine lv_tableIn (tgt := 399) (off := 359) hx hb d_X_execute_40 (by rw [h14]; decide) (by rw [h14]; decide) (by rw [h14]; rfl) (by decide) ?_
    refine lv_iconst (v := 0) hx hb d_X_execute_399 (by decide) ?_
    refine lv_bipush (v := 9) hx hb d_X_execute_400 (by decide) ?_
    refine x_Sip hF hs v_X_trapOf k_ml_X_106 (m_X_trapOf) rfl rfl ⟨by decide, by decide⟩ rfl rfl hl.1 (Nat.le_of_ble_eq_true rfl) d_X_execute_402 ⟨Nat.zero_le _, Nat.zero_le _⟩ (fun H locs hs => ?_)
    refine hret _ _ _ _ _ _ hs ?_ d_X_execute_405
    exact (if_neg h1).trans ((if_neg h2).trans ((if_neg h3).trans ((if_neg h4).trans ((if_neg h5).trans ((if_neg h6).trans ((if_neg h7).trans ((if_neg h8).trans ((if_neg h9).trans ((if_neg h10).trans ((if_neg h11).trans ((if_neg h12).trans ((if_neg h13).trans ((if_pos h14).trans rfl)))))))))))))
  by_cases h15 : (n1 &&& (31 : Int32)) = (31 : Int32)
  · refine lv_tableIn (tgt := 406) (off := 366) hx hb d_X_execute_40 (by rw [h15]; decide) (by rw [h15]; decide) (by rw [h15]; rfl) (by decide) ?_
    refine lv_aload_n hx hb d_X_execute_406 rfl (lv_at hl 6 rfl) ?_
    refine x_Vi hF hs v_X_returnFromTrap k_ml_X_147 (m_X_returnFromTrap) rfl rfl ⟨by decide, by decide⟩ rfl rfl hl.1 (Nat.le_of_ble_eq_true rfl) rX d_X_execute_407 ⟨Nat.zero_le _, Nat.zero_le _⟩ (fun H locs hs => ?_)
    refine hret _ _ _ _ _ _ hs ?_ d_X_execute_410
    exact (if_neg h1).trans ((if_neg h2).trans ((if_neg h3).trans ((if_neg h4).trans ((if_neg h5).trans ((if_neg h6).trans ((if_neg h7).trans ((if_neg h8).trans ((if_neg h9).trans ((if_neg h10).trans ((if_neg h11).trans ((if_neg h12).trans ((if_neg h13).trans ((if_neg h14).trans ((if_pos h15).trans rfl))))))))))))))
  refine x_tabD (tgt := 411) hx hb [0, 11, 12, 13, 14, 15, 16, 17, 18, 23, 24, 25, 29, 30, 31] d_X_execute_40 (List.forall_mem_cons.mpr ⟨lv_neT h1 (by decide), List.forall_mem_cons.mpr ⟨lv_neT h2 (by decide), List.forall_mem_cons.mpr ⟨lv_neT h3 (by decide), List.forall_mem_cons.mpr ⟨lv_neT h4 (by decide), List.forall_mem_cons.mpr ⟨lv_neT h5 (by decide), List.forall_mem_cons.mpr ⟨lv_neT h6 (by decide), List.forall_mem_cons.mpr ⟨lv_neT h7 (by decide), List.forall_mem_cons.mpr ⟨lv_neT h8 (by decide), List.forall_mem_cons.mpr ⟨lv_neT h9 (by decide), List.forall_mem_cons.mpr ⟨lv_neT h10 (by decide), List.forall_mem_cons.mpr ⟨lv_neT h11 (by decide), List.forall_mem_cons.mpr ⟨lv_neT h12 (by decide), List.forall_mem_cons.mpr ⟨lv_neT h13 (by decide), List.forall_mem_cons.mpr ⟨lv_neT h14 (by decide), List.forall_mem_cons.mpr ⟨lv_neT h15 (by decide), fun _ z => absurd z List.not_mem_nil⟩⟩⟩⟩⟩⟩⟩⟩⟩⟩⟩⟩⟩⟩⟩) (by decide) (by decide) (by decide) ?_
  refine lv_iload_n hx hb d_X_execute_411 rfl (lv_at hl 5 rfl) ?_
  refine lv_bipush (v := 10) hx hb d_X_execute_412 (by decide) ?_
  refine lv_icmp_gt (tgt := 451) hx hb d_X_execute_414 (by decide) (fun h16 => ?_) (fun h16 => ?_)
  · refine lv_aload_n hx hb d_X_execute_451 rfl (lv_at hl 6 rfl) ?_
    refine lv_iload_n hx hb d_X_execute_452 rfl (lv_at hl 5 rfl) ?_
    refine lv_iload_n hx hb d_X_execute_453 rfl (lv_at hl 4 rfl) ?_
    refine lv_aload_n hx hb d_X_execute_454 rfl (lv_at hl 6 rfl) ?_
    refine xg_X hx hb hF hs 2 (by decide) k_fl_X_19 rfl d_X_execute_455 ?_
    refine lv_iload hx hb d_X_execute_458 (lv_at hl 3 rfl) ?_
    refine xr_ld hx hb hF hs (ix_and7 _) d_X_execute_460 ?_
    refine lv_aload_n hx hb d_X_execute_461 rfl (lv_at hl 6 rfl) ?_
    refine xg_X hx hb hF hs 2 (by decide) k_fl_X_19 rfl d_X_execute_462 ?_
    refine lv_iload hx hb d_X_execute_465 (lv_at hl 2 rfl) ?_
    refine xr_ld hx hb hF hs (ix_and7 _) d_X_execute_467 ?_
    refine x_Vv hF hs v_X_derive k_ml_X_154 (m_X_derive (in13 (ix_and7 _)) (in13 (ix_and7 _)) (ix_and7 _)) rfl rfl ⟨by decide, by decide⟩ rfl rfl hl.1 (Nat.le_of_ble_eq_true rfl) rX d_X_execute_468 ⟨Nat.zero_le _, Nat.zero_le _⟩ (fun H locs hs => ?_)
    refine lv_iload hx hb d_X_execute_471 (lv_at hl 0 rfl) ?_
    refine lv_if_ne (tgt := 484) hx hb d_X_execute_473 (by decide) (fun h => absurd h (by decide)) (fun _ => ?_)
    refine lv_aload_n hx hb d_X_execute_476 rfl (lv_at hl 6 rfl) ?_
    refine lv_iconst (v := 1) hx hb d_X_execute_477 (by decide) ?_
    refine x_Vi hF hs v_X_branch k_ml_X_125 (m_X_branch) rfl rfl ⟨by decide, by decide⟩ rfl rfl hl.1 (Nat.le_of_ble_eq_true rfl) rX d_X_execute_478 ⟨Nat.zero_le _, Nat.zero_le _⟩ (fun H locs hs => ?_)
    refine lv_goto (tgt := 486) hx hb d_X_execute_481 (by decide) ?_
    refine hret _ _ _ _ _ _ hs ?_ d_X_execute_486
    exact (if_neg h1).trans ((if_neg h2).trans ((if_neg h3).trans ((if_neg h4).trans ((if_neg h5).trans ((if_neg h6).trans ((if_neg h7).trans ((if_neg h8).trans ((if_neg h9).trans ((if_neg h10).trans ((if_neg h11).trans ((if_neg h12).trans ((if_neg h13).trans ((if_neg h14).trans ((if_neg h15).trans ((if_pos h16).trans rfl)))))))))))))))
  · refine lv_aload_n hx hb d_X_execute_417 rfl (lv_at hl 6 rfl) ?_
    refine lv_iload_n hx hb d_X_execute_418 rfl (lv_at hl 4 rfl) ?_
    refine lv_iload_n hx hb d_X_execute_419 rfl (lv_at hl 5 rfl) ?_
    refine lv_aload_n hx hb d_X_execute_420 rfl (lv_at hl 6 rfl) ?_
    refine xg_X hx hb hF hs 2 (by decide) k_fl_X_19 rfl d_X_execute_421 ?_
    refine lv_iload hx hb d_X_execute_424 (lv_at hl 3 rfl) ?_
    refine xr_ld hx hb hF hs (ix_and7 _) d_X_execute_426 ?_
    refine xg_N4 hx hb hF hs (in13 (ix_and7 _)) d_X_execute_427 ?_
    refine lv_aload_n hx hb d_X_execute_430 rfl (lv_at hl 6 rfl) ?_
    refine xg_X hx hb hF hs 2 (by decide) k_fl_X_19 rfl d_X_execute_431 ?_
    refine lv_iload hx hb d_X_execute_434 (lv_at hl 2 rfl) ?_
    refine xr_ld hx hb hF hs (ix_and7 _) d_X_execute_436 ?_
    refine xg_N4 hx hb hF hs (in13 (ix_and7 _)) d_X_execute_437 ?_
    refine lv_iload hx hb d_X_execute_440 (lv_at hl 1 rfl) ?_
    refine x_Sip hF hs v_X_compute k_ml_X_151 (m_X_compute) rfl rfl ⟨by decide, by decide⟩ rfl rfl hl.1 (Nat.le_of_ble_eq_true rfl) d_X_execute_442 ⟨Nat.zero_le _, Nat.zero_le _⟩ (fun H locs hs => ?_)
    refine x_Vv hF hs v_X_writeNumber k_ml_X_79 (m_X_writeNumber (ix_and7 _)) rfl rfl ⟨by decide, by decide⟩ rfl rfl hl.1 (Nat.le_of_ble_eq_true rfl) rX d_X_execute_445 ⟨Nat.zero_le _, Nat.zero_le _⟩ (fun H locs hs => ?_)
    refine lv_goto (tgt := 471) hx hb d_X_execute_448 (by decide) ?_
    refine lv_iload hx hb d_X_execute_471 (lv_at hl 0 rfl) ?_
    refine lv_if_ne (tgt := 484) hx hb d_X_execute_473 (by decide) (fun h => absurd h (by decide)) (fun _ => ?_)
    refine lv_aload_n hx hb d_X_execute_476 rfl (lv_at hl 6 rfl) ?_
    refine lv_iconst (v := 1) hx hb d_X_execute_477 (by decide) ?_
    refine x_Vi hF hs v_X_branch k_ml_X_125 (m_X_branch) rfl rfl ⟨by decide, by decide⟩ rfl rfl hl.1 (Nat.le_of_ble_eq_true rfl) rX d_X_execute_478 ⟨Nat.zero_le _, Nat.zero_le _⟩ (fun H locs hs => ?_)
    refine lv_goto (tgt := 486) hx hb d_X_execute_481 (by decide) ?_
    refine hret _ _ _ _ _ _ hs ?_ d_X_execute_486
    exact (if_neg h1).trans ((if_neg h2).trans ((if_neg h3).trans ((if_neg h4).trans ((if_neg h5).trans ((if_neg h6).trans ((if_neg h7).trans ((if_neg h8).trans ((if_neg h9).trans ((if_neg h10).trans ((if_neg h11).trans ((if_neg h12).trans ((if_neg h13).trans ((if_neg h14).trans ((if_neg h15).trans ((if_neg h16).trans rfl)))))))))))))))
def p_X_makeStep (σ : Mem) : Mem :=
  let σ1 : Mem := wr σ 5 2 ((σ 5 2) + (1 : Int32));
  if (p_X_check σ1 (8 : Int32) (1 : Int32) (4 : Int32) (σ1 4 8)) = (0 : Int32) then
    let r3 := p_X_execute σ1 (σ1 0 (((((σ1 4 8)).toUInt32 >>> (((2 : Int32)).toUInt32 &&& Int32.toUInt32 31)).toInt32) : Int32).toNatClampNeg);
    if r3.1 = (0 : Int32) then
      r3.2
    else
      let σ4 : Mem := p_X_enterTrap r3.2 (r3.1);
      σ4
  else
    let σ2 : Mem := p_X_enterTrap σ1 (p_X_check σ1 (8 : Int32) (1 : Int32) (4 : Int32) (σ1 4 8));
    σ2
set_option maxHeartbeats 4000000 in
set_option maxRecDepth 100000 in
theorem m_X_makeStep {l : Launch} {D : va_G} {a : Nat → Nat} {cA : Nat → ClassId} {B0 : Nat → Prop} {σ : Mem} : cV l y_X_makeStep (.code y_X_makeStep c_X_makeStep 2 (none) :: TG) (rmO 6 147) D (cwL a cA) (cty cA) B0 [.ref (a 0)] σ (p_X_makeStep σ) := by
  refine cV_of (by decide) (Nat.le_of_ble_eq_true rfl) ?_
  intro p e s m args below meth c Q ls hx hb hF hl hs hret
  have hl : lv_has ls 2 [(0, .ref (a 0))] := hl
  refine lv_aload_n hx hb d_X_makeStep_0 rfl (lv_at hl 0 rfl) ?_
  refine lv_dup hx hb d_X_makeStep_1 rfl ?_
  refine xg_X hx hb hF hs 7 (by decide) k_fl_X_35 rfl d_X_makeStep_2 ?_
  refine lv_iconst (v := 1) hx hb d_X_makeStep_5 (by decide) ?_
  refine lv_iadd hx hb d_X_makeStep_6 ?_
  refine xp_X hx hb hF hs 2 (by decide) k_fl_X_35 d_X_makeStep_7 (fun H locs hs => ?_)
  refine lv_aload_n hx hb d_X_makeStep_10 rfl (lv_at hl 0 rfl) ?_
  refine lv_bipush (v := 8) hx hb d_X_makeStep_11 (by decide) ?_
  refine lv_iconst (v := 1) hx hb d_X_makeStep_13 (by decide) ?_
  refine lv_iconst (v := 4) hx hb d_X_makeStep_14 (by decide) ?_
  refine lv_aload_n hx hb d_X_makeStep_15 rfl (lv_at hl 0 rfl) ?_
  refine xg_X hx hb hF hs 3 (by decide) k_fl_X_41 rfl d_X_makeStep_16 ?_
  refine xg_N4 hx hb hF hs lt8_13 d_X_makeStep_19 ?_
  refine x_Vip hF hs v_X_check k_ml_X_82 (m_X_check ic_8_12) rfl rfl ⟨by decide, by decide⟩ rfl rfl hl.1 (Nat.le_of_ble_eq_true rfl) rX d_X_makeStep_22 ⟨Nat.zero_le _, Nat.zero_le _⟩ (fun H locs hs => ?_)
  refine lv_istore_n (lv' := [(1, _), (0, _)]) hx hb d_X_makeStep_25 rfl hl (by decide) rfl (fun ls hl => ?_)
  refine lv_iload_n hx hb d_X_makeStep_26 rfl (lv_at hl 0 rfl) ?_
  refine lv_if_ne (tgt := 49) hx hb d_X_makeStep_27 (by decide) (fun h1 => ?_) (fun h1 => ?_)
  · refine lv_iload_n hx hb d_X_makeStep_49 rfl (lv_at hl 0 rfl) ?_
    refine lv_if_eq (tgt := 58) hx hb d_X_makeStep_50 (by decide) (fun h => absurd h h1) (fun _ => ?_)
    refine lv_aload_n hx hb d_X_makeStep_53 rfl (lv_at hl 1 rfl) ?_
    refine lv_iload_n hx hb d_X_makeStep_54 rfl (lv_at hl 0 rfl) ?_
    refine x_Vv hF hs v_X_enterTrap k_ml_X_90 (m_X_enterTrap) rfl rfl ⟨by decide, by decide⟩ rfl rfl hl.1 (Nat.le_of_ble_eq_true rfl) rX d_X_makeStep_55 ⟨Nat.zero_le _, Nat.zero_le _⟩ (fun H locs hs => ?_)
    refine hret _ _ _ _ _ hs ?_ d_X_makeStep_58
    exact (if_neg h1).trans rfl
  · refine lv_aload_n hx hb d_X_makeStep_30 rfl (lv_at hl 1 rfl) ?_
    refine lv_aload_n hx hb d_X_makeStep_31 rfl (lv_at hl 1 rfl) ?_
    refine xg_X hx hb hF hs 0 (by decide) k_fl_X_9 rfl d_X_makeStep_32 ?_
    refine lv_aload_n hx hb d_X_makeStep_35 rfl (lv_at hl 1 rfl) ?_
    refine xg_X hx hb hF hs 3 (by decide) k_fl_X_41 rfl d_X_makeStep_36 ?_
    refine xg_N4 hx hb hF hs lt8_13 d_X_makeStep_39 ?_
    refine lv_iconst (v := 2) hx hb d_X_makeStep_42 (by decide) ?_
    refine lv_iushr hx hb d_X_makeStep_43 rfl ?_
    refine xw_ld hx hb hF hs (ix_c4 h1) d_X_makeStep_44 ?_
    refine x_Vi hF hs v_X_execute k_ml_X_86 (m_X_execute) rfl rfl ⟨by decide, by decide⟩ rfl rfl hl.1 (Nat.le_of_ble_eq_true rfl) rX d_X_makeStep_45 ⟨Nat.zero_le _, Nat.zero_le _⟩ (fun H locs hs => ?_)
    refine lv_istore_n (lv' := [(1, _), (0, _)]) hx hb d_X_makeStep_48 rfl hl (by decide) rfl (fun ls hl => ?_)
    refine lv_iload_n hx hb d_X_makeStep_49 rfl (lv_at hl 0 rfl) ?_
    refine lv_if_eq (tgt := 58) hx hb d_X_makeStep_50 (by decide) (fun h2 => ?_) (fun h2 => ?_)
    · refine hret _ _ _ _ _ hs ?_ d_X_makeStep_58
      exact (if_pos h1).trans ((if_pos h2).trans rfl)
    · refine lv_aload_n hx hb d_X_makeStep_53 rfl (lv_at hl 1 rfl) ?_
      refine lv_iload_n hx hb d_X_makeStep_54 rfl (lv_at hl 0 rfl) ?_
      refine x_Vv hF hs v_X_enterTrap k_ml_X_90 (m_X_enterTrap) rfl rfl ⟨by decide, by decide⟩ rfl rfl hl.1 (Nat.le_of_ble_eq_true rfl) rX d_X_makeStep_55 ⟨Nat.zero_le _, Nat.zero_le _⟩ (fun H locs hs => ?_)
      refine hret _ _ _ _ _ hs ?_ d_X_makeStep_58
      exact (if_pos h1).trans ((if_neg h2).trans rfl)
