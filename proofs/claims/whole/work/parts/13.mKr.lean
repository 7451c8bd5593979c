def p_K_becomeRoot (σ : Mem) (i0 : Nat) (n1 : Int32) : Mem :=
  let σ1 : Mem := wr σ 2 i0 (1 : Int32);
  let σ2 : Mem := wr σ1 3 i0 (255 : Int32);
  let σ3 : Mem := p_K_bound σ2 i0 (0 : Int64) (1024 : Int64);
  let σ4 : Mem := wr σ3 4 i0 n1;
  σ4
set_option maxHeartbeats 4000000 in
set_option maxRecDepth 100000 in
theorem m_K_becomeRoot {l : Launch} {D : va_G} {a : Nat → Nat} {cA : Nat → ClassId} {B0 : Nat → Prop} {σ : Mem} {i0 : Nat} {n1 : Int32} (h_i0 : i0 < 13) : cV l y_K_becomeRoot (.code y_K_becomeRoot c_K_becomeRoot 2 (none) :: TG) (rmO 2 49) D (cwL a cA) (cty cA) B0 [.ref (a (4 + i0)), .int n1] σ (p_K_becomeRoot σ i0 n1) := by
  refine cV_of (by decide) (Nat.le_of_ble_eq_true rfl) ?_
  intro p e s m args below meth c Q ls hx hb hF hl hs hret
  have hl : lv_has ls 2 [(0, .ref (a (4 + i0))), (1, .int n1)] := hl
  refine lv_aload_n hx hb d_K_becomeRoot_0 rfl (lv_at hl 0 rfl) ?_
  refine lv_iconst (v := 1) hx hb d_K_becomeRoot_1 (by decide) ?_
  refine xp_K2 hx hb hF hs h_i0 k_fl_K_11 bo_1 d_K_becomeRoot_2 (fun H locs hs => ?_)
  refine lv_aload_n hx hb d_K_becomeRoot_5 rfl (lv_at hl 0 rfl) ?_
  refine lv_sipush (v := 255) hx hb d_K_becomeRoot_6 (by decide) ?_
  refine xp_K3 hx hb hF hs h_i0 k_fl_K_15 d_K_becomeRoot_9 (fun H locs hs => ?_)
  refine lv_aload_n hx hb d_K_becomeRoot_12 rfl (lv_at hl 0 rfl) ?_
  refine lv_lconst (v := 0) hx hb d_K_becomeRoot_13 (by decide) ?_
  refine x_ldc2 hx hb hF k_cL_K_22 d_K_becomeRoot_14 ?_
  refine x_Vv hF hs v_K_bound k_ml_K_24 (m_K_bound h_i0) rfl rfl ⟨by decide, by decide⟩ rfl rfl hl.1 (Nat.le_of_ble_eq_true rfl) (rK h_i0) d_K_becomeRoot_17 ⟨Nat.zero_le _, Nat.zero_le _⟩ (fun H locs hs => ?_)
  refine lv_aload_n hx hb d_K_becomeRoot_20 rfl (lv_at hl 0 rfl) ?_
  refine lv_iload_n hx hb d_K_becomeRoot_21 rfl (lv_at hl 1 rfl) ?_
  refine xp_K4 hx hb hF hs h_i0 k_fl_K_19 d_K_becomeRoot_22 (fun H locs hs => ?_)
  refine hret _ _ _ _ _ hs ?_ d_K_becomeRoot_25
  exact rfl
