def p_M_first (σ : Mem) (n1 : Int32) (n2 : Int32) : Mem :=
  let σ1 : Mem := wr σ 4 (n1 : Int32).toNatClampNeg n2;
  let σ2 : Mem := wr σ1 3 (n1 : Int32).toNatClampNeg (p_M_bounded (255 : Int32) (0 : Int64) (1024 : Int64));
  let σ3 : Mem := wr σ2 2 (n1 : Int32).toNatClampNeg (1 : Int32);
  σ3
set_option maxHeartbeats 4000000 in
set_option maxRecDepth 100000 in
theorem m_M_first {l : Launch} {D : va_G} {a : Nat → Nat} {cA : Nat → ClassId} {B0 : Nat → Prop} {σ : Mem} {n1 : Int32} {n2 : Int32} (h_n1 : vp_in n1 12) : cV l y_M_first (.code y_M_first c_M_first 3 (none) :: TG) (rmO 1 29) D (rwL a cA) (rty cA) B0 [.ref (a 0), .int n1, .int n2] σ (p_M_first σ n1 n2) := by
  refine cV_of (by decide) (Nat.le_of_ble_eq_true rfl) ?_
  intro p e s m args below meth c Q ls hx hb hF hl hs hret
  have hl : lv_has ls 3 [(0, .ref (a 0)), (1, .int n1), (2, .int n2)] := hl
  refine lv_aload_n hx hb d_M_first_0 rfl (lv_at hl 0 rfl) ?_
  refine xg_M hx hb hF hs 0 (by decide) k_fl_M_7 rfl d_M_first_1 ?_
  refine lv_iload_n hx hb d_M_first_4 rfl (lv_at hl 1 rfl) ?_
  refine lv_iload_n hx hb d_M_first_5 rfl (lv_at hl 2 rfl) ?_
  refine x4_st hx hb hF hs h_n1 d_M_first_6 (fun H locs hs => ?_)
  refine lv_aload_n hx hb d_M_first_7 rfl (lv_at hl 0 rfl) ?_
  refine xg_M hx hb hF hs 1 (by decide) k_fl_M_13 rfl d_M_first_8 ?_
  refine lv_iload_n hx hb d_M_first_11 rfl (lv_at hl 1 rfl) ?_
  refine lv_sipush (v := 255) hx hb d_M_first_12 (by decide) ?_
  refine lv_lconst (v := 0) hx hb d_M_first_15 (by decide) ?_
  refine x_ldc2 hx hb hF k_cL_M_30 d_M_first_16 ?_
  refine x_Sip hF hs v_M_bounded k_ml_M_32 (m_M_bounded) rfl rfl ⟨by decide, by decide⟩ rfl rfl hl.1 (Nat.le_of_ble_eq_true rfl) d_M_first_19 ⟨Nat.zero_le _, Nat.zero_le _⟩ (fun H locs hs => ?_)
  refine x3_st hx hb hF hs h_n1 d_M_first_22 (fun H locs hs => ?_)
  refine lv_aload_n hx hb d_M_first_23 rfl (lv_at hl 0 rfl) ?_
  refine xg_M hx hb hF hs 2 (by decide) k_fl_M_16 rfl d_M_first_24 ?_
  refine lv_iload_n hx hb d_M_first_27 rfl (lv_at hl 1 rfl) ?_
  refine lv_iconst (v := 1) hx hb d_M_first_28 (by decide) ?_
  refine x2_st hx hb hF hs h_n1 d_M_first_29 (fun H locs hs => ?_)
  refine hret _ _ _ _ _ hs ?_ d_M_first_30
  exact rfl
def p_M_shape (σ : Mem) (n1 : Int32) (n2 : Int32) (n3 : Int32) (n4 : Int32) (n5 : Int32) : Mem :=
  let σ1 : Mem := p_M_take σ n3;
  if n1 = (19 : Int32) then
    let σ24 : Mem := wr σ1 6 1 (p_M_bounded (σ1 3 (n3 : Int32).toNatClampNeg) (p_M_unsigned (σ 4 (n3 : Int32).toNatClampNeg)) ((p_M_unsigned (σ 4 (n3 : Int32).toNatClampNeg)) + ((p_M_unsigned (σ 4 (n4 : Int32).toNatClampNeg)) : Int64)));
    if (bo (σ24 6 2)) = (0 : Int32) then
      let σ25 : Mem := wr σ24 6 2 (0 : Int32);
      let σ26 : Mem := p_M_put σ25 n2;
      σ26
    else
      if (p_M_type (σ24 3 (n3 : Int32).toNatClampNeg)) = (0 : Int32) then
        if (lg_cmp (p_M_baseOf (σ24 6 1) (σ 4 (n3 : Int32).toNatClampNeg)) (p_M_baseOf (σ1 3 (n3 : Int32).toNatClampNeg) (σ 4 (n3 : Int32).toNatClampNeg))) < (0 : Int32) then
          let σ29 : Mem := wr σ24 6 2 (0 : Int32);
          let σ30 : Mem := p_M_put σ29 n2;
          σ30
        else
          if (0 : Int32) < (lg_cmp (p_M_topOf (σ24 6 1) (σ 4 (n3 : Int32).toNatClampNeg)) (p_M_topOf (σ1 3 (n3 : Int32).toNatClampNeg) (σ 4 (n3 : Int32).toNatClampNeg))) then
            let σ31 : Mem := wr σ24 6 2 (0 : Int32);
            let σ32 : Mem := p_M_put σ31 n2;
            σ32
          else
            let σ33 : Mem := wr σ24 6 2 (1 : Int32);
            let σ34 : Mem := p_M_put σ33 n2;
            σ34
      else
        let σ27 : Mem := wr σ24 6 2 (0 : Int32);
        let σ28 : Mem := p_M_put σ27 n2;
        σ28
  else
    if n1 = (20 : Int32) then
      let σ17 : Mem := wr σ1 6 1 ((σ1 6 1) &&& (((σ 4 (n4 : Int32).toNatClampNeg) ||| ((-256) : Int32)) : Int32));
      if (bo (σ17 6 2)) = (0 : Int32) then
        let σ18 : Mem := wr σ17 6 2 (0 : Int32);
        let σ19 : Mem := p_M_put σ18 n2;
        σ19
      else
        if (p_M_type (σ17 3 (n3 : Int32).toNatClampNeg)) = (0 : Int32) then
          let σ22 : Mem := wr σ17 6 2 (1 : Int32);
          let σ23 : Mem := p_M_put σ22 n2;
          σ23
        else
          let σ20 : Mem := wr σ17 6 2 (0 : Int32);
          let σ21 : Mem := p_M_put σ20 n2;
          σ21
    else
      if n1 = (21 : Int32) then
        let σ15 : Mem := p_M_move σ1 ((σ 4 (n3 : Int32).toNatClampNeg) + ((σ 4 (n4 : Int32).toNatClampNeg) : Int32));
        let σ16 : Mem := p_M_put σ15 n2;
        σ16
      else
        if n1 = (22 : Int32) then
          let σ13 : Mem := p_M_move σ1 (σ 4 (n4 : Int32).toNatClampNeg);
          let σ14 : Mem := p_M_put σ13 n2;
          σ14
        else
          if n1 = (23 : Int32) then
            let σ11 : Mem := p_M_typed σ1 (σ1 6 1) (σ 4 (n4 : Int32).toNatClampNeg);
            let σ12 : Mem := p_M_put σ11 n2;
            σ12
          else
            if n1 = (24 : Int32) then
              let σ9 : Mem := p_M_typed σ1 (σ1 6 1) (0 : Int32);
              let σ10 : Mem := p_M_put σ9 n2;
              σ10
            else
              if n1 = (25 : Int32) then
                let σ7 : Mem := p_M_number σ1 (p_M_told σ1 n3 n5);
                let σ8 : Mem := p_M_put σ7 n2;
                σ8
              else
                if n1 = (26 : Int32) then
                  let σ5 : Mem := p_M_build σ1 n3 n4;
                  let σ6 : Mem := p_M_put σ5 n2;
                  σ6
                else
                  if n1 = (28 : Int32) then
                    let σ3 : Mem := wr σ1 6 2 (0 : Int32);
                    let σ4 : Mem := p_M_put σ3 n2;
                    σ4
                  else
                    let σ2 : Mem := p_M_put σ1 n2;
                    σ2
set_option maxHeartbeats 4000000 in
set_option maxRecDepth 100000 in
theorem m_M_shape {l : Launch} {D : va_G} {a : Nat → Nat} {cA : Nat → ClassId} {B0 : Nat → Prop} {σ : Mem} {n1 : Int32} {n2 : Int32} {n3 : Int32} {n4 : Int32} {n5 : Int32} (h_n2 : vp_in n2 12) (h_n3 : vp_in n3 12) (h_n4 : vp_in n4 12) : cV l y_M_shape (.code y_M_shape c_M_shape 12 (none) :: TG) (rmO 4 106) D (rwL a cA) (rty cA) B0 [.ref (a 0), .int n1, .int n2, .int n3, .int n4, .int n5] σ (p_M_shape σ n1 n2 n3 n4 n5) := by
  refine cV_of (by decide) (Nat.le_of_ble_eq_true rfl) ?_
  intro p e s m args below meth c Q ls hx hb hF hl hs hret
  have hl : lv_has ls 12 [(0, .ref (a 0)), (1, .int n1), (2, .int n2), (3, .int n3), (4, .int n4), (5, .int n5)] := hl
  refine lv_aload_n hx hb d_M_shape_0 rfl (lv_at hl 0 rfl) ?_
  refine xg_M hx hb hF hs 0 (by decide) k_fl_M_7 rfl d_M_shape_1 ?_
  refine lv_iload_n hx hb d_M_shape_4 rfl (lv_at hl 3 rfl) ?_
  refine x4_ld hx hb hF hs h_n3 d_M_shape_5 ?_
  refine lv_istore (lv' := [(6, _), (0, _), (1, _), (2, _), (3, _), (4, _), (5, _)]) hx hb d_M_shape_6 hl (by decide) rfl (fun ls hl => ?_)
  refine lv_aload_n hx hb d_M_shape_8 rfl (lv_at hl 1 rfl) ?_
  refine xg_M hx hb hF hs 0 (by decide) k_fl_M_7 rfl d_M_shape_9 ?_
  refine lv_iload hx hb d_M_shape_12 (lv_at hl 5 rfl) ?_
  refine x4_ld hx hb hF hs h_n4 d_M_shape_14 ?_
  refine lv_istore (lv' := [(7, _), (6, _), (0, _), (1, _), (2, _), (3, _), (4, _), (5, _)]) hx hb d_M_shape_15 hl (by decide) rfl (fun ls hl => ?_)
  refine lv_aload_n hx hb d_M_shape_17 rfl (lv_at hl 2 rfl) ?_
  refine lv_iload_n hx hb d_M_shape_18 rfl (lv_at hl 5 rfl) ?_
  refine x_Vv hF hs v_M_take k_ml_M_82 (m_M_take h_n3) rfl rfl ⟨by decide, by decide⟩ rfl rfl hl.1 (Nat.le_of_ble_eq_true rfl) rM d_M_shape_19 ⟨Nat.zero_le _, Nat.zero_le _⟩ (fun H locs hs => ?_)
  refine lv_iload_n hx hb d_M_shape_22 rfl (lv_at hl 3 rfl) ?_
  refine lv_bipush (v := 19) hx hb d_M_shape_23 (by decide) ?_
  refine lv_icmp_ne (tgt := 144) hx hb d_M_shape_25 (by decide) (fun h1 => ?_) (fun h1 => ?_)
  · refine lv_iload_n hx hb d_M_shape_144 rfl (lv_at hl 3 rfl) ?_
    refine lv_bipush (v := 20) hx hb d_M_shape_145 (by decide) ?_
    refine lv_icmp_ne (tgt := 196) hx hb d_M_shape_147 (by decide) (fun h2 => ?_) (fun h2 => ?_)
    · refine lv_iload_n hx hb d_M_shape_196 rfl (lv_at hl 3 rfl) ?_
      refine lv_bipush (v := 21) hx hb d_M_shape_197 (by decide) ?_
      refine lv_icmp_ne (tgt := 214) hx hb d_M_shape_199 (by decide) (fun h3 => ?_) (fun h3 => ?_)
      · refine lv_iload_n hx hb d_M_shape_214 rfl (lv_at hl 3 rfl) ?_
        refine lv_bipush (v := 22) hx hb d_M_shape_215 (by decide) ?_
        refine lv_icmp_ne (tgt := 229) hx hb d_M_shape_217 (by decide) (fun h4 => ?_) (fun h4 => ?_)
        · refine lv_iload_n hx hb d_M_shape_229 rfl (lv_at hl 3 rfl) ?_
          refine lv_bipush (v := 23) hx hb d_M_shape_230 (by decide) ?_
          refine lv_icmp_ne (tgt := 248) hx hb d_M_shape_232 (by decide) (fun h5 => ?_) (fun h5 => ?_)
          · refine lv_iload_n hx hb d_M_shape_248 rfl (lv_at hl 3 rfl) ?_
            refine lv_bipush (v := 24) hx hb d_M_shape_249 (by decide) ?_
            refine lv_icmp_ne (tgt := 266) hx hb d_M_shape_251 (by decide) (fun h6 => ?_) (fun h6 => ?_)
            · refine lv_iload_n hx hb d_M_shape_266 rfl (lv_at hl 3 rfl) ?_
              refine lv_bipush (v := 25) hx hb d_M_shape_267 (by decide) ?_
              refine lv_icmp_ne (tgt := 286) hx hb d_M_shape_269 (by decide) (fun h7 => ?_) (fun h7 => ?_)
              · refine lv_iload_n hx hb d_M_shape_286 rfl (lv_at hl 3 rfl) ?_
                refine lv_bipush (v := 26) hx hb d_M_shape_287 (by decide) ?_
                refine lv_icmp_ne (tgt := 302) hx hb d_M_shape_289 (by decide) (fun h8 => ?_) (fun h8 => ?_)
                · refine lv_iload_n hx hb d_M_shape_302 rfl (lv_at hl 3 rfl) ?_
                  refine lv_bipush (v := 28) hx hb d_M_shape_303 (by decide) ?_
                  refine lv_icmp_ne (tgt := 313) hx hb d_M_shape_305 (by decide) (fun h9 => ?_) (fun h9 => ?_)
                  · refine lv_aload_n hx hb d_M_shape_313 rfl (lv_at hl 2 rfl) ?_
                    refine lv_iload_n hx hb d_M_shape_314 rfl (lv_at hl 4 rfl) ?_
                    refine x_Vv hF hs v_M_put k_ml_M_89 (m_M_put h_n2) rfl rfl ⟨by decide, by decide⟩ rfl rfl hl.1 (Nat.le_of_ble_eq_true rfl) rM d_M_shape_315 ⟨Nat.zero_le _, Nat.zero_le _⟩ (fun H locs hs => ?_)
                    refine hret _ _ _ _ _ hs ?_ d_M_shape_318
                    exact (if_neg h1).trans ((if_neg h2).trans ((if_neg h3).trans ((if_neg h4).trans ((if_neg h5).trans ((if_neg h6).trans ((if_neg h7).trans ((if_neg h8).trans ((if_neg h9).trans rfl))))))))
                  · refine lv_aload_n hx hb d_M_shape_308 rfl (lv_at hl 2 rfl) ?_
                    refine lv_iconst (v := 0) hx hb d_M_shape_309 (by decide) ?_
                    refine xp_M62 hx hb hF hs k_fl_M_78 bo_0 d_M_shape_310 (fun H locs hs => ?_)
                    refine lv_aload_n hx hb d_M_shape_313 rfl (lv_at hl 2 rfl) ?_
                    refine lv_iload_n hx hb d_M_shape_314 rfl (lv_at hl 4 rfl) ?_
                    refine x_Vv hF hs v_M_put k_ml_M_89 (m_M_put h_n2) rfl rfl ⟨by decide, by decide⟩ rfl rfl hl.1 (Nat.le_of_ble_eq_true rfl) rM d_M_shape_315 ⟨Nat.zero_le _, Nat.zero_le _⟩ (fun H locs hs => ?_)
                    refine hret _ _ _ _ _ hs ?_ d_M_shape_318
                    exact (if_neg h1).trans ((if_neg h2).trans ((if_neg h3).trans ((if_neg h4).trans ((if_neg h5).trans ((if_neg h6).trans ((if_neg h7).trans ((if_neg h8).trans ((if_pos h9).trans rfl))))))))
                · refine lv_aload_n hx hb d_M_shape_292 rfl (lv_at hl 2 rfl) ?_
                  refine lv_iload_n hx hb d_M_shape_293 rfl (lv_at hl 5 rfl) ?_
                  refine lv_iload hx hb d_M_shape_294 (lv_at hl 6 rfl) ?_
                  refine x_Vv hF hs v_M_build k_ml_M_154 (m_M_build h_n3 h_n4) rfl rfl ⟨by decide, by decide⟩ rfl rfl hl.1 (Nat.le_of_ble_eq_true rfl) rM d_M_shape_296 ⟨Nat.zero_le _, Nat.zero_le _⟩ (fun H locs hs => ?_)
                  refine lv_goto (tgt := 313) hx hb d_M_shape_299 (by decide) ?_
                  refine lv_aload_n hx hb d_M_shape_313 rfl (lv_at hl 2 rfl) ?_
                  refine lv_iload_n hx hb d_M_shape_314 rfl (lv_at hl 4 rfl) ?_
                  refine x_Vv hF hs v_M_put k_ml_M_89 (m_M_put h_n2) rfl rfl ⟨by decide, by decide⟩ rfl rfl hl.1 (Nat.le_of_ble_eq_true rfl) rM d_M_shape_315 ⟨Nat.zero_le _, Nat.zero_le _⟩ (fun H locs hs => ?_)
                  refine hret _ _ _ _ _ hs ?_ d_M_shape_318
                  exact (if_neg h1).trans ((if_neg h2).trans ((if_neg h3).trans ((if_neg h4).trans ((if_neg h5).trans ((if_neg h6).trans ((if_neg h7).trans ((if_pos h8).trans rfl)))))))
              · refine lv_aload_n hx hb d_M_shape_272 rfl (lv_at hl 2 rfl) ?_
                refine lv_aload_n hx hb d_M_shape_273 rfl (lv_at hl 2 rfl) ?_
                refine lv_iload_n hx hb d_M_shape_274 rfl (lv_at hl 5 rfl) ?_
                refine lv_iload hx hb d_M_shape_275 (lv_at hl 7 rfl) ?_
                refine x_Vip hF hs v_M_told k_ml_M_151 (m_M_told h_n3) rfl rfl ⟨by decide, by decide⟩ rfl rfl hl.1 (Nat.le_of_ble_eq_true rfl) rM d_M_shape_277 ⟨Nat.zero_le _, Nat.zero_le _⟩ (fun H locs hs => ?_)
                refine x_Vv hF hs v_M_number k_ml_M_128 (m_M_number) rfl rfl ⟨by decide, by decide⟩ rfl rfl hl.1 (Nat.le_of_ble_eq_true rfl) rM d_M_shape_280 ⟨Nat.zero_le _, Nat.zero_le _⟩ (fun H locs hs => ?_)
                refine lv_goto (tgt := 313) hx hb d_M_shape_283 (by decide) ?_
                refine lv_aload_n hx hb d_M_shape_313 rfl (lv_at hl 2 rfl) ?_
                refine lv_iload_n hx hb d_M_shape_314 rfl (lv_at hl 4 rfl) ?_
                refine x_Vv hF hs v_M_put k_ml_M_89 (m_M_put h_n2) rfl rfl ⟨by decide, by decide⟩ rfl rfl hl.1 (Nat.le_of_ble_eq_true rfl) rM d_M_shape_315 ⟨Nat.zero_le _, Nat.zero_le _⟩ (fun H locs hs => ?_)
                refine hret _ _ _ _ _ hs ?_ d_M_shape_318
                exact (if_neg h1).trans ((if_neg h2).trans ((if_neg h3).trans ((if_neg h4).trans ((if_neg h5).trans ((if_neg h6).trans ((if_pos h7).trans rfl))))))
            · refine lv_aload_n hx hb d_M_shape_254 rfl (lv_at hl 2 rfl) ?_
              refine lv_aload_n hx hb d_M_shape_255 rfl (lv_at hl 2 rfl) ?_
              refine xg_M hx hb hF hs 10 (by decide) k_fl_M_75 rfl d_M_shape_256 ?_
              refine lv_iconst (v := 0) hx hb d_M_shape_259 (by decide) ?_
              refine x_Vv hF hs v_M_typed k_ml_M_92 (m_M_typed) rfl rfl ⟨by decide, by decide⟩ rfl rfl hl.1 (Nat.le_of_ble_eq_true rfl) rM d_M_shape_260 ⟨Nat.zero_le _, Nat.zero_le _⟩ (fun H locs hs => ?_)
              refine lv_goto (tgt := 313) hx hb d_M_shape_263 (by decide) ?_
              refine lv_aload_n hx hb d_M_shape_313 rfl (lv_at hl 2 rfl) ?_
              refine lv_iload_n hx hb d_M_shape_314 rfl (lv_at hl 4 rfl) ?_
              refine x_Vv hF hs v_M_put k_ml_M_89 (m_M_put h_n2) rfl rfl ⟨by decide, by decide⟩ rfl rfl hl.1 (Nat.le_of_ble_eq_true rfl) rM d_M_shape_315 ⟨Nat.zero_le _, Nat.zero_le _⟩ (fun H locs hs => ?_)
              refine hret _ _ _ _ _ hs ?_ d_M_shape_318
              exact (if_neg h1).trans ((if_neg h2).trans ((if_neg h3).trans ((if_neg h4).trans ((if_neg h5).trans ((if_pos h6).trans rfl)))))
          · refine lv_aload_n hx hb d_M_shape_235 rfl (lv_at hl 2 rfl) ?_
            refine lv_aload_n hx hb d_M_shape_236 rfl (lv_at hl 2 rfl) ?_
            refine xg_M hx hb hF hs 10 (by decide) k_fl_M_75 rfl d_M_shape_237 ?_
            refine lv_iload hx hb d_M_shape_240 (lv_at hl 0 rfl) ?_
            refine x_Vv hF hs v_M_typed k_ml_M_92 (m_M_typed) rfl rfl ⟨by decide, by decide⟩ rfl rfl hl.1 (Nat.le_of_ble_eq_true rfl) rM d_M_shape_242 ⟨Nat.zero_le _, Nat.zero_le _⟩ (fun H locs hs => ?_)
            refine lv_goto (tgt := 313) hx hb d_M_shape_245 (by decide) ?_
            refine lv_aload_n hx hb d_M_shape_313 rfl (lv_at hl 2 rfl) ?_
            refine lv_iload_n hx hb d_M_shape_314 rfl (lv_at hl 4 rfl) ?_
            refine x_Vv hF hs v_M_put k_ml_M_89 (m_M_put h_n2) rfl rfl ⟨by decide, by decide⟩ rfl rfl hl.1 (Nat.le_of_ble_eq_true rfl) rM d_M_shape_315 ⟨Nat.zero_le _, Nat.zero_le _⟩ (fun H locs hs => ?_)
            refine hret _ _ _ _ _ hs ?_ d_M_shape_318
            exact (if_neg h1).trans ((if_neg h2).trans ((if_neg h3).trans ((if_neg h4).trans ((if_pos h5).trans rfl))))
        · refine lv_aload_n hx hb d_M_shape_220 rfl (lv_at hl 2 rfl) ?_
          refine lv_iload hx hb d_M_shape_221 (lv_at hl 0 rfl) ?_
          refine x_Vv hF hs v_M_move k_ml_M_86 (m_M_move) rfl rfl ⟨by decide, by decide⟩ rfl rfl hl.1 (Nat.le_of_ble_eq_true rfl) rM d_M_shape_223 ⟨Nat.zero_le _, Nat.zero_le _⟩ (fun H locs hs => ?_)
          refine lv_goto (tgt := 313) hx hb d_M_shape_226 (by decide) ?_
          refine lv_aload_n hx hb d_M_shape_313 rfl (lv_at hl 2 rfl) ?_
          refine lv_iload_n hx hb d_M_shape_314 rfl (lv_at hl 4 rfl) ?_
          refine x_Vv hF hs v_M_put k_ml_M_89 (m_M_put h_n2) rfl rfl ⟨by decide, by decide⟩ rfl rfl hl.1 (Nat.le_of_ble_eq_true rfl) rM d_M_shape_315 ⟨Nat.zero_le _, Nat.zero_le _⟩ (fun H locs hs => ?_)
          refine hret _ _ _ _ _ hs ?_ d_M_shape_318
          exact (if_neg h1).trans ((if_neg h2).trans ((if_neg h3).trans ((if_pos h4).trans rfl)))
      · refine lv_aload_n hx hb d_M_shape_202 rfl (lv_at hl 2 rfl) ?_
        refine lv_iload hx hb d_M_shape_203 (lv_at hl 1 rfl) ?_
        refine lv_iload hx hb d_M_shape_205 (lv_at hl 0 rfl) ?_
        refine lv_iadd hx hb d_M_shape_207 ?_
        refine x_Vv hF hs v_M_move k_ml_M_86 (m_M_move) rfl rfl ⟨by decide, by decide⟩ rfl rfl hl.1 (Nat.le_of_ble_eq_true rfl) rM d_M_shape_208 ⟨Nat.zero_le _, Nat.zero_le _⟩ (fun H locs hs => ?_)
        refine lv_goto (tgt := 313) hx hb d_M_shape_211 (by decide) ?_
        refine lv_aload_n hx hb d_M_shape_313 rfl (lv_at hl 2 rfl) ?_
        refine lv_iload_n hx hb d_M_shape_314 rfl (lv_at hl 4 rfl) ?_
        refine x_Vv hF hs v_M_put k_ml_M_89 (m_M_put h_n2) rfl rfl ⟨by decide, by decide⟩ rfl rfl hl.1 (Nat.le_of_ble_eq_true rfl) rM d_M_shape_315 ⟨Nat.zero_le _, Nat.zero_le _⟩ (fun H locs hs => ?_)
        refine hret _ _ _ _ _ hs ?_ d_M_shape_318
        exact (if_neg h1).trans ((if_neg h2).trans ((if_pos h3).trans rfl))
    · refine lv_aload_n hx hb d_M_shape_150 rfl (lv_at hl 2 rfl) ?_
      refine lv_aload_n hx hb d_M_shape_151 rfl (lv_at hl 2 rfl) ?_
      refine xg_M hx hb hF hs 10 (by decide) k_fl_M_75 rfl d_M_shape_152 ?_
      refine lv_iload hx hb d_M_shape_155 (lv_at hl 0 rfl) ?_
      refine lv_sipush (v := (-256)) hx hb d_M_shape_157 (by decide) ?_
      refine lv_ior hx hb d_M_shape_160 ?_
      refine lv_iand hx hb d_M_shape_161 ?_
      refine xp_M6 hx hb hF hs 1 (by decide) k_fl_M_75 d_M_shape_162 (fun H locs hs => ?_)
      refine lv_aload_n hx hb d_M_shape_165 rfl (lv_at hl 2 rfl) ?_
      refine lv_aload_n hx hb d_M_shape_166 rfl (lv_at hl 2 rfl) ?_
      refine xg_M hx hb hF hs 11 (by decide) k_fl_M_78 rfl d_M_shape_167 ?_
      refine lv_if_eq (tgt := 189) hx hb d_M_shape_170 (by decide) (fun h3 => ?_) (fun h3 => ?_)
      · refine lv_iconst (v := 0) hx hb d_M_shape_189 (by decide) ?_
        refine xp_M62 hx hb hF hs k_fl_M_78 bo_0 d_M_shape_190 (fun H locs hs => ?_)
        refine lv_goto (tgt := 313) hx hb d_M_shape_193 (by decide) ?_
        refine lv_aload_n hx hb d_M_shape_313 rfl (lv_at hl 2 rfl) ?_
        refine lv_iload_n hx hb d_M_shape_314 rfl (lv_at hl 4 rfl) ?_
        refine x_Vv hF hs v_M_put k_ml_M_89 (m_M_put h_n2) rfl rfl ⟨by decide, by decide⟩ rfl rfl hl.1 (Nat.le_of_ble_eq_true rfl) rM d_M_shape_315 ⟨Nat.zero_le _, Nat.zero_le _⟩ (fun H locs hs => ?_)
        refine hret _ _ _ _ _ hs ?_ d_M_shape_318
        exact (if_neg h1).trans ((if_pos h2).trans ((if_pos h3).trans rfl))
      · refine lv_aload_n hx hb d_M_shape_173 rfl (lv_at hl 2 rfl) ?_
        refine xg_M hx hb hF hs 1 (by decide) k_fl_M_13 rfl d_M_shape_174 ?_
        refine lv_iload_n hx hb d_M_shape_177 rfl (lv_at hl 5 rfl) ?_
        refine x3_ld hx hb hF hs h_n3 d_M_shape_178 ?_
        refine x_Sip hF hs v_M_type k_ml_M_57 (m_M_type) rfl rfl ⟨by decide, by decide⟩ rfl rfl hl.1 (Nat.le_of_ble_eq_true rfl) d_M_shape_179 ⟨Nat.zero_le _, Nat.zero_le _⟩ (fun H locs hs => ?_)
        refine lv_if_ne (tgt := 189) hx hb d_M_shape_182 (by decide) (fun h4 => ?_) (fun h4 => ?_)
        · refine lv_iconst (v := 0) hx hb d_M_shape_189 (by decide) ?_
          refine xp_M62 hx hb hF hs k_fl_M_78 bo_0 d_M_shape_190 (fun H locs hs => ?_)
          refine lv_goto (tgt := 313) hx hb d_M_shape_193 (by decide) ?_
          refine lv_aload_n hx hb d_M_shape_313 rfl (lv_at hl 2 rfl) ?_
          refine lv_iload_n hx hb d_M_shape_314 rfl (lv_at hl 4 rfl) ?_
          refine x_Vv hF hs v_M_put k_ml_M_89 (m_M_put h_n2) rfl rfl ⟨by decide, by decide⟩ rfl rfl hl.1 (Nat.le_of_ble_eq_true rfl) rM d_M_shape_315 ⟨Nat.zero_le _, Nat.zero_le _⟩ (fun H locs hs => ?_)
          refine hret _ _ _ _ _ hs ?_ d_M_shape_318
          exact (if_neg h1).trans ((if_pos h2).trans ((if_neg h3).trans ((if_neg h4).trans rfl)))
        · refine lv_iconst (v := 1) hx hb d_M_shape_185 (by decide) ?_
          refine lv_goto (tgt := 190) hx hb d_M_shape_186 (by decide) ?_
          refine xp_M62 hx hb hF hs k_fl_M_78 bo_1 d_M_shape_190 (fun H locs hs => ?_)
          refine lv_goto (tgt := 313) hx hb d_M_shape_193 (by decide) ?_
          refine lv_aload_n hx hb d_M_shape_313 rfl (lv_at hl 2 rfl) ?_
          refine lv_iload_n hx hb d_M_shape_314 rfl (lv_at hl 4 rfl) ?_
          refine x_Vv hF hs v_M_put k_ml_M_89 (m_M_put h_n2) rfl rfl ⟨by decide, by decide⟩ rfl rfl hl.1 (Nat.le_of_ble_eq_true rfl) rM d_M_shape_315 ⟨Nat.zero_le _, Nat.zero_le _⟩ (fun H locs hs => ?_)
          refine hret _ _ _ _ _ hs ?_ d_M_shape_318
          exact (if_neg h1).trans ((if_pos h2).trans ((if_neg h3).trans ((if_pos h4).trans rfl)))
  · refine lv_aload_n hx hb d_M_shape_28 rfl (lv_at hl 2 rfl) ?_
    refine xg_M hx hb hF hs 1 (by decide) k_fl_M_13 rfl d_M_shape_29 ?_
    refine lv_iload_n hx hb d_M_shape_32 rfl (lv_at hl 5 rfl) ?_
    refine x3_ld hx hb hF hs h_n3 d_M_shape_33 ?_
    refine lv_iload hx hb d_M_shape_34 (lv_at hl 1 rfl) ?_
    refine x_Slp hF hs v_M_baseOf k_ml_M_65 (m_M_baseOf) rfl rfl ⟨by decide, by decide⟩ rfl rfl hl.1 (Nat.le_of_ble_eq_true rfl) d_M_shape_36 ⟨Nat.zero_le _, Nat.zero_le _⟩ (fun H locs hs => ?_)
    refine lv_lstore (lv' := [(8, _), (7, _), (6, _), (0, _), (1, _), (2, _), (3, _), (4, _), (5, _)]) hx hb d_M_shape_39 hl (by decide) rfl (fun ls hl => ?_)
    refine lv_aload_n hx hb d_M_shape_41 rfl (lv_at hl 3 rfl) ?_
    refine xg_M hx hb hF hs 1 (by decide) k_fl_M_13 rfl d_M_shape_42 ?_
    refine lv_iload_n hx hb d_M_shape_45 rfl (lv_at hl 6 rfl) ?_
    refine x3_ld hx hb hF hs h_n3 d_M_shape_46 ?_
    refine lv_iload hx hb d_M_shape_47 (lv_at hl 2 rfl) ?_
    refine x_Slp hF hs v_M_topOf k_ml_M_68 (m_M_topOf) rfl rfl ⟨by decide, by decide⟩ rfl rfl hl.1 (Nat.le_of_ble_eq_true rfl) d_M_shape_49 ⟨Nat.zero_le _, Nat.zero_le _⟩ (fun H locs hs => ?_)
    refine lv_lstore (lv' := [(10, _), (8, _), (7, _), (6, _), (0, _), (1, _), (2, _), (3, _), (4, _), (5, _)]) hx hb d_M_shape_52 hl (by decide) rfl (fun ls hl => ?_)
    refine lv_aload_n hx hb d_M_shape_54 rfl (lv_at hl 4 rfl) ?_
    refine lv_aload_n hx hb d_M_shape_55 rfl (lv_at hl 4 rfl) ?_
    refine xg_M hx hb hF hs 1 (by decide) k_fl_M_13 rfl d_M_shape_56 ?_
    refine lv_iload_n hx hb d_M_shape_59 rfl (lv_at hl 7 rfl) ?_
    refine x3_ld hx hb hF hs h_n3 d_M_shape_60 ?_
    refine lv_iload hx hb d_M_shape_61 (lv_at hl 3 rfl) ?_
    refine x_Slp hF hs v_M_unsigned k_ml_M_42 (m_M_unsigned) rfl rfl ⟨by decide, by decide⟩ rfl rfl hl.1 (Nat.le_of_ble_eq_true rfl) d_M_shape_63 ⟨Nat.zero_le _, Nat.zero_le _⟩ (fun H locs hs => ?_)
    refine lv_iload hx hb d_M_shape_66 (lv_at hl 3 rfl) ?_
    refine x_Slp hF hs v_M_unsigned k_ml_M_42 (m_M_unsigned) rfl rfl ⟨by decide, by decide⟩ rfl rfl hl.1 (Nat.le_of_ble_eq_true rfl) d_M_shape_68 ⟨Nat.zero_le _, Nat.zero_le _⟩ (fun H locs hs => ?_)
    refine lv_iload hx hb d_M_shape_71 (lv_at hl 2 rfl) ?_
    refine x_Slp hF hs v_M_unsigned k_ml_M_42 (m_M_unsigned) rfl rfl ⟨by decide, by decide⟩ rfl rfl hl.1 (Nat.le_of_ble_eq_true rfl) d_M_shape_73 ⟨Nat.zero_le _, Nat.zero_le _⟩ (fun H locs hs => ?_)
    refine lv_ladd hx hb d_M_shape_76 ?_
    refine x_Sip hF hs v_M_bounded k_ml_M_32 (m_M_bounded) rfl rfl ⟨by decide, by decide⟩ rfl rfl hl.1 (Nat.le_of_ble_eq_true rfl) d_M_shape_77 ⟨Nat.zero_le _, Nat.zero_le _⟩ (fun H locs hs => ?_)
    refine xp_M6 hx hb hF hs 1 (by decide) k_fl_M_75 d_M_shape_80 (fun H locs hs => ?_)
    refine lv_aload_n hx hb d_M_shape_83 rfl (lv_at hl 4 rfl) ?_
    refine lv_aload_n hx hb d_M_shape_84 rfl (lv_at hl 4 rfl) ?_
    refine xg_M hx hb hF hs 11 (by decide) k_fl_M_78 rfl d_M_shape_85 ?_
    refine lv_if_eq (tgt := 137) hx hb d_M_shape_88 (by decide) (fun h2 => ?_) (fun h2 => ?_)
    · refine lv_iconst (v := 0) hx hb d_M_shape_137 (by decide) ?_
      refine xp_M62 hx hb hF hs k_fl_M_78 bo_0 d_M_shape_138 (fun H locs hs => ?_)
      refine lv_goto (tgt := 313) hx hb d_M_shape_141 (by decide) ?_
      refine lv_aload_n hx hb d_M_shape_313 rfl (lv_at hl 4 rfl) ?_
      refine lv_iload_n hx hb d_M_shape_314 rfl (lv_at hl 6 rfl) ?_
      refine x_Vv hF hs v_M_put k_ml_M_89 (m_M_put h_n2) rfl rfl ⟨by decide, by decide⟩ rfl rfl hl.1 (Nat.le_of_ble_eq_true rfl) rM d_M_shape_315 ⟨Nat.zero_le _, Nat.zero_le _⟩ (fun H locs hs => ?_)
      refine hret _ _ _ _ _ hs ?_ d_M_shape_318
      exact (if_pos h1).trans ((if_pos h2).trans rfl)
    · refine lv_aload_n hx hb d_M_shape_91 rfl (lv_at hl 4 rfl) ?_
      refine xg_M hx hb hF hs 1 (by decide) k_fl_M_13 rfl d_M_shape_92 ?_
      refine lv_iload_n hx hb d_M_shape_95 rfl (lv_at hl 7 rfl) ?_
      refine x3_ld hx hb hF hs h_n3 d_M_shape_96 ?_
      refine x_Sip hF hs v_M_type k_ml_M_57 (m_M_type) rfl rfl ⟨by decide, by decide⟩ rfl rfl hl.1 (Nat.le_of_ble_eq_true rfl) d_M_shape_97 ⟨Nat.zero_le _, Nat.zero_le _⟩ (fun H locs hs => ?_)
      refine lv_if_ne (tgt := 137) hx hb d_M_shape_100 (by decide) (fun h3 => ?_) (fun h3 => ?_)
      · refine lv_iconst (v := 0) hx hb d_M_shape_137 (by decide) ?_
        refine xp_M62 hx hb hF hs k_fl_M_78 bo_0 d_M_shape_138 (fun H locs hs => ?_)
        refine lv_goto (tgt := 313) hx hb d_M_shape_141 (by decide) ?_
        refine lv_aload_n hx hb d_M_shape_313 rfl (lv_at hl 4 rfl) ?_
        refine lv_iload_n hx hb d_M_shape_314 rfl (lv_at hl 6 rfl) ?_
        refine x_Vv hF hs v_M_put k_ml_M_89 (m_M_put h_n2) rfl rfl ⟨by decide, by decide⟩ rfl rfl hl.1 (Nat.le_of_ble_eq_true rfl) rM d_M_shape_315 ⟨Nat.zero_le _, Nat.zero_le _⟩ (fun H locs hs => ?_)
        refine hret _ _ _ _ _ hs ?_ d_M_shape_318
        exact (if_pos h1).trans ((if_neg h2).trans ((if_neg h3).trans rfl))
      · refine lv_aload_n hx hb d_M_shape_103 rfl (lv_at hl 4 rfl) ?_
        refine xg_M hx hb hF hs 10 (by decide) k_fl_M_75 rfl d_M_shape_104 ?_
        refine lv_iload hx hb d_M_shape_107 (lv_at hl 3 rfl) ?_
        refine x_Slp hF hs v_M_baseOf k_ml_M_65 (m_M_baseOf) rfl rfl ⟨by decide, by decide⟩ rfl rfl hl.1 (Nat.le_of_ble_eq_true rfl) d_M_shape_109 ⟨Nat.zero_le _, Nat.zero_le _⟩ (fun H locs hs => ?_)
        refine lv_lload hx hb d_M_shape_112 (lv_at hl 1 rfl) ?_
        refine W.lcmp hx hb d_M_shape_114 ?_
        refine lv_if_lt (tgt := 137) hx hb d_M_shape_115 (by decide) (fun h4 => ?_) (fun h4 => ?_)
        · refine lv_iconst (v := 0) hx hb d_M_shape_137 (by decide) ?_
          refine xp_M62 hx hb hF hs k_fl_M_78 bo_0 d_M_shape_138 (fun H locs hs => ?_)
          refine lv_goto (tgt := 313) hx hb d_M_shape_141 (by decide) ?_
          refine lv_aload_n hx hb d_M_shape_313 rfl (lv_at hl 4 rfl) ?_
          refine lv_iload_n hx hb d_M_shape_314 rfl (lv_at hl 6 rfl) ?_
          refine x_Vv hF hs v_M_put k_ml_M_89 (m_M_put h_n2) rfl rfl ⟨by decide, by decide⟩ rfl rfl hl.1 (Nat.le_of_ble_eq_true rfl) rM d_M_shape_315 ⟨Nat.zero_le _, Nat.zero_le _⟩ (fun H locs hs => ?_)
          refine hret _ _ _ _ _ hs ?_ d_M_shape_318
          exact (if_pos h1).trans ((if_neg h2).trans ((if_pos h3).trans ((if_pos h4).trans rfl)))
        · refine lv_aload_n hx hb d_M_shape_118 rfl (lv_at hl 4 rfl) ?_
          refine xg_M hx hb hF hs 10 (by decide) k_fl_M_75 rfl d_M_shape_119 ?_
          refine lv_iload hx hb d_M_shape_122 (lv_at hl 3 rfl) ?_
          refine x_Slp hF hs v_M_topOf k_ml_M_68 (m_M_topOf) rfl rfl ⟨by decide, by decide⟩ rfl rfl hl.1 (Nat.le_of_ble_eq_true rfl) d_M_shape_124 ⟨Nat.zero_le _, Nat.zero_le _⟩ (fun H locs hs => ?_)
          refine lv_lload hx hb d_M_shape_127 (lv_at hl 0 rfl) ?_
          refine W.lcmp hx hb d_M_shape_129 ?_
          refine lv_if_gt (tgt := 137) hx hb d_M_shape_130 (by decide) (fun h5 => ?_) (fun h5 => ?_)
          · refine lv_iconst (v := 0) hx hb d_M_shape_137 (by decide) ?_
            refine xp_M62 hx hb hF hs k_fl_M_78 bo_0 d_M_shape_138 (fun H locs hs => ?_)
            refine lv_goto (tgt := 313) hx hb d_M_shape_141 (by decide) ?_
            refine lv_aload_n hx hb d_M_shape_313 rfl (lv_at hl 4 rfl) ?_
            refine lv_iload_n hx hb d_M_shape_314 rfl (lv_at hl 6 rfl) ?_
            refine x_Vv hF hs v_M_put k_ml_M_89 (m_M_put h_n2) rfl rfl ⟨by decide, by decide⟩ rfl rfl hl.1 (Nat.le_of_ble_eq_true rfl) rM d_M_shape_315 ⟨Nat.zero_le _, Nat.zero_le _⟩ (fun H locs hs => ?_)
            refine hret _ _ _ _ _ hs ?_ d_M_shape_318
            exact (if_pos h1).trans ((if_neg h2).trans ((if_pos h3).trans ((if_neg h4).trans ((if_pos h5).trans rfl))))
          · refine lv_iconst (v := 1) hx hb d_M_shape_133 (by decide) ?_
            refine lv_goto (tgt := 138) hx hb d_M_shape_134 (by decide) ?_
            refine xp_M62 hx hb hF hs k_fl_M_78 bo_1 d_M_shape_138 (fun H locs hs => ?_)
            refine lv_goto (tgt := 313) hx hb d_M_shape_141 (by decide) ?_
            refine lv_aload_n hx hb d_M_shape_313 rfl (lv_at hl 4 rfl) ?_
            refine lv_iload_n hx hb d_M_shape_314 rfl (lv_at hl 6 rfl) ?_
            refine x_Vv hF hs v_M_put k_ml_M_89 (m_M_put h_n2) rfl rfl ⟨by decide, by decide⟩ rfl rfl hl.1 (Nat.le_of_ble_eq_true rfl) rM d_M_shape_315 ⟨Nat.zero_le _, Nat.zero_le _⟩ (fun H locs hs => ?_)
            refine hret _ _ _ _ _ hs ?_ d_M_shape_318
            exact (if_pos h1).trans ((if_neg h2).trans ((if_pos h3).trans ((if_neg h4).trans ((if_neg h5).trans rfl))))
def p_M_rule (σ : Mem) (n1 : Int32) (n2 : Int32) (n3 : Int32) (n4 : Int32) : Mem :=
  if n1 = (31 : Int32) then
    let σ9 : Mem := p_M_take σ (10 : Int32);
    if (p_M_type (σ9 6 1)) = (1 : Int32) then
      let σ12 : Mem := wr σ9 6 1 ((σ9 6 1) &&& ((-3841) : Int32));
      let σ13 : Mem := p_M_put σ12 (8 : Int32);
      σ13
    else
      let σ10 : Mem := wr σ9 6 1 (σ9 6 1);
      let σ11 : Mem := p_M_put σ10 (8 : Int32);
      σ11
  else
    let σ1 : Mem := p_M_take σ ((9 : Int32) + (n4 : Int32));
    let σ2 : Mem := p_M_put σ1 n2;
    if n3 = (0 : Int32) then
      let σ3 : Mem := p_M_go σ2 (4 : Int32);
      σ3
    else
      let σ4 : Mem := wr σ2 6 0 (σ 4 (n3 : Int32).toNatClampNeg);
      let σ5 : Mem := wr σ4 6 1 (σ 3 (n3 : Int32).toNatClampNeg);
      let σ6 : Mem := wr σ5 6 2 (bo (σ 2 (n3 : Int32).toNatClampNeg));
      let σ7 : Mem := p_M_put σ6 ((9 : Int32) + (n4 : Int32));
      let σ8 : Mem := p_M_go σ7 (4 : Int32);
      σ8
set_option maxHeartbeats 4000000 in
set_option maxRecDepth 100000 in
theorem m_M_rule {l : Launch} {D : va_G} {a : Nat → Nat} {cA : Nat → ClassId} {B0 : Nat → Prop} {σ : Mem} {n1 : Int32} {n2 : Int32} {n3 : Int32} {n4 : Int32} (h_n2 : vp_in n2 12) (h_n3 : vp_in n3 12) (h_s : ¬ n1 = 31 → vp_in (9 + n4) 12) : cV l y_M_rule (.code y_M_rule c_M_rule 8 (none) :: TG) (rmO 5 123) D (rwL a cA) (rty cA) B0 [.ref (a 0), .int n1, .int n2, .int n3, .int n4] σ (p_M_rule σ n1 n2 n3 n4) := by
  refine cV_of (by decide) (Nat.le_of_ble_eq_true rfl) ?_
  intro p e s m args below meth c Q ls hx hb hF hl hs hret
  have hl : lv_has ls 8 [(0, .ref (a 0)), (1, .int n1), (2, .int n2), (3, .int n3), (4, .int n4)] := hl
  refine lv_iload_n hx hb d_M_rule_0 rfl (lv_at hl 1 rfl) ?_
  refine lv_bipush (v := 31) hx hb d_M_rule_1 (by decide) ?_
  refine lv_icmp_ne (tgt := 49) hx hb d_M_rule_3 (by decide) (fun h1 => ?_) (fun h1 => ?_)
  · refine lv_aload_n hx hb d_M_rule_49 rfl (lv_at hl 0 rfl) ?_
    refine xg_M hx hb hF hs 0 (by decide) k_fl_M_7 rfl d_M_rule_50 ?_
    refine lv_iload_n hx hb d_M_rule_53 rfl (lv_at hl 3 rfl) ?_
    refine x4_ld hx hb hF hs h_n3 d_M_rule_54 ?_
    refine lv_istore (lv' := [(5, _), (0, _), (1, _), (2, _), (3, _), (4, _)]) hx hb d_M_rule_55 hl (by decide) rfl (fun ls hl => ?_)
    refine lv_aload_n hx hb d_M_rule_57 rfl (lv_at hl 1 rfl) ?_
    refine xg_M hx hb hF hs 1 (by decide) k_fl_M_13 rfl d_M_rule_58 ?_
    refine lv_iload_n hx hb d_M_rule_61 rfl (lv_at hl 4 rfl) ?_
    refine x3_ld hx hb hF hs h_n3 d_M_rule_62 ?_
    refine lv_istore (lv' := [(6, _), (5, _), (0, _), (1, _), (2, _), (3, _), (4, _)]) hx hb d_M_rule_63 hl (by decide) rfl (fun ls hl => ?_)
    refine lv_aload_n hx hb d_M_rule_65 rfl (lv_at hl 2 rfl) ?_
    refine xg_M hx hb hF hs 2 (by decide) k_fl_M_16 rfl d_M_rule_66 ?_
    refine lv_iload_n hx hb d_M_rule_69 rfl (lv_at hl 5 rfl) ?_
    refine x2_ld hx hb hF hs h_n3 d_M_rule_70 ?_
    refine lv_istore (lv' := [(7, _), (6, _), (5, _), (0, _), (1, _), (2, _), (3, _), (4, _)]) hx hb d_M_rule_71 hl (by decide) rfl (fun ls hl => ?_)
    refine lv_aload_n hx hb d_M_rule_73 rfl (lv_at hl 3 rfl) ?_
    refine lv_bipush (v := 9) hx hb d_M_rule_74 (by decide) ?_
    refine lv_iload hx hb d_M_rule_76 (lv_at hl 7 rfl) ?_
    refine lv_iadd hx hb d_M_rule_78 ?_
    refine x_Vv hF hs v_M_take k_ml_M_82 (m_M_take (h_s h1)) rfl rfl ⟨by decide, by decide⟩ rfl rfl hl.1 (Nat.le_of_ble_eq_true rfl) rM d_M_rule_79 ⟨Nat.zero_le _, Nat.zero_le _⟩ (fun H locs hs => ?_)
    refine lv_aload_n hx hb d_M_rule_82 rfl (lv_at hl 3 rfl) ?_
    refine lv_iload_n hx hb d_M_rule_83 rfl (lv_at hl 5 rfl) ?_
    refine x_Vv hF hs v_M_put k_ml_M_89 (m_M_put h_n2) rfl rfl ⟨by decide, by decide⟩ rfl rfl hl.1 (Nat.le_of_ble_eq_true rfl) rM d_M_rule_84 ⟨Nat.zero_le _, Nat.zero_le _⟩ (fun H locs hs => ?_)
    refine lv_iload_n hx hb d_M_rule_87 rfl (lv_at hl 6 rfl) ?_
    refine lv_if_eq (tgt := 118) hx hb d_M_rule_88 (by decide) (fun h2 => ?_) (fun h2 => ?_)
    · refine lv_aload_n hx hb d_M_rule_118 rfl (lv_at hl 3 rfl) ?_
      refine lv_iconst (v := 4) hx hb d_M_rule_119 (by decide) ?_
      refine x_Vv hF hs v_M_go k_ml_M_131 (m_M_go) rfl rfl ⟨by decide, by decide⟩ rfl rfl hl.1 (Nat.le_of_ble_eq_true rfl) rM d_M_rule_120 ⟨Nat.zero_le _, Nat.zero_le _⟩ (fun H locs hs => ?_)
      refine hret _ _ _ _ _ hs ?_ d_M_rule_123
      exact (if_neg h1).trans ((if_pos h2).trans rfl)
    · refine lv_aload_n hx hb d_M_rule_91 rfl (lv_at hl 3 rfl) ?_
      refine lv_iload hx hb d_M_rule_92 (lv_at hl 2 rfl) ?_
      refine xp_M6 hx hb hF hs 0 (by decide) k_fl_M_71 d_M_rule_94 (fun H locs hs => ?_)
      refine lv_aload_n hx hb d_M_rule_97 rfl (lv_at hl 3 rfl) ?_
      refine lv_iload hx hb d_M_rule_98 (lv_at hl 1 rfl) ?_
      refine xp_M6 hx hb hF hs 1 (by decide) k_fl_M_75 d_M_rule_100 (fun H locs hs => ?_)
      refine lv_aload_n hx hb d_M_rule_103 rfl (lv_at hl 3 rfl) ?_
      refine lv_iload hx hb d_M_rule_104 (lv_at hl 0 rfl) ?_
      refine xp_M62 hx hb hF hs k_fl_M_78 (bo_bo _) d_M_rule_106 (fun H locs hs => ?_)
      refine lv_aload_n hx hb d_M_rule_109 rfl (lv_at hl 3 rfl) ?_
      refine lv_bipush (v := 9) hx hb d_M_rule_110 (by decide) ?_
      refine lv_iload hx hb d_M_rule_112 (lv_at hl 7 rfl) ?_
      refine lv_iadd hx hb d_M_rule_114 ?_
      refine x_Vv hF hs v_M_put k_ml_M_89 (m_M_put (h_s h1)) rfl rfl ⟨by decide, by decide⟩ rfl rfl hl.1 (Nat.le_of_ble_eq_true rfl) rM d_M_rule_115 ⟨Nat.zero_le _, Nat.zero_le _⟩ (fun H locs hs => ?_)
      refine lv_aload_n hx hb d_M_rule_118 rfl (lv_at hl 3 rfl) ?_
      refine lv_iconst (v := 4) hx hb d_M_rule_119 (by decide) ?_
      refine x_Vv hF hs v_M_go k_ml_M_131 (m_M_go) rfl rfl ⟨by decide, by decide⟩ rfl rfl hl.1 (Nat.le_of_ble_eq_true rfl) rM d_M_rule_120 ⟨Nat.zero_le _, Nat.zero_le _⟩ (fun H locs hs => ?_)
      refine hret _ _ _ _ _ hs ?_ d_M_rule_123
      exact (if_neg h1).trans ((if_neg h2).trans rfl)
  · refine lv_aload_n hx hb d_M_rule_6 rfl (lv_at hl 0 rfl) ?_
    refine lv_bipush (v := 10) hx hb d_M_rule_7 (by decide) ?_
    refine x_Vv hF hs v_M_take k_ml_M_82 (m_M_take ic_10_12) rfl rfl ⟨by decide, by decide⟩ rfl rfl hl.1 (Nat.le_of_ble_eq_true rfl) rM d_M_rule_9 ⟨Nat.zero_le _, Nat.zero_le _⟩ (fun H locs hs => ?_)
    refine lv_aload_n hx hb d_M_rule_12 rfl (lv_at hl 0 rfl) ?_
    refine lv_aload_n hx hb d_M_rule_13 rfl (lv_at hl 0 rfl) ?_
    refine xg_M hx hb hF hs 10 (by decide) k_fl_M_75 rfl d_M_rule_14 ?_
    refine x_Sip hF hs v_M_type k_ml_M_57 (m_M_type) rfl rfl ⟨by decide, by decide⟩ rfl rfl hl.1 (Nat.le_of_ble_eq_true rfl) d_M_rule_17 ⟨Nat.zero_le _, Nat.zero_le _⟩ (fun H locs hs => ?_)
    refine lv_iconst (v := 1) hx hb d_M_rule_20 (by decide) ?_
    refine lv_icmp_ne (tgt := 35) hx hb d_M_rule_21 (by decide) (fun h2 => ?_) (fun h2 => ?_)
    · refine lv_aload_n hx hb d_M_rule_35 rfl (lv_at hl 0 rfl) ?_
      refine xg_M hx hb hF hs 10 (by decide) k_fl_M_75 rfl d_M_rule_36 ?_
      refine xp_M6 hx hb hF hs 1 (by decide) k_fl_M_75 d_M_rule_39 (fun H locs hs => ?_)
      refine lv_aload_n hx hb d_M_rule_42 rfl (lv_at hl 0 rfl) ?_
      refine lv_bipush (v := 8) hx hb d_M_rule_43 (by decide) ?_
      refine x_Vv hF hs v_M_put k_ml_M_89 (m_M_put ic_8_12) rfl rfl ⟨by decide, by decide⟩ rfl rfl hl.1 (Nat.le_of_ble_eq_true rfl) rM d_M_rule_45 ⟨Nat.zero_le _, Nat.zero_le _⟩ (fun H locs hs => ?_)
      refine hret _ _ _ _ _ hs ?_ d_M_rule_48
      exact (if_pos h1).trans ((if_neg h2).trans rfl)
    · refine lv_aload_n hx hb d_M_rule_24 rfl (lv_at hl 0 rfl) ?_
      refine xg_M hx hb hF hs 10 (by decide) k_fl_M_75 rfl d_M_rule_25 ?_
      refine lv_sipush (v := (-3841)) hx hb d_M_rule_28 (by decide) ?_
      refine lv_iand hx hb d_M_rule_31 ?_
      refine lv_goto (tgt := 39) hx hb d_M_rule_32 (by decide) ?_
      refine xp_M6 hx hb hF hs 1 (by decide) k_fl_M_75 d_M_rule_39 (fun H locs hs => ?_)
      refine lv_aload_n hx hb d_M_rule_42 rfl (lv_at hl 0 rfl) ?_
      refine lv_bipush (v := 8) hx hb d_M_rule_43 (by decide) ?_
      refine x_Vv hF hs v_M_put k_ml_M_89 (m_M_put ic_8_12) rfl rfl ⟨by decide, by decide⟩ rfl rfl hl.1 (Nat.le_of_ble_eq_true rfl) rM d_M_rule_45 ⟨Nat.zero_le _, Nat.zero_le _⟩ (fun H locs hs => ?_)
      refine hret _ _ _ _ _ hs ?_ d_M_rule_48
      exact (if_pos h1).trans ((if_pos h2).trans rfl)
def p_M_step (σ : Mem) : Mem :=
  let σ1 : Mem := wr σ 5 2 ((σ 5 2) + (1 : Int32));
  if (p_M_check σ1 (8 : Int32) (1 : Int32) (4 : Int32) (σ1 4 ((8 : Int32) : Int32).toNatClampNeg)) = (0 : Int32) then
    if (p_M_trapOf σ1 ((σ1 0 (((σ1 4 ((8 : Int32) : Int32).toNatClampNeg) / (4 : Int32)) : Int32).toNatClampNeg) &&& (31 : Int32)) (((σ1 0 (((σ1 4 ((8 : Int32) : Int32).toNatClampNeg) / (4 : Int32)) : Int32).toNatClampNeg) >>> ((8 : Int32) &&& 31)) &&& (7 : Int32)) (((σ1 0 (((σ1 4 ((8 : Int32) : Int32).toNatClampNeg) / (4 : Int32)) : Int32).toNatClampNeg) >>> ((11 : Int32) &&& 31)) &&& (7 : Int32)) ((σ1 0 (((σ1 4 ((8 : Int32) : Int32).toNatClampNeg) / (4 : Int32)) : Int32).toNatClampNeg) >>> ((14 : Int32) &&& 31))) = (0 : Int32) then
      if ((σ1 0 (((σ1 4 ((8 : Int32) : Int32).toNatClampNeg) / (4 : Int32)) : Int32).toNatClampNeg) &&& (31 : Int32)) = (0 : Int32) then
        let σ11 : Mem := wr σ1 5 0 (1 : Int32);
        σ11
      else
        if (11 : Int32) ≤ ((σ1 0 (((σ1 4 ((8 : Int32) : Int32).toNatClampNeg) / (4 : Int32)) : Int32).toNatClampNeg) &&& (31 : Int32)) then
          if (15 : Int32) ≤ ((σ1 0 (((σ1 4 ((8 : Int32) : Int32).toNatClampNeg) / (4 : Int32)) : Int32).toNatClampNeg) &&& (31 : Int32)) then
            if (19 : Int32) ≤ ((σ1 0 (((σ1 4 ((8 : Int32) : Int32).toNatClampNeg) / (4 : Int32)) : Int32).toNatClampNeg) &&& (31 : Int32)) then
              if (29 : Int32) ≤ ((σ1 0 (((σ1 4 ((8 : Int32) : Int32).toNatClampNeg) / (4 : Int32)) : Int32).toNatClampNeg) &&& (31 : Int32)) then
                let σ2 : Mem := p_M_rule σ1 ((σ1 0 (((σ1 4 ((8 : Int32) : Int32).toNatClampNeg) / (4 : Int32)) : Int32).toNatClampNeg) &&& (31 : Int32)) (((σ1 0 (((σ1 4 ((8 : Int32) : Int32).toNatClampNeg) / (4 : Int32)) : Int32).toNatClampNeg) >>> ((5 : Int32) &&& 31)) &&& (7 : Int32)) (((σ1 0 (((σ1 4 ((8 : Int32) : Int32).toNatClampNeg) / (4 : Int32)) : Int32).toNatClampNeg) >>> ((8 : Int32) &&& 31)) &&& (7 : Int32)) ((σ1 0 (((σ1 4 ((8 : Int32) : Int32).toNatClampNeg) / (4 : Int32)) : Int32).toNatClampNeg) >>> ((14 : Int32) &&& 31));
                σ2
              else
                let σ3 : Mem := p_M_shape σ1 ((σ1 0 (((σ1 4 ((8 : Int32) : Int32).toNatClampNeg) / (4 : Int32)) : Int32).toNatClampNeg) &&& (31 : Int32)) (((σ1 0 (((σ1 4 ((8 : Int32) : Int32).toNatClampNeg) / (4 : Int32)) : Int32).toNatClampNeg) >>> ((5 : Int32) &&& 31)) &&& (7 : Int32)) (((σ1 0 (((σ1 4 ((8 : Int32) : Int32).toNatClampNeg) / (4 : Int32)) : Int32).toNatClampNeg) >>> ((8 : Int32) &&& 31)) &&& (7 : Int32)) (((σ1 0 (((σ1 4 ((8 : Int32) : Int32).toNatClampNeg) / (4 : Int32)) : Int32).toNatClampNeg) >>> ((11 : Int32) &&& 31)) &&& (7 : Int32)) ((σ1 0 (((σ1 4 ((8 : Int32) : Int32).toNatClampNeg) / (4 : Int32)) : Int32).toNatClampNeg) >>> ((14 : Int32) &&& 31));
                let σ4 : Mem := p_M_go σ3 (4 : Int32);
                σ4
            else
              let σ5 : Mem := p_M_turn σ1 ((σ1 0 (((σ1 4 ((8 : Int32) : Int32).toNatClampNeg) / (4 : Int32)) : Int32).toNatClampNeg) &&& (31 : Int32)) (((σ1 0 (((σ1 4 ((8 : Int32) : Int32).toNatClampNeg) / (4 : Int32)) : Int32).toNatClampNeg) >>> ((5 : Int32) &&& 31)) &&& (7 : Int32)) (((σ1 0 (((σ1 4 ((8 : Int32) : Int32).toNatClampNeg) / (4 : Int32)) : Int32).toNatClampNeg) >>> ((8 : Int32) &&& 31)) &&& (7 : Int32)) (((σ1 0 (((σ1 4 ((8 : Int32) : Int32).toNatClampNeg) / (4 : Int32)) : Int32).toNatClampNeg) >>> ((11 : Int32) &&& 31)) &&& (7 : Int32)) ((σ1 0 (((σ1 4 ((8 : Int32) : Int32).toNatClampNeg) / (4 : Int32)) : Int32).toNatClampNeg) >>> ((14 : Int32) &&& 31));
              σ5
          else
            let σ6 : Mem := p_M_access σ1 ((σ1 0 (((σ1 4 ((8 : Int32) : Int32).toNatClampNeg) / (4 : Int32)) : Int32).toNatClampNeg) &&& (31 : Int32)) (((σ1 0 (((σ1 4 ((8 : Int32) : Int32).toNatClampNeg) / (4 : Int32)) : Int32).toNatClampNeg) >>> ((5 : Int32) &&& 31)) &&& (7 : Int32)) (((σ1 0 (((σ1 4 ((8 : Int32) : Int32).toNatClampNeg) / (4 : Int32)) : Int32).toNatClampNeg) >>> ((8 : Int32) &&& 31)) &&& (7 : Int32)) (((σ1 0 (((σ1 4 ((8 : Int32) : Int32).toNatClampNeg) / (4 : Int32)) : Int32).toNatClampNeg) >>> ((11 : Int32) &&& 31)) &&& (7 : Int32)) ((σ1 0 (((σ1 4 ((8 : Int32) : Int32).toNatClampNeg) / (4 : Int32)) : Int32).toNatClampNeg) >>> ((14 : Int32) &&& 31));
            let σ7 : Mem := p_M_go σ6 (4 : Int32);
            σ7
        else
          let σ8 : Mem := p_M_number σ1 (p_M_reckoned ((σ1 0 (((σ1 4 ((8 : Int32) : Int32).toNatClampNeg) / (4 : Int32)) : Int32).toNatClampNeg) &&& (31 : Int32)) (σ1 4 ((((σ1 0 (((σ1 4 ((8 : Int32) : Int32).toNatClampNeg) / (4 : Int32)) : Int32).toNatClampNeg) >>> ((8 : Int32) &&& 31)) &&& (7 : Int32)) : Int32).toNatClampNeg) (σ1 4 ((((σ1 0 (((σ1 4 ((8 : Int32) : Int32).toNatClampNeg) / (4 : Int32)) : Int32).toNatClampNeg) >>> ((11 : Int32) &&& 31)) &&& (7 : Int32)) : Int32).toNatClampNeg) ((σ1 0 (((σ1 4 ((8 : Int32) : Int32).toNatClampNeg) / (4 : Int32)) : Int32).toNatClampNeg) >>> ((14 : Int32) &&& 31)));
          let σ9 : Mem := p_M_put σ8 (((σ1 0 (((σ1 4 ((8 : Int32) : Int32).toNatClampNeg) / (4 : Int32)) : Int32).toNatClampNeg) >>> ((5 : Int32) &&& 31)) &&& (7 : Int32));
          let σ10 : Mem := p_M_go σ9 (4 : Int32);
          σ10
    else
      let σ12 : Mem := p_M_trap σ1 (p_M_trapOf σ1 ((σ1 0 (((σ1 4 ((8 : Int32) : Int32).toNatClampNeg) / (4 : Int32)) : Int32).toNatClampNeg) &&& (31 : Int32)) (((σ1 0 (((σ1 4 ((8 : Int32) : Int32).toNatClampNeg) / (4 : Int32)) : Int32).toNatClampNeg) >>> ((8 : Int32) &&& 31)) &&& (7 : Int32)) (((σ1 0 (((σ1 4 ((8 : Int32) : Int32).toNatClampNeg) / (4 : Int32)) : Int32).toNatClampNeg) >>> ((11 : Int32) &&& 31)) &&& (7 : Int32)) ((σ1 0 (((σ1 4 ((8 : Int32) : Int32).toNatClampNeg) / (4 : Int32)) : Int32).toNatClampNeg) >>> ((14 : Int32) &&& 31)));
      σ12
  else
    let σ13 : Mem := p_M_trap σ1 (p_M_of (8 : Int32) (p_M_check σ1 (8 : Int32) (1 : Int32) (4 : Int32) (σ1 4 ((8 : Int32) : Int32).toNatClampNeg)));
    σ13
set_option maxHeartbeats 4000000 in
set_option maxRecDepth 100000 in
theorem m_M_step {l : Launch} {D : va_G} {a : Nat → Nat} {cA : Nat → ClassId} {B0 : Nat → Prop} {σ : Mem} : cV l y_M_step (.code y_M_step c_M_step 9 (none) :: TG) (rmO 6 156) D (rwL a cA) (rty cA) B0 [.ref (a 0)] σ (p_M_step σ) := by
  refine cV_of (by decide) (Nat.le_of_ble_eq_true rfl) ?_
  intro p e s m args below meth c Q ls hx hb hF hl hs hret
  have hl : lv_has ls 9 [(0, .ref (a 0))] := hl
  refine lv_aload_n hx hb d_M_step_0 rfl (lv_at hl 0 rfl) ?_
  refine lv_dup hx hb d_M_step_1 rfl ?_
  refine xg_M hx hb hF hs 7 (by decide) k_fl_M_116 rfl d_M_step_2 ?_
  refine lv_iconst (v := 1) hx hb d_M_step_5 (by decide) ?_
  refine lv_iadd hx hb d_M_step_6 ?_
  refine xp_M5 hx hb hF hs 2 (by decide) k_fl_M_116 d_M_step_7 (fun H locs hs => ?_)
  refine lv_aload_n hx hb d_M_step_10 rfl (lv_at hl 0 rfl) ?_
  refine lv_bipush (v := 8) hx hb d_M_step_11 (by decide) ?_
  refine lv_iconst (v := 1) hx hb d_M_step_13 (by decide) ?_
  refine lv_iconst (v := 4) hx hb d_M_step_14 (by decide) ?_
  refine lv_aload_n hx hb d_M_step_15 rfl (lv_at hl 0 rfl) ?_
  refine xg_M hx hb hF hs 0 (by decide) k_fl_M_7 rfl d_M_step_16 ?_
  refine lv_bipush (v := 8) hx hb d_M_step_19 (by decide) ?_
  refine x4_ld hx hb hF hs ic_8_12 d_M_step_21 ?_
  refine x_Vip hF hs v_M_check k_ml_M_95 (m_M_check ic_8_12 (by decide)) rfl rfl ⟨by decide, by decide⟩ rfl rfl hl.1 (Nat.le_of_ble_eq_true rfl) rM d_M_step_22 ⟨Nat.zero_le _, Nat.zero_le _⟩ (fun H locs hs => ?_)
  refine lv_istore_n (lv' := [(1, _), (0, _)]) hx hb d_M_step_25 rfl hl (by decide) rfl (fun ls hl => ?_)
  refine lv_iload_n hx hb d_M_step_26 rfl (lv_at hl 0 rfl) ?_
  refine lv_if_eq (tgt := 41) hx hb d_M_step_27 (by decide) (fun h1 => ?_) (fun h1 => ?_)
  · refine lv_aload_n hx hb d_M_step_41 rfl (lv_at hl 1 rfl) ?_
    refine xg_M hx hb hF hs 3 (by decide) k_fl_M_20 rfl d_M_step_42 ?_
    refine lv_aload_n hx hb d_M_step_45 rfl (lv_at hl 1 rfl) ?_
    refine xg_M hx hb hF hs 0 (by decide) k_fl_M_7 rfl d_M_step_46 ?_
    refine lv_bipush (v := 8) hx hb d_M_step_49 (by decide) ?_
    refine x4_ld hx hb hF hs ic_8_12 d_M_step_51 ?_
    refine lv_iconst (v := 4) hx hb d_M_step_52 (by decide) ?_
    refine lv_idiv hx hb d_M_step_53 (by decide) ?_
    refine x0_ld hx hb hF hs (ix_m4 h1) d_M_step_54 ?_
    refine lv_istore_n (lv' := [(2, _), (1, _), (0, _)]) hx hb d_M_step_55 rfl hl (by decide) rfl (fun ls hl => ?_)
    refine lv_iload_n hx hb d_M_step_56 rfl (lv_at hl 0 rfl) ?_
    refine lv_bipush (v := 31) hx hb d_M_step_57 (by decide) ?_
    refine lv_iand hx hb d_M_step_59 ?_
    refine lv_istore_n (lv' := [(3, _), (2, _), (1, _), (0, _)]) hx hb d_M_step_60 rfl hl (by decide) rfl (fun ls hl => ?_)
    refine lv_iload_n hx hb d_M_step_61 rfl (lv_at hl 1 rfl) ?_
    refine lv_iconst (v := 5) hx hb d_M_step_62 (by decide) ?_
    refine lv_ishr hx hb d_M_step_63 ?_
    refine lv_bipush (v := 7) hx hb d_M_step_64 (by decide) ?_
    refine lv_iand hx hb d_M_step_66 ?_
    refine lv_istore (lv' := [(4, _), (3, _), (2, _), (1, _), (0, _)]) hx hb d_M_step_67 hl (by decide) rfl (fun ls hl => ?_)
    refine lv_iload_n hx hb d_M_step_69 rfl (lv_at hl 2 rfl) ?_
    refine lv_bipush (v := 8) hx hb d_M_step_70 (by decide) ?_
    refine lv_ishr hx hb d_M_step_72 ?_
    refine lv_bipush (v := 7) hx hb d_M_step_73 (by decide) ?_
    refine lv_iand hx hb d_M_step_75 ?_
    refine lv_istore (lv' := [(5, _), (4, _), (3, _), (2, _), (1, _), (0, _)]) hx hb d_M_step_76 hl (by decide) rfl (fun ls hl => ?_)
    refine lv_iload_n hx hb d_M_step_78 rfl (lv_at hl 3 rfl) ?_
    refine lv_bipush (v := 11) hx hb d_M_step_79 (by decide) ?_
    refine lv_ishr hx hb d_M_step_81 ?_
    refine lv_bipush (v := 7) hx hb d_M_step_82 (by decide) ?_
    refine lv_iand hx hb d_M_step_84 ?_
    refine lv_istore (lv' := [(6, _), (5, _), (4, _), (3, _), (2, _), (1, _), (0, _)]) hx hb d_M_step_85 hl (by decide) rfl (fun ls hl => ?_)
    refine lv_iload_n hx hb d_M_step_87 rfl (lv_at hl 4 rfl) ?_
    refine lv_bipush (v := 14) hx hb d_M_step_88 (by decide) ?_
    refine lv_ishr hx hb d_M_step_90 ?_
    refine lv_istore (lv' := [(7, _), (6, _), (5, _), (4, _), (3, _), (2, _), (1, _), (0, _)]) hx hb d_M_step_91 hl (by decide) rfl (fun ls hl => ?_)
    refine lv_aload_n hx hb d_M_step_93 rfl (lv_at hl 7 rfl) ?_
    refine lv_iload_n hx hb d_M_step_94 rfl (lv_at hl 4 rfl) ?_
    refine lv_iload hx hb d_M_step_95 (lv_at hl 2 rfl) ?_
    refine lv_iload hx hb d_M_step_97 (lv_at hl 1 rfl) ?_
    refine lv_iload hx hb d_M_step_99 (lv_at hl 0 rfl) ?_
    refine x_Vip hF hs v_M_trapOf k_ml_M_122 (m_M_trapOf (ix_and7 _) (ix_and7 _)) rfl rfl ⟨by decide, by decide⟩ rfl rfl hl.1 (Nat.le_of_ble_eq_true rfl) rM d_M_step_101 ⟨Nat.zero_le _, Nat.zero_le _⟩ (fun H locs hs => ?_)
    refine lv_istore (lv' := [(8, _), (7, _), (6, _), (5, _), (4, _), (3, _), (2, _), (1, _), (0, _)]) hx hb d_M_step_104 hl (by decide) rfl (fun ls hl => ?_)
    refine lv_iload hx hb d_M_step_106 (lv_at hl 0 rfl) ?_
    refine lv_if_eq (tgt := 118) hx hb d_M_step_108 (by decide) (fun h2 => ?_) (fun h2 => ?_)
    · refine lv_iload_n hx hb d_M_step_118 rfl (lv_at hl 5 rfl) ?_
      refine lv_if_ne (tgt := 130) hx hb d_M_step_119 (by decide) (fun h3 => ?_) (fun h3 => ?_)
      · refine lv_iload_n hx hb d_M_step_130 rfl (lv_at hl 5 rfl) ?_
        refine lv_bipush (v := 11) hx hb d_M_step_131 (by decide) ?_
        refine lv_icmp_ge (tgt := 174) hx hb d_M_step_133 (by decide) (fun h4 => ?_) (fun h4 => ?_)
        · refine lv_iload_n hx hb d_M_step_174 rfl (lv_at hl 5 rfl) ?_
          refine lv_bipush (v := 15) hx hb d_M_step_175 (by decide) ?_
          refine lv_icmp_ge (tgt := 201) hx hb d_M_step_177 (by decide) (fun h5 => ?_) (fun h5 => ?_)
          · refine lv_iload_n hx hb d_M_step_201 rfl (lv_at hl 5 rfl) ?_
            refine lv_bipush (v := 19) hx hb d_M_step_202 (by decide) ?_
            refine lv_icmp_ge (tgt := 223) hx hb d_M_step_204 (by decide) (fun h6 => ?_) (fun h6 => ?_)
            · refine lv_iload_n hx hb d_M_step_223 rfl (lv_at hl 5 rfl) ?_
              refine lv_bipush (v := 29) hx hb d_M_step_224 (by decide) ?_
              refine lv_icmp_ge (tgt := 250) hx hb d_M_step_226 (by decide) (fun h7 => ?_) (fun h7 => ?_)
              · refine lv_aload_n hx hb d_M_step_250 rfl (lv_at hl 8 rfl) ?_
                refine lv_iload_n hx hb d_M_step_251 rfl (lv_at hl 5 rfl) ?_
                refine lv_iload hx hb d_M_step_252 (lv_at hl 4 rfl) ?_
                refine lv_iload hx hb d_M_step_254 (lv_at hl 3 rfl) ?_
                refine lv_iload hx hb d_M_step_256 (lv_at hl 1 rfl) ?_
                refine x_Vv hF hs v_M_rule k_ml_M_144 (m_M_rule (ix_and7 _) (ix_and7 _) (ix_rule h2 h7)) rfl rfl ⟨by decide, by decide⟩ rfl rfl hl.1 (Nat.le_of_ble_eq_true rfl) rM d_M_step_258 ⟨Nat.zero_le _, Nat.zero_le _⟩ (fun H locs hs => ?_)
                refine hret _ _ _ _ _ hs ?_ d_M_step_261
                exact (if_pos h1).trans ((if_pos h2).trans ((if_neg h3).trans ((if_pos h4).trans ((if_pos h5).trans ((if_pos h6).trans ((if_pos h7).trans rfl))))))
              · refine lv_aload_n hx hb d_M_step_229 rfl (lv_at hl 8 rfl) ?_
                refine lv_iload_n hx hb d_M_step_230 rfl (lv_at hl 5 rfl) ?_
                refine lv_iload hx hb d_M_step_231 (lv_at hl 4 rfl) ?_
                refine lv_iload hx hb d_M_step_233 (lv_at hl 3 rfl) ?_
                refine lv_iload hx hb d_M_step_235 (lv_at hl 2 rfl) ?_
                refine lv_iload hx hb d_M_step_237 (lv_at hl 1 rfl) ?_
                refine x_Vv hF hs v_M_shape k_ml_M_141 (m_M_shape (ix_and7 _) (ix_and7 _) (ix_and7 _)) rfl rfl ⟨by decide, by decide⟩ rfl rfl hl.1 (Nat.le_of_ble_eq_true rfl) rM d_M_step_239 ⟨Nat.zero_le _, Nat.zero_le _⟩ (fun H locs hs => ?_)
                refine lv_aload_n hx hb d_M_step_242 rfl (lv_at hl 8 rfl) ?_
                refine lv_iconst (v := 4) hx hb d_M_step_243 (by decide) ?_
                refine x_Vv hF hs v_M_go k_ml_M_131 (m_M_go) rfl rfl ⟨by decide, by decide⟩ rfl rfl hl.1 (Nat.le_of_ble_eq_true rfl) rM d_M_step_244 ⟨Nat.zero_le _, Nat.zero_le _⟩ (fun H locs hs => ?_)
                refine lv_goto (tgt := 261) hx hb d_M_step_247 (by decide) ?_
                refine hret _ _ _ _ _ hs ?_ d_M_step_261
                exact (if_pos h1).trans ((if_pos h2).trans ((if_neg h3).trans ((if_pos h4).trans ((if_pos h5).trans ((if_pos h6).trans ((if_neg h7).trans rfl))))))
            · refine lv_aload_n hx hb d_M_step_207 rfl (lv_at hl 8 rfl) ?_
              refine lv_iload_n hx hb d_M_step_208 rfl (lv_at hl 5 rfl) ?_
              refine lv_iload hx hb d_M_step_209 (lv_at hl 4 rfl) ?_
              refine lv_iload hx hb d_M_step_211 (lv_at hl 3 rfl) ?_
              refine lv_iload hx hb d_M_step_213 (lv_at hl 2 rfl) ?_
              refine lv_iload hx hb d_M_step_215 (lv_at hl 1 rfl) ?_
              refine x_Vv hF hs v_M_turn k_ml_M_138 (m_M_turn (ix_and7 _) (ix_and7 _) (ix_and7 _)) rfl rfl ⟨by decide, by decide⟩ rfl rfl hl.1 (Nat.le_of_ble_eq_true rfl) rM d_M_step_217 ⟨Nat.zero_le _, Nat.zero_le _⟩ (fun H locs hs => ?_)
              refine lv_goto (tgt := 261) hx hb d_M_step_220 (by decide) ?_
              refine hret _ _ _ _ _ hs ?_ d_M_step_261
              exact (if_pos h1).trans ((if_pos h2).trans ((if_neg h3).trans ((if_pos h4).trans ((if_pos h5).trans ((if_neg h6).trans rfl)))))
          · refine lv_aload_n hx hb d_M_step_180 rfl (lv_at hl 8 rfl) ?_
            refine lv_iload_n hx hb d_M_step_181 rfl (lv_at hl 5 rfl) ?_
            refine lv_iload hx hb d_M_step_182 (lv_at hl 4 rfl) ?_
            refine lv_iload hx hb d_M_step_184 (lv_at hl 3 rfl) ?_
            refine lv_iload hx hb d_M_step_186 (lv_at hl 2 rfl) ?_
            refine lv_iload hx hb d_M_step_188 (lv_at hl 1 rfl) ?_
            refine x_Vv hF hs v_M_access k_ml_M_134 (m_M_access (ix_and7 _) (ix_and7 _) (ix_and7 _) (ix_acc1 h2 h4 h5) (ix_acc2 h2 h4 h5) (ix_acc3 h2 h4 h5)) rfl rfl ⟨by decide, by decide⟩ rfl rfl hl.1 (Nat.le_of_ble_eq_true rfl) rM d_M_step_190 ⟨Nat.zero_le _, Nat.zero_le _⟩ (fun H locs hs => ?_)
            refine lv_aload_n hx hb d_M_step_193 rfl (lv_at hl 8 rfl) ?_
            refine lv_iconst (v := 4) hx hb d_M_step_194 (by decide) ?_
            refine x_Vv hF hs v_M_go k_ml_M_131 (m_M_go) rfl rfl ⟨by decide, by decide⟩ rfl rfl hl.1 (Nat.le_of_ble_eq_true rfl) rM d_M_step_195 ⟨Nat.zero_le _, Nat.zero_le _⟩ (fun H locs hs => ?_)
            refine lv_goto (tgt := 261) hx hb d_M_step_198 (by decide) ?_
            refine hret _ _ _ _ _ hs ?_ d_M_step_261
            exact (if_pos h1).trans ((if_pos h2).trans ((if_neg h3).trans ((if_pos h4).trans ((if_neg h5).trans rfl))))
        · refine lv_aload_n hx hb d_M_step_136 rfl (lv_at hl 8 rfl) ?_
          refine lv_iload_n hx hb d_M_step_137 rfl (lv_at hl 5 rfl) ?_
          refine lv_aload_n hx hb d_M_step_138 rfl (lv_at hl 8 rfl) ?_
          refine xg_M hx hb hF hs 0 (by decide) k_fl_M_7 rfl d_M_step_139 ?_
          refine lv_iload hx hb d_M_step_142 (lv_at hl 3 rfl) ?_
          refine x4_ld hx hb hF hs (ix_and7 _) d_M_step_144 ?_
          refine lv_aload_n hx hb d_M_step_145 rfl (lv_at hl 8 rfl) ?_
          refine xg_M hx hb hF hs 0 (by decide) k_fl_M_7 rfl d_M_step_146 ?_
          refine lv_iload hx hb d_M_step_149 (lv_at hl 2 rfl) ?_
          refine x4_ld hx hb hF hs (ix_and7 _) d_M_step_151 ?_
          refine lv_iload hx hb d_M_step_152 (lv_at hl 1 rfl) ?_
          refine x_Sip hF hs v_M_reckoned k_ml_M_125 (m_M_reckoned) rfl rfl ⟨by decide, by decide⟩ rfl rfl hl.1 (Nat.le_of_ble_eq_true rfl) d_M_step_154 ⟨Nat.zero_le _, Nat.zero_le _⟩ (fun H locs hs => ?_)
          refine x_Vv hF hs v_M_number k_ml_M_128 (m_M_number) rfl rfl ⟨by decide, by decide⟩ rfl rfl hl.1 (Nat.le_of_ble_eq_true rfl) rM d_M_step_157 ⟨Nat.zero_le _, Nat.zero_le _⟩ (fun H locs hs => ?_)
          refine lv_aload_n hx hb d_M_step_160 rfl (lv_at hl 8 rfl) ?_
          refine lv_iload hx hb d_M_step_161 (lv_at hl 4 rfl) ?_
          refine x_Vv hF hs v_M_put k_ml_M_89 (m_M_put (ix_and7 _)) rfl rfl ⟨by decide, by decide⟩ rfl rfl hl.1 (Nat.le_of_ble_eq_true rfl) rM d_M_step_163 ⟨Nat.zero_le _, Nat.zero_le _⟩ (fun H locs hs => ?_)
          refine lv_aload_n hx hb d_M_step_166 rfl (lv_at hl 8 rfl) ?_
          refine lv_iconst (v := 4) hx hb d_M_step_167 (by decide) ?_
          refine x_Vv hF hs v_M_go k_ml_M_131 (m_M_go) rfl rfl ⟨by decide, by decide⟩ rfl rfl hl.1 (Nat.le_of_ble_eq_true rfl) rM d_M_step_168 ⟨Nat.zero_le _, Nat.zero_le _⟩ (fun H locs hs => ?_)
          refine lv_goto (tgt := 261) hx hb d_M_step_171 (by decide) ?_
          refine hret _ _ _ _ _ hs ?_ d_M_step_261
          exact (if_pos h1).trans ((if_pos h2).trans ((if_neg h3).trans ((if_neg h4).trans rfl)))
      · refine lv_aload_n hx hb d_M_step_122 rfl (lv_at hl 8 rfl) ?_
        refine lv_iconst (v := 1) hx hb d_M_step_123 (by decide) ?_
        refine xp_M5 hx hb hF hs 0 (by decide) k_fl_M_113 d_M_step_124 (fun H locs hs => ?_)
        refine lv_goto (tgt := 261) hx hb d_M_step_127 (by decide) ?_
        refine hret _ _ _ _ _ hs ?_ d_M_step_261
        exact (if_pos h1).trans ((if_pos h2).trans ((if_pos h3).trans rfl))
    · refine lv_aload_n hx hb d_M_step_111 rfl (lv_at hl 8 rfl) ?_
      refine lv_iload hx hb d_M_step_112 (lv_at hl 0 rfl) ?_
      refine x_Vv hF hs v_M_trap k_ml_M_119 (m_M_trap) rfl rfl ⟨by decide, by decide⟩ rfl rfl hl.1 (Nat.le_of_ble_eq_true rfl) rM d_M_step_114 ⟨Nat.zero_le _, Nat.zero_le _⟩ (fun H locs hs => ?_)
      refine hret _ _ _ _ _ hs ?_ d_M_step_117
      exact (if_pos h1).trans ((if_neg h2).trans rfl)
  · refine lv_aload_n hx hb d_M_step_30 rfl (lv_at hl 1 rfl) ?_
    refine lv_bipush (v := 8) hx hb d_M_step_31 (by decide) ?_
    refine lv_iload_n hx hb d_M_step_33 rfl (lv_at hl 0 rfl) ?_
    refine x_Sip hF hs v_M_of k_ml_M_99 (m_M_of) rfl rfl ⟨by decide, by decide⟩ rfl rfl hl.1 (Nat.le_of_ble_eq_true rfl) d_M_step_34 ⟨Nat.zero_le _, Nat.zero_le _⟩ (fun H locs hs => ?_)
    refine x_Vv hF hs v_M_trap k_ml_M_119 (m_M_trap) rfl rfl ⟨by decide, by decide⟩ rfl rfl hl.1 (Nat.le_of_ble_eq_true rfl) rM d_M_step_37 ⟨Nat.zero_le _, Nat.zero_le _⟩ (fun H locs hs => ?_)
    refine hret _ _ _ _ _ hs ?_ d_M_step_40
    exact (if_neg h1).trans rfl
