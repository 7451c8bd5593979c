/-- the E that is enough, found from 0 on -/
def bE (g1 g2 : Int64) : Nat → Int32 → Int32
  | 0, e => e
  | n + 1, e => if (31 : Int32) ≤ e then e else if (lg_cmp ((p_K_unitsUp g2 e) - ((g1 >>> ((e).toInt64 &&& 63)) : Int64)) (96 : Int64)) ≤ (0 : Int32) then e else bE g1 g2 n (e + 1)
def p_K_bound (σ : Mem) (i0 : Nat) (g1 g2 : Int64) : Mem :=
  let σ1 : Mem := wr σ 3 i0 (((((σ 3 i0) &&& (4095 : Int32)) ||| (((bE g1 g2 32 0) <<< ((12 : Int32) &&& 31)) : Int32)) ||| (((((g1 >>> (((bE g1 g2 32 0)).toInt64 &&& 63))).toInt32 &&& (127 : Int32)) <<< ((17 : Int32) &&& 31)) : Int32)) ||| (((((p_K_unitsUp g2 (bE g1 g2 32 0))).toInt32 &&& (127 : Int32)) <<< ((24 : Int32) &&& 31)) : Int32));
  σ1
set_option maxHeartbeats 4000000 in
set_option maxRecDepth 100000 in
theorem m_K_bound {l : Launch} {D : va_G} {a : Nat → Nat} {cA : Nat → ClassId} {B0 : Nat → Prop} {σ : Mem} {i0 : Nat} {g1 g2 : Int64} (h_i0 : i0 < 13) : cV l y_K_bound (.code y_K_bound c_K_bound 8 (none) :: TG) (rmO 1 22) D (cwL a cA) (cty cA) B0 [.ref (a (4 + i0)), .long g1, .long g2] σ (p_K_bound σ i0 g1 g2) := by
  refine cV_of (by decide) (Nat.le_of_ble_eq_true rfl) ?_
  intro p e s m args below meth c Q ls hx hb hF hl hs hret
  have hl : lv_has ls 8 [(0, .ref (a (4 + i0))), (1, .long g1), (3, .long g2)] := hl
  have fin : ∀ (x : Int32) (H : Heap) (locs : List Loc) (ls : Array Slot), bE g1 g2 32 0 = x → sS D (cwL a cA) B0 s σ H locs → lv_has ls 8 [(5, .int x), (0, .ref (a (4 + i0))), (1, .long g1), (3, .long g2)] → W p l e (rmO 1 22) s m args below meth c H locs 0 0 Q (F0 m 34 ls []) := by
    intro x H locs ls he hs hl
    subst he
    refine lv_lload_n hx hb d_K_bound_34 rfl (lv_at hl 2 rfl) ?_
    refine lv_iload hx hb d_K_bound_35 (lv_at hl 0 rfl) ?_
    refine lv_lshr hx hb d_K_bound_37 rfl ?_
    refine lv_l2i hx hb d_K_bound_38 rfl ?_
    refine lv_bipush (v := 127) hx hb d_K_bound_39 (by decide) ?_
    refine lv_iand hx hb d_K_bound_41 ?_
    refine lv_istore (lv' := [(6, _), (5, _), (0, _), (1, _), (3, _)]) hx hb d_K_bound_42 hl (by decide) rfl (fun ls hl => ?_)
    refine lv_lload_n hx hb d_K_bound_44 rfl (lv_at hl 4 rfl) ?_
    refine lv_iload hx hb d_K_bound_45 (lv_at hl 1 rfl) ?_
    refine x_Slp hF hs v_K_unitsUp k_ml_K_46 (m_K_unitsUp) rfl rfl ⟨by decide, by decide⟩ rfl rfl hl.1 (Nat.le_of_ble_eq_true rfl) d_K_bound_47 ⟨Nat.zero_le _, Nat.zero_le _⟩ (fun H locs hs => ?_)
    refine lv_l2i hx hb d_K_bound_50 rfl ?_
    refine lv_bipush (v := 127) hx hb d_K_bound_51 (by decide) ?_
    refine lv_iand hx hb d_K_bound_53 ?_
    refine lv_istore (lv' := [(7, _), (6, _), (5, _), (0, _), (1, _), (3, _)]) hx hb d_K_bound_54 hl (by decide) rfl (fun ls hl => ?_)
    refine lv_aload_n hx hb d_K_bound_56 rfl (lv_at hl 3 rfl) ?_
    refine lv_aload_n hx hb d_K_bound_57 rfl (lv_at hl 3 rfl) ?_
    refine xg_K hx hb hF hs 1 (by decide) h_i0 k_fl_K_15 rfl d_K_bound_58 ?_
    refine lv_sipush (v := 4095) hx hb d_K_bound_61 (by decide) ?_
    refine lv_iand hx hb d_K_bound_64 ?_
    refine lv_iload hx hb d_K_bound_65 (lv_at hl 2 rfl) ?_
    refine lv_bipush (v := 12) hx hb d_K_bound_67 (by decide) ?_
    refine lv_ishl hx hb d_K_bound_69 ?_
    refine lv_ior hx hb d_K_bound_70 ?_
    refine lv_iload hx hb d_K_bound_71 (lv_at hl 1 rfl) ?_
    refine lv_bipush (v := 17) hx hb d_K_bound_73 (by decide) ?_
    refine lv_ishl hx hb d_K_bound_75 ?_
    refine lv_ior hx hb d_K_bound_76 ?_
    refine lv_iload hx hb d_K_bound_77 (lv_at hl 0 rfl) ?_
    refine lv_bipush (v := 24) hx hb d_K_bound_79 (by decide) ?_
    refine lv_ishl hx hb d_K_bound_81 ?_
    refine lv_ior hx hb d_K_bound_82 ?_
    refine xp_K3 hx hb hF hs h_i0 k_fl_K_15 d_K_bound_83 (fun H locs hs => ?_)
    refine hret _ _ _ _ _ hs ?_ d_K_bound_86
    exact rfl
  have J : ∀ (n k : Nat), (k < 32 ∧ 31 < k + n) → bE g1 g2 n (nI k) = bE g1 g2 32 0 → ∀ (H : Heap) (locs : List Loc) (ls : Array Slot), sS D (cwL a cA) B0 s σ H locs → lv_has ls 8 [(5, .int (nI k)), (0, .ref (a (4 + i0))), (1, .long g1), (3, .long g2)] → W p l e (rmO 1 22) s m args below meth c H locs 0 0 Q (F0 m 3 ls []) := by
    intro n
    induction n with
    | zero => intro k hk; omega
    | succ n ih =>
      intro k hk he H locs ls hs hl
      refine lv_iload hx hb d_K_bound_3 (lv_at hl 0 rfl) ?_
      refine lv_bipush (v := 31) hx hb d_K_bound_5 (by decide) ?_
      refine lv_icmp_ge (tgt := 34) hx hb d_K_bound_7 (by decide) (fun h1 => ?_) (fun h1 => ?_)
      · exact fin _ _ _ _ (he.symm.trans ((if_pos h1).trans rfl)) hs hl
      · refine lv_lload_n hx hb d_K_bound_10 rfl (lv_at hl 3 rfl) ?_
        refine lv_iload hx hb d_K_bound_11 (lv_at hl 0 rfl) ?_
        refine x_Slp hF hs v_K_unitsUp k_ml_K_46 (m_K_unitsUp) rfl rfl ⟨by decide, by decide⟩ rfl rfl hl.1 (Nat.le_of_ble_eq_true rfl) d_K_bound_13 ⟨Nat.zero_le _, Nat.zero_le _⟩ (fun H locs hs => ?_)
        refine lv_lload_n hx hb d_K_bound_16 rfl (lv_at hl 2 rfl) ?_
        refine lv_iload hx hb d_K_bound_17 (lv_at hl 0 rfl) ?_
        refine lv_lshr hx hb d_K_bound_19 rfl ?_
        refine lv_lsub hx hb d_K_bound_20 ?_
        refine x_ldc2 hx hb hF k_cL_K_50 d_K_bound_21 ?_
        refine W.lcmp hx hb d_K_bound_24 ?_
        refine lv_if_le (tgt := 34) hx hb d_K_bound_25 (by decide) (fun h2 => ?_) (fun h2 => ?_)
        · exact fin _ _ _ _ (he.symm.trans ((if_neg h1).trans ((if_pos h2).trans rfl))) hs hl
        · refine lv_iinc (k := 0) (v := (nI (k + 1))) (lv' := [(5, _), (0, _), (1, _), (3, _)]) hx hb d_K_bound_28 hl rfl (by rw [nI_succ]; rfl) (by decide) rfl (fun ls hl => ?_)
          refine lv_goto (tgt := 3) hx hb d_K_bound_31 (by decide) ?_
          exact ih (k + 1) (sh_up hk h1) (by rw [nI_succ]; exact (Eq.symm ((if_neg h1).trans ((if_neg h2).trans rfl))).trans he) _ _ _ hs hl
  refine lv_iconst (v := 0) hx hb d_K_bound_0 (by decide) ?_
  refine lv_istore (lv' := [(5, _), (0, _), (1, _), (3, _)]) hx hb d_K_bound_1 hl (by decide) rfl (fun ls hl => ?_)
  exact J 32 0 (by decide) rfl _ _ _ hs hl
