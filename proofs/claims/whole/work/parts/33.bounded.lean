theorem sh_ne : ∀ k : Nat, k < 32 → ¬ (1 : Int64) <<< ((nI k).toInt64 &&& 63) = 0 := by decide
/-- the E that is enough, found from 0 on: the reference -/
def bM (g2 g3 : Int64) : Nat → Int32 → Int32
  | 0, e => e
  | n + 1, e => if (31 : Int32) ≤ e then e else if (lg_cmp ((((g3 + (((1 : Int64) <<< ((e).toInt64 &&& 63)) : Int64)) - ((1 : Int64) : Int64)) / ((1 : Int64) <<< ((e).toInt64 &&& 63))) - ((g2 / ((1 : Int64) <<< ((e).toInt64 &&& 63))) : Int64)) (96 : Int64)) ≤ (0 : Int32) then e else bM g2 g3 n (e + 1)
def p_M_bounded (n1 : Int32) (g2 g3 : Int64) : Int32 :=
  ((((n1 &&& (4095 : Int32)) ||| (((bM g2 g3 32 0) <<< ((12 : Int32) &&& 31)) : Int32)) ||| (((((g2 / ((1 : Int64) <<< (((bM g2 g3 32 0)).toInt64 &&& 63))) - (g2 / ((1 : Int64) <<< (((bM g2 g3 32 0)).toInt64 &&& 63))) / (128 : Int64) * (128 : Int64))).toInt32 <<< ((17 : Int32) &&& 31)) : Int32)) ||| (((((((g3 + (((1 : Int64) <<< (((bM g2 g3 32 0)).toInt64 &&& 63)) : Int64)) - (1 : Int64)) / ((1 : Int64) <<< (((bM g2 g3 32 0)).toInt64 &&& 63))) - (((g3 + (((1 : Int64) <<< (((bM g2 g3 32 0)).toInt64 &&& 63)) : Int64)) - (1 : Int64)) / ((1 : Int64) <<< (((bM g2 g3 32 0)).toInt64 &&& 63))) / (128 : Int64) * (128 : Int64))).toInt32 <<< ((24 : Int32) &&& 31)) : Int32))
set_option maxHeartbeats 4000000 in
set_option maxRecDepth 100000 in
theorem m_M_bounded {l : Launch} {D : va_G} {a : Nat → Nat} {cA : Nat → ClassId} {B0 : Nat → Prop} {σ : Mem} {n1 : Int32} {g2 g3 : Int64} : cI l y_M_bounded (.code y_M_bounded c_M_bounded 10 (some FieldType.int) :: TG) (rmO 0 0) D (rwL a cA) (rty cA) B0 [.int n1, .long g2, .long g3] σ (p_M_bounded n1 g2 g3, σ) := by
  refine cI_of (by decide) (Nat.le_of_ble_eq_true rfl) ?_
  intro p e s m args below meth c Q ls hx hb hF hl hs hret
  have hl : lv_has ls 10 [(0, .int n1), (1, .long g2), (3, .long g3)] := hl
  have fin : ∀ (x : Int32) (H : Heap) (locs : List Loc) (ls : Array Slot), bM g2 g3 32 0 = x → ¬ (1 : Int64) <<< (x.toInt64 &&& 63) = 0 → sS D (rwL a cA) B0 s σ H locs → lv_has ls 10 [(5, .int x), (0, .int n1), (1, .long g2), (3, .long g3)] → W p l e (rmO 0 0) s m args below meth c H locs 0 0 Q (F0 m 43 ls []) := by
    intro x H locs ls he hE hs hl
    subst he
    refine lv_lload_n hx hb d_M_bounded_43 rfl (lv_at hl 2 rfl) ?_
    refine lv_lconst (v := 1) hx hb d_M_bounded_44 (by decide) ?_
    refine lv_iload hx hb d_M_bounded_45 (lv_at hl 0 rfl) ?_
    refine lv_lshl hx hb d_M_bounded_47 rfl ?_
    refine lv_ldiv hx hb d_M_bounded_48 hE ?_
    refine lv_lstore (lv' := [(6, _), (5, _), (0, _), (1, _), (3, _)]) hx hb d_M_bounded_49 hl (by decide) rfl (fun ls hl => ?_)
    refine lv_lload_n hx hb d_M_bounded_51 rfl (lv_at hl 4 rfl) ?_
    refine lv_lconst (v := 1) hx hb d_M_bounded_52 (by decide) ?_
    refine lv_iload hx hb d_M_bounded_53 (lv_at hl 1 rfl) ?_
    refine lv_lshl hx hb d_M_bounded_55 rfl ?_
    refine lv_ladd hx hb d_M_bounded_56 ?_
    refine lv_lconst (v := 1) hx hb d_M_bounded_57 (by decide) ?_
    refine lv_lsub hx hb d_M_bounded_58 ?_
    refine lv_lconst (v := 1) hx hb d_M_bounded_59 (by decide) ?_
    refine lv_iload hx hb d_M_bounded_60 (lv_at hl 1 rfl) ?_
    refine lv_lshl hx hb d_M_bounded_62 rfl ?_
    refine lv_ldiv hx hb d_M_bounded_63 hE ?_
    refine lv_lstore (lv' := [(8, _), (6, _), (5, _), (0, _), (1, _), (3, _)]) hx hb d_M_bounded_64 hl (by decide) rfl (fun ls hl => ?_)
    refine lv_iload_n hx hb d_M_bounded_66 rfl (lv_at hl 3 rfl) ?_
    refine lv_sipush (v := 4095) hx hb d_M_bounded_67 (by decide) ?_
    refine lv_iand hx hb d_M_bounded_70 ?_
    refine lv_iload hx hb d_M_bounded_71 (lv_at hl 2 rfl) ?_
    refine lv_bipush (v := 12) hx hb d_M_bounded_73 (by decide) ?_
    refine lv_ishl hx hb d_M_bounded_75 ?_
    refine lv_ior hx hb d_M_bounded_76 ?_
    refine lv_lload hx hb d_M_bounded_77 (lv_at hl 1 rfl) ?_
    refine x_ldc2 hx hb hF k_cL_M_45 d_M_bounded_79 ?_
    refine lv_lrem hx hb d_M_bounded_82 (by decide) ?_
    refine lv_l2i hx hb d_M_bounded_83 rfl ?_
    refine lv_bipush (v := 17) hx hb d_M_bounded_84 (by decide) ?_
    refine lv_ishl hx hb d_M_bounded_86 ?_
    refine lv_ior hx hb d_M_bounded_87 ?_
    refine lv_lload hx hb d_M_bounded_88 (lv_at hl 0 rfl) ?_
    refine x_ldc2 hx hb hF k_cL_M_45 d_M_bounded_90 ?_
    refine lv_lrem hx hb d_M_bounded_93 (by decide) ?_
    refine lv_l2i hx hb d_M_bounded_94 rfl ?_
    refine lv_bipush (v := 24) hx hb d_M_bounded_95 (by decide) ?_
    refine lv_ishl hx hb d_M_bounded_97 ?_
    refine lv_ior hx hb d_M_bounded_98 ?_
    refine hret _ _ _ _ _ _ hs ?_ d_M_bounded_99
    exact pr_eq (rfl)
  have J : ∀ (n k : Nat), (k < 32 ∧ 31 < k + n) → bM g2 g3 n (nI k) = bM g2 g3 32 0 → ∀ (H : Heap) (locs : List Loc) (ls : Array Slot), sS D (rwL a cA) B0 s σ H locs → lv_has ls 10 [(5, .int (nI k)), (0, .int n1), (1, .long g2), (3, .long g3)] → W p l e (rmO 0 0) s m args below meth c H locs 0 0 Q (F0 m 3 ls []) := by
    intro n
    induction n with
    | zero => intro k hk; omega
    | succ n ih =>
      intro k hk he H locs ls hs hl
      refine lv_iload hx hb d_M_bounded_3 (lv_at hl 0 rfl) ?_
      refine lv_bipush (v := 31) hx hb d_M_bounded_5 (by decide) ?_
      refine lv_icmp_ge (tgt := 43) hx hb d_M_bounded_7 (by decide) (fun h1 => ?_) (fun h1 => ?_)
      · exact fin _ _ _ _ (he.symm.trans ((if_pos h1).trans rfl)) (sh_ne k (by omega)) hs hl
      · refine lv_lload_n hx hb d_M_bounded_10 rfl (lv_at hl 3 rfl) ?_
        refine lv_lconst (v := 1) hx hb d_M_bounded_11 (by decide) ?_
        refine lv_iload hx hb d_M_bounded_12 (lv_at hl 0 rfl) ?_
        refine lv_lshl hx hb d_M_bounded_14 rfl ?_
        refine lv_ladd hx hb d_M_bounded_15 ?_
        refine lv_lconst (v := 1) hx hb d_M_bounded_16 (by decide) ?_
        refine lv_lsub hx hb d_M_bounded_17 ?_
        refine lv_lconst (v := 1) hx hb d_M_bounded_18 (by decide) ?_
        refine lv_iload hx hb d_M_bounded_19 (lv_at hl 0 rfl) ?_
        refine lv_lshl hx hb d_M_bounded_21 rfl ?_
        refine lv_ldiv hx hb d_M_bounded_22 (sh_ne k (by omega)) ?_
        refine lv_lload_n hx hb d_M_bounded_23 rfl (lv_at hl 2 rfl) ?_
        refine lv_lconst (v := 1) hx hb d_M_bounded_24 (by decide) ?_
        refine lv_iload hx hb d_M_bounded_25 (lv_at hl 0 rfl) ?_
        refine lv_lshl hx hb d_M_bounded_27 rfl ?_
        refine lv_ldiv hx hb d_M_bounded_28 (sh_ne k (by omega)) ?_
        refine lv_lsub hx hb d_M_bounded_29 ?_
        refine x_ldc2 hx hb hF k_cL_M_55 d_M_bounded_30 ?_
        refine W.lcmp hx hb d_M_bounded_33 ?_
        refine lv_if_le (tgt := 43) hx hb d_M_bounded_34 (by decide) (fun h2 => ?_) (fun h2 => ?_)
        · exact fin _ _ _ _ (he.symm.trans ((if_neg h1).trans ((if_pos h2).trans rfl))) (sh_ne k (by omega)) hs hl
        · refine lv_iinc (k := 0) (v := (nI (k + 1))) (lv' := [(5, _), (0, _), (1, _), (3, _)]) hx hb d_M_bounded_37 hl rfl (by rw [nI_succ]; rfl) (by decide) rfl (fun ls hl => ?_)
          refine lv_goto (tgt := 3) hx hb d_M_bounded_40 (by decide) ?_
          exact ih (k + 1) (sh_up hk h1) (by rw [nI_succ]; exact (Eq.symm ((if_neg h1).trans ((if_neg h2).trans rfl))).trans he) _ _ _ hs hl
  refine lv_iconst (v := 0) hx hb d_M_bounded_0 (by decide) ?_
  refine lv_istore (lv' := [(5, _), (0, _), (1, _), (3, _)]) hx hb d_M_bounded_1 hl (by decide) rfl (fun ls hl => ?_)
  exact J 32 0 (by decide) rfl _ _ _ hs hl
