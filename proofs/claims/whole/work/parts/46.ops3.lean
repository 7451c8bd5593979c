-- operations, second half
section OPS3
variable {σ τ : Mem} {d s t i : Int32}
theorem sm_12 (h : Sm σ τ) {σ' : Mem} (hb : bs σ' = bs σ) (hg : ∀ j, j ≠ 12 → gc σ' j = gc σ j) : Sm σ' τ := ⟨hb.trans h.1, fun j hj => (hg j hj).trans (h.2 j hj)⟩
theorem tag_sim (h : Sm σ τ) (hn : gc σ 12 = gn τ) (v : Int32) : Sm (wr σ 2 12 v) (wr τ 6 2 v) ∧ gc (wr σ 2 12 v) 12 = gn (wr τ 6 2 v) := by
  refine ⟨⟨?_, fun j hj => ?_⟩, ?_⟩
  · rw [bs_w2, bs_w6]; exact h.1
  · rw [gc_w2, gc_w6, if_neg hj]; exact h.2 j hj
  · rw [gc_w2, gn_62, if_pos rfl, hn]
theorem meta_sim (h : Sm σ τ) (hn : gc σ 12 = gn τ) (v : Int32) : Sm (wr σ 3 12 v) (wr τ 6 1 v) ∧ gc (wr σ 3 12 v) 12 = gn (wr τ 6 1 v) := by
  refine ⟨⟨?_, fun j hj => ?_⟩, ?_⟩
  · rw [bs_w3, bs_w6]; exact h.1
  · rw [gc_w3, gc_w6, if_neg hj]; exact h.2 j hj
  · rw [gc_w3, gn_61, if_pos rfl, hn]
theorem mv_sim (h : Sm σ τ) (hn : gc σ 12 = gn τ) (x : Int32) : Sm (p_K_move σ 12 x) (p_M_move τ x) ∧ gc (p_K_move σ 12 x) 12 = gn (p_M_move τ x) := by
  refine ⟨⟨?_, fun j hj => ?_⟩, ?_⟩
  · rw [move_bs, mmov_bs]; exact h.1
  · rw [move_gc, mmov_gc, if_neg hj]; exact h.2 j hj
  · rw [move_gc, mmov_gn, if_pos rfl, hn]
theorem one_of {x : Int32} (h : ¬ bo x = 0) : bo x = 1 := (bo_01 x).resolve_left h
theorem ty_le (m : Int32) : (p_M_type m ≤ 1) = (p_M_type m = 0 ∨ p_M_type m = 1) := by
  have hy := fY_lt m
  rw [ty_n]
  have e0 : (0 : Int32) = nI 0 := rfl
  have e1 : (1 : Int32) = nI 1 := rfl
  rw [e0, e1, nI_eq (by omega) (by decide), nI_eq (by omega) (by decide), nI_leI (by omega) (by decide)]
  apply propext
  omega
theorem ty_2 (m : Int32) : ((2 : Int32) ≤ p_M_type m) = ¬ (p_M_type m = 0 ∨ p_M_type m = 1) := by
  have hy := fY_lt m
  rw [ty_n]
  have e0 : (0 : Int32) = nI 0 := rfl
  have e1 : (1 : Int32) = nI 1 := rfl
  have e2 : (2 : Int32) = nI 2 := rfl
  rw [e0, e1, e2, nI_eq (by omega) (by decide), nI_eq (by omega) (by decide), nI_leI (by decide) (by omega)]
  apply propext
  omega
theorem jump_sim (h : Sm σ τ) (hd : vp_in d 12) (hs : vp_in s 12) (ht : ¬ bo (τ 2 s.toNatClampNeg) = 0) : Sm (p_K_copy (p_X_writeLink (p_K_setType (p_K_copy σ 12 s.toNatClampNeg) 12 0) d) 8 12) (p_M_put (wr (p_M_typed (wr (p_M_put (p_M_link τ) d) 6 0 (τ 4 s.toNatClampNeg)) (τ 3 s.toNatClampNeg) 0) 6 2 1) 8) := by
  have h12 := (d_cases hs).2.2
  have h1 : Sm (p_K_setType (p_K_copy σ 12 s.toNatClampNeg) 12 0) τ := sm_12 h (by rw [setT_bs, copy_bs]) (fun j hj => by rw [setT_gc, if_neg hj, copy_gc, if_neg hj])
  have hg : gc (p_K_setType (p_K_copy σ 12 s.toNatClampNeg) 12 0) 12 = (1, tyw (τ 3 s.toNatClampNeg) 0, τ 4 s.toNatClampNeg) := by
    rw [setT_gc, if_pos rfl, copy_gc, if_pos rfl, h.2 _ h12]
    show (bo (τ 2 s.toNatClampNeg), tyw (τ 3 s.toNatClampNeg) 0, τ 4 s.toNatClampNeg) = _
    rw [one_of ht]
  obtain ⟨h2, h3⟩ := link_sim h1 hd
  have e8 : (8 : Int32).toNatClampNeg = 8 := by decide
  refine ⟨?_, fun j hj => ?_⟩
  · rw [copy_bs, put_bs, bs_w6, typd_bs, bs_w6]; exact h2.1
  · rw [copy_gc, put_gc, if_neg (show ¬ (8 : Int32) ≤ 0 by decide), e8, gn_62, typd_gn, gn_60, gc_w6, typd_gc, gc_w6, h3, hg, h2.2 j hj]
    rfl
theorem op_18 (h : Sm σ τ) (hd : vp_in d 12) (hs : vp_in s 12) : OpS σ τ 18 d s t i := by
  have h12 := (d_cases hs).2.2
  have et : p_M_trapOf τ 18 s t i = if bo (τ 2 s.toNatClampNeg) = 0 then p_X_trapOf s 1 else if (p_M_type (τ 3 s.toNatClampNeg) = 0 ∨ p_M_type (τ 3 s.toNatClampNeg) = 1) then (if ¬ (τ 3 s.toNatClampNeg &&& 1 = 1) then p_X_trapOf s 3 else 0) else p_X_trapOf s 2 := by
    unfold p_M_trapOf
    rw [if_neg (show ¬ (18 : Int32) = 11 by decide), if_neg (show ¬ (18 : Int32) = 13 by decide), if_neg (show ¬ (18 : Int32) = 12 by decide), if_neg (show ¬ (18 : Int32) = 14 by decide), if_pos rfl]
    simp only [ty_le, ha_is]
    rfl
  have ee : p_exe σ 18 d s t i = if bo (τ 2 s.toNatClampNeg) = 0 then (p_X_trapOf s 1, σ) else if (p_M_type (τ 3 s.toNatClampNeg) = 0 ∨ p_M_type (τ 3 s.toNatClampNeg) = 1) then (if ¬ (τ 3 s.toNatClampNeg &&& 1 = 1) then (p_X_trapOf s 3, σ) else (0, p_K_copy (p_X_writeLink (p_K_setType (p_K_copy σ 12 s.toNatClampNeg) 12 0) d) 8 12)) else (p_X_trapOf s 2, σ) := by
    have e1 : p_exe σ 18 d s t i = p_X_jump σ d s := rfl
    rw [e1]
    unfold p_X_jump
    dsimp only
    simp only [se_is, ty_eq, pe_is σ _ (show 255 &&& (1 : Int32) = 1 by decide), h.t h12, h.m h12]
    by_cases c1 : p_M_type (τ 3 s.toNatClampNeg) = 0
    · simp only [c1, if_true, true_or]
    · simp only [c1, if_false, false_or]
  have er : p_act τ 18 d s t i = p_M_put (wr (p_M_typed (wr (p_M_put (p_M_link τ) d) 6 0 (τ 4 s.toNatClampNeg)) (τ 3 s.toNatClampNeg) 0) 6 2 1) 8 := rfl
  unfold OpS
  rw [et, ee, er]
  by_cases c1 : bo (τ 2 s.toNatClampNeg) = 0
  · rw [if_pos c1, if_pos c1]
    exact ⟨fun z => absurd z (tr_ne s (k := 1) (by decide) (by decide)), fun _ => rfl⟩
  · rw [if_neg c1, if_neg c1]
    by_cases c2 : p_M_type (τ 3 s.toNatClampNeg) = 0 ∨ p_M_type (τ 3 s.toNatClampNeg) = 1
    · rw [if_pos c2, if_pos c2]
      by_cases c3 : ¬ (τ 3 s.toNatClampNeg &&& 1 = 1)
      · rw [if_pos c3, if_pos c3]
        exact ⟨fun z => absurd z (tr_ne s (k := 3) (by decide) (by decide)), fun _ => rfl⟩
      · rw [if_neg c3, if_neg c3]
        exact ⟨fun _ => ⟨rfl, jump_sim h hd hs c1⟩, fun z => absurd rfl z⟩
    · rw [if_neg c2, if_neg c2]
      exact ⟨fun z => absurd z (tr_ne s (k := 2) (by decide) (by decide)), fun _ => rfl⟩
theorem op_27 (h : Sm σ τ) (hd : vp_in d 12) (hs : vp_in s 12) : OpS σ τ 27 d s t i := by
  obtain ⟨h1, h2⟩ := take_sim h hs
  exact stp_go (σ' := p_X_writeMade (p_K_copy σ 12 s.toNatClampNeg) d) (τ' := p_M_put (p_M_take τ s) d) rfl rfl rfl (made_sim h1 h2 hd)
theorem op_28 (h : Sm σ τ) (hd : vp_in d 12) (hs : vp_in s 12) : OpS σ τ 28 d s t i := by
  obtain ⟨h1, h2⟩ := take_sim h hs
  obtain ⟨h3, h4⟩ := tag_sim h1 h2 0
  exact stp_go (σ' := p_X_writeMade (wr (p_K_copy σ 12 s.toNatClampNeg) 2 12 0) d) (τ' := p_M_put (wr (p_M_take τ s) 6 2 0) d) rfl rfl rfl (made_sim h3 h4 hd)
theorem tk_a (r : Int32) (k : Nat) : (p_M_take τ r) 4 k = τ 4 k := congrArg (fun c : Cap => c.2.2) (take_gc τ r k)
theorem tk_m (r : Int32) (k : Nat) : (p_M_take τ r) 3 k = τ 3 k := congrArg (fun c : Cap => c.2.1) (take_gc τ r k)
theorem tk_t (r : Int32) (k : Nat) : bo ((p_M_take τ r) 2 k) = bo (τ 2 k) := congrArg (fun c : Cap => c.1) (take_gc τ r k)
theorem cp_a {k j : Nat} (hk : k ≠ 12) : (p_K_copy σ 12 j) 4 k = σ 4 k := congrArg (fun c : Cap => c.2.2) ((copy_gc σ 12 j k).trans (if_neg hk))
theorem cp_m {k j : Nat} (hk : k ≠ 12) : (p_K_copy σ 12 j) 3 k = σ 3 k := congrArg (fun c : Cap => c.2.1) ((copy_gc σ 12 j k).trans (if_neg hk))
theorem cp_t {k j : Nat} (hk : k ≠ 12) : bo ((p_K_copy σ 12 j) 2 k) = bo (σ 2 k) := congrArg (fun c : Cap => c.1) ((copy_gc σ 12 j k).trans (if_neg hk))
theorem op_21 (h : Sm σ τ) (hd : vp_in d 12) (hs : vp_in s 12) (ht : vp_in t 12) : OpS σ τ 21 d s t i := by
  obtain ⟨h1, h2⟩ := take_sim h hs
  obtain ⟨h3, h4⟩ := mv_sim h1 h2 (τ 4 s.toNatClampNeg + τ 4 t.toNatClampNeg)
  refine stp_go (σ' := p_X_writeMade (p_K_move (p_K_copy σ 12 s.toNatClampNeg) 12 (τ 4 s.toNatClampNeg + τ 4 t.toNatClampNeg)) d) (τ' := p_M_put (p_M_move (p_M_take τ s) (τ 4 s.toNatClampNeg + τ 4 t.toNatClampNeg)) d) ?_ rfl rfl (made_sim h3 h4 hd)
  rw [← h.a (d_cases hs).2.2, ← h.a (d_cases ht).2.2, ← cp_a (σ := σ) (j := s.toNatClampNeg) (d_cases hs).2.2, ← cp_a (σ := σ) (j := s.toNatClampNeg) (d_cases ht).2.2]
  rfl
theorem op_22 (h : Sm σ τ) (hd : vp_in d 12) (hs : vp_in s 12) (ht : vp_in t 12) : OpS σ τ 22 d s t i := by
  obtain ⟨h1, h2⟩ := take_sim h hs
  obtain ⟨h3, h4⟩ := mv_sim h1 h2 (τ 4 t.toNatClampNeg)
  refine stp_go (σ' := p_X_writeMade (p_K_move (p_K_copy σ 12 s.toNatClampNeg) 12 (τ 4 t.toNatClampNeg)) d) (τ' := p_M_put (p_M_move (p_M_take τ s) (τ 4 t.toNatClampNeg)) d) ?_ rfl rfl (made_sim h3 h4 hd)
  rw [← h.a (d_cases ht).2.2, ← cp_a (σ := σ) (j := s.toNatClampNeg) (d_cases ht).2.2]
  rfl
theorem op_20 (h : Sm σ τ) (hd : vp_in d 12) (hs : vp_in s 12) (ht : vp_in t 12) : OpS σ τ 20 d s t i := by
  have s12 := (d_cases hs).2.2
  have t12 := (d_cases ht).2.2
  obtain ⟨h1, h2⟩ := take_sim h hs
  have hm : (p_K_copy σ 12 s.toNatClampNeg) 3 12 = (p_M_take τ s) 6 1 := congrArg (fun c : Cap => c.2.1) h2
  obtain ⟨h3, h4⟩ := meta_sim h1 h2 ((p_M_take τ s) 6 1 &&& (τ 4 t.toNatClampNeg ||| (-256)))
  have hv : ∀ v : Int32, v = (if bo (τ 2 s.toNatClampNeg) = 0 then (0 : Int32) else if p_M_type (τ 3 s.toNatClampNeg) = 0 then 1 else 0) → OpS σ τ 20 d s t i := by
    intro v hv
    obtain ⟨h5, h6⟩ := tag_sim h3 h4 v
    refine stp_go (σ' := p_X_writeMade (wr (wr (p_K_copy σ 12 s.toNatClampNeg) 3 12 ((p_M_take τ s) 6 1 &&& (τ 4 t.toNatClampNeg ||| (-256)))) 2 12 v) d) (τ' := p_M_put (wr (wr (p_M_take τ s) 6 1 ((p_M_take τ s) 6 1 &&& (τ 4 t.toNatClampNeg ||| (-256)))) 6 2 v) d) ?_ rfl ?_ (made_sim h5 h6 hd)
    · have e1 : p_exe σ 20 d s t i = p_X_branch (p_X_derive σ 20 d s.toNatClampNeg t.toNatClampNeg) 1 := rfl
      rw [e1]
      congr 1
      unfold p_X_derive
      dsimp only
      rw [if_neg (show ¬ (20 : Int32) = 19 by decide), if_pos rfl]
      have e2 : p_K_keepPermissions (p_K_copy σ 12 s.toNatClampNeg) 12 ((p_K_copy σ 12 s.toNatClampNeg) 4 t.toNatClampNeg) = wr (p_K_copy σ 12 s.toNatClampNeg) 3 12 ((p_M_take τ s) 6 1 &&& (τ 4 t.toNatClampNeg ||| (-256))) := by
        rw [← hm, ← h.a t12, ← cp_a (σ := σ) (j := s.toNatClampNeg) t12]; rfl
      rw [e2]
      simp only [se_is, wr_row _ 12 _ (show 2 ≠ 3 by decide), wr_pl _ 3 _ s12, cp_t s12, cp_m s12, h.t s12, h.m s12]
      rw [hv]
      repeat' split
      all_goals first | rfl | (exfalso; contradiction)
    · have e1 : p_act τ 20 d s t i = p_M_go (p_M_shape τ 20 d s t i) 4 := rfl
      rw [e1]
      congr 1
      unfold p_M_shape
      dsimp only
      rw [if_neg (show ¬ (20 : Int32) = 19 by decide), if_pos rfl]
      have hb : bo ((p_M_take τ s) 6 2) = bo (τ 2 s.toNatClampNeg) := congrArg (fun c : Cap => c.1) (take_gn τ s)
      simp only [wr_pl _ 6 _ (show 2 ≠ 1 by decide), wr_row _ 1 _ (show 3 ≠ 6 by decide), hb, tk_m]
      rw [hv]
      repeat' split
      all_goals first | rfl | (exfalso; contradiction)
  exact hv _ rfl
theorem un_2 (x y : Int32) : ((x.toInt64 &&& 4294967295) = lN x.toBitVec.toNat) ∧ ((x.toInt64 &&& 4294967295) + (y.toInt64 &&& 4294967295) = lN (x.toBitVec.toNat + y.toBitVec.toNat)) ∧ p_M_unsigned x = lN x.toBitVec.toNat ∧ p_M_unsigned x + p_M_unsigned y = lN (x.toBitVec.toNat + y.toBitVec.toNat) := by
  rw [un_l, un_l, unM, unM, lN_add]
  exact ⟨rfl, rfl, rfl, rfl⟩
theorem op_19 (h : Sm σ τ) (hd : vp_in d 12) (hs : vp_in s 12) (ht : vp_in t 12) : OpS σ τ 19 d s t i := by
  have s12 := (d_cases hs).2.2
  have t12 := (d_cases ht).2.2
  obtain ⟨h1, h2⟩ := take_sim h hs
  have hm : (p_K_copy σ 12 s.toNatClampNeg) 3 12 = τ 3 s.toNatClampNeg := by
    have := congrArg (fun c : Cap => c.2.1) ((copy_gc σ 12 s.toNatClampNeg 12).trans (if_pos rfl))
    exact Eq.trans this (h.m s12)
  have ha : (p_K_copy σ 12 s.toNatClampNeg) 4 12 = τ 4 s.toNatClampNeg := by
    have := congrArg (fun c : Cap => c.2.2) ((copy_gc σ 12 s.toNatClampNeg 12).trans (if_pos rfl))
    exact Eq.trans this (h.a s12)
  generalize hB : p_M_bounded (τ 3 s.toNatClampNeg) (p_M_unsigned (τ 4 s.toNatClampNeg)) (p_M_unsigned (τ 4 s.toNatClampNeg) + p_M_unsigned (τ 4 t.toNatClampNeg)) = B
  obtain ⟨u1, u2, u3, u4⟩ := un_2 (τ 4 s.toNatClampNeg) (τ 4 t.toNatClampNeg)
  have hx := (τ 4 s.toNatClampNeg).toBitVec.isLt
  have hy := (τ 4 t.toNatClampNeg).toBitVec.isLt
  obtain ⟨h3, h4⟩ := meta_sim h1 h2 B
  have hv : ∀ v : Int32, v = (if bo (τ 2 s.toNatClampNeg) = 0 then (0 : Int32) else if p_M_type (τ 3 s.toNatClampNeg) = 0 then (if p_M_baseOf B (τ 4 s.toNatClampNeg) < p_M_baseOf (τ 3 s.toNatClampNeg) (τ 4 s.toNatClampNeg) then 0 else if p_M_topOf (τ 3 s.toNatClampNeg) (τ 4 s.toNatClampNeg) < p_M_topOf B (τ 4 s.toNatClampNeg) then 0 else 1) else 0) → OpS σ τ 19 d s t i := by
    intro v hv
    obtain ⟨h5, h6⟩ := tag_sim h3 h4 v
    refine stp_go (σ' := p_X_writeMade (wr (wr (p_K_copy σ 12 s.toNatClampNeg) 3 12 B) 2 12 v) d) (τ' := p_M_put (wr (wr (p_M_take τ s) 6 1 B) 6 2 v) d) ?_ rfl ?_ (made_sim h5 h6 hd)
    · have e1 : p_exe σ 19 d s t i = p_X_branch (p_X_writeMade (p_X_narrow (p_K_copy σ 12 s.toNatClampNeg) s.toNatClampNeg ((p_K_copy σ 12 s.toNatClampNeg) 4 t.toNatClampNeg)) d) 1 := rfl
      rw [e1, cp_a t12, h.a t12]
      congr 2
      unfold p_X_narrow
      dsimp only
      rw [cp_a s12, h.a s12, u2, u1, bound_eq _ _ (by omega) (by omega), hm, ← u3, ← u4, hB]
      simp only [se_is, low_eq, up_eq, lg_cmp_lt, lg_cmp_gt, wr_same, wr_row _ 12 _ (show 2 ≠ 3 by decide), wr_row _ 12 _ (show 4 ≠ 3 by decide), wr_pl _ 3 _ s12, cp_t s12, cp_m s12, cp_a s12, ha, h.t s12, h.m s12, h.a s12]
      rw [hv]
      repeat' split
      all_goals first | rfl | (exfalso; contradiction)
    · have e1 : p_act τ 19 d s t i = p_M_go (p_M_shape τ 19 d s t i) 4 := rfl
      rw [e1]
      congr 1
      unfold p_M_shape
      dsimp only
      rw [if_pos rfl]
      have hb : bo ((p_M_take τ s) 6 2) = bo (τ 2 s.toNatClampNeg) := congrArg (fun c : Cap => c.1) (take_gn τ s)
      simp only [lg_cmp_lt, lg_cmp_gt, wr_pl _ 6 _ (show 2 ≠ 1 by decide), wr_same, wr_row _ 1 _ (show 3 ≠ 6 by decide), hb, tk_m, hB]
      rw [hv]
      repeat' split
      all_goals first | rfl | (exfalso; contradiction)
  exact hv _ rfl
end OPS3
