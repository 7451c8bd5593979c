-- operations 26, 29 to 31; all of them; a step; a run
section OPS5
variable {σ τ : Mem} {d s t i : Int32}
theorem mB_eq (h : Sm σ τ) {a b : Nat} (ha : a ≠ 12) (hb : b ≠ 12) : mB σ a b = mB τ a b := by
  unfold mB
  simp only [h.t ha, h.m ha, h.a ha, h.m hb, h.a hb]
theorem op_26 (h : Sm σ τ) (hd : vp_in d 12) (hs : vp_in s 12) (ht : vp_in t 12) : OpS σ τ 26 d s t i := by
  have s12 := (d_cases hs).2.2
  have t12 := (d_cases ht).2.2
  obtain ⟨h1, h2⟩ := take_sim h hs
  obtain ⟨h3, h4⟩ := take_sim h1 ht
  have h5 : Sm (p_K_copy (p_K_copy σ 12 s.toNatClampNeg) 12 t.toNatClampNeg) (p_M_take τ s) := ⟨by rw [copy_bs]; exact h1.1, fun j hj => by rw [copy_gc, if_neg hj]; exact h1.2 j hj⟩
  obtain ⟨h6, h7⟩ := tag_sim h3 h4 (mB (p_M_take τ s) s.toNatClampNeg t.toNatClampNeg)
  refine stp_go (σ' := p_X_writeMade (wr (p_K_copy (p_K_copy σ 12 s.toNatClampNeg) 12 t.toNatClampNeg) 2 12 (mB (p_M_take τ s) s.toNatClampNeg t.toNatClampNeg)) d) (τ' := p_M_put (wr (p_M_take (p_M_take τ s) t) 6 2 (mB (p_M_take τ s) s.toNatClampNeg t.toNatClampNeg)) d) ?_ rfl ?_ (made_sim h6 h7 hd)
  · rw [← mB_eq h5 s12 t12, ← may_is]
    rfl
  · rw [← build_is]
    rfl
theorem tyw0 (m : Int32) : tyw m 0 = m &&& (-3841) := by
  unfold tyw
  rw [show (0 : Int32) <<< ((8 : Int32) &&& 31) = 0 by decide, Int32.or_zero]
theorem op_31 (h : Sm σ τ) : OpS σ τ 31 d s t i := by
  have e8 : (8 : Int32).toNatClampNeg = 8 := by decide
  have e10 : (10 : Int32).toNatClampNeg = 10 := by decide
  have et : p_M_trapOf τ 31 s t i = if ¬ (τ 3 8 &&& 128 = 128) then p_X_trapOf 8 3 else 0 := by
    unfold p_M_trapOf
    rw [if_neg (show ¬ (31 : Int32) = 11 by decide), if_neg (show ¬ (31 : Int32) = 13 by decide), if_neg (show ¬ (31 : Int32) = 12 by decide), if_neg (show ¬ (31 : Int32) = 14 by decide), if_neg (show ¬ (31 : Int32) = 18 by decide), if_neg (show ¬ (31 : Int32) = 23 by decide), if_neg (show ¬ (31 : Int32) = 24 by decide), if_neg (show ¬ (31 : Int32) = 29 by decide), if_pos rfl]
    simp only [ha_is, e8]
    rfl
  have ee : p_exe σ 31 d s t i = if ¬ (τ 3 8 &&& 128 = 128) then (p_X_trapOf 8 3, σ) else if p_M_type (τ 3 10) = 1 then (0, p_K_setType (p_K_copy σ 8 10) 8 0) else (0, p_K_copy σ 8 10) := by
    have e1 : p_exe σ 31 d s t i = p_X_returnFromTrap σ := by
      unfold p_exe
      rw [if_neg (show ¬ (31 : Int32) = 0 by decide), if_neg (show ¬ (31 : Int32) = 11 by decide), if_neg (show ¬ (31 : Int32) = 12 by decide), if_neg (show ¬ (31 : Int32) = 13 by decide), if_neg (show ¬ (31 : Int32) = 14 by decide), if_neg (show ¬ (31 : Int32) = 15 by decide), if_neg (show ¬ (31 : Int32) = 16 by decide), if_neg (show ¬ (31 : Int32) = 17 by decide), if_neg (show ¬ (31 : Int32) = 18 by decide), if_neg (show ¬ (31 : Int32) = 23 by decide), if_neg (show ¬ (31 : Int32) = 24 by decide), if_neg (show ¬ (31 : Int32) = 25 by decide), if_neg (show ¬ (31 : Int32) = 29 by decide), if_neg (show ¬ (31 : Int32) = 30 by decide), if_pos rfl]
    rw [e1]
    unfold p_X_returnFromTrap
    dsimp only
    have em : (p_K_copy σ 8 10) 3 8 = τ 3 10 := by
      have := congrArg (fun c : Cap => c.2.1) ((copy_gc σ 8 10 8).trans (if_pos rfl))
      exact Eq.trans this (h.m (j := 10) (by decide))
    simp only [pe_is σ 8 (show 255 &&& (128 : Int32) = 128 by decide), e10, ty_eq, em, h.m (j := 8) (by decide)]
  have er : p_act τ 31 d s t i = if p_M_type (τ 3 10) = 1 then p_M_put (wr (p_M_take τ 10) 6 1 (tyw (τ 3 10) 0)) 8 else p_M_put (wr (p_M_take τ 10) 6 1 (τ 3 10)) 8 := by
    have e1 : p_act τ 31 d s t i = p_M_rule τ 31 d s i := by
      unfold p_act
      rw [if_neg (show ¬ (31 : Int32) = 0 by decide), if_pos (show (11 : Int32) ≤ 31 by decide), if_pos (show (15 : Int32) ≤ 31 by decide), if_pos (show (19 : Int32) ≤ 31 by decide), if_pos (show (29 : Int32) ≤ 31 by decide)]
    rw [e1]
    unfold p_M_rule
    dsimp only
    rw [if_pos rfl]
    have em : (p_M_take τ 10) 6 1 = τ 3 10 := by
      have := congrArg (fun c : Cap => c.2.1) (take_gn τ 10)
      rw [e10] at this
      exact this
    rw [em, tyw0]
  unfold OpS
  rw [et, ee, er]
  by_cases c1 : ¬ (τ 3 8 &&& 128 = 128)
  · rw [if_pos c1, if_pos c1]
    exact ⟨fun z => absurd z (tr_ne 8 (k := 3) (by decide) (by decide)), fun _ => rfl⟩
  · rw [if_neg c1, if_neg c1]
    refine ⟨fun _ => ?_, fun z => absurd rfl z⟩
    by_cases c2 : p_M_type (τ 3 10) = 1
    · rw [if_pos c2, if_pos c2]
      refine ⟨rfl, ?_, fun j hj => ?_⟩
      · show bs (p_K_setType (p_K_copy σ 8 10) 8 0) = _
        rw [setT_bs, copy_bs, put_bs, bs_w6, take_bs]; exact h.1
      · show gc (p_K_setType (p_K_copy σ 8 10) 8 0) j = _
        rw [setT_gc, copy_gc, copy_gc, if_pos rfl, put_gc, if_neg (show ¬ (8 : Int32) ≤ 0 by decide), gn_61, take_gn, gc_w6, take_gc, e8, e10, h.2 10 (by decide), h.2 j hj]
        by_cases c3 : j = 8
        · rw [if_pos c3, if_pos c3]; rfl
        · rw [if_neg c3, if_neg c3, if_neg c3]
    · rw [if_neg c2, if_neg c2]
      refine ⟨rfl, ?_, fun j hj => ?_⟩
      · show bs (p_K_copy σ 8 10) = _
        rw [copy_bs, put_bs, bs_w6, take_bs]; exact h.1
      · show gc (p_K_copy σ 8 10) j = _
        rw [copy_gc, put_gc, if_neg (show ¬ (8 : Int32) ≤ 0 by decide), gn_61, take_gn, gc_w6, take_gc, e8, e10, h.2 10 (by decide), h.2 j hj]
        rfl
theorem op_30 : OpS σ τ 30 d s t i := ⟨fun z => absurd (show (9 : Int32) = 0 from z) (by decide), fun _ => rfl⟩
theorem op_29 (h : Sm σ τ) (hd : vp_in d 8) (hs : vp_in s 12) : OpS σ τ 29 d s t i := by
  have s12 := (d_cases hs).2.2
  have hd12 : vp_in d 12 := in_mono (by decide) hd
  obtain ⟨q1, q2, q3⟩ := d_cases hd12
  have q8 : d.toNatClampNeg < 8 := Nat.not_le.mp fun q => hd (Or.inr q)
  have e8 : (8 : Int32).toNatClampNeg = 8 := by decide
  have et : p_M_trapOf τ 29 s t i = if ¬ (τ 3 8 &&& 128 = 128) then p_X_trapOf 8 3 else if i < 0 then p_X_trapOf 8 8 else if i ≤ 2 then 0 else p_X_trapOf 8 8 := by
    unfold p_M_trapOf
    rw [if_neg (show ¬ (29 : Int32) = 11 by decide), if_neg (show ¬ (29 : Int32) = 13 by decide), if_neg (show ¬ (29 : Int32) = 12 by decide), if_neg (show ¬ (29 : Int32) = 14 by decide), if_neg (show ¬ (29 : Int32) = 18 by decide), if_neg (show ¬ (29 : Int32) = 23 by decide), if_neg (show ¬ (29 : Int32) = 24 by decide), if_pos rfl]
    simp only [ha_is, e8]
    rfl
  have ej : p_X_swap σ d s i = if ¬ (τ 3 8 &&& 128 = 128) then (p_X_trapOf 8 3, σ) else if i < 0 then (p_X_trapOf 8 8, σ) else if i ≤ 2 then (0, if s = 0 then p_X_writeMade (p_K_copy σ 12 (9 + i).toNatClampNeg) d else p_X_writeMade (p_K_copy (p_K_copy σ 12 (9 + i).toNatClampNeg) (9 + i).toNatClampNeg s.toNatClampNeg) d) else (p_X_trapOf 8 8, σ) := by
    unfold p_X_swap
    dsimp only
    simp only [pe_is σ 8 (show 255 &&& (128 : Int32) = 128 by decide), h.m (j := 8) (by decide)]
    by_cases c : s = 0
    · simp only [c, if_true]
    · simp only [c, if_false]
  have ee : p_exe σ 29 d s t i = (if (p_X_swap σ d s i).1 = 0 then p_X_branch (p_X_swap σ d s i).2 1 else p_X_swap σ d s i) := by
    unfold p_exe
    rw [if_neg (show ¬ (29 : Int32) = 0 by decide), if_neg (show ¬ (29 : Int32) = 11 by decide), if_neg (show ¬ (29 : Int32) = 12 by decide), if_neg (show ¬ (29 : Int32) = 13 by decide), if_neg (show ¬ (29 : Int32) = 14 by decide), if_neg (show ¬ (29 : Int32) = 15 by decide), if_neg (show ¬ (29 : Int32) = 16 by decide), if_neg (show ¬ (29 : Int32) = 17 by decide), if_neg (show ¬ (29 : Int32) = 18 by decide), if_neg (show ¬ (29 : Int32) = 23 by decide), if_neg (show ¬ (29 : Int32) = 24 by decide), if_neg (show ¬ (29 : Int32) = 25 by decide), if_pos rfl]
  have er : p_act τ 29 d s t i = if s = 0 then p_M_go (p_M_put (p_M_take τ (9 + i)) d) 4 else p_M_go (p_M_put (wr (wr (wr (p_M_put (p_M_take τ (9 + i)) d) 6 0 (τ 4 s.toNatClampNeg)) 6 1 (τ 3 s.toNatClampNeg)) 6 2 (bo (τ 2 s.toNatClampNeg))) (9 + i)) 4 := by
    have e1 : p_act τ 29 d s t i = p_M_rule τ 29 d s i := by
      unfold p_act
      rw [if_neg (show ¬ (29 : Int32) = 0 by decide), if_pos (show (11 : Int32) ≤ 29 by decide), if_pos (show (15 : Int32) ≤ 29 by decide), if_pos (show (19 : Int32) ≤ 29 by decide), if_pos (show (29 : Int32) ≤ 29 by decide)]
    rw [e1]
    unfold p_M_rule
    dsimp only
    rw [if_neg (show ¬ (29 : Int32) = 31 by decide)]
  have dead : ∀ v : Int32, ¬ v = 0 → p_X_swap σ d s i = (v, σ) → p_M_trapOf τ 29 s t i = v → OpS σ τ 29 d s t i := by
    intro v hv h1 h2
    unfold OpS
    rw [h2, ee, h1]
    exact ⟨fun z => absurd z hv, fun _ => if_neg hv⟩
  by_cases c1 : ¬ (τ 3 8 &&& 128 = 128)
  · rw [if_pos c1] at et ej
    exact dead _ (tr_ne 8 (k := 3) (by decide) (by decide)) ej et
  rw [if_neg c1] at et ej
  by_cases c2 : i < 0
  · rw [if_pos c2] at et ej
    exact dead _ (tr_ne 8 (k := 8) (by decide) (by decide)) ej et
  rw [if_neg c2] at et ej
  by_cases c3 : i ≤ 2
  · rw [if_pos c3] at et ej
    have hP := ix_swap c2 c3
    obtain ⟨p1, p2, p3⟩ := d_cases hP
    have p9 : 9 ≤ (9 + i).toNatClampNeg ∧ ¬ (9 + i) ≤ 0 := by
      obtain ⟨j, hj, rfl⟩ := nI_of2 (M := 2) (n := 2) (by decide) c2 c3
      show 9 ≤ (nI 9 + nI j).toNatClampNeg ∧ ¬ (nI 9 + nI j) ≤ nI 0
      rw [nI_add, nI_clamp (by omega), nI_leI (by omega) (by decide)]
      omega
    generalize (9 + i) = P at *
    unfold OpS
    rw [et, ee, ej, er]
    refine ⟨fun _ => ?_, fun z => absurd rfl z⟩
    obtain ⟨h1, h2⟩ := take_sim h hP
    by_cases c4 : s = 0
    · rw [if_pos c4, if_pos c4]
      exact br1 (made_sim h1 h2 hd12)
    · rw [if_neg c4, if_neg c4]
      refine br1 ⟨?_, fun j hj => ?_⟩
      · rw [put_bs, bs_w6, bs_w6, bs_w6, put_bs, take_bs]
        unfold p_X_writeMade
        split
        · rw [copy_bs, copy_bs]; exact h.1
        · show bs (p_K_copy _ _ 12) = _
          rw [copy_bs, copy_bs, copy_bs]; exact h.1
      · have hn : gn (wr (wr (wr (p_M_put (p_M_take τ P) d) 6 0 (τ 4 s.toNatClampNeg)) 6 1 (τ 3 s.toNatClampNeg)) 6 2 (bo (τ 2 s.toNatClampNeg))) = gc τ s.toNatClampNeg := by
          rw [gn_62, gn_61, gn_60, bo_bo]; rfl
        rw [put_gc, if_neg p9.2, hn, gc_w6, gc_w6, gc_w6, put_gc, take_gn, take_gc]
        have hσ : ∀ k, gc (p_K_copy (p_K_copy σ 12 P.toNatClampNeg) P.toNatClampNeg s.toNatClampNeg) k = if k = P.toNatClampNeg then gc σ s.toNatClampNeg else if k = 12 then gc σ P.toNatClampNeg else gc σ k := by
          intro k
          rw [copy_gc, copy_gc, copy_gc, if_neg s12]
        unfold p_X_writeMade
        by_cases c5 : d = 0
        · rw [if_pos c5, if_pos (q2.mp c5), hσ, if_neg hj, h.2 _ s12, h.2 j hj]
        · rw [if_neg c5, if_neg (fun z => c5 (q2.mpr z))]
          show gc (p_K_copy _ _ 12) j = _
          rw [copy_gc, hσ 12, hσ j, if_neg (show ¬ 12 = P.toNatClampNeg from fun z => p3 z.symm), if_pos (show 12 = 12 from rfl), if_neg hj, h.2 _ s12, h.2 j hj, h.2 _ p3]
          by_cases c6 : j = P.toNatClampNeg
          · rw [if_pos c6, if_pos c6, if_neg (by omega)]
          · rw [if_neg c6, if_neg c6]
  · rw [if_neg c3] at et ej
    exact dead _ (tr_ne 8 (k := 8) (by decide) (by decide)) ej et
theorem op_all (h : Sm σ τ) (hd8 : vp_in d 8) (hs : vp_in s 12) (ht : vp_in t 12) : ∀ k : Nat, k < 32 → OpS σ τ (nI k) d s t i := by
  have hd : vp_in d 12 := in_mono (by decide) hd8
  intro k hk
  match k, hk with
  | 0, _ => exact op_0 h
  | 1, _ => exact op_c (op := 1) h hd hs ht rfl rfl rfl
  | 2, _ => exact op_c (op := 2) h hd hs ht rfl rfl rfl
  | 3, _ => exact op_c (op := 3) h hd hs ht rfl rfl rfl
  | 4, _ => exact op_c (op := 4) h hd hs ht rfl rfl rfl
  | 5, _ => exact op_c (op := 5) h hd hs ht rfl rfl rfl
  | 6, _ => exact op_c (op := 6) h hd hs ht rfl rfl rfl
  | 7, _ => exact op_c (op := 7) h hd hs ht rfl rfl rfl
  | 8, _ => exact op_c (op := 8) h hd hs ht rfl rfl rfl
  | 9, _ => exact op_c (op := 9) h hd hs ht rfl rfl rfl
  | 10, _ => exact op_c (op := 10) h hd hs ht rfl rfl rfl
  | 11, _ => exact op_11 h hd hs
  | 12, _ => exact op_12 h hs ht
  | 13, _ => exact op_13 h hd hs
  | 14, _ => exact op_14 h hs ht
  | 15, _ => exact op_15 h hs ht
  | 16, _ => exact op_16 h hs ht
  | 17, _ => exact op_17 h hd
  | 18, _ => exact op_18 h hd hs
  | 19, _ => exact op_19 h hd hs ht
  | 20, _ => exact op_20 h hd hs ht
  | 21, _ => exact op_21 h hd hs ht
  | 22, _ => exact op_22 h hd hs ht
  | 23, _ => exact op_23 h hd hs ht
  | 24, _ => exact op_24 h hd hs ht
  | 25, _ => exact op_25 h hd hs
  | 26, _ => exact op_26 h hd hs ht
  | 27, _ => exact op_27 h hd hs
  | 28, _ => exact op_28 h hd hs
  | 29, _ => exact op_29 h hd8 hs
  | 30, _ => exact op_30
  | 31, _ => exact op_31 h
  | n + 32, hk => omega
end OPS5
