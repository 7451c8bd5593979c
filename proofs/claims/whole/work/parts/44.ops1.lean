-- checks, traps, and what an operation writes
theorem d_cases {d : Int32} (h : vp_in d 12) : d.toNatClampNeg < 12 ∧ (d = 0 ↔ d ≤ 0) ∧ (d.toNatClampNeg ≠ 12) := by
  obtain ⟨j, hj, rfl⟩ := vp_in_of h (by decide)
  rw [nI_clamp (by omega)]
  refine ⟨hj, ?_, by omega⟩
  have e0 : (0 : Int32) = nI 0 := rfl
  rw [e0, nI_eq (by omega) (by decide), nI_leI (by omega) (by decide)]
  omega
theorem wN_bs (σ : Mem) (d v : Int32) : bs (p_X_writeNumber σ d v) = bs σ := by
  unfold p_X_writeNumber
  split
  · rfl
  · exact num_bs _ _ _
theorem num_sim {σ τ : Mem} (h : Sm σ τ) {d : Int32} (hd : vp_in d 12) (v : Int32) : Sm (p_X_writeNumber σ d v) (p_M_put (p_M_number τ v) d) := by
  obtain ⟨h1, h2, h3⟩ := d_cases hd
  refine ⟨?_, fun j hj => ?_⟩
  · rw [wN_bs, put_bs, numb_bs]; exact h.1
  · rw [put_gc, numb_gn, numb_gc]
    unfold p_X_writeNumber
    by_cases hz : d = 0
    · rw [if_pos hz, if_pos (h2.mp hz)]; exact h.2 j hj
    · rw [if_neg hz, if_neg (fun z => hz (h2.mpr z))]
      show gc (p_K_becomeNumber σ _ v) j = _
      rw [num_gc, h.2 j hj]
theorem made_sim {σ τ : Mem} (h : Sm σ τ) (hn : gc σ 12 = gn τ) {d : Int32} (hd : vp_in d 12) : Sm (p_X_writeMade σ d) (p_M_put τ d) := by
  obtain ⟨h1, h2, h3⟩ := d_cases hd
  refine ⟨?_, fun j hj => ?_⟩
  · rw [put_bs]
    unfold p_X_writeMade
    split
    · exact h.1
    · show bs (p_K_copy σ _ 12) = _
      rw [copy_bs]; exact h.1
  · rw [put_gc]
    unfold p_X_writeMade
    by_cases hz : d = 0
    · rw [if_pos hz, if_pos (h2.mp hz)]; exact h.2 j hj
    · rw [if_neg hz, if_neg (fun z => hz (h2.mpr z))]
      show gc (p_K_copy σ _ 12) j = _
      rw [copy_gc, h.2 j hj, hn]
/-- a capability taken up: the core into 'made', the reference into its new one -/
theorem take_sim {σ τ : Mem} (h : Sm σ τ) {r : Int32} (hr : vp_in r 12) : Sm (p_K_copy σ 12 r.toNatClampNeg) (p_M_take τ r) ∧ gc (p_K_copy σ 12 r.toNatClampNeg) 12 = gn (p_M_take τ r) := by
  obtain ⟨h1, h2, h3⟩ := d_cases hr
  refine ⟨⟨?_, fun j hj => ?_⟩, ?_⟩
  · rw [copy_bs, take_bs]; exact h.1
  · rw [copy_gc, take_gc, if_neg hj]; exact h.2 j hj
  · rw [copy_gc, take_gn, if_pos rfl]; exact h.2 _ h3
theorem link_gn (τ : Mem) : gn (p_M_link τ) = ((mvc (gc τ 8) ((gc τ 8).2.2 + 4)).1, tyw (gc τ 8).2.1 1, (gc τ 8).2.2 + 4) := by
  have e : (8 : Int32).toNatClampNeg = 8 := by decide
  have e2 : (p_M_take τ 8) 4 ((8 : Int32)).toNatClampNeg = (gc τ 8).2.2 := by rw [e]; exact congrArg (fun c : Cap => c.2.2) (take_gc τ 8 8)
  have e3 : gn (p_M_move (p_M_take τ 8) ((p_M_take τ 8) 4 ((8 : Int32)).toNatClampNeg + 4)) = mvc (gc τ 8) ((gc τ 8).2.2 + 4) := by rw [mmov_gn, take_gn, e2, e]
  show gn (p_M_typed (p_M_move (p_M_take τ 8) ((p_M_take τ 8) 4 ((8 : Int32)).toNatClampNeg + 4)) ((p_M_move (p_M_take τ 8) ((p_M_take τ 8) 4 ((8 : Int32)).toNatClampNeg + 4)) 6 1) 1) = _
  have e4 : (p_M_move (p_M_take τ 8) ((p_M_take τ 8) 4 ((8 : Int32)).toNatClampNeg + 4)) 6 1 = (gc τ 8).2.1 := by
    have := congrArg (fun c : Cap => c.2.1) e3
    exact this
  rw [typd_gn, e3, e4]
  rfl
theorem link_bs (τ : Mem) : bs (p_M_link τ) = bs τ := by
  show bs (p_M_typed (p_M_move (p_M_take τ 8) _) _ 1) = _
  rw [typd_bs, mmov_bs, take_bs]
theorem link_gc (τ : Mem) (k : Nat) : gc (p_M_link τ) k = gc τ k := by
  show gc (p_M_typed (p_M_move (p_M_take τ 8) _) _ 1) k = _
  rw [typd_gc, mmov_gc, take_gc]
theorem wL_gc (σ : Mem) {d : Int32} (hz : ¬ d = 0) (k : Nat) : gc (p_X_writeLink σ d) k = if k = d.toNatClampNeg then ((mvc (gc σ 8) ((gc (p_K_copy σ d.toNatClampNeg 8) 8).2.2 + 4)).1, tyw (gc σ 8).2.1 1, (gc (p_K_copy σ d.toNatClampNeg 8) 8).2.2 + 4) else gc σ k := by
  unfold p_X_writeLink
  rw [if_neg hz]
  show gc (p_K_setType (p_K_move (p_K_copy σ d.toNatClampNeg 8) d.toNatClampNeg ((gc (p_K_copy σ d.toNatClampNeg 8) 8).2.2 + 4)) d.toNatClampNeg 1) k = _
  rw [setT_gc, move_gc, move_gc, copy_gc, copy_gc, if_pos rfl, if_pos rfl]
  by_cases hk : k = d.toNatClampNeg
  · rw [if_pos hk, if_pos hk]; rfl
  · rw [if_neg hk, if_neg hk, if_neg hk, copy_gc, if_neg hk]
theorem wL_bs (σ : Mem) (d : Int32) : bs (p_X_writeLink σ d) = bs σ := by
  unfold p_X_writeLink
  split
  · rfl
  · show bs (p_K_setType (p_K_move (p_K_copy σ _ 8) _ _) _ 1) = _
    rw [setT_bs, move_bs, copy_bs]
theorem link_sim {σ τ : Mem} (h : Sm σ τ) {d : Int32} (hd : vp_in d 12) : Sm (p_X_writeLink σ d) (p_M_put (p_M_link τ) d) ∧ gc (p_X_writeLink σ d) 12 = gc σ 12 := by
  obtain ⟨h1, h2, h3⟩ := d_cases hd
  have h8 : (gc (p_K_copy σ d.toNatClampNeg 8) 8) = gc σ 8 := by
    rw [copy_gc]; split <;> rfl
  refine ⟨⟨?_, fun j hj => ?_⟩, ?_⟩
  · rw [put_bs, link_bs, wL_bs]; exact h.1
  · rw [put_gc, link_gc, link_gn]
    by_cases hz : d = 0
    · rw [if_pos (h2.mp hz)]
      unfold p_X_writeLink
      rw [if_pos hz]; exact h.2 j hj
    · rw [if_neg (fun z => hz (h2.mpr z)), wL_gc σ hz, h8, h.2 8 (by decide), h.2 j hj]
  · by_cases hz : d = 0
    · unfold p_X_writeLink
      rw [if_pos hz]
    · rw [wL_gc σ hz, if_neg (fun z => h3 z.symm)]
theorem mask_al (x : Int32) {n : Int32} {k : Nat} (hn : n.toInt64 = lN (2 ^ k)) (hm : (n - 1).toBitVec.toNat = 2 ^ k - 1) (hk : k < 30) : (x &&& (n - 1) = 0) = (lg_cmp (p_M_unsigned x - p_M_unsigned x / n.toInt64 * n.toInt64) 0 = 0) := by
  have hx := x.toBitVec.isLt
  have hp : 2 ^ k < 2 ^ 30 := Nat.pow_lt_pow_right (by decide) hk
  have hp0 : 0 < 2 ^ k := Nat.two_pow_pos k
  have hr : x.toBitVec.toNat % 2 ^ k < 2 ^ k := Nat.mod_lt _ hp0
  rw [pk_and x k hm, unM, hn, pk_lRem (by omega) hp0 (by omega), lg_cmp_eq]
  apply propext
  have e0 : (0 : Int32) = nI 0 := rfl
  have e1 : (0 : Int64) = lN 0 := rfl
  rw [e0, e1, nI_eq (by omega) (by decide), pk_lEQ (by omega) (by decide)]
theorem of_n {r : Int32} {k : Nat} (h0 : 0 < k) (h : k < 16) : p_M_of r (nI k) = p_X_trapOf r (nI k) := by
  unfold p_M_of
  rw [if_neg (nI_ne0 h0 (by omega))]
  rfl
theorem ck_sim {σ τ : Mem} (h : Sm σ τ) {r q n x : Int32} {k : Nat} (hr : r.toNatClampNeg ≠ 12) (hq : 255 &&& q = q) (hn : n.toInt64 = lN (2 ^ k)) (hm : (n - 1).toBitVec.toNat = 2 ^ k - 1) (hk : k < 30) : p_X_check σ r q n x = p_M_of r (p_M_check τ r q n x) := by
  unfold p_X_check p_M_check
  simp only [se_is, pe_is σ _ hq, ha_is, low_eq, up_eq, un_l, unM, h.t hr, h.m hr, h.a hr, mask_al x hn hm hk]
  repeat' split
  all_goals first | rfl | (exfalso; contradiction) | skip
theorem trap_sim {σ τ : Mem} (h : Sm σ τ) (c : Int32) : Sm (p_X_enterTrap σ c) (p_M_trap τ c) := by
  have e8 : (8 : Int32).toNatClampNeg = 8 := by decide
  have e9 : (9 : Int32).toNatClampNeg = 9 := by decide
  have e10 : (10 : Int32).toNatClampNeg = 10 := by decide
  generalize hσ : p_K_copy (wr (wr σ 5 3 (σ 5 3 + 1)) 5 1 c) 10 8 = σ3
  generalize hτ : wr (wr (p_M_put (p_M_take τ 8) 10) 5 1 c) 5 3 ((wr (p_M_put (p_M_take τ 8) 10) 5 1 c) 5 3 + 1) = τ4
  have hb : bs σ3 = bs τ4 := by
    have b1 : bs (p_M_put (p_M_take τ 8) 10) = bs τ := by rw [put_bs, take_bs]
    have b2 : (p_M_put (p_M_take τ 8) 10) 5 = τ 5 := congrArg (fun b => b.2.2) b1
    have b3 : (wr (p_M_put (p_M_take τ 8) 10) 5 1 c) 5 3 = τ 5 3 := by rw [wr_pl _ 5 c (show 3 ≠ 1 by decide), b2]
    rw [← hσ, ← hτ, copy_bs, b3, bs_w5, bs_w5, bs_w5, bs_w5, b1, wr_upd, wr_upd, b2, h.1]
    have hs : σ 5 = τ 5 := funext h.s
    rw [hs]
    congr 2
    funext j
    by_cases j1 : j = 1
    · subst j1; simp [upd]
    · by_cases j3 : j = 3
      · subst j3; simp [upd]
      · simp [upd, j1, j3]
  have hg : ∀ j, j ≠ 12 → gc σ3 j = gc τ4 j := by
    intro j hj
    rw [← hσ, ← hτ, copy_gc, gc_w5, gc_w5, gc_w5, gc_w5, gc_w5, gc_w5, put_gc, if_neg (show ¬ (10 : Int32) ≤ 0 by decide), take_gn, take_gc, e8, e10, h.2 8 (by decide), h.2 j hj]
  have hS : Sm σ3 τ4 := ⟨hb, hg⟩
  have ex : p_X_enterTrap σ c = if (bo (σ3 2 9)) = (0 : Int32) then wr σ3 5 0 2 else if (p_K_isSealed σ3 9) = (0 : Int32) then (if (p_K_permits σ3 9 (1 : Int32)) = (0 : Int32) then wr σ3 5 0 2 else p_K_copy σ3 8 9) else wr σ3 5 0 2 := by
    rw [← hσ]; rfl
  have em : p_M_trap τ c = if (bo (τ4 2 9)) = (0 : Int32) then wr τ4 5 0 2 else if (p_M_type (τ4 3 9)) = (0 : Int32) then (if (p_M_has τ4 (9 : Int32) (1 : Int32)) = (0 : Int32) then wr τ4 5 0 2 else p_M_put (p_M_take τ4 9) 8) else wr τ4 5 0 2 := by
    rw [← hτ]; rfl
  have hw : Sm (wr σ3 5 0 2) (wr τ4 5 0 2) := by
    refine ⟨?_, fun j hj => ?_⟩
    · rw [bs_w5, bs_w5, hb, funext hS.s]
    · rw [gc_w5, gc_w5]; exact hg j hj
  rw [ex, em]
  simp only [se_is, pe_is σ3 9 (show 255 &&& (1 : Int32) = 1 by decide), ha_is, e9, hS.t (j := 9) (by decide), hS.m (j := 9) (by decide)]
  repeat' split
  all_goals first | exact hw | (exfalso; contradiction) | skip
  refine ⟨?_, fun j hj => ?_⟩
  · rw [copy_bs, put_bs, take_bs]; exact hb
  · rw [copy_gc, put_gc, if_neg (show ¬ (8 : Int32) ≤ 0 by decide), take_gn, take_gc, e8, e9, hg 9 (by decide), hg j hj]
