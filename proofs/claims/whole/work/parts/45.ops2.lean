-- an operation, once its fields are read: the core's way and the reference's
def p_exe (σ : Mem) (op d s t i : Int32) : Int32 × Mem :=
  if op = 0 then (0, wr σ 5 0 1) else
  if op = 11 then (if (p_X_load σ d s i).1 = 0 then p_X_branch (p_X_load σ d s i).2 1 else p_X_load σ d s i) else
  if op = 12 then (if (p_X_store σ s t i).1 = 0 then p_X_branch (p_X_store σ s t i).2 1 else p_X_store σ s t i) else
  if op = 13 then (if (p_X_loadCapability σ d s i).1 = 0 then p_X_branch (p_X_loadCapability σ d s i).2 1 else p_X_loadCapability σ d s i) else
  if op = 14 then (if (p_X_storeCapability σ s t i).1 = 0 then p_X_branch (p_X_storeCapability σ s t i).2 1 else p_X_storeCapability σ s t i) else
  if op = 15 then (if σ 4 s.toNatClampNeg = σ 4 t.toNatClampNeg then p_X_branch σ i else p_X_branch σ 1) else
  if op = 16 then (if σ 4 t.toNatClampNeg ≤ σ 4 s.toNatClampNeg then p_X_branch σ 1 else p_X_branch σ i) else
  if op = 17 then p_X_branch (p_X_writeLink σ d) i else
  if op = 18 then p_X_jump σ d s else
  if op = 23 then (if (p_X_seal σ d s t).1 = 0 then p_X_branch (p_X_seal σ d s t).2 1 else p_X_seal σ d s t) else
  if op = 24 then (if (p_X_unseal σ d s t).1 = 0 then p_X_branch (p_X_unseal σ d s t).2 1 else p_X_unseal σ d s t) else
  if op = 25 then p_X_branch (p_X_writeNumber σ d (p_X_tell σ s.toNatClampNeg i)) 1 else
  if op = 29 then (if (p_X_swap σ d s i).1 = 0 then p_X_branch (p_X_swap σ d s i).2 1 else p_X_swap σ d s i) else
  if op = 30 then (p_X_trapOf 0 9, σ) else
  if op = 31 then p_X_returnFromTrap σ else
  if (10 : Int32) < op then p_X_branch (p_X_derive σ op d s.toNatClampNeg t.toNatClampNeg) 1 else
  p_X_branch (p_X_writeNumber σ d (p_X_compute op (σ 4 s.toNatClampNeg) (σ 4 t.toNatClampNeg) i)) 1
theorem exe_is (σ : Mem) (w : Int32) : p_X_execute σ w = p_exe σ (w &&& 31) (((w.toUInt32 >>> ((5 : Int32).toUInt32 &&& Int32.toUInt32 31)).toInt32) &&& 7) (((w.toUInt32 >>> ((8 : Int32).toUInt32 &&& Int32.toUInt32 31)).toInt32) &&& 7) (((w.toUInt32 >>> ((11 : Int32).toUInt32 &&& Int32.toUInt32 31)).toInt32) &&& 7) (w >>> ((14 : Int32) &&& 31)) := rfl
def p_act (τ : Mem) (op d s t i : Int32) : Mem :=
  if op = 0 then wr τ 5 0 1 else
  if (11 : Int32) ≤ op then
    if (15 : Int32) ≤ op then
      if (19 : Int32) ≤ op then
        if (29 : Int32) ≤ op then p_M_rule τ op d s i
        else p_M_go (p_M_shape τ op d s t i) 4
      else p_M_turn τ op d s t i
    else p_M_go (p_M_access τ op d s t i) 4
  else p_M_go (p_M_put (p_M_number τ (p_M_reckoned op (τ 4 s.toNatClampNeg) (τ 4 t.toNatClampNeg) i)) d) 4
def OpS (σ τ : Mem) (op d s t i : Int32) : Prop := (p_M_trapOf τ op s t i = 0 → (p_exe σ op d s t i).1 = 0 ∧ Sm (p_exe σ op d s t i).2 (p_act τ op d s t i)) ∧ (¬ p_M_trapOf τ op s t i = 0 → p_exe σ op d s t i = (p_M_trapOf τ op s t i, σ))
theorem br1 {σ τ : Mem} (h : Sm σ τ) : (p_X_branch σ 1).1 = 0 ∧ Sm (p_X_branch σ 1).2 (p_M_go τ 4) := br_sim h 1
/-- an operation that cannot trap and goes on to the next word -/
theorem stp_go {σ τ σ' τ' : Mem} {op d s t i : Int32} (h1 : p_exe σ op d s t i = p_X_branch σ' 1) (h2 : p_M_trapOf τ op s t i = 0) (h3 : p_act τ op d s t i = p_M_go τ' 4) (h : Sm σ' τ') : OpS σ τ op d s t i := by
  refine ⟨fun _ => ?_, fun z => absurd h2 z⟩
  rw [h1, h3]
  exact br1 h
theorem sh14 (x : Int32) : x <<< ((14 : Int32) &&& 31) = x * 16384 := by
  apply Int32.toBitVec_inj.mp
  rw [Int32.toBitVec_shiftLeft, Int32.toBitVec_mul]
  show x.toBitVec <<< ((nI 14 &&& 31).toBitVec.smod 32).toNat = x.toBitVec * BitVec.ofNat 32 (2 ^ 14)
  rw [s_l 14 (by decide)]
  apply BitVec.eq_of_toNat_eq
  rw [BitVec.toNat_shiftLeft, BitVec.toNat_mul, BitVec.toNat_ofNat, Nat.shiftLeft_eq, Nat.mul_mod_mod]
theorem cmp_eq (op x y i : Int32) : p_X_compute op x y i = p_M_reckoned op x y i := by
  unfold p_X_compute p_M_reckoned
  rw [sh14]
section OPS
variable {σ τ : Mem} {d s t i : Int32}
theorem op_c {op : Int32} (h : Sm σ τ) (hd : vp_in d 12) (hs : vp_in s 12) (ht : vp_in t 12) (h1 : p_exe σ op d s t i = p_X_branch (p_X_writeNumber σ d (p_X_compute op (σ 4 s.toNatClampNeg) (σ 4 t.toNatClampNeg) i)) 1) (h2 : p_M_trapOf τ op s t i = 0) (h3 : p_act τ op d s t i = p_M_go (p_M_put (p_M_number τ (p_M_reckoned op (τ 4 s.toNatClampNeg) (τ 4 t.toNatClampNeg) i)) d) 4) : OpS σ τ op d s t i := by
  refine stp_go h1 h2 h3 ?_
  rw [cmp_eq, h.a (d_cases hs).2.2, h.a (d_cases ht).2.2]
  exact num_sim h hd _
theorem op_0 (h : Sm σ τ) : OpS σ τ 0 d s t i := by
  refine ⟨fun _ => ⟨rfl, ?_⟩, fun z => absurd rfl z⟩
  show Sm (wr σ 5 0 1) (wr τ 5 0 1)
  refine ⟨?_, fun j hj => ?_⟩
  · rw [bs_w5, bs_w5, h.1, funext h.s]
  · rw [gc_w5, gc_w5]; exact h.2 j hj
theorem op_11 (h : Sm σ τ) (hd : vp_in d 12) (hs : vp_in s 12) : OpS σ τ 11 d s t i := by
  have h12 := (d_cases hs).2.2
  have ea := h.a h12
  have et : p_M_trapOf τ 11 s t i = p_X_check σ s 2 4 (σ 4 s.toNatClampNeg + i) := by
    rw [ck_sim h (k := 2) h12 (by decide) (by decide) (by decide) (by decide), ea]; rfl
  have ee : p_exe σ 11 d s t i = (if (p_X_load σ d s i).1 = 0 then p_X_branch (p_X_load σ d s i).2 1 else p_X_load σ d s i) := rfl
  unfold OpS
  rw [et, ee]
  refine ⟨fun z => ?_, fun z => ?_⟩
  · have hb := ck_4 z
    have el : p_X_load σ d s i = (p_X_check σ s 2 4 (σ 4 s.toNatClampNeg + i), p_X_writeNumber σ d (σ 0 ((((σ 4 s.toNatClampNeg + i).toUInt32 >>> ((2 : Int32).toUInt32 &&& Int32.toUInt32 31)).toInt32)).toNatClampNeg)) := if_pos z
    have ez : (p_X_load σ d s i).1 = 0 := by rw [el]; exact z
    rw [if_pos ez, el]
    have hv : σ 0 ((((σ 4 s.toNatClampNeg + i).toUInt32 >>> ((2 : Int32).toUInt32 &&& Int32.toUInt32 31)).toInt32)).toNatClampNeg = τ 0 ((τ 4 s.toNatClampNeg + i) / 4).toNatClampNeg := by
      rw [us_2, ← ea, dv_4 (by omega)]; exact h.w _
    rw [hv]
    exact br1 (num_sim h hd _)
  · have el : p_X_load σ d s i = (p_X_check σ s 2 4 (σ 4 s.toNatClampNeg + i), σ) := if_neg z
    have ez : ¬ (p_X_load σ d s i).1 = 0 := by rw [el]; exact z
    rw [if_neg ez, el]
theorem op_12 (h : Sm σ τ) (hs : vp_in s 12) (ht : vp_in t 12) : OpS σ τ 12 d s t i := by
  have h12 := (d_cases hs).2.2
  have ea := h.a h12
  have et : p_M_trapOf τ 12 s t i = p_X_check σ s 4 4 (σ 4 s.toNatClampNeg + i) := by
    rw [ck_sim h (k := 2) h12 (by decide) (by decide) (by decide) (by decide), ea]; rfl
  have ee : p_exe σ 12 d s t i = (if (p_X_store σ s t i).1 = 0 then p_X_branch (p_X_store σ s t i).2 1 else p_X_store σ s t i) := rfl
  unfold OpS
  rw [et, ee]
  refine ⟨fun z => ?_, fun z => ?_⟩
  · have hb := ck_4 z
    have el : p_X_store σ s t i = (p_X_check σ s 4 4 (σ 4 s.toNatClampNeg + i), p_X_writeWord σ (((σ 4 s.toNatClampNeg + i).toUInt32 >>> ((2 : Int32).toUInt32 &&& Int32.toUInt32 31)).toInt32) (σ 4 t.toNatClampNeg)) := if_pos z
    have ez : (p_X_store σ s t i).1 = 0 := by rw [el]; exact z
    rw [if_pos ez, el]
    refine br1 (τ := p_M_access τ 12 d s t i) ?_
    show Sm (wr (wr σ 0 (((σ 4 s.toNatClampNeg + i).toUInt32 >>> ((2 : Int32).toUInt32 &&& Int32.toUInt32 31)).toInt32).toNatClampNeg (σ 4 t.toNatClampNeg)) 1 ((((σ 4 s.toNatClampNeg + i).toUInt32 >>> ((2 : Int32).toUInt32 &&& Int32.toUInt32 31)).toInt32) >>> ((1 : Int32) &&& 31)).toNatClampNeg 0) (wr (wr τ 0 ((τ 4 s.toNatClampNeg + i) / 4).toNatClampNeg (τ 4 t.toNatClampNeg)) 1 ((τ 4 s.toNatClampNeg + i) / 8).toNatClampNeg 0)
    rw [us_2, ← ea, dv_4 (by omega), dv_8 (by omega), pk_shrN (by omega) _ 1 (by decide), Nat.div_div_eq_div_mul, ← h.a (d_cases ht).2.2]
    refine ⟨?_, fun j hj => ?_⟩
    · rw [bs_w1, bs_w1, bs_w0, bs_w0, h.1, funext h.w]
    · rw [gc_w1, gc_w1, gc_w0, gc_w0]; exact h.2 j hj
  · have el : p_X_store σ s t i = (p_X_check σ s 4 4 (σ 4 s.toNatClampNeg + i), σ) := if_neg z
    have ez : ¬ (p_X_store σ s t i).1 = 0 := by rw [el]; exact z
    rw [if_neg ez, el]
theorem ck_al {r q x : Int32} (h : p_X_check σ r q 8 x = 0) : x.toBitVec.toNat % 8 = 0 := by
  unfold p_X_check at h
  split at h
  · exact absurd h (tr_ne r (k := 1) (by decide) (by decide))
  split at h
  · split at h
    · exact absurd h (tr_ne r (k := 3) (by decide) (by decide))
    split at h
    · rename_i h4
      have h4 : x &&& 7 = 0 := h4
      rw [pk_and x (m := 7) 3 (by decide)] at h4
      exact (nI_eq (a := x.toBitVec.toNat % 2 ^ 3) (b := 0) (by omega) (by decide)).mp h4
    · exact absurd h (tr_ne r (k := 4) (by decide) (by decide))
  · exact absurd h (tr_ne r (k := 2) (by decide) (by decide))
theorem mk_sim (h : Sm σ τ) (A M T : Int32) : Sm (wr (wr (wr σ 4 12 A) 3 12 M) 2 12 T) (wr (wr (wr τ 6 0 A) 6 1 M) 6 2 T) ∧ gc (wr (wr (wr σ 4 12 A) 3 12 M) 2 12 T) 12 = gn (wr (wr (wr τ 6 0 A) 6 1 M) 6 2 T) := by
  refine ⟨⟨?_, fun j hj => ?_⟩, ?_⟩
  · rw [bs_w2, bs_w3, bs_w4, bs_w6, bs_w6, bs_w6]; exact h.1
  · rw [gc_w2, gc_w3, gc_w4, gc_w6, gc_w6, gc_w6, if_neg hj, if_neg hj, if_neg hj]; exact h.2 j hj
  · rw [gc_w2, gc_w3, gc_w4, gn_62, gn_61, gn_60, if_pos rfl, if_pos rfl, if_pos rfl]
theorem ix8 {x : Int32} (h8 : x.toBitVec.toNat + 8 ≤ 1024) (ha : x.toBitVec.toNat % 8 = 0) : ((x.toUInt32 >>> ((3 : Int32).toUInt32 &&& Int32.toUInt32 31)).toInt32).toNatClampNeg = (x / 8).toNatClampNeg ∧ (2 * (x.toUInt32 >>> ((3 : Int32).toUInt32 &&& Int32.toUInt32 31)).toInt32).toNatClampNeg = (x / 4).toNatClampNeg ∧ (2 * (x.toUInt32 >>> ((3 : Int32).toUInt32 &&& Int32.toUInt32 31)).toInt32 + 1).toNatClampNeg = (x / 4 + 1).toNatClampNeg := by
  rw [us_3, dv_8 (by omega), dv_4 (by omega)]
  have e2 : (2 : Int32) * nI (x.toBitVec.toNat / 8) = nI (x.toBitVec.toNat / 4) := by
    show nI 2 * nI _ = _
    rw [pk_mul]
    congr 1
    omega
  rw [e2]
  exact ⟨rfl, rfl, rfl⟩
theorem op_13 (h : Sm σ τ) (hd : vp_in d 12) (hs : vp_in s 12) : OpS σ τ 13 d s t i := by
  have h12 := (d_cases hs).2.2
  have ea := h.a h12
  have et : p_M_trapOf τ 13 s t i = p_X_check σ s 2 8 (σ 4 s.toNatClampNeg + i) := by
    rw [ck_sim h (k := 3) h12 (by decide) (by decide) (by decide) (by decide), ea]; rfl
  have ee : p_exe σ 13 d s t i = (if (p_X_loadCapability σ d s i).1 = 0 then p_X_branch (p_X_loadCapability σ d s i).2 1 else p_X_loadCapability σ d s i) := rfl
  unfold OpS
  rw [et, ee]
  refine ⟨fun z => ?_, fun z => ?_⟩
  · obtain ⟨x1, x2, x3⟩ := ix8 (ck_8 z) (ck_al z)
    generalize hX : p_X_check σ s 2 8 (σ 4 s.toNatClampNeg + i) = X at z
    have el : p_X_loadCapability σ d s i = (X, p_X_writeMade (wr (wr (wr σ 4 12 (σ 0 ((σ 4 s.toNatClampNeg + i) / 4).toNatClampNeg)) 3 12 (σ 0 ((σ 4 s.toNatClampNeg + i) / 4 + 1).toNatClampNeg)) 2 12 (if bo (σ 1 ((σ 4 s.toNatClampNeg + i) / 8).toNatClampNeg) = 0 then 0 else if ¬ (σ 3 s.toNatClampNeg &&& 8 = 8) then 0 else 1)) d) := by
      unfold p_X_loadCapability
      dsimp only
      rw [hX, if_pos z, x1, x2, x3, wr_row _ 12 _ (show 1 ≠ 3 by decide), wr_row _ 12 _ (show 1 ≠ 4 by decide), wr_row _ 12 _ (show 0 ≠ 4 by decide)]
      simp only [pe_is _ _ (show 255 &&& (8 : Int32) = 8 by decide), wr_pl _ 3 _ h12, wr_row _ 12 _ (show 3 ≠ 4 by decide)]
      repeat' split
      all_goals first | rfl | (exfalso; contradiction)
    have ez : (p_X_loadCapability σ d s i).1 = 0 := by rw [el]; exact z
    rw [if_pos ez, el]
    refine br1 (τ := p_M_access τ 13 d s t i) ?_
    have er : p_M_access τ 13 d s t i = p_M_put (wr (wr (wr τ 6 0 (τ 0 ((τ 4 s.toNatClampNeg + i) / 4).toNatClampNeg)) 6 1 (τ 0 ((τ 4 s.toNatClampNeg + i) / 4 + 1).toNatClampNeg)) 6 2 (if bo (τ 1 ((τ 4 s.toNatClampNeg + i) / 8).toNatClampNeg) = 0 then 0 else if ¬ (τ 3 s.toNatClampNeg &&& 8 = 8) then 0 else 1)) d := by
      unfold p_M_access
      dsimp only
      rw [if_neg (show ¬ (13 : Int32) = 11 by decide), if_neg (show ¬ (13 : Int32) = 12 by decide), if_pos rfl]
      simp only [ha_is, wr_row _ 1 _ (show 1 ≠ 6 by decide), wr_row _ 0 _ (show 1 ≠ 6 by decide), wr_row _ 0 _ (show 0 ≠ 6 by decide), wr_row _ 1 _ (show 3 ≠ 6 by decide), wr_row _ 0 _ (show 3 ≠ 6 by decide)]
      repeat' split
      all_goals first | rfl | (exfalso; contradiction)
    rw [er, ea, h.m h12, h.w, h.w, h.g]
    exact made_sim (mk_sim h _ _ _).1 (mk_sim h _ _ _).2 hd
  · have el : p_X_loadCapability σ d s i = (p_X_check σ s 2 8 (σ 4 s.toNatClampNeg + i), σ) := if_neg z
    have ez : ¬ (p_X_loadCapability σ d s i).1 = 0 := by rw [el]; exact z
    rw [if_neg ez, el]
theorem op_14 (h : Sm σ τ) (hs : vp_in s 12) (ht : vp_in t 12) : OpS σ τ 14 d s t i := by
  have h12 := (d_cases hs).2.2
  have t12 := (d_cases ht).2.2
  have ea := h.a h12
  generalize hq : (if bo (σ 2 t.toNatClampNeg) = 0 then (4 : Int32) else 20) = q
  have hq2 : 255 &&& q = q := by rw [← hq]; split <;> decide
  have et : p_M_trapOf τ 14 s t i = p_X_check σ s q 8 (σ 4 s.toNatClampNeg + i) := by
    rw [ck_sim h (k := 3) h12 hq2 (by decide) (by decide) (by decide), ea, ← hq, h.t t12]
    show (if bo (τ 2 t.toNatClampNeg) = 0 then _ else _) = _
    split <;> rfl
  have ee : p_exe σ 14 d s t i = (if (p_X_storeCapability σ s t i).1 = 0 then p_X_branch (p_X_storeCapability σ s t i).2 1 else p_X_storeCapability σ s t i) := rfl
  have es : p_X_storeCapability σ s t i = if p_X_check σ s q 8 (σ 4 s.toNatClampNeg + i) = 0 then (p_X_check σ s q 8 (σ 4 s.toNatClampNeg + i), wr (wr (wr σ 0 (2 * ((σ 4 s.toNatClampNeg + i).toUInt32 >>> ((3 : Int32).toUInt32 &&& Int32.toUInt32 31)).toInt32).toNatClampNeg (σ 4 t.toNatClampNeg)) 0 (2 * ((σ 4 s.toNatClampNeg + i).toUInt32 >>> ((3 : Int32).toUInt32 &&& Int32.toUInt32 31)).toInt32 + 1).toNatClampNeg (σ 3 t.toNatClampNeg)) 1 (((σ 4 s.toNatClampNeg + i).toUInt32 >>> ((3 : Int32).toUInt32 &&& Int32.toUInt32 31)).toInt32).toNatClampNeg (bo (σ 2 t.toNatClampNeg))) else (p_X_check σ s q 8 (σ 4 s.toNatClampNeg + i), σ) := by
    unfold p_X_storeCapability
    dsimp only
    rw [wr_row _ _ _ (show 2 ≠ 0 by decide), wr_row _ _ _ (show 2 ≠ 0 by decide), wr_row _ _ _ (show 3 ≠ 0 by decide), ← hq]
    split <;> rfl
  unfold OpS
  rw [et, ee]
  refine ⟨fun z => ?_, fun z => ?_⟩
  · obtain ⟨x1, x2, x3⟩ := ix8 (ck_8 z) (ck_al z)
    rw [if_pos z, x1, x2, x3] at es
    have ez : (p_X_storeCapability σ s t i).1 = 0 := by rw [es]; exact z
    rw [if_pos ez, es]
    refine br1 (τ := p_M_access τ 14 d s t i) ?_
    have er : p_M_access τ 14 d s t i = wr (wr (wr τ 0 ((τ 4 s.toNatClampNeg + i) / 4).toNatClampNeg (τ 4 t.toNatClampNeg)) 0 ((τ 4 s.toNatClampNeg + i) / 4 + 1).toNatClampNeg (τ 3 t.toNatClampNeg)) 1 ((τ 4 s.toNatClampNeg + i) / 8).toNatClampNeg (bo (τ 2 t.toNatClampNeg)) := by
      unfold p_M_access
      dsimp only
      rw [if_neg (show ¬ (14 : Int32) = 11 by decide), if_neg (show ¬ (14 : Int32) = 12 by decide), if_neg (show ¬ (14 : Int32) = 13 by decide), wr_row _ _ _ (show 2 ≠ 0 by decide), wr_row _ _ _ (show 2 ≠ 0 by decide), wr_row _ _ _ (show 3 ≠ 0 by decide)]
    rw [er, ← ea, ← h.a t12, ← h.m t12, ← h.t t12]
    refine ⟨?_, fun j hj => ?_⟩
    · rw [bs_w1, bs_w1, bs_w0, bs_w0, bs_w0, bs_w0, h.1, wr_upd, wr_upd, funext h.w]
    · rw [gc_w1, gc_w1, gc_w0, gc_w0, gc_w0, gc_w0]; exact h.2 j hj
  · rw [if_neg z] at es
    have ez : ¬ (p_X_storeCapability σ s t i).1 = 0 := by rw [es]; exact z
    rw [if_neg ez, es]
theorem op_15 (h : Sm σ τ) (hs : vp_in s 12) (ht : vp_in t 12) : OpS σ τ 15 d s t i := by
  refine ⟨fun _ => ?_, fun z => absurd rfl z⟩
  have ee : p_exe σ 15 d s t i = (if σ 4 s.toNatClampNeg = σ 4 t.toNatClampNeg then p_X_branch σ i else p_X_branch σ 1) := by
    unfold p_exe
    rw [if_neg (show ¬ (15 : Int32) = 0 by decide), if_neg (show ¬ (15 : Int32) = 11 by decide), if_neg (show ¬ (15 : Int32) = 12 by decide), if_neg (show ¬ (15 : Int32) = 13 by decide), if_neg (show ¬ (15 : Int32) = 14 by decide), if_pos rfl]
  have er : p_act τ 15 d s t i = (if τ 4 s.toNatClampNeg = τ 4 t.toNatClampNeg then p_M_go τ (4 * i) else p_M_go τ 4) := by
    unfold p_act
    rw [if_neg (show ¬ (15 : Int32) = 0 by decide), if_pos (show (11 : Int32) ≤ 15 by decide), if_pos (show (15 : Int32) ≤ 15 by decide), if_neg (show ¬ (19 : Int32) ≤ 15 by decide)]
    unfold p_M_turn
    rw [if_pos rfl]
  rw [ee, er, h.a (d_cases hs).2.2, h.a (d_cases ht).2.2]
  split
  · exact br_sim h i
  · exact br1 h
theorem op_16 (h : Sm σ τ) (hs : vp_in s 12) (ht : vp_in t 12) : OpS σ τ 16 d s t i := by
  refine ⟨fun _ => ?_, fun z => absurd rfl z⟩
  have ee : p_exe σ 16 d s t i = (if σ 4 t.toNatClampNeg ≤ σ 4 s.toNatClampNeg then p_X_branch σ 1 else p_X_branch σ i) := by
    unfold p_exe
    rw [if_neg (show ¬ (16 : Int32) = 0 by decide), if_neg (show ¬ (16 : Int32) = 11 by decide), if_neg (show ¬ (16 : Int32) = 12 by decide), if_neg (show ¬ (16 : Int32) = 13 by decide), if_neg (show ¬ (16 : Int32) = 14 by decide), if_neg (show ¬ (16 : Int32) = 15 by decide), if_pos rfl]
  have er : p_act τ 16 d s t i = (if τ 4 t.toNatClampNeg ≤ τ 4 s.toNatClampNeg then p_M_go τ 4 else p_M_go τ (4 * i)) := by
    unfold p_act
    rw [if_neg (show ¬ (16 : Int32) = 0 by decide), if_pos (show (11 : Int32) ≤ 16 by decide), if_pos (show (15 : Int32) ≤ 16 by decide), if_neg (show ¬ (19 : Int32) ≤ 16 by decide)]
    unfold p_M_turn
    rw [if_neg (show ¬ (16 : Int32) = 15 by decide), if_pos rfl]
  rw [ee, er, h.a (d_cases hs).2.2, h.a (d_cases ht).2.2]
  split
  · exact br1 h
  · exact br_sim h i
theorem op_17 (h : Sm σ τ) (hd : vp_in d 12) : OpS σ τ 17 d s t i := by
  refine ⟨fun _ => ?_, fun z => absurd rfl z⟩
  have ee : p_exe σ 17 d s t i = p_X_branch (p_X_writeLink σ d) i := rfl
  have er : p_act τ 17 d s t i = p_M_go (p_M_put (p_M_link τ) d) (4 * i) := rfl
  rw [ee, er]
  exact br_sim (link_sim h hd).1 i
end OPS
