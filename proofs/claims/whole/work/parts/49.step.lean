-- a step, a run, and the calls
theorem fd5 (w : Int32) : (w >>> ((5 : Int32) &&& 31)) &&& 7 = ((w.toUInt32 >>> ((5 : Int32).toUInt32 &&& Int32.toUInt32 31)).toInt32) &&& 7 := fs_eq w 7 (k := 5) (w := 3) (by decide) (by decide +kernel) (by decide)
theorem fd8 (w : Int32) : (w >>> ((8 : Int32) &&& 31)) &&& 7 = ((w.toUInt32 >>> ((8 : Int32).toUInt32 &&& Int32.toUInt32 31)).toInt32) &&& 7 := fs_eq w 7 (k := 8) (w := 3) (by decide) (by decide +kernel) (by decide)
theorem fd11 (w : Int32) : (w >>> ((11 : Int32) &&& 31)) &&& 7 = ((w.toUInt32 >>> ((11 : Int32).toUInt32 &&& Int32.toUInt32 31)).toInt32) &&& 7 := fs_eq w 7 (k := 11) (w := 3) (by decide) (by decide +kernel) (by decide)
def stM (τ : Mem) (w : Int32) : Mem :=
  if p_M_trapOf τ (w &&& 31) ((w >>> ((8 : Int32) &&& 31)) &&& 7) ((w >>> ((11 : Int32) &&& 31)) &&& 7) (w >>> ((14 : Int32) &&& 31)) = 0 then p_act τ (w &&& 31) ((w >>> ((5 : Int32) &&& 31)) &&& 7) ((w >>> ((8 : Int32) &&& 31)) &&& 7) ((w >>> ((11 : Int32) &&& 31)) &&& 7) (w >>> ((14 : Int32) &&& 31)) else p_M_trap τ (p_M_trapOf τ (w &&& 31) ((w >>> ((8 : Int32) &&& 31)) &&& 7) ((w >>> ((11 : Int32) &&& 31)) &&& 7) (w >>> ((14 : Int32) &&& 31)))
theorem step_M (τ : Mem) : p_M_step τ = if p_M_check (wr τ 5 2 (τ 5 2 + 1)) 8 1 4 ((wr τ 5 2 (τ 5 2 + 1)) 4 (8 : Int32).toNatClampNeg) = 0 then stM (wr τ 5 2 (τ 5 2 + 1)) ((wr τ 5 2 (τ 5 2 + 1)) 0 (((wr τ 5 2 (τ 5 2 + 1)) 4 (8 : Int32).toNatClampNeg) / 4).toNatClampNeg) else p_M_trap (wr τ 5 2 (τ 5 2 + 1)) (p_M_of 8 (p_M_check (wr τ 5 2 (τ 5 2 + 1)) 8 1 4 ((wr τ 5 2 (τ 5 2 + 1)) 4 (8 : Int32).toNatClampNeg))) := by
  unfold p_M_step stM p_act
  rfl
def stX (σ : Mem) (w : Int32) : Mem := if (p_X_execute σ w).1 = 0 then (p_X_execute σ w).2 else p_X_enterTrap (p_X_execute σ w).2 (p_X_execute σ w).1
theorem step_X (σ : Mem) : p_X_makeStep σ = if p_X_check (wr σ 5 2 (σ 5 2 + 1)) 8 1 4 ((wr σ 5 2 (σ 5 2 + 1)) 4 8) = 0 then stX (wr σ 5 2 (σ 5 2 + 1)) ((wr σ 5 2 (σ 5 2 + 1)) 0 (((((wr σ 5 2 (σ 5 2 + 1)) 4 8).toUInt32 >>> ((2 : Int32).toUInt32 &&& Int32.toUInt32 31)).toInt32)).toNatClampNeg) else p_X_enterTrap (wr σ 5 2 (σ 5 2 + 1)) (p_X_check (wr σ 5 2 (σ 5 2 + 1)) 8 1 4 ((wr σ 5 2 (σ 5 2 + 1)) 4 8)) := by
  unfold p_X_makeStep stX
  rfl
theorem st_sim {σ τ : Mem} (h : Sm σ τ) (w : Int32) : Sm (stX σ w) (stM τ w) := by
  obtain ⟨k, hk, e⟩ := pk_andE w (m := 31) 5 (by decide)
  have h7 : ∀ x : Int32, vp_in (x &&& 7) 8 := fun x => pk_andIn x (m := 7) 3 (by decide) (by decide)
  have hop := op_all (i := w >>> ((14 : Int32) &&& 31)) h (h7 ((w.toUInt32 >>> ((5 : Int32).toUInt32 &&& Int32.toUInt32 31)).toInt32)) (ix_and7 ((w.toUInt32 >>> ((8 : Int32).toUInt32 &&& Int32.toUInt32 31)).toInt32)) (ix_and7 ((w.toUInt32 >>> ((11 : Int32).toUInt32 &&& Int32.toUInt32 31)).toInt32)) k hk
  rw [← e] at hop
  unfold stX stM
  rw [fd5, fd8, fd11, exe_is]
  unfold OpS at hop
  by_cases c : p_M_trapOf τ (w &&& 31) (((w.toUInt32 >>> ((8 : Int32).toUInt32 &&& Int32.toUInt32 31)).toInt32) &&& 7) (((w.toUInt32 >>> ((11 : Int32).toUInt32 &&& Int32.toUInt32 31)).toInt32) &&& 7) (w >>> ((14 : Int32) &&& 31)) = 0
  · obtain ⟨h1, h2⟩ := hop.1 c
    rw [if_pos c, if_pos h1]
    exact h2
  · have h1 := hop.2 c
    rw [if_neg c, h1, if_neg c]
    exact trap_sim h _
theorem step_sim {σ τ : Mem} (h : Sm σ τ) : Sm (p_X_makeStep σ) (p_M_step τ) := by
  have h1 : Sm (wr σ 5 2 (σ 5 2 + 1)) (wr τ 5 2 (τ 5 2 + 1)) := by
    refine ⟨?_, fun j hj => ?_⟩
    · rw [bs_w5, bs_w5, h.1, funext h.s]
    · rw [gc_w5, gc_w5]; exact h.2 j hj
  have e8 : (8 : Int32).toNatClampNeg = 8 := by decide
  rw [step_X, step_M, e8]
  generalize wr σ 5 2 (σ 5 2 + 1) = σ1 at *
  generalize wr τ 5 2 (τ 5 2 + 1) = τ1 at *
  have ea : σ1 4 8 = τ1 4 8 := h1.a (by decide)
  have hc : p_X_check σ1 8 1 4 (σ1 4 8) = p_M_of 8 (p_M_check τ1 8 1 4 (τ1 4 8)) := by
    rw [ea]
    exact ck_sim h1 (k := 2) (by decide) (by decide) (by decide) (by decide) (by decide)
  by_cases c : p_M_check τ1 8 1 4 (τ1 4 8) = 0
  · have c2 : p_X_check σ1 8 1 4 (σ1 4 8) = 0 := by rw [hc, c]; rfl
    have hb := mk_4 c
    rw [if_pos c, if_pos c2, us_2, ea, dv_4 (by omega), h1.w]
    exact st_sim h1 _
  · have c2 : ¬ p_X_check σ1 8 1 4 (σ1 4 8) = 0 := by rw [hc]; exact fun z => c (of_ck z)
    rw [if_neg c, if_neg c2, hc]
    exact trap_sim h1 _
theorem rL_sim (n1 : Int32) : ∀ (n : Nat) (d : Int32) (σ τ : Mem), Sm σ τ → (rL_X n1 n d σ).1 = (rL_M n1 n d τ).1 ∧ Sm (rL_X n1 n d σ).2 (rL_M n1 n d τ).2 := by
  intro n
  induction n with
  | zero => intro d σ τ h; exact ⟨rfl, h⟩
  | succ n ih =>
    intro d σ τ h
    unfold rL_X rL_M
    rw [h.s 0]
    by_cases c1 : n1 ≤ d
    · rw [if_pos c1, if_pos c1]; exact ⟨rfl, h⟩
    · rw [if_neg c1, if_neg c1]
      by_cases c2 : τ 5 0 = 0
      · rw [if_pos c2, if_pos c2]
        exact ih (d + 1) _ _ (step_sim h)
      · rw [if_neg c2, if_neg c2]; exact ⟨rfl, h⟩
section CALLS
variable {σ τ : Mem} (x y : Int32)
theorem run_sim (h : Sm σ τ) : (p_X_run σ x).1 = (p_M_run τ x).1 ∧ Sm (p_X_run σ x).2 (p_M_run τ x).2 := by
  unfold p_X_run p_M_run
  by_cases c1 : x < 0
  · rw [if_pos c1, if_pos c1]; exact ⟨rfl, h⟩
  · rw [if_neg c1, if_neg c1]
    by_cases c2 : x ≤ 100
    · rw [if_pos c2, if_pos c2]; exact rL_sim x 101 0 σ τ h
    · rw [if_neg c2, if_neg c2]; exact ⟨rfl, h⟩
theorem wd_is : (p_X_isWord x = 0) = ¬ (¬ x < 0 ∧ x ≤ 255) := by
  have e : (x ≤ (255 : Int32)) = ¬ ((256 : Int32) ≤ x) := by
    have e1 : (255 : Int32).toInt = 255 := by decide
    have e2 : (256 : Int32).toInt = 256 := by decide
    rw [Int32.le_iff_toInt_le, Int32.le_iff_toInt_le, e1, e2]
    apply propext
    omega
  rw [e]
  unfold p_X_isWord
  apply propext
  by_cases c1 : x < 0
  · rw [if_pos c1]
    exact ⟨fun _ z => z.1 c1, fun _ => rfl⟩
  · rw [if_neg c1]
    by_cases c2 : (256 : Int32) ≤ x
    · rw [if_pos c2]
      exact ⟨fun _ z => z.2 c2, fun _ => rfl⟩
    · rw [if_neg c2]
      exact ⟨fun z => absurd z (by decide), fun z => absurd ⟨c1, c2⟩ z⟩
theorem rg_is : (p_X_isRegister x = 0) = (p_M_isRegister x = 0) := by
  unfold p_X_isRegister p_M_isRegister
  have e0 : (0 : Int32).toInt = 0 := by decide
  have e1 : (11 : Int32).toInt = 11 := by decide
  have e2 : (12 : Int32).toInt = 12 := by decide
  have e : ((12 : Int32) ≤ x) = ((11 : Int32) < x) := by
    rw [Int32.lt_iff_toInt_lt, Int32.le_iff_toInt_le, e1, e2]
    apply propext
    omega
  simp only [e]
theorem poke_sim (h : Sm σ τ) : (p_X_poke σ x y).1 = (p_M_poke τ x y).1 ∧ Sm (p_X_poke σ x y).2 (p_M_poke τ x y).2 := by
  unfold p_X_poke p_M_poke
  dsimp only
  by_cases c1 : x < 0
  · rw [if_pos c1, if_pos (by rw [wd_is]; exact fun z => z.1 c1)]; exact ⟨rfl, h⟩
  · rw [if_neg c1]
    by_cases c2 : x ≤ 255
    · rw [if_pos c2, if_neg (by rw [wd_is]; exact fun z => z ⟨c1, c2⟩)]
      refine ⟨rfl, ?_⟩
      show Sm (wr (wr σ 0 x.toNatClampNeg y) 1 (x >>> ((1 : Int32) &&& 31)).toNatClampNeg 0) (wr (wr τ 0 x.toNatClampNeg y) 1 (x / 2).toNatClampNeg 0)
      obtain ⟨j, hj, rfl⟩ := nI_of2 (M := 255) (n := 255) (by decide) c1 c2
      have e2 : nI j / 2 = nI (j / 2) := pk_div (a := j) (d := 2) (by omega) (by decide) (by decide)
      rw [pk_shrN (by omega) _ 1 (by decide), e2]
      refine ⟨?_, fun k hk => ?_⟩
      · rw [bs_w1, bs_w1, bs_w0, bs_w0, h.1, funext h.w]
      · rw [gc_w1, gc_w1, gc_w0, gc_w0]; exact h.2 k hk
    · rw [if_neg c2, if_pos (by rw [wd_is]; exact fun z => c2 z.2)]; exact ⟨rfl, h⟩
theorem peek_sim (h : Sm σ τ) : p_X_peek σ x = p_M_peek τ x := by
  unfold p_X_peek p_M_peek
  by_cases c1 : x < 0
  · rw [if_pos c1, if_pos (by rw [wd_is]; exact fun z => z.1 c1)]
  · rw [if_neg c1]
    by_cases c2 : x ≤ 255
    · rw [if_pos c2, if_neg (by rw [wd_is]; exact fun z => z ⟨c1, c2⟩)]; exact h.w _
    · rw [if_neg c2, if_pos (by rw [wd_is]; exact fun z => c2 z.2)]
theorem tagged_sim (h : Sm σ τ) : p_X_tagged σ x = p_M_tagged τ x := by
  unfold p_X_tagged p_M_tagged
  rw [h.g]
theorem root_sim (h : Sm σ τ) {k : Nat} (hk : k ≠ 12) {r : Int32} (hr : r.toNatClampNeg = k) : Sm (p_K_becomeRoot σ k y) (p_M_first τ r y) := by
  have e1 : p_K_becomeRoot σ k y = wr (p_K_bound (wr (wr σ 2 k 1) 3 k 255) k (lN 0) (lN 1024)) 4 k y := rfl
  have e2 : p_M_first τ r y = wr (wr (wr τ 4 k y) 3 k (p_M_bounded 255 (lN 0) (lN 1024))) 2 k 1 := by rw [← hr]; rfl
  rw [e1, e2, bound_eq _ _ (by decide) (by decide), wr_same]
  refine ⟨?_, fun j hj => ?_⟩
  · rw [bs_w4, bs_w3, bs_w3, bs_w2, bs_w2, bs_w3, bs_w4]; exact h.1
  · rw [gc_w4, gc_w3, gc_w3, gc_w2, gc_w2, gc_w3, gc_w4, h.2 j hj]
    by_cases c : j = k
    · simp [c]
    · simp [c]
theorem wake_sim (h : Sm σ τ) : (p_X_wake σ x).1 = (p_M_wake τ x).1 ∧ Sm (p_X_wake σ x).2 (p_M_wake τ x).2 := by
  unfold p_X_wake p_M_wake
  dsimp only
  rw [h.s 0]
  by_cases c0 : τ 5 0 = 0
  · rw [if_pos c0, if_pos c0]; exact ⟨rfl, h⟩
  rw [if_neg c0, if_neg c0]
  by_cases c1 : x < 0
  · rw [if_pos c1, if_pos (by rw [wd_is]; exact fun z => z.1 c1)]; exact ⟨rfl, h⟩
  · rw [if_neg c1]
    by_cases c2 : x ≤ 255
    · rw [if_pos c2, if_neg (by rw [wd_is]; exact fun z => z ⟨c1, c2⟩)]
      refine ⟨rfl, root_sim (σ := wr σ 5 0 0) (τ := wr τ 5 0 0) _ ?_ (by decide) (by decide)⟩
      refine ⟨?_, fun j hj => ?_⟩
      · rw [bs_w5, bs_w5, h.1, funext h.s]
      · rw [gc_w5, gc_w5]; exact h.2 j hj
    · rw [if_neg c2, if_pos (by rw [wd_is]; exact fun z => c2 z.2)]; exact ⟨rfl, h⟩
theorem register_sim (h : Sm σ τ) : p_X_register σ x y = p_M_register τ x y := by
  unfold p_X_register p_M_register
  simp only [rg_is]
  by_cases c : p_M_isRegister x = 0
  · rw [if_pos c, if_pos c]
  · rw [if_neg c, if_neg c]
    have hx := (d_cases (ix_mreg c)).2.2
    rw [h.t hx, h.m hx, h.a hx]
    have e0 : (0 : Int32).toInt = 0 := by decide
    have e1 : (1 : Int32).toInt = 1 := by decide
    have e2 : (2 : Int32).toInt = 2 := by decide
    by_cases y0 : y = 0
    · subst y0
      rw [if_pos rfl, if_neg (show ¬ (0 : Int32) < 0 by decide), if_pos (show (0 : Int32) ≤ 2 by decide), if_pos rfl]
    · by_cases y1 : y = 1
      · subst y1
        rw [if_neg (show ¬ (1 : Int32) = 0 by decide), if_pos rfl, if_neg (show ¬ (1 : Int32) < 0 by decide), if_pos (show (1 : Int32) ≤ 2 by decide), if_neg (show ¬ (1 : Int32) = 0 by decide), if_pos rfl]
      · by_cases y2 : y = 2
        · subst y2
          rw [if_neg (show ¬ (2 : Int32) = 0 by decide), if_neg (show ¬ (2 : Int32) = 1 by decide), if_pos rfl, if_neg (show ¬ (2 : Int32) < 0 by decide), if_pos (show (2 : Int32) ≤ 2 by decide), if_neg (show ¬ (2 : Int32) = 0 by decide), if_neg (show ¬ (2 : Int32) = 1 by decide)]
        · rw [if_neg y0, if_neg y1, if_neg y2]
          have n0 := lv_neT y0 (a := 0) (by decide)
          have n1 := lv_neT y1 (a := 1) (by decide)
          have n2 := lv_neT y2 (a := 2) (by decide)
          by_cases c3 : y < 0
          · rw [if_pos c3]
          · rw [if_neg c3, if_neg]
            rw [Int32.le_iff_toInt_le, e2]
            rw [Int32.lt_iff_toInt_lt, e0] at c3
            omega
theorem base_sim (h : Sm σ τ) : p_X_base σ x = p_M_base τ x := by
  unfold p_X_base p_M_base
  simp only [rg_is]
  by_cases c : p_M_isRegister x = 0
  · rw [if_pos c, if_pos c]
  · have hx := (d_cases (ix_mreg c)).2.2
    rw [if_neg c, if_neg c, low_eq, h.m hx, h.a hx]
theorem top_sim (h : Sm σ τ) : p_X_top σ x = p_M_top τ x := by
  unfold p_X_top p_M_top
  simp only [rg_is]
  by_cases c : p_M_isRegister x = 0
  · rw [if_pos c, if_pos c]
  · have hx := (d_cases (ix_mreg c)).2.2
    rw [if_neg c, if_neg c, up_eq, h.m hx, h.a hx]
theorem give_sim (h : Sm σ τ) : (p_X_give σ x y).1 = (p_M_give τ x y).1 ∧ Sm (p_X_give σ x y).2 (p_M_give τ x y).2 := by
  unfold p_X_give p_M_give
  dsimp only
  have e7 : (x < (8 : Int32)) = (x ≤ (7 : Int32)) := by
    have a7 : (7 : Int32).toInt = 7 := by decide
    have a8 : (8 : Int32).toInt = 8 := by decide
    rw [Int32.lt_iff_toInt_lt, Int32.le_iff_toInt_le, a7, a8]
    apply propext
    omega
  simp only [e7]
  by_cases c1 : x < 1
  · rw [if_pos c1, if_pos c1]; exact ⟨rfl, h⟩
  · rw [if_neg c1, if_neg c1]
    by_cases c2 : x ≤ 7
    · rw [if_pos c2, if_pos c2]
      refine ⟨rfl, ?_⟩
      have hv := ix_give7 c1 c2
      obtain ⟨q1, q2, q3⟩ := d_cases hv
      have hz : ¬ x = 0 := fun z => c1 (by rw [z]; decide)
      show Sm (p_X_writeNumber σ x y) (wr (wr (wr τ 4 x.toNatClampNeg y) 3 x.toNatClampNeg 0) 2 x.toNatClampNeg 0)
      refine ⟨?_, fun j hj => ?_⟩
      · rw [wN_bs, bs_w2, bs_w3, bs_w4]; exact h.1
      · unfold p_X_writeNumber
        rw [if_neg hz, gc_w2, gc_w3, gc_w4]
        show gc (p_K_becomeNumber σ _ y) j = _
        rw [num_gc, h.2 j hj]
        by_cases c : j = x.toNatClampNeg
        · simp [c, bo_0]
        · simp [c]
    · rw [if_neg c2, if_neg c2]; exact ⟨rfl, h⟩
end CALLS
