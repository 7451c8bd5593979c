-- the two sides' states, seen alike: a capability by its place, the reference's new one, the rest
abbrev Cap : Type := Int32 × Int32 × Int32
def gc (σ : Mem) (i : Nat) : Cap := (bo (σ 2 i), σ 3 i, σ 4 i)
def gn (τ : Mem) : Cap := (bo (τ 6 2), τ 6 1, τ 6 0)
def bs (σ : Mem) : (Nat → Int32) × (Nat → Int32) × (Nat → Int32) := (σ 0, fun j => bo (σ 1 j), σ 5)
def Sm (σ τ : Mem) : Prop := bs σ = bs τ ∧ ∀ j, j ≠ 12 → gc σ j = gc τ j
theorem Sm.w {σ τ : Mem} (h : Sm σ τ) (j : Nat) : σ 0 j = τ 0 j := congrFun (congrArg Prod.fst h.1) j
theorem Sm.g {σ τ : Mem} (h : Sm σ τ) (j : Nat) : bo (σ 1 j) = bo (τ 1 j) := congrFun (congrArg (fun b => b.2.1) h.1) j
theorem Sm.s {σ τ : Mem} (h : Sm σ τ) (j : Nat) : σ 5 j = τ 5 j := congrFun (congrArg (fun b => b.2.2) h.1) j
theorem Sm.t {σ τ : Mem} (h : Sm σ τ) {j : Nat} (hj : j ≠ 12) : bo (σ 2 j) = bo (τ 2 j) := congrArg Prod.fst (h.2 j hj)
theorem Sm.m {σ τ : Mem} (h : Sm σ τ) {j : Nat} (hj : j ≠ 12) : σ 3 j = τ 3 j := congrArg (fun c : Cap => c.2.1) (h.2 j hj)
theorem Sm.a {σ τ : Mem} (h : Sm σ τ) {j : Nat} (hj : j ≠ 12) : σ 4 j = τ 4 j := congrArg (fun c : Cap => c.2.2) (h.2 j hj)
section WR
variable (σ : Mem) (i j : Nat) (v : Int32)
theorem bs_w2 : bs (wr σ 2 i v) = bs σ := by simp only [bs, wr_row σ i v (show 0 ≠ 2 by decide), wr_row σ i v (show 1 ≠ 2 by decide), wr_row σ i v (show 5 ≠ 2 by decide)]
theorem bs_w3 : bs (wr σ 3 i v) = bs σ := by simp only [bs, wr_row σ i v (show 0 ≠ 3 by decide), wr_row σ i v (show 1 ≠ 3 by decide), wr_row σ i v (show 5 ≠ 3 by decide)]
theorem bs_w4 : bs (wr σ 4 i v) = bs σ := by simp only [bs, wr_row σ i v (show 0 ≠ 4 by decide), wr_row σ i v (show 1 ≠ 4 by decide), wr_row σ i v (show 5 ≠ 4 by decide)]
theorem bs_w6 : bs (wr σ 6 i v) = bs σ := by simp only [bs, wr_row σ i v (show 0 ≠ 6 by decide), wr_row σ i v (show 1 ≠ 6 by decide), wr_row σ i v (show 5 ≠ 6 by decide)]
theorem bs_w0 : bs (wr σ 0 i v) = (upd (σ 0) i v, (bs σ).2) := by simp only [bs, wr_upd, wr_row σ i v (show 1 ≠ 0 by decide), wr_row σ i v (show 5 ≠ 0 by decide)]
theorem bs_w5 : bs (wr σ 5 i v) = ((bs σ).1, (bs σ).2.1, upd (σ 5) i v) := by simp only [bs, wr_upd, wr_row σ i v (show 1 ≠ 5 by decide), wr_row σ i v (show 0 ≠ 5 by decide)]
theorem bs_w1 : bs (wr σ 1 i v) = ((bs σ).1, upd (bs σ).2.1 i (bo v), (bs σ).2.2) := by
  simp only [bs, wr_upd, wr_row σ i v (show 0 ≠ 1 by decide), wr_row σ i v (show 5 ≠ 1 by decide)]
  congr 2
  funext k
  by_cases h : k = i
  · subst h; simp [upd]
  · simp [upd, h]
theorem gc_w0 : gc (wr σ 0 i v) j = gc σ j := by simp only [gc, wr_row σ i v (show 2 ≠ 0 by decide), wr_row σ i v (show 3 ≠ 0 by decide), wr_row σ i v (show 4 ≠ 0 by decide)]
theorem gc_w1 : gc (wr σ 1 i v) j = gc σ j := by simp only [gc, wr_row σ i v (show 2 ≠ 1 by decide), wr_row σ i v (show 3 ≠ 1 by decide), wr_row σ i v (show 4 ≠ 1 by decide)]
theorem gc_w5 : gc (wr σ 5 i v) j = gc σ j := by simp only [gc, wr_row σ i v (show 2 ≠ 5 by decide), wr_row σ i v (show 3 ≠ 5 by decide), wr_row σ i v (show 4 ≠ 5 by decide)]
theorem gc_w6 : gc (wr σ 6 i v) j = gc σ j := by simp only [gc, wr_row σ i v (show 2 ≠ 6 by decide), wr_row σ i v (show 3 ≠ 6 by decide), wr_row σ i v (show 4 ≠ 6 by decide)]
theorem gc_w2 : gc (wr σ 2 i v) j = if j = i then (bo v, (gc σ j).2) else gc σ j := by
  simp only [gc, wr_upd, wr_row σ i v (show 3 ≠ 2 by decide), wr_row σ i v (show 4 ≠ 2 by decide), upd]
  by_cases h : j = i <;> simp [h]
theorem gc_w3 : gc (wr σ 3 i v) j = if j = i then ((gc σ j).1, v, (gc σ j).2.2) else gc σ j := by
  simp only [gc, wr_upd, wr_row σ i v (show 2 ≠ 3 by decide), wr_row σ i v (show 4 ≠ 3 by decide), upd]
  by_cases h : j = i <;> simp [h]
theorem gc_w4 : gc (wr σ 4 i v) j = if j = i then ((gc σ j).1, (gc σ j).2.1, v) else gc σ j := by
  simp only [gc, wr_upd, wr_row σ i v (show 2 ≠ 4 by decide), wr_row σ i v (show 3 ≠ 4 by decide), upd]
  by_cases h : j = i <;> simp [h]
theorem gn_w {k : Nat} (h : 6 ≠ k) : gn (wr σ k i v) = gn σ := by simp only [gn, wr_row σ i v h]
theorem gn_60 : gn (wr σ 6 0 v) = ((gn σ).1, (gn σ).2.1, v) := by simp [gn, wr]
theorem gn_61 : gn (wr σ 6 1 v) = ((gn σ).1, v, (gn σ).2.2) := by simp [gn, wr]
theorem gn_62 : gn (wr σ 6 2 v) = (bo v, (gn σ).2) := by simp [gn, wr]
end WR
-- the core's small methods
theorem copy_is (σ : Mem) (i j : Nat) : p_K_copy σ i j = wr (wr (wr σ 2 i (bo (σ 2 j))) 3 i (σ 3 j)) 4 i (σ 4 j) := by
  show wr (wr (wr σ 2 i (bo (σ 2 j))) 3 i ((wr σ 2 i (bo (σ 2 j))) 3 j)) 4 i ((wr (wr σ 2 i (bo (σ 2 j))) 3 i ((wr σ 2 i (bo (σ 2 j))) 3 j)) 4 j) = _
  rw [wr_row σ i _ (show 3 ≠ 2 by decide), wr_row _ i _ (show 4 ≠ 3 by decide), wr_row σ i _ (show 4 ≠ 2 by decide)]
theorem copy_bs (σ : Mem) (i j : Nat) : bs (p_K_copy σ i j) = bs σ := by rw [copy_is, bs_w4, bs_w3, bs_w2]
theorem copy_gc (σ : Mem) (i j k : Nat) : gc (p_K_copy σ i j) k = if k = i then gc σ j else gc σ k := by
  rw [copy_is, gc_w4, gc_w3, gc_w2]
  by_cases h : k = i
  · simp [h, bo_bo, gc]
  · simp [h]
def tyw (m n : Int32) : Int32 := (m &&& (-3841)) ||| (n <<< ((8 : Int32) &&& 31))
theorem setT_bs (σ : Mem) (i : Nat) (n : Int32) : bs (p_K_setType σ i n) = bs σ := bs_w3 _ _ _
theorem setT_gc (σ : Mem) (i k : Nat) (n : Int32) : gc (p_K_setType σ i n) k = if k = i then ((gc σ i).1, tyw (gc σ i).2.1 n, (gc σ i).2.2) else gc σ k := by
  show gc (wr σ 3 i _) k = _
  rw [gc_w3]
  by_cases h : k = i
  · subst h; simp [gc, tyw]
  · simp [h]
theorem num_bs (σ : Mem) (i : Nat) (n : Int32) : bs (p_K_becomeNumber σ i n) = bs σ := by
  show bs (wr (wr (wr σ 2 i 0) 3 i 0) 4 i n) = _
  rw [bs_w4, bs_w3, bs_w2]
theorem num_gc (σ : Mem) (i k : Nat) (n : Int32) : gc (p_K_becomeNumber σ i n) k = if k = i then (0, 0, n) else gc σ k := by
  show gc (wr (wr (wr σ 2 i 0) 3 i 0) 4 i n) k = _
  rw [gc_w4, gc_w3, gc_w2]
  by_cases h : k = i
  · simp [h, bo_0]
  · simp [h]
theorem se_is (σ : Mem) (i : Nat) : (p_K_isSealed σ i = 0) = (p_M_type (σ 3 i) = 0) := by
  unfold p_K_isSealed
  rw [ty_eq]
  apply propext
  split
  · rename_i h; exact ⟨fun _ => h, fun _ => rfl⟩
  · rename_i h; exact ⟨fun z => absurd z (by decide), fun z => absurd z h⟩
theorem pe_is (σ : Mem) (i : Nat) {q : Int32} (hq : 255 &&& q = q) : (p_K_permits σ i q = 0) = ¬ (σ 3 i &&& q = q) := by
  unfold p_K_permits p_K_permissions
  rw [Int32.and_assoc, hq]
  apply propext
  split
  · rename_i h; exact ⟨fun z => absurd z (by decide), fun z => absurd h z⟩
  · rename_i h; exact ⟨fun _ => h, fun _ => rfl⟩
theorem ha_is (τ : Mem) (r q : Int32) : (p_M_has τ r q = 0) = ¬ (τ 3 r.toNatClampNeg &&& q = q) := by
  unfold p_M_has
  apply propext
  split
  · rename_i h; exact ⟨fun z => absurd z (by decide), fun z => absurd h z⟩
  · rename_i h; exact ⟨fun _ => h, fun _ => rfl⟩
/-- to move a capability -/
def mvc (c : Cap) (x : Int32) : Cap := (if c.1 = 0 then 0 else if p_M_type c.2.1 = 0 then (if p_M_baseOf c.2.1 x = p_M_baseOf c.2.1 c.2.2 then (if p_M_topOf c.2.1 x = p_M_topOf c.2.1 c.2.2 then 1 else 0) else 0) else 0, c.2.1, x)
theorem move_bs (σ : Mem) (i : Nat) (x : Int32) : bs (p_K_move σ i x) = bs σ := by
  unfold p_K_move
  dsimp only
  repeat' split
  all_goals simp only [bs_w2, bs_w4]
theorem move_gc (σ : Mem) (i k : Nat) (x : Int32) : gc (p_K_move σ i x) k = if k = i then mvc (gc σ i) x else gc σ k := by
  unfold p_K_move
  dsimp only
  simp only [se_is, low_eq, up_eq, lg_cmp_eq, wr_row σ i x (show 3 ≠ 4 by decide), wr_same]
  by_cases hk : k = i
  · subst hk
    rw [if_pos rfl]
    unfold mvc
    show _ = (if bo (σ 2 k) = 0 then 0 else if p_M_type (σ 3 k) = 0 then (if p_M_baseOf (σ 3 k) x = p_M_baseOf (σ 3 k) (σ 4 k) then (if p_M_topOf (σ 3 k) x = p_M_topOf (σ 3 k) (σ 4 k) then 1 else 0) else 0) else 0, σ 3 k, x)
    have hb := bo_01 (σ 2 k)
    by_cases h1 : p_M_type (σ 3 k) = 0 <;> by_cases h2 : p_M_baseOf (σ 3 k) x = p_M_baseOf (σ 3 k) (σ 4 k) <;> by_cases h3 : p_M_topOf (σ 3 k) x = p_M_topOf (σ 3 k) (σ 4 k) <;> simp only [h1, h2, h3, if_true, if_false, gc_w2, gc_w4, bo_0, ite_self] <;> simp [gc] <;> (rcases hb with e | e <;> simp [e])
  · rw [if_neg hk]
    repeat' split
    all_goals simp [gc_w2, gc_w4, hk]
-- the reference's small methods
theorem take_is (τ : Mem) (r : Int32) : p_M_take τ r = wr (wr (wr τ 6 0 (τ 4 r.toNatClampNeg)) 6 1 (τ 3 r.toNatClampNeg)) 6 2 (bo (τ 2 r.toNatClampNeg)) := by
  show wr (wr (wr τ 6 0 (τ 4 r.toNatClampNeg)) 6 1 ((wr τ 6 0 (τ 4 r.toNatClampNeg)) 3 r.toNatClampNeg)) 6 2 (bo ((wr (wr τ 6 0 (τ 4 r.toNatClampNeg)) 6 1 ((wr τ 6 0 (τ 4 r.toNatClampNeg)) 3 r.toNatClampNeg)) 2 r.toNatClampNeg)) = _
  rw [wr_row τ 0 _ (show 3 ≠ 6 by decide), wr_row _ 1 _ (show 2 ≠ 6 by decide), wr_row τ 0 _ (show 2 ≠ 6 by decide)]
theorem take_bs (τ : Mem) (r : Int32) : bs (p_M_take τ r) = bs τ := by rw [take_is, bs_w6, bs_w6, bs_w6]
theorem take_gc (τ : Mem) (r : Int32) (k : Nat) : gc (p_M_take τ r) k = gc τ k := by rw [take_is, gc_w6, gc_w6, gc_w6]
theorem take_gn (τ : Mem) (r : Int32) : gn (p_M_take τ r) = gc τ r.toNatClampNeg := by rw [take_is, gn_62, gn_61, gn_60, bo_bo]; rfl
theorem put_is (τ : Mem) {r : Int32} (h : ¬ r ≤ 0) : p_M_put τ r = wr (wr (wr τ 4 r.toNatClampNeg (τ 6 0)) 3 r.toNatClampNeg (τ 6 1)) 2 r.toNatClampNeg (bo (τ 6 2)) := by
  unfold p_M_put
  rw [if_neg h]
  show wr (wr (wr τ 4 r.toNatClampNeg (τ 6 0)) 3 r.toNatClampNeg ((wr τ 4 r.toNatClampNeg (τ 6 0)) 6 1)) 2 r.toNatClampNeg (bo ((wr (wr τ 4 r.toNatClampNeg (τ 6 0)) 3 r.toNatClampNeg ((wr τ 4 r.toNatClampNeg (τ 6 0)) 6 1)) 6 2)) = _
  rw [wr_row τ _ _ (show 6 ≠ 4 by decide), wr_row _ _ _ (show 6 ≠ 3 by decide), wr_row τ _ _ (show 6 ≠ 4 by decide)]
theorem put_bs (τ : Mem) (r : Int32) : bs (p_M_put τ r) = bs τ := by
  by_cases h : r ≤ 0
  · unfold p_M_put; rw [if_pos h]
  · rw [put_is τ h, bs_w2, bs_w3, bs_w4]
theorem put_gn (τ : Mem) (r : Int32) : gn (p_M_put τ r) = gn τ := by
  by_cases h : r ≤ 0
  · unfold p_M_put; rw [if_pos h]
  · rw [put_is τ h, gn_w _ _ _ (by decide), gn_w _ _ _ (by decide), gn_w _ _ _ (by decide)]
theorem put_gc (τ : Mem) (r : Int32) (k : Nat) : gc (p_M_put τ r) k = if r ≤ 0 then gc τ k else if k = r.toNatClampNeg then gn τ else gc τ k := by
  by_cases h : r ≤ 0
  · unfold p_M_put; rw [if_pos h, if_pos h]
  · rw [put_is τ h, gc_w2, gc_w3, gc_w4, if_neg h]
    by_cases hk : k = r.toNatClampNeg
    · simp [hk, bo_bo, gn]
    · simp [hk]
theorem numb_bs (τ : Mem) (v : Int32) : bs (p_M_number τ v) = bs τ := by
  show bs (wr (wr (wr τ 6 0 v) 6 1 0) 6 2 0) = _
  rw [bs_w6, bs_w6, bs_w6]
theorem numb_gc (τ : Mem) (v : Int32) (k : Nat) : gc (p_M_number τ v) k = gc τ k := by
  show gc (wr (wr (wr τ 6 0 v) 6 1 0) 6 2 0) k = _
  rw [gc_w6, gc_w6, gc_w6]
theorem numb_gn (τ : Mem) (v : Int32) : gn (p_M_number τ v) = (0, 0, v) := by
  show gn (wr (wr (wr τ 6 0 v) 6 1 0) 6 2 0) = _
  rw [gn_62, gn_61, gn_60, bo_0]
theorem typd_bs (τ : Mem) (m n : Int32) : bs (p_M_typed τ m n) = bs τ := bs_w6 _ _ _
theorem typd_gc (τ : Mem) (m n : Int32) (k : Nat) : gc (p_M_typed τ m n) k = gc τ k := gc_w6 _ _ _ _
theorem typd_gn (τ : Mem) (m n : Int32) : gn (p_M_typed τ m n) = ((gn τ).1, tyw m n, (gn τ).2.2) := gn_61 _ _
theorem mmov_bs (τ : Mem) (x : Int32) : bs (p_M_move τ x) = bs τ := by
  unfold p_M_move
  dsimp only
  repeat' split
  all_goals simp only [bs_w6]
theorem mmov_gc (τ : Mem) (x : Int32) (k : Nat) : gc (p_M_move τ x) k = gc τ k := by
  unfold p_M_move
  dsimp only
  repeat' split
  all_goals simp only [gc_w6]
theorem mmov_gn (τ : Mem) (x : Int32) : gn (p_M_move τ x) = mvc (gn τ) x := by
  unfold p_M_move mvc
  dsimp only
  simp only [lg_cmp_eq, wr_pl τ 6 x (show 2 ≠ 0 by decide), wr_pl τ 6 x (show 1 ≠ 0 by decide)]
  show _ = (if bo (τ 6 2) = 0 then 0 else if p_M_type (τ 6 1) = 0 then (if p_M_baseOf (τ 6 1) x = p_M_baseOf (τ 6 1) (τ 6 0) then (if p_M_topOf (τ 6 1) x = p_M_topOf (τ 6 1) (τ 6 0) then 1 else 0) else 0) else 0, τ 6 1, x)
  repeat' split
  all_goals simp_all [wr, bo_0, bo_1, gn]
theorem go_bs (τ : Mem) (x : Int32) : bs (p_M_go τ x) = bs τ := by
  show bs (p_M_put (p_M_move (p_M_take τ 8) _) 8) = _
  rw [put_bs, mmov_bs, take_bs]
theorem go_gc (τ : Mem) (x : Int32) (k : Nat) : gc (p_M_go τ x) k = if k = 8 then mvc (gc τ 8) ((gc τ 8).2.2 + x) else gc τ k := by
  show gc (p_M_put (p_M_move (p_M_take τ 8) ((p_M_take τ 8) 4 ((8 : Int32)).toNatClampNeg + x)) 8) k = _
  rw [put_gc, if_neg (by decide), mmov_gn, mmov_gc, take_gn, take_gc]
  have e : (8 : Int32).toNatClampNeg = 8 := by decide
  rw [e]
  have e2 : (p_M_take τ 8) 4 8 = (gc τ 8).2.2 := congrArg (fun c : Cap => c.2.2) (take_gc τ 8 8)
  rw [e2]
theorem br_sim {σ τ : Mem} (h : Sm σ τ) (n : Int32) : (p_X_branch σ n).1 = 0 ∧ Sm (p_X_branch σ n).2 (p_M_go τ (4 * n)) := by
  refine ⟨rfl, ?_, fun j hj => ?_⟩
  · show bs (p_K_move σ 8 _) = _
    rw [move_bs, go_bs]
    exact h.1
  · show gc (p_K_move σ 8 (σ 4 8 + 4 * n)) j = _
    rw [move_gc, go_gc, h.2 8 (by decide), h.2 j hj, h.a (j := 8) (by decide)]
    rfl
