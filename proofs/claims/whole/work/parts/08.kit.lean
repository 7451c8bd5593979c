-- the state of either side as one function of two numbers: row and place.
-- rows: 0 words, 1 granule tags, 2 tags, 3 metas, 4 addresses (of registers 0 .. 11; the core's 'made' is place 12), 5: state, cause, steps, traps; 6 (reference alone): newAddress, newMeta, newTag
abbrev Mem : Type := Nat → Nat → Int32
def wr (σ : Mem) (k i : Nat) (v : Int32) : Mem := fun k' i' => if k' = k ∧ i' = i then v else σ k' i'
theorem wr_same (σ : Mem) (k i : Nat) (v : Int32) : wr σ k i v k i = v := by simp [wr]
theorem wr_row (σ : Mem) {k k' : Nat} (i : Nat) (v : Int32) (h : k' ≠ k) : wr σ k i v k' = σ k' := by funext j; simp [wr, h]
theorem wr_pl (σ : Mem) (k : Nat) {i j : Nat} (v : Int32) (h : j ≠ i) : wr σ k i v k j = σ k j := by simp [wr, h]
theorem wr_upd (σ : Mem) (k i : Nat) (v : Int32) : wr σ k i v k = upd (σ k) i v := by funext j; simp [wr, upd]
/-- what a variable of type boolean keeps -/
def bo (x : Int32) : Int32 := x &&& 1
theorem bo_01 (x : Int32) : bo x = 0 ∨ bo x = 1 := by
  have h := pk_and x (m := 1) 1 (by decide)
  have h2 : x.toBitVec.toNat % 2 ^ 1 = 0 ∨ x.toBitVec.toNat % 2 ^ 1 = 1 := by omega
  unfold bo
  rcases h2 with e | e <;> rw [h, e]
  · exact Or.inl (by decide)
  · exact Or.inr (by decide)
theorem bo_0 : bo 0 = 0 := by decide
theorem bo_1 : bo 1 = 1 := by decide
theorem bo_bo (x : Int32) : bo (bo x) = bo x := by
  rcases bo_01 x with e | e <;> rw [e] <;> decide
theorem bo_nar {x : Int32} (h : bo x = x) : narrow .boolean (.int x) = .int x := by
  show Value.int (x &&& 1) = Value.int x
  have h : x &&& 1 = x := h
  rw [h]
theorem bo_fit {x : Int32} (h : bo x = x) : fits .boolean (.int x) = true := by
  rcases bo_01 x with e | e <;> rw [h] at e <;> subst e <;> decide
-- the two worlds
def cF (a : Nat → Nat) (σ : Mem) : List Value := [.ref (a 1), .ref (a 2), .ref (a 3), .ref (a (4 + 8)), .ref (a (4 + 12)), .int (σ 5 0), .int (σ 5 1), .int (σ 5 2), .int (σ 5 3)]
def kF (σ : Mem) (i : Nat) : List Value := [.int (bo (σ 2 i)), .int (σ 3 i), .int (σ 4 i)]
def cwL (a : Nat → Nat) (cA : Nat → ClassId) (σ : Mem) : va_W := (a 0, .inr (1, cF a σ)) :: (a 1, .inl (cA 0, 256, .inl (σ 0))) :: (a 2, .inl (cA 1, 128, .inl (fun i => bo (σ 1 i)))) :: (a 3, .inl (cA 2, 12, .inr (.inr (.inr (.inr (fun i => some (a (4 + i)))))))) :: (List.range 13).map (fun i => (a (4 + i), .inr (0, kF σ i)))
def rF (a : Nat → Nat) (σ : Mem) : List Value := [.ref (a 1), .ref (a 2), .ref (a 3), .ref (a 4), .ref (a 5), .int (σ 5 0), .int (σ 5 1), .int (σ 5 2), .int (σ 5 3), .int (σ 6 0), .int (σ 6 1), .int (bo (σ 6 2))]
def rwL (a : Nat → Nat) (cA : Nat → ClassId) (σ : Mem) : va_W := [(a 0, .inr (2, rF a σ)), (a 1, .inl (cA 0, 12, .inl (σ 4))), (a 2, .inl (cA 1, 12, .inl (σ 3))), (a 3, .inl (cA 2, 12, .inl (fun i => bo (σ 2 i)))), (a 4, .inl (cA 3, 256, .inl (σ 0))), (a 5, .inl (cA 4, 128, .inl (fun i => bo (σ 1 i))))]
abbrev cty (cA : Nat → ClassId) : List (ClassId × FieldType) := [(cA 0, .int), (cA 1, .boolean), (cA 2, .object R_K)]
abbrev rty (cA : Nat → ClassId) : List (ClassId × FieldType) := [(cA 0, .int), (cA 1, .int), (cA 2, .boolean), (cA 3, .int), (cA 4, .boolean)]
def aB (a : Nat → Nat) (n : Nat) : Nat → Prop := fun q => ∃ k, k < n ∧ q = a k
theorem map_set {α : Type} (f g : Nat → α) (n i : Nat) (h : ∀ j, j ≠ i → g j = f j) (hi : i < n) : ((List.range n).map f).set i (g i) = (List.range n).map g := by
  apply List.ext_getElem?
  intro j
  by_cases hj : j = i
  · subst hj
    rw [List.getElem?_set_self (by simpa using hi)]
    simp [hi]
  · rw [List.getElem?_set_ne (Ne.symm hj), List.getElem?_map, List.getElem?_map]
    by_cases hn : j < n
    · rw [List.getElem?_range hn]
      simp [h j hj]
    · rw [List.getElem?_eq_none (by simpa using hn)]
      rfl
theorem cw_at {a : Nat → Nat} {cA : Nat → ClassId} {σ : Mem} {i : Nat} (hi : i < 13) : (cwL a cA σ)[4 + i]? = some (a (4 + i), .inr (0, kF σ i)) := by
  rw [show 4 + i = i + 4 by omega]
  simp only [cwL, List.getElem?_cons_succ, List.getElem?_map]
  rw [List.getElem?_range hi]
  simp [Nat.add_comm]
theorem cw_setK {a : Nat → Nat} {cA : Nat → ClassId} {σ τ : Mem} {i : Nat} (hi : i < 13) (h0 : τ 0 = σ 0) (h1 : τ 1 = σ 1) (h5 : τ 5 = σ 5) (hk : ∀ j, j ≠ i → kF τ j = kF σ j) : (cwL a cA σ).set (4 + i) (a (4 + i), .inr (0, kF τ i)) = cwL a cA τ := by
  rw [show 4 + i = i + 4 by omega]
  simp only [cwL, List.set_cons_succ]
  rw [show cF a τ = cF a σ by simp [cF, h5], h0, h1]
  have e := map_set (fun i => (a (4 + i), (.inr (0, kF σ i) : va_E))) (fun i => (a (4 + i), (.inr (0, kF τ i) : va_E))) 13 i (fun j hj => by simp [hk j hj]) hi
  rw [show i + 4 = 4 + i by omega, ← e]
theorem cw_set2 {a : Nat → Nat} {cA : Nat → ClassId} {σ : Mem} {i : Nat} {v : Int32} (hi : i < 13) (hb : bo v = v) : (cwL a cA σ).set (4 + i) (a (4 + i), .inr (0, (kF σ i).set 0 (.int v))) = cwL a cA (wr σ 2 i v) := by
  have e : (kF σ i).set 0 (.int v) = kF (wr σ 2 i v) i := by simp [kF, wr, hb]
  rw [e]
  exact cw_setK hi (wr_row _ _ _ (by decide)) (wr_row _ _ _ (by decide)) (wr_row _ _ _ (by decide)) (fun j hj => by simp [kF, wr, hj])
theorem cw_set3 {a : Nat → Nat} {cA : Nat → ClassId} {σ : Mem} {i : Nat} {v : Int32} (hi : i < 13) : (cwL a cA σ).set (4 + i) (a (4 + i), .inr (0, (kF σ i).set 1 (.int v))) = cwL a cA (wr σ 3 i v) := by
  have e : (kF σ i).set 1 (.int v) = kF (wr σ 3 i v) i := by simp [kF, wr]
  rw [e]
  exact cw_setK hi (wr_row _ _ _ (by decide)) (wr_row _ _ _ (by decide)) (wr_row _ _ _ (by decide)) (fun j hj => by simp [kF, wr, hj])
theorem cw_set4 {a : Nat → Nat} {cA : Nat → ClassId} {σ : Mem} {i : Nat} {v : Int32} (hi : i < 13) : (cwL a cA σ).set (4 + i) (a (4 + i), .inr (0, (kF σ i).set 2 (.int v))) = cwL a cA (wr σ 4 i v) := by
  have e : (kF σ i).set 2 (.int v) = kF (wr σ 4 i v) i := by simp [kF, wr]
  rw [e]
  exact cw_setK hi (wr_row _ _ _ (by decide)) (wr_row _ _ _ (by decide)) (wr_row _ _ _ (by decide)) (fun j hj => by simp [kF, wr, hj])
theorem kF_ne {σ : Mem} {k i : Nat} {v : Int32} (h2 : k ≠ 2) (h3 : k ≠ 3) (h4 : k ≠ 4) : kF (wr σ k i v) = kF σ := by
  funext j
  simp [kF, wr, Ne.symm h2, Ne.symm h3, Ne.symm h4]
theorem cw_set5 {a : Nat → Nat} {cA : Nat → ClassId} {σ : Mem} {v : Int32} (j : Nat) (hj : j < 4) : (cwL a cA σ).set 0 (a 0, .inr (1, (cF a σ).set (5 + j) (.int v))) = cwL a cA (wr σ 5 j v) := by
  have e : (cF a σ).set (5 + j) (.int v) = cF a (wr σ 5 j v) := by
    match j, hj with
    | 0, _ => simp [cF, wr]
    | 1, _ => simp [cF, wr]
    | 2, _ => simp [cF, wr]
    | 3, _ => simp [cF, wr]
  rw [e]
  simp only [cwL, List.set_cons_zero]
  rw [wr_row σ j v (show 0 ≠ 5 by decide), wr_row σ j v (show 1 ≠ 5 by decide), kF_ne (by decide) (by decide) (by decide)]
theorem cF_ne {a : Nat → Nat} {σ : Mem} {k i : Nat} {v : Int32} (h : k ≠ 5) : cF a (wr σ k i v) = cF a σ := by
  simp [cF, wr, Ne.symm h]
theorem cw_set0 {a : Nat → Nat} {cA : Nat → ClassId} {σ : Mem} {i : Nat} {v : Int32} : (cwL a cA σ).set 1 (a 1, .inl (cA 0, 256, .inl (upd (σ 0) i v))) = cwL a cA (wr σ 0 i v) := by
  simp only [cwL, List.set_cons_succ, List.set_cons_zero]
  rw [wr_upd, wr_row σ i v (show 1 ≠ 0 by decide), kF_ne (by decide) (by decide) (by decide), cF_ne (by decide)]
theorem bo_upd (f : Nat → Int32) (i : Nat) (v : Int32) : upd (fun j => bo (f j)) i (vp_nar .boolean v) = fun j => bo (upd f i v j) := by
  funext j
  by_cases h : j = i
  · subst h
    simp only [upd, if_true]
    rfl
  · simp only [upd, if_neg h]
theorem cw_set1 {a : Nat → Nat} {cA : Nat → ClassId} {σ : Mem} {i : Nat} {v : Int32} : (cwL a cA σ).set 2 (a 2, .inl (cA 1, 128, .inl (upd (fun j => bo (σ 1 j)) i (vp_nar .boolean v)))) = cwL a cA (wr σ 1 i v) := by
  simp only [cwL, List.set_cons_succ, List.set_cons_zero]
  rw [bo_upd, wr_upd, wr_row σ i v (show 0 ≠ 1 by decide), kF_ne (by decide) (by decide) (by decide), cF_ne (by decide)]
-- the reference's world
theorem rF_ne {a : Nat → Nat} {σ : Mem} {k i : Nat} {v : Int32} (h5 : k ≠ 5) (h6 : k ≠ 6) : rF a (wr σ k i v) = rF a σ := by
  simp [rF, wr, Ne.symm h5, Ne.symm h6]
theorem rw_set5 {a : Nat → Nat} {cA : Nat → ClassId} {σ : Mem} {v : Int32} (j : Nat) (hj : j < 4) : (rwL a cA σ).set 0 (a 0, .inr (2, (rF a σ).set (5 + j) (.int v))) = rwL a cA (wr σ 5 j v) := by
  have e : (rF a σ).set (5 + j) (.int v) = rF a (wr σ 5 j v) := by
    match j, hj with
    | 0, _ => simp [rF, wr]
    | 1, _ => simp [rF, wr]
    | 2, _ => simp [rF, wr]
    | 3, _ => simp [rF, wr]
  rw [e]
  simp only [rwL, List.set_cons_zero]
  rw [wr_row σ j v (show 0 ≠ 5 by decide), wr_row σ j v (show 1 ≠ 5 by decide), wr_row σ j v (show 2 ≠ 5 by decide), wr_row σ j v (show 3 ≠ 5 by decide), wr_row σ j v (show 4 ≠ 5 by decide)]
theorem rw_set6 {a : Nat → Nat} {cA : Nat → ClassId} {σ : Mem} {v : Int32} (j : Nat) (hj : j < 3) (hb : j = 2 → bo v = v) : (rwL a cA σ).set 0 (a 0, .inr (2, (rF a σ).set (9 + j) (.int v))) = rwL a cA (wr σ 6 j v) := by
  have e : (rF a σ).set (9 + j) (.int v) = rF a (wr σ 6 j v) := by
    match j, hj with
    | 0, _ => simp [rF, wr]
    | 1, _ => simp [rF, wr]
    | 2, _ => simp [rF, wr, hb rfl]
  rw [e]
  simp only [rwL, List.set_cons_zero]
  rw [wr_row σ j v (show 0 ≠ 6 by decide), wr_row σ j v (show 1 ≠ 6 by decide), wr_row σ j v (show 2 ≠ 6 by decide), wr_row σ j v (show 3 ≠ 6 by decide), wr_row σ j v (show 4 ≠ 6 by decide)]
theorem rw_set4 {a : Nat → Nat} {cA : Nat → ClassId} {σ : Mem} {i : Nat} {v : Int32} : (rwL a cA σ).set 1 (a 1, .inl (cA 0, 12, .inl (upd (σ 4) i v))) = rwL a cA (wr σ 4 i v) := by
  simp only [rwL, List.set_cons_succ, List.set_cons_zero]
  rw [wr_upd, wr_row σ i v (show 0 ≠ 4 by decide), wr_row σ i v (show 1 ≠ 4 by decide), wr_row σ i v (show 2 ≠ 4 by decide), wr_row σ i v (show 3 ≠ 4 by decide), rF_ne (by decide) (by decide)]
theorem rw_set3 {a : Nat → Nat} {cA : Nat → ClassId} {σ : Mem} {i : Nat} {v : Int32} : (rwL a cA σ).set 2 (a 2, .inl (cA 1, 12, .inl (upd (σ 3) i v))) = rwL a cA (wr σ 3 i v) := by
  simp only [rwL, List.set_cons_succ, List.set_cons_zero]
  rw [wr_upd, wr_row σ i v (show 0 ≠ 3 by decide), wr_row σ i v (show 1 ≠ 3 by decide), wr_row σ i v (show 2 ≠ 3 by decide), wr_row σ i v (show 4 ≠ 3 by decide), rF_ne (by decide) (by decide)]
theorem rw_set2 {a : Nat → Nat} {cA : Nat → ClassId} {σ : Mem} {i : Nat} {v : Int32} : (rwL a cA σ).set 3 (a 3, .inl (cA 2, 12, .inl (upd (fun j => bo (σ 2 j)) i (vp_nar .boolean v)))) = rwL a cA (wr σ 2 i v) := by
  simp only [rwL, List.set_cons_succ, List.set_cons_zero]
  rw [bo_upd, wr_upd, wr_row σ i v (show 0 ≠ 2 by decide), wr_row σ i v (show 1 ≠ 2 by decide), wr_row σ i v (show 3 ≠ 2 by decide), wr_row σ i v (show 4 ≠ 2 by decide), rF_ne (by decide) (by decide)]
theorem rw_set0 {a : Nat → Nat} {cA : Nat → ClassId} {σ : Mem} {i : Nat} {v : Int32} : (rwL a cA σ).set 4 (a 4, .inl (cA 3, 256, .inl (upd (σ 0) i v))) = rwL a cA (wr σ 0 i v) := by
  simp only [rwL, List.set_cons_succ, List.set_cons_zero]
  rw [wr_upd, wr_row σ i v (show 1 ≠ 0 by decide), wr_row σ i v (show 2 ≠ 0 by decide), wr_row σ i v (show 3 ≠ 0 by decide), wr_row σ i v (show 4 ≠ 0 by decide), rF_ne (by decide) (by decide)]
theorem rw_set1 {a : Nat → Nat} {cA : Nat → ClassId} {σ : Mem} {i : Nat} {v : Int32} : (rwL a cA σ).set 5 (a 5, .inl (cA 4, 128, .inl (upd (fun j => bo (σ 1 j)) i (vp_nar .boolean v)))) = rwL a cA (wr σ 1 i v) := by
  simp only [rwL, List.set_cons_succ, List.set_cons_zero]
  rw [bo_upd, wr_upd, wr_row σ i v (show 0 ≠ 1 by decide), wr_row σ i v (show 2 ≠ 1 by decide), wr_row σ i v (show 3 ≠ 1 by decide), wr_row σ i v (show 4 ≠ 1 by decide), rF_ne (by decide) (by decide)]
