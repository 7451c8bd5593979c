-- a unit is never 0
theorem un_e (m : Int32) : ∃ j : Nat, j < 32 ∧ (m >>> ((12 : Int32) &&& 31)) &&& 31 = nI j := pk_andE _ (m := 31) 5 (by decide)
theorem un_sh : ∀ j : Nat, j < 32 → (1 : Int64) <<< ((nI j).toInt64 &&& 63) = lN (2 ^ j) := by decide
theorem un_is (m : Int32) : ∃ j : Nat, j < 32 ∧ (m >>> ((12 : Int32) &&& 31)) &&& 31 = nI j ∧ p_M_unit m = lN (2 ^ j) := by
  obtain ⟨j, hj, e⟩ := un_e m
  exact ⟨j, hj, e, by unfold p_M_unit; rw [e]; exact un_sh j hj⟩
theorem un_nz : ∀ j : Nat, j < 32 → ¬ lN (2 ^ j) = 0 := by decide
theorem un_nz2 : ∀ j : Nat, j < 32 → ¬ (128 : Int64) * lN (2 ^ j) = 0 := by decide
theorem u_ne (m : Int32) : ¬ p_M_unit m = 0 := by
  obtain ⟨j, hj, -, e⟩ := un_is m
  rw [e]
  exact un_nz j hj
theorem u_128 (m : Int32) : ¬ (128 : Int64) * p_M_unit m = 0 := by
  obtain ⟨j, hj, -, e⟩ := un_is m
  rw [e]
  exact un_nz2 j hj
