-- places in range
theorem sh_up {k n : Nat} (h : k < 32 ∧ 31 < k + (n + 1)) (h1 : ¬ (31 : Int32) ≤ nI k) : k + 1 < 32 ∧ 31 < k + 1 + n := by
  have : k ≠ 31 := fun z => h1 (by rw [z]; decide)
  omega
theorem ix_and7 (x : Int32) : vp_in (x &&& 7) 12 := in_mono (n := 2 ^ 3) (by decide) (pk_andIn x (m := 7) 3 (by decide) (by decide))
theorem ix_half {x : Int32} (h : vp_in x 256) : vp_in (x >>> ((1 : Int32) &&& 31)) 128 := by
  obtain ⟨j, hj, rfl⟩ := vp_in_of h (by decide)
  rw [pk_shrN (by omega) _ 1 (by decide)]
  exact vp_in_nI (by omega) (by decide)
theorem ix_swap {x : Int32} (h0 : ¬ x < 0) (h2 : x ≤ 2) : vp_in (9 + x) 12 := by
  obtain ⟨j, hj, rfl⟩ := nI_of2 (M := 2) (n := 2) (by decide) h0 h2
  show vp_in (nI 9 + nI j) 12
  rw [nI_add]
  exact vp_in_nI (by omega) (by decide)
theorem ix_lt128 {x : Int32} (h0 : ¬ x < 0) (h : ¬ (128 : Int32) ≤ x) : vp_in x 128 := by
  rcases pk_ix x (n := 128) (by decide) with h1 | h1 | ⟨j, hj, rfl⟩
  · exact absurd h1 h0
  · exact absurd h1 h
  · exact vp_in_nI hj (by decide)
theorem ix_lt256 {x : Int32} (h0 : ¬ x < 0) (h : ¬ (256 : Int32) ≤ x) : vp_in x 256 := by
  rcases pk_ix x (n := 256) (by decide) with h1 | h1 | ⟨j, hj, rfl⟩
  · exact absurd h1 h0
  · exact absurd h1 h
  · exact vp_in_nI hj (by decide)
theorem ix_lt12 {x : Int32} (h0 : ¬ x < 0) (h : ¬ (12 : Int32) ≤ x) : vp_in x 12 := by
  rcases pk_ix x (n := 12) (by decide) with h1 | h1 | ⟨j, hj, rfl⟩
  · exact absurd h1 h0
  · exact absurd h1 h
  · exact vp_in_nI hj (by decide)
theorem ix_le255 {x : Int32} (h0 : ¬ x < 0) (h : x ≤ (255 : Int32)) : vp_in x 256 := by
  obtain ⟨j, hj, rfl⟩ := nI_of2 (M := 255) (n := 255) (by decide) h0 h
  exact vp_in_nI (by omega) (by decide)
theorem ix_div2 {x : Int32} (h0 : ¬ x < 0) (h : x ≤ (255 : Int32)) : vp_in (x / 2) 128 := by
  obtain ⟨j, hj, rfl⟩ := nI_of2 (M := 255) (n := 255) (by decide) h0 h
  show vp_in (nI j / nI 2) 128
  rw [pk_div (by omega) (by decide) (by decide)]
  exact vp_in_nI (by omega) (by decide)
theorem ix_give {x : Int32} (h0 : ¬ x < (1 : Int32)) (h : x < (8 : Int32)) : vp_in x 12 := by
  rw [vp_in_iff]
  rw [Int32.lt_iff_toInt_lt] at h0 h
  have e1 : (1 : Int32).toInt = 1 := by decide
  have e8 : (8 : Int32).toInt = 8 := by decide
  omega
theorem ix_give7 {x : Int32} (h0 : ¬ x < (1 : Int32)) (h : x ≤ (7 : Int32)) : vp_in x 12 := by
  rw [vp_in_iff]
  rw [Int32.lt_iff_toInt_lt] at h0
  rw [Int32.le_iff_toInt_le] at h
  have e1 : (1 : Int32).toInt = 1 := by decide
  have e8 : (7 : Int32).toInt = 7 := by decide
  omega
-- an int read unsigned
theorem un_l (x : Int32) : x.toInt64 &&& 4294967295 = lN x.toBitVec.toNat := by
  apply Int64.toBitVec_inj.mp
  show x.toInt64.toBitVec &&& (4294967295 : Int64).toBitVec = (Int64.ofNat x.toBitVec.toNat).toBitVec
  have e1 : x.toInt64.toBitVec = x.toBitVec.signExtend 64 := rfl
  have e2 : (Int64.ofNat x.toBitVec.toNat).toBitVec = BitVec.ofNat 64 x.toBitVec.toNat := rfl
  have e3 : (4294967295 : Int64).toBitVec = BitVec.ofNat 64 (2 ^ 32 - 1) := by decide
  rw [e1, e2, e3]
  apply BitVec.eq_of_getLsbD_eq
  intro i hi
  have hx := x.toBitVec.isLt
  rw [BitVec.getLsbD_and, BitVec.getLsbD_signExtend, BitVec.getLsbD_ofNat, BitVec.getLsbD_ofNat, Nat.testBit_two_pow_sub_one]
  by_cases h : i < 32
  · simp [h, hi, BitVec.getLsbD]
  · simp [h, hi]
    exact Nat.testBit_lt_two_pow (Nat.lt_of_lt_of_le hx (Nat.pow_le_pow_right (by decide) (by omega)))
theorem nI_self (x : Int32) : nI x.toBitVec.toNat = x := by
  apply Int32.toBitVec_inj.mp
  show BitVec.ofNat 32 x.toBitVec.toNat = x.toBitVec
  apply BitVec.eq_of_toNat_eq
  rw [BitVec.toNat_ofNat]
  exact Nat.mod_eq_of_lt x.toBitVec.isLt
