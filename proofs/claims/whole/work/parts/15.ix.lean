-- what an answer 0 of check says of the address
theorem tr_ne (r : Int32) {k : Nat} (h0 : 0 < k) (h : k < 16) : ¬ p_X_trapOf r (nI k) = 0 := by
  unfold p_X_trapOf
  intro e
  have e2 : (nI k + 16 * r).toBitVec.toNat = (0 : Int32).toBitVec.toNat := by rw [e]
  have e3 : (nI k + 16 * r).toBitVec = (nI k).toBitVec + (16 : Int32).toBitVec * r.toBitVec := rfl
  have e4 : (16 : Int32).toBitVec.toNat = 16 := by decide
  have e5 : (0 : Int32).toBitVec.toNat = 0 := by decide
  rw [e3, BitVec.toNat_add, BitVec.toNat_mul, e4, e5, pk_tn (by omega)] at e2
  omega
theorem ck_0 {σ : Mem} {r q n x : Int32} (h : p_X_check σ r q n x = 0) : (x.toInt64 &&& 4294967295) + n.toInt64 ≤ 1024 := by
  unfold p_X_check at h
  split at h
  · exact absurd h (tr_ne r (k := 1) (by decide) (by decide))
  split at h
  · split at h
    · exact absurd h (tr_ne r (k := 3) (by decide) (by decide))
    split at h
    · split at h
      · exact absurd h (tr_ne r (k := 5) (by decide) (by decide))
      split at h
      · split at h
        · rename_i h6
          exact (lg_cmp_le _ _).mp h6
        · exact absurd h (tr_ne r (k := 6) (by decide) (by decide))
      · exact absurd h (tr_ne r (k := 5) (by decide) (by decide))
    · exact absurd h (tr_ne r (k := 4) (by decide) (by decide))
  · exact absurd h (tr_ne r (k := 2) (by decide) (by decide))
theorem ck_n {x n : Int32} (k : Nat) (hn : n.toInt64 = lN k) (hk : k < 1024) (h : (x.toInt64 &&& 4294967295) + n.toInt64 ≤ 1024) : x.toBitVec.toNat + k ≤ 1024 := by
  rw [un_l, hn, lN_add] at h
  have hx := x.toBitVec.isLt
  exact (pk_lLE (a := x.toBitVec.toNat + k) (b := 1024) (by omega) (by decide)).mp h
theorem ck_4 {σ : Mem} {r q x : Int32} (h : p_X_check σ r q 4 x = 0) : x.toBitVec.toNat + 4 ≤ 1024 := ck_n 4 (by decide) (by decide) (ck_0 h)
theorem ck_8 {σ : Mem} {r q x : Int32} (h : p_X_check σ r q 8 x = 0) : x.toBitVec.toNat + 8 ≤ 1024 := ck_n 8 (by decide) (by decide) (ck_0 h)
theorem us_2 (x : Int32) : (x.toUInt32 >>> ((2 : Int32).toUInt32 &&& Int32.toUInt32 31)).toInt32 = nI (x.toBitVec.toNat / 4) := by
  have h := pk_ushrN (n := x.toBitVec.toNat) x.toBitVec.isLt 2 2 (by decide)
  rw [nI_self] at h
  exact h
theorem us_3 (x : Int32) : (x.toUInt32 >>> ((3 : Int32).toUInt32 &&& Int32.toUInt32 31)).toInt32 = nI (x.toBitVec.toNat / 8) := by
  have h := pk_ushrN (n := x.toBitVec.toNat) x.toBitVec.isLt 3 3 (by decide)
  rw [nI_self] at h
  exact h
theorem ix_c4 {σ : Mem} {r q x : Int32} (h : p_X_check σ r q 4 x = 0) : vp_in ((x.toUInt32 >>> ((2 : Int32).toUInt32 &&& Int32.toUInt32 31)).toInt32) 256 := by
  have := ck_4 h
  rw [us_2]
  exact vp_in_nI (by omega) (by decide)
theorem ix_c8g {σ : Mem} {r q x : Int32} (h : p_X_check σ r q 8 x = 0) : vp_in ((x.toUInt32 >>> ((3 : Int32).toUInt32 &&& Int32.toUInt32 31)).toInt32) 128 := by
  have := ck_8 h
  rw [us_3]
  exact vp_in_nI (by omega) (by decide)
theorem ix_c8a {σ : Mem} {r q x : Int32} (h : p_X_check σ r q 8 x = 0) : vp_in (2 * (x.toUInt32 >>> ((3 : Int32).toUInt32 &&& Int32.toUInt32 31)).toInt32) 256 := by
  have := ck_8 h
  rw [us_3]
  show vp_in (nI 2 * nI _) 256
  rw [pk_mul]
  exact vp_in_nI (by omega) (by decide)
theorem ix_c8b {σ : Mem} {r q x : Int32} (h : p_X_check σ r q 8 x = 0) : vp_in (2 * (x.toUInt32 >>> ((3 : Int32).toUInt32 &&& Int32.toUInt32 31)).toInt32 + 1) 256 := by
  have := ck_8 h
  rw [us_3]
  show vp_in (nI 2 * nI _ + nI 1) 256
  rw [pk_mul, nI_add]
  exact vp_in_nI (by omega) (by decide)
theorem ix_word {x : Int32} (h : ¬ p_X_isWord x = 0) : vp_in x 256 := by
  unfold p_X_isWord at h
  split at h
  · exact absurd rfl h
  split at h
  · exact absurd rfl h
  · rename_i h1 h2
    exact ix_lt256 h1 h2
theorem ix_reg {x : Int32} (h : ¬ p_X_isRegister x = 0) : vp_in x 12 := by
  unfold p_X_isRegister at h
  split at h
  · exact absurd rfl h
  split at h
  · exact absurd rfl h
  · rename_i h1 h2
    exact ix_lt12 h1 h2
theorem bo_X_mayBuild (σ : Mem) (i j : Nat) : bo (p_X_mayBuild σ i j) = p_X_mayBuild σ i j := by
  unfold p_X_mayBuild
  repeat' split
  all_goals first | exact bo_0 | exact bo_1
