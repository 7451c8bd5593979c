-- what an answer 0 of the reference's check says of the address
theorem unM (x : Int32) : p_M_unsigned x = lN x.toBitVec.toNat := by
  unfold p_M_unsigned
  have hx := x.toBitVec.isLt
  split
  · rename_i h
    obtain ⟨j, hj, rfl⟩ := nI_of (x := x) (fun z => by rw [Int32.le_iff_toInt_le] at h; rw [Int32.lt_iff_toInt_lt] at z; omega)
    rw [pk_tn (by omega)]
    exact nI_l hj
  · rename_i h
    apply Int64.toInt_inj.mp
    have h1 : x.toInt < 0 := by rw [Int32.le_iff_toInt_le] at h; have e0 : (0 : Int32).toInt = 0 := by decide
                                omega
    have h2 : x.toInt = (x.toBitVec.toNat : Int) - 4294967296 := by
      have e := BitVec.toInt_eq_toNat_cond x.toBitVec
      have e1 : x.toInt = x.toBitVec.toInt := rfl
      rw [← e1] at e
      split at e <;> omega
    rw [pk_lT (by omega), Int64.toInt_add, Int32.toInt_toInt64]
    have e3 : (4294967296 : Int64).toInt = 4294967296 := by decide
    rw [e3, h2]
    rw [Int.bmod_eq_of_le (by omega) (by omega)]
    omega
theorem mk_0 {σ : Mem} {r q n x : Int32} (h : p_M_check σ r q n x = 0) : p_M_unsigned x + n.toInt64 ≤ 1024 := by
  unfold p_M_check at h
  split at h
  · exact absurd h (by decide)
  split at h
  · split at h
    · exact absurd h (by decide)
    split at h
    · split at h
      · exact absurd h (by decide)
      split at h
      · split at h
        · rename_i h6
          exact (lg_cmp_le _ _).mp h6
        · exact absurd h (by decide)
      · exact absurd h (by decide)
    · exact absurd h (by decide)
  · exact absurd h (by decide)
theorem mk_n {x n : Int32} (k : Nat) (hn : n.toInt64 = lN k) (hk : k < 1024) (h : p_M_unsigned x + n.toInt64 ≤ 1024) : x.toBitVec.toNat + k ≤ 1024 := by
  rw [unM, hn, lN_add] at h
  have hx := x.toBitVec.isLt
  exact (pk_lLE (a := x.toBitVec.toNat + k) (b := 1024) (by omega) (by decide)).mp h
theorem mk_4 {σ : Mem} {r q x : Int32} (h : p_M_check σ r q 4 x = 0) : x.toBitVec.toNat + 4 ≤ 1024 := mk_n 4 (by decide) (by decide) (mk_0 h)
theorem mk_8 {σ : Mem} {r q x : Int32} (h : p_M_check σ r q 8 x = 0) : x.toBitVec.toNat + 8 ≤ 1024 := mk_n 8 (by decide) (by decide) (mk_0 h)
theorem dv_4 {x : Int32} (h : x.toBitVec.toNat < 2 ^ 31) : x / 4 = nI (x.toBitVec.toNat / 4) := by
  have e := pk_div (a := x.toBitVec.toNat) (d := 4) h (by decide) (by decide)
  rw [nI_self] at e
  exact e
theorem dv_8 {x : Int32} (h : x.toBitVec.toNat < 2 ^ 31) : x / 8 = nI (x.toBitVec.toNat / 8) := by
  have e := pk_div (a := x.toBitVec.toNat) (d := 8) h (by decide) (by decide)
  rw [nI_self] at e
  exact e
theorem ix_m4 {σ : Mem} {r q x : Int32} (h : p_M_check σ r q 4 x = 0) : vp_in (x / 4) 256 := by
  have := mk_4 h
  rw [dv_4 (by omega)]
  exact vp_in_nI (by omega) (by decide)
theorem ck_6 (σ : Mem) (r q n x : Int32) : ∃ k : Nat, k < 7 ∧ p_M_check σ r q n x = nI k := by
  unfold p_M_check
  repeat' split
  · exact ⟨1, by decide, rfl⟩
  · exact ⟨3, by decide, rfl⟩
  · exact ⟨5, by decide, rfl⟩
  · exact ⟨0, by decide, rfl⟩
  · exact ⟨6, by decide, rfl⟩
  · exact ⟨5, by decide, rfl⟩
  · exact ⟨4, by decide, rfl⟩
  · exact ⟨2, by decide, rfl⟩
theorem of_0 {r : Int32} {k : Nat} (hk : k < 16) (h : p_M_of r (nI k) = 0) : k = 0 := by
  unfold p_M_of at h
  split at h
  · rename_i h1
    exact (nI_eq (b := 0) (by omega) (by decide)).mp h1
  · exfalso
    rename_i h1
    have h0 : k ≠ 0 := fun z => h1 (by rw [z]; rfl)
    have e2 : (nI k + 16 * r).toBitVec.toNat = (0 : Int32).toBitVec.toNat := by rw [h]
    have e3 : (nI k + 16 * r).toBitVec = (nI k).toBitVec + (16 : Int32).toBitVec * r.toBitVec := rfl
    have e4 : (16 : Int32).toBitVec.toNat = 16 := by decide
    have e5 : (0 : Int32).toBitVec.toNat = 0 := by decide
    rw [e3, BitVec.toNat_add, BitVec.toNat_mul, e4, e5, pk_tn (by omega)] at e2
    omega
theorem of_ck {σ : Mem} {r q n x : Int32} (h : p_M_of r (p_M_check σ r q n x) = 0) : p_M_check σ r q n x = 0 := by
  obtain ⟨k, hk, e⟩ := ck_6 σ r q n x
  rw [e] at h ⊢
  rw [of_0 (by omega) h]
  rfl
/-- where no trap comes before an access, the address is in memory -/
theorem acc_n {σ : Mem} {op r t i : Int32} (h : p_M_trapOf σ op r t i = 0) (h1 : (11 : Int32) ≤ op) (h2 : ¬ (15 : Int32) ≤ op) : (σ 4 r.toNatClampNeg + i).toBitVec.toNat + 4 ≤ 1024 ∧ (¬ op = 11 → ¬ op = 12 → (σ 4 r.toNatClampNeg + i).toBitVec.toNat + 8 ≤ 1024) := by
  unfold p_M_trapOf at h
  split at h
  · rename_i e
    exact ⟨mk_4 (of_ck h), fun z => absurd e z⟩
  split at h
  · have := mk_8 (of_ck h)
    exact ⟨by omega, fun _ _ => this⟩
  split at h
  · rename_i e
    exact ⟨mk_4 (of_ck h), fun _ z => absurd e z⟩
  split at h
  · split at h
    · have := mk_8 (of_ck h)
      exact ⟨by omega, fun _ _ => this⟩
    · have := mk_8 (of_ck h)
      exact ⟨by omega, fun _ _ => this⟩
  · exfalso
    rename_i n11 n13 n12 n14
    rw [Int32.le_iff_toInt_le] at h1 h2
    have e11 : (11 : Int32).toInt = 11 := by decide
    have e15 : (15 : Int32).toInt = 15 := by decide
    have a1 := lv_neT n11 (a := 11) (by decide)
    have a2 := lv_neT n12 (a := 12) (by decide)
    have a3 := lv_neT n13 (a := 13) (by decide)
    have a4 := lv_neT n14 (a := 14) (by decide)
    omega
theorem ix_acc1 {σ : Mem} {op r t i : Int32} (h : p_M_trapOf σ op r t i = 0) (h1 : (11 : Int32) ≤ op) (h2 : ¬ (15 : Int32) ≤ op) : vp_in ((σ 4 r.toNatClampNeg + i) / 4) 256 := by
  have a := (acc_n h h1 h2).1
  rw [dv_4 (by omega)]
  exact vp_in_nI (by omega) (by decide)
theorem ix_acc2 {σ : Mem} {op r t i : Int32} (h : p_M_trapOf σ op r t i = 0) (h1 : (11 : Int32) ≤ op) (h2 : ¬ (15 : Int32) ≤ op) : vp_in ((σ 4 r.toNatClampNeg + i) / 8) 128 := by
  have a := (acc_n h h1 h2).1
  rw [dv_8 (by omega)]
  exact vp_in_nI (by omega) (by decide)
theorem ix_acc3 {σ : Mem} {op r t i : Int32} (h : p_M_trapOf σ op r t i = 0) (h1 : (11 : Int32) ≤ op) (h2 : ¬ (15 : Int32) ≤ op) : ¬ op = 11 → ¬ op = 12 → vp_in ((σ 4 r.toNatClampNeg + i) / 4 + 1) 256 := by
  intro z1 z2
  have a := (acc_n h h1 h2).2 z1 z2
  rw [dv_4 (by omega)]
  show vp_in (nI _ + nI 1) 256
  rw [nI_add]
  exact vp_in_nI (by omega) (by decide)
theorem ix_rule {σ : Mem} {w r t i : Int32} (h : p_M_trapOf σ (w &&& 31) r t i = 0) (h1 : (29 : Int32) ≤ (w &&& 31)) : ¬ (w &&& 31) = 31 → vp_in (9 + i) 12 := by
  obtain ⟨k, hk, e⟩ := pk_andE w (m := 31) 5 (by decide)
  rw [e] at h h1 ⊢
  have hk : k < 32 := hk
  have h29 : 29 ≤ k := (nI_leI (a := 29) (by decide) (by omega)).mp h1
  intro h31
  have n31 : k ≠ 31 := fun z => h31 (by rw [z]; rfl)
  have hne : ∀ j : Nat, j < 29 → ¬ nI k = nI j := fun j hj z => by
    have := (nI_eq (a := k) (b := j) (by omega) (by omega)).mp z
    omega
  unfold p_M_trapOf at h
  rw [if_neg (show ¬ nI k = (11 : Int32) from hne 11 (by decide)), if_neg (show ¬ nI k = (13 : Int32) from hne 13 (by decide)), if_neg (show ¬ nI k = (12 : Int32) from hne 12 (by decide)), if_neg (show ¬ nI k = (14 : Int32) from hne 14 (by decide)), if_neg (show ¬ nI k = (18 : Int32) from hne 18 (by decide)), if_neg (show ¬ nI k = (23 : Int32) from hne 23 (by decide)), if_neg (show ¬ nI k = (24 : Int32) from hne 24 (by decide))] at h
  split at h
  · split at h
    · exact absurd (of_0 (k := 3) (by decide) h) (by decide)
    split at h
    · exact absurd (of_0 (k := 8) (by decide) h) (by decide)
    split at h
    · rename_i a b
      exact ix_swap a b
    · exact absurd (of_0 (k := 8) (by decide) h) (by decide)
  · rename_i n29
    have n29 : k ≠ 29 := fun z => n29 (by rw [z]; rfl)
    have e30 : k = 30 := by omega
    subst e30
    exact absurd h (by decide)
theorem ix_mreg {x : Int32} (h : ¬ p_M_isRegister x = 0) : vp_in x 12 := by
  unfold p_M_isRegister at h
  split at h
  · exact absurd rfl h
  split at h
  · exact absurd rfl h
  · rename_i h1 h2
    refine ix_lt12 h1 (fun z => h2 ?_)
    rw [Int32.le_iff_toInt_le] at z
    rw [Int32.lt_iff_toInt_lt]
    have e11 : (11 : Int32).toInt = 11 := by decide
    have e12 : (12 : Int32).toInt = 12 := by decide
    omega
