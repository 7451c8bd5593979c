-- to bound: the core's way and the reference's
theorem up_n {T k : Nat} (hk : k < 32) (hT : T < 2 ^ 40) : p_K_unitsUp (lN T) (nI k) = lN ((T + 2 ^ k - 1) / 2 ^ k) := by
  obtain ⟨h1, h2⟩ := pw_le hk
  unfold p_K_unitsUp
  rw [un_sh k hk, lN_add, show (1 : Int64) = lN 1 from rfl, lN_sub (by omega), shr_div hk (by omega)]
theorem upM_n {T k : Nat} (hk : k < 32) (hT : T < 2 ^ 40) : ((lN T + (1 : Int64) <<< ((nI k).toInt64 &&& 63)) - 1) / ((1 : Int64) <<< ((nI k).toInt64 &&& 63)) = lN ((T + 2 ^ k - 1) / 2 ^ k) := by
  obtain ⟨h1, h2⟩ := pw_le hk
  rw [un_sh k hk, lN_add, show (1 : Int64) = lN 1 from rfl, lN_sub (by omega), pk_lDiv (by omega) (by omega) (by omega)]
theorem dn_n {F k : Nat} (hk : k < 32) (hF : F < 2 ^ 40) : lN F / ((1 : Int64) <<< ((nI k).toInt64 &&& 63)) = lN (F / 2 ^ k) := by
  obtain ⟨h1, h2⟩ := pw_le hk
  rw [un_sh k hk, pk_lDiv (by omega) (by omega) (by omega)]
theorem bE_M {F T : Nat} (hF : F < 2 ^ 40) (hT : T < 2 ^ 40) : ∀ n k : Nat, k < 32 → bE (lN F) (lN T) n (nI k) = bM (lN F) (lN T) n (nI k) ∧ ∃ j : Nat, j < 32 ∧ bM (lN F) (lN T) n (nI k) = nI j := by
  intro n
  induction n with
  | zero => intro k hk; exact ⟨rfl, k, hk, rfl⟩
  | succ n ih =>
    intro k hk
    unfold bE bM
    rw [up_n hk hT, shr_div hk (by omega), upM_n hk hT, dn_n hk hF]
    by_cases h1 : (31 : Int32) ≤ nI k
    · rw [if_pos h1, if_pos h1]
      exact ⟨rfl, k, hk, rfl⟩
    · rw [if_neg h1, if_neg h1]
      have hk31 : k ≠ 31 := fun z => h1 (by rw [z]; decide)
      split
      · exact ⟨rfl, k, hk, rfl⟩
      · rw [← nI_succ]
        exact ih (k + 1) (by omega)
theorem n127 (n : Nat) : nI n &&& 127 = nI (n % 128) := by
  rw [pk_and _ (m := 127) 7 (by decide)]
  congr 1
  show (BitVec.ofNat 32 n).toNat % 2 ^ 7 = n % 128
  rw [BitVec.toNat_ofNat]
  omega
theorem bd_eq (m : Int32) {F T : Nat} (hF : F < 2 ^ 40) (hT : T < 2 ^ 40) : ((((m &&& (4095 : Int32)) ||| (((bE (lN F) (lN T) 32 0) <<< ((12 : Int32) &&& 31)) : Int32)) ||| (((((lN F >>> (((bE (lN F) (lN T) 32 0)).toInt64 &&& 63))).toInt32 &&& (127 : Int32)) <<< ((17 : Int32) &&& 31)) : Int32)) ||| (((((p_K_unitsUp (lN T) (bE (lN F) (lN T) 32 0))).toInt32 &&& (127 : Int32)) <<< ((24 : Int32) &&& 31)) : Int32)) = p_M_bounded m (lN F) (lN T) := by
  obtain ⟨e1, j, hj, e2⟩ := bE_M hF hT 32 0 (by decide)
  have e1 : bE (lN F) (lN T) 32 0 = bM (lN F) (lN T) 32 0 := e1
  have e2 : bM (lN F) (lN T) 32 0 = nI j := e2
  obtain ⟨h1, h2⟩ := pw_le hj
  unfold p_M_bounded
  rw [e1, e2, up_n hj hT, shr_div hj (by omega), upM_n hj hT, dn_n hj hF]
  have d1 : F / 2 ^ j ≤ F := Nat.div_le_self _ _
  have d2 : (T + 2 ^ j - 1) / 2 ^ j ≤ T + 2 ^ j - 1 := Nat.div_le_self _ _
  rw [show (128 : Int64) = lN 128 from rfl, pk_lRem (by omega) (by decide) (by decide), pk_lRem (by omega) (by decide) (by decide), lN_i, lN_i, lN_i, lN_i, n127, n127]
theorem bound_eq (σ : Mem) (i : Nat) {F T : Nat} (hF : F < 2 ^ 40) (hT : T < 2 ^ 40) : p_K_bound σ i (lN F) (lN T) = wr σ 3 i (p_M_bounded (σ 3 i) (lN F) (lN T)) := by
  rw [← bd_eq (σ 3 i) hF hT]
  rfl
