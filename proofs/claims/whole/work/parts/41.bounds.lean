-- the bounds of a capability: the core's way and the reference's give the same
theorem pw_le {j : Nat} (h : j < 32) : 1 ≤ 2 ^ j ∧ 2 ^ j ≤ 2147483648 := ⟨Nat.one_le_two_pow, Nat.le_trans (Nat.pow_le_pow_right (by decide) (Nat.le_of_lt_succ h)) (by decide)⟩
/-- the window's start in units, and the base and the top, as whole numbers; A: the address, u: the unit -/
def wS (A B u : Nat) : Int := ((A / u : Nat) : Int) - ((((A / u : Nat) : Int) - (B : Int) + 16) % 128)
def zL (A B u : Nat) : Int := (wS A B u + 16) * (u : Int)
def zU (A B T u : Nat) : Int := (wS A B u + (((T : Int) - (B : Int) + 16) % 128)) * (u : Int)
theorem low_z (σ : Mem) (i : Nat) : p_K_lowerBound σ i = lZ (zL (σ 4 i).toBitVec.toNat (fB (σ 3 i)) (2 ^ fE (σ 3 i))) := by
  have hA := (σ 4 i).toBitVec.isLt
  unfold p_K_lowerBound
  rw [uE, uB, un_l, shr_div (fE_lt _) (by omega), ti_64 (by have := fB_lt (σ 3 i); omega)]
  rw [lN_Z, lZ_sub, show (16 : Int64) = lZ 16 from rfl, lZ_add, and127, lZ_sub, lZ_add, shl_mul _ (fE_lt _), lN_Z, lZ_mul]
  rfl
theorem un_16 {w : Int} (h0 : 0 ≤ w) (h : w < 128) : (nI w.toNat - 16).toInt64 = lZ (w - 16) := by
  rw [ti_16 _ (by omega)]
  congr 1
  omega
theorem up_z (σ : Mem) (i : Nat) : p_K_upperBound σ i = lZ (zU (σ 4 i).toBitVec.toNat (fB (σ 3 i)) (fT (σ 3 i)) (2 ^ fE (σ 3 i))) := by
  unfold p_K_upperBound
  rw [low_z, uE, uB, uT, i127 (fT_lt _) (fB_lt _), un_16 (Int.emod_nonneg _ (by decide)) (Int.emod_lt_of_pos _ (by decide)), shl_mul _ (fE_lt _), lN_Z, lZ_mul, lZ_add]
  congr 1
  unfold zL zU
  rw [← Int.add_mul]
  congr 1
  omega
section BD
variable {m x : Int32}
theorem win_z (m x : Int32) : p_M_window m x = lZ ((2 ^ fE m : Nat) * wS x.toBitVec.toNat (fB m) (2 ^ fE m)) := by
  have hA := x.toBitVec.isLt
  obtain ⟨hu1, hu2⟩ := pw_le (fE_lt m)
  have hB := fB_lt m
  have hU : p_M_unit m = lN (2 ^ fE m) := by unfold p_M_unit; rw [sE]; exact un_sh _ (fE_lt m)
  unfold p_M_window
  rw [hU, unM, sB, pk_lDiv (by omega) (by omega) (by omega), lN_mul, ti_16 _ hB]
  generalize hu : 2 ^ fE m = u at *
  have h1 : x.toBitVec.toNat / u * u ≤ x.toBitVec.toNat := Nat.div_mul_le_self _ _
  generalize ha : x.toBitVec.toNat / u = a at *
  rw [lN_Z, lN_Z, lZ_mul, lZ_sub, show (128 : Int64) = lZ 128 from rfl, lZ_mul]
  have e1 : ((a * u : Nat) : Int) - ((fB m : Int) - 16) * (u : Int) = (u : Int) * ((a : Int) - (fB m : Int) + 16) := by
    rw [Int.mul_add, Int.mul_sub, Int.sub_mul, Int.mul_comm (u : Int) (a : Int), Int.mul_comm (u : Int) (fB m : Int)]
    push_cast
    omega
  have e2 : (128 : Int) * (u : Int) = (u : Int) * 128 := Int.mul_comm _ _
  have hBu : fB m * u ≤ 127 * u := Nat.mul_le_mul_right _ (by omega)
  have b1 : ((fB m : Int) - 16) * (u : Int) = ((fB m * u : Nat) : Int) - 16 * (u : Int) := by
    rw [Int.sub_mul]; push_cast; rfl
  rw [rest_z (by omega) (by omega) (by rw [b1]; omega) (by rw [b1]; omega), e1, e2, Int.mul_emod_mul_of_pos _ _ (by omega), lZ_sub]
  congr 1
  unfold wS
  rw [ha, Int.mul_sub]
  push_cast
  rw [Int.mul_comm (a : Int) (u : Int)]
end BD
theorem base_z (m x : Int32) : p_M_baseOf m x = lZ (zL x.toBitVec.toNat (fB m) (2 ^ fE m)) := by
  have hA := x.toBitVec.isLt
  obtain ⟨hu1, hu2⟩ := pw_le (fE_lt m)
  have hB := fB_lt m
  have hU : p_M_unit m = lN (2 ^ fE m) := by unfold p_M_unit; rw [sE]; exact un_sh _ (fE_lt m)
  unfold p_M_baseOf
  rw [win_z, hU, sB, ti_64 (by omega), lN_Z, show (128 : Int64) = lZ 128 from rfl, lZ_mul, lZ_mul, lZ_sub]
  generalize hu : 2 ^ fE m = u at *
  have h1 : x.toBitVec.toNat / u * u ≤ x.toBitVec.toNat := Nat.div_mul_le_self _ _
  have hw : wS x.toBitVec.toNat (fB m) u = ((x.toBitVec.toNat / u : Nat) : Int) - ((((x.toBitVec.toNat / u : Nat) : Int) - (fB m : Int) + 16) % 128) := rfl
  unfold zL
  generalize wS x.toBitVec.toNat (fB m) u = w at *
  generalize x.toBitVec.toNat / u = a at *
  have hc : ((fB m : Int) - w) % 128 = 16 := by omega
  have hwr : -128 ≤ w ∧ w ≤ a := by omega
  have e1 : (fB m : Int) * (u : Int) - (u : Int) * w = (u : Int) * ((fB m : Int) - w) := by
    rw [Int.mul_sub, Int.mul_comm (u : Int) (fB m : Int)]
  have e2 : (128 : Int) * (u : Int) = (u : Int) * 128 := Int.mul_comm _ _
  have hBu : fB m * u ≤ 127 * u := Nat.mul_le_mul_right _ (by omega)
  have hBu2 : (fB m : Int) * (u : Int) = ((fB m * u : Nat) : Int) := by push_cast; rfl
  have k1 : (u : Int) * w ≤ (u : Int) * (a : Int) := Int.mul_le_mul_of_nonneg_left hwr.2 (by omega)
  have k2 : (u : Int) * (-128) ≤ (u : Int) * w := Int.mul_le_mul_of_nonneg_left hwr.1 (by omega)
  have k3 : (u : Int) * (a : Int) = ((a * u : Nat) : Int) := by push_cast; exact Int.mul_comm _ _
  rw [rest_z (by omega) (by omega) (by omega) (by omega), e1, e2, Int.mul_emod_mul_of_pos _ _ (by omega), hc, lZ_add]
  congr 1
  rw [Int.add_mul, Int.mul_comm w (u : Int), Int.mul_comm (u : Int) 16]
theorem top_z (m x : Int32) : p_M_topOf m x = lZ (zU x.toBitVec.toNat (fB m) (fT m) (2 ^ fE m)) := by
  have hA := x.toBitVec.isLt
  obtain ⟨hu1, hu2⟩ := pw_le (fE_lt m)
  have hB := fB_lt m
  have hT := fT_lt m
  have hU : p_M_unit m = lN (2 ^ fE m) := by unfold p_M_unit; rw [sE]; exact un_sh _ (fE_lt m)
  unfold p_M_topOf
  rw [win_z, hU, sT, ti_64 (by omega), lN_Z, show (128 : Int64) = lZ 128 from rfl, lZ_mul, lZ_mul, lZ_sub]
  generalize hu : 2 ^ fE m = u at *
  have h1 : x.toBitVec.toNat / u * u ≤ x.toBitVec.toNat := Nat.div_mul_le_self _ _
  have hw : wS x.toBitVec.toNat (fB m) u = ((x.toBitVec.toNat / u : Nat) : Int) - ((((x.toBitVec.toNat / u : Nat) : Int) - (fB m : Int) + 16) % 128) := rfl
  unfold zU
  generalize wS x.toBitVec.toNat (fB m) u = w at *
  generalize x.toBitVec.toNat / u = a at *
  have hc : ((fT m : Int) - w) % 128 = ((fT m : Int) - (fB m : Int) + 16) % 128 := by omega
  have hwr : -128 ≤ w ∧ w ≤ a := by omega
  have e1 : (fT m : Int) * (u : Int) - (u : Int) * w = (u : Int) * ((fT m : Int) - w) := by
    rw [Int.mul_sub, Int.mul_comm (u : Int) (fT m : Int)]
  have e2 : (128 : Int) * (u : Int) = (u : Int) * 128 := Int.mul_comm _ _
  have hBu : fT m * u ≤ 127 * u := Nat.mul_le_mul_right _ (by omega)
  have hBu2 : (fT m : Int) * (u : Int) = ((fT m * u : Nat) : Int) := by push_cast; rfl
  have k1 : (u : Int) * w ≤ (u : Int) * (a : Int) := Int.mul_le_mul_of_nonneg_left hwr.2 (by omega)
  have k2 : (u : Int) * (-128) ≤ (u : Int) * w := Int.mul_le_mul_of_nonneg_left hwr.1 (by omega)
  have k3 : (u : Int) * (a : Int) = ((a * u : Nat) : Int) := by push_cast; exact Int.mul_comm _ _
  rw [rest_z (by omega) (by omega) (by omega) (by omega), e1, e2, Int.mul_emod_mul_of_pos _ _ (by omega), hc, lZ_add]
  congr 1
  rw [Int.add_mul, Int.mul_comm w (u : Int), Int.mul_comm (((fT m : Int) - (fB m : Int) + 16) % 128) (u : Int)]
theorem low_eq (σ : Mem) (i : Nat) : p_K_lowerBound σ i = p_M_baseOf (σ 3 i) (σ 4 i) := (low_z σ i).trans (base_z _ _).symm
theorem up_eq (σ : Mem) (i : Nat) : p_K_upperBound σ i = p_M_topOf (σ 3 i) (σ 4 i) := (up_z σ i).trans (top_z _ _).symm
theorem ty_eq (σ : Mem) (i : Nat) : p_K_type σ i = p_M_type (σ 3 i) := by
  unfold p_K_type p_M_type
  rw [uY, sY]
theorem ty_n (m : Int32) : p_M_type m = nI (fY m) := by
  unfold p_M_type
  exact sY m
