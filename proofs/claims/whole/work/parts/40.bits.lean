-- bits and numbers. The first rows are a family of kit/laws/BITS.to-paste (starting text)
def bt (x : Int32) (i : Nat) : Bool := x.toBitVec.getLsbD i
theorem b_ext {x y : Int32} (h : ∀ i, i < 32 → bt x i = bt y i) : x = y := Int32.toBitVec_inj.mp (BitVec.eq_of_getLsbD_eq (fun i hi => h i hi))
theorem b_or (x y : Int32) (i : Nat) : bt (x ||| y) i = (bt x i || bt y i) := by unfold bt; rw [Int32.toBitVec_or, BitVec.getLsbD_or]
theorem b_and (x y : Int32) (i : Nat) : bt (x &&& y) i = (bt x i && bt y i) := by unfold bt; rw [Int32.toBitVec_and, BitVec.getLsbD_and]
theorem b_xor (x y : Int32) (i : Nat) : bt (x ^^^ y) i = (bt x i ^^ bt y i) := by unfold bt; rw [Int32.toBitVec_xor, BitVec.getLsbD_xor]
theorem b_m1 : ∀ i, i < 32 → bt (-1) i = true := by decide +kernel
theorem b_0 (i : Nat) : bt 0 i = false := BitVec.getLsbD_zero
theorem s_l : ∀ n, n < 32 → ((nI n &&& 31).toBitVec.smod 32).toNat = n := by decide +kernel
theorem s_u : ∀ n, n < 32 → (((nI n).toUInt32 &&& Int32.toUInt32 31).toBitVec % 32).toNat = n := by decide +kernel
theorem b_ushr (n : Nat) (hn : n < 32) (x : Int32) (i : Nat) : bt ((x.toUInt32 >>> ((nI n).toUInt32 &&& Int32.toUInt32 31)).toInt32) i = bt x (n + i) := by
  show (x.toUInt32 >>> ((nI n).toUInt32 &&& Int32.toUInt32 31)).toBitVec.getLsbD i = x.toUInt32.toBitVec.getLsbD (n + i)
  rw [UInt32.toBitVec_shiftRight]
  show (x.toUInt32.toBitVec >>> (((nI n).toUInt32 &&& Int32.toUInt32 31).toBitVec % 32).toNat).getLsbD i = _
  rw [s_u n hn, BitVec.getLsbD_ushiftRight]
theorem b_sshr (n : Nat) (hn : n < 32) (x : Int32) {i : Nat} (hi : i < 32) : bt (x >>> (nI n &&& 31)) i = if n + i < 32 then bt x (n + i) else bt x 31 := by
  unfold bt
  rw [Int32.toBitVec_shiftRight]
  show (x.toBitVec.sshiftRight ((nI n &&& 31).toBitVec.smod 32).toNat).getLsbD i = _
  rw [s_l n hn, BitVec.getLsbD_sshiftRight, BitVec.msb_eq_getLsbD_last]
  simp [hi]
/-- a field of some bits: the signed and the unsigned shift give the same -/
theorem fs_eq (x mask : Int32) {k w : Nat} (hk : k < 32) (hm : ∀ i, i < 32 → bt mask i = decide (i < w)) (hkw : k + w ≤ 32) : (x >>> (nI k &&& 31)) &&& mask = ((x.toUInt32 >>> ((nI k).toUInt32 &&& Int32.toUInt32 31)).toInt32) &&& mask := by
  refine b_ext fun i hi => ?_
  rw [b_and, b_and, b_sshr k hk x hi, b_ushr k hk x i, hm i hi]
  by_cases h : i < w
  · rw [if_pos (by omega)]
  · simp [h]
theorem fu_eq (x mask : Int32) {k w : Nat} (hk : k < 32) (hm : mask.toBitVec.toNat = 2 ^ w - 1) : ((x.toUInt32 >>> ((nI k).toUInt32 &&& Int32.toUInt32 31)).toInt32) &&& mask = nI (x.toBitVec.toNat / 2 ^ k % 2 ^ w) := by
  rw [pk_and _ w hm, pk_ushr x (nI k) k (s_u k hk)]
/-- the fields of a meta word -/
def fE (m : Int32) : Nat := m.toBitVec.toNat / 2 ^ 12 % 2 ^ 5
def fB (m : Int32) : Nat := m.toBitVec.toNat / 2 ^ 17 % 2 ^ 7
def fT (m : Int32) : Nat := m.toBitVec.toNat / 2 ^ 24 % 2 ^ 7
def fY (m : Int32) : Nat := m.toBitVec.toNat / 2 ^ 8 % 2 ^ 4
theorem fE_lt (m : Int32) : fE m < 32 := Nat.mod_lt _ (by decide)
theorem fB_lt (m : Int32) : fB m < 128 := Nat.mod_lt _ (by decide)
theorem fT_lt (m : Int32) : fT m < 128 := Nat.mod_lt _ (by decide)
theorem fY_lt (m : Int32) : fY m < 16 := Nat.mod_lt _ (by decide)
theorem uE (m : Int32) : ((m.toUInt32 >>> ((12 : Int32).toUInt32 &&& Int32.toUInt32 31)).toInt32) &&& 31 = nI (fE m) := fu_eq m 31 (k := 12) (w := 5) (by decide) (by decide)
theorem uB (m : Int32) : ((m.toUInt32 >>> ((17 : Int32).toUInt32 &&& Int32.toUInt32 31)).toInt32) &&& 127 = nI (fB m) := fu_eq m 127 (k := 17) (w := 7) (by decide) (by decide)
theorem uT (m : Int32) : ((m.toUInt32 >>> ((24 : Int32).toUInt32 &&& Int32.toUInt32 31)).toInt32) &&& 127 = nI (fT m) := fu_eq m 127 (k := 24) (w := 7) (by decide) (by decide)
theorem uY (m : Int32) : ((m.toUInt32 >>> ((8 : Int32).toUInt32 &&& Int32.toUInt32 31)).toInt32) &&& 15 = nI (fY m) := fu_eq m 15 (k := 8) (w := 4) (by decide) (by decide)
theorem sE (m : Int32) : (m >>> ((12 : Int32) &&& 31)) &&& 31 = nI (fE m) := (fs_eq m 31 (k := 12) (w := 5) (by decide) (by decide +kernel) (by decide)).trans (uE m)
theorem sB (m : Int32) : (m >>> ((17 : Int32) &&& 31)) &&& 127 = nI (fB m) := (fs_eq m 127 (k := 17) (w := 7) (by decide) (by decide +kernel) (by decide)).trans (uB m)
theorem sT (m : Int32) : (m >>> ((24 : Int32) &&& 31)) &&& 127 = nI (fT m) := (fs_eq m 127 (k := 24) (w := 7) (by decide) (by decide +kernel) (by decide)).trans (uT m)
theorem sY (m : Int32) : (m >>> ((8 : Int32) &&& 31)) &&& 15 = nI (fY m) := (fs_eq m 15 (k := 8) (w := 4) (by decide) (by decide +kernel) (by decide)).trans (uY m)
-- Int64 by its whole number
def lZ (z : Int) : Int64 := Int64.ofInt z
theorem lZ_add (a b : Int) : lZ a + lZ b = lZ (a + b) := (Int64.ofInt_add a b).symm
theorem lZ_sub (a b : Int) : lZ a - lZ b = lZ (a - b) := (Int64.ofInt_sub a b).symm
theorem lZ_mul (a b : Int) : lZ a * lZ b = lZ (a * b) := (Int64.ofInt_mul a b).symm
theorem lN_Z (n : Nat) : lN n = lZ (n : Int) := rfl
theorem lZ_t {z : Int} (h1 : -9223372036854775808 ≤ z) (h2 : z < 9223372036854775808) : (lZ z).toInt = z := by
  unfold lZ
  rw [Int64.toInt_ofInt]
  show z.bmod 18446744073709551616 = z
  exact Int.bmod_eq_of_le (by omega) (by omega)
theorem sm_64 : ∀ k, k < 32 → (((nI k).toInt64 &&& 63).toBitVec.smod 64).toNat = k := by decide +kernel
theorem shl_mul (x : Int64) {k : Nat} (hk : k < 32) : x <<< ((nI k).toInt64 &&& 63) = x * lN (2 ^ k) := by
  apply Int64.toBitVec_inj.mp
  rw [Int64.toBitVec_shiftLeft, Int64.toBitVec_mul]
  show x.toBitVec <<< (((nI k).toInt64 &&& 63).toBitVec.smod 64).toNat = x.toBitVec * BitVec.ofNat 64 (2 ^ k)
  rw [sm_64 k hk]
  apply BitVec.eq_of_toNat_eq
  rw [BitVec.toNat_shiftLeft, BitVec.toNat_mul, BitVec.toNat_ofNat, Nat.shiftLeft_eq, Nat.mul_mod_mod]
theorem shr_div {A k : Nat} (hk : k < 32) (hA : A < 2 ^ 62) : lN A >>> ((nI k).toInt64 &&& 63) = lN (A / 2 ^ k) := by
  have hd : A / 2 ^ k ≤ A := Nat.div_le_self _ _
  apply Int64.toInt_inj.mp
  have e : (lN A >>> ((nI k).toInt64 &&& 63)).toInt = (lN A).toInt >>> (((nI k).toInt64 &&& 63).toBitVec.smod 64).toNat := BitVec.toInt_sshiftRight ..
  rw [e, sm_64 k hk, Int.shiftRight_eq_div_pow, pk_lT (by omega), pk_lT (by omega)]
  rfl
theorem and127 (z : Int) : lZ z &&& 127 = lZ (z % 128) := by
  apply Int64.toBitVec_inj.mp
  rw [Int64.toBitVec_and]
  show BitVec.ofInt 64 z &&& (127#64) = BitVec.ofInt 64 (z % 128)
  apply BitVec.eq_of_toNat_eq
  rw [BitVec.toNat_and, BitVec.toNat_ofInt, BitVec.toNat_ofInt]
  have e : (127#64).toNat = 2 ^ 7 - 1 := by decide
  rw [e, Nat.and_two_pow_sub_one_eq_mod]
  have e2 : ((2 ^ 64 : Nat) : Int) = 18446744073709551616 := by decide
  rw [e2]
  omega
theorem ti_64 {n : Nat} (h : n < 2 ^ 31) : (nI n).toInt64 = lZ (n : Int) := (nI_l h).trans (lN_Z n)
theorem ti_16 : ∀ w : Nat, w < 128 → (nI w - 16).toInt64 = lZ ((w : Int) - 16) := by decide +kernel
theorem i127 {T B : Nat} (hT : T < 128) (hB : B < 128) : (nI T - nI B + 16) &&& 127 = nI ((((T : Int) - (B : Int) + 16) % 128).toNat) := by
  rw [pk_and _ (m := 127) 7 (by decide)]
  congr 1
  show ((nI T).toBitVec - (nI B).toBitVec + (16 : Int32).toBitVec).toNat % 2 ^ 7 = _
  have e : (16 : Int32).toBitVec.toNat = 16 := by decide
  rw [BitVec.toNat_add, BitVec.toNat_sub, pk_tn (by omega), pk_tn (by omega), e]
  omega
theorem rest_z {p q : Int} (hq : 0 < q) (hq2 : q < 4611686018427387904) (hp : -4611686018427387904 < p) (hp2 : p < 4611686018427387904) : p_M_rest (lZ p) (lZ q) = lZ (p % q) := by
  have hpq := Int.mul_tdiv_add_tmod p q
  have hlt : p.tmod q < q ∧ -q < p.tmod q := by
    have h1 := Int.tmod_lt_of_pos p hq
    have h2 := Int.lt_tmod_of_pos p hq
    omega
  have hd : lZ p / lZ q = lZ (p.tdiv q) := by
    apply Int64.toInt_inj.mp
    rw [Int64.toInt_div, lZ_t (by omega) (by omega), lZ_t (by omega) (by omega)]
    unfold lZ
    rw [Int64.toInt_ofInt]
  have hr : lZ p - lZ p / lZ q * lZ q = lZ (p.tmod q) := by
    rw [hd, lZ_mul, lZ_sub]
    congr 1
    have := Int.mul_comm (p.tdiv q) q
    omega
  unfold p_M_rest
  rw [hr, lZ_add]
  have e0 : (0 : Int64) = lZ 0 := rfl
  by_cases h0 : 0 ≤ p.tmod q
  · rw [if_pos]
    · congr 1
      have e1 : p = p.tmod q + q * p.tdiv q := by omega
      have e2 : p % q = p.tmod q := by
        conv => lhs; rw [e1]
        rw [Int.add_mul_emod_self_left, Int.emod_eq_of_lt (by omega) (by omega)]
      rw [e2]
    · rw [lg_cmp_ge, e0, Int64.le_iff_toInt_le, lZ_t (by omega) (by omega), lZ_t (by omega) (by omega)]
      exact h0
  · rw [if_neg]
    · congr 1
      have e1 : p = (p.tmod q + q) + q * (p.tdiv q - 1) := by
        rw [Int.mul_sub, Int.mul_one]
        omega
      have e2 : p % q = p.tmod q + q := by
        conv => lhs; rw [e1]
        rw [Int.add_mul_emod_self_left, Int.emod_eq_of_lt (by omega) (by omega)]
      rw [e2]
    · rw [lg_cmp_ge, e0, Int64.le_iff_toInt_le, lZ_t (by omega) (by omega), lZ_t (by omega) (by omega)]
      exact h0
