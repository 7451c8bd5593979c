-- operations, the rest
section OPS4
variable {σ τ : Mem} {d s t i : Int32}
theorem of_z {r q n x : Int32} : (p_M_of r (p_M_check τ r q n x) = 0) = (p_M_check τ r q n x = 0) := propext ⟨of_ck, fun z => by rw [z]; rfl⟩
theorem wt_sim (h : Sm σ τ) (hd : vp_in d 12) (hs : vp_in s 12) (y : Int32) : Sm (p_X_writeWithType σ d s.toNatClampNeg y) (p_M_put (p_M_typed (p_M_take τ s) ((p_M_take τ s) 6 1) y) d) := by
  obtain ⟨h1, h2⟩ := take_sim h hs
  have hm : (p_K_copy σ 12 s.toNatClampNeg) 3 12 = (p_M_take τ s) 6 1 := congrArg (fun c : Cap => c.2.1) h2
  obtain ⟨h3, h4⟩ := meta_sim h1 h2 (tyw ((p_M_take τ s) 6 1) y)
  have e : p_X_writeWithType σ d s.toNatClampNeg y = p_X_writeMade (wr (p_K_copy σ 12 s.toNatClampNeg) 3 12 (tyw ((p_M_take τ s) 6 1) y)) d := by rw [← hm]; rfl
  rw [e]
  exact made_sim h3 h4 hd
theorem op_23 (h : Sm σ τ) (hd : vp_in d 12) (hs : vp_in s 12) (ht : vp_in t 12) : OpS σ τ 23 d s t i := by
  have s12 := (d_cases hs).2.2
  have t12 := (d_cases ht).2.2
  have hc := ck_sim h (r := t) (q := 32) (n := 1) (x := τ 4 t.toNatClampNeg) (k := 0) t12 (by decide) (by decide) (by decide) (by decide)
  have e0 : p_M_trapOf τ 23 s t i = p_M_sealing τ 1 s t (τ 4 t.toNatClampNeg) := rfl
  have et : p_M_trapOf τ 23 s t i = if bo (τ 2 s.toNatClampNeg) = 0 then p_X_trapOf s 1 else if p_M_type (τ 3 s.toNatClampNeg) = 0 then (if p_M_check τ t 32 1 (τ 4 t.toNatClampNeg) = 0 then (if τ 4 t.toNatClampNeg < 2 then p_X_trapOf t 7 else if τ 4 t.toNatClampNeg ≤ 15 then 0 else p_X_trapOf t 7) else p_M_of t (p_M_check τ t 32 1 (τ 4 t.toNatClampNeg))) else p_X_trapOf s 2 := by
    rw [e0]
    unfold p_M_sealing
    rw [if_neg (show ¬ (1 : Int32) = 0 by decide)]
    have e15 : ((15 : Int32) < τ 4 t.toNatClampNeg) = ¬ (τ 4 t.toNatClampNeg ≤ 15) := by
      rw [Int32.lt_iff_toInt_lt, Int32.le_iff_toInt_le]
      apply propext
      omega
    simp only [e15, ite_not]
    rfl
  have ej : p_X_seal σ d s t = if bo (τ 2 s.toNatClampNeg) = 0 then (p_X_trapOf s 1, σ) else if p_M_type (τ 3 s.toNatClampNeg) = 0 then (if p_M_check τ t 32 1 (τ 4 t.toNatClampNeg) = 0 then (if τ 4 t.toNatClampNeg < 2 then (p_X_trapOf t 7, σ) else if τ 4 t.toNatClampNeg ≤ 15 then (0, p_X_writeWithType σ d s.toNatClampNeg (τ 4 t.toNatClampNeg)) else (p_X_trapOf t 7, σ)) else (p_M_of t (p_M_check τ t 32 1 (τ 4 t.toNatClampNeg)), σ)) else (p_X_trapOf s 2, σ) := by
    unfold p_X_seal
    dsimp only
    simp only [se_is, h.t s12, h.m s12, h.a t12, hc, of_z]
  have ee : p_exe σ 23 d s t i = (if (p_X_seal σ d s t).1 = 0 then p_X_branch (p_X_seal σ d s t).2 1 else p_X_seal σ d s t) := rfl
  have er : p_act τ 23 d s t i = p_M_go (p_M_put (p_M_typed (p_M_take τ s) ((p_M_take τ s) 6 1) (τ 4 t.toNatClampNeg)) d) 4 := rfl
  have dead : ∀ v : Int32, ¬ v = 0 → p_X_seal σ d s t = (v, σ) → p_M_trapOf τ 23 s t i = v → OpS σ τ 23 d s t i := by
    intro v hv h1 h2
    unfold OpS
    rw [h2, ee, h1]
    exact ⟨fun z => absurd z hv, fun _ => if_neg hv⟩
  by_cases c1 : bo (τ 2 s.toNatClampNeg) = 0
  · rw [if_pos c1] at et ej
    exact dead _ (tr_ne s (k := 1) (by decide) (by decide)) ej et
  rw [if_neg c1] at et ej
  by_cases c2 : p_M_type (τ 3 s.toNatClampNeg) = 0
  · rw [if_pos c2] at et ej
    by_cases c3 : p_M_check τ t 32 1 (τ 4 t.toNatClampNeg) = 0
    · rw [if_pos c3] at et ej
      by_cases c4 : τ 4 t.toNatClampNeg < 2
      · rw [if_pos c4] at et ej
        exact dead _ (tr_ne t (k := 7) (by decide) (by decide)) ej et
      rw [if_neg c4] at et ej
      by_cases c5 : τ 4 t.toNatClampNeg ≤ 15
      · rw [if_pos c5] at et ej
        unfold OpS
        rw [et, ee, ej, er]
        exact ⟨fun _ => br1 (wt_sim h hd hs _), fun z => absurd rfl z⟩
      · rw [if_neg c5] at et ej
        exact dead _ (tr_ne t (k := 7) (by decide) (by decide)) ej et
    · rw [if_neg c3] at et ej
      exact dead _ (fun z => c3 (of_ck z)) ej et
  · rw [if_neg c2] at et ej
    exact dead _ (tr_ne s (k := 2) (by decide) (by decide)) ej et
theorem op_24 (h : Sm σ τ) (hd : vp_in d 12) (hs : vp_in s 12) (ht : vp_in t 12) : OpS σ τ 24 d s t i := by
  have s12 := (d_cases hs).2.2
  have t12 := (d_cases ht).2.2
  have hc := ck_sim h (r := t) (q := 64) (n := 1) (x := τ 4 t.toNatClampNeg) (k := 0) t12 (by decide) (by decide) (by decide) (by decide)
  have e0 : p_M_trapOf τ 24 s t i = p_M_sealing τ 0 s t (τ 4 t.toNatClampNeg) := rfl
  have et : p_M_trapOf τ 24 s t i = if bo (τ 2 s.toNatClampNeg) = 0 then p_X_trapOf s 1 else if (p_M_type (τ 3 s.toNatClampNeg) = 0 ∨ p_M_type (τ 3 s.toNatClampNeg) = 1) then p_X_trapOf s 2 else (if p_M_check τ t 64 1 (τ 4 t.toNatClampNeg) = 0 then (if τ 4 t.toNatClampNeg = p_M_type (τ 3 s.toNatClampNeg) then 0 else p_X_trapOf t 7) else p_M_of t (p_M_check τ t 64 1 (τ 4 t.toNatClampNeg))) := by
    rw [e0]
    unfold p_M_sealing
    rw [if_pos rfl]
    simp only [ty_2, ite_not]
    rfl
  have ej : p_X_unseal σ d s t = if bo (τ 2 s.toNatClampNeg) = 0 then (p_X_trapOf s 1, σ) else if (p_M_type (τ 3 s.toNatClampNeg) = 0 ∨ p_M_type (τ 3 s.toNatClampNeg) = 1) then (p_X_trapOf s 2, σ) else (if p_M_check τ t 64 1 (τ 4 t.toNatClampNeg) = 0 then (if τ 4 t.toNatClampNeg = p_M_type (τ 3 s.toNatClampNeg) then (0, p_X_writeWithType σ d s.toNatClampNeg 0) else (p_X_trapOf t 7, σ)) else (p_M_of t (p_M_check τ t 64 1 (τ 4 t.toNatClampNeg)), σ)) := by
    unfold p_X_unseal
    dsimp only
    simp only [se_is, ty_eq, h.t s12, h.m s12, h.a t12, hc, of_z]
    by_cases c1 : p_M_type (τ 3 s.toNatClampNeg) = 0
    · simp only [c1, if_true, true_or]
    · simp only [c1, if_false, false_or]
  have ee : p_exe σ 24 d s t i = (if (p_X_unseal σ d s t).1 = 0 then p_X_branch (p_X_unseal σ d s t).2 1 else p_X_unseal σ d s t) := rfl
  have er : p_act τ 24 d s t i = p_M_go (p_M_put (p_M_typed (p_M_take τ s) ((p_M_take τ s) 6 1) 0) d) 4 := rfl
  have dead : ∀ v : Int32, ¬ v = 0 → p_X_unseal σ d s t = (v, σ) → p_M_trapOf τ 24 s t i = v → OpS σ τ 24 d s t i := by
    intro v hv h1 h2
    unfold OpS
    rw [h2, ee, h1]
    exact ⟨fun z => absurd z hv, fun _ => if_neg hv⟩
  by_cases c1 : bo (τ 2 s.toNatClampNeg) = 0
  · rw [if_pos c1] at et ej
    exact dead _ (tr_ne s (k := 1) (by decide) (by decide)) ej et
  rw [if_neg c1] at et ej
  by_cases c2 : p_M_type (τ 3 s.toNatClampNeg) = 0 ∨ p_M_type (τ 3 s.toNatClampNeg) = 1
  · rw [if_pos c2] at et ej
    exact dead _ (tr_ne s (k := 2) (by decide) (by decide)) ej et
  rw [if_neg c2] at et ej
  by_cases c3 : p_M_check τ t 64 1 (τ 4 t.toNatClampNeg) = 0
  · rw [if_pos c3] at et ej
    by_cases c4 : τ 4 t.toNatClampNeg = p_M_type (τ 3 s.toNatClampNeg)
    · rw [if_pos c4] at et ej
      unfold OpS
      rw [et, ee, ej, er]
      exact ⟨fun _ => br1 (wt_sim h hd hs _), fun z => absurd rfl z⟩
    · rw [if_neg c4] at et ej
      exact dead _ (tr_ne t (k := 7) (by decide) (by decide)) ej et
  · rw [if_neg c3] at et ej
    exact dead _ (fun z => c3 (of_ck z)) ej et
theorem tell_eq (h : Sm σ τ) {r : Int32} (hr : r.toNatClampNeg ≠ 12) (n : Int32) : p_X_tell σ r.toNatClampNeg n = p_M_told τ r n := by
  unfold p_X_tell p_M_told p_K_permissions
  simp only [low_eq, up_eq, ty_eq, h.t hr, h.m hr, h.a hr]
theorem op_25 (h : Sm σ τ) (hd : vp_in d 12) (hs : vp_in s 12) : OpS σ τ 25 d s t i := by
  have s12 := (d_cases hs).2.2
  have h1 : Sm σ (p_M_take τ s) := ⟨by rw [take_bs]; exact h.1, fun j hj => by rw [take_gc]; exact h.2 j hj⟩
  have e : p_X_tell σ s.toNatClampNeg i = p_M_told (p_M_take τ s) s i := tell_eq h1 s12 i
  refine stp_go (σ' := p_X_writeNumber σ d (p_X_tell σ s.toNatClampNeg i)) (τ' := p_M_put (p_M_number (p_M_take τ s) (p_M_told (p_M_take τ s) s i)) d) rfl rfl rfl ?_
  rw [e]
  exact num_sim h1 hd _
theorem pm_eq (m1 m2 : Int32) : ((m1 &&& 255) &&& (m2 &&& 255) = m2 &&& 255) = ((m2 &&& 255) &&& (m1 ^^^ (-1)) = 0) := by
  apply propext
  constructor
  · intro h
    refine b_ext fun i hi => ?_
    have h2 : bt ((m1 &&& 255) &&& (m2 &&& 255)) i = bt (m2 &&& 255) i := by rw [h]
    simp only [b_and, b_xor, b_m1 i hi, b_0] at h2 ⊢
    revert h2
    cases bt m1 i <;> cases bt m2 i <;> cases bt 255 i <;> simp
  · intro h
    refine b_ext fun i hi => ?_
    have h2 : bt ((m2 &&& 255) &&& (m1 ^^^ (-1))) i = bt 0 i := by rw [h]
    simp only [b_and, b_xor, b_m1 i hi, b_0] at h2 ⊢
    revert h2
    cases bt m1 i <;> cases bt m2 i <;> cases bt 255 i <;> simp
/-- whether S may build T: one word for both sides -/
def mB (τ : Mem) (a b : Nat) : Int32 :=
  if bo (τ 2 a) = 0 then 0 else if p_M_type (τ 3 a) = 0 then (if p_M_type (τ 3 b) = 0 then (if p_M_baseOf (τ 3 b) (τ 4 b) < p_M_baseOf (τ 3 a) (τ 4 a) then 0 else if p_M_topOf (τ 3 b) (τ 4 b) < p_M_baseOf (τ 3 b) (τ 4 b) then 0 else if p_M_topOf (τ 3 a) (τ 4 a) < p_M_topOf (τ 3 b) (τ 4 b) then 0 else if (τ 3 b &&& 255) &&& (τ 3 a ^^^ (-1)) = 0 then 1 else 0) else 0) else 0
theorem may_is (σ : Mem) (a b : Nat) : p_X_mayBuild σ a b = mB σ a b := by
  have hp : (p_K_permits σ a (p_K_permissions σ b) = 0) = ¬ ((σ 3 b &&& 255) &&& (σ 3 a ^^^ (-1)) = 0) := by
    rw [← pm_eq]
    unfold p_K_permits p_K_permissions
    apply propext
    split
    · rename_i z; exact ⟨fun y => absurd y (by decide), fun y => absurd z y⟩
    · rename_i z; exact ⟨fun _ => z, fun _ => rfl⟩
  unfold p_X_mayBuild mB
  simp only [se_is, low_eq, up_eq, lg_cmp_lt, lg_cmp_gt, hp, ite_not]
set_option maxHeartbeats 4000000 in
theorem build_is (τ : Mem) (a b : Int32) : p_M_build τ a b = wr (p_M_take τ b) 6 2 (mB τ a.toNatClampNeg b.toNatClampNeg) := by
  unfold p_M_build mB
  dsimp only
  simp only [lg_cmp_lt, lg_cmp_gt]
  by_cases c1 : bo (τ 2 a.toNatClampNeg) = 0 <;> by_cases c2 : p_M_type (τ 3 a.toNatClampNeg) = 0 <;> by_cases c3 : p_M_type (τ 3 b.toNatClampNeg) = 0 <;> by_cases c4 : p_M_baseOf (τ 3 b.toNatClampNeg) (τ 4 b.toNatClampNeg) < p_M_baseOf (τ 3 a.toNatClampNeg) (τ 4 a.toNatClampNeg) <;> by_cases c5 : p_M_topOf (τ 3 b.toNatClampNeg) (τ 4 b.toNatClampNeg) < p_M_baseOf (τ 3 b.toNatClampNeg) (τ 4 b.toNatClampNeg) <;> by_cases c6 : p_M_topOf (τ 3 a.toNatClampNeg) (τ 4 a.toNatClampNeg) < p_M_topOf (τ 3 b.toNatClampNeg) (τ 4 b.toNatClampNeg) <;> by_cases c7 : (τ 3 b.toNatClampNeg &&& 255) &&& (τ 3 a.toNatClampNeg ^^^ (-1)) = 0 <;> simp only [c1, c2, c3, c4, c5, c6, c7, if_true, if_false]
end OPS4
