def rL_M (n1 : Int32) : Nat → Int32 → Mem → Int32 × Mem
  | 0, d, τ => (d, τ)
  | n + 1, d, τ => if n1 ≤ d then (d, τ) else if (τ 5 0) = (0 : Int32) then rL_M n1 n (d + 1) (p_M_step τ) else (d, τ)
def p_M_run (σ : Mem) (n1 : Int32) : Int32 × Mem :=
  if n1 < (0 : Int32) then ((-1 : Int32), σ) else if n1 ≤ (100 : Int32) then rL_M n1 101 0 σ else ((-1 : Int32), σ)
set_option maxHeartbeats 4000000 in
set_option maxRecDepth 100000 in
theorem m_M_run {l : Launch} {D : va_G} {a : Nat → Nat} {cA : Nat → ClassId} {B0 : Nat → Prop} {σ : Mem} {n1 : Int32} : cI l y_M_run (.code y_M_run c_M_run 3 (some FieldType.int) :: TG) (rmO 7 184) D (rwL a cA) (rty cA) B0 [.ref (a 0), .int n1] σ (p_M_run σ n1) := by
  refine cI_of (by decide) (Nat.le_of_ble_eq_true rfl) ?_
  intro p e s m args below meth c Q ls hx hb hF hl hs hret
  have hl : lv_has ls 3 [(0, .ref (a 0)), (1, .int n1)] := hl
  have J : ∀ (N : Nat), (n1 = nI N ∧ N ≤ 100) → p_M_run σ n1 = rL_M n1 101 0 σ → ∀ (n k : Nat) (τ : Mem), (k ≤ N ∧ N < k + n) → rL_M n1 n (nI k) τ = rL_M n1 101 0 σ → ∀ (H : Heap) (locs : List Loc) (ls : Array Slot), sS D (rwL a cA) B0 s τ H locs → lv_has ls 3 [(2, .int (nI k)), (0, .ref (a 0)), (1, .int n1)] → W p l e (rmO 7 184) s m args below meth c H locs 0 0 Q (F0 m 14 ls []) := by
    intro N hN hp
    have fin : ∀ (x : Int32) (τ : Mem) (H : Heap) (locs : List Loc) (ls : Array Slot), rL_M n1 101 0 σ = (x, τ) → sS D (rwL a cA) B0 s τ H locs → lv_has ls 3 [(2, .int x), (0, .ref (a 0)), (1, .int n1)] → W p l e (rmO 7 184) s m args below meth c H locs 0 0 Q (F0 m 36 ls []) := by
      intro x τ H locs ls he hs hl
      refine lv_iload_n hx hb d_M_run_36 rfl (lv_at hl 0 rfl) ?_
      refine hret _ _ _ _ _ _ hs ?_ d_M_run_37
      exact hp.trans he
    intro n
    induction n with
    | zero => intro k τ hk; omega
    | succ n ih =>
      intro k τ hk he H locs ls hs hl
      refine lv_iload_n hx hb d_M_run_14 rfl (lv_at hl 0 rfl) ?_
      refine lv_iload_n hx hb d_M_run_15 rfl (lv_at hl 2 rfl) ?_
      refine lv_icmp_ge (tgt := 36) hx hb d_M_run_16 (by decide) (fun h1 => ?_) (fun h1 => ?_)
      · exact fin _ _ _ _ _ (he.symm.trans ((if_pos h1).trans rfl)) hs hl
      · refine lv_aload_n hx hb d_M_run_19 rfl (lv_at hl 1 rfl) ?_
        refine xg_M hx hb hF hs 5 (by decide) k_fl_M_113 rfl d_M_run_20 ?_
        refine lv_if_ne (tgt := 36) hx hb d_M_run_23 (by decide) (fun h2 => ?_) (fun h2 => ?_)
        · exact fin _ _ _ _ _ (he.symm.trans ((if_neg h1).trans ((if_neg h2).trans rfl))) hs hl
        · refine lv_aload_n hx hb d_M_run_26 rfl (lv_at hl 1 rfl) ?_
          refine x_Vv hF hs v_M_step k_ml_M_157 (m_M_step) rfl rfl ⟨by decide, by decide⟩ rfl rfl hl.1 (Nat.le_of_ble_eq_true rfl) rM d_M_run_27 ⟨Nat.zero_le _, Nat.zero_le _⟩ (fun H locs hs => ?_)
          refine lv_iinc (k := 0) (v := (nI (k + 1))) (lv' := [(2, _), (0, _), (1, _)]) hx hb d_M_run_30 hl rfl (by rw [nI_succ]; rfl) (by decide) rfl (fun ls hl => ?_)
          refine lv_goto (tgt := 14) hx hb d_M_run_33 (by decide) ?_
          exact ih (k + 1) _ (run_up hN hk h1) (by rw [nI_succ]; exact (Eq.symm ((if_neg h1).trans ((if_pos h2).trans rfl))).trans he) _ _ _ hs hl
  refine lv_iload_n hx hb d_M_run_0 rfl (lv_at hl 1 rfl) ?_
  refine lv_if_lt (tgt := 10) hx hb d_M_run_1 (by decide) (fun h1 => ?_) (fun h1 => ?_)
  · refine lv_iconst (v := (-1)) hx hb d_M_run_10 (by decide) ?_
    refine hret _ _ _ _ _ _ hs ?_ d_M_run_11
    exact (if_pos h1).trans rfl
  · refine lv_iload_n hx hb d_M_run_4 rfl (lv_at hl 1 rfl) ?_
    refine lv_bipush (v := 100) hx hb d_M_run_5 (by decide) ?_
    refine lv_icmp_le (tgt := 12) hx hb d_M_run_7 (by decide) (fun h2 => ?_) (fun h2 => ?_)
    · refine lv_iconst (v := 0) hx hb d_M_run_12 (by decide) ?_
      refine lv_istore_n (lv' := [(2, _), (0, _), (1, _)]) hx hb d_M_run_13 rfl hl (by decide) rfl (fun ls hl => ?_)
      obtain ⟨N, hN⟩ := run_of h1 h2
      exact J N hN ((if_neg h1).trans ((if_pos h2).trans rfl)) 101 0 σ ⟨Nat.zero_le _, by omega⟩ rfl _ _ _ hs hl
    · refine lv_iconst (v := (-1)) hx hb d_M_run_10 (by decide) ?_
      refine hret _ _ _ _ _ _ hs ?_ d_M_run_11
      exact (if_neg h1).trans ((if_neg h2).trans rfl)
