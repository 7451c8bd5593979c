/-- a new capability: its three fields as they come -/
abbrev k0 : va_E := .inr (0, [.int 0, .int 0, .int 0])
set_option maxHeartbeats 4000000 in
set_option maxRecDepth 100000 in
theorem m_K_init (l : Launch) (D : va_G) (h0 sz : Nat) : Met l y_K_init (.code y_K_init c_K_init 1 none :: TG) ({ frames := 1, cells := 0, slots := 0, locals := 12 }) (va_Pc [.ref h0] (fun U => U.heap.size = sz ∧ va_P D classes [(h0, k0)] U.heap ∧ va_K D classes [] U ∧ va_D (fun _ => True) [(h0, k0)])) (va_Qv (fun u : Nat => u = 0) (fun _ t => va_P D classes [(h0, k0)] t.heap ∧ va_D (va_A [(h0, k0)] sz) [(h0, k0)]) (va_A [(h0, k0)] sz)) 0 0 (va_A [(h0, k0)] sz) := by
  refine Met.ofW (cc := c_K_init) (maxL := 1) (ret := none) (by decide) rfl ?_
  intro p e s m args below meth c s₁ B hml hv
  obtain ⟨rfl, hsz, hP, hK, hD0⟩ := hv
  have hx := B.exec
  have hb := B.bytes
  have hr := B.returns
  have hts := atoms_spec (ws := .code y_K_init c_K_init 1 none :: TG) B.pre
  have hown : s.vm.findClass R_K = some m.cls := findClass_of_methodNamed B.named
  have hlocks := B.notSynchronized
  have hin : meth.name = "<init>" := (name_of_methodNamed B.named B.method).1
  subst hsz
  have hD := hD0.self (sz := s.heap.size)
  generalize hAe : va_A [(h0, k0)] s.heap.size = A at hD ⊢
  have hS : va_S A s.heap s.heap [] := va_S.rf
  have hl := lv_entry ([.ref h0]) (n := 1) (Nat.le_of_ble_eq_true rfl)
  rw [lg_entry_eq]
  generalize (lg_sl ([.ref h0]) ++ List.replicate (1 - (lg_sl ([.ref h0])).length) Slot.unset).toArray = ls at hl ⊢
  have hl : lv_has ls 1 [(0, .ref h0)] := hl
  refine lv_aload_n hx hb d_K_init_0 rfl (lv_at hl 0 rfl) ?_
  refine W.objInit hx hb hown (hts _ (List.mem_cons_of_mem _ k_ml_K_5)) (hts _ (List.mem_cons_of_mem _ k_im_O_init)) (hts _ (List.mem_cons_of_mem _ k_code_O_init)) rfl (by rw [hml]; exact hl.1) rfl d_K_init_1 (Nat.le_of_ble_eq_true rfl) (Nat.le_of_ble_eq_true rfl) ?_
  refine W.eq (g2 := F0 m 4 ls []) rfl ?_
  refine lv_aload_n hx hb d_K_init_4 rfl (lv_at hl 0 rfl) ?_
  refine lv_iconst (v := 0) hx hb d_K_init_5 (by decide) ?_
  refine va_put (D := D) (ci := 0) (v := .int 0) (ty := .boolean) (C := R_K) (T := F_K) (N := 3) hx hb hts (fun w hw => List.mem_cons_of_mem _ (u_K w hw)) t_K t_K_ok n_K hown hK hP hD hS 0 rfl rfl 0 (by decide) (hts _ (List.mem_cons_of_mem _ k_fl_K_11)) fKs rfl (by decide +kernel) (bo_nar bo_0) (bo_fit bo_0) (Nat.le_of_ble_eq_true rfl) d_K_init_6 (fun H locs hP hD hS => ?_)
  have hP : va_P D classes [(h0, k0)] H := hP
  have hD : va_D A [(h0, k0)] := hD
  refine lv_aload_n hx hb d_K_init_9 rfl (lv_at hl 0 rfl) ?_
  refine lv_iconst (v := 0) hx hb d_K_init_10 (by decide) ?_
  refine va_put (D := D) (ci := 0) (v := .int 0) (ty := .int) (C := R_K) (T := F_K) (N := 3) hx hb hts (fun w hw => List.mem_cons_of_mem _ (u_K w hw)) t_K t_K_ok n_K hown hK hP hD hS 0 rfl rfl 1 (by decide) (hts _ (List.mem_cons_of_mem _ k_fl_K_15)) fKs rfl (by decide +kernel) rfl rfl (Nat.le_of_ble_eq_true rfl) d_K_init_11 (fun H locs hP hD hS => ?_)
  have hP : va_P D classes [(h0, k0)] H := hP
  have hD : va_D A [(h0, k0)] := hD
  refine lv_aload_n hx hb d_K_init_14 rfl (lv_at hl 0 rfl) ?_
  refine lv_iconst (v := 0) hx hb d_K_init_15 (by decide) ?_
  refine va_put (D := D) (ci := 0) (v := .int 0) (ty := .int) (C := R_K) (T := F_K) (N := 3) hx hb hts (fun w hw => List.mem_cons_of_mem _ (u_K w hw)) t_K t_K_ok n_K hown hK hP hD hS 0 rfl rfl 2 (by decide) (hts _ (List.mem_cons_of_mem _ k_fl_K_19)) fKs rfl (by decide +kernel) rfl rfl (Nat.le_of_ble_eq_true rfl) d_K_init_16 (fun H locs hP hD hS => ?_)
  have hP : va_P D classes [(h0, k0)] H := hP
  have hD : va_D A [(h0, k0)] := hD
  exact W.vret hx hb hr (fun t ht hW => ⟨⟨0, rfl, rfl, by rw [ht]; exact hP, hD⟩, hS.F ht⟩) hS.2.2 d_K_init_19
def zm : Mem := fun _ _ => 0
theorem va_S.mono {A B : Nat → Prop} {H0 H : Heap} {locs : List Loc} (h : va_S A H0 H locs) (hAB : ∀ q, A q → B q) : va_S B H0 H locs := ⟨h.1, fun q h1 h2 => h.2.1 q h1 (fun z => h2 (hAB q z)), fun q hq => hAB _ (h.2.2 q hq)⟩
theorem arr_eq {c : ClassId} {n : Nat} {F G : Nat → Option Nat} (h : ∀ i, i < n → F i = G i) : vp_cell c (n, .inr (.inr (.inr (.inr F)))) = vp_cell c (n, .inr (.inr (.inr (.inr G)))) := by
  rw [vp_cell_q, vp_cell_q]
  unfold arrV
  congr 2
  funext j
  show va_rf (F j.val) = va_rf (G j.val)
  rw [h j.val j.isLt]
theorem va_P.fun3 {D : va_G} {cl : List vw_C} {ws : va_W} {H : Heap} {p q : Nat} {c : ClassId} {n : Nat} {F G : Nat → Option Nat} (hP : va_P D cl ws H) (hp : ws[p]? = some (q, .inl (c, n, .inr (.inr (.inr (.inr F)))))) (h : ∀ i, i < n → F i = G i) : va_P D cl (ws.set p (q, .inl (c, n, .inr (.inr (.inr (.inr G)))))) H := by
  have hl := (List.getElem?_eq_some_iff.mp hp).1
  intro k x hk
  by_cases hkp : k = p
  · subst hkp
    rw [List.getElem?_set_self hl] at hk
    cases hk
    have h1 := hP k _ hp
    show H[q]? = some (vp_cell c (n, .inr (.inr (.inr (.inr G)))))
    rw [← arr_eq h]
    exact h1
  · rw [List.getElem?_set_ne (Ne.symm hkp)] at hk
    exact hP k x hk
/-- the core's world before pcc is set -/
def cwN (a : Nat → Nat) (cA : Nat → ClassId) (σ : Mem) (v : Value) : va_W := (a 0, .inr (1, (cF a σ).set 3 v)) :: (cwL a cA σ).tail
theorem cwN_list (a : Nat → Nat) (cA : Nat → ClassId) : cwN a cA zm .null = [(a 0, .inr (1, [.ref (a 1), .ref (a 2), .ref (a 3), .null, .ref (a 16), .int 0, .int 0, .int 0, .int 0])), (a 1, .inl (cA 0, 256, .inl (fun _ => 0))), (a 2, .inl (cA 1, 128, .inl (fun _ => 0))), (a 3, .inl (cA 2, 12, .inr (.inr (.inr (.inr (fun i => some (a (4 + i)))))))), (a 4, k0), (a 5, k0), (a 6, k0), (a 7, k0), (a 8, k0), (a 9, k0), (a 10, k0), (a 11, k0), (a 12, k0), (a 13, k0), (a 14, k0), (a 15, k0), (a 16, k0)] := by
  have e0 : (zm 0) = fun _ => 0 := rfl
  have e1 : (fun i => bo (zm 1 i)) = fun _ => 0 := funext fun _ => bo_0
  have e2 : ∀ i, kF zm i = [.int 0, .int 0, .int 0] := fun i => by show [Value.int (bo 0), Value.int 0, Value.int 0] = _; rw [bo_0]
  unfold cwN cwL
  simp only [e0, e1, e2]
  rfl
theorem cw_fst (a : Nat → Nat) (cA : Nat → ClassId) (σ τ : Mem) : ∀ (k : Nat) (x : Nat × va_E), (cwL a cA τ)[k]? = some x → ∃ y, (cwL a cA σ)[k]? = some y ∧ y.1 = x.1 ∧ aB a 17 x.1 := by
  intro k x hk
  match k with
  | 0 => exact ⟨_, rfl, by cases hk; rfl, 0, by decide, by cases hk; rfl⟩
  | 1 => exact ⟨_, rfl, by cases hk; rfl, 1, by decide, by cases hk; rfl⟩
  | 2 => exact ⟨_, rfl, by cases hk; rfl, 2, by decide, by cases hk; rfl⟩
  | 3 => exact ⟨_, rfl, by cases hk; rfl, 3, by decide, by cases hk; rfl⟩
  | j + 4 =>
    have hj : j < 13 := by
      have := (List.getElem?_eq_some_iff.mp hk).1
      simp [cwL] at this
      omega
    have e1 := cw_at (a := a) (cA := cA) (σ := τ) hj
    have e2 := cw_at (a := a) (cA := cA) (σ := σ) hj
    rw [show 4 + j = j + 4 by omega] at e1 e2
    rw [e1] at hk
    cases hk
    exact ⟨_, e2, rfl, j + 4, by omega, rfl⟩
theorem cw_A {A : Nat → Prop} {a : Nat → Nat} {cA : Nat → ClassId} {σ : Mem} (h : va_D A (cwL a cA σ)) (τ : Mem) : va_D A (cwL a cA τ) := by
  refine ⟨fun i j x y hi hj hxy => ?_, fun k x hk => ?_⟩
  · obtain ⟨x2, h1, h2, -⟩ := cw_fst a cA σ τ i x hi
    obtain ⟨y2, h3, h4, -⟩ := cw_fst a cA σ τ j y hj
    exact h.1 i j x2 y2 h1 h3 (by rw [h2, h4, hxy])
  · obtain ⟨x2, h1, h2, h3⟩ := cw_fst a cA σ τ k x hk
    rw [← h2]
    exact h.2 k x2 h1
theorem cw_D {A : Nat → Prop} {a : Nat → Nat} {cA : Nat → ClassId} {σ : Mem} (h : va_D A (cwL a cA σ)) (τ : Mem) : va_D (aB a 17) (cwL a cA τ) := by
  refine ⟨fun i j x y hi hj hxy => ?_, fun k x hk => ?_⟩
  · obtain ⟨x2, h1, h2, -⟩ := cw_fst a cA σ τ i x hi
    obtain ⟨y2, h3, h4, -⟩ := cw_fst a cA σ τ j y hj
    exact h.1 i j x2 y2 h1 h3 (by rw [h2, h4, hxy])
  · obtain ⟨x2, h1, h2, h3⟩ := cw_fst a cA σ τ k x hk
    exact h3
theorem cw_in {A : Nat → Prop} {a : Nat → Nat} {cA : Nat → ClassId} {σ : Mem} (h : va_D A (cwL a cA σ)) : ∀ q, aB a 17 q → A q := by
  rintro q ⟨k, hk, rfl⟩
  match k, hk with
  | 0, _ => exact h.2 0 _ rfl
  | 1, _ => exact h.2 1 _ rfl
  | 2, _ => exact h.2 2 _ rfl
  | 3, _ => exact h.2 3 _ rfl
  | j + 4, hj =>
    have e2 := cw_at (a := a) (cA := cA) (σ := σ) (i := j) (by omega)
    have := h.2 (4 + j) _ e2
    rw [show j + 4 = 4 + j by omega]
    exact this
/-- what the core is at first -/
def sX : Mem := p_K_becomeRoot (p_K_becomeRoot zm (1 : Int32).toNatClampNeg 0) 8 0
set_option maxHeartbeats 4000000 in
set_option maxRecDepth 100000 in
theorem m_X_init (l : Launch) (D : va_G) (h0 sz : Nat) : Met l y_X_init (.code y_X_init c_X_init 2 none :: TG) ({ frames := 3, cells := 16, slots := 435, locals := 70 }) (va_Pc [.ref h0] (fun U => U.heap.size = sz ∧ va_P D classes [(h0, .inr (1, [.null, .null, .null, .null, .null, .int 0, .int 0, .int 0, .int 0]))] U.heap ∧ va_K D classes [] U ∧ va_D (fun _ => True) [(h0, .inr (1, [.null, .null, .null, .null, .null, .int 0, .int 0, .int 0, .int 0]))] ∧ nW U ∧ va_Nw (.methodLinkNest R_X 23 y_K_init R_X) U ∧ va_AO R_K U)) (va_Qv (fun u : (Nat → Nat) × (Nat → ClassId) => u.1 0 = h0) (fun u t => va_P D classes (cwL u.1 u.2 sX) t.heap ∧ va_K D classes (cty u.2) t ∧ va_D (va_A [(h0, .inr (1, [.null, .null, .null, .null, .null, .int 0, .int 0, .int 0, .int 0]))] sz) (cwL u.1 u.2 sX)) (va_A [(h0, .inr (1, [.null, .null, .null, .null, .null, .int 0, .int 0, .int 0, .int 0]))] sz)) 16 435 (va_A [(h0, .inr (1, [.null, .null, .null, .null, .null, .int 0, .int 0, .int 0, .int 0]))] sz) := by
  refine Met.ofW (cc := c_X_init) (maxL := 2) (ret := none) (by decide) rfl ?_
  intro p e s m args below meth c s₁ B hml hv
  obtain ⟨rfl, hsz, hP, hK, hD0, hN, hNm, hAO⟩ := hv
  have hx := B.exec
  have hb := B.bytes
  have hr := B.returns
  have hts := atoms_spec (ws := .code y_X_init c_X_init 2 none :: TG) B.pre
  have hown : s.vm.findClass R_X = some m.cls := findClass_of_methodNamed B.named
  have hlocks := B.notSynchronized
  have hin : meth.name = "<init>" := (name_of_methodNamed B.named B.method).1
  subst hsz
  have hD := hD0.self (sz := s.heap.size)
  have hA0 : ∀ q : Nat, va_A [(h0, .inr (1, [.null, .null, .null, .null, .null, .int 0, .int 0, .int 0, .int 0]))] s.heap.size q → q = h0 ∨ s.heap.size ≤ q := by
    rintro q (⟨k, x, hk⟩ | hq)
    · match k with
      | 0 => cases hk; exact Or.inl rfl
      | n + 1 => cases hk
    · exact Or.inr hq
  generalize hAe : va_A [(h0, .inr (1, [.null, .null, .null, .null, .null, .int 0, .int 0, .int 0, .int 0]))] s.heap.size = A at hD hA0 ⊢
  have hA : ∀ q : Nat, s.heap.size ≤ q → A q := fun q h => by rw [← hAe]; exact Or.inr h
  have hS : va_S A s.heap s.heap [] := va_S.rf
  have hl := lv_entry ([.ref h0]) (n := 2) (Nat.le_of_ble_eq_true rfl)
  rw [lg_entry_eq]
  generalize (lg_sl ([.ref h0]) ++ List.replicate (2 - (lg_sl ([.ref h0])).length) Slot.unset).toArray = ls at hl ⊢
  have hl : lv_has ls 2 [(0, .ref h0)] := hl
  refine lv_aload_n hx hb d_X_init_0 rfl (lv_at hl 0 rfl) ?_
  refine W.objInit hx hb hown (hts _ (List.mem_cons_of_mem _ k_ml_X_1)) (hts _ (List.mem_cons_of_mem _ k_im_O_init)) (hts _ (List.mem_cons_of_mem _ k_code_O_init)) rfl (by rw [hml]; exact hl.1) rfl d_X_init_1 (Nat.le_of_ble_eq_true rfl) (Nat.le_of_ble_eq_true rfl) ?_
  refine W.eq (g2 := F0 m 4 ls []) rfl ?_
  refine lv_aload_n hx hb d_X_init_4 rfl (lv_at hl 0 rfl) ?_
  refine lv_sipush (v := 256) hx hb d_X_init_5 (by decide) ?_
  refine va_newa (D := D) (atype := .int) (ty := .int) (N' := 256) (a0 := (256, .inl (fun _ => 0))) hx hb (hts _ (List.mem_cons_of_mem _ k_ac_int)) rfl hK hP hD hS hA (fun _ => rfl) (by decide) (by decide) (by decide) (Nat.le_of_ble_eq_true rfl) (Nat.le_of_ble_eq_true rfl) d_X_init_8 (fun q1 c1 H hK hP hD hS => ?_)
  have hP : va_P D classes [(h0, .inr (1, [.null, .null, .null, .null, .null, .int 0, .int 0, .int 0, .int 0])), (q1, .inl (c1, 256, .inl (fun _ => 0)))] H := hP
  have hD : va_D A [(h0, .inr (1, [.null, .null, .null, .null, .null, .int 0, .int 0, .int 0, .int 0])), (q1, .inl (c1, 256, .inl (fun _ => 0)))] := hD
  refine va_putF (D := D) (ci := 1) (v := .ref q1) (ty := .array .int) (C := R_X) (T := F_X) (N := 9) hx hb hts (fun w hw => List.mem_cons_of_mem _ (u_X w hw)) t_X t_X_ok n_X hown hK hP hD hS 0 rfl rfl 0 (by decide) (hts _ (List.mem_cons_of_mem _ k_fl_X_9)) fXs rfl hin rfl (by decide +kernel) rfl rfl (Nat.le_of_ble_eq_true rfl) d_X_init_10 (fun H locs hP hD hS => ?_)
  have hP : va_P D classes [(h0, .inr (1, [.ref q1, .null, .null, .null, .null, .int 0, .int 0, .int 0, .int 0])), (q1, .inl (c1, 256, .inl (fun _ => 0)))] H := hP
  have hD : va_D A [(h0, .inr (1, [.ref q1, .null, .null, .null, .null, .int 0, .int 0, .int 0, .int 0])), (q1, .inl (c1, 256, .inl (fun _ => 0)))] := hD
  refine lv_aload_n hx hb d_X_init_13 rfl (lv_at hl 0 rfl) ?_
  refine lv_sipush (v := 128) hx hb d_X_init_14 (by decide) ?_
  refine va_newa (D := D) (atype := .boolean) (ty := .boolean) (N' := 128) (a0 := (128, .inl (fun _ => 0))) hx hb (hts _ (List.mem_cons_of_mem _ k_ac_boolean)) rfl hK hP hD hS hA (fun _ => rfl) (by decide) (by decide) (by decide) (Nat.le_of_ble_eq_true rfl) (Nat.le_of_ble_eq_true rfl) d_X_init_17 (fun q2 c2 H hK hP hD hS => ?_)
  have hP : va_P D classes [(h0, .inr (1, [.ref q1, .null, .null, .null, .null, .int 0, .int 0, .int 0, .int 0])), (q1, .inl (c1, 256, .inl (fun _ => 0))), (q2, .inl (c2, 128, .inl (fun _ => 0)))] H := hP
  have hD : va_D A [(h0, .inr (1, [.ref q1, .null, .null, .null, .null, .int 0, .int 0, .int 0, .int 0])), (q1, .inl (c1, 256, .inl (fun _ => 0))), (q2, .inl (c2, 128, .inl (fun _ => 0)))] := hD
  refine va_putF (D := D) (ci := 1) (v := .ref q2) (ty := .array .boolean) (C := R_X) (T := F_X) (N := 9) hx hb hts (fun w hw => List.mem_cons_of_mem _ (u_X w hw)) t_X t_X_ok n_X hown hK hP hD hS 0 rfl rfl 1 (by decide) (hts _ (List.mem_cons_of_mem _ k_fl_X_13)) fXs rfl hin rfl (by decide +kernel) rfl rfl (Nat.le_of_ble_eq_true rfl) d_X_init_19 (fun H locs hP hD hS => ?_)
  have hP : va_P D classes [(h0, .inr (1, [.ref q1, .ref q2, .null, .null, .null, .int 0, .int 0, .int 0, .int 0])), (q1, .inl (c1, 256, .inl (fun _ => 0))), (q2, .inl (c2, 128, .inl (fun _ => 0)))] H := hP
  have hD : va_D A [(h0, .inr (1, [.ref q1, .ref q2, .null, .null, .null, .int 0, .int 0, .int 0, .int 0])), (q1, .inl (c1, 256, .inl (fun _ => 0))), (q2, .inl (c2, 128, .inl (fun _ => 0)))] := hD
  refine lv_aload_n hx hb d_X_init_22 rfl (lv_at hl 0 rfl) ?_
  refine lv_bipush (v := 12) hx hb d_X_init_23 (by decide) ?_
  refine va_newq (D := D) (C := R_K) (N' := 12) hx hb hown (hts _ (List.mem_cons_of_mem _ k_cl_X_17)) hAO hK hP hD hS hA (by decide) (by decide) (by decide) (Nat.le_of_ble_eq_true rfl) (Nat.le_of_ble_eq_true rfl) d_X_init_25 (fun q3 c3 H hK hP hD hS => ?_)
  have hP : va_P D classes [(h0, .inr (1, [.ref q1, .ref q2, .null, .null, .null, .int 0, .int 0, .int 0, .int 0])), (q1, .inl (c1, 256, .inl (fun _ => 0))), (q2, .inl (c2, 128, .inl (fun _ => 0))), (q3, .inl (c3, 12, .inr (.inr (.inr (.inr (fun _ => none))))))] H := hP
  have hD : va_D A [(h0, .inr (1, [.ref q1, .ref q2, .null, .null, .null, .int 0, .int 0, .int 0, .int 0])), (q1, .inl (c1, 256, .inl (fun _ => 0))), (q2, .inl (c2, 128, .inl (fun _ => 0))), (q3, .inl (c3, 12, .inr (.inr (.inr (.inr (fun _ => none))))))] := hD
  have hK : va_K D classes [(c1, .int), (c2, .boolean), (c3, .object R_K)] s := hK
  refine va_putF (D := D) (ci := 1) (v := .ref q3) (ty := .array (.object "CapabilityCore$Capability")) (C := R_X) (T := F_X) (N := 9) hx hb hts (fun w hw => List.mem_cons_of_mem _ (u_X w hw)) t_X t_X_ok n_X hown hK hP hD hS 0 rfl rfl 2 (by decide) (hts _ (List.mem_cons_of_mem _ k_fl_X_19)) fXs rfl hin rfl (by decide +kernel) rfl rfl (Nat.le_of_ble_eq_true rfl) d_X_init_28 (fun H locs hP hD hS => ?_)
  have hP : va_P D classes [(h0, .inr (1, [.ref q1, .ref q2, .ref q3, .null, .null, .int 0, .int 0, .int 0, .int 0])), (q1, .inl (c1, 256, .inl (fun _ => 0))), (q2, .inl (c2, 128, .inl (fun _ => 0))), (q3, .inl (c3, 12, .inr (.inr (.inr (.inr (fun _ => none))))))] H := hP
  have hD : va_D A [(h0, .inr (1, [.ref q1, .ref q2, .ref q3, .null, .null, .int 0, .int 0, .int 0, .int 0])), (q1, .inl (c1, 256, .inl (fun _ => 0))), (q2, .inl (c2, 128, .inl (fun _ => 0))), (q3, .inl (c3, 12, .inr (.inr (.inr (.inr (fun _ => none))))))] := hD
  refine lv_aload_n hx hb d_X_init_31 rfl (lv_at hl 0 rfl) ?_
  refine va_new (D := D) (ci := 0) (fs := [.int 0, .int 0, .int 0]) (C := R_K) (T := F_K) (N := 3) hx hb hts (fun w hw => List.mem_cons_of_mem _ (u_K w hw)) t_K t_K_ok hown (hts _ (List.mem_cons_of_mem _ k_cl_X_17)) (hts _ (List.mem_cons_of_mem _ k_inst_K)) (hts _ (List.mem_cons_of_mem _ k_ini_K)) hK hP hD hS hA rfl (fun j hj => by rcases (show j = 0 ∨ j = 1 ∨ j = 2 by omega) with rfl | rfl | rfl <;> rfl) (Nat.le_of_ble_eq_true rfl) (Nat.le_of_ble_eq_true rfl) d_X_init_32 (fun q4 H hP hD hS => ?_)
  have hP : va_P D classes [(h0, .inr (1, [.ref q1, .ref q2, .ref q3, .null, .null, .int 0, .int 0, .int 0, .int 0])), (q1, .inl (c1, 256, .inl (fun _ => 0))), (q2, .inl (c2, 128, .inl (fun _ => 0))), (q3, .inl (c3, 12, .inr (.inr (.inr (.inr (fun _ => none)))))), (q4, k0)] H := hP
  have hD : va_D A [(h0, .inr (1, [.ref q1, .ref q2, .ref q3, .null, .null, .int 0, .int 0, .int 0, .int 0])), (q1, .inl (c1, 256, .inl (fun _ => 0))), (q2, .inl (c2, 128, .inl (fun _ => 0))), (q3, .inl (c3, 12, .inr (.inr (.inr (.inr (fun _ => none)))))), (q4, k0)] := hD
  refine lv_dup hx hb d_X_init_35 rfl ?_
  have hPc := hP.sub (ws' := [(q4, k0)]) [4] rfl
  have hDc := hD.sub (ws' := [(q4, k0)]) [4] (by decide) rfl
  have hKc := hK.sub (tys' := []) [] rfl
  have hFc := va_free (wc := [(q4, k0)]) hD hS hA [4] rfl
  refine va_callv (va_runIN (As := []) (rest := [.ref q4, .ref h0]) ⟨hx, hb, hml, hown, hts⟩ (m_K_init l D q4 H.size) ⟨va_cnB 0 hts (tg_in k_code_K_init) rfl rfl rfl hNm (hts _ (List.mem_cons_of_mem _ k_ini_K)) ⟨by decide, by decide, by decide +kernel⟩ ⟨Nat.le_of_ble_eq_true rfl, Nat.le_of_ble_eq_true rfl⟩, rfl, (hts _ (List.mem_cons_of_mem _ k_im_K_init))⟩ ⟨fun a U g mk q => by obtain ⟨q0, q1, qP, qK, qD⟩ := q; exact ⟨q0, q1, qP, va_K.moved (u := U) (U := U.calling g mk a) (Vm.Alike.refl U.vm) qK, qD⟩, fun U hU hW => ⟨rfl, by rw [hU], by rw [hU]; exact hPc, va_K.moved hW.alike hKc, hDc.weaken (fun _ _ _ _ => trivial)⟩⟩ rfl rfl hl.1 rfl (lv_room (Nat.le_of_ble_eq_true rfl)) d_X_init_36 ⟨Nat.le_of_ble_eq_true rfl, Nat.le_of_ble_eq_true rfl⟩) hS (fun q _ h => hFc q h) hFc (fun u t H1 locs ht hvm hw hB hz1 hk1 hS => ?_)
  obtain ⟨hP1, hD1⟩ := hB
  rw [ht] at hP1
  obtain ⟨hP, hD⟩ := va_join (wr := [(h0, .inr (1, [.ref q1, .ref q2, .ref q3, .null, .null, .int 0, .int 0, .int 0, .int 0])), (q1, .inl (c1, 256, .inl (fun _ => 0))), (q2, .inl (c2, 128, .inl (fun _ => 0))), (q3, .inl (c3, 12, .inr (.inr (.inr (.inr (fun _ => none))))))]) (w1 := [(q4, k0)]) hP hD [4] [0, 1, 2, 3] rfl rfl (by decide) (by decide) hk1 hFc hP1 hD1
  generalize H1 = H at hP hS ⊢
  have hP : va_P D classes [(h0, .inr (1, [.ref q1, .ref q2, .ref q3, .null, .null, .int 0, .int 0, .int 0, .int 0])), (q1, .inl (c1, 256, .inl (fun _ => 0))), (q2, .inl (c2, 128, .inl (fun _ => 0))), (q3, .inl (c3, 12, .inr (.inr (.inr (.inr (fun _ => none)))))), (q4, k0)] H := hP
  have hD : va_D A [(h0, .inr (1, [.ref q1, .ref q2, .ref q3, .null, .null, .int 0, .int 0, .int 0, .int 0])), (q1, .inl (c1, 256, .inl (fun _ => 0))), (q2, .inl (c2, 128, .inl (fun _ => 0))), (q3, .inl (c3, 12, .inr (.inr (.inr (.inr (fun _ => none)))))), (q4, k0)] := hD
  refine va_putF (D := D) (ci := 1) (v := .ref q4) (ty := .object "CapabilityCore$Capability") (C := R_X) (T := F_X) (N := 9) hx hb hts (fun w hw => List.mem_cons_of_mem _ (u_X w hw)) t_X t_X_ok n_X hown hK hP hD hS 0 rfl rfl 4 (by decide) (hts _ (List.mem_cons_of_mem _ k_fl_X_24)) fXs rfl hin rfl (by decide +kernel) rfl rfl (Nat.le_of_ble_eq_true rfl) d_X_init_39 (fun H locs hP hD hS => ?_)
  have hP : va_P D classes [(h0, .inr (1, [.ref q1, .ref q2, .ref q3, .null, .ref q4, .int 0, .int 0, .int 0, .int 0])), (q1, .inl (c1, 256, .inl (fun _ => 0))), (q2, .inl (c2, 128, .inl (fun _ => 0))), (q3, .inl (c3, 12, .inr (.inr (.inr (.inr (fun _ => none)))))), (q4, k0)] H := hP
  have hD : va_D A [(h0, .inr (1, [.ref q1, .ref q2, .ref q3, .null, .ref q4, .int 0, .int 0, .int 0, .int 0])), (q1, .inl (c1, 256, .inl (fun _ => 0))), (q2, .inl (c2, 128, .inl (fun _ => 0))), (q3, .inl (c3, 12, .inr (.inr (.inr (.inr (fun _ => none)))))), (q4, k0)] := hD
  refine lv_aload_n hx hb d_X_init_42 rfl (lv_at hl 0 rfl) ?_
  refine lv_iconst (v := 0) hx hb d_X_init_43 (by decide) ?_
  refine va_put (D := D) (ci := 1) (v := .int 0) (ty := .int) (C := R_X) (T := F_X) (N := 9) hx hb hts (fun w hw => List.mem_cons_of_mem _ (u_X w hw)) t_X t_X_ok n_X hown hK hP hD hS 0 rfl rfl 5 (by decide) (hts _ (List.mem_cons_of_mem _ k_fl_X_28)) fXs rfl (by decide +kernel) rfl rfl (Nat.le_of_ble_eq_true rfl) d_X_init_44 (fun H locs hP hD hS => ?_)
  have hP : va_P D classes [(h0, .inr (1, [.ref q1, .ref q2, .ref q3, .null, .ref q4, .int 0, .int 0, .int 0, .int 0])), (q1, .inl (c1, 256, .inl (fun _ => 0))), (q2, .inl (c2, 128, .inl (fun _ => 0))), (q3, .inl (c3, 12, .inr (.inr (.inr (.inr (fun _ => none)))))), (q4, k0)] H := hP
  have hD : va_D A [(h0, .inr (1, [.ref q1, .ref q2, .ref q3, .null, .ref q4, .int 0, .int 0, .int 0, .int 0])), (q1, .inl (c1, 256, .inl (fun _ => 0))), (q2, .inl (c2, 128, .inl (fun _ => 0))), (q3, .inl (c3, 12, .inr (.inr (.inr (.inr (fun _ => none)))))), (q4, k0)] := hD
  refine lv_aload_n hx hb d_X_init_47 rfl (lv_at hl 0 rfl) ?_
  refine lv_iconst (v := 0) hx hb d_X_init_48 (by decide) ?_
  refine va_put (D := D) (ci := 1) (v := .int 0) (ty := .int) (C := R_X) (T := F_X) (N := 9) hx hb hts (fun w hw => List.mem_cons_of_mem _ (u_X w hw)) t_X t_X_ok n_X hown hK hP hD hS 0 rfl rfl 6 (by decide) (hts _ (List.mem_cons_of_mem _ k_fl_X_32)) fXs rfl (by decide +kernel) rfl rfl (Nat.le_of_ble_eq_true rfl) d_X_init_49 (fun H locs hP hD hS => ?_)
  have hP : va_P D classes [(h0, .inr (1, [.ref q1, .ref q2, .ref q3, .null, .ref q4, .int 0, .int 0, .int 0, .int 0])), (q1, .inl (c1, 256, .inl (fun _ => 0))), (q2, .inl (c2, 128, .inl (fun _ => 0))), (q3, .inl (c3, 12, .inr (.inr (.inr (.inr (fun _ => none)))))), (q4, k0)] H := hP
  have hD : va_D A [(h0, .inr (1, [.ref q1, .ref q2, .ref q3, .null, .ref q4, .int 0, .int 0, .int 0, .int 0])), (q1, .inl (c1, 256, .inl (fun _ => 0))), (q2, .inl (c2, 128, .inl (fun _ => 0))), (q3, .inl (c3, 12, .inr (.inr (.inr (.inr (fun _ => none)))))), (q4, k0)] := hD
  refine lv_aload_n hx hb d_X_init_52 rfl (lv_at hl 0 rfl) ?_
  refine lv_iconst (v := 0) hx hb d_X_init_53 (by decide) ?_
  refine va_put (D := D) (ci := 1) (v := .int 0) (ty := .int) (C := R_X) (T := F_X) (N := 9) hx hb hts (fun w hw => List.mem_cons_of_mem _ (u_X w hw)) t_X t_X_ok n_X hown hK hP hD hS 0 rfl rfl 7 (by decide) (hts _ (List.mem_cons_of_mem _ k_fl_X_35)) fXs rfl (by decide +kernel) rfl rfl (Nat.le_of_ble_eq_true rfl) d_X_init_54 (fun H locs hP hD hS => ?_)
  have hP : va_P D classes [(h0, .inr (1, [.ref q1, .ref q2, .ref q3, .null, .ref q4, .int 0, .int 0, .int 0, .int 0])), (q1, .inl (c1, 256, .inl (fun _ => 0))), (q2, .inl (c2, 128, .inl (fun _ => 0))), (q3, .inl (c3, 12, .inr (.inr (.inr (.inr (fun _ => none)))))), (q4, k0)] H := hP
  have hD : va_D A [(h0, .inr (1, [.ref q1, .ref q2, .ref q3, .null, .ref q4, .int 0, .int 0, .int 0, .int 0])), (q1, .inl (c1, 256, .inl (fun _ => 0))), (q2, .inl (c2, 128, .inl (fun _ => 0))), (q3, .inl (c3, 12, .inr (.inr (.inr (.inr (fun _ => none)))))), (q4, k0)] := hD
  refine lv_aload_n hx hb d_X_init_57 rfl (lv_at hl 0 rfl) ?_
  refine lv_iconst (v := 0) hx hb d_X_init_58 (by decide) ?_
  refine va_put (D := D) (ci := 1) (v := .int 0) (ty := .int) (C := R_X) (T := F_X) (N := 9) hx hb hts (fun w hw => List.mem_cons_of_mem _ (u_X w hw)) t_X t_X_ok n_X hown hK hP hD hS 0 rfl rfl 8 (by decide) (hts _ (List.mem_cons_of_mem _ k_fl_X_38)) fXs rfl (by decide +kernel) rfl rfl (Nat.le_of_ble_eq_true rfl) d_X_init_59 (fun H locs hP hD hS => ?_)
  have hP : va_P D classes [(h0, .inr (1, [.ref q1, .ref q2, .ref q3, .null, .ref q4, .int 0, .int 0, .int 0, .int 0])), (q1, .inl (c1, 256, .inl (fun _ => 0))), (q2, .inl (c2, 128, .inl (fun _ => 0))), (q3, .inl (c3, 12, .inr (.inr (.inr (.inr (fun _ => none)))))), (q4, k0)] H := hP
  have hD : va_D A [(h0, .inr (1, [.ref q1, .ref q2, .ref q3, .null, .ref q4, .int 0, .int 0, .int 0, .int 0])), (q1, .inl (c1, 256, .inl (fun _ => 0))), (q2, .inl (c2, 128, .inl (fun _ => 0))), (q3, .inl (c3, 12, .inr (.inr (.inr (.inr (fun _ => none)))))), (q4, k0)] := hD
  refine lv_iconst (v := 0) hx hb d_X_init_62 (by decide) ?_
  refine lv_istore_n (lv' := [(1, .int 0), (0, .ref h0)]) hx hb d_X_init_63 rfl hl (by decide) rfl (fun ls hl => ?_)
  refine lv_iload_n hx hb d_X_init_64 rfl (lv_at hl 0 rfl) ?_
  refine lv_bipush (v := 12) hx hb d_X_init_65 (by decide) ?_
  refine lv_icmp_ge (tgt := 89) hx hb d_X_init_67 (by decide) (fun h => absurd h (by decide)) (fun _ => ?_)
  refine lv_aload_n hx hb d_X_init_70 rfl (lv_at hl 1 rfl) ?_
  refine va_get (D := D) (ci := 1) (v := .ref q3) (C := R_X) (T := F_X) (N := 9) hx hb hts (fun w hw => List.mem_cons_of_mem _ (u_X w hw)) hown hK hP 0 rfl rfl 2 (by decide) (hts _ (List.mem_cons_of_mem _ k_fl_X_19)) fXs rfl d_X_init_71 ?_
  refine lv_iload_n hx hb d_X_init_74 rfl (lv_at hl 0 rfl) ?_
  refine va_new (D := D) (ci := 0) (fs := [.int 0, .int 0, .int 0]) (C := R_K) (T := F_K) (N := 3) hx hb hts (fun w hw => List.mem_cons_of_mem _ (u_K w hw)) t_K t_K_ok hown (hts _ (List.mem_cons_of_mem _ k_cl_X_17)) (hts _ (List.mem_cons_of_mem _ k_inst_K)) (hts _ (List.mem_cons_of_mem _ k_ini_K)) hK hP hD hS hA rfl (fun j hj => by rcases (show j = 0 ∨ j = 1 ∨ j = 2 by omega) with rfl | rfl | rfl <;> rfl) (Nat.le_of_ble_eq_true rfl) (Nat.le_of_ble_eq_true rfl) d_X_init_75 (fun r0 H hP hD hS => ?_)
  have hP : va_P D classes [(h0, .inr (1, [.ref q1, .ref q2, .ref q3, .null, .ref q4, .int 0, .int 0, .int 0, .int 0])), (q1, .inl (c1, 256, .inl (fun _ => 0))), (q2, .inl (c2, 128, .inl (fun _ => 0))), (q3, .inl (c3, 12, .inr (.inr (.inr (.inr (fun _ => none)))))), (q4, k0), (r0, k0)] H := hP
  have hD : va_D A [(h0, .inr (1, [.ref q1, .ref q2, .ref q3, .null, .ref q4, .int 0, .int 0, .int 0, .int 0])), (q1, .inl (c1, 256, .inl (fun _ => 0))), (q2, .inl (c2, 128, .inl (fun _ => 0))), (q3, .inl (c3, 12, .inr (.inr (.inr (.inr (fun _ => none)))))), (q4, k0), (r0, k0)] := hD
  refine lv_dup hx hb d_X_init_78 rfl ?_
  have hPc := hP.sub (ws' := [(r0, k0)]) [5] rfl
  have hDc := hD.sub (ws' := [(r0, k0)]) [5] (by decide) rfl
  have hKc := hK.sub (tys' := []) [] rfl
  have hFc := va_free (wc := [(r0, k0)]) hD hS hA [5] rfl
  refine va_callv (va_runIN (As := []) (rest := [.ref r0, .int 0, .ref q3]) ⟨hx, hb, hml, hown, hts⟩ (m_K_init l D r0 H.size) ⟨va_cnB 0 hts (tg_in k_code_K_init) rfl rfl rfl hNm (hts _ (List.mem_cons_of_mem _ k_ini_K)) ⟨by decide, by decide, by decide +kernel⟩ ⟨Nat.le_of_ble_eq_true rfl, Nat.le_of_ble_eq_true rfl⟩, rfl, (hts _ (List.mem_cons_of_mem _ k_im_K_init))⟩ ⟨fun a U g mk q => by obtain ⟨q0, q1, qP, qK, qD⟩ := q; exact ⟨q0, q1, qP, va_K.moved (u := U) (U := U.calling g mk a) (Vm.Alike.refl U.vm) qK, qD⟩, fun U hU hW => ⟨rfl, by rw [hU], by rw [hU]; exact hPc, va_K.moved hW.alike hKc, hDc.weaken (fun _ _ _ _ => trivial)⟩⟩ rfl rfl hl.1 rfl (lv_room (Nat.le_of_ble_eq_true rfl)) d_X_init_79 ⟨Nat.le_of_ble_eq_true rfl, Nat.le_of_ble_eq_true rfl⟩) hS (fun q _ h => hFc q h) hFc (fun u t H1 locs ht hvm hw hB hz1 hk1 hS => ?_)
  obtain ⟨hP1, hD1⟩ := hB
  rw [ht] at hP1
  obtain ⟨hP, hD⟩ := va_join (wr := [(h0, .inr (1, [.ref q1, .ref q2, .ref q3, .null, .ref q4, .int 0, .int 0, .int 0, .int 0])), (q1, .inl (c1, 256, .inl (fun _ => 0))), (q2, .inl (c2, 128, .inl (fun _ => 0))), (q3, .inl (c3, 12, .inr (.inr (.inr (.inr (fun _ => none)))))), (q4, k0)]) (w1 := [(r0, k0)]) hP hD [5] [0, 1, 2, 3, 4] rfl rfl (by decide) (by decide) hk1 hFc hP1 hD1
  generalize H1 = H at hP hS ⊢
  have hP : va_P D classes [(h0, .inr (1, [.ref q1, .ref q2, .ref q3, .null, .ref q4, .int 0, .int 0, .int 0, .int 0])), (q1, .inl (c1, 256, .inl (fun _ => 0))), (q2, .inl (c2, 128, .inl (fun _ => 0))), (q3, .inl (c3, 12, .inr (.inr (.inr (.inr (fun _ => none)))))), (q4, k0), (r0, k0)] H := hP
  have hD : va_D A [(h0, .inr (1, [.ref q1, .ref q2, .ref q3, .null, .ref q4, .int 0, .int 0, .int 0, .int 0])), (q1, .inl (c1, 256, .inl (fun _ => 0))), (q2, .inl (c2, 128, .inl (fun _ => 0))), (q3, .inl (c3, 12, .inr (.inr (.inr (.inr (fun _ => none)))))), (q4, k0), (r0, k0)] := hD
  refine va_astq (D := D) (r := (R_K, F_K, 3)) hx hb hK hP hD hS 3 2 5 0 rfl rfl rfl rfl ic_0_12 d_X_init_82 (fun H locs hP hD hS => ?_)
  have hP : va_P D classes [(h0, .inr (1, [.ref q1, .ref q2, .ref q3, .null, .ref q4, .int 0, .int 0, .int 0, .int 0])), (q1, .inl (c1, 256, .inl (fun _ => 0))), (q2, .inl (c2, 128, .inl (fun _ => 0))), (q3, .inl (c3, 12, .inr (.inr (.inr (.inr (va_up (fun _ => none) (0 : Int32).toNatClampNeg (some r0))))))), (q4, k0), (r0, k0)] H := hP
  have hD : va_D A [(h0, .inr (1, [.ref q1, .ref q2, .ref q3, .null, .ref q4, .int 0, .int 0, .int 0, .int 0])), (q1, .inl (c1, 256, .inl (fun _ => 0))), (q2, .inl (c2, 128, .inl (fun _ => 0))), (q3, .inl (c3, 12, .inr (.inr (.inr (.inr (va_up (fun _ => none) (0 : Int32).toNatClampNeg (some r0))))))), (q4, k0), (r0, k0)] := hD
  refine lv_iinc (k := 0) (v := 1) (lv' := [(1, .int 1), (0, .ref h0)]) hx hb d_X_init_83 hl rfl (by decide) (by decide) rfl (fun ls hl => ?_)
  refine lv_goto (tgt := 64) hx hb d_X_init_86 (by decide) ?_
  refine lv_iload_n hx hb d_X_init_64 rfl (lv_at hl 0 rfl) ?_
  refine lv_bipush (v := 12) hx hb d_X_init_65 (by decide) ?_
  refine lv_icmp_ge (tgt := 89) hx hb d_X_init_67 (by decide) (fun h => absurd h (by decide)) (fun _ => ?_)
  refine lv_aload_n hx hb d_X_init_70 rfl (lv_at hl 1 rfl) ?_
  refine va_get (D := D) (ci := 1) (v := .ref q3) (C := R_X) (T := F_X) (N := 9) hx hb hts (fun w hw => List.mem_cons_of_mem _ (u_X w hw)) hown hK hP 0 rfl rfl 2 (by decide) (hts _ (List.mem_cons_of_mem _ k_fl_X_19)) fXs rfl d_X_init_71 ?_
  refine lv_iload_n hx hb d_X_init_74 rfl (lv_at hl 0 rfl) ?_
  refine va_new (D := D) (ci := 0) (fs := [.int 0, .int 0, .int 0]) (C := R_K) (T := F_K) (N := 3) hx hb hts (fun w hw => List.mem_cons_of_mem _ (u_K w hw)) t_K t_K_ok hown (hts _ (List.mem_cons_of_mem _ k_cl_X_17)) (hts _ (List.mem_cons_of_mem _ k_inst_K)) (hts _ (List.mem_cons_of_mem _ k_ini_K)) hK hP hD hS hA rfl (fun j hj => by rcases (show j = 0 ∨ j = 1 ∨ j = 2 by omega) with rfl | rfl | rfl <;> rfl) (Nat.le_of_ble_eq_true rfl) (Nat.le_of_ble_eq_true rfl) d_X_init_75 (fun r1 H hP hD hS => ?_)
  have hP : va_P D classes [(h0, .inr (1, [.ref q1, .ref q2, .ref q3, .null, .ref q4, .int 0, .int 0, .int 0, .int 0])), (q1, .inl (c1, 256, .inl (fun _ => 0))), (q2, .inl (c2, 128, .inl (fun _ => 0))), (q3, .inl (c3, 12, .inr (.inr (.inr (.inr (va_up (fun _ => none) (0 : Int32).toNatClampNeg (some r0))))))), (q4, k0), (r0, k0), (r1, k0)] H := hP
  have hD : va_D A [(h0, .inr (1, [.ref q1, .ref q2, .ref q3, .null, .ref q4, .int 0, .int 0, .int 0, .int 0])), (q1, .inl (c1, 256, .inl (fun _ => 0))), (q2, .inl (c2, 128, .inl (fun _ => 0))), (q3, .inl (c3, 12, .inr (.inr (.inr (.inr (va_up (fun _ => none) (0 : Int32).toNatClampNeg (some r0))))))), (q4, k0), (r0, k0), (r1, k0)] := hD
  refine lv_dup hx hb d_X_init_78 rfl ?_
  have hPc := hP.sub (ws' := [(r1, k0)]) [6] rfl
  have hDc := hD.sub (ws' := [(r1, k0)]) [6] (by decide) rfl
  have hKc := hK.sub (tys' := []) [] rfl
  have hFc := va_free (wc := [(r1, k0)]) hD hS hA [6] rfl
  refine va_callv (va_runIN (As := []) (rest := [.ref r1, .int 1, .ref q3]) ⟨hx, hb, hml, hown, hts⟩ (m_K_init l D r1 H.size) ⟨va_cnB 0 hts (tg_in k_code_K_init) rfl rfl rfl hNm (hts _ (List.mem_cons_of_mem _ k_ini_K)) ⟨by decide, by decide, by decide +kernel⟩ ⟨Nat.le_of_ble_eq_true rfl, Nat.le_of_ble_eq_true rfl⟩, rfl, (hts _ (List.mem_cons_of_mem _ k_im_K_init))⟩ ⟨fun a U g mk q => by obtain ⟨q0, q1, qP, qK, qD⟩ := q; exact ⟨q0, q1, qP, va_K.moved (u := U) (U := U.calling g mk a) (Vm.Alike.refl U.vm) qK, qD⟩, fun U hU hW => ⟨rfl, by rw [hU], by rw [hU]; exact hPc, va_K.moved hW.alike hKc, hDc.weaken (fun _ _ _ _ => trivial)⟩⟩ rfl rfl hl.1 rfl (lv_room (Nat.le_of_ble_eq_true rfl)) d_X_init_79 ⟨Nat.le_of_ble_eq_true rfl, Nat.le_of_ble_eq_true rfl⟩) hS (fun q _ h => hFc q h) hFc (fun u t H1 locs ht hvm hw hB hz1 hk1 hS => ?_)
  obtain ⟨hP1, hD1⟩ := hB
  rw [ht] at hP1
  obtain ⟨hP, hD⟩ := va_join (wr := [(h0, .inr (1, [.ref q1, .ref q2, .ref q3, .null, .ref q4, .int 0, .int 0, .int 0, .int 0])), (q1, .inl (c1, 256, .inl (fun _ => 0))), (q2, .inl (c2, 128, .inl (fun _ => 0))), (q3, .inl (c3, 12, .inr (.inr (.inr (.inr (va_up (fun _ => none) (0 : Int32).toNatClampNeg (some r0))))))), (q4, k0), (r0, k0)]) (w1 := [(r1, k0)]) hP hD [6] [0, 1, 2, 3, 4, 5] rfl rfl (by decide) (by decide) hk1 hFc hP1 hD1
  generalize H1 = H at hP hS ⊢
  have hP : va_P D classes [(h0, .inr (1, [.ref q1, .ref q2, .ref q3, .null, .ref q4, .int 0, .int 0, .int 0, .int 0])), (q1, .inl (c1, 256, .inl (fun _ => 0))), (q2, .inl (c2, 128, .inl (fun _ => 0))), (q3, .inl (c3, 12, .inr (.inr (.inr (.inr (va_up (fun _ => none) (0 : Int32).toNatClampNeg (some r0))))))), (q4, k0), (r0, k0), (r1, k0)] H := hP
  have hD : va_D A [(h0, .inr (1, [.ref q1, .ref q2, .ref q3, .null, .ref q4, .int 0, .int 0, .int 0, .int 0])), (q1, .inl (c1, 256, .inl (fun _ => 0))), (q2, .inl (c2, 128, .inl (fun _ => 0))), (q3, .inl (c3, 12, .inr (.inr (.inr (.inr (va_up (fun _ => none) (0 : Int32).toNatClampNeg (some r0))))))), (q4, k0), (r0, k0), (r1, k0)] := hD
  refine va_astq (D := D) (r := (R_K, F_K, 3)) hx hb hK hP hD hS 3 2 6 0 rfl rfl rfl rfl ic_1_12 d_X_init_82 (fun H locs hP hD hS => ?_)
  have hP : va_P D classes [(h0, .inr (1, [.ref q1, .ref q2, .ref q3, .null, .ref q4, .int 0, .int 0, .int 0, .int 0])), (q1, .inl (c1, 256, .inl (fun _ => 0))), (q2, .inl (c2, 128, .inl (fun _ => 0))), (q3, .inl (c3, 12, .inr (.inr (.inr (.inr (va_up (va_up (fun _ => none) (0 : Int32).toNatClampNeg (some r0)) (1 : Int32).toNatClampNeg (some r1))))))), (q4, k0), (r0, k0), (r1, k0)] H := hP
  have hD : va_D A [(h0, .inr (1, [.ref q1, .ref q2, .ref q3, .null, .ref q4, .int 0, .int 0, .int 0, .int 0])), (q1, .inl (c1, 256, .inl (fun _ => 0))), (q2, .inl (c2, 128, .inl (fun _ => 0))), (q3, .inl (c3, 12, .inr (.inr (.inr (.inr (va_up (va_up (fun _ => none) (0 : Int32).toNatClampNeg (some r0)) (1 : Int32).toNatClampNeg (some r1))))))), (q4, k0), (r0, k0), (r1, k0)] := hD
  refine lv_iinc (k := 0) (v := 2) (lv' := [(1, .int 2), (0, .ref h0)]) hx hb d_X_init_83 hl rfl (by decide) (by decide) rfl (fun ls hl => ?_)
  refine lv_goto (tgt := 64) hx hb d_X_init_86 (by decide) ?_
  refine lv_iload_n hx hb d_X_init_64 rfl (lv_at hl 0 rfl) ?_
  refine lv_bipush (v := 12) hx hb d_X_init_65 (by decide) ?_
  refine lv_icmp_ge (tgt := 89) hx hb d_X_init_67 (by decide) (fun h => absurd h (by decide)) (fun _ => ?_)
  refine lv_aload_n hx hb d_X_init_70 rfl (lv_at hl 1 rfl) ?_
  refine va_get (D := D) (ci := 1) (v := .ref q3) (C := R_X) (T := F_X) (N := 9) hx hb hts (fun w hw => List.mem_cons_of_mem _ (u_X w hw)) hown hK hP 0 rfl rfl 2 (by decide) (hts _ (List.mem_cons_of_mem _ k_fl_X_19)) fXs rfl d_X_init_71 ?_
  refine lv_iload_n hx hb d_X_init_74 rfl (lv_at hl 0 rfl) ?_
  refine va_new (D := D) (ci := 0) (fs := [.int 0, .int 0, .int 0]) (C := R_K) (T := F_K) (N := 3) hx hb hts (fun w hw => List.mem_cons_of_mem _ (u_K w hw)) t_K t_K_ok hown (hts _ (List.mem_cons_of_mem _ k_cl_X_17)) (hts _ (List.mem_cons_of_mem _ k_inst_K)) (hts _ (List.mem_cons_of_mem _ k_ini_K)) hK hP hD hS hA rfl (fun j hj => by rcases (show j = 0 ∨ j = 1 ∨ j = 2 by omega) with rfl | rfl | rfl <;> rfl) (Nat.le_of_ble_eq_true rfl) (Nat.le_of_ble_eq_true rfl) d_X_init_75 (fun r2 H hP hD hS => ?_)
  have hP : va_P D classes [(h0, .inr (1, [.ref q1, .ref q2, .ref q3, .null, .ref q4, .int 0, .int 0, .int 0, .int 0])), (q1, .inl (c1, 256, .inl (fun _ => 0))), (q2, .inl (c2, 128, .inl (fun _ => 0))), (q3, .inl (c3, 12, .inr (.inr (.inr (.inr (va_up (va_up (fun _ => none) (0 : Int32).toNatClampNeg (some r0)) (1 : Int32).toNatClampNeg (some r1))))))), (q4, k0), (r0, k0), (r1, k0), (r2, k0)] H := hP
  have hD : va_D A [(h0, .inr (1, [.ref q1, .ref q2, .ref q3, .null, .ref q4, .int 0, .int 0, .int 0, .int 0])), (q1, .inl (c1, 256, .inl (fun _ => 0))), (q2, .inl (c2, 128, .inl (fun _ => 0))), (q3, .inl (c3, 12, .inr (.inr (.inr (.inr (va_up (va_up (fun _ => none) (0 : Int32).toNatClampNeg (some r0)) (1 : Int32).toNatClampNeg (some r1))))))), (q4, k0), (r0, k0), (r1, k0), (r2, k0)] := hD
  refine lv_dup hx hb d_X_init_78 rfl ?_
  have hPc := hP.sub (ws' := [(r2, k0)]) [7] rfl
  have hDc := hD.sub (ws' := [(r2, k0)]) [7] (by decide) rfl
  have hKc := hK.sub (tys' := []) [] rfl
  have hFc := va_free (wc := [(r2, k0)]) hD hS hA [7] rfl
  refine va_callv (va_runIN (As := []) (rest := [.ref r2, .int 2, .ref q3]) ⟨hx, hb, hml, hown, hts⟩ (m_K_init l D r2 H.size) ⟨va_cnB 0 hts (tg_in k_code_K_init) rfl rfl rfl hNm (hts _ (List.mem_cons_of_mem _ k_ini_K)) ⟨by decide, by decide, by decide +kernel⟩ ⟨Nat.le_of_ble_eq_true rfl, Nat.le_of_ble_eq_true rfl⟩, rfl, (hts _ (List.mem_cons_of_mem _ k_im_K_init))⟩ ⟨fun a U g mk q => by obtain ⟨q0, q1, qP, qK, qD⟩ := q; exact ⟨q0, q1, qP, va_K.moved (u := U) (U := U.calling g mk a) (Vm.Alike.refl U.vm) qK, qD⟩, fun U hU hW => ⟨rfl, by rw [hU], by rw [hU]; exact hPc, va_K.moved hW.alike hKc, hDc.weaken (fun _ _ _ _ => trivial)⟩⟩ rfl rfl hl.1 rfl (lv_room (Nat.le_of_ble_eq_true rfl)) d_X_init_79 ⟨Nat.le_of_ble_eq_true rfl, Nat.le_of_ble_eq_true rfl⟩) hS (fun q _ h => hFc q h) hFc (fun u t H1 locs ht hvm hw hB hz1 hk1 hS => ?_)
  obtain ⟨hP1, hD1⟩ := hB
  rw [ht] at hP1
  obtain ⟨hP, hD⟩ := va_join (wr := [(h0, .inr (1, [.ref q1, .ref q2, .ref q3, .null, .ref q4, .int 0, .int 0, .int 0, .int 0])), (q1, .inl (c1, 256, .inl (fun _ => 0))), (q2, .inl (c2, 128, .inl (fun _ => 0))), (q3, .inl (c3, 12, .inr (.inr (.inr (.inr (va_up (va_up (fun _ => none) (0 : Int32).toNatClampNeg (some r0)) (1 : Int32).toNatClampNeg (some r1))))))), (q4, k0), (r0, k0), (r1, k0)]) (w1 := [(r2, k0)]) hP hD [7] [0, 1, 2, 3, 4, 5, 6] rfl rfl (by decide) (by decide) hk1 hFc hP1 hD1
  generalize H1 = H at hP hS ⊢
  have hP : va_P D classes [(h0, .inr (1, [.ref q1, .ref q2, .ref q3, .null, .ref q4, .int 0, .int 0, .int 0, .int 0])), (q1, .inl (c1, 256, .inl (fun _ => 0))), (q2, .inl (c2, 128, .inl (fun _ => 0))), (q3, .inl (c3, 12, .inr (.inr (.inr (.inr (va_up (va_up (fun _ => none) (0 : Int32).toNatClampNeg (some r0)) (1 : Int32).toNatClampNeg (some r1))))))), (q4, k0), (r0, k0), (r1, k0), (r2, k0)] H := hP
  have hD : va_D A [(h0, .inr (1, [.ref q1, .ref q2, .ref q3, .null, .ref q4, .int 0, .int 0, .int 0, .int 0])), (q1, .inl (c1, 256, .inl (fun _ => 0))), (q2, .inl (c2, 128, .inl (fun _ => 0))), (q3, .inl (c3, 12, .inr (.inr (.inr (.inr (va_up (va_up (fun _ => none) (0 : Int32).toNatClampNeg (some r0)) (1 : Int32).toNatClampNeg (some r1))))))), (q4, k0), (r0, k0), (r1, k0), (r2, k0)] := hD
  refine va_astq (D := D) (r := (R_K, F_K, 3)) hx hb hK hP hD hS 3 2 7 0 rfl rfl rfl rfl ic_2_12 d_X_init_82 (fun H locs hP hD hS => ?_)
  have hP : va_P D classes [(h0, .inr (1, [.ref q1, .ref q2, .ref q3, .null, .ref q4, .int 0, .int 0, .int 0, .int 0])), (q1, .inl (c1, 256, .inl (fun _ => 0))), (q2, .inl (c2, 128, .inl (fun _ => 0))), (q3, .inl (c3, 12, .inr (.inr (.inr (.inr (va_up (va_up (va_up (fun _ => none) (0 : Int32).toNatClampNeg (some r0)) (1 : Int32).toNatClampNeg (some r1)) (2 : Int32).toNatClampNeg (some r2))))))), (q4, k0), (r0, k0), (r1, k0), (r2, k0)] H := hP
  have hD : va_D A [(h0, .inr (1, [.ref q1, .ref q2, .ref q3, .null, .ref q4, .int 0, .int 0, .int 0, .int 0])), (q1, .inl (c1, 256, .inl (fun _ => 0))), (q2, .inl (c2, 128, .inl (fun _ => 0))), (q3, .inl (c3, 12, .inr (.inr (.inr (.inr (va_up (va_up (va_up (fun _ => none) (0 : Int32).toNatClampNeg (some r0)) (1 : Int32).toNatClampNeg (some r1)) (2 : Int32).toNatClampNeg (some r2))))))), (q4, k0), (r0, k0), (r1, k0), (r2, k0)] := hD
  refine lv_iinc (k := 0) (v := 3) (lv' := [(1, .int 3), (0, .ref h0)]) hx hb d_X_init_83 hl rfl (by decide) (by decide) rfl (fun ls hl => ?_)
  refine lv_goto (tgt := 64) hx hb d_X_init_86 (by decide) ?_
  refine lv_iload_n hx hb d_X_init_64 rfl (lv_at hl 0 rfl) ?_
  refine lv_bipush (v := 12) hx hb d_X_init_65 (by decide) ?_
  refine lv_icmp_ge (tgt := 89) hx hb d_X_init_67 (by decide) (fun h => absurd h (by decide)) (fun _ => ?_)
  refine lv_aload_n hx hb d_X_init_70 rfl (lv_at hl 1 rfl) ?_
  refine va_get (D := D) (ci := 1) (v := .ref q3) (C := R_X) (T := F_X) (N := 9) hx hb hts (fun w hw => List.mem_cons_of_mem _ (u_X w hw)) hown hK hP 0 rfl rfl 2 (by decide) (hts _ (List.mem_cons_of_mem _ k_fl_X_19)) fXs rfl d_X_init_71 ?_
  refine lv_iload_n hx hb d_X_init_74 rfl (lv_at hl 0 rfl) ?_
  refine va_new (D := D) (ci := 0) (fs := [.int 0, .int 0, .int 0]) (C := R_K) (T := F_K) (N := 3) hx hb hts (fun w hw => List.mem_cons_of_mem _ (u_K w hw)) t_K t_K_ok hown (hts _ (List.mem_cons_of_mem _ k_cl_X_17)) (hts _ (List.mem_cons_of_mem _ k_inst_K)) (hts _ (List.mem_cons_of_mem _ k_ini_K)) hK hP hD hS hA rfl (fun j hj => by rcases (show j = 0 ∨ j = 1 ∨ j = 2 by omega) with rfl | rfl | rfl <;> rfl) (Nat.le_of_ble_eq_true rfl) (Nat.le_of_ble_eq_true rfl) d_X_init_75 (fun r3 H hP hD hS => ?_)
  have hP : va_P D classes [(h0, .inr (1, [.ref q1, .ref q2, .ref q3, .null, .ref q4, .int 0, .int 0, .int 0, .int 0])), (q1, .inl (c1, 256, .inl (fun _ => 0))), (q2, .inl (c2, 128, .inl (fun _ => 0))), (q3, .inl (c3, 12, .inr (.inr (.inr (.inr (va_up (va_up (va_up (fun _ => none) (0 : Int32).toNatClampNeg (some r0)) (1 : Int32).toNatClampNeg (some r1)) (2 : Int32).toNatClampNeg (some r2))))))), (q4, k0), (r0, k0), (r1, k0), (r2, k0), (r3, k0)] H := hP
  have hD : va_D A [(h0, .inr (1, [.ref q1, .ref q2, .ref q3, .null, .ref q4, .int 0, .int 0, .int 0, .int 0])), (q1, .inl (c1, 256, .inl (fun _ => 0))), (q2, .inl (c2, 128, .inl (fun _ => 0))), (q3, .inl (c3, 12, .inr (.inr (.inr (.inr (va_up (va_up (va_up (fun _ => none) (0 : Int32).toNatClampNeg (some r0)) (1 : Int32).toNatClampNeg (some r1)) (2 : Int32).toNatClampNeg (some r2))))))), (q4, k0), (r0, k0), (r1, k0), (r2, k0), (r3, k0)] := hD
  refine lv_dup hx hb d_X_init_78 rfl ?_
  have hPc := hP.sub (ws' := [(r3, k0)]) [8] rfl
  have hDc := hD.sub (ws' := [(r3, k0)]) [8] (by decide) rfl
  have hKc := hK.sub (tys' := []) [] rfl
  have hFc := va_free (wc := [(r3, k0)]) hD hS hA [8] rfl
  refine va_callv (va_runIN (As := []) (rest := [.ref r3, .int 3, .ref q3]) ⟨hx, hb, hml, hown, hts⟩ (m_K_init l D r3 H.size) ⟨va_cnB 0 hts (tg_in k_code_K_init) rfl rfl rfl hNm (hts _ (List.mem_cons_of_mem _ k_ini_K)) ⟨by decide, by decide, by decide +kernel⟩ ⟨Nat.le_of_ble_eq_true rfl, Nat.le_of_ble_eq_true rfl⟩, rfl, (hts _ (List.mem_cons_of_mem _ k_im_K_init))⟩ ⟨fun a U g mk q => by obtain ⟨q0, q1, qP, qK, qD⟩ := q; exact ⟨q0, q1, qP, va_K.moved (u := U) (U := U.calling g mk a) (Vm.Alike.refl U.vm) qK, qD⟩, fun U hU hW => ⟨rfl, by rw [hU], by rw [hU]; exact hPc, va_K.moved hW.alike hKc, hDc.weaken (fun _ _ _ _ => trivial)⟩⟩ rfl rfl hl.1 rfl (lv_room (Nat.le_of_ble_eq_true rfl)) d_X_init_79 ⟨Nat.le_of_ble_eq_true rfl, Nat.le_of_ble_eq_true rfl⟩) hS (fun q _ h => hFc q h) hFc (fun u t H1 locs ht hvm hw hB hz1 hk1 hS => ?_)
  obtain ⟨hP1, hD1⟩ := hB
  rw [ht] at hP1
  obtain ⟨hP, hD⟩ := va_join (wr := [(h0, .inr (1, [.ref q1, .ref q2, .ref q3, .null, .ref q4, .int 0, .int 0, .int 0, .int 0])), (q1, .inl (c1, 256, .inl (fun _ => 0))), (q2, .inl (c2, 128, .inl (fun _ => 0))), (q3, .inl (c3, 12, .inr (.inr (.inr (.inr (va_up (va_up (va_up (fun _ => none) (0 : Int32).toNatClampNeg (some r0)) (1 : Int32).toNatClampNeg (some r1)) (2 : Int32).toNatClampNeg (some r2))))))), (q4, k0), (r0, k0), (r1, k0), (r2, k0)]) (w1 := [(r3, k0)]) hP hD [8] [0, 1, 2, 3, 4, 5, 6, 7] rfl rfl (by decide) (by decide) hk1 hFc hP1 hD1
  generalize H1 = H at hP hS ⊢
  have hP : va_P D classes [(h0, .inr (1, [.ref q1, .ref q2, .ref q3, .null, .ref q4, .int 0, .int 0, .int 0, .int 0])), (q1, .inl (c1, 256, .inl (fun _ => 0))), (q2, .inl (c2, 128, .inl (fun _ => 0))), (q3, .inl (c3, 12, .inr (.inr (.inr (.inr (va_up (va_up (va_up (fun _ => none) (0 : Int32).toNatClampNeg (some r0)) (1 : Int32).toNatClampNeg (some r1)) (2 : Int32).toNatClampNeg (some r2))))))), (q4, k0), (r0, k0), (r1, k0), (r2, k0), (r3, k0)] H := hP
  have hD : va_D A [(h0, .inr (1, [.ref q1, .ref q2, .ref q3, .null, .ref q4, .int 0, .int 0, .int 0, .int 0])), (q1, .inl (c1, 256, .inl (fun _ => 0))), (q2, .inl (c2, 128, .inl (fun _ => 0))), (q3, .inl (c3, 12, .inr (.inr (.inr (.inr (va_up (va_up (va_up (fun _ => none) (0 : Int32).toNatClampNeg (some r0)) (1 : Int32).toNatClampNeg (some r1)) (2 : Int32).toNatClampNeg (some r2))))))), (q4, k0), (r0, k0), (r1, k0), (r2, k0), (r3, k0)] := hD
  refine va_astq (D := D) (r := (R_K, F_K, 3)) hx hb hK hP hD hS 3 2 8 0 rfl rfl rfl rfl ic_3_12 d_X_init_82 (fun H locs hP hD hS => ?_)
  have hP : va_P D classes [(h0, .inr (1, [.ref q1, .ref q2, .ref q3, .null, .ref q4, .int 0, .int 0, .int 0, .int 0])), (q1, .inl (c1, 256, .inl (fun _ => 0))), (q2, .inl (c2, 128, .inl (fun _ => 0))), (q3, .inl (c3, 12, .inr (.inr (.inr (.inr (va_up (va_up (va_up (va_up (fun _ => none) (0 : Int32).toNatClampNeg (some r0)) (1 : Int32).toNatClampNeg (some r1)) (2 : Int32).toNatClampNeg (some r2)) (3 : Int32).toNatClampNeg (some r3))))))), (q4, k0), (r0, k0), (r1, k0), (r2, k0), (r3, k0)] H := hP
  have hD : va_D A [(h0, .inr (1, [.ref q1, .ref q2, .ref q3, .null, .ref q4, .int 0, .int 0, .int 0, .int 0])), (q1, .inl (c1, 256, .inl (fun _ => 0))), (q2, .inl (c2, 128, .inl (fun _ => 0))), (q3, .inl (c3, 12, .inr (.inr (.inr (.inr (va_up (va_up (va_up (va_up (fun _ => none) (0 : Int32).toNatClampNeg (some r0)) (1 : Int32).toNatClampNeg (some r1)) (2 : Int32).toNatClampNeg (some r2)) (3 : Int32).toNatClampNeg (some r3))))))), (q4, k0), (r0, k0), (r1, k0), (r2, k0), (r3, k0)] := hD
  refine lv_iinc (k := 0) (v := 4) (lv' := [(1, .int 4), (0, .ref h0)]) hx hb d_X_init_83 hl rfl (by decide) (by decide) rfl (fun ls hl => ?_)
  refine lv_goto (tgt := 64) hx hb d_X_init_86 (by decide) ?_
  refine lv_iload_n hx hb d_X_init_64 rfl (lv_at hl 0 rfl) ?_
  refine lv_bipush (v := 12) hx hb d_X_init_65 (by decide) ?_
  refine lv_icmp_ge (tgt := 89) hx hb d_X_init_67 (by decide) (fun h => absurd h (by decide)) (fun _ => ?_)
  refine lv_aload_n hx hb d_X_init_70 rfl (lv_at hl 1 rfl) ?_
  refine va_get (D := D) (ci := 1) (v := .ref q3) (C := R_X) (T := F_X) (N := 9) hx hb hts (fun w hw => List.mem_cons_of_mem _ (u_X w hw)) hown hK hP 0 rfl rfl 2 (by decide) (hts _ (List.mem_cons_of_mem _ k_fl_X_19)) fXs rfl d_X_init_71 ?_
  refine lv_iload_n hx hb d_X_init_74 rfl (lv_at hl 0 rfl) ?_
  refine va_new (D := D) (ci := 0) (fs := [.int 0, .int 0, .int 0]) (C := R_K) (T := F_K) (N := 3) hx hb hts (fun w hw => List.mem_cons_of_mem _ (u_K w hw)) t_K t_K_ok hown (hts _ (List.mem_cons_of_mem _ k_cl_X_17)) (hts _ (List.mem_cons_of_mem _ k_inst_K)) (hts _ (List.mem_cons_of_mem _ k_ini_K)) hK hP hD hS hA rfl (fun j hj => by rcases (show j = 0 ∨ j = 1 ∨ j = 2 by omega) with rfl | rfl | rfl <;> rfl) (Nat.le_of_ble_eq_true rfl) (Nat.le_of_ble_eq_true rfl) d_X_init_75 (fun r4 H hP hD hS => ?_)
  have hP : va_P D classes [(h0, .inr (1, [.ref q1, .ref q2, .ref q3, .null, .ref q4, .int 0, .int 0, .int 0, .int 0])), (q1, .inl (c1, 256, .inl (fun _ => 0))), (q2, .inl (c2, 128, .inl (fun _ => 0))), (q3, .inl (c3, 12, .inr (.inr (.inr (.inr (va_up (va_up (va_up (va_up (fun _ => none) (0 : Int32).toNatClampNeg (some r0)) (1 : Int32).toNatClampNeg (some r1)) (2 : Int32).toNatClampNeg (some r2)) (3 : Int32).toNatClampNeg (some r3))))))), (q4, k0), (r0, k0), (r1, k0), (r2, k0), (r3, k0), (r4, k0)] H := hP
  have hD : va_D A [(h0, .inr (1, [.ref q1, .ref q2, .ref q3, .null, .ref q4, .int 0, .int 0, .int 0, .int 0])), (q1, .inl (c1, 256, .inl (fun _ => 0))), (q2, .inl (c2, 128, .inl (fun _ => 0))), (q3, .inl (c3, 12, .inr (.inr (.inr (.inr (va_up (va_up (va_up (va_up (fun _ => none) (0 : Int32).toNatClampNeg (some r0)) (1 : Int32).toNatClampNeg (some r1)) (2 : Int32).toNatClampNeg (some r2)) (3 : Int32).toNatClampNeg (some r3))))))), (q4, k0), (r0, k0), (r1, k0), (r2, k0), (r3, k0), (r4, k0)] := hD
  refine lv_dup hx hb d_X_init_78 rfl ?_
  have hPc := hP.sub (ws' := [(r4, k0)]) [9] rfl
  have hDc := hD.sub (ws' := [(r4, k0)]) [9] (by decide) rfl
  have hKc := hK.sub (tys' := []) [] rfl
  have hFc := va_free (wc := [(r4, k0)]) hD hS hA [9] rfl
  refine va_callv (va_runIN (As := []) (rest := [.ref r4, .int 4, .ref q3]) ⟨hx, hb, hml, hown, hts⟩ (m_K_init l D r4 H.size) ⟨va_cnB 0 hts (tg_in k_code_K_init) rfl rfl rfl hNm (hts _ (List.mem_cons_of_mem _ k_ini_K)) ⟨by decide, by decide, by decide +kernel⟩ ⟨Nat.le_of_ble_eq_true rfl, Nat.le_of_ble_eq_true rfl⟩, rfl, (hts _ (List.mem_cons_of_mem _ k_im_K_init))⟩ ⟨fun a U g mk q => by obtain ⟨q0, q1, qP, qK, qD⟩ := q; exact ⟨q0, q1, qP, va_K.moved (u := U) (U := U.calling g mk a) (Vm.Alike.refl U.vm) qK, qD⟩, fun U hU hW => ⟨rfl, by rw [hU], by rw [hU]; exact hPc, va_K.moved hW.alike hKc, hDc.weaken (fun _ _ _ _ => trivial)⟩⟩ rfl rfl hl.1 rfl (lv_room (Nat.le_of_ble_eq_true rfl)) d_X_init_79 ⟨Nat.le_of_ble_eq_true rfl, Nat.le_of_ble_eq_true rfl⟩) hS (fun q _ h => hFc q h) hFc (fun u t H1 locs ht hvm hw hB hz1 hk1 hS => ?_)
  obtain ⟨hP1, hD1⟩ := hB
  rw [ht] at hP1
  obtain ⟨hP, hD⟩ := va_join (wr := [(h0, .inr (1, [.ref q1, .ref q2, .ref q3, .null, .ref q4, .int 0, .int 0, .int 0, .int 0])), (q1, .inl (c1, 256, .inl (fun _ => 0))), (q2, .inl (c2, 128, .inl (fun _ => 0))), (q3, .inl (c3, 12, .inr (.inr (.inr (.inr (va_up (va_up (va_up (va_up (fun _ => none) (0 : Int32).toNatClampNeg (some r0)) (1 : Int32).toNatClampNeg (some r1)) (2 : Int32).toNatClampNeg (some r2)) (3 : Int32).toNatClampNeg (some r3))))))), (q4, k0), (r0, k0), (r1, k0), (r2, k0), (r3, k0)]) (w1 := [(r4, k0)]) hP hD [9] [0, 1, 2, 3, 4, 5, 6, 7, 8] rfl rfl (by decide) (by decide) hk1 hFc hP1 hD1
  generalize H1 = H at hP hS ⊢
  have hP : va_P D classes [(h0, .inr (1, [.ref q1, .ref q2, .ref q3, .null, .ref q4, .int 0, .int 0, .int 0, .int 0])), (q1, .inl (c1, 256, .inl (fun _ => 0))), (q2, .inl (c2, 128, .inl (fun _ => 0))), (q3, .inl (c3, 12, .inr (.inr (.inr (.inr (va_up (va_up (va_up (va_up (fun _ => none) (0 : Int32).toNatClampNeg (some r0)) (1 : Int32).toNatClampNeg (some r1)) (2 : Int32).toNatClampNeg (some r2)) (3 : Int32).toNatClampNeg (some r3))))))), (q4, k0), (r0, k0), (r1, k0), (r2, k0), (r3, k0), (r4, k0)] H := hP
  have hD : va_D A [(h0, .inr (1, [.ref q1, .ref q2, .ref q3, .null, .ref q4, .int 0, .int 0, .int 0, .int 0])), (q1, .inl (c1, 256, .inl (fun _ => 0))), (q2, .inl (c2, 128, .inl (fun _ => 0))), (q3, .inl (c3, 12, .inr (.inr (.inr (.inr (va_up (va_up (va_up (va_up (fun _ => none) (0 : Int32).toNatClampNeg (some r0)) (1 : Int32).toNatClampNeg (some r1)) (2 : Int32).toNatClampNeg (some r2)) (3 : Int32).toNatClampNeg (some r3))))))), (q4, k0), (r0, k0), (r1, k0), (r2, k0), (r3, k0), (r4, k0)] := hD
  refine va_astq (D := D) (r := (R_K, F_K, 3)) hx hb hK hP hD hS 3 2 9 0 rfl rfl rfl rfl ic_4_12 d_X_init_82 (fun H locs hP hD hS => ?_)
  have hP : va_P D classes [(h0, .inr (1, [.ref q1, .ref q2, .ref q3, .null, .ref q4, .int 0, .int 0, .int 0, .int 0])), (q1, .inl (c1, 256, .inl (fun _ => 0))), (q2, .inl (c2, 128, .inl (fun _ => 0))), (q3, .inl (c3, 12, .inr (.inr (.inr (.inr (va_up (va_up (va_up (va_up (va_up (fun _ => none) (0 : Int32).toNatClampNeg (some r0)) (1 : Int32).toNatClampNeg (some r1)) (2 : Int32).toNatClampNeg (some r2)) (3 : Int32).toNatClampNeg (some r3)) (4 : Int32).toNatClampNeg (some r4))))))), (q4, k0), (r0, k0), (r1, k0), (r2, k0), (r3, k0), (r4, k0)] H := hP
  have hD : va_D A [(h0, .inr (1, [.ref q1, .ref q2, .ref q3, .null, .ref q4, .int 0, .int 0, .int 0, .int 0])), (q1, .inl (c1, 256, .inl (fun _ => 0))), (q2, .inl (c2, 128, .inl (fun _ => 0))), (q3, .inl (c3, 12, .inr (.inr (.inr (.inr (va_up (va_up (va_up (va_up (va_up (fun _ => none) (0 : Int32).toNatClampNeg (some r0)) (1 : Int32).toNatClampNeg (some r1)) (2 : Int32).toNatClampNeg (some r2)) (3 : Int32).toNatClampNeg (some r3)) (4 : Int32).toNatClampNeg (some r4))))))), (q4, k0), (r0, k0), (r1, k0), (r2, k0), (r3, k0), (r4, k0)] := hD
  refine lv_iinc (k := 0) (v := 5) (lv' := [(1, .int 5), (0, .ref h0)]) hx hb d_X_init_83 hl rfl (by decide) (by decide) rfl (fun ls hl => ?_)
  refine lv_goto (tgt := 64) hx hb d_X_init_86 (by decide) ?_
  refine lv_iload_n hx hb d_X_init_64 rfl (lv_at hl 0 rfl) ?_
  refine lv_bipush (v := 12) hx hb d_X_init_65 (by decide) ?_
  refine lv_icmp_ge (tgt := 89) hx hb d_X_init_67 (by decide) (fun h => absurd h (by decide)) (fun _ => ?_)
  refine lv_aload_n hx hb d_X_init_70 rfl (lv_at hl 1 rfl) ?_
  refine va_get (D := D) (ci := 1) (v := .ref q3) (C := R_X) (T := F_X) (N := 9) hx hb hts (fun w hw => List.mem_cons_of_mem _ (u_X w hw)) hown hK hP 0 rfl rfl 2 (by decide) (hts _ (List.mem_cons_of_mem _ k_fl_X_19)) fXs rfl d_X_init_71 ?_
  refine lv_iload_n hx hb d_X_init_74 rfl (lv_at hl 0 rfl) ?_
  refine va_new (D := D) (ci := 0) (fs := [.int 0, .int 0, .int 0]) (C := R_K) (T := F_K) (N := 3) hx hb hts (fun w hw => List.mem_cons_of_mem _ (u_K w hw)) t_K t_K_ok hown (hts _ (List.mem_cons_of_mem _ k_cl_X_17)) (hts _ (List.mem_cons_of_mem _ k_inst_K)) (hts _ (List.mem_cons_of_mem _ k_ini_K)) hK hP hD hS hA rfl (fun j hj => by rcases (show j = 0 ∨ j = 1 ∨ j = 2 by omega) with rfl | rfl | rfl <;> rfl) (Nat.le_of_ble_eq_true rfl) (Nat.le_of_ble_eq_true rfl) d_X_init_75 (fun r5 H hP hD hS => ?_)
  have hP : va_P D classes [(h0, .inr (1, [.ref q1, .ref q2, .ref q3, .null, .ref q4, .int 0, .int 0, .int 0, .int 0])), (q1, .inl (c1, 256, .inl (fun _ => 0))), (q2, .inl (c2, 128, .inl (fun _ => 0))), (q3, .inl (c3, 12, .inr (.inr (.inr (.inr (va_up (va_up (va_up (va_up (va_up (fun _ => none) (0 : Int32).toNatClampNeg (some r0)) (1 : Int32).toNatClampNeg (some r1)) (2 : Int32).toNatClampNeg (some r2)) (3 : Int32).toNatClampNeg (some r3)) (4 : Int32).toNatClampNeg (some r4))))))), (q4, k0), (r0, k0), (r1, k0), (r2, k0), (r3, k0), (r4, k0), (r5, k0)] H := hP
  have hD : va_D A [(h0, .inr (1, [.ref q1, .ref q2, .ref q3, .null, .ref q4, .int 0, .int 0, .int 0, .int 0])), (q1, .inl (c1, 256, .inl (fun _ => 0))), (q2, .inl (c2, 128, .inl (fun _ => 0))), (q3, .inl (c3, 12, .inr (.inr (.inr (.inr (va_up (va_up (va_up (va_up (va_up (fun _ => none) (0 : Int32).toNatClampNeg (some r0)) (1 : Int32).toNatClampNeg (some r1)) (2 : Int32).toNatClampNeg (some r2)) (3 : Int32).toNatClampNeg (some r3)) (4 : Int32).toNatClampNeg (some r4))))))), (q4, k0), (r0, k0), (r1, k0), (r2, k0), (r3, k0), (r4, k0), (r5, k0)] := hD
  refine lv_dup hx hb d_X_init_78 rfl ?_
  have hPc := hP.sub (ws' := [(r5, k0)]) [10] rfl
  have hDc := hD.sub (ws' := [(r5, k0)]) [10] (by decide) rfl
  have hKc := hK.sub (tys' := []) [] rfl
  have hFc := va_free (wc := [(r5, k0)]) hD hS hA [10] rfl
  refine va_callv (va_runIN (As := []) (rest := [.ref r5, .int 5, .ref q3]) ⟨hx, hb, hml, hown, hts⟩ (m_K_init l D r5 H.size) ⟨va_cnB 0 hts (tg_in k_code_K_init) rfl rfl rfl hNm (hts _ (List.mem_cons_of_mem _ k_ini_K)) ⟨by decide, by decide, by decide +kernel⟩ ⟨Nat.le_of_ble_eq_true rfl, Nat.le_of_ble_eq_true rfl⟩, rfl, (hts _ (List.mem_cons_of_mem _ k_im_K_init))⟩ ⟨fun a U g mk q => by obtain ⟨q0, q1, qP, qK, qD⟩ := q; exact ⟨q0, q1, qP, va_K.moved (u := U) (U := U.calling g mk a) (Vm.Alike.refl U.vm) qK, qD⟩, fun U hU hW => ⟨rfl, by rw [hU], by rw [hU]; exact hPc, va_K.moved hW.alike hKc, hDc.weaken (fun _ _ _ _ => trivial)⟩⟩ rfl rfl hl.1 rfl (lv_room (Nat.le_of_ble_eq_true rfl)) d_X_init_79 ⟨Nat.le_of_ble_eq_true rfl, Nat.le_of_ble_eq_true rfl⟩) hS (fun q _ h => hFc q h) hFc (fun u t H1 locs ht hvm hw hB hz1 hk1 hS => ?_)
  obtain ⟨hP1, hD1⟩ := hB
  rw [ht] at hP1
  obtain ⟨hP, hD⟩ := va_join (wr := [(h0, .inr (1, [.ref q1, .ref q2, .ref q3, .null, .ref q4, .int 0, .int 0, .int 0, .int 0])), (q1, .inl (c1, 256, .inl (fun _ => 0))), (q2, .inl (c2, 128, .inl (fun _ => 0))), (q3, .inl (c3, 12, .inr (.inr (.inr (.inr (va_up (va_up (va_up (va_up (va_up (fun _ => none) (0 : Int32).toNatClampNeg (some r0)) (1 : Int32).toNatClampNeg (some r1)) (2 : Int32).toNatClampNeg (some r2)) (3 : Int32).toNatClampNeg (some r3)) (4 : Int32).toNatClampNeg (some r4))))))), (q4, k0), (r0, k0), (r1, k0), (r2, k0), (r3, k0), (r4, k0)]) (w1 := [(r5, k0)]) hP hD [10] [0, 1, 2, 3, 4, 5, 6, 7, 8, 9] rfl rfl (by decide) (by decide) hk1 hFc hP1 hD1
  generalize H1 = H at hP hS ⊢
  have hP : va_P D classes [(h0, .inr (1, [.ref q1, .ref q2, .ref q3, .null, .ref q4, .int 0, .int 0, .int 0, .int 0])), (q1, .inl (c1, 256, .inl (fun _ => 0))), (q2, .inl (c2, 128, .inl (fun _ => 0))), (q3, .inl (c3, 12, .inr (.inr (.inr (.inr (va_up (va_up (va_up (va_up (va_up (fun _ => none) (0 : Int32).toNatClampNeg (some r0)) (1 : Int32).toNatClampNeg (some r1)) (2 : Int32).toNatClampNeg (some r2)) (3 : Int32).toNatClampNeg (some r3)) (4 : Int32).toNatClampNeg (some r4))))))), (q4, k0), (r0, k0), (r1, k0), (r2, k0), (r3, k0), (r4, k0), (r5, k0)] H := hP
  have hD : va_D A [(h0, .inr (1, [.ref q1, .ref q2, .ref q3, .null, .ref q4, .int 0, .int 0, .int 0, .int 0])), (q1, .inl (c1, 256, .inl (fun _ => 0))), (q2, .inl (c2, 128, .inl (fun _ => 0))), (q3, .inl (c3, 12, .inr (.inr (.inr (.inr (va_up (va_up (va_up (va_up (va_up (fun _ => none) (0 : Int32).toNatClampNeg (some r0)) (1 : Int32).toNatClampNeg (some r1)) (2 : Int32).toNatClampNeg (some r2)) (3 : Int32).toNatClampNeg (some r3)) (4 : Int32).toNatClampNeg (some r4))))))), (q4, k0), (r0, k0), (r1, k0), (r2, k0), (r3, k0), (r4, k0), (r5, k0)] := hD
  refine va_astq (D := D) (r := (R_K, F_K, 3)) hx hb hK hP hD hS 3 2 10 0 rfl rfl rfl rfl ic_5_12 d_X_init_82 (fun H locs hP hD hS => ?_)
  have hP : va_P D classes [(h0, .inr (1, [.ref q1, .ref q2, .ref q3, .null, .ref q4, .int 0, .int 0, .int 0, .int 0])), (q1, .inl (c1, 256, .inl (fun _ => 0))), (q2, .inl (c2, 128, .inl (fun _ => 0))), (q3, .inl (c3, 12, .inr (.inr (.inr (.inr (va_up (va_up (va_up (va_up (va_up (va_up (fun _ => none) (0 : Int32).toNatClampNeg (some r0)) (1 : Int32).toNatClampNeg (some r1)) (2 : Int32).toNatClampNeg (some r2)) (3 : Int32).toNatClampNeg (some r3)) (4 : Int32).toNatClampNeg (some r4)) (5 : Int32).toNatClampNeg (some r5))))))), (q4, k0), (r0, k0), (r1, k0), (r2, k0), (r3, k0), (r4, k0), (r5, k0)] H := hP
  have hD : va_D A [(h0, .inr (1, [.ref q1, .ref q2, .ref q3, .null, .ref q4, .int 0, .int 0, .int 0, .int 0])), (q1, .inl (c1, 256, .inl (fun _ => 0))), (q2, .inl (c2, 128, .inl (fun _ => 0))), (q3, .inl (c3, 12, .inr (.inr (.inr (.inr (va_up (va_up (va_up (va_up (va_up (va_up (fun _ => none) (0 : Int32).toNatClampNeg (some r0)) (1 : Int32).toNatClampNeg (some r1)) (2 : Int32).toNatClampNeg (some r2)) (3 : Int32).toNatClampNeg (some r3)) (4 : Int32).toNatClampNeg (some r4)) (5 : Int32).toNatClampNeg (some r5))))))), (q4, k0), (r0, k0), (r1, k0), (r2, k0), (r3, k0), (r4, k0), (r5, k0)] := hD
  refine lv_iinc (k := 0) (v := 6) (lv' := [(1, .int 6), (0, .ref h0)]) hx hb d_X_init_83 hl rfl (by decide) (by decide) rfl (fun ls hl => ?_)
  refine lv_goto (tgt := 64) hx hb d_X_init_86 (by decide) ?_
  refine lv_iload_n hx hb d_X_init_64 rfl (lv_at hl 0 rfl) ?_
  refine lv_bipush (v := 12) hx hb d_X_init_65 (by decide) ?_
  refine lv_icmp_ge (tgt := 89) hx hb d_X_init_67 (by decide) (fun h => absurd h (by decide)) (fun _ => ?_)
  refine lv_aload_n hx hb d_X_init_70 rfl (lv_at hl 1 rfl) ?_
  refine va_get (D := D) (ci := 1) (v := .ref q3) (C := R_X) (T := F_X) (N := 9) hx hb hts (fun w hw => List.mem_cons_of_mem _ (u_X w hw)) hown hK hP 0 rfl rfl 2 (by decide) (hts _ (List.mem_cons_of_mem _ k_fl_X_19)) fXs rfl d_X_init_71 ?_
  refine lv_iload_n hx hb d_X_init_74 rfl (lv_at hl 0 rfl) ?_
  refine va_new (D := D) (ci := 0) (fs := [.int 0, .int 0, .int 0]) (C := R_K) (T := F_K) (N := 3) hx hb hts (fun w hw => List.mem_cons_of_mem _ (u_K w hw)) t_K t_K_ok hown (hts _ (List.mem_cons_of_mem _ k_cl_X_17)) (hts _ (List.mem_cons_of_mem _ k_inst_K)) (hts _ (List.mem_cons_of_mem _ k_ini_K)) hK hP hD hS hA rfl (fun j hj => by rcases (show j = 0 ∨ j = 1 ∨ j = 2 by omega) with rfl | rfl | rfl <;> rfl) (Nat.le_of_ble_eq_true rfl) (Nat.le_of_ble_eq_true rfl) d_X_init_75 (fun r6 H hP hD hS => ?_)
  have hP : va_P D classes [(h0, .inr (1, [.ref q1, .ref q2, .ref q3, .null, .ref q4, .int 0, .int 0, .int 0, .int 0])), (q1, .inl (c1, 256, .inl (fun _ => 0))), (q2, .inl (c2, 128, .inl (fun _ => 0))), (q3, .inl (c3, 12, .inr (.inr (.inr (.inr (va_up (va_up (va_up (va_up (va_up (va_up (fun _ => none) (0 : Int32).toNatClampNeg (some r0)) (1 : Int32).toNatClampNeg (some r1)) (2 : Int32).toNatClampNeg (some r2)) (3 : Int32).toNatClampNeg (some r3)) (4 : Int32).toNatClampNeg (some r4)) (5 : Int32).toNatClampNeg (some r5))))))), (q4, k0), (r0, k0), (r1, k0), (r2, k0), (r3, k0), (r4, k0), (r5, k0), (r6, k0)] H := hP
  have hD : va_D A [(h0, .inr (1, [.ref q1, .ref q2, .ref q3, .null, .ref q4, .int 0, .int 0, .int 0, .int 0])), (q1, .inl (c1, 256, .inl (fun _ => 0))), (q2, .inl (c2, 128, .inl (fun _ => 0))), (q3, .inl (c3, 12, .inr (.inr (.inr (.inr (va_up (va_up (va_up (va_up (va_up (va_up (fun _ => none) (0 : Int32).toNatClampNeg (some r0)) (1 : Int32).toNatClampNeg (some r1)) (2 : Int32).toNatClampNeg (some r2)) (3 : Int32).toNatClampNeg (some r3)) (4 : Int32).toNatClampNeg (some r4)) (5 : Int32).toNatClampNeg (some r5))))))), (q4, k0), (r0, k0), (r1, k0), (r2, k0), (r3, k0), (r4, k0), (r5, k0), (r6, k0)] := hD
  refine lv_dup hx hb d_X_init_78 rfl ?_
  have hPc := hP.sub (ws' := [(r6, k0)]) [11] rfl
  have hDc := hD.sub (ws' := [(r6, k0)]) [11] (by decide) rfl
  have hKc := hK.sub (tys' := []) [] rfl
  have hFc := va_free (wc := [(r6, k0)]) hD hS hA [11] rfl
  refine va_callv (va_runIN (As := []) (rest := [.ref r6, .int 6, .ref q3]) ⟨hx, hb, hml, hown, hts⟩ (m_K_init l D r6 H.size) ⟨va_cnB 0 hts (tg_in k_code_K_init) rfl rfl rfl hNm (hts _ (List.mem_cons_of_mem _ k_ini_K)) ⟨by decide, by decide, by decide +kernel⟩ ⟨Nat.le_of_ble_eq_true rfl, Nat.le_of_ble_eq_true rfl⟩, rfl, (hts _ (List.mem_cons_of_mem _ k_im_K_init))⟩ ⟨fun a U g mk q => by obtain ⟨q0, q1, qP, qK, qD⟩ := q; exact ⟨q0, q1, qP, va_K.moved (u := U) (U := U.calling g mk a) (Vm.Alike.refl U.vm) qK, qD⟩, fun U hU hW => ⟨rfl, by rw [hU], by rw [hU]; exact hPc, va_K.moved hW.alike hKc, hDc.weaken (fun _ _ _ _ => trivial)⟩⟩ rfl rfl hl.1 rfl (lv_room (Nat.le_of_ble_eq_true rfl)) d_X_init_79 ⟨Nat.le_of_ble_eq_true rfl, Nat.le_of_ble_eq_true rfl⟩) hS (fun q _ h => hFc q h) hFc (fun u t H1 locs ht hvm hw hB hz1 hk1 hS => ?_)
  obtain ⟨hP1, hD1⟩ := hB
  rw [ht] at hP1
  obtain ⟨hP, hD⟩ := va_join (wr := [(h0, .inr (1, [.ref q1, .ref q2, .ref q3, .null, .ref q4, .int 0, .int 0, .int 0, .int 0])), (q1, .inl (c1, 256, .inl (fun _ => 0))), (q2, .inl (c2, 128, .inl (fun _ => 0))), (q3, .inl (c3, 12, .inr (.inr (.inr (.inr (va_up (va_up (va_up (va_up (va_up (va_up (fun _ => none) (0 : Int32).toNatClampNeg (some r0)) (1 : Int32).toNatClampNeg (some r1)) (2 : Int32).toNatClampNeg (some r2)) (3 : Int32).toNatClampNeg (some r3)) (4 : Int32).toNatClampNeg (some r4)) (5 : Int32).toNatClampNeg (some r5))))))), (q4, k0), (r0, k0), (r1, k0), (r2, k0), (r3, k0), (r4, k0), (r5, k0)]) (w1 := [(r6, k0)]) hP hD [11] [0, 1, 2, 3, 4, 5, 6, 7, 8, 9, 10] rfl rfl (by decide) (by decide) hk1 hFc hP1 hD1
  generalize H1 = H at hP hS ⊢
  have hP : va_P D classes [(h0, .inr (1, [.ref q1, .ref q2, .ref q3, .null, .ref q4, .int 0, .int 0, .int 0, .int 0])), (q1, .inl (c1, 256, .inl (fun _ => 0))), (q2, .inl (c2, 128, .inl (fun _ => 0))), (q3, .inl (c3, 12, .inr (.inr (.inr (.inr (va_up (va_up (va_up (va_up (va_up (va_up (fun _ => none) (0 : Int32).toNatClampNeg (some r0)) (1 : Int32).toNatClampNeg (some r1)) (2 : Int32).toNatClampNeg (some r2)) (3 : Int32).toNatClampNeg (some r3)) (4 : Int32).toNatClampNeg (some r4)) (5 : Int32).toNatClampNeg (some r5))))))), (q4, k0), (r0, k0), (r1, k0), (r2, k0), (r3, k0), (r4, k0), (r5, k0), (r6, k0)] H := hP
  have hD : va_D A [(h0, .inr (1, [.ref q1, .ref q2, .ref q3, .null, .ref q4, .int 0, .int 0, .int 0, .int 0])), (q1, .inl (c1, 256, .inl (fun _ => 0))), (q2, .inl (c2, 128, .inl (fun _ => 0))), (q3, .inl (c3, 12, .inr (.inr (.inr (.inr (va_up (va_up (va_up (va_up (va_up (va_up (fun _ => none) (0 : Int32).toNatClampNeg (some r0)) (1 : Int32).toNatClampNeg (some r1)) (2 : Int32).toNatClampNeg (some r2)) (3 : Int32).toNatClampNeg (some r3)) (4 : Int32).toNatClampNeg (some r4)) (5 : Int32).toNatClampNeg (some r5))))))), (q4, k0), (r0, k0), (r1, k0), (r2, k0), (r3, k0), (r4, k0), (r5, k0), (r6, k0)] := hD
  refine va_astq (D := D) (r := (R_K, F_K, 3)) hx hb hK hP hD hS 3 2 11 0 rfl rfl rfl rfl ic_6_12 d_X_init_82 (fun H locs hP hD hS => ?_)
  have hP : va_P D classes [(h0, .inr (1, [.ref q1, .ref q2, .ref q3, .null, .ref q4, .int 0, .int 0, .int 0, .int 0])), (q1, .inl (c1, 256, .inl (fun _ => 0))), (q2, .inl (c2, 128, .inl (fun _ => 0))), (q3, .inl (c3, 12, .inr (.inr (.inr (.inr (va_up (va_up (va_up (va_up (va_up (va_up (va_up (fun _ => none) (0 : Int32).toNatClampNeg (some r0)) (1 : Int32).toNatClampNeg (some r1)) (2 : Int32).toNatClampNeg (some r2)) (3 : Int32).toNatClampNeg (some r3)) (4 : Int32).toNatClampNeg (some r4)) (5 : Int32).toNatClampNeg (some r5)) (6 : Int32).toNatClampNeg (some r6))))))), (q4, k0), (r0, k0), (r1, k0), (r2, k0), (r3, k0), (r4, k0), (r5, k0), (r6, k0)] H := hP
  have hD : va_D A [(h0, .inr (1, [.ref q1, .ref q2, .ref q3, .null, .ref q4, .int 0, .int 0, .int 0, .int 0])), (q1, .inl (c1, 256, .inl (fun _ => 0))), (q2, .inl (c2, 128, .inl (fun _ => 0))), (q3, .inl (c3, 12, .inr (.inr (.inr (.inr (va_up (va_up (va_up (va_up (va_up (va_up (va_up (fun _ => none) (0 : Int32).toNatClampNeg (some r0)) (1 : Int32).toNatClampNeg (some r1)) (2 : Int32).toNatClampNeg (some r2)) (3 : Int32).toNatClampNeg (some r3)) (4 : Int32).toNatClampNeg (some r4)) (5 : Int32).toNatClampNeg (some r5)) (6 : Int32).toNatClampNeg (some r6))))))), (q4, k0), (r0, k0), (r1, k0), (r2, k0), (r3, k0), (r4, k0), (r5, k0), (r6, k0)] := hD
  refine lv_iinc (k := 0) (v := 7) (lv' := [(1, .int 7), (0, .ref h0)]) hx hb d_X_init_83 hl rfl (by decide) (by decide) rfl (fun ls hl => ?_)
  refine lv_goto (tgt := 64) hx hb d_X_init_86 (by decide) ?_
  refine lv_iload_n hx hb d_X_init_64 rfl (lv_at hl 0 rfl) ?_
  refine lv_bipush (v := 12) hx hb d_X_init_65 (by decide) ?_
  refine lv_icmp_ge (tgt := 89) hx hb d_X_init_67 (by decide) (fun h => absurd h (by decide)) (fun _ => ?_)
  refine lv_aload_n hx hb d_X_init_70 rfl (lv_at hl 1 rfl) ?_
  refine va_get (D := D) (ci := 1) (v := .ref q3) (C := R_X) (T := F_X) (N := 9) hx hb hts (fun w hw => List.mem_cons_of_mem _ (u_X w hw)) hown hK hP 0 rfl rfl 2 (by decide) (hts _ (List.mem_cons_of_mem _ k_fl_X_19)) fXs rfl d_X_init_71 ?_
  refine lv_iload_n hx hb d_X_init_74 rfl (lv_at hl 0 rfl) ?_
  refine va_new (D := D) (ci := 0) (fs := [.int 0, .int 0, .int 0]) (C := R_K) (T := F_K) (N := 3) hx hb hts (fun w hw => List.mem_cons_of_mem _ (u_K w hw)) t_K t_K_ok hown (hts _ (List.mem_cons_of_mem _ k_cl_X_17)) (hts _ (List.mem_cons_of_mem _ k_inst_K)) (hts _ (List.mem_cons_of_mem _ k_ini_K)) hK hP hD hS hA rfl (fun j hj => by rcases (show j = 0 ∨ j = 1 ∨ j = 2 by omega) with rfl | rfl | rfl <;> rfl) (Nat.le_of_ble_eq_true rfl) (Nat.le_of_ble_eq_true rfl) d_X_init_75 (fun r7 H hP hD hS => ?_)
  have hP : va_P D classes [(h0, .inr (1, [.ref q1, .ref q2, .ref q3, .null, .ref q4, .int 0, .int 0, .int 0, .int 0])), (q1, .inl (c1, 256, .inl (fun _ => 0))), (q2, .inl (c2, 128, .inl (fun _ => 0))), (q3, .inl (c3, 12, .inr (.inr (.inr (.inr (va_up (va_up (va_up (va_up (va_up (va_up (va_up (fun _ => none) (0 : Int32).toNatClampNeg (some r0)) (1 : Int32).toNatClampNeg (some r1)) (2 : Int32).toNatClampNeg (some r2)) (3 : Int32).toNatClampNeg (some r3)) (4 : Int32).toNatClampNeg (some r4)) (5 : Int32).toNatClampNeg (some r5)) (6 : Int32).toNatClampNeg (some r6))))))), (q4, k0), (r0, k0), (r1, k0), (r2, k0), (r3, k0), (r4, k0), (r5, k0), (r6, k0), (r7, k0)] H := hP
  have hD : va_D A [(h0, .inr (1, [.ref q1, .ref q2, .ref q3, .null, .ref q4, .int 0, .int 0, .int 0, .int 0])), (q1, .inl (c1, 256, .inl (fun _ => 0))), (q2, .inl (c2, 128, .inl (fun _ => 0))), (q3, .inl (c3, 12, .inr (.inr (.inr (.inr (va_up (va_up (va_up (va_up (va_up (va_up (va_up (fun _ => none) (0 : Int32).toNatClampNeg (some r0)) (1 : Int32).toNatClampNeg (some r1)) (2 : Int32).toNatClampNeg (some r2)) (3 : Int32).toNatClampNeg (some r3)) (4 : Int32).toNatClampNeg (some r4)) (5 : Int32).toNatClampNeg (some r5)) (6 : Int32).toNatClampNeg (some r6))))))), (q4, k0), (r0, k0), (r1, k0), (r2, k0), (r3, k0), (r4, k0), (r5, k0), (r6, k0), (r7, k0)] := hD
  refine lv_dup hx hb d_X_init_78 rfl ?_
  have hPc := hP.sub (ws' := [(r7, k0)]) [12] rfl
  have hDc := hD.sub (ws' := [(r7, k0)]) [12] (by decide) rfl
  have hKc := hK.sub (tys' := []) [] rfl
  have hFc := va_free (wc := [(r7, k0)]) hD hS hA [12] rfl
  refine va_callv (va_runIN (As := []) (rest := [.ref r7, .int 7, .ref q3]) ⟨hx, hb, hml, hown, hts⟩ (m_K_init l D r7 H.size) ⟨va_cnB 0 hts (tg_in k_code_K_init) rfl rfl rfl hNm (hts _ (List.mem_cons_of_mem _ k_ini_K)) ⟨by decide, by decide, by decide +kernel⟩ ⟨Nat.le_of_ble_eq_true rfl, Nat.le_of_ble_eq_true rfl⟩, rfl, (hts _ (List.mem_cons_of_mem _ k_im_K_init))⟩ ⟨fun a U g mk q => by obtain ⟨q0, q1, qP, qK, qD⟩ := q; exact ⟨q0, q1, qP, va_K.moved (u := U) (U := U.calling g mk a) (Vm.Alike.refl U.vm) qK, qD⟩, fun U hU hW => ⟨rfl, by rw [hU], by rw [hU]; exact hPc, va_K.moved hW.alike hKc, hDc.weaken (fun _ _ _ _ => trivial)⟩⟩ rfl rfl hl.1 rfl (lv_room (Nat.le_of_ble_eq_true rfl)) d_X_init_79 ⟨Nat.le_of_ble_eq_true rfl, Nat.le_of_ble_eq_true rfl⟩) hS (fun q _ h => hFc q h) hFc (fun u t H1 locs ht hvm hw hB hz1 hk1 hS => ?_)
  obtain ⟨hP1, hD1⟩ := hB
  rw [ht] at hP1
  obtain ⟨hP, hD⟩ := va_join (wr := [(h0, .inr (1, [.ref q1, .ref q2, .ref q3, .null, .ref q4, .int 0, .int 0, .int 0, .int 0])), (q1, .inl (c1, 256, .inl (fun _ => 0))), (q2, .inl (c2, 128, .inl (fun _ => 0))), (q3, .inl (c3, 12, .inr (.inr (.inr (.inr (va_up (va_up (va_up (va_up (va_up (va_up (va_up (fun _ => none) (0 : Int32).toNatClampNeg (some r0)) (1 : Int32).toNatClampNeg (some r1)) (2 : Int32).toNatClampNeg (some r2)) (3 : Int32).toNatClampNeg (some r3)) (4 : Int32).toNatClampNeg (some r4)) (5 : Int32).toNatClampNeg (some r5)) (6 : Int32).toNatClampNeg (some r6))))))), (q4, k0), (r0, k0), (r1, k0), (r2, k0), (r3, k0), (r4, k0), (r5, k0), (r6, k0)]) (w1 := [(r7, k0)]) hP hD [12] [0, 1, 2, 3, 4, 5, 6, 7, 8, 9, 10, 11] rfl rfl (by decide) (by decide) hk1 hFc hP1 hD1
  generalize H1 = H at hP hS ⊢
  have hP : va_P D classes [(h0, .inr (1, [.ref q1, .ref q2, .ref q3, .null, .ref q4, .int 0, .int 0, .int 0, .int 0])), (q1, .inl (c1, 256, .inl (fun _ => 0))), (q2, .inl (c2, 128, .inl (fun _ => 0))), (q3, .inl (c3, 12, .inr (.inr (.inr (.inr (va_up (va_up (va_up (va_up (va_up (va_up (va_up (fun _ => none) (0 : Int32).toNatClampNeg (some r0)) (1 : Int32).toNatClampNeg (some r1)) (2 : Int32).toNatClampNeg (some r2)) (3 : Int32).toNatClampNeg (some r3)) (4 : Int32).toNatClampNeg (some r4)) (5 : Int32).toNatClampNeg (some r5)) (6 : Int32).toNatClampNeg (some r6))))))), (q4, k0), (r0, k0), (r1, k0), (r2, k0), (r3, k0), (r4, k0), (r5, k0), (r6, k0), (r7, k0)] H := hP
  have hD : va_D A [(h0, .inr (1, [.ref q1, .ref q2, .ref q3, .null, .ref q4, .int 0, .int 0, .int 0, .int 0])), (q1, .inl (c1, 256, .inl (fun _ => 0))), (q2, .inl (c2, 128, .inl (fun _ => 0))), (q3, .inl (c3, 12, .inr (.inr (.inr (.inr (va_up (va_up (va_up (va_up (va_up (va_up (va_up (fun _ => none) (0 : Int32).toNatClampNeg (some r0)) (1 : Int32).toNatClampNeg (some r1)) (2 : Int32).toNatClampNeg (some r2)) (3 : Int32).toNatClampNeg (some r3)) (4 : Int32).toNatClampNeg (some r4)) (5 : Int32).toNatClampNeg (some r5)) (6 : Int32).toNatClampNeg (some r6))))))), (q4, k0), (r0, k0), (r1, k0), (r2, k0), (r3, k0), (r4, k0), (r5, k0), (r6, k0), (r7, k0)] := hD
  refine va_astq (D := D) (r := (R_K, F_K, 3)) hx hb hK hP hD hS 3 2 12 0 rfl rfl rfl rfl ic_7_12 d_X_init_82 (fun H locs hP hD hS => ?_)
  have hP : va_P D classes [(h0, .inr (1, [.ref q1, .ref q2, .ref q3, .null, .ref q4, .int 0, .int 0, .int 0, .int 0])), (q1, .inl (c1, 256, .inl (fun _ => 0))), (q2, .inl (c2, 128, .inl (fun _ => 0))), (q3, .inl (c3, 12, .inr (.inr (.inr (.inr (va_up (va_up (va_up (va_up (va_up (va_up (va_up (va_up (fun _ => none) (0 : Int32).toNatClampNeg (some r0)) (1 : Int32).toNatClampNeg (some r1)) (2 : Int32).toNatClampNeg (some r2)) (3 : Int32).toNatClampNeg (some r3)) (4 : Int32).toNatClampNeg (some r4)) (5 : Int32).toNatClampNeg (some r5)) (6 : Int32).toNatClampNeg (some r6)) (7 : Int32).toNatClampNeg (some r7))))))), (q4, k0), (r0, k0), (r1, k0), (r2, k0), (r3, k0), (r4, k0), (r5, k0), (r6, k0), (r7, k0)] H := hP
  have hD : va_D A [(h0, .inr (1, [.ref q1, .ref q2, .ref q3, .null, .ref q4, .int 0, .int 0, .int 0, .int 0])), (q1, .inl (c1, 256, .inl (fun _ => 0))), (q2, .inl (c2, 128, .inl (fun _ => 0))), (q3, .inl (c3, 12, .inr (.inr (.inr (.inr (va_up (va_up (va_up (va_up (va_up (va_up (va_up (va_up (fun _ => none) (0 : Int32).toNatClampNeg (some r0)) (1 : Int32).toNatClampNeg (some r1)) (2 : Int32).toNatClampNeg (some r2)) (3 : Int32).toNatClampNeg (some r3)) (4 : Int32).toNatClampNeg (some r4)) (5 : Int32).toNatClampNeg (some r5)) (6 : Int32).toNatClampNeg (some r6)) (7 : Int32).toNatClampNeg (some r7))))))), (q4, k0), (r0, k0), (r1, k0), (r2, k0), (r3, k0), (r4, k0), (r5, k0), (r6, k0), (r7, k0)] := hD
  refine lv_iinc (k := 0) (v := 8) (lv' := [(1, .int 8), (0, .ref h0)]) hx hb d_X_init_83 hl rfl (by decide) (by decide) rfl (fun ls hl => ?_)
  refine lv_goto (tgt := 64) hx hb d_X_init_86 (by decide) ?_
  refine lv_iload_n hx hb d_X_init_64 rfl (lv_at hl 0 rfl) ?_
  refine lv_bipush (v := 12) hx hb d_X_init_65 (by decide) ?_
  refine lv_icmp_ge (tgt := 89) hx hb d_X_init_67 (by decide) (fun h => absurd h (by decide)) (fun _ => ?_)
  refine lv_aload_n hx hb d_X_init_70 rfl (lv_at hl 1 rfl) ?_
  refine va_get (D := D) (ci := 1) (v := .ref q3) (C := R_X) (T := F_X) (N := 9) hx hb hts (fun w hw => List.mem_cons_of_mem _ (u_X w hw)) hown hK hP 0 rfl rfl 2 (by decide) (hts _ (List.mem_cons_of_mem _ k_fl_X_19)) fXs rfl d_X_init_71 ?_
  refine lv_iload_n hx hb d_X_init_74 rfl (lv_at hl 0 rfl) ?_
  refine va_new (D := D) (ci := 0) (fs := [.int 0, .int 0, .int 0]) (C := R_K) (T := F_K) (N := 3) hx hb hts (fun w hw => List.mem_cons_of_mem _ (u_K w hw)) t_K t_K_ok hown (hts _ (List.mem_cons_of_mem _ k_cl_X_17)) (hts _ (List.mem_cons_of_mem _ k_inst_K)) (hts _ (List.mem_cons_of_mem _ k_ini_K)) hK hP hD hS hA rfl (fun j hj => by rcases (show j = 0 ∨ j = 1 ∨ j = 2 by omega) with rfl | rfl | rfl <;> rfl) (Nat.le_of_ble_eq_true rfl) (Nat.le_of_ble_eq_true rfl) d_X_init_75 (fun r8 H hP hD hS => ?_)
  have hP : va_P D classes [(h0, .inr (1, [.ref q1, .ref q2, .ref q3, .null, .ref q4, .int 0, .int 0, .int 0, .int 0])), (q1, .inl (c1, 256, .inl (fun _ => 0))), (q2, .inl (c2, 128, .inl (fun _ => 0))), (q3, .inl (c3, 12, .inr (.inr (.inr (.inr (va_up (va_up (va_up (va_up (va_up (va_up (va_up (va_up (fun _ => none) (0 : Int32).toNatClampNeg (some r0)) (1 : Int32).toNatClampNeg (some r1)) (2 : Int32).toNatClampNeg (some r2)) (3 : Int32).toNatClampNeg (some r3)) (4 : Int32).toNatClampNeg (some r4)) (5 : Int32).toNatClampNeg (some r5)) (6 : Int32).toNatClampNeg (some r6)) (7 : Int32).toNatClampNeg (some r7))))))), (q4, k0), (r0, k0), (r1, k0), (r2, k0), (r3, k0), (r4, k0), (r5, k0), (r6, k0), (r7, k0), (r8, k0)] H := hP
  have hD : va_D A [(h0, .inr (1, [.ref q1, .ref q2, .ref q3, .null, .ref q4, .int 0, .int 0, .int 0, .int 0])), (q1, .inl (c1, 256, .inl (fun _ => 0))), (q2, .inl (c2, 128, .inl (fun _ => 0))), (q3, .inl (c3, 12, .inr (.inr (.inr (.inr (va_up (va_up (va_up (va_up (va_up (va_up (va_up (va_up (fun _ => none) (0 : Int32).toNatClampNeg (some r0)) (1 : Int32).toNatClampNeg (some r1)) (2 : Int32).toNatClampNeg (some r2)) (3 : Int32).toNatClampNeg (some r3)) (4 : Int32).toNatClampNeg (some r4)) (5 : Int32).toNatClampNeg (some r5)) (6 : Int32).toNatClampNeg (some r6)) (7 : Int32).toNatClampNeg (some r7))))))), (q4, k0), (r0, k0), (r1, k0), (r2, k0), (r3, k0), (r4, k0), (r5, k0), (r6, k0), (r7, k0), (r8, k0)] := hD
  refine lv_dup hx hb d_X_init_78 rfl ?_
  have hPc := hP.sub (ws' := [(r8, k0)]) [13] rfl
  have hDc := hD.sub (ws' := [(r8, k0)]) [13] (by decide) rfl
  have hKc := hK.sub (tys' := []) [] rfl
  have hFc := va_free (wc := [(r8, k0)]) hD hS hA [13] rfl
  refine va_callv (va_runIN (As := []) (rest := [.ref r8, .int 8, .ref q3]) ⟨hx, hb, hml, hown, hts⟩ (m_K_init l D r8 H.size) ⟨va_cnB 0 hts (tg_in k_code_K_init) rfl rfl rfl hNm (hts _ (List.mem_cons_of_mem _ k_ini_K)) ⟨by decide, by decide, by decide +kernel⟩ ⟨Nat.le_of_ble_eq_true rfl, Nat.le_of_ble_eq_true rfl⟩, rfl, (hts _ (List.mem_cons_of_mem _ k_im_K_init))⟩ ⟨fun a U g mk q => by obtain ⟨q0, q1, qP, qK, qD⟩ := q; exact ⟨q0, q1, qP, va_K.moved (u := U) (U := U.calling g mk a) (Vm.Alike.refl U.vm) qK, qD⟩, fun U hU hW => ⟨rfl, by rw [hU], by rw [hU]; exact hPc, va_K.moved hW.alike hKc, hDc.weaken (fun _ _ _ _ => trivial)⟩⟩ rfl rfl hl.1 rfl (lv_room (Nat.le_of_ble_eq_true rfl)) d_X_init_79 ⟨Nat.le_of_ble_eq_true rfl, Nat.le_of_ble_eq_true rfl⟩) hS (fun q _ h => hFc q h) hFc (fun u t H1 locs ht hvm hw hB hz1 hk1 hS => ?_)
  obtain ⟨hP1, hD1⟩ := hB
  rw [ht] at hP1
  obtain ⟨hP, hD⟩ := va_join (wr := [(h0, .inr (1, [.ref q1, .ref q2, .ref q3, .null, .ref q4, .int 0, .int 0, .int 0, .int 0])), (q1, .inl (c1, 256, .inl (fun _ => 0))), (q2, .inl (c2, 128, .inl (fun _ => 0))), (q3, .inl (c3, 12, .inr (.inr (.inr (.inr (va_up (va_up (va_up (va_up (va_up (va_up (va_up (va_up (fun _ => none) (0 : Int32).toNatClampNeg (some r0)) (1 : Int32).toNatClampNeg (some r1)) (2 : Int32).toNatClampNeg (some r2)) (3 : Int32).toNatClampNeg (some r3)) (4 : Int32).toNatClampNeg (some r4)) (5 : Int32).toNatClampNeg (some r5)) (6 : Int32).toNatClampNeg (some r6)) (7 : Int32).toNatClampNeg (some r7))))))), (q4, k0), (r0, k0), (r1, k0), (r2, k0), (r3, k0), (r4, k0), (r5, k0), (r6, k0), (r7, k0)]) (w1 := [(r8, k0)]) hP hD [13] [0, 1, 2, 3, 4, 5, 6, 7, 8, 9, 10, 11, 12] rfl rfl (by decide) (by decide) hk1 hFc hP1 hD1
  generalize H1 = H at hP hS ⊢
  have hP : va_P D classes [(h0, .inr (1, [.ref q1, .ref q2, .ref q3, .null, .ref q4, .int 0, .int 0, .int 0, .int 0])), (q1, .inl (c1, 256, .inl (fun _ => 0))), (q2, .inl (c2, 128, .inl (fun _ => 0))), (q3, .inl (c3, 12, .inr (.inr (.inr (.inr (va_up (va_up (va_up (va_up (va_up (va_up (va_up (va_up (fun _ => none) (0 : Int32).toNatClampNeg (some r0)) (1 : Int32).toNatClampNeg (some r1)) (2 : Int32).toNatClampNeg (some r2)) (3 : Int32).toNatClampNeg (some r3)) (4 : Int32).toNatClampNeg (some r4)) (5 : Int32).toNatClampNeg (some r5)) (6 : Int32).toNatClampNeg (some r6)) (7 : Int32).toNatClampNeg (some r7))))))), (q4, k0), (r0, k0), (r1, k0), (r2, k0), (r3, k0), (r4, k0), (r5, k0), (r6, k0), (r7, k0), (r8, k0)] H := hP
  have hD : va_D A [(h0, .inr (1, [.ref q1, .ref q2, .ref q3, .null, .ref q4, .int 0, .int 0, .int 0, .int 0])), (q1, .inl (c1, 256, .inl (fun _ => 0))), (q2, .inl (c2, 128, .inl (fun _ => 0))), (q3, .inl (c3, 12, .inr (.inr (.inr (.inr (va_up (va_up (va_up (va_up (va_up (va_up (va_up (va_up (fun _ => none) (0 : Int32).toNatClampNeg (some r0)) (1 : Int32).toNatClampNeg (some r1)) (2 : Int32).toNatClampNeg (some r2)) (3 : Int32).toNatClampNeg (some r3)) (4 : Int32).toNatClampNeg (some r4)) (5 : Int32).toNatClampNeg (some r5)) (6 : Int32).toNatClampNeg (some r6)) (7 : Int32).toNatClampNeg (some r7))))))), (q4, k0), (r0, k0), (r1, k0), (r2, k0), (r3, k0), (r4, k0), (r5, k0), (r6, k0), (r7, k0), (r8, k0)] := hD
  refine va_astq (D := D) (r := (R_K, F_K, 3)) hx hb hK hP hD hS 3 2 13 0 rfl rfl rfl rfl ic_8_12 d_X_init_82 (fun H locs hP hD hS => ?_)
  have hP : va_P D classes [(h0, .inr (1, [.ref q1, .ref q2, .ref q3, .null, .ref q4, .int 0, .int 0, .int 0, .int 0])), (q1, .inl (c1, 256, .inl (fun _ => 0))), (q2, .inl (c2, 128, .inl (fun _ => 0))), (q3, .inl (c3, 12, .inr (.inr (.inr (.inr (va_up (va_up (va_up (va_up (va_up (va_up (va_up (va_up (va_up (fun _ => none) (0 : Int32).toNatClampNeg (some r0)) (1 : Int32).toNatClampNeg (some r1)) (2 : Int32).toNatClampNeg (some r2)) (3 : Int32).toNatClampNeg (some r3)) (4 : Int32).toNatClampNeg (some r4)) (5 : Int32).toNatClampNeg (some r5)) (6 : Int32).toNatClampNeg (some r6)) (7 : Int32).toNatClampNeg (some r7)) (8 : Int32).toNatClampNeg (some r8))))))), (q4, k0), (r0, k0), (r1, k0), (r2, k0), (r3, k0), (r4, k0), (r5, k0), (r6, k0), (r7, k0), (r8, k0)] H := hP
  have hD : va_D A [(h0, .inr (1, [.ref q1, .ref q2, .ref q3, .null, .ref q4, .int 0, .int 0, .int 0, .int 0])), (q1, .inl (c1, 256, .inl (fun _ => 0))), (q2, .inl (c2, 128, .inl (fun _ => 0))), (q3, .inl (c3, 12, .inr (.inr (.inr (.inr (va_up (va_up (va_up (va_up (va_up (va_up (va_up (va_up (va_up (fun _ => none) (0 : Int32).toNatClampNeg (some r0)) (1 : Int32).toNatClampNeg (some r1)) (2 : Int32).toNatClampNeg (some r2)) (3 : Int32).toNatClampNeg (some r3)) (4 : Int32).toNatClampNeg (some r4)) (5 : Int32).toNatClampNeg (some r5)) (6 : Int32).toNatClampNeg (some r6)) (7 : Int32).toNatClampNeg (some r7)) (8 : Int32).toNatClampNeg (some r8))))))), (q4, k0), (r0, k0), (r1, k0), (r2, k0), (r3, k0), (r4, k0), (r5, k0), (r6, k0), (r7, k0), (r8, k0)] := hD
  refine lv_iinc (k := 0) (v := 9) (lv' := [(1, .int 9), (0, .ref h0)]) hx hb d_X_init_83 hl rfl (by decide) (by decide) rfl (fun ls hl => ?_)
  refine lv_goto (tgt := 64) hx hb d_X_init_86 (by decide) ?_
  refine lv_iload_n hx hb d_X_init_64 rfl (lv_at hl 0 rfl) ?_
  refine lv_bipush (v := 12) hx hb d_X_init_65 (by decide) ?_
  refine lv_icmp_ge (tgt := 89) hx hb d_X_init_67 (by decide) (fun h => absurd h (by decide)) (fun _ => ?_)
  refine lv_aload_n hx hb d_X_init_70 rfl (lv_at hl 1 rfl) ?_
  refine va_get (D := D) (ci := 1) (v := .ref q3) (C := R_X) (T := F_X) (N := 9) hx hb hts (fun w hw => List.mem_cons_of_mem _ (u_X w hw)) hown hK hP 0 rfl rfl 2 (by decide) (hts _ (List.mem_cons_of_mem _ k_fl_X_19)) fXs rfl d_X_init_71 ?_
  refine lv_iload_n hx hb d_X_init_74 rfl (lv_at hl 0 rfl) ?_
  refine va_new (D := D) (ci := 0) (fs := [.int 0, .int 0, .int 0]) (C := R_K) (T := F_K) (N := 3) hx hb hts (fun w hw => List.mem_cons_of_mem _ (u_K w hw)) t_K t_K_ok hown (hts _ (List.mem_cons_of_mem _ k_cl_X_17)) (hts _ (List.mem_cons_of_mem _ k_inst_K)) (hts _ (List.mem_cons_of_mem _ k_ini_K)) hK hP hD hS hA rfl (fun j hj => by rcases (show j = 0 ∨ j = 1 ∨ j = 2 by omega) with rfl | rfl | rfl <;> rfl) (Nat.le_of_ble_eq_true rfl) (Nat.le_of_ble_eq_true rfl) d_X_init_75 (fun r9 H hP hD hS => ?_)
  have hP : va_P D classes [(h0, .inr (1, [.ref q1, .ref q2, .ref q3, .null, .ref q4, .int 0, .int 0, .int 0, .int 0])), (q1, .inl (c1, 256, .inl (fun _ => 0))), (q2, .inl (c2, 128, .inl (fun _ => 0))), (q3, .inl (c3, 12, .inr (.inr (.inr (.inr (va_up (va_up (va_up (va_up (va_up (va_up (va_up (va_up (va_up (fun _ => none) (0 : Int32).toNatClampNeg (some r0)) (1 : Int32).toNatClampNeg (some r1)) (2 : Int32).toNatClampNeg (some r2)) (3 : Int32).toNatClampNeg (some r3)) (4 : Int32).toNatClampNeg (some r4)) (5 : Int32).toNatClampNeg (some r5)) (6 : Int32).toNatClampNeg (some r6)) (7 : Int32).toNatClampNeg (some r7)) (8 : Int32).toNatClampNeg (some r8))))))), (q4, k0), (r0, k0), (r1, k0), (r2, k0), (r3, k0), (r4, k0), (r5, k0), (r6, k0), (r7, k0), (r8, k0), (r9, k0)] H := hP
  have hD : va_D A [(h0, .inr (1, [.ref q1, .ref q2, .ref q3, .null, .ref q4, .int 0, .int 0, .int 0, .int 0])), (q1, .inl (c1, 256, .inl (fun _ => 0))), (q2, .inl (c2, 128, .inl (fun _ => 0))), (q3, .inl (c3, 12, .inr (.inr (.inr (.inr (va_up (va_up (va_up (va_up (va_up (va_up (va_up (va_up (va_up (fun _ => none) (0 : Int32).toNatClampNeg (some r0)) (1 : Int32).toNatClampNeg (some r1)) (2 : Int32).toNatClampNeg (some r2)) (3 : Int32).toNatClampNeg (some r3)) (4 : Int32).toNatClampNeg (some r4)) (5 : Int32).toNatClampNeg (some r5)) (6 : Int32).toNatClampNeg (some r6)) (7 : Int32).toNatClampNeg (some r7)) (8 : Int32).toNatClampNeg (some r8))))))), (q4, k0), (r0, k0), (r1, k0), (r2, k0), (r3, k0), (r4, k0), (r5, k0), (r6, k0), (r7, k0), (r8, k0), (r9, k0)] := hD
  refine lv_dup hx hb d_X_init_78 rfl ?_
  have hPc := hP.sub (ws' := [(r9, k0)]) [14] rfl
  have hDc := hD.sub (ws' := [(r9, k0)]) [14] (by decide) rfl
  have hKc := hK.sub (tys' := []) [] rfl
  have hFc := va_free (wc := [(r9, k0)]) hD hS hA [14] rfl
  refine va_callv (va_runIN (As := []) (rest := [.ref r9, .int 9, .ref q3]) ⟨hx, hb, hml, hown, hts⟩ (m_K_init l D r9 H.size) ⟨va_cnB 0 hts (tg_in k_code_K_init) rfl rfl rfl hNm (hts _ (List.mem_cons_of_mem _ k_ini_K)) ⟨by decide, by decide, by decide +kernel⟩ ⟨Nat.le_of_ble_eq_true rfl, Nat.le_of_ble_eq_true rfl⟩, rfl, (hts _ (List.mem_cons_of_mem _ k_im_K_init))⟩ ⟨fun a U g mk q => by obtain ⟨q0, q1, qP, qK, qD⟩ := q; exact ⟨q0, q1, qP, va_K.moved (u := U) (U := U.calling g mk a) (Vm.Alike.refl U.vm) qK, qD⟩, fun U hU hW => ⟨rfl, by rw [hU], by rw [hU]; exact hPc, va_K.moved hW.alike hKc, hDc.weaken (fun _ _ _ _ => trivial)⟩⟩ rfl rfl hl.1 rfl (lv_room (Nat.le_of_ble_eq_true rfl)) d_X_init_79 ⟨Nat.le_of_ble_eq_true rfl, Nat.le_of_ble_eq_true rfl⟩) hS (fun q _ h => hFc q h) hFc (fun u t H1 locs ht hvm hw hB hz1 hk1 hS => ?_)
  obtain ⟨hP1, hD1⟩ := hB
  rw [ht] at hP1
  obtain ⟨hP, hD⟩ := va_join (wr := [(h0, .inr (1, [.ref q1, .ref q2, .ref q3, .null, .ref q4, .int 0, .int 0, .int 0, .int 0])), (q1, .inl (c1, 256, .inl (fun _ => 0))), (q2, .inl (c2, 128, .inl (fun _ => 0))), (q3, .inl (c3, 12, .inr (.inr (.inr (.inr (va_up (va_up (va_up (va_up (va_up (va_up (va_up (va_up (va_up (fun _ => none) (0 : Int32).toNatClampNeg (some r0)) (1 : Int32).toNatClampNeg (some r1)) (2 : Int32).toNatClampNeg (some r2)) (3 : Int32).toNatClampNeg (some r3)) (4 : Int32).toNatClampNeg (some r4)) (5 : Int32).toNatClampNeg (some r5)) (6 : Int32).toNatClampNeg (some r6)) (7 : Int32).toNatClampNeg (some r7)) (8 : Int32).toNatClampNeg (some r8))))))), (q4, k0), (r0, k0), (r1, k0), (r2, k0), (r3, k0), (r4, k0), (r5, k0), (r6, k0), (r7, k0), (r8, k0)]) (w1 := [(r9, k0)]) hP hD [14] [0, 1, 2, 3, 4, 5, 6, 7, 8, 9, 10, 11, 12, 13] rfl rfl (by decide) (by decide) hk1 hFc hP1 hD1
  generalize H1 = H at hP hS ⊢
  have hP : va_P D classes [(h0, .inr (1, [.ref q1, .ref q2, .ref q3, .null, .ref q4, .int 0, .int 0, .int 0, .int 0])), (q1, .inl (c1, 256, .inl (fun _ => 0))), (q2, .inl (c2, 128, .inl (fun _ => 0))), (q3, .inl (c3, 12, .inr (.inr (.inr (.inr (va_up (va_up (va_up (va_up (va_up (va_up (va_up (va_up (va_up (fun _ => none) (0 : Int32).toNatClampNeg (some r0)) (1 : Int32).toNatClampNeg (some r1)) (2 : Int32).toNatClampNeg (some r2)) (3 : Int32).toNatClampNeg (some r3)) (4 : Int32).toNatClampNeg (some r4)) (5 : Int32).toNatClampNeg (some r5)) (6 : Int32).toNatClampNeg (some r6)) (7 : Int32).toNatClampNeg (some r7)) (8 : Int32).toNatClampNeg (some r8))))))), (q4, k0), (r0, k0), (r1, k0), (r2, k0), (r3, k0), (r4, k0), (r5, k0), (r6, k0), (r7, k0), (r8, k0), (r9, k0)] H := hP
  have hD : va_D A [(h0, .inr (1, [.ref q1, .ref q2, .ref q3, .null, .ref q4, .int 0, .int 0, .int 0, .int 0])), (q1, .inl (c1, 256, .inl (fun _ => 0))), (q2, .inl (c2, 128, .inl (fun _ => 0))), (q3, .inl (c3, 12, .inr (.inr (.inr (.inr (va_up (va_up (va_up (va_up (va_up (va_up (va_up (va_up (va_up (fun _ => none) (0 : Int32).toNatClampNeg (some r0)) (1 : Int32).toNatClampNeg (some r1)) (2 : Int32).toNatClampNeg (some r2)) (3 : Int32).toNatClampNeg (some r3)) (4 : Int32).toNatClampNeg (some r4)) (5 : Int32).toNatClampNeg (some r5)) (6 : Int32).toNatClampNeg (some r6)) (7 : Int32).toNatClampNeg (some r7)) (8 : Int32).toNatClampNeg (some r8))))))), (q4, k0), (r0, k0), (r1, k0), (r2, k0), (r3, k0), (r4, k0), (r5, k0), (r6, k0), (r7, k0), (r8, k0), (r9, k0)] := hD
  refine va_astq (D := D) (r := (R_K, F_K, 3)) hx hb hK hP hD hS 3 2 14 0 rfl rfl rfl rfl ic_9_12 d_X_init_82 (fun H locs hP hD hS => ?_)
  have hP : va_P D classes [(h0, .inr (1, [.ref q1, .ref q2, .ref q3, .null, .ref q4, .int 0, .int 0, .int 0, .int 0])), (q1, .inl (c1, 256, .inl (fun _ => 0))), (q2, .inl (c2, 128, .inl (fun _ => 0))), (q3, .inl (c3, 12, .inr (.inr (.inr (.inr (va_up (va_up (va_up (va_up (va_up (va_up (va_up (va_up (va_up (va_up (fun _ => none) (0 : Int32).toNatClampNeg (some r0)) (1 : Int32).toNatClampNeg (some r1)) (2 : Int32).toNatClampNeg (some r2)) (3 : Int32).toNatClampNeg (some r3)) (4 : Int32).toNatClampNeg (some r4)) (5 : Int32).toNatClampNeg (some r5)) (6 : Int32).toNatClampNeg (some r6)) (7 : Int32).toNatClampNeg (some r7)) (8 : Int32).toNatClampNeg (some r8)) (9 : Int32).toNatClampNeg (some r9))))))), (q4, k0), (r0, k0), (r1, k0), (r2, k0), (r3, k0), (r4, k0), (r5, k0), (r6, k0), (r7, k0), (r8, k0), (r9, k0)] H := hP
  have hD : va_D A [(h0, .inr (1, [.ref q1, .ref q2, .ref q3, .null, .ref q4, .int 0, .int 0, .int 0, .int 0])), (q1, .inl (c1, 256, .inl (fun _ => 0))), (q2, .inl (c2, 128, .inl (fun _ => 0))), (q3, .inl (c3, 12, .inr (.inr (.inr (.inr (va_up (va_up (va_up (va_up (va_up (va_up (va_up (va_up (va_up (va_up (fun _ => none) (0 : Int32).toNatClampNeg (some r0)) (1 : Int32).toNatClampNeg (some r1)) (2 : Int32).toNatClampNeg (some r2)) (3 : Int32).toNatClampNeg (some r3)) (4 : Int32).toNatClampNeg (some r4)) (5 : Int32).toNatClampNeg (some r5)) (6 : Int32).toNatClampNeg (some r6)) (7 : Int32).toNatClampNeg (some r7)) (8 : Int32).toNatClampNeg (some r8)) (9 : Int32).toNatClampNeg (some r9))))))), (q4, k0), (r0, k0), (r1, k0), (r2, k0), (r3, k0), (r4, k0), (r5, k0), (r6, k0), (r7, k0), (r8, k0), (r9, k0)] := hD
  refine lv_iinc (k := 0) (v := 10) (lv' := [(1, .int 10), (0, .ref h0)]) hx hb d_X_init_83 hl rfl (by decide) (by decide) rfl (fun ls hl => ?_)
  refine lv_goto (tgt := 64) hx hb d_X_init_86 (by decide) ?_
  refine lv_iload_n hx hb d_X_init_64 rfl (lv_at hl 0 rfl) ?_
  refine lv_bipush (v := 12) hx hb d_X_init_65 (by decide) ?_
  refine lv_icmp_ge (tgt := 89) hx hb d_X_init_67 (by decide) (fun h => absurd h (by decide)) (fun _ => ?_)
  refine lv_aload_n hx hb d_X_init_70 rfl (lv_at hl 1 rfl) ?_
  refine va_get (D := D) (ci := 1) (v := .ref q3) (C := R_X) (T := F_X) (N := 9) hx hb hts (fun w hw => List.mem_cons_of_mem _ (u_X w hw)) hown hK hP 0 rfl rfl 2 (by decide) (hts _ (List.mem_cons_of_mem _ k_fl_X_19)) fXs rfl d_X_init_71 ?_
  refine lv_iload_n hx hb d_X_init_74 rfl (lv_at hl 0 rfl) ?_
  refine va_new (D := D) (ci := 0) (fs := [.int 0, .int 0, .int 0]) (C := R_K) (T := F_K) (N := 3) hx hb hts (fun w hw => List.mem_cons_of_mem _ (u_K w hw)) t_K t_K_ok hown (hts _ (List.mem_cons_of_mem _ k_cl_X_17)) (hts _ (List.mem_cons_of_mem _ k_inst_K)) (hts _ (List.mem_cons_of_mem _ k_ini_K)) hK hP hD hS hA rfl (fun j hj => by rcases (show j = 0 ∨ j = 1 ∨ j = 2 by omega) with rfl | rfl | rfl <;> rfl) (Nat.le_of_ble_eq_true rfl) (Nat.le_of_ble_eq_true rfl) d_X_init_75 (fun r10 H hP hD hS => ?_)
  have hP : va_P D classes [(h0, .inr (1, [.ref q1, .ref q2, .ref q3, .null, .ref q4, .int 0, .int 0, .int 0, .int 0])), (q1, .inl (c1, 256, .inl (fun _ => 0))), (q2, .inl (c2, 128, .inl (fun _ => 0))), (q3, .inl (c3, 12, .inr (.inr (.inr (.inr (va_up (va_up (va_up (va_up (va_up (va_up (va_up (va_up (va_up (va_up (fun _ => none) (0 : Int32).toNatClampNeg (some r0)) (1 : Int32).toNatClampNeg (some r1)) (2 : Int32).toNatClampNeg (some r2)) (3 : Int32).toNatClampNeg (some r3)) (4 : Int32).toNatClampNeg (some r4)) (5 : Int32).toNatClampNeg (some r5)) (6 : Int32).toNatClampNeg (some r6)) (7 : Int32).toNatClampNeg (some r7)) (8 : Int32).toNatClampNeg (some r8)) (9 : Int32).toNatClampNeg (some r9))))))), (q4, k0), (r0, k0), (r1, k0), (r2, k0), (r3, k0), (r4, k0), (r5, k0), (r6, k0), (r7, k0), (r8, k0), (r9, k0), (r10, k0)] H := hP
  have hD : va_D A [(h0, .inr (1, [.ref q1, .ref q2, .ref q3, .null, .ref q4, .int 0, .int 0, .int 0, .int 0])), (q1, .inl (c1, 256, .inl (fun _ => 0))), (q2, .inl (c2, 128, .inl (fun _ => 0))), (q3, .inl (c3, 12, .inr (.inr (.inr (.inr (va_up (va_up (va_up (va_up (va_up (va_up (va_up (va_up (va_up (va_up (fun _ => none) (0 : Int32).toNatClampNeg (some r0)) (1 : Int32).toNatClampNeg (some r1)) (2 : Int32).toNatClampNeg (some r2)) (3 : Int32).toNatClampNeg (some r3)) (4 : Int32).toNatClampNeg (some r4)) (5 : Int32).toNatClampNeg (some r5)) (6 : Int32).toNatClampNeg (some r6)) (7 : Int32).toNatClampNeg (some r7)) (8 : Int32).toNatClampNeg (some r8)) (9 : Int32).toNatClampNeg (some r9))))))), (q4, k0), (r0, k0), (r1, k0), (r2, k0), (r3, k0), (r4, k0), (r5, k0), (r6, k0), (r7, k0), (r8, k0), (r9, k0), (r10, k0)] := hD
  refine lv_dup hx hb d_X_init_78 rfl ?_
  have hPc := hP.sub (ws' := [(r10, k0)]) [15] rfl
  have hDc := hD.sub (ws' := [(r10, k0)]) [15] (by decide) rfl
  have hKc := hK.sub (tys' := []) [] rfl
  have hFc := va_free (wc := [(r10, k0)]) hD hS hA [15] rfl
  refine va_callv (va_runIN (As := []) (rest := [.ref r10, .int 10, .ref q3]) ⟨hx, hb, hml, hown, hts⟩ (m_K_init l D r10 H.size) ⟨va_cnB 0 hts (tg_in k_code_K_init) rfl rfl rfl hNm (hts _ (List.mem_cons_of_mem _ k_ini_K)) ⟨by decide, by decide, by decide +kernel⟩ ⟨Nat.le_of_ble_eq_true rfl, Nat.le_of_ble_eq_true rfl⟩, rfl, (hts _ (List.mem_cons_of_mem _ k_im_K_init))⟩ ⟨fun a U g mk q => by obtain ⟨q0, q1, qP, qK, qD⟩ := q; exact ⟨q0, q1, qP, va_K.moved (u := U) (U := U.calling g mk a) (Vm.Alike.refl U.vm) qK, qD⟩, fun U hU hW => ⟨rfl, by rw [hU], by rw [hU]; exact hPc, va_K.moved hW.alike hKc, hDc.weaken (fun _ _ _ _ => trivial)⟩⟩ rfl rfl hl.1 rfl (lv_room (Nat.le_of_ble_eq_true rfl)) d_X_init_79 ⟨Nat.le_of_ble_eq_true rfl, Nat.le_of_ble_eq_true rfl⟩) hS (fun q _ h => hFc q h) hFc (fun u t H1 locs ht hvm hw hB hz1 hk1 hS => ?_)
  obtain ⟨hP1, hD1⟩ := hB
  rw [ht] at hP1
  obtain ⟨hP, hD⟩ := va_join (wr := [(h0, .inr (1, [.ref q1, .ref q2, .ref q3, .null, .ref q4, .int 0, .int 0, .int 0, .int 0])), (q1, .inl (c1, 256, .inl (fun _ => 0))), (q2, .inl (c2, 128, .inl (fun _ => 0))), (q3, .inl (c3, 12, .inr (.inr (.inr (.inr (va_up (va_up (va_up (va_up (va_up (va_up (va_up (va_up (va_up (va_up (fun _ => none) (0 : Int32).toNatClampNeg (some r0)) (1 : Int32).toNatClampNeg (some r1)) (2 : Int32).toNatClampNeg (some r2)) (3 : Int32).toNatClampNeg (some r3)) (4 : Int32).toNatClampNeg (some r4)) (5 : Int32).toNatClampNeg (some r5)) (6 : Int32).toNatClampNeg (some r6)) (7 : Int32).toNatClampNeg (some r7)) (8 : Int32).toNatClampNeg (some r8)) (9 : Int32).toNatClampNeg (some r9))))))), (q4, k0), (r0, k0), (r1, k0), (r2, k0), (r3, k0), (r4, k0), (r5, k0), (r6, k0), (r7, k0), (r8, k0), (r9, k0)]) (w1 := [(r10, k0)]) hP hD [15] [0, 1, 2, 3, 4, 5, 6, 7, 8, 9, 10, 11, 12, 13, 14] rfl rfl (by decide) (by decide) hk1 hFc hP1 hD1
  generalize H1 = H at hP hS ⊢
  have hP : va_P D classes [(h0, .inr (1, [.ref q1, .ref q2, .ref q3, .null, .ref q4, .int 0, .int 0, .int 0, .int 0])), (q1, .inl (c1, 256, .inl (fun _ => 0))), (q2, .inl (c2, 128, .inl (fun _ => 0))), (q3, .inl (c3, 12, .inr (.inr (.inr (.inr (va_up (va_up (va_up (va_up (va_up (va_up (va_up (va_up (va_up (va_up (fun _ => none) (0 : Int32).toNatClampNeg (some r0)) (1 : Int32).toNatClampNeg (some r1)) (2 : Int32).toNatClampNeg (some r2)) (3 : Int32).toNatClampNeg (some r3)) (4 : Int32).toNatClampNeg (some r4)) (5 : Int32).toNatClampNeg (some r5)) (6 : Int32).toNatClampNeg (some r6)) (7 : Int32).toNatClampNeg (some r7)) (8 : Int32).toNatClampNeg (some r8)) (9 : Int32).toNatClampNeg (some r9))))))), (q4, k0), (r0, k0), (r1, k0), (r2, k0), (r3, k0), (r4, k0), (r5, k0), (r6, k0), (r7, k0), (r8, k0), (r9, k0), (r10, k0)] H := hP
  have hD : va_D A [(h0, .inr (1, [.ref q1, .ref q2, .ref q3, .null, .ref q4, .int 0, .int 0, .int 0, .int 0])), (q1, .inl (c1, 256, .inl (fun _ => 0))), (q2, .inl (c2, 128, .inl (fun _ => 0))), (q3, .inl (c3, 12, .inr (.inr (.inr (.inr (va_up (va_up (va_up (va_up (va_up (va_up (va_up (va_up (va_up (va_up (fun _ => none) (0 : Int32).toNatClampNeg (some r0)) (1 : Int32).toNatClampNeg (some r1)) (2 : Int32).toNatClampNeg (some r2)) (3 : Int32).toNatClampNeg (some r3)) (4 : Int32).toNatClampNeg (some r4)) (5 : Int32).toNatClampNeg (some r5)) (6 : Int32).toNatClampNeg (some r6)) (7 : Int32).toNatClampNeg (some r7)) (8 : Int32).toNatClampNeg (some r8)) (9 : Int32).toNatClampNeg (some r9))))))), (q4, k0), (r0, k0), (r1, k0), (r2, k0), (r3, k0), (r4, k0), (r5, k0), (r6, k0), (r7, k0), (r8, k0), (r9, k0), (r10, k0)] := hD
  refine va_astq (D := D) (r := (R_K, F_K, 3)) hx hb hK hP hD hS 3 2 15 0 rfl rfl rfl rfl ic_10_12 d_X_init_82 (fun H locs hP hD hS => ?_)
  have hP : va_P D classes [(h0, .inr (1, [.ref q1, .ref q2, .ref q3, .null, .ref q4, .int 0, .int 0, .int 0, .int 0])), (q1, .inl (c1, 256, .inl (fun _ => 0))), (q2, .inl (c2, 128, .inl (fun _ => 0))), (q3, .inl (c3, 12, .inr (.inr (.inr (.inr (va_up (va_up (va_up (va_up (va_up (va_up (va_up (va_up (va_up (va_up (va_up (fun _ => none) (0 : Int32).toNatClampNeg (some r0)) (1 : Int32).toNatClampNeg (some r1)) (2 : Int32).toNatClampNeg (some r2)) (3 : Int32).toNatClampNeg (some r3)) (4 : Int32).toNatClampNeg (some r4)) (5 : Int32).toNatClampNeg (some r5)) (6 : Int32).toNatClampNeg (some r6)) (7 : Int32).toNatClampNeg (some r7)) (8 : Int32).toNatClampNeg (some r8)) (9 : Int32).toNatClampNeg (some r9)) (10 : Int32).toNatClampNeg (some r10))))))), (q4, k0), (r0, k0), (r1, k0), (r2, k0), (r3, k0), (r4, k0), (r5, k0), (r6, k0), (r7, k0), (r8, k0), (r9, k0), (r10, k0)] H := hP
  have hD : va_D A [(h0, .inr (1, [.ref q1, .ref q2, .ref q3, .null, .ref q4, .int 0, .int 0, .int 0, .int 0])), (q1, .inl (c1, 256, .inl (fun _ => 0))), (q2, .inl (c2, 128, .inl (fun _ => 0))), (q3, .inl (c3, 12, .inr (.inr (.inr (.inr (va_up (va_up (va_up (va_up (va_up (va_up (va_up (va_up (va_up (va_up (va_up (fun _ => none) (0 : Int32).toNatClampNeg (some r0)) (1 : Int32).toNatClampNeg (some r1)) (2 : Int32).toNatClampNeg (some r2)) (3 : Int32).toNatClampNeg (some r3)) (4 : Int32).toNatClampNeg (some r4)) (5 : Int32).toNatClampNeg (some r5)) (6 : Int32).toNatClampNeg (some r6)) (7 : Int32).toNatClampNeg (some r7)) (8 : Int32).toNatClampNeg (some r8)) (9 : Int32).toNatClampNeg (some r9)) (10 : Int32).toNatClampNeg (some r10))))))), (q4, k0), (r0, k0), (r1, k0), (r2, k0), (r3, k0), (r4, k0), (r5, k0), (r6, k0), (r7, k0), (r8, k0), (r9, k0), (r10, k0)] := hD
  refine lv_iinc (k := 0) (v := 11) (lv' := [(1, .int 11), (0, .ref h0)]) hx hb d_X_init_83 hl rfl (by decide) (by decide) rfl (fun ls hl => ?_)
  refine lv_goto (tgt := 64) hx hb d_X_init_86 (by decide) ?_
  refine lv_iload_n hx hb d_X_init_64 rfl (lv_at hl 0 rfl) ?_
  refine lv_bipush (v := 12) hx hb d_X_init_65 (by decide) ?_
  refine lv_icmp_ge (tgt := 89) hx hb d_X_init_67 (by decide) (fun h => absurd h (by decide)) (fun _ => ?_)
  refine lv_aload_n hx hb d_X_init_70 rfl (lv_at hl 1 rfl) ?_
  refine va_get (D := D) (ci := 1) (v := .ref q3) (C := R_X) (T := F_X) (N := 9) hx hb hts (fun w hw => List.mem_cons_of_mem _ (u_X w hw)) hown hK hP 0 rfl rfl 2 (by decide) (hts _ (List.mem_cons_of_mem _ k_fl_X_19)) fXs rfl d_X_init_71 ?_
  refine lv_iload_n hx hb d_X_init_74 rfl (lv_at hl 0 rfl) ?_
  refine va_new (D := D) (ci := 0) (fs := [.int 0, .int 0, .int 0]) (C := R_K) (T := F_K) (N := 3) hx hb hts (fun w hw => List.mem_cons_of_mem _ (u_K w hw)) t_K t_K_ok hown (hts _ (List.mem_cons_of_mem _ k_cl_X_17)) (hts _ (List.mem_cons_of_mem _ k_inst_K)) (hts _ (List.mem_cons_of_mem _ k_ini_K)) hK hP hD hS hA rfl (fun j hj => by rcases (show j = 0 ∨ j = 1 ∨ j = 2 by omega) with rfl | rfl | rfl <;> rfl) (Nat.le_of_ble_eq_true rfl) (Nat.le_of_ble_eq_true rfl) d_X_init_75 (fun r11 H hP hD hS => ?_)
  have hP : va_P D classes [(h0, .inr (1, [.ref q1, .ref q2, .ref q3, .null, .ref q4, .int 0, .int 0, .int 0, .int 0])), (q1, .inl (c1, 256, .inl (fun _ => 0))), (q2, .inl (c2, 128, .inl (fun _ => 0))), (q3, .inl (c3, 12, .inr (.inr (.inr (.inr (va_up (va_up (va_up (va_up (va_up (va_up (va_up (va_up (va_up (va_up (va_up (fun _ => none) (0 : Int32).toNatClampNeg (some r0)) (1 : Int32).toNatClampNeg (some r1)) (2 : Int32).toNatClampNeg (some r2)) (3 : Int32).toNatClampNeg (some r3)) (4 : Int32).toNatClampNeg (some r4)) (5 : Int32).toNatClampNeg (some r5)) (6 : Int32).toNatClampNeg (some r6)) (7 : Int32).toNatClampNeg (some r7)) (8 : Int32).toNatClampNeg (some r8)) (9 : Int32).toNatClampNeg (some r9)) (10 : Int32).toNatClampNeg (some r10))))))), (q4, k0), (r0, k0), (r1, k0), (r2, k0), (r3, k0), (r4, k0), (r5, k0), (r6, k0), (r7, k0), (r8, k0), (r9, k0), (r10, k0), (r11, k0)] H := hP
  have hD : va_D A [(h0, .inr (1, [.ref q1, .ref q2, .ref q3, .null, .ref q4, .int 0, .int 0, .int 0, .int 0])), (q1, .inl (c1, 256, .inl (fun _ => 0))), (q2, .inl (c2, 128, .inl (fun _ => 0))), (q3, .inl (c3, 12, .inr (.inr (.inr (.inr (va_up (va_up (va_up (va_up (va_up (va_up (va_up (va_up (va_up (va_up (va_up (fun _ => none) (0 : Int32).toNatClampNeg (some r0)) (1 : Int32).toNatClampNeg (some r1)) (2 : Int32).toNatClampNeg (some r2)) (3 : Int32).toNatClampNeg (some r3)) (4 : Int32).toNatClampNeg (some r4)) (5 : Int32).toNatClampNeg (some r5)) (6 : Int32).toNatClampNeg (some r6)) (7 : Int32).toNatClampNeg (some r7)) (8 : Int32).toNatClampNeg (some r8)) (9 : Int32).toNatClampNeg (some r9)) (10 : Int32).toNatClampNeg (some r10))))))), (q4, k0), (r0, k0), (r1, k0), (r2, k0), (r3, k0), (r4, k0), (r5, k0), (r6, k0), (r7, k0), (r8, k0), (r9, k0), (r10, k0), (r11, k0)] := hD
  refine lv_dup hx hb d_X_init_78 rfl ?_
  have hPc := hP.sub (ws' := [(r11, k0)]) [16] rfl
  have hDc := hD.sub (ws' := [(r11, k0)]) [16] (by decide) rfl
  have hKc := hK.sub (tys' := []) [] rfl
  have hFc := va_free (wc := [(r11, k0)]) hD hS hA [16] rfl
  refine va_callv (va_runIN (As := []) (rest := [.ref r11, .int 11, .ref q3]) ⟨hx, hb, hml, hown, hts⟩ (m_K_init l D r11 H.size) ⟨va_cnB 0 hts (tg_in k_code_K_init) rfl rfl rfl hNm (hts _ (List.mem_cons_of_mem _ k_ini_K)) ⟨by decide, by decide, by decide +kernel⟩ ⟨Nat.le_of_ble_eq_true rfl, Nat.le_of_ble_eq_true rfl⟩, rfl, (hts _ (List.mem_cons_of_mem _ k_im_K_init))⟩ ⟨fun a U g mk q => by obtain ⟨q0, q1, qP, qK, qD⟩ := q; exact ⟨q0, q1, qP, va_K.moved (u := U) (U := U.calling g mk a) (Vm.Alike.refl U.vm) qK, qD⟩, fun U hU hW => ⟨rfl, by rw [hU], by rw [hU]; exact hPc, va_K.moved hW.alike hKc, hDc.weaken (fun _ _ _ _ => trivial)⟩⟩ rfl rfl hl.1 rfl (lv_room (Nat.le_of_ble_eq_true rfl)) d_X_init_79 ⟨Nat.le_of_ble_eq_true rfl, Nat.le_of_ble_eq_true rfl⟩) hS (fun q _ h => hFc q h) hFc (fun u t H1 locs ht hvm hw hB hz1 hk1 hS => ?_)
  obtain ⟨hP1, hD1⟩ := hB
  rw [ht] at hP1
  obtain ⟨hP, hD⟩ := va_join (wr := [(h0, .inr (1, [.ref q1, .ref q2, .ref q3, .null, .ref q4, .int 0, .int 0, .int 0, .int 0])), (q1, .inl (c1, 256, .inl (fun _ => 0))), (q2, .inl (c2, 128, .inl (fun _ => 0))), (q3, .inl (c3, 12, .inr (.inr (.inr (.inr (va_up (va_up (va_up (va_up (va_up (va_up (va_up (va_up (va_up (va_up (va_up (fun _ => none) (0 : Int32).toNatClampNeg (some r0)) (1 : Int32).toNatClampNeg (some r1)) (2 : Int32).toNatClampNeg (some r2)) (3 : Int32).toNatClampNeg (some r3)) (4 : Int32).toNatClampNeg (some r4)) (5 : Int32).toNatClampNeg (some r5)) (6 : Int32).toNatClampNeg (some r6)) (7 : Int32).toNatClampNeg (some r7)) (8 : Int32).toNatClampNeg (some r8)) (9 : Int32).toNatClampNeg (some r9)) (10 : Int32).toNatClampNeg (some r10))))))), (q4, k0), (r0, k0), (r1, k0), (r2, k0), (r3, k0), (r4, k0), (r5, k0), (r6, k0), (r7, k0), (r8, k0), (r9, k0), (r10, k0)]) (w1 := [(r11, k0)]) hP hD [16] [0, 1, 2, 3, 4, 5, 6, 7, 8, 9, 10, 11, 12, 13, 14, 15] rfl rfl (by decide) (by decide) hk1 hFc hP1 hD1
  generalize H1 = H at hP hS ⊢
  have hP : va_P D classes [(h0, .inr (1, [.ref q1, .ref q2, .ref q3, .null, .ref q4, .int 0, .int 0, .int 0, .int 0])), (q1, .inl (c1, 256, .inl (fun _ => 0))), (q2, .inl (c2, 128, .inl (fun _ => 0))), (q3, .inl (c3, 12, .inr (.inr (.inr (.inr (va_up (va_up (va_up (va_up (va_up (va_up (va_up (va_up (va_up (va_up (va_up (fun _ => none) (0 : Int32).toNatClampNeg (some r0)) (1 : Int32).toNatClampNeg (some r1)) (2 : Int32).toNatClampNeg (some r2)) (3 : Int32).toNatClampNeg (some r3)) (4 : Int32).toNatClampNeg (some r4)) (5 : Int32).toNatClampNeg (some r5)) (6 : Int32).toNatClampNeg (some r6)) (7 : Int32).toNatClampNeg (some r7)) (8 : Int32).toNatClampNeg (some r8)) (9 : Int32).toNatClampNeg (some r9)) (10 : Int32).toNatClampNeg (some r10))))))), (q4, k0), (r0, k0), (r1, k0), (r2, k0), (r3, k0), (r4, k0), (r5, k0), (r6, k0), (r7, k0), (r8, k0), (r9, k0), (r10, k0), (r11, k0)] H := hP
  have hD : va_D A [(h0, .inr (1, [.ref q1, .ref q2, .ref q3, .null, .ref q4, .int 0, .int 0, .int 0, .int 0])), (q1, .inl (c1, 256, .inl (fun _ => 0))), (q2, .inl (c2, 128, .inl (fun _ => 0))), (q3, .inl (c3, 12, .inr (.inr (.inr (.inr (va_up (va_up (va_up (va_up (va_up (va_up (va_up (va_up (va_up (va_up (va_up (fun _ => none) (0 : Int32).toNatClampNeg (some r0)) (1 : Int32).toNatClampNeg (some r1)) (2 : Int32).toNatClampNeg (some r2)) (3 : Int32).toNatClampNeg (some r3)) (4 : Int32).toNatClampNeg (some r4)) (5 : Int32).toNatClampNeg (some r5)) (6 : Int32).toNatClampNeg (some r6)) (7 : Int32).toNatClampNeg (some r7)) (8 : Int32).toNatClampNeg (some r8)) (9 : Int32).toNatClampNeg (some r9)) (10 : Int32).toNatClampNeg (some r10))))))), (q4, k0), (r0, k0), (r1, k0), (r2, k0), (r3, k0), (r4, k0), (r5, k0), (r6, k0), (r7, k0), (r8, k0), (r9, k0), (r10, k0), (r11, k0)] := hD
  refine va_astq (D := D) (r := (R_K, F_K, 3)) hx hb hK hP hD hS 3 2 16 0 rfl rfl rfl rfl ic_11_12 d_X_init_82 (fun H locs hP hD hS => ?_)
  have hP : va_P D classes [(h0, .inr (1, [.ref q1, .ref q2, .ref q3, .null, .ref q4, .int 0, .int 0, .int 0, .int 0])), (q1, .inl (c1, 256, .inl (fun _ => 0))), (q2, .inl (c2, 128, .inl (fun _ => 0))), (q3, .inl (c3, 12, .inr (.inr (.inr (.inr (va_up (va_up (va_up (va_up (va_up (va_up (va_up (va_up (va_up (va_up (va_up (va_up (fun _ => none) (0 : Int32).toNatClampNeg (some r0)) (1 : Int32).toNatClampNeg (some r1)) (2 : Int32).toNatClampNeg (some r2)) (3 : Int32).toNatClampNeg (some r3)) (4 : Int32).toNatClampNeg (some r4)) (5 : Int32).toNatClampNeg (some r5)) (6 : Int32).toNatClampNeg (some r6)) (7 : Int32).toNatClampNeg (some r7)) (8 : Int32).toNatClampNeg (some r8)) (9 : Int32).toNatClampNeg (some r9)) (10 : Int32).toNatClampNeg (some r10)) (11 : Int32).toNatClampNeg (some r11))))))), (q4, k0), (r0, k0), (r1, k0), (r2, k0), (r3, k0), (r4, k0), (r5, k0), (r6, k0), (r7, k0), (r8, k0), (r9, k0), (r10, k0), (r11, k0)] H := hP
  have hD : va_D A [(h0, .inr (1, [.ref q1, .ref q2, .ref q3, .null, .ref q4, .int 0, .int 0, .int 0, .int 0])), (q1, .inl (c1, 256, .inl (fun _ => 0))), (q2, .inl (c2, 128, .inl (fun _ => 0))), (q3, .inl (c3, 12, .inr (.inr (.inr (.inr (va_up (va_up (va_up (va_up (va_up (va_up (va_up (va_up (va_up (va_up (va_up (va_up (fun _ => none) (0 : Int32).toNatClampNeg (some r0)) (1 : Int32).toNatClampNeg (some r1)) (2 : Int32).toNatClampNeg (some r2)) (3 : Int32).toNatClampNeg (some r3)) (4 : Int32).toNatClampNeg (some r4)) (5 : Int32).toNatClampNeg (some r5)) (6 : Int32).toNatClampNeg (some r6)) (7 : Int32).toNatClampNeg (some r7)) (8 : Int32).toNatClampNeg (some r8)) (9 : Int32).toNatClampNeg (some r9)) (10 : Int32).toNatClampNeg (some r10)) (11 : Int32).toNatClampNeg (some r11))))))), (q4, k0), (r0, k0), (r1, k0), (r2, k0), (r3, k0), (r4, k0), (r5, k0), (r6, k0), (r7, k0), (r8, k0), (r9, k0), (r10, k0), (r11, k0)] := hD
  refine lv_iinc (k := 0) (v := 12) (lv' := [(1, .int 12), (0, .ref h0)]) hx hb d_X_init_83 hl rfl (by decide) (by decide) rfl (fun ls hl => ?_)
  refine lv_goto (tgt := 64) hx hb d_X_init_86 (by decide) ?_
  refine lv_iload_n hx hb d_X_init_64 rfl (lv_at hl 0 rfl) ?_
  refine lv_bipush (v := 12) hx hb d_X_init_65 (by decide) ?_
  refine lv_icmp_ge (tgt := 89) hx hb d_X_init_67 (by decide) (fun _ => ?_) (fun h => absurd h (by decide))
  have hP := hP.fun3 (G := fun i => some ((fun k => match k with | 0 => h0 | 1 => q1 | 2 => q2 | 3 => q3 | 4 => r0 | 5 => r1 | 6 => r2 | 7 => r3 | 8 => r4 | 9 => r5 | 10 => r6 | 11 => r7 | 12 => r8 | 13 => r9 | 14 => r10 | 15 => r11 | _ => q4 : Nat → Nat) (4 + i))) (p := 3) rfl (fun i hi => by rcases (show i = 0 ∨ i = 1 ∨ i = 2 ∨ i = 3 ∨ i = 4 ∨ i = 5 ∨ i = 6 ∨ i = 7 ∨ i = 8 ∨ i = 9 ∨ i = 10 ∨ i = 11 by omega) with rfl | rfl | rfl | rfl | rfl | rfl | rfl | rfl | rfl | rfl | rfl | rfl <;> rfl)
  generalize ha : (fun k => match k with | 0 => h0 | 1 => q1 | 2 => q2 | 3 => q3 | 4 => r0 | 5 => r1 | 6 => r2 | 7 => r3 | 8 => r4 | 9 => r5 | 10 => r6 | 11 => r7 | 12 => r8 | 13 => r9 | 14 => r10 | 15 => r11 | _ => q4 : Nat → Nat) = a at hP
  generalize hc : (fun k => match k with | 0 => c1 | 1 => c2 | _ => c3 : Nat → ClassId) = cA
  have hP : va_P D classes (cwN a cA zm .null) H := hP.sub [0, 1, 2, 3, 5, 6, 7, 8, 9, 10, 11, 12, 13, 14, 15, 16, 4] (by rw [cwN_list, ← ha, ← hc]; rfl)
  have hD := hD.set (p := 3) (e := .inl (c3, 12, .inr (.inr (.inr (.inr (fun i => some (a (4 + i)))))))) rfl
  have hD : va_D A (cwN a cA zm .null) := hD.sub [0, 1, 2, 3, 5, 6, 7, 8, 9, 10, 11, 12, 13, 14, 15, 16, 4] (by decide) (by rw [cwN_list, ← ha, ← hc]; rfl)
  have ha0 : a 0 = h0 := by rw [← ha]; rfl
  have hK : va_K D classes (cty cA) s := by rw [← hc]; exact hK
  have hl : lv_has ls 2 [(1, .int 12), (0, .ref (a 0))] := by rw [ha0]; exact hl
  refine W.widen (k := 16) (n := 435) (Nat.le_of_ble_eq_true rfl) (Nat.le_of_ble_eq_true rfl) ?_
  refine lv_aload_n hx hb d_X_init_89 rfl (lv_at hl 1 rfl) ?_
  refine lv_aload_n hx hb d_X_init_90 rfl (lv_at hl 1 rfl) ?_
  refine va_get (D := D) (ci := 1) (v := .ref (a 3)) (C := R_X) (T := F_X) (N := 9) hx hb hts (fun w hw => List.mem_cons_of_mem _ (u_X w hw)) hown hK hP 0 rfl rfl 2 (by decide) (hts _ (List.mem_cons_of_mem _ k_fl_X_19)) fXs rfl d_X_init_91 ?_
  refine lv_bipush (v := 8) hx hb d_X_init_94 (by decide) ?_
  refine va_aldq (f := fun i => some (a (4 + i))) (C := R_K) hx hb hK hP 3 2 rfl rfl ic_8_12 d_X_init_96 ?_
  refine va_putF (D := D) (ci := 1) (v := .ref (a (4 + 8))) (ty := .object "CapabilityCore$Capability") (C := R_X) (T := F_X) (N := 9) hx hb hts (fun w hw => List.mem_cons_of_mem _ (u_X w hw)) t_X t_X_ok n_X hown hK hP hD hS 0 rfl rfl 3 (by decide) (hts _ (List.mem_cons_of_mem _ k_fl_X_41)) fXs rfl hin rfl (by decide +kernel) rfl rfl (Nat.le_of_ble_eq_true rfl) d_X_init_97 (fun H locs hP hD hS => ?_)
  have hP : va_P D classes (cwL a cA zm) H := hP
  have hD : va_D A (cwL a cA zm) := hD
  have hs : sS D (cwL a cA) (aB a 17) s zm H locs := ⟨hP, hS.mono (fun q hq => (hA0 q hq).elim (fun z => Or.inl ⟨0, by decide, by rw [z, ha0]⟩) Or.inr)⟩
  have hF : sF p m c c_X_init 2 s _ (.code y_X_init c_X_init 2 none) R_X D (cwL a cA) (cty cA) (aB a 17) := ⟨⟨hx, hb, hml, hown, hts⟩, hK, hN, cw_D hD⟩
  have hAb : ∀ q, sA (aB a 17) s.heap.size q → A q := fun q hq => hq.elim (cw_in hD q) (hA q)
  refine lv_aload_n hx hb d_X_init_100 rfl (lv_at hl 1 rfl) ?_
  refine xg_X hx hb hF hs 2 (by decide) k_fl_X_19 rfl d_X_init_101 ?_
  refine lv_iconst (v := 1) hx hb d_X_init_104 (by decide) ?_
  refine xr_ld hx hb hF hs ic_1_12 d_X_init_105 ?_
  refine lv_iconst (v := 0) hx hb d_X_init_106 (by decide) ?_
  refine x_Vv hF hs v_K_becomeRoot k_ml_X_44 (m_K_becomeRoot (in13 ic_1_12)) rfl rfl ⟨by decide, by decide⟩ rfl rfl hl.1 (Nat.le_of_ble_eq_true rfl) (rK (in13 ic_1_12)) d_X_init_107 ⟨Nat.le_of_ble_eq_true rfl, Nat.le_of_ble_eq_true rfl⟩ (fun H locs hs => ?_)
  refine lv_aload_n hx hb d_X_init_110 rfl (lv_at hl 1 rfl) ?_
  refine xg_X hx hb hF hs 3 (by decide) k_fl_X_41 rfl d_X_init_111 ?_
  refine lv_iconst (v := 0) hx hb d_X_init_114 (by decide) ?_
  refine x_Vv hF hs v_K_becomeRoot k_ml_X_44 (m_K_becomeRoot lt8_13) rfl rfl ⟨by decide, by decide⟩ rfl rfl hl.1 (Nat.le_of_ble_eq_true rfl) (rK lt8_13) d_X_init_115 ⟨Nat.le_of_ble_eq_true rfl, Nat.le_of_ble_eq_true rfl⟩ (fun H locs hs => ?_)
  exact W.vret hx hb hr (fun t ht hW => ⟨⟨(a, cA), rfl, ha0, by rw [ht]; exact hs.1, va_K.moved hW.alike hK, cw_A hD _⟩, (hs.2.mono hAb).F ht⟩) (hs.2.mono hAb).2.2 d_X_init_118
