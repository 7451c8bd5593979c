-- fields and arrays in the two worlds
theorem fX (k : Nat) : (F_X k).1 = R_X := by unfold F_X; split <;> rfl
theorem fK (k : Nat) : (F_K k).1 = R_K := by unfold F_K; split <;> rfl
theorem fM (k : Nat) : (F_M k).1 = R_M := by unfold F_M; split <;> rfl
theorem fXs {s : State} {k : Nat} {f d : String} : ∀ x, s.fieldFound? (F_X k).1 f d = some x → s.fieldFound? R_X f d = some x := fun x h => by rw [fX] at h; exact h
theorem fKs {s : State} {k : Nat} {f d : String} : ∀ x, s.fieldFound? (F_K k).1 f d = some x → s.fieldFound? R_K f d = some x := fun x h => by rw [fK] at h; exact h
theorem fMs {s : State} {k : Nat} {f d : String} : ∀ x, s.fieldFound? (F_M k).1 f d = some x → s.fieldFound? R_M f d = some x := fun x h => by rw [fM] at h; exact h
section RW
variable {p : Program} {l : Launch} {e : Env} {R : Room} {s : State} {m : MethodId} {args : Array Value} {below : List Frame} {meth : Method} {c : Code} {H : Heap} {locs : List Loc} {cells slots : Nat} {Q : State → Prop}
variable {cc : ByteArray} {nL pc ix : Nat} {ls : Array Slot} {rest : List Value} {c0 : Cond} {D : va_G} {tys : Tys} {B0 : Nat → Prop} {σ : Mem} {a : Nat → Nat} {cA : Nat → ClassId} {i : Nat} {v x : Int32} {j : Int32}
theorem sS.to {wl : Wl} {w : va_W} {τ : Mem} {H1 : Heap} {locs1 : List Loc} (h : w = wl τ) (hP : va_P D classes w H1) (hS : va_S (sA B0 s.heap.size) s.heap H1 locs1) : sS D wl B0 s τ H1 locs1 := ⟨by rw [← h]; exact hP, hS⟩
theorem sF_D {wl : Wl} {own : String} (hF : sF p m c cc nL s args c0 own D wl tys B0) : va_D (sA B0 s.heap.size) (wl σ) := (hF.2.2.2 σ).weaken (fun _ _ _ h => Or.inl h)
theorem xg_X {V : Value} (hx : p.tables.exec = Jvm.exec) (hb : c.code = cc) (hF : sF p m c cc nL s args c0 R_X D (cwL a cA) tys B0) (hs : sS D (cwL a cA) B0 s σ H locs) (k : Nat) (hk : k < 9) (hlink : Cond.fieldLink R_X ix R_X (F_X k).2.1 (F_X k).2.2.1 ∈ TG) (hv : (cF a σ)[k]? = some V) (hdg : decode cc pc = .ok (.getfield ix, 3))
    (kk : W p l e R s m args below meth c H locs cells slots Q (F0 m (pc + 3) ls (V :: rest))) : W p l e R s m args below meth c H locs cells slots Q (F0 m pc ls (.ref (a 0) :: rest)) := by
  have hts := hF.1.2.2.2.2
  have hown := hF.1.2.2.2.1
  exact va_get (D := D) (ci := 1) (C := R_X) (T := F_X) (N := 9) hx hb hts (fun w hw => List.mem_cons_of_mem _ (u_X w hw)) hown hF.2.1 hs.1 0 rfl rfl k hk (hts _ (List.mem_cons_of_mem _ hlink)) fXs hv hdg kk
theorem xp_X (hx : p.tables.exec = Jvm.exec) (hb : c.code = cc) (hF : sF p m c cc nL s args c0 R_X D (cwL a cA) tys B0) (hs : sS D (cwL a cA) B0 s σ H locs) (k : Nat) (hk : k < 4) (hlink : Cond.fieldLink R_X ix R_X (F_X (5 + k)).2.1 (F_X (5 + k)).2.2.1 ∈ TG) (hdg : decode cc pc = .ok (.putfield ix, 3))
    (kk : ∀ (H1 : Heap) (locs1 : List Loc), sS D (cwL a cA) B0 s (wr σ 5 k v) H1 locs1 → W p l e R s m args below meth c H1 locs1 cells slots Q (F0 m (pc + 3) ls rest)) : W p l e R s m args below meth c H locs cells slots Q (F0 m pc ls (.int v :: .ref (a 0) :: rest)) := by
  have hts := hF.1.2.2.2.2
  have hown := hF.1.2.2.2.1
  have hfin : (F_X (5 + k)).2.2.2 = false := by match k, hk with | 0, _ => rfl | 1, _ => rfl | 2, _ => rfl | 3, _ => rfl
  have hd : parseFieldDescriptor (F_X (5 + k)).2.2.1 = some .int := by match k, hk with | 0, _ => decide +kernel | 1, _ => decide +kernel | 2, _ => decide +kernel | 3, _ => decide +kernel
  exact va_put (D := D) (ci := 1) (v := .int v) (ty := .int) (C := R_X) (T := F_X) (N := 9) hx hb hts (fun w hw => List.mem_cons_of_mem _ (u_X w hw)) t_X t_X_ok n_X hown hF.2.1 hs.1 (sF_D hF) hs.2 0 rfl rfl (5 + k) (by omega) (hts _ (List.mem_cons_of_mem _ hlink)) fXs hfin hd rfl rfl (by show 5 + k < 9; omega) hdg (fun H1 locs1 hP _ hS => kk H1 locs1 (sS.to (cw_set5 k hk) hP hS))
theorem xg_K {V : Value} (hx : p.tables.exec = Jvm.exec) (hb : c.code = cc) (hF : sF p m c cc nL s args c0 R_K D (cwL a cA) tys B0) (hs : sS D (cwL a cA) B0 s σ H locs) (k : Nat) (hk : k < 3) (hi : i < 13) (hlink : Cond.fieldLink R_K ix R_K (F_K k).2.1 (F_K k).2.2.1 ∈ TG) (hv : (kF σ i)[k]? = some V) (hdg : decode cc pc = .ok (.getfield ix, 3))
    (kk : W p l e R s m args below meth c H locs cells slots Q (F0 m (pc + 3) ls (V :: rest))) : W p l e R s m args below meth c H locs cells slots Q (F0 m pc ls (.ref (a (4 + i)) :: rest)) := by
  have hts := hF.1.2.2.2.2
  have hown := hF.1.2.2.2.1
  exact va_get (D := D) (ci := 0) (C := R_K) (T := F_K) (N := 3) hx hb hts (fun w hw => List.mem_cons_of_mem _ (u_K w hw)) hown hF.2.1 hs.1 (4 + i) (cw_at hi) rfl k hk (hts _ (List.mem_cons_of_mem _ hlink)) fKs hv hdg kk
theorem xg_N {V : Value} (hx : p.tables.exec = Jvm.exec) (hb : c.code = cc) (hF : sF p m c cc nL s args c0 R_X D (cwL a cA) tys B0) (hs : sS D (cwL a cA) B0 s σ H locs) (k : Nat) (hk : k < 3) (hi : i < 13) (hlink : va_Nw (.fieldLinkNest R_X ix R_K (F_K k).2.1 (F_K k).2.2.1 R_X) s) (hv : (kF σ i)[k]? = some V) (hdg : decode cc pc = .ok (.getfield ix, 3))
    (kk : W p l e R s m args below meth c H locs cells slots Q (F0 m (pc + 3) ls (V :: rest))) : W p l e R s m args below meth c H locs cells slots Q (F0 m pc ls (.ref (a (4 + i)) :: rest)) := by
  have hts := hF.1.2.2.2.2
  have hown := hF.1.2.2.2.1
  exact va_getN (D := D) (ci := 0) (C := R_K) (T := F_K) (N := 3) hx hb hts (fun w hw => List.mem_cons_of_mem _ (u_K w hw)) hown hF.2.1 hs.1 (4 + i) (cw_at hi) rfl k hk (va_Nw.use rfl hlink) fKs hv hdg kk
theorem xg_N4 (hx : p.tables.exec = Jvm.exec) (hb : c.code = cc) (hF : sF p m c cc nL s args c0 R_X D (cwL a cA) tys B0) (hs : sS D (cwL a cA) B0 s σ H locs) (hi : i < 13) (hdg : decode cc pc = .ok (.getfield 62, 3))
    (kk : W p l e R s m args below meth c H locs cells slots Q (F0 m (pc + 3) ls (.int (σ 4 i) :: rest))) : W p l e R s m args below meth c H locs cells slots Q (F0 m pc ls (.ref (a (4 + i)) :: rest)) := xg_N hx hb hF hs 2 (by decide) hi hF.2.2.1.1 rfl hdg kk
theorem xg_N3 (hx : p.tables.exec = Jvm.exec) (hb : c.code = cc) (hF : sF p m c cc nL s args c0 R_X D (cwL a cA) tys B0) (hs : sS D (cwL a cA) B0 s σ H locs) (hi : i < 13) (hdg : decode cc pc = .ok (.getfield 65, 3))
    (kk : W p l e R s m args below meth c H locs cells slots Q (F0 m (pc + 3) ls (.int (σ 3 i) :: rest))) : W p l e R s m args below meth c H locs cells slots Q (F0 m pc ls (.ref (a (4 + i)) :: rest)) := xg_N hx hb hF hs 1 (by decide) hi hF.2.2.1.2.1 rfl hdg kk
theorem xg_N2 (hx : p.tables.exec = Jvm.exec) (hb : c.code = cc) (hF : sF p m c cc nL s args c0 R_X D (cwL a cA) tys B0) (hs : sS D (cwL a cA) B0 s σ H locs) (hi : i < 13) (hdg : decode cc pc = .ok (.getfield 68, 3))
    (kk : W p l e R s m args below meth c H locs cells slots Q (F0 m (pc + 3) ls (.int (bo (σ 2 i)) :: rest))) : W p l e R s m args below meth c H locs cells slots Q (F0 m pc ls (.ref (a (4 + i)) :: rest)) := xg_N hx hb hF hs 0 (by decide) hi hF.2.2.1.2.2 rfl hdg kk
theorem xp_K2 (hx : p.tables.exec = Jvm.exec) (hb : c.code = cc) (hF : sF p m c cc nL s args c0 R_K D (cwL a cA) tys B0) (hs : sS D (cwL a cA) B0 s σ H locs) (hi : i < 13) (hlink : Cond.fieldLink R_K ix R_K (F_K 0).2.1 (F_K 0).2.2.1 ∈ TG) (hbo : bo v = v) (hdg : decode cc pc = .ok (.putfield ix, 3))
    (kk : ∀ (H1 : Heap) (locs1 : List Loc), sS D (cwL a cA) B0 s (wr σ 2 i v) H1 locs1 → W p l e R s m args below meth c H1 locs1 cells slots Q (F0 m (pc + 3) ls rest)) : W p l e R s m args below meth c H locs cells slots Q (F0 m pc ls (.int v :: .ref (a (4 + i)) :: rest)) := by
  have hts := hF.1.2.2.2.2
  have hown := hF.1.2.2.2.1
  exact va_put (D := D) (ci := 0) (v := .int v) (ty := .boolean) (C := R_K) (T := F_K) (N := 3) hx hb hts (fun w hw => List.mem_cons_of_mem _ (u_K w hw)) t_K t_K_ok n_K hown hF.2.1 hs.1 (sF_D hF) hs.2 (4 + i) (cw_at hi) rfl 0 (by decide) (hts _ (List.mem_cons_of_mem _ hlink)) fKs rfl (by decide +kernel) (bo_nar hbo) (bo_fit hbo) (Nat.le_of_ble_eq_true rfl) hdg (fun H1 locs1 hP _ hS => kk H1 locs1 (sS.to (cw_set2 hi hbo) hP hS))
theorem xp_K3 (hx : p.tables.exec = Jvm.exec) (hb : c.code = cc) (hF : sF p m c cc nL s args c0 R_K D (cwL a cA) tys B0) (hs : sS D (cwL a cA) B0 s σ H locs) (hi : i < 13) (hlink : Cond.fieldLink R_K ix R_K (F_K 1).2.1 (F_K 1).2.2.1 ∈ TG) (hdg : decode cc pc = .ok (.putfield ix, 3))
    (kk : ∀ (H1 : Heap) (locs1 : List Loc), sS D (cwL a cA) B0 s (wr σ 3 i v) H1 locs1 → W p l e R s m args below meth c H1 locs1 cells slots Q (F0 m (pc + 3) ls rest)) : W p l e R s m args below meth c H locs cells slots Q (F0 m pc ls (.int v :: .ref (a (4 + i)) :: rest)) := by
  have hts := hF.1.2.2.2.2
  have hown := hF.1.2.2.2.1
  exact va_put (D := D) (ci := 0) (v := .int v) (ty := .int) (C := R_K) (T := F_K) (N := 3) hx hb hts (fun w hw => List.mem_cons_of_mem _ (u_K w hw)) t_K t_K_ok n_K hown hF.2.1 hs.1 (sF_D hF) hs.2 (4 + i) (cw_at hi) rfl 1 (by decide) (hts _ (List.mem_cons_of_mem _ hlink)) fKs rfl (by decide +kernel) rfl rfl (Nat.le_of_ble_eq_true rfl) hdg (fun H1 locs1 hP _ hS => kk H1 locs1 (sS.to (cw_set3 hi) hP hS))
theorem xp_K4 (hx : p.tables.exec = Jvm.exec) (hb : c.code = cc) (hF : sF p m c cc nL s args c0 R_K D (cwL a cA) tys B0) (hs : sS D (cwL a cA) B0 s σ H locs) (hi : i < 13) (hlink : Cond.fieldLink R_K ix R_K (F_K 2).2.1 (F_K 2).2.2.1 ∈ TG) (hdg : decode cc pc = .ok (.putfield ix, 3))
    (kk : ∀ (H1 : Heap) (locs1 : List Loc), sS D (cwL a cA) B0 s (wr σ 4 i v) H1 locs1 → W p l e R s m args below meth c H1 locs1 cells slots Q (F0 m (pc + 3) ls rest)) : W p l e R s m args below meth c H locs cells slots Q (F0 m pc ls (.int v :: .ref (a (4 + i)) :: rest)) := by
  have hts := hF.1.2.2.2.2
  have hown := hF.1.2.2.2.1
  exact va_put (D := D) (ci := 0) (v := .int v) (ty := .int) (C := R_K) (T := F_K) (N := 3) hx hb hts (fun w hw => List.mem_cons_of_mem _ (u_K w hw)) t_K t_K_ok n_K hown hF.2.1 hs.1 (sF_D hF) hs.2 (4 + i) (cw_at hi) rfl 2 (by decide) (hts _ (List.mem_cons_of_mem _ hlink)) fKs rfl (by decide +kernel) rfl rfl (Nat.le_of_ble_eq_true rfl) hdg (fun H1 locs1 hP _ hS => kk H1 locs1 (sS.to (cw_set4 hi) hP hS))
theorem xp_N2 (hx : p.tables.exec = Jvm.exec) (hb : c.code = cc) (hF : sF p m c cc nL s args c0 R_X D (cwL a cA) tys B0) (hs : sS D (cwL a cA) B0 s σ H locs) (hi : i < 13) (hbo : bo v = v) (hdg : decode cc pc = .ok (.putfield 68, 3))
    (kk : ∀ (H1 : Heap) (locs1 : List Loc), sS D (cwL a cA) B0 s (wr σ 2 i v) H1 locs1 → W p l e R s m args below meth c H1 locs1 cells slots Q (F0 m (pc + 3) ls rest)) : W p l e R s m args below meth c H locs cells slots Q (F0 m pc ls (.int v :: .ref (a (4 + i)) :: rest)) := by
  have hts := hF.1.2.2.2.2
  have hown := hF.1.2.2.2.1
  exact va_putN (D := D) (ci := 0) (v := .int v) (ty := .boolean) (C := R_K) (T := F_K) (N := 3) hx hb hts (fun w hw => List.mem_cons_of_mem _ (u_K w hw)) t_K t_K_ok n_K hown hF.2.1 hs.1 (sF_D hF) hs.2 (4 + i) (cw_at hi) rfl 0 (by decide) (va_Nw.use rfl hF.2.2.1.2.2) fKs rfl (by decide +kernel) (bo_nar hbo) (bo_fit hbo) (Nat.le_of_ble_eq_true rfl) hdg (fun H1 locs1 hP _ hS => kk H1 locs1 (sS.to (cw_set2 hi hbo) hP hS))
theorem xp_N3 (hx : p.tables.exec = Jvm.exec) (hb : c.code = cc) (hF : sF p m c cc nL s args c0 R_X D (cwL a cA) tys B0) (hs : sS D (cwL a cA) B0 s σ H locs) (hi : i < 13) (hdg : decode cc pc = .ok (.putfield 65, 3))
    (kk : ∀ (H1 : Heap) (locs1 : List Loc), sS D (cwL a cA) B0 s (wr σ 3 i v) H1 locs1 → W p l e R s m args below meth c H1 locs1 cells slots Q (F0 m (pc + 3) ls rest)) : W p l e R s m args below meth c H locs cells slots Q (F0 m pc ls (.int v :: .ref (a (4 + i)) :: rest)) := by
  have hts := hF.1.2.2.2.2
  have hown := hF.1.2.2.2.1
  exact va_putN (D := D) (ci := 0) (v := .int v) (ty := .int) (C := R_K) (T := F_K) (N := 3) hx hb hts (fun w hw => List.mem_cons_of_mem _ (u_K w hw)) t_K t_K_ok n_K hown hF.2.1 hs.1 (sF_D hF) hs.2 (4 + i) (cw_at hi) rfl 1 (by decide) (va_Nw.use rfl hF.2.2.1.2.1) fKs rfl (by decide +kernel) rfl rfl (Nat.le_of_ble_eq_true rfl) hdg (fun H1 locs1 hP _ hS => kk H1 locs1 (sS.to (cw_set3 hi) hP hS))
theorem xp_N4 (hx : p.tables.exec = Jvm.exec) (hb : c.code = cc) (hF : sF p m c cc nL s args c0 R_X D (cwL a cA) tys B0) (hs : sS D (cwL a cA) B0 s σ H locs) (hi : i < 13) (hdg : decode cc pc = .ok (.putfield 62, 3))
    (kk : ∀ (H1 : Heap) (locs1 : List Loc), sS D (cwL a cA) B0 s (wr σ 4 i v) H1 locs1 → W p l e R s m args below meth c H1 locs1 cells slots Q (F0 m (pc + 3) ls rest)) : W p l e R s m args below meth c H locs cells slots Q (F0 m pc ls (.int v :: .ref (a (4 + i)) :: rest)) := by
  have hts := hF.1.2.2.2.2
  have hown := hF.1.2.2.2.1
  exact va_putN (D := D) (ci := 0) (v := .int v) (ty := .int) (C := R_K) (T := F_K) (N := 3) hx hb hts (fun w hw => List.mem_cons_of_mem _ (u_K w hw)) t_K t_K_ok n_K hown hF.2.1 hs.1 (sF_D hF) hs.2 (4 + i) (cw_at hi) rfl 2 (by decide) (va_Nw.use rfl hF.2.2.1.1) fKs rfl (by decide +kernel) rfl rfl (Nat.le_of_ble_eq_true rfl) hdg (fun H1 locs1 hP _ hS => kk H1 locs1 (sS.to (cw_set4 hi) hP hS))
theorem xw_ld {own : String} (hx : p.tables.exec = Jvm.exec) (hb : c.code = cc) (hF : sF p m c cc nL s args c0 own D (cwL a cA) (cty cA) B0) (hs : sS D (cwL a cA) B0 s σ H locs) (hin : vp_in j 256) (hdg : decode cc pc = .ok (.iaload, 1))
    (kk : W p l e R s m args below meth c H locs cells slots Q (F0 m (pc + 1) ls (.int (σ 0 j.toNatClampNeg) :: rest))) : W p l e R s m args below meth c H locs cells slots Q (F0 m pc ls (.int j :: .ref (a 1) :: rest)) :=
  va_iald (f := σ 0) hx hb hF.2.1 hs.1 1 0 rfl rfl hin hdg kk
theorem xw_st {own : String} (hx : p.tables.exec = Jvm.exec) (hb : c.code = cc) (hF : sF p m c cc nL s args c0 own D (cwL a cA) (cty cA) B0) (hs : sS D (cwL a cA) B0 s σ H locs) (hin : vp_in j 256) (hdg : decode cc pc = .ok (.iastore, 1))
    (kk : ∀ (H1 : Heap) (locs1 : List Loc), sS D (cwL a cA) B0 s (wr σ 0 j.toNatClampNeg x) H1 locs1 → W p l e R s m args below meth c H1 locs1 cells slots Q (F0 m (pc + 1) ls rest)) : W p l e R s m args below meth c H locs cells slots Q (F0 m pc ls (.int x :: .int j :: .ref (a 1) :: rest)) :=
  va_iast (f := σ 0) hx hb hF.2.1 hs.1 (sF_D hF) hs.2 1 0 rfl rfl hin hdg (fun H1 locs1 hP _ hS => kk H1 locs1 (sS.to cw_set0 hP hS))
theorem xt_ld {own : String} (hx : p.tables.exec = Jvm.exec) (hb : c.code = cc) (hF : sF p m c cc nL s args c0 own D (cwL a cA) (cty cA) B0) (hs : sS D (cwL a cA) B0 s σ H locs) (hin : vp_in j 128) (hdg : decode cc pc = .ok (.baload, 1))
    (kk : W p l e R s m args below meth c H locs cells slots Q (F0 m (pc + 1) ls (.int (bo (σ 1 j.toNatClampNeg)) :: rest))) : W p l e R s m args below meth c H locs cells slots Q (F0 m pc ls (.int j :: .ref (a 2) :: rest)) :=
  va_zald (f := fun i => bo (σ 1 i)) hx hb hF.2.1 hs.1 2 1 rfl rfl hin hdg kk
theorem xt_st {own : String} (hx : p.tables.exec = Jvm.exec) (hb : c.code = cc) (hF : sF p m c cc nL s args c0 own D (cwL a cA) (cty cA) B0) (hs : sS D (cwL a cA) B0 s σ H locs) (hin : vp_in j 128) (hdg : decode cc pc = .ok (.bastore, 1))
    (kk : ∀ (H1 : Heap) (locs1 : List Loc), sS D (cwL a cA) B0 s (wr σ 1 j.toNatClampNeg x) H1 locs1 → W p l e R s m args below meth c H1 locs1 cells slots Q (F0 m (pc + 1) ls rest)) : W p l e R s m args below meth c H locs cells slots Q (F0 m pc ls (.int x :: .int j :: .ref (a 2) :: rest)) :=
  va_zast (f := fun i => bo (σ 1 i)) hx hb hF.2.1 hs.1 (sF_D hF) hs.2 2 1 rfl rfl hin hdg (fun H1 locs1 hP _ hS => kk H1 locs1 (sS.to cw_set1 hP hS))
theorem xr_ld {own : String} (hx : p.tables.exec = Jvm.exec) (hb : c.code = cc) (hF : sF p m c cc nL s args c0 own D (cwL a cA) (cty cA) B0) (hs : sS D (cwL a cA) B0 s σ H locs) (hin : vp_in j 12) (hdg : decode cc pc = .ok (.aaload, 1))
    (kk : W p l e R s m args below meth c H locs cells slots Q (F0 m (pc + 1) ls (.ref (a (4 + j.toNatClampNeg)) :: rest))) : W p l e R s m args below meth c H locs cells slots Q (F0 m pc ls (.int j :: .ref (a 3) :: rest)) :=
  va_aldq (f := fun i => some (a (4 + i))) (C := R_K) hx hb hF.2.1 hs.1 3 2 rfl rfl hin hdg kk
-- the reference
theorem xg_M {V : Value} (hx : p.tables.exec = Jvm.exec) (hb : c.code = cc) (hF : sF p m c cc nL s args c0 R_M D (rwL a cA) tys B0) (hs : sS D (rwL a cA) B0 s σ H locs) (k : Nat) (hk : k < 12) (hlink : Cond.fieldLink R_M ix R_M (F_M k).2.1 (F_M k).2.2.1 ∈ TG) (hv : (rF a σ)[k]? = some V) (hdg : decode cc pc = .ok (.getfield ix, 3))
    (kk : W p l e R s m args below meth c H locs cells slots Q (F0 m (pc + 3) ls (V :: rest))) : W p l e R s m args below meth c H locs cells slots Q (F0 m pc ls (.ref (a 0) :: rest)) := by
  have hts := hF.1.2.2.2.2
  have hown := hF.1.2.2.2.1
  exact va_get (D := D) (ci := 2) (C := R_M) (T := F_M) (N := 12) hx hb hts (fun w hw => List.mem_cons_of_mem _ (u_M w hw)) hown hF.2.1 hs.1 0 rfl rfl k hk (hts _ (List.mem_cons_of_mem _ hlink)) fMs hv hdg kk
theorem xp_M5 (hx : p.tables.exec = Jvm.exec) (hb : c.code = cc) (hF : sF p m c cc nL s args c0 R_M D (rwL a cA) tys B0) (hs : sS D (rwL a cA) B0 s σ H locs) (k : Nat) (hk : k < 4) (hlink : Cond.fieldLink R_M ix R_M (F_M (5 + k)).2.1 (F_M (5 + k)).2.2.1 ∈ TG) (hdg : decode cc pc = .ok (.putfield ix, 3))
    (kk : ∀ (H1 : Heap) (locs1 : List Loc), sS D (rwL a cA) B0 s (wr σ 5 k v) H1 locs1 → W p l e R s m args below meth c H1 locs1 cells slots Q (F0 m (pc + 3) ls rest)) : W p l e R s m args below meth c H locs cells slots Q (F0 m pc ls (.int v :: .ref (a 0) :: rest)) := by
  have hts := hF.1.2.2.2.2
  have hown := hF.1.2.2.2.1
  have hfin : (F_M (5 + k)).2.2.2 = false := by match k, hk with | 0, _ => rfl | 1, _ => rfl | 2, _ => rfl | 3, _ => rfl
  have hd : parseFieldDescriptor (F_M (5 + k)).2.2.1 = some .int := by match k, hk with | 0, _ => decide +kernel | 1, _ => decide +kernel | 2, _ => decide +kernel | 3, _ => decide +kernel
  exact va_put (D := D) (ci := 2) (v := .int v) (ty := .int) (C := R_M) (T := F_M) (N := 12) hx hb hts (fun w hw => List.mem_cons_of_mem _ (u_M w hw)) t_M t_M_ok n_M hown hF.2.1 hs.1 (sF_D hF) hs.2 0 rfl rfl (5 + k) (by omega) (hts _ (List.mem_cons_of_mem _ hlink)) fMs hfin hd rfl rfl (by show 5 + k < 12; omega) hdg (fun H1 locs1 hP _ hS => kk H1 locs1 (sS.to (rw_set5 k hk) hP hS))
theorem xp_M6 (hx : p.tables.exec = Jvm.exec) (hb : c.code = cc) (hF : sF p m c cc nL s args c0 R_M D (rwL a cA) tys B0) (hs : sS D (rwL a cA) B0 s σ H locs) (k : Nat) (hk : k < 2) (hlink : Cond.fieldLink R_M ix R_M (F_M (9 + k)).2.1 (F_M (9 + k)).2.2.1 ∈ TG) (hdg : decode cc pc = .ok (.putfield ix, 3))
    (kk : ∀ (H1 : Heap) (locs1 : List Loc), sS D (rwL a cA) B0 s (wr σ 6 k v) H1 locs1 → W p l e R s m args below meth c H1 locs1 cells slots Q (F0 m (pc + 3) ls rest)) : W p l e R s m args below meth c H locs cells slots Q (F0 m pc ls (.int v :: .ref (a 0) :: rest)) := by
  have hts := hF.1.2.2.2.2
  have hown := hF.1.2.2.2.1
  have hfin : (F_M (9 + k)).2.2.2 = false := by match k, hk with | 0, _ => rfl | 1, _ => rfl
  have hd : parseFieldDescriptor (F_M (9 + k)).2.2.1 = some .int := by match k, hk with | 0, _ => decide +kernel | 1, _ => decide +kernel
  exact va_put (D := D) (ci := 2) (v := .int v) (ty := .int) (C := R_M) (T := F_M) (N := 12) hx hb hts (fun w hw => List.mem_cons_of_mem _ (u_M w hw)) t_M t_M_ok n_M hown hF.2.1 hs.1 (sF_D hF) hs.2 0 rfl rfl (9 + k) (by omega) (hts _ (List.mem_cons_of_mem _ hlink)) fMs hfin hd rfl rfl (by show 9 + k < 12; omega) hdg (fun H1 locs1 hP _ hS => kk H1 locs1 (sS.to (rw_set6 k (by omega) (fun z => by omega)) hP hS))
theorem xp_M62 (hx : p.tables.exec = Jvm.exec) (hb : c.code = cc) (hF : sF p m c cc nL s args c0 R_M D (rwL a cA) tys B0) (hs : sS D (rwL a cA) B0 s σ H locs) (hlink : Cond.fieldLink R_M ix R_M (F_M 11).2.1 (F_M 11).2.2.1 ∈ TG) (hbo : bo v = v) (hdg : decode cc pc = .ok (.putfield ix, 3))
    (kk : ∀ (H1 : Heap) (locs1 : List Loc), sS D (rwL a cA) B0 s (wr σ 6 2 v) H1 locs1 → W p l e R s m args below meth c H1 locs1 cells slots Q (F0 m (pc + 3) ls rest)) : W p l e R s m args below meth c H locs cells slots Q (F0 m pc ls (.int v :: .ref (a 0) :: rest)) := by
  have hts := hF.1.2.2.2.2
  have hown := hF.1.2.2.2.1
  exact va_put (D := D) (ci := 2) (v := .int v) (ty := .boolean) (C := R_M) (T := F_M) (N := 12) hx hb hts (fun w hw => List.mem_cons_of_mem _ (u_M w hw)) t_M t_M_ok n_M hown hF.2.1 hs.1 (sF_D hF) hs.2 0 rfl rfl 11 (by decide) (hts _ (List.mem_cons_of_mem _ hlink)) fMs rfl (by decide +kernel) (bo_nar hbo) (bo_fit hbo) (Nat.le_of_ble_eq_true rfl) hdg (fun H1 locs1 hP _ hS => kk H1 locs1 (sS.to (rw_set6 2 (by decide) (fun _ => hbo)) hP hS))
theorem x4_ld {own : String} (hx : p.tables.exec = Jvm.exec) (hb : c.code = cc) (hF : sF p m c cc nL s args c0 own D (rwL a cA) (rty cA) B0) (hs : sS D (rwL a cA) B0 s σ H locs) (hin : vp_in j 12) (hdg : decode cc pc = .ok (.iaload, 1))
    (kk : W p l e R s m args below meth c H locs cells slots Q (F0 m (pc + 1) ls (.int (σ 4 j.toNatClampNeg) :: rest))) : W p l e R s m args below meth c H locs cells slots Q (F0 m pc ls (.int j :: .ref (a 1) :: rest)) :=
  va_iald (f := σ 4) hx hb hF.2.1 hs.1 1 0 rfl rfl hin hdg kk
theorem x3_ld {own : String} (hx : p.tables.exec = Jvm.exec) (hb : c.code = cc) (hF : sF p m c cc nL s args c0 own D (rwL a cA) (rty cA) B0) (hs : sS D (rwL a cA) B0 s σ H locs) (hin : vp_in j 12) (hdg : decode cc pc = .ok (.iaload, 1))
    (kk : W p l e R s m args below meth c H locs cells slots Q (F0 m (pc + 1) ls (.int (σ 3 j.toNatClampNeg) :: rest))) : W p l e R s m args below meth c H locs cells slots Q (F0 m pc ls (.int j :: .ref (a 2) :: rest)) :=
  va_iald (f := σ 3) hx hb hF.2.1 hs.1 2 1 rfl rfl hin hdg kk
theorem x2_ld {own : String} (hx : p.tables.exec = Jvm.exec) (hb : c.code = cc) (hF : sF p m c cc nL s args c0 own D (rwL a cA) (rty cA) B0) (hs : sS D (rwL a cA) B0 s σ H locs) (hin : vp_in j 12) (hdg : decode cc pc = .ok (.baload, 1))
    (kk : W p l e R s m args below meth c H locs cells slots Q (F0 m (pc + 1) ls (.int (bo (σ 2 j.toNatClampNeg)) :: rest))) : W p l e R s m args below meth c H locs cells slots Q (F0 m pc ls (.int j :: .ref (a 3) :: rest)) :=
  va_zald (f := fun i => bo (σ 2 i)) hx hb hF.2.1 hs.1 3 2 rfl rfl hin hdg kk
theorem x0_ld {own : String} (hx : p.tables.exec = Jvm.exec) (hb : c.code = cc) (hF : sF p m c cc nL s args c0 own D (rwL a cA) (rty cA) B0) (hs : sS D (rwL a cA) B0 s σ H locs) (hin : vp_in j 256) (hdg : decode cc pc = .ok (.iaload, 1))
    (kk : W p l e R s m args below meth c H locs cells slots Q (F0 m (pc + 1) ls (.int (σ 0 j.toNatClampNeg) :: rest))) : W p l e R s m args below meth c H locs cells slots Q (F0 m pc ls (.int j :: .ref (a 4) :: rest)) :=
  va_iald (f := σ 0) hx hb hF.2.1 hs.1 4 3 rfl rfl hin hdg kk
theorem x1_ld {own : String} (hx : p.tables.exec = Jvm.exec) (hb : c.code = cc) (hF : sF p m c cc nL s args c0 own D (rwL a cA) (rty cA) B0) (hs : sS D (rwL a cA) B0 s σ H locs) (hin : vp_in j 128) (hdg : decode cc pc = .ok (.baload, 1))
    (kk : W p l e R s m args below meth c H locs cells slots Q (F0 m (pc + 1) ls (.int (bo (σ 1 j.toNatClampNeg)) :: rest))) : W p l e R s m args below meth c H locs cells slots Q (F0 m pc ls (.int j :: .ref (a 5) :: rest)) :=
  va_zald (f := fun i => bo (σ 1 i)) hx hb hF.2.1 hs.1 5 4 rfl rfl hin hdg kk
theorem x4_st {own : String} (hx : p.tables.exec = Jvm.exec) (hb : c.code = cc) (hF : sF p m c cc nL s args c0 own D (rwL a cA) (rty cA) B0) (hs : sS D (rwL a cA) B0 s σ H locs) (hin : vp_in j 12) (hdg : decode cc pc = .ok (.iastore, 1))
    (kk : ∀ (H1 : Heap) (locs1 : List Loc), sS D (rwL a cA) B0 s (wr σ 4 j.toNatClampNeg x) H1 locs1 → W p l e R s m args below meth c H1 locs1 cells slots Q (F0 m (pc + 1) ls rest)) : W p l e R s m args below meth c H locs cells slots Q (F0 m pc ls (.int x :: .int j :: .ref (a 1) :: rest)) :=
  va_iast (f := σ 4) hx hb hF.2.1 hs.1 (sF_D hF) hs.2 1 0 rfl rfl hin hdg (fun H1 locs1 hP _ hS => kk H1 locs1 (sS.to rw_set4 hP hS))
theorem x3_st {own : String} (hx : p.tables.exec = Jvm.exec) (hb : c.code = cc) (hF : sF p m c cc nL s args c0 own D (rwL a cA) (rty cA) B0) (hs : sS D (rwL a cA) B0 s σ H locs) (hin : vp_in j 12) (hdg : decode cc pc = .ok (.iastore, 1))
    (kk : ∀ (H1 : Heap) (locs1 : List Loc), sS D (rwL a cA) B0 s (wr σ 3 j.toNatClampNeg x) H1 locs1 → W p l e R s m args below meth c H1 locs1 cells slots Q (F0 m (pc + 1) ls rest)) : W p l e R s m args below meth c H locs cells slots Q (F0 m pc ls (.int x :: .int j :: .ref (a 2) :: rest)) :=
  va_iast (f := σ 3) hx hb hF.2.1 hs.1 (sF_D hF) hs.2 2 1 rfl rfl hin hdg (fun H1 locs1 hP _ hS => kk H1 locs1 (sS.to rw_set3 hP hS))
theorem x2_st {own : String} (hx : p.tables.exec = Jvm.exec) (hb : c.code = cc) (hF : sF p m c cc nL s args c0 own D (rwL a cA) (rty cA) B0) (hs : sS D (rwL a cA) B0 s σ H locs) (hin : vp_in j 12) (hdg : decode cc pc = .ok (.bastore, 1))
    (kk : ∀ (H1 : Heap) (locs1 : List Loc), sS D (rwL a cA) B0 s (wr σ 2 j.toNatClampNeg x) H1 locs1 → W p l e R s m args below meth c H1 locs1 cells slots Q (F0 m (pc + 1) ls rest)) : W p l e R s m args below meth c H locs cells slots Q (F0 m pc ls (.int x :: .int j :: .ref (a 3) :: rest)) :=
  va_zast (f := fun i => bo (σ 2 i)) hx hb hF.2.1 hs.1 (sF_D hF) hs.2 3 2 rfl rfl hin hdg (fun H1 locs1 hP _ hS => kk H1 locs1 (sS.to rw_set2 hP hS))
theorem x0_st {own : String} (hx : p.tables.exec = Jvm.exec) (hb : c.code = cc) (hF : sF p m c cc nL s args c0 own D (rwL a cA) (rty cA) B0) (hs : sS D (rwL a cA) B0 s σ H locs) (hin : vp_in j 256) (hdg : decode cc pc = .ok (.iastore, 1))
    (kk : ∀ (H1 : Heap) (locs1 : List Loc), sS D (rwL a cA) B0 s (wr σ 0 j.toNatClampNeg x) H1 locs1 → W p l e R s m args below meth c H1 locs1 cells slots Q (F0 m (pc + 1) ls rest)) : W p l e R s m args below meth c H locs cells slots Q (F0 m pc ls (.int x :: .int j :: .ref (a 4) :: rest)) :=
  va_iast (f := σ 0) hx hb hF.2.1 hs.1 (sF_D hF) hs.2 4 3 rfl rfl hin hdg (fun H1 locs1 hP _ hS => kk H1 locs1 (sS.to rw_set0 hP hS))
theorem x1_st {own : String} (hx : p.tables.exec = Jvm.exec) (hb : c.code = cc) (hF : sF p m c cc nL s args c0 own D (rwL a cA) (rty cA) B0) (hs : sS D (rwL a cA) B0 s σ H locs) (hin : vp_in j 128) (hdg : decode cc pc = .ok (.bastore, 1))
    (kk : ∀ (H1 : Heap) (locs1 : List Loc), sS D (rwL a cA) B0 s (wr σ 1 j.toNatClampNeg x) H1 locs1 → W p l e R s m args below meth c H1 locs1 cells slots Q (F0 m (pc + 1) ls rest)) : W p l e R s m args below meth c H locs cells slots Q (F0 m pc ls (.int x :: .int j :: .ref (a 5) :: rest)) :=
  va_zast (f := fun i => bo (σ 1 i)) hx hb hF.2.1 hs.1 (sF_D hF) hs.2 5 4 rfl rfl hin hdg (fun H1 locs1 hP _ hS => kk H1 locs1 (sS.to rw_set1 hP hS))
-- long constants of the pool
theorem x_ldc2 {own : String} {wl : Wl} {z : Int64} (hx : p.tables.exec = Jvm.exec) (hb : c.code = cc) (hF : sF p m c cc nL s args c0 own D wl tys B0) (hk : Cond.constantLong own ix z ∈ TG) (hdg : decode cc pc = .ok (.ldc2_w ix, 3))
    (kk : W p l e R s m args below meth c H locs cells slots Q (F0 m (pc + 3) ls (.long z :: rest))) : W p l e R s m args below meth c H locs cells slots Q (F0 m pc ls rest) :=
  lv_ldc2 hx hb hF.1.2.2.2.1 (hF.1.2.2.2.2 _ (List.mem_cons_of_mem _ hk)) hdg kk
end RW
theorem in13 {r : Int32} (h : vp_in r 12) : r.toNatClampNeg < 13 := Nat.lt_succ_of_lt (Nat.not_le.mp fun q => h (Or.inr q))
theorem in_mono {r : Int32} {n k : Nat} (hk : n ≤ k) (h : vp_in r n) : vp_in r k := fun q => h (q.elim Or.inl (fun z => Or.inr (Nat.le_trans hk z)))
