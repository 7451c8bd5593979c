-- calls out of the law: two worlds, the core's and the reference's
theorem tgs {w : Cond} (h : w ∈ TG) : w ∈ lw_tbl := (List.mem_filter.mp h).1
def lF (p : Program) (m : MethodId) (c : Code) (s : State) (args : Array Value) (D : va_G) (a : Nat → Nat) (cA : Nat → ClassId) (b : Nat → Nat) (cB : Nat → ClassId) : Prop := CallFix p m c code 4 s args lw_tbl R_L ∧ va_K D classes (cty cA) s ∧ va_K D classes (rty cB) s ∧ nW s ∧ (∀ τ : Mem, va_D (aB a 17) (cwL a cA τ)) ∧ (∀ τ : Mem, va_D (aB b 6) (rwL b cB τ)) ∧ (∀ q, aB a 17 q → s.heap.size ≤ q) ∧ (∀ q, aB b 6 q → s.heap.size ≤ q) ∧ ∀ q, aB a 17 q → aB b 6 q → False
def lS (D : va_G) (a : Nat → Nat) (cA : Nat → ClassId) (b : Nat → Nat) (cB : Nat → ClassId) (s : State) (σ τ : Mem) (H : Heap) (locs : List Loc) : Prop := va_P D classes (cwL a cA σ) H ∧ va_P D classes (rwL b cB τ) H ∧ va_S (fun q => s.heap.size ≤ q) s.heap H locs
section LC
variable {p : Program} {l : Launch} {e : Env} {R : Room} {s : State} {m : MethodId} {args : Array Value} {below : List Frame} {meth : Method} {c : Code} {H : Heap} {locs : List Loc} {cells slots : Nat} {Q : State → Prop}
variable {pc : Nat} {ls : Array Slot} {rest st0 : List Value} {D : va_G} {a : Nat → Nat} {cA : Nat → ClassId} {b : Nat → Nat} {cB : Nat → ClassId} {σ τ : Mem}
variable {y : MethodName} {bytes : ByteArray} {maxL n ix : Nat} {ret : Option FieldType} {rm : Room} {As : List Value}
theorem l_cw (hts : ∀ w ∈ lw_tbl, w.before args s = true) (hv : mV y bytes maxL ret n) (hl : Cond.methodLink R_L ix y ∈ TG) (hrc : rm.cells = 0) (hrs : rm.slots = 0) (hR : rm.frames + 1 ≤ R.frames ∧ 8 + (maxL + 11) + rm.locals ≤ R.locals) : CallW R s args R_L y.cls ix y bytes maxL ret (.code y bytes maxL ret :: TG) rm 0 0 n := by
  obtain ⟨h1, h2, h3, h4, h5⟩ := hv
  exact ⟨callB_of n hts (tg_law h1) rfl hrc hrs (hts _ (tgs h2)) (hts _ (tgs hl)) h5 hR, hts _ (tgs h3), hts _ (tgs h4)⟩
theorem l_preX (hF : lF p m c s args D a cA b cB) (hs : lS D a cA b cB s σ τ H locs) {av : List Value} (U : State) (hU : U.heap = H) (hW : s.WarmedH U.vm) : va_Pc av (fun U => U.heap.size = H.size ∧ sP D (cwL a cA) (cty cA) (aB a 17) σ U) av.toArray U :=
  ⟨rfl, by rw [hU], by rw [hU]; exact hs.1, va_K.moved hW.alike hF.2.1, hF.2.2.2.1.warm hW, hF.2.2.2.2.1⟩
theorem l_preM (hF : lF p m c s args D a cA b cB) (hs : lS D a cA b cB s σ τ H locs) {av : List Value} (U : State) (hU : U.heap = H) (hW : s.WarmedH U.vm) : va_Pc av (fun U => U.heap.size = H.size ∧ sP D (rwL b cB) (rty cB) (aB b 6) τ U) av.toArray U :=
  ⟨rfl, by rw [hU], by rw [hU]; exact hs.2.1, va_K.moved hW.alike hF.2.2.1, hF.2.2.2.1.warm hW, hF.2.2.2.2.2.1⟩
theorem l_upX (hF : lF p m c s args D a cA b cB) (hs : lS D a cA b cB s σ τ H locs) : ∀ q, sA (aB a 17) H.size q → s.heap.size ≤ q := fun q h => h.elim (hF.2.2.2.2.2.2.1 q) (fun z => Nat.le_trans hs.2.2.1 z)
theorem l_upM (hF : lF p m c s args D a cA b cB) (hs : lS D a cA b cB s σ τ H locs) : ∀ q, sA (aB b 6) H.size q → s.heap.size ≤ q := fun q h => h.elim (hF.2.2.2.2.2.2.2.1 q) (fun z => Nat.le_trans hs.2.2.1 z)
theorem l_keepM (hF : lF p m c s args D a cA b cB) (hs : lS D a cA b cB s σ τ H locs) {H1 : Heap} (hk : ∀ q : Nat, q < H.size → ¬ sA (aB a 17) H.size q → H1[q]? = H[q]?) : va_P D classes (rwL b cB τ) H1 := by
  refine hs.2.1.kept (fun k x hx => ?_)
  have h1 := (hs.2.1 k x hx).lt
  have h2 := (hF.2.2.2.2.2.1 τ).2 k x hx
  exact hk x.1 h1 (fun z => z.elim (fun z => hF.2.2.2.2.2.2.2.2 x.1 z h2) (fun z => by omega))
theorem l_keepX (hF : lF p m c s args D a cA b cB) (hs : lS D a cA b cB s σ τ H locs) {H1 : Heap} (hk : ∀ q : Nat, q < H.size → ¬ sA (aB b 6) H.size q → H1[q]? = H[q]?) : va_P D classes (cwL a cA σ) H1 := by
  refine hs.1.kept (fun k x hx => ?_)
  have h1 := (hs.1 k x hx).lt
  have h2 := (hF.2.2.2.2.1 σ).2 k x hx
  exact hk x.1 h1 (fun z => z.elim (fun z => hF.2.2.2.2.2.2.2.2 x.1 h2 z) (fun z => by omega))
theorem lx_Vi {P : Int32 × Mem} (hF : lF p m c s args D a cA b cB) (hs : lS D a cA b cB s σ τ H locs) (hv : mV y bytes maxL ret n) (hl : Cond.methodLink R_L ix y ∈ TG) (hC : cI l y (.code y bytes maxL ret :: TG) rm D (cwL a cA) (cty cA) (aB a 17) (.ref (a 0) :: As) σ P) (hrc : rm.cells = 0) (hrs : rm.slots = 0) (hR : rm.frames + 1 ≤ R.frames ∧ 8 + (maxL + 11) + rm.locals ≤ R.locals) (hn : As.length = n) (hst : st0 = As.reverse ++ .ref (a 0) :: rest) (hsz : ls.size = 4) (hW : (rest.map fun v => v.category).sum ≤ 8) (hy : y.cls = R_X) (hdg : decode code pc = .ok (.invokevirtual ix, 3)) (hf : cells ≤ R.cells ∧ slots ≤ R.slots)
    (kk : ∀ (H1 : Heap) (locs1 : List Loc), lS D a cA b cB s P.2 τ H1 locs1 → W p l e R s m args below meth c H1 locs1 cells slots Q (F0 m (pc + 3) ls (.int P.1 :: rest))) : W p l e R s m args below meth c H locs cells slots Q (F0 m pc ls st0) := by
  subst hst
  have hrv : ∃ cellB : Cell, H[a 0]? = some cellB ∧ cellB.vm.isStatics = false ∧ s.vm.findClass y.cls = some cellB.cls := by
    rw [hy]
    exact va_recv (q := (R_X, F_X, 9)) (ci := 1) hF.2.1 hs.1 rfl (q0 := 0) rfl
  refine va_calli (va_runV (As := As) (rest := rest) (b := a 0) (C := y.cls) (n := n) hF.1 (hC H.size) (l_cw hF.1.2.2.2.2 hv hl hrc hrs hR) ⟨sP.blind, hrv, l_preX hF hs⟩ rfl hn hsz rfl (lv_room hW) hdg hf) hs.2.2 (fun q _ h => l_upX hF hs q h) (l_upX hF hs) (fun r u t H1 locs1 ht hvm hpost hB hz hk hS => ?_)
  subst hpost
  exact kk H1 locs1 ⟨by rw [← ht]; exact hB, l_keepM hF hs hk, hS⟩
theorem lx_Vl {P : Int64 × Mem} (hF : lF p m c s args D a cA b cB) (hs : lS D a cA b cB s σ τ H locs) (hv : mV y bytes maxL ret n) (hl : Cond.methodLink R_L ix y ∈ TG) (hC : cL l y (.code y bytes maxL ret :: TG) rm D (cwL a cA) (cty cA) (aB a 17) (.ref (a 0) :: As) σ P) (hrc : rm.cells = 0) (hrs : rm.slots = 0) (hR : rm.frames + 1 ≤ R.frames ∧ 8 + (maxL + 11) + rm.locals ≤ R.locals) (hn : As.length = n) (hst : st0 = As.reverse ++ .ref (a 0) :: rest) (hsz : ls.size = 4) (hW : (rest.map fun v => v.category).sum ≤ 8) (hy : y.cls = R_X) (hdg : decode code pc = .ok (.invokevirtual ix, 3)) (hf : cells ≤ R.cells ∧ slots ≤ R.slots)
    (kk : ∀ (H1 : Heap) (locs1 : List Loc), lS D a cA b cB s P.2 τ H1 locs1 → W p l e R s m args below meth c H1 locs1 cells slots Q (F0 m (pc + 3) ls (.long P.1 :: rest))) : W p l e R s m args below meth c H locs cells slots Q (F0 m pc ls st0) := by
  subst hst
  have hrv : ∃ cellB : Cell, H[a 0]? = some cellB ∧ cellB.vm.isStatics = false ∧ s.vm.findClass y.cls = some cellB.cls := by
    rw [hy]
    exact va_recv (q := (R_X, F_X, 9)) (ci := 1) hF.2.1 hs.1 rfl (q0 := 0) rfl
  refine va_calll (va_runV (As := As) (rest := rest) (b := a 0) (C := y.cls) (n := n) hF.1 (hC H.size) (l_cw hF.1.2.2.2.2 hv hl hrc hrs hR) ⟨sP.blind, hrv, l_preX hF hs⟩ rfl hn hsz rfl (lv_room hW) hdg hf) hs.2.2 (fun q _ h => l_upX hF hs q h) (l_upX hF hs) (fun r u t H1 locs1 ht hvm hpost hB hz hk hS => ?_)
  subst hpost
  exact kk H1 locs1 ⟨by rw [← ht]; exact hB, l_keepM hF hs hk, hS⟩
theorem lm_Vi {P : Int32 × Mem} (hF : lF p m c s args D a cA b cB) (hs : lS D a cA b cB s σ τ H locs) (hv : mV y bytes maxL ret n) (hl : Cond.methodLink R_L ix y ∈ TG) (hC : cI l y (.code y bytes maxL ret :: TG) rm D (rwL b cB) (rty cB) (aB b 6) (.ref (b 0) :: As) τ P) (hrc : rm.cells = 0) (hrs : rm.slots = 0) (hR : rm.frames + 1 ≤ R.frames ∧ 8 + (maxL + 11) + rm.locals ≤ R.locals) (hn : As.length = n) (hst : st0 = As.reverse ++ .ref (b 0) :: rest) (hsz : ls.size = 4) (hW : (rest.map fun v => v.category).sum ≤ 8) (hy : y.cls = R_M) (hdg : decode code pc = .ok (.invokevirtual ix, 3)) (hf : cells ≤ R.cells ∧ slots ≤ R.slots)
    (kk : ∀ (H1 : Heap) (locs1 : List Loc), lS D a cA b cB s σ P.2 H1 locs1 → W p l e R s m args below meth c H1 locs1 cells slots Q (F0 m (pc + 3) ls (.int P.1 :: rest))) : W p l e R s m args below meth c H locs cells slots Q (F0 m pc ls st0) := by
  subst hst
  have hrv : ∃ cellB : Cell, H[b 0]? = some cellB ∧ cellB.vm.isStatics = false ∧ s.vm.findClass y.cls = some cellB.cls := by
    rw [hy]
    exact va_recv (q := (R_M, F_M, 12)) (ci := 2) hF.2.2.1 hs.2.1 rfl (q0 := 0) rfl
  refine va_calli (va_runV (As := As) (rest := rest) (b := b 0) (C := y.cls) (n := n) hF.1 (hC H.size) (l_cw hF.1.2.2.2.2 hv hl hrc hrs hR) ⟨sP.blind, hrv, l_preM hF hs⟩ rfl hn hsz rfl (lv_room hW) hdg hf) hs.2.2 (fun q _ h => l_upM hF hs q h) (l_upM hF hs) (fun r u t H1 locs1 ht hvm hpost hB hz hk hS => ?_)
  subst hpost
  exact kk H1 locs1 ⟨l_keepX hF hs hk, by rw [← ht]; exact hB, hS⟩
theorem lm_Vl {P : Int64 × Mem} (hF : lF p m c s args D a cA b cB) (hs : lS D a cA b cB s σ τ H locs) (hv : mV y bytes maxL ret n) (hl : Cond.methodLink R_L ix y ∈ TG) (hC : cL l y (.code y bytes maxL ret :: TG) rm D (rwL b cB) (rty cB) (aB b 6) (.ref (b 0) :: As) τ P) (hrc : rm.cells = 0) (hrs : rm.slots = 0) (hR : rm.frames + 1 ≤ R.frames ∧ 8 + (maxL + 11) + rm.locals ≤ R.locals) (hn : As.length = n) (hst : st0 = As.reverse ++ .ref (b 0) :: rest) (hsz : ls.size = 4) (hW : (rest.map fun v => v.category).sum ≤ 8) (hy : y.cls = R_M) (hdg : decode code pc = .ok (.invokevirtual ix, 3)) (hf : cells ≤ R.cells ∧ slots ≤ R.slots)
    (kk : ∀ (H1 : Heap) (locs1 : List Loc), lS D a cA b cB s σ P.2 H1 locs1 → W p l e R s m args below meth c H1 locs1 cells slots Q (F0 m (pc + 3) ls (.long P.1 :: rest))) : W p l e R s m args below meth c H locs cells slots Q (F0 m pc ls st0) := by
  subst hst
  have hrv : ∃ cellB : Cell, H[b 0]? = some cellB ∧ cellB.vm.isStatics = false ∧ s.vm.findClass y.cls = some cellB.cls := by
    rw [hy]
    exact va_recv (q := (R_M, F_M, 12)) (ci := 2) hF.2.2.1 hs.2.1 rfl (q0 := 0) rfl
  refine va_calll (va_runV (As := As) (rest := rest) (b := b 0) (C := y.cls) (n := n) hF.1 (hC H.size) (l_cw hF.1.2.2.2.2 hv hl hrc hrs hR) ⟨sP.blind, hrv, l_preM hF hs⟩ rfl hn hsz rfl (lv_room hW) hdg hf) hs.2.2 (fun q _ h => l_upM hF hs q h) (l_upM hF hs) (fun r u t H1 locs1 ht hvm hpost hB hz hk hS => ?_)
  subst hpost
  exact kk H1 locs1 ⟨l_keepX hF hs hk, by rw [← ht]; exact hB, hS⟩
end LC
