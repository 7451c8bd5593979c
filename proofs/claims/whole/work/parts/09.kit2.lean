-- what is fixed in a method's body, what changes, and the contracts
/-- the words of nest mates: the core's own use of a capability's fields -/
def nW (U : State) : Prop := va_Nw (.fieldLinkNest R_X 62 R_K "address" "I" R_X) U ∧ va_Nw (.fieldLinkNest R_X 65 R_K "meta" "I" R_X) U ∧ va_Nw (.fieldLinkNest R_X 68 R_K "tag" "Z" R_X) U
theorem nW.warm {s U : State} (hW : s.WarmedH U.vm) (h : nW s) : nW U := ⟨va_Nw.warmF hW h.1, va_Nw.warmF hW h.2.1, va_Nw.warmF hW h.2.2⟩
theorem nW.blind {U : State} {g : JFrame} {mk : MethodId} {a : Array Value} (h : nW U) : nW (U.calling g mk a) := ⟨va_Nw.same rfl (u := U) rfl h.1, va_Nw.same rfl (u := U) rfl h.2.1, va_Nw.same rfl (u := U) rfl h.2.2⟩
abbrev Wl : Type := Mem → va_W
abbrev Tys : Type := List (ClassId × FieldType)
def sA (B0 : Nat → Prop) (sz : Nat) : Nat → Prop := fun q => B0 q ∨ sz ≤ q
/-- a method's start -/
def sP (D : va_G) (wl : Wl) (tys : Tys) (B0 : Nat → Prop) (σ : Mem) (U : State) : Prop := va_P D classes (wl σ) U.heap ∧ va_K D classes tys U ∧ nW U ∧ ∀ τ : Mem, va_D B0 (wl τ)
/-- fixed in a body -/
def sF (p : Program) (m : MethodId) (c : Code) (cc : ByteArray) (nL : Nat) (s : State) (args : Array Value) (c0 : Cond) (own : String) (D : va_G) (wl : Wl) (tys : Tys) (B0 : Nat → Prop) : Prop := CallFix p m c cc nL s args (c0 :: TG) own ∧ va_K D classes tys s ∧ nW s ∧ ∀ τ : Mem, va_D B0 (wl τ)
/-- changes in a body -/
def sS (D : va_G) (wl : Wl) (B0 : Nat → Prop) (s : State) (σ : Mem) (H : Heap) (locs : List Loc) : Prop := va_P D classes (wl σ) H ∧ va_S (sA B0 s.heap.size) s.heap H locs
def sQ (D : va_G) (wl : Wl) (u : Mem) (t : State) : Prop := va_P D classes (wl u) t.heap
def cI (l : Launch) (y : MethodName) (w : List Cond) (rm : Room) (D : va_G) (wl : Wl) (tys : Tys) (B0 : Nat → Prop) (av : List Value) (σ : Mem) (P : Int32 × Mem) : Prop := ∀ sz : Nat, Met l y w rm (va_Pc av (fun U => U.heap.size = sz ∧ sP D wl tys B0 σ U)) (va_Qi (fun r u => P = (r, u)) (sQ D wl) (sA B0 sz)) 0 0 (sA B0 sz)
def cL (l : Launch) (y : MethodName) (w : List Cond) (rm : Room) (D : va_G) (wl : Wl) (tys : Tys) (B0 : Nat → Prop) (av : List Value) (σ : Mem) (P : Int64 × Mem) : Prop := ∀ sz : Nat, Met l y w rm (va_Pc av (fun U => U.heap.size = sz ∧ sP D wl tys B0 σ U)) (va_Ql (fun r u => P = (r, u)) (sQ D wl) (sA B0 sz)) 0 0 (sA B0 sz)
def cV (l : Launch) (y : MethodName) (w : List Cond) (rm : Room) (D : va_G) (wl : Wl) (tys : Tys) (B0 : Nat → Prop) (av : List Value) (σ : Mem) (P : Mem) : Prop := ∀ sz : Nat, Met l y w rm (va_Pc av (fun U => U.heap.size = sz ∧ sP D wl tys B0 σ U)) (va_Qv (fun u => P = u) (sQ D wl) (sA B0 sz)) 0 0 (sA B0 sz)
abbrev rmO (f n : Nat) : Room := { frames := f, cells := 0, slots := 0, locals := n }
theorem sP.blind {D : va_G} {wl : Wl} {tys : Tys} {B0 : Nat → Prop} {σ : Mem} {sz : Nat} {av : List Value} : FrameBlind (va_Pc av (fun U => U.heap.size = sz ∧ sP D wl tys B0 σ U)) := fun a U g mk q => by
  obtain ⟨q0, q1, qP, qK, qN, qD⟩ := q
  exact ⟨q0, q1, qP, va_K.moved (u := U) (U := U.calling g mk a) (Vm.Alike.refl U.vm) qK, qN.blind, qD⟩
section SB
variable {l : Launch} {y : MethodName} {cc : ByteArray} {maxL : Nat} {rm : Room} {D : va_G} {wl : Wl} {tys : Tys} {B0 : Nat → Prop} {av : List Value} {σ : Mem}
theorem cI_of {P : Int32 × Mem} (hy : plainName y.cls = true) (hlen : (lg_sl av).length ≤ maxL)
    (body : ∀ (p : Program) (e : Env) (s : State) (m : MethodId) (args : Array Value) (below : List Frame) (meth : Method) (c : Code) (Q : State → Prop) (ls : Array Slot), p.tables.exec = Jvm.exec → c.code = cc → sF p m c cc maxL s args (.code y cc maxL (some .int)) y.cls D wl tys B0 → lv_has ls maxL (lv_args 0 av) → sS D wl B0 s σ s.heap [] →
      (∀ (H : Heap) (locs : List Loc) (v : Int32) (u : Mem) (pc : Nat) (ls' : Array Slot), sS D wl B0 s u H locs → P = (v, u) → decode cc pc = .ok (.ireturn, 1) → W p l e rm s m args below meth c H locs 0 0 Q (F0 m pc ls' [.int v])) →
      W p l e rm s m args below meth c s.heap [] 0 0 Q (F0 m 0 ls [])) : cI l y (.code y cc maxL (some .int) :: TG) rm D wl tys B0 av σ P := by
  intro sz
  refine Met.ofW (cc := cc) (maxL := maxL) (ret := some .int) hy rfl ?_
  intro p e s m args below meth c s₁ B hml hv
  obtain ⟨rfl, hsz, hP, hK, hN, hD⟩ := hv
  have hx := B.exec
  have hb := B.bytes
  have hr := B.returns
  have hts := atoms_spec (ws := .code y cc maxL (some .int) :: TG) B.pre
  have hown : s.vm.findClass y.cls = some m.cls := findClass_of_methodNamed B.named
  have hlocks := B.notSynchronized
  subst hsz
  rw [lg_entry_eq]
  refine body p e s m _ below meth c _ _ hx hb ⟨⟨hx, hb, hml, hown, hts⟩, hK, hN, hD⟩ (lv_entry av hlen) ⟨hP, va_S.rf⟩ ?_
  intro H locs v u pc ls' hs he hdg
  exact W.iret hx hb hr (fun t ht hW => ⟨⟨v, u, rfl, he, by unfold sQ; rw [ht]; exact hs.1⟩, hs.2.F ht⟩) hs.2.2.2 hdg
theorem cZ_of {P : Int32 × Mem} (hy : plainName y.cls = true) (hlen : (lg_sl av).length ≤ maxL)
    (body : ∀ (p : Program) (e : Env) (s : State) (m : MethodId) (args : Array Value) (below : List Frame) (meth : Method) (c : Code) (Q : State → Prop) (ls : Array Slot), p.tables.exec = Jvm.exec → c.code = cc → sF p m c cc maxL s args (.code y cc maxL (some .boolean)) y.cls D wl tys B0 → lv_has ls maxL (lv_args 0 av) → sS D wl B0 s σ s.heap [] →
      (∀ (H : Heap) (locs : List Loc) (v : Int32) (u : Mem) (pc : Nat) (ls' : Array Slot), sS D wl B0 s u H locs → bo v = v → P = (v, u) → decode cc pc = .ok (.ireturn, 1) → W p l e rm s m args below meth c H locs 0 0 Q (F0 m pc ls' [.int v])) →
      W p l e rm s m args below meth c s.heap [] 0 0 Q (F0 m 0 ls [])) : cI l y (.code y cc maxL (some .boolean) :: TG) rm D wl tys B0 av σ P := by
  intro sz
  refine Met.ofW (cc := cc) (maxL := maxL) (ret := some .boolean) hy rfl ?_
  intro p e s m args below meth c s₁ B hml hv
  obtain ⟨rfl, hsz, hP, hK, hN, hD⟩ := hv
  have hx := B.exec
  have hb := B.bytes
  have hr := B.returns
  have hts := atoms_spec (ws := .code y cc maxL (some .boolean) :: TG) B.pre
  have hown : s.vm.findClass y.cls = some m.cls := findClass_of_methodNamed B.named
  have hlocks := B.notSynchronized
  subst hsz
  rw [lg_entry_eq]
  refine body p e s m _ below meth c _ _ hx hb ⟨⟨hx, hb, hml, hown, hts⟩, hK, hN, hD⟩ (lv_entry av hlen) ⟨hP, va_S.rf⟩ ?_
  intro H locs v u pc ls' hs hbo he hdg
  exact W.zret hx hb hr (bo_nar hbo) (fun t ht hW => ⟨⟨v, u, rfl, he, by unfold sQ; rw [ht]; exact hs.1⟩, hs.2.F ht⟩) hs.2.2.2 hdg
theorem cL_of {P : Int64 × Mem} (hy : plainName y.cls = true) (hlen : (lg_sl av).length ≤ maxL)
    (body : ∀ (p : Program) (e : Env) (s : State) (m : MethodId) (args : Array Value) (below : List Frame) (meth : Method) (c : Code) (Q : State → Prop) (ls : Array Slot), p.tables.exec = Jvm.exec → c.code = cc → sF p m c cc maxL s args (.code y cc maxL (some .long)) y.cls D wl tys B0 → lv_has ls maxL (lv_args 0 av) → sS D wl B0 s σ s.heap [] →
      (∀ (H : Heap) (locs : List Loc) (v : Int64) (u : Mem) (pc : Nat) (ls' : Array Slot), sS D wl B0 s u H locs → P = (v, u) → decode cc pc = .ok (.lreturn, 1) → W p l e rm s m args below meth c H locs 0 0 Q (F0 m pc ls' [.long v])) →
      W p l e rm s m args below meth c s.heap [] 0 0 Q (F0 m 0 ls [])) : cL l y (.code y cc maxL (some .long) :: TG) rm D wl tys B0 av σ P := by
  intro sz
  refine Met.ofW (cc := cc) (maxL := maxL) (ret := some .long) hy rfl ?_
  intro p e s m args below meth c s₁ B hml hv
  obtain ⟨rfl, hsz, hP, hK, hN, hD⟩ := hv
  have hx := B.exec
  have hb := B.bytes
  have hr := B.returns
  have hts := atoms_spec (ws := .code y cc maxL (some .long) :: TG) B.pre
  have hown : s.vm.findClass y.cls = some m.cls := findClass_of_methodNamed B.named
  have hlocks := B.notSynchronized
  subst hsz
  rw [lg_entry_eq]
  refine body p e s m _ below meth c _ _ hx hb ⟨⟨hx, hb, hml, hown, hts⟩, hK, hN, hD⟩ (lv_entry av hlen) ⟨hP, va_S.rf⟩ ?_
  intro H locs v u pc ls' hs he hdg
  exact W.lret hx hb hr (fun t ht hW => ⟨⟨v, u, rfl, he, by unfold sQ; rw [ht]; exact hs.1⟩, hs.2.F ht⟩) hs.2.2.2 hdg
theorem cV_of {P : Mem} (hy : plainName y.cls = true) (hlen : (lg_sl av).length ≤ maxL)
    (body : ∀ (p : Program) (e : Env) (s : State) (m : MethodId) (args : Array Value) (below : List Frame) (meth : Method) (c : Code) (Q : State → Prop) (ls : Array Slot), p.tables.exec = Jvm.exec → c.code = cc → sF p m c cc maxL s args (.code y cc maxL none) y.cls D wl tys B0 → lv_has ls maxL (lv_args 0 av) → sS D wl B0 s σ s.heap [] →
      (∀ (H : Heap) (locs : List Loc) (u : Mem) (pc : Nat) (ls' : Array Slot), sS D wl B0 s u H locs → P = u → decode cc pc = .ok (.return_, 1) → W p l e rm s m args below meth c H locs 0 0 Q (F0 m pc ls' [])) →
      W p l e rm s m args below meth c s.heap [] 0 0 Q (F0 m 0 ls [])) : cV l y (.code y cc maxL none :: TG) rm D wl tys B0 av σ P := by
  intro sz
  refine Met.ofW (cc := cc) (maxL := maxL) (ret := none) hy rfl ?_
  intro p e s m args below meth c s₁ B hml hv
  obtain ⟨rfl, hsz, hP, hK, hN, hD⟩ := hv
  have hx := B.exec
  have hb := B.bytes
  have hr := B.returns
  have hts := atoms_spec (ws := .code y cc maxL none :: TG) B.pre
  have hown : s.vm.findClass y.cls = some m.cls := findClass_of_methodNamed B.named
  have hlocks := B.notSynchronized
  subst hsz
  rw [lg_entry_eq]
  refine body p e s m _ below meth c _ _ hx hb ⟨⟨hx, hb, hml, hown, hts⟩, hK, hN, hD⟩ (lv_entry av hlen) ⟨hP, va_S.rf⟩ ?_
  intro H locs u pc ls' hs he hdg
  exact W.vret hx hb hr (fun t ht hW => ⟨⟨u, rfl, he, by unfold sQ; rw [ht]; exact hs.1⟩, hs.2.F ht⟩) hs.2.2.2 hdg
end SB
-- what a call needs of the tables, a row a method
def mV (y : MethodName) (bytes : ByteArray) (maxL : Nat) (ret : Option FieldType) (n : Nat) : Prop := Cond.code y bytes maxL ret ∈ TG ∧ Cond.initialized y.cls ∈ TG ∧ Cond.instanceMethod y ∈ TG ∧ Cond.selects y.cls y y ∈ TG ∧ y.cls ≠ "java/lang/invoke/MethodHandle" ∧ y.cls ≠ "java/lang/invoke/VarHandle" ∧ (parseMethodDescriptor y.desc).map (fun d => d.parameters.length) = some n
def mS (y : MethodName) (bytes : ByteArray) (maxL : Nat) (ret : Option FieldType) (n : Nat) : Prop := Cond.code y bytes maxL ret ∈ TG ∧ Cond.initialized y.cls ∈ TG ∧ Cond.static y ∈ TG ∧ y.cls ≠ "java/lang/invoke/MethodHandle" ∧ y.cls ≠ "java/lang/invoke/VarHandle" ∧ (parseMethodDescriptor y.desc).map (fun d => d.parameters.length) = some n
/-- a receiver: an object of the world -/
def sR (wl : Wl) (σ : Mem) (b : Nat) (C : String) : Prop := ∃ (q0 ci : Nat) (fs : List Value) (r : vw_C), (wl σ)[q0]? = some (b, .inr (ci, fs)) ∧ classes[ci]? = some r ∧ r.1 = C
theorem rX {a : Nat → Nat} {cA : Nat → ClassId} {σ : Mem} : sR (cwL a cA) σ (a 0) R_X := ⟨0, 1, cF a σ, (R_X, F_X, 9), rfl, rfl, rfl⟩
theorem rK {a : Nat → Nat} {cA : Nat → ClassId} {σ : Mem} {i : Nat} (hi : i < 13) : sR (cwL a cA) σ (a (4 + i)) R_K := ⟨4 + i, 0, kF σ i, (R_K, F_K, 3), cw_at hi, rfl, rfl⟩
theorem rM {a : Nat → Nat} {cA : Nat → ClassId} {σ : Mem} : sR (rwL a cA) σ (a 0) R_M := ⟨0, 2, rF a σ, (R_M, F_M, 12), rfl, rfl, rfl⟩
section SC
variable {p : Program} {l : Launch} {e : Env} {R : Room} {s : State} {m : MethodId} {args : Array Value} {below : List Frame} {meth : Method} {c : Code} {H : Heap} {locs : List Loc} {cells slots : Nat} {Q : State → Prop}
variable {cc : ByteArray} {nL pc : Nat} {ls : Array Slot} {rest st0 : List Value} {c0 : Cond} {own : String} {D : va_G} {wl : Wl} {tys : Tys} {B0 : Nat → Prop} {σ : Mem}
variable {y : MethodName} {bytes : ByteArray} {maxL n ix b : Nat} {ret : Option FieldType} {rm : Room} {As : List Value}
theorem x_pre (hF : sF p m c cc nL s args c0 own D wl tys B0) (hs : sS D wl B0 s σ H locs) {av : List Value} (U : State) (hU : U.heap = H) (hW : s.WarmedH U.vm) : va_Pc av (fun U => U.heap.size = H.size ∧ sP D wl tys B0 σ U) av.toArray U :=
  ⟨rfl, by rw [hU], by rw [hU]; exact hs.1, va_K.moved hW.alike hF.2.1, hF.2.2.1.warm hW, hF.2.2.2⟩
theorem x_recv (hF : sF p m c cc nL s args c0 own D wl tys B0) (hs : sS D wl B0 s σ H locs) {C : String} (h : sR wl σ b C) : ∃ cellB : Cell, H[b]? = some cellB ∧ cellB.vm.isStatics = false ∧ s.vm.findClass C = some cellB.cls := by
  obtain ⟨q0, ci, fs, r, h1, h2, rfl⟩ := h
  exact va_recv hF.2.1 hs.1 h2 h1
theorem x_up (hs : sS D wl B0 s σ H locs) : ∀ q, sA B0 H.size q → sA B0 s.heap.size q := fun q h => h.elim Or.inl (fun h => Or.inr (Nat.le_trans hs.2.1 h))
theorem x_cwV (hF : sF p m c cc nL s args c0 own D wl tys B0) (hv : mV y bytes maxL ret n) (hl : Cond.methodLink own ix y ∈ TG) (hrc : rm.cells = 0) (hrs : rm.slots = 0) (hR : rm.frames + 1 ≤ R.frames ∧ 8 + (maxL + 11) + rm.locals ≤ R.locals) : CallW R s args own y.cls ix y bytes maxL ret (.code y bytes maxL ret :: TG) rm 0 0 n := by
  have hts := hF.1.2.2.2.2
  obtain ⟨h1, h2, h3, h4, h5⟩ := hv
  exact ⟨callB_of n hts (tg_in h1) rfl hrc hrs (hts _ (List.mem_cons_of_mem _ h2)) (hts _ (List.mem_cons_of_mem _ hl)) h5 hR, hts _ (List.mem_cons_of_mem _ h3), hts _ (List.mem_cons_of_mem _ h4)⟩
theorem x_cwS (hF : sF p m c cc nL s args c0 own D wl tys B0) (hv : mS y bytes maxL ret n) (hl : Cond.methodLink own ix y ∈ TG) (hrc : rm.cells = 0) (hrs : rm.slots = 0) (hR : rm.frames + 1 ≤ R.frames ∧ 8 + (maxL + 11) + rm.locals ≤ R.locals) : CallB R s args own ix y bytes maxL ret (.code y bytes maxL ret :: TG) rm 0 0 n ∧ (Cond.static y).before args s = true := by
  have hts := hF.1.2.2.2.2
  obtain ⟨h1, h2, h3, h5⟩ := hv
  exact ⟨callB_of n hts (tg_in h1) rfl hrc hrs (hts _ (List.mem_cons_of_mem _ h2)) (hts _ (List.mem_cons_of_mem _ hl)) h5 hR, hts _ (List.mem_cons_of_mem _ h3)⟩
theorem x_Vi {P : Int32 × Mem} (hF : sF p m c cc nL s args c0 own D wl tys B0) (hs : sS D wl B0 s σ H locs) (hv : mV y bytes maxL ret n) (hl : Cond.methodLink own ix y ∈ TG) (hC : cI l y (.code y bytes maxL ret :: TG) rm D wl tys B0 (.ref b :: As) σ P) (hrc : rm.cells = 0) (hrs : rm.slots = 0) (hR : rm.frames + 1 ≤ R.frames ∧ 8 + (maxL + 11) + rm.locals ≤ R.locals) (hn : As.length = n) (hst : st0 = As.reverse ++ .ref b :: rest) (hsz : ls.size = nL) (hW : (rest.map fun v => v.category).sum ≤ 8) (hb : sR wl σ b y.cls) (hdg : decode cc pc = .ok (.invokevirtual ix, 3)) (hf : cells ≤ R.cells ∧ slots ≤ R.slots)
    (kk : ∀ (H1 : Heap) (locs1 : List Loc), sS D wl B0 s P.2 H1 locs1 → W p l e R s m args below meth c H1 locs1 cells slots Q (F0 m (pc + 3) ls (.int P.1 :: rest))) : W p l e R s m args below meth c H locs cells slots Q (F0 m pc ls st0) := by
  subst hst
  refine va_calli (va_runV (As := As) (rest := rest) (b := b) (C := y.cls) (n := n) hF.1 (hC H.size) (x_cwV hF hv hl hrc hrs hR) ⟨sP.blind, x_recv hF hs hb, x_pre hF hs⟩ rfl hn hsz rfl (lv_room hW) hdg hf) hs.2 (fun q _ h => x_up hs q h) (x_up hs) (fun r u t H1 locs1 ht hvm hpost hB hz hk hS => ?_)
  subst hpost
  exact kk H1 locs1 ⟨by rw [← ht]; exact hB, hS⟩
theorem x_Vl {P : Int64 × Mem} (hF : sF p m c cc nL s args c0 own D wl tys B0) (hs : sS D wl B0 s σ H locs) (hv : mV y bytes maxL ret n) (hl : Cond.methodLink own ix y ∈ TG) (hC : cL l y (.code y bytes maxL ret :: TG) rm D wl tys B0 (.ref b :: As) σ P) (hrc : rm.cells = 0) (hrs : rm.slots = 0) (hR : rm.frames + 1 ≤ R.frames ∧ 8 + (maxL + 11) + rm.locals ≤ R.locals) (hn : As.length = n) (hst : st0 = As.reverse ++ .ref b :: rest) (hsz : ls.size = nL) (hW : (rest.map fun v => v.category).sum ≤ 8) (hb : sR wl σ b y.cls) (hdg : decode cc pc = .ok (.invokevirtual ix, 3)) (hf : cells ≤ R.cells ∧ slots ≤ R.slots)
    (kk : ∀ (H1 : Heap) (locs1 : List Loc), sS D wl B0 s P.2 H1 locs1 → W p l e R s m args below meth c H1 locs1 cells slots Q (F0 m (pc + 3) ls (.long P.1 :: rest))) : W p l e R s m args below meth c H locs cells slots Q (F0 m pc ls st0) := by
  subst hst
  refine va_calll (va_runV (As := As) (rest := rest) (b := b) (C := y.cls) (n := n) hF.1 (hC H.size) (x_cwV hF hv hl hrc hrs hR) ⟨sP.blind, x_recv hF hs hb, x_pre hF hs⟩ rfl hn hsz rfl (lv_room hW) hdg hf) hs.2 (fun q _ h => x_up hs q h) (x_up hs) (fun r u t H1 locs1 ht hvm hpost hB hz hk hS => ?_)
  subst hpost
  exact kk H1 locs1 ⟨by rw [← ht]; exact hB, hS⟩
theorem x_Vv {P : Mem} (hF : sF p m c cc nL s args c0 own D wl tys B0) (hs : sS D wl B0 s σ H locs) (hv : mV y bytes maxL ret n) (hl : Cond.methodLink own ix y ∈ TG) (hC : cV l y (.code y bytes maxL ret :: TG) rm D wl tys B0 (.ref b :: As) σ P) (hrc : rm.cells = 0) (hrs : rm.slots = 0) (hR : rm.frames + 1 ≤ R.frames ∧ 8 + (maxL + 11) + rm.locals ≤ R.locals) (hn : As.length = n) (hst : st0 = As.reverse ++ .ref b :: rest) (hsz : ls.size = nL) (hW : (rest.map fun v => v.category).sum ≤ 8) (hb : sR wl σ b y.cls) (hdg : decode cc pc = .ok (.invokevirtual ix, 3)) (hf : cells ≤ R.cells ∧ slots ≤ R.slots)
    (kk : ∀ (H1 : Heap) (locs1 : List Loc), sS D wl B0 s P H1 locs1 → W p l e R s m args below meth c H1 locs1 cells slots Q (F0 m (pc + 3) ls rest)) : W p l e R s m args below meth c H locs cells slots Q (F0 m pc ls st0) := by
  subst hst
  refine va_callv (va_runV (As := As) (rest := rest) (b := b) (C := y.cls) (n := n) hF.1 (hC H.size) (x_cwV hF hv hl hrc hrs hR) ⟨sP.blind, x_recv hF hs hb, x_pre hF hs⟩ rfl hn hsz rfl (lv_room hW) hdg hf) hs.2 (fun q _ h => x_up hs q h) (x_up hs) (fun u t H1 locs1 ht hvm hpost hB hz hk hS => ?_)
  subst hpost
  exact kk H1 locs1 ⟨by rw [← ht]; exact hB, hS⟩
theorem x_Si {P : Int32 × Mem} (hF : sF p m c cc nL s args c0 own D wl tys B0) (hs : sS D wl B0 s σ H locs) (hv : mS y bytes maxL ret n) (hl : Cond.methodLink own ix y ∈ TG) (hC : cI l y (.code y bytes maxL ret :: TG) rm D wl tys B0 As σ P) (hrc : rm.cells = 0) (hrs : rm.slots = 0) (hR : rm.frames + 1 ≤ R.frames ∧ 8 + (maxL + 11) + rm.locals ≤ R.locals) (hn : As.length = n) (hst : st0 = As.reverse ++ rest) (hsz : ls.size = nL) (hW : (rest.map fun v => v.category).sum ≤ 8) (hdg : decode cc pc = .ok (.invokestatic ix, 3)) (hf : cells ≤ R.cells ∧ slots ≤ R.slots)
    (kk : ∀ (H1 : Heap) (locs1 : List Loc), sS D wl B0 s P.2 H1 locs1 → W p l e R s m args below meth c H1 locs1 cells slots Q (F0 m (pc + 3) ls (.int P.1 :: rest))) : W p l e R s m args below meth c H locs cells slots Q (F0 m pc ls st0) := by
  subst hst
  refine va_calli (va_runS (As := As) (rest := rest) (n := n) hF.1 (hC H.size) (x_cwS hF hv hl hrc hrs hR) ⟨sP.blind, x_pre hF hs⟩ rfl hn hsz rfl (lv_room hW) hdg hf) hs.2 (fun q _ h => x_up hs q h) (x_up hs) (fun r u t H1 locs1 ht hvm hpost hB hz hk hS => ?_)
  subst hpost
  exact kk H1 locs1 ⟨by rw [← ht]; exact hB, hS⟩
theorem x_Sl {P : Int64 × Mem} (hF : sF p m c cc nL s args c0 own D wl tys B0) (hs : sS D wl B0 s σ H locs) (hv : mS y bytes maxL ret n) (hl : Cond.methodLink own ix y ∈ TG) (hC : cL l y (.code y bytes maxL ret :: TG) rm D wl tys B0 As σ P) (hrc : rm.cells = 0) (hrs : rm.slots = 0) (hR : rm.frames + 1 ≤ R.frames ∧ 8 + (maxL + 11) + rm.locals ≤ R.locals) (hn : As.length = n) (hst : st0 = As.reverse ++ rest) (hsz : ls.size = nL) (hW : (rest.map fun v => v.category).sum ≤ 8) (hdg : decode cc pc = .ok (.invokestatic ix, 3)) (hf : cells ≤ R.cells ∧ slots ≤ R.slots)
    (kk : ∀ (H1 : Heap) (locs1 : List Loc), sS D wl B0 s P.2 H1 locs1 → W p l e R s m args below meth c H1 locs1 cells slots Q (F0 m (pc + 3) ls (.long P.1 :: rest))) : W p l e R s m args below meth c H locs cells slots Q (F0 m pc ls st0) := by
  subst hst
  refine va_calll (va_runS (As := As) (rest := rest) (n := n) hF.1 (hC H.size) (x_cwS hF hv hl hrc hrs hR) ⟨sP.blind, x_pre hF hs⟩ rfl hn hsz rfl (lv_room hW) hdg hf) hs.2 (fun q _ h => x_up hs q h) (x_up hs) (fun r u t H1 locs1 ht hvm hpost hB hz hk hS => ?_)
  subst hpost
  exact kk H1 locs1 ⟨by rw [← ht]; exact hB, hS⟩
-- the same for methods that change nothing
theorem x_Vip {r : Int32} (hF : sF p m c cc nL s args c0 own D wl tys B0) (hs : sS D wl B0 s σ H locs) (hv : mV y bytes maxL ret n) (hl : Cond.methodLink own ix y ∈ TG) (hC : cI l y (.code y bytes maxL ret :: TG) rm D wl tys B0 (.ref b :: As) σ (r, σ)) (hrc : rm.cells = 0) (hrs : rm.slots = 0) (hR : rm.frames + 1 ≤ R.frames ∧ 8 + (maxL + 11) + rm.locals ≤ R.locals) (hn : As.length = n) (hst : st0 = As.reverse ++ .ref b :: rest) (hsz : ls.size = nL) (hW : (rest.map fun v => v.category).sum ≤ 8) (hb : sR wl σ b y.cls) (hdg : decode cc pc = .ok (.invokevirtual ix, 3)) (hf : cells ≤ R.cells ∧ slots ≤ R.slots)
    (kk : ∀ (H1 : Heap) (locs1 : List Loc), sS D wl B0 s σ H1 locs1 → W p l e R s m args below meth c H1 locs1 cells slots Q (F0 m (pc + 3) ls (.int r :: rest))) : W p l e R s m args below meth c H locs cells slots Q (F0 m pc ls st0) := x_Vi hF hs hv hl hC hrc hrs hR hn hst hsz hW hb hdg hf kk
theorem x_Vlp {r : Int64} (hF : sF p m c cc nL s args c0 own D wl tys B0) (hs : sS D wl B0 s σ H locs) (hv : mV y bytes maxL ret n) (hl : Cond.methodLink own ix y ∈ TG) (hC : cL l y (.code y bytes maxL ret :: TG) rm D wl tys B0 (.ref b :: As) σ (r, σ)) (hrc : rm.cells = 0) (hrs : rm.slots = 0) (hR : rm.frames + 1 ≤ R.frames ∧ 8 + (maxL + 11) + rm.locals ≤ R.locals) (hn : As.length = n) (hst : st0 = As.reverse ++ .ref b :: rest) (hsz : ls.size = nL) (hW : (rest.map fun v => v.category).sum ≤ 8) (hb : sR wl σ b y.cls) (hdg : decode cc pc = .ok (.invokevirtual ix, 3)) (hf : cells ≤ R.cells ∧ slots ≤ R.slots)
    (kk : ∀ (H1 : Heap) (locs1 : List Loc), sS D wl B0 s σ H1 locs1 → W p l e R s m args below meth c H1 locs1 cells slots Q (F0 m (pc + 3) ls (.long r :: rest))) : W p l e R s m args below meth c H locs cells slots Q (F0 m pc ls st0) := x_Vl hF hs hv hl hC hrc hrs hR hn hst hsz hW hb hdg hf kk
theorem x_Sip {r : Int32} (hF : sF p m c cc nL s args c0 own D wl tys B0) (hs : sS D wl B0 s σ H locs) (hv : mS y bytes maxL ret n) (hl : Cond.methodLink own ix y ∈ TG) (hC : cI l y (.code y bytes maxL ret :: TG) rm D wl tys B0 As σ (r, σ)) (hrc : rm.cells = 0) (hrs : rm.slots = 0) (hR : rm.frames + 1 ≤ R.frames ∧ 8 + (maxL + 11) + rm.locals ≤ R.locals) (hn : As.length = n) (hst : st0 = As.reverse ++ rest) (hsz : ls.size = nL) (hW : (rest.map fun v => v.category).sum ≤ 8) (hdg : decode cc pc = .ok (.invokestatic ix, 3)) (hf : cells ≤ R.cells ∧ slots ≤ R.slots)
    (kk : ∀ (H1 : Heap) (locs1 : List Loc), sS D wl B0 s σ H1 locs1 → W p l e R s m args below meth c H1 locs1 cells slots Q (F0 m (pc + 3) ls (.int r :: rest))) : W p l e R s m args below meth c H locs cells slots Q (F0 m pc ls st0) := x_Si hF hs hv hl hC hrc hrs hR hn hst hsz hW hdg hf kk
theorem x_Slp {r : Int64} (hF : sF p m c cc nL s args c0 own D wl tys B0) (hs : sS D wl B0 s σ H locs) (hv : mS y bytes maxL ret n) (hl : Cond.methodLink own ix y ∈ TG) (hC : cL l y (.code y bytes maxL ret :: TG) rm D wl tys B0 As σ (r, σ)) (hrc : rm.cells = 0) (hrs : rm.slots = 0) (hR : rm.frames + 1 ≤ R.frames ∧ 8 + (maxL + 11) + rm.locals ≤ R.locals) (hn : As.length = n) (hst : st0 = As.reverse ++ rest) (hsz : ls.size = nL) (hW : (rest.map fun v => v.category).sum ≤ 8) (hdg : decode cc pc = .ok (.invokestatic ix, 3)) (hf : cells ≤ R.cells ∧ slots ≤ R.slots)
    (kk : ∀ (H1 : Heap) (locs1 : List Loc), sS D wl B0 s σ H1 locs1 → W p l e R s m args below meth c H1 locs1 cells slots Q (F0 m (pc + 3) ls (.long r :: rest))) : W p l e R s m args below meth c H locs cells slots Q (F0 m pc ls st0) := x_Sl hF hs hv hl hC hrc hrs hR hn hst hsz hW hdg hf kk
-- a switch whose number isn't among the places of a table that have their own row
theorem x_tabD (hexec : p.tables.exec = Jvm.exec) (hb : c.code = cc) {dflt lo hi : Int} {offs : Array Int} {len tgt : Nat} {x : Int32} (ex : List Int) (hdg : decode cc pc = .ok (.tableswitch dflt lo hi offs, len)) (hne : ∀ j ∈ ex, ¬ x.toInt = j) (hE : ∀ j : Nat, j < offs.size → ¬ (lo + j) ∈ ex → offs[j]? = some dflt) (hsz : (offs.size : Int) = hi - lo + 1) (ht : (pc : Int) + dflt = (tgt : Int))
    (k : W p l e R s m args below meth c H locs cells slots Q (F0 m tgt ls rest)) : W p l e R s m args below meth c H locs cells slots Q (F0 m pc ls (.int x :: rest)) := by
  by_cases h : x.toInt < lo ∨ hi < x.toInt
  · exact lv_tableOut hexec hb hdg h ht k
  · have h1 : ¬ x.toInt < lo := fun z => h (Or.inl z)
    have h2 : ¬ hi < x.toInt := fun z => h (Or.inr z)
    refine lv_tableIn hexec hb hdg h1 h2 (hE _ (by omega) (fun hm => ?_)) ht k
    refine hne _ hm ?_
    omega
end SC
