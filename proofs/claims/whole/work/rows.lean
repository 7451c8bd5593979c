section
-- ===== PART A: goes FIRST, ahead of the names: the tables' words, and 'selects' of the private methods out of them =====
/-- a private method of a class that the tables say can be made, by its rows of tables_1 -/
def lw_okq (q : MethodName × Nat) : Prop := (q.1.cls ≠ "java/lang/invoke/MethodHandle" ∧ q.1.cls ≠ "java/lang/invoke/VarHandle") ∧ Cond.instantiable q.1.cls q.2 ∈ tables_1 ∧ Cond.privateMethod q.1 ∈ tables_1 ∧ Cond.instanceMethod q.1 ∈ tables_1
theorem lw_p0 : lw_okq (⟨"CapabilityCore", "writeWord", "(II)V"⟩, 9) := ⟨⟨by decide +kernel, by decide +kernel⟩, List.mem_of_getElem? (i := 5) (by decide +kernel), List.mem_of_getElem? (i := 83) (by decide +kernel), List.mem_of_getElem? (i := 84) (by decide +kernel)⟩
theorem lw_p1 : lw_okq (⟨"CapabilityCore", "makeStep", "()V"⟩, 9) := ⟨⟨by decide +kernel, by decide +kernel⟩, List.mem_of_getElem? (i := 5) (by decide +kernel), List.mem_of_getElem? (i := 99) (by decide +kernel), List.mem_of_getElem? (i := 100) (by decide +kernel)⟩
theorem lw_p2 : lw_okq (⟨"CapabilityCore", "check", "(IIII)I"⟩, 9) := ⟨⟨by decide +kernel, by decide +kernel⟩, List.mem_of_getElem? (i := 5) (by decide +kernel), List.mem_of_getElem? (i := 103) (by decide +kernel), List.mem_of_getElem? (i := 104) (by decide +kernel)⟩
theorem lw_p3 : lw_okq (⟨"CapabilityCore", "execute", "(I)I"⟩, 9) := ⟨⟨by decide +kernel, by decide +kernel⟩, List.mem_of_getElem? (i := 5) (by decide +kernel), List.mem_of_getElem? (i := 140) (by decide +kernel), List.mem_of_getElem? (i := 141) (by decide +kernel)⟩
theorem lw_p4 : lw_okq (⟨"CapabilityCore", "load", "(III)I"⟩, 9) := ⟨⟨by decide +kernel, by decide +kernel⟩, List.mem_of_getElem? (i := 5) (by decide +kernel), List.mem_of_getElem? (i := 144) (by decide +kernel), List.mem_of_getElem? (i := 145) (by decide +kernel)⟩
theorem lw_p5 : lw_okq (⟨"CapabilityCore", "writeNumber", "(II)V"⟩, 9) := ⟨⟨by decide +kernel, by decide +kernel⟩, List.mem_of_getElem? (i := 5) (by decide +kernel), List.mem_of_getElem? (i := 148) (by decide +kernel), List.mem_of_getElem? (i := 149) (by decide +kernel)⟩
theorem lw_p6 : lw_okq (⟨"CapabilityCore", "store", "(III)I"⟩, 9) := ⟨⟨by decide +kernel, by decide +kernel⟩, List.mem_of_getElem? (i := 5) (by decide +kernel), List.mem_of_getElem? (i := 156) (by decide +kernel), List.mem_of_getElem? (i := 157) (by decide +kernel)⟩
theorem lw_p7 : lw_okq (⟨"CapabilityCore", "loadCapability", "(III)I"⟩, 9) := ⟨⟨by decide +kernel, by decide +kernel⟩, List.mem_of_getElem? (i := 5) (by decide +kernel), List.mem_of_getElem? (i := 160) (by decide +kernel), List.mem_of_getElem? (i := 161) (by decide +kernel)⟩
theorem lw_p8 : lw_okq (⟨"CapabilityCore", "writeMade", "(I)V"⟩, 9) := ⟨⟨by decide +kernel, by decide +kernel⟩, List.mem_of_getElem? (i := 5) (by decide +kernel), List.mem_of_getElem? (i := 164) (by decide +kernel), List.mem_of_getElem? (i := 165) (by decide +kernel)⟩
theorem lw_p9 : lw_okq (⟨"CapabilityCore", "storeCapability", "(III)I"⟩, 9) := ⟨⟨by decide +kernel, by decide +kernel⟩, List.mem_of_getElem? (i := 5) (by decide +kernel), List.mem_of_getElem? (i := 172) (by decide +kernel), List.mem_of_getElem? (i := 173) (by decide +kernel)⟩
theorem lw_p10 : lw_okq (⟨"CapabilityCore", "branch", "(I)I"⟩, 9) := ⟨⟨by decide +kernel, by decide +kernel⟩, List.mem_of_getElem? (i := 5) (by decide +kernel), List.mem_of_getElem? (i := 176) (by decide +kernel), List.mem_of_getElem? (i := 177) (by decide +kernel)⟩
theorem lw_p11 : lw_okq (⟨"CapabilityCore", "writeLink", "(I)V"⟩, 9) := ⟨⟨by decide +kernel, by decide +kernel⟩, List.mem_of_getElem? (i := 5) (by decide +kernel), List.mem_of_getElem? (i := 186) (by decide +kernel), List.mem_of_getElem? (i := 187) (by decide +kernel)⟩
theorem lw_p12 : lw_okq (⟨"CapabilityCore", "jump", "(II)I"⟩, 9) := ⟨⟨by decide +kernel, by decide +kernel⟩, List.mem_of_getElem? (i := 5) (by decide +kernel), List.mem_of_getElem? (i := 194) (by decide +kernel), List.mem_of_getElem? (i := 195) (by decide +kernel)⟩
theorem lw_p13 : lw_okq (⟨"CapabilityCore", "seal", "(III)I"⟩, 9) := ⟨⟨by decide +kernel, by decide +kernel⟩, List.mem_of_getElem? (i := 5) (by decide +kernel), List.mem_of_getElem? (i := 199) (by decide +kernel), List.mem_of_getElem? (i := 200) (by decide +kernel)⟩
theorem lw_p14 : lw_okq (⟨"CapabilityCore", "writeWithType", "(ILCapabilityCore$Capability;I)V"⟩, 9) := ⟨⟨by decide +kernel, by decide +kernel⟩, List.mem_of_getElem? (i := 5) (by decide +kernel), List.mem_of_getElem? (i := 203) (by decide +kernel), List.mem_of_getElem? (i := 204) (by decide +kernel)⟩
theorem lw_p15 : lw_okq (⟨"CapabilityCore", "unseal", "(III)I"⟩, 9) := ⟨⟨by decide +kernel, by decide +kernel⟩, List.mem_of_getElem? (i := 5) (by decide +kernel), List.mem_of_getElem? (i := 207) (by decide +kernel), List.mem_of_getElem? (i := 208) (by decide +kernel)⟩
def lw_privs_1 : List (MethodName × Nat) := [(⟨"CapabilityCore", "writeWord", "(II)V"⟩, 9), (⟨"CapabilityCore", "makeStep", "()V"⟩, 9), (⟨"CapabilityCore", "check", "(IIII)I"⟩, 9), (⟨"CapabilityCore", "execute", "(I)I"⟩, 9), (⟨"CapabilityCore", "load", "(III)I"⟩, 9), (⟨"CapabilityCore", "writeNumber", "(II)V"⟩, 9), (⟨"CapabilityCore", "store", "(III)I"⟩, 9), (⟨"CapabilityCore", "loadCapability", "(III)I"⟩, 9), (⟨"CapabilityCore", "writeMade", "(I)V"⟩, 9), (⟨"CapabilityCore", "storeCapability", "(III)I"⟩, 9), (⟨"CapabilityCore", "branch", "(I)I"⟩, 9), (⟨"CapabilityCore", "writeLink", "(I)V"⟩, 9), (⟨"CapabilityCore", "jump", "(II)I"⟩, 9), (⟨"CapabilityCore", "seal", "(III)I"⟩, 9), (⟨"CapabilityCore", "writeWithType", "(ILCapabilityCore$Capability;I)V"⟩, 9), (⟨"CapabilityCore", "unseal", "(III)I"⟩, 9)]
theorem lw_r1 : ∀ q ∈ lw_privs_1, lw_okq q := List.forall_mem_cons.mpr ⟨lw_p0, List.forall_mem_cons.mpr ⟨lw_p1, List.forall_mem_cons.mpr ⟨lw_p2, List.forall_mem_cons.mpr ⟨lw_p3, List.forall_mem_cons.mpr ⟨lw_p4, List.forall_mem_cons.mpr ⟨lw_p5, List.forall_mem_cons.mpr ⟨lw_p6, List.forall_mem_cons.mpr ⟨lw_p7, List.forall_mem_cons.mpr ⟨lw_p8, List.forall_mem_cons.mpr ⟨lw_p9, List.forall_mem_cons.mpr ⟨lw_p10, List.forall_mem_cons.mpr ⟨lw_p11, List.forall_mem_cons.mpr ⟨lw_p12, List.forall_mem_cons.mpr ⟨lw_p13, List.forall_mem_cons.mpr ⟨lw_p14, List.forall_mem_cons.mpr ⟨lw_p15, fun _ h => absurd h List.not_mem_nil⟩⟩⟩⟩⟩⟩⟩⟩⟩⟩⟩⟩⟩⟩⟩⟩
theorem lw_p16 : lw_okq (⟨"CapabilityCore", "swap", "(III)I"⟩, 9) := ⟨⟨by decide +kernel, by decide +kernel⟩, List.mem_of_getElem? (i := 5) (by decide +kernel), List.mem_of_getElem? (i := 215) (by decide +kernel), List.mem_of_getElem? (i := 216) (by decide +kernel)⟩
theorem lw_p17 : lw_okq (⟨"CapabilityCore", "returnFromTrap", "()I"⟩, 9) := ⟨⟨by decide +kernel, by decide +kernel⟩, List.mem_of_getElem? (i := 5) (by decide +kernel), List.mem_of_getElem? (i := 219) (by decide +kernel), List.mem_of_getElem? (i := 220) (by decide +kernel)⟩
theorem lw_p18 : lw_okq (⟨"CapabilityCore", "derive", "(IILCapabilityCore$Capability;LCapabilityCore$Capability;)V"⟩, 9) := ⟨⟨by decide +kernel, by decide +kernel⟩, List.mem_of_getElem? (i := 5) (by decide +kernel), List.mem_of_getElem? (i := 226) (by decide +kernel), List.mem_of_getElem? (i := 227) (by decide +kernel)⟩
theorem lw_p19 : lw_okq (⟨"CapabilityCore", "narrow", "(LCapabilityCore$Capability;I)V"⟩, 9) := ⟨⟨by decide +kernel, by decide +kernel⟩, List.mem_of_getElem? (i := 5) (by decide +kernel), List.mem_of_getElem? (i := 230) (by decide +kernel), List.mem_of_getElem? (i := 231) (by decide +kernel)⟩
theorem lw_p20 : lw_okq (⟨"CapabilityCore", "enterTrap", "(I)V"⟩, 9) := ⟨⟨by decide +kernel, by decide +kernel⟩, List.mem_of_getElem? (i := 5) (by decide +kernel), List.mem_of_getElem? (i := 242) (by decide +kernel), List.mem_of_getElem? (i := 243) (by decide +kernel)⟩
theorem lw_p21 : lw_okq (⟨"CapabilityCoreModel", "first", "(II)V"⟩, 12) := ⟨⟨by decide +kernel, by decide +kernel⟩, List.mem_of_getElem? (i := 285) (by decide +kernel), List.mem_of_getElem? (i := 291) (by decide +kernel), List.mem_of_getElem? (i := 292) (by decide +kernel)⟩
theorem lw_p22 : lw_okq (⟨"CapabilityCoreModel", "step", "()V"⟩, 12) := ⟨⟨by decide +kernel, by decide +kernel⟩, List.mem_of_getElem? (i := 285) (by decide +kernel), List.mem_of_getElem? (i := 354) (by decide +kernel), List.mem_of_getElem? (i := 355) (by decide +kernel)⟩
theorem lw_p23 : lw_okq (⟨"CapabilityCoreModel", "check", "(IIII)I"⟩, 12) := ⟨⟨by decide +kernel, by decide +kernel⟩, List.mem_of_getElem? (i := 285) (by decide +kernel), List.mem_of_getElem? (i := 358) (by decide +kernel), List.mem_of_getElem? (i := 359) (by decide +kernel)⟩
theorem lw_p24 : lw_okq (⟨"CapabilityCoreModel", "has", "(II)Z"⟩, 12) := ⟨⟨by decide +kernel, by decide +kernel⟩, List.mem_of_getElem? (i := 285) (by decide +kernel), List.mem_of_getElem? (i := 369) (by decide +kernel), List.mem_of_getElem? (i := 370) (by decide +kernel)⟩
theorem lw_p25 : lw_okq (⟨"CapabilityCoreModel", "trap", "(I)V"⟩, 12) := ⟨⟨by decide +kernel, by decide +kernel⟩, List.mem_of_getElem? (i := 285) (by decide +kernel), List.mem_of_getElem? (i := 391) (by decide +kernel), List.mem_of_getElem? (i := 392) (by decide +kernel)⟩
theorem lw_p26 : lw_okq (⟨"CapabilityCoreModel", "take", "(I)V"⟩, 12) := ⟨⟨by decide +kernel, by decide +kernel⟩, List.mem_of_getElem? (i := 285) (by decide +kernel), List.mem_of_getElem? (i := 395) (by decide +kernel), List.mem_of_getElem? (i := 396) (by decide +kernel)⟩
theorem lw_p27 : lw_okq (⟨"CapabilityCoreModel", "put", "(I)V"⟩, 12) := ⟨⟨by decide +kernel, by decide +kernel⟩, List.mem_of_getElem? (i := 285) (by decide +kernel), List.mem_of_getElem? (i := 399) (by decide +kernel), List.mem_of_getElem? (i := 400) (by decide +kernel)⟩
theorem lw_p28 : lw_okq (⟨"CapabilityCoreModel", "trapOf", "(IIII)I"⟩, 12) := ⟨⟨by decide +kernel, by decide +kernel⟩, List.mem_of_getElem? (i := 285) (by decide +kernel), List.mem_of_getElem? (i := 403) (by decide +kernel), List.mem_of_getElem? (i := 404) (by decide +kernel)⟩
theorem lw_p29 : lw_okq (⟨"CapabilityCoreModel", "sealing", "(ZIII)I"⟩, 12) := ⟨⟨by decide +kernel, by decide +kernel⟩, List.mem_of_getElem? (i := 285) (by decide +kernel), List.mem_of_getElem? (i := 407) (by decide +kernel), List.mem_of_getElem? (i := 408) (by decide +kernel)⟩
theorem lw_p30 : lw_okq (⟨"CapabilityCoreModel", "number", "(I)V"⟩, 12) := ⟨⟨by decide +kernel, by decide +kernel⟩, List.mem_of_getElem? (i := 285) (by decide +kernel), List.mem_of_getElem? (i := 414) (by decide +kernel), List.mem_of_getElem? (i := 415) (by decide +kernel)⟩
theorem lw_p31 : lw_okq (⟨"CapabilityCoreModel", "go", "(I)V"⟩, 12) := ⟨⟨by decide +kernel, by decide +kernel⟩, List.mem_of_getElem? (i := 285) (by decide +kernel), List.mem_of_getElem? (i := 418) (by decide +kernel), List.mem_of_getElem? (i := 419) (by decide +kernel)⟩
def lw_privs_2 : List (MethodName × Nat) := [(⟨"CapabilityCore", "swap", "(III)I"⟩, 9), (⟨"CapabilityCore", "returnFromTrap", "()I"⟩, 9), (⟨"CapabilityCore", "derive", "(IILCapabilityCore$Capability;LCapabilityCore$Capability;)V"⟩, 9), (⟨"CapabilityCore", "narrow", "(LCapabilityCore$Capability;I)V"⟩, 9), (⟨"CapabilityCore", "enterTrap", "(I)V"⟩, 9), (⟨"CapabilityCoreModel", "first", "(II)V"⟩, 12), (⟨"CapabilityCoreModel", "step", "()V"⟩, 12), (⟨"CapabilityCoreModel", "check", "(IIII)I"⟩, 12), (⟨"CapabilityCoreModel", "has", "(II)Z"⟩, 12), (⟨"CapabilityCoreModel", "trap", "(I)V"⟩, 12), (⟨"CapabilityCoreModel", "take", "(I)V"⟩, 12), (⟨"CapabilityCoreModel", "put", "(I)V"⟩, 12), (⟨"CapabilityCoreModel", "trapOf", "(IIII)I"⟩, 12), (⟨"CapabilityCoreModel", "sealing", "(ZIII)I"⟩, 12), (⟨"CapabilityCoreModel", "number", "(I)V"⟩, 12), (⟨"CapabilityCoreModel", "go", "(I)V"⟩, 12)]
theorem lw_r2 : ∀ q ∈ lw_privs_2, lw_okq q := List.forall_mem_cons.mpr ⟨lw_p16, List.forall_mem_cons.mpr ⟨lw_p17, List.forall_mem_cons.mpr ⟨lw_p18, List.forall_mem_cons.mpr ⟨lw_p19, List.forall_mem_cons.mpr ⟨lw_p20, List.forall_mem_cons.mpr ⟨lw_p21, List.forall_mem_cons.mpr ⟨lw_p22, List.forall_mem_cons.mpr ⟨lw_p23, List.forall_mem_cons.mpr ⟨lw_p24, List.forall_mem_cons.mpr ⟨lw_p25, List.forall_mem_cons.mpr ⟨lw_p26, List.forall_mem_cons.mpr ⟨lw_p27, List.forall_mem_cons.mpr ⟨lw_p28, List.forall_mem_cons.mpr ⟨lw_p29, List.forall_mem_cons.mpr ⟨lw_p30, List.forall_mem_cons.mpr ⟨lw_p31, fun _ h => absurd h List.not_mem_nil⟩⟩⟩⟩⟩⟩⟩⟩⟩⟩⟩⟩⟩⟩⟩⟩
theorem lw_p32 : lw_okq (⟨"CapabilityCoreModel", "move", "(I)V"⟩, 12) := ⟨⟨by decide +kernel, by decide +kernel⟩, List.mem_of_getElem? (i := 285) (by decide +kernel), List.mem_of_getElem? (i := 422) (by decide +kernel), List.mem_of_getElem? (i := 423) (by decide +kernel)⟩
theorem lw_p33 : lw_okq (⟨"CapabilityCoreModel", "access", "(IIIII)V"⟩, 12) := ⟨⟨by decide +kernel, by decide +kernel⟩, List.mem_of_getElem? (i := 285) (by decide +kernel), List.mem_of_getElem? (i := 426) (by decide +kernel), List.mem_of_getElem? (i := 427) (by decide +kernel)⟩
theorem lw_p34 : lw_okq (⟨"CapabilityCoreModel", "turn", "(IIIII)V"⟩, 12) := ⟨⟨by decide +kernel, by decide +kernel⟩, List.mem_of_getElem? (i := 285) (by decide +kernel), List.mem_of_getElem? (i := 430) (by decide +kernel), List.mem_of_getElem? (i := 431) (by decide +kernel)⟩
theorem lw_p35 : lw_okq (⟨"CapabilityCoreModel", "link", "()V"⟩, 12) := ⟨⟨by decide +kernel, by decide +kernel⟩, List.mem_of_getElem? (i := 285) (by decide +kernel), List.mem_of_getElem? (i := 434) (by decide +kernel), List.mem_of_getElem? (i := 435) (by decide +kernel)⟩
theorem lw_p36 : lw_okq (⟨"CapabilityCoreModel", "typed", "(II)V"⟩, 12) := ⟨⟨by decide +kernel, by decide +kernel⟩, List.mem_of_getElem? (i := 285) (by decide +kernel), List.mem_of_getElem? (i := 438) (by decide +kernel), List.mem_of_getElem? (i := 439) (by decide +kernel)⟩
theorem lw_p37 : lw_okq (⟨"CapabilityCoreModel", "shape", "(IIIII)V"⟩, 12) := ⟨⟨by decide +kernel, by decide +kernel⟩, List.mem_of_getElem? (i := 285) (by decide +kernel), List.mem_of_getElem? (i := 442) (by decide +kernel), List.mem_of_getElem? (i := 443) (by decide +kernel)⟩
theorem lw_p38 : lw_okq (⟨"CapabilityCoreModel", "told", "(II)I"⟩, 12) := ⟨⟨by decide +kernel, by decide +kernel⟩, List.mem_of_getElem? (i := 285) (by decide +kernel), List.mem_of_getElem? (i := 446) (by decide +kernel), List.mem_of_getElem? (i := 447) (by decide +kernel)⟩
theorem lw_p39 : lw_okq (⟨"CapabilityCoreModel", "build", "(II)V"⟩, 12) := ⟨⟨by decide +kernel, by decide +kernel⟩, List.mem_of_getElem? (i := 285) (by decide +kernel), List.mem_of_getElem? (i := 450) (by decide +kernel), List.mem_of_getElem? (i := 451) (by decide +kernel)⟩
theorem lw_p40 : lw_okq (⟨"CapabilityCoreModel", "rule", "(IIII)V"⟩, 12) := ⟨⟨by decide +kernel, by decide +kernel⟩, List.mem_of_getElem? (i := 285) (by decide +kernel), List.mem_of_getElem? (i := 454) (by decide +kernel), List.mem_of_getElem? (i := 455) (by decide +kernel)⟩
def lw_privs_3 : List (MethodName × Nat) := [(⟨"CapabilityCoreModel", "move", "(I)V"⟩, 12), (⟨"CapabilityCoreModel", "access", "(IIIII)V"⟩, 12), (⟨"CapabilityCoreModel", "turn", "(IIIII)V"⟩, 12), (⟨"CapabilityCoreModel", "link", "()V"⟩, 12), (⟨"CapabilityCoreModel", "typed", "(II)V"⟩, 12), (⟨"CapabilityCoreModel", "shape", "(IIIII)V"⟩, 12), (⟨"CapabilityCoreModel", "told", "(II)I"⟩, 12), (⟨"CapabilityCoreModel", "build", "(II)V"⟩, 12), (⟨"CapabilityCoreModel", "rule", "(IIII)V"⟩, 12)]
theorem lw_r3 : ∀ q ∈ lw_privs_3, lw_okq q := List.forall_mem_cons.mpr ⟨lw_p32, List.forall_mem_cons.mpr ⟨lw_p33, List.forall_mem_cons.mpr ⟨lw_p34, List.forall_mem_cons.mpr ⟨lw_p35, List.forall_mem_cons.mpr ⟨lw_p36, List.forall_mem_cons.mpr ⟨lw_p37, List.forall_mem_cons.mpr ⟨lw_p38, List.forall_mem_cons.mpr ⟨lw_p39, List.forall_mem_cons.mpr ⟨lw_p40, fun _ h => absurd h List.not_mem_nil⟩⟩⟩⟩⟩⟩⟩⟩⟩
def lw_privs : List (MethodName × Nat) := lw_privs_1 ++ (lw_privs_2 ++ (lw_privs_3))
def lw_tbl : List Cond := k2_sels lw_privs ++ tables_1
theorem lw_privs_ok : ∀ q ∈ lw_privs, lw_okq q := by
  show ∀ q ∈ lw_privs_1 ++ (lw_privs_2 ++ (lw_privs_3)), lw_okq q
  exact List.forall_mem_append.mpr ⟨lw_r1, List.forall_mem_append.mpr ⟨lw_r2, lw_r3⟩⟩
/-- all good words of the tables: every method's words are its own code and these -/
def TG : List Cond := lw_tbl.filter goodWord
theorem tg_t {w : Cond} (h : w ∈ tables_1) (g : goodWord w = true) : w ∈ TG := List.mem_filter.mpr ⟨List.mem_append_right _ h, g⟩
theorem tg_p {w : Cond} (h : w ∈ k2_sels lw_privs) (g : goodWord w = true) : w ∈ TG := List.mem_filter.mpr ⟨List.mem_append_left _ h, g⟩
theorem tg_in {c0 c1 : Cond} (h : c1 ∈ TG) : GoodIn (c0 :: TG) (c1 :: TG) := fun w hw => by
  have h2 : w ∈ TG := by
    rcases List.mem_cons.mp hw with e | e
    · rw [e]; exact h
    · exact e
  exact ⟨List.mem_cons_of_mem _ h2, good_of_word (List.mem_filter.mp h2).2⟩
theorem tg_law {c1 : Cond} (h : c1 ∈ TG) : GoodIn lw_tbl (c1 :: TG) := fun w hw => by
  have h2 : w ∈ TG := by
    rcases List.mem_cons.mp hw with e | e
    · rw [e]; exact h
    · exact e
  exact ⟨(List.mem_filter.mp h2).1, good_of_word (List.mem_filter.mp h2).2⟩
end
section
def R_K : String := "CapabilityCore$Capability"
def R_X : String := "CapabilityCore"
def R_M : String := "CapabilityCoreModel"
def R_L : String := "CapabilityCoreLaw"
def F_K : u_T := fun k => match k with
  | 0 => ("CapabilityCore$Capability", "tag", "Z", false)
  | 1 => ("CapabilityCore$Capability", "meta", "I", false)
  | _ => ("CapabilityCore$Capability", "address", "I", false)
def t_K : Nat → FieldType := fun k => match k with
  | 0 => .boolean
  | 1 => .int
  | _ => .int
theorem n_K : ∀ a, a < 3 → ∀ b, b < 3 → a ≠ b → (F_K a).2.1 ≠ (F_K b).2.1 := by decide +kernel
theorem t_K_ok : ∀ k, k < 3 → parseFieldDescriptor (F_K k).2.2.1 = some (t_K k) := by decide +kernel
theorem u_K_0 : Cond.lays "CapabilityCore$Capability" "CapabilityCore$Capability" "tag" "Z" ∈ TG := tg_t (List.mem_of_getElem? (i := 25) (by decide +kernel)) (by decide +kernel)
theorem u_K_1 : Cond.lays "CapabilityCore$Capability" "CapabilityCore$Capability" "meta" "I" ∈ TG := tg_t (List.mem_of_getElem? (i := 27) (by decide +kernel)) (by decide +kernel)
theorem u_K_2 : Cond.lays "CapabilityCore$Capability" "CapabilityCore$Capability" "address" "I" ∈ TG := tg_t (List.mem_of_getElem? (i := 29) (by decide +kernel)) (by decide +kernel)
theorem u_K : ∀ w ∈ u_ws R_K F_K 3, w ∈ TG := fun w h => by
  obtain ⟨k, hk, rfl⟩ := List.mem_map.mp h
  have hk := List.mem_range.mp hk
  match k, hk with
  | 0, _ => exact u_K_0
  | 1, _ => exact u_K_1
  | 2, _ => exact u_K_2
def F_X : u_T := fun k => match k with
  | 0 => ("CapabilityCore", "words", "[I", true)
  | 1 => ("CapabilityCore", "granuleTags", "[Z", true)
  | 2 => ("CapabilityCore", "registers", "[LCapabilityCore$Capability;", true)
  | 3 => ("CapabilityCore", "pcc", "LCapabilityCore$Capability;", true)
  | 4 => ("CapabilityCore", "made", "LCapabilityCore$Capability;", true)
  | 5 => ("CapabilityCore", "mode", "I", false)
  | 6 => ("CapabilityCore", "lastCause", "I", false)
  | 7 => ("CapabilityCore", "stepCount", "I", false)
  | _ => ("CapabilityCore", "trapCount", "I", false)
def t_X : Nat → FieldType := fun k => match k with
  | 0 => .array .int
  | 1 => .array .boolean
  | 2 => .array (.object "CapabilityCore$Capability")
  | 3 => .object "CapabilityCore$Capability"
  | 4 => .object "CapabilityCore$Capability"
  | 5 => .int
  | 6 => .int
  | 7 => .int
  | _ => .int
theorem n_X : ∀ a, a < 9 → ∀ b, b < 9 → a ≠ b → (F_X a).2.1 ≠ (F_X b).2.1 := by decide +kernel
theorem t_X_ok : ∀ k, k < 9 → parseFieldDescriptor (F_X k).2.2.1 = some (t_X k) := by decide +kernel
theorem u_X_0 : Cond.laysFinal "CapabilityCore" "CapabilityCore" "words" "[I" ∈ TG := tg_t (List.mem_of_getElem? (i := 56) (by decide +kernel)) (by decide +kernel)
theorem u_X_1 : Cond.laysFinal "CapabilityCore" "CapabilityCore" "granuleTags" "[Z" ∈ TG := tg_t (List.mem_of_getElem? (i := 58) (by decide +kernel)) (by decide +kernel)
theorem u_X_2 : Cond.laysFinal "CapabilityCore" "CapabilityCore" "registers" "[LCapabilityCore$Capability;" ∈ TG := tg_t (List.mem_of_getElem? (i := 60) (by decide +kernel)) (by decide +kernel)
theorem u_X_3 : Cond.laysFinal "CapabilityCore" "CapabilityCore" "pcc" "LCapabilityCore$Capability;" ∈ TG := tg_t (List.mem_of_getElem? (i := 62) (by decide +kernel)) (by decide +kernel)
theorem u_X_4 : Cond.laysFinal "CapabilityCore" "CapabilityCore" "made" "LCapabilityCore$Capability;" ∈ TG := tg_t (List.mem_of_getElem? (i := 64) (by decide +kernel)) (by decide +kernel)
theorem u_X_5 : Cond.lays "CapabilityCore" "CapabilityCore" "mode" "I" ∈ TG := tg_t (List.mem_of_getElem? (i := 66) (by decide +kernel)) (by decide +kernel)
theorem u_X_6 : Cond.lays "CapabilityCore" "CapabilityCore" "lastCause" "I" ∈ TG := tg_t (List.mem_of_getElem? (i := 68) (by decide +kernel)) (by decide +kernel)
theorem u_X_7 : Cond.lays "CapabilityCore" "CapabilityCore" "stepCount" "I" ∈ TG := tg_t (List.mem_of_getElem? (i := 70) (by decide +kernel)) (by decide +kernel)
theorem u_X_8 : Cond.lays "CapabilityCore" "CapabilityCore" "trapCount" "I" ∈ TG := tg_t (List.mem_of_getElem? (i := 72) (by decide +kernel)) (by decide +kernel)
theorem u_X : ∀ w ∈ u_ws R_X F_X 9, w ∈ TG := fun w h => by
  obtain ⟨k, hk, rfl⟩ := List.mem_map.mp h
  have hk := List.mem_range.mp hk
  match k, hk with
  | 0, _ => exact u_X_0
  | 1, _ => exact u_X_1
  | 2, _ => exact u_X_2
  | 3, _ => exact u_X_3
  | 4, _ => exact u_X_4
  | 5, _ => exact u_X_5
  | 6, _ => exact u_X_6
  | 7, _ => exact u_X_7
  | 8, _ => exact u_X_8
def F_M : u_T := fun k => match k with
  | 0 => ("CapabilityCoreModel", "address", "[I", true)
  | 1 => ("CapabilityCoreModel", "meta", "[I", true)
  | 2 => ("CapabilityCoreModel", "tag", "[Z", true)
  | 3 => ("CapabilityCoreModel", "memory", "[I", true)
  | 4 => ("CapabilityCoreModel", "granule", "[Z", true)
  | 5 => ("CapabilityCoreModel", "state", "I", false)
  | 6 => ("CapabilityCoreModel", "cause", "I", false)
  | 7 => ("CapabilityCoreModel", "steps", "I", false)
  | 8 => ("CapabilityCoreModel", "traps", "I", false)
  | 9 => ("CapabilityCoreModel", "newAddress", "I", false)
  | 10 => ("CapabilityCoreModel", "newMeta", "I", false)
  | _ => ("CapabilityCoreModel", "newTag", "Z", false)
def t_M : Nat → FieldType := fun k => match k with
  | 0 => .array .int
  | 1 => .array .int
  | 2 => .array .boolean
  | 3 => .array .int
  | 4 => .array .boolean
  | 5 => .int
  | 6 => .int
  | 7 => .int
  | 8 => .int
  | 9 => .int
  | 10 => .int
  | _ => .boolean
theorem n_M : ∀ a, a < 12 → ∀ b, b < 12 → a ≠ b → (F_M a).2.1 ≠ (F_M b).2.1 := by decide +kernel
theorem t_M_ok : ∀ k, k < 12 → parseFieldDescriptor (F_M k).2.2.1 = some (t_M k) := by decide +kernel
theorem u_M_0 : Cond.laysFinal "CapabilityCoreModel" "CapabilityCoreModel" "address" "[I" ∈ TG := tg_t (List.mem_of_getElem? (i := 312) (by decide +kernel)) (by decide +kernel)
theorem u_M_1 : Cond.laysFinal "CapabilityCoreModel" "CapabilityCoreModel" "meta" "[I" ∈ TG := tg_t (List.mem_of_getElem? (i := 314) (by decide +kernel)) (by decide +kernel)
theorem u_M_2 : Cond.laysFinal "CapabilityCoreModel" "CapabilityCoreModel" "tag" "[Z" ∈ TG := tg_t (List.mem_of_getElem? (i := 316) (by decide +kernel)) (by decide +kernel)
theorem u_M_3 : Cond.laysFinal "CapabilityCoreModel" "CapabilityCoreModel" "memory" "[I" ∈ TG := tg_t (List.mem_of_getElem? (i := 318) (by decide +kernel)) (by decide +kernel)
theorem u_M_4 : Cond.laysFinal "CapabilityCoreModel" "CapabilityCoreModel" "granule" "[Z" ∈ TG := tg_t (List.mem_of_getElem? (i := 320) (by decide +kernel)) (by decide +kernel)
theorem u_M_5 : Cond.lays "CapabilityCoreModel" "CapabilityCoreModel" "state" "I" ∈ TG := tg_t (List.mem_of_getElem? (i := 322) (by decide +kernel)) (by decide +kernel)
theorem u_M_6 : Cond.lays "CapabilityCoreModel" "CapabilityCoreModel" "cause" "I" ∈ TG := tg_t (List.mem_of_getElem? (i := 324) (by decide +kernel)) (by decide +kernel)
theorem u_M_7 : Cond.lays "CapabilityCoreModel" "CapabilityCoreModel" "steps" "I" ∈ TG := tg_t (List.mem_of_getElem? (i := 326) (by decide +kernel)) (by decide +kernel)
theorem u_M_8 : Cond.lays "CapabilityCoreModel" "CapabilityCoreModel" "traps" "I" ∈ TG := tg_t (List.mem_of_getElem? (i := 328) (by decide +kernel)) (by decide +kernel)
theorem u_M_9 : Cond.lays "CapabilityCoreModel" "CapabilityCoreModel" "newAddress" "I" ∈ TG := tg_t (List.mem_of_getElem? (i := 330) (by decide +kernel)) (by decide +kernel)
theorem u_M_10 : Cond.lays "CapabilityCoreModel" "CapabilityCoreModel" "newMeta" "I" ∈ TG := tg_t (List.mem_of_getElem? (i := 332) (by decide +kernel)) (by decide +kernel)
theorem u_M_11 : Cond.lays "CapabilityCoreModel" "CapabilityCoreModel" "newTag" "Z" ∈ TG := tg_t (List.mem_of_getElem? (i := 334) (by decide +kernel)) (by decide +kernel)
theorem u_M : ∀ w ∈ u_ws R_M F_M 12, w ∈ TG := fun w h => by
  obtain ⟨k, hk, rfl⟩ := List.mem_map.mp h
  have hk := List.mem_range.mp hk
  match k, hk with
  | 0, _ => exact u_M_0
  | 1, _ => exact u_M_1
  | 2, _ => exact u_M_2
  | 3, _ => exact u_M_3
  | 4, _ => exact u_M_4
  | 5, _ => exact u_M_5
  | 6, _ => exact u_M_6
  | 7, _ => exact u_M_7
  | 8, _ => exact u_M_8
  | 9, _ => exact u_M_9
  | 10, _ => exact u_M_10
  | 11, _ => exact u_M_11
abbrev classes : List vw_C := [(R_K, F_K, 3), (R_X, F_X, 9), (R_M, F_M, 12)]
abbrev c_X_init : ByteArray := prog_1_method_1_code
def y_X_init : MethodName := ⟨R_X, "<init>", "()V"⟩
def w_X_init : List Cond := .code y_X_init c_X_init 2 (none : Option FieldType) :: TG
abbrev c_K_init : ByteArray := prog_2_method_1_code
def y_K_init : MethodName := ⟨R_K, "<init>", "()V"⟩
def w_K_init : List Cond := .code y_K_init c_K_init 1 (none : Option FieldType) :: TG
abbrev c_K_becomeRoot : ByteArray := prog_2_method_4_code
def y_K_becomeRoot : MethodName := ⟨R_K, "becomeRoot", "(I)V"⟩
def w_K_becomeRoot : List Cond := .code y_K_becomeRoot c_K_becomeRoot 2 (none : Option FieldType) :: TG
abbrev c_K_bound : ByteArray := prog_2_method_12_code
def y_K_bound : MethodName := ⟨R_K, "bound", "(JJ)V"⟩
def w_K_bound : List Cond := .code y_K_bound c_K_bound 8 (none : Option FieldType) :: TG
abbrev c_K_unitsUp : ByteArray := prog_2_method_13_code
def y_K_unitsUp : MethodName := ⟨R_K, "unitsUp", "(JI)J"⟩
def w_K_unitsUp : List Cond := .code y_K_unitsUp c_K_unitsUp 3 (some FieldType.long) :: TG
abbrev c_X_poke : ByteArray := prog_1_method_2_code
def y_X_poke : MethodName := ⟨R_X, "poke", "(II)Z"⟩
def w_X_poke : List Cond := .code y_X_poke c_X_poke 3 (some FieldType.boolean) :: TG
abbrev c_X_isWord : ByteArray := prog_1_method_15_code
def y_X_isWord : MethodName := ⟨R_X, "isWord", "(I)Z"⟩
def w_X_isWord : List Cond := .code y_X_isWord c_X_isWord 1 (some FieldType.boolean) :: TG
abbrev c_X_writeWord : ByteArray := prog_1_method_41_code
def y_X_writeWord : MethodName := ⟨R_X, "writeWord", "(II)V"⟩
def w_X_writeWord : List Cond := .code y_X_writeWord c_X_writeWord 3 (none : Option FieldType) :: TG
abbrev c_X_peek : ByteArray := prog_1_method_3_code
def y_X_peek : MethodName := ⟨R_X, "peek", "(I)I"⟩
def w_X_peek : List Cond := .code y_X_peek c_X_peek 2 (some FieldType.int) :: TG
abbrev c_X_tagged : ByteArray := prog_1_method_4_code
def y_X_tagged : MethodName := ⟨R_X, "tagged", "(I)Z"⟩
def w_X_tagged : List Cond := .code y_X_tagged c_X_tagged 2 (some FieldType.boolean) :: TG
abbrev c_X_run : ByteArray := prog_1_method_5_code
def y_X_run : MethodName := ⟨R_X, "run", "(I)I"⟩
def w_X_run : List Cond := .code y_X_run c_X_run 3 (some FieldType.int) :: TG
abbrev c_X_makeStep : ByteArray := prog_1_method_17_code
def y_X_makeStep : MethodName := ⟨R_X, "makeStep", "()V"⟩
def w_X_makeStep : List Cond := .code y_X_makeStep c_X_makeStep 2 (none : Option FieldType) :: TG
abbrev c_X_check : ByteArray := prog_1_method_20_code
def y_X_check : MethodName := ⟨R_X, "check", "(IIII)I"⟩
def w_X_check : List Cond := .code y_X_check c_X_check 8 (some FieldType.int) :: TG
abbrev c_X_trapOf : ByteArray := prog_1_method_19_code
def y_X_trapOf : MethodName := ⟨R_X, "trapOf", "(II)I"⟩
def w_X_trapOf : List Cond := .code y_X_trapOf c_X_trapOf 2 (some FieldType.int) :: TG
abbrev c_K_isSealed : ByteArray := prog_2_method_9_code
def y_K_isSealed : MethodName := ⟨R_K, "isSealed", "()Z"⟩
def w_K_isSealed : List Cond := .code y_K_isSealed c_K_isSealed 1 (some FieldType.boolean) :: TG
abbrev c_K_type : ByteArray := prog_2_method_8_code
def y_K_type : MethodName := ⟨R_K, "type", "()I"⟩
def w_K_type : List Cond := .code y_K_type c_K_type 1 (some FieldType.int) :: TG
abbrev c_K_permits : ByteArray := prog_2_method_6_code
def y_K_permits : MethodName := ⟨R_K, "permits", "(I)Z"⟩
def w_K_permits : List Cond := .code y_K_permits c_K_permits 2 (some FieldType.boolean) :: TG
abbrev c_K_permissions : ByteArray := prog_2_method_5_code
def y_K_permissions : MethodName := ⟨R_K, "permissions", "()I"⟩
def w_K_permissions : List Cond := .code y_K_permissions c_K_permissions 1 (some FieldType.int) :: TG
abbrev c_K_lowerBound : ByteArray := prog_2_method_14_code
def y_K_lowerBound : MethodName := ⟨R_K, "lowerBound", "()J"⟩
def w_K_lowerBound : List Cond := .code y_K_lowerBound c_K_lowerBound 7 (some FieldType.long) :: TG
abbrev c_K_upperBound : ByteArray := prog_2_method_15_code
def y_K_upperBound : MethodName := ⟨R_K, "upperBound", "()J"⟩
def w_K_upperBound : List Cond := .code y_K_upperBound c_K_upperBound 6 (some FieldType.long) :: TG
abbrev c_X_execute : ByteArray := prog_1_method_21_code
def y_X_execute : MethodName := ⟨R_X, "execute", "(I)I"⟩
def w_X_execute : List Cond := .code y_X_execute c_X_execute 8 (some FieldType.int) :: TG
abbrev c_X_load : ByteArray := prog_1_method_27_code
def y_X_load : MethodName := ⟨R_X, "load", "(III)I"⟩
def w_X_load : List Cond := .code y_X_load c_X_load 6 (some FieldType.int) :: TG
abbrev c_X_writeNumber : ByteArray := prog_1_method_40_code
def y_X_writeNumber : MethodName := ⟨R_X, "writeNumber", "(II)V"⟩
def w_X_writeNumber : List Cond := .code y_X_writeNumber c_X_writeNumber 3 (none : Option FieldType) :: TG
abbrev c_K_becomeNumber : ByteArray := prog_2_method_3_code
def y_K_becomeNumber : MethodName := ⟨R_K, "becomeNumber", "(I)V"⟩
def w_K_becomeNumber : List Cond := .code y_K_becomeNumber c_K_becomeNumber 2 (none : Option FieldType) :: TG
abbrev c_X_store : ByteArray := prog_1_method_28_code
def y_X_store : MethodName := ⟨R_X, "store", "(III)I"⟩
def w_X_store : List Cond := .code y_X_store c_X_store 6 (some FieldType.int) :: TG
abbrev c_X_loadCapability : ByteArray := prog_1_method_29_code
def y_X_loadCapability : MethodName := ⟨R_X, "loadCapability", "(III)I"⟩
def w_X_loadCapability : List Cond := .code y_X_loadCapability c_X_loadCapability 7 (some FieldType.int) :: TG
abbrev c_X_writeMade : ByteArray := prog_1_method_39_code
def y_X_writeMade : MethodName := ⟨R_X, "writeMade", "(I)V"⟩
def w_X_writeMade : List Cond := .code y_X_writeMade c_X_writeMade 2 (none : Option FieldType) :: TG
abbrev c_K_copy : ByteArray := prog_2_method_2_code
def y_K_copy : MethodName := ⟨R_K, "copy", "(LCapabilityCore$Capability;)V"⟩
def w_K_copy : List Cond := .code y_K_copy c_K_copy 2 (none : Option FieldType) :: TG
abbrev c_X_storeCapability : ByteArray := prog_1_method_30_code
def y_X_storeCapability : MethodName := ⟨R_X, "storeCapability", "(III)I"⟩
def w_X_storeCapability : List Cond := .code y_X_storeCapability c_X_storeCapability 8 (some FieldType.int) :: TG
abbrev c_X_branch : ByteArray := prog_1_method_36_code
def y_X_branch : MethodName := ⟨R_X, "branch", "(I)I"⟩
def w_X_branch : List Cond := .code y_X_branch c_X_branch 2 (some FieldType.int) :: TG
abbrev c_K_move : ByteArray := prog_2_method_11_code
def y_K_move : MethodName := ⟨R_K, "move", "(I)V"⟩
def w_K_move : List Cond := .code y_K_move c_K_move 6 (none : Option FieldType) :: TG
abbrev c_X_writeLink : ByteArray := prog_1_method_37_code
def y_X_writeLink : MethodName := ⟨R_X, "writeLink", "(I)V"⟩
def w_X_writeLink : List Cond := .code y_X_writeLink c_X_writeLink 2 (none : Option FieldType) :: TG
abbrev c_K_setType : ByteArray := prog_2_method_10_code
def y_K_setType : MethodName := ⟨R_K, "setType", "(I)V"⟩
def w_K_setType : List Cond := .code y_K_setType c_K_setType 2 (none : Option FieldType) :: TG
abbrev c_X_jump : ByteArray := prog_1_method_31_code
def y_X_jump : MethodName := ⟨R_X, "jump", "(II)I"⟩
def w_X_jump : List Cond := .code y_X_jump c_X_jump 4 (some FieldType.int) :: TG
abbrev c_X_seal : ByteArray := prog_1_method_32_code
def y_X_seal : MethodName := ⟨R_X, "seal", "(III)I"⟩
def w_X_seal : List Cond := .code y_X_seal c_X_seal 7 (some FieldType.int) :: TG
abbrev c_X_writeWithType : ByteArray := prog_1_method_38_code
def y_X_writeWithType : MethodName := ⟨R_X, "writeWithType", "(ILCapabilityCore$Capability;I)V"⟩
def w_X_writeWithType : List Cond := .code y_X_writeWithType c_X_writeWithType 4 (none : Option FieldType) :: TG
abbrev c_X_unseal : ByteArray := prog_1_method_33_code
def y_X_unseal : MethodName := ⟨R_X, "unseal", "(III)I"⟩
def w_X_unseal : List Cond := .code y_X_unseal c_X_unseal 7 (some FieldType.int) :: TG
abbrev c_X_tell : ByteArray := prog_1_method_26_code
def y_X_tell : MethodName := ⟨R_X, "tell", "(LCapabilityCore$Capability;I)I"⟩
def w_X_tell : List Cond := .code y_X_tell c_X_tell 2 (some FieldType.int) :: TG
abbrev c_X_swap : ByteArray := prog_1_method_34_code
def y_X_swap : MethodName := ⟨R_X, "swap", "(III)I"⟩
def w_X_swap : List Cond := .code y_X_swap c_X_swap 5 (some FieldType.int) :: TG
abbrev c_X_returnFromTrap : ByteArray := prog_1_method_35_code
def y_X_returnFromTrap : MethodName := ⟨R_X, "returnFromTrap", "()I"⟩
def w_X_returnFromTrap : List Cond := .code y_X_returnFromTrap c_X_returnFromTrap 1 (some FieldType.int) :: TG
abbrev c_X_compute : ByteArray := prog_1_method_22_code
def y_X_compute : MethodName := ⟨R_X, "compute", "(IIII)I"⟩
def w_X_compute : List Cond := .code y_X_compute c_X_compute 4 (some FieldType.int) :: TG
abbrev c_X_derive : ByteArray := prog_1_method_23_code
def y_X_derive : MethodName := ⟨R_X, "derive", "(IILCapabilityCore$Capability;LCapabilityCore$Capability;)V"⟩
def w_X_derive : List Cond := .code y_X_derive c_X_derive 5 (none : Option FieldType) :: TG
abbrev c_X_narrow : ByteArray := prog_1_method_24_code
def y_X_narrow : MethodName := ⟨R_X, "narrow", "(LCapabilityCore$Capability;I)V"⟩
def w_X_narrow : List Cond := .code y_X_narrow c_X_narrow 5 (none : Option FieldType) :: TG
abbrev c_K_keepPermissions : ByteArray := prog_2_method_7_code
def y_K_keepPermissions : MethodName := ⟨R_K, "keepPermissions", "(I)V"⟩
def w_K_keepPermissions : List Cond := .code y_K_keepPermissions c_K_keepPermissions 2 (none : Option FieldType) :: TG
abbrev c_X_mayBuild : ByteArray := prog_1_method_25_code
def y_X_mayBuild : MethodName := ⟨R_X, "mayBuild", "(LCapabilityCore$Capability;LCapabilityCore$Capability;)Z"⟩
def w_X_mayBuild : List Cond := .code y_X_mayBuild c_X_mayBuild 2 (some FieldType.boolean) :: TG
abbrev c_X_enterTrap : ByteArray := prog_1_method_18_code
def y_X_enterTrap : MethodName := ⟨R_X, "enterTrap", "(I)V"⟩
def w_X_enterTrap : List Cond := .code y_X_enterTrap c_X_enterTrap 3 (none : Option FieldType) :: TG
abbrev c_X_state : ByteArray := prog_1_method_6_code
def y_X_state : MethodName := ⟨R_X, "state", "()I"⟩
def w_X_state : List Cond := .code y_X_state c_X_state 1 (some FieldType.int) :: TG
abbrev c_X_wake : ByteArray := prog_1_method_7_code
def y_X_wake : MethodName := ⟨R_X, "wake", "(I)Z"⟩
def w_X_wake : List Cond := .code y_X_wake c_X_wake 2 (some FieldType.boolean) :: TG
abbrev c_X_cause : ByteArray := prog_1_method_8_code
def y_X_cause : MethodName := ⟨R_X, "cause", "()I"⟩
def w_X_cause : List Cond := .code y_X_cause c_X_cause 1 (some FieldType.int) :: TG
abbrev c_X_steps : ByteArray := prog_1_method_9_code
def y_X_steps : MethodName := ⟨R_X, "steps", "()I"⟩
def w_X_steps : List Cond := .code y_X_steps c_X_steps 1 (some FieldType.int) :: TG
abbrev c_X_traps : ByteArray := prog_1_method_10_code
def y_X_traps : MethodName := ⟨R_X, "traps", "()I"⟩
def w_X_traps : List Cond := .code y_X_traps c_X_traps 1 (some FieldType.int) :: TG
abbrev c_X_register : ByteArray := prog_1_method_11_code
def y_X_register : MethodName := ⟨R_X, "register", "(II)I"⟩
def w_X_register : List Cond := .code y_X_register c_X_register 3 (some FieldType.int) :: TG
abbrev c_X_isRegister : ByteArray := prog_1_method_16_code
def y_X_isRegister : MethodName := ⟨R_X, "isRegister", "(I)Z"⟩
def w_X_isRegister : List Cond := .code y_X_isRegister c_X_isRegister 1 (some FieldType.boolean) :: TG
abbrev c_X_base : ByteArray := prog_1_method_12_code
def y_X_base : MethodName := ⟨R_X, "base", "(I)J"⟩
def w_X_base : List Cond := .code y_X_base c_X_base 2 (some FieldType.long) :: TG
abbrev c_X_top : ByteArray := prog_1_method_13_code
def y_X_top : MethodName := ⟨R_X, "top", "(I)J"⟩
def w_X_top : List Cond := .code y_X_top c_X_top 2 (some FieldType.long) :: TG
abbrev c_X_give : ByteArray := prog_1_method_14_code
def y_X_give : MethodName := ⟨R_X, "give", "(II)Z"⟩
def w_X_give : List Cond := .code y_X_give c_X_give 3 (some FieldType.boolean) :: TG
abbrev c_M_init : ByteArray := prog_4_method_1_code
def y_M_init : MethodName := ⟨R_M, "<init>", "()V"⟩
def w_M_init : List Cond := .code y_M_init c_M_init 1 (none : Option FieldType) :: TG
abbrev c_M_first : ByteArray := prog_4_method_2_code
def y_M_first : MethodName := ⟨R_M, "first", "(II)V"⟩
def w_M_first : List Cond := .code y_M_first c_M_first 3 (none : Option FieldType) :: TG
abbrev c_M_bounded : ByteArray := prog_4_method_10_code
def y_M_bounded : MethodName := ⟨R_M, "bounded", "(IJJ)I"⟩
def w_M_bounded : List Cond := .code y_M_bounded c_M_bounded 10 (some FieldType.int) :: TG
abbrev c_M_poke : ByteArray := prog_4_method_32_code
def y_M_poke : MethodName := ⟨R_M, "poke", "(II)Z"⟩
def w_M_poke : List Cond := .code y_M_poke c_M_poke 3 (some FieldType.boolean) :: TG
abbrev c_M_peek : ByteArray := prog_4_method_33_code
def y_M_peek : MethodName := ⟨R_M, "peek", "(I)I"⟩
def w_M_peek : List Cond := .code y_M_peek c_M_peek 2 (some FieldType.int) :: TG
abbrev c_M_tagged : ByteArray := prog_4_method_34_code
def y_M_tagged : MethodName := ⟨R_M, "tagged", "(I)Z"⟩
def w_M_tagged : List Cond := .code y_M_tagged c_M_tagged 2 (some FieldType.boolean) :: TG
abbrev c_M_run : ByteArray := prog_4_method_35_code
def y_M_run : MethodName := ⟨R_M, "run", "(I)I"⟩
def w_M_run : List Cond := .code y_M_run c_M_run 3 (some FieldType.int) :: TG
abbrev c_M_step : ByteArray := prog_4_method_24_code
def y_M_step : MethodName := ⟨R_M, "step", "()V"⟩
def w_M_step : List Cond := .code y_M_step c_M_step 9 (none : Option FieldType) :: TG
abbrev c_M_check : ByteArray := prog_4_method_12_code
def y_M_check : MethodName := ⟨R_M, "check", "(IIII)I"⟩
def w_M_check : List Cond := .code y_M_check c_M_check 7 (some FieldType.int) :: TG
abbrev c_M_unsigned : ByteArray := prog_4_method_5_code
def y_M_unsigned : MethodName := ⟨R_M, "unsigned", "(I)J"⟩
def w_M_unsigned : List Cond := .code y_M_unsigned c_M_unsigned 1 (some FieldType.long) :: TG
abbrev c_M_type : ByteArray := prog_4_method_3_code
def y_M_type : MethodName := ⟨R_M, "type", "(I)I"⟩
def w_M_type : List Cond := .code y_M_type c_M_type 1 (some FieldType.int) :: TG
abbrev c_M_has : ByteArray := prog_4_method_11_code
def y_M_has : MethodName := ⟨R_M, "has", "(II)Z"⟩
def w_M_has : List Cond := .code y_M_has c_M_has 3 (some FieldType.boolean) :: TG
abbrev c_M_baseOf : ByteArray := prog_4_method_8_code
def y_M_baseOf : MethodName := ⟨R_M, "baseOf", "(II)J"⟩
def w_M_baseOf : List Cond := .code y_M_baseOf c_M_baseOf 6 (some FieldType.long) :: TG
abbrev c_M_window : ByteArray := prog_4_method_7_code
def y_M_window : MethodName := ⟨R_M, "window", "(II)J"⟩
def w_M_window : List Cond := .code y_M_window c_M_window 8 (some FieldType.long) :: TG
abbrev c_M_unit : ByteArray := prog_4_method_4_code
def y_M_unit : MethodName := ⟨R_M, "unit", "(I)J"⟩
def w_M_unit : List Cond := .code y_M_unit c_M_unit 1 (some FieldType.long) :: TG
abbrev c_M_rest : ByteArray := prog_4_method_6_code
def y_M_rest : MethodName := ⟨R_M, "rest", "(JJ)J"⟩
def w_M_rest : List Cond := .code y_M_rest c_M_rest 6 (some FieldType.long) :: TG
abbrev c_M_topOf : ByteArray := prog_4_method_9_code
def y_M_topOf : MethodName := ⟨R_M, "topOf", "(II)J"⟩
def w_M_topOf : List Cond := .code y_M_topOf c_M_topOf 6 (some FieldType.long) :: TG
abbrev c_M_of : ByteArray := prog_4_method_13_code
def y_M_of : MethodName := ⟨R_M, "of", "(II)I"⟩
def w_M_of : List Cond := .code y_M_of c_M_of 2 (some FieldType.int) :: TG
abbrev c_M_trap : ByteArray := prog_4_method_23_code
def y_M_trap : MethodName := ⟨R_M, "trap", "(I)V"⟩
def w_M_trap : List Cond := .code y_M_trap c_M_trap 2 (none : Option FieldType) :: TG
abbrev c_M_take : ByteArray := prog_4_method_14_code
def y_M_take : MethodName := ⟨R_M, "take", "(I)V"⟩
def w_M_take : List Cond := .code y_M_take c_M_take 2 (none : Option FieldType) :: TG
abbrev c_M_put : ByteArray := prog_4_method_18_code
def y_M_put : MethodName := ⟨R_M, "put", "(I)V"⟩
def w_M_put : List Cond := .code y_M_put c_M_put 2 (none : Option FieldType) :: TG
abbrev c_M_trapOf : ByteArray := prog_4_method_21_code
def y_M_trapOf : MethodName := ⟨R_M, "trapOf", "(IIII)I"⟩
def w_M_trapOf : List Cond := .code y_M_trapOf c_M_trapOf 7 (some FieldType.int) :: TG
abbrev c_M_sealing : ByteArray := prog_4_method_22_code
def y_M_sealing : MethodName := ⟨R_M, "sealing", "(ZIII)I"⟩
def w_M_sealing : List Cond := .code y_M_sealing c_M_sealing 8 (some FieldType.int) :: TG
abbrev c_M_reckoned : ByteArray := prog_4_method_25_code
def y_M_reckoned : MethodName := ⟨R_M, "reckoned", "(IIII)I"⟩
def w_M_reckoned : List Cond := .code y_M_reckoned c_M_reckoned 4 (some FieldType.int) :: TG
abbrev c_M_number : ByteArray := prog_4_method_15_code
def y_M_number : MethodName := ⟨R_M, "number", "(I)V"⟩
def w_M_number : List Cond := .code y_M_number c_M_number 2 (none : Option FieldType) :: TG
abbrev c_M_go : ByteArray := prog_4_method_19_code
def y_M_go : MethodName := ⟨R_M, "go", "(I)V"⟩
def w_M_go : List Cond := .code y_M_go c_M_go 2 (none : Option FieldType) :: TG
abbrev c_M_move : ByteArray := prog_4_method_16_code
def y_M_move : MethodName := ⟨R_M, "move", "(I)V"⟩
def w_M_move : List Cond := .code y_M_move c_M_move 6 (none : Option FieldType) :: TG
abbrev c_M_access : ByteArray := prog_4_method_26_code
def y_M_access : MethodName := ⟨R_M, "access", "(IIIII)V"⟩
def w_M_access : List Cond := .code y_M_access c_M_access 7 (none : Option FieldType) :: TG
abbrev c_M_turn : ByteArray := prog_4_method_27_code
def y_M_turn : MethodName := ⟨R_M, "turn", "(IIIII)V"⟩
def w_M_turn : List Cond := .code y_M_turn c_M_turn 8 (none : Option FieldType) :: TG
abbrev c_M_link : ByteArray := prog_4_method_20_code
def y_M_link : MethodName := ⟨R_M, "link", "()V"⟩
def w_M_link : List Cond := .code y_M_link c_M_link 1 (none : Option FieldType) :: TG
abbrev c_M_typed : ByteArray := prog_4_method_17_code
def y_M_typed : MethodName := ⟨R_M, "typed", "(II)V"⟩
def w_M_typed : List Cond := .code y_M_typed c_M_typed 3 (none : Option FieldType) :: TG
abbrev c_M_shape : ByteArray := prog_4_method_28_code
def y_M_shape : MethodName := ⟨R_M, "shape", "(IIIII)V"⟩
def w_M_shape : List Cond := .code y_M_shape c_M_shape 12 (none : Option FieldType) :: TG
abbrev c_M_told : ByteArray := prog_4_method_29_code
def y_M_told : MethodName := ⟨R_M, "told", "(II)I"⟩
def w_M_told : List Cond := .code y_M_told c_M_told 5 (some FieldType.int) :: TG
abbrev c_M_build : ByteArray := prog_4_method_30_code
def y_M_build : MethodName := ⟨R_M, "build", "(II)V"⟩
def w_M_build : List Cond := .code y_M_build c_M_build 10 (none : Option FieldType) :: TG
abbrev c_M_rule : ByteArray := prog_4_method_31_code
def y_M_rule : MethodName := ⟨R_M, "rule", "(IIII)V"⟩
def w_M_rule : List Cond := .code y_M_rule c_M_rule 8 (none : Option FieldType) :: TG
abbrev c_M_state : ByteArray := prog_4_method_36_code
def y_M_state : MethodName := ⟨R_M, "state", "()I"⟩
def w_M_state : List Cond := .code y_M_state c_M_state 1 (some FieldType.int) :: TG
abbrev c_M_wake : ByteArray := prog_4_method_37_code
def y_M_wake : MethodName := ⟨R_M, "wake", "(I)Z"⟩
def w_M_wake : List Cond := .code y_M_wake c_M_wake 2 (some FieldType.boolean) :: TG
abbrev c_M_cause : ByteArray := prog_4_method_38_code
def y_M_cause : MethodName := ⟨R_M, "cause", "()I"⟩
def w_M_cause : List Cond := .code y_M_cause c_M_cause 1 (some FieldType.int) :: TG
abbrev c_M_steps : ByteArray := prog_4_method_39_code
def y_M_steps : MethodName := ⟨R_M, "steps", "()I"⟩
def w_M_steps : List Cond := .code y_M_steps c_M_steps 1 (some FieldType.int) :: TG
abbrev c_M_traps : ByteArray := prog_4_method_40_code
def y_M_traps : MethodName := ⟨R_M, "traps", "()I"⟩
def w_M_traps : List Cond := .code y_M_traps c_M_traps 1 (some FieldType.int) :: TG
abbrev c_M_register : ByteArray := prog_4_method_42_code
def y_M_register : MethodName := ⟨R_M, "register", "(II)I"⟩
def w_M_register : List Cond := .code y_M_register c_M_register 3 (some FieldType.int) :: TG
abbrev c_M_isRegister : ByteArray := prog_4_method_41_code
def y_M_isRegister : MethodName := ⟨R_M, "isRegister", "(I)Z"⟩
def w_M_isRegister : List Cond := .code y_M_isRegister c_M_isRegister 1 (some FieldType.boolean) :: TG
abbrev c_M_base : ByteArray := prog_4_method_43_code
def y_M_base : MethodName := ⟨R_M, "base", "(I)J"⟩
def w_M_base : List Cond := .code y_M_base c_M_base 2 (some FieldType.long) :: TG
abbrev c_M_top : ByteArray := prog_4_method_44_code
def y_M_top : MethodName := ⟨R_M, "top", "(I)J"⟩
def w_M_top : List Cond := .code y_M_top c_M_top 2 (some FieldType.long) :: TG
abbrev c_M_give : ByteArray := prog_4_method_45_code
def y_M_give : MethodName := ⟨R_M, "give", "(II)Z"⟩
def w_M_give : List Cond := .code y_M_give c_M_give 3 (some FieldType.boolean) :: TG
end
section
theorem k_ini_L : (Jvm.Cond.initialized "CapabilityCoreLaw") ∈ TG := tg_t (List.mem_of_getElem? (i := 0) (by decide +kernel)) (by decide +kernel)
theorem k_ini_X : (Jvm.Cond.initialized "CapabilityCore") ∈ TG := tg_t (List.mem_of_getElem? (i := 1) (by decide +kernel)) (by decide +kernel)
theorem k_ini_K : (Jvm.Cond.initialized "CapabilityCore$Capability") ∈ TG := tg_t (List.mem_of_getElem? (i := 2) (by decide +kernel)) (by decide +kernel)
theorem k_ini_M : (Jvm.Cond.initialized "CapabilityCoreModel") ∈ TG := tg_t (List.mem_of_getElem? (i := 3) (by decide +kernel)) (by decide +kernel)
theorem k_cl_L_7 : (Jvm.Cond.classLink "CapabilityCoreLaw" (7 : Nat) "CapabilityCore") ∈ TG := tg_t (List.mem_of_getElem? (i := 4) (by decide +kernel)) (by decide +kernel)
theorem k_inst_X : (Jvm.Cond.instantiable "CapabilityCore" (9 : Nat)) ∈ TG := tg_t (List.mem_of_getElem? (i := 5) (by decide +kernel)) (by decide +kernel)
theorem k_ml_L_9 : (Jvm.Cond.methodLink "CapabilityCoreLaw" (9 : Nat) y_X_init) ∈ TG := tg_t (List.mem_of_getElem? (i := 6) (by decide +kernel)) (by decide +kernel)
theorem k_im_X_init : (Jvm.Cond.instanceMethod y_X_init) ∈ TG := tg_t (List.mem_of_getElem? (i := 7) (by decide +kernel)) (by decide +kernel)
theorem k_code_X_init : (Jvm.Cond.code y_X_init prog_1_method_1_code (2 : Nat) (Option.none : Option Jvm.ClassFile.FieldType)) ∈ TG := tg_t (List.mem_of_getElem? (i := 8) (by decide +kernel)) (by decide +kernel)
theorem k_ml_X_1 : (Jvm.Cond.methodLink "CapabilityCore" (1 : Nat) ({ cls := "java/lang/Object", name := "<init>", desc := "()V" } : Jvm.MethodName)) ∈ TG := tg_t (List.mem_of_getElem? (i := 9) (by decide +kernel)) (by decide +kernel)
theorem k_im_O_init : (Jvm.Cond.instanceMethod ({ cls := "java/lang/Object", name := "<init>", desc := "()V" } : Jvm.MethodName)) ∈ TG := tg_t (List.mem_of_getElem? (i := 10) (by decide +kernel)) (by decide +kernel)
theorem k_code_O_init : (Jvm.Cond.code ({ cls := "java/lang/Object", name := "<init>", desc := "()V" } : Jvm.MethodName) object_method_1_code (1 : Nat) (Option.none : Option Jvm.ClassFile.FieldType)) ∈ TG := tg_t (List.mem_of_getElem? (i := 11) (by decide +kernel)) (by decide +kernel)
theorem k_cl_X_17 : (Jvm.Cond.classLink "CapabilityCore" (17 : Nat) "CapabilityCore$Capability") ∈ TG := tg_t (List.mem_of_getElem? (i := 12) (by decide +kernel)) (by decide +kernel)
theorem q_ao_K : (Jvm.Cond.arrayOver (Jvm.ClassFile.FieldType.object "CapabilityCore$Capability")) ∈ lw_tbl := List.mem_append_right _ (List.mem_of_getElem? (i := 13) (by decide +kernel))
theorem k_inst_K : (Jvm.Cond.instantiable "CapabilityCore$Capability" (3 : Nat)) ∈ TG := tg_t (List.mem_of_getElem? (i := 14) (by decide +kernel)) (by decide +kernel)
theorem q_ml_X_23 : (Jvm.Cond.methodLinkNest "CapabilityCore" (23 : Nat) y_K_init "CapabilityCore") ∈ lw_tbl := List.mem_append_right _ (List.mem_of_getElem? (i := 15) (by decide +kernel))
theorem k_im_K_init : (Jvm.Cond.instanceMethod y_K_init) ∈ TG := tg_t (List.mem_of_getElem? (i := 16) (by decide +kernel)) (by decide +kernel)
theorem k_code_K_init : (Jvm.Cond.code y_K_init prog_2_method_1_code (1 : Nat) (Option.none : Option Jvm.ClassFile.FieldType)) ∈ TG := tg_t (List.mem_of_getElem? (i := 17) (by decide +kernel)) (by decide +kernel)
theorem k_ml_K_5 : (Jvm.Cond.methodLink "CapabilityCore$Capability" (5 : Nat) ({ cls := "java/lang/Object", name := "<init>", desc := "()V" } : Jvm.MethodName)) ∈ TG := tg_t (List.mem_of_getElem? (i := 18) (by decide +kernel)) (by decide +kernel)
theorem k_fl_K_11 : (Jvm.Cond.fieldLink "CapabilityCore$Capability" (11 : Nat) "CapabilityCore$Capability" "tag" "Z") ∈ TG := tg_t (List.mem_of_getElem? (i := 19) (by decide +kernel)) (by decide +kernel)
theorem q_fl_X_68 : (Jvm.Cond.fieldLinkNest "CapabilityCore" (68 : Nat) "CapabilityCore$Capability" "tag" "Z" "CapabilityCore") ∈ lw_tbl := List.mem_append_right _ (List.mem_of_getElem? (i := 20) (by decide +kernel))
theorem k_fl_K_15 : (Jvm.Cond.fieldLink "CapabilityCore$Capability" (15 : Nat) "CapabilityCore$Capability" "meta" "I") ∈ TG := tg_t (List.mem_of_getElem? (i := 21) (by decide +kernel)) (by decide +kernel)
theorem q_fl_X_65 : (Jvm.Cond.fieldLinkNest "CapabilityCore" (65 : Nat) "CapabilityCore$Capability" "meta" "I" "CapabilityCore") ∈ lw_tbl := List.mem_append_right _ (List.mem_of_getElem? (i := 22) (by decide +kernel))
theorem k_fl_K_19 : (Jvm.Cond.fieldLink "CapabilityCore$Capability" (19 : Nat) "CapabilityCore$Capability" "address" "I") ∈ TG := tg_t (List.mem_of_getElem? (i := 23) (by decide +kernel)) (by decide +kernel)
theorem q_fl_X_62 : (Jvm.Cond.fieldLinkNest "CapabilityCore" (62 : Nat) "CapabilityCore$Capability" "address" "I" "CapabilityCore") ∈ lw_tbl := List.mem_append_right _ (List.mem_of_getElem? (i := 24) (by decide +kernel))
theorem k_ac_int : (Jvm.Cond.arrayClass Jvm.ClassFile.FieldType.int) ∈ TG := tg_t (List.mem_of_getElem? (i := 32) (by decide +kernel)) (by decide +kernel)
theorem k_ac_boolean : (Jvm.Cond.arrayClass Jvm.ClassFile.FieldType.boolean) ∈ TG := tg_t (List.mem_of_getElem? (i := 33) (by decide +kernel)) (by decide +kernel)
theorem k_ml_X_44 : (Jvm.Cond.methodLink "CapabilityCore" (44 : Nat) y_K_becomeRoot) ∈ TG := tg_t (List.mem_of_getElem? (i := 34) (by decide +kernel)) (by decide +kernel)
theorem k_im_K_becomeRoot : (Jvm.Cond.instanceMethod y_K_becomeRoot) ∈ TG := tg_t (List.mem_of_getElem? (i := 35) (by decide +kernel)) (by decide +kernel)
theorem k_sel_K_becomeRoot : (Jvm.Cond.selects "CapabilityCore$Capability" y_K_becomeRoot y_K_becomeRoot) ∈ TG := tg_t (List.mem_of_getElem? (i := 36) (by decide +kernel)) (by decide +kernel)
theorem k_code_K_becomeRoot : (Jvm.Cond.code y_K_becomeRoot prog_2_method_4_code (2 : Nat) (Option.none : Option Jvm.ClassFile.FieldType)) ∈ TG := tg_t (List.mem_of_getElem? (i := 37) (by decide +kernel)) (by decide +kernel)
theorem k_cL_K_22 : (Jvm.Cond.constantLong "CapabilityCore$Capability" (22 : Nat) (1024 : Int64)) ∈ TG := tg_t (List.mem_of_getElem? (i := 38) (by decide +kernel)) (by decide +kernel)
theorem k_ml_K_24 : (Jvm.Cond.methodLink "CapabilityCore$Capability" (24 : Nat) y_K_bound) ∈ TG := tg_t (List.mem_of_getElem? (i := 39) (by decide +kernel)) (by decide +kernel)
theorem k_im_K_bound : (Jvm.Cond.instanceMethod y_K_bound) ∈ TG := tg_t (List.mem_of_getElem? (i := 40) (by decide +kernel)) (by decide +kernel)
theorem k_sel_K_bound : (Jvm.Cond.selects "CapabilityCore$Capability" y_K_bound y_K_bound) ∈ TG := tg_t (List.mem_of_getElem? (i := 41) (by decide +kernel)) (by decide +kernel)
theorem k_code_K_bound : (Jvm.Cond.code y_K_bound prog_2_method_12_code (8 : Nat) (Option.none : Option Jvm.ClassFile.FieldType)) ∈ TG := tg_t (List.mem_of_getElem? (i := 42) (by decide +kernel)) (by decide +kernel)
theorem k_ml_K_46 : (Jvm.Cond.methodLink "CapabilityCore$Capability" (46 : Nat) y_K_unitsUp) ∈ TG := tg_t (List.mem_of_getElem? (i := 43) (by decide +kernel)) (by decide +kernel)
theorem k_st_K_unitsUp : (Jvm.Cond.static y_K_unitsUp) ∈ TG := tg_t (List.mem_of_getElem? (i := 44) (by decide +kernel)) (by decide +kernel)
theorem k_code_K_unitsUp : (Jvm.Cond.code y_K_unitsUp prog_2_method_13_code (3 : Nat) (Option.some Jvm.ClassFile.FieldType.long)) ∈ TG := tg_t (List.mem_of_getElem? (i := 45) (by decide +kernel)) (by decide +kernel)
theorem k_cL_K_50 : (Jvm.Cond.constantLong "CapabilityCore$Capability" (50 : Nat) (96 : Int64)) ∈ TG := tg_t (List.mem_of_getElem? (i := 46) (by decide +kernel)) (by decide +kernel)
theorem k_fl_X_9 : (Jvm.Cond.fieldLink "CapabilityCore" (9 : Nat) "CapabilityCore" "words" "[I") ∈ TG := tg_t (List.mem_of_getElem? (i := 47) (by decide +kernel)) (by decide +kernel)
theorem k_fl_X_13 : (Jvm.Cond.fieldLink "CapabilityCore" (13 : Nat) "CapabilityCore" "granuleTags" "[Z") ∈ TG := tg_t (List.mem_of_getElem? (i := 48) (by decide +kernel)) (by decide +kernel)
theorem k_fl_X_19 : (Jvm.Cond.fieldLink "CapabilityCore" (19 : Nat) "CapabilityCore" "registers" "[LCapabilityCore$Capability;") ∈ TG := tg_t (List.mem_of_getElem? (i := 49) (by decide +kernel)) (by decide +kernel)
theorem k_fl_X_41 : (Jvm.Cond.fieldLink "CapabilityCore" (41 : Nat) "CapabilityCore" "pcc" "LCapabilityCore$Capability;") ∈ TG := tg_t (List.mem_of_getElem? (i := 50) (by decide +kernel)) (by decide +kernel)
theorem k_fl_X_24 : (Jvm.Cond.fieldLink "CapabilityCore" (24 : Nat) "CapabilityCore" "made" "LCapabilityCore$Capability;") ∈ TG := tg_t (List.mem_of_getElem? (i := 51) (by decide +kernel)) (by decide +kernel)
theorem k_fl_X_28 : (Jvm.Cond.fieldLink "CapabilityCore" (28 : Nat) "CapabilityCore" "mode" "I") ∈ TG := tg_t (List.mem_of_getElem? (i := 52) (by decide +kernel)) (by decide +kernel)
theorem k_fl_X_32 : (Jvm.Cond.fieldLink "CapabilityCore" (32 : Nat) "CapabilityCore" "lastCause" "I") ∈ TG := tg_t (List.mem_of_getElem? (i := 53) (by decide +kernel)) (by decide +kernel)
theorem k_fl_X_35 : (Jvm.Cond.fieldLink "CapabilityCore" (35 : Nat) "CapabilityCore" "stepCount" "I") ∈ TG := tg_t (List.mem_of_getElem? (i := 54) (by decide +kernel)) (by decide +kernel)
theorem k_fl_X_38 : (Jvm.Cond.fieldLink "CapabilityCore" (38 : Nat) "CapabilityCore" "trapCount" "I") ∈ TG := tg_t (List.mem_of_getElem? (i := 55) (by decide +kernel)) (by decide +kernel)
theorem k_ml_L_13 : (Jvm.Cond.methodLink "CapabilityCoreLaw" (13 : Nat) y_X_poke) ∈ TG := tg_t (List.mem_of_getElem? (i := 75) (by decide +kernel)) (by decide +kernel)
theorem k_im_X_poke : (Jvm.Cond.instanceMethod y_X_poke) ∈ TG := tg_t (List.mem_of_getElem? (i := 76) (by decide +kernel)) (by decide +kernel)
theorem k_sel_X_poke : (Jvm.Cond.selects "CapabilityCore" y_X_poke y_X_poke) ∈ TG := tg_t (List.mem_of_getElem? (i := 77) (by decide +kernel)) (by decide +kernel)
theorem k_code_X_poke : (Jvm.Cond.code y_X_poke prog_1_method_2_code (3 : Nat) (Option.some Jvm.ClassFile.FieldType.boolean)) ∈ TG := tg_t (List.mem_of_getElem? (i := 78) (by decide +kernel)) (by decide +kernel)
theorem k_ml_X_48 : (Jvm.Cond.methodLink "CapabilityCore" (48 : Nat) y_X_isWord) ∈ TG := tg_t (List.mem_of_getElem? (i := 79) (by decide +kernel)) (by decide +kernel)
theorem k_st_X_isWord : (Jvm.Cond.static y_X_isWord) ∈ TG := tg_t (List.mem_of_getElem? (i := 80) (by decide +kernel)) (by decide +kernel)
theorem k_code_X_isWord : (Jvm.Cond.code y_X_isWord prog_1_method_15_code (1 : Nat) (Option.some Jvm.ClassFile.FieldType.boolean)) ∈ TG := tg_t (List.mem_of_getElem? (i := 81) (by decide +kernel)) (by decide +kernel)
theorem k_ml_X_52 : (Jvm.Cond.methodLink "CapabilityCore" (52 : Nat) y_X_writeWord) ∈ TG := tg_t (List.mem_of_getElem? (i := 82) (by decide +kernel)) (by decide +kernel)
theorem k_im_X_writeWord : (Jvm.Cond.instanceMethod y_X_writeWord) ∈ TG := tg_t (List.mem_of_getElem? (i := 84) (by decide +kernel)) (by decide +kernel)
theorem k_code_X_writeWord : (Jvm.Cond.code y_X_writeWord prog_1_method_41_code (3 : Nat) (Option.none : Option Jvm.ClassFile.FieldType)) ∈ TG := tg_t (List.mem_of_getElem? (i := 85) (by decide +kernel)) (by decide +kernel)
theorem k_ml_L_18 : (Jvm.Cond.methodLink "CapabilityCoreLaw" (18 : Nat) y_X_peek) ∈ TG := tg_t (List.mem_of_getElem? (i := 86) (by decide +kernel)) (by decide +kernel)
theorem k_im_X_peek : (Jvm.Cond.instanceMethod y_X_peek) ∈ TG := tg_t (List.mem_of_getElem? (i := 87) (by decide +kernel)) (by decide +kernel)
theorem k_sel_X_peek : (Jvm.Cond.selects "CapabilityCore" y_X_peek y_X_peek) ∈ TG := tg_t (List.mem_of_getElem? (i := 88) (by decide +kernel)) (by decide +kernel)
theorem k_code_X_peek : (Jvm.Cond.code y_X_peek prog_1_method_3_code (2 : Nat) (Option.some Jvm.ClassFile.FieldType.int)) ∈ TG := tg_t (List.mem_of_getElem? (i := 89) (by decide +kernel)) (by decide +kernel)
theorem k_ml_L_23 : (Jvm.Cond.methodLink "CapabilityCoreLaw" (23 : Nat) y_X_tagged) ∈ TG := tg_t (List.mem_of_getElem? (i := 90) (by decide +kernel)) (by decide +kernel)
theorem k_im_X_tagged : (Jvm.Cond.instanceMethod y_X_tagged) ∈ TG := tg_t (List.mem_of_getElem? (i := 91) (by decide +kernel)) (by decide +kernel)
theorem k_sel_X_tagged : (Jvm.Cond.selects "CapabilityCore" y_X_tagged y_X_tagged) ∈ TG := tg_t (List.mem_of_getElem? (i := 92) (by decide +kernel)) (by decide +kernel)
theorem k_code_X_tagged : (Jvm.Cond.code y_X_tagged prog_1_method_4_code (2 : Nat) (Option.some Jvm.ClassFile.FieldType.boolean)) ∈ TG := tg_t (List.mem_of_getElem? (i := 93) (by decide +kernel)) (by decide +kernel)
theorem k_ml_L_28 : (Jvm.Cond.methodLink "CapabilityCoreLaw" (28 : Nat) y_X_run) ∈ TG := tg_t (List.mem_of_getElem? (i := 94) (by decide +kernel)) (by decide +kernel)
theorem k_im_X_run : (Jvm.Cond.instanceMethod y_X_run) ∈ TG := tg_t (List.mem_of_getElem? (i := 95) (by decide +kernel)) (by decide +kernel)
theorem k_sel_X_run : (Jvm.Cond.selects "CapabilityCore" y_X_run y_X_run) ∈ TG := tg_t (List.mem_of_getElem? (i := 96) (by decide +kernel)) (by decide +kernel)
theorem k_code_X_run : (Jvm.Cond.code y_X_run prog_1_method_5_code (3 : Nat) (Option.some Jvm.ClassFile.FieldType.int)) ∈ TG := tg_t (List.mem_of_getElem? (i := 97) (by decide +kernel)) (by decide +kernel)
theorem k_ml_X_56 : (Jvm.Cond.methodLink "CapabilityCore" (56 : Nat) y_X_makeStep) ∈ TG := tg_t (List.mem_of_getElem? (i := 98) (by decide +kernel)) (by decide +kernel)
theorem k_im_X_makeStep : (Jvm.Cond.instanceMethod y_X_makeStep) ∈ TG := tg_t (List.mem_of_getElem? (i := 100) (by decide +kernel)) (by decide +kernel)
theorem k_code_X_makeStep : (Jvm.Cond.code y_X_makeStep prog_1_method_17_code (2 : Nat) (Option.none : Option Jvm.ClassFile.FieldType)) ∈ TG := tg_t (List.mem_of_getElem? (i := 101) (by decide +kernel)) (by decide +kernel)
theorem k_ml_X_82 : (Jvm.Cond.methodLink "CapabilityCore" (82 : Nat) y_X_check) ∈ TG := tg_t (List.mem_of_getElem? (i := 102) (by decide +kernel)) (by decide +kernel)
theorem k_im_X_check : (Jvm.Cond.instanceMethod y_X_check) ∈ TG := tg_t (List.mem_of_getElem? (i := 104) (by decide +kernel)) (by decide +kernel)
theorem k_code_X_check : (Jvm.Cond.code y_X_check prog_1_method_20_code (8 : Nat) (Option.some Jvm.ClassFile.FieldType.int)) ∈ TG := tg_t (List.mem_of_getElem? (i := 105) (by decide +kernel)) (by decide +kernel)
theorem k_cL_X_104 : (Jvm.Cond.constantLong "CapabilityCore" (104 : Nat) (4294967295 : Int64)) ∈ TG := tg_t (List.mem_of_getElem? (i := 106) (by decide +kernel)) (by decide +kernel)
theorem k_ml_X_106 : (Jvm.Cond.methodLink "CapabilityCore" (106 : Nat) y_X_trapOf) ∈ TG := tg_t (List.mem_of_getElem? (i := 107) (by decide +kernel)) (by decide +kernel)
theorem k_st_X_trapOf : (Jvm.Cond.static y_X_trapOf) ∈ TG := tg_t (List.mem_of_getElem? (i := 108) (by decide +kernel)) (by decide +kernel)
theorem k_code_X_trapOf : (Jvm.Cond.code y_X_trapOf prog_1_method_19_code (2 : Nat) (Option.some Jvm.ClassFile.FieldType.int)) ∈ TG := tg_t (List.mem_of_getElem? (i := 109) (by decide +kernel)) (by decide +kernel)
theorem k_ml_X_97 : (Jvm.Cond.methodLink "CapabilityCore" (97 : Nat) y_K_isSealed) ∈ TG := tg_t (List.mem_of_getElem? (i := 110) (by decide +kernel)) (by decide +kernel)
theorem k_im_K_isSealed : (Jvm.Cond.instanceMethod y_K_isSealed) ∈ TG := tg_t (List.mem_of_getElem? (i := 111) (by decide +kernel)) (by decide +kernel)
theorem k_sel_K_isSealed : (Jvm.Cond.selects "CapabilityCore$Capability" y_K_isSealed y_K_isSealed) ∈ TG := tg_t (List.mem_of_getElem? (i := 112) (by decide +kernel)) (by decide +kernel)
theorem k_code_K_isSealed : (Jvm.Cond.code y_K_isSealed prog_2_method_9_code (1 : Nat) (Option.some Jvm.ClassFile.FieldType.boolean)) ∈ TG := tg_t (List.mem_of_getElem? (i := 113) (by decide +kernel)) (by decide +kernel)
theorem k_ml_K_32 : (Jvm.Cond.methodLink "CapabilityCore$Capability" (32 : Nat) y_K_type) ∈ TG := tg_t (List.mem_of_getElem? (i := 114) (by decide +kernel)) (by decide +kernel)
theorem k_im_K_type : (Jvm.Cond.instanceMethod y_K_type) ∈ TG := tg_t (List.mem_of_getElem? (i := 115) (by decide +kernel)) (by decide +kernel)
theorem k_sel_K_type : (Jvm.Cond.selects "CapabilityCore$Capability" y_K_type y_K_type) ∈ TG := tg_t (List.mem_of_getElem? (i := 116) (by decide +kernel)) (by decide +kernel)
theorem k_code_K_type : (Jvm.Cond.code y_K_type prog_2_method_8_code (1 : Nat) (Option.some Jvm.ClassFile.FieldType.int)) ∈ TG := tg_t (List.mem_of_getElem? (i := 117) (by decide +kernel)) (by decide +kernel)
theorem k_ml_X_101 : (Jvm.Cond.methodLink "CapabilityCore" (101 : Nat) y_K_permits) ∈ TG := tg_t (List.mem_of_getElem? (i := 118) (by decide +kernel)) (by decide +kernel)
theorem k_im_K_permits : (Jvm.Cond.instanceMethod y_K_permits) ∈ TG := tg_t (List.mem_of_getElem? (i := 119) (by decide +kernel)) (by decide +kernel)
theorem k_sel_K_permits : (Jvm.Cond.selects "CapabilityCore$Capability" y_K_permits y_K_permits) ∈ TG := tg_t (List.mem_of_getElem? (i := 120) (by decide +kernel)) (by decide +kernel)
theorem k_code_K_permits : (Jvm.Cond.code y_K_permits prog_2_method_6_code (2 : Nat) (Option.some Jvm.ClassFile.FieldType.boolean)) ∈ TG := tg_t (List.mem_of_getElem? (i := 121) (by decide +kernel)) (by decide +kernel)
theorem k_ml_K_28 : (Jvm.Cond.methodLink "CapabilityCore$Capability" (28 : Nat) y_K_permissions) ∈ TG := tg_t (List.mem_of_getElem? (i := 122) (by decide +kernel)) (by decide +kernel)
theorem k_im_K_permissions : (Jvm.Cond.instanceMethod y_K_permissions) ∈ TG := tg_t (List.mem_of_getElem? (i := 123) (by decide +kernel)) (by decide +kernel)
theorem k_sel_K_permissions : (Jvm.Cond.selects "CapabilityCore$Capability" y_K_permissions y_K_permissions) ∈ TG := tg_t (List.mem_of_getElem? (i := 124) (by decide +kernel)) (by decide +kernel)
theorem k_code_K_permissions : (Jvm.Cond.code y_K_permissions prog_2_method_5_code (1 : Nat) (Option.some Jvm.ClassFile.FieldType.int)) ∈ TG := tg_t (List.mem_of_getElem? (i := 125) (by decide +kernel)) (by decide +kernel)
theorem k_ml_X_72 : (Jvm.Cond.methodLink "CapabilityCore" (72 : Nat) y_K_lowerBound) ∈ TG := tg_t (List.mem_of_getElem? (i := 126) (by decide +kernel)) (by decide +kernel)
theorem k_im_K_lowerBound : (Jvm.Cond.instanceMethod y_K_lowerBound) ∈ TG := tg_t (List.mem_of_getElem? (i := 127) (by decide +kernel)) (by decide +kernel)
theorem k_sel_K_lowerBound : (Jvm.Cond.selects "CapabilityCore$Capability" y_K_lowerBound y_K_lowerBound) ∈ TG := tg_t (List.mem_of_getElem? (i := 128) (by decide +kernel)) (by decide +kernel)
theorem k_code_K_lowerBound : (Jvm.Cond.code y_K_lowerBound prog_2_method_14_code (7 : Nat) (Option.some Jvm.ClassFile.FieldType.long)) ∈ TG := tg_t (List.mem_of_getElem? (i := 129) (by decide +kernel)) (by decide +kernel)
theorem k_cL_K_52 : (Jvm.Cond.constantLong "CapabilityCore$Capability" (52 : Nat) (4294967295 : Int64)) ∈ TG := tg_t (List.mem_of_getElem? (i := 130) (by decide +kernel)) (by decide +kernel)
theorem k_cL_K_54 : (Jvm.Cond.constantLong "CapabilityCore$Capability" (54 : Nat) (16 : Int64)) ∈ TG := tg_t (List.mem_of_getElem? (i := 131) (by decide +kernel)) (by decide +kernel)
theorem k_cL_K_56 : (Jvm.Cond.constantLong "CapabilityCore$Capability" (56 : Nat) (127 : Int64)) ∈ TG := tg_t (List.mem_of_getElem? (i := 132) (by decide +kernel)) (by decide +kernel)
theorem k_ml_X_76 : (Jvm.Cond.methodLink "CapabilityCore" (76 : Nat) y_K_upperBound) ∈ TG := tg_t (List.mem_of_getElem? (i := 133) (by decide +kernel)) (by decide +kernel)
theorem k_im_K_upperBound : (Jvm.Cond.instanceMethod y_K_upperBound) ∈ TG := tg_t (List.mem_of_getElem? (i := 134) (by decide +kernel)) (by decide +kernel)
theorem k_sel_K_upperBound : (Jvm.Cond.selects "CapabilityCore$Capability" y_K_upperBound y_K_upperBound) ∈ TG := tg_t (List.mem_of_getElem? (i := 135) (by decide +kernel)) (by decide +kernel)
theorem k_code_K_upperBound : (Jvm.Cond.code y_K_upperBound prog_2_method_15_code (6 : Nat) (Option.some Jvm.ClassFile.FieldType.long)) ∈ TG := tg_t (List.mem_of_getElem? (i := 136) (by decide +kernel)) (by decide +kernel)
theorem k_ml_K_35 : (Jvm.Cond.methodLink "CapabilityCore$Capability" (35 : Nat) y_K_lowerBound) ∈ TG := tg_t (List.mem_of_getElem? (i := 137) (by decide +kernel)) (by decide +kernel)
theorem k_cL_X_110 : (Jvm.Cond.constantLong "CapabilityCore" (110 : Nat) (1024 : Int64)) ∈ TG := tg_t (List.mem_of_getElem? (i := 138) (by decide +kernel)) (by decide +kernel)
theorem k_ml_X_86 : (Jvm.Cond.methodLink "CapabilityCore" (86 : Nat) y_X_execute) ∈ TG := tg_t (List.mem_of_getElem? (i := 139) (by decide +kernel)) (by decide +kernel)
theorem k_im_X_execute : (Jvm.Cond.instanceMethod y_X_execute) ∈ TG := tg_t (List.mem_of_getElem? (i := 141) (by decide +kernel)) (by decide +kernel)
theorem k_code_X_execute : (Jvm.Cond.code y_X_execute prog_1_method_21_code (8 : Nat) (Option.some Jvm.ClassFile.FieldType.int)) ∈ TG := tg_t (List.mem_of_getElem? (i := 142) (by decide +kernel)) (by decide +kernel)
theorem k_ml_X_112 : (Jvm.Cond.methodLink "CapabilityCore" (112 : Nat) y_X_load) ∈ TG := tg_t (List.mem_of_getElem? (i := 143) (by decide +kernel)) (by decide +kernel)
theorem k_im_X_load : (Jvm.Cond.instanceMethod y_X_load) ∈ TG := tg_t (List.mem_of_getElem? (i := 145) (by decide +kernel)) (by decide +kernel)
theorem k_code_X_load : (Jvm.Cond.code y_X_load prog_1_method_27_code (6 : Nat) (Option.some Jvm.ClassFile.FieldType.int)) ∈ TG := tg_t (List.mem_of_getElem? (i := 146) (by decide +kernel)) (by decide +kernel)
theorem k_ml_X_79 : (Jvm.Cond.methodLink "CapabilityCore" (79 : Nat) y_X_writeNumber) ∈ TG := tg_t (List.mem_of_getElem? (i := 147) (by decide +kernel)) (by decide +kernel)
theorem k_im_X_writeNumber : (Jvm.Cond.instanceMethod y_X_writeNumber) ∈ TG := tg_t (List.mem_of_getElem? (i := 149) (by decide +kernel)) (by decide +kernel)
theorem k_code_X_writeNumber : (Jvm.Cond.code y_X_writeNumber prog_1_method_40_code (3 : Nat) (Option.none : Option Jvm.ClassFile.FieldType)) ∈ TG := tg_t (List.mem_of_getElem? (i := 150) (by decide +kernel)) (by decide +kernel)
theorem k_ml_X_192 : (Jvm.Cond.methodLink "CapabilityCore" (192 : Nat) y_K_becomeNumber) ∈ TG := tg_t (List.mem_of_getElem? (i := 151) (by decide +kernel)) (by decide +kernel)
theorem k_im_K_becomeNumber : (Jvm.Cond.instanceMethod y_K_becomeNumber) ∈ TG := tg_t (List.mem_of_getElem? (i := 152) (by decide +kernel)) (by decide +kernel)
theorem k_sel_K_becomeNumber : (Jvm.Cond.selects "CapabilityCore$Capability" y_K_becomeNumber y_K_becomeNumber) ∈ TG := tg_t (List.mem_of_getElem? (i := 153) (by decide +kernel)) (by decide +kernel)
theorem k_code_K_becomeNumber : (Jvm.Cond.code y_K_becomeNumber prog_2_method_3_code (2 : Nat) (Option.none : Option Jvm.ClassFile.FieldType)) ∈ TG := tg_t (List.mem_of_getElem? (i := 154) (by decide +kernel)) (by decide +kernel)
theorem k_ml_X_116 : (Jvm.Cond.methodLink "CapabilityCore" (116 : Nat) y_X_store) ∈ TG := tg_t (List.mem_of_getElem? (i := 155) (by decide +kernel)) (by decide +kernel)
theorem k_im_X_store : (Jvm.Cond.instanceMethod y_X_store) ∈ TG := tg_t (List.mem_of_getElem? (i := 157) (by decide +kernel)) (by decide +kernel)
theorem k_code_X_store : (Jvm.Cond.code y_X_store prog_1_method_28_code (6 : Nat) (Option.some Jvm.ClassFile.FieldType.int)) ∈ TG := tg_t (List.mem_of_getElem? (i := 158) (by decide +kernel)) (by decide +kernel)
theorem k_ml_X_119 : (Jvm.Cond.methodLink "CapabilityCore" (119 : Nat) y_X_loadCapability) ∈ TG := tg_t (List.mem_of_getElem? (i := 159) (by decide +kernel)) (by decide +kernel)
theorem k_im_X_loadCapability : (Jvm.Cond.instanceMethod y_X_loadCapability) ∈ TG := tg_t (List.mem_of_getElem? (i := 161) (by decide +kernel)) (by decide +kernel)
theorem k_code_X_loadCapability : (Jvm.Cond.code y_X_loadCapability prog_1_method_29_code (7 : Nat) (Option.some Jvm.ClassFile.FieldType.int)) ∈ TG := tg_t (List.mem_of_getElem? (i := 162) (by decide +kernel)) (by decide +kernel)
theorem k_ml_X_172 : (Jvm.Cond.methodLink "CapabilityCore" (172 : Nat) y_X_writeMade) ∈ TG := tg_t (List.mem_of_getElem? (i := 163) (by decide +kernel)) (by decide +kernel)
end
section
theorem k_im_X_writeMade : (Jvm.Cond.instanceMethod y_X_writeMade) ∈ TG := tg_t (List.mem_of_getElem? (i := 165) (by decide +kernel)) (by decide +kernel)
theorem k_code_X_writeMade : (Jvm.Cond.code y_X_writeMade prog_1_method_39_code (2 : Nat) (Option.none : Option Jvm.ClassFile.FieldType)) ∈ TG := tg_t (List.mem_of_getElem? (i := 166) (by decide +kernel)) (by decide +kernel)
theorem k_ml_X_93 : (Jvm.Cond.methodLink "CapabilityCore" (93 : Nat) y_K_copy) ∈ TG := tg_t (List.mem_of_getElem? (i := 167) (by decide +kernel)) (by decide +kernel)
theorem k_im_K_copy : (Jvm.Cond.instanceMethod y_K_copy) ∈ TG := tg_t (List.mem_of_getElem? (i := 168) (by decide +kernel)) (by decide +kernel)
theorem k_sel_K_copy : (Jvm.Cond.selects "CapabilityCore$Capability" y_K_copy y_K_copy) ∈ TG := tg_t (List.mem_of_getElem? (i := 169) (by decide +kernel)) (by decide +kernel)
theorem k_code_K_copy : (Jvm.Cond.code y_K_copy prog_2_method_2_code (2 : Nat) (Option.none : Option Jvm.ClassFile.FieldType)) ∈ TG := tg_t (List.mem_of_getElem? (i := 170) (by decide +kernel)) (by decide +kernel)
theorem k_ml_X_122 : (Jvm.Cond.methodLink "CapabilityCore" (122 : Nat) y_X_storeCapability) ∈ TG := tg_t (List.mem_of_getElem? (i := 171) (by decide +kernel)) (by decide +kernel)
theorem k_im_X_storeCapability : (Jvm.Cond.instanceMethod y_X_storeCapability) ∈ TG := tg_t (List.mem_of_getElem? (i := 173) (by decide +kernel)) (by decide +kernel)
theorem k_code_X_storeCapability : (Jvm.Cond.code y_X_storeCapability prog_1_method_30_code (8 : Nat) (Option.some Jvm.ClassFile.FieldType.int)) ∈ TG := tg_t (List.mem_of_getElem? (i := 174) (by decide +kernel)) (by decide +kernel)
theorem k_ml_X_125 : (Jvm.Cond.methodLink "CapabilityCore" (125 : Nat) y_X_branch) ∈ TG := tg_t (List.mem_of_getElem? (i := 175) (by decide +kernel)) (by decide +kernel)
theorem k_im_X_branch : (Jvm.Cond.instanceMethod y_X_branch) ∈ TG := tg_t (List.mem_of_getElem? (i := 177) (by decide +kernel)) (by decide +kernel)
theorem k_code_X_branch : (Jvm.Cond.code y_X_branch prog_1_method_36_code (2 : Nat) (Option.some Jvm.ClassFile.FieldType.int)) ∈ TG := tg_t (List.mem_of_getElem? (i := 178) (by decide +kernel)) (by decide +kernel)
theorem k_ml_X_165 : (Jvm.Cond.methodLink "CapabilityCore" (165 : Nat) y_K_move) ∈ TG := tg_t (List.mem_of_getElem? (i := 179) (by decide +kernel)) (by decide +kernel)
theorem k_im_K_move : (Jvm.Cond.instanceMethod y_K_move) ∈ TG := tg_t (List.mem_of_getElem? (i := 180) (by decide +kernel)) (by decide +kernel)
theorem k_sel_K_move : (Jvm.Cond.selects "CapabilityCore$Capability" y_K_move y_K_move) ∈ TG := tg_t (List.mem_of_getElem? (i := 181) (by decide +kernel)) (by decide +kernel)
theorem k_code_K_move : (Jvm.Cond.code y_K_move prog_2_method_11_code (6 : Nat) (Option.none : Option Jvm.ClassFile.FieldType)) ∈ TG := tg_t (List.mem_of_getElem? (i := 182) (by decide +kernel)) (by decide +kernel)
theorem k_ml_K_39 : (Jvm.Cond.methodLink "CapabilityCore$Capability" (39 : Nat) y_K_upperBound) ∈ TG := tg_t (List.mem_of_getElem? (i := 183) (by decide +kernel)) (by decide +kernel)
theorem k_ml_K_42 : (Jvm.Cond.methodLink "CapabilityCore$Capability" (42 : Nat) y_K_isSealed) ∈ TG := tg_t (List.mem_of_getElem? (i := 184) (by decide +kernel)) (by decide +kernel)
theorem k_ml_X_128 : (Jvm.Cond.methodLink "CapabilityCore" (128 : Nat) y_X_writeLink) ∈ TG := tg_t (List.mem_of_getElem? (i := 185) (by decide +kernel)) (by decide +kernel)
theorem k_im_X_writeLink : (Jvm.Cond.instanceMethod y_X_writeLink) ∈ TG := tg_t (List.mem_of_getElem? (i := 187) (by decide +kernel)) (by decide +kernel)
theorem k_code_X_writeLink : (Jvm.Cond.code y_X_writeLink prog_1_method_37_code (2 : Nat) (Option.none : Option Jvm.ClassFile.FieldType)) ∈ TG := tg_t (List.mem_of_getElem? (i := 188) (by decide +kernel)) (by decide +kernel)
theorem k_ml_X_185 : (Jvm.Cond.methodLink "CapabilityCore" (185 : Nat) y_K_setType) ∈ TG := tg_t (List.mem_of_getElem? (i := 189) (by decide +kernel)) (by decide +kernel)
theorem k_im_K_setType : (Jvm.Cond.instanceMethod y_K_setType) ∈ TG := tg_t (List.mem_of_getElem? (i := 190) (by decide +kernel)) (by decide +kernel)
theorem k_sel_K_setType : (Jvm.Cond.selects "CapabilityCore$Capability" y_K_setType y_K_setType) ∈ TG := tg_t (List.mem_of_getElem? (i := 191) (by decide +kernel)) (by decide +kernel)
theorem k_code_K_setType : (Jvm.Cond.code y_K_setType prog_2_method_10_code (2 : Nat) (Option.none : Option Jvm.ClassFile.FieldType)) ∈ TG := tg_t (List.mem_of_getElem? (i := 192) (by decide +kernel)) (by decide +kernel)
theorem k_ml_X_131 : (Jvm.Cond.methodLink "CapabilityCore" (131 : Nat) y_X_jump) ∈ TG := tg_t (List.mem_of_getElem? (i := 193) (by decide +kernel)) (by decide +kernel)
theorem k_im_X_jump : (Jvm.Cond.instanceMethod y_X_jump) ∈ TG := tg_t (List.mem_of_getElem? (i := 195) (by decide +kernel)) (by decide +kernel)
theorem k_code_X_jump : (Jvm.Cond.code y_X_jump prog_1_method_31_code (4 : Nat) (Option.some Jvm.ClassFile.FieldType.int)) ∈ TG := tg_t (List.mem_of_getElem? (i := 196) (by decide +kernel)) (by decide +kernel)
theorem k_ml_X_182 : (Jvm.Cond.methodLink "CapabilityCore" (182 : Nat) y_K_type) ∈ TG := tg_t (List.mem_of_getElem? (i := 197) (by decide +kernel)) (by decide +kernel)
theorem k_ml_X_134 : (Jvm.Cond.methodLink "CapabilityCore" (134 : Nat) y_X_seal) ∈ TG := tg_t (List.mem_of_getElem? (i := 198) (by decide +kernel)) (by decide +kernel)
theorem k_im_X_seal : (Jvm.Cond.instanceMethod y_X_seal) ∈ TG := tg_t (List.mem_of_getElem? (i := 200) (by decide +kernel)) (by decide +kernel)
theorem k_code_X_seal : (Jvm.Cond.code y_X_seal prog_1_method_32_code (7 : Nat) (Option.some Jvm.ClassFile.FieldType.int)) ∈ TG := tg_t (List.mem_of_getElem? (i := 201) (by decide +kernel)) (by decide +kernel)
theorem k_ml_X_188 : (Jvm.Cond.methodLink "CapabilityCore" (188 : Nat) y_X_writeWithType) ∈ TG := tg_t (List.mem_of_getElem? (i := 202) (by decide +kernel)) (by decide +kernel)
theorem k_im_X_writeWithType : (Jvm.Cond.instanceMethod y_X_writeWithType) ∈ TG := tg_t (List.mem_of_getElem? (i := 204) (by decide +kernel)) (by decide +kernel)
theorem k_code_X_writeWithType : (Jvm.Cond.code y_X_writeWithType prog_1_method_38_code (4 : Nat) (Option.none : Option Jvm.ClassFile.FieldType)) ∈ TG := tg_t (List.mem_of_getElem? (i := 205) (by decide +kernel)) (by decide +kernel)
theorem k_ml_X_137 : (Jvm.Cond.methodLink "CapabilityCore" (137 : Nat) y_X_unseal) ∈ TG := tg_t (List.mem_of_getElem? (i := 206) (by decide +kernel)) (by decide +kernel)
theorem k_im_X_unseal : (Jvm.Cond.instanceMethod y_X_unseal) ∈ TG := tg_t (List.mem_of_getElem? (i := 208) (by decide +kernel)) (by decide +kernel)
theorem k_code_X_unseal : (Jvm.Cond.code y_X_unseal prog_1_method_33_code (7 : Nat) (Option.some Jvm.ClassFile.FieldType.int)) ∈ TG := tg_t (List.mem_of_getElem? (i := 209) (by decide +kernel)) (by decide +kernel)
theorem k_ml_X_140 : (Jvm.Cond.methodLink "CapabilityCore" (140 : Nat) y_X_tell) ∈ TG := tg_t (List.mem_of_getElem? (i := 210) (by decide +kernel)) (by decide +kernel)
theorem k_st_X_tell : (Jvm.Cond.static y_X_tell) ∈ TG := tg_t (List.mem_of_getElem? (i := 211) (by decide +kernel)) (by decide +kernel)
theorem k_code_X_tell : (Jvm.Cond.code y_X_tell prog_1_method_26_code (2 : Nat) (Option.some Jvm.ClassFile.FieldType.int)) ∈ TG := tg_t (List.mem_of_getElem? (i := 212) (by decide +kernel)) (by decide +kernel)
theorem k_ml_X_179 : (Jvm.Cond.methodLink "CapabilityCore" (179 : Nat) y_K_permissions) ∈ TG := tg_t (List.mem_of_getElem? (i := 213) (by decide +kernel)) (by decide +kernel)
theorem k_ml_X_144 : (Jvm.Cond.methodLink "CapabilityCore" (144 : Nat) y_X_swap) ∈ TG := tg_t (List.mem_of_getElem? (i := 214) (by decide +kernel)) (by decide +kernel)
theorem k_im_X_swap : (Jvm.Cond.instanceMethod y_X_swap) ∈ TG := tg_t (List.mem_of_getElem? (i := 216) (by decide +kernel)) (by decide +kernel)
theorem k_code_X_swap : (Jvm.Cond.code y_X_swap prog_1_method_34_code (5 : Nat) (Option.some Jvm.ClassFile.FieldType.int)) ∈ TG := tg_t (List.mem_of_getElem? (i := 217) (by decide +kernel)) (by decide +kernel)
theorem k_ml_X_147 : (Jvm.Cond.methodLink "CapabilityCore" (147 : Nat) y_X_returnFromTrap) ∈ TG := tg_t (List.mem_of_getElem? (i := 218) (by decide +kernel)) (by decide +kernel)
theorem k_im_X_returnFromTrap : (Jvm.Cond.instanceMethod y_X_returnFromTrap) ∈ TG := tg_t (List.mem_of_getElem? (i := 220) (by decide +kernel)) (by decide +kernel)
theorem k_code_X_returnFromTrap : (Jvm.Cond.code y_X_returnFromTrap prog_1_method_35_code (1 : Nat) (Option.some Jvm.ClassFile.FieldType.int)) ∈ TG := tg_t (List.mem_of_getElem? (i := 221) (by decide +kernel)) (by decide +kernel)
theorem k_ml_X_151 : (Jvm.Cond.methodLink "CapabilityCore" (151 : Nat) y_X_compute) ∈ TG := tg_t (List.mem_of_getElem? (i := 222) (by decide +kernel)) (by decide +kernel)
theorem k_st_X_compute : (Jvm.Cond.static y_X_compute) ∈ TG := tg_t (List.mem_of_getElem? (i := 223) (by decide +kernel)) (by decide +kernel)
theorem k_code_X_compute : (Jvm.Cond.code y_X_compute prog_1_method_22_code (4 : Nat) (Option.some Jvm.ClassFile.FieldType.int)) ∈ TG := tg_t (List.mem_of_getElem? (i := 224) (by decide +kernel)) (by decide +kernel)
theorem k_ml_X_154 : (Jvm.Cond.methodLink "CapabilityCore" (154 : Nat) y_X_derive) ∈ TG := tg_t (List.mem_of_getElem? (i := 225) (by decide +kernel)) (by decide +kernel)
theorem k_im_X_derive : (Jvm.Cond.instanceMethod y_X_derive) ∈ TG := tg_t (List.mem_of_getElem? (i := 227) (by decide +kernel)) (by decide +kernel)
theorem k_code_X_derive : (Jvm.Cond.code y_X_derive prog_1_method_23_code (5 : Nat) (Option.none : Option Jvm.ClassFile.FieldType)) ∈ TG := tg_t (List.mem_of_getElem? (i := 228) (by decide +kernel)) (by decide +kernel)
theorem k_ml_X_158 : (Jvm.Cond.methodLink "CapabilityCore" (158 : Nat) y_X_narrow) ∈ TG := tg_t (List.mem_of_getElem? (i := 229) (by decide +kernel)) (by decide +kernel)
theorem k_im_X_narrow : (Jvm.Cond.instanceMethod y_X_narrow) ∈ TG := tg_t (List.mem_of_getElem? (i := 231) (by decide +kernel)) (by decide +kernel)
theorem k_code_X_narrow : (Jvm.Cond.code y_X_narrow prog_1_method_24_code (5 : Nat) (Option.none : Option Jvm.ClassFile.FieldType)) ∈ TG := tg_t (List.mem_of_getElem? (i := 232) (by decide +kernel)) (by decide +kernel)
theorem k_ml_X_175 : (Jvm.Cond.methodLink "CapabilityCore" (175 : Nat) y_K_bound) ∈ TG := tg_t (List.mem_of_getElem? (i := 233) (by decide +kernel)) (by decide +kernel)
theorem k_ml_X_162 : (Jvm.Cond.methodLink "CapabilityCore" (162 : Nat) y_K_keepPermissions) ∈ TG := tg_t (List.mem_of_getElem? (i := 234) (by decide +kernel)) (by decide +kernel)
theorem k_im_K_keepPermissions : (Jvm.Cond.instanceMethod y_K_keepPermissions) ∈ TG := tg_t (List.mem_of_getElem? (i := 235) (by decide +kernel)) (by decide +kernel)
theorem k_sel_K_keepPermissions : (Jvm.Cond.selects "CapabilityCore$Capability" y_K_keepPermissions y_K_keepPermissions) ∈ TG := tg_t (List.mem_of_getElem? (i := 236) (by decide +kernel)) (by decide +kernel)
theorem k_code_K_keepPermissions : (Jvm.Cond.code y_K_keepPermissions prog_2_method_7_code (2 : Nat) (Option.none : Option Jvm.ClassFile.FieldType)) ∈ TG := tg_t (List.mem_of_getElem? (i := 237) (by decide +kernel)) (by decide +kernel)
theorem k_ml_X_168 : (Jvm.Cond.methodLink "CapabilityCore" (168 : Nat) y_X_mayBuild) ∈ TG := tg_t (List.mem_of_getElem? (i := 238) (by decide +kernel)) (by decide +kernel)
theorem k_st_X_mayBuild : (Jvm.Cond.static y_X_mayBuild) ∈ TG := tg_t (List.mem_of_getElem? (i := 239) (by decide +kernel)) (by decide +kernel)
theorem k_code_X_mayBuild : (Jvm.Cond.code y_X_mayBuild prog_1_method_25_code (2 : Nat) (Option.some Jvm.ClassFile.FieldType.boolean)) ∈ TG := tg_t (List.mem_of_getElem? (i := 240) (by decide +kernel)) (by decide +kernel)
theorem k_ml_X_90 : (Jvm.Cond.methodLink "CapabilityCore" (90 : Nat) y_X_enterTrap) ∈ TG := tg_t (List.mem_of_getElem? (i := 241) (by decide +kernel)) (by decide +kernel)
theorem k_im_X_enterTrap : (Jvm.Cond.instanceMethod y_X_enterTrap) ∈ TG := tg_t (List.mem_of_getElem? (i := 243) (by decide +kernel)) (by decide +kernel)
theorem k_code_X_enterTrap : (Jvm.Cond.code y_X_enterTrap prog_1_method_18_code (3 : Nat) (Option.none : Option Jvm.ClassFile.FieldType)) ∈ TG := tg_t (List.mem_of_getElem? (i := 244) (by decide +kernel)) (by decide +kernel)
theorem k_ml_L_32 : (Jvm.Cond.methodLink "CapabilityCoreLaw" (32 : Nat) y_X_state) ∈ TG := tg_t (List.mem_of_getElem? (i := 245) (by decide +kernel)) (by decide +kernel)
theorem k_im_X_state : (Jvm.Cond.instanceMethod y_X_state) ∈ TG := tg_t (List.mem_of_getElem? (i := 246) (by decide +kernel)) (by decide +kernel)
theorem k_sel_X_state : (Jvm.Cond.selects "CapabilityCore" y_X_state y_X_state) ∈ TG := tg_t (List.mem_of_getElem? (i := 247) (by decide +kernel)) (by decide +kernel)
theorem k_code_X_state : (Jvm.Cond.code y_X_state prog_1_method_6_code (1 : Nat) (Option.some Jvm.ClassFile.FieldType.int)) ∈ TG := tg_t (List.mem_of_getElem? (i := 248) (by decide +kernel)) (by decide +kernel)
theorem k_ml_L_37 : (Jvm.Cond.methodLink "CapabilityCoreLaw" (37 : Nat) y_X_wake) ∈ TG := tg_t (List.mem_of_getElem? (i := 249) (by decide +kernel)) (by decide +kernel)
theorem k_im_X_wake : (Jvm.Cond.instanceMethod y_X_wake) ∈ TG := tg_t (List.mem_of_getElem? (i := 250) (by decide +kernel)) (by decide +kernel)
theorem k_sel_X_wake : (Jvm.Cond.selects "CapabilityCore" y_X_wake y_X_wake) ∈ TG := tg_t (List.mem_of_getElem? (i := 251) (by decide +kernel)) (by decide +kernel)
theorem k_code_X_wake : (Jvm.Cond.code y_X_wake prog_1_method_7_code (2 : Nat) (Option.some Jvm.ClassFile.FieldType.boolean)) ∈ TG := tg_t (List.mem_of_getElem? (i := 252) (by decide +kernel)) (by decide +kernel)
theorem k_ml_L_41 : (Jvm.Cond.methodLink "CapabilityCoreLaw" (41 : Nat) y_X_cause) ∈ TG := tg_t (List.mem_of_getElem? (i := 253) (by decide +kernel)) (by decide +kernel)
theorem k_im_X_cause : (Jvm.Cond.instanceMethod y_X_cause) ∈ TG := tg_t (List.mem_of_getElem? (i := 254) (by decide +kernel)) (by decide +kernel)
theorem k_sel_X_cause : (Jvm.Cond.selects "CapabilityCore" y_X_cause y_X_cause) ∈ TG := tg_t (List.mem_of_getElem? (i := 255) (by decide +kernel)) (by decide +kernel)
theorem k_code_X_cause : (Jvm.Cond.code y_X_cause prog_1_method_8_code (1 : Nat) (Option.some Jvm.ClassFile.FieldType.int)) ∈ TG := tg_t (List.mem_of_getElem? (i := 256) (by decide +kernel)) (by decide +kernel)
theorem k_ml_L_45 : (Jvm.Cond.methodLink "CapabilityCoreLaw" (45 : Nat) y_X_steps) ∈ TG := tg_t (List.mem_of_getElem? (i := 257) (by decide +kernel)) (by decide +kernel)
theorem k_im_X_steps : (Jvm.Cond.instanceMethod y_X_steps) ∈ TG := tg_t (List.mem_of_getElem? (i := 258) (by decide +kernel)) (by decide +kernel)
theorem k_sel_X_steps : (Jvm.Cond.selects "CapabilityCore" y_X_steps y_X_steps) ∈ TG := tg_t (List.mem_of_getElem? (i := 259) (by decide +kernel)) (by decide +kernel)
theorem k_code_X_steps : (Jvm.Cond.code y_X_steps prog_1_method_9_code (1 : Nat) (Option.some Jvm.ClassFile.FieldType.int)) ∈ TG := tg_t (List.mem_of_getElem? (i := 260) (by decide +kernel)) (by decide +kernel)
theorem k_ml_L_49 : (Jvm.Cond.methodLink "CapabilityCoreLaw" (49 : Nat) y_X_traps) ∈ TG := tg_t (List.mem_of_getElem? (i := 261) (by decide +kernel)) (by decide +kernel)
theorem k_im_X_traps : (Jvm.Cond.instanceMethod y_X_traps) ∈ TG := tg_t (List.mem_of_getElem? (i := 262) (by decide +kernel)) (by decide +kernel)
theorem k_sel_X_traps : (Jvm.Cond.selects "CapabilityCore" y_X_traps y_X_traps) ∈ TG := tg_t (List.mem_of_getElem? (i := 263) (by decide +kernel)) (by decide +kernel)
theorem k_code_X_traps : (Jvm.Cond.code y_X_traps prog_1_method_10_code (1 : Nat) (Option.some Jvm.ClassFile.FieldType.int)) ∈ TG := tg_t (List.mem_of_getElem? (i := 264) (by decide +kernel)) (by decide +kernel)
theorem k_ml_L_53 : (Jvm.Cond.methodLink "CapabilityCoreLaw" (53 : Nat) y_X_register) ∈ TG := tg_t (List.mem_of_getElem? (i := 265) (by decide +kernel)) (by decide +kernel)
theorem k_im_X_register : (Jvm.Cond.instanceMethod y_X_register) ∈ TG := tg_t (List.mem_of_getElem? (i := 266) (by decide +kernel)) (by decide +kernel)
theorem k_sel_X_register : (Jvm.Cond.selects "CapabilityCore" y_X_register y_X_register) ∈ TG := tg_t (List.mem_of_getElem? (i := 267) (by decide +kernel)) (by decide +kernel)
theorem k_code_X_register : (Jvm.Cond.code y_X_register prog_1_method_11_code (3 : Nat) (Option.some Jvm.ClassFile.FieldType.int)) ∈ TG := tg_t (List.mem_of_getElem? (i := 268) (by decide +kernel)) (by decide +kernel)
theorem k_ml_X_59 : (Jvm.Cond.methodLink "CapabilityCore" (59 : Nat) y_X_isRegister) ∈ TG := tg_t (List.mem_of_getElem? (i := 269) (by decide +kernel)) (by decide +kernel)
theorem k_st_X_isRegister : (Jvm.Cond.static y_X_isRegister) ∈ TG := tg_t (List.mem_of_getElem? (i := 270) (by decide +kernel)) (by decide +kernel)
theorem k_code_X_isRegister : (Jvm.Cond.code y_X_isRegister prog_1_method_16_code (1 : Nat) (Option.some Jvm.ClassFile.FieldType.boolean)) ∈ TG := tg_t (List.mem_of_getElem? (i := 271) (by decide +kernel)) (by decide +kernel)
theorem k_ml_L_58 : (Jvm.Cond.methodLink "CapabilityCoreLaw" (58 : Nat) y_X_base) ∈ TG := tg_t (List.mem_of_getElem? (i := 272) (by decide +kernel)) (by decide +kernel)
theorem k_im_X_base : (Jvm.Cond.instanceMethod y_X_base) ∈ TG := tg_t (List.mem_of_getElem? (i := 273) (by decide +kernel)) (by decide +kernel)
theorem k_sel_X_base : (Jvm.Cond.selects "CapabilityCore" y_X_base y_X_base) ∈ TG := tg_t (List.mem_of_getElem? (i := 274) (by decide +kernel)) (by decide +kernel)
theorem k_code_X_base : (Jvm.Cond.code y_X_base prog_1_method_12_code (2 : Nat) (Option.some Jvm.ClassFile.FieldType.long)) ∈ TG := tg_t (List.mem_of_getElem? (i := 275) (by decide +kernel)) (by decide +kernel)
theorem k_ml_L_63 : (Jvm.Cond.methodLink "CapabilityCoreLaw" (63 : Nat) y_X_top) ∈ TG := tg_t (List.mem_of_getElem? (i := 276) (by decide +kernel)) (by decide +kernel)
theorem k_im_X_top : (Jvm.Cond.instanceMethod y_X_top) ∈ TG := tg_t (List.mem_of_getElem? (i := 277) (by decide +kernel)) (by decide +kernel)
theorem k_sel_X_top : (Jvm.Cond.selects "CapabilityCore" y_X_top y_X_top) ∈ TG := tg_t (List.mem_of_getElem? (i := 278) (by decide +kernel)) (by decide +kernel)
theorem k_code_X_top : (Jvm.Cond.code y_X_top prog_1_method_13_code (2 : Nat) (Option.some Jvm.ClassFile.FieldType.long)) ∈ TG := tg_t (List.mem_of_getElem? (i := 279) (by decide +kernel)) (by decide +kernel)
theorem k_ml_L_67 : (Jvm.Cond.methodLink "CapabilityCoreLaw" (67 : Nat) y_X_give) ∈ TG := tg_t (List.mem_of_getElem? (i := 280) (by decide +kernel)) (by decide +kernel)
theorem k_im_X_give : (Jvm.Cond.instanceMethod y_X_give) ∈ TG := tg_t (List.mem_of_getElem? (i := 281) (by decide +kernel)) (by decide +kernel)
theorem k_sel_X_give : (Jvm.Cond.selects "CapabilityCore" y_X_give y_X_give) ∈ TG := tg_t (List.mem_of_getElem? (i := 282) (by decide +kernel)) (by decide +kernel)
theorem k_code_X_give : (Jvm.Cond.code y_X_give prog_1_method_14_code (3 : Nat) (Option.some Jvm.ClassFile.FieldType.boolean)) ∈ TG := tg_t (List.mem_of_getElem? (i := 283) (by decide +kernel)) (by decide +kernel)
theorem k_cl_L_10 : (Jvm.Cond.classLink "CapabilityCoreLaw" (10 : Nat) "CapabilityCoreModel") ∈ TG := tg_t (List.mem_of_getElem? (i := 284) (by decide +kernel)) (by decide +kernel)
theorem k_inst_M : (Jvm.Cond.instantiable "CapabilityCoreModel" (12 : Nat)) ∈ TG := tg_t (List.mem_of_getElem? (i := 285) (by decide +kernel)) (by decide +kernel)
theorem k_ml_L_12 : (Jvm.Cond.methodLink "CapabilityCoreLaw" (12 : Nat) y_M_init) ∈ TG := tg_t (List.mem_of_getElem? (i := 286) (by decide +kernel)) (by decide +kernel)
theorem k_im_M_init : (Jvm.Cond.instanceMethod y_M_init) ∈ TG := tg_t (List.mem_of_getElem? (i := 287) (by decide +kernel)) (by decide +kernel)
theorem k_code_M_init : (Jvm.Cond.code y_M_init prog_4_method_1_code (1 : Nat) (Option.none : Option Jvm.ClassFile.FieldType)) ∈ TG := tg_t (List.mem_of_getElem? (i := 288) (by decide +kernel)) (by decide +kernel)
theorem k_ml_M_1 : (Jvm.Cond.methodLink "CapabilityCoreModel" (1 : Nat) ({ cls := "java/lang/Object", name := "<init>", desc := "()V" } : Jvm.MethodName)) ∈ TG := tg_t (List.mem_of_getElem? (i := 289) (by decide +kernel)) (by decide +kernel)
theorem k_ml_M_26 : (Jvm.Cond.methodLink "CapabilityCoreModel" (26 : Nat) y_M_first) ∈ TG := tg_t (List.mem_of_getElem? (i := 290) (by decide +kernel)) (by decide +kernel)
theorem k_im_M_first : (Jvm.Cond.instanceMethod y_M_first) ∈ TG := tg_t (List.mem_of_getElem? (i := 292) (by decide +kernel)) (by decide +kernel)
theorem k_code_M_first : (Jvm.Cond.code y_M_first prog_4_method_2_code (3 : Nat) (Option.none : Option Jvm.ClassFile.FieldType)) ∈ TG := tg_t (List.mem_of_getElem? (i := 293) (by decide +kernel)) (by decide +kernel)
theorem k_cL_M_30 : (Jvm.Cond.constantLong "CapabilityCoreModel" (30 : Nat) (1024 : Int64)) ∈ TG := tg_t (List.mem_of_getElem? (i := 294) (by decide +kernel)) (by decide +kernel)
theorem k_ml_M_32 : (Jvm.Cond.methodLink "CapabilityCoreModel" (32 : Nat) y_M_bounded) ∈ TG := tg_t (List.mem_of_getElem? (i := 295) (by decide +kernel)) (by decide +kernel)
theorem k_st_M_bounded : (Jvm.Cond.static y_M_bounded) ∈ TG := tg_t (List.mem_of_getElem? (i := 296) (by decide +kernel)) (by decide +kernel)
theorem k_code_M_bounded : (Jvm.Cond.code y_M_bounded prog_4_method_10_code (10 : Nat) (Option.some Jvm.ClassFile.FieldType.int)) ∈ TG := tg_t (List.mem_of_getElem? (i := 297) (by decide +kernel)) (by decide +kernel)
theorem k_cL_M_55 : (Jvm.Cond.constantLong "CapabilityCoreModel" (55 : Nat) (96 : Int64)) ∈ TG := tg_t (List.mem_of_getElem? (i := 298) (by decide +kernel)) (by decide +kernel)
theorem k_cL_M_45 : (Jvm.Cond.constantLong "CapabilityCoreModel" (45 : Nat) (128 : Int64)) ∈ TG := tg_t (List.mem_of_getElem? (i := 299) (by decide +kernel)) (by decide +kernel)
theorem k_fl_M_7 : (Jvm.Cond.fieldLink "CapabilityCoreModel" (7 : Nat) "CapabilityCoreModel" "address" "[I") ∈ TG := tg_t (List.mem_of_getElem? (i := 300) (by decide +kernel)) (by decide +kernel)
theorem k_fl_M_13 : (Jvm.Cond.fieldLink "CapabilityCoreModel" (13 : Nat) "CapabilityCoreModel" "meta" "[I") ∈ TG := tg_t (List.mem_of_getElem? (i := 301) (by decide +kernel)) (by decide +kernel)
theorem k_fl_M_16 : (Jvm.Cond.fieldLink "CapabilityCoreModel" (16 : Nat) "CapabilityCoreModel" "tag" "[Z") ∈ TG := tg_t (List.mem_of_getElem? (i := 302) (by decide +kernel)) (by decide +kernel)
theorem k_fl_M_20 : (Jvm.Cond.fieldLink "CapabilityCoreModel" (20 : Nat) "CapabilityCoreModel" "memory" "[I") ∈ TG := tg_t (List.mem_of_getElem? (i := 303) (by decide +kernel)) (by decide +kernel)
theorem k_fl_M_23 : (Jvm.Cond.fieldLink "CapabilityCoreModel" (23 : Nat) "CapabilityCoreModel" "granule" "[Z") ∈ TG := tg_t (List.mem_of_getElem? (i := 304) (by decide +kernel)) (by decide +kernel)
theorem k_fl_M_113 : (Jvm.Cond.fieldLink "CapabilityCoreModel" (113 : Nat) "CapabilityCoreModel" "state" "I") ∈ TG := tg_t (List.mem_of_getElem? (i := 305) (by decide +kernel)) (by decide +kernel)
theorem k_fl_M_107 : (Jvm.Cond.fieldLink "CapabilityCoreModel" (107 : Nat) "CapabilityCoreModel" "cause" "I") ∈ TG := tg_t (List.mem_of_getElem? (i := 306) (by decide +kernel)) (by decide +kernel)
theorem k_fl_M_116 : (Jvm.Cond.fieldLink "CapabilityCoreModel" (116 : Nat) "CapabilityCoreModel" "steps" "I") ∈ TG := tg_t (List.mem_of_getElem? (i := 307) (by decide +kernel)) (by decide +kernel)
end
section
theorem k_fl_M_110 : (Jvm.Cond.fieldLink "CapabilityCoreModel" (110 : Nat) "CapabilityCoreModel" "traps" "I") ∈ TG := tg_t (List.mem_of_getElem? (i := 308) (by decide +kernel)) (by decide +kernel)
theorem k_fl_M_71 : (Jvm.Cond.fieldLink "CapabilityCoreModel" (71 : Nat) "CapabilityCoreModel" "newAddress" "I") ∈ TG := tg_t (List.mem_of_getElem? (i := 309) (by decide +kernel)) (by decide +kernel)
theorem k_fl_M_75 : (Jvm.Cond.fieldLink "CapabilityCoreModel" (75 : Nat) "CapabilityCoreModel" "newMeta" "I") ∈ TG := tg_t (List.mem_of_getElem? (i := 310) (by decide +kernel)) (by decide +kernel)
theorem k_fl_M_78 : (Jvm.Cond.fieldLink "CapabilityCoreModel" (78 : Nat) "CapabilityCoreModel" "newTag" "Z") ∈ TG := tg_t (List.mem_of_getElem? (i := 311) (by decide +kernel)) (by decide +kernel)
theorem k_ml_L_17 : (Jvm.Cond.methodLink "CapabilityCoreLaw" (17 : Nat) y_M_poke) ∈ TG := tg_t (List.mem_of_getElem? (i := 337) (by decide +kernel)) (by decide +kernel)
theorem k_im_M_poke : (Jvm.Cond.instanceMethod y_M_poke) ∈ TG := tg_t (List.mem_of_getElem? (i := 338) (by decide +kernel)) (by decide +kernel)
theorem k_sel_M_poke : (Jvm.Cond.selects "CapabilityCoreModel" y_M_poke y_M_poke) ∈ TG := tg_t (List.mem_of_getElem? (i := 339) (by decide +kernel)) (by decide +kernel)
theorem k_code_M_poke : (Jvm.Cond.code y_M_poke prog_4_method_32_code (3 : Nat) (Option.some Jvm.ClassFile.FieldType.boolean)) ∈ TG := tg_t (List.mem_of_getElem? (i := 340) (by decide +kernel)) (by decide +kernel)
theorem k_ml_L_22 : (Jvm.Cond.methodLink "CapabilityCoreLaw" (22 : Nat) y_M_peek) ∈ TG := tg_t (List.mem_of_getElem? (i := 341) (by decide +kernel)) (by decide +kernel)
theorem k_im_M_peek : (Jvm.Cond.instanceMethod y_M_peek) ∈ TG := tg_t (List.mem_of_getElem? (i := 342) (by decide +kernel)) (by decide +kernel)
theorem k_sel_M_peek : (Jvm.Cond.selects "CapabilityCoreModel" y_M_peek y_M_peek) ∈ TG := tg_t (List.mem_of_getElem? (i := 343) (by decide +kernel)) (by decide +kernel)
theorem k_code_M_peek : (Jvm.Cond.code y_M_peek prog_4_method_33_code (2 : Nat) (Option.some Jvm.ClassFile.FieldType.int)) ∈ TG := tg_t (List.mem_of_getElem? (i := 344) (by decide +kernel)) (by decide +kernel)
theorem k_ml_L_27 : (Jvm.Cond.methodLink "CapabilityCoreLaw" (27 : Nat) y_M_tagged) ∈ TG := tg_t (List.mem_of_getElem? (i := 345) (by decide +kernel)) (by decide +kernel)
theorem k_im_M_tagged : (Jvm.Cond.instanceMethod y_M_tagged) ∈ TG := tg_t (List.mem_of_getElem? (i := 346) (by decide +kernel)) (by decide +kernel)
theorem k_sel_M_tagged : (Jvm.Cond.selects "CapabilityCoreModel" y_M_tagged y_M_tagged) ∈ TG := tg_t (List.mem_of_getElem? (i := 347) (by decide +kernel)) (by decide +kernel)
theorem k_code_M_tagged : (Jvm.Cond.code y_M_tagged prog_4_method_34_code (2 : Nat) (Option.some Jvm.ClassFile.FieldType.boolean)) ∈ TG := tg_t (List.mem_of_getElem? (i := 348) (by decide +kernel)) (by decide +kernel)
theorem k_ml_L_31 : (Jvm.Cond.methodLink "CapabilityCoreLaw" (31 : Nat) y_M_run) ∈ TG := tg_t (List.mem_of_getElem? (i := 349) (by decide +kernel)) (by decide +kernel)
theorem k_im_M_run : (Jvm.Cond.instanceMethod y_M_run) ∈ TG := tg_t (List.mem_of_getElem? (i := 350) (by decide +kernel)) (by decide +kernel)
theorem k_sel_M_run : (Jvm.Cond.selects "CapabilityCoreModel" y_M_run y_M_run) ∈ TG := tg_t (List.mem_of_getElem? (i := 351) (by decide +kernel)) (by decide +kernel)
theorem k_code_M_run : (Jvm.Cond.code y_M_run prog_4_method_35_code (3 : Nat) (Option.some Jvm.ClassFile.FieldType.int)) ∈ TG := tg_t (List.mem_of_getElem? (i := 352) (by decide +kernel)) (by decide +kernel)
theorem k_ml_M_157 : (Jvm.Cond.methodLink "CapabilityCoreModel" (157 : Nat) y_M_step) ∈ TG := tg_t (List.mem_of_getElem? (i := 353) (by decide +kernel)) (by decide +kernel)
theorem k_im_M_step : (Jvm.Cond.instanceMethod y_M_step) ∈ TG := tg_t (List.mem_of_getElem? (i := 355) (by decide +kernel)) (by decide +kernel)
theorem k_code_M_step : (Jvm.Cond.code y_M_step prog_4_method_24_code (9 : Nat) (Option.none : Option Jvm.ClassFile.FieldType)) ∈ TG := tg_t (List.mem_of_getElem? (i := 356) (by decide +kernel)) (by decide +kernel)
theorem k_ml_M_95 : (Jvm.Cond.methodLink "CapabilityCoreModel" (95 : Nat) y_M_check) ∈ TG := tg_t (List.mem_of_getElem? (i := 357) (by decide +kernel)) (by decide +kernel)
theorem k_im_M_check : (Jvm.Cond.instanceMethod y_M_check) ∈ TG := tg_t (List.mem_of_getElem? (i := 359) (by decide +kernel)) (by decide +kernel)
theorem k_code_M_check : (Jvm.Cond.code y_M_check prog_4_method_12_code (7 : Nat) (Option.some Jvm.ClassFile.FieldType.int)) ∈ TG := tg_t (List.mem_of_getElem? (i := 360) (by decide +kernel)) (by decide +kernel)
theorem k_ml_M_42 : (Jvm.Cond.methodLink "CapabilityCoreModel" (42 : Nat) y_M_unsigned) ∈ TG := tg_t (List.mem_of_getElem? (i := 361) (by decide +kernel)) (by decide +kernel)
theorem k_st_M_unsigned : (Jvm.Cond.static y_M_unsigned) ∈ TG := tg_t (List.mem_of_getElem? (i := 362) (by decide +kernel)) (by decide +kernel)
theorem k_code_M_unsigned : (Jvm.Cond.code y_M_unsigned prog_4_method_5_code (1 : Nat) (Option.some Jvm.ClassFile.FieldType.long)) ∈ TG := tg_t (List.mem_of_getElem? (i := 363) (by decide +kernel)) (by decide +kernel)
theorem k_cL_M_36 : (Jvm.Cond.constantLong "CapabilityCoreModel" (36 : Nat) (4294967296 : Int64)) ∈ TG := tg_t (List.mem_of_getElem? (i := 364) (by decide +kernel)) (by decide +kernel)
theorem k_ml_M_57 : (Jvm.Cond.methodLink "CapabilityCoreModel" (57 : Nat) y_M_type) ∈ TG := tg_t (List.mem_of_getElem? (i := 365) (by decide +kernel)) (by decide +kernel)
theorem k_st_M_type : (Jvm.Cond.static y_M_type) ∈ TG := tg_t (List.mem_of_getElem? (i := 366) (by decide +kernel)) (by decide +kernel)
theorem k_code_M_type : (Jvm.Cond.code y_M_type prog_4_method_3_code (1 : Nat) (Option.some Jvm.ClassFile.FieldType.int)) ∈ TG := tg_t (List.mem_of_getElem? (i := 367) (by decide +kernel)) (by decide +kernel)
theorem k_ml_M_61 : (Jvm.Cond.methodLink "CapabilityCoreModel" (61 : Nat) y_M_has) ∈ TG := tg_t (List.mem_of_getElem? (i := 368) (by decide +kernel)) (by decide +kernel)
theorem k_im_M_has : (Jvm.Cond.instanceMethod y_M_has) ∈ TG := tg_t (List.mem_of_getElem? (i := 370) (by decide +kernel)) (by decide +kernel)
theorem k_code_M_has : (Jvm.Cond.code y_M_has prog_4_method_11_code (3 : Nat) (Option.some Jvm.ClassFile.FieldType.boolean)) ∈ TG := tg_t (List.mem_of_getElem? (i := 371) (by decide +kernel)) (by decide +kernel)
theorem k_ml_M_65 : (Jvm.Cond.methodLink "CapabilityCoreModel" (65 : Nat) y_M_baseOf) ∈ TG := tg_t (List.mem_of_getElem? (i := 372) (by decide +kernel)) (by decide +kernel)
theorem k_st_M_baseOf : (Jvm.Cond.static y_M_baseOf) ∈ TG := tg_t (List.mem_of_getElem? (i := 373) (by decide +kernel)) (by decide +kernel)
theorem k_code_M_baseOf : (Jvm.Cond.code y_M_baseOf prog_4_method_8_code (6 : Nat) (Option.some Jvm.ClassFile.FieldType.long)) ∈ TG := tg_t (List.mem_of_getElem? (i := 374) (by decide +kernel)) (by decide +kernel)
theorem k_ml_M_51 : (Jvm.Cond.methodLink "CapabilityCoreModel" (51 : Nat) y_M_window) ∈ TG := tg_t (List.mem_of_getElem? (i := 375) (by decide +kernel)) (by decide +kernel)
theorem k_st_M_window : (Jvm.Cond.static y_M_window) ∈ TG := tg_t (List.mem_of_getElem? (i := 376) (by decide +kernel)) (by decide +kernel)
theorem k_code_M_window : (Jvm.Cond.code y_M_window prog_4_method_7_code (8 : Nat) (Option.some Jvm.ClassFile.FieldType.long)) ∈ TG := tg_t (List.mem_of_getElem? (i := 377) (by decide +kernel)) (by decide +kernel)
theorem k_ml_M_38 : (Jvm.Cond.methodLink "CapabilityCoreModel" (38 : Nat) y_M_unit) ∈ TG := tg_t (List.mem_of_getElem? (i := 378) (by decide +kernel)) (by decide +kernel)
theorem k_st_M_unit : (Jvm.Cond.static y_M_unit) ∈ TG := tg_t (List.mem_of_getElem? (i := 379) (by decide +kernel)) (by decide +kernel)
theorem k_code_M_unit : (Jvm.Cond.code y_M_unit prog_4_method_4_code (1 : Nat) (Option.some Jvm.ClassFile.FieldType.long)) ∈ TG := tg_t (List.mem_of_getElem? (i := 380) (by decide +kernel)) (by decide +kernel)
theorem k_ml_M_47 : (Jvm.Cond.methodLink "CapabilityCoreModel" (47 : Nat) y_M_rest) ∈ TG := tg_t (List.mem_of_getElem? (i := 381) (by decide +kernel)) (by decide +kernel)
theorem k_st_M_rest : (Jvm.Cond.static y_M_rest) ∈ TG := tg_t (List.mem_of_getElem? (i := 382) (by decide +kernel)) (by decide +kernel)
theorem k_code_M_rest : (Jvm.Cond.code y_M_rest prog_4_method_6_code (6 : Nat) (Option.some Jvm.ClassFile.FieldType.long)) ∈ TG := tg_t (List.mem_of_getElem? (i := 383) (by decide +kernel)) (by decide +kernel)
theorem k_ml_M_68 : (Jvm.Cond.methodLink "CapabilityCoreModel" (68 : Nat) y_M_topOf) ∈ TG := tg_t (List.mem_of_getElem? (i := 384) (by decide +kernel)) (by decide +kernel)
theorem k_st_M_topOf : (Jvm.Cond.static y_M_topOf) ∈ TG := tg_t (List.mem_of_getElem? (i := 385) (by decide +kernel)) (by decide +kernel)
theorem k_code_M_topOf : (Jvm.Cond.code y_M_topOf prog_4_method_9_code (6 : Nat) (Option.some Jvm.ClassFile.FieldType.long)) ∈ TG := tg_t (List.mem_of_getElem? (i := 386) (by decide +kernel)) (by decide +kernel)
theorem k_ml_M_99 : (Jvm.Cond.methodLink "CapabilityCoreModel" (99 : Nat) y_M_of) ∈ TG := tg_t (List.mem_of_getElem? (i := 387) (by decide +kernel)) (by decide +kernel)
theorem k_st_M_of : (Jvm.Cond.static y_M_of) ∈ TG := tg_t (List.mem_of_getElem? (i := 388) (by decide +kernel)) (by decide +kernel)
theorem k_code_M_of : (Jvm.Cond.code y_M_of prog_4_method_13_code (2 : Nat) (Option.some Jvm.ClassFile.FieldType.int)) ∈ TG := tg_t (List.mem_of_getElem? (i := 389) (by decide +kernel)) (by decide +kernel)
theorem k_ml_M_119 : (Jvm.Cond.methodLink "CapabilityCoreModel" (119 : Nat) y_M_trap) ∈ TG := tg_t (List.mem_of_getElem? (i := 390) (by decide +kernel)) (by decide +kernel)
theorem k_im_M_trap : (Jvm.Cond.instanceMethod y_M_trap) ∈ TG := tg_t (List.mem_of_getElem? (i := 392) (by decide +kernel)) (by decide +kernel)
theorem k_code_M_trap : (Jvm.Cond.code y_M_trap prog_4_method_23_code (2 : Nat) (Option.none : Option Jvm.ClassFile.FieldType)) ∈ TG := tg_t (List.mem_of_getElem? (i := 393) (by decide +kernel)) (by decide +kernel)
theorem k_ml_M_82 : (Jvm.Cond.methodLink "CapabilityCoreModel" (82 : Nat) y_M_take) ∈ TG := tg_t (List.mem_of_getElem? (i := 394) (by decide +kernel)) (by decide +kernel)
theorem k_im_M_take : (Jvm.Cond.instanceMethod y_M_take) ∈ TG := tg_t (List.mem_of_getElem? (i := 396) (by decide +kernel)) (by decide +kernel)
theorem k_code_M_take : (Jvm.Cond.code y_M_take prog_4_method_14_code (2 : Nat) (Option.none : Option Jvm.ClassFile.FieldType)) ∈ TG := tg_t (List.mem_of_getElem? (i := 397) (by decide +kernel)) (by decide +kernel)
theorem k_ml_M_89 : (Jvm.Cond.methodLink "CapabilityCoreModel" (89 : Nat) y_M_put) ∈ TG := tg_t (List.mem_of_getElem? (i := 398) (by decide +kernel)) (by decide +kernel)
theorem k_im_M_put : (Jvm.Cond.instanceMethod y_M_put) ∈ TG := tg_t (List.mem_of_getElem? (i := 400) (by decide +kernel)) (by decide +kernel)
theorem k_code_M_put : (Jvm.Cond.code y_M_put prog_4_method_18_code (2 : Nat) (Option.none : Option Jvm.ClassFile.FieldType)) ∈ TG := tg_t (List.mem_of_getElem? (i := 401) (by decide +kernel)) (by decide +kernel)
theorem k_ml_M_122 : (Jvm.Cond.methodLink "CapabilityCoreModel" (122 : Nat) y_M_trapOf) ∈ TG := tg_t (List.mem_of_getElem? (i := 402) (by decide +kernel)) (by decide +kernel)
theorem k_im_M_trapOf : (Jvm.Cond.instanceMethod y_M_trapOf) ∈ TG := tg_t (List.mem_of_getElem? (i := 404) (by decide +kernel)) (by decide +kernel)
theorem k_code_M_trapOf : (Jvm.Cond.code y_M_trapOf prog_4_method_21_code (7 : Nat) (Option.some Jvm.ClassFile.FieldType.int)) ∈ TG := tg_t (List.mem_of_getElem? (i := 405) (by decide +kernel)) (by decide +kernel)
theorem k_ml_M_103 : (Jvm.Cond.methodLink "CapabilityCoreModel" (103 : Nat) y_M_sealing) ∈ TG := tg_t (List.mem_of_getElem? (i := 406) (by decide +kernel)) (by decide +kernel)
theorem k_im_M_sealing : (Jvm.Cond.instanceMethod y_M_sealing) ∈ TG := tg_t (List.mem_of_getElem? (i := 408) (by decide +kernel)) (by decide +kernel)
theorem k_code_M_sealing : (Jvm.Cond.code y_M_sealing prog_4_method_22_code (8 : Nat) (Option.some Jvm.ClassFile.FieldType.int)) ∈ TG := tg_t (List.mem_of_getElem? (i := 409) (by decide +kernel)) (by decide +kernel)
theorem k_ml_M_125 : (Jvm.Cond.methodLink "CapabilityCoreModel" (125 : Nat) y_M_reckoned) ∈ TG := tg_t (List.mem_of_getElem? (i := 410) (by decide +kernel)) (by decide +kernel)
theorem k_st_M_reckoned : (Jvm.Cond.static y_M_reckoned) ∈ TG := tg_t (List.mem_of_getElem? (i := 411) (by decide +kernel)) (by decide +kernel)
theorem k_code_M_reckoned : (Jvm.Cond.code y_M_reckoned prog_4_method_25_code (4 : Nat) (Option.some Jvm.ClassFile.FieldType.int)) ∈ TG := tg_t (List.mem_of_getElem? (i := 412) (by decide +kernel)) (by decide +kernel)
theorem k_ml_M_128 : (Jvm.Cond.methodLink "CapabilityCoreModel" (128 : Nat) y_M_number) ∈ TG := tg_t (List.mem_of_getElem? (i := 413) (by decide +kernel)) (by decide +kernel)
theorem k_im_M_number : (Jvm.Cond.instanceMethod y_M_number) ∈ TG := tg_t (List.mem_of_getElem? (i := 415) (by decide +kernel)) (by decide +kernel)
theorem k_code_M_number : (Jvm.Cond.code y_M_number prog_4_method_15_code (2 : Nat) (Option.none : Option Jvm.ClassFile.FieldType)) ∈ TG := tg_t (List.mem_of_getElem? (i := 416) (by decide +kernel)) (by decide +kernel)
theorem k_ml_M_131 : (Jvm.Cond.methodLink "CapabilityCoreModel" (131 : Nat) y_M_go) ∈ TG := tg_t (List.mem_of_getElem? (i := 417) (by decide +kernel)) (by decide +kernel)
theorem k_im_M_go : (Jvm.Cond.instanceMethod y_M_go) ∈ TG := tg_t (List.mem_of_getElem? (i := 419) (by decide +kernel)) (by decide +kernel)
theorem k_code_M_go : (Jvm.Cond.code y_M_go prog_4_method_19_code (2 : Nat) (Option.none : Option Jvm.ClassFile.FieldType)) ∈ TG := tg_t (List.mem_of_getElem? (i := 420) (by decide +kernel)) (by decide +kernel)
theorem k_ml_M_86 : (Jvm.Cond.methodLink "CapabilityCoreModel" (86 : Nat) y_M_move) ∈ TG := tg_t (List.mem_of_getElem? (i := 421) (by decide +kernel)) (by decide +kernel)
theorem k_im_M_move : (Jvm.Cond.instanceMethod y_M_move) ∈ TG := tg_t (List.mem_of_getElem? (i := 423) (by decide +kernel)) (by decide +kernel)
theorem k_code_M_move : (Jvm.Cond.code y_M_move prog_4_method_16_code (6 : Nat) (Option.none : Option Jvm.ClassFile.FieldType)) ∈ TG := tg_t (List.mem_of_getElem? (i := 424) (by decide +kernel)) (by decide +kernel)
theorem k_ml_M_134 : (Jvm.Cond.methodLink "CapabilityCoreModel" (134 : Nat) y_M_access) ∈ TG := tg_t (List.mem_of_getElem? (i := 425) (by decide +kernel)) (by decide +kernel)
theorem k_im_M_access : (Jvm.Cond.instanceMethod y_M_access) ∈ TG := tg_t (List.mem_of_getElem? (i := 427) (by decide +kernel)) (by decide +kernel)
theorem k_code_M_access : (Jvm.Cond.code y_M_access prog_4_method_26_code (7 : Nat) (Option.none : Option Jvm.ClassFile.FieldType)) ∈ TG := tg_t (List.mem_of_getElem? (i := 428) (by decide +kernel)) (by decide +kernel)
theorem k_ml_M_138 : (Jvm.Cond.methodLink "CapabilityCoreModel" (138 : Nat) y_M_turn) ∈ TG := tg_t (List.mem_of_getElem? (i := 429) (by decide +kernel)) (by decide +kernel)
theorem k_im_M_turn : (Jvm.Cond.instanceMethod y_M_turn) ∈ TG := tg_t (List.mem_of_getElem? (i := 431) (by decide +kernel)) (by decide +kernel)
theorem k_code_M_turn : (Jvm.Cond.code y_M_turn prog_4_method_27_code (8 : Nat) (Option.none : Option Jvm.ClassFile.FieldType)) ∈ TG := tg_t (List.mem_of_getElem? (i := 432) (by decide +kernel)) (by decide +kernel)
theorem k_ml_M_148 : (Jvm.Cond.methodLink "CapabilityCoreModel" (148 : Nat) y_M_link) ∈ TG := tg_t (List.mem_of_getElem? (i := 433) (by decide +kernel)) (by decide +kernel)
theorem k_im_M_link : (Jvm.Cond.instanceMethod y_M_link) ∈ TG := tg_t (List.mem_of_getElem? (i := 435) (by decide +kernel)) (by decide +kernel)
theorem k_code_M_link : (Jvm.Cond.code y_M_link prog_4_method_20_code (1 : Nat) (Option.none : Option Jvm.ClassFile.FieldType)) ∈ TG := tg_t (List.mem_of_getElem? (i := 436) (by decide +kernel)) (by decide +kernel)
theorem k_ml_M_92 : (Jvm.Cond.methodLink "CapabilityCoreModel" (92 : Nat) y_M_typed) ∈ TG := tg_t (List.mem_of_getElem? (i := 437) (by decide +kernel)) (by decide +kernel)
theorem k_im_M_typed : (Jvm.Cond.instanceMethod y_M_typed) ∈ TG := tg_t (List.mem_of_getElem? (i := 439) (by decide +kernel)) (by decide +kernel)
theorem k_code_M_typed : (Jvm.Cond.code y_M_typed prog_4_method_17_code (3 : Nat) (Option.none : Option Jvm.ClassFile.FieldType)) ∈ TG := tg_t (List.mem_of_getElem? (i := 440) (by decide +kernel)) (by decide +kernel)
theorem k_ml_M_141 : (Jvm.Cond.methodLink "CapabilityCoreModel" (141 : Nat) y_M_shape) ∈ TG := tg_t (List.mem_of_getElem? (i := 441) (by decide +kernel)) (by decide +kernel)
theorem k_im_M_shape : (Jvm.Cond.instanceMethod y_M_shape) ∈ TG := tg_t (List.mem_of_getElem? (i := 443) (by decide +kernel)) (by decide +kernel)
theorem k_code_M_shape : (Jvm.Cond.code y_M_shape prog_4_method_28_code (12 : Nat) (Option.none : Option Jvm.ClassFile.FieldType)) ∈ TG := tg_t (List.mem_of_getElem? (i := 444) (by decide +kernel)) (by decide +kernel)
theorem k_ml_M_151 : (Jvm.Cond.methodLink "CapabilityCoreModel" (151 : Nat) y_M_told) ∈ TG := tg_t (List.mem_of_getElem? (i := 445) (by decide +kernel)) (by decide +kernel)
theorem k_im_M_told : (Jvm.Cond.instanceMethod y_M_told) ∈ TG := tg_t (List.mem_of_getElem? (i := 447) (by decide +kernel)) (by decide +kernel)
theorem k_code_M_told : (Jvm.Cond.code y_M_told prog_4_method_29_code (5 : Nat) (Option.some Jvm.ClassFile.FieldType.int)) ∈ TG := tg_t (List.mem_of_getElem? (i := 448) (by decide +kernel)) (by decide +kernel)
theorem k_ml_M_154 : (Jvm.Cond.methodLink "CapabilityCoreModel" (154 : Nat) y_M_build) ∈ TG := tg_t (List.mem_of_getElem? (i := 449) (by decide +kernel)) (by decide +kernel)
theorem k_im_M_build : (Jvm.Cond.instanceMethod y_M_build) ∈ TG := tg_t (List.mem_of_getElem? (i := 451) (by decide +kernel)) (by decide +kernel)
theorem k_code_M_build : (Jvm.Cond.code y_M_build prog_4_method_30_code (10 : Nat) (Option.none : Option Jvm.ClassFile.FieldType)) ∈ TG := tg_t (List.mem_of_getElem? (i := 452) (by decide +kernel)) (by decide +kernel)
theorem k_ml_M_144 : (Jvm.Cond.methodLink "CapabilityCoreModel" (144 : Nat) y_M_rule) ∈ TG := tg_t (List.mem_of_getElem? (i := 453) (by decide +kernel)) (by decide +kernel)
theorem k_im_M_rule : (Jvm.Cond.instanceMethod y_M_rule) ∈ TG := tg_t (List.mem_of_getElem? (i := 455) (by decide +kernel)) (by decide +kernel)
theorem k_code_M_rule : (Jvm.Cond.code y_M_rule prog_4_method_31_code (8 : Nat) (Option.none : Option Jvm.ClassFile.FieldType)) ∈ TG := tg_t (List.mem_of_getElem? (i := 456) (by decide +kernel)) (by decide +kernel)
theorem k_ml_L_36 : (Jvm.Cond.methodLink "CapabilityCoreLaw" (36 : Nat) y_M_state) ∈ TG := tg_t (List.mem_of_getElem? (i := 457) (by decide +kernel)) (by decide +kernel)
theorem k_im_M_state : (Jvm.Cond.instanceMethod y_M_state) ∈ TG := tg_t (List.mem_of_getElem? (i := 458) (by decide +kernel)) (by decide +kernel)
theorem k_sel_M_state : (Jvm.Cond.selects "CapabilityCoreModel" y_M_state y_M_state) ∈ TG := tg_t (List.mem_of_getElem? (i := 459) (by decide +kernel)) (by decide +kernel)
theorem k_code_M_state : (Jvm.Cond.code y_M_state prog_4_method_36_code (1 : Nat) (Option.some Jvm.ClassFile.FieldType.int)) ∈ TG := tg_t (List.mem_of_getElem? (i := 460) (by decide +kernel)) (by decide +kernel)
theorem k_ml_L_40 : (Jvm.Cond.methodLink "CapabilityCoreLaw" (40 : Nat) y_M_wake) ∈ TG := tg_t (List.mem_of_getElem? (i := 461) (by decide +kernel)) (by decide +kernel)
theorem k_im_M_wake : (Jvm.Cond.instanceMethod y_M_wake) ∈ TG := tg_t (List.mem_of_getElem? (i := 462) (by decide +kernel)) (by decide +kernel)
theorem k_sel_M_wake : (Jvm.Cond.selects "CapabilityCoreModel" y_M_wake y_M_wake) ∈ TG := tg_t (List.mem_of_getElem? (i := 463) (by decide +kernel)) (by decide +kernel)
theorem k_code_M_wake : (Jvm.Cond.code y_M_wake prog_4_method_37_code (2 : Nat) (Option.some Jvm.ClassFile.FieldType.boolean)) ∈ TG := tg_t (List.mem_of_getElem? (i := 464) (by decide +kernel)) (by decide +kernel)
theorem k_ml_L_44 : (Jvm.Cond.methodLink "CapabilityCoreLaw" (44 : Nat) y_M_cause) ∈ TG := tg_t (List.mem_of_getElem? (i := 465) (by decide +kernel)) (by decide +kernel)
theorem k_im_M_cause : (Jvm.Cond.instanceMethod y_M_cause) ∈ TG := tg_t (List.mem_of_getElem? (i := 466) (by decide +kernel)) (by decide +kernel)
theorem k_sel_M_cause : (Jvm.Cond.selects "CapabilityCoreModel" y_M_cause y_M_cause) ∈ TG := tg_t (List.mem_of_getElem? (i := 467) (by decide +kernel)) (by decide +kernel)
theorem k_code_M_cause : (Jvm.Cond.code y_M_cause prog_4_method_38_code (1 : Nat) (Option.some Jvm.ClassFile.FieldType.int)) ∈ TG := tg_t (List.mem_of_getElem? (i := 468) (by decide +kernel)) (by decide +kernel)
theorem k_ml_L_48 : (Jvm.Cond.methodLink "CapabilityCoreLaw" (48 : Nat) y_M_steps) ∈ TG := tg_t (List.mem_of_getElem? (i := 469) (by decide +kernel)) (by decide +kernel)
theorem k_im_M_steps : (Jvm.Cond.instanceMethod y_M_steps) ∈ TG := tg_t (List.mem_of_getElem? (i := 470) (by decide +kernel)) (by decide +kernel)
theorem k_sel_M_steps : (Jvm.Cond.selects "CapabilityCoreModel" y_M_steps y_M_steps) ∈ TG := tg_t (List.mem_of_getElem? (i := 471) (by decide +kernel)) (by decide +kernel)
theorem k_code_M_steps : (Jvm.Cond.code y_M_steps prog_4_method_39_code (1 : Nat) (Option.some Jvm.ClassFile.FieldType.int)) ∈ TG := tg_t (List.mem_of_getElem? (i := 472) (by decide +kernel)) (by decide +kernel)
theorem k_ml_L_52 : (Jvm.Cond.methodLink "CapabilityCoreLaw" (52 : Nat) y_M_traps) ∈ TG := tg_t (List.mem_of_getElem? (i := 473) (by decide +kernel)) (by decide +kernel)
theorem k_im_M_traps : (Jvm.Cond.instanceMethod y_M_traps) ∈ TG := tg_t (List.mem_of_getElem? (i := 474) (by decide +kernel)) (by decide +kernel)
theorem k_sel_M_traps : (Jvm.Cond.selects "CapabilityCoreModel" y_M_traps y_M_traps) ∈ TG := tg_t (List.mem_of_getElem? (i := 475) (by decide +kernel)) (by decide +kernel)
theorem k_code_M_traps : (Jvm.Cond.code y_M_traps prog_4_method_40_code (1 : Nat) (Option.some Jvm.ClassFile.FieldType.int)) ∈ TG := tg_t (List.mem_of_getElem? (i := 476) (by decide +kernel)) (by decide +kernel)
theorem k_ml_L_57 : (Jvm.Cond.methodLink "CapabilityCoreLaw" (57 : Nat) y_M_register) ∈ TG := tg_t (List.mem_of_getElem? (i := 477) (by decide +kernel)) (by decide +kernel)
theorem k_im_M_register : (Jvm.Cond.instanceMethod y_M_register) ∈ TG := tg_t (List.mem_of_getElem? (i := 478) (by decide +kernel)) (by decide +kernel)
theorem k_sel_M_register : (Jvm.Cond.selects "CapabilityCoreModel" y_M_register y_M_register) ∈ TG := tg_t (List.mem_of_getElem? (i := 479) (by decide +kernel)) (by decide +kernel)
theorem k_code_M_register : (Jvm.Cond.code y_M_register prog_4_method_42_code (3 : Nat) (Option.some Jvm.ClassFile.FieldType.int)) ∈ TG := tg_t (List.mem_of_getElem? (i := 480) (by decide +kernel)) (by decide +kernel)
theorem k_ml_M_160 : (Jvm.Cond.methodLink "CapabilityCoreModel" (160 : Nat) y_M_isRegister) ∈ TG := tg_t (List.mem_of_getElem? (i := 481) (by decide +kernel)) (by decide +kernel)
end
section
theorem k_st_M_isRegister : (Jvm.Cond.static y_M_isRegister) ∈ TG := tg_t (List.mem_of_getElem? (i := 482) (by decide +kernel)) (by decide +kernel)
theorem k_code_M_isRegister : (Jvm.Cond.code y_M_isRegister prog_4_method_41_code (1 : Nat) (Option.some Jvm.ClassFile.FieldType.boolean)) ∈ TG := tg_t (List.mem_of_getElem? (i := 483) (by decide +kernel)) (by decide +kernel)
theorem k_ml_L_62 : (Jvm.Cond.methodLink "CapabilityCoreLaw" (62 : Nat) y_M_base) ∈ TG := tg_t (List.mem_of_getElem? (i := 484) (by decide +kernel)) (by decide +kernel)
theorem k_im_M_base : (Jvm.Cond.instanceMethod y_M_base) ∈ TG := tg_t (List.mem_of_getElem? (i := 485) (by decide +kernel)) (by decide +kernel)
theorem k_sel_M_base : (Jvm.Cond.selects "CapabilityCoreModel" y_M_base y_M_base) ∈ TG := tg_t (List.mem_of_getElem? (i := 486) (by decide +kernel)) (by decide +kernel)
theorem k_code_M_base : (Jvm.Cond.code y_M_base prog_4_method_43_code (2 : Nat) (Option.some Jvm.ClassFile.FieldType.long)) ∈ TG := tg_t (List.mem_of_getElem? (i := 487) (by decide +kernel)) (by decide +kernel)
theorem k_ml_L_66 : (Jvm.Cond.methodLink "CapabilityCoreLaw" (66 : Nat) y_M_top) ∈ TG := tg_t (List.mem_of_getElem? (i := 488) (by decide +kernel)) (by decide +kernel)
theorem k_im_M_top : (Jvm.Cond.instanceMethod y_M_top) ∈ TG := tg_t (List.mem_of_getElem? (i := 489) (by decide +kernel)) (by decide +kernel)
theorem k_sel_M_top : (Jvm.Cond.selects "CapabilityCoreModel" y_M_top y_M_top) ∈ TG := tg_t (List.mem_of_getElem? (i := 490) (by decide +kernel)) (by decide +kernel)
theorem k_code_M_top : (Jvm.Cond.code y_M_top prog_4_method_44_code (2 : Nat) (Option.some Jvm.ClassFile.FieldType.long)) ∈ TG := tg_t (List.mem_of_getElem? (i := 491) (by decide +kernel)) (by decide +kernel)
theorem k_ml_L_70 : (Jvm.Cond.methodLink "CapabilityCoreLaw" (70 : Nat) y_M_give) ∈ TG := tg_t (List.mem_of_getElem? (i := 492) (by decide +kernel)) (by decide +kernel)
theorem k_im_M_give : (Jvm.Cond.instanceMethod y_M_give) ∈ TG := tg_t (List.mem_of_getElem? (i := 493) (by decide +kernel)) (by decide +kernel)
theorem k_sel_M_give : (Jvm.Cond.selects "CapabilityCoreModel" y_M_give y_M_give) ∈ TG := tg_t (List.mem_of_getElem? (i := 494) (by decide +kernel)) (by decide +kernel)
theorem k_code_M_give : (Jvm.Cond.code y_M_give prog_4_method_45_code (3 : Nat) (Option.some Jvm.ClassFile.FieldType.boolean)) ∈ TG := tg_t (List.mem_of_getElem? (i := 495) (by decide +kernel)) (by decide +kernel)
theorem k_sel_X_writeWord : Cond.selects R_X y_X_writeWord y_X_writeWord ∈ TG := tg_p (List.mem_of_getElem? (i := 0) (by decide +kernel)) (by decide +kernel)
theorem k_sel_X_makeStep : Cond.selects R_X y_X_makeStep y_X_makeStep ∈ TG := tg_p (List.mem_of_getElem? (i := 1) (by decide +kernel)) (by decide +kernel)
theorem k_sel_X_check : Cond.selects R_X y_X_check y_X_check ∈ TG := tg_p (List.mem_of_getElem? (i := 2) (by decide +kernel)) (by decide +kernel)
theorem k_sel_X_execute : Cond.selects R_X y_X_execute y_X_execute ∈ TG := tg_p (List.mem_of_getElem? (i := 3) (by decide +kernel)) (by decide +kernel)
theorem k_sel_X_load : Cond.selects R_X y_X_load y_X_load ∈ TG := tg_p (List.mem_of_getElem? (i := 4) (by decide +kernel)) (by decide +kernel)
theorem k_sel_X_writeNumber : Cond.selects R_X y_X_writeNumber y_X_writeNumber ∈ TG := tg_p (List.mem_of_getElem? (i := 5) (by decide +kernel)) (by decide +kernel)
theorem k_sel_X_store : Cond.selects R_X y_X_store y_X_store ∈ TG := tg_p (List.mem_of_getElem? (i := 6) (by decide +kernel)) (by decide +kernel)
theorem k_sel_X_loadCapability : Cond.selects R_X y_X_loadCapability y_X_loadCapability ∈ TG := tg_p (List.mem_of_getElem? (i := 7) (by decide +kernel)) (by decide +kernel)
theorem k_sel_X_writeMade : Cond.selects R_X y_X_writeMade y_X_writeMade ∈ TG := tg_p (List.mem_of_getElem? (i := 8) (by decide +kernel)) (by decide +kernel)
theorem k_sel_X_storeCapability : Cond.selects R_X y_X_storeCapability y_X_storeCapability ∈ TG := tg_p (List.mem_of_getElem? (i := 9) (by decide +kernel)) (by decide +kernel)
theorem k_sel_X_branch : Cond.selects R_X y_X_branch y_X_branch ∈ TG := tg_p (List.mem_of_getElem? (i := 10) (by decide +kernel)) (by decide +kernel)
theorem k_sel_X_writeLink : Cond.selects R_X y_X_writeLink y_X_writeLink ∈ TG := tg_p (List.mem_of_getElem? (i := 11) (by decide +kernel)) (by decide +kernel)
theorem k_sel_X_jump : Cond.selects R_X y_X_jump y_X_jump ∈ TG := tg_p (List.mem_of_getElem? (i := 12) (by decide +kernel)) (by decide +kernel)
theorem k_sel_X_seal : Cond.selects R_X y_X_seal y_X_seal ∈ TG := tg_p (List.mem_of_getElem? (i := 13) (by decide +kernel)) (by decide +kernel)
theorem k_sel_X_writeWithType : Cond.selects R_X y_X_writeWithType y_X_writeWithType ∈ TG := tg_p (List.mem_of_getElem? (i := 14) (by decide +kernel)) (by decide +kernel)
theorem k_sel_X_unseal : Cond.selects R_X y_X_unseal y_X_unseal ∈ TG := tg_p (List.mem_of_getElem? (i := 15) (by decide +kernel)) (by decide +kernel)
theorem k_sel_X_swap : Cond.selects R_X y_X_swap y_X_swap ∈ TG := tg_p (List.mem_of_getElem? (i := 16) (by decide +kernel)) (by decide +kernel)
theorem k_sel_X_returnFromTrap : Cond.selects R_X y_X_returnFromTrap y_X_returnFromTrap ∈ TG := tg_p (List.mem_of_getElem? (i := 17) (by decide +kernel)) (by decide +kernel)
theorem k_sel_X_derive : Cond.selects R_X y_X_derive y_X_derive ∈ TG := tg_p (List.mem_of_getElem? (i := 18) (by decide +kernel)) (by decide +kernel)
theorem k_sel_X_narrow : Cond.selects R_X y_X_narrow y_X_narrow ∈ TG := tg_p (List.mem_of_getElem? (i := 19) (by decide +kernel)) (by decide +kernel)
theorem k_sel_X_enterTrap : Cond.selects R_X y_X_enterTrap y_X_enterTrap ∈ TG := tg_p (List.mem_of_getElem? (i := 20) (by decide +kernel)) (by decide +kernel)
theorem k_sel_M_first : Cond.selects R_M y_M_first y_M_first ∈ TG := tg_p (List.mem_of_getElem? (i := 21) (by decide +kernel)) (by decide +kernel)
theorem k_sel_M_step : Cond.selects R_M y_M_step y_M_step ∈ TG := tg_p (List.mem_of_getElem? (i := 22) (by decide +kernel)) (by decide +kernel)
theorem k_sel_M_check : Cond.selects R_M y_M_check y_M_check ∈ TG := tg_p (List.mem_of_getElem? (i := 23) (by decide +kernel)) (by decide +kernel)
theorem k_sel_M_has : Cond.selects R_M y_M_has y_M_has ∈ TG := tg_p (List.mem_of_getElem? (i := 24) (by decide +kernel)) (by decide +kernel)
theorem k_sel_M_trap : Cond.selects R_M y_M_trap y_M_trap ∈ TG := tg_p (List.mem_of_getElem? (i := 25) (by decide +kernel)) (by decide +kernel)
theorem k_sel_M_take : Cond.selects R_M y_M_take y_M_take ∈ TG := tg_p (List.mem_of_getElem? (i := 26) (by decide +kernel)) (by decide +kernel)
theorem k_sel_M_put : Cond.selects R_M y_M_put y_M_put ∈ TG := tg_p (List.mem_of_getElem? (i := 27) (by decide +kernel)) (by decide +kernel)
theorem k_sel_M_trapOf : Cond.selects R_M y_M_trapOf y_M_trapOf ∈ TG := tg_p (List.mem_of_getElem? (i := 28) (by decide +kernel)) (by decide +kernel)
theorem k_sel_M_sealing : Cond.selects R_M y_M_sealing y_M_sealing ∈ TG := tg_p (List.mem_of_getElem? (i := 29) (by decide +kernel)) (by decide +kernel)
theorem k_sel_M_number : Cond.selects R_M y_M_number y_M_number ∈ TG := tg_p (List.mem_of_getElem? (i := 30) (by decide +kernel)) (by decide +kernel)
theorem k_sel_M_go : Cond.selects R_M y_M_go y_M_go ∈ TG := tg_p (List.mem_of_getElem? (i := 31) (by decide +kernel)) (by decide +kernel)
theorem k_sel_M_move : Cond.selects R_M y_M_move y_M_move ∈ TG := tg_p (List.mem_of_getElem? (i := 32) (by decide +kernel)) (by decide +kernel)
theorem k_sel_M_access : Cond.selects R_M y_M_access y_M_access ∈ TG := tg_p (List.mem_of_getElem? (i := 33) (by decide +kernel)) (by decide +kernel)
theorem k_sel_M_turn : Cond.selects R_M y_M_turn y_M_turn ∈ TG := tg_p (List.mem_of_getElem? (i := 34) (by decide +kernel)) (by decide +kernel)
theorem k_sel_M_link : Cond.selects R_M y_M_link y_M_link ∈ TG := tg_p (List.mem_of_getElem? (i := 35) (by decide +kernel)) (by decide +kernel)
theorem k_sel_M_typed : Cond.selects R_M y_M_typed y_M_typed ∈ TG := tg_p (List.mem_of_getElem? (i := 36) (by decide +kernel)) (by decide +kernel)
theorem k_sel_M_shape : Cond.selects R_M y_M_shape y_M_shape ∈ TG := tg_p (List.mem_of_getElem? (i := 37) (by decide +kernel)) (by decide +kernel)
theorem k_sel_M_told : Cond.selects R_M y_M_told y_M_told ∈ TG := tg_p (List.mem_of_getElem? (i := 38) (by decide +kernel)) (by decide +kernel)
theorem k_sel_M_build : Cond.selects R_M y_M_build y_M_build ∈ TG := tg_p (List.mem_of_getElem? (i := 39) (by decide +kernel)) (by decide +kernel)
theorem k_sel_M_rule : Cond.selects R_M y_M_rule y_M_rule ∈ TG := tg_p (List.mem_of_getElem? (i := 40) (by decide +kernel)) (by decide +kernel)
end
section
-- the state of either side as one function of two numbers: row and place.
-- rows: 0 words, 1 granule tags, 2 tags, 3 metas, 4 addresses (of registers 0 .. 11; the class's 'made' is place 12), 5: state, cause, steps, traps; 6 (reference alone): newAddress, newMeta, newTag
abbrev Mem : Type := Nat → Nat → Int32
def wr (σ : Mem) (k i : Nat) (v : Int32) : Mem := fun k' i' => if k' = k ∧ i' = i then v else σ k' i'
theorem wr_same (σ : Mem) (k i : Nat) (v : Int32) : wr σ k i v k i = v := by simp [wr]
theorem wr_row (σ : Mem) {k k' : Nat} (i : Nat) (v : Int32) (h : k' ≠ k) : wr σ k i v k' = σ k' := by funext j; simp [wr, h]
theorem wr_pl (σ : Mem) (k : Nat) {i j : Nat} (v : Int32) (h : j ≠ i) : wr σ k i v k j = σ k j := by simp [wr, h]
theorem wr_upd (σ : Mem) (k i : Nat) (v : Int32) : wr σ k i v k = upd (σ k) i v := by funext j; simp [wr, upd]
/-- what a variable of type boolean keeps -/
def bo (x : Int32) : Int32 := x &&& 1
theorem bo_01 (x : Int32) : bo x = 0 ∨ bo x = 1 := by
  have h := pk_and x (m := 1) 1 (by decide)
  have h2 : x.toBitVec.toNat % 2 ^ 1 = 0 ∨ x.toBitVec.toNat % 2 ^ 1 = 1 := by omega
  unfold bo
  rcases h2 with e | e <;> rw [h, e]
  · exact Or.inl (by decide)
  · exact Or.inr (by decide)
theorem bo_0 : bo 0 = 0 := by decide
theorem bo_1 : bo 1 = 1 := by decide
theorem bo_bo (x : Int32) : bo (bo x) = bo x := by
  rcases bo_01 x with e | e <;> rw [e] <;> decide
theorem bo_nar {x : Int32} (h : bo x = x) : narrow .boolean (.int x) = .int x := by
  show Value.int (x &&& 1) = Value.int x
  have h : x &&& 1 = x := h
  rw [h]
theorem bo_fit {x : Int32} (h : bo x = x) : fits .boolean (.int x) = true := by
  rcases bo_01 x with e | e <;> rw [h] at e <;> subst e <;> decide
-- the two worlds
def cF (a : Nat → Nat) (σ : Mem) : List Value := [.ref (a 1), .ref (a 2), .ref (a 3), .ref (a (4 + 8)), .ref (a (4 + 12)), .int (σ 5 0), .int (σ 5 1), .int (σ 5 2), .int (σ 5 3)]
def kF (σ : Mem) (i : Nat) : List Value := [.int (bo (σ 2 i)), .int (σ 3 i), .int (σ 4 i)]
def cwL (a : Nat → Nat) (cA : Nat → ClassId) (σ : Mem) : va_W := (a 0, .inr (1, cF a σ)) :: (a 1, .inl (cA 0, 256, .inl (σ 0))) :: (a 2, .inl (cA 1, 128, .inl (fun i => bo (σ 1 i)))) :: (a 3, .inl (cA 2, 12, .inr (.inr (.inr (.inr (fun i => some (a (4 + i)))))))) :: (List.range 13).map (fun i => (a (4 + i), .inr (0, kF σ i)))
def rF (a : Nat → Nat) (σ : Mem) : List Value := [.ref (a 1), .ref (a 2), .ref (a 3), .ref (a 4), .ref (a 5), .int (σ 5 0), .int (σ 5 1), .int (σ 5 2), .int (σ 5 3), .int (σ 6 0), .int (σ 6 1), .int (bo (σ 6 2))]
def rwL (a : Nat → Nat) (cA : Nat → ClassId) (σ : Mem) : va_W := [(a 0, .inr (2, rF a σ)), (a 1, .inl (cA 0, 12, .inl (σ 4))), (a 2, .inl (cA 1, 12, .inl (σ 3))), (a 3, .inl (cA 2, 12, .inl (fun i => bo (σ 2 i)))), (a 4, .inl (cA 3, 256, .inl (σ 0))), (a 5, .inl (cA 4, 128, .inl (fun i => bo (σ 1 i))))]
abbrev cty (cA : Nat → ClassId) : List (ClassId × FieldType) := [(cA 0, .int), (cA 1, .boolean), (cA 2, .object R_K)]
abbrev rty (cA : Nat → ClassId) : List (ClassId × FieldType) := [(cA 0, .int), (cA 1, .int), (cA 2, .boolean), (cA 3, .int), (cA 4, .boolean)]
def aB (a : Nat → Nat) (n : Nat) : Nat → Prop := fun q => ∃ k, k < n ∧ q = a k
theorem map_set {α : Type} (f g : Nat → α) (n i : Nat) (h : ∀ j, j ≠ i → g j = f j) (hi : i < n) : ((List.range n).map f).set i (g i) = (List.range n).map g := by
  apply List.ext_getElem?
  intro j
  by_cases hj : j = i
  · subst hj
    rw [List.getElem?_set_self (by simpa using hi)]
    simp [hi]
  · rw [List.getElem?_set_ne (Ne.symm hj), List.getElem?_map, List.getElem?_map]
    by_cases hn : j < n
    · rw [List.getElem?_range hn]
      simp [h j hj]
    · rw [List.getElem?_eq_none (by simpa using hn)]
      rfl
theorem cw_at {a : Nat → Nat} {cA : Nat → ClassId} {σ : Mem} {i : Nat} (hi : i < 13) : (cwL a cA σ)[4 + i]? = some (a (4 + i), .inr (0, kF σ i)) := by
  rw [show 4 + i = i + 4 by omega]
  simp only [cwL, List.getElem?_cons_succ, List.getElem?_map]
  rw [List.getElem?_range hi]
  simp [Nat.add_comm]
theorem cw_setK {a : Nat → Nat} {cA : Nat → ClassId} {σ τ : Mem} {i : Nat} (hi : i < 13) (h0 : τ 0 = σ 0) (h1 : τ 1 = σ 1) (h5 : τ 5 = σ 5) (hk : ∀ j, j ≠ i → kF τ j = kF σ j) : (cwL a cA σ).set (4 + i) (a (4 + i), .inr (0, kF τ i)) = cwL a cA τ := by
  rw [show 4 + i = i + 4 by omega]
  simp only [cwL, List.set_cons_succ]
  rw [show cF a τ = cF a σ by simp [cF, h5], h0, h1]
  have e := map_set (fun i => (a (4 + i), (.inr (0, kF σ i) : va_E))) (fun i => (a (4 + i), (.inr (0, kF τ i) : va_E))) 13 i (fun j hj => by simp [hk j hj]) hi
  rw [show i + 4 = 4 + i by omega, ← e]
theorem cw_set2 {a : Nat → Nat} {cA : Nat → ClassId} {σ : Mem} {i : Nat} {v : Int32} (hi : i < 13) (hb : bo v = v) : (cwL a cA σ).set (4 + i) (a (4 + i), .inr (0, (kF σ i).set 0 (.int v))) = cwL a cA (wr σ 2 i v) := by
  have e : (kF σ i).set 0 (.int v) = kF (wr σ 2 i v) i := by simp [kF, wr, hb]
  rw [e]
  exact cw_setK hi (wr_row _ _ _ (by decide)) (wr_row _ _ _ (by decide)) (wr_row _ _ _ (by decide)) (fun j hj => by simp [kF, wr, hj])
theorem cw_set3 {a : Nat → Nat} {cA : Nat → ClassId} {σ : Mem} {i : Nat} {v : Int32} (hi : i < 13) : (cwL a cA σ).set (4 + i) (a (4 + i), .inr (0, (kF σ i).set 1 (.int v))) = cwL a cA (wr σ 3 i v) := by
  have e : (kF σ i).set 1 (.int v) = kF (wr σ 3 i v) i := by simp [kF, wr]
  rw [e]
  exact cw_setK hi (wr_row _ _ _ (by decide)) (wr_row _ _ _ (by decide)) (wr_row _ _ _ (by decide)) (fun j hj => by simp [kF, wr, hj])
theorem cw_set4 {a : Nat → Nat} {cA : Nat → ClassId} {σ : Mem} {i : Nat} {v : Int32} (hi : i < 13) : (cwL a cA σ).set (4 + i) (a (4 + i), .inr (0, (kF σ i).set 2 (.int v))) = cwL a cA (wr σ 4 i v) := by
  have e : (kF σ i).set 2 (.int v) = kF (wr σ 4 i v) i := by simp [kF, wr]
  rw [e]
  exact cw_setK hi (wr_row _ _ _ (by decide)) (wr_row _ _ _ (by decide)) (wr_row _ _ _ (by decide)) (fun j hj => by simp [kF, wr, hj])
theorem kF_ne {σ : Mem} {k i : Nat} {v : Int32} (h2 : k ≠ 2) (h3 : k ≠ 3) (h4 : k ≠ 4) : kF (wr σ k i v) = kF σ := by
  funext j
  simp [kF, wr, Ne.symm h2, Ne.symm h3, Ne.symm h4]
theorem cw_set5 {a : Nat → Nat} {cA : Nat → ClassId} {σ : Mem} {v : Int32} (j : Nat) (hj : j < 4) : (cwL a cA σ).set 0 (a 0, .inr (1, (cF a σ).set (5 + j) (.int v))) = cwL a cA (wr σ 5 j v) := by
  have e : (cF a σ).set (5 + j) (.int v) = cF a (wr σ 5 j v) := by
    match j, hj with
    | 0, _ => simp [cF, wr]
    | 1, _ => simp [cF, wr]
    | 2, _ => simp [cF, wr]
    | 3, _ => simp [cF, wr]
  rw [e]
  simp only [cwL, List.set_cons_zero]
  rw [wr_row σ j v (show 0 ≠ 5 by decide), wr_row σ j v (show 1 ≠ 5 by decide), kF_ne (by decide) (by decide) (by decide)]
theorem cF_ne {a : Nat → Nat} {σ : Mem} {k i : Nat} {v : Int32} (h : k ≠ 5) : cF a (wr σ k i v) = cF a σ := by
  simp [cF, wr, Ne.symm h]
theorem cw_set0 {a : Nat → Nat} {cA : Nat → ClassId} {σ : Mem} {i : Nat} {v : Int32} : (cwL a cA σ).set 1 (a 1, .inl (cA 0, 256, .inl (upd (σ 0) i v))) = cwL a cA (wr σ 0 i v) := by
  simp only [cwL, List.set_cons_succ, List.set_cons_zero]
  rw [wr_upd, wr_row σ i v (show 1 ≠ 0 by decide), kF_ne (by decide) (by decide) (by decide), cF_ne (by decide)]
theorem bo_upd (f : Nat → Int32) (i : Nat) (v : Int32) : upd (fun j => bo (f j)) i (vp_nar .boolean v) = fun j => bo (upd f i v j) := by
  funext j
  by_cases h : j = i
  · subst h
    simp only [upd, if_true]
    rfl
  · simp only [upd, if_neg h]
theorem cw_set1 {a : Nat → Nat} {cA : Nat → ClassId} {σ : Mem} {i : Nat} {v : Int32} : (cwL a cA σ).set 2 (a 2, .inl (cA 1, 128, .inl (upd (fun j => bo (σ 1 j)) i (vp_nar .boolean v)))) = cwL a cA (wr σ 1 i v) := by
  simp only [cwL, List.set_cons_succ, List.set_cons_zero]
  rw [bo_upd, wr_upd, wr_row σ i v (show 0 ≠ 1 by decide), kF_ne (by decide) (by decide) (by decide), cF_ne (by decide)]
-- the reference's world
theorem rF_ne {a : Nat → Nat} {σ : Mem} {k i : Nat} {v : Int32} (h5 : k ≠ 5) (h6 : k ≠ 6) : rF a (wr σ k i v) = rF a σ := by
  simp [rF, wr, Ne.symm h5, Ne.symm h6]
theorem rw_set5 {a : Nat → Nat} {cA : Nat → ClassId} {σ : Mem} {v : Int32} (j : Nat) (hj : j < 4) : (rwL a cA σ).set 0 (a 0, .inr (2, (rF a σ).set (5 + j) (.int v))) = rwL a cA (wr σ 5 j v) := by
  have e : (rF a σ).set (5 + j) (.int v) = rF a (wr σ 5 j v) := by
    match j, hj with
    | 0, _ => simp [rF, wr]
    | 1, _ => simp [rF, wr]
    | 2, _ => simp [rF, wr]
    | 3, _ => simp [rF, wr]
  rw [e]
  simp only [rwL, List.set_cons_zero]
  rw [wr_row σ j v (show 0 ≠ 5 by decide), wr_row σ j v (show 1 ≠ 5 by decide), wr_row σ j v (show 2 ≠ 5 by decide), wr_row σ j v (show 3 ≠ 5 by decide), wr_row σ j v (show 4 ≠ 5 by decide)]
theorem rw_set6 {a : Nat → Nat} {cA : Nat → ClassId} {σ : Mem} {v : Int32} (j : Nat) (hj : j < 3) (hb : j = 2 → bo v = v) : (rwL a cA σ).set 0 (a 0, .inr (2, (rF a σ).set (9 + j) (.int v))) = rwL a cA (wr σ 6 j v) := by
  have e : (rF a σ).set (9 + j) (.int v) = rF a (wr σ 6 j v) := by
    match j, hj with
    | 0, _ => simp [rF, wr]
    | 1, _ => simp [rF, wr]
    | 2, _ => simp [rF, wr, hb rfl]
  rw [e]
  simp only [rwL, List.set_cons_zero]
  rw [wr_row σ j v (show 0 ≠ 6 by decide), wr_row σ j v (show 1 ≠ 6 by decide), wr_row σ j v (show 2 ≠ 6 by decide), wr_row σ j v (show 3 ≠ 6 by decide), wr_row σ j v (show 4 ≠ 6 by decide)]
theorem rw_set4 {a : Nat → Nat} {cA : Nat → ClassId} {σ : Mem} {i : Nat} {v : Int32} : (rwL a cA σ).set 1 (a 1, .inl (cA 0, 12, .inl (upd (σ 4) i v))) = rwL a cA (wr σ 4 i v) := by
  simp only [rwL, List.set_cons_succ, List.set_cons_zero]
  rw [wr_upd, wr_row σ i v (show 0 ≠ 4 by decide), wr_row σ i v (show 1 ≠ 4 by decide), wr_row σ i v (show 2 ≠ 4 by decide), wr_row σ i v (show 3 ≠ 4 by decide), rF_ne (by decide) (by decide)]
theorem rw_set3 {a : Nat → Nat} {cA : Nat → ClassId} {σ : Mem} {i : Nat} {v : Int32} : (rwL a cA σ).set 2 (a 2, .inl (cA 1, 12, .inl (upd (σ 3) i v))) = rwL a cA (wr σ 3 i v) := by
  simp only [rwL, List.set_cons_succ, List.set_cons_zero]
  rw [wr_upd, wr_row σ i v (show 0 ≠ 3 by decide), wr_row σ i v (show 1 ≠ 3 by decide), wr_row σ i v (show 2 ≠ 3 by decide), wr_row σ i v (show 4 ≠ 3 by decide), rF_ne (by decide) (by decide)]
theorem rw_set2 {a : Nat → Nat} {cA : Nat → ClassId} {σ : Mem} {i : Nat} {v : Int32} : (rwL a cA σ).set 3 (a 3, .inl (cA 2, 12, .inl (upd (fun j => bo (σ 2 j)) i (vp_nar .boolean v)))) = rwL a cA (wr σ 2 i v) := by
  simp only [rwL, List.set_cons_succ, List.set_cons_zero]
  rw [bo_upd, wr_upd, wr_row σ i v (show 0 ≠ 2 by decide), wr_row σ i v (show 1 ≠ 2 by decide), wr_row σ i v (show 3 ≠ 2 by decide), wr_row σ i v (show 4 ≠ 2 by decide), rF_ne (by decide) (by decide)]
theorem rw_set0 {a : Nat → Nat} {cA : Nat → ClassId} {σ : Mem} {i : Nat} {v : Int32} : (rwL a cA σ).set 4 (a 4, .inl (cA 3, 256, .inl (upd (σ 0) i v))) = rwL a cA (wr σ 0 i v) := by
  simp only [rwL, List.set_cons_succ, List.set_cons_zero]
  rw [wr_upd, wr_row σ i v (show 1 ≠ 0 by decide), wr_row σ i v (show 2 ≠ 0 by decide), wr_row σ i v (show 3 ≠ 0 by decide), wr_row σ i v (show 4 ≠ 0 by decide), rF_ne (by decide) (by decide)]
theorem rw_set1 {a : Nat → Nat} {cA : Nat → ClassId} {σ : Mem} {i : Nat} {v : Int32} : (rwL a cA σ).set 5 (a 5, .inl (cA 4, 128, .inl (upd (fun j => bo (σ 1 j)) i (vp_nar .boolean v)))) = rwL a cA (wr σ 1 i v) := by
  simp only [rwL, List.set_cons_succ, List.set_cons_zero]
  rw [bo_upd, wr_upd, wr_row σ i v (show 0 ≠ 1 by decide), wr_row σ i v (show 2 ≠ 1 by decide), wr_row σ i v (show 3 ≠ 1 by decide), wr_row σ i v (show 4 ≠ 1 by decide), rF_ne (by decide) (by decide)]
end
section
-- what is fixed in a method's body, what changes, and the contracts
/-- the words of nest mates: the core's own use of a capability's fields -/
def nW (U : State) : Prop := va_Nw (.fieldLinkNest R_X 62 R_K "address" "I" R_X) U ∧ va_Nw (.fieldLinkNest R_X 65 R_K "meta" "I" R_X) U ∧ va_Nw (.fieldLinkNest R_X 68 R_K "tag" "Z" R_X) U
theorem nW.warm {s U : State} (hW : s.WarmedH U.vm) (h : nW s) : nW U := ⟨va_Nw.warmF hW h.1, va_Nw.warmF hW h.2.1, va_Nw.warmF hW h.2.2⟩
theorem nW.blind {U : State} {g : JFrame} {mk : MethodId} {a : Array Value} (h : nW U) : nW (U.calling g mk a) := ⟨va_Nw.same rfl (u := U) rfl h.1, va_Nw.same rfl (u := U) rfl h.2.1, va_Nw.same rfl (u := U) rfl h.2.2⟩
abbrev Wl : Type := Mem → va_W
abbrev Tys : Type := List (ClassId × FieldType)
def sA (B0 : Nat → Prop) (sz : Nat) : Nat → Prop := fun q => B0 q ∨ sz ≤ q
/-- a method's start -/
def sP (D : va_G) (wl : Wl) (tys : Tys) (B0 : Nat → Prop) (σ : Mem) (U : State) : Prop := va_P D classes (wl σ) U.heap ∧ va_K D classes tys U ∧ nW U ∧ ∀ τ : Mem, va_D B0 (wl τ)
/-- fixed in a body -/
def sF (p : Program) (m : MethodId) (c : Code) (cc : ByteArray) (nL : Nat) (s : State) (args : Array Value) (c0 : Cond) (own : String) (D : va_G) (wl : Wl) (tys : Tys) (B0 : Nat → Prop) : Prop := CallFix p m c cc nL s args (c0 :: TG) own ∧ va_K D classes tys s ∧ nW s ∧ ∀ τ : Mem, va_D B0 (wl τ)
/-- changes in a body -/
def sS (D : va_G) (wl : Wl) (B0 : Nat → Prop) (s : State) (σ : Mem) (H : Heap) (locs : List Loc) : Prop := va_P D classes (wl σ) H ∧ va_S (sA B0 s.heap.size) s.heap H locs
def sQ (D : va_G) (wl : Wl) (u : Mem) (t : State) : Prop := va_P D classes (wl u) t.heap
def cI (l : Launch) (y : MethodName) (w : List Cond) (rm : Room) (D : va_G) (wl : Wl) (tys : Tys) (B0 : Nat → Prop) (av : List Value) (σ : Mem) (P : Int32 × Mem) : Prop := ∀ sz : Nat, Met l y w rm (va_Pc av (fun U => U.heap.size = sz ∧ sP D wl tys B0 σ U)) (va_Qi (fun r u => P = (r, u)) (sQ D wl) (sA B0 sz)) 0 0 (sA B0 sz)
def cL (l : Launch) (y : MethodName) (w : List Cond) (rm : Room) (D : va_G) (wl : Wl) (tys : Tys) (B0 : Nat → Prop) (av : List Value) (σ : Mem) (P : Int64 × Mem) : Prop := ∀ sz : Nat, Met l y w rm (va_Pc av (fun U => U.heap.size = sz ∧ sP D wl tys B0 σ U)) (va_Ql (fun r u => P = (r, u)) (sQ D wl) (sA B0 sz)) 0 0 (sA B0 sz)
def cV (l : Launch) (y : MethodName) (w : List Cond) (rm : Room) (D : va_G) (wl : Wl) (tys : Tys) (B0 : Nat → Prop) (av : List Value) (σ : Mem) (P : Mem) : Prop := ∀ sz : Nat, Met l y w rm (va_Pc av (fun U => U.heap.size = sz ∧ sP D wl tys B0 σ U)) (va_Qv (fun u => P = u) (sQ D wl) (sA B0 sz)) 0 0 (sA B0 sz)
abbrev rmO (f n : Nat) : Room := { frames := f, cells := 0, slots := 0, locals := n }
theorem sP.blind {D : va_G} {wl : Wl} {tys : Tys} {B0 : Nat → Prop} {σ : Mem} {sz : Nat} {av : List Value} : FrameBlind (va_Pc av (fun U => U.heap.size = sz ∧ sP D wl tys B0 σ U)) := fun a U g mk q => by
  obtain ⟨q0, q1, qP, qK, qN, qD⟩ := q
  exact ⟨q0, q1, qP, va_K.moved (u := U) (U := U.calling g mk a) (Vm.Alike.refl U.vm) qK, qN.blind, qD⟩
section SB
variable {l : Launch} {y : MethodName} {cc : ByteArray} {maxL : Nat} {rm : Room} {D : va_G} {wl : Wl} {tys : Tys} {B0 : Nat → Prop} {av : List Value} {σ : Mem}
theorem cI_of {P : Int32 × Mem} (hy : plainName y.cls = true) (hlen : (lg_sl av).length ≤ maxL)
    (body : ∀ (p : Program) (e : Env) (s : State) (m : MethodId) (args : Array Value) (below : List Frame) (meth : Method) (c : Code) (Q : State → Prop) (ls : Array Slot), p.tables.exec = Jvm.exec → c.code = cc → sF p m c cc maxL s args (.code y cc maxL (some .int)) y.cls D wl tys B0 → lv_has ls maxL (lv_args 0 av) → sS D wl B0 s σ s.heap [] →
      (∀ (H : Heap) (locs : List Loc) (v : Int32) (u : Mem) (pc : Nat) (ls' : Array Slot), sS D wl B0 s u H locs → P = (v, u) → decode cc pc = .ok (.ireturn, 1) → W p l e rm s m args below meth c H locs 0 0 Q (F0 m pc ls' [.int v])) →
      W p l e rm s m args below meth c s.heap [] 0 0 Q (F0 m 0 ls [])) : cI l y (.code y cc maxL (some .int) :: TG) rm D wl tys B0 av σ P := by
  intro sz
  refine Met.ofW (cc := cc) (maxL := maxL) (ret := some .int) hy rfl ?_
  intro p e s m args below meth c s₁ B hml hv
  obtain ⟨rfl, hsz, hP, hK, hN, hD⟩ := hv
  have hx := B.exec
  have hb := B.bytes
  have hr := B.returns
  have hts := atoms_spec (ws := .code y cc maxL (some .int) :: TG) B.pre
  have hown : s.vm.findClass y.cls = some m.cls := findClass_of_methodNamed B.named
  have hlocks := B.notSynchronized
  subst hsz
  rw [lg_entry_eq]
  refine body p e s m _ below meth c _ _ hx hb ⟨⟨hx, hb, hml, hown, hts⟩, hK, hN, hD⟩ (lv_entry av hlen) ⟨hP, va_S.rf⟩ ?_
  intro H locs v u pc ls' hs he hdg
  exact W.iret hx hb hr (fun t ht hW => ⟨⟨v, u, rfl, he, by unfold sQ; rw [ht]; exact hs.1⟩, hs.2.F ht⟩) hs.2.2.2 hdg
theorem cZ_of {P : Int32 × Mem} (hy : plainName y.cls = true) (hlen : (lg_sl av).length ≤ maxL)
    (body : ∀ (p : Program) (e : Env) (s : State) (m : MethodId) (args : Array Value) (below : List Frame) (meth : Method) (c : Code) (Q : State → Prop) (ls : Array Slot), p.tables.exec = Jvm.exec → c.code = cc → sF p m c cc maxL s args (.code y cc maxL (some .boolean)) y.cls D wl tys B0 → lv_has ls maxL (lv_args 0 av) → sS D wl B0 s σ s.heap [] →
      (∀ (H : Heap) (locs : List Loc) (v : Int32) (u : Mem) (pc : Nat) (ls' : Array Slot), sS D wl B0 s u H locs → bo v = v → P = (v, u) → decode cc pc = .ok (.ireturn, 1) → W p l e rm s m args below meth c H locs 0 0 Q (F0 m pc ls' [.int v])) →
      W p l e rm s m args below meth c s.heap [] 0 0 Q (F0 m 0 ls [])) : cI l y (.code y cc maxL (some .boolean) :: TG) rm D wl tys B0 av σ P := by
  intro sz
  refine Met.ofW (cc := cc) (maxL := maxL) (ret := some .boolean) hy rfl ?_
  intro p e s m args below meth c s₁ B hml hv
  obtain ⟨rfl, hsz, hP, hK, hN, hD⟩ := hv
  have hx := B.exec
  have hb := B.bytes
  have hr := B.returns
  have hts := atoms_spec (ws := .code y cc maxL (some .boolean) :: TG) B.pre
  have hown : s.vm.findClass y.cls = some m.cls := findClass_of_methodNamed B.named
  have hlocks := B.notSynchronized
  subst hsz
  rw [lg_entry_eq]
  refine body p e s m _ below meth c _ _ hx hb ⟨⟨hx, hb, hml, hown, hts⟩, hK, hN, hD⟩ (lv_entry av hlen) ⟨hP, va_S.rf⟩ ?_
  intro H locs v u pc ls' hs hbo he hdg
  exact W.zret hx hb hr (bo_nar hbo) (fun t ht hW => ⟨⟨v, u, rfl, he, by unfold sQ; rw [ht]; exact hs.1⟩, hs.2.F ht⟩) hs.2.2.2 hdg
theorem cL_of {P : Int64 × Mem} (hy : plainName y.cls = true) (hlen : (lg_sl av).length ≤ maxL)
    (body : ∀ (p : Program) (e : Env) (s : State) (m : MethodId) (args : Array Value) (below : List Frame) (meth : Method) (c : Code) (Q : State → Prop) (ls : Array Slot), p.tables.exec = Jvm.exec → c.code = cc → sF p m c cc maxL s args (.code y cc maxL (some .long)) y.cls D wl tys B0 → lv_has ls maxL (lv_args 0 av) → sS D wl B0 s σ s.heap [] →
      (∀ (H : Heap) (locs : List Loc) (v : Int64) (u : Mem) (pc : Nat) (ls' : Array Slot), sS D wl B0 s u H locs → P = (v, u) → decode cc pc = .ok (.lreturn, 1) → W p l e rm s m args below meth c H locs 0 0 Q (F0 m pc ls' [.long v])) →
      W p l e rm s m args below meth c s.heap [] 0 0 Q (F0 m 0 ls [])) : cL l y (.code y cc maxL (some .long) :: TG) rm D wl tys B0 av σ P := by
  intro sz
  refine Met.ofW (cc := cc) (maxL := maxL) (ret := some .long) hy rfl ?_
  intro p e s m args below meth c s₁ B hml hv
  obtain ⟨rfl, hsz, hP, hK, hN, hD⟩ := hv
  have hx := B.exec
  have hb := B.bytes
  have hr := B.returns
  have hts := atoms_spec (ws := .code y cc maxL (some .long) :: TG) B.pre
  have hown : s.vm.findClass y.cls = some m.cls := findClass_of_methodNamed B.named
  have hlocks := B.notSynchronized
  subst hsz
  rw [lg_entry_eq]
  refine body p e s m _ below meth c _ _ hx hb ⟨⟨hx, hb, hml, hown, hts⟩, hK, hN, hD⟩ (lv_entry av hlen) ⟨hP, va_S.rf⟩ ?_
  intro H locs v u pc ls' hs he hdg
  exact W.lret hx hb hr (fun t ht hW => ⟨⟨v, u, rfl, he, by unfold sQ; rw [ht]; exact hs.1⟩, hs.2.F ht⟩) hs.2.2.2 hdg
theorem cV_of {P : Mem} (hy : plainName y.cls = true) (hlen : (lg_sl av).length ≤ maxL)
    (body : ∀ (p : Program) (e : Env) (s : State) (m : MethodId) (args : Array Value) (below : List Frame) (meth : Method) (c : Code) (Q : State → Prop) (ls : Array Slot), p.tables.exec = Jvm.exec → c.code = cc → sF p m c cc maxL s args (.code y cc maxL none) y.cls D wl tys B0 → lv_has ls maxL (lv_args 0 av) → sS D wl B0 s σ s.heap [] →
      (∀ (H : Heap) (locs : List Loc) (u : Mem) (pc : Nat) (ls' : Array Slot), sS D wl B0 s u H locs → P = u → decode cc pc = .ok (.return_, 1) → W p l e rm s m args below meth c H locs 0 0 Q (F0 m pc ls' [])) →
      W p l e rm s m args below meth c s.heap [] 0 0 Q (F0 m 0 ls [])) : cV l y (.code y cc maxL none :: TG) rm D wl tys B0 av σ P := by
  intro sz
  refine Met.ofW (cc := cc) (maxL := maxL) (ret := none) hy rfl ?_
  intro p e s m args below meth c s₁ B hml hv
  obtain ⟨rfl, hsz, hP, hK, hN, hD⟩ := hv
  have hx := B.exec
  have hb := B.bytes
  have hr := B.returns
  have hts := atoms_spec (ws := .code y cc maxL none :: TG) B.pre
  have hown : s.vm.findClass y.cls = some m.cls := findClass_of_methodNamed B.named
  have hlocks := B.notSynchronized
  subst hsz
  rw [lg_entry_eq]
  refine body p e s m _ below meth c _ _ hx hb ⟨⟨hx, hb, hml, hown, hts⟩, hK, hN, hD⟩ (lv_entry av hlen) ⟨hP, va_S.rf⟩ ?_
  intro H locs u pc ls' hs he hdg
  exact W.vret hx hb hr (fun t ht hW => ⟨⟨u, rfl, he, by unfold sQ; rw [ht]; exact hs.1⟩, hs.2.F ht⟩) hs.2.2.2 hdg
end SB
-- what a call needs of the tables, a row a method
def mV (y : MethodName) (bytes : ByteArray) (maxL : Nat) (ret : Option FieldType) (n : Nat) : Prop := Cond.code y bytes maxL ret ∈ TG ∧ Cond.initialized y.cls ∈ TG ∧ Cond.instanceMethod y ∈ TG ∧ Cond.selects y.cls y y ∈ TG ∧ y.cls ≠ "java/lang/invoke/MethodHandle" ∧ y.cls ≠ "java/lang/invoke/VarHandle" ∧ (parseMethodDescriptor y.desc).map (fun d => d.parameters.length) = some n
def mS (y : MethodName) (bytes : ByteArray) (maxL : Nat) (ret : Option FieldType) (n : Nat) : Prop := Cond.code y bytes maxL ret ∈ TG ∧ Cond.initialized y.cls ∈ TG ∧ Cond.static y ∈ TG ∧ y.cls ≠ "java/lang/invoke/MethodHandle" ∧ y.cls ≠ "java/lang/invoke/VarHandle" ∧ (parseMethodDescriptor y.desc).map (fun d => d.parameters.length) = some n
/-- a receiver: an object of the world -/
def sR (wl : Wl) (σ : Mem) (b : Nat) (C : String) : Prop := ∃ (q0 ci : Nat) (fs : List Value) (r : vw_C), (wl σ)[q0]? = some (b, .inr (ci, fs)) ∧ classes[ci]? = some r ∧ r.1 = C
theorem rX {a : Nat → Nat} {cA : Nat → ClassId} {σ : Mem} : sR (cwL a cA) σ (a 0) R_X := ⟨0, 1, cF a σ, (R_X, F_X, 9), rfl, rfl, rfl⟩
theorem rK {a : Nat → Nat} {cA : Nat → ClassId} {σ : Mem} {i : Nat} (hi : i < 13) : sR (cwL a cA) σ (a (4 + i)) R_K := ⟨4 + i, 0, kF σ i, (R_K, F_K, 3), cw_at hi, rfl, rfl⟩
theorem rM {a : Nat → Nat} {cA : Nat → ClassId} {σ : Mem} : sR (rwL a cA) σ (a 0) R_M := ⟨0, 2, rF a σ, (R_M, F_M, 12), rfl, rfl, rfl⟩
section SC
variable {p : Program} {l : Launch} {e : Env} {R : Room} {s : State} {m : MethodId} {args : Array Value} {below : List Frame} {meth : Method} {c : Code} {H : Heap} {locs : List Loc} {cells slots : Nat} {Q : State → Prop}
variable {cc : ByteArray} {nL pc : Nat} {ls : Array Slot} {rest st0 : List Value} {c0 : Cond} {own : String} {D : va_G} {wl : Wl} {tys : Tys} {B0 : Nat → Prop} {σ : Mem}
variable {y : MethodName} {bytes : ByteArray} {maxL n ix b : Nat} {ret : Option FieldType} {rm : Room} {As : List Value}
theorem x_pre (hF : sF p m c cc nL s args c0 own D wl tys B0) (hs : sS D wl B0 s σ H locs) {av : List Value} (U : State) (hU : U.heap = H) (hW : s.WarmedH U.vm) : va_Pc av (fun U => U.heap.size = H.size ∧ sP D wl tys B0 σ U) av.toArray U :=
  ⟨rfl, by rw [hU], by rw [hU]; exact hs.1, va_K.moved hW.alike hF.2.1, hF.2.2.1.warm hW, hF.2.2.2⟩
theorem x_recv (hF : sF p m c cc nL s args c0 own D wl tys B0) (hs : sS D wl B0 s σ H locs) {C : String} (h : sR wl σ b C) : ∃ cellB : Cell, H[b]? = some cellB ∧ cellB.vm.isStatics = false ∧ s.vm.findClass C = some cellB.cls := by
  obtain ⟨q0, ci, fs, r, h1, h2, rfl⟩ := h
  exact va_recv hF.2.1 hs.1 h2 h1
theorem x_up (hs : sS D wl B0 s σ H locs) : ∀ q, sA B0 H.size q → sA B0 s.heap.size q := fun q h => h.elim Or.inl (fun h => Or.inr (Nat.le_trans hs.2.1 h))
theorem x_cwV (hF : sF p m c cc nL s args c0 own D wl tys B0) (hv : mV y bytes maxL ret n) (hl : Cond.methodLink own ix y ∈ TG) (hrc : rm.cells = 0) (hrs : rm.slots = 0) (hR : rm.frames + 1 ≤ R.frames ∧ 8 + (maxL + 11) + rm.locals ≤ R.locals) : CallW R s args own y.cls ix y bytes maxL ret (.code y bytes maxL ret :: TG) rm 0 0 n := by
  have hts := hF.1.2.2.2.2
  obtain ⟨h1, h2, h3, h4, h5⟩ := hv
  exact ⟨callB_of n hts (tg_in h1) rfl hrc hrs (hts _ (List.mem_cons_of_mem _ h2)) (hts _ (List.mem_cons_of_mem _ hl)) h5 hR, hts _ (List.mem_cons_of_mem _ h3), hts _ (List.mem_cons_of_mem _ h4)⟩
theorem x_cwS (hF : sF p m c cc nL s args c0 own D wl tys B0) (hv : mS y bytes maxL ret n) (hl : Cond.methodLink own ix y ∈ TG) (hrc : rm.cells = 0) (hrs : rm.slots = 0) (hR : rm.frames + 1 ≤ R.frames ∧ 8 + (maxL + 11) + rm.locals ≤ R.locals) : CallB R s args own ix y bytes maxL ret (.code y bytes maxL ret :: TG) rm 0 0 n ∧ (Cond.static y).before args s = true := by
  have hts := hF.1.2.2.2.2
  obtain ⟨h1, h2, h3, h5⟩ := hv
  exact ⟨callB_of n hts (tg_in h1) rfl hrc hrs (hts _ (List.mem_cons_of_mem _ h2)) (hts _ (List.mem_cons_of_mem _ hl)) h5 hR, hts _ (List.mem_cons_of_mem _ h3)⟩
theorem x_Vi {P : Int32 × Mem} (hF : sF p m c cc nL s args c0 own D wl tys B0) (hs : sS D wl B0 s σ H locs) (hv : mV y bytes maxL ret n) (hl : Cond.methodLink own ix y ∈ TG) (hC : cI l y (.code y bytes maxL ret :: TG) rm D wl tys B0 (.ref b :: As) σ P) (hrc : rm.cells = 0) (hrs : rm.slots = 0) (hR : rm.frames + 1 ≤ R.frames ∧ 8 + (maxL + 11) + rm.locals ≤ R.locals) (hn : As.length = n) (hst : st0 = As.reverse ++ .ref b :: rest) (hsz : ls.size = nL) (hW : (rest.map fun v => v.category).sum ≤ 8) (hb : sR wl σ b y.cls) (hdg : decode cc pc = .ok (.invokevirtual ix, 3)) (hf : cells ≤ R.cells ∧ slots ≤ R.slots)
    (kk : ∀ (H1 : Heap) (locs1 : List Loc), sS D wl B0 s P.2 H1 locs1 → W p l e R s m args below meth c H1 locs1 cells slots Q (F0 m (pc + 3) ls (.int P.1 :: rest))) : W p l e R s m args below meth c H locs cells slots Q (F0 m pc ls st0) := by
  subst hst
  refine va_calli (va_runV (As := As) (rest := rest) (b := b) (C := y.cls) (n := n) hF.1 (hC H.size) (x_cwV hF hv hl hrc hrs hR) ⟨sP.blind, x_recv hF hs hb, x_pre hF hs⟩ rfl hn hsz rfl (lv_room hW) hdg hf) hs.2 (fun q _ h => x_up hs q h) (x_up hs) (fun r u t H1 locs1 ht hvm hpost hB hz hk hS => ?_)
  subst hpost
  exact kk H1 locs1 ⟨by rw [← ht]; exact hB, hS⟩
theorem x_Vl {P : Int64 × Mem} (hF : sF p m c cc nL s args c0 own D wl tys B0) (hs : sS D wl B0 s σ H locs) (hv : mV y bytes maxL ret n) (hl : Cond.methodLink own ix y ∈ TG) (hC : cL l y (.code y bytes maxL ret :: TG) rm D wl tys B0 (.ref b :: As) σ P) (hrc : rm.cells = 0) (hrs : rm.slots = 0) (hR : rm.frames + 1 ≤ R.frames ∧ 8 + (maxL + 11) + rm.locals ≤ R.locals) (hn : As.length = n) (hst : st0 = As.reverse ++ .ref b :: rest) (hsz : ls.size = nL) (hW : (rest.map fun v => v.category).sum ≤ 8) (hb : sR wl σ b y.cls) (hdg : decode cc pc = .ok (.invokevirtual ix, 3)) (hf : cells ≤ R.cells ∧ slots ≤ R.slots)
    (kk : ∀ (H1 : Heap) (locs1 : List Loc), sS D wl B0 s P.2 H1 locs1 → W p l e R s m args below meth c H1 locs1 cells slots Q (F0 m (pc + 3) ls (.long P.1 :: rest))) : W p l e R s m args below meth c H locs cells slots Q (F0 m pc ls st0) := by
  subst hst
  refine va_calll (va_runV (As := As) (rest := rest) (b := b) (C := y.cls) (n := n) hF.1 (hC H.size) (x_cwV hF hv hl hrc hrs hR) ⟨sP.blind, x_recv hF hs hb, x_pre hF hs⟩ rfl hn hsz rfl (lv_room hW) hdg hf) hs.2 (fun q _ h => x_up hs q h) (x_up hs) (fun r u t H1 locs1 ht hvm hpost hB hz hk hS => ?_)
  subst hpost
  exact kk H1 locs1 ⟨by rw [← ht]; exact hB, hS⟩
theorem x_Vv {P : Mem} (hF : sF p m c cc nL s args c0 own D wl tys B0) (hs : sS D wl B0 s σ H locs) (hv : mV y bytes maxL ret n) (hl : Cond.methodLink own ix y ∈ TG) (hC : cV l y (.code y bytes maxL ret :: TG) rm D wl tys B0 (.ref b :: As) σ P) (hrc : rm.cells = 0) (hrs : rm.slots = 0) (hR : rm.frames + 1 ≤ R.frames ∧ 8 + (maxL + 11) + rm.locals ≤ R.locals) (hn : As.length = n) (hst : st0 = As.reverse ++ .ref b :: rest) (hsz : ls.size = nL) (hW : (rest.map fun v => v.category).sum ≤ 8) (hb : sR wl σ b y.cls) (hdg : decode cc pc = .ok (.invokevirtual ix, 3)) (hf : cells ≤ R.cells ∧ slots ≤ R.slots)
    (kk : ∀ (H1 : Heap) (locs1 : List Loc), sS D wl B0 s P H1 locs1 → W p l e R s m args below meth c H1 locs1 cells slots Q (F0 m (pc + 3) ls rest)) : W p l e R s m args below meth c H locs cells slots Q (F0 m pc ls st0) := by
  subst hst
  refine va_callv (va_runV (As := As) (rest := rest) (b := b) (C := y.cls) (n := n) hF.1 (hC H.size) (x_cwV hF hv hl hrc hrs hR) ⟨sP.blind, x_recv hF hs hb, x_pre hF hs⟩ rfl hn hsz rfl (lv_room hW) hdg hf) hs.2 (fun q _ h => x_up hs q h) (x_up hs) (fun u t H1 locs1 ht hvm hpost hB hz hk hS => ?_)
  subst hpost
  exact kk H1 locs1 ⟨by rw [← ht]; exact hB, hS⟩
theorem x_Si {P : Int32 × Mem} (hF : sF p m c cc nL s args c0 own D wl tys B0) (hs : sS D wl B0 s σ H locs) (hv : mS y bytes maxL ret n) (hl : Cond.methodLink own ix y ∈ TG) (hC : cI l y (.code y bytes maxL ret :: TG) rm D wl tys B0 As σ P) (hrc : rm.cells = 0) (hrs : rm.slots = 0) (hR : rm.frames + 1 ≤ R.frames ∧ 8 + (maxL + 11) + rm.locals ≤ R.locals) (hn : As.length = n) (hst : st0 = As.reverse ++ rest) (hsz : ls.size = nL) (hW : (rest.map fun v => v.category).sum ≤ 8) (hdg : decode cc pc = .ok (.invokestatic ix, 3)) (hf : cells ≤ R.cells ∧ slots ≤ R.slots)
    (kk : ∀ (H1 : Heap) (locs1 : List Loc), sS D wl B0 s P.2 H1 locs1 → W p l e R s m args below meth c H1 locs1 cells slots Q (F0 m (pc + 3) ls (.int P.1 :: rest))) : W p l e R s m args below meth c H locs cells slots Q (F0 m pc ls st0) := by
  subst hst
  refine va_calli (va_runS (As := As) (rest := rest) (n := n) hF.1 (hC H.size) (x_cwS hF hv hl hrc hrs hR) ⟨sP.blind, x_pre hF hs⟩ rfl hn hsz rfl (lv_room hW) hdg hf) hs.2 (fun q _ h => x_up hs q h) (x_up hs) (fun r u t H1 locs1 ht hvm hpost hB hz hk hS => ?_)
  subst hpost
  exact kk H1 locs1 ⟨by rw [← ht]; exact hB, hS⟩
theorem x_Sl {P : Int64 × Mem} (hF : sF p m c cc nL s args c0 own D wl tys B0) (hs : sS D wl B0 s σ H locs) (hv : mS y bytes maxL ret n) (hl : Cond.methodLink own ix y ∈ TG) (hC : cL l y (.code y bytes maxL ret :: TG) rm D wl tys B0 As σ P) (hrc : rm.cells = 0) (hrs : rm.slots = 0) (hR : rm.frames + 1 ≤ R.frames ∧ 8 + (maxL + 11) + rm.locals ≤ R.locals) (hn : As.length = n) (hst : st0 = As.reverse ++ rest) (hsz : ls.size = nL) (hW : (rest.map fun v => v.category).sum ≤ 8) (hdg : decode cc pc = .ok (.invokestatic ix, 3)) (hf : cells ≤ R.cells ∧ slots ≤ R.slots)
    (kk : ∀ (H1 : Heap) (locs1 : List Loc), sS D wl B0 s P.2 H1 locs1 → W p l e R s m args below meth c H1 locs1 cells slots Q (F0 m (pc + 3) ls (.long P.1 :: rest))) : W p l e R s m args below meth c H locs cells slots Q (F0 m pc ls st0) := by
  subst hst
  refine va_calll (va_runS (As := As) (rest := rest) (n := n) hF.1 (hC H.size) (x_cwS hF hv hl hrc hrs hR) ⟨sP.blind, x_pre hF hs⟩ rfl hn hsz rfl (lv_room hW) hdg hf) hs.2 (fun q _ h => x_up hs q h) (x_up hs) (fun r u t H1 locs1 ht hvm hpost hB hz hk hS => ?_)
  subst hpost
  exact kk H1 locs1 ⟨by rw [← ht]; exact hB, hS⟩
-- the same for methods that change nothing
theorem x_Vip {r : Int32} (hF : sF p m c cc nL s args c0 own D wl tys B0) (hs : sS D wl B0 s σ H locs) (hv : mV y bytes maxL ret n) (hl : Cond.methodLink own ix y ∈ TG) (hC : cI l y (.code y bytes maxL ret :: TG) rm D wl tys B0 (.ref b :: As) σ (r, σ)) (hrc : rm.cells = 0) (hrs : rm.slots = 0) (hR : rm.frames + 1 ≤ R.frames ∧ 8 + (maxL + 11) + rm.locals ≤ R.locals) (hn : As.length = n) (hst : st0 = As.reverse ++ .ref b :: rest) (hsz : ls.size = nL) (hW : (rest.map fun v => v.category).sum ≤ 8) (hb : sR wl σ b y.cls) (hdg : decode cc pc = .ok (.invokevirtual ix, 3)) (hf : cells ≤ R.cells ∧ slots ≤ R.slots)
    (kk : ∀ (H1 : Heap) (locs1 : List Loc), sS D wl B0 s σ H1 locs1 → W p l e R s m args below meth c H1 locs1 cells slots Q (F0 m (pc + 3) ls (.int r :: rest))) : W p l e R s m args below meth c H locs cells slots Q (F0 m pc ls st0) := x_Vi hF hs hv hl hC hrc hrs hR hn hst hsz hW hb hdg hf kk
theorem x_Vlp {r : Int64} (hF : sF p m c cc nL s args c0 own D wl tys B0) (hs : sS D wl B0 s σ H locs) (hv : mV y bytes maxL ret n) (hl : Cond.methodLink own ix y ∈ TG) (hC : cL l y (.code y bytes maxL ret :: TG) rm D wl tys B0 (.ref b :: As) σ (r, σ)) (hrc : rm.cells = 0) (hrs : rm.slots = 0) (hR : rm.frames + 1 ≤ R.frames ∧ 8 + (maxL + 11) + rm.locals ≤ R.locals) (hn : As.length = n) (hst : st0 = As.reverse ++ .ref b :: rest) (hsz : ls.size = nL) (hW : (rest.map fun v => v.category).sum ≤ 8) (hb : sR wl σ b y.cls) (hdg : decode cc pc = .ok (.invokevirtual ix, 3)) (hf : cells ≤ R.cells ∧ slots ≤ R.slots)
    (kk : ∀ (H1 : Heap) (locs1 : List Loc), sS D wl B0 s σ H1 locs1 → W p l e R s m args below meth c H1 locs1 cells slots Q (F0 m (pc + 3) ls (.long r :: rest))) : W p l e R s m args below meth c H locs cells slots Q (F0 m pc ls st0) := x_Vl hF hs hv hl hC hrc hrs hR hn hst hsz hW hb hdg hf kk
theorem x_Sip {r : Int32} (hF : sF p m c cc nL s args c0 own D wl tys B0) (hs : sS D wl B0 s σ H locs) (hv : mS y bytes maxL ret n) (hl : Cond.methodLink own ix y ∈ TG) (hC : cI l y (.code y bytes maxL ret :: TG) rm D wl tys B0 As σ (r, σ)) (hrc : rm.cells = 0) (hrs : rm.slots = 0) (hR : rm.frames + 1 ≤ R.frames ∧ 8 + (maxL + 11) + rm.locals ≤ R.locals) (hn : As.length = n) (hst : st0 = As.reverse ++ rest) (hsz : ls.size = nL) (hW : (rest.map fun v => v.category).sum ≤ 8) (hdg : decode cc pc = .ok (.invokestatic ix, 3)) (hf : cells ≤ R.cells ∧ slots ≤ R.slots)
    (kk : ∀ (H1 : Heap) (locs1 : List Loc), sS D wl B0 s σ H1 locs1 → W p l e R s m args below meth c H1 locs1 cells slots Q (F0 m (pc + 3) ls (.int r :: rest))) : W p l e R s m args below meth c H locs cells slots Q (F0 m pc ls st0) := x_Si hF hs hv hl hC hrc hrs hR hn hst hsz hW hdg hf kk
theorem x_Slp {r : Int64} (hF : sF p m c cc nL s args c0 own D wl tys B0) (hs : sS D wl B0 s σ H locs) (hv : mS y bytes maxL ret n) (hl : Cond.methodLink own ix y ∈ TG) (hC : cL l y (.code y bytes maxL ret :: TG) rm D wl tys B0 As σ (r, σ)) (hrc : rm.cells = 0) (hrs : rm.slots = 0) (hR : rm.frames + 1 ≤ R.frames ∧ 8 + (maxL + 11) + rm.locals ≤ R.locals) (hn : As.length = n) (hst : st0 = As.reverse ++ rest) (hsz : ls.size = nL) (hW : (rest.map fun v => v.category).sum ≤ 8) (hdg : decode cc pc = .ok (.invokestatic ix, 3)) (hf : cells ≤ R.cells ∧ slots ≤ R.slots)
    (kk : ∀ (H1 : Heap) (locs1 : List Loc), sS D wl B0 s σ H1 locs1 → W p l e R s m args below meth c H1 locs1 cells slots Q (F0 m (pc + 3) ls (.long r :: rest))) : W p l e R s m args below meth c H locs cells slots Q (F0 m pc ls st0) := x_Sl hF hs hv hl hC hrc hrs hR hn hst hsz hW hdg hf kk
-- a switch whose number isn't among the places of a table that have their own row
theorem x_tabD (hexec : p.tables.exec = Jvm.exec) (hb : c.code = cc) {dflt lo hi : Int} {offs : Array Int} {len tgt : Nat} {x : Int32} (ex : List Int) (hdg : decode cc pc = .ok (.tableswitch dflt lo hi offs, len)) (hne : ∀ j ∈ ex, ¬ x.toInt = j) (hE : ∀ j : Nat, j < offs.size → ¬ (lo + j) ∈ ex → offs[j]? = some dflt) (hsz : (offs.size : Int) = hi - lo + 1) (ht : (pc : Int) + dflt = (tgt : Int))
    (k : W p l e R s m args below meth c H locs cells slots Q (F0 m tgt ls rest)) : W p l e R s m args below meth c H locs cells slots Q (F0 m pc ls (.int x :: rest)) := by
  by_cases h : x.toInt < lo ∨ hi < x.toInt
  · exact lv_tableOut hexec hb hdg h ht k
  · have h1 : ¬ x.toInt < lo := fun z => h (Or.inl z)
    have h2 : ¬ hi < x.toInt := fun z => h (Or.inr z)
    refine lv_tableIn hexec hb hdg h1 h2 (hE _ (by omega) (fun hm => ?_)) ht k
    refine hne _ hm ?_
    omega
end SC
end
section
-- fields and arrays in the two worlds
theorem fX (k : Nat) : (F_X k).1 = R_X := by unfold F_X; split <;> rfl
theorem fK (k : Nat) : (F_K k).1 = R_K := by unfold F_K; split <;> rfl
theorem fM (k : Nat) : (F_M k).1 = R_M := by unfold F_M; split <;> rfl
theorem fXs {s : State} {k : Nat} {f d : String} : ∀ x, s.fieldFound? (F_X k).1 f d = some x → s.fieldFound? R_X f d = some x := fun x h => by rw [fX] at h; exact h
theorem fKs {s : State} {k : Nat} {f d : String} : ∀ x, s.fieldFound? (F_K k).1 f d = some x → s.fieldFound? R_K f d = some x := fun x h => by rw [fK] at h; exact h
theorem fMs {s : State} {k : Nat} {f d : String} : ∀ x, s.fieldFound? (F_M k).1 f d = some x → s.fieldFound? R_M f d = some x := fun x h => by rw [fM] at h; exact h
section RW
variable {p : Program} {l : Launch} {e : Env} {R : Room} {s : State} {m : MethodId} {args : Array Value} {below : List Frame} {meth : Method} {c : Code} {H : Heap} {locs : List Loc} {cells slots : Nat} {Q : State → Prop}
variable {cc : ByteArray} {nL pc ix : Nat} {ls : Array Slot} {rest : List Value} {c0 : Cond} {D : va_G} {tys : Tys} {B0 : Nat → Prop} {σ : Mem} {a : Nat → Nat} {cA : Nat → ClassId} {i : Nat} {v x : Int32} {j : Int32}
theorem sS.to {wl : Wl} {w : va_W} {τ : Mem} {H1 : Heap} {locs1 : List Loc} (h : w = wl τ) (hP : va_P D classes w H1) (hS : va_S (sA B0 s.heap.size) s.heap H1 locs1) : sS D wl B0 s τ H1 locs1 := ⟨by rw [← h]; exact hP, hS⟩
theorem sF_D {wl : Wl} {own : String} (hF : sF p m c cc nL s args c0 own D wl tys B0) : va_D (sA B0 s.heap.size) (wl σ) := (hF.2.2.2 σ).weaken (fun _ _ _ h => Or.inl h)
theorem xg_X {V : Value} (hx : p.tables.exec = Jvm.exec) (hb : c.code = cc) (hF : sF p m c cc nL s args c0 R_X D (cwL a cA) tys B0) (hs : sS D (cwL a cA) B0 s σ H locs) (k : Nat) (hk : k < 9) (hlink : Cond.fieldLink R_X ix R_X (F_X k).2.1 (F_X k).2.2.1 ∈ TG) (hv : (cF a σ)[k]? = some V) (hdg : decode cc pc = .ok (.getfield ix, 3))
    (kk : W p l e R s m args below meth c H locs cells slots Q (F0 m (pc + 3) ls (V :: rest))) : W p l e R s m args below meth c H locs cells slots Q (F0 m pc ls (.ref (a 0) :: rest)) := by
  have hts := hF.1.2.2.2.2
  have hown := hF.1.2.2.2.1
  exact va_get (D := D) (ci := 1) (C := R_X) (T := F_X) (N := 9) hx hb hts (fun w hw => List.mem_cons_of_mem _ (u_X w hw)) hown hF.2.1 hs.1 0 rfl rfl k hk (hts _ (List.mem_cons_of_mem _ hlink)) fXs hv hdg kk
theorem xp_X (hx : p.tables.exec = Jvm.exec) (hb : c.code = cc) (hF : sF p m c cc nL s args c0 R_X D (cwL a cA) tys B0) (hs : sS D (cwL a cA) B0 s σ H locs) (k : Nat) (hk : k < 4) (hlink : Cond.fieldLink R_X ix R_X (F_X (5 + k)).2.1 (F_X (5 + k)).2.2.1 ∈ TG) (hdg : decode cc pc = .ok (.putfield ix, 3))
    (kk : ∀ (H1 : Heap) (locs1 : List Loc), sS D (cwL a cA) B0 s (wr σ 5 k v) H1 locs1 → W p l e R s m args below meth c H1 locs1 cells slots Q (F0 m (pc + 3) ls rest)) : W p l e R s m args below meth c H locs cells slots Q (F0 m pc ls (.int v :: .ref (a 0) :: rest)) := by
  have hts := hF.1.2.2.2.2
  have hown := hF.1.2.2.2.1
  have hfin : (F_X (5 + k)).2.2.2 = false := by match k, hk with | 0, _ => rfl | 1, _ => rfl | 2, _ => rfl | 3, _ => rfl
  have hd : parseFieldDescriptor (F_X (5 + k)).2.2.1 = some .int := by match k, hk with | 0, _ => decide +kernel | 1, _ => decide +kernel | 2, _ => decide +kernel | 3, _ => decide +kernel
  exact va_put (D := D) (ci := 1) (v := .int v) (ty := .int) (C := R_X) (T := F_X) (N := 9) hx hb hts (fun w hw => List.mem_cons_of_mem _ (u_X w hw)) t_X t_X_ok n_X hown hF.2.1 hs.1 (sF_D hF) hs.2 0 rfl rfl (5 + k) (by omega) (hts _ (List.mem_cons_of_mem _ hlink)) fXs hfin hd rfl rfl (by show 5 + k < 9; omega) hdg (fun H1 locs1 hP _ hS => kk H1 locs1 (sS.to (cw_set5 k hk) hP hS))
theorem xg_K {V : Value} (hx : p.tables.exec = Jvm.exec) (hb : c.code = cc) (hF : sF p m c cc nL s args c0 R_K D (cwL a cA) tys B0) (hs : sS D (cwL a cA) B0 s σ H locs) (k : Nat) (hk : k < 3) (hi : i < 13) (hlink : Cond.fieldLink R_K ix R_K (F_K k).2.1 (F_K k).2.2.1 ∈ TG) (hv : (kF σ i)[k]? = some V) (hdg : decode cc pc = .ok (.getfield ix, 3))
    (kk : W p l e R s m args below meth c H locs cells slots Q (F0 m (pc + 3) ls (V :: rest))) : W p l e R s m args below meth c H locs cells slots Q (F0 m pc ls (.ref (a (4 + i)) :: rest)) := by
  have hts := hF.1.2.2.2.2
  have hown := hF.1.2.2.2.1
  exact va_get (D := D) (ci := 0) (C := R_K) (T := F_K) (N := 3) hx hb hts (fun w hw => List.mem_cons_of_mem _ (u_K w hw)) hown hF.2.1 hs.1 (4 + i) (cw_at hi) rfl k hk (hts _ (List.mem_cons_of_mem _ hlink)) fKs hv hdg kk
theorem xg_N {V : Value} (hx : p.tables.exec = Jvm.exec) (hb : c.code = cc) (hF : sF p m c cc nL s args c0 R_X D (cwL a cA) tys B0) (hs : sS D (cwL a cA) B0 s σ H locs) (k : Nat) (hk : k < 3) (hi : i < 13) (hlink : va_Nw (.fieldLinkNest R_X ix R_K (F_K k).2.1 (F_K k).2.2.1 R_X) s) (hv : (kF σ i)[k]? = some V) (hdg : decode cc pc = .ok (.getfield ix, 3))
    (kk : W p l e R s m args below meth c H locs cells slots Q (F0 m (pc + 3) ls (V :: rest))) : W p l e R s m args below meth c H locs cells slots Q (F0 m pc ls (.ref (a (4 + i)) :: rest)) := by
  have hts := hF.1.2.2.2.2
  have hown := hF.1.2.2.2.1
  exact va_getN (D := D) (ci := 0) (C := R_K) (T := F_K) (N := 3) hx hb hts (fun w hw => List.mem_cons_of_mem _ (u_K w hw)) hown hF.2.1 hs.1 (4 + i) (cw_at hi) rfl k hk (va_Nw.use rfl hlink) fKs hv hdg kk
theorem xg_N4 (hx : p.tables.exec = Jvm.exec) (hb : c.code = cc) (hF : sF p m c cc nL s args c0 R_X D (cwL a cA) tys B0) (hs : sS D (cwL a cA) B0 s σ H locs) (hi : i < 13) (hdg : decode cc pc = .ok (.getfield 62, 3))
    (kk : W p l e R s m args below meth c H locs cells slots Q (F0 m (pc + 3) ls (.int (σ 4 i) :: rest))) : W p l e R s m args below meth c H locs cells slots Q (F0 m pc ls (.ref (a (4 + i)) :: rest)) := xg_N hx hb hF hs 2 (by decide) hi hF.2.2.1.1 rfl hdg kk
theorem xg_N3 (hx : p.tables.exec = Jvm.exec) (hb : c.code = cc) (hF : sF p m c cc nL s args c0 R_X D (cwL a cA) tys B0) (hs : sS D (cwL a cA) B0 s σ H locs) (hi : i < 13) (hdg : decode cc pc = .ok (.getfield 65, 3))
    (kk : W p l e R s m args below meth c H locs cells slots Q (F0 m (pc + 3) ls (.int (σ 3 i) :: rest))) : W p l e R s m args below meth c H locs cells slots Q (F0 m pc ls (.ref (a (4 + i)) :: rest)) := xg_N hx hb hF hs 1 (by decide) hi hF.2.2.1.2.1 rfl hdg kk
theorem xg_N2 (hx : p.tables.exec = Jvm.exec) (hb : c.code = cc) (hF : sF p m c cc nL s args c0 R_X D (cwL a cA) tys B0) (hs : sS D (cwL a cA) B0 s σ H locs) (hi : i < 13) (hdg : decode cc pc = .ok (.getfield 68, 3))
    (kk : W p l e R s m args below meth c H locs cells slots Q (F0 m (pc + 3) ls (.int (bo (σ 2 i)) :: rest))) : W p l e R s m args below meth c H locs cells slots Q (F0 m pc ls (.ref (a (4 + i)) :: rest)) := xg_N hx hb hF hs 0 (by decide) hi hF.2.2.1.2.2 rfl hdg kk
theorem xp_K2 (hx : p.tables.exec = Jvm.exec) (hb : c.code = cc) (hF : sF p m c cc nL s args c0 R_K D (cwL a cA) tys B0) (hs : sS D (cwL a cA) B0 s σ H locs) (hi : i < 13) (hlink : Cond.fieldLink R_K ix R_K (F_K 0).2.1 (F_K 0).2.2.1 ∈ TG) (hbo : bo v = v) (hdg : decode cc pc = .ok (.putfield ix, 3))
    (kk : ∀ (H1 : Heap) (locs1 : List Loc), sS D (cwL a cA) B0 s (wr σ 2 i v) H1 locs1 → W p l e R s m args below meth c H1 locs1 cells slots Q (F0 m (pc + 3) ls rest)) : W p l e R s m args below meth c H locs cells slots Q (F0 m pc ls (.int v :: .ref (a (4 + i)) :: rest)) := by
  have hts := hF.1.2.2.2.2
  have hown := hF.1.2.2.2.1
  exact va_put (D := D) (ci := 0) (v := .int v) (ty := .boolean) (C := R_K) (T := F_K) (N := 3) hx hb hts (fun w hw => List.mem_cons_of_mem _ (u_K w hw)) t_K t_K_ok n_K hown hF.2.1 hs.1 (sF_D hF) hs.2 (4 + i) (cw_at hi) rfl 0 (by decide) (hts _ (List.mem_cons_of_mem _ hlink)) fKs rfl (by decide +kernel) (bo_nar hbo) (bo_fit hbo) (Nat.le_of_ble_eq_true rfl) hdg (fun H1 locs1 hP _ hS => kk H1 locs1 (sS.to (cw_set2 hi hbo) hP hS))
theorem xp_K3 (hx : p.tables.exec = Jvm.exec) (hb : c.code = cc) (hF : sF p m c cc nL s args c0 R_K D (cwL a cA) tys B0) (hs : sS D (cwL a cA) B0 s σ H locs) (hi : i < 13) (hlink : Cond.fieldLink R_K ix R_K (F_K 1).2.1 (F_K 1).2.2.1 ∈ TG) (hdg : decode cc pc = .ok (.putfield ix, 3))
    (kk : ∀ (H1 : Heap) (locs1 : List Loc), sS D (cwL a cA) B0 s (wr σ 3 i v) H1 locs1 → W p l e R s m args below meth c H1 locs1 cells slots Q (F0 m (pc + 3) ls rest)) : W p l e R s m args below meth c H locs cells slots Q (F0 m pc ls (.int v :: .ref (a (4 + i)) :: rest)) := by
  have hts := hF.1.2.2.2.2
  have hown := hF.1.2.2.2.1
  exact va_put (D := D) (ci := 0) (v := .int v) (ty := .int) (C := R_K) (T := F_K) (N := 3) hx hb hts (fun w hw => List.mem_cons_of_mem _ (u_K w hw)) t_K t_K_ok n_K hown hF.2.1 hs.1 (sF_D hF) hs.2 (4 + i) (cw_at hi) rfl 1 (by decide) (hts _ (List.mem_cons_of_mem _ hlink)) fKs rfl (by decide +kernel) rfl rfl (Nat.le_of_ble_eq_true rfl) hdg (fun H1 locs1 hP _ hS => kk H1 locs1 (sS.to (cw_set3 hi) hP hS))
theorem xp_K4 (hx : p.tables.exec = Jvm.exec) (hb : c.code = cc) (hF : sF p m c cc nL s args c0 R_K D (cwL a cA) tys B0) (hs : sS D (cwL a cA) B0 s σ H locs) (hi : i < 13) (hlink : Cond.fieldLink R_K ix R_K (F_K 2).2.1 (F_K 2).2.2.1 ∈ TG) (hdg : decode cc pc = .ok (.putfield ix, 3))
    (kk : ∀ (H1 : Heap) (locs1 : List Loc), sS D (cwL a cA) B0 s (wr σ 4 i v) H1 locs1 → W p l e R s m args below meth c H1 locs1 cells slots Q (F0 m (pc + 3) ls rest)) : W p l e R s m args below meth c H locs cells slots Q (F0 m pc ls (.int v :: .ref (a (4 + i)) :: rest)) := by
  have hts := hF.1.2.2.2.2
  have hown := hF.1.2.2.2.1
  exact va_put (D := D) (ci := 0) (v := .int v) (ty := .int) (C := R_K) (T := F_K) (N := 3) hx hb hts (fun w hw => List.mem_cons_of_mem _ (u_K w hw)) t_K t_K_ok n_K hown hF.2.1 hs.1 (sF_D hF) hs.2 (4 + i) (cw_at hi) rfl 2 (by decide) (hts _ (List.mem_cons_of_mem _ hlink)) fKs rfl (by decide +kernel) rfl rfl (Nat.le_of_ble_eq_true rfl) hdg (fun H1 locs1 hP _ hS => kk H1 locs1 (sS.to (cw_set4 hi) hP hS))
theorem xp_N2 (hx : p.tables.exec = Jvm.exec) (hb : c.code = cc) (hF : sF p m c cc nL s args c0 R_X D (cwL a cA) tys B0) (hs : sS D (cwL a cA) B0 s σ H locs) (hi : i < 13) (hbo : bo v = v) (hdg : decode cc pc = .ok (.putfield 68, 3))
    (kk : ∀ (H1 : Heap) (locs1 : List Loc), sS D (cwL a cA) B0 s (wr σ 2 i v) H1 locs1 → W p l e R s m args below meth c H1 locs1 cells slots Q (F0 m (pc + 3) ls rest)) : W p l e R s m args below meth c H locs cells slots Q (F0 m pc ls (.int v :: .ref (a (4 + i)) :: rest)) := by
  have hts := hF.1.2.2.2.2
  have hown := hF.1.2.2.2.1
  exact va_putN (D := D) (ci := 0) (v := .int v) (ty := .boolean) (C := R_K) (T := F_K) (N := 3) hx hb hts (fun w hw => List.mem_cons_of_mem _ (u_K w hw)) t_K t_K_ok n_K hown hF.2.1 hs.1 (sF_D hF) hs.2 (4 + i) (cw_at hi) rfl 0 (by decide) (va_Nw.use rfl hF.2.2.1.2.2) fKs rfl (by decide +kernel) (bo_nar hbo) (bo_fit hbo) (Nat.le_of_ble_eq_true rfl) hdg (fun H1 locs1 hP _ hS => kk H1 locs1 (sS.to (cw_set2 hi hbo) hP hS))
theorem xp_N3 (hx : p.tables.exec = Jvm.exec) (hb : c.code = cc) (hF : sF p m c cc nL s args c0 R_X D (cwL a cA) tys B0) (hs : sS D (cwL a cA) B0 s σ H locs) (hi : i < 13) (hdg : decode cc pc = .ok (.putfield 65, 3))
    (kk : ∀ (H1 : Heap) (locs1 : List Loc), sS D (cwL a cA) B0 s (wr σ 3 i v) H1 locs1 → W p l e R s m args below meth c H1 locs1 cells slots Q (F0 m (pc + 3) ls rest)) : W p l e R s m args below meth c H locs cells slots Q (F0 m pc ls (.int v :: .ref (a (4 + i)) :: rest)) := by
  have hts := hF.1.2.2.2.2
  have hown := hF.1.2.2.2.1
  exact va_putN (D := D) (ci := 0) (v := .int v) (ty := .int) (C := R_K) (T := F_K) (N := 3) hx hb hts (fun w hw => List.mem_cons_of_mem _ (u_K w hw)) t_K t_K_ok n_K hown hF.2.1 hs.1 (sF_D hF) hs.2 (4 + i) (cw_at hi) rfl 1 (by decide) (va_Nw.use rfl hF.2.2.1.2.1) fKs rfl (by decide +kernel) rfl rfl (Nat.le_of_ble_eq_true rfl) hdg (fun H1 locs1 hP _ hS => kk H1 locs1 (sS.to (cw_set3 hi) hP hS))
theorem xp_N4 (hx : p.tables.exec = Jvm.exec) (hb : c.code = cc) (hF : sF p m c cc nL s args c0 R_X D (cwL a cA) tys B0) (hs : sS D (cwL a cA) B0 s σ H locs) (hi : i < 13) (hdg : decode cc pc = .ok (.putfield 62, 3))
    (kk : ∀ (H1 : Heap) (locs1 : List Loc), sS D (cwL a cA) B0 s (wr σ 4 i v) H1 locs1 → W p l e R s m args below meth c H1 locs1 cells slots Q (F0 m (pc + 3) ls rest)) : W p l e R s m args below meth c H locs cells slots Q (F0 m pc ls (.int v :: .ref (a (4 + i)) :: rest)) := by
  have hts := hF.1.2.2.2.2
  have hown := hF.1.2.2.2.1
  exact va_putN (D := D) (ci := 0) (v := .int v) (ty := .int) (C := R_K) (T := F_K) (N := 3) hx hb hts (fun w hw => List.mem_cons_of_mem _ (u_K w hw)) t_K t_K_ok n_K hown hF.2.1 hs.1 (sF_D hF) hs.2 (4 + i) (cw_at hi) rfl 2 (by decide) (va_Nw.use rfl hF.2.2.1.1) fKs rfl (by decide +kernel) rfl rfl (Nat.le_of_ble_eq_true rfl) hdg (fun H1 locs1 hP _ hS => kk H1 locs1 (sS.to (cw_set4 hi) hP hS))
theorem xw_ld {own : String} (hx : p.tables.exec = Jvm.exec) (hb : c.code = cc) (hF : sF p m c cc nL s args c0 own D (cwL a cA) (cty cA) B0) (hs : sS D (cwL a cA) B0 s σ H locs) (hin : vp_in j 256) (hdg : decode cc pc = .ok (.iaload, 1))
    (kk : W p l e R s m args below meth c H locs cells slots Q (F0 m (pc + 1) ls (.int (σ 0 j.toNatClampNeg) :: rest))) : W p l e R s m args below meth c H locs cells slots Q (F0 m pc ls (.int j :: .ref (a 1) :: rest)) :=
  va_iald (f := σ 0) hx hb hF.2.1 hs.1 1 0 rfl rfl hin hdg kk
theorem xw_st {own : String} (hx : p.tables.exec = Jvm.exec) (hb : c.code = cc) (hF : sF p m c cc nL s args c0 own D (cwL a cA) (cty cA) B0) (hs : sS D (cwL a cA) B0 s σ H locs) (hin : vp_in j 256) (hdg : decode cc pc = .ok (.iastore, 1))
    (kk : ∀ (H1 : Heap) (locs1 : List Loc), sS D (cwL a cA) B0 s (wr σ 0 j.toNatClampNeg x) H1 locs1 → W p l e R s m args below meth c H1 locs1 cells slots Q (F0 m (pc + 1) ls rest)) : W p l e R s m args below meth c H locs cells slots Q (F0 m pc ls (.int x :: .int j :: .ref (a 1) :: rest)) :=
  va_iast (f := σ 0) hx hb hF.2.1 hs.1 (sF_D hF) hs.2 1 0 rfl rfl hin hdg (fun H1 locs1 hP _ hS => kk H1 locs1 (sS.to cw_set0 hP hS))
theorem xt_ld {own : String} (hx : p.tables.exec = Jvm.exec) (hb : c.code = cc) (hF : sF p m c cc nL s args c0 own D (cwL a cA) (cty cA) B0) (hs : sS D (cwL a cA) B0 s σ H locs) (hin : vp_in j 128) (hdg : decode cc pc = .ok (.baload, 1))
    (kk : W p l e R s m args below meth c H locs cells slots Q (F0 m (pc + 1) ls (.int (bo (σ 1 j.toNatClampNeg)) :: rest))) : W p l e R s m args below meth c H locs cells slots Q (F0 m pc ls (.int j :: .ref (a 2) :: rest)) :=
  va_zald (f := fun i => bo (σ 1 i)) hx hb hF.2.1 hs.1 2 1 rfl rfl hin hdg kk
theorem xt_st {own : String} (hx : p.tables.exec = Jvm.exec) (hb : c.code = cc) (hF : sF p m c cc nL s args c0 own D (cwL a cA) (cty cA) B0) (hs : sS D (cwL a cA) B0 s σ H locs) (hin : vp_in j 128) (hdg : decode cc pc = .ok (.bastore, 1))
    (kk : ∀ (H1 : Heap) (locs1 : List Loc), sS D (cwL a cA) B0 s (wr σ 1 j.toNatClampNeg x) H1 locs1 → W p l e R s m args below meth c H1 locs1 cells slots Q (F0 m (pc + 1) ls rest)) : W p l e R s m args below meth c H locs cells slots Q (F0 m pc ls (.int x :: .int j :: .ref (a 2) :: rest)) :=
  va_zast (f := fun i => bo (σ 1 i)) hx hb hF.2.1 hs.1 (sF_D hF) hs.2 2 1 rfl rfl hin hdg (fun H1 locs1 hP _ hS => kk H1 locs1 (sS.to cw_set1 hP hS))
theorem xr_ld {own : String} (hx : p.tables.exec = Jvm.exec) (hb : c.code = cc) (hF : sF p m c cc nL s args c0 own D (cwL a cA) (cty cA) B0) (hs : sS D (cwL a cA) B0 s σ H locs) (hin : vp_in j 12) (hdg : decode cc pc = .ok (.aaload, 1))
    (kk : W p l e R s m args below meth c H locs cells slots Q (F0 m (pc + 1) ls (.ref (a (4 + j.toNatClampNeg)) :: rest))) : W p l e R s m args below meth c H locs cells slots Q (F0 m pc ls (.int j :: .ref (a 3) :: rest)) :=
  va_aldq (f := fun i => some (a (4 + i))) (C := R_K) hx hb hF.2.1 hs.1 3 2 rfl rfl hin hdg kk
-- the reference
theorem xg_M {V : Value} (hx : p.tables.exec = Jvm.exec) (hb : c.code = cc) (hF : sF p m c cc nL s args c0 R_M D (rwL a cA) tys B0) (hs : sS D (rwL a cA) B0 s σ H locs) (k : Nat) (hk : k < 12) (hlink : Cond.fieldLink R_M ix R_M (F_M k).2.1 (F_M k).2.2.1 ∈ TG) (hv : (rF a σ)[k]? = some V) (hdg : decode cc pc = .ok (.getfield ix, 3))
    (kk : W p l e R s m args below meth c H locs cells slots Q (F0 m (pc + 3) ls (V :: rest))) : W p l e R s m args below meth c H locs cells slots Q (F0 m pc ls (.ref (a 0) :: rest)) := by
  have hts := hF.1.2.2.2.2
  have hown := hF.1.2.2.2.1
  exact va_get (D := D) (ci := 2) (C := R_M) (T := F_M) (N := 12) hx hb hts (fun w hw => List.mem_cons_of_mem _ (u_M w hw)) hown hF.2.1 hs.1 0 rfl rfl k hk (hts _ (List.mem_cons_of_mem _ hlink)) fMs hv hdg kk
theorem xp_M5 (hx : p.tables.exec = Jvm.exec) (hb : c.code = cc) (hF : sF p m c cc nL s args c0 R_M D (rwL a cA) tys B0) (hs : sS D (rwL a cA) B0 s σ H locs) (k : Nat) (hk : k < 4) (hlink : Cond.fieldLink R_M ix R_M (F_M (5 + k)).2.1 (F_M (5 + k)).2.2.1 ∈ TG) (hdg : decode cc pc = .ok (.putfield ix, 3))
    (kk : ∀ (H1 : Heap) (locs1 : List Loc), sS D (rwL a cA) B0 s (wr σ 5 k v) H1 locs1 → W p l e R s m args below meth c H1 locs1 cells slots Q (F0 m (pc + 3) ls rest)) : W p l e R s m args below meth c H locs cells slots Q (F0 m pc ls (.int v :: .ref (a 0) :: rest)) := by
  have hts := hF.1.2.2.2.2
  have hown := hF.1.2.2.2.1
  have hfin : (F_M (5 + k)).2.2.2 = false := by match k, hk with | 0, _ => rfl | 1, _ => rfl | 2, _ => rfl | 3, _ => rfl
  have hd : parseFieldDescriptor (F_M (5 + k)).2.2.1 = some .int := by match k, hk with | 0, _ => decide +kernel | 1, _ => decide +kernel | 2, _ => decide +kernel | 3, _ => decide +kernel
  exact va_put (D := D) (ci := 2) (v := .int v) (ty := .int) (C := R_M) (T := F_M) (N := 12) hx hb hts (fun w hw => List.mem_cons_of_mem _ (u_M w hw)) t_M t_M_ok n_M hown hF.2.1 hs.1 (sF_D hF) hs.2 0 rfl rfl (5 + k) (by omega) (hts _ (List.mem_cons_of_mem _ hlink)) fMs hfin hd rfl rfl (by show 5 + k < 12; omega) hdg (fun H1 locs1 hP _ hS => kk H1 locs1 (sS.to (rw_set5 k hk) hP hS))
theorem xp_M6 (hx : p.tables.exec = Jvm.exec) (hb : c.code = cc) (hF : sF p m c cc nL s args c0 R_M D (rwL a cA) tys B0) (hs : sS D (rwL a cA) B0 s σ H locs) (k : Nat) (hk : k < 2) (hlink : Cond.fieldLink R_M ix R_M (F_M (9 + k)).2.1 (F_M (9 + k)).2.2.1 ∈ TG) (hdg : decode cc pc = .ok (.putfield ix, 3))
    (kk : ∀ (H1 : Heap) (locs1 : List Loc), sS D (rwL a cA) B0 s (wr σ 6 k v) H1 locs1 → W p l e R s m args below meth c H1 locs1 cells slots Q (F0 m (pc + 3) ls rest)) : W p l e R s m args below meth c H locs cells slots Q (F0 m pc ls (.int v :: .ref (a 0) :: rest)) := by
  have hts := hF.1.2.2.2.2
  have hown := hF.1.2.2.2.1
  have hfin : (F_M (9 + k)).2.2.2 = false := by match k, hk with | 0, _ => rfl | 1, _ => rfl
  have hd : parseFieldDescriptor (F_M (9 + k)).2.2.1 = some .int := by match k, hk with | 0, _ => decide +kernel | 1, _ => decide +kernel
  exact va_put (D := D) (ci := 2) (v := .int v) (ty := .int) (C := R_M) (T := F_M) (N := 12) hx hb hts (fun w hw => List.mem_cons_of_mem _ (u_M w hw)) t_M t_M_ok n_M hown hF.2.1 hs.1 (sF_D hF) hs.2 0 rfl rfl (9 + k) (by omega) (hts _ (List.mem_cons_of_mem _ hlink)) fMs hfin hd rfl rfl (by show 9 + k < 12; omega) hdg (fun H1 locs1 hP _ hS => kk H1 locs1 (sS.to (rw_set6 k (by omega) (fun z => by omega)) hP hS))
theorem xp_M62 (hx : p.tables.exec = Jvm.exec) (hb : c.code = cc) (hF : sF p m c cc nL s args c0 R_M D (rwL a cA) tys B0) (hs : sS D (rwL a cA) B0 s σ H locs) (hlink : Cond.fieldLink R_M ix R_M (F_M 11).2.1 (F_M 11).2.2.1 ∈ TG) (hbo : bo v = v) (hdg : decode cc pc = .ok (.putfield ix, 3))
    (kk : ∀ (H1 : Heap) (locs1 : List Loc), sS D (rwL a cA) B0 s (wr σ 6 2 v) H1 locs1 → W p l e R s m args below meth c H1 locs1 cells slots Q (F0 m (pc + 3) ls rest)) : W p l e R s m args below meth c H locs cells slots Q (F0 m pc ls (.int v :: .ref (a 0) :: rest)) := by
  have hts := hF.1.2.2.2.2
  have hown := hF.1.2.2.2.1
  exact va_put (D := D) (ci := 2) (v := .int v) (ty := .boolean) (C := R_M) (T := F_M) (N := 12) hx hb hts (fun w hw => List.mem_cons_of_mem _ (u_M w hw)) t_M t_M_ok n_M hown hF.2.1 hs.1 (sF_D hF) hs.2 0 rfl rfl 11 (by decide) (hts _ (List.mem_cons_of_mem _ hlink)) fMs rfl (by decide +kernel) (bo_nar hbo) (bo_fit hbo) (Nat.le_of_ble_eq_true rfl) hdg (fun H1 locs1 hP _ hS => kk H1 locs1 (sS.to (rw_set6 2 (by decide) (fun _ => hbo)) hP hS))
theorem x4_ld {own : String} (hx : p.tables.exec = Jvm.exec) (hb : c.code = cc) (hF : sF p m c cc nL s args c0 own D (rwL a cA) (rty cA) B0) (hs : sS D (rwL a cA) B0 s σ H locs) (hin : vp_in j 12) (hdg : decode cc pc = .ok (.iaload, 1))
    (kk : W p l e R s m args below meth c H locs cells slots Q (F0 m (pc + 1) ls (.int (σ 4 j.toNatClampNeg) :: rest))) : W p l e R s m args below meth c H locs cells slots Q (F0 m pc ls (.int j :: .ref (a 1) :: rest)) :=
  va_iald (f := σ 4) hx hb hF.2.1 hs.1 1 0 rfl rfl hin hdg kk
theorem x3_ld {own : String} (hx : p.tables.exec = Jvm.exec) (hb : c.code = cc) (hF : sF p m c cc nL s args c0 own D (rwL a cA) (rty cA) B0) (hs : sS D (rwL a cA) B0 s σ H locs) (hin : vp_in j 12) (hdg : decode cc pc = .ok (.iaload, 1))
    (kk : W p l e R s m args below meth c H locs cells slots Q (F0 m (pc + 1) ls (.int (σ 3 j.toNatClampNeg) :: rest))) : W p l e R s m args below meth c H locs cells slots Q (F0 m pc ls (.int j :: .ref (a 2) :: rest)) :=
  va_iald (f := σ 3) hx hb hF.2.1 hs.1 2 1 rfl rfl hin hdg kk
theorem x2_ld {own : String} (hx : p.tables.exec = Jvm.exec) (hb : c.code = cc) (hF : sF p m c cc nL s args c0 own D (rwL a cA) (rty cA) B0) (hs : sS D (rwL a cA) B0 s σ H locs) (hin : vp_in j 12) (hdg : decode cc pc = .ok (.baload, 1))
    (kk : W p l e R s m args below meth c H locs cells slots Q (F0 m (pc + 1) ls (.int (bo (σ 2 j.toNatClampNeg)) :: rest))) : W p l e R s m args below meth c H locs cells slots Q (F0 m pc ls (.int j :: .ref (a 3) :: rest)) :=
  va_zald (f := fun i => bo (σ 2 i)) hx hb hF.2.1 hs.1 3 2 rfl rfl hin hdg kk
theorem x0_ld {own : String} (hx : p.tables.exec = Jvm.exec) (hb : c.code = cc) (hF : sF p m c cc nL s args c0 own D (rwL a cA) (rty cA) B0) (hs : sS D (rwL a cA) B0 s σ H locs) (hin : vp_in j 256) (hdg : decode cc pc = .ok (.iaload, 1))
    (kk : W p l e R s m args below meth c H locs cells slots Q (F0 m (pc + 1) ls (.int (σ 0 j.toNatClampNeg) :: rest))) : W p l e R s m args below meth c H locs cells slots Q (F0 m pc ls (.int j :: .ref (a 4) :: rest)) :=
  va_iald (f := σ 0) hx hb hF.2.1 hs.1 4 3 rfl rfl hin hdg kk
theorem x1_ld {own : String} (hx : p.tables.exec = Jvm.exec) (hb : c.code = cc) (hF : sF p m c cc nL s args c0 own D (rwL a cA) (rty cA) B0) (hs : sS D (rwL a cA) B0 s σ H locs) (hin : vp_in j 128) (hdg : decode cc pc = .ok (.baload, 1))
    (kk : W p l e R s m args below meth c H locs cells slots Q (F0 m (pc + 1) ls (.int (bo (σ 1 j.toNatClampNeg)) :: rest))) : W p l e R s m args below meth c H locs cells slots Q (F0 m pc ls (.int j :: .ref (a 5) :: rest)) :=
  va_zald (f := fun i => bo (σ 1 i)) hx hb hF.2.1 hs.1 5 4 rfl rfl hin hdg kk
theorem x4_st {own : String} (hx : p.tables.exec = Jvm.exec) (hb : c.code = cc) (hF : sF p m c cc nL s args c0 own D (rwL a cA) (rty cA) B0) (hs : sS D (rwL a cA) B0 s σ H locs) (hin : vp_in j 12) (hdg : decode cc pc = .ok (.iastore, 1))
    (kk : ∀ (H1 : Heap) (locs1 : List Loc), sS D (rwL a cA) B0 s (wr σ 4 j.toNatClampNeg x) H1 locs1 → W p l e R s m args below meth c H1 locs1 cells slots Q (F0 m (pc + 1) ls rest)) : W p l e R s m args below meth c H locs cells slots Q (F0 m pc ls (.int x :: .int j :: .ref (a 1) :: rest)) :=
  va_iast (f := σ 4) hx hb hF.2.1 hs.1 (sF_D hF) hs.2 1 0 rfl rfl hin hdg (fun H1 locs1 hP _ hS => kk H1 locs1 (sS.to rw_set4 hP hS))
theorem x3_st {own : String} (hx : p.tables.exec = Jvm.exec) (hb : c.code = cc) (hF : sF p m c cc nL s args c0 own D (rwL a cA) (rty cA) B0) (hs : sS D (rwL a cA) B0 s σ H locs) (hin : vp_in j 12) (hdg : decode cc pc = .ok (.iastore, 1))
    (kk : ∀ (H1 : Heap) (locs1 : List Loc), sS D (rwL a cA) B0 s (wr σ 3 j.toNatClampNeg x) H1 locs1 → W p l e R s m args below meth c H1 locs1 cells slots Q (F0 m (pc + 1) ls rest)) : W p l e R s m args below meth c H locs cells slots Q (F0 m pc ls (.int x :: .int j :: .ref (a 2) :: rest)) :=
  va_iast (f := σ 3) hx hb hF.2.1 hs.1 (sF_D hF) hs.2 2 1 rfl rfl hin hdg (fun H1 locs1 hP _ hS => kk H1 locs1 (sS.to rw_set3 hP hS))
theorem x2_st {own : String} (hx : p.tables.exec = Jvm.exec) (hb : c.code = cc) (hF : sF p m c cc nL s args c0 own D (rwL a cA) (rty cA) B0) (hs : sS D (rwL a cA) B0 s σ H locs) (hin : vp_in j 12) (hdg : decode cc pc = .ok (.bastore, 1))
    (kk : ∀ (H1 : Heap) (locs1 : List Loc), sS D (rwL a cA) B0 s (wr σ 2 j.toNatClampNeg x) H1 locs1 → W p l e R s m args below meth c H1 locs1 cells slots Q (F0 m (pc + 1) ls rest)) : W p l e R s m args below meth c H locs cells slots Q (F0 m pc ls (.int x :: .int j :: .ref (a 3) :: rest)) :=
  va_zast (f := fun i => bo (σ 2 i)) hx hb hF.2.1 hs.1 (sF_D hF) hs.2 3 2 rfl rfl hin hdg (fun H1 locs1 hP _ hS => kk H1 locs1 (sS.to rw_set2 hP hS))
theorem x0_st {own : String} (hx : p.tables.exec = Jvm.exec) (hb : c.code = cc) (hF : sF p m c cc nL s args c0 own D (rwL a cA) (rty cA) B0) (hs : sS D (rwL a cA) B0 s σ H locs) (hin : vp_in j 256) (hdg : decode cc pc = .ok (.iastore, 1))
    (kk : ∀ (H1 : Heap) (locs1 : List Loc), sS D (rwL a cA) B0 s (wr σ 0 j.toNatClampNeg x) H1 locs1 → W p l e R s m args below meth c H1 locs1 cells slots Q (F0 m (pc + 1) ls rest)) : W p l e R s m args below meth c H locs cells slots Q (F0 m pc ls (.int x :: .int j :: .ref (a 4) :: rest)) :=
  va_iast (f := σ 0) hx hb hF.2.1 hs.1 (sF_D hF) hs.2 4 3 rfl rfl hin hdg (fun H1 locs1 hP _ hS => kk H1 locs1 (sS.to rw_set0 hP hS))
theorem x1_st {own : String} (hx : p.tables.exec = Jvm.exec) (hb : c.code = cc) (hF : sF p m c cc nL s args c0 own D (rwL a cA) (rty cA) B0) (hs : sS D (rwL a cA) B0 s σ H locs) (hin : vp_in j 128) (hdg : decode cc pc = .ok (.bastore, 1))
    (kk : ∀ (H1 : Heap) (locs1 : List Loc), sS D (rwL a cA) B0 s (wr σ 1 j.toNatClampNeg x) H1 locs1 → W p l e R s m args below meth c H1 locs1 cells slots Q (F0 m (pc + 1) ls rest)) : W p l e R s m args below meth c H locs cells slots Q (F0 m pc ls (.int x :: .int j :: .ref (a 5) :: rest)) :=
  va_zast (f := fun i => bo (σ 1 i)) hx hb hF.2.1 hs.1 (sF_D hF) hs.2 5 4 rfl rfl hin hdg (fun H1 locs1 hP _ hS => kk H1 locs1 (sS.to rw_set1 hP hS))
-- long constants of the pool
theorem x_ldc2 {own : String} {wl : Wl} {z : Int64} (hx : p.tables.exec = Jvm.exec) (hb : c.code = cc) (hF : sF p m c cc nL s args c0 own D wl tys B0) (hk : Cond.constantLong own ix z ∈ TG) (hdg : decode cc pc = .ok (.ldc2_w ix, 3))
    (kk : W p l e R s m args below meth c H locs cells slots Q (F0 m (pc + 3) ls (.long z :: rest))) : W p l e R s m args below meth c H locs cells slots Q (F0 m pc ls rest) :=
  lv_ldc2 hx hb hF.1.2.2.2.1 (hF.1.2.2.2.2 _ (List.mem_cons_of_mem _ hk)) hdg kk
end RW
theorem in13 {r : Int32} (h : vp_in r 12) : r.toNatClampNeg < 13 := Nat.lt_succ_of_lt (Nat.not_le.mp fun q => h (Or.inr q))
theorem in_mono {r : Int32} {n k : Nat} (hk : n ≤ k) (h : vp_in r n) : vp_in r k := fun q => h (q.elim Or.inl (fun z => Or.inr (Nat.le_trans hk z)))
end
