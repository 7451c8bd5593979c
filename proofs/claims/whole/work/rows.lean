section
-- ===== PART A: goes FIRST, ahead of the names: the tables' words, and 'selects' of the private methods out of them =====
/-- a private method of a class that the tables say can be made, by its rows of tables_1 -/
def lw_okq (q : MethodName × Nat) : Prop := (q.1.cls ≠ "java/lang/invoke/MethodHandle" ∧ q.1.cls ≠ "java/lang/invoke/VarHandle") ∧ Cond.instantiable q.1.cls q.2 ∈ tables_1 ∧ Cond.privateMethod q.1 ∈ tables_1 ∧ Cond.instanceMethod q.1 ∈ tables_1
theorem lw_p0 : lw_okq (⟨"CapabilityCore", "writeWord", "(II)V"⟩, 9) := ⟨⟨by decide +kernel, by decide +kernel⟩, List.mem_of_getElem? (i := 5) (by decide +kernel), List.mem_of_getElem? (i := 83) (by decide +kernel), List.mem_of_getElem? (i := 84) (by decide +kernel)⟩
theorem lw_p1 : lw_okq (⟨"CapabilityCore", "makeStep", "()V"⟩, 9) := ⟨⟨by decide +kernel, by decide +kernel⟩, List.mem_of_getElem? (i := 5) (by decide +kernel), List.mem_of_getElem? (i := 99) (by decide +kernel), List.mem_of_getElem? (i := 100) (by decide +kernel)⟩
theorem lw_p2 : lw_okq (⟨"CapabilityCore", "check", "(IIII)I"⟩, 9) := ⟨⟨by decide +kernel, by decide +kernel⟩, List.mem_of_getElem? (i := 5) (by decide +kernel), List.mem_of_getElem? (i := 103) (by decide +kernel), List.mem_of_getElem? (i := 104) (by decide +kernel)⟩
theorem lw_p3 : lw_okq (⟨"CapabilityCore", "execute", "(I)I"⟩, 9) := ⟨⟨by decide +kernel, by decide +kernel⟩, List.mem_of_getElem? (i := 5) (by decide +kernel), List.mem_of_getElem? (i := 140) (by decide +kernel), List.mem_of_getElem? (i := 141) (by decide +kernel)⟩
theorem lw_p4 : lw_okq (⟨"CapabilityCore", "load", "(III)I"⟩, 9) := ⟨⟨by decide +kernel, by decide +kernel⟩, List.mem_of_getElem? (i := 5) (by decide +kernel), List.mem_of_getElem? (i := 144) (by decide +kernel), List.mem_of_getElem? (i := 145) (by decide +kernel)⟩
theorem lw_p5 : lw_okq (⟨"CapabilityCore", "writeNumber", "(II)V"⟩, 9) := ⟨⟨by decide +kernel, by decide +kernel⟩, List.mem_of_getElem? (i := 5) (by decide +kernel), List.mem_of_getElem? (i := 148) (by decide +kernel), List.mem_of_getElem? (i := 149) (by decide +kernel)⟩
theorem lw_p6 : lw_okq (⟨"CapabilityCore", "store", "(III)I"⟩, 9) := ⟨⟨by decide +kernel, by decide +kernel⟩, List.mem_of_getElem? (i := 5) (by decide +kernel), List.mem_of_getElem? (i := 156) (by decide +kernel), List.mem_of_getElem? (i := 157) (by decide +kernel)⟩
theorem lw_p7 : lw_okq (⟨"CapabilityCore", "loadCapability", "(III)I"⟩, 9) := ⟨⟨by decide +kernel, by decide +kernel⟩, List.mem_of_getElem? (i := 5) (by decide +kernel), List.mem_of_getElem? (i := 160) (by decide +kernel), List.mem_of_getElem? (i := 161) (by decide +kernel)⟩
theorem lw_p8 : lw_okq (⟨"CapabilityCore", "writeMade", "(I)V"⟩, 9) := ⟨⟨by decide +kernel, by decide +kernel⟩, List.mem_of_getElem? (i := 5) (by decide +kernel), List.mem_of_getElem? (i := 164) (by decide +kernel), List.mem_of_getElem? (i := 165) (by decide +kernel)⟩
theorem lw_p9 : lw_okq (⟨"CapabilityCore", "storeCapability", "(III)I"⟩, 9) := ⟨⟨by decide +kernel, by decide +kernel⟩, List.mem_of_getElem? (i := 5) (by decide +kernel), List.mem_of_getElem? (i := 172) (by decide +kernel), List.mem_of_getElem? (i := 173) (by decide +kernel)⟩
theorem lw_p10 : lw_okq (⟨"CapabilityCore", "branch", "(I)I"⟩, 9) := ⟨⟨by decide +kernel, by decide +kernel⟩, List.mem_of_getElem? (i := 5) (by decide +kernel), List.mem_of_getElem? (i := 176) (by decide +kernel), List.mem_of_getElem? (i := 177) (by decide +kernel)⟩
theorem lw_p11 : lw_okq (⟨"CapabilityCore", "writeLink", "(I)V"⟩, 9) := ⟨⟨by decide +kernel, by decide +kernel⟩, List.mem_of_getElem? (i := 5) (by decide +kernel), List.mem_of_getElem? (i := 186) (by decide +kernel), List.mem_of_getElem? (i := 187) (by decide +kernel)⟩
theorem lw_p12 : lw_okq (⟨"CapabilityCore", "jump", "(II)I"⟩, 9) := ⟨⟨by decide +kernel, by decide +kernel⟩, List.mem_of_getElem? (i := 5) (by decide +kernel), List.mem_of_getElem? (i := 194) (by decide +kernel), List.mem_of_getElem? (i := 195) (by decide +kernel)⟩
theorem lw_p13 : lw_okq (⟨"CapabilityCore", "seal", "(III)I"⟩, 9) := ⟨⟨by decide +kernel, by decide +kernel⟩, List.mem_of_getElem? (i := 5) (by decide +kernel), List.mem_of_getElem? (i := 199) (by decide +kernel), List.mem_of_getElem? (i := 200) (by decide +kernel)⟩
theorem lw_p14 : lw_okq (⟨"CapabilityCore", "writeWithType", "(ILCapabilityCore$Capability;I)V"⟩, 9) := ⟨⟨by decide +kernel, by decide +kernel⟩, List.mem_of_getElem? (i := 5) (by decide +kernel), List.mem_of_getElem? (i := 203) (by decide +kernel), List.mem_of_getElem? (i := 204) (by decide +kernel)⟩
theorem lw_p15 : lw_okq (⟨"CapabilityCore", "unseal", "(III)I"⟩, 9) := ⟨⟨by decide +kernel, by decide +kernel⟩, List.mem_of_getElem? (i := 5) (by decide +kernel), List.mem_of_getElem? (i := 207) (by decide +kernel), List.mem_of_getElem? (i := 208) (by decide +kernel)⟩
def lw_privs_1 : List (MethodName × Nat) := [(⟨"CapabilityCore", "writeWord", "(II)V"⟩, 9), (⟨"CapabilityCore", "makeStep", "()V"⟩, 9), (⟨"CapabilityCore", "check", "(IIII)I"⟩, 9), (⟨"CapabilityCore", "execute", "(I)I"⟩, 9), (⟨"CapabilityCore", "load", "(III)I"⟩, 9), (⟨"CapabilityCore", "writeNumber", "(II)V"⟩, 9), (⟨"CapabilityCore", "store", "(III)I"⟩, 9), (⟨"CapabilityCore", "loadCapability", "(III)I"⟩, 9), (⟨"CapabilityCore", "writeMade", "(I)V"⟩, 9), (⟨"CapabilityCore", "storeCapability", "(III)I"⟩, 9), (⟨"CapabilityCore", "branch", "(I)I"⟩, 9), (⟨"CapabilityCore", "writeLink", "(I)V"⟩, 9), (⟨"CapabilityCore", "jump", "(II)I"⟩, 9), (⟨"CapabilityCore", "seal", "(III)I"⟩, 9), (⟨"CapabilityCore", "writeWithType", "(ILCapabilityCore$Capability;I)V"⟩, 9), (⟨"CapabilityCore", "unseal", "(III)I"⟩, 9)]
theorem lw_r1 : ∀ q ∈ lw_privs_1, lw_okq q := List.forall_mem_cons.mpr ⟨lw_p0, List.forall_mem_cons.mpr ⟨lw_p1, List.forall_mem_cons.mpr ⟨lw_p2, List.forall_mem_cons.mpr ⟨lw_p3, List.forall_mem_cons.mpr ⟨lw_p4, List.forall_mem_cons.mpr ⟨lw_p5, List.forall_mem_cons.mpr ⟨lw_p6, List.forall_mem_cons.mpr ⟨lw_p7, List.forall_mem_cons.mpr ⟨lw_p8, List.forall_mem_cons.mpr ⟨lw_p9, List.forall_mem_cons.mpr ⟨lw_p10, List.forall_mem_cons.mpr ⟨lw_p11, List.forall_mem_cons.mpr ⟨lw_p12, List.forall_mem_cons.mpr ⟨lw_p13, List.forall_mem_cons.mpr ⟨lw_p14, List.forall_mem_cons.mpr ⟨lw_p15, fun _ h => absurd h List.not_mem_nil⟩⟩⟩⟩⟩⟩⟩⟩⟩⟩⟩⟩⟩⟩⟩⟩
theorem lw_p16 : lw_okq (⟨"CapabilityCore", "swap", "(III)I"⟩, 9) := ⟨⟨by decide +kernel, by decide +kernel⟩, List.mem_of_getElem? (i := 5) (by decide +kernel), List.mem_of_getElem? (i := 215) (by decide +kernel), List.mem_of_getElem? (i := 216) (by decide +kernel)⟩
theorem lw_p17 : lw_okq (⟨"CapabilityCore", "returnFromTrap", "()I"⟩, 9) := ⟨⟨by decide +kernel, by decide +kernel⟩, List.mem_of_getElem? (i := 5) (by decide +kernel), List.mem_of_getElem? (i := 219) (by decide +kernel), List.mem_of_getElem? (i := 220) (by decide +kernel)⟩
theorem lw_p18 : lw_okq (⟨"CapabilityCore", "derive", "(IILCapabilityCore$Capability;LCapabilityCore$Capability;)V"⟩, 9) := ⟨⟨by decide +kernel, by decide +kernel⟩, List.mem_of_getElem? (i := 5) (by decide +kernel), List.mem_of_getElem? (i := 226) (by decide +kernel), List.mem_of_getElem? (i := 227) (by decide +kernel)⟩
theorem lw_p19 : lw_okq (⟨"CapabilityCore", "narrow", "(LCapabilityCore$Capability;I)V"⟩, 9) := ⟨⟨by decide +kernel, by decide +kernel⟩, List.mem_of_getElem? (i := 5) (by decide +kernel), List.mem_of_getElem? (i := 230) (by decide +kernel), List.mem_of_getElem? (i := 231) (by decide +kernel)⟩
theorem lw_p20 : lw_okq (⟨"CapabilityCore", "enterTrap", "(I)V"⟩, 9) := ⟨⟨by decide +kernel, by decide +kernel⟩, List.mem_of_getElem? (i := 5) (by decide +kernel), List.mem_of_getElem? (i := 242) (by decide +kernel), List.mem_of_getElem? (i := 243) (by decide +kernel)⟩
theorem lw_p21 : lw_okq (⟨"CapabilityCoreModel", "first", "(II)V"⟩, 12) := ⟨⟨by decide +kernel, by decide +kernel⟩, List.mem_of_getElem? (i := 285) (by decide +kernel), List.mem_of_getElem? (i := 291) (by decide +kernel), List.mem_of_getElem? (i := 292) (by decide +kernel)⟩
theorem lw_p22 : lw_okq (⟨"CapabilityCoreModel", "step", "()V"⟩, 12) := ⟨⟨by decide +kernel, by decide +kernel⟩, List.mem_of_getElem? (i := 285) (by decide +kernel), List.mem_of_getElem? (i := 354) (by decide +kernel), List.mem_of_getElem? (i := 355) (by decide +kernel)⟩
theorem lw_p23 : lw_okq (⟨"CapabilityCoreModel", "check", "(IIII)I"⟩, 12) := ⟨⟨by decide +kernel, by decide +kernel⟩, List.mem_of_getElem? (i := 285) (by decide +kernel), List.mem_of_getElem? (i := 358) (by decide +kernel), List.mem_of_getElem? (i := 359) (by decide +kernel)⟩
theorem lw_p24 : lw_okq (⟨"CapabilityCoreModel", "has", "(II)Z"⟩, 12) := ⟨⟨by decide +kernel, by decide +kernel⟩, List.mem_of_getElem? (i := 285) (by decide +kernel), List.mem_of_getElem? (i := 369) (by decide +kernel), List.mem_of_getElem? (i := 370) (by decide +kernel)⟩
theorem lw_p25 : lw_okq (⟨"CapabilityCoreModel", "trap", "(I)V"⟩, 12) := ⟨⟨by decide +kernel, by decide +kernel⟩, List.mem_of_getElem? (i := 285) (by decide +kernel), List.mem_of_getElem? (i := 391) (by decide +kernel), List.mem_of_getElem? (i := 392) (by decide +kernel)⟩
theorem lw_p26 : lw_okq (⟨"CapabilityCoreModel", "take", "(I)V"⟩, 12) := ⟨⟨by decide +kernel, by decide +kernel⟩, List.mem_of_getElem? (i := 285) (by decide +kernel), List.mem_of_getElem? (i := 395) (by decide +kernel), List.mem_of_getElem? (i := 396) (by decide +kernel)⟩
theorem lw_p27 : lw_okq (⟨"CapabilityCoreModel", "put", "(I)V"⟩, 12) := ⟨⟨by decide +kernel, by decide +kernel⟩, List.mem_of_getElem? (i := 285) (by decide +kernel), List.mem_of_getElem? (i := 399) (by decide +kernel), List.mem_of_getElem? (i := 400) (by decide +kernel)⟩
theorem lw_p28 : lw_okq (⟨"CapabilityCoreModel", "trapOf", "(IIII)I"⟩, 12) := ⟨⟨by decide +kernel, by decide +kernel⟩, List.mem_of_getElem? (i := 285) (by decide +kernel), List.mem_of_getElem? (i := 403) (by decide +kernel), List.mem_of_getElem? (i := 404) (by decide +kernel)⟩
theorem lw_p29 : lw_okq (⟨"CapabilityCoreModel", "sealing", "(ZIII)I"⟩, 12) := ⟨⟨by decide +kernel, by decide +kernel⟩, List.mem_of_getElem? (i := 285) (by decide +kernel), List.mem_of_getElem? (i := 407) (by decide +kernel), List.mem_of_getElem? (i := 408) (by decide +kernel)⟩
theorem lw_p30 : lw_okq (⟨"CapabilityCoreModel", "number", "(I)V"⟩, 12) := ⟨⟨by decide +kernel, by decide +kernel⟩, List.mem_of_getElem? (i := 285) (by decide +kernel), List.mem_of_getElem? (i := 414) (by decide +kernel), List.mem_of_getElem? (i := 415) (by decide +kernel)⟩
theorem lw_p31 : lw_okq (⟨"CapabilityCoreModel", "go", "(I)V"⟩, 12) := ⟨⟨by decide +kernel, by decide +kernel⟩, List.mem_of_getElem? (i := 285) (by decide +kernel), List.mem_of_getElem? (i := 418) (by decide +kernel), List.mem_of_getElem? (i := 419) (by decide +kernel)⟩
def lw_privs_2 : List (MethodName × Nat) := [(⟨"CapabilityCore", "swap", "(III)I"⟩, 9), (⟨"CapabilityCore", "returnFromTrap", "()I"⟩, 9), (⟨"CapabilityCore", "derive", "(IILCapabilityCore$Capability;LCapabilityCore$Capability;)V"⟩, 9), (⟨"CapabilityCore", "narrow", "(LCapabilityCore$Capability;I)V"⟩, 9), (⟨"CapabilityCore", "enterTrap", "(I)V"⟩, 9), (⟨"CapabilityCoreModel", "first", "(II)V"⟩, 12), (⟨"CapabilityCoreModel", "step", "()V"⟩, 12), (⟨"CapabilityCoreModel", "check", "(IIII)I"⟩, 12), (⟨"CapabilityCoreModel", "has", "(II)Z"⟩, 12), (⟨"CapabilityCoreModel", "trap", "(I)V"⟩, 12), (⟨"CapabilityCoreModel", "take", "(I)V"⟩, 12), (⟨"CapabilityCoreModel", "put", "(I)V"⟩, 12), (⟨"CapabilityCoreModel", "trapOf", "(IIII)I"⟩, 12), (⟨"CapabilityCoreModel", "sealing", "(ZIII)I"⟩, 12), (⟨"CapabilityCoreModel", "number", "(I)V"⟩, 12), (⟨"CapabilityCoreModel", "go", "(I)V"⟩, 12)]
theorem lw_r2 : ∀ q ∈ lw_privs_2, lw_okq q := List.forall_mem_cons.mpr ⟨lw_p16, List.forall_mem_cons.mpr ⟨lw_p17, List.forall_mem_cons.mpr ⟨lw_p18, List.forall_mem_cons.mpr ⟨lw_p19, List.forall_mem_cons.mpr ⟨lw_p20, List.forall_mem_cons.mpr ⟨lw_p21, List.forall_mem_cons.mpr ⟨lw_p22, List.forall_mem_cons.mpr ⟨lw_p23, List.forall_mem_cons.mpr ⟨lw_p24, List.forall_mem_cons.mpr ⟨lw_p25, List.forall_mem_cons.mpr ⟨lw_p26, List.forall_mem_cons.mpr ⟨lw_p27, List.forall_mem_cons.mpr ⟨lw_p28, List.forall_mem_cons.mpr ⟨lw_p29, List.forall_mem_cons.mpr ⟨lw_p30, List.forall_mem_cons.mpr ⟨lw_p31, fun _ h => absurd h List.not_mem_nil⟩⟩⟩⟩⟩⟩⟩⟩⟩⟩⟩⟩⟩⟩⟩⟩
theorem lw_p32 : lw_okq (⟨"CapabilityCoreModel", "move", "(I)V"⟩, 12) := ⟨⟨by decide +kernel, by decide +kernel⟩, List.mem_of_getElem? (i := 285) (by decide +kernel), List.mem_of_getElem? (i := 422) (by decide +kernel), List.mem_of_getElem? (i := 423) (by decide +kernel)⟩
theorem lw_p33 : lw_okq (⟨"CapabilityCoreModel", "access", "(IIIII)V"⟩, 12) := ⟨⟨by decide +kernel, by decide +kernel⟩, List.mem_of_getElem? (i := 285) (by decide +kernel), List.mem_of_getElem? (i := 426) (by decide +kernel), List.mem_of_getElem? (i := 427) (by decide +kernel)⟩
theorem lw_p34 : lw_okq (⟨"CapabilityCoreModel", "turn", "(IIIII)V"⟩, 12) := ⟨⟨by decide +kernel, by decide +kernel⟩, List.mem_of_getElem? (i := 285) (by decide +kernel), List.mem_of_getElem? (i := 430) (by decide +kernel), List.mem_of_getElem? (i := 431) (by decide +kernel)⟩
theorem lw_p35 : lw_okq (⟨"CapabilityCoreModel", "link", "()V"⟩, 12) := ⟨⟨by decide +kernel, by decide +kernel⟩, List.mem_of_getElem? (i := 285) (by decide +kernel), List.mem_of_getElem? (i := 434) (by decide +kernel), List.mem_of_getElem? (i := 435) (by decide +kernel)⟩
theorem lw_p36 : lw_okq (⟨"CapabilityCoreModel", "typed", "(II)V"⟩, 12) := ⟨⟨by decide +kernel, by decide +kernel⟩, List.mem_of_getElem? (i := 285) (by decide +kernel), List.mem_of_getElem? (i := 438) (by decide +kernel), List.mem_of_getElem? (i := 439) (by decide +kernel)⟩
theorem lw_p37 : lw_okq (⟨"CapabilityCoreModel", "shape", "(IIIII)V"⟩, 12) := ⟨⟨by decide +kernel, by decide +kernel⟩, List.mem_of_getElem? (i := 285) (by decide +kernel), List.mem_of_getElem? (i := 442) (by decide +kernel), List.mem_of_getElem? (i := 443) (by decide +kernel)⟩
theorem lw_p38 : lw_okq (⟨"CapabilityCoreModel", "told", "(II)I"⟩, 12) := ⟨⟨by decide +kernel, by decide +kernel⟩, List.mem_of_getElem? (i := 285) (by decide +kernel), List.mem_of_getElem? (i := 446) (by decide +kernel), List.mem_of_getElem? (i := 447) (by decide +kernel)⟩
theorem lw_p39 : lw_okq (⟨"CapabilityCoreModel", "build", "(II)V"⟩, 12) := ⟨⟨by decide +kernel, by decide +kernel⟩, List.mem_of_getElem? (i := 285) (by decide +kernel), List.mem_of_getElem? (i := 450) (by decide +kernel), List.mem_of_getElem? (i := 451) (by decide +kernel)⟩
theorem lw_p40 : lw_okq (⟨"CapabilityCoreModel", "rule", "(IIII)V"⟩, 12) := ⟨⟨by decide +kernel, by decide +kernel⟩, List.mem_of_getElem? (i := 285) (by decide +kernel), List.mem_of_getElem? (i := 454) (by decide +kernel), List.mem_of_getElem? (i := 455) (by decide +kernel)⟩
def lw_privs_3 : List (MethodName × Nat) := [(⟨"CapabilityCoreModel", "move", "(I)V"⟩, 12), (⟨"CapabilityCoreModel", "access", "(IIIII)V"⟩, 12), (⟨"CapabilityCoreModel", "turn", "(IIIII)V"⟩, 12), (⟨"CapabilityCoreModel", "link", "()V"⟩, 12), (⟨"CapabilityCoreModel", "typed", "(II)V"⟩, 12), (⟨"CapabilityCoreModel", "shape", "(IIIII)V"⟩, 12), (⟨"CapabilityCoreModel", "told", "(II)I"⟩, 12), (⟨"CapabilityCoreModel", "build", "(II)V"⟩, 12), (⟨"CapabilityCoreModel", "rule", "(IIII)V"⟩, 12)]
theorem lw_r3 : ∀ q ∈ lw_privs_3, lw_okq q := List.forall_mem_cons.mpr ⟨lw_p32, List.forall_mem_cons.mpr ⟨lw_p33, List.forall_mem_cons.mpr ⟨lw_p34, List.forall_mem_cons.mpr ⟨lw_p35, List.forall_mem_cons.mpr ⟨lw_p36, List.forall_mem_cons.mpr ⟨lw_p37, List.forall_mem_cons.mpr ⟨lw_p38, List.forall_mem_cons.mpr ⟨lw_p39, List.forall_mem_cons.mpr ⟨lw_p40, fun _ h => absurd h List.not_mem_nil⟩⟩⟩⟩⟩⟩⟩⟩⟩
def lw_privs : List (MethodName × Nat) := lw_privs_1 ++ (lw_privs_2 ++ (lw_privs_3))
def lw_tbl : List Cond := k2_sels lw_privs ++ tables_1
theorem lw_privs_ok : ∀ q ∈ lw_privs, lw_okq q := by
  show ∀ q ∈ lw_privs_1 ++ (lw_privs_2 ++ (lw_privs_3)), lw_okq q
  exact List.forall_mem_append.mpr ⟨lw_r1, List.forall_mem_append.mpr ⟨lw_r2, lw_r3⟩⟩
/-- all good words of the tables: every method's words are its own code and these -/
def TG : List Cond := lw_tbl.filter goodWord
theorem tg_t {w : Cond} (h : w ∈ tables_1) (g : goodWord w = true) : w ∈ TG := List.mem_filter.mpr ⟨List.mem_append_right _ h, g⟩
theorem tg_p {w : Cond} (h : w ∈ k2_sels lw_privs) (g : goodWord w = true) : w ∈ TG := List.mem_filter.mpr ⟨List.mem_append_left _ h, g⟩
theorem tg_in {c0 c1 : Cond} (h : c1 ∈ TG) : GoodIn (c0 :: TG) (c1 :: TG) := fun w hw => by
  have h2 : w ∈ TG := by
    rcases List.mem_cons.mp hw with e | e
    · rw [e]; exact h
    · exact e
  exact ⟨List.mem_cons_of_mem _ h2, good_of_word (List.mem_filter.mp h2).2⟩
theorem tg_law {c1 : Cond} (h : c1 ∈ TG) : GoodIn lw_tbl (c1 :: TG) := fun w hw => by
  have h2 : w ∈ TG := by
    rcases List.mem_cons.mp hw with e | e
    · rw [e]; exact h
    · exact e
  exact ⟨(List.mem_filter.mp h2).1, good_of_word (List.mem_filter.mp h2).2⟩
end
section
def R_K : String := "CapabilityCore$Capability"
def R_X : String := "CapabilityCore"
def R_M : String := "CapabilityCoreModel"
def R_L : String := "CapabilityCoreLaw"
def F_K : u_T := fun k => match k with
  | 0 => ("CapabilityCore$Capability", "tag", "Z", false)
  | 1 => ("CapabilityCore$Capability", "meta", "I", false)
  | _ => ("CapabilityCore$Capability", "address", "I", false)
def t_K : Nat → FieldType := fun k => match k with
  | 0 => .boolean
  | 1 => .int
  | _ => .int
theorem n_K : ∀ a, a < 3 → ∀ b, b < 3 → a ≠ b → (F_K a).2.1 ≠ (F_K b).2.1 := by decide +kernel
theorem t_K_ok : ∀ k, k < 3 → parseFieldDescriptor (F_K k).2.2.1 = some (t_K k) := by decide +kernel
theorem u_K_0 : Cond.lays "CapabilityCore$Capability" "CapabilityCore$Capability" "tag" "Z" ∈ TG := tg_t (List.mem_of_getElem? (i := 25) (by decide +kernel)) (by decide +kernel)
theorem u_K_1 : Cond.lays "CapabilityCore$Capability" "CapabilityCore$Capability" "meta" "I" ∈ TG := tg_t (List.mem_of_getElem? (i := 27) (by decide +kernel)) (by decide +kernel)
theorem u_K_2 : Cond.lays "CapabilityCore$Capability" "CapabilityCore$Capability" "address" "I" ∈ TG := tg_t (List.mem_of_getElem? (i := 29) (by decide +kernel)) (by decide +kernel)
theorem u_K : ∀ w ∈ u_ws R_K F_K 3, w ∈ TG := fun w h => by
  obtain ⟨k, hk, rfl⟩ := List.mem_map.mp h
  have hk := List.mem_range.mp hk
  match k, hk with
  | 0, _ => exact u_K_0
  | 1, _ => exact u_K_1
  | 2, _ => exact u_K_2
def F_X : u_T := fun k => match k with
  | 0 => ("CapabilityCore", "words", "[I", true)
  | 1 => ("CapabilityCore", "granuleTags", "[Z", true)
  | 2 => ("CapabilityCore", "registers", "[LCapabilityCore$Capability;", true)
  | 3 => ("CapabilityCore", "pcc", "LCapabilityCore$Capability;", true)
  | 4 => ("CapabilityCore", "made", "LCapabilityCore$Capability;", true)
  | 5 => ("CapabilityCore", "mode", "I", false)
  | 6 => ("CapabilityCore", "lastCause", "I", false)
  | 7 => ("CapabilityCore", "stepCount", "I", false)
  | _ => ("CapabilityCore", "trapCount", "I", false)
def t_X : Nat → FieldType := fun k => match k with
  | 0 => .array .int
  | 1 => .array .boolean
  | 2 => .array (.object "CapabilityCore$Capability")
  | 3 => .object "CapabilityCore$Capability"
  | 4 => .object "CapabilityCore$Capability"
  | 5 => .int
  | 6 => .int
  | 7 => .int
  | _ => .int
theorem n_X : ∀ a, a < 9 → ∀ b, b < 9 → a ≠ b → (F_X a).2.1 ≠ (F_X b).2.1 := by decide +kernel
theorem t_X_ok : ∀ k, k < 9 → parseFieldDescriptor (F_X k).2.2.1 = some (t_X k) := by decide +kernel
theorem u_X_0 : Cond.laysFinal "CapabilityCore" "CapabilityCore" "words" "[I" ∈ TG := tg_t (List.mem_of_getElem? (i := 56) (by decide +kernel)) (by decide +kernel)
theorem u_X_1 : Cond.laysFinal "CapabilityCore" "CapabilityCore" "granuleTags" "[Z" ∈ TG := tg_t (List.mem_of_getElem? (i := 58) (by decide +kernel)) (by decide +kernel)
theorem u_X_2 : Cond.laysFinal "CapabilityCore" "CapabilityCore" "registers" "[LCapabilityCore$Capability;" ∈ TG := tg_t (List.mem_of_getElem? (i := 60) (by decide +kernel)) (by decide +kernel)
theorem u_X_3 : Cond.laysFinal "CapabilityCore" "CapabilityCore" "pcc" "LCapabilityCore$Capability;" ∈ TG := tg_t (List.mem_of_getElem? (i := 62) (by decide +kernel)) (by decide +kernel)
theorem u_X_4 : Cond.laysFinal "CapabilityCore" "CapabilityCore" "made" "LCapabilityCore$Capability;" ∈ TG := tg_t (List.mem_of_getElem? (i := 64) (by decide +kernel)) (by decide +kernel)
theorem u_X_5 : Cond.lays "CapabilityCore" "CapabilityCore" "mode" "I" ∈ TG := tg_t (List.mem_of_getElem? (i := 66) (by decide +kernel)) (by decide +kernel)
theorem u_X_6 : Cond.lays "CapabilityCore" "CapabilityCore" "lastCause" "I" ∈ TG := tg_t (List.mem_of_getElem? (i := 68) (by decide +kernel)) (by decide +kernel)
theorem u_X_7 : Cond.lays "CapabilityCore" "CapabilityCore" "stepCount" "I" ∈ TG := tg_t (List.mem_of_getElem? (i := 70) (by decide +kernel)) (by decide +kernel)
theorem u_X_8 : Cond.lays "CapabilityCore" "CapabilityCore" "trapCount" "I" ∈ TG := tg_t (List.mem_of_getElem? (i := 72) (by decide +kernel)) (by decide +kernel)
theorem u_X : ∀ w ∈ u_ws R_X F_X 9, w ∈ TG := fun w h => by
  obtain ⟨k, hk, rfl⟩ := List.mem_map.mp h
  have hk := List.mem_range.mp hk
  match k, hk with
  | 0, _ => exact u_X_0
  | 1, _ => exact u_X_1
  | 2, _ => exact u_X_2
  | 3, _ => exact u_X_3
  | 4, _ => exact u_X_4
  | 5, _ => exact u_X_5
  | 6, _ => exact u_X_6
  | 7, _ => exact u_X_7
  | 8, _ => exact u_X_8
def F_M : u_T := fun k => match k with
  | 0 => ("CapabilityCoreModel", "address", "[I", true)
  | 1 => ("CapabilityCoreModel", "meta", "[I", true)
  | 2 => ("CapabilityCoreModel", "tag", "[Z", true)
  | 3 => ("CapabilityCoreModel", "memory", "[I", true)
  | 4 => ("CapabilityCoreModel", "granule", "[Z", true)
  | 5 => ("CapabilityCoreModel", "state", "I", false)
  | 6 => ("CapabilityCoreModel", "cause", "I", false)
  | 7 => ("CapabilityCoreModel", "steps", "I", false)
  | 8 => ("CapabilityCoreModel", "traps", "I", false)
  | 9 => ("CapabilityCoreModel", "newAddress", "I", false)
  | 10 => ("CapabilityCoreModel", "newMeta", "I", false)
  | _ => ("CapabilityCoreModel", "newTag", "Z", false)
def t_M : Nat → FieldType := fun k => match k with
  | 0 => .array .int
  | 1 => .array .int
  | 2 => .array .boolean
  | 3 => .array .int
  | 4 => .array .boolean
  | 5 => .int
  | 6 => .int
  | 7 => .int
  | 8 => .int
  | 9 => .int
  | 10 => .int
  | _ => .boolean
theorem n_M : ∀ a, a < 12 → ∀ b, b < 12 → a ≠ b → (F_M a).2.1 ≠ (F_M b).2.1 := by decide +kernel
theorem t_M_ok : ∀ k, k < 12 → parseFieldDescriptor (F_M k).2.2.1 = some (t_M k) := by decide +kernel
theorem u_M_0 : Cond.laysFinal "CapabilityCoreModel" "CapabilityCoreModel" "address" "[I" ∈ TG := tg_t (List.mem_of_getElem? (i := 312) (by decide +kernel)) (by decide +kernel)
theorem u_M_1 : Cond.laysFinal "CapabilityCoreModel" "CapabilityCoreModel" "meta" "[I" ∈ TG := tg_t (List.mem_of_getElem? (i := 314) (by decide +kernel)) (by decide +kernel)
theorem u_M_2 : Cond.laysFinal "CapabilityCoreModel" "CapabilityCoreModel" "tag" "[Z" ∈ TG := tg_t (List.mem_of_getElem? (i := 316) (by decide +kernel)) (by decide +kernel)
theorem u_M_3 : Cond.laysFinal "CapabilityCoreModel" "CapabilityCoreModel" "memory" "[I" ∈ TG := tg_t (List.mem_of_getElem? (i := 318) (by decide +kernel)) (by decide +kernel)
theorem u_M_4 : Cond.laysFinal "CapabilityCoreModel" "CapabilityCoreModel" "granule" "[Z" ∈ TG := tg_t (List.mem_of_getElem? (i := 320) (by decide +kernel)) (by decide +kernel)
theorem u_M_5 : Cond.lays "CapabilityCoreModel" "CapabilityCoreModel" "state" "I" ∈ TG := tg_t (List.mem_of_getElem? (i := 322) (by decide +kernel)) (by decide +kernel)
theorem u_M_6 : Cond.lays "CapabilityCoreModel" "CapabilityCoreModel" "cause" "I" ∈ TG := tg_t (List.mem_of_getElem? (i := 324) (by decide +kernel)) (by decide +kernel)
theorem u_M_7 : Cond.lays "CapabilityCoreModel" "CapabilityCoreModel" "steps" "I" ∈ TG := tg_t (List.mem_of_getElem? (i := 326) (by decide +kernel)) (by decide +kernel)
theorem u_M_8 : Cond.lays "CapabilityCoreModel" "CapabilityCoreModel" "traps" "I" ∈ TG := tg_t (List.mem_of_getElem? (i := 328) (by decide +kernel)) (by decide +kernel)
theorem u_M_9 : Cond.lays "CapabilityCoreModel" "CapabilityCoreModel" "newAddress" "I" ∈ TG := tg_t (List.mem_of_getElem? (i := 330) (by decide +kernel)) (by decide +kernel)
theorem u_M_10 : Cond.lays "CapabilityCoreModel" "CapabilityCoreModel" "newMeta" "I" ∈ TG := tg_t (List.mem_of_getElem? (i := 332) (by decide +kernel)) (by decide +kernel)
theorem u_M_11 : Cond.lays "CapabilityCoreModel" "CapabilityCoreModel" "newTag" "Z" ∈ TG := tg_t (List.mem_of_getElem? (i := 334) (by decide +kernel)) (by decide +kernel)
theorem u_M : ∀ w ∈ u_ws R_M F_M 12, w ∈ TG := fun w h => by
  obtain ⟨k, hk, rfl⟩ := List.mem_map.mp h
  have hk := List.mem_range.mp hk
  match k, hk with
  | 0, _ => exact u_M_0
  | 1, _ => exact u_M_1
  | 2, _ => exact u_M_2
  | 3, _ => exact u_M_3
  | 4, _ => exact u_M_4
  | 5, _ => exact u_M_5
  | 6, _ => exact u_M_6
  | 7, _ => exact u_M_7
  | 8, _ => exact u_M_8
  | 9, _ => exact u_M_9
  | 10, _ => exact u_M_10
  | 11, _ => exact u_M_11
abbrev classes : List vw_C := [(R_K, F_K, 3), (R_X, F_X, 9), (R_M, F_M, 12)]
abbrev c_X_init : ByteArray := prog_1_method_1_code
def y_X_init : MethodName := ⟨R_X, "<init>", "()V"⟩
def w_X_init : List Cond := .code y_X_init c_X_init 2 (none : Option FieldType) :: TG
abbrev c_K_init : ByteArray := prog_2_method_1_code
def y_K_init : MethodName := ⟨R_K, "<init>", "()V"⟩
def w_K_init : List Cond := .code y_K_init c_K_init 1 (none : Option FieldType) :: TG
abbrev c_K_becomeRoot : ByteArray := prog_2_method_4_code
def y_K_becomeRoot : MethodName := ⟨R_K, "becomeRoot", "(I)V"⟩
def w_K_becomeRoot : List Cond := .code y_K_becomeRoot c_K_becomeRoot 2 (none : Option FieldType) :: TG
abbrev c_K_bound : ByteArray := prog_2_method_12_code
def y_K_bound : MethodName := ⟨R_K, "bound", "(JJ)V"⟩
def w_K_bound : List Cond := .code y_K_bound c_K_bound 8 (none : Option FieldType) :: TG
abbrev c_K_unitsUp : ByteArray := prog_2_method_13_code
def y_K_unitsUp : MethodName := ⟨R_K, "unitsUp", "(JI)J"⟩
def w_K_unitsUp : List Cond := .code y_K_unitsUp c_K_unitsUp 3 (some FieldType.long) :: TG
abbrev c_X_poke : ByteArray := prog_1_method_2_code
def y_X_poke : MethodName := ⟨R_X, "poke", "(II)Z"⟩
def w_X_poke : List Cond := .code y_X_poke c_X_poke 3 (some FieldType.boolean) :: TG
abbrev c_X_isWord : ByteArray := prog_1_method_15_code
def y_X_isWord : MethodName := ⟨R_X, "isWord", "(I)Z"⟩
def w_X_isWord : List Cond := .code y_X_isWord c_X_isWord 1 (some FieldType.boolean) :: TG
abbrev c_X_writeWord : ByteArray := prog_1_method_41_code
def y_X_writeWord : MethodName := ⟨R_X, "writeWord", "(II)V"⟩
def w_X_writeWord : List Cond := .code y_X_writeWord c_X_writeWord 3 (none : Option FieldType) :: TG
abbrev c_X_peek : ByteArray := prog_1_method_3_code
def y_X_peek : MethodName := ⟨R_X, "peek", "(I)I"⟩
def w_X_peek : List Cond := .code y_X_peek c_X_peek 2 (some FieldType.int) :: TG
abbrev c_X_tagged : ByteArray := prog_1_method_4_code
def y_X_tagged : MethodName := ⟨R_X, "tagged", "(I)Z"⟩
def w_X_tagged : List Cond := .code y_X_tagged c_X_tagged 2 (some FieldType.boolean) :: TG
abbrev c_X_run : ByteArray := prog_1_method_5_code
def y_X_run : MethodName := ⟨R_X, "run", "(I)I"⟩
def w_X_run : List Cond := .code y_X_run c_X_run 3 (some FieldType.int) :: TG
abbrev c_X_makeStep : ByteArray := prog_1_method_17_code
def y_X_makeStep : MethodName := ⟨R_X, "makeStep", "()V"⟩
def w_X_makeStep : List Cond := .code y_X_makeStep c_X_makeStep 2 (none : Option FieldType) :: TG
abbrev c_X_check : ByteArray := prog_1_method_20_code
def y_X_check : MethodName := ⟨R_X, "check", "(IIII)I"⟩
def w_X_check : List Cond := .code y_X_check c_X_check 8 (some FieldType.int) :: TG
abbrev c_X_trapOf : ByteArray := prog_1_method_19_code
def y_X_trapOf : MethodName := ⟨R_X, "trapOf", "(II)I"⟩
def w_X_trapOf : List Cond := .code y_X_trapOf c_X_trapOf 2 (some FieldType.int) :: TG
abbrev c_K_isSealed : ByteArray := prog_2_method_9_code
def y_K_isSealed : MethodName := ⟨R_K, "isSealed", "()Z"⟩
def w_K_isSealed : List Cond := .code y_K_isSealed c_K_isSealed 1 (some FieldType.boolean) :: TG
abbrev c_K_type : ByteArray := prog_2_method_8_code
def y_K_type : MethodName := ⟨R_K, "type", "()I"⟩
def w_K_type : List Cond := .code y_K_type c_K_type 1 (some FieldType.int) :: TG
abbrev c_K_permits : ByteArray := prog_2_method_6_code
def y_K_permits : MethodName := ⟨R_K, "permits", "(I)Z"⟩
def w_K_permits : List Cond := .code y_K_permits c_K_permits 2 (some FieldType.boolean) :: TG
abbrev c_K_permissions : ByteArray := prog_2_method_5_code
def y_K_permissions : MethodName := ⟨R_K, "permissions", "()I"⟩
def w_K_permissions : List Cond := .code y_K_permissions c_K_permissions 1 (some FieldType.int) :: TG
abbrev c_K_lowerBound : ByteArray := prog_2_method_14_code
def y_K_lowerBound : MethodName := ⟨R_K, "lowerBound", "()J"⟩
def w_K_lowerBound : List Cond := .code y_K_lowerBound c_K_lowerBound 7 (some FieldType.long) :: TG
abbrev c_K_upperBound : ByteArray := prog_2_method_15_code
def y_K_upperBound : MethodName := ⟨R_K, "upperBound", "()J"⟩
def w_K_upperBound : List Cond := .code y_K_upperBound c_K_upperBound 6 (some FieldType.long) :: TG
abbrev c_X_execute : ByteArray := prog_1_method_21_code
def y_X_execute : MethodName := ⟨R_X, "execute", "(I)I"⟩
def w_X_execute : List Cond := .code y_X_execute c_X_execute 8 (some FieldType.int) :: TG
abbrev c_X_load : ByteArray := prog_1_method_27_code
def y_X_load : MethodName := ⟨R_X, "load", "(III)I"⟩
def w_X_load : List Cond := .code y_X_load c_X_load 6 (some FieldType.int) :: TG
abbrev c_X_writeNumber : ByteArray := prog_1_method_40_code
def y_X_writeNumber : MethodName := ⟨R_X, "writeNumber", "(II)V"⟩
def w_X_writeNumber : List Cond := .code y_X_writeNumber c_X_writeNumber 3 (none : Option FieldType) :: TG
abbrev c_K_becomeNumber : ByteArray := prog_2_method_3_code
def y_K_becomeNumber : MethodName := ⟨R_K, "becomeNumber", "(I)V"⟩
def w_K_becomeNumber : List Cond := .code y_K_becomeNumber c_K_becomeNumber 2 (none : Option FieldType) :: TG
abbrev c_X_store : ByteArray := prog_1_method_28_code
def y_X_store : MethodName := ⟨R_X, "store", "(III)I"⟩
def w_X_store : List Cond := .code y_X_store c_X_store 6 (some FieldType.int) :: TG
abbrev c_X_loadCapability : ByteArray := prog_1_method_29_code
def y_X_loadCapability : MethodName := ⟨R_X, "loadCapability", "(III)I"⟩
def w_X_loadCapability : List Cond := .code y_X_loadCapability c_X_loadCapability 7 (some FieldType.int) :: TG
abbrev c_X_writeMade : ByteArray := prog_1_method_39_code
def y_X_writeMade : MethodName := ⟨R_X, "writeMade", "(I)V"⟩
def w_X_writeMade : List Cond := .code y_X_writeMade c_X_writeMade 2 (none : Option FieldType) :: TG
abbrev c_K_copy : ByteArray := prog_2_method_2_code
def y_K_copy : MethodName := ⟨R_K, "copy", "(LCapabilityCore$Capability;)V"⟩
def w_K_copy : List Cond := .code y_K_copy c_K_copy 2 (none : Option FieldType) :: TG
abbrev c_X_storeCapability : ByteArray := prog_1_method_30_code
def y_X_storeCapability : MethodName := ⟨R_X, "storeCapability", "(III)I"⟩
def w_X_storeCapability : List Cond := .code y_X_storeCapability c_X_storeCapability 8 (some FieldType.int) :: TG
abbrev c_X_branch : ByteArray := prog_1_method_36_code
def y_X_branch : MethodName := ⟨R_X, "branch", "(I)I"⟩
def w_X_branch : List Cond := .code y_X_branch c_X_branch 2 (some FieldType.int) :: TG
abbrev c_K_move : ByteArray := prog_2_method_11_code
def y_K_move : MethodName := ⟨R_K, "move", "(I)V"⟩
def w_K_move : List Cond := .code y_K_move c_K_move 6 (none : Option FieldType) :: TG
abbrev c_X_writeLink : ByteArray := prog_1_method_37_code
def y_X_writeLink : MethodName := ⟨R_X, "writeLink", "(I)V"⟩
def w_X_writeLink : List Cond := .code y_X_writeLink c_X_writeLink 2 (none : Option FieldType) :: TG
abbrev c_K_setType : ByteArray := prog_2_method_10_code
def y_K_setType : MethodName := ⟨R_K, "setType", "(I)V"⟩
def w_K_setType : List Cond := .code y_K_setType c_K_setType 2 (none : Option FieldType) :: TG
abbrev c_X_jump : ByteArray := prog_1_method_31_code
def y_X_jump : MethodName := ⟨R_X, "jump", "(II)I"⟩
def w_X_jump : List Cond := .code y_X_jump c_X_jump 4 (some FieldType.int) :: TG
abbrev c_X_seal : ByteArray := prog_1_method_32_code
def y_X_seal : MethodName := ⟨R_X, "seal", "(III)I"⟩
def w_X_seal : List Cond := .code y_X_seal c_X_seal 7 (some FieldType.int) :: TG
abbrev c_X_writeWithType : ByteArray := prog_1_method_38_code
def y_X_writeWithType : MethodName := ⟨R_X, "writeWithType", "(ILCapabilityCore$Capability;I)V"⟩
def w_X_writeWithType : List Cond := .code y_X_writeWithType c_X_writeWithType 4 (none : Option FieldType) :: TG
abbrev c_X_unseal : ByteArray := prog_1_method_33_code
def y_X_unseal : MethodName := ⟨R_X, "unseal", "(III)I"⟩
def w_X_unseal : List Cond := .code y_X_unseal c_X_unseal 7 (some FieldType.int) :: TG
abbrev c_X_tell : ByteArray := prog_1_method_26_code
def y_X_tell : MethodName := ⟨R_X, "tell", "(LCapabilityCore$Capability;I)I"⟩
def w_X_tell : List Cond := .code y_X_tell c_X_tell 2 (some FieldType.int) :: TG
abbrev c_X_swap : ByteArray := prog_1_method_34_code
def y_X_swap : MethodName := ⟨R_X, "swap", "(III)I"⟩
def w_X_swap : List Cond := .code y_X_swap c_X_swap 5 (some FieldType.int) :: TG
abbrev c_X_returnFromTrap : ByteArray := prog_1_method_35_code
def y_X_returnFromTrap : MethodName := ⟨R_X, "returnFromTrap", "()I"⟩
def w_X_returnFromTrap : List Cond := .code y_X_returnFromTrap c_X_returnFromTrap 1 (some FieldType.int) :: TG
abbrev c_X_compute : ByteArray := prog_1_method_22_code
def y_X_compute : MethodName := ⟨R_X, "compute", "(IIII)I"⟩
def w_X_compute : List Cond := .code y_X_compute c_X_compute 4 (some FieldType.int) :: TG
abbrev c_X_derive : ByteArray := prog_1_method_23_code
def y_X_derive : MethodName := ⟨R_X, "derive", "(IILCapabilityCore$Capability;LCapabilityCore$Capability;)V"⟩
def w_X_derive : List Cond := .code y_X_derive c_X_derive 5 (none : Option FieldType) :: TG
abbrev c_X_narrow : ByteArray := prog_1_method_24_code
def y_X_narrow : MethodName := ⟨R_X, "narrow", "(LCapabilityCore$Capability;I)V"⟩
def w_X_narrow : List Cond := .code y_X_narrow c_X_narrow 5 (none : Option FieldType) :: TG
abbrev c_K_keepPermissions : ByteArray := prog_2_method_7_code
def y_K_keepPermissions : MethodName := ⟨R_K, "keepPermissions", "(I)V"⟩
def w_K_keepPermissions : List Cond := .code y_K_keepPermissions c_K_keepPermissions 2 (none : Option FieldType) :: TG
abbrev c_X_mayBuild : ByteArray := prog_1_method_25_code
def y_X_mayBuild : MethodName := ⟨R_X, "mayBuild", "(LCapabilityCore$Capability;LCapabilityCore$Capability;)Z"⟩
def w_X_mayBuild : List Cond := .code y_X_mayBuild c_X_mayBuild 2 (some FieldType.boolean) :: TG
abbrev c_X_enterTrap : ByteArray := prog_1_method_18_code
def y_X_enterTrap : MethodName := ⟨R_X, "enterTrap", "(I)V"⟩
def w_X_enterTrap : List Cond := .code y_X_enterTrap c_X_enterTrap 3 (none : Option FieldType) :: TG
abbrev c_X_state : ByteArray := prog_1_method_6_code
def y_X_state : MethodName := ⟨R_X, "state", "()I"⟩
def w_X_state : List Cond := .code y_X_state c_X_state 1 (some FieldType.int) :: TG
abbrev c_X_wake : ByteArray := prog_1_method_7_code
def y_X_wake : MethodName := ⟨R_X, "wake", "(I)Z"⟩
def w_X_wake : List Cond := .code y_X_wake c_X_wake 2 (some FieldType.boolean) :: TG
abbrev c_X_cause : ByteArray := prog_1_method_8_code
def y_X_cause : MethodName := ⟨R_X, "cause", "()I"⟩
def w_X_cause : List Cond := .code y_X_cause c_X_cause 1 (some FieldType.int) :: TG
abbrev c_X_steps : ByteArray := prog_1_method_9_code
def y_X_steps : MethodName := ⟨R_X, "steps", "()I"⟩
def w_X_steps : List Cond := .code y_X_steps c_X_steps 1 (some FieldType.int) :: TG
abbrev c_X_traps : ByteArray := prog_1_method_10_code
def y_X_traps : MethodName := ⟨R_X, "traps", "()I"⟩
def w_X_traps : List Cond := .code y_X_traps c_X_traps 1 (some FieldType.int) :: TG
abbrev c_X_register : ByteArray := prog_1_method_11_code
def y_X_register : MethodName := ⟨R_X, "register", "(II)I"⟩
def w_X_register : List Cond := .code y_X_register c_X_register 3 (some FieldType.int) :: TG
abbrev c_X_isRegister : ByteArray := prog_1_method_16_code
def y_X_isRegister : MethodName := ⟨R_X, "isRegister", "(I)Z"⟩
def w_X_isRegister : List Cond := .code y_X_isRegister c_X_isRegister 1 (some FieldType.boolean) :: TG
abbrev c_X_base : ByteArray := prog_1_method_12_code
def y_X_base : MethodName := ⟨R_X, "base", "(I)J"⟩
def w_X_base : List Cond := .code y_X_base c_X_base 2 (some FieldType.long) :: TG
abbrev c_X_top : ByteArray := prog_1_method_13_code
def y_X_top : MethodName := ⟨R_X, "top", "(I)J"⟩
def w_X_top : List Cond := .code y_X_top c_X_top 2 (some FieldType.long) :: TG
abbrev c_X_give : ByteArray := prog_1_method_14_code
def y_X_give : MethodName := ⟨R_X, "give", "(II)Z"⟩
def w_X_give : List Cond := .code y_X_give c_X_give 3 (some FieldType.boolean) :: TG
abbrev c_M_init : ByteArray := prog_4_method_1_code
def y_M_init : MethodName := ⟨R_M, "<init>", "()V"⟩
def w_M_init : List Cond := .code y_M_init c_M_init 1 (none : Option FieldType) :: TG
abbrev c_M_first : ByteArray := prog_4_method_2_code
def y_M_first : MethodName := ⟨R_M, "first", "(II)V"⟩
def w_M_first : List Cond := .code y_M_first c_M_first 3 (none : Option FieldType) :: TG
abbrev c_M_bounded : ByteArray := prog_4_method_10_code
def y_M_bounded : MethodName := ⟨R_M, "bounded", "(IJJ)I"⟩
def w_M_bounded : List Cond := .code y_M_bounded c_M_bounded 10 (some FieldType.int) :: TG
abbrev c_M_poke : ByteArray := prog_4_method_32_code
def y_M_poke : MethodName := ⟨R_M, "poke", "(II)Z"⟩
def w_M_poke : List Cond := .code y_M_poke c_M_poke 3 (some FieldType.boolean) :: TG
abbrev c_M_peek : ByteArray := prog_4_method_33_code
def y_M_peek : MethodName := ⟨R_M, "peek", "(I)I"⟩
def w_M_peek : List Cond := .code y_M_peek c_M_peek 2 (some FieldType.int) :: TG
abbrev c_M_tagged : ByteArray := prog_4_method_34_code
def y_M_tagged : MethodName := ⟨R_M, "tagged", "(I)Z"⟩
def w_M_tagged : List Cond := .code y_M_tagged c_M_tagged 2 (some FieldType.boolean) :: TG
abbrev c_M_run : ByteArray := prog_4_method_35_code
def y_M_run : MethodName := ⟨R_M, "run", "(I)I"⟩
def w_M_run : List Cond := .code y_M_run c_M_run 3 (some FieldType.int) :: TG
abbrev c_M_step : ByteArray := prog_4_method_24_code
def y_M_step : MethodName := ⟨R_M, "step", "()V"⟩
def w_M_step : List Cond := .code y_M_step c_M_step 9 (none : Option FieldType) :: TG
abbrev c_M_check : ByteArray := prog_4_method_12_code
def y_M_check : MethodName := ⟨R_M, "check", "(IIII)I"⟩
def w_M_check : List Cond := .code y_M_check c_M_check 7 (some FieldType.int) :: TG
abbrev c_M_unsigned : ByteArray := prog_4_method_5_code
def y_M_unsigned : MethodName := ⟨R_M, "unsigned", "(I)J"⟩
def w_M_unsigned : List Cond := .code y_M_unsigned c_M_unsigned 1 (some FieldType.long) :: TG
abbrev c_M_type : ByteArray := prog_4_method_3_code
def y_M_type : MethodName := ⟨R_M, "type", "(I)I"⟩
def w_M_type : List Cond := .code y_M_type c_M_type 1 (some FieldType.int) :: TG
abbrev c_M_has : ByteArray := prog_4_method_11_code
def y_M_has : MethodName := ⟨R_M, "has", "(II)Z"⟩
def w_M_has : List Cond := .code y_M_has c_M_has 3 (some FieldType.boolean) :: TG
abbrev c_M_baseOf : ByteArray := prog_4_method_8_code
def y_M_baseOf : MethodName := ⟨R_M, "baseOf", "(II)J"⟩
def w_M_baseOf : List Cond := .code y_M_baseOf c_M_baseOf 6 (some FieldType.long) :: TG
abbrev c_M_window : ByteArray := prog_4_method_7_code
def y_M_window : MethodName := ⟨R_M, "window", "(II)J"⟩
def w_M_window : List Cond := .code y_M_window c_M_window 8 (some FieldType.long) :: TG
abbrev c_M_unit : ByteArray := prog_4_method_4_code
def y_M_unit : MethodName := ⟨R_M, "unit", "(I)J"⟩
def w_M_unit : List Cond := .code y_M_unit c_M_unit 1 (some FieldType.long) :: TG
abbrev c_M_rest : ByteArray := prog_4_method_6_code
def y_M_rest : MethodName := ⟨R_M, "rest", "(JJ)J"⟩
def w_M_rest : List Cond := .code y_M_rest c_M_rest 6 (some FieldType.long) :: TG
abbrev c_M_topOf : ByteArray := prog_4_method_9_code
def y_M_topOf : MethodName := ⟨R_M, "topOf", "(II)J"⟩
def w_M_topOf : List Cond := .code y_M_topOf c_M_topOf 6 (some FieldType.long) :: TG
abbrev c_M_of : ByteArray := prog_4_method_13_code
def y_M_of : MethodName := ⟨R_M, "of", "(II)I"⟩
def w_M_of : List Cond := .code y_M_of c_M_of 2 (some FieldType.int) :: TG
abbrev c_M_trap : ByteArray := prog_4_method_23_code
def y_M_trap : MethodName := ⟨R_M, "trap", "(I)V"⟩
def w_M_trap : List Cond := .code y_M_trap c_M_trap 2 (none : Option FieldType) :: TG
abbrev c_M_take : ByteArray := prog_4_method_14_code
def y_M_take : MethodName := ⟨R_M, "take", "(I)V"⟩
def w_M_take : List Cond := .code y_M_take c_M_take 2 (none : Option FieldType) :: TG
abbrev c_M_put : ByteArray := prog_4_method_18_code
def y_M_put : MethodName := ⟨R_M, "put", "(I)V"⟩
def w_M_put : List Cond := .code y_M_put c_M_put 2 (none : Option FieldType) :: TG
abbrev c_M_trapOf : ByteArray := prog_4_method_21_code
def y_M_trapOf : MethodName := ⟨R_M, "trapOf", "(IIII)I"⟩
def w_M_trapOf : List Cond := .code y_M_trapOf c_M_trapOf 7 (some FieldType.int) :: TG
abbrev c_M_sealing : ByteArray := prog_4_method_22_code
def y_M_sealing : MethodName := ⟨R_M, "sealing", "(ZIII)I"⟩
def w_M_sealing : List Cond := .code y_M_sealing c_M_sealing 8 (some FieldType.int) :: TG
abbrev c_M_reckoned : ByteArray := prog_4_method_25_code
def y_M_reckoned : MethodName := ⟨R_M, "reckoned", "(IIII)I"⟩
def w_M_reckoned : List Cond := .code y_M_reckoned c_M_reckoned 4 (some FieldType.int) :: TG
abbrev c_M_number : ByteArray := prog_4_method_15_code
def y_M_number : MethodName := ⟨R_M, "number", "(I)V"⟩
def w_M_number : List Cond := .code y_M_number c_M_number 2 (none : Option FieldType) :: TG
abbrev c_M_go : ByteArray := prog_4_method_19_code
def y_M_go : MethodName := ⟨R_M, "go", "(I)V"⟩
def w_M_go : List Cond := .code y_M_go c_M_go 2 (none : Option FieldType) :: TG
abbrev c_M_move : ByteArray := prog_4_method_16_code
def y_M_move : MethodName := ⟨R_M, "move", "(I)V"⟩
def w_M_move : List Cond := .code y_M_move c_M_move 6 (none : Option FieldType) :: TG
abbrev c_M_access : ByteArray := prog_4_method_26_code
def y_M_access : MethodName := ⟨R_M, "access", "(IIIII)V"⟩
def w_M_access : List Cond := .code y_M_access c_M_access 7 (none : Option FieldType) :: TG
abbrev c_M_turn : ByteArray := prog_4_method_27_code
def y_M_turn : MethodName := ⟨R_M, "turn", "(IIIII)V"⟩
def w_M_turn : List Cond := .code y_M_turn c_M_turn 8 (none : Option FieldType) :: TG
abbrev c_M_link : ByteArray := prog_4_method_20_code
def y_M_link : MethodName := ⟨R_M, "link", "()V"⟩
def w_M_link : List Cond := .code y_M_link c_M_link 1 (none : Option FieldType) :: TG
abbrev c_M_typed : ByteArray := prog_4_method_17_code
def y_M_typed : MethodName := ⟨R_M, "typed", "(II)V"⟩
def w_M_typed : List Cond := .code y_M_typed c_M_typed 3 (none : Option FieldType) :: TG
abbrev c_M_shape : ByteArray := prog_4_method_28_code
def y_M_shape : MethodName := ⟨R_M, "shape", "(IIIII)V"⟩
def w_M_shape : List Cond := .code y_M_shape c_M_shape 12 (none : Option FieldType) :: TG
abbrev c_M_told : ByteArray := prog_4_method_29_code
def y_M_told : MethodName := ⟨R_M, "told", "(II)I"⟩
def w_M_told : List Cond := .code y_M_told c_M_told 5 (some FieldType.int) :: TG
abbrev c_M_build : ByteArray := prog_4_method_30_code
def y_M_build : MethodName := ⟨R_M, "build", "(II)V"⟩
def w_M_build : List Cond := .code y_M_build c_M_build 10 (none : Option FieldType) :: TG
abbrev c_M_rule : ByteArray := prog_4_method_31_code
def y_M_rule : MethodName := ⟨R_M, "rule", "(IIII)V"⟩
def w_M_rule : List Cond := .code y_M_rule c_M_rule 8 (none : Option FieldType) :: TG
abbrev c_M_state : ByteArray := prog_4_method_36_code
def y_M_state : MethodName := ⟨R_M, "state", "()I"⟩
def w_M_state : List Cond := .code y_M_state c_M_state 1 (some FieldType.int) :: TG
abbrev c_M_wake : ByteArray := prog_4_method_37_code
def y_M_wake : MethodName := ⟨R_M, "wake", "(I)Z"⟩
def w_M_wake : List Cond := .code y_M_wake c_M_wake 2 (some FieldType.boolean) :: TG
abbrev c_M_cause : ByteArray := prog_4_method_38_code
def y_M_cause : MethodName := ⟨R_M, "cause", "()I"⟩
def w_M_cause : List Cond := .code y_M_cause c_M_cause 1 (some FieldType.int) :: TG
abbrev c_M_steps : ByteArray := prog_4_method_39_code
def y_M_steps : MethodName := ⟨R_M, "steps", "()I"⟩
def w_M_steps : List Cond := .code y_M_steps c_M_steps 1 (some FieldType.int) :: TG
abbrev c_M_traps : ByteArray := prog_4_method_40_code
def y_M_traps : MethodName := ⟨R_M, "traps", "()I"⟩
def w_M_traps : List Cond := .code y_M_traps c_M_traps 1 (some FieldType.int) :: TG
abbrev c_M_register : ByteArray := prog_4_method_42_code
def y_M_register : MethodName := ⟨R_M, "register", "(II)I"⟩
def w_M_register : List Cond := .code y_M_register c_M_register 3 (some FieldType.int) :: TG
abbrev c_M_isRegister : ByteArray := prog_4_method_41_code
def y_M_isRegister : MethodName := ⟨R_M, "isRegister", "(I)Z"⟩
def w_M_isRegister : List Cond := .code y_M_isRegister c_M_isRegister 1 (some FieldType.boolean) :: TG
abbrev c_M_base : ByteArray := prog_4_method_43_code
def y_M_base : MethodName := ⟨R_M, "base", "(I)J"⟩
def w_M_base : List Cond := .code y_M_base c_M_base 2 (some FieldType.long) :: TG
abbrev c_M_top : ByteArray := prog_4_method_44_code
def y_M_top : MethodName := ⟨R_M, "top", "(I)J"⟩
def w_M_top : List Cond := .code y_M_top c_M_top 2 (some FieldType.long) :: TG
abbrev c_M_give : ByteArray := prog_4_method_45_code
def y_M_give : MethodName := ⟨R_M, "give", "(II)Z"⟩
def w_M_give : List Cond := .code y_M_give c_M_give 3 (some FieldType.boolean) :: TG
end
section
theorem k_ini_L : (Jvm.Cond.initialized "CapabilityCoreLaw") ∈ TG := tg_t (List.mem_of_getElem? (i := 0) (by decide +kernel)) (by decide +kernel)
theorem k_ini_X : (Jvm.Cond.initialized "CapabilityCore") ∈ TG := tg_t (List.mem_of_getElem? (i := 1) (by decide +kernel)) (by decide +kernel)
theorem k_ini_K : (Jvm.Cond.initialized "CapabilityCore$Capability") ∈ TG := tg_t (List.mem_of_getElem? (i := 2) (by decide +kernel)) (by decide +kernel)
theorem k_ini_M : (Jvm.Cond.initialized "CapabilityCoreModel") ∈ TG := tg_t (List.mem_of_getElem? (i := 3) (by decide +kernel)) (by decide +kernel)
theorem k_cl_L_7 : (Jvm.Cond.classLink "CapabilityCoreLaw" (7 : Nat) "CapabilityCore") ∈ TG := tg_t (List.mem_of_getElem? (i := 4) (by decide +kernel)) (by decide +kernel)
theorem k_inst_X : (Jvm.Cond.instantiable "CapabilityCore" (9 : Nat)) ∈ TG := tg_t (List.mem_of_getElem? (i := 5) (by decide +kernel)) (by decide +kernel)
theorem k_ml_L_9 : (Jvm.Cond.methodLink "CapabilityCoreLaw" (9 : Nat) y_X_init) ∈ TG := tg_t (List.mem_of_getElem? (i := 6) (by decide +kernel)) (by decide +kernel)
theorem k_im_X_init : (Jvm.Cond.instanceMethod y_X_init) ∈ TG := tg_t (List.mem_of_getElem? (i := 7) (by decide +kernel)) (by decide +kernel)
theorem k_code_X_init : (Jvm.Cond.code y_X_init prog_1_method_1_code (2 : Nat) (Option.none : Option Jvm.ClassFile.FieldType)) ∈ TG := tg_t (List.mem_of_getElem? (i := 8) (by decide +kernel)) (by decide +kernel)
theorem k_ml_X_1 : (Jvm.Cond.methodLink "CapabilityCore" (1 : Nat) ({ cls := "java/lang/Object", name := "<init>", desc := "()V" } : Jvm.MethodName)) ∈ TG := tg_t (List.mem_of_getElem? (i := 9) (by decide +kernel)) (by decide +kernel)
theorem k_im_O_init : (Jvm.Cond.instanceMethod ({ cls := "java/lang/Object", name := "<init>", desc := "()V" } : Jvm.MethodName)) ∈ TG := tg_t (List.mem_of_getElem? (i := 10) (by decide +kernel)) (by decide +kernel)
theorem k_code_O_init : (Jvm.Cond.code ({ cls := "java/lang/Object", name := "<init>", desc := "()V" } : Jvm.MethodName) object_method_1_code (1 : Nat) (Option.none : Option Jvm.ClassFile.FieldType)) ∈ TG := tg_t (List.mem_of_getElem? (i := 11) (by decide +kernel)) (by decide +kernel)
theorem k_cl_X_17 : (Jvm.Cond.classLink "CapabilityCore" (17 : Nat) "CapabilityCore$Capability") ∈ TG := tg_t (List.mem_of_getElem? (i := 12) (by decide +kernel)) (by decide +kernel)
theorem q_ao_K : (Jvm.Cond.arrayOver (Jvm.ClassFile.FieldType.object "CapabilityCore$Capability")) ∈ lw_tbl := List.mem_append_right _ (List.mem_of_getElem? (i := 13) (by decide +kernel))
theorem k_inst_K : (Jvm.Cond.instantiable "CapabilityCore$Capability" (3 : Nat)) ∈ TG := tg_t (List.mem_of_getElem? (i := 14) (by decide +kernel)) (by decide +kernel)
theorem q_ml_X_23 : (Jvm.Cond.methodLinkNest "CapabilityCore" (23 : Nat) y_K_init "CapabilityCore") ∈ lw_tbl := List.mem_append_right _ (List.mem_of_getElem? (i := 15) (by decide +kernel))
theorem k_im_K_init : (Jvm.Cond.instanceMethod y_K_init) ∈ TG := tg_t (List.mem_of_getElem? (i := 16) (by decide +kernel)) (by decide +kernel)
theorem k_code_K_init : (Jvm.Cond.code y_K_init prog_2_method_1_code (1 : Nat) (Option.none : Option Jvm.ClassFile.FieldType)) ∈ TG := tg_t (List.mem_of_getElem? (i := 17) (by decide +kernel)) (by decide +kernel)
theorem k_ml_K_5 : (Jvm.Cond.methodLink "CapabilityCore$Capability" (5 : Nat) ({ cls := "java/lang/Object", name := "<init>", desc := "()V" } : Jvm.MethodName)) ∈ TG := tg_t (List.mem_of_getElem? (i := 18) (by decide +kernel)) (by decide +kernel)
theorem k_fl_K_11 : (Jvm.Cond.fieldLink "CapabilityCore$Capability" (11 : Nat) "CapabilityCore$Capability" "tag" "Z") ∈ TG := tg_t (List.mem_of_getElem? (i := 19) (by decide +kernel)) (by decide +kernel)
theorem q_fl_X_68 : (Jvm.Cond.fieldLinkNest "CapabilityCore" (68 : Nat) "CapabilityCore$Capability" "tag" "Z" "CapabilityCore") ∈ lw_tbl := List.mem_append_right _ (List.mem_of_getElem? (i := 20) (by decide +kernel))
theorem k_fl_K_15 : (Jvm.Cond.fieldLink "CapabilityCore$Capability" (15 : Nat) "CapabilityCore$Capability" "meta" "I") ∈ TG := tg_t (List.mem_of_getElem? (i := 21) (by decide +kernel)) (by decide +kernel)
theorem q_fl_X_65 : (Jvm.Cond.fieldLinkNest "CapabilityCore" (65 : Nat) "CapabilityCore$Capability" "meta" "I" "CapabilityCore") ∈ lw_tbl := List.mem_append_right _ (List.mem_of_getElem? (i := 22) (by decide +kernel))
theorem k_fl_K_19 : (Jvm.Cond.fieldLink "CapabilityCore$Capability" (19 : Nat) "CapabilityCore$Capability" "address" "I") ∈ TG := tg_t (List.mem_of_getElem? (i := 23) (by decide +kernel)) (by decide +kernel)
theorem q_fl_X_62 : (Jvm.Cond.fieldLinkNest "CapabilityCore" (62 : Nat) "CapabilityCore$Capability" "address" "I" "CapabilityCore") ∈ lw_tbl := List.mem_append_right _ (List.mem_of_getElem? (i := 24) (by decide +kernel))
theorem k_ac_int : (Jvm.Cond.arrayClass Jvm.ClassFile.FieldType.int) ∈ TG := tg_t (List.mem_of_getElem? (i := 32) (by decide +kernel)) (by decide +kernel)
theorem k_ac_boolean : (Jvm.Cond.arrayClass Jvm.ClassFile.FieldType.boolean) ∈ TG := tg_t (List.mem_of_getElem? (i := 33) (by decide +kernel)) (by decide +kernel)
theorem k_ml_X_44 : (Jvm.Cond.methodLink "CapabilityCore" (44 : Nat) y_K_becomeRoot) ∈ TG := tg_t (List.mem_of_getElem? (i := 34) (by decide +kernel)) (by decide +kernel)
theorem k_im_K_becomeRoot : (Jvm.Cond.instanceMethod y_K_becomeRoot) ∈ TG := tg_t (List.mem_of_getElem? (i := 35) (by decide +kernel)) (by decide +kernel)
theorem k_sel_K_becomeRoot : (Jvm.Cond.selects "CapabilityCore$Capability" y_K_becomeRoot y_K_becomeRoot) ∈ TG := tg_t (List.mem_of_getElem? (i := 36) (by decide +kernel)) (by decide +kernel)
theorem k_code_K_becomeRoot : (Jvm.Cond.code y_K_becomeRoot prog_2_method_4_code (2 : Nat) (Option.none : Option Jvm.ClassFile.FieldType)) ∈ TG := tg_t (List.mem_of_getElem? (i := 37) (by decide +kernel)) (by decide +kernel)
theorem k_cL_K_22 : (Jvm.Cond.constantLong "CapabilityCore$Capability" (22 : Nat) (1024 : Int64)) ∈ TG := tg_t (List.mem_of_getElem? (i := 38) (by decide +kernel)) (by decide +kernel)
theorem k_ml_K_24 : (Jvm.Cond.methodLink "CapabilityCore$Capability" (24 : Nat) y_K_bound) ∈ TG := tg_t (List.mem_of_getElem? (i := 39) (by decide +kernel)) (by decide +kernel)
theorem k_im_K_bound : (Jvm.Cond.instanceMethod y_K_bound) ∈ TG := tg_t (List.mem_of_getElem? (i := 40) (by decide +kernel)) (by decide +kernel)
theorem k_sel_K_bound : (Jvm.Cond.selects "CapabilityCore$Capability" y_K_bound y_K_bound) ∈ TG := tg_t (List.mem_of_getElem? (i := 41) (by decide +kernel)) (by decide +kernel)
theorem k_code_K_bound : (Jvm.Cond.code y_K_bound prog_2_method_12_code (8 : Nat) (Option.none : Option Jvm.ClassFile.FieldType)) ∈ TG := tg_t (List.mem_of_getElem? (i := 42) (by decide +kernel)) (by decide +kernel)
theorem k_ml_K_46 : (Jvm.Cond.methodLink "CapabilityCore$Capability" (46 : Nat) y_K_unitsUp) ∈ TG := tg_t (List.mem_of_getElem? (i := 43) (by decide +kernel)) (by decide +kernel)
theorem k_st_K_unitsUp : (Jvm.Cond.static y_K_unitsUp) ∈ TG := tg_t (List.mem_of_getElem? (i := 44) (by decide +kernel)) (by decide +kernel)
theorem k_code_K_unitsUp : (Jvm.Cond.code y_K_unitsUp prog_2_method_13_code (3 : Nat) (Option.some Jvm.ClassFile.FieldType.long)) ∈ TG := tg_t (List.mem_of_getElem? (i := 45) (by decide +kernel)) (by decide +kernel)
theorem k_cL_K_50 : (Jvm.Cond.constantLong "CapabilityCore$Capability" (50 : Nat) (96 : Int64)) ∈ TG := tg_t (List.mem_of_getElem? (i := 46) (by decide +kernel)) (by decide +kernel)
theorem k_fl_X_9 : (Jvm.Cond.fieldLink "CapabilityCore" (9 : Nat) "CapabilityCore" "words" "[I") ∈ TG := tg_t (List.mem_of_getElem? (i := 47) (by decide +kernel)) (by decide +kernel)
theorem k_fl_X_13 : (Jvm.Cond.fieldLink "CapabilityCore" (13 : Nat) "CapabilityCore" "granuleTags" "[Z") ∈ TG := tg_t (List.mem_of_getElem? (i := 48) (by decide +kernel)) (by decide +kernel)
theorem k_fl_X_19 : (Jvm.Cond.fieldLink "CapabilityCore" (19 : Nat) "CapabilityCore" "registers" "[LCapabilityCore$Capability;") ∈ TG := tg_t (List.mem_of_getElem? (i := 49) (by decide +kernel)) (by decide +kernel)
theorem k_fl_X_41 : (Jvm.Cond.fieldLink "CapabilityCore" (41 : Nat) "CapabilityCore" "pcc" "LCapabilityCore$Capability;") ∈ TG := tg_t (List.mem_of_getElem? (i := 50) (by decide +kernel)) (by decide +kernel)
theorem k_fl_X_24 : (Jvm.Cond.fieldLink "CapabilityCore" (24 : Nat) "CapabilityCore" "made" "LCapabilityCore$Capability;") ∈ TG := tg_t (List.mem_of_getElem? (i := 51) (by decide +kernel)) (by decide +kernel)
theorem k_fl_X_28 : (Jvm.Cond.fieldLink "CapabilityCore" (28 : Nat) "CapabilityCore" "mode" "I") ∈ TG := tg_t (List.mem_of_getElem? (i := 52) (by decide +kernel)) (by decide +kernel)
theorem k_fl_X_32 : (Jvm.Cond.fieldLink "CapabilityCore" (32 : Nat) "CapabilityCore" "lastCause" "I") ∈ TG := tg_t (List.mem_of_getElem? (i := 53) (by decide +kernel)) (by decide +kernel)
theorem k_fl_X_35 : (Jvm.Cond.fieldLink "CapabilityCore" (35 : Nat) "CapabilityCore" "stepCount" "I") ∈ TG := tg_t (List.mem_of_getElem? (i := 54) (by decide +kernel)) (by decide +kernel)
theorem k_fl_X_38 : (Jvm.Cond.fieldLink "CapabilityCore" (38 : Nat) "CapabilityCore" "trapCount" "I") ∈ TG := tg_t (List.mem_of_getElem? (i := 55) (by decide +kernel)) (by decide +kernel)
theorem k_ml_L_13 : (Jvm.Cond.methodLink "CapabilityCoreLaw" (13 : Nat) y_X_poke) ∈ TG := tg_t (List.mem_of_getElem? (i := 75) (by decide +kernel)) (by decide +kernel)
theorem k_im_X_poke : (Jvm.Cond.instanceMethod y_X_poke) ∈ TG := tg_t (List.mem_of_getElem? (i := 76) (by decide +kernel)) (by decide +kernel)
theorem k_sel_X_poke : (Jvm.Cond.selects "CapabilityCore" y_X_poke y_X_poke) ∈ TG := tg_t (List.mem_of_getElem? (i := 77) (by decide +kernel)) (by decide +kernel)
theorem k_code_X_poke : (Jvm.Cond.code y_X_poke prog_1_method_2_code (3 : Nat) (Option.some Jvm.ClassFile.FieldType.boolean)) ∈ TG := tg_t (List.mem_of_getElem? (i := 78) (by decide +kernel)) (by decide +kernel)
theorem k_ml_X_48 : (Jvm.Cond.methodLink "CapabilityCore" (48 : Nat) y_X_isWord) ∈ TG := tg_t (List.mem_of_getElem? (i := 79) (by decide +kernel)) (by decide +kernel)
theorem k_st_X_isWord : (Jvm.Cond.static y_X_isWord) ∈ TG := tg_t (List.mem_of_getElem? (i := 80) (by decide +kernel)) (by decide +kernel)
theorem k_code_X_isWord : (Jvm.Cond.code y_X_isWord prog_1_method_15_code (1 : Nat) (Option.some Jvm.ClassFile.FieldType.boolean)) ∈ TG := tg_t (List.mem_of_getElem? (i := 81) (by decide +kernel)) (by decide +kernel)
theorem k_ml_X_52 : (Jvm.Cond.methodLink "CapabilityCore" (52 : Nat) y_X_writeWord) ∈ TG := tg_t (List.mem_of_getElem? (i := 82) (by decide +kernel)) (by decide +kernel)
theorem k_im_X_writeWord : (Jvm.Cond.instanceMethod y_X_writeWord) ∈ TG := tg_t (List.mem_of_getElem? (i := 84) (by decide +kernel)) (by decide +kernel)
theorem k_code_X_writeWord : (Jvm.Cond.code y_X_writeWord prog_1_method_41_code (3 : Nat) (Option.none : Option Jvm.ClassFile.FieldType)) ∈ TG := tg_t (List.mem_of_getElem? (i := 85) (by decide +kernel)) (by decide +kernel)
theorem k_ml_L_18 : (Jvm.Cond.methodLink "CapabilityCoreLaw" (18 : Nat) y_X_peek) ∈ TG := tg_t (List.mem_of_getElem? (i := 86) (by decide +kernel)) (by decide +kernel)
theorem k_im_X_peek : (Jvm.Cond.instanceMethod y_X_peek) ∈ TG := tg_t (List.mem_of_getElem? (i := 87) (by decide +kernel)) (by decide +kernel)
theorem k_sel_X_peek : (Jvm.Cond.selects "CapabilityCore" y_X_peek y_X_peek) ∈ TG := tg_t (List.mem_of_getElem? (i := 88) (by decide +kernel)) (by decide +kernel)
theorem k_code_X_peek : (Jvm.Cond.code y_X_peek prog_1_method_3_code (2 : Nat) (Option.some Jvm.ClassFile.FieldType.int)) ∈ TG := tg_t (List.mem_of_getElem? (i := 89) (by decide +kernel)) (by decide +kernel)
theorem k_ml_L_23 : (Jvm.Cond.methodLink "CapabilityCoreLaw" (23 : Nat) y_X_tagged) ∈ TG := tg_t (List.mem_of_getElem? (i := 90) (by decide +kernel)) (by decide +kernel)
theorem k_im_X_tagged : (Jvm.Cond.instanceMethod y_X_tagged) ∈ TG := tg_t (List.mem_of_getElem? (i := 91) (by decide +kernel)) (by decide +kernel)
theorem k_sel_X_tagged : (Jvm.Cond.selects "CapabilityCore" y_X_tagged y_X_tagged) ∈ TG := tg_t (List.mem_of_getElem? (i := 92) (by decide +kernel)) (by decide +kernel)
theorem k_code_X_tagged : (Jvm.Cond.code y_X_tagged prog_1_method_4_code (2 : Nat) (Option.some Jvm.ClassFile.FieldType.boolean)) ∈ TG := tg_t (List.mem_of_getElem? (i := 93) (by decide +kernel)) (by decide +kernel)
theorem k_ml_L_28 : (Jvm.Cond.methodLink "CapabilityCoreLaw" (28 : Nat) y_X_run) ∈ TG := tg_t (List.mem_of_getElem? (i := 94) (by decide +kernel)) (by decide +kernel)
theorem k_im_X_run : (Jvm.Cond.instanceMethod y_X_run) ∈ TG := tg_t (List.mem_of_getElem? (i := 95) (by decide +kernel)) (by decide +kernel)
theorem k_sel_X_run : (Jvm.Cond.selects "CapabilityCore" y_X_run y_X_run) ∈ TG := tg_t (List.mem_of_getElem? (i := 96) (by decide +kernel)) (by decide +kernel)
theorem k_code_X_run : (Jvm.Cond.code y_X_run prog_1_method_5_code (3 : Nat) (Option.some Jvm.ClassFile.FieldType.int)) ∈ TG := tg_t (List.mem_of_getElem? (i := 97) (by decide +kernel)) (by decide +kernel)
theorem k_ml_X_56 : (Jvm.Cond.methodLink "CapabilityCore" (56 : Nat) y_X_makeStep) ∈ TG := tg_t (List.mem_of_getElem? (i := 98) (by decide +kernel)) (by decide +kernel)
theorem k_im_X_makeStep : (Jvm.Cond.instanceMethod y_X_makeStep) ∈ TG := tg_t (List.mem_of_getElem? (i := 100) (by decide +kernel)) (by decide +kernel)
theorem k_code_X_makeStep : (Jvm.Cond.code y_X_makeStep prog_1_method_17_code (2 : Nat) (Option.none : Option Jvm.ClassFile.FieldType)) ∈ TG := tg_t (List.mem_of_getElem? (i := 101) (by decide +kernel)) (by decide +kernel)
theorem k_ml_X_82 : (Jvm.Cond.methodLink "CapabilityCore" (82 : Nat) y_X_check) ∈ TG := tg_t (List.mem_of_getElem? (i := 102) (by decide +kernel)) (by decide +kernel)
theorem k_im_X_check : (Jvm.Cond.instanceMethod y_X_check) ∈ TG := tg_t (List.mem_of_getElem? (i := 104) (by decide +kernel)) (by decide +kernel)
theorem k_code_X_check : (Jvm.Cond.code y_X_check prog_1_method_20_code (8 : Nat) (Option.some Jvm.ClassFile.FieldType.int)) ∈ TG := tg_t (List.mem_of_getElem? (i := 105) (by decide +kernel)) (by decide +kernel)
theorem k_cL_X_104 : (Jvm.Cond.constantLong "CapabilityCore" (104 : Nat) (4294967295 : Int64)) ∈ TG := tg_t (List.mem_of_getElem? (i := 106) (by decide +kernel)) (by decide +kernel)
theorem k_ml_X_106 : (Jvm.Cond.methodLink "CapabilityCore" (106 : Nat) y_X_trapOf) ∈ TG := tg_t (List.mem_of_getElem? (i := 107) (by decide +kernel)) (by decide +kernel)
theorem k_st_X_trapOf : (Jvm.Cond.static y_X_trapOf) ∈ TG := tg_t (List.mem_of_getElem? (i := 108) (by decide +kernel)) (by decide +kernel)
theorem k_code_X_trapOf : (Jvm.Cond.code y_X_trapOf prog_1_method_19_code (2 : Nat) (Option.some Jvm.ClassFile.FieldType.int)) ∈ TG := tg_t (List.mem_of_getElem? (i := 109) (by decide +kernel)) (by decide +kernel)
theorem k_ml_X_97 : (Jvm.Cond.methodLink "CapabilityCore" (97 : Nat) y_K_isSealed) ∈ TG := tg_t (List.mem_of_getElem? (i := 110) (by decide +kernel)) (by decide +kernel)
theorem k_im_K_isSealed : (Jvm.Cond.instanceMethod y_K_isSealed) ∈ TG := tg_t (List.mem_of_getElem? (i := 111) (by decide +kernel)) (by decide +kernel)
theorem k_sel_K_isSealed : (Jvm.Cond.selects "CapabilityCore$Capability" y_K_isSealed y_K_isSealed) ∈ TG := tg_t (List.mem_of_getElem? (i := 112) (by decide +kernel)) (by decide +kernel)
theorem k_code_K_isSealed : (Jvm.Cond.code y_K_isSealed prog_2_method_9_code (1 : Nat) (Option.some Jvm.ClassFile.FieldType.boolean)) ∈ TG := tg_t (List.mem_of_getElem? (i := 113) (by decide +kernel)) (by decide +kernel)
theorem k_ml_K_32 : (Jvm.Cond.methodLink "CapabilityCore$Capability" (32 : Nat) y_K_type) ∈ TG := tg_t (List.mem_of_getElem? (i := 114) (by decide +kernel)) (by decide +kernel)
theorem k_im_K_type : (Jvm.Cond.instanceMethod y_K_type) ∈ TG := tg_t (List.mem_of_getElem? (i := 115) (by decide +kernel)) (by decide +kernel)
theorem k_sel_K_type : (Jvm.Cond.selects "CapabilityCore$Capability" y_K_type y_K_type) ∈ TG := tg_t (List.mem_of_getElem? (i := 116) (by decide +kernel)) (by decide +kernel)
theorem k_code_K_type : (Jvm.Cond.code y_K_type prog_2_method_8_code (1 : Nat) (Option.some Jvm.ClassFile.FieldType.int)) ∈ TG := tg_t (List.mem_of_getElem? (i := 117) (by decide +kernel)) (by decide +kernel)
theorem k_ml_X_101 : (Jvm.Cond.methodLink "CapabilityCore" (101 : Nat) y_K_permits) ∈ TG := tg_t (List.mem_of_getElem? (i := 118) (by decide +kernel)) (by decide +kernel)
theorem k_im_K_permits : (Jvm.Cond.instanceMethod y_K_permits) ∈ TG := tg_t (List.mem_of_getElem? (i := 119) (by decide +kernel)) (by decide +kernel)
theorem k_sel_K_permits : (Jvm.Cond.selects "CapabilityCore$Capability" y_K_permits y_K_permits) ∈ TG := tg_t (List.mem_of_getElem? (i := 120) (by decide +kernel)) (by decide +kernel)
theorem k_code_K_permits : (Jvm.Cond.code y_K_permits prog_2_method_6_code (2 : Nat) (Option.some Jvm.ClassFile.FieldType.boolean)) ∈ TG := tg_t (List.mem_of_getElem? (i := 121) (by decide +kernel)) (by decide +kernel)
theorem k_ml_K_28 : (Jvm.Cond.methodLink "CapabilityCore$Capability" (28 : Nat) y_K_permissions) ∈ TG := tg_t (List.mem_of_getElem? (i := 122) (by decide +kernel)) (by decide +kernel)
theorem k_im_K_permissions : (Jvm.Cond.instanceMethod y_K_permissions) ∈ TG := tg_t (List.mem_of_getElem? (i := 123) (by decide +kernel)) (by decide +kernel)
theorem k_sel_K_permissions : (Jvm.Cond.selects "CapabilityCore$Capability" y_K_permissions y_K_permissions) ∈ TG := tg_t (List.mem_of_getElem? (i := 124) (by decide +kernel)) (by decide +kernel)
theorem k_code_K_permissions : (Jvm.Cond.code y_K_permissions prog_2_method_5_code (1 : Nat) (Option.some Jvm.ClassFile.FieldType.int)) ∈ TG := tg_t (List.mem_of_getElem? (i := 125) (by decide +kernel)) (by decide +kernel)
theorem k_ml_X_72 : (Jvm.Cond.methodLink "CapabilityCore" (72 : Nat) y_K_lowerBound) ∈ TG := tg_t (List.mem_of_getElem? (i := 126) (by decide +kernel)) (by decide +kernel)
theorem k_im_K_lowerBound : (Jvm.Cond.instanceMethod y_K_lowerBound) ∈ TG := tg_t (List.mem_of_getElem? (i := 127) (by decide +kernel)) (by decide +kernel)
theorem k_sel_K_lowerBound : (Jvm.Cond.selects "CapabilityCore$Capability" y_K_lowerBound y_K_lowerBound) ∈ TG := tg_t (List.mem_of_getElem? (i := 128) (by decide +kernel)) (by decide +kernel)
theorem k_code_K_lowerBound : (Jvm.Cond.code y_K_lowerBound prog_2_method_14_code (7 : Nat) (Option.some Jvm.ClassFile.FieldType.long)) ∈ TG := tg_t (List.mem_of_getElem? (i := 129) (by decide +kernel)) (by decide +kernel)
theorem k_cL_K_52 : (Jvm.Cond.constantLong "CapabilityCore$Capability" (52 : Nat) (4294967295 : Int64)) ∈ TG := tg_t (List.mem_of_getElem? (i := 130) (by decide +kernel)) (by decide +kernel)
theorem k_cL_K_54 : (Jvm.Cond.constantLong "CapabilityCore$Capability" (54 : Nat) (16 : Int64)) ∈ TG := tg_t (List.mem_of_getElem? (i := 131) (by decide +kernel)) (by decide +kernel)
theorem k_cL_K_56 : (Jvm.Cond.constantLong "CapabilityCore$Capability" (56 : Nat) (127 : Int64)) ∈ TG := tg_t (List.mem_of_getElem? (i := 132) (by decide +kernel)) (by decide +kernel)
theorem k_ml_X_76 : (Jvm.Cond.methodLink "CapabilityCore" (76 : Nat) y_K_upperBound) ∈ TG := tg_t (List.mem_of_getElem? (i := 133) (by decide +kernel)) (by decide +kernel)
theorem k_im_K_upperBound : (Jvm.Cond.instanceMethod y_K_upperBound) ∈ TG := tg_t (List.mem_of_getElem? (i := 134) (by decide +kernel)) (by decide +kernel)
theorem k_sel_K_upperBound : (Jvm.Cond.selects "CapabilityCore$Capability" y_K_upperBound y_K_upperBound) ∈ TG := tg_t (List.mem_of_getElem? (i := 135) (by decide +kernel)) (by decide +kernel)
theorem k_code_K_upperBound : (Jvm.Cond.code y_K_upperBound prog_2_method_15_code (6 : Nat) (Option.some Jvm.ClassFile.FieldType.long)) ∈ TG := tg_t (List.mem_of_getElem? (i := 136) (by decide +kernel)) (by decide +kernel)
theorem k_ml_K_35 : (Jvm.Cond.methodLink "CapabilityCore$Capability" (35 : Nat) y_K_lowerBound) ∈ TG := tg_t (List.mem_of_getElem? (i := 137) (by decide +kernel)) (by decide +kernel)
theorem k_cL_X_110 : (Jvm.Cond.constantLong "CapabilityCore" (110 : Nat) (1024 : Int64)) ∈ TG := tg_t (List.mem_of_getElem? (i := 138) (by decide +kernel)) (by decide +kernel)
theorem k_ml_X_86 : (Jvm.Cond.methodLink "CapabilityCore" (86 : Nat) y_X_execute) ∈ TG := tg_t (List.mem_of_getElem? (i := 139) (by decide +kernel)) (by decide +kernel)
theorem k_im_X_execute : (Jvm.Cond.instanceMethod y_X_execute) ∈ TG := tg_t (List.mem_of_getElem? (i := 141) (by decide +kernel)) (by decide +kernel)
theorem k_code_X_execute : (Jvm.Cond.code y_X_execute prog_1_method_21_code (8 : Nat) (Option.some Jvm.ClassFile.FieldType.int)) ∈ TG := tg_t (List.mem_of_getElem? (i := 142) (by decide +kernel)) (by decide +kernel)
theorem k_ml_X_112 : (Jvm.Cond.methodLink "CapabilityCore" (112 : Nat) y_X_load) ∈ TG := tg_t (List.mem_of_getElem? (i := 143) (by decide +kernel)) (by decide +kernel)
theorem k_im_X_load : (Jvm.Cond.instanceMethod y_X_load) ∈ TG := tg_t (List.mem_of_getElem? (i := 145) (by decide +kernel)) (by decide +kernel)
theorem k_code_X_load : (Jvm.Cond.code y_X_load prog_1_method_27_code (6 : Nat) (Option.some Jvm.ClassFile.FieldType.int)) ∈ TG := tg_t (List.mem_of_getElem? (i := 146) (by decide +kernel)) (by decide +kernel)
theorem k_ml_X_79 : (Jvm.Cond.methodLink "CapabilityCore" (79 : Nat) y_X_writeNumber) ∈ TG := tg_t (List.mem_of_getElem? (i := 147) (by decide +kernel)) (by decide +kernel)
theorem k_im_X_writeNumber : (Jvm.Cond.instanceMethod y_X_writeNumber) ∈ TG := tg_t (List.mem_of_getElem? (i := 149) (by decide +kernel)) (by decide +kernel)
theorem k_code_X_writeNumber : (Jvm.Cond.code y_X_writeNumber prog_1_method_40_code (3 : Nat) (Option.none : Option Jvm.ClassFile.FieldType)) ∈ TG := tg_t (List.mem_of_getElem? (i := 150) (by decide +kernel)) (by decide +kernel)
theorem k_ml_X_192 : (Jvm.Cond.methodLink "CapabilityCore" (192 : Nat) y_K_becomeNumber) ∈ TG := tg_t (List.mem_of_getElem? (i := 151) (by decide +kernel)) (by decide +kernel)
theorem k_im_K_becomeNumber : (Jvm.Cond.instanceMethod y_K_becomeNumber) ∈ TG := tg_t (List.mem_of_getElem? (i := 152) (by decide +kernel)) (by decide +kernel)
theorem k_sel_K_becomeNumber : (Jvm.Cond.selects "CapabilityCore$Capability" y_K_becomeNumber y_K_becomeNumber) ∈ TG := tg_t (List.mem_of_getElem? (i := 153) (by decide +kernel)) (by decide +kernel)
theorem k_code_K_becomeNumber : (Jvm.Cond.code y_K_becomeNumber prog_2_method_3_code (2 : Nat) (Option.none : Option Jvm.ClassFile.FieldType)) ∈ TG := tg_t (List.mem_of_getElem? (i := 154) (by decide +kernel)) (by decide +kernel)
theorem k_ml_X_116 : (Jvm.Cond.methodLink "CapabilityCore" (116 : Nat) y_X_store) ∈ TG := tg_t (List.mem_of_getElem? (i := 155) (by decide +kernel)) (by decide +kernel)
theorem k_im_X_store : (Jvm.Cond.instanceMethod y_X_store) ∈ TG := tg_t (List.mem_of_getElem? (i := 157) (by decide +kernel)) (by decide +kernel)
theorem k_code_X_store : (Jvm.Cond.code y_X_store prog_1_method_28_code (6 : Nat) (Option.some Jvm.ClassFile.FieldType.int)) ∈ TG := tg_t (List.mem_of_getElem? (i := 158) (by decide +kernel)) (by decide +kernel)
theorem k_ml_X_119 : (Jvm.Cond.methodLink "CapabilityCore" (119 : Nat) y_X_loadCapability) ∈ TG := tg_t (List.mem_of_getElem? (i := 159) (by decide +kernel)) (by decide +kernel)
theorem k_im_X_loadCapability : (Jvm.Cond.instanceMethod y_X_loadCapability) ∈ TG := tg_t (List.mem_of_getElem? (i := 161) (by decide +kernel)) (by decide +kernel)
theorem k_code_X_loadCapability : (Jvm.Cond.code y_X_loadCapability prog_1_method_29_code (7 : Nat) (Option.some Jvm.ClassFile.FieldType.int)) ∈ TG := tg_t (List.mem_of_getElem? (i := 162) (by decide +kernel)) (by decide +kernel)
theorem k_ml_X_172 : (Jvm.Cond.methodLink "CapabilityCore" (172 : Nat) y_X_writeMade) ∈ TG := tg_t (List.mem_of_getElem? (i := 163) (by decide +kernel)) (by decide +kernel)
end
section
theorem k_im_X_writeMade : (Jvm.Cond.instanceMethod y_X_writeMade) ∈ TG := tg_t (List.mem_of_getElem? (i := 165) (by decide +kernel)) (by decide +kernel)
theorem k_code_X_writeMade : (Jvm.Cond.code y_X_writeMade prog_1_method_39_code (2 : Nat) (Option.none : Option Jvm.ClassFile.FieldType)) ∈ TG := tg_t (List.mem_of_getElem? (i := 166) (by decide +kernel)) (by decide +kernel)
theorem k_ml_X_93 : (Jvm.Cond.methodLink "CapabilityCore" (93 : Nat) y_K_copy) ∈ TG := tg_t (List.mem_of_getElem? (i := 167) (by decide +kernel)) (by decide +kernel)
theorem k_im_K_copy : (Jvm.Cond.instanceMethod y_K_copy) ∈ TG := tg_t (List.mem_of_getElem? (i := 168) (by decide +kernel)) (by decide +kernel)
theorem k_sel_K_copy : (Jvm.Cond.selects "CapabilityCore$Capability" y_K_copy y_K_copy) ∈ TG := tg_t (List.mem_of_getElem? (i := 169) (by decide +kernel)) (by decide +kernel)
theorem k_code_K_copy : (Jvm.Cond.code y_K_copy prog_2_method_2_code (2 : Nat) (Option.none : Option Jvm.ClassFile.FieldType)) ∈ TG := tg_t (List.mem_of_getElem? (i := 170) (by decide +kernel)) (by decide +kernel)
theorem k_ml_X_122 : (Jvm.Cond.methodLink "CapabilityCore" (122 : Nat) y_X_storeCapability) ∈ TG := tg_t (List.mem_of_getElem? (i := 171) (by decide +kernel)) (by decide +kernel)
theorem k_im_X_storeCapability : (Jvm.Cond.instanceMethod y_X_storeCapability) ∈ TG := tg_t (List.mem_of_getElem? (i := 173) (by decide +kernel)) (by decide +kernel)
theorem k_code_X_storeCapability : (Jvm.Cond.code y_X_storeCapability prog_1_method_30_code (8 : Nat) (Option.some Jvm.ClassFile.FieldType.int)) ∈ TG := tg_t (List.mem_of_getElem? (i := 174) (by decide +kernel)) (by decide +kernel)
theorem k_ml_X_125 : (Jvm.Cond.methodLink "CapabilityCore" (125 : Nat) y_X_branch) ∈ TG := tg_t (List.mem_of_getElem? (i := 175) (by decide +kernel)) (by decide +kernel)
theorem k_im_X_branch : (Jvm.Cond.instanceMethod y_X_branch) ∈ TG := tg_t (List.mem_of_getElem? (i := 177) (by decide +kernel)) (by decide +kernel)
theorem k_code_X_branch : (Jvm.Cond.code y_X_branch prog_1_method_36_code (2 : Nat) (Option.some Jvm.ClassFile.FieldType.int)) ∈ TG := tg_t (List.mem_of_getElem? (i := 178) (by decide +kernel)) (by decide +kernel)
theorem k_ml_X_165 : (Jvm.Cond.methodLink "CapabilityCore" (165 : Nat) y_K_move) ∈ TG := tg_t (List.mem_of_getElem? (i := 179) (by decide +kernel)) (by decide +kernel)
theorem k_im_K_move : (Jvm.Cond.instanceMethod y_K_move) ∈ TG := tg_t (List.mem_of_getElem? (i := 180) (by decide +kernel)) (by decide +kernel)
theorem k_sel_K_move : (Jvm.Cond.selects "CapabilityCore$Capability" y_K_move y_K_move) ∈ TG := tg_t (List.mem_of_getElem? (i := 181) (by decide +kernel)) (by decide +kernel)
theorem k_code_K_move : (Jvm.Cond.code y_K_move prog_2_method_11_code (6 : Nat) (Option.none : Option Jvm.ClassFile.FieldType)) ∈ TG := tg_t (List.mem_of_getElem? (i := 182) (by decide +kernel)) (by decide +kernel)
theorem k_ml_K_39 : (Jvm.Cond.methodLink "CapabilityCore$Capability" (39 : Nat) y_K_upperBound) ∈ TG := tg_t (List.mem_of_getElem? (i := 183) (by decide +kernel)) (by decide +kernel)
theorem k_ml_K_42 : (Jvm.Cond.methodLink "CapabilityCore$Capability" (42 : Nat) y_K_isSealed) ∈ TG := tg_t (List.mem_of_getElem? (i := 184) (by decide +kernel)) (by decide +kernel)
theorem k_ml_X_128 : (Jvm.Cond.methodLink "CapabilityCore" (128 : Nat) y_X_writeLink) ∈ TG := tg_t (List.mem_of_getElem? (i := 185) (by decide +kernel)) (by decide +kernel)
theorem k_im_X_writeLink : (Jvm.Cond.instanceMethod y_X_writeLink) ∈ TG := tg_t (List.mem_of_getElem? (i := 187) (by decide +kernel)) (by decide +kernel)
theorem k_code_X_writeLink : (Jvm.Cond.code y_X_writeLink prog_1_method_37_code (2 : Nat) (Option.none : Option Jvm.ClassFile.FieldType)) ∈ TG := tg_t (List.mem_of_getElem? (i := 188) (by decide +kernel)) (by decide +kernel)
theorem k_ml_X_185 : (Jvm.Cond.methodLink "CapabilityCore" (185 : Nat) y_K_setType) ∈ TG := tg_t (List.mem_of_getElem? (i := 189) (by decide +kernel)) (by decide +kernel)
theorem k_im_K_setType : (Jvm.Cond.instanceMethod y_K_setType) ∈ TG := tg_t (List.mem_of_getElem? (i := 190) (by decide +kernel)) (by decide +kernel)
theorem k_sel_K_setType : (Jvm.Cond.selects "CapabilityCore$Capability" y_K_setType y_K_setType) ∈ TG := tg_t (List.mem_of_getElem? (i := 191) (by decide +kernel)) (by decide +kernel)
theorem k_code_K_setType : (Jvm.Cond.code y_K_setType prog_2_method_10_code (2 : Nat) (Option.none : Option Jvm.ClassFile.FieldType)) ∈ TG := tg_t (List.mem_of_getElem? (i := 192) (by decide +kernel)) (by decide +kernel)
theorem k_ml_X_131 : (Jvm.Cond.methodLink "CapabilityCore" (131 : Nat) y_X_jump) ∈ TG := tg_t (List.mem_of_getElem? (i := 193) (by decide +kernel)) (by decide +kernel)
theorem k_im_X_jump : (Jvm.Cond.instanceMethod y_X_jump) ∈ TG := tg_t (List.mem_of_getElem? (i := 195) (by decide +kernel)) (by decide +kernel)
theorem k_code_X_jump : (Jvm.Cond.code y_X_jump prog_1_method_31_code (4 : Nat) (Option.some Jvm.ClassFile.FieldType.int)) ∈ TG := tg_t (List.mem_of_getElem? (i := 196) (by decide +kernel)) (by decide +kernel)
theorem k_ml_X_182 : (Jvm.Cond.methodLink "CapabilityCore" (182 : Nat) y_K_type) ∈ TG := tg_t (List.mem_of_getElem? (i := 197) (by decide +kernel)) (by decide +kernel)
theorem k_ml_X_134 : (Jvm.Cond.methodLink "CapabilityCore" (134 : Nat) y_X_seal) ∈ TG := tg_t (List.mem_of_getElem? (i := 198) (by decide +kernel)) (by decide +kernel)
theorem k_im_X_seal : (Jvm.Cond.instanceMethod y_X_seal) ∈ TG := tg_t (List.mem_of_getElem? (i := 200) (by decide +kernel)) (by decide +kernel)
theorem k_code_X_seal : (Jvm.Cond.code y_X_seal prog_1_method_32_code (7 : Nat) (Option.some Jvm.ClassFile.FieldType.int)) ∈ TG := tg_t (List.mem_of_getElem? (i := 201) (by decide +kernel)) (by decide +kernel)
theorem k_ml_X_188 : (Jvm.Cond.methodLink "CapabilityCore" (188 : Nat) y_X_writeWithType) ∈ TG := tg_t (List.mem_of_getElem? (i := 202) (by decide +kernel)) (by decide +kernel)
theorem k_im_X_writeWithType : (Jvm.Cond.instanceMethod y_X_writeWithType) ∈ TG := tg_t (List.mem_of_getElem? (i := 204) (by decide +kernel)) (by decide +kernel)
theorem k_code_X_writeWithType : (Jvm.Cond.code y_X_writeWithType prog_1_method_38_code (4 : Nat) (Option.none : Option Jvm.ClassFile.FieldType)) ∈ TG := tg_t (List.mem_of_getElem? (i := 205) (by decide +kernel)) (by decide +kernel)
theorem k_ml_X_137 : (Jvm.Cond.methodLink "CapabilityCore" (137 : Nat) y_X_unseal) ∈ TG := tg_t (List.mem_of_getElem? (i := 206) (by decide +kernel)) (by decide +kernel)
theorem k_im_X_unseal : (Jvm.Cond.instanceMethod y_X_unseal) ∈ TG := tg_t (List.mem_of_getElem? (i := 208) (by decide +kernel)) (by decide +kernel)
theorem k_code_X_unseal : (Jvm.Cond.code y_X_unseal prog_1_method_33_code (7 : Nat) (Option.some Jvm.ClassFile.FieldType.int)) ∈ TG := tg_t (List.mem_of_getElem? (i := 209) (by decide +kernel)) (by decide +kernel)
theorem k_ml_X_140 : (Jvm.Cond.methodLink "CapabilityCore" (140 : Nat) y_X_tell) ∈ TG := tg_t (List.mem_of_getElem? (i := 210) (by decide +kernel)) (by decide +kernel)
theorem k_st_X_tell : (Jvm.Cond.static y_X_tell) ∈ TG := tg_t (List.mem_of_getElem? (i := 211) (by decide +kernel)) (by decide +kernel)
theorem k_code_X_tell : (Jvm.Cond.code y_X_tell prog_1_method_26_code (2 : Nat) (Option.some Jvm.ClassFile.FieldType.int)) ∈ TG := tg_t (List.mem_of_getElem? (i := 212) (by decide +kernel)) (by decide +kernel)
theorem k_ml_X_179 : (Jvm.Cond.methodLink "CapabilityCore" (179 : Nat) y_K_permissions) ∈ TG := tg_t (List.mem_of_getElem? (i := 213) (by decide +kernel)) (by decide +kernel)
theorem k_ml_X_144 : (Jvm.Cond.methodLink "CapabilityCore" (144 : Nat) y_X_swap) ∈ TG := tg_t (List.mem_of_getElem? (i := 214) (by decide +kernel)) (by decide +kernel)
theorem k_im_X_swap : (Jvm.Cond.instanceMethod y_X_swap) ∈ TG := tg_t (List.mem_of_getElem? (i := 216) (by decide +kernel)) (by decide +kernel)
theorem k_code_X_swap : (Jvm.Cond.code y_X_swap prog_1_method_34_code (5 : Nat) (Option.some Jvm.ClassFile.FieldType.int)) ∈ TG := tg_t (List.mem_of_getElem? (i := 217) (by decide +kernel)) (by decide +kernel)
theorem k_ml_X_147 : (Jvm.Cond.methodLink "CapabilityCore" (147 : Nat) y_X_returnFromTrap) ∈ TG := tg_t (List.mem_of_getElem? (i := 218) (by decide +kernel)) (by decide +kernel)
theorem k_im_X_returnFromTrap : (Jvm.Cond.instanceMethod y_X_returnFromTrap) ∈ TG := tg_t (List.mem_of_getElem? (i := 220) (by decide +kernel)) (by decide +kernel)
theorem k_code_X_returnFromTrap : (Jvm.Cond.code y_X_returnFromTrap prog_1_method_35_code (1 : Nat) (Option.some Jvm.ClassFile.FieldType.int)) ∈ TG := tg_t (List.mem_of_getElem? (i := 221) (by decide +kernel)) (by decide +kernel)
theorem k_ml_X_151 : (Jvm.Cond.methodLink "CapabilityCore" (151 : Nat) y_X_compute) ∈ TG := tg_t (List.mem_of_getElem? (i := 222) (by decide +kernel)) (by decide +kernel)
theorem k_st_X_compute : (Jvm.Cond.static y_X_compute) ∈ TG := tg_t (List.mem_of_getElem? (i := 223) (by decide +kernel)) (by decide +kernel)
theorem k_code_X_compute : (Jvm.Cond.code y_X_compute prog_1_method_22_code (4 : Nat) (Option.some Jvm.ClassFile.FieldType.int)) ∈ TG := tg_t (List.mem_of_getElem? (i := 224) (by decide +kernel)) (by decide +kernel)
theorem k_ml_X_154 : (Jvm.Cond.methodLink "CapabilityCore" (154 : Nat) y_X_derive) ∈ TG := tg_t (List.mem_of_getElem? (i := 225) (by decide +kernel)) (by decide +kernel)
theorem k_im_X_derive : (Jvm.Cond.instanceMethod y_X_derive) ∈ TG := tg_t (List.mem_of_getElem? (i := 227) (by decide +kernel)) (by decide +kernel)
theorem k_code_X_derive : (Jvm.Cond.code y_X_derive prog_1_method_23_code (5 : Nat) (Option.none : Option Jvm.ClassFile.FieldType)) ∈ TG := tg_t (List.mem_of_getElem? (i := 228) (by decide +kernel)) (by decide +kernel)
theorem k_ml_X_158 : (Jvm.Cond.methodLink "CapabilityCore" (158 : Nat) y_X_narrow) ∈ TG := tg_t (List.mem_of_getElem? (i := 229) (by decide +kernel)) (by decide +kernel)
theorem k_im_X_narrow : (Jvm.Cond.instanceMethod y_X_narrow) ∈ TG := tg_t (List.mem_of_getElem? (i := 231) (by decide +kernel)) (by decide +kernel)
theorem k_code_X_narrow : (Jvm.Cond.code y_X_narrow prog_1_method_24_code (5 : Nat) (Option.none : Option Jvm.ClassFile.FieldType)) ∈ TG := tg_t (List.mem_of_getElem? (i := 232) (by decide +kernel)) (by decide +kernel)
theorem k_ml_X_175 : (Jvm.Cond.methodLink "CapabilityCore" (175 : Nat) y_K_bound) ∈ TG := tg_t (List.mem_of_getElem? (i := 233) (by decide +kernel)) (by decide +kernel)
theorem k_ml_X_162 : (Jvm.Cond.methodLink "CapabilityCore" (162 : Nat) y_K_keepPermissions) ∈ TG := tg_t (List.mem_of_getElem? (i := 234) (by decide +kernel)) (by decide +kernel)
theorem k_im_K_keepPermissions : (Jvm.Cond.instanceMethod y_K_keepPermissions) ∈ TG := tg_t (List.mem_of_getElem? (i := 235) (by decide +kernel)) (by decide +kernel)
theorem k_sel_K_keepPermissions : (Jvm.Cond.selects "CapabilityCore$Capability" y_K_keepPermissions y_K_keepPermissions) ∈ TG := tg_t (List.mem_of_getElem? (i := 236) (by decide +kernel)) (by decide +kernel)
theorem k_code_K_keepPermissions : (Jvm.Cond.code y_K_keepPermissions prog_2_method_7_code (2 : Nat) (Option.none : Option Jvm.ClassFile.FieldType)) ∈ TG := tg_t (List.mem_of_getElem? (i := 237) (by decide +kernel)) (by decide +kernel)
theorem k_ml_X_168 : (Jvm.Cond.methodLink "CapabilityCore" (168 : Nat) y_X_mayBuild) ∈ TG := tg_t (List.mem_of_getElem? (i := 238) (by decide +kernel)) (by decide +kernel)
theorem k_st_X_mayBuild : (Jvm.Cond.static y_X_mayBuild) ∈ TG := tg_t (List.mem_of_getElem? (i := 239) (by decide +kernel)) (by decide +kernel)
theorem k_code_X_mayBuild : (Jvm.Cond.code y_X_mayBuild prog_1_method_25_code (2 : Nat) (Option.some Jvm.ClassFile.FieldType.boolean)) ∈ TG := tg_t (List.mem_of_getElem? (i := 240) (by decide +kernel)) (by decide +kernel)
theorem k_ml_X_90 : (Jvm.Cond.methodLink "CapabilityCore" (90 : Nat) y_X_enterTrap) ∈ TG := tg_t (List.mem_of_getElem? (i := 241) (by decide +kernel)) (by decide +kernel)
theorem k_im_X_enterTrap : (Jvm.Cond.instanceMethod y_X_enterTrap) ∈ TG := tg_t (List.mem_of_getElem? (i := 243) (by decide +kernel)) (by decide +kernel)
theorem k_code_X_enterTrap : (Jvm.Cond.code y_X_enterTrap prog_1_method_18_code (3 : Nat) (Option.none : Option Jvm.ClassFile.FieldType)) ∈ TG := tg_t (List.mem_of_getElem? (i := 244) (by decide +kernel)) (by decide +kernel)
theorem k_ml_L_32 : (Jvm.Cond.methodLink "CapabilityCoreLaw" (32 : Nat) y_X_state) ∈ TG := tg_t (List.mem_of_getElem? (i := 245) (by decide +kernel)) (by decide +kernel)
theorem k_im_X_state : (Jvm.Cond.instanceMethod y_X_state) ∈ TG := tg_t (List.mem_of_getElem? (i := 246) (by decide +kernel)) (by decide +kernel)
theorem k_sel_X_state : (Jvm.Cond.selects "CapabilityCore" y_X_state y_X_state) ∈ TG := tg_t (List.mem_of_getElem? (i := 247) (by decide +kernel)) (by decide +kernel)
theorem k_code_X_state : (Jvm.Cond.code y_X_state prog_1_method_6_code (1 : Nat) (Option.some Jvm.ClassFile.FieldType.int)) ∈ TG := tg_t (List.mem_of_getElem? (i := 248) (by decide +kernel)) (by decide +kernel)
theorem k_ml_L_37 : (Jvm.Cond.methodLink "CapabilityCoreLaw" (37 : Nat) y_X_wake) ∈ TG := tg_t (List.mem_of_getElem? (i := 249) (by decide +kernel)) (by decide +kernel)
theorem k_im_X_wake : (Jvm.Cond.instanceMethod y_X_wake) ∈ TG := tg_t (List.mem_of_getElem? (i := 250) (by decide +kernel)) (by decide +kernel)
theorem k_sel_X_wake : (Jvm.Cond.selects "CapabilityCore" y_X_wake y_X_wake) ∈ TG := tg_t (List.mem_of_getElem? (i := 251) (by decide +kernel)) (by decide +kernel)
theorem k_code_X_wake : (Jvm.Cond.code y_X_wake prog_1_method_7_code (2 : Nat) (Option.some Jvm.ClassFile.FieldType.boolean)) ∈ TG := tg_t (List.mem_of_getElem? (i := 252) (by decide +kernel)) (by decide +kernel)
theorem k_ml_L_41 : (Jvm.Cond.methodLink "CapabilityCoreLaw" (41 : Nat) y_X_cause) ∈ TG := tg_t (List.mem_of_getElem? (i := 253) (by decide +kernel)) (by decide +kernel)
theorem k_im_X_cause : (Jvm.Cond.instanceMethod y_X_cause) ∈ TG := tg_t (List.mem_of_getElem? (i := 254) (by decide +kernel)) (by decide +kernel)
theorem k_sel_X_cause : (Jvm.Cond.selects "CapabilityCore" y_X_cause y_X_cause) ∈ TG := tg_t (List.mem_of_getElem? (i := 255) (by decide +kernel)) (by decide +kernel)
theorem k_code_X_cause : (Jvm.Cond.code y_X_cause prog_1_method_8_code (1 : Nat) (Option.some Jvm.ClassFile.FieldType.int)) ∈ TG := tg_t (List.mem_of_getElem? (i := 256) (by decide +kernel)) (by decide +kernel)
theorem k_ml_L_45 : (Jvm.Cond.methodLink "CapabilityCoreLaw" (45 : Nat) y_X_steps) ∈ TG := tg_t (List.mem_of_getElem? (i := 257) (by decide +kernel)) (by decide +kernel)
theorem k_im_X_steps : (Jvm.Cond.instanceMethod y_X_steps) ∈ TG := tg_t (List.mem_of_getElem? (i := 258) (by decide +kernel)) (by decide +kernel)
theorem k_sel_X_steps : (Jvm.Cond.selects "CapabilityCore" y_X_steps y_X_steps) ∈ TG := tg_t (List.mem_of_getElem? (i := 259) (by decide +kernel)) (by decide +kernel)
theorem k_code_X_steps : (Jvm.Cond.code y_X_steps prog_1_method_9_code (1 : Nat) (Option.some Jvm.ClassFile.FieldType.int)) ∈ TG := tg_t (List.mem_of_getElem? (i := 260) (by decide +kernel)) (by decide +kernel)
theorem k_ml_L_49 : (Jvm.Cond.methodLink "CapabilityCoreLaw" (49 : Nat) y_X_traps) ∈ TG := tg_t (List.mem_of_getElem? (i := 261) (by decide +kernel)) (by decide +kernel)
theorem k_im_X_traps : (Jvm.Cond.instanceMethod y_X_traps) ∈ TG := tg_t (List.mem_of_getElem? (i := 262) (by decide +kernel)) (by decide +kernel)
theorem k_sel_X_traps : (Jvm.Cond.selects "CapabilityCore" y_X_traps y_X_traps) ∈ TG := tg_t (List.mem_of_getElem? (i := 263) (by decide +kernel)) (by decide +kernel)
theorem k_code_X_traps : (Jvm.Cond.code y_X_traps prog_1_method_10_code (1 : Nat) (Option.some Jvm.ClassFile.FieldType.int)) ∈ TG := tg_t (List.mem_of_getElem? (i := 264) (by decide +kernel)) (by decide +kernel)
theorem k_ml_L_53 : (Jvm.Cond.methodLink "CapabilityCoreLaw" (53 : Nat) y_X_register) ∈ TG := tg_t (List.mem_of_getElem? (i := 265) (by decide +kernel)) (by decide +kernel)
theorem k_im_X_register : (Jvm.Cond.instanceMethod y_X_register) ∈ TG := tg_t (List.mem_of_getElem? (i := 266) (by decide +kernel)) (by decide +kernel)
theorem k_sel_X_register : (Jvm.Cond.selects "CapabilityCore" y_X_register y_X_register) ∈ TG := tg_t (List.mem_of_getElem? (i := 267) (by decide +kernel)) (by decide +kernel)
theorem k_code_X_register : (Jvm.Cond.code y_X_register prog_1_method_11_code (3 : Nat) (Option.some Jvm.ClassFile.FieldType.int)) ∈ TG := tg_t (List.mem_of_getElem? (i := 268) (by decide +kernel)) (by decide +kernel)
theorem k_ml_X_59 : (Jvm.Cond.methodLink "CapabilityCore" (59 : Nat) y_X_isRegister) ∈ TG := tg_t (List.mem_of_getElem? (i := 269) (by decide +kernel)) (by decide +kernel)
theorem k_st_X_isRegister : (Jvm.Cond.static y_X_isRegister) ∈ TG := tg_t (List.mem_of_getElem? (i := 270) (by decide +kernel)) (by decide +kernel)
theorem k_code_X_isRegister : (Jvm.Cond.code y_X_isRegister prog_1_method_16_code (1 : Nat) (Option.some Jvm.ClassFile.FieldType.boolean)) ∈ TG := tg_t (List.mem_of_getElem? (i := 271) (by decide +kernel)) (by decide +kernel)
theorem k_ml_L_58 : (Jvm.Cond.methodLink "CapabilityCoreLaw" (58 : Nat) y_X_base) ∈ TG := tg_t (List.mem_of_getElem? (i := 272) (by decide +kernel)) (by decide +kernel)
theorem k_im_X_base : (Jvm.Cond.instanceMethod y_X_base) ∈ TG := tg_t (List.mem_of_getElem? (i := 273) (by decide +kernel)) (by decide +kernel)
theorem k_sel_X_base : (Jvm.Cond.selects "CapabilityCore" y_X_base y_X_base) ∈ TG := tg_t (List.mem_of_getElem? (i := 274) (by decide +kernel)) (by decide +kernel)
theorem k_code_X_base : (Jvm.Cond.code y_X_base prog_1_method_12_code (2 : Nat) (Option.some Jvm.ClassFile.FieldType.long)) ∈ TG := tg_t (List.mem_of_getElem? (i := 275) (by decide +kernel)) (by decide +kernel)
theorem k_ml_L_63 : (Jvm.Cond.methodLink "CapabilityCoreLaw" (63 : Nat) y_X_top) ∈ TG := tg_t (List.mem_of_getElem? (i := 276) (by decide +kernel)) (by decide +kernel)
theorem k_im_X_top : (Jvm.Cond.instanceMethod y_X_top) ∈ TG := tg_t (List.mem_of_getElem? (i := 277) (by decide +kernel)) (by decide +kernel)
theorem k_sel_X_top : (Jvm.Cond.selects "CapabilityCore" y_X_top y_X_top) ∈ TG := tg_t (List.mem_of_getElem? (i := 278) (by decide +kernel)) (by decide +kernel)
theorem k_code_X_top : (Jvm.Cond.code y_X_top prog_1_method_13_code (2 : Nat) (Option.some Jvm.ClassFile.FieldType.long)) ∈ TG := tg_t (List.mem_of_getElem? (i := 279) (by decide +kernel)) (by decide +kernel)
theorem k_ml_L_67 : (Jvm.Cond.methodLink "CapabilityCoreLaw" (67 : Nat) y_X_give) ∈ TG := tg_t (List.mem_of_getElem? (i := 280) (by decide +kernel)) (by decide +kernel)
theorem k_im_X_give : (Jvm.Cond.instanceMethod y_X_give) ∈ TG := tg_t (List.mem_of_getElem? (i := 281) (by decide +kernel)) (by decide +kernel)
theorem k_sel_X_give : (Jvm.Cond.selects "CapabilityCore" y_X_give y_X_give) ∈ TG := tg_t (List.mem_of_getElem? (i := 282) (by decide +kernel)) (by decide +kernel)
theorem k_code_X_give : (Jvm.Cond.code y_X_give prog_1_method_14_code (3 : Nat) (Option.some Jvm.ClassFile.FieldType.boolean)) ∈ TG := tg_t (List.mem_of_getElem? (i := 283) (by decide +kernel)) (by decide +kernel)
theorem k_cl_L_10 : (Jvm.Cond.classLink "CapabilityCoreLaw" (10 : Nat) "CapabilityCoreModel") ∈ TG := tg_t (List.mem_of_getElem? (i := 284) (by decide +kernel)) (by decide +kernel)
theorem k_inst_M : (Jvm.Cond.instantiable "CapabilityCoreModel" (12 : Nat)) ∈ TG := tg_t (List.mem_of_getElem? (i := 285) (by decide +kernel)) (by decide +kernel)
theorem k_ml_L_12 : (Jvm.Cond.methodLink "CapabilityCoreLaw" (12 : Nat) y_M_init) ∈ TG := tg_t (List.mem_of_getElem? (i := 286) (by decide +kernel)) (by decide +kernel)
theorem k_im_M_init : (Jvm.Cond.instanceMethod y_M_init) ∈ TG := tg_t (List.mem_of_getElem? (i := 287) (by decide +kernel)) (by decide +kernel)
theorem k_code_M_init : (Jvm.Cond.code y_M_init prog_4_method_1_code (1 : Nat) (Option.none : Option Jvm.ClassFile.FieldType)) ∈ TG := tg_t (List.mem_of_getElem? (i := 288) (by decide +kernel)) (by decide +kernel)
theorem k_ml_M_1 : (Jvm.Cond.methodLink "CapabilityCoreModel" (1 : Nat) ({ cls := "java/lang/Object", name := "<init>", desc := "()V" } : Jvm.MethodName)) ∈ TG := tg_t (List.mem_of_getElem? (i := 289) (by decide +kernel)) (by decide +kernel)
theorem k_ml_M_26 : (Jvm.Cond.methodLink "CapabilityCoreModel" (26 : Nat) y_M_first) ∈ TG := tg_t (List.mem_of_getElem? (i := 290) (by decide +kernel)) (by decide +kernel)
theorem k_im_M_first : (Jvm.Cond.instanceMethod y_M_first) ∈ TG := tg_t (List.mem_of_getElem? (i := 292) (by decide +kernel)) (by decide +kernel)
theorem k_code_M_first : (Jvm.Cond.code y_M_first prog_4_method_2_code (3 : Nat) (Option.none : Option Jvm.ClassFile.FieldType)) ∈ TG := tg_t (List.mem_of_getElem? (i := 293) (by decide +kernel)) (by decide +kernel)
theorem k_cL_M_30 : (Jvm.Cond.constantLong "CapabilityCoreModel" (30 : Nat) (1024 : Int64)) ∈ TG := tg_t (List.mem_of_getElem? (i := 294) (by decide +kernel)) (by decide +kernel)
theorem k_ml_M_32 : (Jvm.Cond.methodLink "CapabilityCoreModel" (32 : Nat) y_M_bounded) ∈ TG := tg_t (List.mem_of_getElem? (i := 295) (by decide +kernel)) (by decide +kernel)
theorem k_st_M_bounded : (Jvm.Cond.static y_M_bounded) ∈ TG := tg_t (List.mem_of_getElem? (i := 296) (by decide +kernel)) (by decide +kernel)
theorem k_code_M_bounded : (Jvm.Cond.code y_M_bounded prog_4_method_10_code (10 : Nat) (Option.some Jvm.ClassFile.FieldType.int)) ∈ TG := tg_t (List.mem_of_getElem? (i := 297) (by decide +kernel)) (by decide +kernel)
theorem k_cL_M_55 : (Jvm.Cond.constantLong "CapabilityCoreModel" (55 : Nat) (96 : Int64)) ∈ TG := tg_t (List.mem_of_getElem? (i := 298) (by decide +kernel)) (by decide +kernel)
theorem k_cL_M_45 : (Jvm.Cond.constantLong "CapabilityCoreModel" (45 : Nat) (128 : Int64)) ∈ TG := tg_t (List.mem_of_getElem? (i := 299) (by decide +kernel)) (by decide +kernel)
theorem k_fl_M_7 : (Jvm.Cond.fieldLink "CapabilityCoreModel" (7 : Nat) "CapabilityCoreModel" "address" "[I") ∈ TG := tg_t (List.mem_of_getElem? (i := 300) (by decide +kernel)) (by decide +kernel)
theorem k_fl_M_13 : (Jvm.Cond.fieldLink "CapabilityCoreModel" (13 : Nat) "CapabilityCoreModel" "meta" "[I") ∈ TG := tg_t (List.mem_of_getElem? (i := 301) (by decide +kernel)) (by decide +kernel)
theorem k_fl_M_16 : (Jvm.Cond.fieldLink "CapabilityCoreModel" (16 : Nat) "CapabilityCoreModel" "tag" "[Z") ∈ TG := tg_t (List.mem_of_getElem? (i := 302) (by decide +kernel)) (by decide +kernel)
theorem k_fl_M_20 : (Jvm.Cond.fieldLink "CapabilityCoreModel" (20 : Nat) "CapabilityCoreModel" "memory" "[I") ∈ TG := tg_t (List.mem_of_getElem? (i := 303) (by decide +kernel)) (by decide +kernel)
theorem k_fl_M_23 : (Jvm.Cond.fieldLink "CapabilityCoreModel" (23 : Nat) "CapabilityCoreModel" "granule" "[Z") ∈ TG := tg_t (List.mem_of_getElem? (i := 304) (by decide +kernel)) (by decide +kernel)
theorem k_fl_M_113 : (Jvm.Cond.fieldLink "CapabilityCoreModel" (113 : Nat) "CapabilityCoreModel" "state" "I") ∈ TG := tg_t (List.mem_of_getElem? (i := 305) (by decide +kernel)) (by decide +kernel)
theorem k_fl_M_107 : (Jvm.Cond.fieldLink "CapabilityCoreModel" (107 : Nat) "CapabilityCoreModel" "cause" "I") ∈ TG := tg_t (List.mem_of_getElem? (i := 306) (by decide +kernel)) (by decide +kernel)
theorem k_fl_M_116 : (Jvm.Cond.fieldLink "CapabilityCoreModel" (116 : Nat) "CapabilityCoreModel" "steps" "I") ∈ TG := tg_t (List.mem_of_getElem? (i := 307) (by decide +kernel)) (by decide +kernel)
end
section
theorem k_fl_M_110 : (Jvm.Cond.fieldLink "CapabilityCoreModel" (110 : Nat) "CapabilityCoreModel" "traps" "I") ∈ TG := tg_t (List.mem_of_getElem? (i := 308) (by decide +kernel)) (by decide +kernel)
theorem k_fl_M_71 : (Jvm.Cond.fieldLink "CapabilityCoreModel" (71 : Nat) "CapabilityCoreModel" "newAddress" "I") ∈ TG := tg_t (List.mem_of_getElem? (i := 309) (by decide +kernel)) (by decide +kernel)
theorem k_fl_M_75 : (Jvm.Cond.fieldLink "CapabilityCoreModel" (75 : Nat) "CapabilityCoreModel" "newMeta" "I") ∈ TG := tg_t (List.mem_of_getElem? (i := 310) (by decide +kernel)) (by decide +kernel)
theorem k_fl_M_78 : (Jvm.Cond.fieldLink "CapabilityCoreModel" (78 : Nat) "CapabilityCoreModel" "newTag" "Z") ∈ TG := tg_t (List.mem_of_getElem? (i := 311) (by decide +kernel)) (by decide +kernel)
theorem k_ml_L_17 : (Jvm.Cond.methodLink "CapabilityCoreLaw" (17 : Nat) y_M_poke) ∈ TG := tg_t (List.mem_of_getElem? (i := 337) (by decide +kernel)) (by decide +kernel)
theorem k_im_M_poke : (Jvm.Cond.instanceMethod y_M_poke) ∈ TG := tg_t (List.mem_of_getElem? (i := 338) (by decide +kernel)) (by decide +kernel)
theorem k_sel_M_poke : (Jvm.Cond.selects "CapabilityCoreModel" y_M_poke y_M_poke) ∈ TG := tg_t (List.mem_of_getElem? (i := 339) (by decide +kernel)) (by decide +kernel)
theorem k_code_M_poke : (Jvm.Cond.code y_M_poke prog_4_method_32_code (3 : Nat) (Option.some Jvm.ClassFile.FieldType.boolean)) ∈ TG := tg_t (List.mem_of_getElem? (i := 340) (by decide +kernel)) (by decide +kernel)
theorem k_ml_L_22 : (Jvm.Cond.methodLink "CapabilityCoreLaw" (22 : Nat) y_M_peek) ∈ TG := tg_t (List.mem_of_getElem? (i := 341) (by decide +kernel)) (by decide +kernel)
theorem k_im_M_peek : (Jvm.Cond.instanceMethod y_M_peek) ∈ TG := tg_t (List.mem_of_getElem? (i := 342) (by decide +kernel)) (by decide +kernel)
theorem k_sel_M_peek : (Jvm.Cond.selects "CapabilityCoreModel" y_M_peek y_M_peek) ∈ TG := tg_t (List.mem_of_getElem? (i := 343) (by decide +kernel)) (by decide +kernel)
theorem k_code_M_peek : (Jvm.Cond.code y_M_peek prog_4_method_33_code (2 : Nat) (Option.some Jvm.ClassFile.FieldType.int)) ∈ TG := tg_t (List.mem_of_getElem? (i := 344) (by decide +kernel)) (by decide +kernel)
theorem k_ml_L_27 : (Jvm.Cond.methodLink "CapabilityCoreLaw" (27 : Nat) y_M_tagged) ∈ TG := tg_t (List.mem_of_getElem? (i := 345) (by decide +kernel)) (by decide +kernel)
theorem k_im_M_tagged : (Jvm.Cond.instanceMethod y_M_tagged) ∈ TG := tg_t (List.mem_of_getElem? (i := 346) (by decide +kernel)) (by decide +kernel)
theorem k_sel_M_tagged : (Jvm.Cond.selects "CapabilityCoreModel" y_M_tagged y_M_tagged) ∈ TG := tg_t (List.mem_of_getElem? (i := 347) (by decide +kernel)) (by decide +kernel)
theorem k_code_M_tagged : (Jvm.Cond.code y_M_tagged prog_4_method_34_code (2 : Nat) (Option.some Jvm.ClassFile.FieldType.boolean)) ∈ TG := tg_t (List.mem_of_getElem? (i := 348) (by decide +kernel)) (by decide +kernel)
theorem k_ml_L_31 : (Jvm.Cond.methodLink "CapabilityCoreLaw" (31 : Nat) y_M_run) ∈ TG := tg_t (List.mem_of_getElem? (i := 349) (by decide +kernel)) (by decide +kernel)
theorem k_im_M_run : (Jvm.Cond.instanceMethod y_M_run) ∈ TG := tg_t (List.mem_of_getElem? (i := 350) (by decide +kernel)) (by decide +kernel)
theorem k_sel_M_run : (Jvm.Cond.selects "CapabilityCoreModel" y_M_run y_M_run) ∈ TG := tg_t (List.mem_of_getElem? (i := 351) (by decide +kernel)) (by decide +kernel)
theorem k_code_M_run : (Jvm.Cond.code y_M_run prog_4_method_35_code (3 : Nat) (Option.some Jvm.ClassFile.FieldType.int)) ∈ TG := tg_t (List.mem_of_getElem? (i := 352) (by decide +kernel)) (by decide +kernel)
theorem k_ml_M_157 : (Jvm.Cond.methodLink "CapabilityCoreModel" (157 : Nat) y_M_step) ∈ TG := tg_t (List.mem_of_getElem? (i := 353) (by decide +kernel)) (by decide +kernel)
theorem k_im_M_step : (Jvm.Cond.instanceMethod y_M_step) ∈ TG := tg_t (List.mem_of_getElem? (i := 355) (by decide +kernel)) (by decide +kernel)
theorem k_code_M_step : (Jvm.Cond.code y_M_step prog_4_method_24_code (9 : Nat) (Option.none : Option Jvm.ClassFile.FieldType)) ∈ TG := tg_t (List.mem_of_getElem? (i := 356) (by decide +kernel)) (by decide +kernel)
theorem k_ml_M_95 : (Jvm.Cond.methodLink "CapabilityCoreModel" (95 : Nat) y_M_check) ∈ TG := tg_t (List.mem_of_getElem? (i := 357) (by decide +kernel)) (by decide +kernel)
theorem k_im_M_check : (Jvm.Cond.instanceMethod y_M_check) ∈ TG := tg_t (List.mem_of_getElem? (i := 359) (by decide +kernel)) (by decide +kernel)
theorem k_code_M_check : (Jvm.Cond.code y_M_check prog_4_method_12_code (7 : Nat) (Option.some Jvm.ClassFile.FieldType.int)) ∈ TG := tg_t (List.mem_of_getElem? (i := 360) (by decide +kernel)) (by decide +kernel)
theorem k_ml_M_42 : (Jvm.Cond.methodLink "CapabilityCoreModel" (42 : Nat) y_M_unsigned) ∈ TG := tg_t (List.mem_of_getElem? (i := 361) (by decide +kernel)) (by decide +kernel)
theorem k_st_M_unsigned : (Jvm.Cond.static y_M_unsigned) ∈ TG := tg_t (List.mem_of_getElem? (i := 362) (by decide +kernel)) (by decide +kernel)
theorem k_code_M_unsigned : (Jvm.Cond.code y_M_unsigned prog_4_method_5_code (1 : Nat) (Option.some Jvm.ClassFile.FieldType.long)) ∈ TG := tg_t (List.mem_of_getElem? (i := 363) (by decide +kernel)) (by decide +kernel)
theorem k_cL_M_36 : (Jvm.Cond.constantLong "CapabilityCoreModel" (36 : Nat) (4294967296 : Int64)) ∈ TG := tg_t (List.mem_of_getElem? (i := 364) (by decide +kernel)) (by decide +kernel)
theorem k_ml_M_57 : (Jvm.Cond.methodLink "CapabilityCoreModel" (57 : Nat) y_M_type) ∈ TG := tg_t (List.mem_of_getElem? (i := 365) (by decide +kernel)) (by decide +kernel)
theorem k_st_M_type : (Jvm.Cond.static y_M_type) ∈ TG := tg_t (List.mem_of_getElem? (i := 366) (by decide +kernel)) (by decide +kernel)
theorem k_code_M_type : (Jvm.Cond.code y_M_type prog_4_method_3_code (1 : Nat) (Option.some Jvm.ClassFile.FieldType.int)) ∈ TG := tg_t (List.mem_of_getElem? (i := 367) (by decide +kernel)) (by decide +kernel)
theorem k_ml_M_61 : (Jvm.Cond.methodLink "CapabilityCoreModel" (61 : Nat) y_M_has) ∈ TG := tg_t (List.mem_of_getElem? (i := 368) (by decide +kernel)) (by decide +kernel)
theorem k_im_M_has : (Jvm.Cond.instanceMethod y_M_has) ∈ TG := tg_t (List.mem_of_getElem? (i := 370) (by decide +kernel)) (by decide +kernel)
theorem k_code_M_has : (Jvm.Cond.code y_M_has prog_4_method_11_code (3 : Nat) (Option.some Jvm.ClassFile.FieldType.boolean)) ∈ TG := tg_t (List.mem_of_getElem? (i := 371) (by decide +kernel)) (by decide +kernel)
theorem k_ml_M_65 : (Jvm.Cond.methodLink "CapabilityCoreModel" (65 : Nat) y_M_baseOf) ∈ TG := tg_t (List.mem_of_getElem? (i := 372) (by decide +kernel)) (by decide +kernel)
theorem k_st_M_baseOf : (Jvm.Cond.static y_M_baseOf) ∈ TG := tg_t (List.mem_of_getElem? (i := 373) (by decide +kernel)) (by decide +kernel)
theorem k_code_M_baseOf : (Jvm.Cond.code y_M_baseOf prog_4_method_8_code (6 : Nat) (Option.some Jvm.ClassFile.FieldType.long)) ∈ TG := tg_t (List.mem_of_getElem? (i := 374) (by decide +kernel)) (by decide +kernel)
theorem k_ml_M_51 : (Jvm.Cond.methodLink "CapabilityCoreModel" (51 : Nat) y_M_window) ∈ TG := tg_t (List.mem_of_getElem? (i := 375) (by decide +kernel)) (by decide +kernel)
theorem k_st_M_window : (Jvm.Cond.static y_M_window) ∈ TG := tg_t (List.mem_of_getElem? (i := 376) (by decide +kernel)) (by decide +kernel)
theorem k_code_M_window : (Jvm.Cond.code y_M_window prog_4_method_7_code (8 : Nat) (Option.some Jvm.ClassFile.FieldType.long)) ∈ TG := tg_t (List.mem_of_getElem? (i := 377) (by decide +kernel)) (by decide +kernel)
theorem k_ml_M_38 : (Jvm.Cond.methodLink "CapabilityCoreModel" (38 : Nat) y_M_unit) ∈ TG := tg_t (List.mem_of_getElem? (i := 378) (by decide +kernel)) (by decide +kernel)
theorem k_st_M_unit : (Jvm.Cond.static y_M_unit) ∈ TG := tg_t (List.mem_of_getElem? (i := 379) (by decide +kernel)) (by decide +kernel)
theorem k_code_M_unit : (Jvm.Cond.code y_M_unit prog_4_method_4_code (1 : Nat) (Option.some Jvm.ClassFile.FieldType.long)) ∈ TG := tg_t (List.mem_of_getElem? (i := 380) (by decide +kernel)) (by decide +kernel)
theorem k_ml_M_47 : (Jvm.Cond.methodLink "CapabilityCoreModel" (47 : Nat) y_M_rest) ∈ TG := tg_t (List.mem_of_getElem? (i := 381) (by decide +kernel)) (by decide +kernel)
theorem k_st_M_rest : (Jvm.Cond.static y_M_rest) ∈ TG := tg_t (List.mem_of_getElem? (i := 382) (by decide +kernel)) (by decide +kernel)
theorem k_code_M_rest : (Jvm.Cond.code y_M_rest prog_4_method_6_code (6 : Nat) (Option.some Jvm.ClassFile.FieldType.long)) ∈ TG := tg_t (List.mem_of_getElem? (i := 383) (by decide +kernel)) (by decide +kernel)
theorem k_ml_M_68 : (Jvm.Cond.methodLink "CapabilityCoreModel" (68 : Nat) y_M_topOf) ∈ TG := tg_t (List.mem_of_getElem? (i := 384) (by decide +kernel)) (by decide +kernel)
theorem k_st_M_topOf : (Jvm.Cond.static y_M_topOf) ∈ TG := tg_t (List.mem_of_getElem? (i := 385) (by decide +kernel)) (by decide +kernel)
theorem k_code_M_topOf : (Jvm.Cond.code y_M_topOf prog_4_method_9_code (6 : Nat) (Option.some Jvm.ClassFile.FieldType.long)) ∈ TG := tg_t (List.mem_of_getElem? (i := 386) (by decide +kernel)) (by decide +kernel)
theorem k_ml_M_99 : (Jvm.Cond.methodLink "CapabilityCoreModel" (99 : Nat) y_M_of) ∈ TG := tg_t (List.mem_of_getElem? (i := 387) (by decide +kernel)) (by decide +kernel)
theorem k_st_M_of : (Jvm.Cond.static y_M_of) ∈ TG := tg_t (List.mem_of_getElem? (i := 388) (by decide +kernel)) (by decide +kernel)
theorem k_code_M_of : (Jvm.Cond.code y_M_of prog_4_method_13_code (2 : Nat) (Option.some Jvm.ClassFile.FieldType.int)) ∈ TG := tg_t (List.mem_of_getElem? (i := 389) (by decide +kernel)) (by decide +kernel)
theorem k_ml_M_119 : (Jvm.Cond.methodLink "CapabilityCoreModel" (119 : Nat) y_M_trap) ∈ TG := tg_t (List.mem_of_getElem? (i := 390) (by decide +kernel)) (by decide +kernel)
theorem k_im_M_trap : (Jvm.Cond.instanceMethod y_M_trap) ∈ TG := tg_t (List.mem_of_getElem? (i := 392) (by decide +kernel)) (by decide +kernel)
theorem k_code_M_trap : (Jvm.Cond.code y_M_trap prog_4_method_23_code (2 : Nat) (Option.none : Option Jvm.ClassFile.FieldType)) ∈ TG := tg_t (List.mem_of_getElem? (i := 393) (by decide +kernel)) (by decide +kernel)
theorem k_ml_M_82 : (Jvm.Cond.methodLink "CapabilityCoreModel" (82 : Nat) y_M_take) ∈ TG := tg_t (List.mem_of_getElem? (i := 394) (by decide +kernel)) (by decide +kernel)
theorem k_im_M_take : (Jvm.Cond.instanceMethod y_M_take) ∈ TG := tg_t (List.mem_of_getElem? (i := 396) (by decide +kernel)) (by decide +kernel)
theorem k_code_M_take : (Jvm.Cond.code y_M_take prog_4_method_14_code (2 : Nat) (Option.none : Option Jvm.ClassFile.FieldType)) ∈ TG := tg_t (List.mem_of_getElem? (i := 397) (by decide +kernel)) (by decide +kernel)
theorem k_ml_M_89 : (Jvm.Cond.methodLink "CapabilityCoreModel" (89 : Nat) y_M_put) ∈ TG := tg_t (List.mem_of_getElem? (i := 398) (by decide +kernel)) (by decide +kernel)
theorem k_im_M_put : (Jvm.Cond.instanceMethod y_M_put) ∈ TG := tg_t (List.mem_of_getElem? (i := 400) (by decide +kernel)) (by decide +kernel)
theorem k_code_M_put : (Jvm.Cond.code y_M_put prog_4_method_18_code (2 : Nat) (Option.none : Option Jvm.ClassFile.FieldType)) ∈ TG := tg_t (List.mem_of_getElem? (i := 401) (by decide +kernel)) (by decide +kernel)
theorem k_ml_M_122 : (Jvm.Cond.methodLink "CapabilityCoreModel" (122 : Nat) y_M_trapOf) ∈ TG := tg_t (List.mem_of_getElem? (i := 402) (by decide +kernel)) (by decide +kernel)
theorem k_im_M_trapOf : (Jvm.Cond.instanceMethod y_M_trapOf) ∈ TG := tg_t (List.mem_of_getElem? (i := 404) (by decide +kernel)) (by decide +kernel)
theorem k_code_M_trapOf : (Jvm.Cond.code y_M_trapOf prog_4_method_21_code (7 : Nat) (Option.some Jvm.ClassFile.FieldType.int)) ∈ TG := tg_t (List.mem_of_getElem? (i := 405) (by decide +kernel)) (by decide +kernel)
theorem k_ml_M_103 : (Jvm.Cond.methodLink "CapabilityCoreModel" (103 : Nat) y_M_sealing) ∈ TG := tg_t (List.mem_of_getElem? (i := 406) (by decide +kernel)) (by decide +kernel)
theorem k_im_M_sealing : (Jvm.Cond.instanceMethod y_M_sealing) ∈ TG := tg_t (List.mem_of_getElem? (i := 408) (by decide +kernel)) (by decide +kernel)
theorem k_code_M_sealing : (Jvm.Cond.code y_M_sealing prog_4_method_22_code (8 : Nat) (Option.some Jvm.ClassFile.FieldType.int)) ∈ TG := tg_t (List.mem_of_getElem? (i := 409) (by decide +kernel)) (by decide +kernel)
theorem k_ml_M_125 : (Jvm.Cond.methodLink "CapabilityCoreModel" (125 : Nat) y_M_reckoned) ∈ TG := tg_t (List.mem_of_getElem? (i := 410) (by decide +kernel)) (by decide +kernel)
theorem k_st_M_reckoned : (Jvm.Cond.static y_M_reckoned) ∈ TG := tg_t (List.mem_of_getElem? (i := 411) (by decide +kernel)) (by decide +kernel)
theorem k_code_M_reckoned : (Jvm.Cond.code y_M_reckoned prog_4_method_25_code (4 : Nat) (Option.some Jvm.ClassFile.FieldType.int)) ∈ TG := tg_t (List.mem_of_getElem? (i := 412) (by decide +kernel)) (by decide +kernel)
theorem k_ml_M_128 : (Jvm.Cond.methodLink "CapabilityCoreModel" (128 : Nat) y_M_number) ∈ TG := tg_t (List.mem_of_getElem? (i := 413) (by decide +kernel)) (by decide +kernel)
theorem k_im_M_number : (Jvm.Cond.instanceMethod y_M_number) ∈ TG := tg_t (List.mem_of_getElem? (i := 415) (by decide +kernel)) (by decide +kernel)
theorem k_code_M_number : (Jvm.Cond.code y_M_number prog_4_method_15_code (2 : Nat) (Option.none : Option Jvm.ClassFile.FieldType)) ∈ TG := tg_t (List.mem_of_getElem? (i := 416) (by decide +kernel)) (by decide +kernel)
theorem k_ml_M_131 : (Jvm.Cond.methodLink "CapabilityCoreModel" (131 : Nat) y_M_go) ∈ TG := tg_t (List.mem_of_getElem? (i := 417) (by decide +kernel)) (by decide +kernel)
theorem k_im_M_go : (Jvm.Cond.instanceMethod y_M_go) ∈ TG := tg_t (List.mem_of_getElem? (i := 419) (by decide +kernel)) (by decide +kernel)
theorem k_code_M_go : (Jvm.Cond.code y_M_go prog_4_method_19_code (2 : Nat) (Option.none : Option Jvm.ClassFile.FieldType)) ∈ TG := tg_t (List.mem_of_getElem? (i := 420) (by decide +kernel)) (by decide +kernel)
theorem k_ml_M_86 : (Jvm.Cond.methodLink "CapabilityCoreModel" (86 : Nat) y_M_move) ∈ TG := tg_t (List.mem_of_getElem? (i := 421) (by decide +kernel)) (by decide +kernel)
theorem k_im_M_move : (Jvm.Cond.instanceMethod y_M_move) ∈ TG := tg_t (List.mem_of_getElem? (i := 423) (by decide +kernel)) (by decide +kernel)
theorem k_code_M_move : (Jvm.Cond.code y_M_move prog_4_method_16_code (6 : Nat) (Option.none : Option Jvm.ClassFile.FieldType)) ∈ TG := tg_t (List.mem_of_getElem? (i := 424) (by decide +kernel)) (by decide +kernel)
theorem k_ml_M_134 : (Jvm.Cond.methodLink "CapabilityCoreModel" (134 : Nat) y_M_access) ∈ TG := tg_t (List.mem_of_getElem? (i := 425) (by decide +kernel)) (by decide +kernel)
theorem k_im_M_access : (Jvm.Cond.instanceMethod y_M_access) ∈ TG := tg_t (List.mem_of_getElem? (i := 427) (by decide +kernel)) (by decide +kernel)
theorem k_code_M_access : (Jvm.Cond.code y_M_access prog_4_method_26_code (7 : Nat) (Option.none : Option Jvm.ClassFile.FieldType)) ∈ TG := tg_t (List.mem_of_getElem? (i := 428) (by decide +kernel)) (by decide +kernel)
theorem k_ml_M_138 : (Jvm.Cond.methodLink "CapabilityCoreModel" (138 : Nat) y_M_turn) ∈ TG := tg_t (List.mem_of_getElem? (i := 429) (by decide +kernel)) (by decide +kernel)
theorem k_im_M_turn : (Jvm.Cond.instanceMethod y_M_turn) ∈ TG := tg_t (List.mem_of_getElem? (i := 431) (by decide +kernel)) (by decide +kernel)
theorem k_code_M_turn : (Jvm.Cond.code y_M_turn prog_4_method_27_code (8 : Nat) (Option.none : Option Jvm.ClassFile.FieldType)) ∈ TG := tg_t (List.mem_of_getElem? (i := 432) (by decide +kernel)) (by decide +kernel)
theorem k_ml_M_148 : (Jvm.Cond.methodLink "CapabilityCoreModel" (148 : Nat) y_M_link) ∈ TG := tg_t (List.mem_of_getElem? (i := 433) (by decide +kernel)) (by decide +kernel)
theorem k_im_M_link : (Jvm.Cond.instanceMethod y_M_link) ∈ TG := tg_t (List.mem_of_getElem? (i := 435) (by decide +kernel)) (by decide +kernel)
theorem k_code_M_link : (Jvm.Cond.code y_M_link prog_4_method_20_code (1 : Nat) (Option.none : Option Jvm.ClassFile.FieldType)) ∈ TG := tg_t (List.mem_of_getElem? (i := 436) (by decide +kernel)) (by decide +kernel)
theorem k_ml_M_92 : (Jvm.Cond.methodLink "CapabilityCoreModel" (92 : Nat) y_M_typed) ∈ TG := tg_t (List.mem_of_getElem? (i := 437) (by decide +kernel)) (by decide +kernel)
theorem k_im_M_typed : (Jvm.Cond.instanceMethod y_M_typed) ∈ TG := tg_t (List.mem_of_getElem? (i := 439) (by decide +kernel)) (by decide +kernel)
theorem k_code_M_typed : (Jvm.Cond.code y_M_typed prog_4_method_17_code (3 : Nat) (Option.none : Option Jvm.ClassFile.FieldType)) ∈ TG := tg_t (List.mem_of_getElem? (i := 440) (by decide +kernel)) (by decide +kernel)
theorem k_ml_M_141 : (Jvm.Cond.methodLink "CapabilityCoreModel" (141 : Nat) y_M_shape) ∈ TG := tg_t (List.mem_of_getElem? (i := 441) (by decide +kernel)) (by decide +kernel)
theorem k_im_M_shape : (Jvm.Cond.instanceMethod y_M_shape) ∈ TG := tg_t (List.mem_of_getElem? (i := 443) (by decide +kernel)) (by decide +kernel)
theorem k_code_M_shape : (Jvm.Cond.code y_M_shape prog_4_method_28_code (12 : Nat) (Option.none : Option Jvm.ClassFile.FieldType)) ∈ TG := tg_t (List.mem_of_getElem? (i := 444) (by decide +kernel)) (by decide +kernel)
theorem k_ml_M_151 : (Jvm.Cond.methodLink "CapabilityCoreModel" (151 : Nat) y_M_told) ∈ TG := tg_t (List.mem_of_getElem? (i := 445) (by decide +kernel)) (by decide +kernel)
theorem k_im_M_told : (Jvm.Cond.instanceMethod y_M_told) ∈ TG := tg_t (List.mem_of_getElem? (i := 447) (by decide +kernel)) (by decide +kernel)
theorem k_code_M_told : (Jvm.Cond.code y_M_told prog_4_method_29_code (5 : Nat) (Option.some Jvm.ClassFile.FieldType.int)) ∈ TG := tg_t (List.mem_of_getElem? (i := 448) (by decide +kernel)) (by decide +kernel)
theorem k_ml_M_154 : (Jvm.Cond.methodLink "CapabilityCoreModel" (154 : Nat) y_M_build) ∈ TG := tg_t (List.mem_of_getElem? (i := 449) (by decide +kernel)) (by decide +kernel)
theorem k_im_M_build : (Jvm.Cond.instanceMethod y_M_build) ∈ TG := tg_t (List.mem_of_getElem? (i := 451) (by decide +kernel)) (by decide +kernel)
theorem k_code_M_build : (Jvm.Cond.code y_M_build prog_4_method_30_code (10 : Nat) (Option.none : Option Jvm.ClassFile.FieldType)) ∈ TG := tg_t (List.mem_of_getElem? (i := 452) (by decide +kernel)) (by decide +kernel)
theorem k_ml_M_144 : (Jvm.Cond.methodLink "CapabilityCoreModel" (144 : Nat) y_M_rule) ∈ TG := tg_t (List.mem_of_getElem? (i := 453) (by decide +kernel)) (by decide +kernel)
theorem k_im_M_rule : (Jvm.Cond.instanceMethod y_M_rule) ∈ TG := tg_t (List.mem_of_getElem? (i := 455) (by decide +kernel)) (by decide +kernel)
theorem k_code_M_rule : (Jvm.Cond.code y_M_rule prog_4_method_31_code (8 : Nat) (Option.none : Option Jvm.ClassFile.FieldType)) ∈ TG := tg_t (List.mem_of_getElem? (i := 456) (by decide +kernel)) (by decide +kernel)
theorem k_ml_L_36 : (Jvm.Cond.methodLink "CapabilityCoreLaw" (36 : Nat) y_M_state) ∈ TG := tg_t (List.mem_of_getElem? (i := 457) (by decide +kernel)) (by decide +kernel)
theorem k_im_M_state : (Jvm.Cond.instanceMethod y_M_state) ∈ TG := tg_t (List.mem_of_getElem? (i := 458) (by decide +kernel)) (by decide +kernel)
theorem k_sel_M_state : (Jvm.Cond.selects "CapabilityCoreModel" y_M_state y_M_state) ∈ TG := tg_t (List.mem_of_getElem? (i := 459) (by decide +kernel)) (by decide +kernel)
theorem k_code_M_state : (Jvm.Cond.code y_M_state prog_4_method_36_code (1 : Nat) (Option.some Jvm.ClassFile.FieldType.int)) ∈ TG := tg_t (List.mem_of_getElem? (i := 460) (by decide +kernel)) (by decide +kernel)
theorem k_ml_L_40 : (Jvm.Cond.methodLink "CapabilityCoreLaw" (40 : Nat) y_M_wake) ∈ TG := tg_t (List.mem_of_getElem? (i := 461) (by decide +kernel)) (by decide +kernel)
theorem k_im_M_wake : (Jvm.Cond.instanceMethod y_M_wake) ∈ TG := tg_t (List.mem_of_getElem? (i := 462) (by decide +kernel)) (by decide +kernel)
theorem k_sel_M_wake : (Jvm.Cond.selects "CapabilityCoreModel" y_M_wake y_M_wake) ∈ TG := tg_t (List.mem_of_getElem? (i := 463) (by decide +kernel)) (by decide +kernel)
theorem k_code_M_wake : (Jvm.Cond.code y_M_wake prog_4_method_37_code (2 : Nat) (Option.some Jvm.ClassFile.FieldType.boolean)) ∈ TG := tg_t (List.mem_of_getElem? (i := 464) (by decide +kernel)) (by decide +kernel)
theorem k_ml_L_44 : (Jvm.Cond.methodLink "CapabilityCoreLaw" (44 : Nat) y_M_cause) ∈ TG := tg_t (List.mem_of_getElem? (i := 465) (by decide +kernel)) (by decide +kernel)
theorem k_im_M_cause : (Jvm.Cond.instanceMethod y_M_cause) ∈ TG := tg_t (List.mem_of_getElem? (i := 466) (by decide +kernel)) (by decide +kernel)
theorem k_sel_M_cause : (Jvm.Cond.selects "CapabilityCoreModel" y_M_cause y_M_cause) ∈ TG := tg_t (List.mem_of_getElem? (i := 467) (by decide +kernel)) (by decide +kernel)
theorem k_code_M_cause : (Jvm.Cond.code y_M_cause prog_4_method_38_code (1 : Nat) (Option.some Jvm.ClassFile.FieldType.int)) ∈ TG := tg_t (List.mem_of_getElem? (i := 468) (by decide +kernel)) (by decide +kernel)
theorem k_ml_L_48 : (Jvm.Cond.methodLink "CapabilityCoreLaw" (48 : Nat) y_M_steps) ∈ TG := tg_t (List.mem_of_getElem? (i := 469) (by decide +kernel)) (by decide +kernel)
theorem k_im_M_steps : (Jvm.Cond.instanceMethod y_M_steps) ∈ TG := tg_t (List.mem_of_getElem? (i := 470) (by decide +kernel)) (by decide +kernel)
theorem k_sel_M_steps : (Jvm.Cond.selects "CapabilityCoreModel" y_M_steps y_M_steps) ∈ TG := tg_t (List.mem_of_getElem? (i := 471) (by decide +kernel)) (by decide +kernel)
theorem k_code_M_steps : (Jvm.Cond.code y_M_steps prog_4_method_39_code (1 : Nat) (Option.some Jvm.ClassFile.FieldType.int)) ∈ TG := tg_t (List.mem_of_getElem? (i := 472) (by decide +kernel)) (by decide +kernel)
theorem k_ml_L_52 : (Jvm.Cond.methodLink "CapabilityCoreLaw" (52 : Nat) y_M_traps) ∈ TG := tg_t (List.mem_of_getElem? (i := 473) (by decide +kernel)) (by decide +kernel)
theorem k_im_M_traps : (Jvm.Cond.instanceMethod y_M_traps) ∈ TG := tg_t (List.mem_of_getElem? (i := 474) (by decide +kernel)) (by decide +kernel)
theorem k_sel_M_traps : (Jvm.Cond.selects "CapabilityCoreModel" y_M_traps y_M_traps) ∈ TG := tg_t (List.mem_of_getElem? (i := 475) (by decide +kernel)) (by decide +kernel)
theorem k_code_M_traps : (Jvm.Cond.code y_M_traps prog_4_method_40_code (1 : Nat) (Option.some Jvm.ClassFile.FieldType.int)) ∈ TG := tg_t (List.mem_of_getElem? (i := 476) (by decide +kernel)) (by decide +kernel)
theorem k_ml_L_57 : (Jvm.Cond.methodLink "CapabilityCoreLaw" (57 : Nat) y_M_register) ∈ TG := tg_t (List.mem_of_getElem? (i := 477) (by decide +kernel)) (by decide +kernel)
theorem k_im_M_register : (Jvm.Cond.instanceMethod y_M_register) ∈ TG := tg_t (List.mem_of_getElem? (i := 478) (by decide +kernel)) (by decide +kernel)
theorem k_sel_M_register : (Jvm.Cond.selects "CapabilityCoreModel" y_M_register y_M_register) ∈ TG := tg_t (List.mem_of_getElem? (i := 479) (by decide +kernel)) (by decide +kernel)
theorem k_code_M_register : (Jvm.Cond.code y_M_register prog_4_method_42_code (3 : Nat) (Option.some Jvm.ClassFile.FieldType.int)) ∈ TG := tg_t (List.mem_of_getElem? (i := 480) (by decide +kernel)) (by decide +kernel)
theorem k_ml_M_160 : (Jvm.Cond.methodLink "CapabilityCoreModel" (160 : Nat) y_M_isRegister) ∈ TG := tg_t (List.mem_of_getElem? (i := 481) (by decide +kernel)) (by decide +kernel)
end
section
theorem k_st_M_isRegister : (Jvm.Cond.static y_M_isRegister) ∈ TG := tg_t (List.mem_of_getElem? (i := 482) (by decide +kernel)) (by decide +kernel)
theorem k_code_M_isRegister : (Jvm.Cond.code y_M_isRegister prog_4_method_41_code (1 : Nat) (Option.some Jvm.ClassFile.FieldType.boolean)) ∈ TG := tg_t (List.mem_of_getElem? (i := 483) (by decide +kernel)) (by decide +kernel)
theorem k_ml_L_62 : (Jvm.Cond.methodLink "CapabilityCoreLaw" (62 : Nat) y_M_base) ∈ TG := tg_t (List.mem_of_getElem? (i := 484) (by decide +kernel)) (by decide +kernel)
theorem k_im_M_base : (Jvm.Cond.instanceMethod y_M_base) ∈ TG := tg_t (List.mem_of_getElem? (i := 485) (by decide +kernel)) (by decide +kernel)
theorem k_sel_M_base : (Jvm.Cond.selects "CapabilityCoreModel" y_M_base y_M_base) ∈ TG := tg_t (List.mem_of_getElem? (i := 486) (by decide +kernel)) (by decide +kernel)
theorem k_code_M_base : (Jvm.Cond.code y_M_base prog_4_method_43_code (2 : Nat) (Option.some Jvm.ClassFile.FieldType.long)) ∈ TG := tg_t (List.mem_of_getElem? (i := 487) (by decide +kernel)) (by decide +kernel)
theorem k_ml_L_66 : (Jvm.Cond.methodLink "CapabilityCoreLaw" (66 : Nat) y_M_top) ∈ TG := tg_t (List.mem_of_getElem? (i := 488) (by decide +kernel)) (by decide +kernel)
theorem k_im_M_top : (Jvm.Cond.instanceMethod y_M_top) ∈ TG := tg_t (List.mem_of_getElem? (i := 489) (by decide +kernel)) (by decide +kernel)
theorem k_sel_M_top : (Jvm.Cond.selects "CapabilityCoreModel" y_M_top y_M_top) ∈ TG := tg_t (List.mem_of_getElem? (i := 490) (by decide +kernel)) (by decide +kernel)
theorem k_code_M_top : (Jvm.Cond.code y_M_top prog_4_method_44_code (2 : Nat) (Option.some Jvm.ClassFile.FieldType.long)) ∈ TG := tg_t (List.mem_of_getElem? (i := 491) (by decide +kernel)) (by decide +kernel)
theorem k_ml_L_70 : (Jvm.Cond.methodLink "CapabilityCoreLaw" (70 : Nat) y_M_give) ∈ TG := tg_t (List.mem_of_getElem? (i := 492) (by decide +kernel)) (by decide +kernel)
theorem k_im_M_give : (Jvm.Cond.instanceMethod y_M_give) ∈ TG := tg_t (List.mem_of_getElem? (i := 493) (by decide +kernel)) (by decide +kernel)
theorem k_sel_M_give : (Jvm.Cond.selects "CapabilityCoreModel" y_M_give y_M_give) ∈ TG := tg_t (List.mem_of_getElem? (i := 494) (by decide +kernel)) (by decide +kernel)
theorem k_code_M_give : (Jvm.Cond.code y_M_give prog_4_method_45_code (3 : Nat) (Option.some Jvm.ClassFile.FieldType.boolean)) ∈ TG := tg_t (List.mem_of_getElem? (i := 495) (by decide +kernel)) (by decide +kernel)
theorem k_sel_X_writeWord : Cond.selects R_X y_X_writeWord y_X_writeWord ∈ TG := tg_p (List.mem_of_getElem? (i := 0) (by decide +kernel)) (by decide +kernel)
theorem k_sel_X_makeStep : Cond.selects R_X y_X_makeStep y_X_makeStep ∈ TG := tg_p (List.mem_of_getElem? (i := 1) (by decide +kernel)) (by decide +kernel)
theorem k_sel_X_check : Cond.selects R_X y_X_check y_X_check ∈ TG := tg_p (List.mem_of_getElem? (i := 2) (by decide +kernel)) (by decide +kernel)
theorem k_sel_X_execute : Cond.selects R_X y_X_execute y_X_execute ∈ TG := tg_p (List.mem_of_getElem? (i := 3) (by decide +kernel)) (by decide +kernel)
theorem k_sel_X_load : Cond.selects R_X y_X_load y_X_load ∈ TG := tg_p (List.mem_of_getElem? (i := 4) (by decide +kernel)) (by decide +kernel)
theorem k_sel_X_writeNumber : Cond.selects R_X y_X_writeNumber y_X_writeNumber ∈ TG := tg_p (List.mem_of_getElem? (i := 5) (by decide +kernel)) (by decide +kernel)
theorem k_sel_X_store : Cond.selects R_X y_X_store y_X_store ∈ TG := tg_p (List.mem_of_getElem? (i := 6) (by decide +kernel)) (by decide +kernel)
theorem k_sel_X_loadCapability : Cond.selects R_X y_X_loadCapability y_X_loadCapability ∈ TG := tg_p (List.mem_of_getElem? (i := 7) (by decide +kernel)) (by decide +kernel)
theorem k_sel_X_writeMade : Cond.selects R_X y_X_writeMade y_X_writeMade ∈ TG := tg_p (List.mem_of_getElem? (i := 8) (by decide +kernel)) (by decide +kernel)
theorem k_sel_X_storeCapability : Cond.selects R_X y_X_storeCapability y_X_storeCapability ∈ TG := tg_p (List.mem_of_getElem? (i := 9) (by decide +kernel)) (by decide +kernel)
theorem k_sel_X_branch : Cond.selects R_X y_X_branch y_X_branch ∈ TG := tg_p (List.mem_of_getElem? (i := 10) (by decide +kernel)) (by decide +kernel)
theorem k_sel_X_writeLink : Cond.selects R_X y_X_writeLink y_X_writeLink ∈ TG := tg_p (List.mem_of_getElem? (i := 11) (by decide +kernel)) (by decide +kernel)
theorem k_sel_X_jump : Cond.selects R_X y_X_jump y_X_jump ∈ TG := tg_p (List.mem_of_getElem? (i := 12) (by decide +kernel)) (by decide +kernel)
theorem k_sel_X_seal : Cond.selects R_X y_X_seal y_X_seal ∈ TG := tg_p (List.mem_of_getElem? (i := 13) (by decide +kernel)) (by decide +kernel)
theorem k_sel_X_writeWithType : Cond.selects R_X y_X_writeWithType y_X_writeWithType ∈ TG := tg_p (List.mem_of_getElem? (i := 14) (by decide +kernel)) (by decide +kernel)
theorem k_sel_X_unseal : Cond.selects R_X y_X_unseal y_X_unseal ∈ TG := tg_p (List.mem_of_getElem? (i := 15) (by decide +kernel)) (by decide +kernel)
theorem k_sel_X_swap : Cond.selects R_X y_X_swap y_X_swap ∈ TG := tg_p (List.mem_of_getElem? (i := 16) (by decide +kernel)) (by decide +kernel)
theorem k_sel_X_returnFromTrap : Cond.selects R_X y_X_returnFromTrap y_X_returnFromTrap ∈ TG := tg_p (List.mem_of_getElem? (i := 17) (by decide +kernel)) (by decide +kernel)
theorem k_sel_X_derive : Cond.selects R_X y_X_derive y_X_derive ∈ TG := tg_p (List.mem_of_getElem? (i := 18) (by decide +kernel)) (by decide +kernel)
theorem k_sel_X_narrow : Cond.selects R_X y_X_narrow y_X_narrow ∈ TG := tg_p (List.mem_of_getElem? (i := 19) (by decide +kernel)) (by decide +kernel)
theorem k_sel_X_enterTrap : Cond.selects R_X y_X_enterTrap y_X_enterTrap ∈ TG := tg_p (List.mem_of_getElem? (i := 20) (by decide +kernel)) (by decide +kernel)
theorem k_sel_M_first : Cond.selects R_M y_M_first y_M_first ∈ TG := tg_p (List.mem_of_getElem? (i := 21) (by decide +kernel)) (by decide +kernel)
theorem k_sel_M_step : Cond.selects R_M y_M_step y_M_step ∈ TG := tg_p (List.mem_of_getElem? (i := 22) (by decide +kernel)) (by decide +kernel)
theorem k_sel_M_check : Cond.selects R_M y_M_check y_M_check ∈ TG := tg_p (List.mem_of_getElem? (i := 23) (by decide +kernel)) (by decide +kernel)
theorem k_sel_M_has : Cond.selects R_M y_M_has y_M_has ∈ TG := tg_p (List.mem_of_getElem? (i := 24) (by decide +kernel)) (by decide +kernel)
theorem k_sel_M_trap : Cond.selects R_M y_M_trap y_M_trap ∈ TG := tg_p (List.mem_of_getElem? (i := 25) (by decide +kernel)) (by decide +kernel)
theorem k_sel_M_take : Cond.selects R_M y_M_take y_M_take ∈ TG := tg_p (List.mem_of_getElem? (i := 26) (by decide +kernel)) (by decide +kernel)
theorem k_sel_M_put : Cond.selects R_M y_M_put y_M_put ∈ TG := tg_p (List.mem_of_getElem? (i := 27) (by decide +kernel)) (by decide +kernel)
theorem k_sel_M_trapOf : Cond.selects R_M y_M_trapOf y_M_trapOf ∈ TG := tg_p (List.mem_of_getElem? (i := 28) (by decide +kernel)) (by decide +kernel)
theorem k_sel_M_sealing : Cond.selects R_M y_M_sealing y_M_sealing ∈ TG := tg_p (List.mem_of_getElem? (i := 29) (by decide +kernel)) (by decide +kernel)
theorem k_sel_M_number : Cond.selects R_M y_M_number y_M_number ∈ TG := tg_p (List.mem_of_getElem? (i := 30) (by decide +kernel)) (by decide +kernel)
theorem k_sel_M_go : Cond.selects R_M y_M_go y_M_go ∈ TG := tg_p (List.mem_of_getElem? (i := 31) (by decide +kernel)) (by decide +kernel)
theorem k_sel_M_move : Cond.selects R_M y_M_move y_M_move ∈ TG := tg_p (List.mem_of_getElem? (i := 32) (by decide +kernel)) (by decide +kernel)
theorem k_sel_M_access : Cond.selects R_M y_M_access y_M_access ∈ TG := tg_p (List.mem_of_getElem? (i := 33) (by decide +kernel)) (by decide +kernel)
theorem k_sel_M_turn : Cond.selects R_M y_M_turn y_M_turn ∈ TG := tg_p (List.mem_of_getElem? (i := 34) (by decide +kernel)) (by decide +kernel)
theorem k_sel_M_link : Cond.selects R_M y_M_link y_M_link ∈ TG := tg_p (List.mem_of_getElem? (i := 35) (by decide +kernel)) (by decide +kernel)
theorem k_sel_M_typed : Cond.selects R_M y_M_typed y_M_typed ∈ TG := tg_p (List.mem_of_getElem? (i := 36) (by decide +kernel)) (by decide +kernel)
theorem k_sel_M_shape : Cond.selects R_M y_M_shape y_M_shape ∈ TG := tg_p (List.mem_of_getElem? (i := 37) (by decide +kernel)) (by decide +kernel)
theorem k_sel_M_told : Cond.selects R_M y_M_told y_M_told ∈ TG := tg_p (List.mem_of_getElem? (i := 38) (by decide +kernel)) (by decide +kernel)
theorem k_sel_M_build : Cond.selects R_M y_M_build y_M_build ∈ TG := tg_p (List.mem_of_getElem? (i := 39) (by decide +kernel)) (by decide +kernel)
theorem k_sel_M_rule : Cond.selects R_M y_M_rule y_M_rule ∈ TG := tg_p (List.mem_of_getElem? (i := 40) (by decide +kernel)) (by decide +kernel)
end
section
theorem d_K_init_0 : decode c_K_init 0 = .ok (.aload_n 0, 1) := by decide +kernel
theorem d_K_init_1 : decode c_K_init 1 = .ok (.invokespecial 5, 3) := by decide +kernel
theorem d_K_init_4 : decode c_K_init 4 = .ok (.aload_n 0, 1) := by decide +kernel
theorem d_K_init_5 : decode c_K_init 5 = .ok (.iconst 0, 1) := by decide +kernel
theorem d_K_init_6 : decode c_K_init 6 = .ok (.putfield 11, 3) := by decide +kernel
theorem d_K_init_9 : decode c_K_init 9 = .ok (.aload_n 0, 1) := by decide +kernel
theorem d_K_init_10 : decode c_K_init 10 = .ok (.iconst 0, 1) := by decide +kernel
theorem d_K_init_11 : decode c_K_init 11 = .ok (.putfield 15, 3) := by decide +kernel
theorem d_K_init_14 : decode c_K_init 14 = .ok (.aload_n 0, 1) := by decide +kernel
theorem d_K_init_15 : decode c_K_init 15 = .ok (.iconst 0, 1) := by decide +kernel
theorem d_K_init_16 : decode c_K_init 16 = .ok (.putfield 19, 3) := by decide +kernel
theorem d_K_init_19 : decode c_K_init 19 = .ok (.return_, 1) := by decide +kernel
theorem d_K_copy_0 : decode c_K_copy 0 = .ok (.aload_n 0, 1) := by decide +kernel
theorem d_K_copy_1 : decode c_K_copy 1 = .ok (.aload_n 1, 1) := by decide +kernel
theorem d_K_copy_2 : decode c_K_copy 2 = .ok (.getfield 11, 3) := by decide +kernel
theorem d_K_copy_5 : decode c_K_copy 5 = .ok (.putfield 11, 3) := by decide +kernel
theorem d_K_copy_8 : decode c_K_copy 8 = .ok (.aload_n 0, 1) := by decide +kernel
theorem d_K_copy_9 : decode c_K_copy 9 = .ok (.aload_n 1, 1) := by decide +kernel
theorem d_K_copy_10 : decode c_K_copy 10 = .ok (.getfield 15, 3) := by decide +kernel
theorem d_K_copy_13 : decode c_K_copy 13 = .ok (.putfield 15, 3) := by decide +kernel
theorem d_K_copy_16 : decode c_K_copy 16 = .ok (.aload_n 0, 1) := by decide +kernel
theorem d_K_copy_17 : decode c_K_copy 17 = .ok (.aload_n 1, 1) := by decide +kernel
theorem d_K_copy_18 : decode c_K_copy 18 = .ok (.getfield 19, 3) := by decide +kernel
theorem d_K_copy_21 : decode c_K_copy 21 = .ok (.putfield 19, 3) := by decide +kernel
theorem d_K_copy_24 : decode c_K_copy 24 = .ok (.return_, 1) := by decide +kernel
theorem d_K_becomeNumber_0 : decode c_K_becomeNumber 0 = .ok (.aload_n 0, 1) := by decide +kernel
theorem d_K_becomeNumber_1 : decode c_K_becomeNumber 1 = .ok (.iconst 0, 1) := by decide +kernel
theorem d_K_becomeNumber_2 : decode c_K_becomeNumber 2 = .ok (.putfield 11, 3) := by decide +kernel
theorem d_K_becomeNumber_5 : decode c_K_becomeNumber 5 = .ok (.aload_n 0, 1) := by decide +kernel
theorem d_K_becomeNumber_6 : decode c_K_becomeNumber 6 = .ok (.iconst 0, 1) := by decide +kernel
theorem d_K_becomeNumber_7 : decode c_K_becomeNumber 7 = .ok (.putfield 15, 3) := by decide +kernel
theorem d_K_becomeNumber_10 : decode c_K_becomeNumber 10 = .ok (.aload_n 0, 1) := by decide +kernel
theorem d_K_becomeNumber_11 : decode c_K_becomeNumber 11 = .ok (.iload_n 1, 1) := by decide +kernel
theorem d_K_becomeNumber_12 : decode c_K_becomeNumber 12 = .ok (.putfield 19, 3) := by decide +kernel
theorem d_K_becomeNumber_15 : decode c_K_becomeNumber 15 = .ok (.return_, 1) := by decide +kernel
theorem d_K_becomeRoot_0 : decode c_K_becomeRoot 0 = .ok (.aload_n 0, 1) := by decide +kernel
theorem d_K_becomeRoot_1 : decode c_K_becomeRoot 1 = .ok (.iconst 1, 1) := by decide +kernel
theorem d_K_becomeRoot_2 : decode c_K_becomeRoot 2 = .ok (.putfield 11, 3) := by decide +kernel
theorem d_K_becomeRoot_5 : decode c_K_becomeRoot 5 = .ok (.aload_n 0, 1) := by decide +kernel
theorem d_K_becomeRoot_6 : decode c_K_becomeRoot 6 = .ok (.sipush 255, 3) := by decide +kernel
theorem d_K_becomeRoot_9 : decode c_K_becomeRoot 9 = .ok (.putfield 15, 3) := by decide +kernel
theorem d_K_becomeRoot_12 : decode c_K_becomeRoot 12 = .ok (.aload_n 0, 1) := by decide +kernel
theorem d_K_becomeRoot_13 : decode c_K_becomeRoot 13 = .ok (.lconst 0, 1) := by decide +kernel
theorem d_K_becomeRoot_14 : decode c_K_becomeRoot 14 = .ok (.ldc2_w 22, 3) := by decide +kernel
theorem d_K_becomeRoot_17 : decode c_K_becomeRoot 17 = .ok (.invokevirtual 24, 3) := by decide +kernel
theorem d_K_becomeRoot_20 : decode c_K_becomeRoot 20 = .ok (.aload_n 0, 1) := by decide +kernel
theorem d_K_becomeRoot_21 : decode c_K_becomeRoot 21 = .ok (.iload_n 1, 1) := by decide +kernel
theorem d_K_becomeRoot_22 : decode c_K_becomeRoot 22 = .ok (.putfield 19, 3) := by decide +kernel
theorem d_K_becomeRoot_25 : decode c_K_becomeRoot 25 = .ok (.return_, 1) := by decide +kernel
theorem d_K_permissions_0 : decode c_K_permissions 0 = .ok (.aload_n 0, 1) := by decide +kernel
theorem d_K_permissions_1 : decode c_K_permissions 1 = .ok (.getfield 15, 3) := by decide +kernel
theorem d_K_permissions_4 : decode c_K_permissions 4 = .ok (.sipush 255, 3) := by decide +kernel
theorem d_K_permissions_7 : decode c_K_permissions 7 = .ok (.iand, 1) := by decide +kernel
theorem d_K_permissions_8 : decode c_K_permissions 8 = .ok (.ireturn, 1) := by decide +kernel
theorem d_K_permits_0 : decode c_K_permits 0 = .ok (.aload_n 0, 1) := by decide +kernel
theorem d_K_permits_1 : decode c_K_permits 1 = .ok (.invokevirtual 28, 3) := by decide +kernel
theorem d_K_permits_4 : decode c_K_permits 4 = .ok (.iload_n 1, 1) := by decide +kernel
theorem d_K_permits_5 : decode c_K_permits 5 = .ok (.iand, 1) := by decide +kernel
theorem d_K_permits_6 : decode c_K_permits 6 = .ok (.iload_n 1, 1) := by decide +kernel
theorem d_K_permits_7 : decode c_K_permits 7 = .ok (.if_icmp .ne 7, 3) := by decide +kernel
theorem d_K_permits_10 : decode c_K_permits 10 = .ok (.iconst 1, 1) := by decide +kernel
theorem d_K_permits_11 : decode c_K_permits 11 = .ok (.goto 4, 3) := by decide +kernel
theorem d_K_permits_14 : decode c_K_permits 14 = .ok (.iconst 0, 1) := by decide +kernel
theorem d_K_permits_15 : decode c_K_permits 15 = .ok (.ireturn, 1) := by decide +kernel
theorem d_K_keepPermissions_0 : decode c_K_keepPermissions 0 = .ok (.aload_n 0, 1) := by decide +kernel
theorem d_K_keepPermissions_1 : decode c_K_keepPermissions 1 = .ok (.dup, 1) := by decide +kernel
theorem d_K_keepPermissions_2 : decode c_K_keepPermissions 2 = .ok (.getfield 15, 3) := by decide +kernel
theorem d_K_keepPermissions_5 : decode c_K_keepPermissions 5 = .ok (.iload_n 1, 1) := by decide +kernel
theorem d_K_keepPermissions_6 : decode c_K_keepPermissions 6 = .ok (.sipush (-256), 3) := by decide +kernel
theorem d_K_keepPermissions_9 : decode c_K_keepPermissions 9 = .ok (.ior, 1) := by decide +kernel
theorem d_K_keepPermissions_10 : decode c_K_keepPermissions 10 = .ok (.iand, 1) := by decide +kernel
theorem d_K_keepPermissions_11 : decode c_K_keepPermissions 11 = .ok (.putfield 15, 3) := by decide +kernel
theorem d_K_keepPermissions_14 : decode c_K_keepPermissions 14 = .ok (.return_, 1) := by decide +kernel
theorem d_K_type_0 : decode c_K_type 0 = .ok (.aload_n 0, 1) := by decide +kernel
theorem d_K_type_1 : decode c_K_type 1 = .ok (.getfield 15, 3) := by decide +kernel
theorem d_K_type_4 : decode c_K_type 4 = .ok (.bipush 8, 2) := by decide +kernel
theorem d_K_type_6 : decode c_K_type 6 = .ok (.iushr, 1) := by decide +kernel
theorem d_K_type_7 : decode c_K_type 7 = .ok (.bipush 15, 2) := by decide +kernel
theorem d_K_type_9 : decode c_K_type 9 = .ok (.iand, 1) := by decide +kernel
theorem d_K_type_10 : decode c_K_type 10 = .ok (.ireturn, 1) := by decide +kernel
theorem d_K_isSealed_0 : decode c_K_isSealed 0 = .ok (.aload_n 0, 1) := by decide +kernel
theorem d_K_isSealed_1 : decode c_K_isSealed 1 = .ok (.invokevirtual 32, 3) := by decide +kernel
theorem d_K_isSealed_4 : decode c_K_isSealed 4 = .ok (.ifCond .eq 7, 3) := by decide +kernel
theorem d_K_isSealed_7 : decode c_K_isSealed 7 = .ok (.iconst 1, 1) := by decide +kernel
theorem d_K_isSealed_8 : decode c_K_isSealed 8 = .ok (.goto 4, 3) := by decide +kernel
theorem d_K_isSealed_11 : decode c_K_isSealed 11 = .ok (.iconst 0, 1) := by decide +kernel
theorem d_K_isSealed_12 : decode c_K_isSealed 12 = .ok (.ireturn, 1) := by decide +kernel
theorem d_K_setType_0 : decode c_K_setType 0 = .ok (.aload_n 0, 1) := by decide +kernel
theorem d_K_setType_1 : decode c_K_setType 1 = .ok (.aload_n 0, 1) := by decide +kernel
theorem d_K_setType_2 : decode c_K_setType 2 = .ok (.getfield 15, 3) := by decide +kernel
theorem d_K_setType_5 : decode c_K_setType 5 = .ok (.sipush (-3841), 3) := by decide +kernel
theorem d_K_setType_8 : decode c_K_setType 8 = .ok (.iand, 1) := by decide +kernel
theorem d_K_setType_9 : decode c_K_setType 9 = .ok (.iload_n 1, 1) := by decide +kernel
theorem d_K_setType_10 : decode c_K_setType 10 = .ok (.bipush 8, 2) := by decide +kernel
theorem d_K_setType_12 : decode c_K_setType 12 = .ok (.ishl, 1) := by decide +kernel
theorem d_K_setType_13 : decode c_K_setType 13 = .ok (.ior, 1) := by decide +kernel
theorem d_K_setType_14 : decode c_K_setType 14 = .ok (.putfield 15, 3) := by decide +kernel
theorem d_K_setType_17 : decode c_K_setType 17 = .ok (.return_, 1) := by decide +kernel
theorem d_K_move_0 : decode c_K_move 0 = .ok (.aload_n 0, 1) := by decide +kernel
theorem d_K_move_1 : decode c_K_move 1 = .ok (.invokevirtual 35, 3) := by decide +kernel
theorem d_K_move_4 : decode c_K_move 4 = .ok (.lstore_n 2, 1) := by decide +kernel
theorem d_K_move_5 : decode c_K_move 5 = .ok (.aload_n 0, 1) := by decide +kernel
theorem d_K_move_6 : decode c_K_move 6 = .ok (.invokevirtual 39, 3) := by decide +kernel
theorem d_K_move_9 : decode c_K_move 9 = .ok (.lstore 4, 2) := by decide +kernel
theorem d_K_move_11 : decode c_K_move 11 = .ok (.aload_n 0, 1) := by decide +kernel
theorem d_K_move_12 : decode c_K_move 12 = .ok (.iload_n 1, 1) := by decide +kernel
theorem d_K_move_13 : decode c_K_move 13 = .ok (.putfield 19, 3) := by decide +kernel
theorem d_K_move_16 : decode c_K_move 16 = .ok (.aload_n 0, 1) := by decide +kernel
theorem d_K_move_17 : decode c_K_move 17 = .ok (.invokevirtual 42, 3) := by decide +kernel
theorem d_K_move_20 : decode c_K_move 20 = .ok (.ifCond .ne 22, 3) := by decide +kernel
theorem d_K_move_23 : decode c_K_move 23 = .ok (.aload_n 0, 1) := by decide +kernel
theorem d_K_move_24 : decode c_K_move 24 = .ok (.invokevirtual 35, 3) := by decide +kernel
theorem d_K_move_27 : decode c_K_move 27 = .ok (.lload_n 2, 1) := by decide +kernel
theorem d_K_move_28 : decode c_K_move 28 = .ok (.lcmp, 1) := by decide +kernel
theorem d_K_move_29 : decode c_K_move 29 = .ok (.ifCond .ne 13, 3) := by decide +kernel
theorem d_K_move_32 : decode c_K_move 32 = .ok (.aload_n 0, 1) := by decide +kernel
theorem d_K_move_33 : decode c_K_move 33 = .ok (.invokevirtual 39, 3) := by decide +kernel
theorem d_K_move_36 : decode c_K_move 36 = .ok (.lload 4, 2) := by decide +kernel
theorem d_K_move_38 : decode c_K_move 38 = .ok (.lcmp, 1) := by decide +kernel
theorem d_K_move_39 : decode c_K_move 39 = .ok (.ifCond .eq 8, 3) := by decide +kernel
theorem d_K_move_42 : decode c_K_move 42 = .ok (.aload_n 0, 1) := by decide +kernel
theorem d_K_move_43 : decode c_K_move 43 = .ok (.iconst 0, 1) := by decide +kernel
theorem d_K_move_44 : decode c_K_move 44 = .ok (.putfield 11, 3) := by decide +kernel
theorem d_K_move_47 : decode c_K_move 47 = .ok (.return_, 1) := by decide +kernel
theorem d_K_bound_0 : decode c_K_bound 0 = .ok (.iconst 0, 1) := by decide +kernel
theorem d_K_bound_1 : decode c_K_bound 1 = .ok (.istore 5, 2) := by decide +kernel
theorem d_K_bound_3 : decode c_K_bound 3 = .ok (.iload 5, 2) := by decide +kernel
theorem d_K_bound_5 : decode c_K_bound 5 = .ok (.bipush 31, 2) := by decide +kernel
theorem d_K_bound_7 : decode c_K_bound 7 = .ok (.if_icmp .ge 27, 3) := by decide +kernel
theorem d_K_bound_10 : decode c_K_bound 10 = .ok (.lload_n 3, 1) := by decide +kernel
theorem d_K_bound_11 : decode c_K_bound 11 = .ok (.iload 5, 2) := by decide +kernel
theorem d_K_bound_13 : decode c_K_bound 13 = .ok (.invokestatic 46, 3) := by decide +kernel
theorem d_K_bound_16 : decode c_K_bound 16 = .ok (.lload_n 1, 1) := by decide +kernel
theorem d_K_bound_17 : decode c_K_bound 17 = .ok (.iload 5, 2) := by decide +kernel
theorem d_K_bound_19 : decode c_K_bound 19 = .ok (.lshr, 1) := by decide +kernel
theorem d_K_bound_20 : decode c_K_bound 20 = .ok (.lsub, 1) := by decide +kernel
theorem d_K_bound_21 : decode c_K_bound 21 = .ok (.ldc2_w 50, 3) := by decide +kernel
theorem d_K_bound_24 : decode c_K_bound 24 = .ok (.lcmp, 1) := by decide +kernel
theorem d_K_bound_25 : decode c_K_bound 25 = .ok (.ifCond .le 9, 3) := by decide +kernel
theorem d_K_bound_28 : decode c_K_bound 28 = .ok (.iinc 5 1, 3) := by decide +kernel
theorem d_K_bound_31 : decode c_K_bound 31 = .ok (.goto (-28), 3) := by decide +kernel
theorem d_K_bound_34 : decode c_K_bound 34 = .ok (.lload_n 1, 1) := by decide +kernel
theorem d_K_bound_35 : decode c_K_bound 35 = .ok (.iload 5, 2) := by decide +kernel
theorem d_K_bound_37 : decode c_K_bound 37 = .ok (.lshr, 1) := by decide +kernel
theorem d_K_bound_38 : decode c_K_bound 38 = .ok (.l2i, 1) := by decide +kernel
theorem d_K_bound_39 : decode c_K_bound 39 = .ok (.bipush 127, 2) := by decide +kernel
theorem d_K_bound_41 : decode c_K_bound 41 = .ok (.iand, 1) := by decide +kernel
theorem d_K_bound_42 : decode c_K_bound 42 = .ok (.istore 6, 2) := by decide +kernel
theorem d_K_bound_44 : decode c_K_bound 44 = .ok (.lload_n 3, 1) := by decide +kernel
theorem d_K_bound_45 : decode c_K_bound 45 = .ok (.iload 5, 2) := by decide +kernel
theorem d_K_bound_47 : decode c_K_bound 47 = .ok (.invokestatic 46, 3) := by decide +kernel
theorem d_K_bound_50 : decode c_K_bound 50 = .ok (.l2i, 1) := by decide +kernel
theorem d_K_bound_51 : decode c_K_bound 51 = .ok (.bipush 127, 2) := by decide +kernel
theorem d_K_bound_53 : decode c_K_bound 53 = .ok (.iand, 1) := by decide +kernel
theorem d_K_bound_54 : decode c_K_bound 54 = .ok (.istore 7, 2) := by decide +kernel
theorem d_K_bound_56 : decode c_K_bound 56 = .ok (.aload_n 0, 1) := by decide +kernel
theorem d_K_bound_57 : decode c_K_bound 57 = .ok (.aload_n 0, 1) := by decide +kernel
theorem d_K_bound_58 : decode c_K_bound 58 = .ok (.getfield 15, 3) := by decide +kernel
theorem d_K_bound_61 : decode c_K_bound 61 = .ok (.sipush 4095, 3) := by decide +kernel
theorem d_K_bound_64 : decode c_K_bound 64 = .ok (.iand, 1) := by decide +kernel
theorem d_K_bound_65 : decode c_K_bound 65 = .ok (.iload 5, 2) := by decide +kernel
theorem d_K_bound_67 : decode c_K_bound 67 = .ok (.bipush 12, 2) := by decide +kernel
theorem d_K_bound_69 : decode c_K_bound 69 = .ok (.ishl, 1) := by decide +kernel
theorem d_K_bound_70 : decode c_K_bound 70 = .ok (.ior, 1) := by decide +kernel
theorem d_K_bound_71 : decode c_K_bound 71 = .ok (.iload 6, 2) := by decide +kernel
theorem d_K_bound_73 : decode c_K_bound 73 = .ok (.bipush 17, 2) := by decide +kernel
theorem d_K_bound_75 : decode c_K_bound 75 = .ok (.ishl, 1) := by decide +kernel
theorem d_K_bound_76 : decode c_K_bound 76 = .ok (.ior, 1) := by decide +kernel
theorem d_K_bound_77 : decode c_K_bound 77 = .ok (.iload 7, 2) := by decide +kernel
theorem d_K_bound_79 : decode c_K_bound 79 = .ok (.bipush 24, 2) := by decide +kernel
theorem d_K_bound_81 : decode c_K_bound 81 = .ok (.ishl, 1) := by decide +kernel
theorem d_K_bound_82 : decode c_K_bound 82 = .ok (.ior, 1) := by decide +kernel
theorem d_K_bound_83 : decode c_K_bound 83 = .ok (.putfield 15, 3) := by decide +kernel
theorem d_K_bound_86 : decode c_K_bound 86 = .ok (.return_, 1) := by decide +kernel
theorem d_K_unitsUp_0 : decode c_K_unitsUp 0 = .ok (.lload_n 0, 1) := by decide +kernel
theorem d_K_unitsUp_1 : decode c_K_unitsUp 1 = .ok (.lconst 1, 1) := by decide +kernel
theorem d_K_unitsUp_2 : decode c_K_unitsUp 2 = .ok (.iload_n 2, 1) := by decide +kernel
theorem d_K_unitsUp_3 : decode c_K_unitsUp 3 = .ok (.lshl, 1) := by decide +kernel
theorem d_K_unitsUp_4 : decode c_K_unitsUp 4 = .ok (.ladd, 1) := by decide +kernel
theorem d_K_unitsUp_5 : decode c_K_unitsUp 5 = .ok (.lconst 1, 1) := by decide +kernel
theorem d_K_unitsUp_6 : decode c_K_unitsUp 6 = .ok (.lsub, 1) := by decide +kernel
theorem d_K_unitsUp_7 : decode c_K_unitsUp 7 = .ok (.iload_n 2, 1) := by decide +kernel
theorem d_K_unitsUp_8 : decode c_K_unitsUp 8 = .ok (.lshr, 1) := by decide +kernel
theorem d_K_unitsUp_9 : decode c_K_unitsUp 9 = .ok (.lreturn, 1) := by decide +kernel
theorem d_K_lowerBound_0 : decode c_K_lowerBound 0 = .ok (.aload_n 0, 1) := by decide +kernel
theorem d_K_lowerBound_1 : decode c_K_lowerBound 1 = .ok (.getfield 15, 3) := by decide +kernel
theorem d_K_lowerBound_4 : decode c_K_lowerBound 4 = .ok (.bipush 12, 2) := by decide +kernel
theorem d_K_lowerBound_6 : decode c_K_lowerBound 6 = .ok (.iushr, 1) := by decide +kernel
theorem d_K_lowerBound_7 : decode c_K_lowerBound 7 = .ok (.bipush 31, 2) := by decide +kernel
theorem d_K_lowerBound_9 : decode c_K_lowerBound 9 = .ok (.iand, 1) := by decide +kernel
theorem d_K_lowerBound_10 : decode c_K_lowerBound 10 = .ok (.istore_n 1, 1) := by decide +kernel
theorem d_K_lowerBound_11 : decode c_K_lowerBound 11 = .ok (.aload_n 0, 1) := by decide +kernel
theorem d_K_lowerBound_12 : decode c_K_lowerBound 12 = .ok (.getfield 15, 3) := by decide +kernel
theorem d_K_lowerBound_15 : decode c_K_lowerBound 15 = .ok (.bipush 17, 2) := by decide +kernel
theorem d_K_lowerBound_17 : decode c_K_lowerBound 17 = .ok (.iushr, 1) := by decide +kernel
theorem d_K_lowerBound_18 : decode c_K_lowerBound 18 = .ok (.bipush 127, 2) := by decide +kernel
theorem d_K_lowerBound_20 : decode c_K_lowerBound 20 = .ok (.iand, 1) := by decide +kernel
theorem d_K_lowerBound_21 : decode c_K_lowerBound 21 = .ok (.istore_n 2, 1) := by decide +kernel
theorem d_K_lowerBound_22 : decode c_K_lowerBound 22 = .ok (.aload_n 0, 1) := by decide +kernel
theorem d_K_lowerBound_23 : decode c_K_lowerBound 23 = .ok (.getfield 19, 3) := by decide +kernel
theorem d_K_lowerBound_26 : decode c_K_lowerBound 26 = .ok (.i2l, 1) := by decide +kernel
theorem d_K_lowerBound_27 : decode c_K_lowerBound 27 = .ok (.ldc2_w 52, 3) := by decide +kernel
theorem d_K_lowerBound_30 : decode c_K_lowerBound 30 = .ok (.land, 1) := by decide +kernel
theorem d_K_lowerBound_31 : decode c_K_lowerBound 31 = .ok (.iload_n 1, 1) := by decide +kernel
theorem d_K_lowerBound_32 : decode c_K_lowerBound 32 = .ok (.lshr, 1) := by decide +kernel
theorem d_K_lowerBound_33 : decode c_K_lowerBound 33 = .ok (.lstore_n 3, 1) := by decide +kernel
theorem d_K_lowerBound_34 : decode c_K_lowerBound 34 = .ok (.lload_n 3, 1) := by decide +kernel
theorem d_K_lowerBound_35 : decode c_K_lowerBound 35 = .ok (.lload_n 3, 1) := by decide +kernel
theorem d_K_lowerBound_36 : decode c_K_lowerBound 36 = .ok (.iload_n 2, 1) := by decide +kernel
theorem d_K_lowerBound_37 : decode c_K_lowerBound 37 = .ok (.i2l, 1) := by decide +kernel
theorem d_K_lowerBound_38 : decode c_K_lowerBound 38 = .ok (.lsub, 1) := by decide +kernel
theorem d_K_lowerBound_39 : decode c_K_lowerBound 39 = .ok (.ldc2_w 54, 3) := by decide +kernel
theorem d_K_lowerBound_42 : decode c_K_lowerBound 42 = .ok (.ladd, 1) := by decide +kernel
theorem d_K_lowerBound_43 : decode c_K_lowerBound 43 = .ok (.ldc2_w 56, 3) := by decide +kernel
theorem d_K_lowerBound_46 : decode c_K_lowerBound 46 = .ok (.land, 1) := by decide +kernel
theorem d_K_lowerBound_47 : decode c_K_lowerBound 47 = .ok (.lsub, 1) := by decide +kernel
theorem d_K_lowerBound_48 : decode c_K_lowerBound 48 = .ok (.lstore 5, 2) := by decide +kernel
theorem d_K_lowerBound_50 : decode c_K_lowerBound 50 = .ok (.lload 5, 2) := by decide +kernel
theorem d_K_lowerBound_52 : decode c_K_lowerBound 52 = .ok (.ldc2_w 54, 3) := by decide +kernel
theorem d_K_lowerBound_55 : decode c_K_lowerBound 55 = .ok (.ladd, 1) := by decide +kernel
theorem d_K_lowerBound_56 : decode c_K_lowerBound 56 = .ok (.iload_n 1, 1) := by decide +kernel
theorem d_K_lowerBound_57 : decode c_K_lowerBound 57 = .ok (.lshl, 1) := by decide +kernel
theorem d_K_lowerBound_58 : decode c_K_lowerBound 58 = .ok (.lreturn, 1) := by decide +kernel
theorem d_K_upperBound_0 : decode c_K_upperBound 0 = .ok (.aload_n 0, 1) := by decide +kernel
theorem d_K_upperBound_1 : decode c_K_upperBound 1 = .ok (.getfield 15, 3) := by decide +kernel
theorem d_K_upperBound_4 : decode c_K_upperBound 4 = .ok (.bipush 12, 2) := by decide +kernel
theorem d_K_upperBound_6 : decode c_K_upperBound 6 = .ok (.iushr, 1) := by decide +kernel
theorem d_K_upperBound_7 : decode c_K_upperBound 7 = .ok (.bipush 31, 2) := by decide +kernel
theorem d_K_upperBound_9 : decode c_K_upperBound 9 = .ok (.iand, 1) := by decide +kernel
theorem d_K_upperBound_10 : decode c_K_upperBound 10 = .ok (.istore_n 1, 1) := by decide +kernel
theorem d_K_upperBound_11 : decode c_K_upperBound 11 = .ok (.aload_n 0, 1) := by decide +kernel
theorem d_K_upperBound_12 : decode c_K_upperBound 12 = .ok (.getfield 15, 3) := by decide +kernel
theorem d_K_upperBound_15 : decode c_K_upperBound 15 = .ok (.bipush 17, 2) := by decide +kernel
theorem d_K_upperBound_17 : decode c_K_upperBound 17 = .ok (.iushr, 1) := by decide +kernel
theorem d_K_upperBound_18 : decode c_K_upperBound 18 = .ok (.bipush 127, 2) := by decide +kernel
theorem d_K_upperBound_20 : decode c_K_upperBound 20 = .ok (.iand, 1) := by decide +kernel
theorem d_K_upperBound_21 : decode c_K_upperBound 21 = .ok (.istore_n 2, 1) := by decide +kernel
theorem d_K_upperBound_22 : decode c_K_upperBound 22 = .ok (.aload_n 0, 1) := by decide +kernel
theorem d_K_upperBound_23 : decode c_K_upperBound 23 = .ok (.getfield 15, 3) := by decide +kernel
theorem d_K_upperBound_26 : decode c_K_upperBound 26 = .ok (.bipush 24, 2) := by decide +kernel
theorem d_K_upperBound_28 : decode c_K_upperBound 28 = .ok (.iushr, 1) := by decide +kernel
theorem d_K_upperBound_29 : decode c_K_upperBound 29 = .ok (.bipush 127, 2) := by decide +kernel
theorem d_K_upperBound_31 : decode c_K_upperBound 31 = .ok (.iand, 1) := by decide +kernel
theorem d_K_upperBound_32 : decode c_K_upperBound 32 = .ok (.istore_n 3, 1) := by decide +kernel
theorem d_K_upperBound_33 : decode c_K_upperBound 33 = .ok (.iload_n 3, 1) := by decide +kernel
theorem d_K_upperBound_34 : decode c_K_upperBound 34 = .ok (.iload_n 2, 1) := by decide +kernel
theorem d_K_upperBound_35 : decode c_K_upperBound 35 = .ok (.isub, 1) := by decide +kernel
theorem d_K_upperBound_36 : decode c_K_upperBound 36 = .ok (.bipush 16, 2) := by decide +kernel
theorem d_K_upperBound_38 : decode c_K_upperBound 38 = .ok (.iadd, 1) := by decide +kernel
theorem d_K_upperBound_39 : decode c_K_upperBound 39 = .ok (.bipush 127, 2) := by decide +kernel
theorem d_K_upperBound_41 : decode c_K_upperBound 41 = .ok (.iand, 1) := by decide +kernel
theorem d_K_upperBound_42 : decode c_K_upperBound 42 = .ok (.bipush 16, 2) := by decide +kernel
theorem d_K_upperBound_44 : decode c_K_upperBound 44 = .ok (.isub, 1) := by decide +kernel
theorem d_K_upperBound_45 : decode c_K_upperBound 45 = .ok (.i2l, 1) := by decide +kernel
theorem d_K_upperBound_46 : decode c_K_upperBound 46 = .ok (.lstore 4, 2) := by decide +kernel
theorem d_K_upperBound_48 : decode c_K_upperBound 48 = .ok (.aload_n 0, 1) := by decide +kernel
theorem d_K_upperBound_49 : decode c_K_upperBound 49 = .ok (.invokevirtual 35, 3) := by decide +kernel
theorem d_K_upperBound_52 : decode c_K_upperBound 52 = .ok (.lload 4, 2) := by decide +kernel
theorem d_K_upperBound_54 : decode c_K_upperBound 54 = .ok (.iload_n 1, 1) := by decide +kernel
theorem d_K_upperBound_55 : decode c_K_upperBound 55 = .ok (.lshl, 1) := by decide +kernel
theorem d_K_upperBound_56 : decode c_K_upperBound 56 = .ok (.ladd, 1) := by decide +kernel
theorem d_K_upperBound_57 : decode c_K_upperBound 57 = .ok (.lreturn, 1) := by decide +kernel
end
section
theorem d_X_init_0 : decode c_X_init 0 = .ok (.aload_n 0, 1) := by decide +kernel
theorem d_X_init_1 : decode c_X_init 1 = .ok (.invokespecial 1, 3) := by decide +kernel
theorem d_X_init_4 : decode c_X_init 4 = .ok (.aload_n 0, 1) := by decide +kernel
theorem d_X_init_5 : decode c_X_init 5 = .ok (.sipush 256, 3) := by decide +kernel
theorem d_X_init_8 : decode c_X_init 8 = .ok (.newarray .int, 2) := by decide +kernel
theorem d_X_init_10 : decode c_X_init 10 = .ok (.putfield 9, 3) := by decide +kernel
theorem d_X_init_13 : decode c_X_init 13 = .ok (.aload_n 0, 1) := by decide +kernel
theorem d_X_init_14 : decode c_X_init 14 = .ok (.sipush 128, 3) := by decide +kernel
theorem d_X_init_17 : decode c_X_init 17 = .ok (.newarray .boolean, 2) := by decide +kernel
theorem d_X_init_19 : decode c_X_init 19 = .ok (.putfield 13, 3) := by decide +kernel
theorem d_X_init_22 : decode c_X_init 22 = .ok (.aload_n 0, 1) := by decide +kernel
theorem d_X_init_23 : decode c_X_init 23 = .ok (.bipush 12, 2) := by decide +kernel
theorem d_X_init_25 : decode c_X_init 25 = .ok (.anewarray 17, 3) := by decide +kernel
theorem d_X_init_28 : decode c_X_init 28 = .ok (.putfield 19, 3) := by decide +kernel
theorem d_X_init_31 : decode c_X_init 31 = .ok (.aload_n 0, 1) := by decide +kernel
theorem d_X_init_32 : decode c_X_init 32 = .ok (.new 17, 3) := by decide +kernel
theorem d_X_init_35 : decode c_X_init 35 = .ok (.dup, 1) := by decide +kernel
theorem d_X_init_36 : decode c_X_init 36 = .ok (.invokespecial 23, 3) := by decide +kernel
theorem d_X_init_39 : decode c_X_init 39 = .ok (.putfield 24, 3) := by decide +kernel
theorem d_X_init_42 : decode c_X_init 42 = .ok (.aload_n 0, 1) := by decide +kernel
theorem d_X_init_43 : decode c_X_init 43 = .ok (.iconst 0, 1) := by decide +kernel
theorem d_X_init_44 : decode c_X_init 44 = .ok (.putfield 28, 3) := by decide +kernel
theorem d_X_init_47 : decode c_X_init 47 = .ok (.aload_n 0, 1) := by decide +kernel
theorem d_X_init_48 : decode c_X_init 48 = .ok (.iconst 0, 1) := by decide +kernel
theorem d_X_init_49 : decode c_X_init 49 = .ok (.putfield 32, 3) := by decide +kernel
theorem d_X_init_52 : decode c_X_init 52 = .ok (.aload_n 0, 1) := by decide +kernel
theorem d_X_init_53 : decode c_X_init 53 = .ok (.iconst 0, 1) := by decide +kernel
theorem d_X_init_54 : decode c_X_init 54 = .ok (.putfield 35, 3) := by decide +kernel
theorem d_X_init_57 : decode c_X_init 57 = .ok (.aload_n 0, 1) := by decide +kernel
theorem d_X_init_58 : decode c_X_init 58 = .ok (.iconst 0, 1) := by decide +kernel
theorem d_X_init_59 : decode c_X_init 59 = .ok (.putfield 38, 3) := by decide +kernel
theorem d_X_init_62 : decode c_X_init 62 = .ok (.iconst 0, 1) := by decide +kernel
theorem d_X_init_63 : decode c_X_init 63 = .ok (.istore_n 1, 1) := by decide +kernel
theorem d_X_init_64 : decode c_X_init 64 = .ok (.iload_n 1, 1) := by decide +kernel
theorem d_X_init_65 : decode c_X_init 65 = .ok (.bipush 12, 2) := by decide +kernel
theorem d_X_init_67 : decode c_X_init 67 = .ok (.if_icmp .ge 22, 3) := by decide +kernel
theorem d_X_init_70 : decode c_X_init 70 = .ok (.aload_n 0, 1) := by decide +kernel
theorem d_X_init_71 : decode c_X_init 71 = .ok (.getfield 19, 3) := by decide +kernel
theorem d_X_init_74 : decode c_X_init 74 = .ok (.iload_n 1, 1) := by decide +kernel
theorem d_X_init_75 : decode c_X_init 75 = .ok (.new 17, 3) := by decide +kernel
theorem d_X_init_78 : decode c_X_init 78 = .ok (.dup, 1) := by decide +kernel
theorem d_X_init_79 : decode c_X_init 79 = .ok (.invokespecial 23, 3) := by decide +kernel
theorem d_X_init_82 : decode c_X_init 82 = .ok (.aastore, 1) := by decide +kernel
theorem d_X_init_83 : decode c_X_init 83 = .ok (.iinc 1 1, 3) := by decide +kernel
theorem d_X_init_86 : decode c_X_init 86 = .ok (.goto (-22), 3) := by decide +kernel
theorem d_X_init_89 : decode c_X_init 89 = .ok (.aload_n 0, 1) := by decide +kernel
theorem d_X_init_90 : decode c_X_init 90 = .ok (.aload_n 0, 1) := by decide +kernel
theorem d_X_init_91 : decode c_X_init 91 = .ok (.getfield 19, 3) := by decide +kernel
theorem d_X_init_94 : decode c_X_init 94 = .ok (.bipush 8, 2) := by decide +kernel
theorem d_X_init_96 : decode c_X_init 96 = .ok (.aaload, 1) := by decide +kernel
theorem d_X_init_97 : decode c_X_init 97 = .ok (.putfield 41, 3) := by decide +kernel
theorem d_X_init_100 : decode c_X_init 100 = .ok (.aload_n 0, 1) := by decide +kernel
theorem d_X_init_101 : decode c_X_init 101 = .ok (.getfield 19, 3) := by decide +kernel
theorem d_X_init_104 : decode c_X_init 104 = .ok (.iconst 1, 1) := by decide +kernel
theorem d_X_init_105 : decode c_X_init 105 = .ok (.aaload, 1) := by decide +kernel
theorem d_X_init_106 : decode c_X_init 106 = .ok (.iconst 0, 1) := by decide +kernel
theorem d_X_init_107 : decode c_X_init 107 = .ok (.invokevirtual 44, 3) := by decide +kernel
theorem d_X_init_110 : decode c_X_init 110 = .ok (.aload_n 0, 1) := by decide +kernel
theorem d_X_init_111 : decode c_X_init 111 = .ok (.getfield 41, 3) := by decide +kernel
theorem d_X_init_114 : decode c_X_init 114 = .ok (.iconst 0, 1) := by decide +kernel
theorem d_X_init_115 : decode c_X_init 115 = .ok (.invokevirtual 44, 3) := by decide +kernel
theorem d_X_init_118 : decode c_X_init 118 = .ok (.return_, 1) := by decide +kernel
theorem d_X_poke_0 : decode c_X_poke 0 = .ok (.iload_n 1, 1) := by decide +kernel
theorem d_X_poke_1 : decode c_X_poke 1 = .ok (.invokestatic 48, 3) := by decide +kernel
theorem d_X_poke_4 : decode c_X_poke 4 = .ok (.ifCond .ne 5, 3) := by decide +kernel
theorem d_X_poke_7 : decode c_X_poke 7 = .ok (.iconst 0, 1) := by decide +kernel
theorem d_X_poke_8 : decode c_X_poke 8 = .ok (.ireturn, 1) := by decide +kernel
theorem d_X_poke_9 : decode c_X_poke 9 = .ok (.aload_n 0, 1) := by decide +kernel
theorem d_X_poke_10 : decode c_X_poke 10 = .ok (.iload_n 1, 1) := by decide +kernel
theorem d_X_poke_11 : decode c_X_poke 11 = .ok (.iload_n 2, 1) := by decide +kernel
theorem d_X_poke_12 : decode c_X_poke 12 = .ok (.invokevirtual 52, 3) := by decide +kernel
theorem d_X_poke_15 : decode c_X_poke 15 = .ok (.iconst 1, 1) := by decide +kernel
theorem d_X_poke_16 : decode c_X_poke 16 = .ok (.ireturn, 1) := by decide +kernel
theorem d_X_peek_0 : decode c_X_peek 0 = .ok (.iload_n 1, 1) := by decide +kernel
theorem d_X_peek_1 : decode c_X_peek 1 = .ok (.invokestatic 48, 3) := by decide +kernel
theorem d_X_peek_4 : decode c_X_peek 4 = .ok (.ifCond .eq 12, 3) := by decide +kernel
theorem d_X_peek_7 : decode c_X_peek 7 = .ok (.aload_n 0, 1) := by decide +kernel
theorem d_X_peek_8 : decode c_X_peek 8 = .ok (.getfield 9, 3) := by decide +kernel
theorem d_X_peek_11 : decode c_X_peek 11 = .ok (.iload_n 1, 1) := by decide +kernel
theorem d_X_peek_12 : decode c_X_peek 12 = .ok (.iaload, 1) := by decide +kernel
theorem d_X_peek_13 : decode c_X_peek 13 = .ok (.goto 4, 3) := by decide +kernel
theorem d_X_peek_16 : decode c_X_peek 16 = .ok (.iconst 0, 1) := by decide +kernel
theorem d_X_peek_17 : decode c_X_peek 17 = .ok (.ireturn, 1) := by decide +kernel
theorem d_X_tagged_0 : decode c_X_tagged 0 = .ok (.iload_n 1, 1) := by decide +kernel
theorem d_X_tagged_1 : decode c_X_tagged 1 = .ok (.ifCond .lt 23, 3) := by decide +kernel
theorem d_X_tagged_4 : decode c_X_tagged 4 = .ok (.iload_n 1, 1) := by decide +kernel
theorem d_X_tagged_5 : decode c_X_tagged 5 = .ok (.sipush 128, 3) := by decide +kernel
theorem d_X_tagged_8 : decode c_X_tagged 8 = .ok (.if_icmp .ge 16, 3) := by decide +kernel
theorem d_X_tagged_11 : decode c_X_tagged 11 = .ok (.aload_n 0, 1) := by decide +kernel
theorem d_X_tagged_12 : decode c_X_tagged 12 = .ok (.getfield 13, 3) := by decide +kernel
theorem d_X_tagged_15 : decode c_X_tagged 15 = .ok (.iload_n 1, 1) := by decide +kernel
theorem d_X_tagged_16 : decode c_X_tagged 16 = .ok (.baload, 1) := by decide +kernel
theorem d_X_tagged_17 : decode c_X_tagged 17 = .ok (.ifCond .eq 7, 3) := by decide +kernel
theorem d_X_tagged_20 : decode c_X_tagged 20 = .ok (.iconst 1, 1) := by decide +kernel
theorem d_X_tagged_21 : decode c_X_tagged 21 = .ok (.goto 4, 3) := by decide +kernel
theorem d_X_tagged_24 : decode c_X_tagged 24 = .ok (.iconst 0, 1) := by decide +kernel
theorem d_X_tagged_25 : decode c_X_tagged 25 = .ok (.ireturn, 1) := by decide +kernel
theorem d_X_run_0 : decode c_X_run 0 = .ok (.iload_n 1, 1) := by decide +kernel
theorem d_X_run_1 : decode c_X_run 1 = .ok (.ifCond .lt 9, 3) := by decide +kernel
theorem d_X_run_4 : decode c_X_run 4 = .ok (.iload_n 1, 1) := by decide +kernel
theorem d_X_run_5 : decode c_X_run 5 = .ok (.bipush 100, 2) := by decide +kernel
theorem d_X_run_7 : decode c_X_run 7 = .ok (.if_icmp .le 5, 3) := by decide +kernel
theorem d_X_run_10 : decode c_X_run 10 = .ok (.iconst (-1), 1) := by decide +kernel
theorem d_X_run_11 : decode c_X_run 11 = .ok (.ireturn, 1) := by decide +kernel
theorem d_X_run_12 : decode c_X_run 12 = .ok (.iconst 0, 1) := by decide +kernel
theorem d_X_run_13 : decode c_X_run 13 = .ok (.istore_n 2, 1) := by decide +kernel
theorem d_X_run_14 : decode c_X_run 14 = .ok (.iload_n 2, 1) := by decide +kernel
theorem d_X_run_15 : decode c_X_run 15 = .ok (.iload_n 1, 1) := by decide +kernel
theorem d_X_run_16 : decode c_X_run 16 = .ok (.if_icmp .ge 20, 3) := by decide +kernel
theorem d_X_run_19 : decode c_X_run 19 = .ok (.aload_n 0, 1) := by decide +kernel
theorem d_X_run_20 : decode c_X_run 20 = .ok (.getfield 28, 3) := by decide +kernel
theorem d_X_run_23 : decode c_X_run 23 = .ok (.ifCond .ne 13, 3) := by decide +kernel
theorem d_X_run_26 : decode c_X_run 26 = .ok (.aload_n 0, 1) := by decide +kernel
theorem d_X_run_27 : decode c_X_run 27 = .ok (.invokevirtual 56, 3) := by decide +kernel
theorem d_X_run_30 : decode c_X_run 30 = .ok (.iinc 2 1, 3) := by decide +kernel
theorem d_X_run_33 : decode c_X_run 33 = .ok (.goto (-19), 3) := by decide +kernel
theorem d_X_run_36 : decode c_X_run 36 = .ok (.iload_n 2, 1) := by decide +kernel
theorem d_X_run_37 : decode c_X_run 37 = .ok (.ireturn, 1) := by decide +kernel
theorem d_X_state_0 : decode c_X_state 0 = .ok (.aload_n 0, 1) := by decide +kernel
theorem d_X_state_1 : decode c_X_state 1 = .ok (.getfield 28, 3) := by decide +kernel
theorem d_X_state_4 : decode c_X_state 4 = .ok (.ireturn, 1) := by decide +kernel
theorem d_X_wake_0 : decode c_X_wake 0 = .ok (.aload_n 0, 1) := by decide +kernel
theorem d_X_wake_1 : decode c_X_wake 1 = .ok (.getfield 28, 3) := by decide +kernel
theorem d_X_wake_4 : decode c_X_wake 4 = .ok (.ifCond .eq 10, 3) := by decide +kernel
theorem d_X_wake_7 : decode c_X_wake 7 = .ok (.iload_n 1, 1) := by decide +kernel
theorem d_X_wake_8 : decode c_X_wake 8 = .ok (.invokestatic 48, 3) := by decide +kernel
theorem d_X_wake_11 : decode c_X_wake 11 = .ok (.ifCond .ne 5, 3) := by decide +kernel
theorem d_X_wake_14 : decode c_X_wake 14 = .ok (.iconst 0, 1) := by decide +kernel
theorem d_X_wake_15 : decode c_X_wake 15 = .ok (.ireturn, 1) := by decide +kernel
theorem d_X_wake_16 : decode c_X_wake 16 = .ok (.aload_n 0, 1) := by decide +kernel
theorem d_X_wake_17 : decode c_X_wake 17 = .ok (.iconst 0, 1) := by decide +kernel
theorem d_X_wake_18 : decode c_X_wake 18 = .ok (.putfield 28, 3) := by decide +kernel
theorem d_X_wake_21 : decode c_X_wake 21 = .ok (.aload_n 0, 1) := by decide +kernel
theorem d_X_wake_22 : decode c_X_wake 22 = .ok (.getfield 41, 3) := by decide +kernel
theorem d_X_wake_25 : decode c_X_wake 25 = .ok (.iconst 4, 1) := by decide +kernel
theorem d_X_wake_26 : decode c_X_wake 26 = .ok (.iload_n 1, 1) := by decide +kernel
theorem d_X_wake_27 : decode c_X_wake 27 = .ok (.imul, 1) := by decide +kernel
theorem d_X_wake_28 : decode c_X_wake 28 = .ok (.invokevirtual 44, 3) := by decide +kernel
theorem d_X_wake_31 : decode c_X_wake 31 = .ok (.iconst 1, 1) := by decide +kernel
theorem d_X_wake_32 : decode c_X_wake 32 = .ok (.ireturn, 1) := by decide +kernel
theorem d_X_cause_0 : decode c_X_cause 0 = .ok (.aload_n 0, 1) := by decide +kernel
theorem d_X_cause_1 : decode c_X_cause 1 = .ok (.getfield 32, 3) := by decide +kernel
theorem d_X_cause_4 : decode c_X_cause 4 = .ok (.ireturn, 1) := by decide +kernel
theorem d_X_steps_0 : decode c_X_steps 0 = .ok (.aload_n 0, 1) := by decide +kernel
theorem d_X_steps_1 : decode c_X_steps 1 = .ok (.getfield 35, 3) := by decide +kernel
theorem d_X_steps_4 : decode c_X_steps 4 = .ok (.ireturn, 1) := by decide +kernel
theorem d_X_traps_0 : decode c_X_traps 0 = .ok (.aload_n 0, 1) := by decide +kernel
theorem d_X_traps_1 : decode c_X_traps 1 = .ok (.getfield 38, 3) := by decide +kernel
theorem d_X_traps_4 : decode c_X_traps 4 = .ok (.ireturn, 1) := by decide +kernel
theorem d_X_register_0 : decode c_X_register 0 = .ok (.iload_n 1, 1) := by decide +kernel
theorem d_X_register_1 : decode c_X_register 1 = .ok (.invokestatic 59, 3) := by decide +kernel
theorem d_X_register_4 : decode c_X_register 4 = .ok (.ifCond .ne 5, 3) := by decide +kernel
theorem d_X_register_7 : decode c_X_register 7 = .ok (.iconst (-1), 1) := by decide +kernel
theorem d_X_register_8 : decode c_X_register 8 = .ok (.ireturn, 1) := by decide +kernel
theorem d_X_register_9 : decode c_X_register 9 = .ok (.iload_n 2, 1) := by decide +kernel
theorem d_X_register_10 : decode c_X_register 10 = .ok (.tableswitch 64 0 2 #[26, 36, 46], 26) := by decide +kernel
theorem d_X_register_36 : decode c_X_register 36 = .ok (.aload_n 0, 1) := by decide +kernel
theorem d_X_register_37 : decode c_X_register 37 = .ok (.getfield 19, 3) := by decide +kernel
theorem d_X_register_40 : decode c_X_register 40 = .ok (.iload_n 1, 1) := by decide +kernel
theorem d_X_register_41 : decode c_X_register 41 = .ok (.aaload, 1) := by decide +kernel
theorem d_X_register_42 : decode c_X_register 42 = .ok (.getfield 62, 3) := by decide +kernel
theorem d_X_register_45 : decode c_X_register 45 = .ok (.ireturn, 1) := by decide +kernel
theorem d_X_register_46 : decode c_X_register 46 = .ok (.aload_n 0, 1) := by decide +kernel
theorem d_X_register_47 : decode c_X_register 47 = .ok (.getfield 19, 3) := by decide +kernel
theorem d_X_register_50 : decode c_X_register 50 = .ok (.iload_n 1, 1) := by decide +kernel
theorem d_X_register_51 : decode c_X_register 51 = .ok (.aaload, 1) := by decide +kernel
theorem d_X_register_52 : decode c_X_register 52 = .ok (.getfield 65, 3) := by decide +kernel
theorem d_X_register_55 : decode c_X_register 55 = .ok (.ireturn, 1) := by decide +kernel
theorem d_X_register_56 : decode c_X_register 56 = .ok (.aload_n 0, 1) := by decide +kernel
theorem d_X_register_57 : decode c_X_register 57 = .ok (.getfield 19, 3) := by decide +kernel
theorem d_X_register_60 : decode c_X_register 60 = .ok (.iload_n 1, 1) := by decide +kernel
theorem d_X_register_61 : decode c_X_register 61 = .ok (.aaload, 1) := by decide +kernel
theorem d_X_register_62 : decode c_X_register 62 = .ok (.getfield 68, 3) := by decide +kernel
theorem d_X_register_65 : decode c_X_register 65 = .ok (.ifCond .eq 7, 3) := by decide +kernel
theorem d_X_register_68 : decode c_X_register 68 = .ok (.iconst 1, 1) := by decide +kernel
theorem d_X_register_69 : decode c_X_register 69 = .ok (.goto 4, 3) := by decide +kernel
theorem d_X_register_72 : decode c_X_register 72 = .ok (.iconst 0, 1) := by decide +kernel
theorem d_X_register_73 : decode c_X_register 73 = .ok (.ireturn, 1) := by decide +kernel
theorem d_X_register_74 : decode c_X_register 74 = .ok (.iconst (-1), 1) := by decide +kernel
theorem d_X_register_75 : decode c_X_register 75 = .ok (.ireturn, 1) := by decide +kernel
theorem d_X_base_0 : decode c_X_base 0 = .ok (.iload_n 1, 1) := by decide +kernel
theorem d_X_base_1 : decode c_X_base 1 = .ok (.invokestatic 59, 3) := by decide +kernel
theorem d_X_base_4 : decode c_X_base 4 = .ok (.ifCond .eq 15, 3) := by decide +kernel
theorem d_X_base_7 : decode c_X_base 7 = .ok (.aload_n 0, 1) := by decide +kernel
theorem d_X_base_8 : decode c_X_base 8 = .ok (.getfield 19, 3) := by decide +kernel
theorem d_X_base_11 : decode c_X_base 11 = .ok (.iload_n 1, 1) := by decide +kernel
theorem d_X_base_12 : decode c_X_base 12 = .ok (.aaload, 1) := by decide +kernel
theorem d_X_base_13 : decode c_X_base 13 = .ok (.invokevirtual 72, 3) := by decide +kernel
theorem d_X_base_16 : decode c_X_base 16 = .ok (.goto 4, 3) := by decide +kernel
theorem d_X_base_19 : decode c_X_base 19 = .ok (.lconst 0, 1) := by decide +kernel
theorem d_X_base_20 : decode c_X_base 20 = .ok (.lreturn, 1) := by decide +kernel
theorem d_X_top_0 : decode c_X_top 0 = .ok (.iload_n 1, 1) := by decide +kernel
theorem d_X_top_1 : decode c_X_top 1 = .ok (.invokestatic 59, 3) := by decide +kernel
theorem d_X_top_4 : decode c_X_top 4 = .ok (.ifCond .eq 15, 3) := by decide +kernel
theorem d_X_top_7 : decode c_X_top 7 = .ok (.aload_n 0, 1) := by decide +kernel
theorem d_X_top_8 : decode c_X_top 8 = .ok (.getfield 19, 3) := by decide +kernel
theorem d_X_top_11 : decode c_X_top 11 = .ok (.iload_n 1, 1) := by decide +kernel
theorem d_X_top_12 : decode c_X_top 12 = .ok (.aaload, 1) := by decide +kernel
theorem d_X_top_13 : decode c_X_top 13 = .ok (.invokevirtual 76, 3) := by decide +kernel
theorem d_X_top_16 : decode c_X_top 16 = .ok (.goto 4, 3) := by decide +kernel
theorem d_X_top_19 : decode c_X_top 19 = .ok (.lconst 0, 1) := by decide +kernel
theorem d_X_top_20 : decode c_X_top 20 = .ok (.lreturn, 1) := by decide +kernel
theorem d_X_give_0 : decode c_X_give 0 = .ok (.iload_n 1, 1) := by decide +kernel
theorem d_X_give_1 : decode c_X_give 1 = .ok (.iconst 1, 1) := by decide +kernel
theorem d_X_give_2 : decode c_X_give 2 = .ok (.if_icmp .lt 9, 3) := by decide +kernel
theorem d_X_give_5 : decode c_X_give 5 = .ok (.iload_n 1, 1) := by decide +kernel
theorem d_X_give_6 : decode c_X_give 6 = .ok (.bipush 8, 2) := by decide +kernel
theorem d_X_give_8 : decode c_X_give 8 = .ok (.if_icmp .lt 5, 3) := by decide +kernel
theorem d_X_give_11 : decode c_X_give 11 = .ok (.iconst 0, 1) := by decide +kernel
theorem d_X_give_12 : decode c_X_give 12 = .ok (.ireturn, 1) := by decide +kernel
theorem d_X_give_13 : decode c_X_give 13 = .ok (.aload_n 0, 1) := by decide +kernel
theorem d_X_give_14 : decode c_X_give 14 = .ok (.iload_n 1, 1) := by decide +kernel
theorem d_X_give_15 : decode c_X_give 15 = .ok (.iload_n 2, 1) := by decide +kernel
theorem d_X_give_16 : decode c_X_give 16 = .ok (.invokevirtual 79, 3) := by decide +kernel
theorem d_X_give_19 : decode c_X_give 19 = .ok (.iconst 1, 1) := by decide +kernel
theorem d_X_give_20 : decode c_X_give 20 = .ok (.ireturn, 1) := by decide +kernel
theorem d_X_isWord_0 : decode c_X_isWord 0 = .ok (.iload_n 0, 1) := by decide +kernel
theorem d_X_isWord_1 : decode c_X_isWord 1 = .ok (.ifCond .lt 14, 3) := by decide +kernel
theorem d_X_isWord_4 : decode c_X_isWord 4 = .ok (.iload_n 0, 1) := by decide +kernel
theorem d_X_isWord_5 : decode c_X_isWord 5 = .ok (.sipush 256, 3) := by decide +kernel
theorem d_X_isWord_8 : decode c_X_isWord 8 = .ok (.if_icmp .ge 7, 3) := by decide +kernel
theorem d_X_isWord_11 : decode c_X_isWord 11 = .ok (.iconst 1, 1) := by decide +kernel
theorem d_X_isWord_12 : decode c_X_isWord 12 = .ok (.goto 4, 3) := by decide +kernel
theorem d_X_isWord_15 : decode c_X_isWord 15 = .ok (.iconst 0, 1) := by decide +kernel
theorem d_X_isWord_16 : decode c_X_isWord 16 = .ok (.ireturn, 1) := by decide +kernel
theorem d_X_isRegister_0 : decode c_X_isRegister 0 = .ok (.iload_n 0, 1) := by decide +kernel
theorem d_X_isRegister_1 : decode c_X_isRegister 1 = .ok (.ifCond .lt 13, 3) := by decide +kernel
theorem d_X_isRegister_4 : decode c_X_isRegister 4 = .ok (.iload_n 0, 1) := by decide +kernel
theorem d_X_isRegister_5 : decode c_X_isRegister 5 = .ok (.bipush 12, 2) := by decide +kernel
theorem d_X_isRegister_7 : decode c_X_isRegister 7 = .ok (.if_icmp .ge 7, 3) := by decide +kernel
theorem d_X_isRegister_10 : decode c_X_isRegister 10 = .ok (.iconst 1, 1) := by decide +kernel
theorem d_X_isRegister_11 : decode c_X_isRegister 11 = .ok (.goto 4, 3) := by decide +kernel
theorem d_X_isRegister_14 : decode c_X_isRegister 14 = .ok (.iconst 0, 1) := by decide +kernel
theorem d_X_isRegister_15 : decode c_X_isRegister 15 = .ok (.ireturn, 1) := by decide +kernel
theorem d_X_makeStep_0 : decode c_X_makeStep 0 = .ok (.aload_n 0, 1) := by decide +kernel
theorem d_X_makeStep_1 : decode c_X_makeStep 1 = .ok (.dup, 1) := by decide +kernel
theorem d_X_makeStep_2 : decode c_X_makeStep 2 = .ok (.getfield 35, 3) := by decide +kernel
theorem d_X_makeStep_5 : decode c_X_makeStep 5 = .ok (.iconst 1, 1) := by decide +kernel
theorem d_X_makeStep_6 : decode c_X_makeStep 6 = .ok (.iadd, 1) := by decide +kernel
theorem d_X_makeStep_7 : decode c_X_makeStep 7 = .ok (.putfield 35, 3) := by decide +kernel
theorem d_X_makeStep_10 : decode c_X_makeStep 10 = .ok (.aload_n 0, 1) := by decide +kernel
theorem d_X_makeStep_11 : decode c_X_makeStep 11 = .ok (.bipush 8, 2) := by decide +kernel
theorem d_X_makeStep_13 : decode c_X_makeStep 13 = .ok (.iconst 1, 1) := by decide +kernel
theorem d_X_makeStep_14 : decode c_X_makeStep 14 = .ok (.iconst 4, 1) := by decide +kernel
theorem d_X_makeStep_15 : decode c_X_makeStep 15 = .ok (.aload_n 0, 1) := by decide +kernel
theorem d_X_makeStep_16 : decode c_X_makeStep 16 = .ok (.getfield 41, 3) := by decide +kernel
theorem d_X_makeStep_19 : decode c_X_makeStep 19 = .ok (.getfield 62, 3) := by decide +kernel
theorem d_X_makeStep_22 : decode c_X_makeStep 22 = .ok (.invokevirtual 82, 3) := by decide +kernel
theorem d_X_makeStep_25 : decode c_X_makeStep 25 = .ok (.istore_n 1, 1) := by decide +kernel
theorem d_X_makeStep_26 : decode c_X_makeStep 26 = .ok (.iload_n 1, 1) := by decide +kernel
theorem d_X_makeStep_27 : decode c_X_makeStep 27 = .ok (.ifCond .ne 22, 3) := by decide +kernel
theorem d_X_makeStep_30 : decode c_X_makeStep 30 = .ok (.aload_n 0, 1) := by decide +kernel
theorem d_X_makeStep_31 : decode c_X_makeStep 31 = .ok (.aload_n 0, 1) := by decide +kernel
theorem d_X_makeStep_32 : decode c_X_makeStep 32 = .ok (.getfield 9, 3) := by decide +kernel
theorem d_X_makeStep_35 : decode c_X_makeStep 35 = .ok (.aload_n 0, 1) := by decide +kernel
theorem d_X_makeStep_36 : decode c_X_makeStep 36 = .ok (.getfield 41, 3) := by decide +kernel
theorem d_X_makeStep_39 : decode c_X_makeStep 39 = .ok (.getfield 62, 3) := by decide +kernel
theorem d_X_makeStep_42 : decode c_X_makeStep 42 = .ok (.iconst 2, 1) := by decide +kernel
theorem d_X_makeStep_43 : decode c_X_makeStep 43 = .ok (.iushr, 1) := by decide +kernel
theorem d_X_makeStep_44 : decode c_X_makeStep 44 = .ok (.iaload, 1) := by decide +kernel
theorem d_X_makeStep_45 : decode c_X_makeStep 45 = .ok (.invokevirtual 86, 3) := by decide +kernel
theorem d_X_makeStep_48 : decode c_X_makeStep 48 = .ok (.istore_n 1, 1) := by decide +kernel
theorem d_X_makeStep_49 : decode c_X_makeStep 49 = .ok (.iload_n 1, 1) := by decide +kernel
theorem d_X_makeStep_50 : decode c_X_makeStep 50 = .ok (.ifCond .eq 8, 3) := by decide +kernel
theorem d_X_makeStep_53 : decode c_X_makeStep 53 = .ok (.aload_n 0, 1) := by decide +kernel
theorem d_X_makeStep_54 : decode c_X_makeStep 54 = .ok (.iload_n 1, 1) := by decide +kernel
theorem d_X_makeStep_55 : decode c_X_makeStep 55 = .ok (.invokevirtual 90, 3) := by decide +kernel
theorem d_X_makeStep_58 : decode c_X_makeStep 58 = .ok (.return_, 1) := by decide +kernel
theorem d_X_enterTrap_0 : decode c_X_enterTrap 0 = .ok (.aload_n 0, 1) := by decide +kernel
theorem d_X_enterTrap_1 : decode c_X_enterTrap 1 = .ok (.dup, 1) := by decide +kernel
theorem d_X_enterTrap_2 : decode c_X_enterTrap 2 = .ok (.getfield 38, 3) := by decide +kernel
theorem d_X_enterTrap_5 : decode c_X_enterTrap 5 = .ok (.iconst 1, 1) := by decide +kernel
theorem d_X_enterTrap_6 : decode c_X_enterTrap 6 = .ok (.iadd, 1) := by decide +kernel
theorem d_X_enterTrap_7 : decode c_X_enterTrap 7 = .ok (.putfield 38, 3) := by decide +kernel
theorem d_X_enterTrap_10 : decode c_X_enterTrap 10 = .ok (.aload_n 0, 1) := by decide +kernel
theorem d_X_enterTrap_11 : decode c_X_enterTrap 11 = .ok (.iload_n 1, 1) := by decide +kernel
theorem d_X_enterTrap_12 : decode c_X_enterTrap 12 = .ok (.putfield 32, 3) := by decide +kernel
theorem d_X_enterTrap_15 : decode c_X_enterTrap 15 = .ok (.aload_n 0, 1) := by decide +kernel
theorem d_X_enterTrap_16 : decode c_X_enterTrap 16 = .ok (.getfield 19, 3) := by decide +kernel
theorem d_X_enterTrap_19 : decode c_X_enterTrap 19 = .ok (.bipush 10, 2) := by decide +kernel
theorem d_X_enterTrap_21 : decode c_X_enterTrap 21 = .ok (.aaload, 1) := by decide +kernel
theorem d_X_enterTrap_22 : decode c_X_enterTrap 22 = .ok (.aload_n 0, 1) := by decide +kernel
theorem d_X_enterTrap_23 : decode c_X_enterTrap 23 = .ok (.getfield 41, 3) := by decide +kernel
theorem d_X_enterTrap_26 : decode c_X_enterTrap 26 = .ok (.invokevirtual 93, 3) := by decide +kernel
theorem d_X_enterTrap_29 : decode c_X_enterTrap 29 = .ok (.aload_n 0, 1) := by decide +kernel
theorem d_X_enterTrap_30 : decode c_X_enterTrap 30 = .ok (.getfield 19, 3) := by decide +kernel
theorem d_X_enterTrap_33 : decode c_X_enterTrap 33 = .ok (.bipush 9, 2) := by decide +kernel
theorem d_X_enterTrap_35 : decode c_X_enterTrap 35 = .ok (.aaload, 1) := by decide +kernel
theorem d_X_enterTrap_36 : decode c_X_enterTrap 36 = .ok (.astore_n 2, 1) := by decide +kernel
theorem d_X_enterTrap_37 : decode c_X_enterTrap 37 = .ok (.aload_n 2, 1) := by decide +kernel
theorem d_X_enterTrap_38 : decode c_X_enterTrap 38 = .ok (.getfield 68, 3) := by decide +kernel
theorem d_X_enterTrap_41 : decode c_X_enterTrap 41 = .ok (.ifCond .eq 29, 3) := by decide +kernel
theorem d_X_enterTrap_44 : decode c_X_enterTrap 44 = .ok (.aload_n 2, 1) := by decide +kernel
theorem d_X_enterTrap_45 : decode c_X_enterTrap 45 = .ok (.invokevirtual 97, 3) := by decide +kernel
theorem d_X_enterTrap_48 : decode c_X_enterTrap 48 = .ok (.ifCond .ne 22, 3) := by decide +kernel
theorem d_X_enterTrap_51 : decode c_X_enterTrap 51 = .ok (.aload_n 2, 1) := by decide +kernel
theorem d_X_enterTrap_52 : decode c_X_enterTrap 52 = .ok (.iconst 1, 1) := by decide +kernel
theorem d_X_enterTrap_53 : decode c_X_enterTrap 53 = .ok (.invokevirtual 101, 3) := by decide +kernel
theorem d_X_enterTrap_56 : decode c_X_enterTrap 56 = .ok (.ifCond .eq 14, 3) := by decide +kernel
theorem d_X_enterTrap_59 : decode c_X_enterTrap 59 = .ok (.aload_n 0, 1) := by decide +kernel
end
section
theorem d_X_enterTrap_60 : decode c_X_enterTrap 60 = .ok (.getfield 41, 3) := by decide +kernel
theorem d_X_enterTrap_63 : decode c_X_enterTrap 63 = .ok (.aload_n 2, 1) := by decide +kernel
theorem d_X_enterTrap_64 : decode c_X_enterTrap 64 = .ok (.invokevirtual 93, 3) := by decide +kernel
theorem d_X_enterTrap_67 : decode c_X_enterTrap 67 = .ok (.goto 8, 3) := by decide +kernel
theorem d_X_enterTrap_70 : decode c_X_enterTrap 70 = .ok (.aload_n 0, 1) := by decide +kernel
theorem d_X_enterTrap_71 : decode c_X_enterTrap 71 = .ok (.iconst 2, 1) := by decide +kernel
theorem d_X_enterTrap_72 : decode c_X_enterTrap 72 = .ok (.putfield 28, 3) := by decide +kernel
theorem d_X_enterTrap_75 : decode c_X_enterTrap 75 = .ok (.return_, 1) := by decide +kernel
theorem d_X_trapOf_0 : decode c_X_trapOf 0 = .ok (.iload_n 1, 1) := by decide +kernel
theorem d_X_trapOf_1 : decode c_X_trapOf 1 = .ok (.bipush 16, 2) := by decide +kernel
theorem d_X_trapOf_3 : decode c_X_trapOf 3 = .ok (.iload_n 0, 1) := by decide +kernel
theorem d_X_trapOf_4 : decode c_X_trapOf 4 = .ok (.imul, 1) := by decide +kernel
theorem d_X_trapOf_5 : decode c_X_trapOf 5 = .ok (.iadd, 1) := by decide +kernel
theorem d_X_trapOf_6 : decode c_X_trapOf 6 = .ok (.ireturn, 1) := by decide +kernel
theorem d_X_check_0 : decode c_X_check 0 = .ok (.aload_n 0, 1) := by decide +kernel
theorem d_X_check_1 : decode c_X_check 1 = .ok (.getfield 19, 3) := by decide +kernel
theorem d_X_check_4 : decode c_X_check 4 = .ok (.iload_n 1, 1) := by decide +kernel
theorem d_X_check_5 : decode c_X_check 5 = .ok (.aaload, 1) := by decide +kernel
theorem d_X_check_6 : decode c_X_check 6 = .ok (.astore 5, 2) := by decide +kernel
theorem d_X_check_8 : decode c_X_check 8 = .ok (.iload 4, 2) := by decide +kernel
theorem d_X_check_10 : decode c_X_check 10 = .ok (.i2l, 1) := by decide +kernel
theorem d_X_check_11 : decode c_X_check 11 = .ok (.ldc2_w 104, 3) := by decide +kernel
theorem d_X_check_14 : decode c_X_check 14 = .ok (.land, 1) := by decide +kernel
theorem d_X_check_15 : decode c_X_check 15 = .ok (.lstore 6, 2) := by decide +kernel
theorem d_X_check_17 : decode c_X_check 17 = .ok (.aload 5, 2) := by decide +kernel
theorem d_X_check_19 : decode c_X_check 19 = .ok (.getfield 68, 3) := by decide +kernel
theorem d_X_check_22 : decode c_X_check 22 = .ok (.ifCond .ne 9, 3) := by decide +kernel
theorem d_X_check_25 : decode c_X_check 25 = .ok (.iload_n 1, 1) := by decide +kernel
theorem d_X_check_26 : decode c_X_check 26 = .ok (.iconst 1, 1) := by decide +kernel
theorem d_X_check_27 : decode c_X_check 27 = .ok (.invokestatic 106, 3) := by decide +kernel
theorem d_X_check_30 : decode c_X_check 30 = .ok (.ireturn, 1) := by decide +kernel
theorem d_X_check_31 : decode c_X_check 31 = .ok (.aload 5, 2) := by decide +kernel
theorem d_X_check_33 : decode c_X_check 33 = .ok (.invokevirtual 97, 3) := by decide +kernel
theorem d_X_check_36 : decode c_X_check 36 = .ok (.ifCond .eq 9, 3) := by decide +kernel
theorem d_X_check_39 : decode c_X_check 39 = .ok (.iload_n 1, 1) := by decide +kernel
theorem d_X_check_40 : decode c_X_check 40 = .ok (.iconst 2, 1) := by decide +kernel
theorem d_X_check_41 : decode c_X_check 41 = .ok (.invokestatic 106, 3) := by decide +kernel
theorem d_X_check_44 : decode c_X_check 44 = .ok (.ireturn, 1) := by decide +kernel
theorem d_X_check_45 : decode c_X_check 45 = .ok (.aload 5, 2) := by decide +kernel
theorem d_X_check_47 : decode c_X_check 47 = .ok (.iload_n 2, 1) := by decide +kernel
theorem d_X_check_48 : decode c_X_check 48 = .ok (.invokevirtual 101, 3) := by decide +kernel
theorem d_X_check_51 : decode c_X_check 51 = .ok (.ifCond .ne 9, 3) := by decide +kernel
theorem d_X_check_54 : decode c_X_check 54 = .ok (.iload_n 1, 1) := by decide +kernel
theorem d_X_check_55 : decode c_X_check 55 = .ok (.iconst 3, 1) := by decide +kernel
theorem d_X_check_56 : decode c_X_check 56 = .ok (.invokestatic 106, 3) := by decide +kernel
theorem d_X_check_59 : decode c_X_check 59 = .ok (.ireturn, 1) := by decide +kernel
theorem d_X_check_60 : decode c_X_check 60 = .ok (.iload 4, 2) := by decide +kernel
theorem d_X_check_62 : decode c_X_check 62 = .ok (.iload_n 3, 1) := by decide +kernel
theorem d_X_check_63 : decode c_X_check 63 = .ok (.iconst 1, 1) := by decide +kernel
theorem d_X_check_64 : decode c_X_check 64 = .ok (.isub, 1) := by decide +kernel
theorem d_X_check_65 : decode c_X_check 65 = .ok (.iand, 1) := by decide +kernel
theorem d_X_check_66 : decode c_X_check 66 = .ok (.ifCond .eq 9, 3) := by decide +kernel
theorem d_X_check_69 : decode c_X_check 69 = .ok (.iload_n 1, 1) := by decide +kernel
theorem d_X_check_70 : decode c_X_check 70 = .ok (.iconst 4, 1) := by decide +kernel
theorem d_X_check_71 : decode c_X_check 71 = .ok (.invokestatic 106, 3) := by decide +kernel
theorem d_X_check_74 : decode c_X_check 74 = .ok (.ireturn, 1) := by decide +kernel
theorem d_X_check_75 : decode c_X_check 75 = .ok (.lload 6, 2) := by decide +kernel
theorem d_X_check_77 : decode c_X_check 77 = .ok (.aload 5, 2) := by decide +kernel
theorem d_X_check_79 : decode c_X_check 79 = .ok (.invokevirtual 72, 3) := by decide +kernel
theorem d_X_check_82 : decode c_X_check 82 = .ok (.lcmp, 1) := by decide +kernel
theorem d_X_check_83 : decode c_X_check 83 = .ok (.ifCond .lt 17, 3) := by decide +kernel
theorem d_X_check_86 : decode c_X_check 86 = .ok (.lload 6, 2) := by decide +kernel
theorem d_X_check_88 : decode c_X_check 88 = .ok (.iload_n 3, 1) := by decide +kernel
theorem d_X_check_89 : decode c_X_check 89 = .ok (.i2l, 1) := by decide +kernel
theorem d_X_check_90 : decode c_X_check 90 = .ok (.ladd, 1) := by decide +kernel
theorem d_X_check_91 : decode c_X_check 91 = .ok (.aload 5, 2) := by decide +kernel
theorem d_X_check_93 : decode c_X_check 93 = .ok (.invokevirtual 76, 3) := by decide +kernel
theorem d_X_check_96 : decode c_X_check 96 = .ok (.lcmp, 1) := by decide +kernel
theorem d_X_check_97 : decode c_X_check 97 = .ok (.ifCond .le 9, 3) := by decide +kernel
theorem d_X_check_100 : decode c_X_check 100 = .ok (.iload_n 1, 1) := by decide +kernel
theorem d_X_check_101 : decode c_X_check 101 = .ok (.iconst 5, 1) := by decide +kernel
theorem d_X_check_102 : decode c_X_check 102 = .ok (.invokestatic 106, 3) := by decide +kernel
theorem d_X_check_105 : decode c_X_check 105 = .ok (.ireturn, 1) := by decide +kernel
theorem d_X_check_106 : decode c_X_check 106 = .ok (.lload 6, 2) := by decide +kernel
theorem d_X_check_108 : decode c_X_check 108 = .ok (.iload_n 3, 1) := by decide +kernel
theorem d_X_check_109 : decode c_X_check 109 = .ok (.i2l, 1) := by decide +kernel
theorem d_X_check_110 : decode c_X_check 110 = .ok (.ladd, 1) := by decide +kernel
theorem d_X_check_111 : decode c_X_check 111 = .ok (.ldc2_w 110, 3) := by decide +kernel
theorem d_X_check_114 : decode c_X_check 114 = .ok (.lcmp, 1) := by decide +kernel
theorem d_X_check_115 : decode c_X_check 115 = .ok (.ifCond .le 10, 3) := by decide +kernel
theorem d_X_check_118 : decode c_X_check 118 = .ok (.iload_n 1, 1) := by decide +kernel
theorem d_X_check_119 : decode c_X_check 119 = .ok (.bipush 6, 2) := by decide +kernel
theorem d_X_check_121 : decode c_X_check 121 = .ok (.invokestatic 106, 3) := by decide +kernel
theorem d_X_check_124 : decode c_X_check 124 = .ok (.ireturn, 1) := by decide +kernel
theorem d_X_check_125 : decode c_X_check 125 = .ok (.iconst 0, 1) := by decide +kernel
theorem d_X_check_126 : decode c_X_check 126 = .ok (.ireturn, 1) := by decide +kernel
theorem d_X_execute_0 : decode c_X_execute 0 = .ok (.iload_n 1, 1) := by decide +kernel
theorem d_X_execute_1 : decode c_X_execute 1 = .ok (.bipush 31, 2) := by decide +kernel
theorem d_X_execute_3 : decode c_X_execute 3 = .ok (.iand, 1) := by decide +kernel
theorem d_X_execute_4 : decode c_X_execute 4 = .ok (.istore_n 2, 1) := by decide +kernel
theorem d_X_execute_5 : decode c_X_execute 5 = .ok (.iload_n 1, 1) := by decide +kernel
theorem d_X_execute_6 : decode c_X_execute 6 = .ok (.iconst 5, 1) := by decide +kernel
theorem d_X_execute_7 : decode c_X_execute 7 = .ok (.iushr, 1) := by decide +kernel
theorem d_X_execute_8 : decode c_X_execute 8 = .ok (.bipush 7, 2) := by decide +kernel
theorem d_X_execute_10 : decode c_X_execute 10 = .ok (.iand, 1) := by decide +kernel
theorem d_X_execute_11 : decode c_X_execute 11 = .ok (.istore_n 3, 1) := by decide +kernel
theorem d_X_execute_12 : decode c_X_execute 12 = .ok (.iload_n 1, 1) := by decide +kernel
theorem d_X_execute_13 : decode c_X_execute 13 = .ok (.bipush 8, 2) := by decide +kernel
theorem d_X_execute_15 : decode c_X_execute 15 = .ok (.iushr, 1) := by decide +kernel
theorem d_X_execute_16 : decode c_X_execute 16 = .ok (.bipush 7, 2) := by decide +kernel
theorem d_X_execute_18 : decode c_X_execute 18 = .ok (.iand, 1) := by decide +kernel
theorem d_X_execute_19 : decode c_X_execute 19 = .ok (.istore 4, 2) := by decide +kernel
theorem d_X_execute_21 : decode c_X_execute 21 = .ok (.iload_n 1, 1) := by decide +kernel
theorem d_X_execute_22 : decode c_X_execute 22 = .ok (.bipush 11, 2) := by decide +kernel
theorem d_X_execute_24 : decode c_X_execute 24 = .ok (.iushr, 1) := by decide +kernel
theorem d_X_execute_25 : decode c_X_execute 25 = .ok (.bipush 7, 2) := by decide +kernel
theorem d_X_execute_27 : decode c_X_execute 27 = .ok (.iand, 1) := by decide +kernel
theorem d_X_execute_28 : decode c_X_execute 28 = .ok (.istore 5, 2) := by decide +kernel
theorem d_X_execute_30 : decode c_X_execute 30 = .ok (.iload_n 1, 1) := by decide +kernel
theorem d_X_execute_31 : decode c_X_execute 31 = .ok (.bipush 14, 2) := by decide +kernel
theorem d_X_execute_33 : decode c_X_execute 33 = .ok (.ishr, 1) := by decide +kernel
theorem d_X_execute_34 : decode c_X_execute 34 = .ok (.istore 6, 2) := by decide +kernel
theorem d_X_execute_36 : decode c_X_execute 36 = .ok (.iconst 0, 1) := by decide +kernel
theorem d_X_execute_37 : decode c_X_execute 37 = .ok (.istore 7, 2) := by decide +kernel
theorem d_X_execute_39 : decode c_X_execute 39 = .ok (.iload_n 2, 1) := by decide +kernel
theorem d_X_execute_40 : decode c_X_execute 40 = .ok (.tableswitch 371 0 31 #[144, 371, 371, 371, 371, 371, 371, 371, 371, 371, 371, 151, 165, 180, 194, 209, 243, 277, 289, 371, 371, 371, 371, 297, 311, 325, 371, 371, 371, 345, 359, 366], 144) := by decide +kernel
theorem d_X_execute_184 : decode c_X_execute 184 = .ok (.aload_n 0, 1) := by decide +kernel
theorem d_X_execute_185 : decode c_X_execute 185 = .ok (.iconst 1, 1) := by decide +kernel
theorem d_X_execute_186 : decode c_X_execute 186 = .ok (.putfield 28, 3) := by decide +kernel
theorem d_X_execute_189 : decode c_X_execute 189 = .ok (.iconst 0, 1) := by decide +kernel
theorem d_X_execute_190 : decode c_X_execute 190 = .ok (.ireturn, 1) := by decide +kernel
theorem d_X_execute_191 : decode c_X_execute 191 = .ok (.aload_n 0, 1) := by decide +kernel
theorem d_X_execute_192 : decode c_X_execute 192 = .ok (.iload_n 3, 1) := by decide +kernel
theorem d_X_execute_193 : decode c_X_execute 193 = .ok (.iload 4, 2) := by decide +kernel
theorem d_X_execute_195 : decode c_X_execute 195 = .ok (.iload 6, 2) := by decide +kernel
theorem d_X_execute_197 : decode c_X_execute 197 = .ok (.invokevirtual 112, 3) := by decide +kernel
theorem d_X_execute_200 : decode c_X_execute 200 = .ok (.istore 7, 2) := by decide +kernel
theorem d_X_execute_202 : decode c_X_execute 202 = .ok (.goto 269, 3) := by decide +kernel
theorem d_X_execute_205 : decode c_X_execute 205 = .ok (.aload_n 0, 1) := by decide +kernel
theorem d_X_execute_206 : decode c_X_execute 206 = .ok (.iload 4, 2) := by decide +kernel
theorem d_X_execute_208 : decode c_X_execute 208 = .ok (.iload 5, 2) := by decide +kernel
theorem d_X_execute_210 : decode c_X_execute 210 = .ok (.iload 6, 2) := by decide +kernel
theorem d_X_execute_212 : decode c_X_execute 212 = .ok (.invokevirtual 116, 3) := by decide +kernel
theorem d_X_execute_215 : decode c_X_execute 215 = .ok (.istore 7, 2) := by decide +kernel
theorem d_X_execute_217 : decode c_X_execute 217 = .ok (.goto 254, 3) := by decide +kernel
theorem d_X_execute_220 : decode c_X_execute 220 = .ok (.aload_n 0, 1) := by decide +kernel
theorem d_X_execute_221 : decode c_X_execute 221 = .ok (.iload_n 3, 1) := by decide +kernel
theorem d_X_execute_222 : decode c_X_execute 222 = .ok (.iload 4, 2) := by decide +kernel
theorem d_X_execute_224 : decode c_X_execute 224 = .ok (.iload 6, 2) := by decide +kernel
theorem d_X_execute_226 : decode c_X_execute 226 = .ok (.invokevirtual 119, 3) := by decide +kernel
theorem d_X_execute_229 : decode c_X_execute 229 = .ok (.istore 7, 2) := by decide +kernel
theorem d_X_execute_231 : decode c_X_execute 231 = .ok (.goto 240, 3) := by decide +kernel
theorem d_X_execute_234 : decode c_X_execute 234 = .ok (.aload_n 0, 1) := by decide +kernel
theorem d_X_execute_235 : decode c_X_execute 235 = .ok (.iload 4, 2) := by decide +kernel
theorem d_X_execute_237 : decode c_X_execute 237 = .ok (.iload 5, 2) := by decide +kernel
theorem d_X_execute_239 : decode c_X_execute 239 = .ok (.iload 6, 2) := by decide +kernel
theorem d_X_execute_241 : decode c_X_execute 241 = .ok (.invokevirtual 122, 3) := by decide +kernel
theorem d_X_execute_244 : decode c_X_execute 244 = .ok (.istore 7, 2) := by decide +kernel
theorem d_X_execute_246 : decode c_X_execute 246 = .ok (.goto 225, 3) := by decide +kernel
theorem d_X_execute_249 : decode c_X_execute 249 = .ok (.aload_n 0, 1) := by decide +kernel
theorem d_X_execute_250 : decode c_X_execute 250 = .ok (.aload_n 0, 1) := by decide +kernel
theorem d_X_execute_251 : decode c_X_execute 251 = .ok (.getfield 19, 3) := by decide +kernel
theorem d_X_execute_254 : decode c_X_execute 254 = .ok (.iload 4, 2) := by decide +kernel
theorem d_X_execute_256 : decode c_X_execute 256 = .ok (.aaload, 1) := by decide +kernel
theorem d_X_execute_257 : decode c_X_execute 257 = .ok (.getfield 62, 3) := by decide +kernel
theorem d_X_execute_260 : decode c_X_execute 260 = .ok (.aload_n 0, 1) := by decide +kernel
theorem d_X_execute_261 : decode c_X_execute 261 = .ok (.getfield 19, 3) := by decide +kernel
theorem d_X_execute_264 : decode c_X_execute 264 = .ok (.iload 5, 2) := by decide +kernel
theorem d_X_execute_266 : decode c_X_execute 266 = .ok (.aaload, 1) := by decide +kernel
theorem d_X_execute_267 : decode c_X_execute 267 = .ok (.getfield 62, 3) := by decide +kernel
theorem d_X_execute_270 : decode c_X_execute 270 = .ok (.if_icmp .ne 8, 3) := by decide +kernel
theorem d_X_execute_273 : decode c_X_execute 273 = .ok (.iload 6, 2) := by decide +kernel
theorem d_X_execute_275 : decode c_X_execute 275 = .ok (.goto 4, 3) := by decide +kernel
theorem d_X_execute_278 : decode c_X_execute 278 = .ok (.iconst 1, 1) := by decide +kernel
theorem d_X_execute_279 : decode c_X_execute 279 = .ok (.invokevirtual 125, 3) := by decide +kernel
theorem d_X_execute_282 : decode c_X_execute 282 = .ok (.ireturn, 1) := by decide +kernel
theorem d_X_execute_283 : decode c_X_execute 283 = .ok (.aload_n 0, 1) := by decide +kernel
theorem d_X_execute_284 : decode c_X_execute 284 = .ok (.aload_n 0, 1) := by decide +kernel
theorem d_X_execute_285 : decode c_X_execute 285 = .ok (.getfield 19, 3) := by decide +kernel
theorem d_X_execute_288 : decode c_X_execute 288 = .ok (.iload 4, 2) := by decide +kernel
theorem d_X_execute_290 : decode c_X_execute 290 = .ok (.aaload, 1) := by decide +kernel
theorem d_X_execute_291 : decode c_X_execute 291 = .ok (.getfield 62, 3) := by decide +kernel
theorem d_X_execute_294 : decode c_X_execute 294 = .ok (.aload_n 0, 1) := by decide +kernel
theorem d_X_execute_295 : decode c_X_execute 295 = .ok (.getfield 19, 3) := by decide +kernel
theorem d_X_execute_298 : decode c_X_execute 298 = .ok (.iload 5, 2) := by decide +kernel
theorem d_X_execute_300 : decode c_X_execute 300 = .ok (.aaload, 1) := by decide +kernel
theorem d_X_execute_301 : decode c_X_execute 301 = .ok (.getfield 62, 3) := by decide +kernel
theorem d_X_execute_304 : decode c_X_execute 304 = .ok (.if_icmp .ge 8, 3) := by decide +kernel
theorem d_X_execute_307 : decode c_X_execute 307 = .ok (.iload 6, 2) := by decide +kernel
theorem d_X_execute_309 : decode c_X_execute 309 = .ok (.goto 4, 3) := by decide +kernel
theorem d_X_execute_312 : decode c_X_execute 312 = .ok (.iconst 1, 1) := by decide +kernel
theorem d_X_execute_313 : decode c_X_execute 313 = .ok (.invokevirtual 125, 3) := by decide +kernel
theorem d_X_execute_316 : decode c_X_execute 316 = .ok (.ireturn, 1) := by decide +kernel
theorem d_X_execute_317 : decode c_X_execute 317 = .ok (.aload_n 0, 1) := by decide +kernel
theorem d_X_execute_318 : decode c_X_execute 318 = .ok (.iload_n 3, 1) := by decide +kernel
theorem d_X_execute_319 : decode c_X_execute 319 = .ok (.invokevirtual 128, 3) := by decide +kernel
theorem d_X_execute_322 : decode c_X_execute 322 = .ok (.aload_n 0, 1) := by decide +kernel
theorem d_X_execute_323 : decode c_X_execute 323 = .ok (.iload 6, 2) := by decide +kernel
theorem d_X_execute_325 : decode c_X_execute 325 = .ok (.invokevirtual 125, 3) := by decide +kernel
theorem d_X_execute_328 : decode c_X_execute 328 = .ok (.ireturn, 1) := by decide +kernel
theorem d_X_execute_329 : decode c_X_execute 329 = .ok (.aload_n 0, 1) := by decide +kernel
theorem d_X_execute_330 : decode c_X_execute 330 = .ok (.iload_n 3, 1) := by decide +kernel
theorem d_X_execute_331 : decode c_X_execute 331 = .ok (.iload 4, 2) := by decide +kernel
theorem d_X_execute_333 : decode c_X_execute 333 = .ok (.invokevirtual 131, 3) := by decide +kernel
theorem d_X_execute_336 : decode c_X_execute 336 = .ok (.ireturn, 1) := by decide +kernel
theorem d_X_execute_337 : decode c_X_execute 337 = .ok (.aload_n 0, 1) := by decide +kernel
theorem d_X_execute_338 : decode c_X_execute 338 = .ok (.iload_n 3, 1) := by decide +kernel
theorem d_X_execute_339 : decode c_X_execute 339 = .ok (.iload 4, 2) := by decide +kernel
theorem d_X_execute_341 : decode c_X_execute 341 = .ok (.iload 5, 2) := by decide +kernel
theorem d_X_execute_343 : decode c_X_execute 343 = .ok (.invokevirtual 134, 3) := by decide +kernel
theorem d_X_execute_346 : decode c_X_execute 346 = .ok (.istore 7, 2) := by decide +kernel
theorem d_X_execute_348 : decode c_X_execute 348 = .ok (.goto 123, 3) := by decide +kernel
theorem d_X_execute_351 : decode c_X_execute 351 = .ok (.aload_n 0, 1) := by decide +kernel
theorem d_X_execute_352 : decode c_X_execute 352 = .ok (.iload_n 3, 1) := by decide +kernel
theorem d_X_execute_353 : decode c_X_execute 353 = .ok (.iload 4, 2) := by decide +kernel
theorem d_X_execute_355 : decode c_X_execute 355 = .ok (.iload 5, 2) := by decide +kernel
theorem d_X_execute_357 : decode c_X_execute 357 = .ok (.invokevirtual 137, 3) := by decide +kernel
theorem d_X_execute_360 : decode c_X_execute 360 = .ok (.istore 7, 2) := by decide +kernel
theorem d_X_execute_362 : decode c_X_execute 362 = .ok (.goto 109, 3) := by decide +kernel
theorem d_X_execute_365 : decode c_X_execute 365 = .ok (.aload_n 0, 1) := by decide +kernel
theorem d_X_execute_366 : decode c_X_execute 366 = .ok (.iload_n 3, 1) := by decide +kernel
theorem d_X_execute_367 : decode c_X_execute 367 = .ok (.aload_n 0, 1) := by decide +kernel
theorem d_X_execute_368 : decode c_X_execute 368 = .ok (.getfield 19, 3) := by decide +kernel
theorem d_X_execute_371 : decode c_X_execute 371 = .ok (.iload 4, 2) := by decide +kernel
theorem d_X_execute_373 : decode c_X_execute 373 = .ok (.aaload, 1) := by decide +kernel
theorem d_X_execute_374 : decode c_X_execute 374 = .ok (.iload 6, 2) := by decide +kernel
theorem d_X_execute_376 : decode c_X_execute 376 = .ok (.invokestatic 140, 3) := by decide +kernel
theorem d_X_execute_379 : decode c_X_execute 379 = .ok (.invokevirtual 79, 3) := by decide +kernel
theorem d_X_execute_382 : decode c_X_execute 382 = .ok (.goto 89, 3) := by decide +kernel
theorem d_X_execute_385 : decode c_X_execute 385 = .ok (.aload_n 0, 1) := by decide +kernel
theorem d_X_execute_386 : decode c_X_execute 386 = .ok (.iload_n 3, 1) := by decide +kernel
theorem d_X_execute_387 : decode c_X_execute 387 = .ok (.iload 4, 2) := by decide +kernel
theorem d_X_execute_389 : decode c_X_execute 389 = .ok (.iload 6, 2) := by decide +kernel
theorem d_X_execute_391 : decode c_X_execute 391 = .ok (.invokevirtual 144, 3) := by decide +kernel
theorem d_X_execute_394 : decode c_X_execute 394 = .ok (.istore 7, 2) := by decide +kernel
theorem d_X_execute_396 : decode c_X_execute 396 = .ok (.goto 75, 3) := by decide +kernel
theorem d_X_execute_399 : decode c_X_execute 399 = .ok (.iconst 0, 1) := by decide +kernel
theorem d_X_execute_400 : decode c_X_execute 400 = .ok (.bipush 9, 2) := by decide +kernel
theorem d_X_execute_402 : decode c_X_execute 402 = .ok (.invokestatic 106, 3) := by decide +kernel
theorem d_X_execute_405 : decode c_X_execute 405 = .ok (.ireturn, 1) := by decide +kernel
theorem d_X_execute_406 : decode c_X_execute 406 = .ok (.aload_n 0, 1) := by decide +kernel
theorem d_X_execute_407 : decode c_X_execute 407 = .ok (.invokevirtual 147, 3) := by decide +kernel
theorem d_X_execute_410 : decode c_X_execute 410 = .ok (.ireturn, 1) := by decide +kernel
theorem d_X_execute_411 : decode c_X_execute 411 = .ok (.iload_n 2, 1) := by decide +kernel
theorem d_X_execute_412 : decode c_X_execute 412 = .ok (.bipush 10, 2) := by decide +kernel
theorem d_X_execute_414 : decode c_X_execute 414 = .ok (.if_icmp .gt 37, 3) := by decide +kernel
theorem d_X_execute_417 : decode c_X_execute 417 = .ok (.aload_n 0, 1) := by decide +kernel
theorem d_X_execute_418 : decode c_X_execute 418 = .ok (.iload_n 3, 1) := by decide +kernel
theorem d_X_execute_419 : decode c_X_execute 419 = .ok (.iload_n 2, 1) := by decide +kernel
theorem d_X_execute_420 : decode c_X_execute 420 = .ok (.aload_n 0, 1) := by decide +kernel
theorem d_X_execute_421 : decode c_X_execute 421 = .ok (.getfield 19, 3) := by decide +kernel
theorem d_X_execute_424 : decode c_X_execute 424 = .ok (.iload 4, 2) := by decide +kernel
theorem d_X_execute_426 : decode c_X_execute 426 = .ok (.aaload, 1) := by decide +kernel
theorem d_X_execute_427 : decode c_X_execute 427 = .ok (.getfield 62, 3) := by decide +kernel
theorem d_X_execute_430 : decode c_X_execute 430 = .ok (.aload_n 0, 1) := by decide +kernel
theorem d_X_execute_431 : decode c_X_execute 431 = .ok (.getfield 19, 3) := by decide +kernel
theorem d_X_execute_434 : decode c_X_execute 434 = .ok (.iload 5, 2) := by decide +kernel
theorem d_X_execute_436 : decode c_X_execute 436 = .ok (.aaload, 1) := by decide +kernel
theorem d_X_execute_437 : decode c_X_execute 437 = .ok (.getfield 62, 3) := by decide +kernel
theorem d_X_execute_440 : decode c_X_execute 440 = .ok (.iload 6, 2) := by decide +kernel
theorem d_X_execute_442 : decode c_X_execute 442 = .ok (.invokestatic 151, 3) := by decide +kernel
theorem d_X_execute_445 : decode c_X_execute 445 = .ok (.invokevirtual 79, 3) := by decide +kernel
theorem d_X_execute_448 : decode c_X_execute 448 = .ok (.goto 23, 3) := by decide +kernel
theorem d_X_execute_451 : decode c_X_execute 451 = .ok (.aload_n 0, 1) := by decide +kernel
theorem d_X_execute_452 : decode c_X_execute 452 = .ok (.iload_n 2, 1) := by decide +kernel
theorem d_X_execute_453 : decode c_X_execute 453 = .ok (.iload_n 3, 1) := by decide +kernel
theorem d_X_execute_454 : decode c_X_execute 454 = .ok (.aload_n 0, 1) := by decide +kernel
theorem d_X_execute_455 : decode c_X_execute 455 = .ok (.getfield 19, 3) := by decide +kernel
theorem d_X_execute_458 : decode c_X_execute 458 = .ok (.iload 4, 2) := by decide +kernel
theorem d_X_execute_460 : decode c_X_execute 460 = .ok (.aaload, 1) := by decide +kernel
theorem d_X_execute_461 : decode c_X_execute 461 = .ok (.aload_n 0, 1) := by decide +kernel
theorem d_X_execute_462 : decode c_X_execute 462 = .ok (.getfield 19, 3) := by decide +kernel
theorem d_X_execute_465 : decode c_X_execute 465 = .ok (.iload 5, 2) := by decide +kernel
theorem d_X_execute_467 : decode c_X_execute 467 = .ok (.aaload, 1) := by decide +kernel
theorem d_X_execute_468 : decode c_X_execute 468 = .ok (.invokevirtual 154, 3) := by decide +kernel
theorem d_X_execute_471 : decode c_X_execute 471 = .ok (.iload 7, 2) := by decide +kernel
theorem d_X_execute_473 : decode c_X_execute 473 = .ok (.ifCond .ne 11, 3) := by decide +kernel
theorem d_X_execute_476 : decode c_X_execute 476 = .ok (.aload_n 0, 1) := by decide +kernel
theorem d_X_execute_477 : decode c_X_execute 477 = .ok (.iconst 1, 1) := by decide +kernel
theorem d_X_execute_478 : decode c_X_execute 478 = .ok (.invokevirtual 125, 3) := by decide +kernel
theorem d_X_execute_481 : decode c_X_execute 481 = .ok (.goto 5, 3) := by decide +kernel
theorem d_X_execute_484 : decode c_X_execute 484 = .ok (.iload 7, 2) := by decide +kernel
theorem d_X_execute_486 : decode c_X_execute 486 = .ok (.ireturn, 1) := by decide +kernel
theorem d_X_compute_0 : decode c_X_compute 0 = .ok (.iload_n 0, 1) := by decide +kernel
theorem d_X_compute_1 : decode c_X_compute 1 = .ok (.tableswitch 100 1 9 #[51, 55, 59, 63, 67, 71, 75, 82, 89], 51) := by decide +kernel
theorem d_X_compute_52 : decode c_X_compute 52 = .ok (.iload_n 1, 1) := by decide +kernel
theorem d_X_compute_53 : decode c_X_compute 53 = .ok (.iload_n 3, 1) := by decide +kernel
theorem d_X_compute_54 : decode c_X_compute 54 = .ok (.iadd, 1) := by decide +kernel
theorem d_X_compute_55 : decode c_X_compute 55 = .ok (.ireturn, 1) := by decide +kernel
theorem d_X_compute_56 : decode c_X_compute 56 = .ok (.iload_n 1, 1) := by decide +kernel
theorem d_X_compute_57 : decode c_X_compute 57 = .ok (.iload_n 2, 1) := by decide +kernel
theorem d_X_compute_58 : decode c_X_compute 58 = .ok (.iadd, 1) := by decide +kernel
theorem d_X_compute_59 : decode c_X_compute 59 = .ok (.ireturn, 1) := by decide +kernel
theorem d_X_compute_60 : decode c_X_compute 60 = .ok (.iload_n 1, 1) := by decide +kernel
theorem d_X_compute_61 : decode c_X_compute 61 = .ok (.iload_n 2, 1) := by decide +kernel
theorem d_X_compute_62 : decode c_X_compute 62 = .ok (.isub, 1) := by decide +kernel
theorem d_X_compute_63 : decode c_X_compute 63 = .ok (.ireturn, 1) := by decide +kernel
theorem d_X_compute_64 : decode c_X_compute 64 = .ok (.iload_n 1, 1) := by decide +kernel
theorem d_X_compute_65 : decode c_X_compute 65 = .ok (.iload_n 2, 1) := by decide +kernel
theorem d_X_compute_66 : decode c_X_compute 66 = .ok (.iand, 1) := by decide +kernel
theorem d_X_compute_67 : decode c_X_compute 67 = .ok (.ireturn, 1) := by decide +kernel
theorem d_X_compute_68 : decode c_X_compute 68 = .ok (.iload_n 1, 1) := by decide +kernel
theorem d_X_compute_69 : decode c_X_compute 69 = .ok (.iload_n 2, 1) := by decide +kernel
theorem d_X_compute_70 : decode c_X_compute 70 = .ok (.ior, 1) := by decide +kernel
theorem d_X_compute_71 : decode c_X_compute 71 = .ok (.ireturn, 1) := by decide +kernel
theorem d_X_compute_72 : decode c_X_compute 72 = .ok (.iload_n 1, 1) := by decide +kernel
theorem d_X_compute_73 : decode c_X_compute 73 = .ok (.iload_n 2, 1) := by decide +kernel
theorem d_X_compute_74 : decode c_X_compute 74 = .ok (.ixor, 1) := by decide +kernel
theorem d_X_compute_75 : decode c_X_compute 75 = .ok (.ireturn, 1) := by decide +kernel
theorem d_X_compute_76 : decode c_X_compute 76 = .ok (.iload_n 1, 1) := by decide +kernel
end
section
theorem d_X_compute_77 : decode c_X_compute 77 = .ok (.iload_n 2, 1) := by decide +kernel
theorem d_X_compute_78 : decode c_X_compute 78 = .ok (.bipush 31, 2) := by decide +kernel
theorem d_X_compute_80 : decode c_X_compute 80 = .ok (.iand, 1) := by decide +kernel
theorem d_X_compute_81 : decode c_X_compute 81 = .ok (.ishl, 1) := by decide +kernel
theorem d_X_compute_82 : decode c_X_compute 82 = .ok (.ireturn, 1) := by decide +kernel
theorem d_X_compute_83 : decode c_X_compute 83 = .ok (.iload_n 1, 1) := by decide +kernel
theorem d_X_compute_84 : decode c_X_compute 84 = .ok (.iload_n 2, 1) := by decide +kernel
theorem d_X_compute_85 : decode c_X_compute 85 = .ok (.bipush 31, 2) := by decide +kernel
theorem d_X_compute_87 : decode c_X_compute 87 = .ok (.iand, 1) := by decide +kernel
theorem d_X_compute_88 : decode c_X_compute 88 = .ok (.iushr, 1) := by decide +kernel
theorem d_X_compute_89 : decode c_X_compute 89 = .ok (.ireturn, 1) := by decide +kernel
theorem d_X_compute_90 : decode c_X_compute 90 = .ok (.iload_n 1, 1) := by decide +kernel
theorem d_X_compute_91 : decode c_X_compute 91 = .ok (.iload_n 2, 1) := by decide +kernel
theorem d_X_compute_92 : decode c_X_compute 92 = .ok (.if_icmp .ge 7, 3) := by decide +kernel
theorem d_X_compute_95 : decode c_X_compute 95 = .ok (.iconst 1, 1) := by decide +kernel
theorem d_X_compute_96 : decode c_X_compute 96 = .ok (.goto 4, 3) := by decide +kernel
theorem d_X_compute_99 : decode c_X_compute 99 = .ok (.iconst 0, 1) := by decide +kernel
theorem d_X_compute_100 : decode c_X_compute 100 = .ok (.ireturn, 1) := by decide +kernel
theorem d_X_compute_101 : decode c_X_compute 101 = .ok (.iload_n 3, 1) := by decide +kernel
theorem d_X_compute_102 : decode c_X_compute 102 = .ok (.bipush 14, 2) := by decide +kernel
theorem d_X_compute_104 : decode c_X_compute 104 = .ok (.ishl, 1) := by decide +kernel
theorem d_X_compute_105 : decode c_X_compute 105 = .ok (.ireturn, 1) := by decide +kernel
theorem d_X_derive_0 : decode c_X_derive 0 = .ok (.aload_n 0, 1) := by decide +kernel
theorem d_X_derive_1 : decode c_X_derive 1 = .ok (.getfield 24, 3) := by decide +kernel
theorem d_X_derive_4 : decode c_X_derive 4 = .ok (.aload_n 3, 1) := by decide +kernel
theorem d_X_derive_5 : decode c_X_derive 5 = .ok (.invokevirtual 93, 3) := by decide +kernel
theorem d_X_derive_8 : decode c_X_derive 8 = .ok (.iload_n 1, 1) := by decide +kernel
theorem d_X_derive_9 : decode c_X_derive 9 = .ok (.tableswitch 180 19 28 #[55, 68, 109, 129, 180, 180, 180, 144, 180, 169], 55) := by decide +kernel
theorem d_X_derive_64 : decode c_X_derive 64 = .ok (.aload_n 0, 1) := by decide +kernel
theorem d_X_derive_65 : decode c_X_derive 65 = .ok (.aload_n 3, 1) := by decide +kernel
theorem d_X_derive_66 : decode c_X_derive 66 = .ok (.aload 4, 2) := by decide +kernel
theorem d_X_derive_68 : decode c_X_derive 68 = .ok (.getfield 62, 3) := by decide +kernel
theorem d_X_derive_71 : decode c_X_derive 71 = .ok (.invokevirtual 158, 3) := by decide +kernel
theorem d_X_derive_74 : decode c_X_derive 74 = .ok (.goto 115, 3) := by decide +kernel
theorem d_X_derive_77 : decode c_X_derive 77 = .ok (.aload_n 0, 1) := by decide +kernel
theorem d_X_derive_78 : decode c_X_derive 78 = .ok (.getfield 24, 3) := by decide +kernel
theorem d_X_derive_81 : decode c_X_derive 81 = .ok (.aload 4, 2) := by decide +kernel
theorem d_X_derive_83 : decode c_X_derive 83 = .ok (.getfield 62, 3) := by decide +kernel
theorem d_X_derive_86 : decode c_X_derive 86 = .ok (.invokevirtual 162, 3) := by decide +kernel
theorem d_X_derive_89 : decode c_X_derive 89 = .ok (.aload_n 0, 1) := by decide +kernel
theorem d_X_derive_90 : decode c_X_derive 90 = .ok (.getfield 24, 3) := by decide +kernel
theorem d_X_derive_93 : decode c_X_derive 93 = .ok (.aload_n 3, 1) := by decide +kernel
theorem d_X_derive_94 : decode c_X_derive 94 = .ok (.getfield 68, 3) := by decide +kernel
theorem d_X_derive_97 : decode c_X_derive 97 = .ok (.ifCond .eq 14, 3) := by decide +kernel
theorem d_X_derive_100 : decode c_X_derive 100 = .ok (.aload_n 3, 1) := by decide +kernel
theorem d_X_derive_101 : decode c_X_derive 101 = .ok (.invokevirtual 97, 3) := by decide +kernel
theorem d_X_derive_104 : decode c_X_derive 104 = .ok (.ifCond .ne 7, 3) := by decide +kernel
theorem d_X_derive_107 : decode c_X_derive 107 = .ok (.iconst 1, 1) := by decide +kernel
theorem d_X_derive_108 : decode c_X_derive 108 = .ok (.goto 4, 3) := by decide +kernel
theorem d_X_derive_111 : decode c_X_derive 111 = .ok (.iconst 0, 1) := by decide +kernel
theorem d_X_derive_112 : decode c_X_derive 112 = .ok (.putfield 68, 3) := by decide +kernel
theorem d_X_derive_115 : decode c_X_derive 115 = .ok (.goto 74, 3) := by decide +kernel
theorem d_X_derive_118 : decode c_X_derive 118 = .ok (.aload_n 0, 1) := by decide +kernel
theorem d_X_derive_119 : decode c_X_derive 119 = .ok (.getfield 24, 3) := by decide +kernel
theorem d_X_derive_122 : decode c_X_derive 122 = .ok (.aload_n 3, 1) := by decide +kernel
theorem d_X_derive_123 : decode c_X_derive 123 = .ok (.getfield 62, 3) := by decide +kernel
theorem d_X_derive_126 : decode c_X_derive 126 = .ok (.aload 4, 2) := by decide +kernel
theorem d_X_derive_128 : decode c_X_derive 128 = .ok (.getfield 62, 3) := by decide +kernel
theorem d_X_derive_131 : decode c_X_derive 131 = .ok (.iadd, 1) := by decide +kernel
theorem d_X_derive_132 : decode c_X_derive 132 = .ok (.invokevirtual 165, 3) := by decide +kernel
theorem d_X_derive_135 : decode c_X_derive 135 = .ok (.goto 54, 3) := by decide +kernel
theorem d_X_derive_138 : decode c_X_derive 138 = .ok (.aload_n 0, 1) := by decide +kernel
theorem d_X_derive_139 : decode c_X_derive 139 = .ok (.getfield 24, 3) := by decide +kernel
theorem d_X_derive_142 : decode c_X_derive 142 = .ok (.aload 4, 2) := by decide +kernel
theorem d_X_derive_144 : decode c_X_derive 144 = .ok (.getfield 62, 3) := by decide +kernel
theorem d_X_derive_147 : decode c_X_derive 147 = .ok (.invokevirtual 165, 3) := by decide +kernel
theorem d_X_derive_150 : decode c_X_derive 150 = .ok (.goto 39, 3) := by decide +kernel
theorem d_X_derive_153 : decode c_X_derive 153 = .ok (.aload_n 0, 1) := by decide +kernel
theorem d_X_derive_154 : decode c_X_derive 154 = .ok (.getfield 24, 3) := by decide +kernel
theorem d_X_derive_157 : decode c_X_derive 157 = .ok (.aload 4, 2) := by decide +kernel
theorem d_X_derive_159 : decode c_X_derive 159 = .ok (.invokevirtual 93, 3) := by decide +kernel
theorem d_X_derive_162 : decode c_X_derive 162 = .ok (.aload_n 0, 1) := by decide +kernel
theorem d_X_derive_163 : decode c_X_derive 163 = .ok (.getfield 24, 3) := by decide +kernel
theorem d_X_derive_166 : decode c_X_derive 166 = .ok (.aload_n 3, 1) := by decide +kernel
theorem d_X_derive_167 : decode c_X_derive 167 = .ok (.aload 4, 2) := by decide +kernel
theorem d_X_derive_169 : decode c_X_derive 169 = .ok (.invokestatic 168, 3) := by decide +kernel
theorem d_X_derive_172 : decode c_X_derive 172 = .ok (.putfield 68, 3) := by decide +kernel
theorem d_X_derive_175 : decode c_X_derive 175 = .ok (.goto 14, 3) := by decide +kernel
theorem d_X_derive_178 : decode c_X_derive 178 = .ok (.aload_n 0, 1) := by decide +kernel
theorem d_X_derive_179 : decode c_X_derive 179 = .ok (.getfield 24, 3) := by decide +kernel
theorem d_X_derive_182 : decode c_X_derive 182 = .ok (.iconst 0, 1) := by decide +kernel
theorem d_X_derive_183 : decode c_X_derive 183 = .ok (.putfield 68, 3) := by decide +kernel
theorem d_X_derive_186 : decode c_X_derive 186 = .ok (.goto 3, 3) := by decide +kernel
theorem d_X_derive_189 : decode c_X_derive 189 = .ok (.aload_n 0, 1) := by decide +kernel
theorem d_X_derive_190 : decode c_X_derive 190 = .ok (.iload_n 2, 1) := by decide +kernel
theorem d_X_derive_191 : decode c_X_derive 191 = .ok (.invokevirtual 172, 3) := by decide +kernel
theorem d_X_derive_194 : decode c_X_derive 194 = .ok (.return_, 1) := by decide +kernel
theorem d_X_narrow_0 : decode c_X_narrow 0 = .ok (.aload_n 1, 1) := by decide +kernel
theorem d_X_narrow_1 : decode c_X_narrow 1 = .ok (.getfield 62, 3) := by decide +kernel
theorem d_X_narrow_4 : decode c_X_narrow 4 = .ok (.i2l, 1) := by decide +kernel
theorem d_X_narrow_5 : decode c_X_narrow 5 = .ok (.ldc2_w 104, 3) := by decide +kernel
theorem d_X_narrow_8 : decode c_X_narrow 8 = .ok (.land, 1) := by decide +kernel
theorem d_X_narrow_9 : decode c_X_narrow 9 = .ok (.lstore_n 3, 1) := by decide +kernel
theorem d_X_narrow_10 : decode c_X_narrow 10 = .ok (.aload_n 0, 1) := by decide +kernel
theorem d_X_narrow_11 : decode c_X_narrow 11 = .ok (.getfield 24, 3) := by decide +kernel
theorem d_X_narrow_14 : decode c_X_narrow 14 = .ok (.lload_n 3, 1) := by decide +kernel
theorem d_X_narrow_15 : decode c_X_narrow 15 = .ok (.lload_n 3, 1) := by decide +kernel
theorem d_X_narrow_16 : decode c_X_narrow 16 = .ok (.iload_n 2, 1) := by decide +kernel
theorem d_X_narrow_17 : decode c_X_narrow 17 = .ok (.i2l, 1) := by decide +kernel
theorem d_X_narrow_18 : decode c_X_narrow 18 = .ok (.ldc2_w 104, 3) := by decide +kernel
theorem d_X_narrow_21 : decode c_X_narrow 21 = .ok (.land, 1) := by decide +kernel
theorem d_X_narrow_22 : decode c_X_narrow 22 = .ok (.ladd, 1) := by decide +kernel
theorem d_X_narrow_23 : decode c_X_narrow 23 = .ok (.invokevirtual 175, 3) := by decide +kernel
theorem d_X_narrow_26 : decode c_X_narrow 26 = .ok (.aload_n 0, 1) := by decide +kernel
theorem d_X_narrow_27 : decode c_X_narrow 27 = .ok (.getfield 24, 3) := by decide +kernel
theorem d_X_narrow_30 : decode c_X_narrow 30 = .ok (.aload_n 1, 1) := by decide +kernel
theorem d_X_narrow_31 : decode c_X_narrow 31 = .ok (.getfield 68, 3) := by decide +kernel
theorem d_X_narrow_34 : decode c_X_narrow 34 = .ok (.ifCond .eq 44, 3) := by decide +kernel
theorem d_X_narrow_37 : decode c_X_narrow 37 = .ok (.aload_n 1, 1) := by decide +kernel
theorem d_X_narrow_38 : decode c_X_narrow 38 = .ok (.invokevirtual 97, 3) := by decide +kernel
theorem d_X_narrow_41 : decode c_X_narrow 41 = .ok (.ifCond .ne 37, 3) := by decide +kernel
theorem d_X_narrow_44 : decode c_X_narrow 44 = .ok (.aload_n 0, 1) := by decide +kernel
theorem d_X_narrow_45 : decode c_X_narrow 45 = .ok (.getfield 24, 3) := by decide +kernel
theorem d_X_narrow_48 : decode c_X_narrow 48 = .ok (.invokevirtual 72, 3) := by decide +kernel
theorem d_X_narrow_51 : decode c_X_narrow 51 = .ok (.aload_n 1, 1) := by decide +kernel
theorem d_X_narrow_52 : decode c_X_narrow 52 = .ok (.invokevirtual 72, 3) := by decide +kernel
theorem d_X_narrow_55 : decode c_X_narrow 55 = .ok (.lcmp, 1) := by decide +kernel
theorem d_X_narrow_56 : decode c_X_narrow 56 = .ok (.ifCond .lt 22, 3) := by decide +kernel
theorem d_X_narrow_59 : decode c_X_narrow 59 = .ok (.aload_n 0, 1) := by decide +kernel
theorem d_X_narrow_60 : decode c_X_narrow 60 = .ok (.getfield 24, 3) := by decide +kernel
theorem d_X_narrow_63 : decode c_X_narrow 63 = .ok (.invokevirtual 76, 3) := by decide +kernel
theorem d_X_narrow_66 : decode c_X_narrow 66 = .ok (.aload_n 1, 1) := by decide +kernel
theorem d_X_narrow_67 : decode c_X_narrow 67 = .ok (.invokevirtual 76, 3) := by decide +kernel
theorem d_X_narrow_70 : decode c_X_narrow 70 = .ok (.lcmp, 1) := by decide +kernel
theorem d_X_narrow_71 : decode c_X_narrow 71 = .ok (.ifCond .gt 7, 3) := by decide +kernel
theorem d_X_narrow_74 : decode c_X_narrow 74 = .ok (.iconst 1, 1) := by decide +kernel
theorem d_X_narrow_75 : decode c_X_narrow 75 = .ok (.goto 4, 3) := by decide +kernel
theorem d_X_narrow_78 : decode c_X_narrow 78 = .ok (.iconst 0, 1) := by decide +kernel
theorem d_X_narrow_79 : decode c_X_narrow 79 = .ok (.putfield 68, 3) := by decide +kernel
theorem d_X_narrow_82 : decode c_X_narrow 82 = .ok (.return_, 1) := by decide +kernel
theorem d_X_mayBuild_0 : decode c_X_mayBuild 0 = .ok (.aload_n 0, 1) := by decide +kernel
theorem d_X_mayBuild_1 : decode c_X_mayBuild 1 = .ok (.getfield 68, 3) := by decide +kernel
theorem d_X_mayBuild_4 : decode c_X_mayBuild 4 = .ok (.ifCond .eq 68, 3) := by decide +kernel
theorem d_X_mayBuild_7 : decode c_X_mayBuild 7 = .ok (.aload_n 0, 1) := by decide +kernel
theorem d_X_mayBuild_8 : decode c_X_mayBuild 8 = .ok (.invokevirtual 97, 3) := by decide +kernel
theorem d_X_mayBuild_11 : decode c_X_mayBuild 11 = .ok (.ifCond .ne 61, 3) := by decide +kernel
theorem d_X_mayBuild_14 : decode c_X_mayBuild 14 = .ok (.aload_n 1, 1) := by decide +kernel
theorem d_X_mayBuild_15 : decode c_X_mayBuild 15 = .ok (.invokevirtual 97, 3) := by decide +kernel
theorem d_X_mayBuild_18 : decode c_X_mayBuild 18 = .ok (.ifCond .ne 54, 3) := by decide +kernel
theorem d_X_mayBuild_21 : decode c_X_mayBuild 21 = .ok (.aload_n 1, 1) := by decide +kernel
theorem d_X_mayBuild_22 : decode c_X_mayBuild 22 = .ok (.invokevirtual 72, 3) := by decide +kernel
theorem d_X_mayBuild_25 : decode c_X_mayBuild 25 = .ok (.aload_n 0, 1) := by decide +kernel
theorem d_X_mayBuild_26 : decode c_X_mayBuild 26 = .ok (.invokevirtual 72, 3) := by decide +kernel
theorem d_X_mayBuild_29 : decode c_X_mayBuild 29 = .ok (.lcmp, 1) := by decide +kernel
theorem d_X_mayBuild_30 : decode c_X_mayBuild 30 = .ok (.ifCond .lt 42, 3) := by decide +kernel
theorem d_X_mayBuild_33 : decode c_X_mayBuild 33 = .ok (.aload_n 1, 1) := by decide +kernel
theorem d_X_mayBuild_34 : decode c_X_mayBuild 34 = .ok (.invokevirtual 72, 3) := by decide +kernel
theorem d_X_mayBuild_37 : decode c_X_mayBuild 37 = .ok (.aload_n 1, 1) := by decide +kernel
theorem d_X_mayBuild_38 : decode c_X_mayBuild 38 = .ok (.invokevirtual 76, 3) := by decide +kernel
theorem d_X_mayBuild_41 : decode c_X_mayBuild 41 = .ok (.lcmp, 1) := by decide +kernel
theorem d_X_mayBuild_42 : decode c_X_mayBuild 42 = .ok (.ifCond .gt 30, 3) := by decide +kernel
theorem d_X_mayBuild_45 : decode c_X_mayBuild 45 = .ok (.aload_n 1, 1) := by decide +kernel
theorem d_X_mayBuild_46 : decode c_X_mayBuild 46 = .ok (.invokevirtual 76, 3) := by decide +kernel
theorem d_X_mayBuild_49 : decode c_X_mayBuild 49 = .ok (.aload_n 0, 1) := by decide +kernel
theorem d_X_mayBuild_50 : decode c_X_mayBuild 50 = .ok (.invokevirtual 76, 3) := by decide +kernel
theorem d_X_mayBuild_53 : decode c_X_mayBuild 53 = .ok (.lcmp, 1) := by decide +kernel
theorem d_X_mayBuild_54 : decode c_X_mayBuild 54 = .ok (.ifCond .gt 18, 3) := by decide +kernel
theorem d_X_mayBuild_57 : decode c_X_mayBuild 57 = .ok (.aload_n 0, 1) := by decide +kernel
theorem d_X_mayBuild_58 : decode c_X_mayBuild 58 = .ok (.aload_n 1, 1) := by decide +kernel
theorem d_X_mayBuild_59 : decode c_X_mayBuild 59 = .ok (.invokevirtual 179, 3) := by decide +kernel
theorem d_X_mayBuild_62 : decode c_X_mayBuild 62 = .ok (.invokevirtual 101, 3) := by decide +kernel
theorem d_X_mayBuild_65 : decode c_X_mayBuild 65 = .ok (.ifCond .eq 7, 3) := by decide +kernel
theorem d_X_mayBuild_68 : decode c_X_mayBuild 68 = .ok (.iconst 1, 1) := by decide +kernel
theorem d_X_mayBuild_69 : decode c_X_mayBuild 69 = .ok (.goto 4, 3) := by decide +kernel
theorem d_X_mayBuild_72 : decode c_X_mayBuild 72 = .ok (.iconst 0, 1) := by decide +kernel
theorem d_X_mayBuild_73 : decode c_X_mayBuild 73 = .ok (.ireturn, 1) := by decide +kernel
theorem d_X_tell_0 : decode c_X_tell 0 = .ok (.iload_n 1, 1) := by decide +kernel
theorem d_X_tell_1 : decode c_X_tell 1 = .ok (.tableswitch 93 0 6 #[43, 49, 60, 65, 70, 83, 88], 43) := by decide +kernel
theorem d_X_tell_44 : decode c_X_tell 44 = .ok (.aload_n 0, 1) := by decide +kernel
theorem d_X_tell_45 : decode c_X_tell 45 = .ok (.invokevirtual 72, 3) := by decide +kernel
theorem d_X_tell_48 : decode c_X_tell 48 = .ok (.l2i, 1) := by decide +kernel
theorem d_X_tell_49 : decode c_X_tell 49 = .ok (.ireturn, 1) := by decide +kernel
theorem d_X_tell_50 : decode c_X_tell 50 = .ok (.aload_n 0, 1) := by decide +kernel
theorem d_X_tell_51 : decode c_X_tell 51 = .ok (.invokevirtual 76, 3) := by decide +kernel
theorem d_X_tell_54 : decode c_X_tell 54 = .ok (.aload_n 0, 1) := by decide +kernel
theorem d_X_tell_55 : decode c_X_tell 55 = .ok (.invokevirtual 72, 3) := by decide +kernel
theorem d_X_tell_58 : decode c_X_tell 58 = .ok (.lsub, 1) := by decide +kernel
theorem d_X_tell_59 : decode c_X_tell 59 = .ok (.l2i, 1) := by decide +kernel
theorem d_X_tell_60 : decode c_X_tell 60 = .ok (.ireturn, 1) := by decide +kernel
theorem d_X_tell_61 : decode c_X_tell 61 = .ok (.aload_n 0, 1) := by decide +kernel
theorem d_X_tell_62 : decode c_X_tell 62 = .ok (.invokevirtual 179, 3) := by decide +kernel
theorem d_X_tell_65 : decode c_X_tell 65 = .ok (.ireturn, 1) := by decide +kernel
theorem d_X_tell_66 : decode c_X_tell 66 = .ok (.aload_n 0, 1) := by decide +kernel
theorem d_X_tell_67 : decode c_X_tell 67 = .ok (.invokevirtual 182, 3) := by decide +kernel
theorem d_X_tell_70 : decode c_X_tell 70 = .ok (.ireturn, 1) := by decide +kernel
theorem d_X_tell_71 : decode c_X_tell 71 = .ok (.aload_n 0, 1) := by decide +kernel
theorem d_X_tell_72 : decode c_X_tell 72 = .ok (.getfield 68, 3) := by decide +kernel
theorem d_X_tell_75 : decode c_X_tell 75 = .ok (.ifCond .eq 7, 3) := by decide +kernel
theorem d_X_tell_78 : decode c_X_tell 78 = .ok (.iconst 1, 1) := by decide +kernel
theorem d_X_tell_79 : decode c_X_tell 79 = .ok (.goto 4, 3) := by decide +kernel
theorem d_X_tell_82 : decode c_X_tell 82 = .ok (.iconst 0, 1) := by decide +kernel
theorem d_X_tell_83 : decode c_X_tell 83 = .ok (.ireturn, 1) := by decide +kernel
theorem d_X_tell_84 : decode c_X_tell 84 = .ok (.aload_n 0, 1) := by decide +kernel
theorem d_X_tell_85 : decode c_X_tell 85 = .ok (.getfield 62, 3) := by decide +kernel
theorem d_X_tell_88 : decode c_X_tell 88 = .ok (.ireturn, 1) := by decide +kernel
theorem d_X_tell_89 : decode c_X_tell 89 = .ok (.aload_n 0, 1) := by decide +kernel
theorem d_X_tell_90 : decode c_X_tell 90 = .ok (.getfield 65, 3) := by decide +kernel
theorem d_X_tell_93 : decode c_X_tell 93 = .ok (.ireturn, 1) := by decide +kernel
theorem d_X_tell_94 : decode c_X_tell 94 = .ok (.iconst 0, 1) := by decide +kernel
theorem d_X_tell_95 : decode c_X_tell 95 = .ok (.ireturn, 1) := by decide +kernel
theorem d_X_load_0 : decode c_X_load 0 = .ok (.aload_n 0, 1) := by decide +kernel
theorem d_X_load_1 : decode c_X_load 1 = .ok (.getfield 19, 3) := by decide +kernel
theorem d_X_load_4 : decode c_X_load 4 = .ok (.iload_n 2, 1) := by decide +kernel
theorem d_X_load_5 : decode c_X_load 5 = .ok (.aaload, 1) := by decide +kernel
theorem d_X_load_6 : decode c_X_load 6 = .ok (.getfield 62, 3) := by decide +kernel
theorem d_X_load_9 : decode c_X_load 9 = .ok (.iload_n 3, 1) := by decide +kernel
theorem d_X_load_10 : decode c_X_load 10 = .ok (.iadd, 1) := by decide +kernel
theorem d_X_load_11 : decode c_X_load 11 = .ok (.istore 4, 2) := by decide +kernel
theorem d_X_load_13 : decode c_X_load 13 = .ok (.aload_n 0, 1) := by decide +kernel
theorem d_X_load_14 : decode c_X_load 14 = .ok (.iload_n 2, 1) := by decide +kernel
theorem d_X_load_15 : decode c_X_load 15 = .ok (.iconst 2, 1) := by decide +kernel
theorem d_X_load_16 : decode c_X_load 16 = .ok (.iconst 4, 1) := by decide +kernel
theorem d_X_load_17 : decode c_X_load 17 = .ok (.iload 4, 2) := by decide +kernel
theorem d_X_load_19 : decode c_X_load 19 = .ok (.invokevirtual 82, 3) := by decide +kernel
theorem d_X_load_22 : decode c_X_load 22 = .ok (.istore 5, 2) := by decide +kernel
theorem d_X_load_24 : decode c_X_load 24 = .ok (.iload 5, 2) := by decide +kernel
theorem d_X_load_26 : decode c_X_load 26 = .ok (.ifCond .ne 17, 3) := by decide +kernel
theorem d_X_load_29 : decode c_X_load 29 = .ok (.aload_n 0, 1) := by decide +kernel
theorem d_X_load_30 : decode c_X_load 30 = .ok (.iload_n 1, 1) := by decide +kernel
theorem d_X_load_31 : decode c_X_load 31 = .ok (.aload_n 0, 1) := by decide +kernel
theorem d_X_load_32 : decode c_X_load 32 = .ok (.getfield 9, 3) := by decide +kernel
theorem d_X_load_35 : decode c_X_load 35 = .ok (.iload 4, 2) := by decide +kernel
theorem d_X_load_37 : decode c_X_load 37 = .ok (.iconst 2, 1) := by decide +kernel
theorem d_X_load_38 : decode c_X_load 38 = .ok (.iushr, 1) := by decide +kernel
theorem d_X_load_39 : decode c_X_load 39 = .ok (.iaload, 1) := by decide +kernel
theorem d_X_load_40 : decode c_X_load 40 = .ok (.invokevirtual 79, 3) := by decide +kernel
theorem d_X_load_43 : decode c_X_load 43 = .ok (.iload 5, 2) := by decide +kernel
theorem d_X_load_45 : decode c_X_load 45 = .ok (.ireturn, 1) := by decide +kernel
theorem d_X_store_0 : decode c_X_store 0 = .ok (.aload_n 0, 1) := by decide +kernel
theorem d_X_store_1 : decode c_X_store 1 = .ok (.getfield 19, 3) := by decide +kernel
theorem d_X_store_4 : decode c_X_store 4 = .ok (.iload_n 1, 1) := by decide +kernel
theorem d_X_store_5 : decode c_X_store 5 = .ok (.aaload, 1) := by decide +kernel
theorem d_X_store_6 : decode c_X_store 6 = .ok (.getfield 62, 3) := by decide +kernel
theorem d_X_store_9 : decode c_X_store 9 = .ok (.iload_n 3, 1) := by decide +kernel
theorem d_X_store_10 : decode c_X_store 10 = .ok (.iadd, 1) := by decide +kernel
theorem d_X_store_11 : decode c_X_store 11 = .ok (.istore 4, 2) := by decide +kernel
theorem d_X_store_13 : decode c_X_store 13 = .ok (.aload_n 0, 1) := by decide +kernel
theorem d_X_store_14 : decode c_X_store 14 = .ok (.iload_n 1, 1) := by decide +kernel
theorem d_X_store_15 : decode c_X_store 15 = .ok (.iconst 4, 1) := by decide +kernel
theorem d_X_store_16 : decode c_X_store 16 = .ok (.iconst 4, 1) := by decide +kernel
theorem d_X_store_17 : decode c_X_store 17 = .ok (.iload 4, 2) := by decide +kernel
theorem d_X_store_19 : decode c_X_store 19 = .ok (.invokevirtual 82, 3) := by decide +kernel
theorem d_X_store_22 : decode c_X_store 22 = .ok (.istore 5, 2) := by decide +kernel
theorem d_X_store_24 : decode c_X_store 24 = .ok (.iload 5, 2) := by decide +kernel
theorem d_X_store_26 : decode c_X_store 26 = .ok (.ifCond .ne 20, 3) := by decide +kernel
theorem d_X_store_29 : decode c_X_store 29 = .ok (.aload_n 0, 1) := by decide +kernel
theorem d_X_store_30 : decode c_X_store 30 = .ok (.iload 4, 2) := by decide +kernel
theorem d_X_store_32 : decode c_X_store 32 = .ok (.iconst 2, 1) := by decide +kernel
theorem d_X_store_33 : decode c_X_store 33 = .ok (.iushr, 1) := by decide +kernel
theorem d_X_store_34 : decode c_X_store 34 = .ok (.aload_n 0, 1) := by decide +kernel
theorem d_X_store_35 : decode c_X_store 35 = .ok (.getfield 19, 3) := by decide +kernel
theorem d_X_store_38 : decode c_X_store 38 = .ok (.iload_n 2, 1) := by decide +kernel
theorem d_X_store_39 : decode c_X_store 39 = .ok (.aaload, 1) := by decide +kernel
theorem d_X_store_40 : decode c_X_store 40 = .ok (.getfield 62, 3) := by decide +kernel
theorem d_X_store_43 : decode c_X_store 43 = .ok (.invokevirtual 52, 3) := by decide +kernel
theorem d_X_store_46 : decode c_X_store 46 = .ok (.iload 5, 2) := by decide +kernel
theorem d_X_store_48 : decode c_X_store 48 = .ok (.ireturn, 1) := by decide +kernel
theorem d_X_loadCapability_0 : decode c_X_loadCapability 0 = .ok (.aload_n 0, 1) := by decide +kernel
theorem d_X_loadCapability_1 : decode c_X_loadCapability 1 = .ok (.getfield 19, 3) := by decide +kernel
theorem d_X_loadCapability_4 : decode c_X_loadCapability 4 = .ok (.iload_n 2, 1) := by decide +kernel
theorem d_X_loadCapability_5 : decode c_X_loadCapability 5 = .ok (.aaload, 1) := by decide +kernel
theorem d_X_loadCapability_6 : decode c_X_loadCapability 6 = .ok (.getfield 62, 3) := by decide +kernel
theorem d_X_loadCapability_9 : decode c_X_loadCapability 9 = .ok (.iload_n 3, 1) := by decide +kernel
theorem d_X_loadCapability_10 : decode c_X_loadCapability 10 = .ok (.iadd, 1) := by decide +kernel
theorem d_X_loadCapability_11 : decode c_X_loadCapability 11 = .ok (.istore 4, 2) := by decide +kernel
theorem d_X_loadCapability_13 : decode c_X_loadCapability 13 = .ok (.aload_n 0, 1) := by decide +kernel
theorem d_X_loadCapability_14 : decode c_X_loadCapability 14 = .ok (.iload_n 2, 1) := by decide +kernel
theorem d_X_loadCapability_15 : decode c_X_loadCapability 15 = .ok (.iconst 2, 1) := by decide +kernel
theorem d_X_loadCapability_16 : decode c_X_loadCapability 16 = .ok (.bipush 8, 2) := by decide +kernel
theorem d_X_loadCapability_18 : decode c_X_loadCapability 18 = .ok (.iload 4, 2) := by decide +kernel
theorem d_X_loadCapability_20 : decode c_X_loadCapability 20 = .ok (.invokevirtual 82, 3) := by decide +kernel
theorem d_X_loadCapability_23 : decode c_X_loadCapability 23 = .ok (.istore 5, 2) := by decide +kernel
theorem d_X_loadCapability_25 : decode c_X_loadCapability 25 = .ok (.iload 5, 2) := by decide +kernel
theorem d_X_loadCapability_27 : decode c_X_loadCapability 27 = .ok (.ifCond .ne 84, 3) := by decide +kernel
theorem d_X_loadCapability_30 : decode c_X_loadCapability 30 = .ok (.iload 4, 2) := by decide +kernel
theorem d_X_loadCapability_32 : decode c_X_loadCapability 32 = .ok (.iconst 3, 1) := by decide +kernel
theorem d_X_loadCapability_33 : decode c_X_loadCapability 33 = .ok (.iushr, 1) := by decide +kernel
theorem d_X_loadCapability_34 : decode c_X_loadCapability 34 = .ok (.istore 6, 2) := by decide +kernel
theorem d_X_loadCapability_36 : decode c_X_loadCapability 36 = .ok (.aload_n 0, 1) := by decide +kernel
theorem d_X_loadCapability_37 : decode c_X_loadCapability 37 = .ok (.getfield 24, 3) := by decide +kernel
theorem d_X_loadCapability_40 : decode c_X_loadCapability 40 = .ok (.aload_n 0, 1) := by decide +kernel
theorem d_X_loadCapability_41 : decode c_X_loadCapability 41 = .ok (.getfield 9, 3) := by decide +kernel
theorem d_X_loadCapability_44 : decode c_X_loadCapability 44 = .ok (.iconst 2, 1) := by decide +kernel
theorem d_X_loadCapability_45 : decode c_X_loadCapability 45 = .ok (.iload 6, 2) := by decide +kernel
theorem d_X_loadCapability_47 : decode c_X_loadCapability 47 = .ok (.imul, 1) := by decide +kernel
theorem d_X_loadCapability_48 : decode c_X_loadCapability 48 = .ok (.iaload, 1) := by decide +kernel
theorem d_X_loadCapability_49 : decode c_X_loadCapability 49 = .ok (.putfield 62, 3) := by decide +kernel
theorem d_X_loadCapability_52 : decode c_X_loadCapability 52 = .ok (.aload_n 0, 1) := by decide +kernel
theorem d_X_loadCapability_53 : decode c_X_loadCapability 53 = .ok (.getfield 24, 3) := by decide +kernel
theorem d_X_loadCapability_56 : decode c_X_loadCapability 56 = .ok (.aload_n 0, 1) := by decide +kernel
theorem d_X_loadCapability_57 : decode c_X_loadCapability 57 = .ok (.getfield 9, 3) := by decide +kernel
theorem d_X_loadCapability_60 : decode c_X_loadCapability 60 = .ok (.iconst 2, 1) := by decide +kernel
theorem d_X_loadCapability_61 : decode c_X_loadCapability 61 = .ok (.iload 6, 2) := by decide +kernel
theorem d_X_loadCapability_63 : decode c_X_loadCapability 63 = .ok (.imul, 1) := by decide +kernel
theorem d_X_loadCapability_64 : decode c_X_loadCapability 64 = .ok (.iconst 1, 1) := by decide +kernel
theorem d_X_loadCapability_65 : decode c_X_loadCapability 65 = .ok (.iadd, 1) := by decide +kernel
theorem d_X_loadCapability_66 : decode c_X_loadCapability 66 = .ok (.iaload, 1) := by decide +kernel
theorem d_X_loadCapability_67 : decode c_X_loadCapability 67 = .ok (.putfield 65, 3) := by decide +kernel
theorem d_X_loadCapability_70 : decode c_X_loadCapability 70 = .ok (.aload_n 0, 1) := by decide +kernel
theorem d_X_loadCapability_71 : decode c_X_loadCapability 71 = .ok (.getfield 24, 3) := by decide +kernel
end
section
theorem d_X_loadCapability_74 : decode c_X_loadCapability 74 = .ok (.aload_n 0, 1) := by decide +kernel
theorem d_X_loadCapability_75 : decode c_X_loadCapability 75 = .ok (.getfield 13, 3) := by decide +kernel
theorem d_X_loadCapability_78 : decode c_X_loadCapability 78 = .ok (.iload 6, 2) := by decide +kernel
theorem d_X_loadCapability_80 : decode c_X_loadCapability 80 = .ok (.baload, 1) := by decide +kernel
theorem d_X_loadCapability_81 : decode c_X_loadCapability 81 = .ok (.ifCond .eq 21, 3) := by decide +kernel
theorem d_X_loadCapability_84 : decode c_X_loadCapability 84 = .ok (.aload_n 0, 1) := by decide +kernel
theorem d_X_loadCapability_85 : decode c_X_loadCapability 85 = .ok (.getfield 19, 3) := by decide +kernel
theorem d_X_loadCapability_88 : decode c_X_loadCapability 88 = .ok (.iload_n 2, 1) := by decide +kernel
theorem d_X_loadCapability_89 : decode c_X_loadCapability 89 = .ok (.aaload, 1) := by decide +kernel
theorem d_X_loadCapability_90 : decode c_X_loadCapability 90 = .ok (.bipush 8, 2) := by decide +kernel
theorem d_X_loadCapability_92 : decode c_X_loadCapability 92 = .ok (.invokevirtual 101, 3) := by decide +kernel
theorem d_X_loadCapability_95 : decode c_X_loadCapability 95 = .ok (.ifCond .eq 7, 3) := by decide +kernel
theorem d_X_loadCapability_98 : decode c_X_loadCapability 98 = .ok (.iconst 1, 1) := by decide +kernel
theorem d_X_loadCapability_99 : decode c_X_loadCapability 99 = .ok (.goto 4, 3) := by decide +kernel
theorem d_X_loadCapability_102 : decode c_X_loadCapability 102 = .ok (.iconst 0, 1) := by decide +kernel
theorem d_X_loadCapability_103 : decode c_X_loadCapability 103 = .ok (.putfield 68, 3) := by decide +kernel
theorem d_X_loadCapability_106 : decode c_X_loadCapability 106 = .ok (.aload_n 0, 1) := by decide +kernel
theorem d_X_loadCapability_107 : decode c_X_loadCapability 107 = .ok (.iload_n 1, 1) := by decide +kernel
theorem d_X_loadCapability_108 : decode c_X_loadCapability 108 = .ok (.invokevirtual 172, 3) := by decide +kernel
theorem d_X_loadCapability_111 : decode c_X_loadCapability 111 = .ok (.iload 5, 2) := by decide +kernel
theorem d_X_loadCapability_113 : decode c_X_loadCapability 113 = .ok (.ireturn, 1) := by decide +kernel
theorem d_X_storeCapability_0 : decode c_X_storeCapability 0 = .ok (.aload_n 0, 1) := by decide +kernel
theorem d_X_storeCapability_1 : decode c_X_storeCapability 1 = .ok (.getfield 19, 3) := by decide +kernel
theorem d_X_storeCapability_4 : decode c_X_storeCapability 4 = .ok (.iload_n 2, 1) := by decide +kernel
theorem d_X_storeCapability_5 : decode c_X_storeCapability 5 = .ok (.aaload, 1) := by decide +kernel
theorem d_X_storeCapability_6 : decode c_X_storeCapability 6 = .ok (.astore 4, 2) := by decide +kernel
theorem d_X_storeCapability_8 : decode c_X_storeCapability 8 = .ok (.aload_n 0, 1) := by decide +kernel
theorem d_X_storeCapability_9 : decode c_X_storeCapability 9 = .ok (.getfield 19, 3) := by decide +kernel
theorem d_X_storeCapability_12 : decode c_X_storeCapability 12 = .ok (.iload_n 1, 1) := by decide +kernel
theorem d_X_storeCapability_13 : decode c_X_storeCapability 13 = .ok (.aaload, 1) := by decide +kernel
theorem d_X_storeCapability_14 : decode c_X_storeCapability 14 = .ok (.getfield 62, 3) := by decide +kernel
theorem d_X_storeCapability_17 : decode c_X_storeCapability 17 = .ok (.iload_n 3, 1) := by decide +kernel
theorem d_X_storeCapability_18 : decode c_X_storeCapability 18 = .ok (.iadd, 1) := by decide +kernel
theorem d_X_storeCapability_19 : decode c_X_storeCapability 19 = .ok (.istore 5, 2) := by decide +kernel
theorem d_X_storeCapability_21 : decode c_X_storeCapability 21 = .ok (.aload_n 0, 1) := by decide +kernel
theorem d_X_storeCapability_22 : decode c_X_storeCapability 22 = .ok (.iload_n 1, 1) := by decide +kernel
theorem d_X_storeCapability_23 : decode c_X_storeCapability 23 = .ok (.aload 4, 2) := by decide +kernel
theorem d_X_storeCapability_25 : decode c_X_storeCapability 25 = .ok (.getfield 68, 3) := by decide +kernel
theorem d_X_storeCapability_28 : decode c_X_storeCapability 28 = .ok (.ifCond .eq 8, 3) := by decide +kernel
theorem d_X_storeCapability_31 : decode c_X_storeCapability 31 = .ok (.bipush 20, 2) := by decide +kernel
theorem d_X_storeCapability_33 : decode c_X_storeCapability 33 = .ok (.goto 4, 3) := by decide +kernel
theorem d_X_storeCapability_36 : decode c_X_storeCapability 36 = .ok (.iconst 4, 1) := by decide +kernel
theorem d_X_storeCapability_37 : decode c_X_storeCapability 37 = .ok (.bipush 8, 2) := by decide +kernel
theorem d_X_storeCapability_39 : decode c_X_storeCapability 39 = .ok (.iload 5, 2) := by decide +kernel
theorem d_X_storeCapability_41 : decode c_X_storeCapability 41 = .ok (.invokevirtual 82, 3) := by decide +kernel
theorem d_X_storeCapability_44 : decode c_X_storeCapability 44 = .ok (.istore 6, 2) := by decide +kernel
theorem d_X_storeCapability_46 : decode c_X_storeCapability 46 = .ok (.iload 6, 2) := by decide +kernel
theorem d_X_storeCapability_48 : decode c_X_storeCapability 48 = .ok (.ifCond .ne 51, 3) := by decide +kernel
theorem d_X_storeCapability_51 : decode c_X_storeCapability 51 = .ok (.iload 5, 2) := by decide +kernel
theorem d_X_storeCapability_53 : decode c_X_storeCapability 53 = .ok (.iconst 3, 1) := by decide +kernel
theorem d_X_storeCapability_54 : decode c_X_storeCapability 54 = .ok (.iushr, 1) := by decide +kernel
theorem d_X_storeCapability_55 : decode c_X_storeCapability 55 = .ok (.istore 7, 2) := by decide +kernel
theorem d_X_storeCapability_57 : decode c_X_storeCapability 57 = .ok (.aload_n 0, 1) := by decide +kernel
theorem d_X_storeCapability_58 : decode c_X_storeCapability 58 = .ok (.getfield 9, 3) := by decide +kernel
theorem d_X_storeCapability_61 : decode c_X_storeCapability 61 = .ok (.iconst 2, 1) := by decide +kernel
theorem d_X_storeCapability_62 : decode c_X_storeCapability 62 = .ok (.iload 7, 2) := by decide +kernel
theorem d_X_storeCapability_64 : decode c_X_storeCapability 64 = .ok (.imul, 1) := by decide +kernel
theorem d_X_storeCapability_65 : decode c_X_storeCapability 65 = .ok (.aload 4, 2) := by decide +kernel
theorem d_X_storeCapability_67 : decode c_X_storeCapability 67 = .ok (.getfield 62, 3) := by decide +kernel
theorem d_X_storeCapability_70 : decode c_X_storeCapability 70 = .ok (.iastore, 1) := by decide +kernel
theorem d_X_storeCapability_71 : decode c_X_storeCapability 71 = .ok (.aload_n 0, 1) := by decide +kernel
theorem d_X_storeCapability_72 : decode c_X_storeCapability 72 = .ok (.getfield 9, 3) := by decide +kernel
theorem d_X_storeCapability_75 : decode c_X_storeCapability 75 = .ok (.iconst 2, 1) := by decide +kernel
theorem d_X_storeCapability_76 : decode c_X_storeCapability 76 = .ok (.iload 7, 2) := by decide +kernel
theorem d_X_storeCapability_78 : decode c_X_storeCapability 78 = .ok (.imul, 1) := by decide +kernel
theorem d_X_storeCapability_79 : decode c_X_storeCapability 79 = .ok (.iconst 1, 1) := by decide +kernel
theorem d_X_storeCapability_80 : decode c_X_storeCapability 80 = .ok (.iadd, 1) := by decide +kernel
theorem d_X_storeCapability_81 : decode c_X_storeCapability 81 = .ok (.aload 4, 2) := by decide +kernel
theorem d_X_storeCapability_83 : decode c_X_storeCapability 83 = .ok (.getfield 65, 3) := by decide +kernel
theorem d_X_storeCapability_86 : decode c_X_storeCapability 86 = .ok (.iastore, 1) := by decide +kernel
theorem d_X_storeCapability_87 : decode c_X_storeCapability 87 = .ok (.aload_n 0, 1) := by decide +kernel
theorem d_X_storeCapability_88 : decode c_X_storeCapability 88 = .ok (.getfield 13, 3) := by decide +kernel
theorem d_X_storeCapability_91 : decode c_X_storeCapability 91 = .ok (.iload 7, 2) := by decide +kernel
theorem d_X_storeCapability_93 : decode c_X_storeCapability 93 = .ok (.aload 4, 2) := by decide +kernel
theorem d_X_storeCapability_95 : decode c_X_storeCapability 95 = .ok (.getfield 68, 3) := by decide +kernel
theorem d_X_storeCapability_98 : decode c_X_storeCapability 98 = .ok (.bastore, 1) := by decide +kernel
theorem d_X_storeCapability_99 : decode c_X_storeCapability 99 = .ok (.iload 6, 2) := by decide +kernel
theorem d_X_storeCapability_101 : decode c_X_storeCapability 101 = .ok (.ireturn, 1) := by decide +kernel
theorem d_X_jump_0 : decode c_X_jump 0 = .ok (.aload_n 0, 1) := by decide +kernel
theorem d_X_jump_1 : decode c_X_jump 1 = .ok (.getfield 19, 3) := by decide +kernel
theorem d_X_jump_4 : decode c_X_jump 4 = .ok (.iload_n 2, 1) := by decide +kernel
theorem d_X_jump_5 : decode c_X_jump 5 = .ok (.aaload, 1) := by decide +kernel
theorem d_X_jump_6 : decode c_X_jump 6 = .ok (.astore_n 3, 1) := by decide +kernel
theorem d_X_jump_7 : decode c_X_jump 7 = .ok (.aload_n 3, 1) := by decide +kernel
theorem d_X_jump_8 : decode c_X_jump 8 = .ok (.getfield 68, 3) := by decide +kernel
theorem d_X_jump_11 : decode c_X_jump 11 = .ok (.ifCond .ne 9, 3) := by decide +kernel
theorem d_X_jump_14 : decode c_X_jump 14 = .ok (.iload_n 2, 1) := by decide +kernel
theorem d_X_jump_15 : decode c_X_jump 15 = .ok (.iconst 1, 1) := by decide +kernel
theorem d_X_jump_16 : decode c_X_jump 16 = .ok (.invokestatic 106, 3) := by decide +kernel
theorem d_X_jump_19 : decode c_X_jump 19 = .ok (.ireturn, 1) := by decide +kernel
theorem d_X_jump_20 : decode c_X_jump 20 = .ok (.aload_n 3, 1) := by decide +kernel
theorem d_X_jump_21 : decode c_X_jump 21 = .ok (.invokevirtual 97, 3) := by decide +kernel
theorem d_X_jump_24 : decode c_X_jump 24 = .ok (.ifCond .eq 17, 3) := by decide +kernel
theorem d_X_jump_27 : decode c_X_jump 27 = .ok (.aload_n 3, 1) := by decide +kernel
theorem d_X_jump_28 : decode c_X_jump 28 = .ok (.invokevirtual 182, 3) := by decide +kernel
theorem d_X_jump_31 : decode c_X_jump 31 = .ok (.iconst 1, 1) := by decide +kernel
theorem d_X_jump_32 : decode c_X_jump 32 = .ok (.if_icmp .eq 9, 3) := by decide +kernel
theorem d_X_jump_35 : decode c_X_jump 35 = .ok (.iload_n 2, 1) := by decide +kernel
theorem d_X_jump_36 : decode c_X_jump 36 = .ok (.iconst 2, 1) := by decide +kernel
theorem d_X_jump_37 : decode c_X_jump 37 = .ok (.invokestatic 106, 3) := by decide +kernel
theorem d_X_jump_40 : decode c_X_jump 40 = .ok (.ireturn, 1) := by decide +kernel
theorem d_X_jump_41 : decode c_X_jump 41 = .ok (.aload_n 3, 1) := by decide +kernel
theorem d_X_jump_42 : decode c_X_jump 42 = .ok (.iconst 1, 1) := by decide +kernel
theorem d_X_jump_43 : decode c_X_jump 43 = .ok (.invokevirtual 101, 3) := by decide +kernel
theorem d_X_jump_46 : decode c_X_jump 46 = .ok (.ifCond .ne 9, 3) := by decide +kernel
theorem d_X_jump_49 : decode c_X_jump 49 = .ok (.iload_n 2, 1) := by decide +kernel
theorem d_X_jump_50 : decode c_X_jump 50 = .ok (.iconst 3, 1) := by decide +kernel
theorem d_X_jump_51 : decode c_X_jump 51 = .ok (.invokestatic 106, 3) := by decide +kernel
theorem d_X_jump_54 : decode c_X_jump 54 = .ok (.ireturn, 1) := by decide +kernel
theorem d_X_jump_55 : decode c_X_jump 55 = .ok (.aload_n 0, 1) := by decide +kernel
theorem d_X_jump_56 : decode c_X_jump 56 = .ok (.getfield 24, 3) := by decide +kernel
theorem d_X_jump_59 : decode c_X_jump 59 = .ok (.aload_n 3, 1) := by decide +kernel
theorem d_X_jump_60 : decode c_X_jump 60 = .ok (.invokevirtual 93, 3) := by decide +kernel
theorem d_X_jump_63 : decode c_X_jump 63 = .ok (.aload_n 0, 1) := by decide +kernel
theorem d_X_jump_64 : decode c_X_jump 64 = .ok (.getfield 24, 3) := by decide +kernel
theorem d_X_jump_67 : decode c_X_jump 67 = .ok (.iconst 0, 1) := by decide +kernel
theorem d_X_jump_68 : decode c_X_jump 68 = .ok (.invokevirtual 185, 3) := by decide +kernel
theorem d_X_jump_71 : decode c_X_jump 71 = .ok (.aload_n 0, 1) := by decide +kernel
theorem d_X_jump_72 : decode c_X_jump 72 = .ok (.iload_n 1, 1) := by decide +kernel
theorem d_X_jump_73 : decode c_X_jump 73 = .ok (.invokevirtual 128, 3) := by decide +kernel
theorem d_X_jump_76 : decode c_X_jump 76 = .ok (.aload_n 0, 1) := by decide +kernel
theorem d_X_jump_77 : decode c_X_jump 77 = .ok (.getfield 41, 3) := by decide +kernel
theorem d_X_jump_80 : decode c_X_jump 80 = .ok (.aload_n 0, 1) := by decide +kernel
theorem d_X_jump_81 : decode c_X_jump 81 = .ok (.getfield 24, 3) := by decide +kernel
theorem d_X_jump_84 : decode c_X_jump 84 = .ok (.invokevirtual 93, 3) := by decide +kernel
theorem d_X_jump_87 : decode c_X_jump 87 = .ok (.iconst 0, 1) := by decide +kernel
theorem d_X_jump_88 : decode c_X_jump 88 = .ok (.ireturn, 1) := by decide +kernel
theorem d_X_seal_0 : decode c_X_seal 0 = .ok (.aload_n 0, 1) := by decide +kernel
theorem d_X_seal_1 : decode c_X_seal 1 = .ok (.getfield 19, 3) := by decide +kernel
theorem d_X_seal_4 : decode c_X_seal 4 = .ok (.iload_n 2, 1) := by decide +kernel
theorem d_X_seal_5 : decode c_X_seal 5 = .ok (.aaload, 1) := by decide +kernel
theorem d_X_seal_6 : decode c_X_seal 6 = .ok (.astore 4, 2) := by decide +kernel
theorem d_X_seal_8 : decode c_X_seal 8 = .ok (.aload 4, 2) := by decide +kernel
theorem d_X_seal_10 : decode c_X_seal 10 = .ok (.getfield 68, 3) := by decide +kernel
theorem d_X_seal_13 : decode c_X_seal 13 = .ok (.ifCond .ne 9, 3) := by decide +kernel
theorem d_X_seal_16 : decode c_X_seal 16 = .ok (.iload_n 2, 1) := by decide +kernel
theorem d_X_seal_17 : decode c_X_seal 17 = .ok (.iconst 1, 1) := by decide +kernel
theorem d_X_seal_18 : decode c_X_seal 18 = .ok (.invokestatic 106, 3) := by decide +kernel
theorem d_X_seal_21 : decode c_X_seal 21 = .ok (.ireturn, 1) := by decide +kernel
theorem d_X_seal_22 : decode c_X_seal 22 = .ok (.aload 4, 2) := by decide +kernel
theorem d_X_seal_24 : decode c_X_seal 24 = .ok (.invokevirtual 97, 3) := by decide +kernel
theorem d_X_seal_27 : decode c_X_seal 27 = .ok (.ifCond .eq 9, 3) := by decide +kernel
theorem d_X_seal_30 : decode c_X_seal 30 = .ok (.iload_n 2, 1) := by decide +kernel
theorem d_X_seal_31 : decode c_X_seal 31 = .ok (.iconst 2, 1) := by decide +kernel
theorem d_X_seal_32 : decode c_X_seal 32 = .ok (.invokestatic 106, 3) := by decide +kernel
theorem d_X_seal_35 : decode c_X_seal 35 = .ok (.ireturn, 1) := by decide +kernel
theorem d_X_seal_36 : decode c_X_seal 36 = .ok (.aload_n 0, 1) := by decide +kernel
theorem d_X_seal_37 : decode c_X_seal 37 = .ok (.getfield 19, 3) := by decide +kernel
theorem d_X_seal_40 : decode c_X_seal 40 = .ok (.iload_n 3, 1) := by decide +kernel
theorem d_X_seal_41 : decode c_X_seal 41 = .ok (.aaload, 1) := by decide +kernel
theorem d_X_seal_42 : decode c_X_seal 42 = .ok (.getfield 62, 3) := by decide +kernel
theorem d_X_seal_45 : decode c_X_seal 45 = .ok (.istore 5, 2) := by decide +kernel
theorem d_X_seal_47 : decode c_X_seal 47 = .ok (.aload_n 0, 1) := by decide +kernel
theorem d_X_seal_48 : decode c_X_seal 48 = .ok (.iload_n 3, 1) := by decide +kernel
theorem d_X_seal_49 : decode c_X_seal 49 = .ok (.bipush 32, 2) := by decide +kernel
theorem d_X_seal_51 : decode c_X_seal 51 = .ok (.iconst 1, 1) := by decide +kernel
theorem d_X_seal_52 : decode c_X_seal 52 = .ok (.iload 5, 2) := by decide +kernel
theorem d_X_seal_54 : decode c_X_seal 54 = .ok (.invokevirtual 82, 3) := by decide +kernel
theorem d_X_seal_57 : decode c_X_seal 57 = .ok (.istore 6, 2) := by decide +kernel
theorem d_X_seal_59 : decode c_X_seal 59 = .ok (.iload 6, 2) := by decide +kernel
theorem d_X_seal_61 : decode c_X_seal 61 = .ok (.ifCond .eq 6, 3) := by decide +kernel
theorem d_X_seal_64 : decode c_X_seal 64 = .ok (.iload 6, 2) := by decide +kernel
theorem d_X_seal_66 : decode c_X_seal 66 = .ok (.ireturn, 1) := by decide +kernel
theorem d_X_seal_67 : decode c_X_seal 67 = .ok (.iload 5, 2) := by decide +kernel
theorem d_X_seal_69 : decode c_X_seal 69 = .ok (.iconst 2, 1) := by decide +kernel
theorem d_X_seal_70 : decode c_X_seal 70 = .ok (.if_icmp .lt 10, 3) := by decide +kernel
theorem d_X_seal_73 : decode c_X_seal 73 = .ok (.iload 5, 2) := by decide +kernel
theorem d_X_seal_75 : decode c_X_seal 75 = .ok (.bipush 15, 2) := by decide +kernel
theorem d_X_seal_77 : decode c_X_seal 77 = .ok (.if_icmp .le 10, 3) := by decide +kernel
theorem d_X_seal_80 : decode c_X_seal 80 = .ok (.iload_n 3, 1) := by decide +kernel
theorem d_X_seal_81 : decode c_X_seal 81 = .ok (.bipush 7, 2) := by decide +kernel
theorem d_X_seal_83 : decode c_X_seal 83 = .ok (.invokestatic 106, 3) := by decide +kernel
theorem d_X_seal_86 : decode c_X_seal 86 = .ok (.ireturn, 1) := by decide +kernel
theorem d_X_seal_87 : decode c_X_seal 87 = .ok (.aload_n 0, 1) := by decide +kernel
theorem d_X_seal_88 : decode c_X_seal 88 = .ok (.iload_n 1, 1) := by decide +kernel
theorem d_X_seal_89 : decode c_X_seal 89 = .ok (.aload 4, 2) := by decide +kernel
theorem d_X_seal_91 : decode c_X_seal 91 = .ok (.iload 5, 2) := by decide +kernel
theorem d_X_seal_93 : decode c_X_seal 93 = .ok (.invokevirtual 188, 3) := by decide +kernel
theorem d_X_seal_96 : decode c_X_seal 96 = .ok (.iconst 0, 1) := by decide +kernel
theorem d_X_seal_97 : decode c_X_seal 97 = .ok (.ireturn, 1) := by decide +kernel
theorem d_X_unseal_0 : decode c_X_unseal 0 = .ok (.aload_n 0, 1) := by decide +kernel
theorem d_X_unseal_1 : decode c_X_unseal 1 = .ok (.getfield 19, 3) := by decide +kernel
theorem d_X_unseal_4 : decode c_X_unseal 4 = .ok (.iload_n 2, 1) := by decide +kernel
theorem d_X_unseal_5 : decode c_X_unseal 5 = .ok (.aaload, 1) := by decide +kernel
theorem d_X_unseal_6 : decode c_X_unseal 6 = .ok (.astore 4, 2) := by decide +kernel
theorem d_X_unseal_8 : decode c_X_unseal 8 = .ok (.aload 4, 2) := by decide +kernel
theorem d_X_unseal_10 : decode c_X_unseal 10 = .ok (.getfield 68, 3) := by decide +kernel
theorem d_X_unseal_13 : decode c_X_unseal 13 = .ok (.ifCond .ne 9, 3) := by decide +kernel
theorem d_X_unseal_16 : decode c_X_unseal 16 = .ok (.iload_n 2, 1) := by decide +kernel
theorem d_X_unseal_17 : decode c_X_unseal 17 = .ok (.iconst 1, 1) := by decide +kernel
theorem d_X_unseal_18 : decode c_X_unseal 18 = .ok (.invokestatic 106, 3) := by decide +kernel
theorem d_X_unseal_21 : decode c_X_unseal 21 = .ok (.ireturn, 1) := by decide +kernel
theorem d_X_unseal_22 : decode c_X_unseal 22 = .ok (.aload 4, 2) := by decide +kernel
theorem d_X_unseal_24 : decode c_X_unseal 24 = .ok (.invokevirtual 97, 3) := by decide +kernel
theorem d_X_unseal_27 : decode c_X_unseal 27 = .ok (.ifCond .eq 12, 3) := by decide +kernel
theorem d_X_unseal_30 : decode c_X_unseal 30 = .ok (.aload 4, 2) := by decide +kernel
theorem d_X_unseal_32 : decode c_X_unseal 32 = .ok (.invokevirtual 182, 3) := by decide +kernel
theorem d_X_unseal_35 : decode c_X_unseal 35 = .ok (.iconst 1, 1) := by decide +kernel
theorem d_X_unseal_36 : decode c_X_unseal 36 = .ok (.if_icmp .ne 9, 3) := by decide +kernel
theorem d_X_unseal_39 : decode c_X_unseal 39 = .ok (.iload_n 2, 1) := by decide +kernel
theorem d_X_unseal_40 : decode c_X_unseal 40 = .ok (.iconst 2, 1) := by decide +kernel
theorem d_X_unseal_41 : decode c_X_unseal 41 = .ok (.invokestatic 106, 3) := by decide +kernel
theorem d_X_unseal_44 : decode c_X_unseal 44 = .ok (.ireturn, 1) := by decide +kernel
theorem d_X_unseal_45 : decode c_X_unseal 45 = .ok (.aload_n 0, 1) := by decide +kernel
theorem d_X_unseal_46 : decode c_X_unseal 46 = .ok (.getfield 19, 3) := by decide +kernel
theorem d_X_unseal_49 : decode c_X_unseal 49 = .ok (.iload_n 3, 1) := by decide +kernel
theorem d_X_unseal_50 : decode c_X_unseal 50 = .ok (.aaload, 1) := by decide +kernel
theorem d_X_unseal_51 : decode c_X_unseal 51 = .ok (.getfield 62, 3) := by decide +kernel
theorem d_X_unseal_54 : decode c_X_unseal 54 = .ok (.istore 5, 2) := by decide +kernel
theorem d_X_unseal_56 : decode c_X_unseal 56 = .ok (.aload_n 0, 1) := by decide +kernel
theorem d_X_unseal_57 : decode c_X_unseal 57 = .ok (.iload_n 3, 1) := by decide +kernel
theorem d_X_unseal_58 : decode c_X_unseal 58 = .ok (.bipush 64, 2) := by decide +kernel
theorem d_X_unseal_60 : decode c_X_unseal 60 = .ok (.iconst 1, 1) := by decide +kernel
theorem d_X_unseal_61 : decode c_X_unseal 61 = .ok (.iload 5, 2) := by decide +kernel
theorem d_X_unseal_63 : decode c_X_unseal 63 = .ok (.invokevirtual 82, 3) := by decide +kernel
theorem d_X_unseal_66 : decode c_X_unseal 66 = .ok (.istore 6, 2) := by decide +kernel
theorem d_X_unseal_68 : decode c_X_unseal 68 = .ok (.iload 6, 2) := by decide +kernel
theorem d_X_unseal_70 : decode c_X_unseal 70 = .ok (.ifCond .eq 6, 3) := by decide +kernel
theorem d_X_unseal_73 : decode c_X_unseal 73 = .ok (.iload 6, 2) := by decide +kernel
theorem d_X_unseal_75 : decode c_X_unseal 75 = .ok (.ireturn, 1) := by decide +kernel
theorem d_X_unseal_76 : decode c_X_unseal 76 = .ok (.iload 5, 2) := by decide +kernel
theorem d_X_unseal_78 : decode c_X_unseal 78 = .ok (.aload 4, 2) := by decide +kernel
theorem d_X_unseal_80 : decode c_X_unseal 80 = .ok (.invokevirtual 182, 3) := by decide +kernel
theorem d_X_unseal_83 : decode c_X_unseal 83 = .ok (.if_icmp .eq 10, 3) := by decide +kernel
theorem d_X_unseal_86 : decode c_X_unseal 86 = .ok (.iload_n 3, 1) := by decide +kernel
theorem d_X_unseal_87 : decode c_X_unseal 87 = .ok (.bipush 7, 2) := by decide +kernel
theorem d_X_unseal_89 : decode c_X_unseal 89 = .ok (.invokestatic 106, 3) := by decide +kernel
theorem d_X_unseal_92 : decode c_X_unseal 92 = .ok (.ireturn, 1) := by decide +kernel
theorem d_X_unseal_93 : decode c_X_unseal 93 = .ok (.aload_n 0, 1) := by decide +kernel
theorem d_X_unseal_94 : decode c_X_unseal 94 = .ok (.iload_n 1, 1) := by decide +kernel
theorem d_X_unseal_95 : decode c_X_unseal 95 = .ok (.aload 4, 2) := by decide +kernel
theorem d_X_unseal_97 : decode c_X_unseal 97 = .ok (.iconst 0, 1) := by decide +kernel
theorem d_X_unseal_98 : decode c_X_unseal 98 = .ok (.invokevirtual 188, 3) := by decide +kernel
theorem d_X_unseal_101 : decode c_X_unseal 101 = .ok (.iconst 0, 1) := by decide +kernel
theorem d_X_unseal_102 : decode c_X_unseal 102 = .ok (.ireturn, 1) := by decide +kernel
theorem d_X_swap_0 : decode c_X_swap 0 = .ok (.aload_n 0, 1) := by decide +kernel
theorem d_X_swap_1 : decode c_X_swap 1 = .ok (.getfield 41, 3) := by decide +kernel
theorem d_X_swap_4 : decode c_X_swap 4 = .ok (.sipush 128, 3) := by decide +kernel
theorem d_X_swap_7 : decode c_X_swap 7 = .ok (.invokevirtual 101, 3) := by decide +kernel
theorem d_X_swap_10 : decode c_X_swap 10 = .ok (.ifCond .ne 10, 3) := by decide +kernel
theorem d_X_swap_13 : decode c_X_swap 13 = .ok (.bipush 8, 2) := by decide +kernel
theorem d_X_swap_15 : decode c_X_swap 15 = .ok (.iconst 3, 1) := by decide +kernel
theorem d_X_swap_16 : decode c_X_swap 16 = .ok (.invokestatic 106, 3) := by decide +kernel
theorem d_X_swap_19 : decode c_X_swap 19 = .ok (.ireturn, 1) := by decide +kernel
theorem d_X_swap_20 : decode c_X_swap 20 = .ok (.iload_n 3, 1) := by decide +kernel
theorem d_X_swap_21 : decode c_X_swap 21 = .ok (.ifCond .lt 8, 3) := by decide +kernel
theorem d_X_swap_24 : decode c_X_swap 24 = .ok (.iload_n 3, 1) := by decide +kernel
theorem d_X_swap_25 : decode c_X_swap 25 = .ok (.iconst 2, 1) := by decide +kernel
theorem d_X_swap_26 : decode c_X_swap 26 = .ok (.if_icmp .le 11, 3) := by decide +kernel
theorem d_X_swap_29 : decode c_X_swap 29 = .ok (.bipush 8, 2) := by decide +kernel
theorem d_X_swap_31 : decode c_X_swap 31 = .ok (.bipush 8, 2) := by decide +kernel
theorem d_X_swap_33 : decode c_X_swap 33 = .ok (.invokestatic 106, 3) := by decide +kernel
theorem d_X_swap_36 : decode c_X_swap 36 = .ok (.ireturn, 1) := by decide +kernel
theorem d_X_swap_37 : decode c_X_swap 37 = .ok (.aload_n 0, 1) := by decide +kernel
theorem d_X_swap_38 : decode c_X_swap 38 = .ok (.getfield 19, 3) := by decide +kernel
theorem d_X_swap_41 : decode c_X_swap 41 = .ok (.bipush 9, 2) := by decide +kernel
theorem d_X_swap_43 : decode c_X_swap 43 = .ok (.iload_n 3, 1) := by decide +kernel
theorem d_X_swap_44 : decode c_X_swap 44 = .ok (.iadd, 1) := by decide +kernel
theorem d_X_swap_45 : decode c_X_swap 45 = .ok (.aaload, 1) := by decide +kernel
theorem d_X_swap_46 : decode c_X_swap 46 = .ok (.astore 4, 2) := by decide +kernel
theorem d_X_swap_48 : decode c_X_swap 48 = .ok (.aload_n 0, 1) := by decide +kernel
theorem d_X_swap_49 : decode c_X_swap 49 = .ok (.getfield 24, 3) := by decide +kernel
theorem d_X_swap_52 : decode c_X_swap 52 = .ok (.aload 4, 2) := by decide +kernel
theorem d_X_swap_54 : decode c_X_swap 54 = .ok (.invokevirtual 93, 3) := by decide +kernel
theorem d_X_swap_57 : decode c_X_swap 57 = .ok (.iload_n 2, 1) := by decide +kernel
theorem d_X_swap_58 : decode c_X_swap 58 = .ok (.ifCond .eq 14, 3) := by decide +kernel
theorem d_X_swap_61 : decode c_X_swap 61 = .ok (.aload 4, 2) := by decide +kernel
theorem d_X_swap_63 : decode c_X_swap 63 = .ok (.aload_n 0, 1) := by decide +kernel
theorem d_X_swap_64 : decode c_X_swap 64 = .ok (.getfield 19, 3) := by decide +kernel
theorem d_X_swap_67 : decode c_X_swap 67 = .ok (.iload_n 2, 1) := by decide +kernel
theorem d_X_swap_68 : decode c_X_swap 68 = .ok (.aaload, 1) := by decide +kernel
theorem d_X_swap_69 : decode c_X_swap 69 = .ok (.invokevirtual 93, 3) := by decide +kernel
theorem d_X_swap_72 : decode c_X_swap 72 = .ok (.aload_n 0, 1) := by decide +kernel
theorem d_X_swap_73 : decode c_X_swap 73 = .ok (.iload_n 1, 1) := by decide +kernel
theorem d_X_swap_74 : decode c_X_swap 74 = .ok (.invokevirtual 172, 3) := by decide +kernel
theorem d_X_swap_77 : decode c_X_swap 77 = .ok (.iconst 0, 1) := by decide +kernel
theorem d_X_swap_78 : decode c_X_swap 78 = .ok (.ireturn, 1) := by decide +kernel
theorem d_X_returnFromTrap_0 : decode c_X_returnFromTrap 0 = .ok (.aload_n 0, 1) := by decide +kernel
theorem d_X_returnFromTrap_1 : decode c_X_returnFromTrap 1 = .ok (.getfield 41, 3) := by decide +kernel
theorem d_X_returnFromTrap_4 : decode c_X_returnFromTrap 4 = .ok (.sipush 128, 3) := by decide +kernel
theorem d_X_returnFromTrap_7 : decode c_X_returnFromTrap 7 = .ok (.invokevirtual 101, 3) := by decide +kernel
theorem d_X_returnFromTrap_10 : decode c_X_returnFromTrap 10 = .ok (.ifCond .ne 10, 3) := by decide +kernel
theorem d_X_returnFromTrap_13 : decode c_X_returnFromTrap 13 = .ok (.bipush 8, 2) := by decide +kernel
theorem d_X_returnFromTrap_15 : decode c_X_returnFromTrap 15 = .ok (.iconst 3, 1) := by decide +kernel
theorem d_X_returnFromTrap_16 : decode c_X_returnFromTrap 16 = .ok (.invokestatic 106, 3) := by decide +kernel
theorem d_X_returnFromTrap_19 : decode c_X_returnFromTrap 19 = .ok (.ireturn, 1) := by decide +kernel
theorem d_X_returnFromTrap_20 : decode c_X_returnFromTrap 20 = .ok (.aload_n 0, 1) := by decide +kernel
theorem d_X_returnFromTrap_21 : decode c_X_returnFromTrap 21 = .ok (.getfield 41, 3) := by decide +kernel
theorem d_X_returnFromTrap_24 : decode c_X_returnFromTrap 24 = .ok (.aload_n 0, 1) := by decide +kernel
theorem d_X_returnFromTrap_25 : decode c_X_returnFromTrap 25 = .ok (.getfield 19, 3) := by decide +kernel
theorem d_X_returnFromTrap_28 : decode c_X_returnFromTrap 28 = .ok (.bipush 10, 2) := by decide +kernel
theorem d_X_returnFromTrap_30 : decode c_X_returnFromTrap 30 = .ok (.aaload, 1) := by decide +kernel
theorem d_X_returnFromTrap_31 : decode c_X_returnFromTrap 31 = .ok (.invokevirtual 93, 3) := by decide +kernel
theorem d_X_returnFromTrap_34 : decode c_X_returnFromTrap 34 = .ok (.aload_n 0, 1) := by decide +kernel
theorem d_X_returnFromTrap_35 : decode c_X_returnFromTrap 35 = .ok (.getfield 41, 3) := by decide +kernel
theorem d_X_returnFromTrap_38 : decode c_X_returnFromTrap 38 = .ok (.invokevirtual 182, 3) := by decide +kernel
theorem d_X_returnFromTrap_41 : decode c_X_returnFromTrap 41 = .ok (.iconst 1, 1) := by decide +kernel
theorem d_X_returnFromTrap_42 : decode c_X_returnFromTrap 42 = .ok (.if_icmp .ne 11, 3) := by decide +kernel
theorem d_X_returnFromTrap_45 : decode c_X_returnFromTrap 45 = .ok (.aload_n 0, 1) := by decide +kernel
theorem d_X_returnFromTrap_46 : decode c_X_returnFromTrap 46 = .ok (.getfield 41, 3) := by decide +kernel
end
section
theorem d_X_returnFromTrap_49 : decode c_X_returnFromTrap 49 = .ok (.iconst 0, 1) := by decide +kernel
theorem d_X_returnFromTrap_50 : decode c_X_returnFromTrap 50 = .ok (.invokevirtual 185, 3) := by decide +kernel
theorem d_X_returnFromTrap_53 : decode c_X_returnFromTrap 53 = .ok (.iconst 0, 1) := by decide +kernel
theorem d_X_returnFromTrap_54 : decode c_X_returnFromTrap 54 = .ok (.ireturn, 1) := by decide +kernel
theorem d_X_branch_0 : decode c_X_branch 0 = .ok (.aload_n 0, 1) := by decide +kernel
theorem d_X_branch_1 : decode c_X_branch 1 = .ok (.getfield 41, 3) := by decide +kernel
theorem d_X_branch_4 : decode c_X_branch 4 = .ok (.aload_n 0, 1) := by decide +kernel
theorem d_X_branch_5 : decode c_X_branch 5 = .ok (.getfield 41, 3) := by decide +kernel
theorem d_X_branch_8 : decode c_X_branch 8 = .ok (.getfield 62, 3) := by decide +kernel
theorem d_X_branch_11 : decode c_X_branch 11 = .ok (.iconst 4, 1) := by decide +kernel
theorem d_X_branch_12 : decode c_X_branch 12 = .ok (.iload_n 1, 1) := by decide +kernel
theorem d_X_branch_13 : decode c_X_branch 13 = .ok (.imul, 1) := by decide +kernel
theorem d_X_branch_14 : decode c_X_branch 14 = .ok (.iadd, 1) := by decide +kernel
theorem d_X_branch_15 : decode c_X_branch 15 = .ok (.invokevirtual 165, 3) := by decide +kernel
theorem d_X_branch_18 : decode c_X_branch 18 = .ok (.iconst 0, 1) := by decide +kernel
theorem d_X_branch_19 : decode c_X_branch 19 = .ok (.ireturn, 1) := by decide +kernel
theorem d_X_writeLink_0 : decode c_X_writeLink 0 = .ok (.iload_n 1, 1) := by decide +kernel
theorem d_X_writeLink_1 : decode c_X_writeLink 1 = .ok (.ifCond .eq 44, 3) := by decide +kernel
theorem d_X_writeLink_4 : decode c_X_writeLink 4 = .ok (.aload_n 0, 1) := by decide +kernel
theorem d_X_writeLink_5 : decode c_X_writeLink 5 = .ok (.getfield 19, 3) := by decide +kernel
theorem d_X_writeLink_8 : decode c_X_writeLink 8 = .ok (.iload_n 1, 1) := by decide +kernel
theorem d_X_writeLink_9 : decode c_X_writeLink 9 = .ok (.aaload, 1) := by decide +kernel
theorem d_X_writeLink_10 : decode c_X_writeLink 10 = .ok (.aload_n 0, 1) := by decide +kernel
theorem d_X_writeLink_11 : decode c_X_writeLink 11 = .ok (.getfield 41, 3) := by decide +kernel
theorem d_X_writeLink_14 : decode c_X_writeLink 14 = .ok (.invokevirtual 93, 3) := by decide +kernel
theorem d_X_writeLink_17 : decode c_X_writeLink 17 = .ok (.aload_n 0, 1) := by decide +kernel
theorem d_X_writeLink_18 : decode c_X_writeLink 18 = .ok (.getfield 19, 3) := by decide +kernel
theorem d_X_writeLink_21 : decode c_X_writeLink 21 = .ok (.iload_n 1, 1) := by decide +kernel
theorem d_X_writeLink_22 : decode c_X_writeLink 22 = .ok (.aaload, 1) := by decide +kernel
theorem d_X_writeLink_23 : decode c_X_writeLink 23 = .ok (.aload_n 0, 1) := by decide +kernel
theorem d_X_writeLink_24 : decode c_X_writeLink 24 = .ok (.getfield 41, 3) := by decide +kernel
theorem d_X_writeLink_27 : decode c_X_writeLink 27 = .ok (.getfield 62, 3) := by decide +kernel
theorem d_X_writeLink_30 : decode c_X_writeLink 30 = .ok (.iconst 4, 1) := by decide +kernel
theorem d_X_writeLink_31 : decode c_X_writeLink 31 = .ok (.iadd, 1) := by decide +kernel
theorem d_X_writeLink_32 : decode c_X_writeLink 32 = .ok (.invokevirtual 165, 3) := by decide +kernel
theorem d_X_writeLink_35 : decode c_X_writeLink 35 = .ok (.aload_n 0, 1) := by decide +kernel
theorem d_X_writeLink_36 : decode c_X_writeLink 36 = .ok (.getfield 19, 3) := by decide +kernel
theorem d_X_writeLink_39 : decode c_X_writeLink 39 = .ok (.iload_n 1, 1) := by decide +kernel
theorem d_X_writeLink_40 : decode c_X_writeLink 40 = .ok (.aaload, 1) := by decide +kernel
theorem d_X_writeLink_41 : decode c_X_writeLink 41 = .ok (.iconst 1, 1) := by decide +kernel
theorem d_X_writeLink_42 : decode c_X_writeLink 42 = .ok (.invokevirtual 185, 3) := by decide +kernel
theorem d_X_writeLink_45 : decode c_X_writeLink 45 = .ok (.return_, 1) := by decide +kernel
theorem d_X_writeWithType_0 : decode c_X_writeWithType 0 = .ok (.aload_n 0, 1) := by decide +kernel
theorem d_X_writeWithType_1 : decode c_X_writeWithType 1 = .ok (.getfield 24, 3) := by decide +kernel
theorem d_X_writeWithType_4 : decode c_X_writeWithType 4 = .ok (.aload_n 2, 1) := by decide +kernel
theorem d_X_writeWithType_5 : decode c_X_writeWithType 5 = .ok (.invokevirtual 93, 3) := by decide +kernel
theorem d_X_writeWithType_8 : decode c_X_writeWithType 8 = .ok (.aload_n 0, 1) := by decide +kernel
theorem d_X_writeWithType_9 : decode c_X_writeWithType 9 = .ok (.getfield 24, 3) := by decide +kernel
theorem d_X_writeWithType_12 : decode c_X_writeWithType 12 = .ok (.iload_n 3, 1) := by decide +kernel
theorem d_X_writeWithType_13 : decode c_X_writeWithType 13 = .ok (.invokevirtual 185, 3) := by decide +kernel
theorem d_X_writeWithType_16 : decode c_X_writeWithType 16 = .ok (.aload_n 0, 1) := by decide +kernel
theorem d_X_writeWithType_17 : decode c_X_writeWithType 17 = .ok (.iload_n 1, 1) := by decide +kernel
theorem d_X_writeWithType_18 : decode c_X_writeWithType 18 = .ok (.invokevirtual 172, 3) := by decide +kernel
theorem d_X_writeWithType_21 : decode c_X_writeWithType 21 = .ok (.return_, 1) := by decide +kernel
theorem d_X_writeMade_0 : decode c_X_writeMade 0 = .ok (.iload_n 1, 1) := by decide +kernel
theorem d_X_writeMade_1 : decode c_X_writeMade 1 = .ok (.ifCond .eq 16, 3) := by decide +kernel
theorem d_X_writeMade_4 : decode c_X_writeMade 4 = .ok (.aload_n 0, 1) := by decide +kernel
theorem d_X_writeMade_5 : decode c_X_writeMade 5 = .ok (.getfield 19, 3) := by decide +kernel
theorem d_X_writeMade_8 : decode c_X_writeMade 8 = .ok (.iload_n 1, 1) := by decide +kernel
theorem d_X_writeMade_9 : decode c_X_writeMade 9 = .ok (.aaload, 1) := by decide +kernel
theorem d_X_writeMade_10 : decode c_X_writeMade 10 = .ok (.aload_n 0, 1) := by decide +kernel
theorem d_X_writeMade_11 : decode c_X_writeMade 11 = .ok (.getfield 24, 3) := by decide +kernel
theorem d_X_writeMade_14 : decode c_X_writeMade 14 = .ok (.invokevirtual 93, 3) := by decide +kernel
theorem d_X_writeMade_17 : decode c_X_writeMade 17 = .ok (.return_, 1) := by decide +kernel
theorem d_X_writeNumber_0 : decode c_X_writeNumber 0 = .ok (.iload_n 1, 1) := by decide +kernel
theorem d_X_writeNumber_1 : decode c_X_writeNumber 1 = .ok (.ifCond .eq 13, 3) := by decide +kernel
theorem d_X_writeNumber_4 : decode c_X_writeNumber 4 = .ok (.aload_n 0, 1) := by decide +kernel
theorem d_X_writeNumber_5 : decode c_X_writeNumber 5 = .ok (.getfield 19, 3) := by decide +kernel
theorem d_X_writeNumber_8 : decode c_X_writeNumber 8 = .ok (.iload_n 1, 1) := by decide +kernel
theorem d_X_writeNumber_9 : decode c_X_writeNumber 9 = .ok (.aaload, 1) := by decide +kernel
theorem d_X_writeNumber_10 : decode c_X_writeNumber 10 = .ok (.iload_n 2, 1) := by decide +kernel
theorem d_X_writeNumber_11 : decode c_X_writeNumber 11 = .ok (.invokevirtual 192, 3) := by decide +kernel
theorem d_X_writeNumber_14 : decode c_X_writeNumber 14 = .ok (.return_, 1) := by decide +kernel
theorem d_X_writeWord_0 : decode c_X_writeWord 0 = .ok (.aload_n 0, 1) := by decide +kernel
theorem d_X_writeWord_1 : decode c_X_writeWord 1 = .ok (.getfield 9, 3) := by decide +kernel
theorem d_X_writeWord_4 : decode c_X_writeWord 4 = .ok (.iload_n 1, 1) := by decide +kernel
theorem d_X_writeWord_5 : decode c_X_writeWord 5 = .ok (.iload_n 2, 1) := by decide +kernel
theorem d_X_writeWord_6 : decode c_X_writeWord 6 = .ok (.iastore, 1) := by decide +kernel
theorem d_X_writeWord_7 : decode c_X_writeWord 7 = .ok (.aload_n 0, 1) := by decide +kernel
theorem d_X_writeWord_8 : decode c_X_writeWord 8 = .ok (.getfield 13, 3) := by decide +kernel
theorem d_X_writeWord_11 : decode c_X_writeWord 11 = .ok (.iload_n 1, 1) := by decide +kernel
theorem d_X_writeWord_12 : decode c_X_writeWord 12 = .ok (.iconst 1, 1) := by decide +kernel
theorem d_X_writeWord_13 : decode c_X_writeWord 13 = .ok (.ishr, 1) := by decide +kernel
theorem d_X_writeWord_14 : decode c_X_writeWord 14 = .ok (.iconst 0, 1) := by decide +kernel
theorem d_X_writeWord_15 : decode c_X_writeWord 15 = .ok (.bastore, 1) := by decide +kernel
theorem d_X_writeWord_16 : decode c_X_writeWord 16 = .ok (.return_, 1) := by decide +kernel
end
section
theorem d_M_init_0 : decode c_M_init 0 = .ok (.aload_n 0, 1) := by decide +kernel
theorem d_M_init_1 : decode c_M_init 1 = .ok (.invokespecial 1, 3) := by decide +kernel
theorem d_M_init_4 : decode c_M_init 4 = .ok (.aload_n 0, 1) := by decide +kernel
theorem d_M_init_5 : decode c_M_init 5 = .ok (.bipush 12, 2) := by decide +kernel
theorem d_M_init_7 : decode c_M_init 7 = .ok (.newarray .int, 2) := by decide +kernel
theorem d_M_init_9 : decode c_M_init 9 = .ok (.putfield 7, 3) := by decide +kernel
theorem d_M_init_12 : decode c_M_init 12 = .ok (.aload_n 0, 1) := by decide +kernel
theorem d_M_init_13 : decode c_M_init 13 = .ok (.bipush 12, 2) := by decide +kernel
theorem d_M_init_15 : decode c_M_init 15 = .ok (.newarray .int, 2) := by decide +kernel
theorem d_M_init_17 : decode c_M_init 17 = .ok (.putfield 13, 3) := by decide +kernel
theorem d_M_init_20 : decode c_M_init 20 = .ok (.aload_n 0, 1) := by decide +kernel
theorem d_M_init_21 : decode c_M_init 21 = .ok (.bipush 12, 2) := by decide +kernel
theorem d_M_init_23 : decode c_M_init 23 = .ok (.newarray .boolean, 2) := by decide +kernel
theorem d_M_init_25 : decode c_M_init 25 = .ok (.putfield 16, 3) := by decide +kernel
theorem d_M_init_28 : decode c_M_init 28 = .ok (.aload_n 0, 1) := by decide +kernel
theorem d_M_init_29 : decode c_M_init 29 = .ok (.sipush 256, 3) := by decide +kernel
theorem d_M_init_32 : decode c_M_init 32 = .ok (.newarray .int, 2) := by decide +kernel
theorem d_M_init_34 : decode c_M_init 34 = .ok (.putfield 20, 3) := by decide +kernel
theorem d_M_init_37 : decode c_M_init 37 = .ok (.aload_n 0, 1) := by decide +kernel
theorem d_M_init_38 : decode c_M_init 38 = .ok (.sipush 128, 3) := by decide +kernel
theorem d_M_init_41 : decode c_M_init 41 = .ok (.newarray .boolean, 2) := by decide +kernel
theorem d_M_init_43 : decode c_M_init 43 = .ok (.putfield 23, 3) := by decide +kernel
theorem d_M_init_46 : decode c_M_init 46 = .ok (.aload_n 0, 1) := by decide +kernel
theorem d_M_init_47 : decode c_M_init 47 = .ok (.iconst 1, 1) := by decide +kernel
theorem d_M_init_48 : decode c_M_init 48 = .ok (.iconst 0, 1) := by decide +kernel
theorem d_M_init_49 : decode c_M_init 49 = .ok (.invokevirtual 26, 3) := by decide +kernel
theorem d_M_init_52 : decode c_M_init 52 = .ok (.aload_n 0, 1) := by decide +kernel
theorem d_M_init_53 : decode c_M_init 53 = .ok (.bipush 8, 2) := by decide +kernel
theorem d_M_init_55 : decode c_M_init 55 = .ok (.iconst 0, 1) := by decide +kernel
theorem d_M_init_56 : decode c_M_init 56 = .ok (.invokevirtual 26, 3) := by decide +kernel
theorem d_M_init_59 : decode c_M_init 59 = .ok (.return_, 1) := by decide +kernel
theorem d_M_first_0 : decode c_M_first 0 = .ok (.aload_n 0, 1) := by decide +kernel
theorem d_M_first_1 : decode c_M_first 1 = .ok (.getfield 7, 3) := by decide +kernel
theorem d_M_first_4 : decode c_M_first 4 = .ok (.iload_n 1, 1) := by decide +kernel
theorem d_M_first_5 : decode c_M_first 5 = .ok (.iload_n 2, 1) := by decide +kernel
theorem d_M_first_6 : decode c_M_first 6 = .ok (.iastore, 1) := by decide +kernel
theorem d_M_first_7 : decode c_M_first 7 = .ok (.aload_n 0, 1) := by decide +kernel
theorem d_M_first_8 : decode c_M_first 8 = .ok (.getfield 13, 3) := by decide +kernel
theorem d_M_first_11 : decode c_M_first 11 = .ok (.iload_n 1, 1) := by decide +kernel
theorem d_M_first_12 : decode c_M_first 12 = .ok (.sipush 255, 3) := by decide +kernel
theorem d_M_first_15 : decode c_M_first 15 = .ok (.lconst 0, 1) := by decide +kernel
theorem d_M_first_16 : decode c_M_first 16 = .ok (.ldc2_w 30, 3) := by decide +kernel
theorem d_M_first_19 : decode c_M_first 19 = .ok (.invokestatic 32, 3) := by decide +kernel
theorem d_M_first_22 : decode c_M_first 22 = .ok (.iastore, 1) := by decide +kernel
theorem d_M_first_23 : decode c_M_first 23 = .ok (.aload_n 0, 1) := by decide +kernel
theorem d_M_first_24 : decode c_M_first 24 = .ok (.getfield 16, 3) := by decide +kernel
theorem d_M_first_27 : decode c_M_first 27 = .ok (.iload_n 1, 1) := by decide +kernel
theorem d_M_first_28 : decode c_M_first 28 = .ok (.iconst 1, 1) := by decide +kernel
theorem d_M_first_29 : decode c_M_first 29 = .ok (.bastore, 1) := by decide +kernel
theorem d_M_first_30 : decode c_M_first 30 = .ok (.return_, 1) := by decide +kernel
theorem d_M_type_0 : decode c_M_type 0 = .ok (.iload_n 0, 1) := by decide +kernel
theorem d_M_type_1 : decode c_M_type 1 = .ok (.bipush 8, 2) := by decide +kernel
theorem d_M_type_3 : decode c_M_type 3 = .ok (.ishr, 1) := by decide +kernel
theorem d_M_type_4 : decode c_M_type 4 = .ok (.bipush 15, 2) := by decide +kernel
theorem d_M_type_6 : decode c_M_type 6 = .ok (.iand, 1) := by decide +kernel
theorem d_M_type_7 : decode c_M_type 7 = .ok (.ireturn, 1) := by decide +kernel
theorem d_M_unit_0 : decode c_M_unit 0 = .ok (.lconst 1, 1) := by decide +kernel
theorem d_M_unit_1 : decode c_M_unit 1 = .ok (.iload_n 0, 1) := by decide +kernel
theorem d_M_unit_2 : decode c_M_unit 2 = .ok (.bipush 12, 2) := by decide +kernel
theorem d_M_unit_4 : decode c_M_unit 4 = .ok (.ishr, 1) := by decide +kernel
theorem d_M_unit_5 : decode c_M_unit 5 = .ok (.bipush 31, 2) := by decide +kernel
theorem d_M_unit_7 : decode c_M_unit 7 = .ok (.iand, 1) := by decide +kernel
theorem d_M_unit_8 : decode c_M_unit 8 = .ok (.lshl, 1) := by decide +kernel
theorem d_M_unit_9 : decode c_M_unit 9 = .ok (.lreturn, 1) := by decide +kernel
theorem d_M_unsigned_0 : decode c_M_unsigned 0 = .ok (.iload_n 0, 1) := by decide +kernel
theorem d_M_unsigned_1 : decode c_M_unsigned 1 = .ok (.ifCond .ge 12, 3) := by decide +kernel
theorem d_M_unsigned_4 : decode c_M_unsigned 4 = .ok (.iload_n 0, 1) := by decide +kernel
theorem d_M_unsigned_5 : decode c_M_unsigned 5 = .ok (.i2l, 1) := by decide +kernel
theorem d_M_unsigned_6 : decode c_M_unsigned 6 = .ok (.ldc2_w 36, 3) := by decide +kernel
theorem d_M_unsigned_9 : decode c_M_unsigned 9 = .ok (.ladd, 1) := by decide +kernel
theorem d_M_unsigned_10 : decode c_M_unsigned 10 = .ok (.goto 5, 3) := by decide +kernel
theorem d_M_unsigned_13 : decode c_M_unsigned 13 = .ok (.iload_n 0, 1) := by decide +kernel
theorem d_M_unsigned_14 : decode c_M_unsigned 14 = .ok (.i2l, 1) := by decide +kernel
theorem d_M_unsigned_15 : decode c_M_unsigned 15 = .ok (.lreturn, 1) := by decide +kernel
theorem d_M_rest_0 : decode c_M_rest 0 = .ok (.lload_n 0, 1) := by decide +kernel
theorem d_M_rest_1 : decode c_M_rest 1 = .ok (.lload_n 2, 1) := by decide +kernel
theorem d_M_rest_2 : decode c_M_rest 2 = .ok (.lrem, 1) := by decide +kernel
theorem d_M_rest_3 : decode c_M_rest 3 = .ok (.lstore 4, 2) := by decide +kernel
theorem d_M_rest_5 : decode c_M_rest 5 = .ok (.lload 4, 2) := by decide +kernel
theorem d_M_rest_7 : decode c_M_rest 7 = .ok (.lconst 0, 1) := by decide +kernel
theorem d_M_rest_8 : decode c_M_rest 8 = .ok (.lcmp, 1) := by decide +kernel
theorem d_M_rest_9 : decode c_M_rest 9 = .ok (.ifCond .ge 10, 3) := by decide +kernel
theorem d_M_rest_12 : decode c_M_rest 12 = .ok (.lload 4, 2) := by decide +kernel
theorem d_M_rest_14 : decode c_M_rest 14 = .ok (.lload_n 2, 1) := by decide +kernel
theorem d_M_rest_15 : decode c_M_rest 15 = .ok (.ladd, 1) := by decide +kernel
theorem d_M_rest_16 : decode c_M_rest 16 = .ok (.goto 5, 3) := by decide +kernel
theorem d_M_rest_19 : decode c_M_rest 19 = .ok (.lload 4, 2) := by decide +kernel
theorem d_M_rest_21 : decode c_M_rest 21 = .ok (.lreturn, 1) := by decide +kernel
theorem d_M_window_0 : decode c_M_window 0 = .ok (.iload_n 0, 1) := by decide +kernel
theorem d_M_window_1 : decode c_M_window 1 = .ok (.invokestatic 38, 3) := by decide +kernel
theorem d_M_window_4 : decode c_M_window 4 = .ok (.lstore_n 2, 1) := by decide +kernel
theorem d_M_window_5 : decode c_M_window 5 = .ok (.iload_n 1, 1) := by decide +kernel
theorem d_M_window_6 : decode c_M_window 6 = .ok (.invokestatic 42, 3) := by decide +kernel
theorem d_M_window_9 : decode c_M_window 9 = .ok (.lload_n 2, 1) := by decide +kernel
theorem d_M_window_10 : decode c_M_window 10 = .ok (.ldiv, 1) := by decide +kernel
theorem d_M_window_11 : decode c_M_window 11 = .ok (.lload_n 2, 1) := by decide +kernel
theorem d_M_window_12 : decode c_M_window 12 = .ok (.lmul, 1) := by decide +kernel
theorem d_M_window_13 : decode c_M_window 13 = .ok (.lstore 4, 2) := by decide +kernel
theorem d_M_window_15 : decode c_M_window 15 = .ok (.iload_n 0, 1) := by decide +kernel
theorem d_M_window_16 : decode c_M_window 16 = .ok (.bipush 17, 2) := by decide +kernel
theorem d_M_window_18 : decode c_M_window 18 = .ok (.ishr, 1) := by decide +kernel
theorem d_M_window_19 : decode c_M_window 19 = .ok (.bipush 127, 2) := by decide +kernel
theorem d_M_window_21 : decode c_M_window 21 = .ok (.iand, 1) := by decide +kernel
theorem d_M_window_22 : decode c_M_window 22 = .ok (.bipush 16, 2) := by decide +kernel
theorem d_M_window_24 : decode c_M_window 24 = .ok (.isub, 1) := by decide +kernel
theorem d_M_window_25 : decode c_M_window 25 = .ok (.i2l, 1) := by decide +kernel
theorem d_M_window_26 : decode c_M_window 26 = .ok (.lstore 6, 2) := by decide +kernel
theorem d_M_window_28 : decode c_M_window 28 = .ok (.lload 4, 2) := by decide +kernel
theorem d_M_window_30 : decode c_M_window 30 = .ok (.lload 4, 2) := by decide +kernel
theorem d_M_window_32 : decode c_M_window 32 = .ok (.lload 6, 2) := by decide +kernel
theorem d_M_window_34 : decode c_M_window 34 = .ok (.lload_n 2, 1) := by decide +kernel
theorem d_M_window_35 : decode c_M_window 35 = .ok (.lmul, 1) := by decide +kernel
theorem d_M_window_36 : decode c_M_window 36 = .ok (.lsub, 1) := by decide +kernel
theorem d_M_window_37 : decode c_M_window 37 = .ok (.ldc2_w 45, 3) := by decide +kernel
theorem d_M_window_40 : decode c_M_window 40 = .ok (.lload_n 2, 1) := by decide +kernel
theorem d_M_window_41 : decode c_M_window 41 = .ok (.lmul, 1) := by decide +kernel
theorem d_M_window_42 : decode c_M_window 42 = .ok (.invokestatic 47, 3) := by decide +kernel
theorem d_M_window_45 : decode c_M_window 45 = .ok (.lsub, 1) := by decide +kernel
theorem d_M_window_46 : decode c_M_window 46 = .ok (.lreturn, 1) := by decide +kernel
theorem d_M_baseOf_0 : decode c_M_baseOf 0 = .ok (.iload_n 0, 1) := by decide +kernel
theorem d_M_baseOf_1 : decode c_M_baseOf 1 = .ok (.iload_n 1, 1) := by decide +kernel
theorem d_M_baseOf_2 : decode c_M_baseOf 2 = .ok (.invokestatic 51, 3) := by decide +kernel
theorem d_M_baseOf_5 : decode c_M_baseOf 5 = .ok (.lstore_n 2, 1) := by decide +kernel
theorem d_M_baseOf_6 : decode c_M_baseOf 6 = .ok (.iload_n 0, 1) := by decide +kernel
theorem d_M_baseOf_7 : decode c_M_baseOf 7 = .ok (.invokestatic 38, 3) := by decide +kernel
theorem d_M_baseOf_10 : decode c_M_baseOf 10 = .ok (.lstore 4, 2) := by decide +kernel
theorem d_M_baseOf_12 : decode c_M_baseOf 12 = .ok (.lload_n 2, 1) := by decide +kernel
theorem d_M_baseOf_13 : decode c_M_baseOf 13 = .ok (.iload_n 0, 1) := by decide +kernel
theorem d_M_baseOf_14 : decode c_M_baseOf 14 = .ok (.bipush 17, 2) := by decide +kernel
theorem d_M_baseOf_16 : decode c_M_baseOf 16 = .ok (.ishr, 1) := by decide +kernel
theorem d_M_baseOf_17 : decode c_M_baseOf 17 = .ok (.bipush 127, 2) := by decide +kernel
theorem d_M_baseOf_19 : decode c_M_baseOf 19 = .ok (.iand, 1) := by decide +kernel
theorem d_M_baseOf_20 : decode c_M_baseOf 20 = .ok (.i2l, 1) := by decide +kernel
theorem d_M_baseOf_21 : decode c_M_baseOf 21 = .ok (.lload 4, 2) := by decide +kernel
theorem d_M_baseOf_23 : decode c_M_baseOf 23 = .ok (.lmul, 1) := by decide +kernel
theorem d_M_baseOf_24 : decode c_M_baseOf 24 = .ok (.lload_n 2, 1) := by decide +kernel
theorem d_M_baseOf_25 : decode c_M_baseOf 25 = .ok (.lsub, 1) := by decide +kernel
theorem d_M_baseOf_26 : decode c_M_baseOf 26 = .ok (.ldc2_w 45, 3) := by decide +kernel
theorem d_M_baseOf_29 : decode c_M_baseOf 29 = .ok (.lload 4, 2) := by decide +kernel
theorem d_M_baseOf_31 : decode c_M_baseOf 31 = .ok (.lmul, 1) := by decide +kernel
theorem d_M_baseOf_32 : decode c_M_baseOf 32 = .ok (.invokestatic 47, 3) := by decide +kernel
theorem d_M_baseOf_35 : decode c_M_baseOf 35 = .ok (.ladd, 1) := by decide +kernel
theorem d_M_baseOf_36 : decode c_M_baseOf 36 = .ok (.lreturn, 1) := by decide +kernel
theorem d_M_topOf_0 : decode c_M_topOf 0 = .ok (.iload_n 0, 1) := by decide +kernel
theorem d_M_topOf_1 : decode c_M_topOf 1 = .ok (.iload_n 1, 1) := by decide +kernel
theorem d_M_topOf_2 : decode c_M_topOf 2 = .ok (.invokestatic 51, 3) := by decide +kernel
theorem d_M_topOf_5 : decode c_M_topOf 5 = .ok (.lstore_n 2, 1) := by decide +kernel
theorem d_M_topOf_6 : decode c_M_topOf 6 = .ok (.iload_n 0, 1) := by decide +kernel
theorem d_M_topOf_7 : decode c_M_topOf 7 = .ok (.invokestatic 38, 3) := by decide +kernel
theorem d_M_topOf_10 : decode c_M_topOf 10 = .ok (.lstore 4, 2) := by decide +kernel
theorem d_M_topOf_12 : decode c_M_topOf 12 = .ok (.lload_n 2, 1) := by decide +kernel
theorem d_M_topOf_13 : decode c_M_topOf 13 = .ok (.iload_n 0, 1) := by decide +kernel
theorem d_M_topOf_14 : decode c_M_topOf 14 = .ok (.bipush 24, 2) := by decide +kernel
theorem d_M_topOf_16 : decode c_M_topOf 16 = .ok (.ishr, 1) := by decide +kernel
theorem d_M_topOf_17 : decode c_M_topOf 17 = .ok (.bipush 127, 2) := by decide +kernel
theorem d_M_topOf_19 : decode c_M_topOf 19 = .ok (.iand, 1) := by decide +kernel
theorem d_M_topOf_20 : decode c_M_topOf 20 = .ok (.i2l, 1) := by decide +kernel
theorem d_M_topOf_21 : decode c_M_topOf 21 = .ok (.lload 4, 2) := by decide +kernel
theorem d_M_topOf_23 : decode c_M_topOf 23 = .ok (.lmul, 1) := by decide +kernel
theorem d_M_topOf_24 : decode c_M_topOf 24 = .ok (.lload_n 2, 1) := by decide +kernel
theorem d_M_topOf_25 : decode c_M_topOf 25 = .ok (.lsub, 1) := by decide +kernel
theorem d_M_topOf_26 : decode c_M_topOf 26 = .ok (.ldc2_w 45, 3) := by decide +kernel
theorem d_M_topOf_29 : decode c_M_topOf 29 = .ok (.lload 4, 2) := by decide +kernel
theorem d_M_topOf_31 : decode c_M_topOf 31 = .ok (.lmul, 1) := by decide +kernel
theorem d_M_topOf_32 : decode c_M_topOf 32 = .ok (.invokestatic 47, 3) := by decide +kernel
theorem d_M_topOf_35 : decode c_M_topOf 35 = .ok (.ladd, 1) := by decide +kernel
theorem d_M_topOf_36 : decode c_M_topOf 36 = .ok (.lreturn, 1) := by decide +kernel
theorem d_M_bounded_0 : decode c_M_bounded 0 = .ok (.iconst 0, 1) := by decide +kernel
theorem d_M_bounded_1 : decode c_M_bounded 1 = .ok (.istore 5, 2) := by decide +kernel
theorem d_M_bounded_3 : decode c_M_bounded 3 = .ok (.iload 5, 2) := by decide +kernel
theorem d_M_bounded_5 : decode c_M_bounded 5 = .ok (.bipush 31, 2) := by decide +kernel
theorem d_M_bounded_7 : decode c_M_bounded 7 = .ok (.if_icmp .ge 36, 3) := by decide +kernel
theorem d_M_bounded_10 : decode c_M_bounded 10 = .ok (.lload_n 3, 1) := by decide +kernel
theorem d_M_bounded_11 : decode c_M_bounded 11 = .ok (.lconst 1, 1) := by decide +kernel
theorem d_M_bounded_12 : decode c_M_bounded 12 = .ok (.iload 5, 2) := by decide +kernel
theorem d_M_bounded_14 : decode c_M_bounded 14 = .ok (.lshl, 1) := by decide +kernel
theorem d_M_bounded_15 : decode c_M_bounded 15 = .ok (.ladd, 1) := by decide +kernel
theorem d_M_bounded_16 : decode c_M_bounded 16 = .ok (.lconst 1, 1) := by decide +kernel
theorem d_M_bounded_17 : decode c_M_bounded 17 = .ok (.lsub, 1) := by decide +kernel
theorem d_M_bounded_18 : decode c_M_bounded 18 = .ok (.lconst 1, 1) := by decide +kernel
theorem d_M_bounded_19 : decode c_M_bounded 19 = .ok (.iload 5, 2) := by decide +kernel
theorem d_M_bounded_21 : decode c_M_bounded 21 = .ok (.lshl, 1) := by decide +kernel
theorem d_M_bounded_22 : decode c_M_bounded 22 = .ok (.ldiv, 1) := by decide +kernel
theorem d_M_bounded_23 : decode c_M_bounded 23 = .ok (.lload_n 1, 1) := by decide +kernel
theorem d_M_bounded_24 : decode c_M_bounded 24 = .ok (.lconst 1, 1) := by decide +kernel
theorem d_M_bounded_25 : decode c_M_bounded 25 = .ok (.iload 5, 2) := by decide +kernel
theorem d_M_bounded_27 : decode c_M_bounded 27 = .ok (.lshl, 1) := by decide +kernel
theorem d_M_bounded_28 : decode c_M_bounded 28 = .ok (.ldiv, 1) := by decide +kernel
theorem d_M_bounded_29 : decode c_M_bounded 29 = .ok (.lsub, 1) := by decide +kernel
theorem d_M_bounded_30 : decode c_M_bounded 30 = .ok (.ldc2_w 55, 3) := by decide +kernel
theorem d_M_bounded_33 : decode c_M_bounded 33 = .ok (.lcmp, 1) := by decide +kernel
theorem d_M_bounded_34 : decode c_M_bounded 34 = .ok (.ifCond .le 9, 3) := by decide +kernel
theorem d_M_bounded_37 : decode c_M_bounded 37 = .ok (.iinc 5 1, 3) := by decide +kernel
theorem d_M_bounded_40 : decode c_M_bounded 40 = .ok (.goto (-37), 3) := by decide +kernel
theorem d_M_bounded_43 : decode c_M_bounded 43 = .ok (.lload_n 1, 1) := by decide +kernel
theorem d_M_bounded_44 : decode c_M_bounded 44 = .ok (.lconst 1, 1) := by decide +kernel
theorem d_M_bounded_45 : decode c_M_bounded 45 = .ok (.iload 5, 2) := by decide +kernel
theorem d_M_bounded_47 : decode c_M_bounded 47 = .ok (.lshl, 1) := by decide +kernel
theorem d_M_bounded_48 : decode c_M_bounded 48 = .ok (.ldiv, 1) := by decide +kernel
theorem d_M_bounded_49 : decode c_M_bounded 49 = .ok (.lstore 6, 2) := by decide +kernel
theorem d_M_bounded_51 : decode c_M_bounded 51 = .ok (.lload_n 3, 1) := by decide +kernel
theorem d_M_bounded_52 : decode c_M_bounded 52 = .ok (.lconst 1, 1) := by decide +kernel
theorem d_M_bounded_53 : decode c_M_bounded 53 = .ok (.iload 5, 2) := by decide +kernel
theorem d_M_bounded_55 : decode c_M_bounded 55 = .ok (.lshl, 1) := by decide +kernel
theorem d_M_bounded_56 : decode c_M_bounded 56 = .ok (.ladd, 1) := by decide +kernel
theorem d_M_bounded_57 : decode c_M_bounded 57 = .ok (.lconst 1, 1) := by decide +kernel
theorem d_M_bounded_58 : decode c_M_bounded 58 = .ok (.lsub, 1) := by decide +kernel
theorem d_M_bounded_59 : decode c_M_bounded 59 = .ok (.lconst 1, 1) := by decide +kernel
theorem d_M_bounded_60 : decode c_M_bounded 60 = .ok (.iload 5, 2) := by decide +kernel
theorem d_M_bounded_62 : decode c_M_bounded 62 = .ok (.lshl, 1) := by decide +kernel
theorem d_M_bounded_63 : decode c_M_bounded 63 = .ok (.ldiv, 1) := by decide +kernel
theorem d_M_bounded_64 : decode c_M_bounded 64 = .ok (.lstore 8, 2) := by decide +kernel
theorem d_M_bounded_66 : decode c_M_bounded 66 = .ok (.iload_n 0, 1) := by decide +kernel
theorem d_M_bounded_67 : decode c_M_bounded 67 = .ok (.sipush 4095, 3) := by decide +kernel
theorem d_M_bounded_70 : decode c_M_bounded 70 = .ok (.iand, 1) := by decide +kernel
theorem d_M_bounded_71 : decode c_M_bounded 71 = .ok (.iload 5, 2) := by decide +kernel
theorem d_M_bounded_73 : decode c_M_bounded 73 = .ok (.bipush 12, 2) := by decide +kernel
theorem d_M_bounded_75 : decode c_M_bounded 75 = .ok (.ishl, 1) := by decide +kernel
theorem d_M_bounded_76 : decode c_M_bounded 76 = .ok (.ior, 1) := by decide +kernel
theorem d_M_bounded_77 : decode c_M_bounded 77 = .ok (.lload 6, 2) := by decide +kernel
theorem d_M_bounded_79 : decode c_M_bounded 79 = .ok (.ldc2_w 45, 3) := by decide +kernel
theorem d_M_bounded_82 : decode c_M_bounded 82 = .ok (.lrem, 1) := by decide +kernel
theorem d_M_bounded_83 : decode c_M_bounded 83 = .ok (.l2i, 1) := by decide +kernel
theorem d_M_bounded_84 : decode c_M_bounded 84 = .ok (.bipush 17, 2) := by decide +kernel
theorem d_M_bounded_86 : decode c_M_bounded 86 = .ok (.ishl, 1) := by decide +kernel
theorem d_M_bounded_87 : decode c_M_bounded 87 = .ok (.ior, 1) := by decide +kernel
theorem d_M_bounded_88 : decode c_M_bounded 88 = .ok (.lload 8, 2) := by decide +kernel
theorem d_M_bounded_90 : decode c_M_bounded 90 = .ok (.ldc2_w 45, 3) := by decide +kernel
theorem d_M_bounded_93 : decode c_M_bounded 93 = .ok (.lrem, 1) := by decide +kernel
theorem d_M_bounded_94 : decode c_M_bounded 94 = .ok (.l2i, 1) := by decide +kernel
theorem d_M_bounded_95 : decode c_M_bounded 95 = .ok (.bipush 24, 2) := by decide +kernel
theorem d_M_bounded_97 : decode c_M_bounded 97 = .ok (.ishl, 1) := by decide +kernel
theorem d_M_bounded_98 : decode c_M_bounded 98 = .ok (.ior, 1) := by decide +kernel
theorem d_M_bounded_99 : decode c_M_bounded 99 = .ok (.ireturn, 1) := by decide +kernel
theorem d_M_has_0 : decode c_M_has 0 = .ok (.aload_n 0, 1) := by decide +kernel
theorem d_M_has_1 : decode c_M_has 1 = .ok (.getfield 13, 3) := by decide +kernel
theorem d_M_has_4 : decode c_M_has 4 = .ok (.iload_n 1, 1) := by decide +kernel
theorem d_M_has_5 : decode c_M_has 5 = .ok (.iaload, 1) := by decide +kernel
theorem d_M_has_6 : decode c_M_has 6 = .ok (.iload_n 2, 1) := by decide +kernel
theorem d_M_has_7 : decode c_M_has 7 = .ok (.iand, 1) := by decide +kernel
theorem d_M_has_8 : decode c_M_has 8 = .ok (.iload_n 2, 1) := by decide +kernel
theorem d_M_has_9 : decode c_M_has 9 = .ok (.if_icmp .ne 7, 3) := by decide +kernel
theorem d_M_has_12 : decode c_M_has 12 = .ok (.iconst 1, 1) := by decide +kernel
theorem d_M_has_13 : decode c_M_has 13 = .ok (.goto 4, 3) := by decide +kernel
theorem d_M_has_16 : decode c_M_has 16 = .ok (.iconst 0, 1) := by decide +kernel
theorem d_M_has_17 : decode c_M_has 17 = .ok (.ireturn, 1) := by decide +kernel
theorem d_M_check_0 : decode c_M_check 0 = .ok (.iload 4, 2) := by decide +kernel
theorem d_M_check_2 : decode c_M_check 2 = .ok (.invokestatic 42, 3) := by decide +kernel
theorem d_M_check_5 : decode c_M_check 5 = .ok (.lstore 5, 2) := by decide +kernel
theorem d_M_check_7 : decode c_M_check 7 = .ok (.aload_n 0, 1) := by decide +kernel
theorem d_M_check_8 : decode c_M_check 8 = .ok (.getfield 16, 3) := by decide +kernel
theorem d_M_check_11 : decode c_M_check 11 = .ok (.iload_n 1, 1) := by decide +kernel
theorem d_M_check_12 : decode c_M_check 12 = .ok (.baload, 1) := by decide +kernel
theorem d_M_check_13 : decode c_M_check 13 = .ok (.ifCond .ne 5, 3) := by decide +kernel
theorem d_M_check_16 : decode c_M_check 16 = .ok (.iconst 1, 1) := by decide +kernel
theorem d_M_check_17 : decode c_M_check 17 = .ok (.ireturn, 1) := by decide +kernel
theorem d_M_check_18 : decode c_M_check 18 = .ok (.aload_n 0, 1) := by decide +kernel
theorem d_M_check_19 : decode c_M_check 19 = .ok (.getfield 13, 3) := by decide +kernel
theorem d_M_check_22 : decode c_M_check 22 = .ok (.iload_n 1, 1) := by decide +kernel
theorem d_M_check_23 : decode c_M_check 23 = .ok (.iaload, 1) := by decide +kernel
theorem d_M_check_24 : decode c_M_check 24 = .ok (.invokestatic 57, 3) := by decide +kernel
theorem d_M_check_27 : decode c_M_check 27 = .ok (.ifCond .eq 5, 3) := by decide +kernel
theorem d_M_check_30 : decode c_M_check 30 = .ok (.iconst 2, 1) := by decide +kernel
theorem d_M_check_31 : decode c_M_check 31 = .ok (.ireturn, 1) := by decide +kernel
theorem d_M_check_32 : decode c_M_check 32 = .ok (.aload_n 0, 1) := by decide +kernel
theorem d_M_check_33 : decode c_M_check 33 = .ok (.iload_n 1, 1) := by decide +kernel
theorem d_M_check_34 : decode c_M_check 34 = .ok (.iload_n 2, 1) := by decide +kernel
theorem d_M_check_35 : decode c_M_check 35 = .ok (.invokevirtual 61, 3) := by decide +kernel
theorem d_M_check_38 : decode c_M_check 38 = .ok (.ifCond .ne 5, 3) := by decide +kernel
theorem d_M_check_41 : decode c_M_check 41 = .ok (.iconst 3, 1) := by decide +kernel
theorem d_M_check_42 : decode c_M_check 42 = .ok (.ireturn, 1) := by decide +kernel
theorem d_M_check_43 : decode c_M_check 43 = .ok (.lload 5, 2) := by decide +kernel
theorem d_M_check_45 : decode c_M_check 45 = .ok (.iload_n 3, 1) := by decide +kernel
theorem d_M_check_46 : decode c_M_check 46 = .ok (.i2l, 1) := by decide +kernel
theorem d_M_check_47 : decode c_M_check 47 = .ok (.lrem, 1) := by decide +kernel
theorem d_M_check_48 : decode c_M_check 48 = .ok (.lconst 0, 1) := by decide +kernel
theorem d_M_check_49 : decode c_M_check 49 = .ok (.lcmp, 1) := by decide +kernel
theorem d_M_check_50 : decode c_M_check 50 = .ok (.ifCond .eq 5, 3) := by decide +kernel
theorem d_M_check_53 : decode c_M_check 53 = .ok (.iconst 4, 1) := by decide +kernel
theorem d_M_check_54 : decode c_M_check 54 = .ok (.ireturn, 1) := by decide +kernel
theorem d_M_check_55 : decode c_M_check 55 = .ok (.lload 5, 2) := by decide +kernel
theorem d_M_check_57 : decode c_M_check 57 = .ok (.aload_n 0, 1) := by decide +kernel
theorem d_M_check_58 : decode c_M_check 58 = .ok (.getfield 13, 3) := by decide +kernel
theorem d_M_check_61 : decode c_M_check 61 = .ok (.iload_n 1, 1) := by decide +kernel
theorem d_M_check_62 : decode c_M_check 62 = .ok (.iaload, 1) := by decide +kernel
theorem d_M_check_63 : decode c_M_check 63 = .ok (.aload_n 0, 1) := by decide +kernel
theorem d_M_check_64 : decode c_M_check 64 = .ok (.getfield 7, 3) := by decide +kernel
theorem d_M_check_67 : decode c_M_check 67 = .ok (.iload_n 1, 1) := by decide +kernel
theorem d_M_check_68 : decode c_M_check 68 = .ok (.iaload, 1) := by decide +kernel
theorem d_M_check_69 : decode c_M_check 69 = .ok (.invokestatic 65, 3) := by decide +kernel
theorem d_M_check_72 : decode c_M_check 72 = .ok (.lcmp, 1) := by decide +kernel
theorem d_M_check_73 : decode c_M_check 73 = .ok (.ifCond .lt 27, 3) := by decide +kernel
theorem d_M_check_76 : decode c_M_check 76 = .ok (.lload 5, 2) := by decide +kernel
theorem d_M_check_78 : decode c_M_check 78 = .ok (.iload_n 3, 1) := by decide +kernel
theorem d_M_check_79 : decode c_M_check 79 = .ok (.i2l, 1) := by decide +kernel
theorem d_M_check_80 : decode c_M_check 80 = .ok (.ladd, 1) := by decide +kernel
theorem d_M_check_81 : decode c_M_check 81 = .ok (.aload_n 0, 1) := by decide +kernel
theorem d_M_check_82 : decode c_M_check 82 = .ok (.getfield 13, 3) := by decide +kernel
theorem d_M_check_85 : decode c_M_check 85 = .ok (.iload_n 1, 1) := by decide +kernel
theorem d_M_check_86 : decode c_M_check 86 = .ok (.iaload, 1) := by decide +kernel
end
section
theorem d_M_check_87 : decode c_M_check 87 = .ok (.aload_n 0, 1) := by decide +kernel
theorem d_M_check_88 : decode c_M_check 88 = .ok (.getfield 7, 3) := by decide +kernel
theorem d_M_check_91 : decode c_M_check 91 = .ok (.iload_n 1, 1) := by decide +kernel
theorem d_M_check_92 : decode c_M_check 92 = .ok (.iaload, 1) := by decide +kernel
theorem d_M_check_93 : decode c_M_check 93 = .ok (.invokestatic 68, 3) := by decide +kernel
theorem d_M_check_96 : decode c_M_check 96 = .ok (.lcmp, 1) := by decide +kernel
theorem d_M_check_97 : decode c_M_check 97 = .ok (.ifCond .le 5, 3) := by decide +kernel
theorem d_M_check_100 : decode c_M_check 100 = .ok (.iconst 5, 1) := by decide +kernel
theorem d_M_check_101 : decode c_M_check 101 = .ok (.ireturn, 1) := by decide +kernel
theorem d_M_check_102 : decode c_M_check 102 = .ok (.lload 5, 2) := by decide +kernel
theorem d_M_check_104 : decode c_M_check 104 = .ok (.iload_n 3, 1) := by decide +kernel
theorem d_M_check_105 : decode c_M_check 105 = .ok (.i2l, 1) := by decide +kernel
theorem d_M_check_106 : decode c_M_check 106 = .ok (.ladd, 1) := by decide +kernel
theorem d_M_check_107 : decode c_M_check 107 = .ok (.ldc2_w 30, 3) := by decide +kernel
theorem d_M_check_110 : decode c_M_check 110 = .ok (.lcmp, 1) := by decide +kernel
theorem d_M_check_111 : decode c_M_check 111 = .ok (.ifCond .le 8, 3) := by decide +kernel
theorem d_M_check_114 : decode c_M_check 114 = .ok (.bipush 6, 2) := by decide +kernel
theorem d_M_check_116 : decode c_M_check 116 = .ok (.goto 4, 3) := by decide +kernel
theorem d_M_check_119 : decode c_M_check 119 = .ok (.iconst 0, 1) := by decide +kernel
theorem d_M_check_120 : decode c_M_check 120 = .ok (.ireturn, 1) := by decide +kernel
theorem d_M_of_0 : decode c_M_of 0 = .ok (.iload_n 1, 1) := by decide +kernel
theorem d_M_of_1 : decode c_M_of 1 = .ok (.ifCond .ne 7, 3) := by decide +kernel
theorem d_M_of_4 : decode c_M_of 4 = .ok (.iconst 0, 1) := by decide +kernel
theorem d_M_of_5 : decode c_M_of 5 = .ok (.goto 9, 3) := by decide +kernel
theorem d_M_of_8 : decode c_M_of 8 = .ok (.iload_n 1, 1) := by decide +kernel
theorem d_M_of_9 : decode c_M_of 9 = .ok (.bipush 16, 2) := by decide +kernel
theorem d_M_of_11 : decode c_M_of 11 = .ok (.iload_n 0, 1) := by decide +kernel
theorem d_M_of_12 : decode c_M_of 12 = .ok (.imul, 1) := by decide +kernel
theorem d_M_of_13 : decode c_M_of 13 = .ok (.iadd, 1) := by decide +kernel
theorem d_M_of_14 : decode c_M_of 14 = .ok (.ireturn, 1) := by decide +kernel
theorem d_M_take_0 : decode c_M_take 0 = .ok (.aload_n 0, 1) := by decide +kernel
theorem d_M_take_1 : decode c_M_take 1 = .ok (.aload_n 0, 1) := by decide +kernel
theorem d_M_take_2 : decode c_M_take 2 = .ok (.getfield 7, 3) := by decide +kernel
theorem d_M_take_5 : decode c_M_take 5 = .ok (.iload_n 1, 1) := by decide +kernel
theorem d_M_take_6 : decode c_M_take 6 = .ok (.iaload, 1) := by decide +kernel
theorem d_M_take_7 : decode c_M_take 7 = .ok (.putfield 71, 3) := by decide +kernel
theorem d_M_take_10 : decode c_M_take 10 = .ok (.aload_n 0, 1) := by decide +kernel
theorem d_M_take_11 : decode c_M_take 11 = .ok (.aload_n 0, 1) := by decide +kernel
theorem d_M_take_12 : decode c_M_take 12 = .ok (.getfield 13, 3) := by decide +kernel
theorem d_M_take_15 : decode c_M_take 15 = .ok (.iload_n 1, 1) := by decide +kernel
theorem d_M_take_16 : decode c_M_take 16 = .ok (.iaload, 1) := by decide +kernel
theorem d_M_take_17 : decode c_M_take 17 = .ok (.putfield 75, 3) := by decide +kernel
theorem d_M_take_20 : decode c_M_take 20 = .ok (.aload_n 0, 1) := by decide +kernel
theorem d_M_take_21 : decode c_M_take 21 = .ok (.aload_n 0, 1) := by decide +kernel
theorem d_M_take_22 : decode c_M_take 22 = .ok (.getfield 16, 3) := by decide +kernel
theorem d_M_take_25 : decode c_M_take 25 = .ok (.iload_n 1, 1) := by decide +kernel
theorem d_M_take_26 : decode c_M_take 26 = .ok (.baload, 1) := by decide +kernel
theorem d_M_take_27 : decode c_M_take 27 = .ok (.putfield 78, 3) := by decide +kernel
theorem d_M_take_30 : decode c_M_take 30 = .ok (.return_, 1) := by decide +kernel
theorem d_M_number_0 : decode c_M_number 0 = .ok (.aload_n 0, 1) := by decide +kernel
theorem d_M_number_1 : decode c_M_number 1 = .ok (.iload_n 1, 1) := by decide +kernel
theorem d_M_number_2 : decode c_M_number 2 = .ok (.putfield 71, 3) := by decide +kernel
theorem d_M_number_5 : decode c_M_number 5 = .ok (.aload_n 0, 1) := by decide +kernel
theorem d_M_number_6 : decode c_M_number 6 = .ok (.iconst 0, 1) := by decide +kernel
theorem d_M_number_7 : decode c_M_number 7 = .ok (.putfield 75, 3) := by decide +kernel
theorem d_M_number_10 : decode c_M_number 10 = .ok (.aload_n 0, 1) := by decide +kernel
theorem d_M_number_11 : decode c_M_number 11 = .ok (.iconst 0, 1) := by decide +kernel
theorem d_M_number_12 : decode c_M_number 12 = .ok (.putfield 78, 3) := by decide +kernel
theorem d_M_number_15 : decode c_M_number 15 = .ok (.return_, 1) := by decide +kernel
theorem d_M_move_0 : decode c_M_move 0 = .ok (.aload_n 0, 1) := by decide +kernel
theorem d_M_move_1 : decode c_M_move 1 = .ok (.getfield 75, 3) := by decide +kernel
theorem d_M_move_4 : decode c_M_move 4 = .ok (.aload_n 0, 1) := by decide +kernel
theorem d_M_move_5 : decode c_M_move 5 = .ok (.getfield 71, 3) := by decide +kernel
theorem d_M_move_8 : decode c_M_move 8 = .ok (.invokestatic 65, 3) := by decide +kernel
theorem d_M_move_11 : decode c_M_move 11 = .ok (.lstore_n 2, 1) := by decide +kernel
theorem d_M_move_12 : decode c_M_move 12 = .ok (.aload_n 0, 1) := by decide +kernel
theorem d_M_move_13 : decode c_M_move 13 = .ok (.getfield 75, 3) := by decide +kernel
theorem d_M_move_16 : decode c_M_move 16 = .ok (.aload_n 0, 1) := by decide +kernel
theorem d_M_move_17 : decode c_M_move 17 = .ok (.getfield 71, 3) := by decide +kernel
theorem d_M_move_20 : decode c_M_move 20 = .ok (.invokestatic 68, 3) := by decide +kernel
theorem d_M_move_23 : decode c_M_move 23 = .ok (.lstore 4, 2) := by decide +kernel
theorem d_M_move_25 : decode c_M_move 25 = .ok (.aload_n 0, 1) := by decide +kernel
theorem d_M_move_26 : decode c_M_move 26 = .ok (.iload_n 1, 1) := by decide +kernel
theorem d_M_move_27 : decode c_M_move 27 = .ok (.putfield 71, 3) := by decide +kernel
theorem d_M_move_30 : decode c_M_move 30 = .ok (.aload_n 0, 1) := by decide +kernel
theorem d_M_move_31 : decode c_M_move 31 = .ok (.aload_n 0, 1) := by decide +kernel
theorem d_M_move_32 : decode c_M_move 32 = .ok (.getfield 78, 3) := by decide +kernel
theorem d_M_move_35 : decode c_M_move 35 = .ok (.ifCond .eq 44, 3) := by decide +kernel
theorem d_M_move_38 : decode c_M_move 38 = .ok (.aload_n 0, 1) := by decide +kernel
theorem d_M_move_39 : decode c_M_move 39 = .ok (.getfield 75, 3) := by decide +kernel
theorem d_M_move_42 : decode c_M_move 42 = .ok (.invokestatic 57, 3) := by decide +kernel
theorem d_M_move_45 : decode c_M_move 45 = .ok (.ifCond .ne 34, 3) := by decide +kernel
theorem d_M_move_48 : decode c_M_move 48 = .ok (.aload_n 0, 1) := by decide +kernel
theorem d_M_move_49 : decode c_M_move 49 = .ok (.getfield 75, 3) := by decide +kernel
theorem d_M_move_52 : decode c_M_move 52 = .ok (.iload_n 1, 1) := by decide +kernel
theorem d_M_move_53 : decode c_M_move 53 = .ok (.invokestatic 65, 3) := by decide +kernel
theorem d_M_move_56 : decode c_M_move 56 = .ok (.lload_n 2, 1) := by decide +kernel
theorem d_M_move_57 : decode c_M_move 57 = .ok (.lcmp, 1) := by decide +kernel
theorem d_M_move_58 : decode c_M_move 58 = .ok (.ifCond .ne 21, 3) := by decide +kernel
theorem d_M_move_61 : decode c_M_move 61 = .ok (.aload_n 0, 1) := by decide +kernel
theorem d_M_move_62 : decode c_M_move 62 = .ok (.getfield 75, 3) := by decide +kernel
theorem d_M_move_65 : decode c_M_move 65 = .ok (.iload_n 1, 1) := by decide +kernel
theorem d_M_move_66 : decode c_M_move 66 = .ok (.invokestatic 68, 3) := by decide +kernel
theorem d_M_move_69 : decode c_M_move 69 = .ok (.lload 4, 2) := by decide +kernel
theorem d_M_move_71 : decode c_M_move 71 = .ok (.lcmp, 1) := by decide +kernel
theorem d_M_move_72 : decode c_M_move 72 = .ok (.ifCond .ne 7, 3) := by decide +kernel
theorem d_M_move_75 : decode c_M_move 75 = .ok (.iconst 1, 1) := by decide +kernel
theorem d_M_move_76 : decode c_M_move 76 = .ok (.goto 4, 3) := by decide +kernel
theorem d_M_move_79 : decode c_M_move 79 = .ok (.iconst 0, 1) := by decide +kernel
theorem d_M_move_80 : decode c_M_move 80 = .ok (.putfield 78, 3) := by decide +kernel
theorem d_M_move_83 : decode c_M_move 83 = .ok (.return_, 1) := by decide +kernel
theorem d_M_typed_0 : decode c_M_typed 0 = .ok (.aload_n 0, 1) := by decide +kernel
theorem d_M_typed_1 : decode c_M_typed 1 = .ok (.iload_n 1, 1) := by decide +kernel
theorem d_M_typed_2 : decode c_M_typed 2 = .ok (.sipush (-3841), 3) := by decide +kernel
theorem d_M_typed_5 : decode c_M_typed 5 = .ok (.iand, 1) := by decide +kernel
theorem d_M_typed_6 : decode c_M_typed 6 = .ok (.iload_n 2, 1) := by decide +kernel
theorem d_M_typed_7 : decode c_M_typed 7 = .ok (.bipush 8, 2) := by decide +kernel
theorem d_M_typed_9 : decode c_M_typed 9 = .ok (.ishl, 1) := by decide +kernel
theorem d_M_typed_10 : decode c_M_typed 10 = .ok (.ior, 1) := by decide +kernel
theorem d_M_typed_11 : decode c_M_typed 11 = .ok (.putfield 75, 3) := by decide +kernel
theorem d_M_typed_14 : decode c_M_typed 14 = .ok (.return_, 1) := by decide +kernel
theorem d_M_put_0 : decode c_M_put 0 = .ok (.iload_n 1, 1) := by decide +kernel
theorem d_M_put_1 : decode c_M_put 1 = .ok (.ifCond .le 33, 3) := by decide +kernel
theorem d_M_put_4 : decode c_M_put 4 = .ok (.aload_n 0, 1) := by decide +kernel
theorem d_M_put_5 : decode c_M_put 5 = .ok (.getfield 7, 3) := by decide +kernel
theorem d_M_put_8 : decode c_M_put 8 = .ok (.iload_n 1, 1) := by decide +kernel
theorem d_M_put_9 : decode c_M_put 9 = .ok (.aload_n 0, 1) := by decide +kernel
theorem d_M_put_10 : decode c_M_put 10 = .ok (.getfield 71, 3) := by decide +kernel
theorem d_M_put_13 : decode c_M_put 13 = .ok (.iastore, 1) := by decide +kernel
theorem d_M_put_14 : decode c_M_put 14 = .ok (.aload_n 0, 1) := by decide +kernel
theorem d_M_put_15 : decode c_M_put 15 = .ok (.getfield 13, 3) := by decide +kernel
theorem d_M_put_18 : decode c_M_put 18 = .ok (.iload_n 1, 1) := by decide +kernel
theorem d_M_put_19 : decode c_M_put 19 = .ok (.aload_n 0, 1) := by decide +kernel
theorem d_M_put_20 : decode c_M_put 20 = .ok (.getfield 75, 3) := by decide +kernel
theorem d_M_put_23 : decode c_M_put 23 = .ok (.iastore, 1) := by decide +kernel
theorem d_M_put_24 : decode c_M_put 24 = .ok (.aload_n 0, 1) := by decide +kernel
theorem d_M_put_25 : decode c_M_put 25 = .ok (.getfield 16, 3) := by decide +kernel
theorem d_M_put_28 : decode c_M_put 28 = .ok (.iload_n 1, 1) := by decide +kernel
theorem d_M_put_29 : decode c_M_put 29 = .ok (.aload_n 0, 1) := by decide +kernel
theorem d_M_put_30 : decode c_M_put 30 = .ok (.getfield 78, 3) := by decide +kernel
theorem d_M_put_33 : decode c_M_put 33 = .ok (.bastore, 1) := by decide +kernel
theorem d_M_put_34 : decode c_M_put 34 = .ok (.return_, 1) := by decide +kernel
theorem d_M_go_0 : decode c_M_go 0 = .ok (.aload_n 0, 1) := by decide +kernel
theorem d_M_go_1 : decode c_M_go 1 = .ok (.bipush 8, 2) := by decide +kernel
theorem d_M_go_3 : decode c_M_go 3 = .ok (.invokevirtual 82, 3) := by decide +kernel
theorem d_M_go_6 : decode c_M_go 6 = .ok (.aload_n 0, 1) := by decide +kernel
theorem d_M_go_7 : decode c_M_go 7 = .ok (.aload_n 0, 1) := by decide +kernel
theorem d_M_go_8 : decode c_M_go 8 = .ok (.getfield 7, 3) := by decide +kernel
theorem d_M_go_11 : decode c_M_go 11 = .ok (.bipush 8, 2) := by decide +kernel
theorem d_M_go_13 : decode c_M_go 13 = .ok (.iaload, 1) := by decide +kernel
theorem d_M_go_14 : decode c_M_go 14 = .ok (.iload_n 1, 1) := by decide +kernel
theorem d_M_go_15 : decode c_M_go 15 = .ok (.iadd, 1) := by decide +kernel
theorem d_M_go_16 : decode c_M_go 16 = .ok (.invokevirtual 86, 3) := by decide +kernel
theorem d_M_go_19 : decode c_M_go 19 = .ok (.aload_n 0, 1) := by decide +kernel
theorem d_M_go_20 : decode c_M_go 20 = .ok (.bipush 8, 2) := by decide +kernel
theorem d_M_go_22 : decode c_M_go 22 = .ok (.invokevirtual 89, 3) := by decide +kernel
theorem d_M_go_25 : decode c_M_go 25 = .ok (.return_, 1) := by decide +kernel
theorem d_M_link_0 : decode c_M_link 0 = .ok (.aload_n 0, 1) := by decide +kernel
theorem d_M_link_1 : decode c_M_link 1 = .ok (.bipush 8, 2) := by decide +kernel
theorem d_M_link_3 : decode c_M_link 3 = .ok (.invokevirtual 82, 3) := by decide +kernel
theorem d_M_link_6 : decode c_M_link 6 = .ok (.aload_n 0, 1) := by decide +kernel
theorem d_M_link_7 : decode c_M_link 7 = .ok (.aload_n 0, 1) := by decide +kernel
theorem d_M_link_8 : decode c_M_link 8 = .ok (.getfield 7, 3) := by decide +kernel
theorem d_M_link_11 : decode c_M_link 11 = .ok (.bipush 8, 2) := by decide +kernel
theorem d_M_link_13 : decode c_M_link 13 = .ok (.iaload, 1) := by decide +kernel
theorem d_M_link_14 : decode c_M_link 14 = .ok (.iconst 4, 1) := by decide +kernel
theorem d_M_link_15 : decode c_M_link 15 = .ok (.iadd, 1) := by decide +kernel
theorem d_M_link_16 : decode c_M_link 16 = .ok (.invokevirtual 86, 3) := by decide +kernel
theorem d_M_link_19 : decode c_M_link 19 = .ok (.aload_n 0, 1) := by decide +kernel
theorem d_M_link_20 : decode c_M_link 20 = .ok (.aload_n 0, 1) := by decide +kernel
theorem d_M_link_21 : decode c_M_link 21 = .ok (.getfield 75, 3) := by decide +kernel
theorem d_M_link_24 : decode c_M_link 24 = .ok (.iconst 1, 1) := by decide +kernel
theorem d_M_link_25 : decode c_M_link 25 = .ok (.invokevirtual 92, 3) := by decide +kernel
theorem d_M_link_28 : decode c_M_link 28 = .ok (.return_, 1) := by decide +kernel
theorem d_M_trapOf_0 : decode c_M_trapOf 0 = .ok (.aload_n 0, 1) := by decide +kernel
theorem d_M_trapOf_1 : decode c_M_trapOf 1 = .ok (.getfield 7, 3) := by decide +kernel
theorem d_M_trapOf_4 : decode c_M_trapOf 4 = .ok (.iload_n 2, 1) := by decide +kernel
theorem d_M_trapOf_5 : decode c_M_trapOf 5 = .ok (.iaload, 1) := by decide +kernel
theorem d_M_trapOf_6 : decode c_M_trapOf 6 = .ok (.istore 5, 2) := by decide +kernel
theorem d_M_trapOf_8 : decode c_M_trapOf 8 = .ok (.aload_n 0, 1) := by decide +kernel
theorem d_M_trapOf_9 : decode c_M_trapOf 9 = .ok (.getfield 7, 3) := by decide +kernel
theorem d_M_trapOf_12 : decode c_M_trapOf 12 = .ok (.iload_n 3, 1) := by decide +kernel
theorem d_M_trapOf_13 : decode c_M_trapOf 13 = .ok (.iaload, 1) := by decide +kernel
theorem d_M_trapOf_14 : decode c_M_trapOf 14 = .ok (.istore 6, 2) := by decide +kernel
theorem d_M_trapOf_16 : decode c_M_trapOf 16 = .ok (.iload_n 1, 1) := by decide +kernel
theorem d_M_trapOf_17 : decode c_M_trapOf 17 = .ok (.bipush 11, 2) := by decide +kernel
theorem d_M_trapOf_19 : decode c_M_trapOf 19 = .ok (.if_icmp .eq 9, 3) := by decide +kernel
theorem d_M_trapOf_22 : decode c_M_trapOf 22 = .ok (.iload_n 1, 1) := by decide +kernel
theorem d_M_trapOf_23 : decode c_M_trapOf 23 = .ok (.bipush 13, 2) := by decide +kernel
theorem d_M_trapOf_25 : decode c_M_trapOf 25 = .ok (.if_icmp .ne 31, 3) := by decide +kernel
theorem d_M_trapOf_28 : decode c_M_trapOf 28 = .ok (.iload_n 2, 1) := by decide +kernel
theorem d_M_trapOf_29 : decode c_M_trapOf 29 = .ok (.aload_n 0, 1) := by decide +kernel
theorem d_M_trapOf_30 : decode c_M_trapOf 30 = .ok (.iload_n 2, 1) := by decide +kernel
theorem d_M_trapOf_31 : decode c_M_trapOf 31 = .ok (.iconst 2, 1) := by decide +kernel
theorem d_M_trapOf_32 : decode c_M_trapOf 32 = .ok (.iload_n 1, 1) := by decide +kernel
theorem d_M_trapOf_33 : decode c_M_trapOf 33 = .ok (.bipush 11, 2) := by decide +kernel
theorem d_M_trapOf_35 : decode c_M_trapOf 35 = .ok (.if_icmp .ne 7, 3) := by decide +kernel
theorem d_M_trapOf_38 : decode c_M_trapOf 38 = .ok (.iconst 4, 1) := by decide +kernel
theorem d_M_trapOf_39 : decode c_M_trapOf 39 = .ok (.goto 5, 3) := by decide +kernel
theorem d_M_trapOf_42 : decode c_M_trapOf 42 = .ok (.bipush 8, 2) := by decide +kernel
theorem d_M_trapOf_44 : decode c_M_trapOf 44 = .ok (.iload 5, 2) := by decide +kernel
theorem d_M_trapOf_46 : decode c_M_trapOf 46 = .ok (.iload 4, 2) := by decide +kernel
theorem d_M_trapOf_48 : decode c_M_trapOf 48 = .ok (.iadd, 1) := by decide +kernel
theorem d_M_trapOf_49 : decode c_M_trapOf 49 = .ok (.invokevirtual 95, 3) := by decide +kernel
theorem d_M_trapOf_52 : decode c_M_trapOf 52 = .ok (.invokestatic 99, 3) := by decide +kernel
theorem d_M_trapOf_55 : decode c_M_trapOf 55 = .ok (.ireturn, 1) := by decide +kernel
theorem d_M_trapOf_56 : decode c_M_trapOf 56 = .ok (.iload_n 1, 1) := by decide +kernel
theorem d_M_trapOf_57 : decode c_M_trapOf 57 = .ok (.bipush 12, 2) := by decide +kernel
theorem d_M_trapOf_59 : decode c_M_trapOf 59 = .ok (.if_icmp .eq 9, 3) := by decide +kernel
theorem d_M_trapOf_62 : decode c_M_trapOf 62 = .ok (.iload_n 1, 1) := by decide +kernel
theorem d_M_trapOf_63 : decode c_M_trapOf 63 = .ok (.bipush 14, 2) := by decide +kernel
theorem d_M_trapOf_65 : decode c_M_trapOf 65 = .ok (.if_icmp .ne 51, 3) := by decide +kernel
theorem d_M_trapOf_68 : decode c_M_trapOf 68 = .ok (.iload_n 2, 1) := by decide +kernel
theorem d_M_trapOf_69 : decode c_M_trapOf 69 = .ok (.aload_n 0, 1) := by decide +kernel
theorem d_M_trapOf_70 : decode c_M_trapOf 70 = .ok (.iload_n 2, 1) := by decide +kernel
theorem d_M_trapOf_71 : decode c_M_trapOf 71 = .ok (.iload_n 1, 1) := by decide +kernel
theorem d_M_trapOf_72 : decode c_M_trapOf 72 = .ok (.bipush 14, 2) := by decide +kernel
theorem d_M_trapOf_74 : decode c_M_trapOf 74 = .ok (.if_icmp .ne 17, 3) := by decide +kernel
theorem d_M_trapOf_77 : decode c_M_trapOf 77 = .ok (.aload_n 0, 1) := by decide +kernel
theorem d_M_trapOf_78 : decode c_M_trapOf 78 = .ok (.getfield 16, 3) := by decide +kernel
theorem d_M_trapOf_81 : decode c_M_trapOf 81 = .ok (.iload_n 3, 1) := by decide +kernel
theorem d_M_trapOf_82 : decode c_M_trapOf 82 = .ok (.baload, 1) := by decide +kernel
theorem d_M_trapOf_83 : decode c_M_trapOf 83 = .ok (.ifCond .eq 8, 3) := by decide +kernel
theorem d_M_trapOf_86 : decode c_M_trapOf 86 = .ok (.bipush 20, 2) := by decide +kernel
theorem d_M_trapOf_88 : decode c_M_trapOf 88 = .ok (.goto 4, 3) := by decide +kernel
theorem d_M_trapOf_91 : decode c_M_trapOf 91 = .ok (.iconst 4, 1) := by decide +kernel
theorem d_M_trapOf_92 : decode c_M_trapOf 92 = .ok (.iload_n 1, 1) := by decide +kernel
theorem d_M_trapOf_93 : decode c_M_trapOf 93 = .ok (.bipush 12, 2) := by decide +kernel
theorem d_M_trapOf_95 : decode c_M_trapOf 95 = .ok (.if_icmp .ne 7, 3) := by decide +kernel
theorem d_M_trapOf_98 : decode c_M_trapOf 98 = .ok (.iconst 4, 1) := by decide +kernel
theorem d_M_trapOf_99 : decode c_M_trapOf 99 = .ok (.goto 5, 3) := by decide +kernel
theorem d_M_trapOf_102 : decode c_M_trapOf 102 = .ok (.bipush 8, 2) := by decide +kernel
theorem d_M_trapOf_104 : decode c_M_trapOf 104 = .ok (.iload 5, 2) := by decide +kernel
theorem d_M_trapOf_106 : decode c_M_trapOf 106 = .ok (.iload 4, 2) := by decide +kernel
theorem d_M_trapOf_108 : decode c_M_trapOf 108 = .ok (.iadd, 1) := by decide +kernel
theorem d_M_trapOf_109 : decode c_M_trapOf 109 = .ok (.invokevirtual 95, 3) := by decide +kernel
theorem d_M_trapOf_112 : decode c_M_trapOf 112 = .ok (.invokestatic 99, 3) := by decide +kernel
theorem d_M_trapOf_115 : decode c_M_trapOf 115 = .ok (.ireturn, 1) := by decide +kernel
theorem d_M_trapOf_116 : decode c_M_trapOf 116 = .ok (.iload_n 1, 1) := by decide +kernel
theorem d_M_trapOf_117 : decode c_M_trapOf 117 = .ok (.bipush 18, 2) := by decide +kernel
theorem d_M_trapOf_119 : decode c_M_trapOf 119 = .ok (.if_icmp .ne 52, 3) := by decide +kernel
theorem d_M_trapOf_122 : decode c_M_trapOf 122 = .ok (.iload_n 2, 1) := by decide +kernel
theorem d_M_trapOf_123 : decode c_M_trapOf 123 = .ok (.aload_n 0, 1) := by decide +kernel
theorem d_M_trapOf_124 : decode c_M_trapOf 124 = .ok (.getfield 16, 3) := by decide +kernel
theorem d_M_trapOf_127 : decode c_M_trapOf 127 = .ok (.iload_n 2, 1) := by decide +kernel
theorem d_M_trapOf_128 : decode c_M_trapOf 128 = .ok (.baload, 1) := by decide +kernel
theorem d_M_trapOf_129 : decode c_M_trapOf 129 = .ok (.ifCond .ne 7, 3) := by decide +kernel
theorem d_M_trapOf_132 : decode c_M_trapOf 132 = .ok (.iconst 1, 1) := by decide +kernel
theorem d_M_trapOf_133 : decode c_M_trapOf 133 = .ok (.goto 34, 3) := by decide +kernel
theorem d_M_trapOf_136 : decode c_M_trapOf 136 = .ok (.aload_n 0, 1) := by decide +kernel
theorem d_M_trapOf_137 : decode c_M_trapOf 137 = .ok (.getfield 13, 3) := by decide +kernel
theorem d_M_trapOf_140 : decode c_M_trapOf 140 = .ok (.iload_n 2, 1) := by decide +kernel
theorem d_M_trapOf_141 : decode c_M_trapOf 141 = .ok (.iaload, 1) := by decide +kernel
theorem d_M_trapOf_142 : decode c_M_trapOf 142 = .ok (.invokestatic 57, 3) := by decide +kernel
theorem d_M_trapOf_145 : decode c_M_trapOf 145 = .ok (.iconst 1, 1) := by decide +kernel
theorem d_M_trapOf_146 : decode c_M_trapOf 146 = .ok (.if_icmp .le 7, 3) := by decide +kernel
theorem d_M_trapOf_149 : decode c_M_trapOf 149 = .ok (.iconst 2, 1) := by decide +kernel
theorem d_M_trapOf_150 : decode c_M_trapOf 150 = .ok (.goto 17, 3) := by decide +kernel
theorem d_M_trapOf_153 : decode c_M_trapOf 153 = .ok (.aload_n 0, 1) := by decide +kernel
theorem d_M_trapOf_154 : decode c_M_trapOf 154 = .ok (.iload_n 2, 1) := by decide +kernel
theorem d_M_trapOf_155 : decode c_M_trapOf 155 = .ok (.iconst 1, 1) := by decide +kernel
theorem d_M_trapOf_156 : decode c_M_trapOf 156 = .ok (.invokevirtual 61, 3) := by decide +kernel
theorem d_M_trapOf_159 : decode c_M_trapOf 159 = .ok (.ifCond .ne 7, 3) := by decide +kernel
theorem d_M_trapOf_162 : decode c_M_trapOf 162 = .ok (.iconst 3, 1) := by decide +kernel
theorem d_M_trapOf_163 : decode c_M_trapOf 163 = .ok (.goto 4, 3) := by decide +kernel
theorem d_M_trapOf_166 : decode c_M_trapOf 166 = .ok (.iconst 0, 1) := by decide +kernel
theorem d_M_trapOf_167 : decode c_M_trapOf 167 = .ok (.invokestatic 99, 3) := by decide +kernel
theorem d_M_trapOf_170 : decode c_M_trapOf 170 = .ok (.ireturn, 1) := by decide +kernel
theorem d_M_trapOf_171 : decode c_M_trapOf 171 = .ok (.iload_n 1, 1) := by decide +kernel
theorem d_M_trapOf_172 : decode c_M_trapOf 172 = .ok (.bipush 23, 2) := by decide +kernel
theorem d_M_trapOf_174 : decode c_M_trapOf 174 = .ok (.if_icmp .eq 9, 3) := by decide +kernel
theorem d_M_trapOf_177 : decode c_M_trapOf 177 = .ok (.iload_n 1, 1) := by decide +kernel
theorem d_M_trapOf_178 : decode c_M_trapOf 178 = .ok (.bipush 24, 2) := by decide +kernel
theorem d_M_trapOf_180 : decode c_M_trapOf 180 = .ok (.if_icmp .ne 23, 3) := by decide +kernel
theorem d_M_trapOf_183 : decode c_M_trapOf 183 = .ok (.aload_n 0, 1) := by decide +kernel
theorem d_M_trapOf_184 : decode c_M_trapOf 184 = .ok (.iload_n 1, 1) := by decide +kernel
theorem d_M_trapOf_185 : decode c_M_trapOf 185 = .ok (.bipush 23, 2) := by decide +kernel
theorem d_M_trapOf_187 : decode c_M_trapOf 187 = .ok (.if_icmp .ne 7, 3) := by decide +kernel
theorem d_M_trapOf_190 : decode c_M_trapOf 190 = .ok (.iconst 1, 1) := by decide +kernel
theorem d_M_trapOf_191 : decode c_M_trapOf 191 = .ok (.goto 4, 3) := by decide +kernel
theorem d_M_trapOf_194 : decode c_M_trapOf 194 = .ok (.iconst 0, 1) := by decide +kernel
theorem d_M_trapOf_195 : decode c_M_trapOf 195 = .ok (.iload_n 2, 1) := by decide +kernel
theorem d_M_trapOf_196 : decode c_M_trapOf 196 = .ok (.iload_n 3, 1) := by decide +kernel
theorem d_M_trapOf_197 : decode c_M_trapOf 197 = .ok (.iload 6, 2) := by decide +kernel
theorem d_M_trapOf_199 : decode c_M_trapOf 199 = .ok (.invokevirtual 103, 3) := by decide +kernel
theorem d_M_trapOf_202 : decode c_M_trapOf 202 = .ok (.ireturn, 1) := by decide +kernel
theorem d_M_trapOf_203 : decode c_M_trapOf 203 = .ok (.iload_n 1, 1) := by decide +kernel
theorem d_M_trapOf_204 : decode c_M_trapOf 204 = .ok (.bipush 29, 2) := by decide +kernel
theorem d_M_trapOf_206 : decode c_M_trapOf 206 = .ok (.if_icmp .ne 42, 3) := by decide +kernel
theorem d_M_trapOf_209 : decode c_M_trapOf 209 = .ok (.bipush 8, 2) := by decide +kernel
theorem d_M_trapOf_211 : decode c_M_trapOf 211 = .ok (.aload_n 0, 1) := by decide +kernel
theorem d_M_trapOf_212 : decode c_M_trapOf 212 = .ok (.bipush 8, 2) := by decide +kernel
theorem d_M_trapOf_214 : decode c_M_trapOf 214 = .ok (.sipush 128, 3) := by decide +kernel
theorem d_M_trapOf_217 : decode c_M_trapOf 217 = .ok (.invokevirtual 61, 3) := by decide +kernel
theorem d_M_trapOf_220 : decode c_M_trapOf 220 = .ok (.ifCond .ne 7, 3) := by decide +kernel
theorem d_M_trapOf_223 : decode c_M_trapOf 223 = .ok (.iconst 3, 1) := by decide +kernel
theorem d_M_trapOf_224 : decode c_M_trapOf 224 = .ok (.goto 20, 3) := by decide +kernel
theorem d_M_trapOf_227 : decode c_M_trapOf 227 = .ok (.iload 4, 2) := by decide +kernel
theorem d_M_trapOf_229 : decode c_M_trapOf 229 = .ok (.ifCond .lt 9, 3) := by decide +kernel
theorem d_M_trapOf_232 : decode c_M_trapOf 232 = .ok (.iload 4, 2) := by decide +kernel
theorem d_M_trapOf_234 : decode c_M_trapOf 234 = .ok (.iconst 2, 1) := by decide +kernel
theorem d_M_trapOf_235 : decode c_M_trapOf 235 = .ok (.if_icmp .le 8, 3) := by decide +kernel
theorem d_M_trapOf_238 : decode c_M_trapOf 238 = .ok (.bipush 8, 2) := by decide +kernel
theorem d_M_trapOf_240 : decode c_M_trapOf 240 = .ok (.goto 4, 3) := by decide +kernel
theorem d_M_trapOf_243 : decode c_M_trapOf 243 = .ok (.iconst 0, 1) := by decide +kernel
theorem d_M_trapOf_244 : decode c_M_trapOf 244 = .ok (.invokestatic 99, 3) := by decide +kernel
theorem d_M_trapOf_247 : decode c_M_trapOf 247 = .ok (.ireturn, 1) := by decide +kernel
theorem d_M_trapOf_248 : decode c_M_trapOf 248 = .ok (.iload_n 1, 1) := by decide +kernel
theorem d_M_trapOf_249 : decode c_M_trapOf 249 = .ok (.bipush 31, 2) := by decide +kernel
theorem d_M_trapOf_251 : decode c_M_trapOf 251 = .ok (.if_icmp .ne 26, 3) := by decide +kernel
end
section
theorem d_M_trapOf_254 : decode c_M_trapOf 254 = .ok (.bipush 8, 2) := by decide +kernel
theorem d_M_trapOf_256 : decode c_M_trapOf 256 = .ok (.aload_n 0, 1) := by decide +kernel
theorem d_M_trapOf_257 : decode c_M_trapOf 257 = .ok (.bipush 8, 2) := by decide +kernel
theorem d_M_trapOf_259 : decode c_M_trapOf 259 = .ok (.sipush 128, 3) := by decide +kernel
theorem d_M_trapOf_262 : decode c_M_trapOf 262 = .ok (.invokevirtual 61, 3) := by decide +kernel
theorem d_M_trapOf_265 : decode c_M_trapOf 265 = .ok (.ifCond .eq 7, 3) := by decide +kernel
theorem d_M_trapOf_268 : decode c_M_trapOf 268 = .ok (.iconst 0, 1) := by decide +kernel
theorem d_M_trapOf_269 : decode c_M_trapOf 269 = .ok (.goto 4, 3) := by decide +kernel
theorem d_M_trapOf_272 : decode c_M_trapOf 272 = .ok (.iconst 3, 1) := by decide +kernel
theorem d_M_trapOf_273 : decode c_M_trapOf 273 = .ok (.invokestatic 99, 3) := by decide +kernel
theorem d_M_trapOf_276 : decode c_M_trapOf 276 = .ok (.ireturn, 1) := by decide +kernel
theorem d_M_trapOf_277 : decode c_M_trapOf 277 = .ok (.iload_n 1, 1) := by decide +kernel
theorem d_M_trapOf_278 : decode c_M_trapOf 278 = .ok (.bipush 30, 2) := by decide +kernel
theorem d_M_trapOf_280 : decode c_M_trapOf 280 = .ok (.if_icmp .ne 8, 3) := by decide +kernel
theorem d_M_trapOf_283 : decode c_M_trapOf 283 = .ok (.bipush 9, 2) := by decide +kernel
theorem d_M_trapOf_285 : decode c_M_trapOf 285 = .ok (.goto 4, 3) := by decide +kernel
theorem d_M_trapOf_288 : decode c_M_trapOf 288 = .ok (.iconst 0, 1) := by decide +kernel
theorem d_M_trapOf_289 : decode c_M_trapOf 289 = .ok (.ireturn, 1) := by decide +kernel
theorem d_M_sealing_0 : decode c_M_sealing 0 = .ok (.aload_n 0, 1) := by decide +kernel
theorem d_M_sealing_1 : decode c_M_sealing 1 = .ok (.getfield 13, 3) := by decide +kernel
theorem d_M_sealing_4 : decode c_M_sealing 4 = .ok (.iload_n 2, 1) := by decide +kernel
theorem d_M_sealing_5 : decode c_M_sealing 5 = .ok (.iaload, 1) := by decide +kernel
theorem d_M_sealing_6 : decode c_M_sealing 6 = .ok (.invokestatic 57, 3) := by decide +kernel
theorem d_M_sealing_9 : decode c_M_sealing 9 = .ok (.istore 5, 2) := by decide +kernel
theorem d_M_sealing_11 : decode c_M_sealing 11 = .ok (.aload_n 0, 1) := by decide +kernel
theorem d_M_sealing_12 : decode c_M_sealing 12 = .ok (.getfield 16, 3) := by decide +kernel
theorem d_M_sealing_15 : decode c_M_sealing 15 = .ok (.iload_n 2, 1) := by decide +kernel
theorem d_M_sealing_16 : decode c_M_sealing 16 = .ok (.baload, 1) := by decide +kernel
theorem d_M_sealing_17 : decode c_M_sealing 17 = .ok (.ifCond .ne 9, 3) := by decide +kernel
theorem d_M_sealing_20 : decode c_M_sealing 20 = .ok (.iload_n 2, 1) := by decide +kernel
theorem d_M_sealing_21 : decode c_M_sealing 21 = .ok (.iconst 1, 1) := by decide +kernel
theorem d_M_sealing_22 : decode c_M_sealing 22 = .ok (.invokestatic 99, 3) := by decide +kernel
theorem d_M_sealing_25 : decode c_M_sealing 25 = .ok (.ireturn, 1) := by decide +kernel
theorem d_M_sealing_26 : decode c_M_sealing 26 = .ok (.iload_n 1, 1) := by decide +kernel
theorem d_M_sealing_27 : decode c_M_sealing 27 = .ok (.ifCond .eq 11, 3) := by decide +kernel
theorem d_M_sealing_30 : decode c_M_sealing 30 = .ok (.iload 5, 2) := by decide +kernel
theorem d_M_sealing_32 : decode c_M_sealing 32 = .ok (.ifCond .eq 18, 3) := by decide +kernel
theorem d_M_sealing_35 : decode c_M_sealing 35 = .ok (.goto 9, 3) := by decide +kernel
theorem d_M_sealing_38 : decode c_M_sealing 38 = .ok (.iload 5, 2) := by decide +kernel
theorem d_M_sealing_40 : decode c_M_sealing 40 = .ok (.iconst 2, 1) := by decide +kernel
theorem d_M_sealing_41 : decode c_M_sealing 41 = .ok (.if_icmp .ge 9, 3) := by decide +kernel
theorem d_M_sealing_44 : decode c_M_sealing 44 = .ok (.iload_n 2, 1) := by decide +kernel
theorem d_M_sealing_45 : decode c_M_sealing 45 = .ok (.iconst 2, 1) := by decide +kernel
theorem d_M_sealing_46 : decode c_M_sealing 46 = .ok (.invokestatic 99, 3) := by decide +kernel
theorem d_M_sealing_49 : decode c_M_sealing 49 = .ok (.ireturn, 1) := by decide +kernel
theorem d_M_sealing_50 : decode c_M_sealing 50 = .ok (.aload_n 0, 1) := by decide +kernel
theorem d_M_sealing_51 : decode c_M_sealing 51 = .ok (.iload_n 3, 1) := by decide +kernel
theorem d_M_sealing_52 : decode c_M_sealing 52 = .ok (.iload_n 1, 1) := by decide +kernel
theorem d_M_sealing_53 : decode c_M_sealing 53 = .ok (.ifCond .eq 8, 3) := by decide +kernel
theorem d_M_sealing_56 : decode c_M_sealing 56 = .ok (.bipush 32, 2) := by decide +kernel
theorem d_M_sealing_58 : decode c_M_sealing 58 = .ok (.goto 5, 3) := by decide +kernel
theorem d_M_sealing_61 : decode c_M_sealing 61 = .ok (.bipush 64, 2) := by decide +kernel
theorem d_M_sealing_63 : decode c_M_sealing 63 = .ok (.iconst 1, 1) := by decide +kernel
theorem d_M_sealing_64 : decode c_M_sealing 64 = .ok (.iload 4, 2) := by decide +kernel
theorem d_M_sealing_66 : decode c_M_sealing 66 = .ok (.invokevirtual 95, 3) := by decide +kernel
theorem d_M_sealing_69 : decode c_M_sealing 69 = .ok (.istore 6, 2) := by decide +kernel
theorem d_M_sealing_71 : decode c_M_sealing 71 = .ok (.iload 6, 2) := by decide +kernel
theorem d_M_sealing_73 : decode c_M_sealing 73 = .ok (.ifCond .eq 10, 3) := by decide +kernel
theorem d_M_sealing_76 : decode c_M_sealing 76 = .ok (.iload_n 3, 1) := by decide +kernel
theorem d_M_sealing_77 : decode c_M_sealing 77 = .ok (.iload 6, 2) := by decide +kernel
theorem d_M_sealing_79 : decode c_M_sealing 79 = .ok (.invokestatic 99, 3) := by decide +kernel
theorem d_M_sealing_82 : decode c_M_sealing 82 = .ok (.ireturn, 1) := by decide +kernel
theorem d_M_sealing_83 : decode c_M_sealing 83 = .ok (.iload_n 1, 1) := by decide +kernel
theorem d_M_sealing_84 : decode c_M_sealing 84 = .ok (.ifCond .eq 24, 3) := by decide +kernel
theorem d_M_sealing_87 : decode c_M_sealing 87 = .ok (.iload 4, 2) := by decide +kernel
theorem d_M_sealing_89 : decode c_M_sealing 89 = .ok (.iconst 2, 1) := by decide +kernel
theorem d_M_sealing_90 : decode c_M_sealing 90 = .ok (.if_icmp .lt 14, 3) := by decide +kernel
theorem d_M_sealing_93 : decode c_M_sealing 93 = .ok (.iload 4, 2) := by decide +kernel
theorem d_M_sealing_95 : decode c_M_sealing 95 = .ok (.bipush 15, 2) := by decide +kernel
theorem d_M_sealing_97 : decode c_M_sealing 97 = .ok (.if_icmp .gt 7, 3) := by decide +kernel
theorem d_M_sealing_100 : decode c_M_sealing 100 = .ok (.iconst 1, 1) := by decide +kernel
theorem d_M_sealing_101 : decode c_M_sealing 101 = .ok (.goto 19, 3) := by decide +kernel
theorem d_M_sealing_104 : decode c_M_sealing 104 = .ok (.iconst 0, 1) := by decide +kernel
theorem d_M_sealing_105 : decode c_M_sealing 105 = .ok (.goto 15, 3) := by decide +kernel
theorem d_M_sealing_108 : decode c_M_sealing 108 = .ok (.iload 4, 2) := by decide +kernel
theorem d_M_sealing_110 : decode c_M_sealing 110 = .ok (.iload 5, 2) := by decide +kernel
theorem d_M_sealing_112 : decode c_M_sealing 112 = .ok (.if_icmp .ne 7, 3) := by decide +kernel
theorem d_M_sealing_115 : decode c_M_sealing 115 = .ok (.iconst 1, 1) := by decide +kernel
theorem d_M_sealing_116 : decode c_M_sealing 116 = .ok (.goto 4, 3) := by decide +kernel
theorem d_M_sealing_119 : decode c_M_sealing 119 = .ok (.iconst 0, 1) := by decide +kernel
theorem d_M_sealing_120 : decode c_M_sealing 120 = .ok (.istore 7, 2) := by decide +kernel
theorem d_M_sealing_122 : decode c_M_sealing 122 = .ok (.iload 7, 2) := by decide +kernel
theorem d_M_sealing_124 : decode c_M_sealing 124 = .ok (.ifCond .eq 7, 3) := by decide +kernel
theorem d_M_sealing_127 : decode c_M_sealing 127 = .ok (.iconst 0, 1) := by decide +kernel
theorem d_M_sealing_128 : decode c_M_sealing 128 = .ok (.goto 9, 3) := by decide +kernel
theorem d_M_sealing_131 : decode c_M_sealing 131 = .ok (.iload_n 3, 1) := by decide +kernel
theorem d_M_sealing_132 : decode c_M_sealing 132 = .ok (.bipush 7, 2) := by decide +kernel
theorem d_M_sealing_134 : decode c_M_sealing 134 = .ok (.invokestatic 99, 3) := by decide +kernel
theorem d_M_sealing_137 : decode c_M_sealing 137 = .ok (.ireturn, 1) := by decide +kernel
theorem d_M_trap_0 : decode c_M_trap 0 = .ok (.aload_n 0, 1) := by decide +kernel
theorem d_M_trap_1 : decode c_M_trap 1 = .ok (.bipush 8, 2) := by decide +kernel
theorem d_M_trap_3 : decode c_M_trap 3 = .ok (.invokevirtual 82, 3) := by decide +kernel
theorem d_M_trap_6 : decode c_M_trap 6 = .ok (.aload_n 0, 1) := by decide +kernel
theorem d_M_trap_7 : decode c_M_trap 7 = .ok (.bipush 10, 2) := by decide +kernel
theorem d_M_trap_9 : decode c_M_trap 9 = .ok (.invokevirtual 89, 3) := by decide +kernel
theorem d_M_trap_12 : decode c_M_trap 12 = .ok (.aload_n 0, 1) := by decide +kernel
theorem d_M_trap_13 : decode c_M_trap 13 = .ok (.iload_n 1, 1) := by decide +kernel
theorem d_M_trap_14 : decode c_M_trap 14 = .ok (.putfield 107, 3) := by decide +kernel
theorem d_M_trap_17 : decode c_M_trap 17 = .ok (.aload_n 0, 1) := by decide +kernel
theorem d_M_trap_18 : decode c_M_trap 18 = .ok (.dup, 1) := by decide +kernel
theorem d_M_trap_19 : decode c_M_trap 19 = .ok (.getfield 110, 3) := by decide +kernel
theorem d_M_trap_22 : decode c_M_trap 22 = .ok (.iconst 1, 1) := by decide +kernel
theorem d_M_trap_23 : decode c_M_trap 23 = .ok (.iadd, 1) := by decide +kernel
theorem d_M_trap_24 : decode c_M_trap 24 = .ok (.putfield 110, 3) := by decide +kernel
theorem d_M_trap_27 : decode c_M_trap 27 = .ok (.aload_n 0, 1) := by decide +kernel
theorem d_M_trap_28 : decode c_M_trap 28 = .ok (.getfield 16, 3) := by decide +kernel
theorem d_M_trap_31 : decode c_M_trap 31 = .ok (.bipush 9, 2) := by decide +kernel
theorem d_M_trap_33 : decode c_M_trap 33 = .ok (.baload, 1) := by decide +kernel
theorem d_M_trap_34 : decode c_M_trap 34 = .ok (.ifCond .eq 41, 3) := by decide +kernel
theorem d_M_trap_37 : decode c_M_trap 37 = .ok (.aload_n 0, 1) := by decide +kernel
theorem d_M_trap_38 : decode c_M_trap 38 = .ok (.getfield 13, 3) := by decide +kernel
theorem d_M_trap_41 : decode c_M_trap 41 = .ok (.bipush 9, 2) := by decide +kernel
theorem d_M_trap_43 : decode c_M_trap 43 = .ok (.iaload, 1) := by decide +kernel
theorem d_M_trap_44 : decode c_M_trap 44 = .ok (.invokestatic 57, 3) := by decide +kernel
theorem d_M_trap_47 : decode c_M_trap 47 = .ok (.ifCond .ne 28, 3) := by decide +kernel
theorem d_M_trap_50 : decode c_M_trap 50 = .ok (.aload_n 0, 1) := by decide +kernel
theorem d_M_trap_51 : decode c_M_trap 51 = .ok (.bipush 9, 2) := by decide +kernel
theorem d_M_trap_53 : decode c_M_trap 53 = .ok (.iconst 1, 1) := by decide +kernel
theorem d_M_trap_54 : decode c_M_trap 54 = .ok (.invokevirtual 61, 3) := by decide +kernel
theorem d_M_trap_57 : decode c_M_trap 57 = .ok (.ifCond .eq 18, 3) := by decide +kernel
theorem d_M_trap_60 : decode c_M_trap 60 = .ok (.aload_n 0, 1) := by decide +kernel
theorem d_M_trap_61 : decode c_M_trap 61 = .ok (.bipush 9, 2) := by decide +kernel
theorem d_M_trap_63 : decode c_M_trap 63 = .ok (.invokevirtual 82, 3) := by decide +kernel
theorem d_M_trap_66 : decode c_M_trap 66 = .ok (.aload_n 0, 1) := by decide +kernel
theorem d_M_trap_67 : decode c_M_trap 67 = .ok (.bipush 8, 2) := by decide +kernel
theorem d_M_trap_69 : decode c_M_trap 69 = .ok (.invokevirtual 89, 3) := by decide +kernel
theorem d_M_trap_72 : decode c_M_trap 72 = .ok (.goto 8, 3) := by decide +kernel
theorem d_M_trap_75 : decode c_M_trap 75 = .ok (.aload_n 0, 1) := by decide +kernel
theorem d_M_trap_76 : decode c_M_trap 76 = .ok (.iconst 2, 1) := by decide +kernel
theorem d_M_trap_77 : decode c_M_trap 77 = .ok (.putfield 113, 3) := by decide +kernel
theorem d_M_trap_80 : decode c_M_trap 80 = .ok (.return_, 1) := by decide +kernel
theorem d_M_step_0 : decode c_M_step 0 = .ok (.aload_n 0, 1) := by decide +kernel
theorem d_M_step_1 : decode c_M_step 1 = .ok (.dup, 1) := by decide +kernel
theorem d_M_step_2 : decode c_M_step 2 = .ok (.getfield 116, 3) := by decide +kernel
theorem d_M_step_5 : decode c_M_step 5 = .ok (.iconst 1, 1) := by decide +kernel
theorem d_M_step_6 : decode c_M_step 6 = .ok (.iadd, 1) := by decide +kernel
theorem d_M_step_7 : decode c_M_step 7 = .ok (.putfield 116, 3) := by decide +kernel
theorem d_M_step_10 : decode c_M_step 10 = .ok (.aload_n 0, 1) := by decide +kernel
theorem d_M_step_11 : decode c_M_step 11 = .ok (.bipush 8, 2) := by decide +kernel
theorem d_M_step_13 : decode c_M_step 13 = .ok (.iconst 1, 1) := by decide +kernel
theorem d_M_step_14 : decode c_M_step 14 = .ok (.iconst 4, 1) := by decide +kernel
theorem d_M_step_15 : decode c_M_step 15 = .ok (.aload_n 0, 1) := by decide +kernel
theorem d_M_step_16 : decode c_M_step 16 = .ok (.getfield 7, 3) := by decide +kernel
theorem d_M_step_19 : decode c_M_step 19 = .ok (.bipush 8, 2) := by decide +kernel
theorem d_M_step_21 : decode c_M_step 21 = .ok (.iaload, 1) := by decide +kernel
theorem d_M_step_22 : decode c_M_step 22 = .ok (.invokevirtual 95, 3) := by decide +kernel
theorem d_M_step_25 : decode c_M_step 25 = .ok (.istore_n 1, 1) := by decide +kernel
theorem d_M_step_26 : decode c_M_step 26 = .ok (.iload_n 1, 1) := by decide +kernel
theorem d_M_step_27 : decode c_M_step 27 = .ok (.ifCond .eq 14, 3) := by decide +kernel
theorem d_M_step_30 : decode c_M_step 30 = .ok (.aload_n 0, 1) := by decide +kernel
theorem d_M_step_31 : decode c_M_step 31 = .ok (.bipush 8, 2) := by decide +kernel
theorem d_M_step_33 : decode c_M_step 33 = .ok (.iload_n 1, 1) := by decide +kernel
theorem d_M_step_34 : decode c_M_step 34 = .ok (.invokestatic 99, 3) := by decide +kernel
theorem d_M_step_37 : decode c_M_step 37 = .ok (.invokevirtual 119, 3) := by decide +kernel
theorem d_M_step_40 : decode c_M_step 40 = .ok (.return_, 1) := by decide +kernel
theorem d_M_step_41 : decode c_M_step 41 = .ok (.aload_n 0, 1) := by decide +kernel
theorem d_M_step_42 : decode c_M_step 42 = .ok (.getfield 20, 3) := by decide +kernel
theorem d_M_step_45 : decode c_M_step 45 = .ok (.aload_n 0, 1) := by decide +kernel
theorem d_M_step_46 : decode c_M_step 46 = .ok (.getfield 7, 3) := by decide +kernel
theorem d_M_step_49 : decode c_M_step 49 = .ok (.bipush 8, 2) := by decide +kernel
theorem d_M_step_51 : decode c_M_step 51 = .ok (.iaload, 1) := by decide +kernel
theorem d_M_step_52 : decode c_M_step 52 = .ok (.iconst 4, 1) := by decide +kernel
theorem d_M_step_53 : decode c_M_step 53 = .ok (.idiv, 1) := by decide +kernel
theorem d_M_step_54 : decode c_M_step 54 = .ok (.iaload, 1) := by decide +kernel
theorem d_M_step_55 : decode c_M_step 55 = .ok (.istore_n 2, 1) := by decide +kernel
theorem d_M_step_56 : decode c_M_step 56 = .ok (.iload_n 2, 1) := by decide +kernel
theorem d_M_step_57 : decode c_M_step 57 = .ok (.bipush 31, 2) := by decide +kernel
theorem d_M_step_59 : decode c_M_step 59 = .ok (.iand, 1) := by decide +kernel
theorem d_M_step_60 : decode c_M_step 60 = .ok (.istore_n 3, 1) := by decide +kernel
theorem d_M_step_61 : decode c_M_step 61 = .ok (.iload_n 2, 1) := by decide +kernel
theorem d_M_step_62 : decode c_M_step 62 = .ok (.iconst 5, 1) := by decide +kernel
theorem d_M_step_63 : decode c_M_step 63 = .ok (.ishr, 1) := by decide +kernel
theorem d_M_step_64 : decode c_M_step 64 = .ok (.bipush 7, 2) := by decide +kernel
theorem d_M_step_66 : decode c_M_step 66 = .ok (.iand, 1) := by decide +kernel
theorem d_M_step_67 : decode c_M_step 67 = .ok (.istore 4, 2) := by decide +kernel
theorem d_M_step_69 : decode c_M_step 69 = .ok (.iload_n 2, 1) := by decide +kernel
theorem d_M_step_70 : decode c_M_step 70 = .ok (.bipush 8, 2) := by decide +kernel
theorem d_M_step_72 : decode c_M_step 72 = .ok (.ishr, 1) := by decide +kernel
theorem d_M_step_73 : decode c_M_step 73 = .ok (.bipush 7, 2) := by decide +kernel
theorem d_M_step_75 : decode c_M_step 75 = .ok (.iand, 1) := by decide +kernel
theorem d_M_step_76 : decode c_M_step 76 = .ok (.istore 5, 2) := by decide +kernel
theorem d_M_step_78 : decode c_M_step 78 = .ok (.iload_n 2, 1) := by decide +kernel
theorem d_M_step_79 : decode c_M_step 79 = .ok (.bipush 11, 2) := by decide +kernel
theorem d_M_step_81 : decode c_M_step 81 = .ok (.ishr, 1) := by decide +kernel
theorem d_M_step_82 : decode c_M_step 82 = .ok (.bipush 7, 2) := by decide +kernel
theorem d_M_step_84 : decode c_M_step 84 = .ok (.iand, 1) := by decide +kernel
theorem d_M_step_85 : decode c_M_step 85 = .ok (.istore 6, 2) := by decide +kernel
theorem d_M_step_87 : decode c_M_step 87 = .ok (.iload_n 2, 1) := by decide +kernel
theorem d_M_step_88 : decode c_M_step 88 = .ok (.bipush 14, 2) := by decide +kernel
theorem d_M_step_90 : decode c_M_step 90 = .ok (.ishr, 1) := by decide +kernel
theorem d_M_step_91 : decode c_M_step 91 = .ok (.istore 7, 2) := by decide +kernel
theorem d_M_step_93 : decode c_M_step 93 = .ok (.aload_n 0, 1) := by decide +kernel
theorem d_M_step_94 : decode c_M_step 94 = .ok (.iload_n 3, 1) := by decide +kernel
theorem d_M_step_95 : decode c_M_step 95 = .ok (.iload 5, 2) := by decide +kernel
theorem d_M_step_97 : decode c_M_step 97 = .ok (.iload 6, 2) := by decide +kernel
theorem d_M_step_99 : decode c_M_step 99 = .ok (.iload 7, 2) := by decide +kernel
theorem d_M_step_101 : decode c_M_step 101 = .ok (.invokevirtual 122, 3) := by decide +kernel
theorem d_M_step_104 : decode c_M_step 104 = .ok (.istore 8, 2) := by decide +kernel
theorem d_M_step_106 : decode c_M_step 106 = .ok (.iload 8, 2) := by decide +kernel
theorem d_M_step_108 : decode c_M_step 108 = .ok (.ifCond .eq 10, 3) := by decide +kernel
theorem d_M_step_111 : decode c_M_step 111 = .ok (.aload_n 0, 1) := by decide +kernel
theorem d_M_step_112 : decode c_M_step 112 = .ok (.iload 8, 2) := by decide +kernel
theorem d_M_step_114 : decode c_M_step 114 = .ok (.invokevirtual 119, 3) := by decide +kernel
theorem d_M_step_117 : decode c_M_step 117 = .ok (.return_, 1) := by decide +kernel
theorem d_M_step_118 : decode c_M_step 118 = .ok (.iload_n 3, 1) := by decide +kernel
theorem d_M_step_119 : decode c_M_step 119 = .ok (.ifCond .ne 11, 3) := by decide +kernel
theorem d_M_step_122 : decode c_M_step 122 = .ok (.aload_n 0, 1) := by decide +kernel
theorem d_M_step_123 : decode c_M_step 123 = .ok (.iconst 1, 1) := by decide +kernel
theorem d_M_step_124 : decode c_M_step 124 = .ok (.putfield 113, 3) := by decide +kernel
theorem d_M_step_127 : decode c_M_step 127 = .ok (.goto 134, 3) := by decide +kernel
theorem d_M_step_130 : decode c_M_step 130 = .ok (.iload_n 3, 1) := by decide +kernel
theorem d_M_step_131 : decode c_M_step 131 = .ok (.bipush 11, 2) := by decide +kernel
theorem d_M_step_133 : decode c_M_step 133 = .ok (.if_icmp .ge 41, 3) := by decide +kernel
theorem d_M_step_136 : decode c_M_step 136 = .ok (.aload_n 0, 1) := by decide +kernel
theorem d_M_step_137 : decode c_M_step 137 = .ok (.iload_n 3, 1) := by decide +kernel
theorem d_M_step_138 : decode c_M_step 138 = .ok (.aload_n 0, 1) := by decide +kernel
theorem d_M_step_139 : decode c_M_step 139 = .ok (.getfield 7, 3) := by decide +kernel
theorem d_M_step_142 : decode c_M_step 142 = .ok (.iload 5, 2) := by decide +kernel
theorem d_M_step_144 : decode c_M_step 144 = .ok (.iaload, 1) := by decide +kernel
theorem d_M_step_145 : decode c_M_step 145 = .ok (.aload_n 0, 1) := by decide +kernel
theorem d_M_step_146 : decode c_M_step 146 = .ok (.getfield 7, 3) := by decide +kernel
theorem d_M_step_149 : decode c_M_step 149 = .ok (.iload 6, 2) := by decide +kernel
theorem d_M_step_151 : decode c_M_step 151 = .ok (.iaload, 1) := by decide +kernel
theorem d_M_step_152 : decode c_M_step 152 = .ok (.iload 7, 2) := by decide +kernel
theorem d_M_step_154 : decode c_M_step 154 = .ok (.invokestatic 125, 3) := by decide +kernel
theorem d_M_step_157 : decode c_M_step 157 = .ok (.invokevirtual 128, 3) := by decide +kernel
theorem d_M_step_160 : decode c_M_step 160 = .ok (.aload_n 0, 1) := by decide +kernel
theorem d_M_step_161 : decode c_M_step 161 = .ok (.iload 4, 2) := by decide +kernel
theorem d_M_step_163 : decode c_M_step 163 = .ok (.invokevirtual 89, 3) := by decide +kernel
theorem d_M_step_166 : decode c_M_step 166 = .ok (.aload_n 0, 1) := by decide +kernel
theorem d_M_step_167 : decode c_M_step 167 = .ok (.iconst 4, 1) := by decide +kernel
theorem d_M_step_168 : decode c_M_step 168 = .ok (.invokevirtual 131, 3) := by decide +kernel
theorem d_M_step_171 : decode c_M_step 171 = .ok (.goto 90, 3) := by decide +kernel
theorem d_M_step_174 : decode c_M_step 174 = .ok (.iload_n 3, 1) := by decide +kernel
theorem d_M_step_175 : decode c_M_step 175 = .ok (.bipush 15, 2) := by decide +kernel
theorem d_M_step_177 : decode c_M_step 177 = .ok (.if_icmp .ge 24, 3) := by decide +kernel
theorem d_M_step_180 : decode c_M_step 180 = .ok (.aload_n 0, 1) := by decide +kernel
theorem d_M_step_181 : decode c_M_step 181 = .ok (.iload_n 3, 1) := by decide +kernel
theorem d_M_step_182 : decode c_M_step 182 = .ok (.iload 4, 2) := by decide +kernel
theorem d_M_step_184 : decode c_M_step 184 = .ok (.iload 5, 2) := by decide +kernel
theorem d_M_step_186 : decode c_M_step 186 = .ok (.iload 6, 2) := by decide +kernel
theorem d_M_step_188 : decode c_M_step 188 = .ok (.iload 7, 2) := by decide +kernel
theorem d_M_step_190 : decode c_M_step 190 = .ok (.invokevirtual 134, 3) := by decide +kernel
theorem d_M_step_193 : decode c_M_step 193 = .ok (.aload_n 0, 1) := by decide +kernel
theorem d_M_step_194 : decode c_M_step 194 = .ok (.iconst 4, 1) := by decide +kernel
theorem d_M_step_195 : decode c_M_step 195 = .ok (.invokevirtual 131, 3) := by decide +kernel
theorem d_M_step_198 : decode c_M_step 198 = .ok (.goto 63, 3) := by decide +kernel
theorem d_M_step_201 : decode c_M_step 201 = .ok (.iload_n 3, 1) := by decide +kernel
theorem d_M_step_202 : decode c_M_step 202 = .ok (.bipush 19, 2) := by decide +kernel
theorem d_M_step_204 : decode c_M_step 204 = .ok (.if_icmp .ge 19, 3) := by decide +kernel
theorem d_M_step_207 : decode c_M_step 207 = .ok (.aload_n 0, 1) := by decide +kernel
theorem d_M_step_208 : decode c_M_step 208 = .ok (.iload_n 3, 1) := by decide +kernel
theorem d_M_step_209 : decode c_M_step 209 = .ok (.iload 4, 2) := by decide +kernel
theorem d_M_step_211 : decode c_M_step 211 = .ok (.iload 5, 2) := by decide +kernel
theorem d_M_step_213 : decode c_M_step 213 = .ok (.iload 6, 2) := by decide +kernel
theorem d_M_step_215 : decode c_M_step 215 = .ok (.iload 7, 2) := by decide +kernel
theorem d_M_step_217 : decode c_M_step 217 = .ok (.invokevirtual 138, 3) := by decide +kernel
theorem d_M_step_220 : decode c_M_step 220 = .ok (.goto 41, 3) := by decide +kernel
theorem d_M_step_223 : decode c_M_step 223 = .ok (.iload_n 3, 1) := by decide +kernel
theorem d_M_step_224 : decode c_M_step 224 = .ok (.bipush 29, 2) := by decide +kernel
theorem d_M_step_226 : decode c_M_step 226 = .ok (.if_icmp .ge 24, 3) := by decide +kernel
theorem d_M_step_229 : decode c_M_step 229 = .ok (.aload_n 0, 1) := by decide +kernel
theorem d_M_step_230 : decode c_M_step 230 = .ok (.iload_n 3, 1) := by decide +kernel
theorem d_M_step_231 : decode c_M_step 231 = .ok (.iload 4, 2) := by decide +kernel
theorem d_M_step_233 : decode c_M_step 233 = .ok (.iload 5, 2) := by decide +kernel
theorem d_M_step_235 : decode c_M_step 235 = .ok (.iload 6, 2) := by decide +kernel
theorem d_M_step_237 : decode c_M_step 237 = .ok (.iload 7, 2) := by decide +kernel
theorem d_M_step_239 : decode c_M_step 239 = .ok (.invokevirtual 141, 3) := by decide +kernel
theorem d_M_step_242 : decode c_M_step 242 = .ok (.aload_n 0, 1) := by decide +kernel
theorem d_M_step_243 : decode c_M_step 243 = .ok (.iconst 4, 1) := by decide +kernel
theorem d_M_step_244 : decode c_M_step 244 = .ok (.invokevirtual 131, 3) := by decide +kernel
theorem d_M_step_247 : decode c_M_step 247 = .ok (.goto 14, 3) := by decide +kernel
theorem d_M_step_250 : decode c_M_step 250 = .ok (.aload_n 0, 1) := by decide +kernel
theorem d_M_step_251 : decode c_M_step 251 = .ok (.iload_n 3, 1) := by decide +kernel
theorem d_M_step_252 : decode c_M_step 252 = .ok (.iload 4, 2) := by decide +kernel
theorem d_M_step_254 : decode c_M_step 254 = .ok (.iload 5, 2) := by decide +kernel
theorem d_M_step_256 : decode c_M_step 256 = .ok (.iload 7, 2) := by decide +kernel
theorem d_M_step_258 : decode c_M_step 258 = .ok (.invokevirtual 144, 3) := by decide +kernel
theorem d_M_step_261 : decode c_M_step 261 = .ok (.return_, 1) := by decide +kernel
theorem d_M_reckoned_0 : decode c_M_reckoned 0 = .ok (.iload_n 0, 1) := by decide +kernel
theorem d_M_reckoned_1 : decode c_M_reckoned 1 = .ok (.tableswitch 100 1 9 #[51, 55, 59, 63, 67, 71, 75, 82, 89], 51) := by decide +kernel
theorem d_M_reckoned_52 : decode c_M_reckoned 52 = .ok (.iload_n 1, 1) := by decide +kernel
theorem d_M_reckoned_53 : decode c_M_reckoned 53 = .ok (.iload_n 3, 1) := by decide +kernel
theorem d_M_reckoned_54 : decode c_M_reckoned 54 = .ok (.iadd, 1) := by decide +kernel
theorem d_M_reckoned_55 : decode c_M_reckoned 55 = .ok (.ireturn, 1) := by decide +kernel
theorem d_M_reckoned_56 : decode c_M_reckoned 56 = .ok (.iload_n 1, 1) := by decide +kernel
theorem d_M_reckoned_57 : decode c_M_reckoned 57 = .ok (.iload_n 2, 1) := by decide +kernel
theorem d_M_reckoned_58 : decode c_M_reckoned 58 = .ok (.iadd, 1) := by decide +kernel
theorem d_M_reckoned_59 : decode c_M_reckoned 59 = .ok (.ireturn, 1) := by decide +kernel
theorem d_M_reckoned_60 : decode c_M_reckoned 60 = .ok (.iload_n 1, 1) := by decide +kernel
theorem d_M_reckoned_61 : decode c_M_reckoned 61 = .ok (.iload_n 2, 1) := by decide +kernel
theorem d_M_reckoned_62 : decode c_M_reckoned 62 = .ok (.isub, 1) := by decide +kernel
theorem d_M_reckoned_63 : decode c_M_reckoned 63 = .ok (.ireturn, 1) := by decide +kernel
theorem d_M_reckoned_64 : decode c_M_reckoned 64 = .ok (.iload_n 1, 1) := by decide +kernel
theorem d_M_reckoned_65 : decode c_M_reckoned 65 = .ok (.iload_n 2, 1) := by decide +kernel
theorem d_M_reckoned_66 : decode c_M_reckoned 66 = .ok (.iand, 1) := by decide +kernel
theorem d_M_reckoned_67 : decode c_M_reckoned 67 = .ok (.ireturn, 1) := by decide +kernel
theorem d_M_reckoned_68 : decode c_M_reckoned 68 = .ok (.iload_n 1, 1) := by decide +kernel
theorem d_M_reckoned_69 : decode c_M_reckoned 69 = .ok (.iload_n 2, 1) := by decide +kernel
theorem d_M_reckoned_70 : decode c_M_reckoned 70 = .ok (.ior, 1) := by decide +kernel
end
section
theorem d_M_reckoned_71 : decode c_M_reckoned 71 = .ok (.ireturn, 1) := by decide +kernel
theorem d_M_reckoned_72 : decode c_M_reckoned 72 = .ok (.iload_n 1, 1) := by decide +kernel
theorem d_M_reckoned_73 : decode c_M_reckoned 73 = .ok (.iload_n 2, 1) := by decide +kernel
theorem d_M_reckoned_74 : decode c_M_reckoned 74 = .ok (.ixor, 1) := by decide +kernel
theorem d_M_reckoned_75 : decode c_M_reckoned 75 = .ok (.ireturn, 1) := by decide +kernel
theorem d_M_reckoned_76 : decode c_M_reckoned 76 = .ok (.iload_n 1, 1) := by decide +kernel
theorem d_M_reckoned_77 : decode c_M_reckoned 77 = .ok (.iload_n 2, 1) := by decide +kernel
theorem d_M_reckoned_78 : decode c_M_reckoned 78 = .ok (.bipush 31, 2) := by decide +kernel
theorem d_M_reckoned_80 : decode c_M_reckoned 80 = .ok (.iand, 1) := by decide +kernel
theorem d_M_reckoned_81 : decode c_M_reckoned 81 = .ok (.ishl, 1) := by decide +kernel
theorem d_M_reckoned_82 : decode c_M_reckoned 82 = .ok (.ireturn, 1) := by decide +kernel
theorem d_M_reckoned_83 : decode c_M_reckoned 83 = .ok (.iload_n 1, 1) := by decide +kernel
theorem d_M_reckoned_84 : decode c_M_reckoned 84 = .ok (.iload_n 2, 1) := by decide +kernel
theorem d_M_reckoned_85 : decode c_M_reckoned 85 = .ok (.bipush 31, 2) := by decide +kernel
theorem d_M_reckoned_87 : decode c_M_reckoned 87 = .ok (.iand, 1) := by decide +kernel
theorem d_M_reckoned_88 : decode c_M_reckoned 88 = .ok (.iushr, 1) := by decide +kernel
theorem d_M_reckoned_89 : decode c_M_reckoned 89 = .ok (.ireturn, 1) := by decide +kernel
theorem d_M_reckoned_90 : decode c_M_reckoned 90 = .ok (.iload_n 1, 1) := by decide +kernel
theorem d_M_reckoned_91 : decode c_M_reckoned 91 = .ok (.iload_n 2, 1) := by decide +kernel
theorem d_M_reckoned_92 : decode c_M_reckoned 92 = .ok (.if_icmp .ge 7, 3) := by decide +kernel
theorem d_M_reckoned_95 : decode c_M_reckoned 95 = .ok (.iconst 1, 1) := by decide +kernel
theorem d_M_reckoned_96 : decode c_M_reckoned 96 = .ok (.goto 4, 3) := by decide +kernel
theorem d_M_reckoned_99 : decode c_M_reckoned 99 = .ok (.iconst 0, 1) := by decide +kernel
theorem d_M_reckoned_100 : decode c_M_reckoned 100 = .ok (.ireturn, 1) := by decide +kernel
theorem d_M_reckoned_101 : decode c_M_reckoned 101 = .ok (.iload_n 3, 1) := by decide +kernel
theorem d_M_reckoned_102 : decode c_M_reckoned 102 = .ok (.sipush 16384, 3) := by decide +kernel
theorem d_M_reckoned_105 : decode c_M_reckoned 105 = .ok (.imul, 1) := by decide +kernel
theorem d_M_reckoned_106 : decode c_M_reckoned 106 = .ok (.ireturn, 1) := by decide +kernel
theorem d_M_access_0 : decode c_M_access 0 = .ok (.aload_n 0, 1) := by decide +kernel
theorem d_M_access_1 : decode c_M_access 1 = .ok (.getfield 7, 3) := by decide +kernel
theorem d_M_access_4 : decode c_M_access 4 = .ok (.iload_n 3, 1) := by decide +kernel
theorem d_M_access_5 : decode c_M_access 5 = .ok (.iaload, 1) := by decide +kernel
theorem d_M_access_6 : decode c_M_access 6 = .ok (.iload 5, 2) := by decide +kernel
theorem d_M_access_8 : decode c_M_access 8 = .ok (.iadd, 1) := by decide +kernel
theorem d_M_access_9 : decode c_M_access 9 = .ok (.istore 6, 2) := by decide +kernel
theorem d_M_access_11 : decode c_M_access 11 = .ok (.iload_n 1, 1) := by decide +kernel
theorem d_M_access_12 : decode c_M_access 12 = .ok (.bipush 11, 2) := by decide +kernel
theorem d_M_access_14 : decode c_M_access 14 = .ok (.if_icmp .ne 24, 3) := by decide +kernel
theorem d_M_access_17 : decode c_M_access 17 = .ok (.aload_n 0, 1) := by decide +kernel
theorem d_M_access_18 : decode c_M_access 18 = .ok (.aload_n 0, 1) := by decide +kernel
theorem d_M_access_19 : decode c_M_access 19 = .ok (.getfield 20, 3) := by decide +kernel
theorem d_M_access_22 : decode c_M_access 22 = .ok (.iload 6, 2) := by decide +kernel
theorem d_M_access_24 : decode c_M_access 24 = .ok (.iconst 4, 1) := by decide +kernel
theorem d_M_access_25 : decode c_M_access 25 = .ok (.idiv, 1) := by decide +kernel
theorem d_M_access_26 : decode c_M_access 26 = .ok (.iaload, 1) := by decide +kernel
theorem d_M_access_27 : decode c_M_access 27 = .ok (.invokevirtual 128, 3) := by decide +kernel
theorem d_M_access_30 : decode c_M_access 30 = .ok (.aload_n 0, 1) := by decide +kernel
theorem d_M_access_31 : decode c_M_access 31 = .ok (.iload_n 2, 1) := by decide +kernel
theorem d_M_access_32 : decode c_M_access 32 = .ok (.invokevirtual 89, 3) := by decide +kernel
theorem d_M_access_35 : decode c_M_access 35 = .ok (.goto 164, 3) := by decide +kernel
theorem d_M_access_38 : decode c_M_access 38 = .ok (.iload_n 1, 1) := by decide +kernel
theorem d_M_access_39 : decode c_M_access 39 = .ok (.bipush 12, 2) := by decide +kernel
theorem d_M_access_41 : decode c_M_access 41 = .ok (.if_icmp .ne 33, 3) := by decide +kernel
theorem d_M_access_44 : decode c_M_access 44 = .ok (.aload_n 0, 1) := by decide +kernel
theorem d_M_access_45 : decode c_M_access 45 = .ok (.getfield 20, 3) := by decide +kernel
theorem d_M_access_48 : decode c_M_access 48 = .ok (.iload 6, 2) := by decide +kernel
theorem d_M_access_50 : decode c_M_access 50 = .ok (.iconst 4, 1) := by decide +kernel
theorem d_M_access_51 : decode c_M_access 51 = .ok (.idiv, 1) := by decide +kernel
theorem d_M_access_52 : decode c_M_access 52 = .ok (.aload_n 0, 1) := by decide +kernel
theorem d_M_access_53 : decode c_M_access 53 = .ok (.getfield 7, 3) := by decide +kernel
theorem d_M_access_56 : decode c_M_access 56 = .ok (.iload 4, 2) := by decide +kernel
theorem d_M_access_58 : decode c_M_access 58 = .ok (.iaload, 1) := by decide +kernel
theorem d_M_access_59 : decode c_M_access 59 = .ok (.iastore, 1) := by decide +kernel
theorem d_M_access_60 : decode c_M_access 60 = .ok (.aload_n 0, 1) := by decide +kernel
theorem d_M_access_61 : decode c_M_access 61 = .ok (.getfield 23, 3) := by decide +kernel
theorem d_M_access_64 : decode c_M_access 64 = .ok (.iload 6, 2) := by decide +kernel
theorem d_M_access_66 : decode c_M_access 66 = .ok (.bipush 8, 2) := by decide +kernel
theorem d_M_access_68 : decode c_M_access 68 = .ok (.idiv, 1) := by decide +kernel
theorem d_M_access_69 : decode c_M_access 69 = .ok (.iconst 0, 1) := by decide +kernel
theorem d_M_access_70 : decode c_M_access 70 = .ok (.bastore, 1) := by decide +kernel
theorem d_M_access_71 : decode c_M_access 71 = .ok (.goto 128, 3) := by decide +kernel
theorem d_M_access_74 : decode c_M_access 74 = .ok (.iload_n 1, 1) := by decide +kernel
theorem d_M_access_75 : decode c_M_access 75 = .ok (.bipush 13, 2) := by decide +kernel
theorem d_M_access_77 : decode c_M_access 77 = .ok (.if_icmp .ne 71, 3) := by decide +kernel
theorem d_M_access_80 : decode c_M_access 80 = .ok (.aload_n 0, 1) := by decide +kernel
theorem d_M_access_81 : decode c_M_access 81 = .ok (.aload_n 0, 1) := by decide +kernel
theorem d_M_access_82 : decode c_M_access 82 = .ok (.getfield 20, 3) := by decide +kernel
theorem d_M_access_85 : decode c_M_access 85 = .ok (.iload 6, 2) := by decide +kernel
theorem d_M_access_87 : decode c_M_access 87 = .ok (.iconst 4, 1) := by decide +kernel
theorem d_M_access_88 : decode c_M_access 88 = .ok (.idiv, 1) := by decide +kernel
theorem d_M_access_89 : decode c_M_access 89 = .ok (.iaload, 1) := by decide +kernel
theorem d_M_access_90 : decode c_M_access 90 = .ok (.putfield 71, 3) := by decide +kernel
theorem d_M_access_93 : decode c_M_access 93 = .ok (.aload_n 0, 1) := by decide +kernel
theorem d_M_access_94 : decode c_M_access 94 = .ok (.aload_n 0, 1) := by decide +kernel
theorem d_M_access_95 : decode c_M_access 95 = .ok (.getfield 20, 3) := by decide +kernel
theorem d_M_access_98 : decode c_M_access 98 = .ok (.iload 6, 2) := by decide +kernel
theorem d_M_access_100 : decode c_M_access 100 = .ok (.iconst 4, 1) := by decide +kernel
theorem d_M_access_101 : decode c_M_access 101 = .ok (.idiv, 1) := by decide +kernel
theorem d_M_access_102 : decode c_M_access 102 = .ok (.iconst 1, 1) := by decide +kernel
theorem d_M_access_103 : decode c_M_access 103 = .ok (.iadd, 1) := by decide +kernel
theorem d_M_access_104 : decode c_M_access 104 = .ok (.iaload, 1) := by decide +kernel
theorem d_M_access_105 : decode c_M_access 105 = .ok (.putfield 75, 3) := by decide +kernel
theorem d_M_access_108 : decode c_M_access 108 = .ok (.aload_n 0, 1) := by decide +kernel
theorem d_M_access_109 : decode c_M_access 109 = .ok (.aload_n 0, 1) := by decide +kernel
theorem d_M_access_110 : decode c_M_access 110 = .ok (.getfield 23, 3) := by decide +kernel
theorem d_M_access_113 : decode c_M_access 113 = .ok (.iload 6, 2) := by decide +kernel
theorem d_M_access_115 : decode c_M_access 115 = .ok (.bipush 8, 2) := by decide +kernel
theorem d_M_access_117 : decode c_M_access 117 = .ok (.idiv, 1) := by decide +kernel
theorem d_M_access_118 : decode c_M_access 118 = .ok (.baload, 1) := by decide +kernel
theorem d_M_access_119 : decode c_M_access 119 = .ok (.ifCond .eq 17, 3) := by decide +kernel
theorem d_M_access_122 : decode c_M_access 122 = .ok (.aload_n 0, 1) := by decide +kernel
theorem d_M_access_123 : decode c_M_access 123 = .ok (.iload_n 3, 1) := by decide +kernel
theorem d_M_access_124 : decode c_M_access 124 = .ok (.bipush 8, 2) := by decide +kernel
theorem d_M_access_126 : decode c_M_access 126 = .ok (.invokevirtual 61, 3) := by decide +kernel
theorem d_M_access_129 : decode c_M_access 129 = .ok (.ifCond .eq 7, 3) := by decide +kernel
theorem d_M_access_132 : decode c_M_access 132 = .ok (.iconst 1, 1) := by decide +kernel
theorem d_M_access_133 : decode c_M_access 133 = .ok (.goto 4, 3) := by decide +kernel
theorem d_M_access_136 : decode c_M_access 136 = .ok (.iconst 0, 1) := by decide +kernel
theorem d_M_access_137 : decode c_M_access 137 = .ok (.putfield 78, 3) := by decide +kernel
theorem d_M_access_140 : decode c_M_access 140 = .ok (.aload_n 0, 1) := by decide +kernel
theorem d_M_access_141 : decode c_M_access 141 = .ok (.iload_n 2, 1) := by decide +kernel
theorem d_M_access_142 : decode c_M_access 142 = .ok (.invokevirtual 89, 3) := by decide +kernel
theorem d_M_access_145 : decode c_M_access 145 = .ok (.goto 54, 3) := by decide +kernel
theorem d_M_access_148 : decode c_M_access 148 = .ok (.aload_n 0, 1) := by decide +kernel
theorem d_M_access_149 : decode c_M_access 149 = .ok (.getfield 20, 3) := by decide +kernel
theorem d_M_access_152 : decode c_M_access 152 = .ok (.iload 6, 2) := by decide +kernel
theorem d_M_access_154 : decode c_M_access 154 = .ok (.iconst 4, 1) := by decide +kernel
theorem d_M_access_155 : decode c_M_access 155 = .ok (.idiv, 1) := by decide +kernel
theorem d_M_access_156 : decode c_M_access 156 = .ok (.aload_n 0, 1) := by decide +kernel
theorem d_M_access_157 : decode c_M_access 157 = .ok (.getfield 7, 3) := by decide +kernel
theorem d_M_access_160 : decode c_M_access 160 = .ok (.iload 4, 2) := by decide +kernel
theorem d_M_access_162 : decode c_M_access 162 = .ok (.iaload, 1) := by decide +kernel
theorem d_M_access_163 : decode c_M_access 163 = .ok (.iastore, 1) := by decide +kernel
theorem d_M_access_164 : decode c_M_access 164 = .ok (.aload_n 0, 1) := by decide +kernel
theorem d_M_access_165 : decode c_M_access 165 = .ok (.getfield 20, 3) := by decide +kernel
theorem d_M_access_168 : decode c_M_access 168 = .ok (.iload 6, 2) := by decide +kernel
theorem d_M_access_170 : decode c_M_access 170 = .ok (.iconst 4, 1) := by decide +kernel
theorem d_M_access_171 : decode c_M_access 171 = .ok (.idiv, 1) := by decide +kernel
theorem d_M_access_172 : decode c_M_access 172 = .ok (.iconst 1, 1) := by decide +kernel
theorem d_M_access_173 : decode c_M_access 173 = .ok (.iadd, 1) := by decide +kernel
theorem d_M_access_174 : decode c_M_access 174 = .ok (.aload_n 0, 1) := by decide +kernel
theorem d_M_access_175 : decode c_M_access 175 = .ok (.getfield 13, 3) := by decide +kernel
theorem d_M_access_178 : decode c_M_access 178 = .ok (.iload 4, 2) := by decide +kernel
theorem d_M_access_180 : decode c_M_access 180 = .ok (.iaload, 1) := by decide +kernel
theorem d_M_access_181 : decode c_M_access 181 = .ok (.iastore, 1) := by decide +kernel
theorem d_M_access_182 : decode c_M_access 182 = .ok (.aload_n 0, 1) := by decide +kernel
theorem d_M_access_183 : decode c_M_access 183 = .ok (.getfield 23, 3) := by decide +kernel
theorem d_M_access_186 : decode c_M_access 186 = .ok (.iload 6, 2) := by decide +kernel
theorem d_M_access_188 : decode c_M_access 188 = .ok (.bipush 8, 2) := by decide +kernel
theorem d_M_access_190 : decode c_M_access 190 = .ok (.idiv, 1) := by decide +kernel
theorem d_M_access_191 : decode c_M_access 191 = .ok (.aload_n 0, 1) := by decide +kernel
theorem d_M_access_192 : decode c_M_access 192 = .ok (.getfield 16, 3) := by decide +kernel
theorem d_M_access_195 : decode c_M_access 195 = .ok (.iload 4, 2) := by decide +kernel
theorem d_M_access_197 : decode c_M_access 197 = .ok (.baload, 1) := by decide +kernel
theorem d_M_access_198 : decode c_M_access 198 = .ok (.bastore, 1) := by decide +kernel
theorem d_M_access_199 : decode c_M_access 199 = .ok (.return_, 1) := by decide +kernel
theorem d_M_turn_0 : decode c_M_turn 0 = .ok (.iload_n 1, 1) := by decide +kernel
theorem d_M_turn_1 : decode c_M_turn 1 = .ok (.bipush 15, 2) := by decide +kernel
theorem d_M_turn_3 : decode c_M_turn 3 = .ok (.if_icmp .eq 9, 3) := by decide +kernel
theorem d_M_turn_6 : decode c_M_turn 6 = .ok (.iload_n 1, 1) := by decide +kernel
theorem d_M_turn_7 : decode c_M_turn 7 = .ok (.bipush 16, 2) := by decide +kernel
theorem d_M_turn_9 : decode c_M_turn 9 = .ok (.if_icmp .ne 74, 3) := by decide +kernel
theorem d_M_turn_12 : decode c_M_turn 12 = .ok (.iload_n 1, 1) := by decide +kernel
theorem d_M_turn_13 : decode c_M_turn 13 = .ok (.bipush 15, 2) := by decide +kernel
theorem d_M_turn_15 : decode c_M_turn 15 = .ok (.if_icmp .ne 27, 3) := by decide +kernel
theorem d_M_turn_18 : decode c_M_turn 18 = .ok (.aload_n 0, 1) := by decide +kernel
theorem d_M_turn_19 : decode c_M_turn 19 = .ok (.getfield 7, 3) := by decide +kernel
theorem d_M_turn_22 : decode c_M_turn 22 = .ok (.iload_n 3, 1) := by decide +kernel
theorem d_M_turn_23 : decode c_M_turn 23 = .ok (.iaload, 1) := by decide +kernel
theorem d_M_turn_24 : decode c_M_turn 24 = .ok (.aload_n 0, 1) := by decide +kernel
theorem d_M_turn_25 : decode c_M_turn 25 = .ok (.getfield 7, 3) := by decide +kernel
theorem d_M_turn_28 : decode c_M_turn 28 = .ok (.iload 4, 2) := by decide +kernel
theorem d_M_turn_30 : decode c_M_turn 30 = .ok (.iaload, 1) := by decide +kernel
theorem d_M_turn_31 : decode c_M_turn 31 = .ok (.if_icmp .ne 7, 3) := by decide +kernel
theorem d_M_turn_34 : decode c_M_turn 34 = .ok (.iconst 1, 1) := by decide +kernel
theorem d_M_turn_35 : decode c_M_turn 35 = .ok (.goto 28, 3) := by decide +kernel
theorem d_M_turn_38 : decode c_M_turn 38 = .ok (.iconst 0, 1) := by decide +kernel
theorem d_M_turn_39 : decode c_M_turn 39 = .ok (.goto 24, 3) := by decide +kernel
theorem d_M_turn_42 : decode c_M_turn 42 = .ok (.aload_n 0, 1) := by decide +kernel
theorem d_M_turn_43 : decode c_M_turn 43 = .ok (.getfield 7, 3) := by decide +kernel
theorem d_M_turn_46 : decode c_M_turn 46 = .ok (.iload_n 3, 1) := by decide +kernel
theorem d_M_turn_47 : decode c_M_turn 47 = .ok (.iaload, 1) := by decide +kernel
theorem d_M_turn_48 : decode c_M_turn 48 = .ok (.aload_n 0, 1) := by decide +kernel
theorem d_M_turn_49 : decode c_M_turn 49 = .ok (.getfield 7, 3) := by decide +kernel
theorem d_M_turn_52 : decode c_M_turn 52 = .ok (.iload 4, 2) := by decide +kernel
theorem d_M_turn_54 : decode c_M_turn 54 = .ok (.iaload, 1) := by decide +kernel
theorem d_M_turn_55 : decode c_M_turn 55 = .ok (.if_icmp .ge 7, 3) := by decide +kernel
theorem d_M_turn_58 : decode c_M_turn 58 = .ok (.iconst 1, 1) := by decide +kernel
theorem d_M_turn_59 : decode c_M_turn 59 = .ok (.goto 4, 3) := by decide +kernel
theorem d_M_turn_62 : decode c_M_turn 62 = .ok (.iconst 0, 1) := by decide +kernel
theorem d_M_turn_63 : decode c_M_turn 63 = .ok (.istore 6, 2) := by decide +kernel
theorem d_M_turn_65 : decode c_M_turn 65 = .ok (.aload_n 0, 1) := by decide +kernel
theorem d_M_turn_66 : decode c_M_turn 66 = .ok (.iload 6, 2) := by decide +kernel
theorem d_M_turn_68 : decode c_M_turn 68 = .ok (.ifCond .eq 10, 3) := by decide +kernel
theorem d_M_turn_71 : decode c_M_turn 71 = .ok (.iconst 4, 1) := by decide +kernel
theorem d_M_turn_72 : decode c_M_turn 72 = .ok (.iload 5, 2) := by decide +kernel
theorem d_M_turn_74 : decode c_M_turn 74 = .ok (.imul, 1) := by decide +kernel
theorem d_M_turn_75 : decode c_M_turn 75 = .ok (.goto 4, 3) := by decide +kernel
theorem d_M_turn_78 : decode c_M_turn 78 = .ok (.iconst 4, 1) := by decide +kernel
theorem d_M_turn_79 : decode c_M_turn 79 = .ok (.invokevirtual 131, 3) := by decide +kernel
theorem d_M_turn_82 : decode c_M_turn 82 = .ok (.return_, 1) := by decide +kernel
theorem d_M_turn_83 : decode c_M_turn 83 = .ok (.iload_n 1, 1) := by decide +kernel
theorem d_M_turn_84 : decode c_M_turn 84 = .ok (.bipush 17, 2) := by decide +kernel
theorem d_M_turn_86 : decode c_M_turn 86 = .ok (.if_icmp .ne 21, 3) := by decide +kernel
theorem d_M_turn_89 : decode c_M_turn 89 = .ok (.aload_n 0, 1) := by decide +kernel
theorem d_M_turn_90 : decode c_M_turn 90 = .ok (.invokevirtual 148, 3) := by decide +kernel
theorem d_M_turn_93 : decode c_M_turn 93 = .ok (.aload_n 0, 1) := by decide +kernel
theorem d_M_turn_94 : decode c_M_turn 94 = .ok (.iload_n 2, 1) := by decide +kernel
theorem d_M_turn_95 : decode c_M_turn 95 = .ok (.invokevirtual 89, 3) := by decide +kernel
theorem d_M_turn_98 : decode c_M_turn 98 = .ok (.aload_n 0, 1) := by decide +kernel
theorem d_M_turn_99 : decode c_M_turn 99 = .ok (.iconst 4, 1) := by decide +kernel
theorem d_M_turn_100 : decode c_M_turn 100 = .ok (.iload 5, 2) := by decide +kernel
theorem d_M_turn_102 : decode c_M_turn 102 = .ok (.imul, 1) := by decide +kernel
theorem d_M_turn_103 : decode c_M_turn 103 = .ok (.invokevirtual 131, 3) := by decide +kernel
theorem d_M_turn_106 : decode c_M_turn 106 = .ok (.return_, 1) := by decide +kernel
theorem d_M_turn_107 : decode c_M_turn 107 = .ok (.aload_n 0, 1) := by decide +kernel
theorem d_M_turn_108 : decode c_M_turn 108 = .ok (.getfield 7, 3) := by decide +kernel
theorem d_M_turn_111 : decode c_M_turn 111 = .ok (.iload_n 3, 1) := by decide +kernel
theorem d_M_turn_112 : decode c_M_turn 112 = .ok (.iaload, 1) := by decide +kernel
theorem d_M_turn_113 : decode c_M_turn 113 = .ok (.istore 6, 2) := by decide +kernel
theorem d_M_turn_115 : decode c_M_turn 115 = .ok (.aload_n 0, 1) := by decide +kernel
theorem d_M_turn_116 : decode c_M_turn 116 = .ok (.getfield 13, 3) := by decide +kernel
theorem d_M_turn_119 : decode c_M_turn 119 = .ok (.iload_n 3, 1) := by decide +kernel
theorem d_M_turn_120 : decode c_M_turn 120 = .ok (.iaload, 1) := by decide +kernel
theorem d_M_turn_121 : decode c_M_turn 121 = .ok (.istore 7, 2) := by decide +kernel
theorem d_M_turn_123 : decode c_M_turn 123 = .ok (.aload_n 0, 1) := by decide +kernel
theorem d_M_turn_124 : decode c_M_turn 124 = .ok (.invokevirtual 148, 3) := by decide +kernel
theorem d_M_turn_127 : decode c_M_turn 127 = .ok (.aload_n 0, 1) := by decide +kernel
theorem d_M_turn_128 : decode c_M_turn 128 = .ok (.iload_n 2, 1) := by decide +kernel
theorem d_M_turn_129 : decode c_M_turn 129 = .ok (.invokevirtual 89, 3) := by decide +kernel
theorem d_M_turn_132 : decode c_M_turn 132 = .ok (.aload_n 0, 1) := by decide +kernel
theorem d_M_turn_133 : decode c_M_turn 133 = .ok (.iload 6, 2) := by decide +kernel
theorem d_M_turn_135 : decode c_M_turn 135 = .ok (.putfield 71, 3) := by decide +kernel
theorem d_M_turn_138 : decode c_M_turn 138 = .ok (.aload_n 0, 1) := by decide +kernel
theorem d_M_turn_139 : decode c_M_turn 139 = .ok (.iload 7, 2) := by decide +kernel
theorem d_M_turn_141 : decode c_M_turn 141 = .ok (.iconst 0, 1) := by decide +kernel
theorem d_M_turn_142 : decode c_M_turn 142 = .ok (.invokevirtual 92, 3) := by decide +kernel
theorem d_M_turn_145 : decode c_M_turn 145 = .ok (.aload_n 0, 1) := by decide +kernel
theorem d_M_turn_146 : decode c_M_turn 146 = .ok (.iconst 1, 1) := by decide +kernel
theorem d_M_turn_147 : decode c_M_turn 147 = .ok (.putfield 78, 3) := by decide +kernel
theorem d_M_turn_150 : decode c_M_turn 150 = .ok (.aload_n 0, 1) := by decide +kernel
theorem d_M_turn_151 : decode c_M_turn 151 = .ok (.bipush 8, 2) := by decide +kernel
theorem d_M_turn_153 : decode c_M_turn 153 = .ok (.invokevirtual 89, 3) := by decide +kernel
theorem d_M_turn_156 : decode c_M_turn 156 = .ok (.return_, 1) := by decide +kernel
theorem d_M_shape_0 : decode c_M_shape 0 = .ok (.aload_n 0, 1) := by decide +kernel
theorem d_M_shape_1 : decode c_M_shape 1 = .ok (.getfield 7, 3) := by decide +kernel
theorem d_M_shape_4 : decode c_M_shape 4 = .ok (.iload_n 3, 1) := by decide +kernel
theorem d_M_shape_5 : decode c_M_shape 5 = .ok (.iaload, 1) := by decide +kernel
theorem d_M_shape_6 : decode c_M_shape 6 = .ok (.istore 6, 2) := by decide +kernel
theorem d_M_shape_8 : decode c_M_shape 8 = .ok (.aload_n 0, 1) := by decide +kernel
theorem d_M_shape_9 : decode c_M_shape 9 = .ok (.getfield 7, 3) := by decide +kernel
theorem d_M_shape_12 : decode c_M_shape 12 = .ok (.iload 4, 2) := by decide +kernel
theorem d_M_shape_14 : decode c_M_shape 14 = .ok (.iaload, 1) := by decide +kernel
theorem d_M_shape_15 : decode c_M_shape 15 = .ok (.istore 7, 2) := by decide +kernel
theorem d_M_shape_17 : decode c_M_shape 17 = .ok (.aload_n 0, 1) := by decide +kernel
theorem d_M_shape_18 : decode c_M_shape 18 = .ok (.iload_n 3, 1) := by decide +kernel
theorem d_M_shape_19 : decode c_M_shape 19 = .ok (.invokevirtual 82, 3) := by decide +kernel
theorem d_M_shape_22 : decode c_M_shape 22 = .ok (.iload_n 1, 1) := by decide +kernel
theorem d_M_shape_23 : decode c_M_shape 23 = .ok (.bipush 19, 2) := by decide +kernel
theorem d_M_shape_25 : decode c_M_shape 25 = .ok (.if_icmp .ne 119, 3) := by decide +kernel
theorem d_M_shape_28 : decode c_M_shape 28 = .ok (.aload_n 0, 1) := by decide +kernel
theorem d_M_shape_29 : decode c_M_shape 29 = .ok (.getfield 13, 3) := by decide +kernel
theorem d_M_shape_32 : decode c_M_shape 32 = .ok (.iload_n 3, 1) := by decide +kernel
theorem d_M_shape_33 : decode c_M_shape 33 = .ok (.iaload, 1) := by decide +kernel
theorem d_M_shape_34 : decode c_M_shape 34 = .ok (.iload 6, 2) := by decide +kernel
theorem d_M_shape_36 : decode c_M_shape 36 = .ok (.invokestatic 65, 3) := by decide +kernel
theorem d_M_shape_39 : decode c_M_shape 39 = .ok (.lstore 8, 2) := by decide +kernel
theorem d_M_shape_41 : decode c_M_shape 41 = .ok (.aload_n 0, 1) := by decide +kernel
theorem d_M_shape_42 : decode c_M_shape 42 = .ok (.getfield 13, 3) := by decide +kernel
theorem d_M_shape_45 : decode c_M_shape 45 = .ok (.iload_n 3, 1) := by decide +kernel
theorem d_M_shape_46 : decode c_M_shape 46 = .ok (.iaload, 1) := by decide +kernel
theorem d_M_shape_47 : decode c_M_shape 47 = .ok (.iload 6, 2) := by decide +kernel
theorem d_M_shape_49 : decode c_M_shape 49 = .ok (.invokestatic 68, 3) := by decide +kernel
theorem d_M_shape_52 : decode c_M_shape 52 = .ok (.lstore 10, 2) := by decide +kernel
theorem d_M_shape_54 : decode c_M_shape 54 = .ok (.aload_n 0, 1) := by decide +kernel
theorem d_M_shape_55 : decode c_M_shape 55 = .ok (.aload_n 0, 1) := by decide +kernel
theorem d_M_shape_56 : decode c_M_shape 56 = .ok (.getfield 13, 3) := by decide +kernel
theorem d_M_shape_59 : decode c_M_shape 59 = .ok (.iload_n 3, 1) := by decide +kernel
theorem d_M_shape_60 : decode c_M_shape 60 = .ok (.iaload, 1) := by decide +kernel
theorem d_M_shape_61 : decode c_M_shape 61 = .ok (.iload 6, 2) := by decide +kernel
theorem d_M_shape_63 : decode c_M_shape 63 = .ok (.invokestatic 42, 3) := by decide +kernel
theorem d_M_shape_66 : decode c_M_shape 66 = .ok (.iload 6, 2) := by decide +kernel
theorem d_M_shape_68 : decode c_M_shape 68 = .ok (.invokestatic 42, 3) := by decide +kernel
theorem d_M_shape_71 : decode c_M_shape 71 = .ok (.iload 7, 2) := by decide +kernel
theorem d_M_shape_73 : decode c_M_shape 73 = .ok (.invokestatic 42, 3) := by decide +kernel
theorem d_M_shape_76 : decode c_M_shape 76 = .ok (.ladd, 1) := by decide +kernel
theorem d_M_shape_77 : decode c_M_shape 77 = .ok (.invokestatic 32, 3) := by decide +kernel
theorem d_M_shape_80 : decode c_M_shape 80 = .ok (.putfield 75, 3) := by decide +kernel
theorem d_M_shape_83 : decode c_M_shape 83 = .ok (.aload_n 0, 1) := by decide +kernel
theorem d_M_shape_84 : decode c_M_shape 84 = .ok (.aload_n 0, 1) := by decide +kernel
theorem d_M_shape_85 : decode c_M_shape 85 = .ok (.getfield 78, 3) := by decide +kernel
theorem d_M_shape_88 : decode c_M_shape 88 = .ok (.ifCond .eq 49, 3) := by decide +kernel
theorem d_M_shape_91 : decode c_M_shape 91 = .ok (.aload_n 0, 1) := by decide +kernel
theorem d_M_shape_92 : decode c_M_shape 92 = .ok (.getfield 13, 3) := by decide +kernel
theorem d_M_shape_95 : decode c_M_shape 95 = .ok (.iload_n 3, 1) := by decide +kernel
theorem d_M_shape_96 : decode c_M_shape 96 = .ok (.iaload, 1) := by decide +kernel
theorem d_M_shape_97 : decode c_M_shape 97 = .ok (.invokestatic 57, 3) := by decide +kernel
theorem d_M_shape_100 : decode c_M_shape 100 = .ok (.ifCond .ne 37, 3) := by decide +kernel
theorem d_M_shape_103 : decode c_M_shape 103 = .ok (.aload_n 0, 1) := by decide +kernel
theorem d_M_shape_104 : decode c_M_shape 104 = .ok (.getfield 75, 3) := by decide +kernel
theorem d_M_shape_107 : decode c_M_shape 107 = .ok (.iload 6, 2) := by decide +kernel
theorem d_M_shape_109 : decode c_M_shape 109 = .ok (.invokestatic 65, 3) := by decide +kernel
theorem d_M_shape_112 : decode c_M_shape 112 = .ok (.lload 8, 2) := by decide +kernel
theorem d_M_shape_114 : decode c_M_shape 114 = .ok (.lcmp, 1) := by decide +kernel
theorem d_M_shape_115 : decode c_M_shape 115 = .ok (.ifCond .lt 22, 3) := by decide +kernel
theorem d_M_shape_118 : decode c_M_shape 118 = .ok (.aload_n 0, 1) := by decide +kernel
theorem d_M_shape_119 : decode c_M_shape 119 = .ok (.getfield 75, 3) := by decide +kernel
theorem d_M_shape_122 : decode c_M_shape 122 = .ok (.iload 6, 2) := by decide +kernel
theorem d_M_shape_124 : decode c_M_shape 124 = .ok (.invokestatic 68, 3) := by decide +kernel
theorem d_M_shape_127 : decode c_M_shape 127 = .ok (.lload 10, 2) := by decide +kernel
end
section
theorem d_M_shape_129 : decode c_M_shape 129 = .ok (.lcmp, 1) := by decide +kernel
theorem d_M_shape_130 : decode c_M_shape 130 = .ok (.ifCond .gt 7, 3) := by decide +kernel
theorem d_M_shape_133 : decode c_M_shape 133 = .ok (.iconst 1, 1) := by decide +kernel
theorem d_M_shape_134 : decode c_M_shape 134 = .ok (.goto 4, 3) := by decide +kernel
theorem d_M_shape_137 : decode c_M_shape 137 = .ok (.iconst 0, 1) := by decide +kernel
theorem d_M_shape_138 : decode c_M_shape 138 = .ok (.putfield 78, 3) := by decide +kernel
theorem d_M_shape_141 : decode c_M_shape 141 = .ok (.goto 172, 3) := by decide +kernel
theorem d_M_shape_144 : decode c_M_shape 144 = .ok (.iload_n 1, 1) := by decide +kernel
theorem d_M_shape_145 : decode c_M_shape 145 = .ok (.bipush 20, 2) := by decide +kernel
theorem d_M_shape_147 : decode c_M_shape 147 = .ok (.if_icmp .ne 49, 3) := by decide +kernel
theorem d_M_shape_150 : decode c_M_shape 150 = .ok (.aload_n 0, 1) := by decide +kernel
theorem d_M_shape_151 : decode c_M_shape 151 = .ok (.aload_n 0, 1) := by decide +kernel
theorem d_M_shape_152 : decode c_M_shape 152 = .ok (.getfield 75, 3) := by decide +kernel
theorem d_M_shape_155 : decode c_M_shape 155 = .ok (.iload 7, 2) := by decide +kernel
theorem d_M_shape_157 : decode c_M_shape 157 = .ok (.sipush (-256), 3) := by decide +kernel
theorem d_M_shape_160 : decode c_M_shape 160 = .ok (.ior, 1) := by decide +kernel
theorem d_M_shape_161 : decode c_M_shape 161 = .ok (.iand, 1) := by decide +kernel
theorem d_M_shape_162 : decode c_M_shape 162 = .ok (.putfield 75, 3) := by decide +kernel
theorem d_M_shape_165 : decode c_M_shape 165 = .ok (.aload_n 0, 1) := by decide +kernel
theorem d_M_shape_166 : decode c_M_shape 166 = .ok (.aload_n 0, 1) := by decide +kernel
theorem d_M_shape_167 : decode c_M_shape 167 = .ok (.getfield 78, 3) := by decide +kernel
theorem d_M_shape_170 : decode c_M_shape 170 = .ok (.ifCond .eq 19, 3) := by decide +kernel
theorem d_M_shape_173 : decode c_M_shape 173 = .ok (.aload_n 0, 1) := by decide +kernel
theorem d_M_shape_174 : decode c_M_shape 174 = .ok (.getfield 13, 3) := by decide +kernel
theorem d_M_shape_177 : decode c_M_shape 177 = .ok (.iload_n 3, 1) := by decide +kernel
theorem d_M_shape_178 : decode c_M_shape 178 = .ok (.iaload, 1) := by decide +kernel
theorem d_M_shape_179 : decode c_M_shape 179 = .ok (.invokestatic 57, 3) := by decide +kernel
theorem d_M_shape_182 : decode c_M_shape 182 = .ok (.ifCond .ne 7, 3) := by decide +kernel
theorem d_M_shape_185 : decode c_M_shape 185 = .ok (.iconst 1, 1) := by decide +kernel
theorem d_M_shape_186 : decode c_M_shape 186 = .ok (.goto 4, 3) := by decide +kernel
theorem d_M_shape_189 : decode c_M_shape 189 = .ok (.iconst 0, 1) := by decide +kernel
theorem d_M_shape_190 : decode c_M_shape 190 = .ok (.putfield 78, 3) := by decide +kernel
theorem d_M_shape_193 : decode c_M_shape 193 = .ok (.goto 120, 3) := by decide +kernel
theorem d_M_shape_196 : decode c_M_shape 196 = .ok (.iload_n 1, 1) := by decide +kernel
theorem d_M_shape_197 : decode c_M_shape 197 = .ok (.bipush 21, 2) := by decide +kernel
theorem d_M_shape_199 : decode c_M_shape 199 = .ok (.if_icmp .ne 15, 3) := by decide +kernel
theorem d_M_shape_202 : decode c_M_shape 202 = .ok (.aload_n 0, 1) := by decide +kernel
theorem d_M_shape_203 : decode c_M_shape 203 = .ok (.iload 6, 2) := by decide +kernel
theorem d_M_shape_205 : decode c_M_shape 205 = .ok (.iload 7, 2) := by decide +kernel
theorem d_M_shape_207 : decode c_M_shape 207 = .ok (.iadd, 1) := by decide +kernel
theorem d_M_shape_208 : decode c_M_shape 208 = .ok (.invokevirtual 86, 3) := by decide +kernel
theorem d_M_shape_211 : decode c_M_shape 211 = .ok (.goto 102, 3) := by decide +kernel
theorem d_M_shape_214 : decode c_M_shape 214 = .ok (.iload_n 1, 1) := by decide +kernel
theorem d_M_shape_215 : decode c_M_shape 215 = .ok (.bipush 22, 2) := by decide +kernel
theorem d_M_shape_217 : decode c_M_shape 217 = .ok (.if_icmp .ne 12, 3) := by decide +kernel
theorem d_M_shape_220 : decode c_M_shape 220 = .ok (.aload_n 0, 1) := by decide +kernel
theorem d_M_shape_221 : decode c_M_shape 221 = .ok (.iload 7, 2) := by decide +kernel
theorem d_M_shape_223 : decode c_M_shape 223 = .ok (.invokevirtual 86, 3) := by decide +kernel
theorem d_M_shape_226 : decode c_M_shape 226 = .ok (.goto 87, 3) := by decide +kernel
theorem d_M_shape_229 : decode c_M_shape 229 = .ok (.iload_n 1, 1) := by decide +kernel
theorem d_M_shape_230 : decode c_M_shape 230 = .ok (.bipush 23, 2) := by decide +kernel
theorem d_M_shape_232 : decode c_M_shape 232 = .ok (.if_icmp .ne 16, 3) := by decide +kernel
theorem d_M_shape_235 : decode c_M_shape 235 = .ok (.aload_n 0, 1) := by decide +kernel
theorem d_M_shape_236 : decode c_M_shape 236 = .ok (.aload_n 0, 1) := by decide +kernel
theorem d_M_shape_237 : decode c_M_shape 237 = .ok (.getfield 75, 3) := by decide +kernel
theorem d_M_shape_240 : decode c_M_shape 240 = .ok (.iload 7, 2) := by decide +kernel
theorem d_M_shape_242 : decode c_M_shape 242 = .ok (.invokevirtual 92, 3) := by decide +kernel
theorem d_M_shape_245 : decode c_M_shape 245 = .ok (.goto 68, 3) := by decide +kernel
theorem d_M_shape_248 : decode c_M_shape 248 = .ok (.iload_n 1, 1) := by decide +kernel
theorem d_M_shape_249 : decode c_M_shape 249 = .ok (.bipush 24, 2) := by decide +kernel
theorem d_M_shape_251 : decode c_M_shape 251 = .ok (.if_icmp .ne 15, 3) := by decide +kernel
theorem d_M_shape_254 : decode c_M_shape 254 = .ok (.aload_n 0, 1) := by decide +kernel
theorem d_M_shape_255 : decode c_M_shape 255 = .ok (.aload_n 0, 1) := by decide +kernel
theorem d_M_shape_256 : decode c_M_shape 256 = .ok (.getfield 75, 3) := by decide +kernel
theorem d_M_shape_259 : decode c_M_shape 259 = .ok (.iconst 0, 1) := by decide +kernel
theorem d_M_shape_260 : decode c_M_shape 260 = .ok (.invokevirtual 92, 3) := by decide +kernel
theorem d_M_shape_263 : decode c_M_shape 263 = .ok (.goto 50, 3) := by decide +kernel
theorem d_M_shape_266 : decode c_M_shape 266 = .ok (.iload_n 1, 1) := by decide +kernel
theorem d_M_shape_267 : decode c_M_shape 267 = .ok (.bipush 25, 2) := by decide +kernel
theorem d_M_shape_269 : decode c_M_shape 269 = .ok (.if_icmp .ne 17, 3) := by decide +kernel
theorem d_M_shape_272 : decode c_M_shape 272 = .ok (.aload_n 0, 1) := by decide +kernel
theorem d_M_shape_273 : decode c_M_shape 273 = .ok (.aload_n 0, 1) := by decide +kernel
theorem d_M_shape_274 : decode c_M_shape 274 = .ok (.iload_n 3, 1) := by decide +kernel
theorem d_M_shape_275 : decode c_M_shape 275 = .ok (.iload 5, 2) := by decide +kernel
theorem d_M_shape_277 : decode c_M_shape 277 = .ok (.invokevirtual 151, 3) := by decide +kernel
theorem d_M_shape_280 : decode c_M_shape 280 = .ok (.invokevirtual 128, 3) := by decide +kernel
theorem d_M_shape_283 : decode c_M_shape 283 = .ok (.goto 30, 3) := by decide +kernel
theorem d_M_shape_286 : decode c_M_shape 286 = .ok (.iload_n 1, 1) := by decide +kernel
theorem d_M_shape_287 : decode c_M_shape 287 = .ok (.bipush 26, 2) := by decide +kernel
theorem d_M_shape_289 : decode c_M_shape 289 = .ok (.if_icmp .ne 13, 3) := by decide +kernel
theorem d_M_shape_292 : decode c_M_shape 292 = .ok (.aload_n 0, 1) := by decide +kernel
theorem d_M_shape_293 : decode c_M_shape 293 = .ok (.iload_n 3, 1) := by decide +kernel
theorem d_M_shape_294 : decode c_M_shape 294 = .ok (.iload 4, 2) := by decide +kernel
theorem d_M_shape_296 : decode c_M_shape 296 = .ok (.invokevirtual 154, 3) := by decide +kernel
theorem d_M_shape_299 : decode c_M_shape 299 = .ok (.goto 14, 3) := by decide +kernel
theorem d_M_shape_302 : decode c_M_shape 302 = .ok (.iload_n 1, 1) := by decide +kernel
theorem d_M_shape_303 : decode c_M_shape 303 = .ok (.bipush 28, 2) := by decide +kernel
theorem d_M_shape_305 : decode c_M_shape 305 = .ok (.if_icmp .ne 8, 3) := by decide +kernel
theorem d_M_shape_308 : decode c_M_shape 308 = .ok (.aload_n 0, 1) := by decide +kernel
theorem d_M_shape_309 : decode c_M_shape 309 = .ok (.iconst 0, 1) := by decide +kernel
theorem d_M_shape_310 : decode c_M_shape 310 = .ok (.putfield 78, 3) := by decide +kernel
theorem d_M_shape_313 : decode c_M_shape 313 = .ok (.aload_n 0, 1) := by decide +kernel
theorem d_M_shape_314 : decode c_M_shape 314 = .ok (.iload_n 2, 1) := by decide +kernel
theorem d_M_shape_315 : decode c_M_shape 315 = .ok (.invokevirtual 89, 3) := by decide +kernel
theorem d_M_shape_318 : decode c_M_shape 318 = .ok (.return_, 1) := by decide +kernel
theorem d_M_told_0 : decode c_M_told 0 = .ok (.aload_n 0, 1) := by decide +kernel
theorem d_M_told_1 : decode c_M_told 1 = .ok (.getfield 13, 3) := by decide +kernel
theorem d_M_told_4 : decode c_M_told 4 = .ok (.iload_n 1, 1) := by decide +kernel
theorem d_M_told_5 : decode c_M_told 5 = .ok (.iaload, 1) := by decide +kernel
theorem d_M_told_6 : decode c_M_told 6 = .ok (.aload_n 0, 1) := by decide +kernel
theorem d_M_told_7 : decode c_M_told 7 = .ok (.getfield 7, 3) := by decide +kernel
theorem d_M_told_10 : decode c_M_told 10 = .ok (.iload_n 1, 1) := by decide +kernel
theorem d_M_told_11 : decode c_M_told 11 = .ok (.iaload, 1) := by decide +kernel
theorem d_M_told_12 : decode c_M_told 12 = .ok (.invokestatic 65, 3) := by decide +kernel
theorem d_M_told_15 : decode c_M_told 15 = .ok (.lstore_n 3, 1) := by decide +kernel
theorem d_M_told_16 : decode c_M_told 16 = .ok (.iload_n 2, 1) := by decide +kernel
theorem d_M_told_17 : decode c_M_told 17 = .ok (.ifCond .ne 6, 3) := by decide +kernel
theorem d_M_told_20 : decode c_M_told 20 = .ok (.lload_n 3, 1) := by decide +kernel
theorem d_M_told_21 : decode c_M_told 21 = .ok (.l2i, 1) := by decide +kernel
theorem d_M_told_22 : decode c_M_told 22 = .ok (.ireturn, 1) := by decide +kernel
theorem d_M_told_23 : decode c_M_told 23 = .ok (.iload_n 2, 1) := by decide +kernel
theorem d_M_told_24 : decode c_M_told 24 = .ok (.iconst 1, 1) := by decide +kernel
theorem d_M_told_25 : decode c_M_told 25 = .ok (.if_icmp .ne 22, 3) := by decide +kernel
theorem d_M_told_28 : decode c_M_told 28 = .ok (.aload_n 0, 1) := by decide +kernel
theorem d_M_told_29 : decode c_M_told 29 = .ok (.getfield 13, 3) := by decide +kernel
theorem d_M_told_32 : decode c_M_told 32 = .ok (.iload_n 1, 1) := by decide +kernel
theorem d_M_told_33 : decode c_M_told 33 = .ok (.iaload, 1) := by decide +kernel
theorem d_M_told_34 : decode c_M_told 34 = .ok (.aload_n 0, 1) := by decide +kernel
theorem d_M_told_35 : decode c_M_told 35 = .ok (.getfield 7, 3) := by decide +kernel
theorem d_M_told_38 : decode c_M_told 38 = .ok (.iload_n 1, 1) := by decide +kernel
theorem d_M_told_39 : decode c_M_told 39 = .ok (.iaload, 1) := by decide +kernel
theorem d_M_told_40 : decode c_M_told 40 = .ok (.invokestatic 68, 3) := by decide +kernel
theorem d_M_told_43 : decode c_M_told 43 = .ok (.lload_n 3, 1) := by decide +kernel
theorem d_M_told_44 : decode c_M_told 44 = .ok (.lsub, 1) := by decide +kernel
theorem d_M_told_45 : decode c_M_told 45 = .ok (.l2i, 1) := by decide +kernel
theorem d_M_told_46 : decode c_M_told 46 = .ok (.ireturn, 1) := by decide +kernel
theorem d_M_told_47 : decode c_M_told 47 = .ok (.iload_n 2, 1) := by decide +kernel
theorem d_M_told_48 : decode c_M_told 48 = .ok (.iconst 2, 1) := by decide +kernel
theorem d_M_told_49 : decode c_M_told 49 = .ok (.if_icmp .ne 16, 3) := by decide +kernel
theorem d_M_told_52 : decode c_M_told 52 = .ok (.aload_n 0, 1) := by decide +kernel
theorem d_M_told_53 : decode c_M_told 53 = .ok (.getfield 13, 3) := by decide +kernel
theorem d_M_told_56 : decode c_M_told 56 = .ok (.iload_n 1, 1) := by decide +kernel
theorem d_M_told_57 : decode c_M_told 57 = .ok (.iaload, 1) := by decide +kernel
theorem d_M_told_58 : decode c_M_told 58 = .ok (.sipush 255, 3) := by decide +kernel
theorem d_M_told_61 : decode c_M_told 61 = .ok (.iand, 1) := by decide +kernel
theorem d_M_told_62 : decode c_M_told 62 = .ok (.goto 72, 3) := by decide +kernel
theorem d_M_told_65 : decode c_M_told 65 = .ok (.iload_n 2, 1) := by decide +kernel
theorem d_M_told_66 : decode c_M_told 66 = .ok (.iconst 3, 1) := by decide +kernel
theorem d_M_told_67 : decode c_M_told 67 = .ok (.if_icmp .ne 15, 3) := by decide +kernel
theorem d_M_told_70 : decode c_M_told 70 = .ok (.aload_n 0, 1) := by decide +kernel
theorem d_M_told_71 : decode c_M_told 71 = .ok (.getfield 13, 3) := by decide +kernel
theorem d_M_told_74 : decode c_M_told 74 = .ok (.iload_n 1, 1) := by decide +kernel
theorem d_M_told_75 : decode c_M_told 75 = .ok (.iaload, 1) := by decide +kernel
theorem d_M_told_76 : decode c_M_told 76 = .ok (.invokestatic 57, 3) := by decide +kernel
theorem d_M_told_79 : decode c_M_told 79 = .ok (.goto 55, 3) := by decide +kernel
theorem d_M_told_82 : decode c_M_told 82 = .ok (.iload_n 2, 1) := by decide +kernel
theorem d_M_told_83 : decode c_M_told 83 = .ok (.iconst 4, 1) := by decide +kernel
theorem d_M_told_84 : decode c_M_told 84 = .ok (.if_icmp .ne 20, 3) := by decide +kernel
theorem d_M_told_87 : decode c_M_told 87 = .ok (.aload_n 0, 1) := by decide +kernel
theorem d_M_told_88 : decode c_M_told 88 = .ok (.getfield 16, 3) := by decide +kernel
theorem d_M_told_91 : decode c_M_told 91 = .ok (.iload_n 1, 1) := by decide +kernel
theorem d_M_told_92 : decode c_M_told 92 = .ok (.baload, 1) := by decide +kernel
theorem d_M_told_93 : decode c_M_told 93 = .ok (.ifCond .eq 7, 3) := by decide +kernel
theorem d_M_told_96 : decode c_M_told 96 = .ok (.iconst 1, 1) := by decide +kernel
theorem d_M_told_97 : decode c_M_told 97 = .ok (.goto 37, 3) := by decide +kernel
theorem d_M_told_100 : decode c_M_told 100 = .ok (.iconst 0, 1) := by decide +kernel
theorem d_M_told_101 : decode c_M_told 101 = .ok (.goto 33, 3) := by decide +kernel
theorem d_M_told_104 : decode c_M_told 104 = .ok (.iload_n 2, 1) := by decide +kernel
theorem d_M_told_105 : decode c_M_told 105 = .ok (.iconst 5, 1) := by decide +kernel
theorem d_M_told_106 : decode c_M_told 106 = .ok (.if_icmp .ne 12, 3) := by decide +kernel
theorem d_M_told_109 : decode c_M_told 109 = .ok (.aload_n 0, 1) := by decide +kernel
theorem d_M_told_110 : decode c_M_told 110 = .ok (.getfield 7, 3) := by decide +kernel
theorem d_M_told_113 : decode c_M_told 113 = .ok (.iload_n 1, 1) := by decide +kernel
theorem d_M_told_114 : decode c_M_told 114 = .ok (.iaload, 1) := by decide +kernel
theorem d_M_told_115 : decode c_M_told 115 = .ok (.goto 19, 3) := by decide +kernel
theorem d_M_told_118 : decode c_M_told 118 = .ok (.iload_n 2, 1) := by decide +kernel
theorem d_M_told_119 : decode c_M_told 119 = .ok (.bipush 6, 2) := by decide +kernel
theorem d_M_told_121 : decode c_M_told 121 = .ok (.if_icmp .ne 12, 3) := by decide +kernel
theorem d_M_told_124 : decode c_M_told 124 = .ok (.aload_n 0, 1) := by decide +kernel
theorem d_M_told_125 : decode c_M_told 125 = .ok (.getfield 13, 3) := by decide +kernel
theorem d_M_told_128 : decode c_M_told 128 = .ok (.iload_n 1, 1) := by decide +kernel
theorem d_M_told_129 : decode c_M_told 129 = .ok (.iaload, 1) := by decide +kernel
theorem d_M_told_130 : decode c_M_told 130 = .ok (.goto 4, 3) := by decide +kernel
theorem d_M_told_133 : decode c_M_told 133 = .ok (.iconst 0, 1) := by decide +kernel
theorem d_M_told_134 : decode c_M_told 134 = .ok (.ireturn, 1) := by decide +kernel
theorem d_M_build_0 : decode c_M_build 0 = .ok (.aload_n 0, 1) := by decide +kernel
theorem d_M_build_1 : decode c_M_build 1 = .ok (.getfield 13, 3) := by decide +kernel
theorem d_M_build_4 : decode c_M_build 4 = .ok (.iload_n 2, 1) := by decide +kernel
theorem d_M_build_5 : decode c_M_build 5 = .ok (.iaload, 1) := by decide +kernel
theorem d_M_build_6 : decode c_M_build 6 = .ok (.aload_n 0, 1) := by decide +kernel
theorem d_M_build_7 : decode c_M_build 7 = .ok (.getfield 7, 3) := by decide +kernel
theorem d_M_build_10 : decode c_M_build 10 = .ok (.iload_n 2, 1) := by decide +kernel
theorem d_M_build_11 : decode c_M_build 11 = .ok (.iaload, 1) := by decide +kernel
theorem d_M_build_12 : decode c_M_build 12 = .ok (.invokestatic 65, 3) := by decide +kernel
theorem d_M_build_15 : decode c_M_build 15 = .ok (.lstore_n 3, 1) := by decide +kernel
theorem d_M_build_16 : decode c_M_build 16 = .ok (.aload_n 0, 1) := by decide +kernel
theorem d_M_build_17 : decode c_M_build 17 = .ok (.getfield 13, 3) := by decide +kernel
theorem d_M_build_20 : decode c_M_build 20 = .ok (.iload_n 2, 1) := by decide +kernel
theorem d_M_build_21 : decode c_M_build 21 = .ok (.iaload, 1) := by decide +kernel
theorem d_M_build_22 : decode c_M_build 22 = .ok (.aload_n 0, 1) := by decide +kernel
theorem d_M_build_23 : decode c_M_build 23 = .ok (.getfield 7, 3) := by decide +kernel
theorem d_M_build_26 : decode c_M_build 26 = .ok (.iload_n 2, 1) := by decide +kernel
theorem d_M_build_27 : decode c_M_build 27 = .ok (.iaload, 1) := by decide +kernel
theorem d_M_build_28 : decode c_M_build 28 = .ok (.invokestatic 68, 3) := by decide +kernel
theorem d_M_build_31 : decode c_M_build 31 = .ok (.lstore 5, 2) := by decide +kernel
theorem d_M_build_33 : decode c_M_build 33 = .ok (.lload_n 3, 1) := by decide +kernel
theorem d_M_build_34 : decode c_M_build 34 = .ok (.aload_n 0, 1) := by decide +kernel
theorem d_M_build_35 : decode c_M_build 35 = .ok (.getfield 13, 3) := by decide +kernel
theorem d_M_build_38 : decode c_M_build 38 = .ok (.iload_n 1, 1) := by decide +kernel
theorem d_M_build_39 : decode c_M_build 39 = .ok (.iaload, 1) := by decide +kernel
theorem d_M_build_40 : decode c_M_build 40 = .ok (.aload_n 0, 1) := by decide +kernel
theorem d_M_build_41 : decode c_M_build 41 = .ok (.getfield 7, 3) := by decide +kernel
theorem d_M_build_44 : decode c_M_build 44 = .ok (.iload_n 1, 1) := by decide +kernel
theorem d_M_build_45 : decode c_M_build 45 = .ok (.iaload, 1) := by decide +kernel
theorem d_M_build_46 : decode c_M_build 46 = .ok (.invokestatic 65, 3) := by decide +kernel
theorem d_M_build_49 : decode c_M_build 49 = .ok (.lcmp, 1) := by decide +kernel
theorem d_M_build_50 : decode c_M_build 50 = .ok (.ifCond .lt 35, 3) := by decide +kernel
theorem d_M_build_53 : decode c_M_build 53 = .ok (.lload_n 3, 1) := by decide +kernel
theorem d_M_build_54 : decode c_M_build 54 = .ok (.lload 5, 2) := by decide +kernel
theorem d_M_build_56 : decode c_M_build 56 = .ok (.lcmp, 1) := by decide +kernel
theorem d_M_build_57 : decode c_M_build 57 = .ok (.ifCond .gt 28, 3) := by decide +kernel
theorem d_M_build_60 : decode c_M_build 60 = .ok (.lload 5, 2) := by decide +kernel
theorem d_M_build_62 : decode c_M_build 62 = .ok (.aload_n 0, 1) := by decide +kernel
theorem d_M_build_63 : decode c_M_build 63 = .ok (.getfield 13, 3) := by decide +kernel
theorem d_M_build_66 : decode c_M_build 66 = .ok (.iload_n 1, 1) := by decide +kernel
theorem d_M_build_67 : decode c_M_build 67 = .ok (.iaload, 1) := by decide +kernel
theorem d_M_build_68 : decode c_M_build 68 = .ok (.aload_n 0, 1) := by decide +kernel
theorem d_M_build_69 : decode c_M_build 69 = .ok (.getfield 7, 3) := by decide +kernel
theorem d_M_build_72 : decode c_M_build 72 = .ok (.iload_n 1, 1) := by decide +kernel
theorem d_M_build_73 : decode c_M_build 73 = .ok (.iaload, 1) := by decide +kernel
theorem d_M_build_74 : decode c_M_build 74 = .ok (.invokestatic 68, 3) := by decide +kernel
theorem d_M_build_77 : decode c_M_build 77 = .ok (.lcmp, 1) := by decide +kernel
theorem d_M_build_78 : decode c_M_build 78 = .ok (.ifCond .gt 7, 3) := by decide +kernel
theorem d_M_build_81 : decode c_M_build 81 = .ok (.iconst 1, 1) := by decide +kernel
theorem d_M_build_82 : decode c_M_build 82 = .ok (.goto 4, 3) := by decide +kernel
theorem d_M_build_85 : decode c_M_build 85 = .ok (.iconst 0, 1) := by decide +kernel
theorem d_M_build_86 : decode c_M_build 86 = .ok (.istore 7, 2) := by decide +kernel
theorem d_M_build_88 : decode c_M_build 88 = .ok (.aload_n 0, 1) := by decide +kernel
theorem d_M_build_89 : decode c_M_build 89 = .ok (.getfield 13, 3) := by decide +kernel
theorem d_M_build_92 : decode c_M_build 92 = .ok (.iload_n 1, 1) := by decide +kernel
theorem d_M_build_93 : decode c_M_build 93 = .ok (.iaload, 1) := by decide +kernel
theorem d_M_build_94 : decode c_M_build 94 = .ok (.invokestatic 57, 3) := by decide +kernel
theorem d_M_build_97 : decode c_M_build 97 = .ok (.ifCond .ne 41, 3) := by decide +kernel
theorem d_M_build_100 : decode c_M_build 100 = .ok (.aload_n 0, 1) := by decide +kernel
theorem d_M_build_101 : decode c_M_build 101 = .ok (.getfield 13, 3) := by decide +kernel
theorem d_M_build_104 : decode c_M_build 104 = .ok (.iload_n 2, 1) := by decide +kernel
theorem d_M_build_105 : decode c_M_build 105 = .ok (.iaload, 1) := by decide +kernel
theorem d_M_build_106 : decode c_M_build 106 = .ok (.invokestatic 57, 3) := by decide +kernel
theorem d_M_build_109 : decode c_M_build 109 = .ok (.ifCond .ne 29, 3) := by decide +kernel
theorem d_M_build_112 : decode c_M_build 112 = .ok (.aload_n 0, 1) := by decide +kernel
theorem d_M_build_113 : decode c_M_build 113 = .ok (.getfield 13, 3) := by decide +kernel
theorem d_M_build_116 : decode c_M_build 116 = .ok (.iload_n 2, 1) := by decide +kernel
theorem d_M_build_117 : decode c_M_build 117 = .ok (.iaload, 1) := by decide +kernel
theorem d_M_build_118 : decode c_M_build 118 = .ok (.sipush 255, 3) := by decide +kernel
theorem d_M_build_121 : decode c_M_build 121 = .ok (.iand, 1) := by decide +kernel
theorem d_M_build_122 : decode c_M_build 122 = .ok (.aload_n 0, 1) := by decide +kernel
theorem d_M_build_123 : decode c_M_build 123 = .ok (.getfield 13, 3) := by decide +kernel
theorem d_M_build_126 : decode c_M_build 126 = .ok (.iload_n 1, 1) := by decide +kernel
theorem d_M_build_127 : decode c_M_build 127 = .ok (.iaload, 1) := by decide +kernel
theorem d_M_build_128 : decode c_M_build 128 = .ok (.iconst (-1), 1) := by decide +kernel
theorem d_M_build_129 : decode c_M_build 129 = .ok (.ixor, 1) := by decide +kernel
theorem d_M_build_130 : decode c_M_build 130 = .ok (.iand, 1) := by decide +kernel
theorem d_M_build_131 : decode c_M_build 131 = .ok (.ifCond .ne 7, 3) := by decide +kernel
theorem d_M_build_134 : decode c_M_build 134 = .ok (.iconst 1, 1) := by decide +kernel
theorem d_M_build_135 : decode c_M_build 135 = .ok (.goto 4, 3) := by decide +kernel
theorem d_M_build_138 : decode c_M_build 138 = .ok (.iconst 0, 1) := by decide +kernel
theorem d_M_build_139 : decode c_M_build 139 = .ok (.istore 8, 2) := by decide +kernel
theorem d_M_build_141 : decode c_M_build 141 = .ok (.aload_n 0, 1) := by decide +kernel
theorem d_M_build_142 : decode c_M_build 142 = .ok (.getfield 16, 3) := by decide +kernel
theorem d_M_build_145 : decode c_M_build 145 = .ok (.iload_n 1, 1) := by decide +kernel
theorem d_M_build_146 : decode c_M_build 146 = .ok (.baload, 1) := by decide +kernel
theorem d_M_build_147 : decode c_M_build 147 = .ok (.ifCond .eq 17, 3) := by decide +kernel
theorem d_M_build_150 : decode c_M_build 150 = .ok (.iload 7, 2) := by decide +kernel
theorem d_M_build_152 : decode c_M_build 152 = .ok (.ifCond .eq 12, 3) := by decide +kernel
theorem d_M_build_155 : decode c_M_build 155 = .ok (.iload 8, 2) := by decide +kernel
theorem d_M_build_157 : decode c_M_build 157 = .ok (.ifCond .eq 7, 3) := by decide +kernel
theorem d_M_build_160 : decode c_M_build 160 = .ok (.iconst 1, 1) := by decide +kernel
theorem d_M_build_161 : decode c_M_build 161 = .ok (.goto 4, 3) := by decide +kernel
theorem d_M_build_164 : decode c_M_build 164 = .ok (.iconst 0, 1) := by decide +kernel
theorem d_M_build_165 : decode c_M_build 165 = .ok (.istore 9, 2) := by decide +kernel
theorem d_M_build_167 : decode c_M_build 167 = .ok (.aload_n 0, 1) := by decide +kernel
theorem d_M_build_168 : decode c_M_build 168 = .ok (.iload_n 2, 1) := by decide +kernel
theorem d_M_build_169 : decode c_M_build 169 = .ok (.invokevirtual 82, 3) := by decide +kernel
theorem d_M_build_172 : decode c_M_build 172 = .ok (.aload_n 0, 1) := by decide +kernel
theorem d_M_build_173 : decode c_M_build 173 = .ok (.iload 9, 2) := by decide +kernel
theorem d_M_build_175 : decode c_M_build 175 = .ok (.putfield 78, 3) := by decide +kernel
theorem d_M_build_178 : decode c_M_build 178 = .ok (.return_, 1) := by decide +kernel
theorem d_M_rule_0 : decode c_M_rule 0 = .ok (.iload_n 1, 1) := by decide +kernel
theorem d_M_rule_1 : decode c_M_rule 1 = .ok (.bipush 31, 2) := by decide +kernel
theorem d_M_rule_3 : decode c_M_rule 3 = .ok (.if_icmp .ne 46, 3) := by decide +kernel
theorem d_M_rule_6 : decode c_M_rule 6 = .ok (.aload_n 0, 1) := by decide +kernel
theorem d_M_rule_7 : decode c_M_rule 7 = .ok (.bipush 10, 2) := by decide +kernel
theorem d_M_rule_9 : decode c_M_rule 9 = .ok (.invokevirtual 82, 3) := by decide +kernel
theorem d_M_rule_12 : decode c_M_rule 12 = .ok (.aload_n 0, 1) := by decide +kernel
theorem d_M_rule_13 : decode c_M_rule 13 = .ok (.aload_n 0, 1) := by decide +kernel
theorem d_M_rule_14 : decode c_M_rule 14 = .ok (.getfield 75, 3) := by decide +kernel
theorem d_M_rule_17 : decode c_M_rule 17 = .ok (.invokestatic 57, 3) := by decide +kernel
theorem d_M_rule_20 : decode c_M_rule 20 = .ok (.iconst 1, 1) := by decide +kernel
theorem d_M_rule_21 : decode c_M_rule 21 = .ok (.if_icmp .ne 14, 3) := by decide +kernel
theorem d_M_rule_24 : decode c_M_rule 24 = .ok (.aload_n 0, 1) := by decide +kernel
theorem d_M_rule_25 : decode c_M_rule 25 = .ok (.getfield 75, 3) := by decide +kernel
theorem d_M_rule_28 : decode c_M_rule 28 = .ok (.sipush (-3841), 3) := by decide +kernel
theorem d_M_rule_31 : decode c_M_rule 31 = .ok (.iand, 1) := by decide +kernel
theorem d_M_rule_32 : decode c_M_rule 32 = .ok (.goto 7, 3) := by decide +kernel
theorem d_M_rule_35 : decode c_M_rule 35 = .ok (.aload_n 0, 1) := by decide +kernel
theorem d_M_rule_36 : decode c_M_rule 36 = .ok (.getfield 75, 3) := by decide +kernel
theorem d_M_rule_39 : decode c_M_rule 39 = .ok (.putfield 75, 3) := by decide +kernel
theorem d_M_rule_42 : decode c_M_rule 42 = .ok (.aload_n 0, 1) := by decide +kernel
theorem d_M_rule_43 : decode c_M_rule 43 = .ok (.bipush 8, 2) := by decide +kernel
theorem d_M_rule_45 : decode c_M_rule 45 = .ok (.invokevirtual 89, 3) := by decide +kernel
end
section
theorem d_M_rule_48 : decode c_M_rule 48 = .ok (.return_, 1) := by decide +kernel
theorem d_M_rule_49 : decode c_M_rule 49 = .ok (.aload_n 0, 1) := by decide +kernel
theorem d_M_rule_50 : decode c_M_rule 50 = .ok (.getfield 7, 3) := by decide +kernel
theorem d_M_rule_53 : decode c_M_rule 53 = .ok (.iload_n 3, 1) := by decide +kernel
theorem d_M_rule_54 : decode c_M_rule 54 = .ok (.iaload, 1) := by decide +kernel
theorem d_M_rule_55 : decode c_M_rule 55 = .ok (.istore 5, 2) := by decide +kernel
theorem d_M_rule_57 : decode c_M_rule 57 = .ok (.aload_n 0, 1) := by decide +kernel
theorem d_M_rule_58 : decode c_M_rule 58 = .ok (.getfield 13, 3) := by decide +kernel
theorem d_M_rule_61 : decode c_M_rule 61 = .ok (.iload_n 3, 1) := by decide +kernel
theorem d_M_rule_62 : decode c_M_rule 62 = .ok (.iaload, 1) := by decide +kernel
theorem d_M_rule_63 : decode c_M_rule 63 = .ok (.istore 6, 2) := by decide +kernel
theorem d_M_rule_65 : decode c_M_rule 65 = .ok (.aload_n 0, 1) := by decide +kernel
theorem d_M_rule_66 : decode c_M_rule 66 = .ok (.getfield 16, 3) := by decide +kernel
theorem d_M_rule_69 : decode c_M_rule 69 = .ok (.iload_n 3, 1) := by decide +kernel
theorem d_M_rule_70 : decode c_M_rule 70 = .ok (.baload, 1) := by decide +kernel
theorem d_M_rule_71 : decode c_M_rule 71 = .ok (.istore 7, 2) := by decide +kernel
theorem d_M_rule_73 : decode c_M_rule 73 = .ok (.aload_n 0, 1) := by decide +kernel
theorem d_M_rule_74 : decode c_M_rule 74 = .ok (.bipush 9, 2) := by decide +kernel
theorem d_M_rule_76 : decode c_M_rule 76 = .ok (.iload 4, 2) := by decide +kernel
theorem d_M_rule_78 : decode c_M_rule 78 = .ok (.iadd, 1) := by decide +kernel
theorem d_M_rule_79 : decode c_M_rule 79 = .ok (.invokevirtual 82, 3) := by decide +kernel
theorem d_M_rule_82 : decode c_M_rule 82 = .ok (.aload_n 0, 1) := by decide +kernel
theorem d_M_rule_83 : decode c_M_rule 83 = .ok (.iload_n 2, 1) := by decide +kernel
theorem d_M_rule_84 : decode c_M_rule 84 = .ok (.invokevirtual 89, 3) := by decide +kernel
theorem d_M_rule_87 : decode c_M_rule 87 = .ok (.iload_n 3, 1) := by decide +kernel
theorem d_M_rule_88 : decode c_M_rule 88 = .ok (.ifCond .eq 30, 3) := by decide +kernel
theorem d_M_rule_91 : decode c_M_rule 91 = .ok (.aload_n 0, 1) := by decide +kernel
theorem d_M_rule_92 : decode c_M_rule 92 = .ok (.iload 5, 2) := by decide +kernel
theorem d_M_rule_94 : decode c_M_rule 94 = .ok (.putfield 71, 3) := by decide +kernel
theorem d_M_rule_97 : decode c_M_rule 97 = .ok (.aload_n 0, 1) := by decide +kernel
theorem d_M_rule_98 : decode c_M_rule 98 = .ok (.iload 6, 2) := by decide +kernel
theorem d_M_rule_100 : decode c_M_rule 100 = .ok (.putfield 75, 3) := by decide +kernel
theorem d_M_rule_103 : decode c_M_rule 103 = .ok (.aload_n 0, 1) := by decide +kernel
theorem d_M_rule_104 : decode c_M_rule 104 = .ok (.iload 7, 2) := by decide +kernel
theorem d_M_rule_106 : decode c_M_rule 106 = .ok (.putfield 78, 3) := by decide +kernel
theorem d_M_rule_109 : decode c_M_rule 109 = .ok (.aload_n 0, 1) := by decide +kernel
theorem d_M_rule_110 : decode c_M_rule 110 = .ok (.bipush 9, 2) := by decide +kernel
theorem d_M_rule_112 : decode c_M_rule 112 = .ok (.iload 4, 2) := by decide +kernel
theorem d_M_rule_114 : decode c_M_rule 114 = .ok (.iadd, 1) := by decide +kernel
theorem d_M_rule_115 : decode c_M_rule 115 = .ok (.invokevirtual 89, 3) := by decide +kernel
theorem d_M_rule_118 : decode c_M_rule 118 = .ok (.aload_n 0, 1) := by decide +kernel
theorem d_M_rule_119 : decode c_M_rule 119 = .ok (.iconst 4, 1) := by decide +kernel
theorem d_M_rule_120 : decode c_M_rule 120 = .ok (.invokevirtual 131, 3) := by decide +kernel
theorem d_M_rule_123 : decode c_M_rule 123 = .ok (.return_, 1) := by decide +kernel
theorem d_M_poke_0 : decode c_M_poke 0 = .ok (.iload_n 1, 1) := by decide +kernel
theorem d_M_poke_1 : decode c_M_poke 1 = .ok (.ifCond .lt 10, 3) := by decide +kernel
theorem d_M_poke_4 : decode c_M_poke 4 = .ok (.iload_n 1, 1) := by decide +kernel
theorem d_M_poke_5 : decode c_M_poke 5 = .ok (.sipush 255, 3) := by decide +kernel
theorem d_M_poke_8 : decode c_M_poke 8 = .ok (.if_icmp .le 5, 3) := by decide +kernel
theorem d_M_poke_11 : decode c_M_poke 11 = .ok (.iconst 0, 1) := by decide +kernel
theorem d_M_poke_12 : decode c_M_poke 12 = .ok (.ireturn, 1) := by decide +kernel
theorem d_M_poke_13 : decode c_M_poke 13 = .ok (.aload_n 0, 1) := by decide +kernel
theorem d_M_poke_14 : decode c_M_poke 14 = .ok (.getfield 20, 3) := by decide +kernel
theorem d_M_poke_17 : decode c_M_poke 17 = .ok (.iload_n 1, 1) := by decide +kernel
theorem d_M_poke_18 : decode c_M_poke 18 = .ok (.iload_n 2, 1) := by decide +kernel
theorem d_M_poke_19 : decode c_M_poke 19 = .ok (.iastore, 1) := by decide +kernel
theorem d_M_poke_20 : decode c_M_poke 20 = .ok (.aload_n 0, 1) := by decide +kernel
theorem d_M_poke_21 : decode c_M_poke 21 = .ok (.getfield 23, 3) := by decide +kernel
theorem d_M_poke_24 : decode c_M_poke 24 = .ok (.iload_n 1, 1) := by decide +kernel
theorem d_M_poke_25 : decode c_M_poke 25 = .ok (.iconst 2, 1) := by decide +kernel
theorem d_M_poke_26 : decode c_M_poke 26 = .ok (.idiv, 1) := by decide +kernel
theorem d_M_poke_27 : decode c_M_poke 27 = .ok (.iconst 0, 1) := by decide +kernel
theorem d_M_poke_28 : decode c_M_poke 28 = .ok (.bastore, 1) := by decide +kernel
theorem d_M_poke_29 : decode c_M_poke 29 = .ok (.iconst 1, 1) := by decide +kernel
theorem d_M_poke_30 : decode c_M_poke 30 = .ok (.ireturn, 1) := by decide +kernel
theorem d_M_peek_0 : decode c_M_peek 0 = .ok (.iload_n 1, 1) := by decide +kernel
theorem d_M_peek_1 : decode c_M_peek 1 = .ok (.ifCond .lt 10, 3) := by decide +kernel
theorem d_M_peek_4 : decode c_M_peek 4 = .ok (.iload_n 1, 1) := by decide +kernel
theorem d_M_peek_5 : decode c_M_peek 5 = .ok (.sipush 255, 3) := by decide +kernel
theorem d_M_peek_8 : decode c_M_peek 8 = .ok (.if_icmp .le 7, 3) := by decide +kernel
theorem d_M_peek_11 : decode c_M_peek 11 = .ok (.iconst 0, 1) := by decide +kernel
theorem d_M_peek_12 : decode c_M_peek 12 = .ok (.goto 9, 3) := by decide +kernel
theorem d_M_peek_15 : decode c_M_peek 15 = .ok (.aload_n 0, 1) := by decide +kernel
theorem d_M_peek_16 : decode c_M_peek 16 = .ok (.getfield 20, 3) := by decide +kernel
theorem d_M_peek_19 : decode c_M_peek 19 = .ok (.iload_n 1, 1) := by decide +kernel
theorem d_M_peek_20 : decode c_M_peek 20 = .ok (.iaload, 1) := by decide +kernel
theorem d_M_peek_21 : decode c_M_peek 21 = .ok (.ireturn, 1) := by decide +kernel
theorem d_M_tagged_0 : decode c_M_tagged 0 = .ok (.iload_n 1, 1) := by decide +kernel
theorem d_M_tagged_1 : decode c_M_tagged 1 = .ok (.ifCond .lt 23, 3) := by decide +kernel
theorem d_M_tagged_4 : decode c_M_tagged 4 = .ok (.iload_n 1, 1) := by decide +kernel
theorem d_M_tagged_5 : decode c_M_tagged 5 = .ok (.sipush 128, 3) := by decide +kernel
theorem d_M_tagged_8 : decode c_M_tagged 8 = .ok (.if_icmp .ge 16, 3) := by decide +kernel
theorem d_M_tagged_11 : decode c_M_tagged 11 = .ok (.aload_n 0, 1) := by decide +kernel
theorem d_M_tagged_12 : decode c_M_tagged 12 = .ok (.getfield 23, 3) := by decide +kernel
theorem d_M_tagged_15 : decode c_M_tagged 15 = .ok (.iload_n 1, 1) := by decide +kernel
theorem d_M_tagged_16 : decode c_M_tagged 16 = .ok (.baload, 1) := by decide +kernel
theorem d_M_tagged_17 : decode c_M_tagged 17 = .ok (.ifCond .eq 7, 3) := by decide +kernel
theorem d_M_tagged_20 : decode c_M_tagged 20 = .ok (.iconst 1, 1) := by decide +kernel
theorem d_M_tagged_21 : decode c_M_tagged 21 = .ok (.goto 4, 3) := by decide +kernel
theorem d_M_tagged_24 : decode c_M_tagged 24 = .ok (.iconst 0, 1) := by decide +kernel
theorem d_M_tagged_25 : decode c_M_tagged 25 = .ok (.ireturn, 1) := by decide +kernel
theorem d_M_run_0 : decode c_M_run 0 = .ok (.iload_n 1, 1) := by decide +kernel
theorem d_M_run_1 : decode c_M_run 1 = .ok (.ifCond .lt 9, 3) := by decide +kernel
theorem d_M_run_4 : decode c_M_run 4 = .ok (.iload_n 1, 1) := by decide +kernel
theorem d_M_run_5 : decode c_M_run 5 = .ok (.bipush 100, 2) := by decide +kernel
theorem d_M_run_7 : decode c_M_run 7 = .ok (.if_icmp .le 5, 3) := by decide +kernel
theorem d_M_run_10 : decode c_M_run 10 = .ok (.iconst (-1), 1) := by decide +kernel
theorem d_M_run_11 : decode c_M_run 11 = .ok (.ireturn, 1) := by decide +kernel
theorem d_M_run_12 : decode c_M_run 12 = .ok (.iconst 0, 1) := by decide +kernel
theorem d_M_run_13 : decode c_M_run 13 = .ok (.istore_n 2, 1) := by decide +kernel
theorem d_M_run_14 : decode c_M_run 14 = .ok (.iload_n 2, 1) := by decide +kernel
theorem d_M_run_15 : decode c_M_run 15 = .ok (.iload_n 1, 1) := by decide +kernel
theorem d_M_run_16 : decode c_M_run 16 = .ok (.if_icmp .ge 20, 3) := by decide +kernel
theorem d_M_run_19 : decode c_M_run 19 = .ok (.aload_n 0, 1) := by decide +kernel
theorem d_M_run_20 : decode c_M_run 20 = .ok (.getfield 113, 3) := by decide +kernel
theorem d_M_run_23 : decode c_M_run 23 = .ok (.ifCond .ne 13, 3) := by decide +kernel
theorem d_M_run_26 : decode c_M_run 26 = .ok (.aload_n 0, 1) := by decide +kernel
theorem d_M_run_27 : decode c_M_run 27 = .ok (.invokevirtual 157, 3) := by decide +kernel
theorem d_M_run_30 : decode c_M_run 30 = .ok (.iinc 2 1, 3) := by decide +kernel
theorem d_M_run_33 : decode c_M_run 33 = .ok (.goto (-19), 3) := by decide +kernel
theorem d_M_run_36 : decode c_M_run 36 = .ok (.iload_n 2, 1) := by decide +kernel
theorem d_M_run_37 : decode c_M_run 37 = .ok (.ireturn, 1) := by decide +kernel
theorem d_M_state_0 : decode c_M_state 0 = .ok (.aload_n 0, 1) := by decide +kernel
theorem d_M_state_1 : decode c_M_state 1 = .ok (.getfield 113, 3) := by decide +kernel
theorem d_M_state_4 : decode c_M_state 4 = .ok (.ireturn, 1) := by decide +kernel
theorem d_M_wake_0 : decode c_M_wake 0 = .ok (.aload_n 0, 1) := by decide +kernel
theorem d_M_wake_1 : decode c_M_wake 1 = .ok (.getfield 113, 3) := by decide +kernel
theorem d_M_wake_4 : decode c_M_wake 4 = .ok (.ifCond .eq 14, 3) := by decide +kernel
theorem d_M_wake_7 : decode c_M_wake 7 = .ok (.iload_n 1, 1) := by decide +kernel
theorem d_M_wake_8 : decode c_M_wake 8 = .ok (.ifCond .lt 10, 3) := by decide +kernel
theorem d_M_wake_11 : decode c_M_wake 11 = .ok (.iload_n 1, 1) := by decide +kernel
theorem d_M_wake_12 : decode c_M_wake 12 = .ok (.sipush 255, 3) := by decide +kernel
theorem d_M_wake_15 : decode c_M_wake 15 = .ok (.if_icmp .le 5, 3) := by decide +kernel
theorem d_M_wake_18 : decode c_M_wake 18 = .ok (.iconst 0, 1) := by decide +kernel
theorem d_M_wake_19 : decode c_M_wake 19 = .ok (.ireturn, 1) := by decide +kernel
theorem d_M_wake_20 : decode c_M_wake 20 = .ok (.aload_n 0, 1) := by decide +kernel
theorem d_M_wake_21 : decode c_M_wake 21 = .ok (.iconst 0, 1) := by decide +kernel
theorem d_M_wake_22 : decode c_M_wake 22 = .ok (.putfield 113, 3) := by decide +kernel
theorem d_M_wake_25 : decode c_M_wake 25 = .ok (.aload_n 0, 1) := by decide +kernel
theorem d_M_wake_26 : decode c_M_wake 26 = .ok (.bipush 8, 2) := by decide +kernel
theorem d_M_wake_28 : decode c_M_wake 28 = .ok (.iconst 4, 1) := by decide +kernel
theorem d_M_wake_29 : decode c_M_wake 29 = .ok (.iload_n 1, 1) := by decide +kernel
theorem d_M_wake_30 : decode c_M_wake 30 = .ok (.imul, 1) := by decide +kernel
theorem d_M_wake_31 : decode c_M_wake 31 = .ok (.invokevirtual 26, 3) := by decide +kernel
theorem d_M_wake_34 : decode c_M_wake 34 = .ok (.iconst 1, 1) := by decide +kernel
theorem d_M_wake_35 : decode c_M_wake 35 = .ok (.ireturn, 1) := by decide +kernel
theorem d_M_cause_0 : decode c_M_cause 0 = .ok (.aload_n 0, 1) := by decide +kernel
theorem d_M_cause_1 : decode c_M_cause 1 = .ok (.getfield 107, 3) := by decide +kernel
theorem d_M_cause_4 : decode c_M_cause 4 = .ok (.ireturn, 1) := by decide +kernel
theorem d_M_steps_0 : decode c_M_steps 0 = .ok (.aload_n 0, 1) := by decide +kernel
theorem d_M_steps_1 : decode c_M_steps 1 = .ok (.getfield 116, 3) := by decide +kernel
theorem d_M_steps_4 : decode c_M_steps 4 = .ok (.ireturn, 1) := by decide +kernel
theorem d_M_traps_0 : decode c_M_traps 0 = .ok (.aload_n 0, 1) := by decide +kernel
theorem d_M_traps_1 : decode c_M_traps 1 = .ok (.getfield 110, 3) := by decide +kernel
theorem d_M_traps_4 : decode c_M_traps 4 = .ok (.ireturn, 1) := by decide +kernel
theorem d_M_isRegister_0 : decode c_M_isRegister 0 = .ok (.iload_n 0, 1) := by decide +kernel
theorem d_M_isRegister_1 : decode c_M_isRegister 1 = .ok (.ifCond .lt 13, 3) := by decide +kernel
theorem d_M_isRegister_4 : decode c_M_isRegister 4 = .ok (.iload_n 0, 1) := by decide +kernel
theorem d_M_isRegister_5 : decode c_M_isRegister 5 = .ok (.bipush 11, 2) := by decide +kernel
theorem d_M_isRegister_7 : decode c_M_isRegister 7 = .ok (.if_icmp .gt 7, 3) := by decide +kernel
theorem d_M_isRegister_10 : decode c_M_isRegister 10 = .ok (.iconst 1, 1) := by decide +kernel
theorem d_M_isRegister_11 : decode c_M_isRegister 11 = .ok (.goto 4, 3) := by decide +kernel
theorem d_M_isRegister_14 : decode c_M_isRegister 14 = .ok (.iconst 0, 1) := by decide +kernel
theorem d_M_isRegister_15 : decode c_M_isRegister 15 = .ok (.ireturn, 1) := by decide +kernel
theorem d_M_register_0 : decode c_M_register 0 = .ok (.iload_n 1, 1) := by decide +kernel
theorem d_M_register_1 : decode c_M_register 1 = .ok (.invokestatic 160, 3) := by decide +kernel
theorem d_M_register_4 : decode c_M_register 4 = .ok (.ifCond .eq 12, 3) := by decide +kernel
theorem d_M_register_7 : decode c_M_register 7 = .ok (.iload_n 2, 1) := by decide +kernel
theorem d_M_register_8 : decode c_M_register 8 = .ok (.ifCond .lt 8, 3) := by decide +kernel
theorem d_M_register_11 : decode c_M_register 11 = .ok (.iload_n 2, 1) := by decide +kernel
theorem d_M_register_12 : decode c_M_register 12 = .ok (.iconst 2, 1) := by decide +kernel
theorem d_M_register_13 : decode c_M_register 13 = .ok (.if_icmp .le 5, 3) := by decide +kernel
theorem d_M_register_16 : decode c_M_register 16 = .ok (.iconst (-1), 1) := by decide +kernel
theorem d_M_register_17 : decode c_M_register 17 = .ok (.ireturn, 1) := by decide +kernel
theorem d_M_register_18 : decode c_M_register 18 = .ok (.iload_n 2, 1) := by decide +kernel
theorem d_M_register_19 : decode c_M_register 19 = .ok (.ifCond .ne 12, 3) := by decide +kernel
theorem d_M_register_22 : decode c_M_register 22 = .ok (.aload_n 0, 1) := by decide +kernel
theorem d_M_register_23 : decode c_M_register 23 = .ok (.getfield 7, 3) := by decide +kernel
theorem d_M_register_26 : decode c_M_register 26 = .ok (.iload_n 1, 1) := by decide +kernel
theorem d_M_register_27 : decode c_M_register 27 = .ok (.iaload, 1) := by decide +kernel
theorem d_M_register_28 : decode c_M_register 28 = .ok (.goto 31, 3) := by decide +kernel
theorem d_M_register_31 : decode c_M_register 31 = .ok (.iload_n 2, 1) := by decide +kernel
theorem d_M_register_32 : decode c_M_register 32 = .ok (.iconst 1, 1) := by decide +kernel
theorem d_M_register_33 : decode c_M_register 33 = .ok (.if_icmp .ne 12, 3) := by decide +kernel
theorem d_M_register_36 : decode c_M_register 36 = .ok (.aload_n 0, 1) := by decide +kernel
theorem d_M_register_37 : decode c_M_register 37 = .ok (.getfield 13, 3) := by decide +kernel
theorem d_M_register_40 : decode c_M_register 40 = .ok (.iload_n 1, 1) := by decide +kernel
theorem d_M_register_41 : decode c_M_register 41 = .ok (.iaload, 1) := by decide +kernel
theorem d_M_register_42 : decode c_M_register 42 = .ok (.goto 17, 3) := by decide +kernel
theorem d_M_register_45 : decode c_M_register 45 = .ok (.aload_n 0, 1) := by decide +kernel
theorem d_M_register_46 : decode c_M_register 46 = .ok (.getfield 16, 3) := by decide +kernel
theorem d_M_register_49 : decode c_M_register 49 = .ok (.iload_n 1, 1) := by decide +kernel
theorem d_M_register_50 : decode c_M_register 50 = .ok (.baload, 1) := by decide +kernel
theorem d_M_register_51 : decode c_M_register 51 = .ok (.ifCond .eq 7, 3) := by decide +kernel
theorem d_M_register_54 : decode c_M_register 54 = .ok (.iconst 1, 1) := by decide +kernel
theorem d_M_register_55 : decode c_M_register 55 = .ok (.goto 4, 3) := by decide +kernel
theorem d_M_register_58 : decode c_M_register 58 = .ok (.iconst 0, 1) := by decide +kernel
theorem d_M_register_59 : decode c_M_register 59 = .ok (.ireturn, 1) := by decide +kernel
theorem d_M_base_0 : decode c_M_base 0 = .ok (.iload_n 1, 1) := by decide +kernel
theorem d_M_base_1 : decode c_M_base 1 = .ok (.invokestatic 160, 3) := by decide +kernel
theorem d_M_base_4 : decode c_M_base 4 = .ok (.ifCond .eq 21, 3) := by decide +kernel
theorem d_M_base_7 : decode c_M_base 7 = .ok (.aload_n 0, 1) := by decide +kernel
theorem d_M_base_8 : decode c_M_base 8 = .ok (.getfield 13, 3) := by decide +kernel
theorem d_M_base_11 : decode c_M_base 11 = .ok (.iload_n 1, 1) := by decide +kernel
theorem d_M_base_12 : decode c_M_base 12 = .ok (.iaload, 1) := by decide +kernel
theorem d_M_base_13 : decode c_M_base 13 = .ok (.aload_n 0, 1) := by decide +kernel
theorem d_M_base_14 : decode c_M_base 14 = .ok (.getfield 7, 3) := by decide +kernel
theorem d_M_base_17 : decode c_M_base 17 = .ok (.iload_n 1, 1) := by decide +kernel
theorem d_M_base_18 : decode c_M_base 18 = .ok (.iaload, 1) := by decide +kernel
theorem d_M_base_19 : decode c_M_base 19 = .ok (.invokestatic 65, 3) := by decide +kernel
theorem d_M_base_22 : decode c_M_base 22 = .ok (.goto 4, 3) := by decide +kernel
theorem d_M_base_25 : decode c_M_base 25 = .ok (.lconst 0, 1) := by decide +kernel
theorem d_M_base_26 : decode c_M_base 26 = .ok (.lreturn, 1) := by decide +kernel
theorem d_M_top_0 : decode c_M_top 0 = .ok (.iload_n 1, 1) := by decide +kernel
theorem d_M_top_1 : decode c_M_top 1 = .ok (.invokestatic 160, 3) := by decide +kernel
theorem d_M_top_4 : decode c_M_top 4 = .ok (.ifCond .eq 21, 3) := by decide +kernel
theorem d_M_top_7 : decode c_M_top 7 = .ok (.aload_n 0, 1) := by decide +kernel
theorem d_M_top_8 : decode c_M_top 8 = .ok (.getfield 13, 3) := by decide +kernel
theorem d_M_top_11 : decode c_M_top 11 = .ok (.iload_n 1, 1) := by decide +kernel
theorem d_M_top_12 : decode c_M_top 12 = .ok (.iaload, 1) := by decide +kernel
theorem d_M_top_13 : decode c_M_top 13 = .ok (.aload_n 0, 1) := by decide +kernel
theorem d_M_top_14 : decode c_M_top 14 = .ok (.getfield 7, 3) := by decide +kernel
theorem d_M_top_17 : decode c_M_top 17 = .ok (.iload_n 1, 1) := by decide +kernel
theorem d_M_top_18 : decode c_M_top 18 = .ok (.iaload, 1) := by decide +kernel
theorem d_M_top_19 : decode c_M_top 19 = .ok (.invokestatic 68, 3) := by decide +kernel
theorem d_M_top_22 : decode c_M_top 22 = .ok (.goto 4, 3) := by decide +kernel
theorem d_M_top_25 : decode c_M_top 25 = .ok (.lconst 0, 1) := by decide +kernel
theorem d_M_top_26 : decode c_M_top 26 = .ok (.lreturn, 1) := by decide +kernel
theorem d_M_give_0 : decode c_M_give 0 = .ok (.iload_n 1, 1) := by decide +kernel
theorem d_M_give_1 : decode c_M_give 1 = .ok (.iconst 1, 1) := by decide +kernel
theorem d_M_give_2 : decode c_M_give 2 = .ok (.if_icmp .lt 9, 3) := by decide +kernel
theorem d_M_give_5 : decode c_M_give 5 = .ok (.iload_n 1, 1) := by decide +kernel
theorem d_M_give_6 : decode c_M_give 6 = .ok (.bipush 7, 2) := by decide +kernel
theorem d_M_give_8 : decode c_M_give 8 = .ok (.if_icmp .le 5, 3) := by decide +kernel
theorem d_M_give_11 : decode c_M_give 11 = .ok (.iconst 0, 1) := by decide +kernel
theorem d_M_give_12 : decode c_M_give 12 = .ok (.ireturn, 1) := by decide +kernel
theorem d_M_give_13 : decode c_M_give 13 = .ok (.aload_n 0, 1) := by decide +kernel
theorem d_M_give_14 : decode c_M_give 14 = .ok (.getfield 7, 3) := by decide +kernel
theorem d_M_give_17 : decode c_M_give 17 = .ok (.iload_n 1, 1) := by decide +kernel
theorem d_M_give_18 : decode c_M_give 18 = .ok (.iload_n 2, 1) := by decide +kernel
theorem d_M_give_19 : decode c_M_give 19 = .ok (.iastore, 1) := by decide +kernel
theorem d_M_give_20 : decode c_M_give 20 = .ok (.aload_n 0, 1) := by decide +kernel
theorem d_M_give_21 : decode c_M_give 21 = .ok (.getfield 13, 3) := by decide +kernel
theorem d_M_give_24 : decode c_M_give 24 = .ok (.iload_n 1, 1) := by decide +kernel
theorem d_M_give_25 : decode c_M_give 25 = .ok (.iconst 0, 1) := by decide +kernel
theorem d_M_give_26 : decode c_M_give 26 = .ok (.iastore, 1) := by decide +kernel
theorem d_M_give_27 : decode c_M_give 27 = .ok (.aload_n 0, 1) := by decide +kernel
theorem d_M_give_28 : decode c_M_give 28 = .ok (.getfield 16, 3) := by decide +kernel
theorem d_M_give_31 : decode c_M_give 31 = .ok (.iload_n 1, 1) := by decide +kernel
theorem d_M_give_32 : decode c_M_give 32 = .ok (.iconst 0, 1) := by decide +kernel
theorem d_M_give_33 : decode c_M_give 33 = .ok (.bastore, 1) := by decide +kernel
theorem d_M_give_34 : decode c_M_give 34 = .ok (.iconst 1, 1) := by decide +kernel
theorem d_M_give_35 : decode c_M_give 35 = .ok (.ireturn, 1) := by decide +kernel
end
section
theorem d_L_law_0 : decode code 0 = .ok (.new 7, 3) := by decide +kernel
theorem d_L_law_3 : decode code 3 = .ok (.dup, 1) := by decide +kernel
theorem d_L_law_4 : decode code 4 = .ok (.invokespecial 9, 3) := by decide +kernel
theorem d_L_law_7 : decode code 7 = .ok (.astore_n 1, 1) := by decide +kernel
theorem d_L_law_8 : decode code 8 = .ok (.new 10, 3) := by decide +kernel
theorem d_L_law_11 : decode code 11 = .ok (.dup, 1) := by decide +kernel
theorem d_L_law_12 : decode code 12 = .ok (.invokespecial 12, 3) := by decide +kernel
theorem d_L_law_15 : decode code 15 = .ok (.astore_n 2, 1) := by decide +kernel
theorem d_L_law_16 : decode code 16 = .ok (.iconst 0, 1) := by decide +kernel
theorem d_L_law_17 : decode code 17 = .ok (.istore_n 3, 1) := by decide +kernel
theorem d_L_law_18 : decode code 18 = .ok (.iload_n 3, 1) := by decide +kernel
theorem d_L_law_19 : decode code 19 = .ok (.aload_n 0, 1) := by decide +kernel
theorem d_L_law_20 : decode code 20 = .ok (.arraylength, 1) := by decide +kernel
theorem d_L_law_21 : decode code 21 = .ok (.iconst 3, 1) := by decide +kernel
theorem d_L_law_22 : decode code 22 = .ok (.isub, 1) := by decide +kernel
theorem d_L_law_23 : decode code 23 = .ok (.if_icmp .gt 374, 3) := by decide +kernel
theorem d_L_law_26 : decode code 26 = .ok (.aload_n 0, 1) := by decide +kernel
theorem d_L_law_27 : decode code 27 = .ok (.iload_n 3, 1) := by decide +kernel
theorem d_L_law_28 : decode code 28 = .ok (.iaload, 1) := by decide +kernel
theorem d_L_law_29 : decode code 29 = .ok (.bipush 15, 2) := by decide +kernel
theorem d_L_law_31 : decode code 31 = .ok (.iand, 1) := by decide +kernel
theorem d_L_law_32 : decode code 32 = .ok (.tableswitch 359 0 12 #[68, 101, 124, 147, 170, 183, 206, 219, 232, 245, 278, 302, 326], 68) := by decide +kernel
theorem d_L_law_100 : decode code 100 = .ok (.aload_n 1, 1) := by decide +kernel
theorem d_L_law_101 : decode code 101 = .ok (.aload_n 0, 1) := by decide +kernel
theorem d_L_law_102 : decode code 102 = .ok (.iload_n 3, 1) := by decide +kernel
theorem d_L_law_103 : decode code 103 = .ok (.iconst 1, 1) := by decide +kernel
theorem d_L_law_104 : decode code 104 = .ok (.iadd, 1) := by decide +kernel
theorem d_L_law_105 : decode code 105 = .ok (.iaload, 1) := by decide +kernel
theorem d_L_law_106 : decode code 106 = .ok (.aload_n 0, 1) := by decide +kernel
theorem d_L_law_107 : decode code 107 = .ok (.iload_n 3, 1) := by decide +kernel
theorem d_L_law_108 : decode code 108 = .ok (.iconst 2, 1) := by decide +kernel
theorem d_L_law_109 : decode code 109 = .ok (.iadd, 1) := by decide +kernel
theorem d_L_law_110 : decode code 110 = .ok (.iaload, 1) := by decide +kernel
theorem d_L_law_111 : decode code 111 = .ok (.invokevirtual 13, 3) := by decide +kernel
theorem d_L_law_114 : decode code 114 = .ok (.aload_n 2, 1) := by decide +kernel
theorem d_L_law_115 : decode code 115 = .ok (.aload_n 0, 1) := by decide +kernel
theorem d_L_law_116 : decode code 116 = .ok (.iload_n 3, 1) := by decide +kernel
theorem d_L_law_117 : decode code 117 = .ok (.iconst 1, 1) := by decide +kernel
theorem d_L_law_118 : decode code 118 = .ok (.iadd, 1) := by decide +kernel
theorem d_L_law_119 : decode code 119 = .ok (.iaload, 1) := by decide +kernel
theorem d_L_law_120 : decode code 120 = .ok (.aload_n 0, 1) := by decide +kernel
theorem d_L_law_121 : decode code 121 = .ok (.iload_n 3, 1) := by decide +kernel
theorem d_L_law_122 : decode code 122 = .ok (.iconst 2, 1) := by decide +kernel
theorem d_L_law_123 : decode code 123 = .ok (.iadd, 1) := by decide +kernel
theorem d_L_law_124 : decode code 124 = .ok (.iaload, 1) := by decide +kernel
theorem d_L_law_125 : decode code 125 = .ok (.invokevirtual 17, 3) := by decide +kernel
theorem d_L_law_128 : decode code 128 = .ok (.if_icmp .eq 263, 3) := by decide +kernel
theorem d_L_law_131 : decode code 131 = .ok (.iconst 0, 1) := by decide +kernel
theorem d_L_law_132 : decode code 132 = .ok (.ireturn, 1) := by decide +kernel
theorem d_L_law_133 : decode code 133 = .ok (.aload_n 1, 1) := by decide +kernel
theorem d_L_law_134 : decode code 134 = .ok (.aload_n 0, 1) := by decide +kernel
theorem d_L_law_135 : decode code 135 = .ok (.iload_n 3, 1) := by decide +kernel
theorem d_L_law_136 : decode code 136 = .ok (.iconst 1, 1) := by decide +kernel
theorem d_L_law_137 : decode code 137 = .ok (.iadd, 1) := by decide +kernel
theorem d_L_law_138 : decode code 138 = .ok (.iaload, 1) := by decide +kernel
theorem d_L_law_139 : decode code 139 = .ok (.invokevirtual 18, 3) := by decide +kernel
theorem d_L_law_142 : decode code 142 = .ok (.aload_n 2, 1) := by decide +kernel
theorem d_L_law_143 : decode code 143 = .ok (.aload_n 0, 1) := by decide +kernel
theorem d_L_law_144 : decode code 144 = .ok (.iload_n 3, 1) := by decide +kernel
theorem d_L_law_145 : decode code 145 = .ok (.iconst 1, 1) := by decide +kernel
theorem d_L_law_146 : decode code 146 = .ok (.iadd, 1) := by decide +kernel
theorem d_L_law_147 : decode code 147 = .ok (.iaload, 1) := by decide +kernel
theorem d_L_law_148 : decode code 148 = .ok (.invokevirtual 22, 3) := by decide +kernel
theorem d_L_law_151 : decode code 151 = .ok (.if_icmp .eq 240, 3) := by decide +kernel
theorem d_L_law_154 : decode code 154 = .ok (.iconst 0, 1) := by decide +kernel
theorem d_L_law_155 : decode code 155 = .ok (.ireturn, 1) := by decide +kernel
theorem d_L_law_156 : decode code 156 = .ok (.aload_n 1, 1) := by decide +kernel
theorem d_L_law_157 : decode code 157 = .ok (.aload_n 0, 1) := by decide +kernel
theorem d_L_law_158 : decode code 158 = .ok (.iload_n 3, 1) := by decide +kernel
theorem d_L_law_159 : decode code 159 = .ok (.iconst 1, 1) := by decide +kernel
theorem d_L_law_160 : decode code 160 = .ok (.iadd, 1) := by decide +kernel
theorem d_L_law_161 : decode code 161 = .ok (.iaload, 1) := by decide +kernel
theorem d_L_law_162 : decode code 162 = .ok (.invokevirtual 23, 3) := by decide +kernel
theorem d_L_law_165 : decode code 165 = .ok (.aload_n 2, 1) := by decide +kernel
theorem d_L_law_166 : decode code 166 = .ok (.aload_n 0, 1) := by decide +kernel
theorem d_L_law_167 : decode code 167 = .ok (.iload_n 3, 1) := by decide +kernel
theorem d_L_law_168 : decode code 168 = .ok (.iconst 1, 1) := by decide +kernel
theorem d_L_law_169 : decode code 169 = .ok (.iadd, 1) := by decide +kernel
theorem d_L_law_170 : decode code 170 = .ok (.iaload, 1) := by decide +kernel
theorem d_L_law_171 : decode code 171 = .ok (.invokevirtual 27, 3) := by decide +kernel
theorem d_L_law_174 : decode code 174 = .ok (.if_icmp .eq 217, 3) := by decide +kernel
theorem d_L_law_177 : decode code 177 = .ok (.iconst 0, 1) := by decide +kernel
theorem d_L_law_178 : decode code 178 = .ok (.ireturn, 1) := by decide +kernel
theorem d_L_law_179 : decode code 179 = .ok (.aload_n 1, 1) := by decide +kernel
theorem d_L_law_180 : decode code 180 = .ok (.aload_n 0, 1) := by decide +kernel
theorem d_L_law_181 : decode code 181 = .ok (.iload_n 3, 1) := by decide +kernel
theorem d_L_law_182 : decode code 182 = .ok (.iconst 1, 1) := by decide +kernel
theorem d_L_law_183 : decode code 183 = .ok (.iadd, 1) := by decide +kernel
theorem d_L_law_184 : decode code 184 = .ok (.iaload, 1) := by decide +kernel
theorem d_L_law_185 : decode code 185 = .ok (.invokevirtual 28, 3) := by decide +kernel
theorem d_L_law_188 : decode code 188 = .ok (.aload_n 2, 1) := by decide +kernel
theorem d_L_law_189 : decode code 189 = .ok (.aload_n 0, 1) := by decide +kernel
theorem d_L_law_190 : decode code 190 = .ok (.iload_n 3, 1) := by decide +kernel
theorem d_L_law_191 : decode code 191 = .ok (.iconst 1, 1) := by decide +kernel
theorem d_L_law_192 : decode code 192 = .ok (.iadd, 1) := by decide +kernel
theorem d_L_law_193 : decode code 193 = .ok (.iaload, 1) := by decide +kernel
theorem d_L_law_194 : decode code 194 = .ok (.invokevirtual 31, 3) := by decide +kernel
theorem d_L_law_197 : decode code 197 = .ok (.if_icmp .eq 194, 3) := by decide +kernel
theorem d_L_law_200 : decode code 200 = .ok (.iconst 0, 1) := by decide +kernel
theorem d_L_law_201 : decode code 201 = .ok (.ireturn, 1) := by decide +kernel
theorem d_L_law_202 : decode code 202 = .ok (.aload_n 1, 1) := by decide +kernel
theorem d_L_law_203 : decode code 203 = .ok (.invokevirtual 32, 3) := by decide +kernel
theorem d_L_law_206 : decode code 206 = .ok (.aload_n 2, 1) := by decide +kernel
theorem d_L_law_207 : decode code 207 = .ok (.invokevirtual 36, 3) := by decide +kernel
theorem d_L_law_210 : decode code 210 = .ok (.if_icmp .eq 181, 3) := by decide +kernel
theorem d_L_law_213 : decode code 213 = .ok (.iconst 0, 1) := by decide +kernel
theorem d_L_law_214 : decode code 214 = .ok (.ireturn, 1) := by decide +kernel
theorem d_L_law_215 : decode code 215 = .ok (.aload_n 1, 1) := by decide +kernel
theorem d_L_law_216 : decode code 216 = .ok (.aload_n 0, 1) := by decide +kernel
theorem d_L_law_217 : decode code 217 = .ok (.iload_n 3, 1) := by decide +kernel
theorem d_L_law_218 : decode code 218 = .ok (.iconst 1, 1) := by decide +kernel
theorem d_L_law_219 : decode code 219 = .ok (.iadd, 1) := by decide +kernel
theorem d_L_law_220 : decode code 220 = .ok (.iaload, 1) := by decide +kernel
theorem d_L_law_221 : decode code 221 = .ok (.invokevirtual 37, 3) := by decide +kernel
theorem d_L_law_224 : decode code 224 = .ok (.aload_n 2, 1) := by decide +kernel
theorem d_L_law_225 : decode code 225 = .ok (.aload_n 0, 1) := by decide +kernel
theorem d_L_law_226 : decode code 226 = .ok (.iload_n 3, 1) := by decide +kernel
theorem d_L_law_227 : decode code 227 = .ok (.iconst 1, 1) := by decide +kernel
theorem d_L_law_228 : decode code 228 = .ok (.iadd, 1) := by decide +kernel
theorem d_L_law_229 : decode code 229 = .ok (.iaload, 1) := by decide +kernel
theorem d_L_law_230 : decode code 230 = .ok (.invokevirtual 40, 3) := by decide +kernel
theorem d_L_law_233 : decode code 233 = .ok (.if_icmp .eq 158, 3) := by decide +kernel
theorem d_L_law_236 : decode code 236 = .ok (.iconst 0, 1) := by decide +kernel
theorem d_L_law_237 : decode code 237 = .ok (.ireturn, 1) := by decide +kernel
theorem d_L_law_238 : decode code 238 = .ok (.aload_n 1, 1) := by decide +kernel
theorem d_L_law_239 : decode code 239 = .ok (.invokevirtual 41, 3) := by decide +kernel
theorem d_L_law_242 : decode code 242 = .ok (.aload_n 2, 1) := by decide +kernel
theorem d_L_law_243 : decode code 243 = .ok (.invokevirtual 44, 3) := by decide +kernel
theorem d_L_law_246 : decode code 246 = .ok (.if_icmp .eq 145, 3) := by decide +kernel
theorem d_L_law_249 : decode code 249 = .ok (.iconst 0, 1) := by decide +kernel
theorem d_L_law_250 : decode code 250 = .ok (.ireturn, 1) := by decide +kernel
theorem d_L_law_251 : decode code 251 = .ok (.aload_n 1, 1) := by decide +kernel
theorem d_L_law_252 : decode code 252 = .ok (.invokevirtual 45, 3) := by decide +kernel
theorem d_L_law_255 : decode code 255 = .ok (.aload_n 2, 1) := by decide +kernel
theorem d_L_law_256 : decode code 256 = .ok (.invokevirtual 48, 3) := by decide +kernel
theorem d_L_law_259 : decode code 259 = .ok (.if_icmp .eq 132, 3) := by decide +kernel
theorem d_L_law_262 : decode code 262 = .ok (.iconst 0, 1) := by decide +kernel
theorem d_L_law_263 : decode code 263 = .ok (.ireturn, 1) := by decide +kernel
theorem d_L_law_264 : decode code 264 = .ok (.aload_n 1, 1) := by decide +kernel
theorem d_L_law_265 : decode code 265 = .ok (.invokevirtual 49, 3) := by decide +kernel
theorem d_L_law_268 : decode code 268 = .ok (.aload_n 2, 1) := by decide +kernel
theorem d_L_law_269 : decode code 269 = .ok (.invokevirtual 52, 3) := by decide +kernel
theorem d_L_law_272 : decode code 272 = .ok (.if_icmp .eq 119, 3) := by decide +kernel
theorem d_L_law_275 : decode code 275 = .ok (.iconst 0, 1) := by decide +kernel
theorem d_L_law_276 : decode code 276 = .ok (.ireturn, 1) := by decide +kernel
theorem d_L_law_277 : decode code 277 = .ok (.aload_n 1, 1) := by decide +kernel
theorem d_L_law_278 : decode code 278 = .ok (.aload_n 0, 1) := by decide +kernel
theorem d_L_law_279 : decode code 279 = .ok (.iload_n 3, 1) := by decide +kernel
theorem d_L_law_280 : decode code 280 = .ok (.iconst 1, 1) := by decide +kernel
theorem d_L_law_281 : decode code 281 = .ok (.iadd, 1) := by decide +kernel
theorem d_L_law_282 : decode code 282 = .ok (.iaload, 1) := by decide +kernel
theorem d_L_law_283 : decode code 283 = .ok (.aload_n 0, 1) := by decide +kernel
theorem d_L_law_284 : decode code 284 = .ok (.iload_n 3, 1) := by decide +kernel
theorem d_L_law_285 : decode code 285 = .ok (.iconst 2, 1) := by decide +kernel
theorem d_L_law_286 : decode code 286 = .ok (.iadd, 1) := by decide +kernel
theorem d_L_law_287 : decode code 287 = .ok (.iaload, 1) := by decide +kernel
theorem d_L_law_288 : decode code 288 = .ok (.invokevirtual 53, 3) := by decide +kernel
theorem d_L_law_291 : decode code 291 = .ok (.aload_n 2, 1) := by decide +kernel
theorem d_L_law_292 : decode code 292 = .ok (.aload_n 0, 1) := by decide +kernel
theorem d_L_law_293 : decode code 293 = .ok (.iload_n 3, 1) := by decide +kernel
theorem d_L_law_294 : decode code 294 = .ok (.iconst 1, 1) := by decide +kernel
theorem d_L_law_295 : decode code 295 = .ok (.iadd, 1) := by decide +kernel
theorem d_L_law_296 : decode code 296 = .ok (.iaload, 1) := by decide +kernel
theorem d_L_law_297 : decode code 297 = .ok (.aload_n 0, 1) := by decide +kernel
theorem d_L_law_298 : decode code 298 = .ok (.iload_n 3, 1) := by decide +kernel
theorem d_L_law_299 : decode code 299 = .ok (.iconst 2, 1) := by decide +kernel
theorem d_L_law_300 : decode code 300 = .ok (.iadd, 1) := by decide +kernel
theorem d_L_law_301 : decode code 301 = .ok (.iaload, 1) := by decide +kernel
theorem d_L_law_302 : decode code 302 = .ok (.invokevirtual 57, 3) := by decide +kernel
theorem d_L_law_305 : decode code 305 = .ok (.if_icmp .eq 86, 3) := by decide +kernel
theorem d_L_law_308 : decode code 308 = .ok (.iconst 0, 1) := by decide +kernel
theorem d_L_law_309 : decode code 309 = .ok (.ireturn, 1) := by decide +kernel
theorem d_L_law_310 : decode code 310 = .ok (.aload_n 1, 1) := by decide +kernel
theorem d_L_law_311 : decode code 311 = .ok (.aload_n 0, 1) := by decide +kernel
theorem d_L_law_312 : decode code 312 = .ok (.iload_n 3, 1) := by decide +kernel
theorem d_L_law_313 : decode code 313 = .ok (.iconst 1, 1) := by decide +kernel
theorem d_L_law_314 : decode code 314 = .ok (.iadd, 1) := by decide +kernel
theorem d_L_law_315 : decode code 315 = .ok (.iaload, 1) := by decide +kernel
theorem d_L_law_316 : decode code 316 = .ok (.invokevirtual 58, 3) := by decide +kernel
theorem d_L_law_319 : decode code 319 = .ok (.aload_n 2, 1) := by decide +kernel
theorem d_L_law_320 : decode code 320 = .ok (.aload_n 0, 1) := by decide +kernel
theorem d_L_law_321 : decode code 321 = .ok (.iload_n 3, 1) := by decide +kernel
theorem d_L_law_322 : decode code 322 = .ok (.iconst 1, 1) := by decide +kernel
theorem d_L_law_323 : decode code 323 = .ok (.iadd, 1) := by decide +kernel
theorem d_L_law_324 : decode code 324 = .ok (.iaload, 1) := by decide +kernel
theorem d_L_law_325 : decode code 325 = .ok (.invokevirtual 62, 3) := by decide +kernel
theorem d_L_law_328 : decode code 328 = .ok (.lcmp, 1) := by decide +kernel
theorem d_L_law_329 : decode code 329 = .ok (.ifCond .eq 62, 3) := by decide +kernel
theorem d_L_law_332 : decode code 332 = .ok (.iconst 0, 1) := by decide +kernel
theorem d_L_law_333 : decode code 333 = .ok (.ireturn, 1) := by decide +kernel
theorem d_L_law_334 : decode code 334 = .ok (.aload_n 1, 1) := by decide +kernel
theorem d_L_law_335 : decode code 335 = .ok (.aload_n 0, 1) := by decide +kernel
theorem d_L_law_336 : decode code 336 = .ok (.iload_n 3, 1) := by decide +kernel
theorem d_L_law_337 : decode code 337 = .ok (.iconst 1, 1) := by decide +kernel
theorem d_L_law_338 : decode code 338 = .ok (.iadd, 1) := by decide +kernel
theorem d_L_law_339 : decode code 339 = .ok (.iaload, 1) := by decide +kernel
theorem d_L_law_340 : decode code 340 = .ok (.invokevirtual 63, 3) := by decide +kernel
theorem d_L_law_343 : decode code 343 = .ok (.aload_n 2, 1) := by decide +kernel
theorem d_L_law_344 : decode code 344 = .ok (.aload_n 0, 1) := by decide +kernel
theorem d_L_law_345 : decode code 345 = .ok (.iload_n 3, 1) := by decide +kernel
theorem d_L_law_346 : decode code 346 = .ok (.iconst 1, 1) := by decide +kernel
theorem d_L_law_347 : decode code 347 = .ok (.iadd, 1) := by decide +kernel
theorem d_L_law_348 : decode code 348 = .ok (.iaload, 1) := by decide +kernel
theorem d_L_law_349 : decode code 349 = .ok (.invokevirtual 66, 3) := by decide +kernel
theorem d_L_law_352 : decode code 352 = .ok (.lcmp, 1) := by decide +kernel
theorem d_L_law_353 : decode code 353 = .ok (.ifCond .eq 38, 3) := by decide +kernel
theorem d_L_law_356 : decode code 356 = .ok (.iconst 0, 1) := by decide +kernel
theorem d_L_law_357 : decode code 357 = .ok (.ireturn, 1) := by decide +kernel
theorem d_L_law_358 : decode code 358 = .ok (.aload_n 1, 1) := by decide +kernel
theorem d_L_law_359 : decode code 359 = .ok (.aload_n 0, 1) := by decide +kernel
theorem d_L_law_360 : decode code 360 = .ok (.iload_n 3, 1) := by decide +kernel
theorem d_L_law_361 : decode code 361 = .ok (.iconst 1, 1) := by decide +kernel
theorem d_L_law_362 : decode code 362 = .ok (.iadd, 1) := by decide +kernel
theorem d_L_law_363 : decode code 363 = .ok (.iaload, 1) := by decide +kernel
theorem d_L_law_364 : decode code 364 = .ok (.aload_n 0, 1) := by decide +kernel
theorem d_L_law_365 : decode code 365 = .ok (.iload_n 3, 1) := by decide +kernel
theorem d_L_law_366 : decode code 366 = .ok (.iconst 2, 1) := by decide +kernel
theorem d_L_law_367 : decode code 367 = .ok (.iadd, 1) := by decide +kernel
theorem d_L_law_368 : decode code 368 = .ok (.iaload, 1) := by decide +kernel
theorem d_L_law_369 : decode code 369 = .ok (.invokevirtual 67, 3) := by decide +kernel
theorem d_L_law_372 : decode code 372 = .ok (.aload_n 2, 1) := by decide +kernel
theorem d_L_law_373 : decode code 373 = .ok (.aload_n 0, 1) := by decide +kernel
theorem d_L_law_374 : decode code 374 = .ok (.iload_n 3, 1) := by decide +kernel
theorem d_L_law_375 : decode code 375 = .ok (.iconst 1, 1) := by decide +kernel
theorem d_L_law_376 : decode code 376 = .ok (.iadd, 1) := by decide +kernel
theorem d_L_law_377 : decode code 377 = .ok (.iaload, 1) := by decide +kernel
theorem d_L_law_378 : decode code 378 = .ok (.aload_n 0, 1) := by decide +kernel
theorem d_L_law_379 : decode code 379 = .ok (.iload_n 3, 1) := by decide +kernel
theorem d_L_law_380 : decode code 380 = .ok (.iconst 2, 1) := by decide +kernel
theorem d_L_law_381 : decode code 381 = .ok (.iadd, 1) := by decide +kernel
theorem d_L_law_382 : decode code 382 = .ok (.iaload, 1) := by decide +kernel
theorem d_L_law_383 : decode code 383 = .ok (.invokevirtual 70, 3) := by decide +kernel
theorem d_L_law_386 : decode code 386 = .ok (.if_icmp .eq 5, 3) := by decide +kernel
theorem d_L_law_389 : decode code 389 = .ok (.iconst 0, 1) := by decide +kernel
theorem d_L_law_390 : decode code 390 = .ok (.ireturn, 1) := by decide +kernel
theorem d_L_law_391 : decode code 391 = .ok (.iinc 3 3, 3) := by decide +kernel
theorem d_L_law_394 : decode code 394 = .ok (.goto (-376), 3) := by decide +kernel
theorem d_L_law_397 : decode code 397 = .ok (.iconst 1, 1) := by decide +kernel
theorem d_L_law_398 : decode code 398 = .ok (.ireturn, 1) := by decide +kernel
end
section
-- the state of either side as one function of two numbers: row and place.
-- rows: 0 words, 1 granule tags, 2 tags, 3 metas, 4 addresses (of registers 0 .. 11; the class's 'made' is place 12), 5: state, cause, steps, traps; 6 (reference alone): newAddress, newMeta, newTag
abbrev Mem : Type := Nat → Nat → Int32
def wr (σ : Mem) (k i : Nat) (v : Int32) : Mem := fun k' i' => if k' = k ∧ i' = i then v else σ k' i'
theorem wr_same (σ : Mem) (k i : Nat) (v : Int32) : wr σ k i v k i = v := by simp [wr]
theorem wr_row (σ : Mem) {k k' : Nat} (i : Nat) (v : Int32) (h : k' ≠ k) : wr σ k i v k' = σ k' := by funext j; simp [wr, h]
theorem wr_pl (σ : Mem) (k : Nat) {i j : Nat} (v : Int32) (h : j ≠ i) : wr σ k i v k j = σ k j := by simp [wr, h]
theorem wr_upd (σ : Mem) (k i : Nat) (v : Int32) : wr σ k i v k = upd (σ k) i v := by funext j; simp [wr, upd]
/-- what a variable of type boolean keeps -/
def bo (x : Int32) : Int32 := x &&& 1
theorem bo_01 (x : Int32) : bo x = 0 ∨ bo x = 1 := by
  have h := pk_and x (m := 1) 1 (by decide)
  have h2 : x.toBitVec.toNat % 2 ^ 1 = 0 ∨ x.toBitVec.toNat % 2 ^ 1 = 1 := by omega
  unfold bo
  rcases h2 with e | e <;> rw [h, e]
  · exact Or.inl (by decide)
  · exact Or.inr (by decide)
theorem bo_0 : bo 0 = 0 := by decide
theorem bo_1 : bo 1 = 1 := by decide
theorem bo_bo (x : Int32) : bo (bo x) = bo x := by
  rcases bo_01 x with e | e <;> rw [e] <;> decide
theorem bo_nar {x : Int32} (h : bo x = x) : narrow .boolean (.int x) = .int x := by
  show Value.int (x &&& 1) = Value.int x
  have h : x &&& 1 = x := h
  rw [h]
theorem bo_fit {x : Int32} (h : bo x = x) : fits .boolean (.int x) = true := by
  rcases bo_01 x with e | e <;> rw [h] at e <;> subst e <;> decide
-- the two worlds
def cF (a : Nat → Nat) (σ : Mem) : List Value := [.ref (a 1), .ref (a 2), .ref (a 3), .ref (a (4 + 8)), .ref (a (4 + 12)), .int (σ 5 0), .int (σ 5 1), .int (σ 5 2), .int (σ 5 3)]
def kF (σ : Mem) (i : Nat) : List Value := [.int (bo (σ 2 i)), .int (σ 3 i), .int (σ 4 i)]
def cwL (a : Nat → Nat) (cA : Nat → ClassId) (σ : Mem) : va_W := (a 0, .inr (1, cF a σ)) :: (a 1, .inl (cA 0, 256, .inl (σ 0))) :: (a 2, .inl (cA 1, 128, .inl (fun i => bo (σ 1 i)))) :: (a 3, .inl (cA 2, 12, .inr (.inr (.inr (.inr (fun i => some (a (4 + i)))))))) :: (List.range 13).map (fun i => (a (4 + i), .inr (0, kF σ i)))
def rF (a : Nat → Nat) (σ : Mem) : List Value := [.ref (a 1), .ref (a 2), .ref (a 3), .ref (a 4), .ref (a 5), .int (σ 5 0), .int (σ 5 1), .int (σ 5 2), .int (σ 5 3), .int (σ 6 0), .int (σ 6 1), .int (bo (σ 6 2))]
def rwL (a : Nat → Nat) (cA : Nat → ClassId) (σ : Mem) : va_W := [(a 0, .inr (2, rF a σ)), (a 1, .inl (cA 0, 12, .inl (σ 4))), (a 2, .inl (cA 1, 12, .inl (σ 3))), (a 3, .inl (cA 2, 12, .inl (fun i => bo (σ 2 i)))), (a 4, .inl (cA 3, 256, .inl (σ 0))), (a 5, .inl (cA 4, 128, .inl (fun i => bo (σ 1 i))))]
abbrev cty (cA : Nat → ClassId) : List (ClassId × FieldType) := [(cA 0, .int), (cA 1, .boolean), (cA 2, .object R_K)]
abbrev rty (cA : Nat → ClassId) : List (ClassId × FieldType) := [(cA 0, .int), (cA 1, .int), (cA 2, .boolean), (cA 3, .int), (cA 4, .boolean)]
def aB (a : Nat → Nat) (n : Nat) : Nat → Prop := fun q => ∃ k, k < n ∧ q = a k
theorem map_set {α : Type} (f g : Nat → α) (n i : Nat) (h : ∀ j, j ≠ i → g j = f j) (hi : i < n) : ((List.range n).map f).set i (g i) = (List.range n).map g := by
  apply List.ext_getElem?
  intro j
  by_cases hj : j = i
  · subst hj
    rw [List.getElem?_set_self (by simpa using hi)]
    simp [hi]
  · rw [List.getElem?_set_ne (Ne.symm hj), List.getElem?_map, List.getElem?_map]
    by_cases hn : j < n
    · rw [List.getElem?_range hn]
      simp [h j hj]
    · rw [List.getElem?_eq_none (by simpa using hn)]
      rfl
theorem cw_at {a : Nat → Nat} {cA : Nat → ClassId} {σ : Mem} {i : Nat} (hi : i < 13) : (cwL a cA σ)[4 + i]? = some (a (4 + i), .inr (0, kF σ i)) := by
  rw [show 4 + i = i + 4 by omega]
  simp only [cwL, List.getElem?_cons_succ, List.getElem?_map]
  rw [List.getElem?_range hi]
  simp [Nat.add_comm]
theorem cw_setK {a : Nat → Nat} {cA : Nat → ClassId} {σ τ : Mem} {i : Nat} (hi : i < 13) (h0 : τ 0 = σ 0) (h1 : τ 1 = σ 1) (h5 : τ 5 = σ 5) (hk : ∀ j, j ≠ i → kF τ j = kF σ j) : (cwL a cA σ).set (4 + i) (a (4 + i), .inr (0, kF τ i)) = cwL a cA τ := by
  rw [show 4 + i = i + 4 by omega]
  simp only [cwL, List.set_cons_succ]
  rw [show cF a τ = cF a σ by simp [cF, h5], h0, h1]
  have e := map_set (fun i => (a (4 + i), (.inr (0, kF σ i) : va_E))) (fun i => (a (4 + i), (.inr (0, kF τ i) : va_E))) 13 i (fun j hj => by simp [hk j hj]) hi
  rw [show i + 4 = 4 + i by omega, ← e]
theorem cw_set2 {a : Nat → Nat} {cA : Nat → ClassId} {σ : Mem} {i : Nat} {v : Int32} (hi : i < 13) (hb : bo v = v) : (cwL a cA σ).set (4 + i) (a (4 + i), .inr (0, (kF σ i).set 0 (.int v))) = cwL a cA (wr σ 2 i v) := by
  have e : (kF σ i).set 0 (.int v) = kF (wr σ 2 i v) i := by simp [kF, wr, hb]
  rw [e]
  exact cw_setK hi (wr_row _ _ _ (by decide)) (wr_row _ _ _ (by decide)) (wr_row _ _ _ (by decide)) (fun j hj => by simp [kF, wr, hj])
theorem cw_set3 {a : Nat → Nat} {cA : Nat → ClassId} {σ : Mem} {i : Nat} {v : Int32} (hi : i < 13) : (cwL a cA σ).set (4 + i) (a (4 + i), .inr (0, (kF σ i).set 1 (.int v))) = cwL a cA (wr σ 3 i v) := by
  have e : (kF σ i).set 1 (.int v) = kF (wr σ 3 i v) i := by simp [kF, wr]
  rw [e]
  exact cw_setK hi (wr_row _ _ _ (by decide)) (wr_row _ _ _ (by decide)) (wr_row _ _ _ (by decide)) (fun j hj => by simp [kF, wr, hj])
theorem cw_set4 {a : Nat → Nat} {cA : Nat → ClassId} {σ : Mem} {i : Nat} {v : Int32} (hi : i < 13) : (cwL a cA σ).set (4 + i) (a (4 + i), .inr (0, (kF σ i).set 2 (.int v))) = cwL a cA (wr σ 4 i v) := by
  have e : (kF σ i).set 2 (.int v) = kF (wr σ 4 i v) i := by simp [kF, wr]
  rw [e]
  exact cw_setK hi (wr_row _ _ _ (by decide)) (wr_row _ _ _ (by decide)) (wr_row _ _ _ (by decide)) (fun j hj => by simp [kF, wr, hj])
theorem kF_ne {σ : Mem} {k i : Nat} {v : Int32} (h2 : k ≠ 2) (h3 : k ≠ 3) (h4 : k ≠ 4) : kF (wr σ k i v) = kF σ := by
  funext j
  simp [kF, wr, Ne.symm h2, Ne.symm h3, Ne.symm h4]
theorem cw_set5 {a : Nat → Nat} {cA : Nat → ClassId} {σ : Mem} {v : Int32} (j : Nat) (hj : j < 4) : (cwL a cA σ).set 0 (a 0, .inr (1, (cF a σ).set (5 + j) (.int v))) = cwL a cA (wr σ 5 j v) := by
  have e : (cF a σ).set (5 + j) (.int v) = cF a (wr σ 5 j v) := by
    match j, hj with
    | 0, _ => simp [cF, wr]
    | 1, _ => simp [cF, wr]
    | 2, _ => simp [cF, wr]
    | 3, _ => simp [cF, wr]
  rw [e]
  simp only [cwL, List.set_cons_zero]
  rw [wr_row σ j v (show 0 ≠ 5 by decide), wr_row σ j v (show 1 ≠ 5 by decide), kF_ne (by decide) (by decide) (by decide)]
theorem cF_ne {a : Nat → Nat} {σ : Mem} {k i : Nat} {v : Int32} (h : k ≠ 5) : cF a (wr σ k i v) = cF a σ := by
  simp [cF, wr, Ne.symm h]
theorem cw_set0 {a : Nat → Nat} {cA : Nat → ClassId} {σ : Mem} {i : Nat} {v : Int32} : (cwL a cA σ).set 1 (a 1, .inl (cA 0, 256, .inl (upd (σ 0) i v))) = cwL a cA (wr σ 0 i v) := by
  simp only [cwL, List.set_cons_succ, List.set_cons_zero]
  rw [wr_upd, wr_row σ i v (show 1 ≠ 0 by decide), kF_ne (by decide) (by decide) (by decide), cF_ne (by decide)]
theorem bo_upd (f : Nat → Int32) (i : Nat) (v : Int32) : upd (fun j => bo (f j)) i (vp_nar .boolean v) = fun j => bo (upd f i v j) := by
  funext j
  by_cases h : j = i
  · subst h
    simp only [upd, if_true]
    rfl
  · simp only [upd, if_neg h]
theorem cw_set1 {a : Nat → Nat} {cA : Nat → ClassId} {σ : Mem} {i : Nat} {v : Int32} : (cwL a cA σ).set 2 (a 2, .inl (cA 1, 128, .inl (upd (fun j => bo (σ 1 j)) i (vp_nar .boolean v)))) = cwL a cA (wr σ 1 i v) := by
  simp only [cwL, List.set_cons_succ, List.set_cons_zero]
  rw [bo_upd, wr_upd, wr_row σ i v (show 0 ≠ 1 by decide), kF_ne (by decide) (by decide) (by decide), cF_ne (by decide)]
-- the reference's world
theorem rF_ne {a : Nat → Nat} {σ : Mem} {k i : Nat} {v : Int32} (h5 : k ≠ 5) (h6 : k ≠ 6) : rF a (wr σ k i v) = rF a σ := by
  simp [rF, wr, Ne.symm h5, Ne.symm h6]
theorem rw_set5 {a : Nat → Nat} {cA : Nat → ClassId} {σ : Mem} {v : Int32} (j : Nat) (hj : j < 4) : (rwL a cA σ).set 0 (a 0, .inr (2, (rF a σ).set (5 + j) (.int v))) = rwL a cA (wr σ 5 j v) := by
  have e : (rF a σ).set (5 + j) (.int v) = rF a (wr σ 5 j v) := by
    match j, hj with
    | 0, _ => simp [rF, wr]
    | 1, _ => simp [rF, wr]
    | 2, _ => simp [rF, wr]
    | 3, _ => simp [rF, wr]
  rw [e]
  simp only [rwL, List.set_cons_zero]
  rw [wr_row σ j v (show 0 ≠ 5 by decide), wr_row σ j v (show 1 ≠ 5 by decide), wr_row σ j v (show 2 ≠ 5 by decide), wr_row σ j v (show 3 ≠ 5 by decide), wr_row σ j v (show 4 ≠ 5 by decide)]
theorem rw_set6 {a : Nat → Nat} {cA : Nat → ClassId} {σ : Mem} {v : Int32} (j : Nat) (hj : j < 3) (hb : j = 2 → bo v = v) : (rwL a cA σ).set 0 (a 0, .inr (2, (rF a σ).set (9 + j) (.int v))) = rwL a cA (wr σ 6 j v) := by
  have e : (rF a σ).set (9 + j) (.int v) = rF a (wr σ 6 j v) := by
    match j, hj with
    | 0, _ => simp [rF, wr]
    | 1, _ => simp [rF, wr]
    | 2, _ => simp [rF, wr, hb rfl]
  rw [e]
  simp only [rwL, List.set_cons_zero]
  rw [wr_row σ j v (show 0 ≠ 6 by decide), wr_row σ j v (show 1 ≠ 6 by decide), wr_row σ j v (show 2 ≠ 6 by decide), wr_row σ j v (show 3 ≠ 6 by decide), wr_row σ j v (show 4 ≠ 6 by decide)]
theorem rw_set4 {a : Nat → Nat} {cA : Nat → ClassId} {σ : Mem} {i : Nat} {v : Int32} : (rwL a cA σ).set 1 (a 1, .inl (cA 0, 12, .inl (upd (σ 4) i v))) = rwL a cA (wr σ 4 i v) := by
  simp only [rwL, List.set_cons_succ, List.set_cons_zero]
  rw [wr_upd, wr_row σ i v (show 0 ≠ 4 by decide), wr_row σ i v (show 1 ≠ 4 by decide), wr_row σ i v (show 2 ≠ 4 by decide), wr_row σ i v (show 3 ≠ 4 by decide), rF_ne (by decide) (by decide)]
theorem rw_set3 {a : Nat → Nat} {cA : Nat → ClassId} {σ : Mem} {i : Nat} {v : Int32} : (rwL a cA σ).set 2 (a 2, .inl (cA 1, 12, .inl (upd (σ 3) i v))) = rwL a cA (wr σ 3 i v) := by
  simp only [rwL, List.set_cons_succ, List.set_cons_zero]
  rw [wr_upd, wr_row σ i v (show 0 ≠ 3 by decide), wr_row σ i v (show 1 ≠ 3 by decide), wr_row σ i v (show 2 ≠ 3 by decide), wr_row σ i v (show 4 ≠ 3 by decide), rF_ne (by decide) (by decide)]
theorem rw_set2 {a : Nat → Nat} {cA : Nat → ClassId} {σ : Mem} {i : Nat} {v : Int32} : (rwL a cA σ).set 3 (a 3, .inl (cA 2, 12, .inl (upd (fun j => bo (σ 2 j)) i (vp_nar .boolean v)))) = rwL a cA (wr σ 2 i v) := by
  simp only [rwL, List.set_cons_succ, List.set_cons_zero]
  rw [bo_upd, wr_upd, wr_row σ i v (show 0 ≠ 2 by decide), wr_row σ i v (show 1 ≠ 2 by decide), wr_row σ i v (show 3 ≠ 2 by decide), wr_row σ i v (show 4 ≠ 2 by decide), rF_ne (by decide) (by decide)]
theorem rw_set0 {a : Nat → Nat} {cA : Nat → ClassId} {σ : Mem} {i : Nat} {v : Int32} : (rwL a cA σ).set 4 (a 4, .inl (cA 3, 256, .inl (upd (σ 0) i v))) = rwL a cA (wr σ 0 i v) := by
  simp only [rwL, List.set_cons_succ, List.set_cons_zero]
  rw [wr_upd, wr_row σ i v (show 1 ≠ 0 by decide), wr_row σ i v (show 2 ≠ 0 by decide), wr_row σ i v (show 3 ≠ 0 by decide), wr_row σ i v (show 4 ≠ 0 by decide), rF_ne (by decide) (by decide)]
theorem rw_set1 {a : Nat → Nat} {cA : Nat → ClassId} {σ : Mem} {i : Nat} {v : Int32} : (rwL a cA σ).set 5 (a 5, .inl (cA 4, 128, .inl (upd (fun j => bo (σ 1 j)) i (vp_nar .boolean v)))) = rwL a cA (wr σ 1 i v) := by
  simp only [rwL, List.set_cons_succ, List.set_cons_zero]
  rw [bo_upd, wr_upd, wr_row σ i v (show 0 ≠ 1 by decide), wr_row σ i v (show 2 ≠ 1 by decide), wr_row σ i v (show 3 ≠ 1 by decide), wr_row σ i v (show 4 ≠ 1 by decide), rF_ne (by decide) (by decide)]
end
section
-- what is fixed in a method's body, what changes, and the contracts
/-- the words of nest mates: the core's own use of a capability's fields -/
def nW (U : State) : Prop := va_Nw (.fieldLinkNest R_X 62 R_K "address" "I" R_X) U ∧ va_Nw (.fieldLinkNest R_X 65 R_K "meta" "I" R_X) U ∧ va_Nw (.fieldLinkNest R_X 68 R_K "tag" "Z" R_X) U
theorem nW.warm {s U : State} (hW : s.WarmedH U.vm) (h : nW s) : nW U := ⟨va_Nw.warmF hW h.1, va_Nw.warmF hW h.2.1, va_Nw.warmF hW h.2.2⟩
theorem nW.blind {U : State} {g : JFrame} {mk : MethodId} {a : Array Value} (h : nW U) : nW (U.calling g mk a) := ⟨va_Nw.same rfl (u := U) rfl h.1, va_Nw.same rfl (u := U) rfl h.2.1, va_Nw.same rfl (u := U) rfl h.2.2⟩
abbrev Wl : Type := Mem → va_W
abbrev Tys : Type := List (ClassId × FieldType)
def sA (B0 : Nat → Prop) (sz : Nat) : Nat → Prop := fun q => B0 q ∨ sz ≤ q
/-- a method's start -/
def sP (D : va_G) (wl : Wl) (tys : Tys) (B0 : Nat → Prop) (σ : Mem) (U : State) : Prop := va_P D classes (wl σ) U.heap ∧ va_K D classes tys U ∧ nW U ∧ ∀ τ : Mem, va_D B0 (wl τ)
/-- fixed in a body -/
def sF (p : Program) (m : MethodId) (c : Code) (cc : ByteArray) (nL : Nat) (s : State) (args : Array Value) (c0 : Cond) (own : String) (D : va_G) (wl : Wl) (tys : Tys) (B0 : Nat → Prop) : Prop := CallFix p m c cc nL s args (c0 :: TG) own ∧ va_K D classes tys s ∧ nW s ∧ ∀ τ : Mem, va_D B0 (wl τ)
/-- changes in a body -/
def sS (D : va_G) (wl : Wl) (B0 : Nat → Prop) (s : State) (σ : Mem) (H : Heap) (locs : List Loc) : Prop := va_P D classes (wl σ) H ∧ va_S (sA B0 s.heap.size) s.heap H locs
def sQ (D : va_G) (wl : Wl) (u : Mem) (t : State) : Prop := va_P D classes (wl u) t.heap
def cI (l : Launch) (y : MethodName) (w : List Cond) (rm : Room) (D : va_G) (wl : Wl) (tys : Tys) (B0 : Nat → Prop) (av : List Value) (σ : Mem) (P : Int32 × Mem) : Prop := ∀ sz : Nat, Met l y w rm (va_Pc av (fun U => U.heap.size = sz ∧ sP D wl tys B0 σ U)) (va_Qi (fun r u => P = (r, u)) (sQ D wl) (sA B0 sz)) 0 0 (sA B0 sz)
def cL (l : Launch) (y : MethodName) (w : List Cond) (rm : Room) (D : va_G) (wl : Wl) (tys : Tys) (B0 : Nat → Prop) (av : List Value) (σ : Mem) (P : Int64 × Mem) : Prop := ∀ sz : Nat, Met l y w rm (va_Pc av (fun U => U.heap.size = sz ∧ sP D wl tys B0 σ U)) (va_Ql (fun r u => P = (r, u)) (sQ D wl) (sA B0 sz)) 0 0 (sA B0 sz)
def cV (l : Launch) (y : MethodName) (w : List Cond) (rm : Room) (D : va_G) (wl : Wl) (tys : Tys) (B0 : Nat → Prop) (av : List Value) (σ : Mem) (P : Mem) : Prop := ∀ sz : Nat, Met l y w rm (va_Pc av (fun U => U.heap.size = sz ∧ sP D wl tys B0 σ U)) (va_Qv (fun u => P = u) (sQ D wl) (sA B0 sz)) 0 0 (sA B0 sz)
abbrev rmO (f n : Nat) : Room := { frames := f, cells := 0, slots := 0, locals := n }
theorem sP.blind {D : va_G} {wl : Wl} {tys : Tys} {B0 : Nat → Prop} {σ : Mem} {sz : Nat} {av : List Value} : FrameBlind (va_Pc av (fun U => U.heap.size = sz ∧ sP D wl tys B0 σ U)) := fun a U g mk q => by
  obtain ⟨q0, q1, qP, qK, qN, qD⟩ := q
  exact ⟨q0, q1, qP, va_K.moved (u := U) (U := U.calling g mk a) (Vm.Alike.refl U.vm) qK, qN.blind, qD⟩
section SB
variable {l : Launch} {y : MethodName} {cc : ByteArray} {maxL : Nat} {rm : Room} {D : va_G} {wl : Wl} {tys : Tys} {B0 : Nat → Prop} {av : List Value} {σ : Mem}
theorem cI_of {P : Int32 × Mem} (hy : plainName y.cls = true) (hlen : (lg_sl av).length ≤ maxL)
    (body : ∀ (p : Program) (e : Env) (s : State) (m : MethodId) (args : Array Value) (below : List Frame) (meth : Method) (c : Code) (Q : State → Prop) (ls : Array Slot), p.tables.exec = Jvm.exec → c.code = cc → sF p m c cc maxL s args (.code y cc maxL (some .int)) y.cls D wl tys B0 → lv_has ls maxL (lv_args 0 av) → sS D wl B0 s σ s.heap [] →
      (∀ (H : Heap) (locs : List Loc) (v : Int32) (u : Mem) (pc : Nat) (ls' : Array Slot), sS D wl B0 s u H locs → P = (v, u) → decode cc pc = .ok (.ireturn, 1) → W p l e rm s m args below meth c H locs 0 0 Q (F0 m pc ls' [.int v])) →
      W p l e rm s m args below meth c s.heap [] 0 0 Q (F0 m 0 ls [])) : cI l y (.code y cc maxL (some .int) :: TG) rm D wl tys B0 av σ P := by
  intro sz
  refine Met.ofW (cc := cc) (maxL := maxL) (ret := some .int) hy rfl ?_
  intro p e s m args below meth c s₁ B hml hv
  obtain ⟨rfl, hsz, hP, hK, hN, hD⟩ := hv
  have hx := B.exec
  have hb := B.bytes
  have hr := B.returns
  have hts := atoms_spec (ws := .code y cc maxL (some .int) :: TG) B.pre
  have hown : s.vm.findClass y.cls = some m.cls := findClass_of_methodNamed B.named
  have hlocks := B.notSynchronized
  subst hsz
  rw [lg_entry_eq]
  refine body p e s m _ below meth c _ _ hx hb ⟨⟨hx, hb, hml, hown, hts⟩, hK, hN, hD⟩ (lv_entry av hlen) ⟨hP, va_S.rf⟩ ?_
  intro H locs v u pc ls' hs he hdg
  exact W.iret hx hb hr (fun t ht hW => ⟨⟨v, u, rfl, he, by unfold sQ; rw [ht]; exact hs.1⟩, hs.2.F ht⟩) hs.2.2.2 hdg
theorem cZ_of {P : Int32 × Mem} (hy : plainName y.cls = true) (hlen : (lg_sl av).length ≤ maxL)
    (body : ∀ (p : Program) (e : Env) (s : State) (m : MethodId) (args : Array Value) (below : List Frame) (meth : Method) (c : Code) (Q : State → Prop) (ls : Array Slot), p.tables.exec = Jvm.exec → c.code = cc → sF p m c cc maxL s args (.code y cc maxL (some .boolean)) y.cls D wl tys B0 → lv_has ls maxL (lv_args 0 av) → sS D wl B0 s σ s.heap [] →
      (∀ (H : Heap) (locs : List Loc) (v : Int32) (u : Mem) (pc : Nat) (ls' : Array Slot), sS D wl B0 s u H locs → bo v = v → P = (v, u) → decode cc pc = .ok (.ireturn, 1) → W p l e rm s m args below meth c H locs 0 0 Q (F0 m pc ls' [.int v])) →
      W p l e rm s m args below meth c s.heap [] 0 0 Q (F0 m 0 ls [])) : cI l y (.code y cc maxL (some .boolean) :: TG) rm D wl tys B0 av σ P := by
  intro sz
  refine Met.ofW (cc := cc) (maxL := maxL) (ret := some .boolean) hy rfl ?_
  intro p e s m args below meth c s₁ B hml hv
  obtain ⟨rfl, hsz, hP, hK, hN, hD⟩ := hv
  have hx := B.exec
  have hb := B.bytes
  have hr := B.returns
  have hts := atoms_spec (ws := .code y cc maxL (some .boolean) :: TG) B.pre
  have hown : s.vm.findClass y.cls = some m.cls := findClass_of_methodNamed B.named
  have hlocks := B.notSynchronized
  subst hsz
  rw [lg_entry_eq]
  refine body p e s m _ below meth c _ _ hx hb ⟨⟨hx, hb, hml, hown, hts⟩, hK, hN, hD⟩ (lv_entry av hlen) ⟨hP, va_S.rf⟩ ?_
  intro H locs v u pc ls' hs hbo he hdg
  exact W.zret hx hb hr (bo_nar hbo) (fun t ht hW => ⟨⟨v, u, rfl, he, by unfold sQ; rw [ht]; exact hs.1⟩, hs.2.F ht⟩) hs.2.2.2 hdg
theorem cL_of {P : Int64 × Mem} (hy : plainName y.cls = true) (hlen : (lg_sl av).length ≤ maxL)
    (body : ∀ (p : Program) (e : Env) (s : State) (m : MethodId) (args : Array Value) (below : List Frame) (meth : Method) (c : Code) (Q : State → Prop) (ls : Array Slot), p.tables.exec = Jvm.exec → c.code = cc → sF p m c cc maxL s args (.code y cc maxL (some .long)) y.cls D wl tys B0 → lv_has ls maxL (lv_args 0 av) → sS D wl B0 s σ s.heap [] →
      (∀ (H : Heap) (locs : List Loc) (v : Int64) (u : Mem) (pc : Nat) (ls' : Array Slot), sS D wl B0 s u H locs → P = (v, u) → decode cc pc = .ok (.lreturn, 1) → W p l e rm s m args below meth c H locs 0 0 Q (F0 m pc ls' [.long v])) →
      W p l e rm s m args below meth c s.heap [] 0 0 Q (F0 m 0 ls [])) : cL l y (.code y cc maxL (some .long) :: TG) rm D wl tys B0 av σ P := by
  intro sz
  refine Met.ofW (cc := cc) (maxL := maxL) (ret := some .long) hy rfl ?_
  intro p e s m args below meth c s₁ B hml hv
  obtain ⟨rfl, hsz, hP, hK, hN, hD⟩ := hv
  have hx := B.exec
  have hb := B.bytes
  have hr := B.returns
  have hts := atoms_spec (ws := .code y cc maxL (some .long) :: TG) B.pre
  have hown : s.vm.findClass y.cls = some m.cls := findClass_of_methodNamed B.named
  have hlocks := B.notSynchronized
  subst hsz
  rw [lg_entry_eq]
  refine body p e s m _ below meth c _ _ hx hb ⟨⟨hx, hb, hml, hown, hts⟩, hK, hN, hD⟩ (lv_entry av hlen) ⟨hP, va_S.rf⟩ ?_
  intro H locs v u pc ls' hs he hdg
  exact W.lret hx hb hr (fun t ht hW => ⟨⟨v, u, rfl, he, by unfold sQ; rw [ht]; exact hs.1⟩, hs.2.F ht⟩) hs.2.2.2 hdg
theorem cV_of {P : Mem} (hy : plainName y.cls = true) (hlen : (lg_sl av).length ≤ maxL)
    (body : ∀ (p : Program) (e : Env) (s : State) (m : MethodId) (args : Array Value) (below : List Frame) (meth : Method) (c : Code) (Q : State → Prop) (ls : Array Slot), p.tables.exec = Jvm.exec → c.code = cc → sF p m c cc maxL s args (.code y cc maxL none) y.cls D wl tys B0 → lv_has ls maxL (lv_args 0 av) → sS D wl B0 s σ s.heap [] →
      (∀ (H : Heap) (locs : List Loc) (u : Mem) (pc : Nat) (ls' : Array Slot), sS D wl B0 s u H locs → P = u → decode cc pc = .ok (.return_, 1) → W p l e rm s m args below meth c H locs 0 0 Q (F0 m pc ls' [])) →
      W p l e rm s m args below meth c s.heap [] 0 0 Q (F0 m 0 ls [])) : cV l y (.code y cc maxL none :: TG) rm D wl tys B0 av σ P := by
  intro sz
  refine Met.ofW (cc := cc) (maxL := maxL) (ret := none) hy rfl ?_
  intro p e s m args below meth c s₁ B hml hv
  obtain ⟨rfl, hsz, hP, hK, hN, hD⟩ := hv
  have hx := B.exec
  have hb := B.bytes
  have hr := B.returns
  have hts := atoms_spec (ws := .code y cc maxL none :: TG) B.pre
  have hown : s.vm.findClass y.cls = some m.cls := findClass_of_methodNamed B.named
  have hlocks := B.notSynchronized
  subst hsz
  rw [lg_entry_eq]
  refine body p e s m _ below meth c _ _ hx hb ⟨⟨hx, hb, hml, hown, hts⟩, hK, hN, hD⟩ (lv_entry av hlen) ⟨hP, va_S.rf⟩ ?_
  intro H locs u pc ls' hs he hdg
  exact W.vret hx hb hr (fun t ht hW => ⟨⟨u, rfl, he, by unfold sQ; rw [ht]; exact hs.1⟩, hs.2.F ht⟩) hs.2.2.2 hdg
end SB
-- what a call needs of the tables, a row a method
def mV (y : MethodName) (bytes : ByteArray) (maxL : Nat) (ret : Option FieldType) (n : Nat) : Prop := Cond.code y bytes maxL ret ∈ TG ∧ Cond.initialized y.cls ∈ TG ∧ Cond.instanceMethod y ∈ TG ∧ Cond.selects y.cls y y ∈ TG ∧ y.cls ≠ "java/lang/invoke/MethodHandle" ∧ y.cls ≠ "java/lang/invoke/VarHandle" ∧ (parseMethodDescriptor y.desc).map (fun d => d.parameters.length) = some n
def mS (y : MethodName) (bytes : ByteArray) (maxL : Nat) (ret : Option FieldType) (n : Nat) : Prop := Cond.code y bytes maxL ret ∈ TG ∧ Cond.initialized y.cls ∈ TG ∧ Cond.static y ∈ TG ∧ y.cls ≠ "java/lang/invoke/MethodHandle" ∧ y.cls ≠ "java/lang/invoke/VarHandle" ∧ (parseMethodDescriptor y.desc).map (fun d => d.parameters.length) = some n
/-- a receiver: an object of the world -/
def sR (wl : Wl) (σ : Mem) (b : Nat) (C : String) : Prop := ∃ (q0 ci : Nat) (fs : List Value) (r : vw_C), (wl σ)[q0]? = some (b, .inr (ci, fs)) ∧ classes[ci]? = some r ∧ r.1 = C
theorem rX {a : Nat → Nat} {cA : Nat → ClassId} {σ : Mem} : sR (cwL a cA) σ (a 0) R_X := ⟨0, 1, cF a σ, (R_X, F_X, 9), rfl, rfl, rfl⟩
theorem rK {a : Nat → Nat} {cA : Nat → ClassId} {σ : Mem} {i : Nat} (hi : i < 13) : sR (cwL a cA) σ (a (4 + i)) R_K := ⟨4 + i, 0, kF σ i, (R_K, F_K, 3), cw_at hi, rfl, rfl⟩
theorem rM {a : Nat → Nat} {cA : Nat → ClassId} {σ : Mem} : sR (rwL a cA) σ (a 0) R_M := ⟨0, 2, rF a σ, (R_M, F_M, 12), rfl, rfl, rfl⟩
section SC
variable {p : Program} {l : Launch} {e : Env} {R : Room} {s : State} {m : MethodId} {args : Array Value} {below : List Frame} {meth : Method} {c : Code} {H : Heap} {locs : List Loc} {cells slots : Nat} {Q : State → Prop}
variable {cc : ByteArray} {nL pc : Nat} {ls : Array Slot} {rest st0 : List Value} {c0 : Cond} {own : String} {D : va_G} {wl : Wl} {tys : Tys} {B0 : Nat → Prop} {σ : Mem}
variable {y : MethodName} {bytes : ByteArray} {maxL n ix b : Nat} {ret : Option FieldType} {rm : Room} {As : List Value}
theorem x_pre (hF : sF p m c cc nL s args c0 own D wl tys B0) (hs : sS D wl B0 s σ H locs) {av : List Value} (U : State) (hU : U.heap = H) (hW : s.WarmedH U.vm) : va_Pc av (fun U => U.heap.size = H.size ∧ sP D wl tys B0 σ U) av.toArray U :=
  ⟨rfl, by rw [hU], by rw [hU]; exact hs.1, va_K.moved hW.alike hF.2.1, hF.2.2.1.warm hW, hF.2.2.2⟩
theorem x_recv (hF : sF p m c cc nL s args c0 own D wl tys B0) (hs : sS D wl B0 s σ H locs) {C : String} (h : sR wl σ b C) : ∃ cellB : Cell, H[b]? = some cellB ∧ cellB.vm.isStatics = false ∧ s.vm.findClass C = some cellB.cls := by
  obtain ⟨q0, ci, fs, r, h1, h2, rfl⟩ := h
  exact va_recv hF.2.1 hs.1 h2 h1
theorem x_up (hs : sS D wl B0 s σ H locs) : ∀ q, sA B0 H.size q → sA B0 s.heap.size q := fun q h => h.elim Or.inl (fun h => Or.inr (Nat.le_trans hs.2.1 h))
theorem x_cwV (hF : sF p m c cc nL s args c0 own D wl tys B0) (hv : mV y bytes maxL ret n) (hl : Cond.methodLink own ix y ∈ TG) (hrc : rm.cells = 0) (hrs : rm.slots = 0) (hR : rm.frames + 1 ≤ R.frames ∧ 8 + (maxL + 11) + rm.locals ≤ R.locals) : CallW R s args own y.cls ix y bytes maxL ret (.code y bytes maxL ret :: TG) rm 0 0 n := by
  have hts := hF.1.2.2.2.2
  obtain ⟨h1, h2, h3, h4, h5⟩ := hv
  exact ⟨callB_of n hts (tg_in h1) rfl hrc hrs (hts _ (List.mem_cons_of_mem _ h2)) (hts _ (List.mem_cons_of_mem _ hl)) h5 hR, hts _ (List.mem_cons_of_mem _ h3), hts _ (List.mem_cons_of_mem _ h4)⟩
theorem x_cwS (hF : sF p m c cc nL s args c0 own D wl tys B0) (hv : mS y bytes maxL ret n) (hl : Cond.methodLink own ix y ∈ TG) (hrc : rm.cells = 0) (hrs : rm.slots = 0) (hR : rm.frames + 1 ≤ R.frames ∧ 8 + (maxL + 11) + rm.locals ≤ R.locals) : CallB R s args own ix y bytes maxL ret (.code y bytes maxL ret :: TG) rm 0 0 n ∧ (Cond.static y).before args s = true := by
  have hts := hF.1.2.2.2.2
  obtain ⟨h1, h2, h3, h5⟩ := hv
  exact ⟨callB_of n hts (tg_in h1) rfl hrc hrs (hts _ (List.mem_cons_of_mem _ h2)) (hts _ (List.mem_cons_of_mem _ hl)) h5 hR, hts _ (List.mem_cons_of_mem _ h3)⟩
theorem x_Vi {P : Int32 × Mem} (hF : sF p m c cc nL s args c0 own D wl tys B0) (hs : sS D wl B0 s σ H locs) (hv : mV y bytes maxL ret n) (hl : Cond.methodLink own ix y ∈ TG) (hC : cI l y (.code y bytes maxL ret :: TG) rm D wl tys B0 (.ref b :: As) σ P) (hrc : rm.cells = 0) (hrs : rm.slots = 0) (hR : rm.frames + 1 ≤ R.frames ∧ 8 + (maxL + 11) + rm.locals ≤ R.locals) (hn : As.length = n) (hst : st0 = As.reverse ++ .ref b :: rest) (hsz : ls.size = nL) (hW : (rest.map fun v => v.category).sum ≤ 8) (hb : sR wl σ b y.cls) (hdg : decode cc pc = .ok (.invokevirtual ix, 3)) (hf : cells ≤ R.cells ∧ slots ≤ R.slots)
    (kk : ∀ (H1 : Heap) (locs1 : List Loc), sS D wl B0 s P.2 H1 locs1 → W p l e R s m args below meth c H1 locs1 cells slots Q (F0 m (pc + 3) ls (.int P.1 :: rest))) : W p l e R s m args below meth c H locs cells slots Q (F0 m pc ls st0) := by
  subst hst
  refine va_calli (va_runV (As := As) (rest := rest) (b := b) (C := y.cls) (n := n) hF.1 (hC H.size) (x_cwV hF hv hl hrc hrs hR) ⟨sP.blind, x_recv hF hs hb, x_pre hF hs⟩ rfl hn hsz rfl (lv_room hW) hdg hf) hs.2 (fun q _ h => x_up hs q h) (x_up hs) (fun r u t H1 locs1 ht hvm hpost hB hz hk hS => ?_)
  subst hpost
  exact kk H1 locs1 ⟨by rw [← ht]; exact hB, hS⟩
theorem x_Vl {P : Int64 × Mem} (hF : sF p m c cc nL s args c0 own D wl tys B0) (hs : sS D wl B0 s σ H locs) (hv : mV y bytes maxL ret n) (hl : Cond.methodLink own ix y ∈ TG) (hC : cL l y (.code y bytes maxL ret :: TG) rm D wl tys B0 (.ref b :: As) σ P) (hrc : rm.cells = 0) (hrs : rm.slots = 0) (hR : rm.frames + 1 ≤ R.frames ∧ 8 + (maxL + 11) + rm.locals ≤ R.locals) (hn : As.length = n) (hst : st0 = As.reverse ++ .ref b :: rest) (hsz : ls.size = nL) (hW : (rest.map fun v => v.category).sum ≤ 8) (hb : sR wl σ b y.cls) (hdg : decode cc pc = .ok (.invokevirtual ix, 3)) (hf : cells ≤ R.cells ∧ slots ≤ R.slots)
    (kk : ∀ (H1 : Heap) (locs1 : List Loc), sS D wl B0 s P.2 H1 locs1 → W p l e R s m args below meth c H1 locs1 cells slots Q (F0 m (pc + 3) ls (.long P.1 :: rest))) : W p l e R s m args below meth c H locs cells slots Q (F0 m pc ls st0) := by
  subst hst
  refine va_calll (va_runV (As := As) (rest := rest) (b := b) (C := y.cls) (n := n) hF.1 (hC H.size) (x_cwV hF hv hl hrc hrs hR) ⟨sP.blind, x_recv hF hs hb, x_pre hF hs⟩ rfl hn hsz rfl (lv_room hW) hdg hf) hs.2 (fun q _ h => x_up hs q h) (x_up hs) (fun r u t H1 locs1 ht hvm hpost hB hz hk hS => ?_)
  subst hpost
  exact kk H1 locs1 ⟨by rw [← ht]; exact hB, hS⟩
theorem x_Vv {P : Mem} (hF : sF p m c cc nL s args c0 own D wl tys B0) (hs : sS D wl B0 s σ H locs) (hv : mV y bytes maxL ret n) (hl : Cond.methodLink own ix y ∈ TG) (hC : cV l y (.code y bytes maxL ret :: TG) rm D wl tys B0 (.ref b :: As) σ P) (hrc : rm.cells = 0) (hrs : rm.slots = 0) (hR : rm.frames + 1 ≤ R.frames ∧ 8 + (maxL + 11) + rm.locals ≤ R.locals) (hn : As.length = n) (hst : st0 = As.reverse ++ .ref b :: rest) (hsz : ls.size = nL) (hW : (rest.map fun v => v.category).sum ≤ 8) (hb : sR wl σ b y.cls) (hdg : decode cc pc = .ok (.invokevirtual ix, 3)) (hf : cells ≤ R.cells ∧ slots ≤ R.slots)
    (kk : ∀ (H1 : Heap) (locs1 : List Loc), sS D wl B0 s P H1 locs1 → W p l e R s m args below meth c H1 locs1 cells slots Q (F0 m (pc + 3) ls rest)) : W p l e R s m args below meth c H locs cells slots Q (F0 m pc ls st0) := by
  subst hst
  refine va_callv (va_runV (As := As) (rest := rest) (b := b) (C := y.cls) (n := n) hF.1 (hC H.size) (x_cwV hF hv hl hrc hrs hR) ⟨sP.blind, x_recv hF hs hb, x_pre hF hs⟩ rfl hn hsz rfl (lv_room hW) hdg hf) hs.2 (fun q _ h => x_up hs q h) (x_up hs) (fun u t H1 locs1 ht hvm hpost hB hz hk hS => ?_)
  subst hpost
  exact kk H1 locs1 ⟨by rw [← ht]; exact hB, hS⟩
theorem x_Si {P : Int32 × Mem} (hF : sF p m c cc nL s args c0 own D wl tys B0) (hs : sS D wl B0 s σ H locs) (hv : mS y bytes maxL ret n) (hl : Cond.methodLink own ix y ∈ TG) (hC : cI l y (.code y bytes maxL ret :: TG) rm D wl tys B0 As σ P) (hrc : rm.cells = 0) (hrs : rm.slots = 0) (hR : rm.frames + 1 ≤ R.frames ∧ 8 + (maxL + 11) + rm.locals ≤ R.locals) (hn : As.length = n) (hst : st0 = As.reverse ++ rest) (hsz : ls.size = nL) (hW : (rest.map fun v => v.category).sum ≤ 8) (hdg : decode cc pc = .ok (.invokestatic ix, 3)) (hf : cells ≤ R.cells ∧ slots ≤ R.slots)
    (kk : ∀ (H1 : Heap) (locs1 : List Loc), sS D wl B0 s P.2 H1 locs1 → W p l e R s m args below meth c H1 locs1 cells slots Q (F0 m (pc + 3) ls (.int P.1 :: rest))) : W p l e R s m args below meth c H locs cells slots Q (F0 m pc ls st0) := by
  subst hst
  refine va_calli (va_runS (As := As) (rest := rest) (n := n) hF.1 (hC H.size) (x_cwS hF hv hl hrc hrs hR) ⟨sP.blind, x_pre hF hs⟩ rfl hn hsz rfl (lv_room hW) hdg hf) hs.2 (fun q _ h => x_up hs q h) (x_up hs) (fun r u t H1 locs1 ht hvm hpost hB hz hk hS => ?_)
  subst hpost
  exact kk H1 locs1 ⟨by rw [← ht]; exact hB, hS⟩
theorem x_Sl {P : Int64 × Mem} (hF : sF p m c cc nL s args c0 own D wl tys B0) (hs : sS D wl B0 s σ H locs) (hv : mS y bytes maxL ret n) (hl : Cond.methodLink own ix y ∈ TG) (hC : cL l y (.code y bytes maxL ret :: TG) rm D wl tys B0 As σ P) (hrc : rm.cells = 0) (hrs : rm.slots = 0) (hR : rm.frames + 1 ≤ R.frames ∧ 8 + (maxL + 11) + rm.locals ≤ R.locals) (hn : As.length = n) (hst : st0 = As.reverse ++ rest) (hsz : ls.size = nL) (hW : (rest.map fun v => v.category).sum ≤ 8) (hdg : decode cc pc = .ok (.invokestatic ix, 3)) (hf : cells ≤ R.cells ∧ slots ≤ R.slots)
    (kk : ∀ (H1 : Heap) (locs1 : List Loc), sS D wl B0 s P.2 H1 locs1 → W p l e R s m args below meth c H1 locs1 cells slots Q (F0 m (pc + 3) ls (.long P.1 :: rest))) : W p l e R s m args below meth c H locs cells slots Q (F0 m pc ls st0) := by
  subst hst
  refine va_calll (va_runS (As := As) (rest := rest) (n := n) hF.1 (hC H.size) (x_cwS hF hv hl hrc hrs hR) ⟨sP.blind, x_pre hF hs⟩ rfl hn hsz rfl (lv_room hW) hdg hf) hs.2 (fun q _ h => x_up hs q h) (x_up hs) (fun r u t H1 locs1 ht hvm hpost hB hz hk hS => ?_)
  subst hpost
  exact kk H1 locs1 ⟨by rw [← ht]; exact hB, hS⟩
-- the same for methods that change nothing
theorem x_Vip {r : Int32} (hF : sF p m c cc nL s args c0 own D wl tys B0) (hs : sS D wl B0 s σ H locs) (hv : mV y bytes maxL ret n) (hl : Cond.methodLink own ix y ∈ TG) (hC : cI l y (.code y bytes maxL ret :: TG) rm D wl tys B0 (.ref b :: As) σ (r, σ)) (hrc : rm.cells = 0) (hrs : rm.slots = 0) (hR : rm.frames + 1 ≤ R.frames ∧ 8 + (maxL + 11) + rm.locals ≤ R.locals) (hn : As.length = n) (hst : st0 = As.reverse ++ .ref b :: rest) (hsz : ls.size = nL) (hW : (rest.map fun v => v.category).sum ≤ 8) (hb : sR wl σ b y.cls) (hdg : decode cc pc = .ok (.invokevirtual ix, 3)) (hf : cells ≤ R.cells ∧ slots ≤ R.slots)
    (kk : ∀ (H1 : Heap) (locs1 : List Loc), sS D wl B0 s σ H1 locs1 → W p l e R s m args below meth c H1 locs1 cells slots Q (F0 m (pc + 3) ls (.int r :: rest))) : W p l e R s m args below meth c H locs cells slots Q (F0 m pc ls st0) := x_Vi hF hs hv hl hC hrc hrs hR hn hst hsz hW hb hdg hf kk
theorem x_Vlp {r : Int64} (hF : sF p m c cc nL s args c0 own D wl tys B0) (hs : sS D wl B0 s σ H locs) (hv : mV y bytes maxL ret n) (hl : Cond.methodLink own ix y ∈ TG) (hC : cL l y (.code y bytes maxL ret :: TG) rm D wl tys B0 (.ref b :: As) σ (r, σ)) (hrc : rm.cells = 0) (hrs : rm.slots = 0) (hR : rm.frames + 1 ≤ R.frames ∧ 8 + (maxL + 11) + rm.locals ≤ R.locals) (hn : As.length = n) (hst : st0 = As.reverse ++ .ref b :: rest) (hsz : ls.size = nL) (hW : (rest.map fun v => v.category).sum ≤ 8) (hb : sR wl σ b y.cls) (hdg : decode cc pc = .ok (.invokevirtual ix, 3)) (hf : cells ≤ R.cells ∧ slots ≤ R.slots)
    (kk : ∀ (H1 : Heap) (locs1 : List Loc), sS D wl B0 s σ H1 locs1 → W p l e R s m args below meth c H1 locs1 cells slots Q (F0 m (pc + 3) ls (.long r :: rest))) : W p l e R s m args below meth c H locs cells slots Q (F0 m pc ls st0) := x_Vl hF hs hv hl hC hrc hrs hR hn hst hsz hW hb hdg hf kk
theorem x_Sip {r : Int32} (hF : sF p m c cc nL s args c0 own D wl tys B0) (hs : sS D wl B0 s σ H locs) (hv : mS y bytes maxL ret n) (hl : Cond.methodLink own ix y ∈ TG) (hC : cI l y (.code y bytes maxL ret :: TG) rm D wl tys B0 As σ (r, σ)) (hrc : rm.cells = 0) (hrs : rm.slots = 0) (hR : rm.frames + 1 ≤ R.frames ∧ 8 + (maxL + 11) + rm.locals ≤ R.locals) (hn : As.length = n) (hst : st0 = As.reverse ++ rest) (hsz : ls.size = nL) (hW : (rest.map fun v => v.category).sum ≤ 8) (hdg : decode cc pc = .ok (.invokestatic ix, 3)) (hf : cells ≤ R.cells ∧ slots ≤ R.slots)
    (kk : ∀ (H1 : Heap) (locs1 : List Loc), sS D wl B0 s σ H1 locs1 → W p l e R s m args below meth c H1 locs1 cells slots Q (F0 m (pc + 3) ls (.int r :: rest))) : W p l e R s m args below meth c H locs cells slots Q (F0 m pc ls st0) := x_Si hF hs hv hl hC hrc hrs hR hn hst hsz hW hdg hf kk
theorem x_Slp {r : Int64} (hF : sF p m c cc nL s args c0 own D wl tys B0) (hs : sS D wl B0 s σ H locs) (hv : mS y bytes maxL ret n) (hl : Cond.methodLink own ix y ∈ TG) (hC : cL l y (.code y bytes maxL ret :: TG) rm D wl tys B0 As σ (r, σ)) (hrc : rm.cells = 0) (hrs : rm.slots = 0) (hR : rm.frames + 1 ≤ R.frames ∧ 8 + (maxL + 11) + rm.locals ≤ R.locals) (hn : As.length = n) (hst : st0 = As.reverse ++ rest) (hsz : ls.size = nL) (hW : (rest.map fun v => v.category).sum ≤ 8) (hdg : decode cc pc = .ok (.invokestatic ix, 3)) (hf : cells ≤ R.cells ∧ slots ≤ R.slots)
    (kk : ∀ (H1 : Heap) (locs1 : List Loc), sS D wl B0 s σ H1 locs1 → W p l e R s m args below meth c H1 locs1 cells slots Q (F0 m (pc + 3) ls (.long r :: rest))) : W p l e R s m args below meth c H locs cells slots Q (F0 m pc ls st0) := x_Sl hF hs hv hl hC hrc hrs hR hn hst hsz hW hdg hf kk
-- a switch whose number isn't among the places of a table that have their own row
theorem x_tabD (hexec : p.tables.exec = Jvm.exec) (hb : c.code = cc) {dflt lo hi : Int} {offs : Array Int} {len tgt : Nat} {x : Int32} (ex : List Int) (hdg : decode cc pc = .ok (.tableswitch dflt lo hi offs, len)) (hne : ∀ j ∈ ex, ¬ x.toInt = j) (hE : ∀ j : Nat, j < offs.size → ¬ (lo + j) ∈ ex → offs[j]? = some dflt) (hsz : (offs.size : Int) = hi - lo + 1) (ht : (pc : Int) + dflt = (tgt : Int))
    (k : W p l e R s m args below meth c H locs cells slots Q (F0 m tgt ls rest)) : W p l e R s m args below meth c H locs cells slots Q (F0 m pc ls (.int x :: rest)) := by
  by_cases h : x.toInt < lo ∨ hi < x.toInt
  · exact lv_tableOut hexec hb hdg h ht k
  · have h1 : ¬ x.toInt < lo := fun z => h (Or.inl z)
    have h2 : ¬ hi < x.toInt := fun z => h (Or.inr z)
    refine lv_tableIn hexec hb hdg h1 h2 (hE _ (by omega) (fun hm => ?_)) ht k
    refine hne _ hm ?_
    omega
end SC
end
section
-- fields and arrays in the two worlds
theorem fX (k : Nat) : (F_X k).1 = R_X := by unfold F_X; split <;> rfl
theorem fK (k : Nat) : (F_K k).1 = R_K := by unfold F_K; split <;> rfl
theorem fM (k : Nat) : (F_M k).1 = R_M := by unfold F_M; split <;> rfl
theorem fXs {s : State} {k : Nat} {f d : String} : ∀ x, s.fieldFound? (F_X k).1 f d = some x → s.fieldFound? R_X f d = some x := fun x h => by rw [fX] at h; exact h
theorem fKs {s : State} {k : Nat} {f d : String} : ∀ x, s.fieldFound? (F_K k).1 f d = some x → s.fieldFound? R_K f d = some x := fun x h => by rw [fK] at h; exact h
theorem fMs {s : State} {k : Nat} {f d : String} : ∀ x, s.fieldFound? (F_M k).1 f d = some x → s.fieldFound? R_M f d = some x := fun x h => by rw [fM] at h; exact h
section RW
variable {p : Program} {l : Launch} {e : Env} {R : Room} {s : State} {m : MethodId} {args : Array Value} {below : List Frame} {meth : Method} {c : Code} {H : Heap} {locs : List Loc} {cells slots : Nat} {Q : State → Prop}
variable {cc : ByteArray} {nL pc ix : Nat} {ls : Array Slot} {rest : List Value} {c0 : Cond} {D : va_G} {tys : Tys} {B0 : Nat → Prop} {σ : Mem} {a : Nat → Nat} {cA : Nat → ClassId} {i : Nat} {v x : Int32} {j : Int32}
theorem sS.to {wl : Wl} {w : va_W} {τ : Mem} {H1 : Heap} {locs1 : List Loc} (h : w = wl τ) (hP : va_P D classes w H1) (hS : va_S (sA B0 s.heap.size) s.heap H1 locs1) : sS D wl B0 s τ H1 locs1 := ⟨by rw [← h]; exact hP, hS⟩
theorem sF_D {wl : Wl} {own : String} (hF : sF p m c cc nL s args c0 own D wl tys B0) : va_D (sA B0 s.heap.size) (wl σ) := (hF.2.2.2 σ).weaken (fun _ _ _ h => Or.inl h)
theorem xg_X {V : Value} (hx : p.tables.exec = Jvm.exec) (hb : c.code = cc) (hF : sF p m c cc nL s args c0 R_X D (cwL a cA) tys B0) (hs : sS D (cwL a cA) B0 s σ H locs) (k : Nat) (hk : k < 9) (hlink : Cond.fieldLink R_X ix R_X (F_X k).2.1 (F_X k).2.2.1 ∈ TG) (hv : (cF a σ)[k]? = some V) (hdg : decode cc pc = .ok (.getfield ix, 3))
    (kk : W p l e R s m args below meth c H locs cells slots Q (F0 m (pc + 3) ls (V :: rest))) : W p l e R s m args below meth c H locs cells slots Q (F0 m pc ls (.ref (a 0) :: rest)) := by
  have hts := hF.1.2.2.2.2
  have hown := hF.1.2.2.2.1
  exact va_get (D := D) (ci := 1) (C := R_X) (T := F_X) (N := 9) hx hb hts (fun w hw => List.mem_cons_of_mem _ (u_X w hw)) hown hF.2.1 hs.1 0 rfl rfl k hk (hts _ (List.mem_cons_of_mem _ hlink)) fXs hv hdg kk
theorem xp_X (hx : p.tables.exec = Jvm.exec) (hb : c.code = cc) (hF : sF p m c cc nL s args c0 R_X D (cwL a cA) tys B0) (hs : sS D (cwL a cA) B0 s σ H locs) (k : Nat) (hk : k < 4) (hlink : Cond.fieldLink R_X ix R_X (F_X (5 + k)).2.1 (F_X (5 + k)).2.2.1 ∈ TG) (hdg : decode cc pc = .ok (.putfield ix, 3))
    (kk : ∀ (H1 : Heap) (locs1 : List Loc), sS D (cwL a cA) B0 s (wr σ 5 k v) H1 locs1 → W p l e R s m args below meth c H1 locs1 cells slots Q (F0 m (pc + 3) ls rest)) : W p l e R s m args below meth c H locs cells slots Q (F0 m pc ls (.int v :: .ref (a 0) :: rest)) := by
  have hts := hF.1.2.2.2.2
  have hown := hF.1.2.2.2.1
  have hfin : (F_X (5 + k)).2.2.2 = false := by match k, hk with | 0, _ => rfl | 1, _ => rfl | 2, _ => rfl | 3, _ => rfl
  have hd : parseFieldDescriptor (F_X (5 + k)).2.2.1 = some .int := by match k, hk with | 0, _ => decide +kernel | 1, _ => decide +kernel | 2, _ => decide +kernel | 3, _ => decide +kernel
  exact va_put (D := D) (ci := 1) (v := .int v) (ty := .int) (C := R_X) (T := F_X) (N := 9) hx hb hts (fun w hw => List.mem_cons_of_mem _ (u_X w hw)) t_X t_X_ok n_X hown hF.2.1 hs.1 (sF_D hF) hs.2 0 rfl rfl (5 + k) (by omega) (hts _ (List.mem_cons_of_mem _ hlink)) fXs hfin hd rfl rfl (by show 5 + k < 9; omega) hdg (fun H1 locs1 hP _ hS => kk H1 locs1 (sS.to (cw_set5 k hk) hP hS))
theorem xg_K {V : Value} (hx : p.tables.exec = Jvm.exec) (hb : c.code = cc) (hF : sF p m c cc nL s args c0 R_K D (cwL a cA) tys B0) (hs : sS D (cwL a cA) B0 s σ H locs) (k : Nat) (hk : k < 3) (hi : i < 13) (hlink : Cond.fieldLink R_K ix R_K (F_K k).2.1 (F_K k).2.2.1 ∈ TG) (hv : (kF σ i)[k]? = some V) (hdg : decode cc pc = .ok (.getfield ix, 3))
    (kk : W p l e R s m args below meth c H locs cells slots Q (F0 m (pc + 3) ls (V :: rest))) : W p l e R s m args below meth c H locs cells slots Q (F0 m pc ls (.ref (a (4 + i)) :: rest)) := by
  have hts := hF.1.2.2.2.2
  have hown := hF.1.2.2.2.1
  exact va_get (D := D) (ci := 0) (C := R_K) (T := F_K) (N := 3) hx hb hts (fun w hw => List.mem_cons_of_mem _ (u_K w hw)) hown hF.2.1 hs.1 (4 + i) (cw_at hi) rfl k hk (hts _ (List.mem_cons_of_mem _ hlink)) fKs hv hdg kk
theorem xg_N {V : Value} (hx : p.tables.exec = Jvm.exec) (hb : c.code = cc) (hF : sF p m c cc nL s args c0 R_X D (cwL a cA) tys B0) (hs : sS D (cwL a cA) B0 s σ H locs) (k : Nat) (hk : k < 3) (hi : i < 13) (hlink : va_Nw (.fieldLinkNest R_X ix R_K (F_K k).2.1 (F_K k).2.2.1 R_X) s) (hv : (kF σ i)[k]? = some V) (hdg : decode cc pc = .ok (.getfield ix, 3))
    (kk : W p l e R s m args below meth c H locs cells slots Q (F0 m (pc + 3) ls (V :: rest))) : W p l e R s m args below meth c H locs cells slots Q (F0 m pc ls (.ref (a (4 + i)) :: rest)) := by
  have hts := hF.1.2.2.2.2
  have hown := hF.1.2.2.2.1
  exact va_getN (D := D) (ci := 0) (C := R_K) (T := F_K) (N := 3) hx hb hts (fun w hw => List.mem_cons_of_mem _ (u_K w hw)) hown hF.2.1 hs.1 (4 + i) (cw_at hi) rfl k hk (va_Nw.use rfl hlink) fKs hv hdg kk
theorem xg_N4 (hx : p.tables.exec = Jvm.exec) (hb : c.code = cc) (hF : sF p m c cc nL s args c0 R_X D (cwL a cA) tys B0) (hs : sS D (cwL a cA) B0 s σ H locs) (hi : i < 13) (hdg : decode cc pc = .ok (.getfield 62, 3))
    (kk : W p l e R s m args below meth c H locs cells slots Q (F0 m (pc + 3) ls (.int (σ 4 i) :: rest))) : W p l e R s m args below meth c H locs cells slots Q (F0 m pc ls (.ref (a (4 + i)) :: rest)) := xg_N hx hb hF hs 2 (by decide) hi hF.2.2.1.1 rfl hdg kk
theorem xg_N3 (hx : p.tables.exec = Jvm.exec) (hb : c.code = cc) (hF : sF p m c cc nL s args c0 R_X D (cwL a cA) tys B0) (hs : sS D (cwL a cA) B0 s σ H locs) (hi : i < 13) (hdg : decode cc pc = .ok (.getfield 65, 3))
    (kk : W p l e R s m args below meth c H locs cells slots Q (F0 m (pc + 3) ls (.int (σ 3 i) :: rest))) : W p l e R s m args below meth c H locs cells slots Q (F0 m pc ls (.ref (a (4 + i)) :: rest)) := xg_N hx hb hF hs 1 (by decide) hi hF.2.2.1.2.1 rfl hdg kk
theorem xg_N2 (hx : p.tables.exec = Jvm.exec) (hb : c.code = cc) (hF : sF p m c cc nL s args c0 R_X D (cwL a cA) tys B0) (hs : sS D (cwL a cA) B0 s σ H locs) (hi : i < 13) (hdg : decode cc pc = .ok (.getfield 68, 3))
    (kk : W p l e R s m args below meth c H locs cells slots Q (F0 m (pc + 3) ls (.int (bo (σ 2 i)) :: rest))) : W p l e R s m args below meth c H locs cells slots Q (F0 m pc ls (.ref (a (4 + i)) :: rest)) := xg_N hx hb hF hs 0 (by decide) hi hF.2.2.1.2.2 rfl hdg kk
theorem xp_K2 (hx : p.tables.exec = Jvm.exec) (hb : c.code = cc) (hF : sF p m c cc nL s args c0 R_K D (cwL a cA) tys B0) (hs : sS D (cwL a cA) B0 s σ H locs) (hi : i < 13) (hlink : Cond.fieldLink R_K ix R_K (F_K 0).2.1 (F_K 0).2.2.1 ∈ TG) (hbo : bo v = v) (hdg : decode cc pc = .ok (.putfield ix, 3))
    (kk : ∀ (H1 : Heap) (locs1 : List Loc), sS D (cwL a cA) B0 s (wr σ 2 i v) H1 locs1 → W p l e R s m args below meth c H1 locs1 cells slots Q (F0 m (pc + 3) ls rest)) : W p l e R s m args below meth c H locs cells slots Q (F0 m pc ls (.int v :: .ref (a (4 + i)) :: rest)) := by
  have hts := hF.1.2.2.2.2
  have hown := hF.1.2.2.2.1
  exact va_put (D := D) (ci := 0) (v := .int v) (ty := .boolean) (C := R_K) (T := F_K) (N := 3) hx hb hts (fun w hw => List.mem_cons_of_mem _ (u_K w hw)) t_K t_K_ok n_K hown hF.2.1 hs.1 (sF_D hF) hs.2 (4 + i) (cw_at hi) rfl 0 (by decide) (hts _ (List.mem_cons_of_mem _ hlink)) fKs rfl (by decide +kernel) (bo_nar hbo) (bo_fit hbo) (Nat.le_of_ble_eq_true rfl) hdg (fun H1 locs1 hP _ hS => kk H1 locs1 (sS.to (cw_set2 hi hbo) hP hS))
theorem xp_K3 (hx : p.tables.exec = Jvm.exec) (hb : c.code = cc) (hF : sF p m c cc nL s args c0 R_K D (cwL a cA) tys B0) (hs : sS D (cwL a cA) B0 s σ H locs) (hi : i < 13) (hlink : Cond.fieldLink R_K ix R_K (F_K 1).2.1 (F_K 1).2.2.1 ∈ TG) (hdg : decode cc pc = .ok (.putfield ix, 3))
    (kk : ∀ (H1 : Heap) (locs1 : List Loc), sS D (cwL a cA) B0 s (wr σ 3 i v) H1 locs1 → W p l e R s m args below meth c H1 locs1 cells slots Q (F0 m (pc + 3) ls rest)) : W p l e R s m args below meth c H locs cells slots Q (F0 m pc ls (.int v :: .ref (a (4 + i)) :: rest)) := by
  have hts := hF.1.2.2.2.2
  have hown := hF.1.2.2.2.1
  exact va_put (D := D) (ci := 0) (v := .int v) (ty := .int) (C := R_K) (T := F_K) (N := 3) hx hb hts (fun w hw => List.mem_cons_of_mem _ (u_K w hw)) t_K t_K_ok n_K hown hF.2.1 hs.1 (sF_D hF) hs.2 (4 + i) (cw_at hi) rfl 1 (by decide) (hts _ (List.mem_cons_of_mem _ hlink)) fKs rfl (by decide +kernel) rfl rfl (Nat.le_of_ble_eq_true rfl) hdg (fun H1 locs1 hP _ hS => kk H1 locs1 (sS.to (cw_set3 hi) hP hS))
theorem xp_K4 (hx : p.tables.exec = Jvm.exec) (hb : c.code = cc) (hF : sF p m c cc nL s args c0 R_K D (cwL a cA) tys B0) (hs : sS D (cwL a cA) B0 s σ H locs) (hi : i < 13) (hlink : Cond.fieldLink R_K ix R_K (F_K 2).2.1 (F_K 2).2.2.1 ∈ TG) (hdg : decode cc pc = .ok (.putfield ix, 3))
    (kk : ∀ (H1 : Heap) (locs1 : List Loc), sS D (cwL a cA) B0 s (wr σ 4 i v) H1 locs1 → W p l e R s m args below meth c H1 locs1 cells slots Q (F0 m (pc + 3) ls rest)) : W p l e R s m args below meth c H locs cells slots Q (F0 m pc ls (.int v :: .ref (a (4 + i)) :: rest)) := by
  have hts := hF.1.2.2.2.2
  have hown := hF.1.2.2.2.1
  exact va_put (D := D) (ci := 0) (v := .int v) (ty := .int) (C := R_K) (T := F_K) (N := 3) hx hb hts (fun w hw => List.mem_cons_of_mem _ (u_K w hw)) t_K t_K_ok n_K hown hF.2.1 hs.1 (sF_D hF) hs.2 (4 + i) (cw_at hi) rfl 2 (by decide) (hts _ (List.mem_cons_of_mem _ hlink)) fKs rfl (by decide +kernel) rfl rfl (Nat.le_of_ble_eq_true rfl) hdg (fun H1 locs1 hP _ hS => kk H1 locs1 (sS.to (cw_set4 hi) hP hS))
theorem xp_N2 (hx : p.tables.exec = Jvm.exec) (hb : c.code = cc) (hF : sF p m c cc nL s args c0 R_X D (cwL a cA) tys B0) (hs : sS D (cwL a cA) B0 s σ H locs) (hi : i < 13) (hbo : bo v = v) (hdg : decode cc pc = .ok (.putfield 68, 3))
    (kk : ∀ (H1 : Heap) (locs1 : List Loc), sS D (cwL a cA) B0 s (wr σ 2 i v) H1 locs1 → W p l e R s m args below meth c H1 locs1 cells slots Q (F0 m (pc + 3) ls rest)) : W p l e R s m args below meth c H locs cells slots Q (F0 m pc ls (.int v :: .ref (a (4 + i)) :: rest)) := by
  have hts := hF.1.2.2.2.2
  have hown := hF.1.2.2.2.1
  exact va_putN (D := D) (ci := 0) (v := .int v) (ty := .boolean) (C := R_K) (T := F_K) (N := 3) hx hb hts (fun w hw => List.mem_cons_of_mem _ (u_K w hw)) t_K t_K_ok n_K hown hF.2.1 hs.1 (sF_D hF) hs.2 (4 + i) (cw_at hi) rfl 0 (by decide) (va_Nw.use rfl hF.2.2.1.2.2) fKs rfl (by decide +kernel) (bo_nar hbo) (bo_fit hbo) (Nat.le_of_ble_eq_true rfl) hdg (fun H1 locs1 hP _ hS => kk H1 locs1 (sS.to (cw_set2 hi hbo) hP hS))
theorem xp_N3 (hx : p.tables.exec = Jvm.exec) (hb : c.code = cc) (hF : sF p m c cc nL s args c0 R_X D (cwL a cA) tys B0) (hs : sS D (cwL a cA) B0 s σ H locs) (hi : i < 13) (hdg : decode cc pc = .ok (.putfield 65, 3))
    (kk : ∀ (H1 : Heap) (locs1 : List Loc), sS D (cwL a cA) B0 s (wr σ 3 i v) H1 locs1 → W p l e R s m args below meth c H1 locs1 cells slots Q (F0 m (pc + 3) ls rest)) : W p l e R s m args below meth c H locs cells slots Q (F0 m pc ls (.int v :: .ref (a (4 + i)) :: rest)) := by
  have hts := hF.1.2.2.2.2
  have hown := hF.1.2.2.2.1
  exact va_putN (D := D) (ci := 0) (v := .int v) (ty := .int) (C := R_K) (T := F_K) (N := 3) hx hb hts (fun w hw => List.mem_cons_of_mem _ (u_K w hw)) t_K t_K_ok n_K hown hF.2.1 hs.1 (sF_D hF) hs.2 (4 + i) (cw_at hi) rfl 1 (by decide) (va_Nw.use rfl hF.2.2.1.2.1) fKs rfl (by decide +kernel) rfl rfl (Nat.le_of_ble_eq_true rfl) hdg (fun H1 locs1 hP _ hS => kk H1 locs1 (sS.to (cw_set3 hi) hP hS))
theorem xp_N4 (hx : p.tables.exec = Jvm.exec) (hb : c.code = cc) (hF : sF p m c cc nL s args c0 R_X D (cwL a cA) tys B0) (hs : sS D (cwL a cA) B0 s σ H locs) (hi : i < 13) (hdg : decode cc pc = .ok (.putfield 62, 3))
    (kk : ∀ (H1 : Heap) (locs1 : List Loc), sS D (cwL a cA) B0 s (wr σ 4 i v) H1 locs1 → W p l e R s m args below meth c H1 locs1 cells slots Q (F0 m (pc + 3) ls rest)) : W p l e R s m args below meth c H locs cells slots Q (F0 m pc ls (.int v :: .ref (a (4 + i)) :: rest)) := by
  have hts := hF.1.2.2.2.2
  have hown := hF.1.2.2.2.1
  exact va_putN (D := D) (ci := 0) (v := .int v) (ty := .int) (C := R_K) (T := F_K) (N := 3) hx hb hts (fun w hw => List.mem_cons_of_mem _ (u_K w hw)) t_K t_K_ok n_K hown hF.2.1 hs.1 (sF_D hF) hs.2 (4 + i) (cw_at hi) rfl 2 (by decide) (va_Nw.use rfl hF.2.2.1.1) fKs rfl (by decide +kernel) rfl rfl (Nat.le_of_ble_eq_true rfl) hdg (fun H1 locs1 hP _ hS => kk H1 locs1 (sS.to (cw_set4 hi) hP hS))
theorem xw_ld {own : String} (hx : p.tables.exec = Jvm.exec) (hb : c.code = cc) (hF : sF p m c cc nL s args c0 own D (cwL a cA) (cty cA) B0) (hs : sS D (cwL a cA) B0 s σ H locs) (hin : vp_in j 256) (hdg : decode cc pc = .ok (.iaload, 1))
    (kk : W p l e R s m args below meth c H locs cells slots Q (F0 m (pc + 1) ls (.int (σ 0 j.toNatClampNeg) :: rest))) : W p l e R s m args below meth c H locs cells slots Q (F0 m pc ls (.int j :: .ref (a 1) :: rest)) :=
  va_iald (f := σ 0) hx hb hF.2.1 hs.1 1 0 rfl rfl hin hdg kk
theorem xw_st {own : String} (hx : p.tables.exec = Jvm.exec) (hb : c.code = cc) (hF : sF p m c cc nL s args c0 own D (cwL a cA) (cty cA) B0) (hs : sS D (cwL a cA) B0 s σ H locs) (hin : vp_in j 256) (hdg : decode cc pc = .ok (.iastore, 1))
    (kk : ∀ (H1 : Heap) (locs1 : List Loc), sS D (cwL a cA) B0 s (wr σ 0 j.toNatClampNeg x) H1 locs1 → W p l e R s m args below meth c H1 locs1 cells slots Q (F0 m (pc + 1) ls rest)) : W p l e R s m args below meth c H locs cells slots Q (F0 m pc ls (.int x :: .int j :: .ref (a 1) :: rest)) :=
  va_iast (f := σ 0) hx hb hF.2.1 hs.1 (sF_D hF) hs.2 1 0 rfl rfl hin hdg (fun H1 locs1 hP _ hS => kk H1 locs1 (sS.to cw_set0 hP hS))
theorem xt_ld {own : String} (hx : p.tables.exec = Jvm.exec) (hb : c.code = cc) (hF : sF p m c cc nL s args c0 own D (cwL a cA) (cty cA) B0) (hs : sS D (cwL a cA) B0 s σ H locs) (hin : vp_in j 128) (hdg : decode cc pc = .ok (.baload, 1))
    (kk : W p l e R s m args below meth c H locs cells slots Q (F0 m (pc + 1) ls (.int (bo (σ 1 j.toNatClampNeg)) :: rest))) : W p l e R s m args below meth c H locs cells slots Q (F0 m pc ls (.int j :: .ref (a 2) :: rest)) :=
  va_zald (f := fun i => bo (σ 1 i)) hx hb hF.2.1 hs.1 2 1 rfl rfl hin hdg kk
theorem xt_st {own : String} (hx : p.tables.exec = Jvm.exec) (hb : c.code = cc) (hF : sF p m c cc nL s args c0 own D (cwL a cA) (cty cA) B0) (hs : sS D (cwL a cA) B0 s σ H locs) (hin : vp_in j 128) (hdg : decode cc pc = .ok (.bastore, 1))
    (kk : ∀ (H1 : Heap) (locs1 : List Loc), sS D (cwL a cA) B0 s (wr σ 1 j.toNatClampNeg x) H1 locs1 → W p l e R s m args below meth c H1 locs1 cells slots Q (F0 m (pc + 1) ls rest)) : W p l e R s m args below meth c H locs cells slots Q (F0 m pc ls (.int x :: .int j :: .ref (a 2) :: rest)) :=
  va_zast (f := fun i => bo (σ 1 i)) hx hb hF.2.1 hs.1 (sF_D hF) hs.2 2 1 rfl rfl hin hdg (fun H1 locs1 hP _ hS => kk H1 locs1 (sS.to cw_set1 hP hS))
theorem xr_ld {own : String} (hx : p.tables.exec = Jvm.exec) (hb : c.code = cc) (hF : sF p m c cc nL s args c0 own D (cwL a cA) (cty cA) B0) (hs : sS D (cwL a cA) B0 s σ H locs) (hin : vp_in j 12) (hdg : decode cc pc = .ok (.aaload, 1))
    (kk : W p l e R s m args below meth c H locs cells slots Q (F0 m (pc + 1) ls (.ref (a (4 + j.toNatClampNeg)) :: rest))) : W p l e R s m args below meth c H locs cells slots Q (F0 m pc ls (.int j :: .ref (a 3) :: rest)) :=
  va_aldq (f := fun i => some (a (4 + i))) (C := R_K) hx hb hF.2.1 hs.1 3 2 rfl rfl hin hdg kk
-- the reference
theorem xg_M {V : Value} (hx : p.tables.exec = Jvm.exec) (hb : c.code = cc) (hF : sF p m c cc nL s args c0 R_M D (rwL a cA) tys B0) (hs : sS D (rwL a cA) B0 s σ H locs) (k : Nat) (hk : k < 12) (hlink : Cond.fieldLink R_M ix R_M (F_M k).2.1 (F_M k).2.2.1 ∈ TG) (hv : (rF a σ)[k]? = some V) (hdg : decode cc pc = .ok (.getfield ix, 3))
    (kk : W p l e R s m args below meth c H locs cells slots Q (F0 m (pc + 3) ls (V :: rest))) : W p l e R s m args below meth c H locs cells slots Q (F0 m pc ls (.ref (a 0) :: rest)) := by
  have hts := hF.1.2.2.2.2
  have hown := hF.1.2.2.2.1
  exact va_get (D := D) (ci := 2) (C := R_M) (T := F_M) (N := 12) hx hb hts (fun w hw => List.mem_cons_of_mem _ (u_M w hw)) hown hF.2.1 hs.1 0 rfl rfl k hk (hts _ (List.mem_cons_of_mem _ hlink)) fMs hv hdg kk
theorem xp_M5 (hx : p.tables.exec = Jvm.exec) (hb : c.code = cc) (hF : sF p m c cc nL s args c0 R_M D (rwL a cA) tys B0) (hs : sS D (rwL a cA) B0 s σ H locs) (k : Nat) (hk : k < 4) (hlink : Cond.fieldLink R_M ix R_M (F_M (5 + k)).2.1 (F_M (5 + k)).2.2.1 ∈ TG) (hdg : decode cc pc = .ok (.putfield ix, 3))
    (kk : ∀ (H1 : Heap) (locs1 : List Loc), sS D (rwL a cA) B0 s (wr σ 5 k v) H1 locs1 → W p l e R s m args below meth c H1 locs1 cells slots Q (F0 m (pc + 3) ls rest)) : W p l e R s m args below meth c H locs cells slots Q (F0 m pc ls (.int v :: .ref (a 0) :: rest)) := by
  have hts := hF.1.2.2.2.2
  have hown := hF.1.2.2.2.1
  have hfin : (F_M (5 + k)).2.2.2 = false := by match k, hk with | 0, _ => rfl | 1, _ => rfl | 2, _ => rfl | 3, _ => rfl
  have hd : parseFieldDescriptor (F_M (5 + k)).2.2.1 = some .int := by match k, hk with | 0, _ => decide +kernel | 1, _ => decide +kernel | 2, _ => decide +kernel | 3, _ => decide +kernel
  exact va_put (D := D) (ci := 2) (v := .int v) (ty := .int) (C := R_M) (T := F_M) (N := 12) hx hb hts (fun w hw => List.mem_cons_of_mem _ (u_M w hw)) t_M t_M_ok n_M hown hF.2.1 hs.1 (sF_D hF) hs.2 0 rfl rfl (5 + k) (by omega) (hts _ (List.mem_cons_of_mem _ hlink)) fMs hfin hd rfl rfl (by show 5 + k < 12; omega) hdg (fun H1 locs1 hP _ hS => kk H1 locs1 (sS.to (rw_set5 k hk) hP hS))
theorem xp_M6 (hx : p.tables.exec = Jvm.exec) (hb : c.code = cc) (hF : sF p m c cc nL s args c0 R_M D (rwL a cA) tys B0) (hs : sS D (rwL a cA) B0 s σ H locs) (k : Nat) (hk : k < 2) (hlink : Cond.fieldLink R_M ix R_M (F_M (9 + k)).2.1 (F_M (9 + k)).2.2.1 ∈ TG) (hdg : decode cc pc = .ok (.putfield ix, 3))
    (kk : ∀ (H1 : Heap) (locs1 : List Loc), sS D (rwL a cA) B0 s (wr σ 6 k v) H1 locs1 → W p l e R s m args below meth c H1 locs1 cells slots Q (F0 m (pc + 3) ls rest)) : W p l e R s m args below meth c H locs cells slots Q (F0 m pc ls (.int v :: .ref (a 0) :: rest)) := by
  have hts := hF.1.2.2.2.2
  have hown := hF.1.2.2.2.1
  have hfin : (F_M (9 + k)).2.2.2 = false := by match k, hk with | 0, _ => rfl | 1, _ => rfl
  have hd : parseFieldDescriptor (F_M (9 + k)).2.2.1 = some .int := by match k, hk with | 0, _ => decide +kernel | 1, _ => decide +kernel
  exact va_put (D := D) (ci := 2) (v := .int v) (ty := .int) (C := R_M) (T := F_M) (N := 12) hx hb hts (fun w hw => List.mem_cons_of_mem _ (u_M w hw)) t_M t_M_ok n_M hown hF.2.1 hs.1 (sF_D hF) hs.2 0 rfl rfl (9 + k) (by omega) (hts _ (List.mem_cons_of_mem _ hlink)) fMs hfin hd rfl rfl (by show 9 + k < 12; omega) hdg (fun H1 locs1 hP _ hS => kk H1 locs1 (sS.to (rw_set6 k (by omega) (fun z => by omega)) hP hS))
theorem xp_M62 (hx : p.tables.exec = Jvm.exec) (hb : c.code = cc) (hF : sF p m c cc nL s args c0 R_M D (rwL a cA) tys B0) (hs : sS D (rwL a cA) B0 s σ H locs) (hlink : Cond.fieldLink R_M ix R_M (F_M 11).2.1 (F_M 11).2.2.1 ∈ TG) (hbo : bo v = v) (hdg : decode cc pc = .ok (.putfield ix, 3))
    (kk : ∀ (H1 : Heap) (locs1 : List Loc), sS D (rwL a cA) B0 s (wr σ 6 2 v) H1 locs1 → W p l e R s m args below meth c H1 locs1 cells slots Q (F0 m (pc + 3) ls rest)) : W p l e R s m args below meth c H locs cells slots Q (F0 m pc ls (.int v :: .ref (a 0) :: rest)) := by
  have hts := hF.1.2.2.2.2
  have hown := hF.1.2.2.2.1
  exact va_put (D := D) (ci := 2) (v := .int v) (ty := .boolean) (C := R_M) (T := F_M) (N := 12) hx hb hts (fun w hw => List.mem_cons_of_mem _ (u_M w hw)) t_M t_M_ok n_M hown hF.2.1 hs.1 (sF_D hF) hs.2 0 rfl rfl 11 (by decide) (hts _ (List.mem_cons_of_mem _ hlink)) fMs rfl (by decide +kernel) (bo_nar hbo) (bo_fit hbo) (Nat.le_of_ble_eq_true rfl) hdg (fun H1 locs1 hP _ hS => kk H1 locs1 (sS.to (rw_set6 2 (by decide) (fun _ => hbo)) hP hS))
theorem x4_ld {own : String} (hx : p.tables.exec = Jvm.exec) (hb : c.code = cc) (hF : sF p m c cc nL s args c0 own D (rwL a cA) (rty cA) B0) (hs : sS D (rwL a cA) B0 s σ H locs) (hin : vp_in j 12) (hdg : decode cc pc = .ok (.iaload, 1))
    (kk : W p l e R s m args below meth c H locs cells slots Q (F0 m (pc + 1) ls (.int (σ 4 j.toNatClampNeg) :: rest))) : W p l e R s m args below meth c H locs cells slots Q (F0 m pc ls (.int j :: .ref (a 1) :: rest)) :=
  va_iald (f := σ 4) hx hb hF.2.1 hs.1 1 0 rfl rfl hin hdg kk
theorem x3_ld {own : String} (hx : p.tables.exec = Jvm.exec) (hb : c.code = cc) (hF : sF p m c cc nL s args c0 own D (rwL a cA) (rty cA) B0) (hs : sS D (rwL a cA) B0 s σ H locs) (hin : vp_in j 12) (hdg : decode cc pc = .ok (.iaload, 1))
    (kk : W p l e R s m args below meth c H locs cells slots Q (F0 m (pc + 1) ls (.int (σ 3 j.toNatClampNeg) :: rest))) : W p l e R s m args below meth c H locs cells slots Q (F0 m pc ls (.int j :: .ref (a 2) :: rest)) :=
  va_iald (f := σ 3) hx hb hF.2.1 hs.1 2 1 rfl rfl hin hdg kk
theorem x2_ld {own : String} (hx : p.tables.exec = Jvm.exec) (hb : c.code = cc) (hF : sF p m c cc nL s args c0 own D (rwL a cA) (rty cA) B0) (hs : sS D (rwL a cA) B0 s σ H locs) (hin : vp_in j 12) (hdg : decode cc pc = .ok (.baload, 1))
    (kk : W p l e R s m args below meth c H locs cells slots Q (F0 m (pc + 1) ls (.int (bo (σ 2 j.toNatClampNeg)) :: rest))) : W p l e R s m args below meth c H locs cells slots Q (F0 m pc ls (.int j :: .ref (a 3) :: rest)) :=
  va_zald (f := fun i => bo (σ 2 i)) hx hb hF.2.1 hs.1 3 2 rfl rfl hin hdg kk
theorem x0_ld {own : String} (hx : p.tables.exec = Jvm.exec) (hb : c.code = cc) (hF : sF p m c cc nL s args c0 own D (rwL a cA) (rty cA) B0) (hs : sS D (rwL a cA) B0 s σ H locs) (hin : vp_in j 256) (hdg : decode cc pc = .ok (.iaload, 1))
    (kk : W p l e R s m args below meth c H locs cells slots Q (F0 m (pc + 1) ls (.int (σ 0 j.toNatClampNeg) :: rest))) : W p l e R s m args below meth c H locs cells slots Q (F0 m pc ls (.int j :: .ref (a 4) :: rest)) :=
  va_iald (f := σ 0) hx hb hF.2.1 hs.1 4 3 rfl rfl hin hdg kk
theorem x1_ld {own : String} (hx : p.tables.exec = Jvm.exec) (hb : c.code = cc) (hF : sF p m c cc nL s args c0 own D (rwL a cA) (rty cA) B0) (hs : sS D (rwL a cA) B0 s σ H locs) (hin : vp_in j 128) (hdg : decode cc pc = .ok (.baload, 1))
    (kk : W p l e R s m args below meth c H locs cells slots Q (F0 m (pc + 1) ls (.int (bo (σ 1 j.toNatClampNeg)) :: rest))) : W p l e R s m args below meth c H locs cells slots Q (F0 m pc ls (.int j :: .ref (a 5) :: rest)) :=
  va_zald (f := fun i => bo (σ 1 i)) hx hb hF.2.1 hs.1 5 4 rfl rfl hin hdg kk
theorem x4_st {own : String} (hx : p.tables.exec = Jvm.exec) (hb : c.code = cc) (hF : sF p m c cc nL s args c0 own D (rwL a cA) (rty cA) B0) (hs : sS D (rwL a cA) B0 s σ H locs) (hin : vp_in j 12) (hdg : decode cc pc = .ok (.iastore, 1))
    (kk : ∀ (H1 : Heap) (locs1 : List Loc), sS D (rwL a cA) B0 s (wr σ 4 j.toNatClampNeg x) H1 locs1 → W p l e R s m args below meth c H1 locs1 cells slots Q (F0 m (pc + 1) ls rest)) : W p l e R s m args below meth c H locs cells slots Q (F0 m pc ls (.int x :: .int j :: .ref (a 1) :: rest)) :=
  va_iast (f := σ 4) hx hb hF.2.1 hs.1 (sF_D hF) hs.2 1 0 rfl rfl hin hdg (fun H1 locs1 hP _ hS => kk H1 locs1 (sS.to rw_set4 hP hS))
theorem x3_st {own : String} (hx : p.tables.exec = Jvm.exec) (hb : c.code = cc) (hF : sF p m c cc nL s args c0 own D (rwL a cA) (rty cA) B0) (hs : sS D (rwL a cA) B0 s σ H locs) (hin : vp_in j 12) (hdg : decode cc pc = .ok (.iastore, 1))
    (kk : ∀ (H1 : Heap) (locs1 : List Loc), sS D (rwL a cA) B0 s (wr σ 3 j.toNatClampNeg x) H1 locs1 → W p l e R s m args below meth c H1 locs1 cells slots Q (F0 m (pc + 1) ls rest)) : W p l e R s m args below meth c H locs cells slots Q (F0 m pc ls (.int x :: .int j :: .ref (a 2) :: rest)) :=
  va_iast (f := σ 3) hx hb hF.2.1 hs.1 (sF_D hF) hs.2 2 1 rfl rfl hin hdg (fun H1 locs1 hP _ hS => kk H1 locs1 (sS.to rw_set3 hP hS))
theorem x2_st {own : String} (hx : p.tables.exec = Jvm.exec) (hb : c.code = cc) (hF : sF p m c cc nL s args c0 own D (rwL a cA) (rty cA) B0) (hs : sS D (rwL a cA) B0 s σ H locs) (hin : vp_in j 12) (hdg : decode cc pc = .ok (.bastore, 1))
    (kk : ∀ (H1 : Heap) (locs1 : List Loc), sS D (rwL a cA) B0 s (wr σ 2 j.toNatClampNeg x) H1 locs1 → W p l e R s m args below meth c H1 locs1 cells slots Q (F0 m (pc + 1) ls rest)) : W p l e R s m args below meth c H locs cells slots Q (F0 m pc ls (.int x :: .int j :: .ref (a 3) :: rest)) :=
  va_zast (f := fun i => bo (σ 2 i)) hx hb hF.2.1 hs.1 (sF_D hF) hs.2 3 2 rfl rfl hin hdg (fun H1 locs1 hP _ hS => kk H1 locs1 (sS.to rw_set2 hP hS))
theorem x0_st {own : String} (hx : p.tables.exec = Jvm.exec) (hb : c.code = cc) (hF : sF p m c cc nL s args c0 own D (rwL a cA) (rty cA) B0) (hs : sS D (rwL a cA) B0 s σ H locs) (hin : vp_in j 256) (hdg : decode cc pc = .ok (.iastore, 1))
    (kk : ∀ (H1 : Heap) (locs1 : List Loc), sS D (rwL a cA) B0 s (wr σ 0 j.toNatClampNeg x) H1 locs1 → W p l e R s m args below meth c H1 locs1 cells slots Q (F0 m (pc + 1) ls rest)) : W p l e R s m args below meth c H locs cells slots Q (F0 m pc ls (.int x :: .int j :: .ref (a 4) :: rest)) :=
  va_iast (f := σ 0) hx hb hF.2.1 hs.1 (sF_D hF) hs.2 4 3 rfl rfl hin hdg (fun H1 locs1 hP _ hS => kk H1 locs1 (sS.to rw_set0 hP hS))
theorem x1_st {own : String} (hx : p.tables.exec = Jvm.exec) (hb : c.code = cc) (hF : sF p m c cc nL s args c0 own D (rwL a cA) (rty cA) B0) (hs : sS D (rwL a cA) B0 s σ H locs) (hin : vp_in j 128) (hdg : decode cc pc = .ok (.bastore, 1))
    (kk : ∀ (H1 : Heap) (locs1 : List Loc), sS D (rwL a cA) B0 s (wr σ 1 j.toNatClampNeg x) H1 locs1 → W p l e R s m args below meth c H1 locs1 cells slots Q (F0 m (pc + 1) ls rest)) : W p l e R s m args below meth c H locs cells slots Q (F0 m pc ls (.int x :: .int j :: .ref (a 5) :: rest)) :=
  va_zast (f := fun i => bo (σ 1 i)) hx hb hF.2.1 hs.1 (sF_D hF) hs.2 5 4 rfl rfl hin hdg (fun H1 locs1 hP _ hS => kk H1 locs1 (sS.to rw_set1 hP hS))
-- long constants of the pool
theorem x_ldc2 {own : String} {wl : Wl} {z : Int64} (hx : p.tables.exec = Jvm.exec) (hb : c.code = cc) (hF : sF p m c cc nL s args c0 own D wl tys B0) (hk : Cond.constantLong own ix z ∈ TG) (hdg : decode cc pc = .ok (.ldc2_w ix, 3))
    (kk : W p l e R s m args below meth c H locs cells slots Q (F0 m (pc + 3) ls (.long z :: rest))) : W p l e R s m args below meth c H locs cells slots Q (F0 m pc ls rest) :=
  lv_ldc2 hx hb hF.1.2.2.2.1 (hF.1.2.2.2.2 _ (List.mem_cons_of_mem _ hk)) hdg kk
end RW
theorem in13 {r : Int32} (h : vp_in r 12) : r.toNatClampNeg < 13 := Nat.lt_succ_of_lt (Nat.not_le.mp fun q => h (Or.inr q))
theorem in_mono {r : Int32} {n k : Nat} (hk : n ≤ k) (h : vp_in r n) : vp_in r k := fun q => h (q.elim Or.inl (fun z => Or.inr (Nat.le_trans hk z)))
end
section
theorem v_K_becomeNumber : mV y_K_becomeNumber c_K_becomeNumber 2 (none) 1 := ⟨k_code_K_becomeNumber, k_ini_K, k_im_K_becomeNumber, k_sel_K_becomeNumber, by decide, by decide, by decide +kernel⟩
theorem v_K_becomeRoot : mV y_K_becomeRoot c_K_becomeRoot 2 (none) 1 := ⟨k_code_K_becomeRoot, k_ini_K, k_im_K_becomeRoot, k_sel_K_becomeRoot, by decide, by decide, by decide +kernel⟩
theorem v_K_bound : mV y_K_bound c_K_bound 8 (none) 2 := ⟨k_code_K_bound, k_ini_K, k_im_K_bound, k_sel_K_bound, by decide, by decide, by decide +kernel⟩
theorem v_K_copy : mV y_K_copy c_K_copy 2 (none) 1 := ⟨k_code_K_copy, k_ini_K, k_im_K_copy, k_sel_K_copy, by decide, by decide, by decide +kernel⟩
theorem v_K_isSealed : mV y_K_isSealed c_K_isSealed 1 (some FieldType.boolean) 0 := ⟨k_code_K_isSealed, k_ini_K, k_im_K_isSealed, k_sel_K_isSealed, by decide, by decide, by decide +kernel⟩
theorem v_K_keepPermissions : mV y_K_keepPermissions c_K_keepPermissions 2 (none) 1 := ⟨k_code_K_keepPermissions, k_ini_K, k_im_K_keepPermissions, k_sel_K_keepPermissions, by decide, by decide, by decide +kernel⟩
theorem v_K_lowerBound : mV y_K_lowerBound c_K_lowerBound 7 (some FieldType.long) 0 := ⟨k_code_K_lowerBound, k_ini_K, k_im_K_lowerBound, k_sel_K_lowerBound, by decide, by decide, by decide +kernel⟩
theorem v_K_move : mV y_K_move c_K_move 6 (none) 1 := ⟨k_code_K_move, k_ini_K, k_im_K_move, k_sel_K_move, by decide, by decide, by decide +kernel⟩
theorem v_K_permissions : mV y_K_permissions c_K_permissions 1 (some FieldType.int) 0 := ⟨k_code_K_permissions, k_ini_K, k_im_K_permissions, k_sel_K_permissions, by decide, by decide, by decide +kernel⟩
theorem v_K_permits : mV y_K_permits c_K_permits 2 (some FieldType.boolean) 1 := ⟨k_code_K_permits, k_ini_K, k_im_K_permits, k_sel_K_permits, by decide, by decide, by decide +kernel⟩
theorem v_K_setType : mV y_K_setType c_K_setType 2 (none) 1 := ⟨k_code_K_setType, k_ini_K, k_im_K_setType, k_sel_K_setType, by decide, by decide, by decide +kernel⟩
theorem v_K_type : mV y_K_type c_K_type 1 (some FieldType.int) 0 := ⟨k_code_K_type, k_ini_K, k_im_K_type, k_sel_K_type, by decide, by decide, by decide +kernel⟩
theorem v_K_unitsUp : mS y_K_unitsUp c_K_unitsUp 3 (some FieldType.long) 2 := ⟨k_code_K_unitsUp, k_ini_K, k_st_K_unitsUp, by decide, by decide, by decide +kernel⟩
theorem v_K_upperBound : mV y_K_upperBound c_K_upperBound 6 (some FieldType.long) 0 := ⟨k_code_K_upperBound, k_ini_K, k_im_K_upperBound, k_sel_K_upperBound, by decide, by decide, by decide +kernel⟩
theorem v_M_access : mV y_M_access c_M_access 7 (none) 5 := ⟨k_code_M_access, k_ini_M, k_im_M_access, k_sel_M_access, by decide, by decide, by decide +kernel⟩
theorem v_M_base : mV y_M_base c_M_base 2 (some FieldType.long) 1 := ⟨k_code_M_base, k_ini_M, k_im_M_base, k_sel_M_base, by decide, by decide, by decide +kernel⟩
theorem v_M_baseOf : mS y_M_baseOf c_M_baseOf 6 (some FieldType.long) 2 := ⟨k_code_M_baseOf, k_ini_M, k_st_M_baseOf, by decide, by decide, by decide +kernel⟩
theorem v_M_bounded : mS y_M_bounded c_M_bounded 10 (some FieldType.int) 3 := ⟨k_code_M_bounded, k_ini_M, k_st_M_bounded, by decide, by decide, by decide +kernel⟩
theorem v_M_build : mV y_M_build c_M_build 10 (none) 2 := ⟨k_code_M_build, k_ini_M, k_im_M_build, k_sel_M_build, by decide, by decide, by decide +kernel⟩
theorem v_M_cause : mV y_M_cause c_M_cause 1 (some FieldType.int) 0 := ⟨k_code_M_cause, k_ini_M, k_im_M_cause, k_sel_M_cause, by decide, by decide, by decide +kernel⟩
theorem v_M_check : mV y_M_check c_M_check 7 (some FieldType.int) 4 := ⟨k_code_M_check, k_ini_M, k_im_M_check, k_sel_M_check, by decide, by decide, by decide +kernel⟩
theorem v_M_first : mV y_M_first c_M_first 3 (none) 2 := ⟨k_code_M_first, k_ini_M, k_im_M_first, k_sel_M_first, by decide, by decide, by decide +kernel⟩
theorem v_M_give : mV y_M_give c_M_give 3 (some FieldType.boolean) 2 := ⟨k_code_M_give, k_ini_M, k_im_M_give, k_sel_M_give, by decide, by decide, by decide +kernel⟩
theorem v_M_go : mV y_M_go c_M_go 2 (none) 1 := ⟨k_code_M_go, k_ini_M, k_im_M_go, k_sel_M_go, by decide, by decide, by decide +kernel⟩
theorem v_M_has : mV y_M_has c_M_has 3 (some FieldType.boolean) 2 := ⟨k_code_M_has, k_ini_M, k_im_M_has, k_sel_M_has, by decide, by decide, by decide +kernel⟩
theorem v_M_isRegister : mS y_M_isRegister c_M_isRegister 1 (some FieldType.boolean) 1 := ⟨k_code_M_isRegister, k_ini_M, k_st_M_isRegister, by decide, by decide, by decide +kernel⟩
theorem v_M_link : mV y_M_link c_M_link 1 (none) 0 := ⟨k_code_M_link, k_ini_M, k_im_M_link, k_sel_M_link, by decide, by decide, by decide +kernel⟩
theorem v_M_move : mV y_M_move c_M_move 6 (none) 1 := ⟨k_code_M_move, k_ini_M, k_im_M_move, k_sel_M_move, by decide, by decide, by decide +kernel⟩
theorem v_M_number : mV y_M_number c_M_number 2 (none) 1 := ⟨k_code_M_number, k_ini_M, k_im_M_number, k_sel_M_number, by decide, by decide, by decide +kernel⟩
theorem v_M_of : mS y_M_of c_M_of 2 (some FieldType.int) 2 := ⟨k_code_M_of, k_ini_M, k_st_M_of, by decide, by decide, by decide +kernel⟩
theorem v_M_peek : mV y_M_peek c_M_peek 2 (some FieldType.int) 1 := ⟨k_code_M_peek, k_ini_M, k_im_M_peek, k_sel_M_peek, by decide, by decide, by decide +kernel⟩
theorem v_M_poke : mV y_M_poke c_M_poke 3 (some FieldType.boolean) 2 := ⟨k_code_M_poke, k_ini_M, k_im_M_poke, k_sel_M_poke, by decide, by decide, by decide +kernel⟩
theorem v_M_put : mV y_M_put c_M_put 2 (none) 1 := ⟨k_code_M_put, k_ini_M, k_im_M_put, k_sel_M_put, by decide, by decide, by decide +kernel⟩
theorem v_M_reckoned : mS y_M_reckoned c_M_reckoned 4 (some FieldType.int) 4 := ⟨k_code_M_reckoned, k_ini_M, k_st_M_reckoned, by decide, by decide, by decide +kernel⟩
theorem v_M_register : mV y_M_register c_M_register 3 (some FieldType.int) 2 := ⟨k_code_M_register, k_ini_M, k_im_M_register, k_sel_M_register, by decide, by decide, by decide +kernel⟩
theorem v_M_rest : mS y_M_rest c_M_rest 6 (some FieldType.long) 2 := ⟨k_code_M_rest, k_ini_M, k_st_M_rest, by decide, by decide, by decide +kernel⟩
theorem v_M_rule : mV y_M_rule c_M_rule 8 (none) 4 := ⟨k_code_M_rule, k_ini_M, k_im_M_rule, k_sel_M_rule, by decide, by decide, by decide +kernel⟩
theorem v_M_run : mV y_M_run c_M_run 3 (some FieldType.int) 1 := ⟨k_code_M_run, k_ini_M, k_im_M_run, k_sel_M_run, by decide, by decide, by decide +kernel⟩
theorem v_M_sealing : mV y_M_sealing c_M_sealing 8 (some FieldType.int) 4 := ⟨k_code_M_sealing, k_ini_M, k_im_M_sealing, k_sel_M_sealing, by decide, by decide, by decide +kernel⟩
theorem v_M_shape : mV y_M_shape c_M_shape 12 (none) 5 := ⟨k_code_M_shape, k_ini_M, k_im_M_shape, k_sel_M_shape, by decide, by decide, by decide +kernel⟩
theorem v_M_state : mV y_M_state c_M_state 1 (some FieldType.int) 0 := ⟨k_code_M_state, k_ini_M, k_im_M_state, k_sel_M_state, by decide, by decide, by decide +kernel⟩
theorem v_M_step : mV y_M_step c_M_step 9 (none) 0 := ⟨k_code_M_step, k_ini_M, k_im_M_step, k_sel_M_step, by decide, by decide, by decide +kernel⟩
theorem v_M_steps : mV y_M_steps c_M_steps 1 (some FieldType.int) 0 := ⟨k_code_M_steps, k_ini_M, k_im_M_steps, k_sel_M_steps, by decide, by decide, by decide +kernel⟩
theorem v_M_tagged : mV y_M_tagged c_M_tagged 2 (some FieldType.boolean) 1 := ⟨k_code_M_tagged, k_ini_M, k_im_M_tagged, k_sel_M_tagged, by decide, by decide, by decide +kernel⟩
theorem v_M_take : mV y_M_take c_M_take 2 (none) 1 := ⟨k_code_M_take, k_ini_M, k_im_M_take, k_sel_M_take, by decide, by decide, by decide +kernel⟩
theorem v_M_told : mV y_M_told c_M_told 5 (some FieldType.int) 2 := ⟨k_code_M_told, k_ini_M, k_im_M_told, k_sel_M_told, by decide, by decide, by decide +kernel⟩
theorem v_M_top : mV y_M_top c_M_top 2 (some FieldType.long) 1 := ⟨k_code_M_top, k_ini_M, k_im_M_top, k_sel_M_top, by decide, by decide, by decide +kernel⟩
theorem v_M_topOf : mS y_M_topOf c_M_topOf 6 (some FieldType.long) 2 := ⟨k_code_M_topOf, k_ini_M, k_st_M_topOf, by decide, by decide, by decide +kernel⟩
theorem v_M_trap : mV y_M_trap c_M_trap 2 (none) 1 := ⟨k_code_M_trap, k_ini_M, k_im_M_trap, k_sel_M_trap, by decide, by decide, by decide +kernel⟩
theorem v_M_trapOf : mV y_M_trapOf c_M_trapOf 7 (some FieldType.int) 4 := ⟨k_code_M_trapOf, k_ini_M, k_im_M_trapOf, k_sel_M_trapOf, by decide, by decide, by decide +kernel⟩
theorem v_M_traps : mV y_M_traps c_M_traps 1 (some FieldType.int) 0 := ⟨k_code_M_traps, k_ini_M, k_im_M_traps, k_sel_M_traps, by decide, by decide, by decide +kernel⟩
theorem v_M_turn : mV y_M_turn c_M_turn 8 (none) 5 := ⟨k_code_M_turn, k_ini_M, k_im_M_turn, k_sel_M_turn, by decide, by decide, by decide +kernel⟩
theorem v_M_type : mS y_M_type c_M_type 1 (some FieldType.int) 1 := ⟨k_code_M_type, k_ini_M, k_st_M_type, by decide, by decide, by decide +kernel⟩
theorem v_M_typed : mV y_M_typed c_M_typed 3 (none) 2 := ⟨k_code_M_typed, k_ini_M, k_im_M_typed, k_sel_M_typed, by decide, by decide, by decide +kernel⟩
theorem v_M_unit : mS y_M_unit c_M_unit 1 (some FieldType.long) 1 := ⟨k_code_M_unit, k_ini_M, k_st_M_unit, by decide, by decide, by decide +kernel⟩
theorem v_M_unsigned : mS y_M_unsigned c_M_unsigned 1 (some FieldType.long) 1 := ⟨k_code_M_unsigned, k_ini_M, k_st_M_unsigned, by decide, by decide, by decide +kernel⟩
theorem v_M_wake : mV y_M_wake c_M_wake 2 (some FieldType.boolean) 1 := ⟨k_code_M_wake, k_ini_M, k_im_M_wake, k_sel_M_wake, by decide, by decide, by decide +kernel⟩
theorem v_M_window : mS y_M_window c_M_window 8 (some FieldType.long) 2 := ⟨k_code_M_window, k_ini_M, k_st_M_window, by decide, by decide, by decide +kernel⟩
theorem v_X_base : mV y_X_base c_X_base 2 (some FieldType.long) 1 := ⟨k_code_X_base, k_ini_X, k_im_X_base, k_sel_X_base, by decide, by decide, by decide +kernel⟩
theorem v_X_branch : mV y_X_branch c_X_branch 2 (some FieldType.int) 1 := ⟨k_code_X_branch, k_ini_X, k_im_X_branch, k_sel_X_branch, by decide, by decide, by decide +kernel⟩
theorem v_X_cause : mV y_X_cause c_X_cause 1 (some FieldType.int) 0 := ⟨k_code_X_cause, k_ini_X, k_im_X_cause, k_sel_X_cause, by decide, by decide, by decide +kernel⟩
theorem v_X_check : mV y_X_check c_X_check 8 (some FieldType.int) 4 := ⟨k_code_X_check, k_ini_X, k_im_X_check, k_sel_X_check, by decide, by decide, by decide +kernel⟩
theorem v_X_compute : mS y_X_compute c_X_compute 4 (some FieldType.int) 4 := ⟨k_code_X_compute, k_ini_X, k_st_X_compute, by decide, by decide, by decide +kernel⟩
theorem v_X_derive : mV y_X_derive c_X_derive 5 (none) 4 := ⟨k_code_X_derive, k_ini_X, k_im_X_derive, k_sel_X_derive, by decide, by decide, by decide +kernel⟩
theorem v_X_enterTrap : mV y_X_enterTrap c_X_enterTrap 3 (none) 1 := ⟨k_code_X_enterTrap, k_ini_X, k_im_X_enterTrap, k_sel_X_enterTrap, by decide, by decide, by decide +kernel⟩
theorem v_X_execute : mV y_X_execute c_X_execute 8 (some FieldType.int) 1 := ⟨k_code_X_execute, k_ini_X, k_im_X_execute, k_sel_X_execute, by decide, by decide, by decide +kernel⟩
theorem v_X_give : mV y_X_give c_X_give 3 (some FieldType.boolean) 2 := ⟨k_code_X_give, k_ini_X, k_im_X_give, k_sel_X_give, by decide, by decide, by decide +kernel⟩
theorem v_X_isRegister : mS y_X_isRegister c_X_isRegister 1 (some FieldType.boolean) 1 := ⟨k_code_X_isRegister, k_ini_X, k_st_X_isRegister, by decide, by decide, by decide +kernel⟩
theorem v_X_isWord : mS y_X_isWord c_X_isWord 1 (some FieldType.boolean) 1 := ⟨k_code_X_isWord, k_ini_X, k_st_X_isWord, by decide, by decide, by decide +kernel⟩
theorem v_X_jump : mV y_X_jump c_X_jump 4 (some FieldType.int) 2 := ⟨k_code_X_jump, k_ini_X, k_im_X_jump, k_sel_X_jump, by decide, by decide, by decide +kernel⟩
theorem v_X_load : mV y_X_load c_X_load 6 (some FieldType.int) 3 := ⟨k_code_X_load, k_ini_X, k_im_X_load, k_sel_X_load, by decide, by decide, by decide +kernel⟩
theorem v_X_loadCapability : mV y_X_loadCapability c_X_loadCapability 7 (some FieldType.int) 3 := ⟨k_code_X_loadCapability, k_ini_X, k_im_X_loadCapability, k_sel_X_loadCapability, by decide, by decide, by decide +kernel⟩
theorem v_X_makeStep : mV y_X_makeStep c_X_makeStep 2 (none) 0 := ⟨k_code_X_makeStep, k_ini_X, k_im_X_makeStep, k_sel_X_makeStep, by decide, by decide, by decide +kernel⟩
theorem v_X_mayBuild : mS y_X_mayBuild c_X_mayBuild 2 (some FieldType.boolean) 2 := ⟨k_code_X_mayBuild, k_ini_X, k_st_X_mayBuild, by decide, by decide, by decide +kernel⟩
theorem v_X_narrow : mV y_X_narrow c_X_narrow 5 (none) 2 := ⟨k_code_X_narrow, k_ini_X, k_im_X_narrow, k_sel_X_narrow, by decide, by decide, by decide +kernel⟩
theorem v_X_peek : mV y_X_peek c_X_peek 2 (some FieldType.int) 1 := ⟨k_code_X_peek, k_ini_X, k_im_X_peek, k_sel_X_peek, by decide, by decide, by decide +kernel⟩
theorem v_X_poke : mV y_X_poke c_X_poke 3 (some FieldType.boolean) 2 := ⟨k_code_X_poke, k_ini_X, k_im_X_poke, k_sel_X_poke, by decide, by decide, by decide +kernel⟩
theorem v_X_register : mV y_X_register c_X_register 3 (some FieldType.int) 2 := ⟨k_code_X_register, k_ini_X, k_im_X_register, k_sel_X_register, by decide, by decide, by decide +kernel⟩
theorem v_X_returnFromTrap : mV y_X_returnFromTrap c_X_returnFromTrap 1 (some FieldType.int) 0 := ⟨k_code_X_returnFromTrap, k_ini_X, k_im_X_returnFromTrap, k_sel_X_returnFromTrap, by decide, by decide, by decide +kernel⟩
theorem v_X_run : mV y_X_run c_X_run 3 (some FieldType.int) 1 := ⟨k_code_X_run, k_ini_X, k_im_X_run, k_sel_X_run, by decide, by decide, by decide +kernel⟩
theorem v_X_seal : mV y_X_seal c_X_seal 7 (some FieldType.int) 3 := ⟨k_code_X_seal, k_ini_X, k_im_X_seal, k_sel_X_seal, by decide, by decide, by decide +kernel⟩
theorem v_X_state : mV y_X_state c_X_state 1 (some FieldType.int) 0 := ⟨k_code_X_state, k_ini_X, k_im_X_state, k_sel_X_state, by decide, by decide, by decide +kernel⟩
theorem v_X_steps : mV y_X_steps c_X_steps 1 (some FieldType.int) 0 := ⟨k_code_X_steps, k_ini_X, k_im_X_steps, k_sel_X_steps, by decide, by decide, by decide +kernel⟩
theorem v_X_store : mV y_X_store c_X_store 6 (some FieldType.int) 3 := ⟨k_code_X_store, k_ini_X, k_im_X_store, k_sel_X_store, by decide, by decide, by decide +kernel⟩
theorem v_X_storeCapability : mV y_X_storeCapability c_X_storeCapability 8 (some FieldType.int) 3 := ⟨k_code_X_storeCapability, k_ini_X, k_im_X_storeCapability, k_sel_X_storeCapability, by decide, by decide, by decide +kernel⟩
theorem v_X_swap : mV y_X_swap c_X_swap 5 (some FieldType.int) 3 := ⟨k_code_X_swap, k_ini_X, k_im_X_swap, k_sel_X_swap, by decide, by decide, by decide +kernel⟩
theorem v_X_tagged : mV y_X_tagged c_X_tagged 2 (some FieldType.boolean) 1 := ⟨k_code_X_tagged, k_ini_X, k_im_X_tagged, k_sel_X_tagged, by decide, by decide, by decide +kernel⟩
theorem v_X_tell : mS y_X_tell c_X_tell 2 (some FieldType.int) 2 := ⟨k_code_X_tell, k_ini_X, k_st_X_tell, by decide, by decide, by decide +kernel⟩
theorem v_X_top : mV y_X_top c_X_top 2 (some FieldType.long) 1 := ⟨k_code_X_top, k_ini_X, k_im_X_top, k_sel_X_top, by decide, by decide, by decide +kernel⟩
theorem v_X_trapOf : mS y_X_trapOf c_X_trapOf 2 (some FieldType.int) 2 := ⟨k_code_X_trapOf, k_ini_X, k_st_X_trapOf, by decide, by decide, by decide +kernel⟩
theorem v_X_traps : mV y_X_traps c_X_traps 1 (some FieldType.int) 0 := ⟨k_code_X_traps, k_ini_X, k_im_X_traps, k_sel_X_traps, by decide, by decide, by decide +kernel⟩
theorem v_X_unseal : mV y_X_unseal c_X_unseal 7 (some FieldType.int) 3 := ⟨k_code_X_unseal, k_ini_X, k_im_X_unseal, k_sel_X_unseal, by decide, by decide, by decide +kernel⟩
theorem v_X_wake : mV y_X_wake c_X_wake 2 (some FieldType.boolean) 1 := ⟨k_code_X_wake, k_ini_X, k_im_X_wake, k_sel_X_wake, by decide, by decide, by decide +kernel⟩
theorem v_X_writeLink : mV y_X_writeLink c_X_writeLink 2 (none) 1 := ⟨k_code_X_writeLink, k_ini_X, k_im_X_writeLink, k_sel_X_writeLink, by decide, by decide, by decide +kernel⟩
theorem v_X_writeMade : mV y_X_writeMade c_X_writeMade 2 (none) 1 := ⟨k_code_X_writeMade, k_ini_X, k_im_X_writeMade, k_sel_X_writeMade, by decide, by decide, by decide +kernel⟩
theorem v_X_writeNumber : mV y_X_writeNumber c_X_writeNumber 3 (none) 2 := ⟨k_code_X_writeNumber, k_ini_X, k_im_X_writeNumber, k_sel_X_writeNumber, by decide, by decide, by decide +kernel⟩
theorem v_X_writeWithType : mV y_X_writeWithType c_X_writeWithType 4 (none) 3 := ⟨k_code_X_writeWithType, k_ini_X, k_im_X_writeWithType, k_sel_X_writeWithType, by decide, by decide, by decide +kernel⟩
theorem v_X_writeWord : mV y_X_writeWord c_X_writeWord 3 (none) 2 := ⟨k_code_X_writeWord, k_ini_X, k_im_X_writeWord, k_sel_X_writeWord, by decide, by decide, by decide +kernel⟩
theorem pr_eq {α : Type} {x v : α} {σ : Mem} (h : x = v) : (x, σ) = (v, σ) := by rw [h]
theorem lt8_13 : 8 < 13 := by decide
theorem lt12_13 : 12 < 13 := by decide
theorem ic_0_12 : vp_in (0 : Int32) 12 := by unfold vp_in; decide
theorem ic_1_12 : vp_in (1 : Int32) 12 := by unfold vp_in; decide
theorem ic_2_12 : vp_in (2 : Int32) 12 := by unfold vp_in; decide
theorem ic_3_12 : vp_in (3 : Int32) 12 := by unfold vp_in; decide
theorem ic_4_12 : vp_in (4 : Int32) 12 := by unfold vp_in; decide
theorem ic_5_12 : vp_in (5 : Int32) 12 := by unfold vp_in; decide
theorem ic_6_12 : vp_in (6 : Int32) 12 := by unfold vp_in; decide
theorem ic_7_12 : vp_in (7 : Int32) 12 := by unfold vp_in; decide
theorem ic_8_12 : vp_in (8 : Int32) 12 := by unfold vp_in; decide
theorem ic_9_12 : vp_in (9 : Int32) 12 := by unfold vp_in; decide
theorem ic_10_12 : vp_in (10 : Int32) 12 := by unfold vp_in; decide
theorem ic_11_12 : vp_in (11 : Int32) 12 := by unfold vp_in; decide
end
section
-- places in range
theorem sh_up {k n : Nat} (h : k < 32 ∧ 31 < k + (n + 1)) (h1 : ¬ (31 : Int32) ≤ nI k) : k + 1 < 32 ∧ 31 < k + 1 + n := by
  have : k ≠ 31 := fun z => h1 (by rw [z]; decide)
  omega
theorem ix_and7 (x : Int32) : vp_in (x &&& 7) 12 := in_mono (n := 2 ^ 3) (by decide) (pk_andIn x (m := 7) 3 (by decide) (by decide))
theorem ix_half {x : Int32} (h : vp_in x 256) : vp_in (x >>> ((1 : Int32) &&& 31)) 128 := by
  obtain ⟨j, hj, rfl⟩ := vp_in_of h (by decide)
  rw [pk_shrN (by omega) _ 1 (by decide)]
  exact vp_in_nI (by omega) (by decide)
theorem ix_swap {x : Int32} (h0 : ¬ x < 0) (h2 : x ≤ 2) : vp_in (9 + x) 12 := by
  obtain ⟨j, hj, rfl⟩ := nI_of2 (M := 2) (n := 2) (by decide) h0 h2
  show vp_in (nI 9 + nI j) 12
  rw [nI_add]
  exact vp_in_nI (by omega) (by decide)
theorem ix_lt128 {x : Int32} (h0 : ¬ x < 0) (h : ¬ (128 : Int32) ≤ x) : vp_in x 128 := by
  rcases pk_ix x (n := 128) (by decide) with h1 | h1 | ⟨j, hj, rfl⟩
  · exact absurd h1 h0
  · exact absurd h1 h
  · exact vp_in_nI hj (by decide)
theorem ix_lt256 {x : Int32} (h0 : ¬ x < 0) (h : ¬ (256 : Int32) ≤ x) : vp_in x 256 := by
  rcases pk_ix x (n := 256) (by decide) with h1 | h1 | ⟨j, hj, rfl⟩
  · exact absurd h1 h0
  · exact absurd h1 h
  · exact vp_in_nI hj (by decide)
theorem ix_lt12 {x : Int32} (h0 : ¬ x < 0) (h : ¬ (12 : Int32) ≤ x) : vp_in x 12 := by
  rcases pk_ix x (n := 12) (by decide) with h1 | h1 | ⟨j, hj, rfl⟩
  · exact absurd h1 h0
  · exact absurd h1 h
  · exact vp_in_nI hj (by decide)
theorem ix_le255 {x : Int32} (h0 : ¬ x < 0) (h : x ≤ (255 : Int32)) : vp_in x 256 := by
  obtain ⟨j, hj, rfl⟩ := nI_of2 (M := 255) (n := 255) (by decide) h0 h
  exact vp_in_nI (by omega) (by decide)
theorem ix_div2 {x : Int32} (h0 : ¬ x < 0) (h : x ≤ (255 : Int32)) : vp_in (x / 2) 128 := by
  obtain ⟨j, hj, rfl⟩ := nI_of2 (M := 255) (n := 255) (by decide) h0 h
  show vp_in (nI j / nI 2) 128
  rw [pk_div (by omega) (by decide) (by decide)]
  exact vp_in_nI (by omega) (by decide)
theorem ix_give {x : Int32} (h0 : ¬ x < (1 : Int32)) (h : x < (8 : Int32)) : vp_in x 12 := by
  rw [vp_in_iff]
  rw [Int32.lt_iff_toInt_lt] at h0 h
  have e1 : (1 : Int32).toInt = 1 := by decide
  have e8 : (8 : Int32).toInt = 8 := by decide
  omega
theorem ix_give7 {x : Int32} (h0 : ¬ x < (1 : Int32)) (h : x ≤ (7 : Int32)) : vp_in x 12 := by
  rw [vp_in_iff]
  rw [Int32.lt_iff_toInt_lt] at h0
  rw [Int32.le_iff_toInt_le] at h
  have e1 : (1 : Int32).toInt = 1 := by decide
  have e8 : (7 : Int32).toInt = 7 := by decide
  omega
-- an int read unsigned
theorem un_l (x : Int32) : x.toInt64 &&& 4294967295 = lN x.toBitVec.toNat := by
  apply Int64.toBitVec_inj.mp
  show x.toInt64.toBitVec &&& (4294967295 : Int64).toBitVec = (Int64.ofNat x.toBitVec.toNat).toBitVec
  have e1 : x.toInt64.toBitVec = x.toBitVec.signExtend 64 := rfl
  have e2 : (Int64.ofNat x.toBitVec.toNat).toBitVec = BitVec.ofNat 64 x.toBitVec.toNat := rfl
  have e3 : (4294967295 : Int64).toBitVec = BitVec.ofNat 64 (2 ^ 32 - 1) := by decide
  rw [e1, e2, e3]
  apply BitVec.eq_of_getLsbD_eq
  intro i hi
  have hx := x.toBitVec.isLt
  rw [BitVec.getLsbD_and, BitVec.getLsbD_signExtend, BitVec.getLsbD_ofNat, BitVec.getLsbD_ofNat, Nat.testBit_two_pow_sub_one]
  by_cases h : i < 32
  · simp [h, hi, BitVec.getLsbD]
  · simp [h, hi]
    exact Nat.testBit_lt_two_pow (Nat.lt_of_lt_of_le hx (Nat.pow_le_pow_right (by decide) (by omega)))
theorem nI_self (x : Int32) : nI x.toBitVec.toNat = x := by
  apply Int32.toBitVec_inj.mp
  show BitVec.ofNat 32 x.toBitVec.toNat = x.toBitVec
  apply BitVec.eq_of_toNat_eq
  rw [BitVec.toNat_ofNat]
  exact Nat.mod_eq_of_lt x.toBitVec.isLt
end
section
def p_K_permissions (σ : Mem) (i0 : Nat) : Int32 :=
  ((σ 3 i0) &&& (255 : Int32))
set_option maxHeartbeats 4000000 in
set_option maxRecDepth 100000 in
theorem m_K_permissions {l : Launch} {D : va_G} {a : Nat → Nat} {cA : Nat → ClassId} {B0 : Nat → Prop} {σ : Mem} {i0 : Nat} (h_i0 : i0 < 13) : cI l y_K_permissions (.code y_K_permissions c_K_permissions 1 (some FieldType.int) :: TG) (rmO 0 0) D (cwL a cA) (cty cA) B0 [.ref (a (4 + i0))] σ (p_K_permissions σ i0, σ) := by
  refine cI_of (by decide) (Nat.le_of_ble_eq_true rfl) ?_
  intro p e s m args below meth c Q ls hx hb hF hl hs hret
  have hl : lv_has ls 1 [(0, .ref (a (4 + i0)))] := hl
  refine lv_aload_n hx hb d_K_permissions_0 rfl (lv_at hl 0 rfl) ?_
  refine xg_K hx hb hF hs 1 (by decide) h_i0 k_fl_K_15 rfl d_K_permissions_1 ?_
  refine lv_sipush (v := 255) hx hb d_K_permissions_4 (by decide) ?_
  refine lv_iand hx hb d_K_permissions_7 ?_
  refine hret _ _ _ _ _ _ hs ?_ d_K_permissions_8
  exact pr_eq (rfl)
def p_K_type (σ : Mem) (i0 : Nat) : Int32 :=
  (((((σ 3 i0)).toUInt32 >>> (((8 : Int32)).toUInt32 &&& Int32.toUInt32 31)).toInt32) &&& (15 : Int32))
set_option maxHeartbeats 4000000 in
set_option maxRecDepth 100000 in
theorem m_K_type {l : Launch} {D : va_G} {a : Nat → Nat} {cA : Nat → ClassId} {B0 : Nat → Prop} {σ : Mem} {i0 : Nat} (h_i0 : i0 < 13) : cI l y_K_type (.code y_K_type c_K_type 1 (some FieldType.int) :: TG) (rmO 0 0) D (cwL a cA) (cty cA) B0 [.ref (a (4 + i0))] σ (p_K_type σ i0, σ) := by
  refine cI_of (by decide) (Nat.le_of_ble_eq_true rfl) ?_
  intro p e s m args below meth c Q ls hx hb hF hl hs hret
  have hl : lv_has ls 1 [(0, .ref (a (4 + i0)))] := hl
  refine lv_aload_n hx hb d_K_type_0 rfl (lv_at hl 0 rfl) ?_
  refine xg_K hx hb hF hs 1 (by decide) h_i0 k_fl_K_15 rfl d_K_type_1 ?_
  refine lv_bipush (v := 8) hx hb d_K_type_4 (by decide) ?_
  refine lv_iushr hx hb d_K_type_6 rfl ?_
  refine lv_bipush (v := 15) hx hb d_K_type_7 (by decide) ?_
  refine lv_iand hx hb d_K_type_9 ?_
  refine hret _ _ _ _ _ _ hs ?_ d_K_type_10
  exact pr_eq (rfl)
def p_K_permits (σ : Mem) (i0 : Nat) (n1 : Int32) : Int32 :=
  if ((p_K_permissions σ i0) &&& (n1 : Int32)) = n1 then
    (1 : Int32)
  else
    (0 : Int32)
set_option maxHeartbeats 4000000 in
set_option maxRecDepth 100000 in
theorem m_K_permits {l : Launch} {D : va_G} {a : Nat → Nat} {cA : Nat → ClassId} {B0 : Nat → Prop} {σ : Mem} {i0 : Nat} {n1 : Int32} (h_i0 : i0 < 13) : cI l y_K_permits (.code y_K_permits c_K_permits 2 (some FieldType.boolean) :: TG) (rmO 1 20) D (cwL a cA) (cty cA) B0 [.ref (a (4 + i0)), .int n1] σ (p_K_permits σ i0 n1, σ) := by
  refine cZ_of (by decide) (Nat.le_of_ble_eq_true rfl) ?_
  intro p e s m args below meth c Q ls hx hb hF hl hs hret
  have hl : lv_has ls 2 [(0, .ref (a (4 + i0))), (1, .int n1)] := hl
  refine lv_aload_n hx hb d_K_permits_0 rfl (lv_at hl 0 rfl) ?_
  refine x_Vip hF hs v_K_permissions k_ml_K_28 (m_K_permissions h_i0) rfl rfl ⟨by decide, by decide⟩ rfl rfl hl.1 (Nat.le_of_ble_eq_true rfl) (rK h_i0) d_K_permits_1 ⟨Nat.zero_le _, Nat.zero_le _⟩ (fun H locs hs => ?_)
  refine lv_iload_n hx hb d_K_permits_4 rfl (lv_at hl 1 rfl) ?_
  refine lv_iand hx hb d_K_permits_5 ?_
  refine lv_iload_n hx hb d_K_permits_6 rfl (lv_at hl 1 rfl) ?_
  refine lv_icmp_ne (tgt := 14) hx hb d_K_permits_7 (by decide) (fun h1 => ?_) (fun h1 => ?_)
  · refine lv_iconst (v := 0) hx hb d_K_permits_14 (by decide) ?_
    refine hret _ _ _ _ _ _ hs bo_0 ?_ d_K_permits_15
    exact pr_eq ((if_neg h1).trans rfl)
  · refine lv_iconst (v := 1) hx hb d_K_permits_10 (by decide) ?_
    refine lv_goto (tgt := 15) hx hb d_K_permits_11 (by decide) ?_
    refine hret _ _ _ _ _ _ hs bo_1 ?_ d_K_permits_15
    exact pr_eq ((if_pos h1).trans rfl)
def p_K_isSealed (σ : Mem) (i0 : Nat) : Int32 :=
  if (p_K_type σ i0) = (0 : Int32) then
    (0 : Int32)
  else
    (1 : Int32)
set_option maxHeartbeats 4000000 in
set_option maxRecDepth 100000 in
theorem m_K_isSealed {l : Launch} {D : va_G} {a : Nat → Nat} {cA : Nat → ClassId} {B0 : Nat → Prop} {σ : Mem} {i0 : Nat} (h_i0 : i0 < 13) : cI l y_K_isSealed (.code y_K_isSealed c_K_isSealed 1 (some FieldType.boolean) :: TG) (rmO 1 20) D (cwL a cA) (cty cA) B0 [.ref (a (4 + i0))] σ (p_K_isSealed σ i0, σ) := by
  refine cZ_of (by decide) (Nat.le_of_ble_eq_true rfl) ?_
  intro p e s m args below meth c Q ls hx hb hF hl hs hret
  have hl : lv_has ls 1 [(0, .ref (a (4 + i0)))] := hl
  refine lv_aload_n hx hb d_K_isSealed_0 rfl (lv_at hl 0 rfl) ?_
  refine x_Vip hF hs v_K_type k_ml_K_32 (m_K_type h_i0) rfl rfl ⟨by decide, by decide⟩ rfl rfl hl.1 (Nat.le_of_ble_eq_true rfl) (rK h_i0) d_K_isSealed_1 ⟨Nat.zero_le _, Nat.zero_le _⟩ (fun H locs hs => ?_)
  refine lv_if_eq (tgt := 11) hx hb d_K_isSealed_4 (by decide) (fun h1 => ?_) (fun h1 => ?_)
  · refine lv_iconst (v := 0) hx hb d_K_isSealed_11 (by decide) ?_
    refine hret _ _ _ _ _ _ hs bo_0 ?_ d_K_isSealed_12
    exact pr_eq ((if_pos h1).trans rfl)
  · refine lv_iconst (v := 1) hx hb d_K_isSealed_7 (by decide) ?_
    refine lv_goto (tgt := 12) hx hb d_K_isSealed_8 (by decide) ?_
    refine hret _ _ _ _ _ _ hs bo_1 ?_ d_K_isSealed_12
    exact pr_eq ((if_neg h1).trans rfl)
def p_K_setType (σ : Mem) (i0 : Nat) (n1 : Int32) : Mem :=
  let σ1 : Mem := wr σ 3 i0 (((σ 3 i0) &&& ((-3841) : Int32)) ||| ((n1 <<< ((8 : Int32) &&& 31)) : Int32));
  σ1
set_option maxHeartbeats 4000000 in
set_option maxRecDepth 100000 in
theorem m_K_setType {l : Launch} {D : va_G} {a : Nat → Nat} {cA : Nat → ClassId} {B0 : Nat → Prop} {σ : Mem} {i0 : Nat} {n1 : Int32} (h_i0 : i0 < 13) : cV l y_K_setType (.code y_K_setType c_K_setType 2 (none) :: TG) (rmO 0 0) D (cwL a cA) (cty cA) B0 [.ref (a (4 + i0)), .int n1] σ (p_K_setType σ i0 n1) := by
  refine cV_of (by decide) (Nat.le_of_ble_eq_true rfl) ?_
  intro p e s m args below meth c Q ls hx hb hF hl hs hret
  have hl : lv_has ls 2 [(0, .ref (a (4 + i0))), (1, .int n1)] := hl
  refine lv_aload_n hx hb d_K_setType_0 rfl (lv_at hl 0 rfl) ?_
  refine lv_aload_n hx hb d_K_setType_1 rfl (lv_at hl 0 rfl) ?_
  refine xg_K hx hb hF hs 1 (by decide) h_i0 k_fl_K_15 rfl d_K_setType_2 ?_
  refine lv_sipush (v := (-3841)) hx hb d_K_setType_5 (by decide) ?_
  refine lv_iand hx hb d_K_setType_8 ?_
  refine lv_iload_n hx hb d_K_setType_9 rfl (lv_at hl 1 rfl) ?_
  refine lv_bipush (v := 8) hx hb d_K_setType_10 (by decide) ?_
  refine lv_ishl hx hb d_K_setType_12 ?_
  refine lv_ior hx hb d_K_setType_13 ?_
  refine xp_K3 hx hb hF hs h_i0 k_fl_K_15 d_K_setType_14 (fun H locs hs => ?_)
  refine hret _ _ _ _ _ hs ?_ d_K_setType_17
  exact rfl
def p_K_keepPermissions (σ : Mem) (i0 : Nat) (n1 : Int32) : Mem :=
  let σ1 : Mem := wr σ 3 i0 ((σ 3 i0) &&& ((n1 ||| ((-256) : Int32)) : Int32));
  σ1
set_option maxHeartbeats 4000000 in
set_option maxRecDepth 100000 in
theorem m_K_keepPermissions {l : Launch} {D : va_G} {a : Nat → Nat} {cA : Nat → ClassId} {B0 : Nat → Prop} {σ : Mem} {i0 : Nat} {n1 : Int32} (h_i0 : i0 < 13) : cV l y_K_keepPermissions (.code y_K_keepPermissions c_K_keepPermissions 2 (none) :: TG) (rmO 0 0) D (cwL a cA) (cty cA) B0 [.ref (a (4 + i0)), .int n1] σ (p_K_keepPermissions σ i0 n1) := by
  refine cV_of (by decide) (Nat.le_of_ble_eq_true rfl) ?_
  intro p e s m args below meth c Q ls hx hb hF hl hs hret
  have hl : lv_has ls 2 [(0, .ref (a (4 + i0))), (1, .int n1)] := hl
  refine lv_aload_n hx hb d_K_keepPermissions_0 rfl (lv_at hl 0 rfl) ?_
  refine lv_dup hx hb d_K_keepPermissions_1 rfl ?_
  refine xg_K hx hb hF hs 1 (by decide) h_i0 k_fl_K_15 rfl d_K_keepPermissions_2 ?_
  refine lv_iload_n hx hb d_K_keepPermissions_5 rfl (lv_at hl 1 rfl) ?_
  refine lv_sipush (v := (-256)) hx hb d_K_keepPermissions_6 (by decide) ?_
  refine lv_ior hx hb d_K_keepPermissions_9 ?_
  refine lv_iand hx hb d_K_keepPermissions_10 ?_
  refine xp_K3 hx hb hF hs h_i0 k_fl_K_15 d_K_keepPermissions_11 (fun H locs hs => ?_)
  refine hret _ _ _ _ _ hs ?_ d_K_keepPermissions_14
  exact rfl
def p_K_unitsUp (g1 : Int64) (n2 : Int32) : Int64 :=
  (((g1 + (((1 : Int64) <<< ((n2).toInt64 &&& 63)) : Int64)) - (1 : Int64)) >>> ((n2).toInt64 &&& 63))
set_option maxHeartbeats 4000000 in
set_option maxRecDepth 100000 in
theorem m_K_unitsUp {l : Launch} {D : va_G} {a : Nat → Nat} {cA : Nat → ClassId} {B0 : Nat → Prop} {σ : Mem} {g1 : Int64} {n2 : Int32} : cL l y_K_unitsUp (.code y_K_unitsUp c_K_unitsUp 3 (some FieldType.long) :: TG) (rmO 0 0) D (cwL a cA) (cty cA) B0 [.long g1, .int n2] σ (p_K_unitsUp g1 n2, σ) := by
  refine cL_of (by decide) (Nat.le_of_ble_eq_true rfl) ?_
  intro p e s m args below meth c Q ls hx hb hF hl hs hret
  have hl : lv_has ls 3 [(0, .long g1), (2, .int n2)] := hl
  refine lv_lload_n hx hb d_K_unitsUp_0 rfl (lv_at hl 0 rfl) ?_
  refine lv_lconst (v := 1) hx hb d_K_unitsUp_1 (by decide) ?_
  refine lv_iload_n hx hb d_K_unitsUp_2 rfl (lv_at hl 1 rfl) ?_
  refine lv_lshl hx hb d_K_unitsUp_3 rfl ?_
  refine lv_ladd hx hb d_K_unitsUp_4 ?_
  refine lv_lconst (v := 1) hx hb d_K_unitsUp_5 (by decide) ?_
  refine lv_lsub hx hb d_K_unitsUp_6 ?_
  refine lv_iload_n hx hb d_K_unitsUp_7 rfl (lv_at hl 1 rfl) ?_
  refine lv_lshr hx hb d_K_unitsUp_8 rfl ?_
  refine hret _ _ _ _ _ _ hs ?_ d_K_unitsUp_9
  exact pr_eq (rfl)
def p_K_lowerBound (σ : Mem) (i0 : Nat) : Int64 :=
  (((((((σ 4 i0)).toInt64 &&& (4294967295 : Int64)) >>> (((((((σ 3 i0)).toUInt32 >>> (((12 : Int32)).toUInt32 &&& Int32.toUInt32 31)).toInt32) &&& (31 : Int32))).toInt64 &&& 63)) - ((((((((σ 4 i0)).toInt64 &&& (4294967295 : Int64)) >>> (((((((σ 3 i0)).toUInt32 >>> (((12 : Int32)).toUInt32 &&& Int32.toUInt32 31)).toInt32) &&& (31 : Int32))).toInt64 &&& 63)) - (((((((σ 3 i0)).toUInt32 >>> (((17 : Int32)).toUInt32 &&& Int32.toUInt32 31)).toInt32) &&& (127 : Int32))).toInt64 : Int64)) + (16 : Int64)) &&& (127 : Int64)) : Int64)) + (16 : Int64)) <<< (((((((σ 3 i0)).toUInt32 >>> (((12 : Int32)).toUInt32 &&& Int32.toUInt32 31)).toInt32) &&& (31 : Int32))).toInt64 &&& 63))
set_option maxHeartbeats 4000000 in
set_option maxRecDepth 100000 in
theorem m_K_lowerBound {l : Launch} {D : va_G} {a : Nat → Nat} {cA : Nat → ClassId} {B0 : Nat → Prop} {σ : Mem} {i0 : Nat} (h_i0 : i0 < 13) : cL l y_K_lowerBound (.code y_K_lowerBound c_K_lowerBound 7 (some FieldType.long) :: TG) (rmO 0 0) D (cwL a cA) (cty cA) B0 [.ref (a (4 + i0))] σ (p_K_lowerBound σ i0, σ) := by
  refine cL_of (by decide) (Nat.le_of_ble_eq_true rfl) ?_
  intro p e s m args below meth c Q ls hx hb hF hl hs hret
  have hl : lv_has ls 7 [(0, .ref (a (4 + i0)))] := hl
  refine lv_aload_n hx hb d_K_lowerBound_0 rfl (lv_at hl 0 rfl) ?_
  refine xg_K hx hb hF hs 1 (by decide) h_i0 k_fl_K_15 rfl d_K_lowerBound_1 ?_
  refine lv_bipush (v := 12) hx hb d_K_lowerBound_4 (by decide) ?_
  refine lv_iushr hx hb d_K_lowerBound_6 rfl ?_
  refine lv_bipush (v := 31) hx hb d_K_lowerBound_7 (by decide) ?_
  refine lv_iand hx hb d_K_lowerBound_9 ?_
  refine lv_istore_n (lv' := [(1, _), (0, _)]) hx hb d_K_lowerBound_10 rfl hl (by decide) rfl (fun ls hl => ?_)
  refine lv_aload_n hx hb d_K_lowerBound_11 rfl (lv_at hl 1 rfl) ?_
  refine xg_K hx hb hF hs 1 (by decide) h_i0 k_fl_K_15 rfl d_K_lowerBound_12 ?_
  refine lv_bipush (v := 17) hx hb d_K_lowerBound_15 (by decide) ?_
  refine lv_iushr hx hb d_K_lowerBound_17 rfl ?_
  refine lv_bipush (v := 127) hx hb d_K_lowerBound_18 (by decide) ?_
  refine lv_iand hx hb d_K_lowerBound_20 ?_
  refine lv_istore_n (lv' := [(2, _), (1, _), (0, _)]) hx hb d_K_lowerBound_21 rfl hl (by decide) rfl (fun ls hl => ?_)
  refine lv_aload_n hx hb d_K_lowerBound_22 rfl (lv_at hl 2 rfl) ?_
  refine xg_K hx hb hF hs 2 (by decide) h_i0 k_fl_K_19 rfl d_K_lowerBound_23 ?_
  refine lv_i2l hx hb d_K_lowerBound_26 rfl ?_
  refine x_ldc2 hx hb hF k_cL_K_52 d_K_lowerBound_27 ?_
  refine lv_land hx hb d_K_lowerBound_30 ?_
  refine lv_iload_n hx hb d_K_lowerBound_31 rfl (lv_at hl 1 rfl) ?_
  refine lv_lshr hx hb d_K_lowerBound_32 rfl ?_
  refine lv_lstore_n (lv' := [(3, _), (2, _), (1, _), (0, _)]) hx hb d_K_lowerBound_33 rfl hl (by decide) rfl (fun ls hl => ?_)
  refine lv_lload_n hx hb d_K_lowerBound_34 rfl (lv_at hl 0 rfl) ?_
  refine lv_lload_n hx hb d_K_lowerBound_35 rfl (lv_at hl 0 rfl) ?_
  refine lv_iload_n hx hb d_K_lowerBound_36 rfl (lv_at hl 1 rfl) ?_
  refine lv_i2l hx hb d_K_lowerBound_37 rfl ?_
  refine lv_lsub hx hb d_K_lowerBound_38 ?_
  refine x_ldc2 hx hb hF k_cL_K_54 d_K_lowerBound_39 ?_
  refine lv_ladd hx hb d_K_lowerBound_42 ?_
  refine x_ldc2 hx hb hF k_cL_K_56 d_K_lowerBound_43 ?_
  refine lv_land hx hb d_K_lowerBound_46 ?_
  refine lv_lsub hx hb d_K_lowerBound_47 ?_
  refine lv_lstore (lv' := [(5, _), (3, _), (2, _), (1, _), (0, _)]) hx hb d_K_lowerBound_48 hl (by decide) rfl (fun ls hl => ?_)
  refine lv_lload hx hb d_K_lowerBound_50 (lv_at hl 0 rfl) ?_
  refine x_ldc2 hx hb hF k_cL_K_54 d_K_lowerBound_52 ?_
  refine lv_ladd hx hb d_K_lowerBound_55 ?_
  refine lv_iload_n hx hb d_K_lowerBound_56 rfl (lv_at hl 3 rfl) ?_
  refine lv_lshl hx hb d_K_lowerBound_57 rfl ?_
  refine hret _ _ _ _ _ _ hs ?_ d_K_lowerBound_58
  exact pr_eq (rfl)
def p_K_upperBound (σ : Mem) (i0 : Nat) : Int64 :=
  ((p_K_lowerBound σ i0) + ((((((((((((σ 3 i0)).toUInt32 >>> (((24 : Int32)).toUInt32 &&& Int32.toUInt32 31)).toInt32) &&& (127 : Int32)) - ((((((σ 3 i0)).toUInt32 >>> (((17 : Int32)).toUInt32 &&& Int32.toUInt32 31)).toInt32) &&& (127 : Int32)) : Int32)) + (16 : Int32)) &&& (127 : Int32)) - (16 : Int32))).toInt64 <<< (((((((σ 3 i0)).toUInt32 >>> (((12 : Int32)).toUInt32 &&& Int32.toUInt32 31)).toInt32) &&& (31 : Int32))).toInt64 &&& 63)) : Int64))
set_option maxHeartbeats 4000000 in
set_option maxRecDepth 100000 in
theorem m_K_upperBound {l : Launch} {D : va_G} {a : Nat → Nat} {cA : Nat → ClassId} {B0 : Nat → Prop} {σ : Mem} {i0 : Nat} (h_i0 : i0 < 13) : cL l y_K_upperBound (.code y_K_upperBound c_K_upperBound 6 (some FieldType.long) :: TG) (rmO 1 26) D (cwL a cA) (cty cA) B0 [.ref (a (4 + i0))] σ (p_K_upperBound σ i0, σ) := by
  refine cL_of (by decide) (Nat.le_of_ble_eq_true rfl) ?_
  intro p e s m args below meth c Q ls hx hb hF hl hs hret
  have hl : lv_has ls 6 [(0, .ref (a (4 + i0)))] := hl
  refine lv_aload_n hx hb d_K_upperBound_0 rfl (lv_at hl 0 rfl) ?_
  refine xg_K hx hb hF hs 1 (by decide) h_i0 k_fl_K_15 rfl d_K_upperBound_1 ?_
  refine lv_bipush (v := 12) hx hb d_K_upperBound_4 (by decide) ?_
  refine lv_iushr hx hb d_K_upperBound_6 rfl ?_
  refine lv_bipush (v := 31) hx hb d_K_upperBound_7 (by decide) ?_
  refine lv_iand hx hb d_K_upperBound_9 ?_
  refine lv_istore_n (lv' := [(1, _), (0, _)]) hx hb d_K_upperBound_10 rfl hl (by decide) rfl (fun ls hl => ?_)
  refine lv_aload_n hx hb d_K_upperBound_11 rfl (lv_at hl 1 rfl) ?_
  refine xg_K hx hb hF hs 1 (by decide) h_i0 k_fl_K_15 rfl d_K_upperBound_12 ?_
  refine lv_bipush (v := 17) hx hb d_K_upperBound_15 (by decide) ?_
  refine lv_iushr hx hb d_K_upperBound_17 rfl ?_
  refine lv_bipush (v := 127) hx hb d_K_upperBound_18 (by decide) ?_
  refine lv_iand hx hb d_K_upperBound_20 ?_
  refine lv_istore_n (lv' := [(2, _), (1, _), (0, _)]) hx hb d_K_upperBound_21 rfl hl (by decide) rfl (fun ls hl => ?_)
  refine lv_aload_n hx hb d_K_upperBound_22 rfl (lv_at hl 2 rfl) ?_
  refine xg_K hx hb hF hs 1 (by decide) h_i0 k_fl_K_15 rfl d_K_upperBound_23 ?_
  refine lv_bipush (v := 24) hx hb d_K_upperBound_26 (by decide) ?_
  refine lv_iushr hx hb d_K_upperBound_28 rfl ?_
  refine lv_bipush (v := 127) hx hb d_K_upperBound_29 (by decide) ?_
  refine lv_iand hx hb d_K_upperBound_31 ?_
  refine lv_istore_n (lv' := [(3, _), (2, _), (1, _), (0, _)]) hx hb d_K_upperBound_32 rfl hl (by decide) rfl (fun ls hl => ?_)
  refine lv_iload_n hx hb d_K_upperBound_33 rfl (lv_at hl 0 rfl) ?_
  refine lv_iload_n hx hb d_K_upperBound_34 rfl (lv_at hl 1 rfl) ?_
  refine lv_isub hx hb d_K_upperBound_35 ?_
  refine lv_bipush (v := 16) hx hb d_K_upperBound_36 (by decide) ?_
  refine lv_iadd hx hb d_K_upperBound_38 ?_
  refine lv_bipush (v := 127) hx hb d_K_upperBound_39 (by decide) ?_
  refine lv_iand hx hb d_K_upperBound_41 ?_
  refine lv_bipush (v := 16) hx hb d_K_upperBound_42 (by decide) ?_
  refine lv_isub hx hb d_K_upperBound_44 ?_
  refine lv_i2l hx hb d_K_upperBound_45 rfl ?_
  refine lv_lstore (lv' := [(4, _), (3, _), (2, _), (1, _), (0, _)]) hx hb d_K_upperBound_46 hl (by decide) rfl (fun ls hl => ?_)
  refine lv_aload_n hx hb d_K_upperBound_48 rfl (lv_at hl 4 rfl) ?_
  refine x_Vlp hF hs v_K_lowerBound k_ml_K_35 (m_K_lowerBound h_i0) rfl rfl ⟨by decide, by decide⟩ rfl rfl hl.1 (Nat.le_of_ble_eq_true rfl) (rK h_i0) d_K_upperBound_49 ⟨Nat.zero_le _, Nat.zero_le _⟩ (fun H locs hs => ?_)
  refine lv_lload hx hb d_K_upperBound_52 (lv_at hl 0 rfl) ?_
  refine lv_iload_n hx hb d_K_upperBound_54 rfl (lv_at hl 3 rfl) ?_
  refine lv_lshl hx hb d_K_upperBound_55 rfl ?_
  refine lv_ladd hx hb d_K_upperBound_56 ?_
  refine hret _ _ _ _ _ _ hs ?_ d_K_upperBound_57
  exact pr_eq (rfl)
def p_K_copy (σ : Mem) (i0 : Nat) (i1 : Nat) : Mem :=
  let σ1 : Mem := wr σ 2 i0 (bo (σ 2 i1));
  let σ2 : Mem := wr σ1 3 i0 (σ1 3 i1);
  let σ3 : Mem := wr σ2 4 i0 (σ2 4 i1);
  σ3
set_option maxHeartbeats 4000000 in
set_option maxRecDepth 100000 in
theorem m_K_copy {l : Launch} {D : va_G} {a : Nat → Nat} {cA : Nat → ClassId} {B0 : Nat → Prop} {σ : Mem} {i0 : Nat} {i1 : Nat} (h_i0 : i0 < 13) (h_i1 : i1 < 13) : cV l y_K_copy (.code y_K_copy c_K_copy 2 (none) :: TG) (rmO 0 0) D (cwL a cA) (cty cA) B0 [.ref (a (4 + i0)), .ref (a (4 + i1))] σ (p_K_copy σ i0 i1) := by
  refine cV_of (by decide) (Nat.le_of_ble_eq_true rfl) ?_
  intro p e s m args below meth c Q ls hx hb hF hl hs hret
  have hl : lv_has ls 2 [(0, .ref (a (4 + i0))), (1, .ref (a (4 + i1)))] := hl
  refine lv_aload_n hx hb d_K_copy_0 rfl (lv_at hl 0 rfl) ?_
  refine lv_aload_n hx hb d_K_copy_1 rfl (lv_at hl 1 rfl) ?_
  refine xg_K hx hb hF hs 0 (by decide) h_i1 k_fl_K_11 rfl d_K_copy_2 ?_
  refine xp_K2 hx hb hF hs h_i0 k_fl_K_11 (bo_bo _) d_K_copy_5 (fun H locs hs => ?_)
  refine lv_aload_n hx hb d_K_copy_8 rfl (lv_at hl 0 rfl) ?_
  refine lv_aload_n hx hb d_K_copy_9 rfl (lv_at hl 1 rfl) ?_
  refine xg_K hx hb hF hs 1 (by decide) h_i1 k_fl_K_15 rfl d_K_copy_10 ?_
  refine xp_K3 hx hb hF hs h_i0 k_fl_K_15 d_K_copy_13 (fun H locs hs => ?_)
  refine lv_aload_n hx hb d_K_copy_16 rfl (lv_at hl 0 rfl) ?_
  refine lv_aload_n hx hb d_K_copy_17 rfl (lv_at hl 1 rfl) ?_
  refine xg_K hx hb hF hs 2 (by decide) h_i1 k_fl_K_19 rfl d_K_copy_18 ?_
  refine xp_K4 hx hb hF hs h_i0 k_fl_K_19 d_K_copy_21 (fun H locs hs => ?_)
  refine hret _ _ _ _ _ hs ?_ d_K_copy_24
  exact rfl
def p_K_becomeNumber (σ : Mem) (i0 : Nat) (n1 : Int32) : Mem :=
  let σ1 : Mem := wr σ 2 i0 (0 : Int32);
  let σ2 : Mem := wr σ1 3 i0 (0 : Int32);
  let σ3 : Mem := wr σ2 4 i0 n1;
  σ3
set_option maxHeartbeats 4000000 in
set_option maxRecDepth 100000 in
theorem m_K_becomeNumber {l : Launch} {D : va_G} {a : Nat → Nat} {cA : Nat → ClassId} {B0 : Nat → Prop} {σ : Mem} {i0 : Nat} {n1 : Int32} (h_i0 : i0 < 13) : cV l y_K_becomeNumber (.code y_K_becomeNumber c_K_becomeNumber 2 (none) :: TG) (rmO 0 0) D (cwL a cA) (cty cA) B0 [.ref (a (4 + i0)), .int n1] σ (p_K_becomeNumber σ i0 n1) := by
  refine cV_of (by decide) (Nat.le_of_ble_eq_true rfl) ?_
  intro p e s m args below meth c Q ls hx hb hF hl hs hret
  have hl : lv_has ls 2 [(0, .ref (a (4 + i0))), (1, .int n1)] := hl
  refine lv_aload_n hx hb d_K_becomeNumber_0 rfl (lv_at hl 0 rfl) ?_
  refine lv_iconst (v := 0) hx hb d_K_becomeNumber_1 (by decide) ?_
  refine xp_K2 hx hb hF hs h_i0 k_fl_K_11 bo_0 d_K_becomeNumber_2 (fun H locs hs => ?_)
  refine lv_aload_n hx hb d_K_becomeNumber_5 rfl (lv_at hl 0 rfl) ?_
  refine lv_iconst (v := 0) hx hb d_K_becomeNumber_6 (by decide) ?_
  refine xp_K3 hx hb hF hs h_i0 k_fl_K_15 d_K_becomeNumber_7 (fun H locs hs => ?_)
  refine lv_aload_n hx hb d_K_becomeNumber_10 rfl (lv_at hl 0 rfl) ?_
  refine lv_iload_n hx hb d_K_becomeNumber_11 rfl (lv_at hl 1 rfl) ?_
  refine xp_K4 hx hb hF hs h_i0 k_fl_K_19 d_K_becomeNumber_12 (fun H locs hs => ?_)
  refine hret _ _ _ _ _ hs ?_ d_K_becomeNumber_15
  exact rfl
def p_K_move (σ : Mem) (i0 : Nat) (n1 : Int32) : Mem :=
  let σ1 : Mem := wr σ 4 i0 n1;
  if (p_K_isSealed σ1 i0) = (0 : Int32) then
    if (lg_cmp (p_K_lowerBound σ1 i0) (p_K_lowerBound σ i0)) = (0 : Int32) then
      if (lg_cmp (p_K_upperBound σ1 i0) (p_K_upperBound σ i0)) = (0 : Int32) then
        σ1
      else
        let σ4 : Mem := wr σ1 2 i0 (0 : Int32);
        σ4
    else
      let σ3 : Mem := wr σ1 2 i0 (0 : Int32);
      σ3
  else
    let σ2 : Mem := wr σ1 2 i0 (0 : Int32);
    σ2
set_option maxHeartbeats 4000000 in
set_option maxRecDepth 100000 in
theorem m_K_move {l : Launch} {D : va_G} {a : Nat → Nat} {cA : Nat → ClassId} {B0 : Nat → Prop} {σ : Mem} {i0 : Nat} {n1 : Int32} (h_i0 : i0 < 13) : cV l y_K_move (.code y_K_move c_K_move 6 (none) :: TG) (rmO 2 51) D (cwL a cA) (cty cA) B0 [.ref (a (4 + i0)), .int n1] σ (p_K_move σ i0 n1) := by
  refine cV_of (by decide) (Nat.le_of_ble_eq_true rfl) ?_
  intro p e s m args below meth c Q ls hx hb hF hl hs hret
  have hl : lv_has ls 6 [(0, .ref (a (4 + i0))), (1, .int n1)] := hl
  refine lv_aload_n hx hb d_K_move_0 rfl (lv_at hl 0 rfl) ?_
  refine x_Vlp hF hs v_K_lowerBound k_ml_K_35 (m_K_lowerBound h_i0) rfl rfl ⟨by decide, by decide⟩ rfl rfl hl.1 (Nat.le_of_ble_eq_true rfl) (rK h_i0) d_K_move_1 ⟨Nat.zero_le _, Nat.zero_le _⟩ (fun H locs hs => ?_)
  refine lv_lstore_n (lv' := [(2, _), (0, _), (1, _)]) hx hb d_K_move_4 rfl hl (by decide) rfl (fun ls hl => ?_)
  refine lv_aload_n hx hb d_K_move_5 rfl (lv_at hl 1 rfl) ?_
  refine x_Vlp hF hs v_K_upperBound k_ml_K_39 (m_K_upperBound h_i0) rfl rfl ⟨by decide, by decide⟩ rfl rfl hl.1 (Nat.le_of_ble_eq_true rfl) (rK h_i0) d_K_move_6 ⟨Nat.zero_le _, Nat.zero_le _⟩ (fun H locs hs => ?_)
  refine lv_lstore (lv' := [(4, _), (2, _), (0, _), (1, _)]) hx hb d_K_move_9 hl (by decide) rfl (fun ls hl => ?_)
  refine lv_aload_n hx hb d_K_move_11 rfl (lv_at hl 2 rfl) ?_
  refine lv_iload_n hx hb d_K_move_12 rfl (lv_at hl 3 rfl) ?_
  refine xp_K4 hx hb hF hs h_i0 k_fl_K_19 d_K_move_13 (fun H locs hs => ?_)
  refine lv_aload_n hx hb d_K_move_16 rfl (lv_at hl 2 rfl) ?_
  refine x_Vip hF hs v_K_isSealed k_ml_K_42 (m_K_isSealed h_i0) rfl rfl ⟨by decide, by decide⟩ rfl rfl hl.1 (Nat.le_of_ble_eq_true rfl) (rK h_i0) d_K_move_17 ⟨Nat.zero_le _, Nat.zero_le _⟩ (fun H locs hs => ?_)
  refine lv_if_ne (tgt := 42) hx hb d_K_move_20 (by decide) (fun h1 => ?_) (fun h1 => ?_)
  · refine lv_aload_n hx hb d_K_move_42 rfl (lv_at hl 2 rfl) ?_
    refine lv_iconst (v := 0) hx hb d_K_move_43 (by decide) ?_
    refine xp_K2 hx hb hF hs h_i0 k_fl_K_11 bo_0 d_K_move_44 (fun H locs hs => ?_)
    refine hret _ _ _ _ _ hs ?_ d_K_move_47
    exact (if_neg h1).trans rfl
  · refine lv_aload_n hx hb d_K_move_23 rfl (lv_at hl 2 rfl) ?_
    refine x_Vlp hF hs v_K_lowerBound k_ml_K_35 (m_K_lowerBound h_i0) rfl rfl ⟨by decide, by decide⟩ rfl rfl hl.1 (Nat.le_of_ble_eq_true rfl) (rK h_i0) d_K_move_24 ⟨Nat.zero_le _, Nat.zero_le _⟩ (fun H locs hs => ?_)
    refine lv_lload_n hx hb d_K_move_27 rfl (lv_at hl 1 rfl) ?_
    refine W.lcmp hx hb d_K_move_28 ?_
    refine lv_if_ne (tgt := 42) hx hb d_K_move_29 (by decide) (fun h2 => ?_) (fun h2 => ?_)
    · refine lv_aload_n hx hb d_K_move_42 rfl (lv_at hl 2 rfl) ?_
      refine lv_iconst (v := 0) hx hb d_K_move_43 (by decide) ?_
      refine xp_K2 hx hb hF hs h_i0 k_fl_K_11 bo_0 d_K_move_44 (fun H locs hs => ?_)
      refine hret _ _ _ _ _ hs ?_ d_K_move_47
      exact (if_pos h1).trans ((if_neg h2).trans rfl)
    · refine lv_aload_n hx hb d_K_move_32 rfl (lv_at hl 2 rfl) ?_
      refine x_Vlp hF hs v_K_upperBound k_ml_K_39 (m_K_upperBound h_i0) rfl rfl ⟨by decide, by decide⟩ rfl rfl hl.1 (Nat.le_of_ble_eq_true rfl) (rK h_i0) d_K_move_33 ⟨Nat.zero_le _, Nat.zero_le _⟩ (fun H locs hs => ?_)
      refine lv_lload hx hb d_K_move_36 (lv_at hl 0 rfl) ?_
      refine W.lcmp hx hb d_K_move_38 ?_
      refine lv_if_eq (tgt := 47) hx hb d_K_move_39 (by decide) (fun h3 => ?_) (fun h3 => ?_)
      · refine hret _ _ _ _ _ hs ?_ d_K_move_47
        exact (if_pos h1).trans ((if_pos h2).trans ((if_pos h3).trans rfl))
      · refine lv_aload_n hx hb d_K_move_42 rfl (lv_at hl 2 rfl) ?_
        refine lv_iconst (v := 0) hx hb d_K_move_43 (by decide) ?_
        refine xp_K2 hx hb hF hs h_i0 k_fl_K_11 bo_0 d_K_move_44 (fun H locs hs => ?_)
        refine hret _ _ _ _ _ hs ?_ d_K_move_47
        exact (if_pos h1).trans ((if_pos h2).trans ((if_neg h3).trans rfl))
end
section
/-- the E that is enough, found from 0 on -/
def bE (g1 g2 : Int64) : Nat → Int32 → Int32
  | 0, e => e
  | n + 1, e => if (31 : Int32) ≤ e then e else if (lg_cmp ((p_K_unitsUp g2 e) - ((g1 >>> ((e).toInt64 &&& 63)) : Int64)) (96 : Int64)) ≤ (0 : Int32) then e else bE g1 g2 n (e + 1)
def p_K_bound (σ : Mem) (i0 : Nat) (g1 g2 : Int64) : Mem :=
  let σ1 : Mem := wr σ 3 i0 (((((σ 3 i0) &&& (4095 : Int32)) ||| (((bE g1 g2 32 0) <<< ((12 : Int32) &&& 31)) : Int32)) ||| (((((g1 >>> (((bE g1 g2 32 0)).toInt64 &&& 63))).toInt32 &&& (127 : Int32)) <<< ((17 : Int32) &&& 31)) : Int32)) ||| (((((p_K_unitsUp g2 (bE g1 g2 32 0))).toInt32 &&& (127 : Int32)) <<< ((24 : Int32) &&& 31)) : Int32));
  σ1
set_option maxHeartbeats 4000000 in
set_option maxRecDepth 100000 in
theorem m_K_bound {l : Launch} {D : va_G} {a : Nat → Nat} {cA : Nat → ClassId} {B0 : Nat → Prop} {σ : Mem} {i0 : Nat} {g1 g2 : Int64} (h_i0 : i0 < 13) : cV l y_K_bound (.code y_K_bound c_K_bound 8 (none) :: TG) (rmO 1 22) D (cwL a cA) (cty cA) B0 [.ref (a (4 + i0)), .long g1, .long g2] σ (p_K_bound σ i0 g1 g2) := by
  refine cV_of (by decide) (Nat.le_of_ble_eq_true rfl) ?_
  intro p e s m args below meth c Q ls hx hb hF hl hs hret
  have hl : lv_has ls 8 [(0, .ref (a (4 + i0))), (1, .long g1), (3, .long g2)] := hl
  have fin : ∀ (x : Int32) (H : Heap) (locs : List Loc) (ls : Array Slot), bE g1 g2 32 0 = x → sS D (cwL a cA) B0 s σ H locs → lv_has ls 8 [(5, .int x), (0, .ref (a (4 + i0))), (1, .long g1), (3, .long g2)] → W p l e (rmO 1 22) s m args below meth c H locs 0 0 Q (F0 m 34 ls []) := by
    intro x H locs ls he hs hl
    subst he
    refine lv_lload_n hx hb d_K_bound_34 rfl (lv_at hl 2 rfl) ?_
    refine lv_iload hx hb d_K_bound_35 (lv_at hl 0 rfl) ?_
    refine lv_lshr hx hb d_K_bound_37 rfl ?_
    refine lv_l2i hx hb d_K_bound_38 rfl ?_
    refine lv_bipush (v := 127) hx hb d_K_bound_39 (by decide) ?_
    refine lv_iand hx hb d_K_bound_41 ?_
    refine lv_istore (lv' := [(6, _), (5, _), (0, _), (1, _), (3, _)]) hx hb d_K_bound_42 hl (by decide) rfl (fun ls hl => ?_)
    refine lv_lload_n hx hb d_K_bound_44 rfl (lv_at hl 4 rfl) ?_
    refine lv_iload hx hb d_K_bound_45 (lv_at hl 1 rfl) ?_
    refine x_Slp hF hs v_K_unitsUp k_ml_K_46 (m_K_unitsUp) rfl rfl ⟨by decide, by decide⟩ rfl rfl hl.1 (Nat.le_of_ble_eq_true rfl) d_K_bound_47 ⟨Nat.zero_le _, Nat.zero_le _⟩ (fun H locs hs => ?_)
    refine lv_l2i hx hb d_K_bound_50 rfl ?_
    refine lv_bipush (v := 127) hx hb d_K_bound_51 (by decide) ?_
    refine lv_iand hx hb d_K_bound_53 ?_
    refine lv_istore (lv' := [(7, _), (6, _), (5, _), (0, _), (1, _), (3, _)]) hx hb d_K_bound_54 hl (by decide) rfl (fun ls hl => ?_)
    refine lv_aload_n hx hb d_K_bound_56 rfl (lv_at hl 3 rfl) ?_
    refine lv_aload_n hx hb d_K_bound_57 rfl (lv_at hl 3 rfl) ?_
    refine xg_K hx hb hF hs 1 (by decide) h_i0 k_fl_K_15 rfl d_K_bound_58 ?_
    refine lv_sipush (v := 4095) hx hb d_K_bound_61 (by decide) ?_
    refine lv_iand hx hb d_K_bound_64 ?_
    refine lv_iload hx hb d_K_bound_65 (lv_at hl 2 rfl) ?_
    refine lv_bipush (v := 12) hx hb d_K_bound_67 (by decide) ?_
    refine lv_ishl hx hb d_K_bound_69 ?_
    refine lv_ior hx hb d_K_bound_70 ?_
    refine lv_iload hx hb d_K_bound_71 (lv_at hl 1 rfl) ?_
    refine lv_bipush (v := 17) hx hb d_K_bound_73 (by decide) ?_
    refine lv_ishl hx hb d_K_bound_75 ?_
    refine lv_ior hx hb d_K_bound_76 ?_
    refine lv_iload hx hb d_K_bound_77 (lv_at hl 0 rfl) ?_
    refine lv_bipush (v := 24) hx hb d_K_bound_79 (by decide) ?_
    refine lv_ishl hx hb d_K_bound_81 ?_
    refine lv_ior hx hb d_K_bound_82 ?_
    refine xp_K3 hx hb hF hs h_i0 k_fl_K_15 d_K_bound_83 (fun H locs hs => ?_)
    refine hret _ _ _ _ _ hs ?_ d_K_bound_86
    exact rfl
  have J : ∀ (n k : Nat), (k < 32 ∧ 31 < k + n) → bE g1 g2 n (nI k) = bE g1 g2 32 0 → ∀ (H : Heap) (locs : List Loc) (ls : Array Slot), sS D (cwL a cA) B0 s σ H locs → lv_has ls 8 [(5, .int (nI k)), (0, .ref (a (4 + i0))), (1, .long g1), (3, .long g2)] → W p l e (rmO 1 22) s m args below meth c H locs 0 0 Q (F0 m 3 ls []) := by
    intro n
    induction n with
    | zero => intro k hk; omega
    | succ n ih =>
      intro k hk he H locs ls hs hl
      refine lv_iload hx hb d_K_bound_3 (lv_at hl 0 rfl) ?_
      refine lv_bipush (v := 31) hx hb d_K_bound_5 (by decide) ?_
      refine lv_icmp_ge (tgt := 34) hx hb d_K_bound_7 (by decide) (fun h1 => ?_) (fun h1 => ?_)
      · exact fin _ _ _ _ (he.symm.trans ((if_pos h1).trans rfl)) hs hl
      · refine lv_lload_n hx hb d_K_bound_10 rfl (lv_at hl 3 rfl) ?_
        refine lv_iload hx hb d_K_bound_11 (lv_at hl 0 rfl) ?_
        refine x_Slp hF hs v_K_unitsUp k_ml_K_46 (m_K_unitsUp) rfl rfl ⟨by decide, by decide⟩ rfl rfl hl.1 (Nat.le_of_ble_eq_true rfl) d_K_bound_13 ⟨Nat.zero_le _, Nat.zero_le _⟩ (fun H locs hs => ?_)
        refine lv_lload_n hx hb d_K_bound_16 rfl (lv_at hl 2 rfl) ?_
        refine lv_iload hx hb d_K_bound_17 (lv_at hl 0 rfl) ?_
        refine lv_lshr hx hb d_K_bound_19 rfl ?_
        refine lv_lsub hx hb d_K_bound_20 ?_
        refine x_ldc2 hx hb hF k_cL_K_50 d_K_bound_21 ?_
        refine W.lcmp hx hb d_K_bound_24 ?_
        refine lv_if_le (tgt := 34) hx hb d_K_bound_25 (by decide) (fun h2 => ?_) (fun h2 => ?_)
        · exact fin _ _ _ _ (he.symm.trans ((if_neg h1).trans ((if_pos h2).trans rfl))) hs hl
        · refine lv_iinc (k := 0) (v := (nI (k + 1))) (lv' := [(5, _), (0, _), (1, _), (3, _)]) hx hb d_K_bound_28 hl rfl (by rw [nI_succ]; rfl) (by decide) rfl (fun ls hl => ?_)
          refine lv_goto (tgt := 3) hx hb d_K_bound_31 (by decide) ?_
          exact ih (k + 1) (sh_up hk h1) (by rw [nI_succ]; exact (Eq.symm ((if_neg h1).trans ((if_neg h2).trans rfl))).trans he) _ _ _ hs hl
  refine lv_iconst (v := 0) hx hb d_K_bound_0 (by decide) ?_
  refine lv_istore (lv' := [(5, _), (0, _), (1, _), (3, _)]) hx hb d_K_bound_1 hl (by decide) rfl (fun ls hl => ?_)
  exact J 32 0 (by decide) rfl _ _ _ hs hl
end
section
def p_K_becomeRoot (σ : Mem) (i0 : Nat) (n1 : Int32) : Mem :=
  let σ1 : Mem := wr σ 2 i0 (1 : Int32);
  let σ2 : Mem := wr σ1 3 i0 (255 : Int32);
  let σ3 : Mem := p_K_bound σ2 i0 (0 : Int64) (1024 : Int64);
  let σ4 : Mem := wr σ3 4 i0 n1;
  σ4
set_option maxHeartbeats 4000000 in
set_option maxRecDepth 100000 in
theorem m_K_becomeRoot {l : Launch} {D : va_G} {a : Nat → Nat} {cA : Nat → ClassId} {B0 : Nat → Prop} {σ : Mem} {i0 : Nat} {n1 : Int32} (h_i0 : i0 < 13) : cV l y_K_becomeRoot (.code y_K_becomeRoot c_K_becomeRoot 2 (none) :: TG) (rmO 2 49) D (cwL a cA) (cty cA) B0 [.ref (a (4 + i0)), .int n1] σ (p_K_becomeRoot σ i0 n1) := by
  refine cV_of (by decide) (Nat.le_of_ble_eq_true rfl) ?_
  intro p e s m args below meth c Q ls hx hb hF hl hs hret
  have hl : lv_has ls 2 [(0, .ref (a (4 + i0))), (1, .int n1)] := hl
  refine lv_aload_n hx hb d_K_becomeRoot_0 rfl (lv_at hl 0 rfl) ?_
  refine lv_iconst (v := 1) hx hb d_K_becomeRoot_1 (by decide) ?_
  refine xp_K2 hx hb hF hs h_i0 k_fl_K_11 bo_1 d_K_becomeRoot_2 (fun H locs hs => ?_)
  refine lv_aload_n hx hb d_K_becomeRoot_5 rfl (lv_at hl 0 rfl) ?_
  refine lv_sipush (v := 255) hx hb d_K_becomeRoot_6 (by decide) ?_
  refine xp_K3 hx hb hF hs h_i0 k_fl_K_15 d_K_becomeRoot_9 (fun H locs hs => ?_)
  refine lv_aload_n hx hb d_K_becomeRoot_12 rfl (lv_at hl 0 rfl) ?_
  refine lv_lconst (v := 0) hx hb d_K_becomeRoot_13 (by decide) ?_
  refine x_ldc2 hx hb hF k_cL_K_22 d_K_becomeRoot_14 ?_
  refine x_Vv hF hs v_K_bound k_ml_K_24 (m_K_bound h_i0) rfl rfl ⟨by decide, by decide⟩ rfl rfl hl.1 (Nat.le_of_ble_eq_true rfl) (rK h_i0) d_K_becomeRoot_17 ⟨Nat.zero_le _, Nat.zero_le _⟩ (fun H locs hs => ?_)
  refine lv_aload_n hx hb d_K_becomeRoot_20 rfl (lv_at hl 0 rfl) ?_
  refine lv_iload_n hx hb d_K_becomeRoot_21 rfl (lv_at hl 1 rfl) ?_
  refine xp_K4 hx hb hF hs h_i0 k_fl_K_19 d_K_becomeRoot_22 (fun H locs hs => ?_)
  refine hret _ _ _ _ _ hs ?_ d_K_becomeRoot_25
  exact rfl
end
section
def p_X_isWord (n1 : Int32) : Int32 :=
  if n1 < (0 : Int32) then
    (0 : Int32)
  else
    if (256 : Int32) ≤ n1 then
      (0 : Int32)
    else
      (1 : Int32)
set_option maxHeartbeats 4000000 in
set_option maxRecDepth 100000 in
theorem m_X_isWord {l : Launch} {D : va_G} {a : Nat → Nat} {cA : Nat → ClassId} {B0 : Nat → Prop} {σ : Mem} {n1 : Int32} : cI l y_X_isWord (.code y_X_isWord c_X_isWord 1 (some FieldType.boolean) :: TG) (rmO 0 0) D (cwL a cA) (cty cA) B0 [.int n1] σ (p_X_isWord n1, σ) := by
  refine cZ_of (by decide) (Nat.le_of_ble_eq_true rfl) ?_
  intro p e s m args below meth c Q ls hx hb hF hl hs hret
  have hl : lv_has ls 1 [(0, .int n1)] := hl
  refine lv_iload_n hx hb d_X_isWord_0 rfl (lv_at hl 0 rfl) ?_
  refine lv_if_lt (tgt := 15) hx hb d_X_isWord_1 (by decide) (fun h1 => ?_) (fun h1 => ?_)
  · refine lv_iconst (v := 0) hx hb d_X_isWord_15 (by decide) ?_
    refine hret _ _ _ _ _ _ hs bo_0 ?_ d_X_isWord_16
    exact pr_eq ((if_pos h1).trans rfl)
  · refine lv_iload_n hx hb d_X_isWord_4 rfl (lv_at hl 0 rfl) ?_
    refine lv_sipush (v := 256) hx hb d_X_isWord_5 (by decide) ?_
    refine lv_icmp_ge (tgt := 15) hx hb d_X_isWord_8 (by decide) (fun h2 => ?_) (fun h2 => ?_)
    · refine lv_iconst (v := 0) hx hb d_X_isWord_15 (by decide) ?_
      refine hret _ _ _ _ _ _ hs bo_0 ?_ d_X_isWord_16
      exact pr_eq ((if_neg h1).trans ((if_pos h2).trans rfl))
    · refine lv_iconst (v := 1) hx hb d_X_isWord_11 (by decide) ?_
      refine lv_goto (tgt := 16) hx hb d_X_isWord_12 (by decide) ?_
      refine hret _ _ _ _ _ _ hs bo_1 ?_ d_X_isWord_16
      exact pr_eq ((if_neg h1).trans ((if_neg h2).trans rfl))
def p_X_isRegister (n1 : Int32) : Int32 :=
  if n1 < (0 : Int32) then
    (0 : Int32)
  else
    if (12 : Int32) ≤ n1 then
      (0 : Int32)
    else
      (1 : Int32)
set_option maxHeartbeats 4000000 in
set_option maxRecDepth 100000 in
theorem m_X_isRegister {l : Launch} {D : va_G} {a : Nat → Nat} {cA : Nat → ClassId} {B0 : Nat → Prop} {σ : Mem} {n1 : Int32} : cI l y_X_isRegister (.code y_X_isRegister c_X_isRegister 1 (some FieldType.boolean) :: TG) (rmO 0 0) D (cwL a cA) (cty cA) B0 [.int n1] σ (p_X_isRegister n1, σ) := by
  refine cZ_of (by decide) (Nat.le_of_ble_eq_true rfl) ?_
  intro p e s m args below meth c Q ls hx hb hF hl hs hret
  have hl : lv_has ls 1 [(0, .int n1)] := hl
  refine lv_iload_n hx hb d_X_isRegister_0 rfl (lv_at hl 0 rfl) ?_
  refine lv_if_lt (tgt := 14) hx hb d_X_isRegister_1 (by decide) (fun h1 => ?_) (fun h1 => ?_)
  · refine lv_iconst (v := 0) hx hb d_X_isRegister_14 (by decide) ?_
    refine hret _ _ _ _ _ _ hs bo_0 ?_ d_X_isRegister_15
    exact pr_eq ((if_pos h1).trans rfl)
  · refine lv_iload_n hx hb d_X_isRegister_4 rfl (lv_at hl 0 rfl) ?_
    refine lv_bipush (v := 12) hx hb d_X_isRegister_5 (by decide) ?_
    refine lv_icmp_ge (tgt := 14) hx hb d_X_isRegister_7 (by decide) (fun h2 => ?_) (fun h2 => ?_)
    · refine lv_iconst (v := 0) hx hb d_X_isRegister_14 (by decide) ?_
      refine hret _ _ _ _ _ _ hs bo_0 ?_ d_X_isRegister_15
      exact pr_eq ((if_neg h1).trans ((if_pos h2).trans rfl))
    · refine lv_iconst (v := 1) hx hb d_X_isRegister_10 (by decide) ?_
      refine lv_goto (tgt := 15) hx hb d_X_isRegister_11 (by decide) ?_
      refine hret _ _ _ _ _ _ hs bo_1 ?_ d_X_isRegister_15
      exact pr_eq ((if_neg h1).trans ((if_neg h2).trans rfl))
def p_X_trapOf (n1 : Int32) (n2 : Int32) : Int32 :=
  (n2 + (((16 : Int32) * (n1 : Int32)) : Int32))
set_option maxHeartbeats 4000000 in
set_option maxRecDepth 100000 in
theorem m_X_trapOf {l : Launch} {D : va_G} {a : Nat → Nat} {cA : Nat → ClassId} {B0 : Nat → Prop} {σ : Mem} {n1 : Int32} {n2 : Int32} : cI l y_X_trapOf (.code y_X_trapOf c_X_trapOf 2 (some FieldType.int) :: TG) (rmO 0 0) D (cwL a cA) (cty cA) B0 [.int n1, .int n2] σ (p_X_trapOf n1 n2, σ) := by
  refine cI_of (by decide) (Nat.le_of_ble_eq_true rfl) ?_
  intro p e s m args below meth c Q ls hx hb hF hl hs hret
  have hl : lv_has ls 2 [(0, .int n1), (1, .int n2)] := hl
  refine lv_iload_n hx hb d_X_trapOf_0 rfl (lv_at hl 1 rfl) ?_
  refine lv_bipush (v := 16) hx hb d_X_trapOf_1 (by decide) ?_
  refine lv_iload_n hx hb d_X_trapOf_3 rfl (lv_at hl 0 rfl) ?_
  refine lv_imul hx hb d_X_trapOf_4 ?_
  refine lv_iadd hx hb d_X_trapOf_5 ?_
  refine hret _ _ _ _ _ _ hs ?_ d_X_trapOf_6
  exact pr_eq (rfl)
def p_X_check (σ : Mem) (n1 : Int32) (n2 : Int32) (n3 : Int32) (n4 : Int32) : Int32 :=
  if (bo (σ 2 (n1.toNatClampNeg))) = (0 : Int32) then
    (p_X_trapOf n1 (1 : Int32))
  else
    if (p_K_isSealed σ (n1.toNatClampNeg)) = (0 : Int32) then
      if (p_K_permits σ (n1.toNatClampNeg) n2) = (0 : Int32) then
        (p_X_trapOf n1 (3 : Int32))
      else
        if (n4 &&& ((n3 - (1 : Int32)) : Int32)) = (0 : Int32) then
          if (lg_cmp ((n4).toInt64 &&& (4294967295 : Int64)) (p_K_lowerBound σ (n1.toNatClampNeg))) < (0 : Int32) then
            (p_X_trapOf n1 (5 : Int32))
          else
            if (lg_cmp (((n4).toInt64 &&& (4294967295 : Int64)) + ((n3).toInt64 : Int64)) (p_K_upperBound σ (n1.toNatClampNeg))) ≤ (0 : Int32) then
              if (lg_cmp (((n4).toInt64 &&& (4294967295 : Int64)) + ((n3).toInt64 : Int64)) (1024 : Int64)) ≤ (0 : Int32) then
                (0 : Int32)
              else
                (p_X_trapOf n1 (6 : Int32))
            else
              (p_X_trapOf n1 (5 : Int32))
        else
          (p_X_trapOf n1 (4 : Int32))
    else
      (p_X_trapOf n1 (2 : Int32))
set_option maxHeartbeats 4000000 in
set_option maxRecDepth 100000 in
theorem m_X_check {l : Launch} {D : va_G} {a : Nat → Nat} {cA : Nat → ClassId} {B0 : Nat → Prop} {σ : Mem} {n1 : Int32} {n2 : Int32} {n3 : Int32} {n4 : Int32} (h_n1 : vp_in n1 12) : cI l y_X_check (.code y_X_check c_X_check 8 (some FieldType.int) :: TG) (rmO 2 51) D (cwL a cA) (cty cA) B0 [.ref (a 0), .int n1, .int n2, .int n3, .int n4] σ (p_X_check σ n1 n2 n3 n4, σ) := by
  refine cI_of (by decide) (Nat.le_of_ble_eq_true rfl) ?_
  intro p e s m args below meth c Q ls hx hb hF hl hs hret
  have hl : lv_has ls 8 [(0, .ref (a 0)), (1, .int n1), (2, .int n2), (3, .int n3), (4, .int n4)] := hl
  refine lv_aload_n hx hb d_X_check_0 rfl (lv_at hl 0 rfl) ?_
  refine xg_X hx hb hF hs 2 (by decide) k_fl_X_19 rfl d_X_check_1 ?_
  refine lv_iload_n hx hb d_X_check_4 rfl (lv_at hl 1 rfl) ?_
  refine xr_ld hx hb hF hs h_n1 d_X_check_5 ?_
  refine lv_astore (lv' := [(5, _), (0, _), (1, _), (2, _), (3, _), (4, _)]) hx hb d_X_check_6 hl (by decide) rfl (fun ls hl => ?_)
  refine lv_iload hx hb d_X_check_8 (lv_at hl 5 rfl) ?_
  refine lv_i2l hx hb d_X_check_10 rfl ?_
  refine x_ldc2 hx hb hF k_cL_X_104 d_X_check_11 ?_
  refine lv_land hx hb d_X_check_14 ?_
  refine lv_lstore (lv' := [(6, _), (5, _), (0, _), (1, _), (2, _), (3, _), (4, _)]) hx hb d_X_check_15 hl (by decide) rfl (fun ls hl => ?_)
  refine lv_aload hx hb d_X_check_17 (lv_at hl 1 rfl) ?_
  refine xg_N2 hx hb hF hs (in13 h_n1) d_X_check_19 ?_
  refine lv_if_ne (tgt := 31) hx hb d_X_check_22 (by decide) (fun h1 => ?_) (fun h1 => ?_)
  · refine lv_aload hx hb d_X_check_31 (lv_at hl 1 rfl) ?_
    refine x_Vip hF hs v_K_isSealed k_ml_X_97 (m_K_isSealed (in13 h_n1)) rfl rfl ⟨by decide, by decide⟩ rfl rfl hl.1 (Nat.le_of_ble_eq_true rfl) (rK (in13 h_n1)) d_X_check_33 ⟨Nat.zero_le _, Nat.zero_le _⟩ (fun H locs hs => ?_)
    refine lv_if_eq (tgt := 45) hx hb d_X_check_36 (by decide) (fun h2 => ?_) (fun h2 => ?_)
    · refine lv_aload hx hb d_X_check_45 (lv_at hl 1 rfl) ?_
      refine lv_iload_n hx hb d_X_check_47 rfl (lv_at hl 4 rfl) ?_
      refine x_Vip hF hs v_K_permits k_ml_X_101 (m_K_permits (in13 h_n1)) rfl rfl ⟨by decide, by decide⟩ rfl rfl hl.1 (Nat.le_of_ble_eq_true rfl) (rK (in13 h_n1)) d_X_check_48 ⟨Nat.zero_le _, Nat.zero_le _⟩ (fun H locs hs => ?_)
      refine lv_if_ne (tgt := 60) hx hb d_X_check_51 (by decide) (fun h3 => ?_) (fun h3 => ?_)
      · refine lv_iload hx hb d_X_check_60 (lv_at hl 6 rfl) ?_
        refine lv_iload_n hx hb d_X_check_62 rfl (lv_at hl 5 rfl) ?_
        refine lv_iconst (v := 1) hx hb d_X_check_63 (by decide) ?_
        refine lv_isub hx hb d_X_check_64 ?_
        refine lv_iand hx hb d_X_check_65 ?_
        refine lv_if_eq (tgt := 75) hx hb d_X_check_66 (by decide) (fun h4 => ?_) (fun h4 => ?_)
        · refine lv_lload hx hb d_X_check_75 (lv_at hl 0 rfl) ?_
          refine lv_aload hx hb d_X_check_77 (lv_at hl 1 rfl) ?_
          refine x_Vlp hF hs v_K_lowerBound k_ml_X_72 (m_K_lowerBound (in13 h_n1)) rfl rfl ⟨by decide, by decide⟩ rfl rfl hl.1 (Nat.le_of_ble_eq_true rfl) (rK (in13 h_n1)) d_X_check_79 ⟨Nat.zero_le _, Nat.zero_le _⟩ (fun H locs hs => ?_)
          refine W.lcmp hx hb d_X_check_82 ?_
          refine lv_if_lt (tgt := 100) hx hb d_X_check_83 (by decide) (fun h5 => ?_) (fun h5 => ?_)
          · refine lv_iload_n hx hb d_X_check_100 rfl (lv_at hl 3 rfl) ?_
            refine lv_iconst (v := 5) hx hb d_X_check_101 (by decide) ?_
            refine x_Sip hF hs v_X_trapOf k_ml_X_106 (m_X_trapOf) rfl rfl ⟨by decide, by decide⟩ rfl rfl hl.1 (Nat.le_of_ble_eq_true rfl) d_X_check_102 ⟨Nat.zero_le _, Nat.zero_le _⟩ (fun H locs hs => ?_)
            refine hret _ _ _ _ _ _ hs ?_ d_X_check_105
            exact pr_eq ((if_neg h1).trans ((if_pos h2).trans ((if_neg h3).trans ((if_pos h4).trans ((if_pos h5).trans rfl)))))
          · refine lv_lload hx hb d_X_check_86 (lv_at hl 0 rfl) ?_
            refine lv_iload_n hx hb d_X_check_88 rfl (lv_at hl 5 rfl) ?_
            refine lv_i2l hx hb d_X_check_89 rfl ?_
            refine lv_ladd hx hb d_X_check_90 ?_
            refine lv_aload hx hb d_X_check_91 (lv_at hl 1 rfl) ?_
            refine x_Vlp hF hs v_K_upperBound k_ml_X_76 (m_K_upperBound (in13 h_n1)) rfl rfl ⟨by decide, by decide⟩ rfl rfl hl.1 (Nat.le_of_ble_eq_true rfl) (rK (in13 h_n1)) d_X_check_93 ⟨Nat.zero_le _, Nat.zero_le _⟩ (fun H locs hs => ?_)
            refine W.lcmp hx hb d_X_check_96 ?_
            refine lv_if_le (tgt := 106) hx hb d_X_check_97 (by decide) (fun h6 => ?_) (fun h6 => ?_)
            · refine lv_lload hx hb d_X_check_106 (lv_at hl 0 rfl) ?_
              refine lv_iload_n hx hb d_X_check_108 rfl (lv_at hl 5 rfl) ?_
              refine lv_i2l hx hb d_X_check_109 rfl ?_
              refine lv_ladd hx hb d_X_check_110 ?_
              refine x_ldc2 hx hb hF k_cL_X_110 d_X_check_111 ?_
              refine W.lcmp hx hb d_X_check_114 ?_
              refine lv_if_le (tgt := 125) hx hb d_X_check_115 (by decide) (fun h7 => ?_) (fun h7 => ?_)
              · refine lv_iconst (v := 0) hx hb d_X_check_125 (by decide) ?_
                refine hret _ _ _ _ _ _ hs ?_ d_X_check_126
                exact pr_eq ((if_neg h1).trans ((if_pos h2).trans ((if_neg h3).trans ((if_pos h4).trans ((if_neg h5).trans ((if_pos h6).trans ((if_pos h7).trans rfl)))))))
              · refine lv_iload_n hx hb d_X_check_118 rfl (lv_at hl 3 rfl) ?_
                refine lv_bipush (v := 6) hx hb d_X_check_119 (by decide) ?_
                refine x_Sip hF hs v_X_trapOf k_ml_X_106 (m_X_trapOf) rfl rfl ⟨by decide, by decide⟩ rfl rfl hl.1 (Nat.le_of_ble_eq_true rfl) d_X_check_121 ⟨Nat.zero_le _, Nat.zero_le _⟩ (fun H locs hs => ?_)
                refine hret _ _ _ _ _ _ hs ?_ d_X_check_124
                exact pr_eq ((if_neg h1).trans ((if_pos h2).trans ((if_neg h3).trans ((if_pos h4).trans ((if_neg h5).trans ((if_pos h6).trans ((if_neg h7).trans rfl)))))))
            · refine lv_iload_n hx hb d_X_check_100 rfl (lv_at hl 3 rfl) ?_
              refine lv_iconst (v := 5) hx hb d_X_check_101 (by decide) ?_
              refine x_Sip hF hs v_X_trapOf k_ml_X_106 (m_X_trapOf) rfl rfl ⟨by decide, by decide⟩ rfl rfl hl.1 (Nat.le_of_ble_eq_true rfl) d_X_check_102 ⟨Nat.zero_le _, Nat.zero_le _⟩ (fun H locs hs => ?_)
              refine hret _ _ _ _ _ _ hs ?_ d_X_check_105
              exact pr_eq ((if_neg h1).trans ((if_pos h2).trans ((if_neg h3).trans ((if_pos h4).trans ((if_neg h5).trans ((if_neg h6).trans rfl))))))
        · refine lv_iload_n hx hb d_X_check_69 rfl (lv_at hl 3 rfl) ?_
          refine lv_iconst (v := 4) hx hb d_X_check_70 (by decide) ?_
          refine x_Sip hF hs v_X_trapOf k_ml_X_106 (m_X_trapOf) rfl rfl ⟨by decide, by decide⟩ rfl rfl hl.1 (Nat.le_of_ble_eq_true rfl) d_X_check_71 ⟨Nat.zero_le _, Nat.zero_le _⟩ (fun H locs hs => ?_)
          refine hret _ _ _ _ _ _ hs ?_ d_X_check_74
          exact pr_eq ((if_neg h1).trans ((if_pos h2).trans ((if_neg h3).trans ((if_neg h4).trans rfl))))
      · refine lv_iload_n hx hb d_X_check_54 rfl (lv_at hl 3 rfl) ?_
        refine lv_iconst (v := 3) hx hb d_X_check_55 (by decide) ?_
        refine x_Sip hF hs v_X_trapOf k_ml_X_106 (m_X_trapOf) rfl rfl ⟨by decide, by decide⟩ rfl rfl hl.1 (Nat.le_of_ble_eq_true rfl) d_X_check_56 ⟨Nat.zero_le _, Nat.zero_le _⟩ (fun H locs hs => ?_)
        refine hret _ _ _ _ _ _ hs ?_ d_X_check_59
        exact pr_eq ((if_neg h1).trans ((if_pos h2).trans ((if_pos h3).trans rfl)))
    · refine lv_iload_n hx hb d_X_check_39 rfl (lv_at hl 3 rfl) ?_
      refine lv_iconst (v := 2) hx hb d_X_check_40 (by decide) ?_
      refine x_Sip hF hs v_X_trapOf k_ml_X_106 (m_X_trapOf) rfl rfl ⟨by decide, by decide⟩ rfl rfl hl.1 (Nat.le_of_ble_eq_true rfl) d_X_check_41 ⟨Nat.zero_le _, Nat.zero_le _⟩ (fun H locs hs => ?_)
      refine hret _ _ _ _ _ _ hs ?_ d_X_check_44
      exact pr_eq ((if_neg h1).trans ((if_neg h2).trans rfl))
  · refine lv_iload_n hx hb d_X_check_25 rfl (lv_at hl 3 rfl) ?_
    refine lv_iconst (v := 1) hx hb d_X_check_26 (by decide) ?_
    refine x_Sip hF hs v_X_trapOf k_ml_X_106 (m_X_trapOf) rfl rfl ⟨by decide, by decide⟩ rfl rfl hl.1 (Nat.le_of_ble_eq_true rfl) d_X_check_27 ⟨Nat.zero_le _, Nat.zero_le _⟩ (fun H locs hs => ?_)
    refine hret _ _ _ _ _ _ hs ?_ d_X_check_30
    exact pr_eq ((if_pos h1).trans rfl)
def p_X_compute (n1 : Int32) (n2 : Int32) (n3 : Int32) (n4 : Int32) : Int32 :=
  if n1 = (1 : Int32) then
    (n2 + (n4 : Int32))
  else
  if n1 = (2 : Int32) then
    (n2 + (n3 : Int32))
  else
  if n1 = (3 : Int32) then
    (n2 - (n3 : Int32))
  else
  if n1 = (4 : Int32) then
    (n2 &&& (n3 : Int32))
  else
  if n1 = (5 : Int32) then
    (n2 ||| (n3 : Int32))
  else
  if n1 = (6 : Int32) then
    (n2 ^^^ (n3 : Int32))
  else
  if n1 = (7 : Int32) then
    (n2 <<< ((n3 &&& (31 : Int32)) &&& 31))
  else
  if n1 = (8 : Int32) then
    (((n2).toUInt32 >>> (((n3 &&& (31 : Int32))).toUInt32 &&& Int32.toUInt32 31)).toInt32)
  else
  if n1 = (9 : Int32) then
    if n3 ≤ n2 then
      (0 : Int32)
    else
      (1 : Int32)
  else
    (n4 <<< ((14 : Int32) &&& 31))
set_option maxHeartbeats 4000000 in
set_option maxRecDepth 100000 in
theorem m_X_compute {l : Launch} {D : va_G} {a : Nat → Nat} {cA : Nat → ClassId} {B0 : Nat → Prop} {σ : Mem} {n1 : Int32} {n2 : Int32} {n3 : Int32} {n4 : Int32} : cI l y_X_compute (.code y_X_compute c_X_compute 4 (some FieldType.int) :: TG) (rmO 0 0) D (cwL a cA) (cty cA) B0 [.int n1, .int n2, .int n3, .int n4] σ (p_X_compute n1 n2 n3 n4, σ) := by
  refine cI_of (by decide) (Nat.le_of_ble_eq_true rfl) ?_
  intro p e s m args below meth c Q ls hx hb hF hl hs hret
  have hl : lv_has ls 4 [(0, .int n1), (1, .int n2), (2, .int n3), (3, .int n4)] := hl
  refine lv_iload_n hx hb d_X_compute_0 rfl (lv_at hl 0 rfl) ?_
  by_cases h1 : n1 = (1 : Int32)
  · refine lv_tableIn (tgt := 52) (off := 51) hx hb d_X_compute_1 (by rw [h1]; decide) (by rw [h1]; decide) (by rw [h1]; rfl) (by decide) ?_
    refine lv_iload_n hx hb d_X_compute_52 rfl (lv_at hl 1 rfl) ?_
    refine lv_iload_n hx hb d_X_compute_53 rfl (lv_at hl 3 rfl) ?_
    refine lv_iadd hx hb d_X_compute_54 ?_
    refine hret _ _ _ _ _ _ hs ?_ d_X_compute_55
    exact pr_eq ((if_pos h1).trans rfl)
  by_cases h2 : n1 = (2 : Int32)
  · refine lv_tableIn (tgt := 56) (off := 55) hx hb d_X_compute_1 (by rw [h2]; decide) (by rw [h2]; decide) (by rw [h2]; rfl) (by decide) ?_
    refine lv_iload_n hx hb d_X_compute_56 rfl (lv_at hl 1 rfl) ?_
    refine lv_iload_n hx hb d_X_compute_57 rfl (lv_at hl 2 rfl) ?_
    refine lv_iadd hx hb d_X_compute_58 ?_
    refine hret _ _ _ _ _ _ hs ?_ d_X_compute_59
    exact pr_eq ((if_neg h1).trans ((if_pos h2).trans rfl))
  by_cases h3 : n1 = (3 : Int32)
  · refine lv_tableIn (tgt := 60) (off := 59) hx hb d_X_compute_1 (by rw [h3]; decide) (by rw [h3]; decide) (by rw [h3]; rfl) (by decide) ?_
    refine lv_iload_n hx hb d_X_compute_60 rfl (lv_at hl 1 rfl) ?_
    refine lv_iload_n hx hb d_X_compute_61 rfl (lv_at hl 2 rfl) ?_
    refine lv_isub hx hb d_X_compute_62 ?_
    refine hret _ _ _ _ _ _ hs ?_ d_X_compute_63
    exact pr_eq ((if_neg h1).trans ((if_neg h2).trans ((if_pos h3).trans rfl)))
  by_cases h4 : n1 = (4 : Int32)
  · refine lv_tableIn (tgt := 64) (off := 63) hx hb d_X_compute_1 (by rw [h4]; decide) (by rw [h4]; decide) (by rw [h4]; rfl) (by decide) ?_
    refine lv_iload_n hx hb d_X_compute_64 rfl (lv_at hl 1 rfl) ?_
    refine lv_iload_n hx hb d_X_compute_65 rfl (lv_at hl 2 rfl) ?_
    refine lv_iand hx hb d_X_compute_66 ?_
    refine hret _ _ _ _ _ _ hs ?_ d_X_compute_67
    exact pr_eq ((if_neg h1).trans ((if_neg h2).trans ((if_neg h3).trans ((if_pos h4).trans rfl))))
  by_cases h5 : n1 = (5 : Int32)
  · refine lv_tableIn (tgt := 68) (off := 67) hx hb d_X_compute_1 (by rw [h5]; decide) (by rw [h5]; decide) (by rw [h5]; rfl) (by decide) ?_
    refine lv_iload_n hx hb d_X_compute_68 rfl (lv_at hl 1 rfl) ?_
    refine lv_iload_n hx hb d_X_compute_69 rfl (lv_at hl 2 rfl) ?_
    refine lv_ior hx hb d_X_compute_70 ?_
    refine hret _ _ _ _ _ _ hs ?_ d_X_compute_71
    exact pr_eq ((if_neg h1).trans ((if_neg h2).trans ((if_neg h3).trans ((if_neg h4).trans ((if_pos h5).trans rfl)))))
  by_cases h6 : n1 = (6 : Int32)
  · refine lv_tableIn (tgt := 72) (off := 71) hx hb d_X_compute_1 (by rw [h6]; decide) (by rw [h6]; decide) (by rw [h6]; rfl) (by decide) ?_
    refine lv_iload_n hx hb d_X_compute_72 rfl (lv_at hl 1 rfl) ?_
    refine lv_iload_n hx hb d_X_compute_73 rfl (lv_at hl 2 rfl) ?_
    refine lv_ixor hx hb d_X_compute_74 ?_
    refine hret _ _ _ _ _ _ hs ?_ d_X_compute_75
    exact pr_eq ((if_neg h1).trans ((if_neg h2).trans ((if_neg h3).trans ((if_neg h4).trans ((if_neg h5).trans ((if_pos h6).trans rfl))))))
  by_cases h7 : n1 = (7 : Int32)
  · refine lv_tableIn (tgt := 76) (off := 75) hx hb d_X_compute_1 (by rw [h7]; decide) (by rw [h7]; decide) (by rw [h7]; rfl) (by decide) ?_
    refine lv_iload_n hx hb d_X_compute_76 rfl (lv_at hl 1 rfl) ?_
    refine lv_iload_n hx hb d_X_compute_77 rfl (lv_at hl 2 rfl) ?_
    refine lv_bipush (v := 31) hx hb d_X_compute_78 (by decide) ?_
    refine lv_iand hx hb d_X_compute_80 ?_
    refine lv_ishl hx hb d_X_compute_81 ?_
    refine hret _ _ _ _ _ _ hs ?_ d_X_compute_82
    exact pr_eq ((if_neg h1).trans ((if_neg h2).trans ((if_neg h3).trans ((if_neg h4).trans ((if_neg h5).trans ((if_neg h6).trans ((if_pos h7).trans rfl)))))))
  by_cases h8 : n1 = (8 : Int32)
  · refine lv_tableIn (tgt := 83) (off := 82) hx hb d_X_compute_1 (by rw [h8]; decide) (by rw [h8]; decide) (by rw [h8]; rfl) (by decide) ?_
    refine lv_iload_n hx hb d_X_compute_83 rfl (lv_at hl 1 rfl) ?_
    refine lv_iload_n hx hb d_X_compute_84 rfl (lv_at hl 2 rfl) ?_
    refine lv_bipush (v := 31) hx hb d_X_compute_85 (by decide) ?_
    refine lv_iand hx hb d_X_compute_87 ?_
    refine lv_iushr hx hb d_X_compute_88 rfl ?_
    refine hret _ _ _ _ _ _ hs ?_ d_X_compute_89
    exact pr_eq ((if_neg h1).trans ((if_neg h2).trans ((if_neg h3).trans ((if_neg h4).trans ((if_neg h5).trans ((if_neg h6).trans ((if_neg h7).trans ((if_pos h8).trans rfl))))))))
  by_cases h9 : n1 = (9 : Int32)
  · refine lv_tableIn (tgt := 90) (off := 89) hx hb d_X_compute_1 (by rw [h9]; decide) (by rw [h9]; decide) (by rw [h9]; rfl) (by decide) ?_
    refine lv_iload_n hx hb d_X_compute_90 rfl (lv_at hl 1 rfl) ?_
    refine lv_iload_n hx hb d_X_compute_91 rfl (lv_at hl 2 rfl) ?_
    refine lv_icmp_ge (tgt := 99) hx hb d_X_compute_92 (by decide) (fun h10 => ?_) (fun h10 => ?_)
    · refine lv_iconst (v := 0) hx hb d_X_compute_99 (by decide) ?_
      refine hret _ _ _ _ _ _ hs ?_ d_X_compute_100
      exact pr_eq ((if_neg h1).trans ((if_neg h2).trans ((if_neg h3).trans ((if_neg h4).trans ((if_neg h5).trans ((if_neg h6).trans ((if_neg h7).trans ((if_neg h8).trans ((if_pos h9).trans ((if_pos h10).trans rfl))))))))))
    · refine lv_iconst (v := 1) hx hb d_X_compute_95 (by decide) ?_
      refine lv_goto (tgt := 100) hx hb d_X_compute_96 (by decide) ?_
      refine hret _ _ _ _ _ _ hs ?_ d_X_compute_100
      exact pr_eq ((if_neg h1).trans ((if_neg h2).trans ((if_neg h3).trans ((if_neg h4).trans ((if_neg h5).trans ((if_neg h6).trans ((if_neg h7).trans ((if_neg h8).trans ((if_pos h9).trans ((if_neg h10).trans rfl))))))))))
  refine x_tabD (tgt := 101) hx hb [1, 2, 3, 4, 5, 6, 7, 8, 9] d_X_compute_1 (List.forall_mem_cons.mpr ⟨lv_neT h1 (by decide), List.forall_mem_cons.mpr ⟨lv_neT h2 (by decide), List.forall_mem_cons.mpr ⟨lv_neT h3 (by decide), List.forall_mem_cons.mpr ⟨lv_neT h4 (by decide), List.forall_mem_cons.mpr ⟨lv_neT h5 (by decide), List.forall_mem_cons.mpr ⟨lv_neT h6 (by decide), List.forall_mem_cons.mpr ⟨lv_neT h7 (by decide), List.forall_mem_cons.mpr ⟨lv_neT h8 (by decide), List.forall_mem_cons.mpr ⟨lv_neT h9 (by decide), fun _ z => absurd z List.not_mem_nil⟩⟩⟩⟩⟩⟩⟩⟩⟩) (by decide) (by decide) (by decide) ?_
  refine lv_iload_n hx hb d_X_compute_101 rfl (lv_at hl 3 rfl) ?_
  refine lv_bipush (v := 14) hx hb d_X_compute_102 (by decide) ?_
  refine lv_ishl hx hb d_X_compute_104 ?_
  refine hret _ _ _ _ _ _ hs ?_ d_X_compute_105
  exact pr_eq ((if_neg h1).trans ((if_neg h2).trans ((if_neg h3).trans ((if_neg h4).trans ((if_neg h5).trans ((if_neg h6).trans ((if_neg h7).trans ((if_neg h8).trans ((if_neg h9).trans rfl)))))))))
def p_X_tell (σ : Mem) (i1 : Nat) (n2 : Int32) : Int32 :=
  if n2 = (0 : Int32) then
    ((p_K_lowerBound σ i1)).toInt32
  else
  if n2 = (1 : Int32) then
    (((p_K_upperBound σ i1) - ((p_K_lowerBound σ i1) : Int64))).toInt32
  else
  if n2 = (2 : Int32) then
    (p_K_permissions σ i1)
  else
  if n2 = (3 : Int32) then
    (p_K_type σ i1)
  else
  if n2 = (4 : Int32) then
    if (bo (σ 2 i1)) = (0 : Int32) then
      (0 : Int32)
    else
      (1 : Int32)
  else
  if n2 = (5 : Int32) then
    (σ 4 i1)
  else
  if n2 = (6 : Int32) then
    (σ 3 i1)
  else
    (0 : Int32)
set_option maxHeartbeats 4000000 in
set_option maxRecDepth 100000 in
theorem m_X_tell {l : Launch} {D : va_G} {a : Nat → Nat} {cA : Nat → ClassId} {B0 : Nat → Prop} {σ : Mem} {i1 : Nat} {n2 : Int32} (h_i1 : i1 < 13) : cI l y_X_tell (.code y_X_tell c_X_tell 2 (some FieldType.int) :: TG) (rmO 2 51) D (cwL a cA) (cty cA) B0 [.ref (a (4 + i1)), .int n2] σ (p_X_tell σ i1 n2, σ) := by
  refine cI_of (by decide) (Nat.le_of_ble_eq_true rfl) ?_
  intro p e s m args below meth c Q ls hx hb hF hl hs hret
  have hl : lv_has ls 2 [(0, .ref (a (4 + i1))), (1, .int n2)] := hl
  refine lv_iload_n hx hb d_X_tell_0 rfl (lv_at hl 1 rfl) ?_
  by_cases h1 : n2 = (0 : Int32)
  · refine lv_tableIn (tgt := 44) (off := 43) hx hb d_X_tell_1 (by rw [h1]; decide) (by rw [h1]; decide) (by rw [h1]; rfl) (by decide) ?_
    refine lv_aload_n hx hb d_X_tell_44 rfl (lv_at hl 0 rfl) ?_
    refine x_Vlp hF hs v_K_lowerBound k_ml_X_72 (m_K_lowerBound h_i1) rfl rfl ⟨by decide, by decide⟩ rfl rfl hl.1 (Nat.le_of_ble_eq_true rfl) (rK h_i1) d_X_tell_45 ⟨Nat.zero_le _, Nat.zero_le _⟩ (fun H locs hs => ?_)
    refine lv_l2i hx hb d_X_tell_48 rfl ?_
    refine hret _ _ _ _ _ _ hs ?_ d_X_tell_49
    exact pr_eq ((if_pos h1).trans rfl)
  by_cases h2 : n2 = (1 : Int32)
  · refine lv_tableIn (tgt := 50) (off := 49) hx hb d_X_tell_1 (by rw [h2]; decide) (by rw [h2]; decide) (by rw [h2]; rfl) (by decide) ?_
    refine lv_aload_n hx hb d_X_tell_50 rfl (lv_at hl 0 rfl) ?_
    refine x_Vlp hF hs v_K_upperBound k_ml_X_76 (m_K_upperBound h_i1) rfl rfl ⟨by decide, by decide⟩ rfl rfl hl.1 (Nat.le_of_ble_eq_true rfl) (rK h_i1) d_X_tell_51 ⟨Nat.zero_le _, Nat.zero_le _⟩ (fun H locs hs => ?_)
    refine lv_aload_n hx hb d_X_tell_54 rfl (lv_at hl 0 rfl) ?_
    refine x_Vlp hF hs v_K_lowerBound k_ml_X_72 (m_K_lowerBound h_i1) rfl rfl ⟨by decide, by decide⟩ rfl rfl hl.1 (Nat.le_of_ble_eq_true rfl) (rK h_i1) d_X_tell_55 ⟨Nat.zero_le _, Nat.zero_le _⟩ (fun H locs hs => ?_)
    refine lv_lsub hx hb d_X_tell_58 ?_
    refine lv_l2i hx hb d_X_tell_59 rfl ?_
    refine hret _ _ _ _ _ _ hs ?_ d_X_tell_60
    exact pr_eq ((if_neg h1).trans ((if_pos h2).trans rfl))
  by_cases h3 : n2 = (2 : Int32)
  · refine lv_tableIn (tgt := 61) (off := 60) hx hb d_X_tell_1 (by rw [h3]; decide) (by rw [h3]; decide) (by rw [h3]; rfl) (by decide) ?_
    refine lv_aload_n hx hb d_X_tell_61 rfl (lv_at hl 0 rfl) ?_
    refine x_Vip hF hs v_K_permissions k_ml_X_179 (m_K_permissions h_i1) rfl rfl ⟨by decide, by decide⟩ rfl rfl hl.1 (Nat.le_of_ble_eq_true rfl) (rK h_i1) d_X_tell_62 ⟨Nat.zero_le _, Nat.zero_le _⟩ (fun H locs hs => ?_)
    refine hret _ _ _ _ _ _ hs ?_ d_X_tell_65
    exact pr_eq ((if_neg h1).trans ((if_neg h2).trans ((if_pos h3).trans rfl)))
  by_cases h4 : n2 = (3 : Int32)
  · refine lv_tableIn (tgt := 66) (off := 65) hx hb d_X_tell_1 (by rw [h4]; decide) (by rw [h4]; decide) (by rw [h4]; rfl) (by decide) ?_
    refine lv_aload_n hx hb d_X_tell_66 rfl (lv_at hl 0 rfl) ?_
    refine x_Vip hF hs v_K_type k_ml_X_182 (m_K_type h_i1) rfl rfl ⟨by decide, by decide⟩ rfl rfl hl.1 (Nat.le_of_ble_eq_true rfl) (rK h_i1) d_X_tell_67 ⟨Nat.zero_le _, Nat.zero_le _⟩ (fun H locs hs => ?_)
    refine hret _ _ _ _ _ _ hs ?_ d_X_tell_70
    exact pr_eq ((if_neg h1).trans ((if_neg h2).trans ((if_neg h3).trans ((if_pos h4).trans rfl))))
  by_cases h5 : n2 = (4 : Int32)
  · refine lv_tableIn (tgt := 71) (off := 70) hx hb d_X_tell_1 (by rw [h5]; decide) (by rw [h5]; decide) (by rw [h5]; rfl) (by decide) ?_
    refine lv_aload_n hx hb d_X_tell_71 rfl (lv_at hl 0 rfl) ?_
    refine xg_N2 hx hb hF hs h_i1 d_X_tell_72 ?_
    refine lv_if_eq (tgt := 82) hx hb d_X_tell_75 (by decide) (fun h6 => ?_) (fun h6 => ?_)
    · refine lv_iconst (v := 0) hx hb d_X_tell_82 (by decide) ?_
      refine hret _ _ _ _ _ _ hs ?_ d_X_tell_83
      exact pr_eq ((if_neg h1).trans ((if_neg h2).trans ((if_neg h3).trans ((if_neg h4).trans ((if_pos h5).trans ((if_pos h6).trans rfl))))))
    · refine lv_iconst (v := 1) hx hb d_X_tell_78 (by decide) ?_
      refine lv_goto (tgt := 83) hx hb d_X_tell_79 (by decide) ?_
      refine hret _ _ _ _ _ _ hs ?_ d_X_tell_83
      exact pr_eq ((if_neg h1).trans ((if_neg h2).trans ((if_neg h3).trans ((if_neg h4).trans ((if_pos h5).trans ((if_neg h6).trans rfl))))))
  by_cases h6 : n2 = (5 : Int32)
  · refine lv_tableIn (tgt := 84) (off := 83) hx hb d_X_tell_1 (by rw [h6]; decide) (by rw [h6]; decide) (by rw [h6]; rfl) (by decide) ?_
    refine lv_aload_n hx hb d_X_tell_84 rfl (lv_at hl 0 rfl) ?_
    refine xg_N4 hx hb hF hs h_i1 d_X_tell_85 ?_
    refine hret _ _ _ _ _ _ hs ?_ d_X_tell_88
    exact pr_eq ((if_neg h1).trans ((if_neg h2).trans ((if_neg h3).trans ((if_neg h4).trans ((if_neg h5).trans ((if_pos h6).trans rfl))))))
  by_cases h7 : n2 = (6 : Int32)
  · refine lv_tableIn (tgt := 89) (off := 88) hx hb d_X_tell_1 (by rw [h7]; decide) (by rw [h7]; decide) (by rw [h7]; rfl) (by decide) ?_
    refine lv_aload_n hx hb d_X_tell_89 rfl (lv_at hl 0 rfl) ?_
    refine xg_N3 hx hb hF hs h_i1 d_X_tell_90 ?_
    refine hret _ _ _ _ _ _ hs ?_ d_X_tell_93
    exact pr_eq ((if_neg h1).trans ((if_neg h2).trans ((if_neg h3).trans ((if_neg h4).trans ((if_neg h5).trans ((if_neg h6).trans ((if_pos h7).trans rfl)))))))
  refine x_tabD (tgt := 94) hx hb [0, 1, 2, 3, 4, 5, 6] d_X_tell_1 (List.forall_mem_cons.mpr ⟨lv_neT h1 (by decide), List.forall_mem_cons.mpr ⟨lv_neT h2 (by decide), List.forall_mem_cons.mpr ⟨lv_neT h3 (by decide), List.forall_mem_cons.mpr ⟨lv_neT h4 (by decide), List.forall_mem_cons.mpr ⟨lv_neT h5 (by decide), List.forall_mem_cons.mpr ⟨lv_neT h6 (by decide), List.forall_mem_cons.mpr ⟨lv_neT h7 (by decide), fun _ z => absurd z List.not_mem_nil⟩⟩⟩⟩⟩⟩⟩) (by decide) (by decide) (by decide) ?_
  refine lv_iconst (v := 0) hx hb d_X_tell_94 (by decide) ?_
  refine hret _ _ _ _ _ _ hs ?_ d_X_tell_95
  exact pr_eq ((if_neg h1).trans ((if_neg h2).trans ((if_neg h3).trans ((if_neg h4).trans ((if_neg h5).trans ((if_neg h6).trans ((if_neg h7).trans rfl)))))))
def p_X_mayBuild (σ : Mem) (i1 : Nat) (i2 : Nat) : Int32 :=
  if (bo (σ 2 i1)) = (0 : Int32) then
    (0 : Int32)
  else
    if (p_K_isSealed σ i1) = (0 : Int32) then
      if (p_K_isSealed σ i2) = (0 : Int32) then
        if (lg_cmp (p_K_lowerBound σ i2) (p_K_lowerBound σ i1)) < (0 : Int32) then
          (0 : Int32)
        else
          if (0 : Int32) < (lg_cmp (p_K_lowerBound σ i2) (p_K_upperBound σ i2)) then
            (0 : Int32)
          else
            if (0 : Int32) < (lg_cmp (p_K_upperBound σ i2) (p_K_upperBound σ i1)) then
              (0 : Int32)
            else
              if (p_K_permits σ i1 (p_K_permissions σ i2)) = (0 : Int32) then
                (0 : Int32)
              else
                (1 : Int32)
      else
        (0 : Int32)
    else
      (0 : Int32)
set_option maxHeartbeats 4000000 in
set_option maxRecDepth 100000 in
theorem m_X_mayBuild {l : Launch} {D : va_G} {a : Nat → Nat} {cA : Nat → ClassId} {B0 : Nat → Prop} {σ : Mem} {i1 : Nat} {i2 : Nat} (h_i1 : i1 < 13) (h_i2 : i2 < 13) : cI l y_X_mayBuild (.code y_X_mayBuild c_X_mayBuild 2 (some FieldType.boolean) :: TG) (rmO 2 51) D (cwL a cA) (cty cA) B0 [.ref (a (4 + i1)), .ref (a (4 + i2))] σ (p_X_mayBuild σ i1 i2, σ) := by
  refine cZ_of (by decide) (Nat.le_of_ble_eq_true rfl) ?_
  intro p e s m args below meth c Q ls hx hb hF hl hs hret
  have hl : lv_has ls 2 [(0, .ref (a (4 + i1))), (1, .ref (a (4 + i2)))] := hl
  refine lv_aload_n hx hb d_X_mayBuild_0 rfl (lv_at hl 0 rfl) ?_
  refine xg_N2 hx hb hF hs h_i1 d_X_mayBuild_1 ?_
  refine lv_if_eq (tgt := 72) hx hb d_X_mayBuild_4 (by decide) (fun h1 => ?_) (fun h1 => ?_)
  · refine lv_iconst (v := 0) hx hb d_X_mayBuild_72 (by decide) ?_
    refine hret _ _ _ _ _ _ hs bo_0 ?_ d_X_mayBuild_73
    exact pr_eq ((if_pos h1).trans rfl)
  · refine lv_aload_n hx hb d_X_mayBuild_7 rfl (lv_at hl 0 rfl) ?_
    refine x_Vip hF hs v_K_isSealed k_ml_X_97 (m_K_isSealed h_i1) rfl rfl ⟨by decide, by decide⟩ rfl rfl hl.1 (Nat.le_of_ble_eq_true rfl) (rK h_i1) d_X_mayBuild_8 ⟨Nat.zero_le _, Nat.zero_le _⟩ (fun H locs hs => ?_)
    refine lv_if_ne (tgt := 72) hx hb d_X_mayBuild_11 (by decide) (fun h2 => ?_) (fun h2 => ?_)
    · refine lv_iconst (v := 0) hx hb d_X_mayBuild_72 (by decide) ?_
      refine hret _ _ _ _ _ _ hs bo_0 ?_ d_X_mayBuild_73
      exact pr_eq ((if_neg h1).trans ((if_neg h2).trans rfl))
    · refine lv_aload_n hx hb d_X_mayBuild_14 rfl (lv_at hl 1 rfl) ?_
      refine x_Vip hF hs v_K_isSealed k_ml_X_97 (m_K_isSealed h_i2) rfl rfl ⟨by decide, by decide⟩ rfl rfl hl.1 (Nat.le_of_ble_eq_true rfl) (rK h_i2) d_X_mayBuild_15 ⟨Nat.zero_le _, Nat.zero_le _⟩ (fun H locs hs => ?_)
      refine lv_if_ne (tgt := 72) hx hb d_X_mayBuild_18 (by decide) (fun h3 => ?_) (fun h3 => ?_)
      · refine lv_iconst (v := 0) hx hb d_X_mayBuild_72 (by decide) ?_
        refine hret _ _ _ _ _ _ hs bo_0 ?_ d_X_mayBuild_73
        exact pr_eq ((if_neg h1).trans ((if_pos h2).trans ((if_neg h3).trans rfl)))
      · refine lv_aload_n hx hb d_X_mayBuild_21 rfl (lv_at hl 1 rfl) ?_
        refine x_Vlp hF hs v_K_lowerBound k_ml_X_72 (m_K_lowerBound h_i2) rfl rfl ⟨by decide, by decide⟩ rfl rfl hl.1 (Nat.le_of_ble_eq_true rfl) (rK h_i2) d_X_mayBuild_22 ⟨Nat.zero_le _, Nat.zero_le _⟩ (fun H locs hs => ?_)
        refine lv_aload_n hx hb d_X_mayBuild_25 rfl (lv_at hl 0 rfl) ?_
        refine x_Vlp hF hs v_K_lowerBound k_ml_X_72 (m_K_lowerBound h_i1) rfl rfl ⟨by decide, by decide⟩ rfl rfl hl.1 (Nat.le_of_ble_eq_true rfl) (rK h_i1) d_X_mayBuild_26 ⟨Nat.zero_le _, Nat.zero_le _⟩ (fun H locs hs => ?_)
        refine W.lcmp hx hb d_X_mayBuild_29 ?_
        refine lv_if_lt (tgt := 72) hx hb d_X_mayBuild_30 (by decide) (fun h4 => ?_) (fun h4 => ?_)
        · refine lv_iconst (v := 0) hx hb d_X_mayBuild_72 (by decide) ?_
          refine hret _ _ _ _ _ _ hs bo_0 ?_ d_X_mayBuild_73
          exact pr_eq ((if_neg h1).trans ((if_pos h2).trans ((if_pos h3).trans ((if_pos h4).trans rfl))))
        · refine lv_aload_n hx hb d_X_mayBuild_33 rfl (lv_at hl 1 rfl) ?_
          refine x_Vlp hF hs v_K_lowerBound k_ml_X_72 (m_K_lowerBound h_i2) rfl rfl ⟨by decide, by decide⟩ rfl rfl hl.1 (Nat.le_of_ble_eq_true rfl) (rK h_i2) d_X_mayBuild_34 ⟨Nat.zero_le _, Nat.zero_le _⟩ (fun H locs hs => ?_)
          refine lv_aload_n hx hb d_X_mayBuild_37 rfl (lv_at hl 1 rfl) ?_
          refine x_Vlp hF hs v_K_upperBound k_ml_X_76 (m_K_upperBound h_i2) rfl rfl ⟨by decide, by decide⟩ rfl rfl hl.1 (Nat.le_of_ble_eq_true rfl) (rK h_i2) d_X_mayBuild_38 ⟨Nat.zero_le _, Nat.zero_le _⟩ (fun H locs hs => ?_)
          refine W.lcmp hx hb d_X_mayBuild_41 ?_
          refine lv_if_gt (tgt := 72) hx hb d_X_mayBuild_42 (by decide) (fun h5 => ?_) (fun h5 => ?_)
          · refine lv_iconst (v := 0) hx hb d_X_mayBuild_72 (by decide) ?_
            refine hret _ _ _ _ _ _ hs bo_0 ?_ d_X_mayBuild_73
            exact pr_eq ((if_neg h1).trans ((if_pos h2).trans ((if_pos h3).trans ((if_neg h4).trans ((if_pos h5).trans rfl)))))
          · refine lv_aload_n hx hb d_X_mayBuild_45 rfl (lv_at hl 1 rfl) ?_
            refine x_Vlp hF hs v_K_upperBound k_ml_X_76 (m_K_upperBound h_i2) rfl rfl ⟨by decide, by decide⟩ rfl rfl hl.1 (Nat.le_of_ble_eq_true rfl) (rK h_i2) d_X_mayBuild_46 ⟨Nat.zero_le _, Nat.zero_le _⟩ (fun H locs hs => ?_)
            refine lv_aload_n hx hb d_X_mayBuild_49 rfl (lv_at hl 0 rfl) ?_
            refine x_Vlp hF hs v_K_upperBound k_ml_X_76 (m_K_upperBound h_i1) rfl rfl ⟨by decide, by decide⟩ rfl rfl hl.1 (Nat.le_of_ble_eq_true rfl) (rK h_i1) d_X_mayBuild_50 ⟨Nat.zero_le _, Nat.zero_le _⟩ (fun H locs hs => ?_)
            refine W.lcmp hx hb d_X_mayBuild_53 ?_
            refine lv_if_gt (tgt := 72) hx hb d_X_mayBuild_54 (by decide) (fun h6 => ?_) (fun h6 => ?_)
            · refine lv_iconst (v := 0) hx hb d_X_mayBuild_72 (by decide) ?_
              refine hret _ _ _ _ _ _ hs bo_0 ?_ d_X_mayBuild_73
              exact pr_eq ((if_neg h1).trans ((if_pos h2).trans ((if_pos h3).trans ((if_neg h4).trans ((if_neg h5).trans ((if_pos h6).trans rfl))))))
            · refine lv_aload_n hx hb d_X_mayBuild_57 rfl (lv_at hl 0 rfl) ?_
              refine lv_aload_n hx hb d_X_mayBuild_58 rfl (lv_at hl 1 rfl) ?_
              refine x_Vip hF hs v_K_permissions k_ml_X_179 (m_K_permissions h_i2) rfl rfl ⟨by decide, by decide⟩ rfl rfl hl.1 (Nat.le_of_ble_eq_true rfl) (rK h_i2) d_X_mayBuild_59 ⟨Nat.zero_le _, Nat.zero_le _⟩ (fun H locs hs => ?_)
              refine x_Vip hF hs v_K_permits k_ml_X_101 (m_K_permits h_i1) rfl rfl ⟨by decide, by decide⟩ rfl rfl hl.1 (Nat.le_of_ble_eq_true rfl) (rK h_i1) d_X_mayBuild_62 ⟨Nat.zero_le _, Nat.zero_le _⟩ (fun H locs hs => ?_)
              refine lv_if_eq (tgt := 72) hx hb d_X_mayBuild_65 (by decide) (fun h7 => ?_) (fun h7 => ?_)
              · refine lv_iconst (v := 0) hx hb d_X_mayBuild_72 (by decide) ?_
                refine hret _ _ _ _ _ _ hs bo_0 ?_ d_X_mayBuild_73
                exact pr_eq ((if_neg h1).trans ((if_pos h2).trans ((if_pos h3).trans ((if_neg h4).trans ((if_neg h5).trans ((if_neg h6).trans ((if_pos h7).trans rfl)))))))
              · refine lv_iconst (v := 1) hx hb d_X_mayBuild_68 (by decide) ?_
                refine lv_goto (tgt := 73) hx hb d_X_mayBuild_69 (by decide) ?_
                refine hret _ _ _ _ _ _ hs bo_1 ?_ d_X_mayBuild_73
                exact pr_eq ((if_neg h1).trans ((if_pos h2).trans ((if_pos h3).trans ((if_neg h4).trans ((if_neg h5).trans ((if_neg h6).trans ((if_neg h7).trans rfl)))))))
def p_X_writeWord (σ : Mem) (n1 : Int32) (n2 : Int32) : Mem :=
  let σ1 : Mem := wr σ 0 (n1 : Int32).toNatClampNeg n2;
  let σ2 : Mem := wr σ1 1 ((n1 >>> ((1 : Int32) &&& 31)) : Int32).toNatClampNeg (0 : Int32);
  σ2
set_option maxHeartbeats 4000000 in
set_option maxRecDepth 100000 in
theorem m_X_writeWord {l : Launch} {D : va_G} {a : Nat → Nat} {cA : Nat → ClassId} {B0 : Nat → Prop} {σ : Mem} {n1 : Int32} {n2 : Int32} (h_n1 : vp_in n1 256) : cV l y_X_writeWord (.code y_X_writeWord c_X_writeWord 3 (none) :: TG) (rmO 0 0) D (cwL a cA) (cty cA) B0 [.ref (a 0), .int n1, .int n2] σ (p_X_writeWord σ n1 n2) := by
  refine cV_of (by decide) (Nat.le_of_ble_eq_true rfl) ?_
  intro p e s m args below meth c Q ls hx hb hF hl hs hret
  have hl : lv_has ls 3 [(0, .ref (a 0)), (1, .int n1), (2, .int n2)] := hl
  refine lv_aload_n hx hb d_X_writeWord_0 rfl (lv_at hl 0 rfl) ?_
  refine xg_X hx hb hF hs 0 (by decide) k_fl_X_9 rfl d_X_writeWord_1 ?_
  refine lv_iload_n hx hb d_X_writeWord_4 rfl (lv_at hl 1 rfl) ?_
  refine lv_iload_n hx hb d_X_writeWord_5 rfl (lv_at hl 2 rfl) ?_
  refine xw_st hx hb hF hs h_n1 d_X_writeWord_6 (fun H locs hs => ?_)
  refine lv_aload_n hx hb d_X_writeWord_7 rfl (lv_at hl 0 rfl) ?_
  refine xg_X hx hb hF hs 1 (by decide) k_fl_X_13 rfl d_X_writeWord_8 ?_
  refine lv_iload_n hx hb d_X_writeWord_11 rfl (lv_at hl 1 rfl) ?_
  refine lv_iconst (v := 1) hx hb d_X_writeWord_12 (by decide) ?_
  refine lv_ishr hx hb d_X_writeWord_13 ?_
  refine lv_iconst (v := 0) hx hb d_X_writeWord_14 (by decide) ?_
  refine xt_st hx hb hF hs (ix_half h_n1) d_X_writeWord_15 (fun H locs hs => ?_)
  refine hret _ _ _ _ _ hs ?_ d_X_writeWord_16
  exact rfl
def p_X_writeNumber (σ : Mem) (n1 : Int32) (n2 : Int32) : Mem :=
  if n1 = (0 : Int32) then
    σ
  else
    let σ1 : Mem := p_K_becomeNumber σ (n1.toNatClampNeg) n2;
    σ1
set_option maxHeartbeats 4000000 in
set_option maxRecDepth 100000 in
theorem m_X_writeNumber {l : Launch} {D : va_G} {a : Nat → Nat} {cA : Nat → ClassId} {B0 : Nat → Prop} {σ : Mem} {n1 : Int32} {n2 : Int32} (h_n1 : vp_in n1 12) : cV l y_X_writeNumber (.code y_X_writeNumber c_X_writeNumber 3 (none) :: TG) (rmO 1 21) D (cwL a cA) (cty cA) B0 [.ref (a 0), .int n1, .int n2] σ (p_X_writeNumber σ n1 n2) := by
  refine cV_of (by decide) (Nat.le_of_ble_eq_true rfl) ?_
  intro p e s m args below meth c Q ls hx hb hF hl hs hret
  have hl : lv_has ls 3 [(0, .ref (a 0)), (1, .int n1), (2, .int n2)] := hl
  refine lv_iload_n hx hb d_X_writeNumber_0 rfl (lv_at hl 1 rfl) ?_
  refine lv_if_eq (tgt := 14) hx hb d_X_writeNumber_1 (by decide) (fun h1 => ?_) (fun h1 => ?_)
  · refine hret _ _ _ _ _ hs ?_ d_X_writeNumber_14
    exact (if_pos h1).trans rfl
  · refine lv_aload_n hx hb d_X_writeNumber_4 rfl (lv_at hl 0 rfl) ?_
    refine xg_X hx hb hF hs 2 (by decide) k_fl_X_19 rfl d_X_writeNumber_5 ?_
    refine lv_iload_n hx hb d_X_writeNumber_8 rfl (lv_at hl 1 rfl) ?_
    refine xr_ld hx hb hF hs h_n1 d_X_writeNumber_9 ?_
    refine lv_iload_n hx hb d_X_writeNumber_10 rfl (lv_at hl 2 rfl) ?_
    refine x_Vv hF hs v_K_becomeNumber k_ml_X_192 (m_K_becomeNumber (in13 h_n1)) rfl rfl ⟨by decide, by decide⟩ rfl rfl hl.1 (Nat.le_of_ble_eq_true rfl) (rK (in13 h_n1)) d_X_writeNumber_11 ⟨Nat.zero_le _, Nat.zero_le _⟩ (fun H locs hs => ?_)
    refine hret _ _ _ _ _ hs ?_ d_X_writeNumber_14
    exact (if_neg h1).trans rfl
def p_X_writeMade (σ : Mem) (n1 : Int32) : Mem :=
  if n1 = (0 : Int32) then
    σ
  else
    let σ1 : Mem := p_K_copy σ (n1.toNatClampNeg) 12;
    σ1
set_option maxHeartbeats 4000000 in
set_option maxRecDepth 100000 in
theorem m_X_writeMade {l : Launch} {D : va_G} {a : Nat → Nat} {cA : Nat → ClassId} {B0 : Nat → Prop} {σ : Mem} {n1 : Int32} (h_n1 : vp_in n1 12) : cV l y_X_writeMade (.code y_X_writeMade c_X_writeMade 2 (none) :: TG) (rmO 1 21) D (cwL a cA) (cty cA) B0 [.ref (a 0), .int n1] σ (p_X_writeMade σ n1) := by
  refine cV_of (by decide) (Nat.le_of_ble_eq_true rfl) ?_
  intro p e s m args below meth c Q ls hx hb hF hl hs hret
  have hl : lv_has ls 2 [(0, .ref (a 0)), (1, .int n1)] := hl
  refine lv_iload_n hx hb d_X_writeMade_0 rfl (lv_at hl 1 rfl) ?_
  refine lv_if_eq (tgt := 17) hx hb d_X_writeMade_1 (by decide) (fun h1 => ?_) (fun h1 => ?_)
  · refine hret _ _ _ _ _ hs ?_ d_X_writeMade_17
    exact (if_pos h1).trans rfl
  · refine lv_aload_n hx hb d_X_writeMade_4 rfl (lv_at hl 0 rfl) ?_
    refine xg_X hx hb hF hs 2 (by decide) k_fl_X_19 rfl d_X_writeMade_5 ?_
    refine lv_iload_n hx hb d_X_writeMade_8 rfl (lv_at hl 1 rfl) ?_
    refine xr_ld hx hb hF hs h_n1 d_X_writeMade_9 ?_
    refine lv_aload_n hx hb d_X_writeMade_10 rfl (lv_at hl 0 rfl) ?_
    refine xg_X hx hb hF hs 4 (by decide) k_fl_X_24 rfl d_X_writeMade_11 ?_
    refine x_Vv hF hs v_K_copy k_ml_X_93 (m_K_copy (in13 h_n1) lt12_13) rfl rfl ⟨by decide, by decide⟩ rfl rfl hl.1 (Nat.le_of_ble_eq_true rfl) (rK (in13 h_n1)) d_X_writeMade_14 ⟨Nat.zero_le _, Nat.zero_le _⟩ (fun H locs hs => ?_)
    refine hret _ _ _ _ _ hs ?_ d_X_writeMade_17
    exact (if_neg h1).trans rfl
def p_X_writeLink (σ : Mem) (n1 : Int32) : Mem :=
  if n1 = (0 : Int32) then
    σ
  else
    let σ1 : Mem := p_K_copy σ (n1.toNatClampNeg) 8;
    let σ2 : Mem := p_K_move σ1 (n1.toNatClampNeg) ((σ1 4 8) + (4 : Int32));
    let σ3 : Mem := p_K_setType σ2 (n1.toNatClampNeg) (1 : Int32);
    σ3
set_option maxHeartbeats 4000000 in
set_option maxRecDepth 100000 in
theorem m_X_writeLink {l : Launch} {D : va_G} {a : Nat → Nat} {cA : Nat → ClassId} {B0 : Nat → Prop} {σ : Mem} {n1 : Int32} (h_n1 : vp_in n1 12) : cV l y_X_writeLink (.code y_X_writeLink c_X_writeLink 2 (none) :: TG) (rmO 3 76) D (cwL a cA) (cty cA) B0 [.ref (a 0), .int n1] σ (p_X_writeLink σ n1) := by
  refine cV_of (by decide) (Nat.le_of_ble_eq_true rfl) ?_
  intro p e s m args below meth c Q ls hx hb hF hl hs hret
  have hl : lv_has ls 2 [(0, .ref (a 0)), (1, .int n1)] := hl
  refine lv_iload_n hx hb d_X_writeLink_0 rfl (lv_at hl 1 rfl) ?_
  refine lv_if_eq (tgt := 45) hx hb d_X_writeLink_1 (by decide) (fun h1 => ?_) (fun h1 => ?_)
  · refine hret _ _ _ _ _ hs ?_ d_X_writeLink_45
    exact (if_pos h1).trans rfl
  · refine lv_aload_n hx hb d_X_writeLink_4 rfl (lv_at hl 0 rfl) ?_
    refine xg_X hx hb hF hs 2 (by decide) k_fl_X_19 rfl d_X_writeLink_5 ?_
    refine lv_iload_n hx hb d_X_writeLink_8 rfl (lv_at hl 1 rfl) ?_
    refine xr_ld hx hb hF hs h_n1 d_X_writeLink_9 ?_
    refine lv_aload_n hx hb d_X_writeLink_10 rfl (lv_at hl 0 rfl) ?_
    refine xg_X hx hb hF hs 3 (by decide) k_fl_X_41 rfl d_X_writeLink_11 ?_
    refine x_Vv hF hs v_K_copy k_ml_X_93 (m_K_copy (in13 h_n1) lt8_13) rfl rfl ⟨by decide, by decide⟩ rfl rfl hl.1 (Nat.le_of_ble_eq_true rfl) (rK (in13 h_n1)) d_X_writeLink_14 ⟨Nat.zero_le _, Nat.zero_le _⟩ (fun H locs hs => ?_)
    refine lv_aload_n hx hb d_X_writeLink_17 rfl (lv_at hl 0 rfl) ?_
    refine xg_X hx hb hF hs 2 (by decide) k_fl_X_19 rfl d_X_writeLink_18 ?_
    refine lv_iload_n hx hb d_X_writeLink_21 rfl (lv_at hl 1 rfl) ?_
    refine xr_ld hx hb hF hs h_n1 d_X_writeLink_22 ?_
    refine lv_aload_n hx hb d_X_writeLink_23 rfl (lv_at hl 0 rfl) ?_
    refine xg_X hx hb hF hs 3 (by decide) k_fl_X_41 rfl d_X_writeLink_24 ?_
    refine xg_N4 hx hb hF hs lt8_13 d_X_writeLink_27 ?_
    refine lv_iconst (v := 4) hx hb d_X_writeLink_30 (by decide) ?_
    refine lv_iadd hx hb d_X_writeLink_31 ?_
    refine x_Vv hF hs v_K_move k_ml_X_165 (m_K_move (in13 h_n1)) rfl rfl ⟨by decide, by decide⟩ rfl rfl hl.1 (Nat.le_of_ble_eq_true rfl) (rK (in13 h_n1)) d_X_writeLink_32 ⟨Nat.zero_le _, Nat.zero_le _⟩ (fun H locs hs => ?_)
    refine lv_aload_n hx hb d_X_writeLink_35 rfl (lv_at hl 0 rfl) ?_
    refine xg_X hx hb hF hs 2 (by decide) k_fl_X_19 rfl d_X_writeLink_36 ?_
    refine lv_iload_n hx hb d_X_writeLink_39 rfl (lv_at hl 1 rfl) ?_
    refine xr_ld hx hb hF hs h_n1 d_X_writeLink_40 ?_
    refine lv_iconst (v := 1) hx hb d_X_writeLink_41 (by decide) ?_
    refine x_Vv hF hs v_K_setType k_ml_X_185 (m_K_setType (in13 h_n1)) rfl rfl ⟨by decide, by decide⟩ rfl rfl hl.1 (Nat.le_of_ble_eq_true rfl) (rK (in13 h_n1)) d_X_writeLink_42 ⟨Nat.zero_le _, Nat.zero_le _⟩ (fun H locs hs => ?_)
    refine hret _ _ _ _ _ hs ?_ d_X_writeLink_45
    exact (if_neg h1).trans rfl
def p_X_writeWithType (σ : Mem) (n1 : Int32) (i2 : Nat) (n3 : Int32) : Mem :=
  let σ1 : Mem := p_K_copy σ 12 i2;
  let σ2 : Mem := p_K_setType σ1 12 n3;
  let σ3 : Mem := p_X_writeMade σ2 n1;
  σ3
set_option maxHeartbeats 4000000 in
set_option maxRecDepth 100000 in
theorem m_X_writeWithType {l : Launch} {D : va_G} {a : Nat → Nat} {cA : Nat → ClassId} {B0 : Nat → Prop} {σ : Mem} {n1 : Int32} {i2 : Nat} {n3 : Int32} (h_i2 : i2 < 13) (h_n1 : vp_in n1 12) : cV l y_X_writeWithType (.code y_X_writeWithType c_X_writeWithType 4 (none) :: TG) (rmO 2 42) D (cwL a cA) (cty cA) B0 [.ref (a 0), .int n1, .ref (a (4 + i2)), .int n3] σ (p_X_writeWithType σ n1 i2 n3) := by
  refine cV_of (by decide) (Nat.le_of_ble_eq_true rfl) ?_
  intro p e s m args below meth c Q ls hx hb hF hl hs hret
  have hl : lv_has ls 4 [(0, .ref (a 0)), (1, .int n1), (2, .ref (a (4 + i2))), (3, .int n3)] := hl
  refine lv_aload_n hx hb d_X_writeWithType_0 rfl (lv_at hl 0 rfl) ?_
  refine xg_X hx hb hF hs 4 (by decide) k_fl_X_24 rfl d_X_writeWithType_1 ?_
  refine lv_aload_n hx hb d_X_writeWithType_4 rfl (lv_at hl 2 rfl) ?_
  refine x_Vv hF hs v_K_copy k_ml_X_93 (m_K_copy lt12_13 h_i2) rfl rfl ⟨by decide, by decide⟩ rfl rfl hl.1 (Nat.le_of_ble_eq_true rfl) (rK lt12_13) d_X_writeWithType_5 ⟨Nat.zero_le _, Nat.zero_le _⟩ (fun H locs hs => ?_)
  refine lv_aload_n hx hb d_X_writeWithType_8 rfl (lv_at hl 0 rfl) ?_
  refine xg_X hx hb hF hs 4 (by decide) k_fl_X_24 rfl d_X_writeWithType_9 ?_
  refine lv_iload_n hx hb d_X_writeWithType_12 rfl (lv_at hl 3 rfl) ?_
  refine x_Vv hF hs v_K_setType k_ml_X_185 (m_K_setType lt12_13) rfl rfl ⟨by decide, by decide⟩ rfl rfl hl.1 (Nat.le_of_ble_eq_true rfl) (rK lt12_13) d_X_writeWithType_13 ⟨Nat.zero_le _, Nat.zero_le _⟩ (fun H locs hs => ?_)
  refine lv_aload_n hx hb d_X_writeWithType_16 rfl (lv_at hl 0 rfl) ?_
  refine lv_iload_n hx hb d_X_writeWithType_17 rfl (lv_at hl 1 rfl) ?_
  refine x_Vv hF hs v_X_writeMade k_ml_X_172 (m_X_writeMade h_n1) rfl rfl ⟨by decide, by decide⟩ rfl rfl hl.1 (Nat.le_of_ble_eq_true rfl) rX d_X_writeWithType_18 ⟨Nat.zero_le _, Nat.zero_le _⟩ (fun H locs hs => ?_)
  refine hret _ _ _ _ _ hs ?_ d_X_writeWithType_21
  exact rfl
def p_X_branch (σ : Mem) (n1 : Int32) : Int32 × Mem :=
  let σ1 : Mem := p_K_move σ 8 ((σ 4 8) + (((4 : Int32) * (n1 : Int32)) : Int32));
  ((0 : Int32), σ1)
set_option maxHeartbeats 4000000 in
set_option maxRecDepth 100000 in
theorem m_X_branch {l : Launch} {D : va_G} {a : Nat → Nat} {cA : Nat → ClassId} {B0 : Nat → Prop} {σ : Mem} {n1 : Int32} : cI l y_X_branch (.code y_X_branch c_X_branch 2 (some FieldType.int) :: TG) (rmO 3 76) D (cwL a cA) (cty cA) B0 [.ref (a 0), .int n1] σ (p_X_branch σ n1) := by
  refine cI_of (by decide) (Nat.le_of_ble_eq_true rfl) ?_
  intro p e s m args below meth c Q ls hx hb hF hl hs hret
  have hl : lv_has ls 2 [(0, .ref (a 0)), (1, .int n1)] := hl
  refine lv_aload_n hx hb d_X_branch_0 rfl (lv_at hl 0 rfl) ?_
  refine xg_X hx hb hF hs 3 (by decide) k_fl_X_41 rfl d_X_branch_1 ?_
  refine lv_aload_n hx hb d_X_branch_4 rfl (lv_at hl 0 rfl) ?_
  refine xg_X hx hb hF hs 3 (by decide) k_fl_X_41 rfl d_X_branch_5 ?_
  refine xg_N4 hx hb hF hs lt8_13 d_X_branch_8 ?_
  refine lv_iconst (v := 4) hx hb d_X_branch_11 (by decide) ?_
  refine lv_iload_n hx hb d_X_branch_12 rfl (lv_at hl 1 rfl) ?_
  refine lv_imul hx hb d_X_branch_13 ?_
  refine lv_iadd hx hb d_X_branch_14 ?_
  refine x_Vv hF hs v_K_move k_ml_X_165 (m_K_move lt8_13) rfl rfl ⟨by decide, by decide⟩ rfl rfl hl.1 (Nat.le_of_ble_eq_true rfl) (rK lt8_13) d_X_branch_15 ⟨Nat.zero_le _, Nat.zero_le _⟩ (fun H locs hs => ?_)
  refine lv_iconst (v := 0) hx hb d_X_branch_18 (by decide) ?_
  refine hret _ _ _ _ _ _ hs ?_ d_X_branch_19
  exact rfl
def p_X_returnFromTrap (σ : Mem) : Int32 × Mem :=
  if (p_K_permits σ 8 (128 : Int32)) = (0 : Int32) then
    ((p_X_trapOf (8 : Int32) (3 : Int32)), σ)
  else
    let σ1 : Mem := p_K_copy σ 8 (((10 : Int32) : Int32).toNatClampNeg);
    if (p_K_type σ1 8) = (1 : Int32) then
      let σ2 : Mem := p_K_setType σ1 8 (0 : Int32);
      ((0 : Int32), σ2)
    else
      ((0 : Int32), σ1)
set_option maxHeartbeats 4000000 in
set_option maxRecDepth 100000 in
theorem m_X_returnFromTrap {l : Launch} {D : va_G} {a : Nat → Nat} {cA : Nat → ClassId} {B0 : Nat → Prop} {σ : Mem} : cI l y_X_returnFromTrap (.code y_X_returnFromTrap c_X_returnFromTrap 1 (some FieldType.int) :: TG) (rmO 2 41) D (cwL a cA) (cty cA) B0 [.ref (a 0)] σ (p_X_returnFromTrap σ) := by
  refine cI_of (by decide) (Nat.le_of_ble_eq_true rfl) ?_
  intro p e s m args below meth c Q ls hx hb hF hl hs hret
  have hl : lv_has ls 1 [(0, .ref (a 0))] := hl
  refine lv_aload_n hx hb d_X_returnFromTrap_0 rfl (lv_at hl 0 rfl) ?_
  refine xg_X hx hb hF hs 3 (by decide) k_fl_X_41 rfl d_X_returnFromTrap_1 ?_
  refine lv_sipush (v := 128) hx hb d_X_returnFromTrap_4 (by decide) ?_
  refine x_Vip hF hs v_K_permits k_ml_X_101 (m_K_permits lt8_13) rfl rfl ⟨by decide, by decide⟩ rfl rfl hl.1 (Nat.le_of_ble_eq_true rfl) (rK lt8_13) d_X_returnFromTrap_7 ⟨Nat.zero_le _, Nat.zero_le _⟩ (fun H locs hs => ?_)
  refine lv_if_ne (tgt := 20) hx hb d_X_returnFromTrap_10 (by decide) (fun h1 => ?_) (fun h1 => ?_)
  · refine lv_aload_n hx hb d_X_returnFromTrap_20 rfl (lv_at hl 0 rfl) ?_
    refine xg_X hx hb hF hs 3 (by decide) k_fl_X_41 rfl d_X_returnFromTrap_21 ?_
    refine lv_aload_n hx hb d_X_returnFromTrap_24 rfl (lv_at hl 0 rfl) ?_
    refine xg_X hx hb hF hs 2 (by decide) k_fl_X_19 rfl d_X_returnFromTrap_25 ?_
    refine lv_bipush (v := 10) hx hb d_X_returnFromTrap_28 (by decide) ?_
    refine xr_ld hx hb hF hs ic_10_12 d_X_returnFromTrap_30 ?_
    refine x_Vv hF hs v_K_copy k_ml_X_93 (m_K_copy lt8_13 (in13 ic_10_12)) rfl rfl ⟨by decide, by decide⟩ rfl rfl hl.1 (Nat.le_of_ble_eq_true rfl) (rK lt8_13) d_X_returnFromTrap_31 ⟨Nat.zero_le _, Nat.zero_le _⟩ (fun H locs hs => ?_)
    refine lv_aload_n hx hb d_X_returnFromTrap_34 rfl (lv_at hl 0 rfl) ?_
    refine xg_X hx hb hF hs 3 (by decide) k_fl_X_41 rfl d_X_returnFromTrap_35 ?_
    refine x_Vip hF hs v_K_type k_ml_X_182 (m_K_type lt8_13) rfl rfl ⟨by decide, by decide⟩ rfl rfl hl.1 (Nat.le_of_ble_eq_true rfl) (rK lt8_13) d_X_returnFromTrap_38 ⟨Nat.zero_le _, Nat.zero_le _⟩ (fun H locs hs => ?_)
    refine lv_iconst (v := 1) hx hb d_X_returnFromTrap_41 (by decide) ?_
    refine lv_icmp_ne (tgt := 53) hx hb d_X_returnFromTrap_42 (by decide) (fun h2 => ?_) (fun h2 => ?_)
    · refine lv_iconst (v := 0) hx hb d_X_returnFromTrap_53 (by decide) ?_
      refine hret _ _ _ _ _ _ hs ?_ d_X_returnFromTrap_54
      exact (if_neg h1).trans ((if_neg h2).trans rfl)
    · refine lv_aload_n hx hb d_X_returnFromTrap_45 rfl (lv_at hl 0 rfl) ?_
      refine xg_X hx hb hF hs 3 (by decide) k_fl_X_41 rfl d_X_returnFromTrap_46 ?_
      refine lv_iconst (v := 0) hx hb d_X_returnFromTrap_49 (by decide) ?_
      refine x_Vv hF hs v_K_setType k_ml_X_185 (m_K_setType lt8_13) rfl rfl ⟨by decide, by decide⟩ rfl rfl hl.1 (Nat.le_of_ble_eq_true rfl) (rK lt8_13) d_X_returnFromTrap_50 ⟨Nat.zero_le _, Nat.zero_le _⟩ (fun H locs hs => ?_)
      refine lv_iconst (v := 0) hx hb d_X_returnFromTrap_53 (by decide) ?_
      refine hret _ _ _ _ _ _ hs ?_ d_X_returnFromTrap_54
      exact (if_neg h1).trans ((if_pos h2).trans rfl)
  · refine lv_bipush (v := 8) hx hb d_X_returnFromTrap_13 (by decide) ?_
    refine lv_iconst (v := 3) hx hb d_X_returnFromTrap_15 (by decide) ?_
    refine x_Sip hF hs v_X_trapOf k_ml_X_106 (m_X_trapOf) rfl rfl ⟨by decide, by decide⟩ rfl rfl hl.1 (Nat.le_of_ble_eq_true rfl) d_X_returnFromTrap_16 ⟨Nat.zero_le _, Nat.zero_le _⟩ (fun H locs hs => ?_)
    refine hret _ _ _ _ _ _ hs ?_ d_X_returnFromTrap_19
    exact (if_pos h1).trans rfl
def p_X_swap (σ : Mem) (n1 : Int32) (n2 : Int32) (n3 : Int32) : Int32 × Mem :=
  if (p_K_permits σ 8 (128 : Int32)) = (0 : Int32) then
    ((p_X_trapOf (8 : Int32) (3 : Int32)), σ)
  else
    if n3 < (0 : Int32) then
      ((p_X_trapOf (8 : Int32) (8 : Int32)), σ)
    else
      if n3 ≤ (2 : Int32) then
        let σ1 : Mem := p_K_copy σ 12 (((9 : Int32) + (n3 : Int32)).toNatClampNeg);
        if n2 = (0 : Int32) then
          let σ2 : Mem := p_X_writeMade σ1 n1;
          ((0 : Int32), σ2)
        else
          let σ3 : Mem := p_K_copy σ1 (((9 : Int32) + (n3 : Int32)).toNatClampNeg) (n2.toNatClampNeg);
          let σ4 : Mem := p_X_writeMade σ3 n1;
          ((0 : Int32), σ4)
      else
        ((p_X_trapOf (8 : Int32) (8 : Int32)), σ)
set_option maxHeartbeats 4000000 in
set_option maxRecDepth 100000 in
theorem m_X_swap {l : Launch} {D : va_G} {a : Nat → Nat} {cA : Nat → ClassId} {B0 : Nat → Prop} {σ : Mem} {n1 : Int32} {n2 : Int32} {n3 : Int32} (h_n1 : vp_in n1 12) (h_n2 : vp_in n2 12) : cI l y_X_swap (.code y_X_swap c_X_swap 5 (some FieldType.int) :: TG) (rmO 2 42) D (cwL a cA) (cty cA) B0 [.ref (a 0), .int n1, .int n2, .int n3] σ (p_X_swap σ n1 n2 n3) := by
  refine cI_of (by decide) (Nat.le_of_ble_eq_true rfl) ?_
  intro p e s m args below meth c Q ls hx hb hF hl hs hret
  have hl : lv_has ls 5 [(0, .ref (a 0)), (1, .int n1), (2, .int n2), (3, .int n3)] := hl
  refine lv_aload_n hx hb d_X_swap_0 rfl (lv_at hl 0 rfl) ?_
  refine xg_X hx hb hF hs 3 (by decide) k_fl_X_41 rfl d_X_swap_1 ?_
  refine lv_sipush (v := 128) hx hb d_X_swap_4 (by decide) ?_
  refine x_Vip hF hs v_K_permits k_ml_X_101 (m_K_permits lt8_13) rfl rfl ⟨by decide, by decide⟩ rfl rfl hl.1 (Nat.le_of_ble_eq_true rfl) (rK lt8_13) d_X_swap_7 ⟨Nat.zero_le _, Nat.zero_le _⟩ (fun H locs hs => ?_)
  refine lv_if_ne (tgt := 20) hx hb d_X_swap_10 (by decide) (fun h1 => ?_) (fun h1 => ?_)
  · refine lv_iload_n hx hb d_X_swap_20 rfl (lv_at hl 3 rfl) ?_
    refine lv_if_lt (tgt := 29) hx hb d_X_swap_21 (by decide) (fun h2 => ?_) (fun h2 => ?_)
    · refine lv_bipush (v := 8) hx hb d_X_swap_29 (by decide) ?_
      refine lv_bipush (v := 8) hx hb d_X_swap_31 (by decide) ?_
      refine x_Sip hF hs v_X_trapOf k_ml_X_106 (m_X_trapOf) rfl rfl ⟨by decide, by decide⟩ rfl rfl hl.1 (Nat.le_of_ble_eq_true rfl) d_X_swap_33 ⟨Nat.zero_le _, Nat.zero_le _⟩ (fun H locs hs => ?_)
      refine hret _ _ _ _ _ _ hs ?_ d_X_swap_36
      exact (if_neg h1).trans ((if_pos h2).trans rfl)
    · refine lv_iload_n hx hb d_X_swap_24 rfl (lv_at hl 3 rfl) ?_
      refine lv_iconst (v := 2) hx hb d_X_swap_25 (by decide) ?_
      refine lv_icmp_le (tgt := 37) hx hb d_X_swap_26 (by decide) (fun h3 => ?_) (fun h3 => ?_)
      · refine lv_aload_n hx hb d_X_swap_37 rfl (lv_at hl 0 rfl) ?_
        refine xg_X hx hb hF hs 2 (by decide) k_fl_X_19 rfl d_X_swap_38 ?_
        refine lv_bipush (v := 9) hx hb d_X_swap_41 (by decide) ?_
        refine lv_iload_n hx hb d_X_swap_43 rfl (lv_at hl 3 rfl) ?_
        refine lv_iadd hx hb d_X_swap_44 ?_
        refine xr_ld hx hb hF hs (ix_swap h2 h3) d_X_swap_45 ?_
        refine lv_astore (lv' := [(4, _), (0, _), (1, _), (2, _), (3, _)]) hx hb d_X_swap_46 hl (by decide) rfl (fun ls hl => ?_)
        refine lv_aload_n hx hb d_X_swap_48 rfl (lv_at hl 1 rfl) ?_
        refine xg_X hx hb hF hs 4 (by decide) k_fl_X_24 rfl d_X_swap_49 ?_
        refine lv_aload hx hb d_X_swap_52 (lv_at hl 0 rfl) ?_
        refine x_Vv hF hs v_K_copy k_ml_X_93 (m_K_copy lt12_13 (in13 (ix_swap h2 h3))) rfl rfl ⟨by decide, by decide⟩ rfl rfl hl.1 (Nat.le_of_ble_eq_true rfl) (rK lt12_13) d_X_swap_54 ⟨Nat.zero_le _, Nat.zero_le _⟩ (fun H locs hs => ?_)
        refine lv_iload_n hx hb d_X_swap_57 rfl (lv_at hl 3 rfl) ?_
        refine lv_if_eq (tgt := 72) hx hb d_X_swap_58 (by decide) (fun h4 => ?_) (fun h4 => ?_)
        · refine lv_aload_n hx hb d_X_swap_72 rfl (lv_at hl 1 rfl) ?_
          refine lv_iload_n hx hb d_X_swap_73 rfl (lv_at hl 2 rfl) ?_
          refine x_Vv hF hs v_X_writeMade k_ml_X_172 (m_X_writeMade h_n1) rfl rfl ⟨by decide, by decide⟩ rfl rfl hl.1 (Nat.le_of_ble_eq_true rfl) rX d_X_swap_74 ⟨Nat.zero_le _, Nat.zero_le _⟩ (fun H locs hs => ?_)
          refine lv_iconst (v := 0) hx hb d_X_swap_77 (by decide) ?_
          refine hret _ _ _ _ _ _ hs ?_ d_X_swap_78
          exact (if_neg h1).trans ((if_neg h2).trans ((if_pos h3).trans ((if_pos h4).trans rfl)))
        · refine lv_aload hx hb d_X_swap_61 (lv_at hl 0 rfl) ?_
          refine lv_aload_n hx hb d_X_swap_63 rfl (lv_at hl 1 rfl) ?_
          refine xg_X hx hb hF hs 2 (by decide) k_fl_X_19 rfl d_X_swap_64 ?_
          refine lv_iload_n hx hb d_X_swap_67 rfl (lv_at hl 3 rfl) ?_
          refine xr_ld hx hb hF hs h_n2 d_X_swap_68 ?_
          refine x_Vv hF hs v_K_copy k_ml_X_93 (m_K_copy (in13 (ix_swap h2 h3)) (in13 h_n2)) rfl rfl ⟨by decide, by decide⟩ rfl rfl hl.1 (Nat.le_of_ble_eq_true rfl) (rK (in13 (ix_swap h2 h3))) d_X_swap_69 ⟨Nat.zero_le _, Nat.zero_le _⟩ (fun H locs hs => ?_)
          refine lv_aload_n hx hb d_X_swap_72 rfl (lv_at hl 1 rfl) ?_
          refine lv_iload_n hx hb d_X_swap_73 rfl (lv_at hl 2 rfl) ?_
          refine x_Vv hF hs v_X_writeMade k_ml_X_172 (m_X_writeMade h_n1) rfl rfl ⟨by decide, by decide⟩ rfl rfl hl.1 (Nat.le_of_ble_eq_true rfl) rX d_X_swap_74 ⟨Nat.zero_le _, Nat.zero_le _⟩ (fun H locs hs => ?_)
          refine lv_iconst (v := 0) hx hb d_X_swap_77 (by decide) ?_
          refine hret _ _ _ _ _ _ hs ?_ d_X_swap_78
          exact (if_neg h1).trans ((if_neg h2).trans ((if_pos h3).trans ((if_neg h4).trans rfl)))
      · refine lv_bipush (v := 8) hx hb d_X_swap_29 (by decide) ?_
        refine lv_bipush (v := 8) hx hb d_X_swap_31 (by decide) ?_
        refine x_Sip hF hs v_X_trapOf k_ml_X_106 (m_X_trapOf) rfl rfl ⟨by decide, by decide⟩ rfl rfl hl.1 (Nat.le_of_ble_eq_true rfl) d_X_swap_33 ⟨Nat.zero_le _, Nat.zero_le _⟩ (fun H locs hs => ?_)
        refine hret _ _ _ _ _ _ hs ?_ d_X_swap_36
        exact (if_neg h1).trans ((if_neg h2).trans ((if_neg h3).trans rfl))
  · refine lv_bipush (v := 8) hx hb d_X_swap_13 (by decide) ?_
    refine lv_iconst (v := 3) hx hb d_X_swap_15 (by decide) ?_
    refine x_Sip hF hs v_X_trapOf k_ml_X_106 (m_X_trapOf) rfl rfl ⟨by decide, by decide⟩ rfl rfl hl.1 (Nat.le_of_ble_eq_true rfl) d_X_swap_16 ⟨Nat.zero_le _, Nat.zero_le _⟩ (fun H locs hs => ?_)
    refine hret _ _ _ _ _ _ hs ?_ d_X_swap_19
    exact (if_pos h1).trans rfl
def p_X_jump (σ : Mem) (n1 : Int32) (n2 : Int32) : Int32 × Mem :=
  if (bo (σ 2 (n2.toNatClampNeg))) = (0 : Int32) then
    ((p_X_trapOf n2 (1 : Int32)), σ)
  else
    if (p_K_isSealed σ (n2.toNatClampNeg)) = (0 : Int32) then
      if (p_K_permits σ (n2.toNatClampNeg) (1 : Int32)) = (0 : Int32) then
        ((p_X_trapOf n2 (3 : Int32)), σ)
      else
        let σ1 : Mem := p_K_copy σ 12 (n2.toNatClampNeg);
        let σ2 : Mem := p_K_setType σ1 12 (0 : Int32);
        let σ3 : Mem := p_X_writeLink σ2 n1;
        let σ4 : Mem := p_K_copy σ3 8 12;
        ((0 : Int32), σ4)
    else
      if (p_K_type σ (n2.toNatClampNeg)) = (1 : Int32) then
        if (p_K_permits σ (n2.toNatClampNeg) (1 : Int32)) = (0 : Int32) then
          ((p_X_trapOf n2 (3 : Int32)), σ)
        else
          let σ5 : Mem := p_K_copy σ 12 (n2.toNatClampNeg);
          let σ6 : Mem := p_K_setType σ5 12 (0 : Int32);
          let σ7 : Mem := p_X_writeLink σ6 n1;
          let σ8 : Mem := p_K_copy σ7 8 12;
          ((0 : Int32), σ8)
      else
        ((p_X_trapOf n2 (2 : Int32)), σ)
set_option maxHeartbeats 4000000 in
set_option maxRecDepth 100000 in
theorem m_X_jump {l : Launch} {D : va_G} {a : Nat → Nat} {cA : Nat → ClassId} {B0 : Nat → Prop} {σ : Mem} {n1 : Int32} {n2 : Int32} (h_n1 : vp_in n1 12) (h_n2 : vp_in n2 12) : cI l y_X_jump (.code y_X_jump c_X_jump 4 (some FieldType.int) :: TG) (rmO 4 97) D (cwL a cA) (cty cA) B0 [.ref (a 0), .int n1, .int n2] σ (p_X_jump σ n1 n2) := by
  refine cI_of (by decide) (Nat.le_of_ble_eq_true rfl) ?_
  intro p e s m args below meth c Q ls hx hb hF hl hs hret
  have hl : lv_has ls 4 [(0, .ref (a 0)), (1, .int n1), (2, .int n2)] := hl
  refine lv_aload_n hx hb d_X_jump_0 rfl (lv_at hl 0 rfl) ?_
  refine xg_X hx hb hF hs 2 (by decide) k_fl_X_19 rfl d_X_jump_1 ?_
  refine lv_iload_n hx hb d_X_jump_4 rfl (lv_at hl 2 rfl) ?_
  refine xr_ld hx hb hF hs h_n2 d_X_jump_5 ?_
  refine lv_astore_n (lv' := [(3, _), (0, _), (1, _), (2, _)]) hx hb d_X_jump_6 rfl hl (by decide) rfl (fun ls hl => ?_)
  refine lv_aload_n hx hb d_X_jump_7 rfl (lv_at hl 0 rfl) ?_
  refine xg_N2 hx hb hF hs (in13 h_n2) d_X_jump_8 ?_
  refine lv_if_ne (tgt := 20) hx hb d_X_jump_11 (by decide) (fun h1 => ?_) (fun h1 => ?_)
  · refine lv_aload_n hx hb d_X_jump_20 rfl (lv_at hl 0 rfl) ?_
    refine x_Vip hF hs v_K_isSealed k_ml_X_97 (m_K_isSealed (in13 h_n2)) rfl rfl ⟨by decide, by decide⟩ rfl rfl hl.1 (Nat.le_of_ble_eq_true rfl) (rK (in13 h_n2)) d_X_jump_21 ⟨Nat.zero_le _, Nat.zero_le _⟩ (fun H locs hs => ?_)
    refine lv_if_eq (tgt := 41) hx hb d_X_jump_24 (by decide) (fun h2 => ?_) (fun h2 => ?_)
    · refine lv_aload_n hx hb d_X_jump_41 rfl (lv_at hl 0 rfl) ?_
      refine lv_iconst (v := 1) hx hb d_X_jump_42 (by decide) ?_
      refine x_Vip hF hs v_K_permits k_ml_X_101 (m_K_permits (in13 h_n2)) rfl rfl ⟨by decide, by decide⟩ rfl rfl hl.1 (Nat.le_of_ble_eq_true rfl) (rK (in13 h_n2)) d_X_jump_43 ⟨Nat.zero_le _, Nat.zero_le _⟩ (fun H locs hs => ?_)
      refine lv_if_ne (tgt := 55) hx hb d_X_jump_46 (by decide) (fun h3 => ?_) (fun h3 => ?_)
      · refine lv_aload_n hx hb d_X_jump_55 rfl (lv_at hl 1 rfl) ?_
        refine xg_X hx hb hF hs 4 (by decide) k_fl_X_24 rfl d_X_jump_56 ?_
        refine lv_aload_n hx hb d_X_jump_59 rfl (lv_at hl 0 rfl) ?_
        refine x_Vv hF hs v_K_copy k_ml_X_93 (m_K_copy lt12_13 (in13 h_n2)) rfl rfl ⟨by decide, by decide⟩ rfl rfl hl.1 (Nat.le_of_ble_eq_true rfl) (rK lt12_13) d_X_jump_60 ⟨Nat.zero_le _, Nat.zero_le _⟩ (fun H locs hs => ?_)
        refine lv_aload_n hx hb d_X_jump_63 rfl (lv_at hl 1 rfl) ?_
        refine xg_X hx hb hF hs 4 (by decide) k_fl_X_24 rfl d_X_jump_64 ?_
        refine lv_iconst (v := 0) hx hb d_X_jump_67 (by decide) ?_
        refine x_Vv hF hs v_K_setType k_ml_X_185 (m_K_setType lt12_13) rfl rfl ⟨by decide, by decide⟩ rfl rfl hl.1 (Nat.le_of_ble_eq_true rfl) (rK lt12_13) d_X_jump_68 ⟨Nat.zero_le _, Nat.zero_le _⟩ (fun H locs hs => ?_)
        refine lv_aload_n hx hb d_X_jump_71 rfl (lv_at hl 1 rfl) ?_
        refine lv_iload_n hx hb d_X_jump_72 rfl (lv_at hl 2 rfl) ?_
        refine x_Vv hF hs v_X_writeLink k_ml_X_128 (m_X_writeLink h_n1) rfl rfl ⟨by decide, by decide⟩ rfl rfl hl.1 (Nat.le_of_ble_eq_true rfl) rX d_X_jump_73 ⟨Nat.zero_le _, Nat.zero_le _⟩ (fun H locs hs => ?_)
        refine lv_aload_n hx hb d_X_jump_76 rfl (lv_at hl 1 rfl) ?_
        refine xg_X hx hb hF hs 3 (by decide) k_fl_X_41 rfl d_X_jump_77 ?_
        refine lv_aload_n hx hb d_X_jump_80 rfl (lv_at hl 1 rfl) ?_
        refine xg_X hx hb hF hs 4 (by decide) k_fl_X_24 rfl d_X_jump_81 ?_
        refine x_Vv hF hs v_K_copy k_ml_X_93 (m_K_copy lt8_13 lt12_13) rfl rfl ⟨by decide, by decide⟩ rfl rfl hl.1 (Nat.le_of_ble_eq_true rfl) (rK lt8_13) d_X_jump_84 ⟨Nat.zero_le _, Nat.zero_le _⟩ (fun H locs hs => ?_)
        refine lv_iconst (v := 0) hx hb d_X_jump_87 (by decide) ?_
        refine hret _ _ _ _ _ _ hs ?_ d_X_jump_88
        exact (if_neg h1).trans ((if_pos h2).trans ((if_neg h3).trans rfl))
      · refine lv_iload_n hx hb d_X_jump_49 rfl (lv_at hl 3 rfl) ?_
        refine lv_iconst (v := 3) hx hb d_X_jump_50 (by decide) ?_
        refine x_Sip hF hs v_X_trapOf k_ml_X_106 (m_X_trapOf) rfl rfl ⟨by decide, by decide⟩ rfl rfl hl.1 (Nat.le_of_ble_eq_true rfl) d_X_jump_51 ⟨Nat.zero_le _, Nat.zero_le _⟩ (fun H locs hs => ?_)
        refine hret _ _ _ _ _ _ hs ?_ d_X_jump_54
        exact (if_neg h1).trans ((if_pos h2).trans ((if_pos h3).trans rfl))
    · refine lv_aload_n hx hb d_X_jump_27 rfl (lv_at hl 0 rfl) ?_
      refine x_Vip hF hs v_K_type k_ml_X_182 (m_K_type (in13 h_n2)) rfl rfl ⟨by decide, by decide⟩ rfl rfl hl.1 (Nat.le_of_ble_eq_true rfl) (rK (in13 h_n2)) d_X_jump_28 ⟨Nat.zero_le _, Nat.zero_le _⟩ (fun H locs hs => ?_)
      refine lv_iconst (v := 1) hx hb d_X_jump_31 (by decide) ?_
      refine lv_icmp_eq (tgt := 41) hx hb d_X_jump_32 (by decide) (fun h3 => ?_) (fun h3 => ?_)
      · refine lv_aload_n hx hb d_X_jump_41 rfl (lv_at hl 0 rfl) ?_
        refine lv_iconst (v := 1) hx hb d_X_jump_42 (by decide) ?_
        refine x_Vip hF hs v_K_permits k_ml_X_101 (m_K_permits (in13 h_n2)) rfl rfl ⟨by decide, by decide⟩ rfl rfl hl.1 (Nat.le_of_ble_eq_true rfl) (rK (in13 h_n2)) d_X_jump_43 ⟨Nat.zero_le _, Nat.zero_le _⟩ (fun H locs hs => ?_)
        refine lv_if_ne (tgt := 55) hx hb d_X_jump_46 (by decide) (fun h4 => ?_) (fun h4 => ?_)
        · refine lv_aload_n hx hb d_X_jump_55 rfl (lv_at hl 1 rfl) ?_
          refine xg_X hx hb hF hs 4 (by decide) k_fl_X_24 rfl d_X_jump_56 ?_
          refine lv_aload_n hx hb d_X_jump_59 rfl (lv_at hl 0 rfl) ?_
          refine x_Vv hF hs v_K_copy k_ml_X_93 (m_K_copy lt12_13 (in13 h_n2)) rfl rfl ⟨by decide, by decide⟩ rfl rfl hl.1 (Nat.le_of_ble_eq_true rfl) (rK lt12_13) d_X_jump_60 ⟨Nat.zero_le _, Nat.zero_le _⟩ (fun H locs hs => ?_)
          refine lv_aload_n hx hb d_X_jump_63 rfl (lv_at hl 1 rfl) ?_
          refine xg_X hx hb hF hs 4 (by decide) k_fl_X_24 rfl d_X_jump_64 ?_
          refine lv_iconst (v := 0) hx hb d_X_jump_67 (by decide) ?_
          refine x_Vv hF hs v_K_setType k_ml_X_185 (m_K_setType lt12_13) rfl rfl ⟨by decide, by decide⟩ rfl rfl hl.1 (Nat.le_of_ble_eq_true rfl) (rK lt12_13) d_X_jump_68 ⟨Nat.zero_le _, Nat.zero_le _⟩ (fun H locs hs => ?_)
          refine lv_aload_n hx hb d_X_jump_71 rfl (lv_at hl 1 rfl) ?_
          refine lv_iload_n hx hb d_X_jump_72 rfl (lv_at hl 2 rfl) ?_
          refine x_Vv hF hs v_X_writeLink k_ml_X_128 (m_X_writeLink h_n1) rfl rfl ⟨by decide, by decide⟩ rfl rfl hl.1 (Nat.le_of_ble_eq_true rfl) rX d_X_jump_73 ⟨Nat.zero_le _, Nat.zero_le _⟩ (fun H locs hs => ?_)
          refine lv_aload_n hx hb d_X_jump_76 rfl (lv_at hl 1 rfl) ?_
          refine xg_X hx hb hF hs 3 (by decide) k_fl_X_41 rfl d_X_jump_77 ?_
          refine lv_aload_n hx hb d_X_jump_80 rfl (lv_at hl 1 rfl) ?_
          refine xg_X hx hb hF hs 4 (by decide) k_fl_X_24 rfl d_X_jump_81 ?_
          refine x_Vv hF hs v_K_copy k_ml_X_93 (m_K_copy lt8_13 lt12_13) rfl rfl ⟨by decide, by decide⟩ rfl rfl hl.1 (Nat.le_of_ble_eq_true rfl) (rK lt8_13) d_X_jump_84 ⟨Nat.zero_le _, Nat.zero_le _⟩ (fun H locs hs => ?_)
          refine lv_iconst (v := 0) hx hb d_X_jump_87 (by decide) ?_
          refine hret _ _ _ _ _ _ hs ?_ d_X_jump_88
          exact (if_neg h1).trans ((if_neg h2).trans ((if_pos h3).trans ((if_neg h4).trans rfl)))
        · refine lv_iload_n hx hb d_X_jump_49 rfl (lv_at hl 3 rfl) ?_
          refine lv_iconst (v := 3) hx hb d_X_jump_50 (by decide) ?_
          refine x_Sip hF hs v_X_trapOf k_ml_X_106 (m_X_trapOf) rfl rfl ⟨by decide, by decide⟩ rfl rfl hl.1 (Nat.le_of_ble_eq_true rfl) d_X_jump_51 ⟨Nat.zero_le _, Nat.zero_le _⟩ (fun H locs hs => ?_)
          refine hret _ _ _ _ _ _ hs ?_ d_X_jump_54
          exact (if_neg h1).trans ((if_neg h2).trans ((if_pos h3).trans ((if_pos h4).trans rfl)))
      · refine lv_iload_n hx hb d_X_jump_35 rfl (lv_at hl 3 rfl) ?_
        refine lv_iconst (v := 2) hx hb d_X_jump_36 (by decide) ?_
        refine x_Sip hF hs v_X_trapOf k_ml_X_106 (m_X_trapOf) rfl rfl ⟨by decide, by decide⟩ rfl rfl hl.1 (Nat.le_of_ble_eq_true rfl) d_X_jump_37 ⟨Nat.zero_le _, Nat.zero_le _⟩ (fun H locs hs => ?_)
        refine hret _ _ _ _ _ _ hs ?_ d_X_jump_40
        exact (if_neg h1).trans ((if_neg h2).trans ((if_neg h3).trans rfl))
  · refine lv_iload_n hx hb d_X_jump_14 rfl (lv_at hl 3 rfl) ?_
    refine lv_iconst (v := 1) hx hb d_X_jump_15 (by decide) ?_
    refine x_Sip hF hs v_X_trapOf k_ml_X_106 (m_X_trapOf) rfl rfl ⟨by decide, by decide⟩ rfl rfl hl.1 (Nat.le_of_ble_eq_true rfl) d_X_jump_16 ⟨Nat.zero_le _, Nat.zero_le _⟩ (fun H locs hs => ?_)
    refine hret _ _ _ _ _ _ hs ?_ d_X_jump_19
    exact (if_pos h1).trans rfl
def p_X_seal (σ : Mem) (n1 : Int32) (n2 : Int32) (n3 : Int32) : Int32 × Mem :=
  if (bo (σ 2 (n2.toNatClampNeg))) = (0 : Int32) then
    ((p_X_trapOf n2 (1 : Int32)), σ)
  else
    if (p_K_isSealed σ (n2.toNatClampNeg)) = (0 : Int32) then
      if (p_X_check σ n3 (32 : Int32) (1 : Int32) (σ 4 (n3.toNatClampNeg))) = (0 : Int32) then
        if (σ 4 (n3.toNatClampNeg)) < (2 : Int32) then
          ((p_X_trapOf n3 (7 : Int32)), σ)
        else
          if (σ 4 (n3.toNatClampNeg)) ≤ (15 : Int32) then
            let σ1 : Mem := p_X_writeWithType σ n1 (n2.toNatClampNeg) (σ 4 (n3.toNatClampNeg));
            ((0 : Int32), σ1)
          else
            ((p_X_trapOf n3 (7 : Int32)), σ)
      else
        ((p_X_check σ n3 (32 : Int32) (1 : Int32) (σ 4 (n3.toNatClampNeg))), σ)
    else
      ((p_X_trapOf n2 (2 : Int32)), σ)
set_option maxHeartbeats 4000000 in
set_option maxRecDepth 100000 in
theorem m_X_seal {l : Launch} {D : va_G} {a : Nat → Nat} {cA : Nat → ClassId} {B0 : Nat → Prop} {σ : Mem} {n1 : Int32} {n2 : Int32} {n3 : Int32} (h_n1 : vp_in n1 12) (h_n2 : vp_in n2 12) (h_n3 : vp_in n3 12) : cI l y_X_seal (.code y_X_seal c_X_seal 7 (some FieldType.int) :: TG) (rmO 3 78) D (cwL a cA) (cty cA) B0 [.ref (a 0), .int n1, .int n2, .int n3] σ (p_X_seal σ n1 n2 n3) := by
  refine cI_of (by decide) (Nat.le_of_ble_eq_true rfl) ?_
  intro p e s m args below meth c Q ls hx hb hF hl hs hret
  have hl : lv_has ls 7 [(0, .ref (a 0)), (1, .int n1), (2, .int n2), (3, .int n3)] := hl
  refine lv_aload_n hx hb d_X_seal_0 rfl (lv_at hl 0 rfl) ?_
  refine xg_X hx hb hF hs 2 (by decide) k_fl_X_19 rfl d_X_seal_1 ?_
  refine lv_iload_n hx hb d_X_seal_4 rfl (lv_at hl 2 rfl) ?_
  refine xr_ld hx hb hF hs h_n2 d_X_seal_5 ?_
  refine lv_astore (lv' := [(4, _), (0, _), (1, _), (2, _), (3, _)]) hx hb d_X_seal_6 hl (by decide) rfl (fun ls hl => ?_)
  refine lv_aload hx hb d_X_seal_8 (lv_at hl 0 rfl) ?_
  refine xg_N2 hx hb hF hs (in13 h_n2) d_X_seal_10 ?_
  refine lv_if_ne (tgt := 22) hx hb d_X_seal_13 (by decide) (fun h1 => ?_) (fun h1 => ?_)
  · refine lv_aload hx hb d_X_seal_22 (lv_at hl 0 rfl) ?_
    refine x_Vip hF hs v_K_isSealed k_ml_X_97 (m_K_isSealed (in13 h_n2)) rfl rfl ⟨by decide, by decide⟩ rfl rfl hl.1 (Nat.le_of_ble_eq_true rfl) (rK (in13 h_n2)) d_X_seal_24 ⟨Nat.zero_le _, Nat.zero_le _⟩ (fun H locs hs => ?_)
    refine lv_if_eq (tgt := 36) hx hb d_X_seal_27 (by decide) (fun h2 => ?_) (fun h2 => ?_)
    · refine lv_aload_n hx hb d_X_seal_36 rfl (lv_at hl 1 rfl) ?_
      refine xg_X hx hb hF hs 2 (by decide) k_fl_X_19 rfl d_X_seal_37 ?_
      refine lv_iload_n hx hb d_X_seal_40 rfl (lv_at hl 4 rfl) ?_
      refine xr_ld hx hb hF hs h_n3 d_X_seal_41 ?_
      refine xg_N4 hx hb hF hs (in13 h_n3) d_X_seal_42 ?_
      refine lv_istore (lv' := [(5, _), (4, _), (0, _), (1, _), (2, _), (3, _)]) hx hb d_X_seal_45 hl (by decide) rfl (fun ls hl => ?_)
      refine lv_aload_n hx hb d_X_seal_47 rfl (lv_at hl 2 rfl) ?_
      refine lv_iload_n hx hb d_X_seal_48 rfl (lv_at hl 5 rfl) ?_
      refine lv_bipush (v := 32) hx hb d_X_seal_49 (by decide) ?_
      refine lv_iconst (v := 1) hx hb d_X_seal_51 (by decide) ?_
      refine lv_iload hx hb d_X_seal_52 (lv_at hl 0 rfl) ?_
      refine x_Vip hF hs v_X_check k_ml_X_82 (m_X_check h_n3) rfl rfl ⟨by decide, by decide⟩ rfl rfl hl.1 (Nat.le_of_ble_eq_true rfl) rX d_X_seal_54 ⟨Nat.zero_le _, Nat.zero_le _⟩ (fun H locs hs => ?_)
      refine lv_istore (lv' := [(6, _), (5, _), (4, _), (0, _), (1, _), (2, _), (3, _)]) hx hb d_X_seal_57 hl (by decide) rfl (fun ls hl => ?_)
      refine lv_iload hx hb d_X_seal_59 (lv_at hl 0 rfl) ?_
      refine lv_if_eq (tgt := 67) hx hb d_X_seal_61 (by decide) (fun h3 => ?_) (fun h3 => ?_)
      · refine lv_iload hx hb d_X_seal_67 (lv_at hl 1 rfl) ?_
        refine lv_iconst (v := 2) hx hb d_X_seal_69 (by decide) ?_
        refine lv_icmp_lt (tgt := 80) hx hb d_X_seal_70 (by decide) (fun h4 => ?_) (fun h4 => ?_)
        · refine lv_iload_n hx hb d_X_seal_80 rfl (lv_at hl 6 rfl) ?_
          refine lv_bipush (v := 7) hx hb d_X_seal_81 (by decide) ?_
          refine x_Sip hF hs v_X_trapOf k_ml_X_106 (m_X_trapOf) rfl rfl ⟨by decide, by decide⟩ rfl rfl hl.1 (Nat.le_of_ble_eq_true rfl) d_X_seal_83 ⟨Nat.zero_le _, Nat.zero_le _⟩ (fun H locs hs => ?_)
          refine hret _ _ _ _ _ _ hs ?_ d_X_seal_86
          exact (if_neg h1).trans ((if_pos h2).trans ((if_pos h3).trans ((if_pos h4).trans rfl)))
        · refine lv_iload hx hb d_X_seal_73 (lv_at hl 1 rfl) ?_
          refine lv_bipush (v := 15) hx hb d_X_seal_75 (by decide) ?_
          refine lv_icmp_le (tgt := 87) hx hb d_X_seal_77 (by decide) (fun h5 => ?_) (fun h5 => ?_)
          · refine lv_aload_n hx hb d_X_seal_87 rfl (lv_at hl 3 rfl) ?_
            refine lv_iload_n hx hb d_X_seal_88 rfl (lv_at hl 4 rfl) ?_
            refine lv_aload hx hb d_X_seal_89 (lv_at hl 2 rfl) ?_
            refine lv_iload hx hb d_X_seal_91 (lv_at hl 1 rfl) ?_
            refine x_Vv hF hs v_X_writeWithType k_ml_X_188 (m_X_writeWithType (in13 h_n2) h_n1) rfl rfl ⟨by decide, by decide⟩ rfl rfl hl.1 (Nat.le_of_ble_eq_true rfl) rX d_X_seal_93 ⟨Nat.zero_le _, Nat.zero_le _⟩ (fun H locs hs => ?_)
            refine lv_iconst (v := 0) hx hb d_X_seal_96 (by decide) ?_
            refine hret _ _ _ _ _ _ hs ?_ d_X_seal_97
            exact (if_neg h1).trans ((if_pos h2).trans ((if_pos h3).trans ((if_neg h4).trans ((if_pos h5).trans rfl))))
          · refine lv_iload_n hx hb d_X_seal_80 rfl (lv_at hl 6 rfl) ?_
            refine lv_bipush (v := 7) hx hb d_X_seal_81 (by decide) ?_
            refine x_Sip hF hs v_X_trapOf k_ml_X_106 (m_X_trapOf) rfl rfl ⟨by decide, by decide⟩ rfl rfl hl.1 (Nat.le_of_ble_eq_true rfl) d_X_seal_83 ⟨Nat.zero_le _, Nat.zero_le _⟩ (fun H locs hs => ?_)
            refine hret _ _ _ _ _ _ hs ?_ d_X_seal_86
            exact (if_neg h1).trans ((if_pos h2).trans ((if_pos h3).trans ((if_neg h4).trans ((if_neg h5).trans rfl))))
      · refine lv_iload hx hb d_X_seal_64 (lv_at hl 0 rfl) ?_
        refine hret _ _ _ _ _ _ hs ?_ d_X_seal_66
        exact (if_neg h1).trans ((if_pos h2).trans ((if_neg h3).trans rfl))
    · refine lv_iload_n hx hb d_X_seal_30 rfl (lv_at hl 3 rfl) ?_
      refine lv_iconst (v := 2) hx hb d_X_seal_31 (by decide) ?_
      refine x_Sip hF hs v_X_trapOf k_ml_X_106 (m_X_trapOf) rfl rfl ⟨by decide, by decide⟩ rfl rfl hl.1 (Nat.le_of_ble_eq_true rfl) d_X_seal_32 ⟨Nat.zero_le _, Nat.zero_le _⟩ (fun H locs hs => ?_)
      refine hret _ _ _ _ _ _ hs ?_ d_X_seal_35
      exact (if_neg h1).trans ((if_neg h2).trans rfl)
  · refine lv_iload_n hx hb d_X_seal_16 rfl (lv_at hl 3 rfl) ?_
    refine lv_iconst (v := 1) hx hb d_X_seal_17 (by decide) ?_
    refine x_Sip hF hs v_X_trapOf k_ml_X_106 (m_X_trapOf) rfl rfl ⟨by decide, by decide⟩ rfl rfl hl.1 (Nat.le_of_ble_eq_true rfl) d_X_seal_18 ⟨Nat.zero_le _, Nat.zero_le _⟩ (fun H locs hs => ?_)
    refine hret _ _ _ _ _ _ hs ?_ d_X_seal_21
    exact (if_pos h1).trans rfl
def p_X_unseal (σ : Mem) (n1 : Int32) (n2 : Int32) (n3 : Int32) : Int32 × Mem :=
  if (bo (σ 2 (n2.toNatClampNeg))) = (0 : Int32) then
    ((p_X_trapOf n2 (1 : Int32)), σ)
  else
    if (p_K_isSealed σ (n2.toNatClampNeg)) = (0 : Int32) then
      ((p_X_trapOf n2 (2 : Int32)), σ)
    else
      if (p_K_type σ (n2.toNatClampNeg)) = (1 : Int32) then
        ((p_X_trapOf n2 (2 : Int32)), σ)
      else
        if (p_X_check σ n3 (64 : Int32) (1 : Int32) (σ 4 (n3.toNatClampNeg))) = (0 : Int32) then
          if (σ 4 (n3.toNatClampNeg)) = (p_K_type σ (n2.toNatClampNeg)) then
            let σ1 : Mem := p_X_writeWithType σ n1 (n2.toNatClampNeg) (0 : Int32);
            ((0 : Int32), σ1)
          else
            ((p_X_trapOf n3 (7 : Int32)), σ)
        else
          ((p_X_check σ n3 (64 : Int32) (1 : Int32) (σ 4 (n3.toNatClampNeg))), σ)
set_option maxHeartbeats 4000000 in
set_option maxRecDepth 100000 in
theorem m_X_unseal {l : Launch} {D : va_G} {a : Nat → Nat} {cA : Nat → ClassId} {B0 : Nat → Prop} {σ : Mem} {n1 : Int32} {n2 : Int32} {n3 : Int32} (h_n1 : vp_in n1 12) (h_n2 : vp_in n2 12) (h_n3 : vp_in n3 12) : cI l y_X_unseal (.code y_X_unseal c_X_unseal 7 (some FieldType.int) :: TG) (rmO 3 78) D (cwL a cA) (cty cA) B0 [.ref (a 0), .int n1, .int n2, .int n3] σ (p_X_unseal σ n1 n2 n3) := by
  refine cI_of (by decide) (Nat.le_of_ble_eq_true rfl) ?_
  intro p e s m args below meth c Q ls hx hb hF hl hs hret
  have hl : lv_has ls 7 [(0, .ref (a 0)), (1, .int n1), (2, .int n2), (3, .int n3)] := hl
  refine lv_aload_n hx hb d_X_unseal_0 rfl (lv_at hl 0 rfl) ?_
  refine xg_X hx hb hF hs 2 (by decide) k_fl_X_19 rfl d_X_unseal_1 ?_
  refine lv_iload_n hx hb d_X_unseal_4 rfl (lv_at hl 2 rfl) ?_
  refine xr_ld hx hb hF hs h_n2 d_X_unseal_5 ?_
  refine lv_astore (lv' := [(4, _), (0, _), (1, _), (2, _), (3, _)]) hx hb d_X_unseal_6 hl (by decide) rfl (fun ls hl => ?_)
  refine lv_aload hx hb d_X_unseal_8 (lv_at hl 0 rfl) ?_
  refine xg_N2 hx hb hF hs (in13 h_n2) d_X_unseal_10 ?_
  refine lv_if_ne (tgt := 22) hx hb d_X_unseal_13 (by decide) (fun h1 => ?_) (fun h1 => ?_)
  · refine lv_aload hx hb d_X_unseal_22 (lv_at hl 0 rfl) ?_
    refine x_Vip hF hs v_K_isSealed k_ml_X_97 (m_K_isSealed (in13 h_n2)) rfl rfl ⟨by decide, by decide⟩ rfl rfl hl.1 (Nat.le_of_ble_eq_true rfl) (rK (in13 h_n2)) d_X_unseal_24 ⟨Nat.zero_le _, Nat.zero_le _⟩ (fun H locs hs => ?_)
    refine lv_if_eq (tgt := 39) hx hb d_X_unseal_27 (by decide) (fun h2 => ?_) (fun h2 => ?_)
    · refine lv_iload_n hx hb d_X_unseal_39 rfl (lv_at hl 3 rfl) ?_
      refine lv_iconst (v := 2) hx hb d_X_unseal_40 (by decide) ?_
      refine x_Sip hF hs v_X_trapOf k_ml_X_106 (m_X_trapOf) rfl rfl ⟨by decide, by decide⟩ rfl rfl hl.1 (Nat.le_of_ble_eq_true rfl) d_X_unseal_41 ⟨Nat.zero_le _, Nat.zero_le _⟩ (fun H locs hs => ?_)
      refine hret _ _ _ _ _ _ hs ?_ d_X_unseal_44
      exact (if_neg h1).trans ((if_pos h2).trans rfl)
    · refine lv_aload hx hb d_X_unseal_30 (lv_at hl 0 rfl) ?_
      refine x_Vip hF hs v_K_type k_ml_X_182 (m_K_type (in13 h_n2)) rfl rfl ⟨by decide, by decide⟩ rfl rfl hl.1 (Nat.le_of_ble_eq_true rfl) (rK (in13 h_n2)) d_X_unseal_32 ⟨Nat.zero_le _, Nat.zero_le _⟩ (fun H locs hs => ?_)
      refine lv_iconst (v := 1) hx hb d_X_unseal_35 (by decide) ?_
      refine lv_icmp_ne (tgt := 45) hx hb d_X_unseal_36 (by decide) (fun h3 => ?_) (fun h3 => ?_)
      · refine lv_aload_n hx hb d_X_unseal_45 rfl (lv_at hl 1 rfl) ?_
        refine xg_X hx hb hF hs 2 (by decide) k_fl_X_19 rfl d_X_unseal_46 ?_
        refine lv_iload_n hx hb d_X_unseal_49 rfl (lv_at hl 4 rfl) ?_
        refine xr_ld hx hb hF hs h_n3 d_X_unseal_50 ?_
        refine xg_N4 hx hb hF hs (in13 h_n3) d_X_unseal_51 ?_
        refine lv_istore (lv' := [(5, _), (4, _), (0, _), (1, _), (2, _), (3, _)]) hx hb d_X_unseal_54 hl (by decide) rfl (fun ls hl => ?_)
        refine lv_aload_n hx hb d_X_unseal_56 rfl (lv_at hl 2 rfl) ?_
        refine lv_iload_n hx hb d_X_unseal_57 rfl (lv_at hl 5 rfl) ?_
        refine lv_bipush (v := 64) hx hb d_X_unseal_58 (by decide) ?_
        refine lv_iconst (v := 1) hx hb d_X_unseal_60 (by decide) ?_
        refine lv_iload hx hb d_X_unseal_61 (lv_at hl 0 rfl) ?_
        refine x_Vip hF hs v_X_check k_ml_X_82 (m_X_check h_n3) rfl rfl ⟨by decide, by decide⟩ rfl rfl hl.1 (Nat.le_of_ble_eq_true rfl) rX d_X_unseal_63 ⟨Nat.zero_le _, Nat.zero_le _⟩ (fun H locs hs => ?_)
        refine lv_istore (lv' := [(6, _), (5, _), (4, _), (0, _), (1, _), (2, _), (3, _)]) hx hb d_X_unseal_66 hl (by decide) rfl (fun ls hl => ?_)
        refine lv_iload hx hb d_X_unseal_68 (lv_at hl 0 rfl) ?_
        refine lv_if_eq (tgt := 76) hx hb d_X_unseal_70 (by decide) (fun h4 => ?_) (fun h4 => ?_)
        · refine lv_iload hx hb d_X_unseal_76 (lv_at hl 1 rfl) ?_
          refine lv_aload hx hb d_X_unseal_78 (lv_at hl 2 rfl) ?_
          refine x_Vip hF hs v_K_type k_ml_X_182 (m_K_type (in13 h_n2)) rfl rfl ⟨by decide, by decide⟩ rfl rfl hl.1 (Nat.le_of_ble_eq_true rfl) (rK (in13 h_n2)) d_X_unseal_80 ⟨Nat.zero_le _, Nat.zero_le _⟩ (fun H locs hs => ?_)
          refine lv_icmp_eq (tgt := 93) hx hb d_X_unseal_83 (by decide) (fun h5 => ?_) (fun h5 => ?_)
          · refine lv_aload_n hx hb d_X_unseal_93 rfl (lv_at hl 3 rfl) ?_
            refine lv_iload_n hx hb d_X_unseal_94 rfl (lv_at hl 4 rfl) ?_
            refine lv_aload hx hb d_X_unseal_95 (lv_at hl 2 rfl) ?_
            refine lv_iconst (v := 0) hx hb d_X_unseal_97 (by decide) ?_
            refine x_Vv hF hs v_X_writeWithType k_ml_X_188 (m_X_writeWithType (in13 h_n2) h_n1) rfl rfl ⟨by decide, by decide⟩ rfl rfl hl.1 (Nat.le_of_ble_eq_true rfl) rX d_X_unseal_98 ⟨Nat.zero_le _, Nat.zero_le _⟩ (fun H locs hs => ?_)
            refine lv_iconst (v := 0) hx hb d_X_unseal_101 (by decide) ?_
            refine hret _ _ _ _ _ _ hs ?_ d_X_unseal_102
            exact (if_neg h1).trans ((if_neg h2).trans ((if_neg h3).trans ((if_pos h4).trans ((if_pos h5).trans rfl))))
          · refine lv_iload_n hx hb d_X_unseal_86 rfl (lv_at hl 6 rfl) ?_
            refine lv_bipush (v := 7) hx hb d_X_unseal_87 (by decide) ?_
            refine x_Sip hF hs v_X_trapOf k_ml_X_106 (m_X_trapOf) rfl rfl ⟨by decide, by decide⟩ rfl rfl hl.1 (Nat.le_of_ble_eq_true rfl) d_X_unseal_89 ⟨Nat.zero_le _, Nat.zero_le _⟩ (fun H locs hs => ?_)
            refine hret _ _ _ _ _ _ hs ?_ d_X_unseal_92
            exact (if_neg h1).trans ((if_neg h2).trans ((if_neg h3).trans ((if_pos h4).trans ((if_neg h5).trans rfl))))
        · refine lv_iload hx hb d_X_unseal_73 (lv_at hl 0 rfl) ?_
          refine hret _ _ _ _ _ _ hs ?_ d_X_unseal_75
          exact (if_neg h1).trans ((if_neg h2).trans ((if_neg h3).trans ((if_neg h4).trans rfl)))
      · refine lv_iload_n hx hb d_X_unseal_39 rfl (lv_at hl 3 rfl) ?_
        refine lv_iconst (v := 2) hx hb d_X_unseal_40 (by decide) ?_
        refine x_Sip hF hs v_X_trapOf k_ml_X_106 (m_X_trapOf) rfl rfl ⟨by decide, by decide⟩ rfl rfl hl.1 (Nat.le_of_ble_eq_true rfl) d_X_unseal_41 ⟨Nat.zero_le _, Nat.zero_le _⟩ (fun H locs hs => ?_)
        refine hret _ _ _ _ _ _ hs ?_ d_X_unseal_44
        exact (if_neg h1).trans ((if_neg h2).trans ((if_pos h3).trans rfl))
  · refine lv_iload_n hx hb d_X_unseal_16 rfl (lv_at hl 3 rfl) ?_
    refine lv_iconst (v := 1) hx hb d_X_unseal_17 (by decide) ?_
    refine x_Sip hF hs v_X_trapOf k_ml_X_106 (m_X_trapOf) rfl rfl ⟨by decide, by decide⟩ rfl rfl hl.1 (Nat.le_of_ble_eq_true rfl) d_X_unseal_18 ⟨Nat.zero_le _, Nat.zero_le _⟩ (fun H locs hs => ?_)
    refine hret _ _ _ _ _ _ hs ?_ d_X_unseal_21
    exact (if_pos h1).trans rfl
def p_X_enterTrap (σ : Mem) (n1 : Int32) : Mem :=
  let σ1 : Mem := wr σ 5 3 ((σ 5 3) + (1 : Int32));
  let σ2 : Mem := wr σ1 5 1 n1;
  let σ3 : Mem := p_K_copy σ2 (((10 : Int32) : Int32).toNatClampNeg) 8;
  if (bo (σ3 2 (((9 : Int32) : Int32).toNatClampNeg))) = (0 : Int32) then
    let σ4 : Mem := wr σ3 5 0 (2 : Int32);
    σ4
  else
    if (p_K_isSealed σ3 (((9 : Int32) : Int32).toNatClampNeg)) = (0 : Int32) then
      if (p_K_permits σ3 (((9 : Int32) : Int32).toNatClampNeg) (1 : Int32)) = (0 : Int32) then
        let σ6 : Mem := wr σ3 5 0 (2 : Int32);
        σ6
      else
        let σ7 : Mem := p_K_copy σ3 8 (((9 : Int32) : Int32).toNatClampNeg);
        σ7
    else
      let σ5 : Mem := wr σ3 5 0 (2 : Int32);
      σ5
set_option maxHeartbeats 4000000 in
set_option maxRecDepth 100000 in
theorem m_X_enterTrap {l : Launch} {D : va_G} {a : Nat → Nat} {cA : Nat → ClassId} {B0 : Nat → Prop} {σ : Mem} {n1 : Int32} : cV l y_X_enterTrap (.code y_X_enterTrap c_X_enterTrap 3 (none) :: TG) (rmO 2 41) D (cwL a cA) (cty cA) B0 [.ref (a 0), .int n1] σ (p_X_enterTrap σ n1) := by
  refine cV_of (by decide) (Nat.le_of_ble_eq_true rfl) ?_
  intro p e s m args below meth c Q ls hx hb hF hl hs hret
  have hl : lv_has ls 3 [(0, .ref (a 0)), (1, .int n1)] := hl
  refine lv_aload_n hx hb d_X_enterTrap_0 rfl (lv_at hl 0 rfl) ?_
  refine lv_dup hx hb d_X_enterTrap_1 rfl ?_
  refine xg_X hx hb hF hs 8 (by decide) k_fl_X_38 rfl d_X_enterTrap_2 ?_
  refine lv_iconst (v := 1) hx hb d_X_enterTrap_5 (by decide) ?_
  refine lv_iadd hx hb d_X_enterTrap_6 ?_
  refine xp_X hx hb hF hs 3 (by decide) k_fl_X_38 d_X_enterTrap_7 (fun H locs hs => ?_)
  refine lv_aload_n hx hb d_X_enterTrap_10 rfl (lv_at hl 0 rfl) ?_
  refine lv_iload_n hx hb d_X_enterTrap_11 rfl (lv_at hl 1 rfl) ?_
  refine xp_X hx hb hF hs 1 (by decide) k_fl_X_32 d_X_enterTrap_12 (fun H locs hs => ?_)
  refine lv_aload_n hx hb d_X_enterTrap_15 rfl (lv_at hl 0 rfl) ?_
  refine xg_X hx hb hF hs 2 (by decide) k_fl_X_19 rfl d_X_enterTrap_16 ?_
  refine lv_bipush (v := 10) hx hb d_X_enterTrap_19 (by decide) ?_
  refine xr_ld hx hb hF hs ic_10_12 d_X_enterTrap_21 ?_
  refine lv_aload_n hx hb d_X_enterTrap_22 rfl (lv_at hl 0 rfl) ?_
  refine xg_X hx hb hF hs 3 (by decide) k_fl_X_41 rfl d_X_enterTrap_23 ?_
  refine x_Vv hF hs v_K_copy k_ml_X_93 (m_K_copy (in13 ic_10_12) lt8_13) rfl rfl ⟨by decide, by decide⟩ rfl rfl hl.1 (Nat.le_of_ble_eq_true rfl) (rK (in13 ic_10_12)) d_X_enterTrap_26 ⟨Nat.zero_le _, Nat.zero_le _⟩ (fun H locs hs => ?_)
  refine lv_aload_n hx hb d_X_enterTrap_29 rfl (lv_at hl 0 rfl) ?_
  refine xg_X hx hb hF hs 2 (by decide) k_fl_X_19 rfl d_X_enterTrap_30 ?_
  refine lv_bipush (v := 9) hx hb d_X_enterTrap_33 (by decide) ?_
  refine xr_ld hx hb hF hs ic_9_12 d_X_enterTrap_35 ?_
  refine lv_astore_n (lv' := [(2, _), (0, _), (1, _)]) hx hb d_X_enterTrap_36 rfl hl (by decide) rfl (fun ls hl => ?_)
  refine lv_aload_n hx hb d_X_enterTrap_37 rfl (lv_at hl 0 rfl) ?_
  refine xg_N2 hx hb hF hs (in13 ic_9_12) d_X_enterTrap_38 ?_
  refine lv_if_eq (tgt := 70) hx hb d_X_enterTrap_41 (by decide) (fun h1 => ?_) (fun h1 => ?_)
  · refine lv_aload_n hx hb d_X_enterTrap_70 rfl (lv_at hl 1 rfl) ?_
    refine lv_iconst (v := 2) hx hb d_X_enterTrap_71 (by decide) ?_
    refine xp_X hx hb hF hs 0 (by decide) k_fl_X_28 d_X_enterTrap_72 (fun H locs hs => ?_)
    refine hret _ _ _ _ _ hs ?_ d_X_enterTrap_75
    exact (if_pos h1).trans rfl
  · refine lv_aload_n hx hb d_X_enterTrap_44 rfl (lv_at hl 0 rfl) ?_
    refine x_Vip hF hs v_K_isSealed k_ml_X_97 (m_K_isSealed (in13 ic_9_12)) rfl rfl ⟨by decide, by decide⟩ rfl rfl hl.1 (Nat.le_of_ble_eq_true rfl) (rK (in13 ic_9_12)) d_X_enterTrap_45 ⟨Nat.zero_le _, Nat.zero_le _⟩ (fun H locs hs => ?_)
    refine lv_if_ne (tgt := 70) hx hb d_X_enterTrap_48 (by decide) (fun h2 => ?_) (fun h2 => ?_)
    · refine lv_aload_n hx hb d_X_enterTrap_70 rfl (lv_at hl 1 rfl) ?_
      refine lv_iconst (v := 2) hx hb d_X_enterTrap_71 (by decide) ?_
      refine xp_X hx hb hF hs 0 (by decide) k_fl_X_28 d_X_enterTrap_72 (fun H locs hs => ?_)
      refine hret _ _ _ _ _ hs ?_ d_X_enterTrap_75
      exact (if_neg h1).trans ((if_neg h2).trans rfl)
    · refine lv_aload_n hx hb d_X_enterTrap_51 rfl (lv_at hl 0 rfl) ?_
      refine lv_iconst (v := 1) hx hb d_X_enterTrap_52 (by decide) ?_
      refine x_Vip hF hs v_K_permits k_ml_X_101 (m_K_permits (in13 ic_9_12)) rfl rfl ⟨by decide, by decide⟩ rfl rfl hl.1 (Nat.le_of_ble_eq_true rfl) (rK (in13 ic_9_12)) d_X_enterTrap_53 ⟨Nat.zero_le _, Nat.zero_le _⟩ (fun H locs hs => ?_)
      refine lv_if_eq (tgt := 70) hx hb d_X_enterTrap_56 (by decide) (fun h3 => ?_) (fun h3 => ?_)
      · refine lv_aload_n hx hb d_X_enterTrap_70 rfl (lv_at hl 1 rfl) ?_
        refine lv_iconst (v := 2) hx hb d_X_enterTrap_71 (by decide) ?_
        refine xp_X hx hb hF hs 0 (by decide) k_fl_X_28 d_X_enterTrap_72 (fun H locs hs => ?_)
        refine hret _ _ _ _ _ hs ?_ d_X_enterTrap_75
        exact (if_neg h1).trans ((if_pos h2).trans ((if_pos h3).trans rfl))
      · refine lv_aload_n hx hb d_X_enterTrap_59 rfl (lv_at hl 1 rfl) ?_
        refine xg_X hx hb hF hs 3 (by decide) k_fl_X_41 rfl d_X_enterTrap_60 ?_
        refine lv_aload_n hx hb d_X_enterTrap_63 rfl (lv_at hl 0 rfl) ?_
        refine x_Vv hF hs v_K_copy k_ml_X_93 (m_K_copy lt8_13 (in13 ic_9_12)) rfl rfl ⟨by decide, by decide⟩ rfl rfl hl.1 (Nat.le_of_ble_eq_true rfl) (rK lt8_13) d_X_enterTrap_64 ⟨Nat.zero_le _, Nat.zero_le _⟩ (fun H locs hs => ?_)
        refine lv_goto (tgt := 75) hx hb d_X_enterTrap_67 (by decide) ?_
        refine hret _ _ _ _ _ hs ?_ d_X_enterTrap_75
        exact (if_neg h1).trans ((if_pos h2).trans ((if_neg h3).trans rfl))
end
section
-- what an answer 0 of check says of the address
theorem tr_ne (r : Int32) {k : Nat} (h0 : 0 < k) (h : k < 16) : ¬ p_X_trapOf r (nI k) = 0 := by
  unfold p_X_trapOf
  intro e
  have e2 : (nI k + 16 * r).toBitVec.toNat = (0 : Int32).toBitVec.toNat := by rw [e]
  have e3 : (nI k + 16 * r).toBitVec = (nI k).toBitVec + (16 : Int32).toBitVec * r.toBitVec := rfl
  have e4 : (16 : Int32).toBitVec.toNat = 16 := by decide
  have e5 : (0 : Int32).toBitVec.toNat = 0 := by decide
  rw [e3, BitVec.toNat_add, BitVec.toNat_mul, e4, e5, pk_tn (by omega)] at e2
  omega
theorem ck_0 {σ : Mem} {r q n x : Int32} (h : p_X_check σ r q n x = 0) : (x.toInt64 &&& 4294967295) + n.toInt64 ≤ 1024 := by
  unfold p_X_check at h
  split at h
  · exact absurd h (tr_ne r (k := 1) (by decide) (by decide))
  split at h
  · split at h
    · exact absurd h (tr_ne r (k := 3) (by decide) (by decide))
    split at h
    · split at h
      · exact absurd h (tr_ne r (k := 5) (by decide) (by decide))
      split at h
      · split at h
        · rename_i h6
          exact (lg_cmp_le _ _).mp h6
        · exact absurd h (tr_ne r (k := 6) (by decide) (by decide))
      · exact absurd h (tr_ne r (k := 5) (by decide) (by decide))
    · exact absurd h (tr_ne r (k := 4) (by decide) (by decide))
  · exact absurd h (tr_ne r (k := 2) (by decide) (by decide))
theorem ck_n {x n : Int32} (k : Nat) (hn : n.toInt64 = lN k) (hk : k < 1024) (h : (x.toInt64 &&& 4294967295) + n.toInt64 ≤ 1024) : x.toBitVec.toNat + k ≤ 1024 := by
  rw [un_l, hn, lN_add] at h
  have hx := x.toBitVec.isLt
  exact (pk_lLE (a := x.toBitVec.toNat + k) (b := 1024) (by omega) (by decide)).mp h
theorem ck_4 {σ : Mem} {r q x : Int32} (h : p_X_check σ r q 4 x = 0) : x.toBitVec.toNat + 4 ≤ 1024 := ck_n 4 (by decide) (by decide) (ck_0 h)
theorem ck_8 {σ : Mem} {r q x : Int32} (h : p_X_check σ r q 8 x = 0) : x.toBitVec.toNat + 8 ≤ 1024 := ck_n 8 (by decide) (by decide) (ck_0 h)
theorem us_2 (x : Int32) : (x.toUInt32 >>> ((2 : Int32).toUInt32 &&& Int32.toUInt32 31)).toInt32 = nI (x.toBitVec.toNat / 4) := by
  have h := pk_ushrN (n := x.toBitVec.toNat) x.toBitVec.isLt 2 2 (by decide)
  rw [nI_self] at h
  exact h
theorem us_3 (x : Int32) : (x.toUInt32 >>> ((3 : Int32).toUInt32 &&& Int32.toUInt32 31)).toInt32 = nI (x.toBitVec.toNat / 8) := by
  have h := pk_ushrN (n := x.toBitVec.toNat) x.toBitVec.isLt 3 3 (by decide)
  rw [nI_self] at h
  exact h
theorem ix_c4 {σ : Mem} {r q x : Int32} (h : p_X_check σ r q 4 x = 0) : vp_in ((x.toUInt32 >>> ((2 : Int32).toUInt32 &&& Int32.toUInt32 31)).toInt32) 256 := by
  have := ck_4 h
  rw [us_2]
  exact vp_in_nI (by omega) (by decide)
theorem ix_c8g {σ : Mem} {r q x : Int32} (h : p_X_check σ r q 8 x = 0) : vp_in ((x.toUInt32 >>> ((3 : Int32).toUInt32 &&& Int32.toUInt32 31)).toInt32) 128 := by
  have := ck_8 h
  rw [us_3]
  exact vp_in_nI (by omega) (by decide)
theorem ix_c8a {σ : Mem} {r q x : Int32} (h : p_X_check σ r q 8 x = 0) : vp_in (2 * (x.toUInt32 >>> ((3 : Int32).toUInt32 &&& Int32.toUInt32 31)).toInt32) 256 := by
  have := ck_8 h
  rw [us_3]
  show vp_in (nI 2 * nI _) 256
  rw [pk_mul]
  exact vp_in_nI (by omega) (by decide)
theorem ix_c8b {σ : Mem} {r q x : Int32} (h : p_X_check σ r q 8 x = 0) : vp_in (2 * (x.toUInt32 >>> ((3 : Int32).toUInt32 &&& Int32.toUInt32 31)).toInt32 + 1) 256 := by
  have := ck_8 h
  rw [us_3]
  show vp_in (nI 2 * nI _ + nI 1) 256
  rw [pk_mul, nI_add]
  exact vp_in_nI (by omega) (by decide)
theorem ix_word {x : Int32} (h : ¬ p_X_isWord x = 0) : vp_in x 256 := by
  unfold p_X_isWord at h
  split at h
  · exact absurd rfl h
  split at h
  · exact absurd rfl h
  · rename_i h1 h2
    exact ix_lt256 h1 h2
theorem ix_reg {x : Int32} (h : ¬ p_X_isRegister x = 0) : vp_in x 12 := by
  unfold p_X_isRegister at h
  split at h
  · exact absurd rfl h
  split at h
  · exact absurd rfl h
  · rename_i h1 h2
    exact ix_lt12 h1 h2
theorem bo_X_mayBuild (σ : Mem) (i j : Nat) : bo (p_X_mayBuild σ i j) = p_X_mayBuild σ i j := by
  unfold p_X_mayBuild
  repeat' split
  all_goals first | exact bo_0 | exact bo_1
end
section
def p_X_load (σ : Mem) (n1 : Int32) (n2 : Int32) (n3 : Int32) : Int32 × Mem :=
  if (p_X_check σ n2 (2 : Int32) (4 : Int32) ((σ 4 (n2.toNatClampNeg)) + (n3 : Int32))) = (0 : Int32) then
    let σ1 : Mem := p_X_writeNumber σ n1 (σ 0 ((((((σ 4 (n2.toNatClampNeg)) + (n3 : Int32))).toUInt32 >>> (((2 : Int32)).toUInt32 &&& Int32.toUInt32 31)).toInt32) : Int32).toNatClampNeg);
    ((p_X_check σ n2 (2 : Int32) (4 : Int32) ((σ 4 (n2.toNatClampNeg)) + (n3 : Int32))), σ1)
  else
    ((p_X_check σ n2 (2 : Int32) (4 : Int32) ((σ 4 (n2.toNatClampNeg)) + (n3 : Int32))), σ)
set_option maxHeartbeats 4000000 in
set_option maxRecDepth 100000 in
theorem m_X_load {l : Launch} {D : va_G} {a : Nat → Nat} {cA : Nat → ClassId} {B0 : Nat → Prop} {σ : Mem} {n1 : Int32} {n2 : Int32} {n3 : Int32} (h_n1 : vp_in n1 12) (h_n2 : vp_in n2 12) : cI l y_X_load (.code y_X_load c_X_load 6 (some FieldType.int) :: TG) (rmO 3 78) D (cwL a cA) (cty cA) B0 [.ref (a 0), .int n1, .int n2, .int n3] σ (p_X_load σ n1 n2 n3) := by
  refine cI_of (by decide) (Nat.le_of_ble_eq_true rfl) ?_
  intro p e s m args below meth c Q ls hx hb hF hl hs hret
  have hl : lv_has ls 6 [(0, .ref (a 0)), (1, .int n1), (2, .int n2), (3, .int n3)] := hl
  refine lv_aload_n hx hb d_X_load_0 rfl (lv_at hl 0 rfl) ?_
  refine xg_X hx hb hF hs 2 (by decide) k_fl_X_19 rfl d_X_load_1 ?_
  refine lv_iload_n hx hb d_X_load_4 rfl (lv_at hl 2 rfl) ?_
  refine xr_ld hx hb hF hs h_n2 d_X_load_5 ?_
  refine xg_N4 hx hb hF hs (in13 h_n2) d_X_load_6 ?_
  refine lv_iload_n hx hb d_X_load_9 rfl (lv_at hl 3 rfl) ?_
  refine lv_iadd hx hb d_X_load_10 ?_
  refine lv_istore (lv' := [(4, _), (0, _), (1, _), (2, _), (3, _)]) hx hb d_X_load_11 hl (by decide) rfl (fun ls hl => ?_)
  refine lv_aload_n hx hb d_X_load_13 rfl (lv_at hl 1 rfl) ?_
  refine lv_iload_n hx hb d_X_load_14 rfl (lv_at hl 3 rfl) ?_
  refine lv_iconst (v := 2) hx hb d_X_load_15 (by decide) ?_
  refine lv_iconst (v := 4) hx hb d_X_load_16 (by decide) ?_
  refine lv_iload hx hb d_X_load_17 (lv_at hl 0 rfl) ?_
  refine x_Vip hF hs v_X_check k_ml_X_82 (m_X_check h_n2) rfl rfl ⟨by decide, by decide⟩ rfl rfl hl.1 (Nat.le_of_ble_eq_true rfl) rX d_X_load_19 ⟨Nat.zero_le _, Nat.zero_le _⟩ (fun H locs hs => ?_)
  refine lv_istore (lv' := [(5, _), (4, _), (0, _), (1, _), (2, _), (3, _)]) hx hb d_X_load_22 hl (by decide) rfl (fun ls hl => ?_)
  refine lv_iload hx hb d_X_load_24 (lv_at hl 0 rfl) ?_
  refine lv_if_ne (tgt := 43) hx hb d_X_load_26 (by decide) (fun h1 => ?_) (fun h1 => ?_)
  · refine lv_iload hx hb d_X_load_43 (lv_at hl 0 rfl) ?_
    refine hret _ _ _ _ _ _ hs ?_ d_X_load_45
    exact (if_neg h1).trans rfl
  · refine lv_aload_n hx hb d_X_load_29 rfl (lv_at hl 2 rfl) ?_
    refine lv_iload_n hx hb d_X_load_30 rfl (lv_at hl 3 rfl) ?_
    refine lv_aload_n hx hb d_X_load_31 rfl (lv_at hl 2 rfl) ?_
    refine xg_X hx hb hF hs 0 (by decide) k_fl_X_9 rfl d_X_load_32 ?_
    refine lv_iload hx hb d_X_load_35 (lv_at hl 1 rfl) ?_
    refine lv_iconst (v := 2) hx hb d_X_load_37 (by decide) ?_
    refine lv_iushr hx hb d_X_load_38 rfl ?_
    refine xw_ld hx hb hF hs (ix_c4 h1) d_X_load_39 ?_
    refine x_Vv hF hs v_X_writeNumber k_ml_X_79 (m_X_writeNumber h_n1) rfl rfl ⟨by decide, by decide⟩ rfl rfl hl.1 (Nat.le_of_ble_eq_true rfl) rX d_X_load_40 ⟨Nat.zero_le _, Nat.zero_le _⟩ (fun H locs hs => ?_)
    refine lv_iload hx hb d_X_load_43 (lv_at hl 0 rfl) ?_
    refine hret _ _ _ _ _ _ hs ?_ d_X_load_45
    exact (if_pos h1).trans rfl
def p_X_store (σ : Mem) (n1 : Int32) (n2 : Int32) (n3 : Int32) : Int32 × Mem :=
  if (p_X_check σ n1 (4 : Int32) (4 : Int32) ((σ 4 (n1.toNatClampNeg)) + (n3 : Int32))) = (0 : Int32) then
    let σ1 : Mem := p_X_writeWord σ (((((σ 4 (n1.toNatClampNeg)) + (n3 : Int32))).toUInt32 >>> (((2 : Int32)).toUInt32 &&& Int32.toUInt32 31)).toInt32) (σ 4 (n2.toNatClampNeg));
    ((p_X_check σ n1 (4 : Int32) (4 : Int32) ((σ 4 (n1.toNatClampNeg)) + (n3 : Int32))), σ1)
  else
    ((p_X_check σ n1 (4 : Int32) (4 : Int32) ((σ 4 (n1.toNatClampNeg)) + (n3 : Int32))), σ)
set_option maxHeartbeats 4000000 in
set_option maxRecDepth 100000 in
theorem m_X_store {l : Launch} {D : va_G} {a : Nat → Nat} {cA : Nat → ClassId} {B0 : Nat → Prop} {σ : Mem} {n1 : Int32} {n2 : Int32} {n3 : Int32} (h_n1 : vp_in n1 12) (h_n2 : vp_in n2 12) : cI l y_X_store (.code y_X_store c_X_store 6 (some FieldType.int) :: TG) (rmO 3 78) D (cwL a cA) (cty cA) B0 [.ref (a 0), .int n1, .int n2, .int n3] σ (p_X_store σ n1 n2 n3) := by
  refine cI_of (by decide) (Nat.le_of_ble_eq_true rfl) ?_
  intro p e s m args below meth c Q ls hx hb hF hl hs hret
  have hl : lv_has ls 6 [(0, .ref (a 0)), (1, .int n1), (2, .int n2), (3, .int n3)] := hl
  refine lv_aload_n hx hb d_X_store_0 rfl (lv_at hl 0 rfl) ?_
  refine xg_X hx hb hF hs 2 (by decide) k_fl_X_19 rfl d_X_store_1 ?_
  refine lv_iload_n hx hb d_X_store_4 rfl (lv_at hl 1 rfl) ?_
  refine xr_ld hx hb hF hs h_n1 d_X_store_5 ?_
  refine xg_N4 hx hb hF hs (in13 h_n1) d_X_store_6 ?_
  refine lv_iload_n hx hb d_X_store_9 rfl (lv_at hl 3 rfl) ?_
  refine lv_iadd hx hb d_X_store_10 ?_
  refine lv_istore (lv' := [(4, _), (0, _), (1, _), (2, _), (3, _)]) hx hb d_X_store_11 hl (by decide) rfl (fun ls hl => ?_)
  refine lv_aload_n hx hb d_X_store_13 rfl (lv_at hl 1 rfl) ?_
  refine lv_iload_n hx hb d_X_store_14 rfl (lv_at hl 2 rfl) ?_
  refine lv_iconst (v := 4) hx hb d_X_store_15 (by decide) ?_
  refine lv_iconst (v := 4) hx hb d_X_store_16 (by decide) ?_
  refine lv_iload hx hb d_X_store_17 (lv_at hl 0 rfl) ?_
  refine x_Vip hF hs v_X_check k_ml_X_82 (m_X_check h_n1) rfl rfl ⟨by decide, by decide⟩ rfl rfl hl.1 (Nat.le_of_ble_eq_true rfl) rX d_X_store_19 ⟨Nat.zero_le _, Nat.zero_le _⟩ (fun H locs hs => ?_)
  refine lv_istore (lv' := [(5, _), (4, _), (0, _), (1, _), (2, _), (3, _)]) hx hb d_X_store_22 hl (by decide) rfl (fun ls hl => ?_)
  refine lv_iload hx hb d_X_store_24 (lv_at hl 0 rfl) ?_
  refine lv_if_ne (tgt := 46) hx hb d_X_store_26 (by decide) (fun h1 => ?_) (fun h1 => ?_)
  · refine lv_iload hx hb d_X_store_46 (lv_at hl 0 rfl) ?_
    refine hret _ _ _ _ _ _ hs ?_ d_X_store_48
    exact (if_neg h1).trans rfl
  · refine lv_aload_n hx hb d_X_store_29 rfl (lv_at hl 2 rfl) ?_
    refine lv_iload hx hb d_X_store_30 (lv_at hl 1 rfl) ?_
    refine lv_iconst (v := 2) hx hb d_X_store_32 (by decide) ?_
    refine lv_iushr hx hb d_X_store_33 rfl ?_
    refine lv_aload_n hx hb d_X_store_34 rfl (lv_at hl 2 rfl) ?_
    refine xg_X hx hb hF hs 2 (by decide) k_fl_X_19 rfl d_X_store_35 ?_
    refine lv_iload_n hx hb d_X_store_38 rfl (lv_at hl 4 rfl) ?_
    refine xr_ld hx hb hF hs h_n2 d_X_store_39 ?_
    refine xg_N4 hx hb hF hs (in13 h_n2) d_X_store_40 ?_
    refine x_Vv hF hs v_X_writeWord k_ml_X_52 (m_X_writeWord (ix_c4 h1)) rfl rfl ⟨by decide, by decide⟩ rfl rfl hl.1 (Nat.le_of_ble_eq_true rfl) rX d_X_store_43 ⟨Nat.zero_le _, Nat.zero_le _⟩ (fun H locs hs => ?_)
    refine lv_iload hx hb d_X_store_46 (lv_at hl 0 rfl) ?_
    refine hret _ _ _ _ _ _ hs ?_ d_X_store_48
    exact (if_pos h1).trans rfl
def p_X_loadCapability (σ : Mem) (n1 : Int32) (n2 : Int32) (n3 : Int32) : Int32 × Mem :=
  if (p_X_check σ n2 (2 : Int32) (8 : Int32) ((σ 4 (n2.toNatClampNeg)) + (n3 : Int32))) = (0 : Int32) then
    let σ1 : Mem := wr σ 4 12 (σ 0 (((2 : Int32) * ((((((σ 4 (n2.toNatClampNeg)) + (n3 : Int32))).toUInt32 >>> (((3 : Int32)).toUInt32 &&& Int32.toUInt32 31)).toInt32) : Int32)) : Int32).toNatClampNeg);
    let σ2 : Mem := wr σ1 3 12 (σ1 0 ((((2 : Int32) * ((((((σ 4 (n2.toNatClampNeg)) + (n3 : Int32))).toUInt32 >>> (((3 : Int32)).toUInt32 &&& Int32.toUInt32 31)).toInt32) : Int32)) + (1 : Int32)) : Int32).toNatClampNeg);
    if (bo (σ2 1 ((((((σ 4 (n2.toNatClampNeg)) + (n3 : Int32))).toUInt32 >>> (((3 : Int32)).toUInt32 &&& Int32.toUInt32 31)).toInt32) : Int32).toNatClampNeg)) = (0 : Int32) then
      let σ3 : Mem := wr σ2 2 12 (0 : Int32);
      let σ4 : Mem := p_X_writeMade σ3 n1;
      ((p_X_check σ n2 (2 : Int32) (8 : Int32) ((σ 4 (n2.toNatClampNeg)) + (n3 : Int32))), σ4)
    else
      if (p_K_permits σ2 (n2.toNatClampNeg) (8 : Int32)) = (0 : Int32) then
        let σ5 : Mem := wr σ2 2 12 (0 : Int32);
        let σ6 : Mem := p_X_writeMade σ5 n1;
        ((p_X_check σ n2 (2 : Int32) (8 : Int32) ((σ 4 (n2.toNatClampNeg)) + (n3 : Int32))), σ6)
      else
        let σ7 : Mem := wr σ2 2 12 (1 : Int32);
        let σ8 : Mem := p_X_writeMade σ7 n1;
        ((p_X_check σ n2 (2 : Int32) (8 : Int32) ((σ 4 (n2.toNatClampNeg)) + (n3 : Int32))), σ8)
  else
    ((p_X_check σ n2 (2 : Int32) (8 : Int32) ((σ 4 (n2.toNatClampNeg)) + (n3 : Int32))), σ)
set_option maxHeartbeats 4000000 in
set_option maxRecDepth 100000 in
theorem m_X_loadCapability {l : Launch} {D : va_G} {a : Nat → Nat} {cA : Nat → ClassId} {B0 : Nat → Prop} {σ : Mem} {n1 : Int32} {n2 : Int32} {n3 : Int32} (h_n1 : vp_in n1 12) (h_n2 : vp_in n2 12) : cI l y_X_loadCapability (.code y_X_loadCapability c_X_loadCapability 7 (some FieldType.int) :: TG) (rmO 3 78) D (cwL a cA) (cty cA) B0 [.ref (a 0), .int n1, .int n2, .int n3] σ (p_X_loadCapability σ n1 n2 n3) := by
  refine cI_of (by decide) (Nat.le_of_ble_eq_true rfl) ?_
  intro p e s m args below meth c Q ls hx hb hF hl hs hret
  have hl : lv_has ls 7 [(0, .ref (a 0)), (1, .int n1), (2, .int n2), (3, .int n3)] := hl
  refine lv_aload_n hx hb d_X_loadCapability_0 rfl (lv_at hl 0 rfl) ?_
  refine xg_X hx hb hF hs 2 (by decide) k_fl_X_19 rfl d_X_loadCapability_1 ?_
  refine lv_iload_n hx hb d_X_loadCapability_4 rfl (lv_at hl 2 rfl) ?_
  refine xr_ld hx hb hF hs h_n2 d_X_loadCapability_5 ?_
  refine xg_N4 hx hb hF hs (in13 h_n2) d_X_loadCapability_6 ?_
  refine lv_iload_n hx hb d_X_loadCapability_9 rfl (lv_at hl 3 rfl) ?_
  refine lv_iadd hx hb d_X_loadCapability_10 ?_
  refine lv_istore (lv' := [(4, _), (0, _), (1, _), (2, _), (3, _)]) hx hb d_X_loadCapability_11 hl (by decide) rfl (fun ls hl => ?_)
  refine lv_aload_n hx hb d_X_loadCapability_13 rfl (lv_at hl 1 rfl) ?_
  refine lv_iload_n hx hb d_X_loadCapability_14 rfl (lv_at hl 3 rfl) ?_
  refine lv_iconst (v := 2) hx hb d_X_loadCapability_15 (by decide) ?_
  refine lv_bipush (v := 8) hx hb d_X_loadCapability_16 (by decide) ?_
  refine lv_iload hx hb d_X_loadCapability_18 (lv_at hl 0 rfl) ?_
  refine x_Vip hF hs v_X_check k_ml_X_82 (m_X_check h_n2) rfl rfl ⟨by decide, by decide⟩ rfl rfl hl.1 (Nat.le_of_ble_eq_true rfl) rX d_X_loadCapability_20 ⟨Nat.zero_le _, Nat.zero_le _⟩ (fun H locs hs => ?_)
  refine lv_istore (lv' := [(5, _), (4, _), (0, _), (1, _), (2, _), (3, _)]) hx hb d_X_loadCapability_23 hl (by decide) rfl (fun ls hl => ?_)
  refine lv_iload hx hb d_X_loadCapability_25 (lv_at hl 0 rfl) ?_
  refine lv_if_ne (tgt := 111) hx hb d_X_loadCapability_27 (by decide) (fun h1 => ?_) (fun h1 => ?_)
  · refine lv_iload hx hb d_X_loadCapability_111 (lv_at hl 0 rfl) ?_
    refine hret _ _ _ _ _ _ hs ?_ d_X_loadCapability_113
    exact (if_neg h1).trans rfl
  · refine lv_iload hx hb d_X_loadCapability_30 (lv_at hl 1 rfl) ?_
    refine lv_iconst (v := 3) hx hb d_X_loadCapability_32 (by decide) ?_
    refine lv_iushr hx hb d_X_loadCapability_33 rfl ?_
    refine lv_istore (lv' := [(6, _), (5, _), (4, _), (0, _), (1, _), (2, _), (3, _)]) hx hb d_X_loadCapability_34 hl (by decide) rfl (fun ls hl => ?_)
    refine lv_aload_n hx hb d_X_loadCapability_36 rfl (lv_at hl 3 rfl) ?_
    refine xg_X hx hb hF hs 4 (by decide) k_fl_X_24 rfl d_X_loadCapability_37 ?_
    refine lv_aload_n hx hb d_X_loadCapability_40 rfl (lv_at hl 3 rfl) ?_
    refine xg_X hx hb hF hs 0 (by decide) k_fl_X_9 rfl d_X_loadCapability_41 ?_
    refine lv_iconst (v := 2) hx hb d_X_loadCapability_44 (by decide) ?_
    refine lv_iload hx hb d_X_loadCapability_45 (lv_at hl 0 rfl) ?_
    refine lv_imul hx hb d_X_loadCapability_47 ?_
    refine xw_ld hx hb hF hs (ix_c8a h1) d_X_loadCapability_48 ?_
    refine xp_N4 hx hb hF hs lt12_13 d_X_loadCapability_49 (fun H locs hs => ?_)
    refine lv_aload_n hx hb d_X_loadCapability_52 rfl (lv_at hl 3 rfl) ?_
    refine xg_X hx hb hF hs 4 (by decide) k_fl_X_24 rfl d_X_loadCapability_53 ?_
    refine lv_aload_n hx hb d_X_loadCapability_56 rfl (lv_at hl 3 rfl) ?_
    refine xg_X hx hb hF hs 0 (by decide) k_fl_X_9 rfl d_X_loadCapability_57 ?_
    refine lv_iconst (v := 2) hx hb d_X_loadCapability_60 (by decide) ?_
    refine lv_iload hx hb d_X_loadCapability_61 (lv_at hl 0 rfl) ?_
    refine lv_imul hx hb d_X_loadCapability_63 ?_
    refine lv_iconst (v := 1) hx hb d_X_loadCapability_64 (by decide) ?_
    refine lv_iadd hx hb d_X_loadCapability_65 ?_
    refine xw_ld hx hb hF hs (ix_c8b h1) d_X_loadCapability_66 ?_
    refine xp_N3 hx hb hF hs lt12_13 d_X_loadCapability_67 (fun H locs hs => ?_)
    refine lv_aload_n hx hb d_X_loadCapability_70 rfl (lv_at hl 3 rfl) ?_
    refine xg_X hx hb hF hs 4 (by decide) k_fl_X_24 rfl d_X_loadCapability_71 ?_
    refine lv_aload_n hx hb d_X_loadCapability_74 rfl (lv_at hl 3 rfl) ?_
    refine xg_X hx hb hF hs 1 (by decide) k_fl_X_13 rfl d_X_loadCapability_75 ?_
    refine lv_iload hx hb d_X_loadCapability_78 (lv_at hl 0 rfl) ?_
    refine xt_ld hx hb hF hs (ix_c8g h1) d_X_loadCapability_80 ?_
    refine lv_if_eq (tgt := 102) hx hb d_X_loadCapability_81 (by decide) (fun h2 => ?_) (fun h2 => ?_)
    · refine lv_iconst (v := 0) hx hb d_X_loadCapability_102 (by decide) ?_
      refine xp_N2 hx hb hF hs lt12_13 bo_0 d_X_loadCapability_103 (fun H locs hs => ?_)
      refine lv_aload_n hx hb d_X_loadCapability_106 rfl (lv_at hl 3 rfl) ?_
      refine lv_iload_n hx hb d_X_loadCapability_107 rfl (lv_at hl 4 rfl) ?_
      refine x_Vv hF hs v_X_writeMade k_ml_X_172 (m_X_writeMade h_n1) rfl rfl ⟨by decide, by decide⟩ rfl rfl hl.1 (Nat.le_of_ble_eq_true rfl) rX d_X_loadCapability_108 ⟨Nat.zero_le _, Nat.zero_le _⟩ (fun H locs hs => ?_)
      refine lv_iload hx hb d_X_loadCapability_111 (lv_at hl 1 rfl) ?_
      refine hret _ _ _ _ _ _ hs ?_ d_X_loadCapability_113
      exact (if_pos h1).trans ((if_pos h2).trans rfl)
    · refine lv_aload_n hx hb d_X_loadCapability_84 rfl (lv_at hl 3 rfl) ?_
      refine xg_X hx hb hF hs 2 (by decide) k_fl_X_19 rfl d_X_loadCapability_85 ?_
      refine lv_iload_n hx hb d_X_loadCapability_88 rfl (lv_at hl 5 rfl) ?_
      refine xr_ld hx hb hF hs h_n2 d_X_loadCapability_89 ?_
      refine lv_bipush (v := 8) hx hb d_X_loadCapability_90 (by decide) ?_
      refine x_Vip hF hs v_K_permits k_ml_X_101 (m_K_permits (in13 h_n2)) rfl rfl ⟨by decide, by decide⟩ rfl rfl hl.1 (Nat.le_of_ble_eq_true rfl) (rK (in13 h_n2)) d_X_loadCapability_92 ⟨Nat.zero_le _, Nat.zero_le _⟩ (fun H locs hs => ?_)
      refine lv_if_eq (tgt := 102) hx hb d_X_loadCapability_95 (by decide) (fun h3 => ?_) (fun h3 => ?_)
      · refine lv_iconst (v := 0) hx hb d_X_loadCapability_102 (by decide) ?_
        refine xp_N2 hx hb hF hs lt12_13 bo_0 d_X_loadCapability_103 (fun H locs hs => ?_)
        refine lv_aload_n hx hb d_X_loadCapability_106 rfl (lv_at hl 3 rfl) ?_
        refine lv_iload_n hx hb d_X_loadCapability_107 rfl (lv_at hl 4 rfl) ?_
        refine x_Vv hF hs v_X_writeMade k_ml_X_172 (m_X_writeMade h_n1) rfl rfl ⟨by decide, by decide⟩ rfl rfl hl.1 (Nat.le_of_ble_eq_true rfl) rX d_X_loadCapability_108 ⟨Nat.zero_le _, Nat.zero_le _⟩ (fun H locs hs => ?_)
        refine lv_iload hx hb d_X_loadCapability_111 (lv_at hl 1 rfl) ?_
        refine hret _ _ _ _ _ _ hs ?_ d_X_loadCapability_113
        exact (if_pos h1).trans ((if_neg h2).trans ((if_pos h3).trans rfl))
      · refine lv_iconst (v := 1) hx hb d_X_loadCapability_98 (by decide) ?_
        refine lv_goto (tgt := 103) hx hb d_X_loadCapability_99 (by decide) ?_
        refine xp_N2 hx hb hF hs lt12_13 bo_1 d_X_loadCapability_103 (fun H locs hs => ?_)
        refine lv_aload_n hx hb d_X_loadCapability_106 rfl (lv_at hl 3 rfl) ?_
        refine lv_iload_n hx hb d_X_loadCapability_107 rfl (lv_at hl 4 rfl) ?_
        refine x_Vv hF hs v_X_writeMade k_ml_X_172 (m_X_writeMade h_n1) rfl rfl ⟨by decide, by decide⟩ rfl rfl hl.1 (Nat.le_of_ble_eq_true rfl) rX d_X_loadCapability_108 ⟨Nat.zero_le _, Nat.zero_le _⟩ (fun H locs hs => ?_)
        refine lv_iload hx hb d_X_loadCapability_111 (lv_at hl 1 rfl) ?_
        refine hret _ _ _ _ _ _ hs ?_ d_X_loadCapability_113
        exact (if_pos h1).trans ((if_neg h2).trans ((if_neg h3).trans rfl))
def p_X_storeCapability (σ : Mem) (n1 : Int32) (n2 : Int32) (n3 : Int32) : Int32 × Mem :=
  if (bo (σ 2 (n2.toNatClampNeg))) = (0 : Int32) then
    if (p_X_check σ n1 (4 : Int32) (8 : Int32) ((σ 4 (n1.toNatClampNeg)) + (n3 : Int32))) = (0 : Int32) then
      let σ1 : Mem := wr σ 0 (((2 : Int32) * ((((((σ 4 (n1.toNatClampNeg)) + (n3 : Int32))).toUInt32 >>> (((3 : Int32)).toUInt32 &&& Int32.toUInt32 31)).toInt32) : Int32)) : Int32).toNatClampNeg (σ 4 (n2.toNatClampNeg));
      let σ2 : Mem := wr σ1 0 ((((2 : Int32) * ((((((σ 4 (n1.toNatClampNeg)) + (n3 : Int32))).toUInt32 >>> (((3 : Int32)).toUInt32 &&& Int32.toUInt32 31)).toInt32) : Int32)) + (1 : Int32)) : Int32).toNatClampNeg (σ1 3 (n2.toNatClampNeg));
      let σ3 : Mem := wr σ2 1 ((((((σ 4 (n1.toNatClampNeg)) + (n3 : Int32))).toUInt32 >>> (((3 : Int32)).toUInt32 &&& Int32.toUInt32 31)).toInt32) : Int32).toNatClampNeg (bo (σ2 2 (n2.toNatClampNeg)));
      ((p_X_check σ n1 (4 : Int32) (8 : Int32) ((σ 4 (n1.toNatClampNeg)) + (n3 : Int32))), σ3)
    else
      ((p_X_check σ n1 (4 : Int32) (8 : Int32) ((σ 4 (n1.toNatClampNeg)) + (n3 : Int32))), σ)
  else
    if (p_X_check σ n1 (20 : Int32) (8 : Int32) ((σ 4 (n1.toNatClampNeg)) + (n3 : Int32))) = (0 : Int32) then
      let σ4 : Mem := wr σ 0 (((2 : Int32) * ((((((σ 4 (n1.toNatClampNeg)) + (n3 : Int32))).toUInt32 >>> (((3 : Int32)).toUInt32 &&& Int32.toUInt32 31)).toInt32) : Int32)) : Int32).toNatClampNeg (σ 4 (n2.toNatClampNeg));
      let σ5 : Mem := wr σ4 0 ((((2 : Int32) * ((((((σ 4 (n1.toNatClampNeg)) + (n3 : Int32))).toUInt32 >>> (((3 : Int32)).toUInt32 &&& Int32.toUInt32 31)).toInt32) : Int32)) + (1 : Int32)) : Int32).toNatClampNeg (σ4 3 (n2.toNatClampNeg));
      let σ6 : Mem := wr σ5 1 ((((((σ 4 (n1.toNatClampNeg)) + (n3 : Int32))).toUInt32 >>> (((3 : Int32)).toUInt32 &&& Int32.toUInt32 31)).toInt32) : Int32).toNatClampNeg (bo (σ5 2 (n2.toNatClampNeg)));
      ((p_X_check σ n1 (20 : Int32) (8 : Int32) ((σ 4 (n1.toNatClampNeg)) + (n3 : Int32))), σ6)
    else
      ((p_X_check σ n1 (20 : Int32) (8 : Int32) ((σ 4 (n1.toNatClampNeg)) + (n3 : Int32))), σ)
set_option maxHeartbeats 4000000 in
set_option maxRecDepth 100000 in
theorem m_X_storeCapability {l : Launch} {D : va_G} {a : Nat → Nat} {cA : Nat → ClassId} {B0 : Nat → Prop} {σ : Mem} {n1 : Int32} {n2 : Int32} {n3 : Int32} (h_n1 : vp_in n1 12) (h_n2 : vp_in n2 12) : cI l y_X_storeCapability (.code y_X_storeCapability c_X_storeCapability 8 (some FieldType.int) :: TG) (rmO 3 78) D (cwL a cA) (cty cA) B0 [.ref (a 0), .int n1, .int n2, .int n3] σ (p_X_storeCapability σ n1 n2 n3) := by
  refine cI_of (by decide) (Nat.le_of_ble_eq_true rfl) ?_
  intro p e s m args below meth c Q ls hx hb hF hl hs hret
  have hl : lv_has ls 8 [(0, .ref (a 0)), (1, .int n1), (2, .int n2), (3, .int n3)] := hl
  refine lv_aload_n hx hb d_X_storeCapability_0 rfl (lv_at hl 0 rfl) ?_
  refine xg_X hx hb hF hs 2 (by decide) k_fl_X_19 rfl d_X_storeCapability_1 ?_
  refine lv_iload_n hx hb d_X_storeCapability_4 rfl (lv_at hl 2 rfl) ?_
  refine xr_ld hx hb hF hs h_n2 d_X_storeCapability_5 ?_
  refine lv_astore (lv' := [(4, _), (0, _), (1, _), (2, _), (3, _)]) hx hb d_X_storeCapability_6 hl (by decide) rfl (fun ls hl => ?_)
  refine lv_aload_n hx hb d_X_storeCapability_8 rfl (lv_at hl 1 rfl) ?_
  refine xg_X hx hb hF hs 2 (by decide) k_fl_X_19 rfl d_X_storeCapability_9 ?_
  refine lv_iload_n hx hb d_X_storeCapability_12 rfl (lv_at hl 2 rfl) ?_
  refine xr_ld hx hb hF hs h_n1 d_X_storeCapability_13 ?_
  refine xg_N4 hx hb hF hs (in13 h_n1) d_X_storeCapability_14 ?_
  refine lv_iload_n hx hb d_X_storeCapability_17 rfl (lv_at hl 4 rfl) ?_
  refine lv_iadd hx hb d_X_storeCapability_18 ?_
  refine lv_istore (lv' := [(5, _), (4, _), (0, _), (1, _), (2, _), (3, _)]) hx hb d_X_storeCapability_19 hl (by decide) rfl (fun ls hl => ?_)
  refine lv_aload_n hx hb d_X_storeCapability_21 rfl (lv_at hl 2 rfl) ?_
  refine lv_iload_n hx hb d_X_storeCapability_22 rfl (lv_at hl 3 rfl) ?_
  refine lv_aload hx hb d_X_storeCapability_23 (lv_at hl 1 rfl) ?_
  refine xg_N2 hx hb hF hs (in13 h_n2) d_X_storeCapability_25 ?_
  refine lv_if_eq (tgt := 36) hx hb d_X_storeCapability_28 (by decide) (fun h1 => ?_) (fun h1 => ?_)
  · refine lv_iconst (v := 4) hx hb d_X_storeCapability_36 (by decide) ?_
    refine lv_bipush (v := 8) hx hb d_X_storeCapability_37 (by decide) ?_
    refine lv_iload hx hb d_X_storeCapability_39 (lv_at hl 0 rfl) ?_
    refine x_Vip hF hs v_X_check k_ml_X_82 (m_X_check h_n1) rfl rfl ⟨by decide, by decide⟩ rfl rfl hl.1 (Nat.le_of_ble_eq_true rfl) rX d_X_storeCapability_41 ⟨Nat.zero_le _, Nat.zero_le _⟩ (fun H locs hs => ?_)
    refine lv_istore (lv' := [(6, _), (5, _), (4, _), (0, _), (1, _), (2, _), (3, _)]) hx hb d_X_storeCapability_44 hl (by decide) rfl (fun ls hl => ?_)
    refine lv_iload hx hb d_X_storeCapability_46 (lv_at hl 0 rfl) ?_
    refine lv_if_ne (tgt := 99) hx hb d_X_storeCapability_48 (by decide) (fun h2 => ?_) (fun h2 => ?_)
    · refine lv_iload hx hb d_X_storeCapability_99 (lv_at hl 0 rfl) ?_
      refine hret _ _ _ _ _ _ hs ?_ d_X_storeCapability_101
      exact (if_pos h1).trans ((if_neg h2).trans rfl)
    · refine lv_iload hx hb d_X_storeCapability_51 (lv_at hl 1 rfl) ?_
      refine lv_iconst (v := 3) hx hb d_X_storeCapability_53 (by decide) ?_
      refine lv_iushr hx hb d_X_storeCapability_54 rfl ?_
      refine lv_istore (lv' := [(7, _), (6, _), (5, _), (4, _), (0, _), (1, _), (2, _), (3, _)]) hx hb d_X_storeCapability_55 hl (by decide) rfl (fun ls hl => ?_)
      refine lv_aload_n hx hb d_X_storeCapability_57 rfl (lv_at hl 4 rfl) ?_
      refine xg_X hx hb hF hs 0 (by decide) k_fl_X_9 rfl d_X_storeCapability_58 ?_
      refine lv_iconst (v := 2) hx hb d_X_storeCapability_61 (by decide) ?_
      refine lv_iload hx hb d_X_storeCapability_62 (lv_at hl 0 rfl) ?_
      refine lv_imul hx hb d_X_storeCapability_64 ?_
      refine lv_aload hx hb d_X_storeCapability_65 (lv_at hl 3 rfl) ?_
      refine xg_N4 hx hb hF hs (in13 h_n2) d_X_storeCapability_67 ?_
      refine xw_st hx hb hF hs (ix_c8a h2) d_X_storeCapability_70 (fun H locs hs => ?_)
      refine lv_aload_n hx hb d_X_storeCapability_71 rfl (lv_at hl 4 rfl) ?_
      refine xg_X hx hb hF hs 0 (by decide) k_fl_X_9 rfl d_X_storeCapability_72 ?_
      refine lv_iconst (v := 2) hx hb d_X_storeCapability_75 (by decide) ?_
      refine lv_iload hx hb d_X_storeCapability_76 (lv_at hl 0 rfl) ?_
      refine lv_imul hx hb d_X_storeCapability_78 ?_
      refine lv_iconst (v := 1) hx hb d_X_storeCapability_79 (by decide) ?_
      refine lv_iadd hx hb d_X_storeCapability_80 ?_
      refine lv_aload hx hb d_X_storeCapability_81 (lv_at hl 3 rfl) ?_
      refine xg_N3 hx hb hF hs (in13 h_n2) d_X_storeCapability_83 ?_
      refine xw_st hx hb hF hs (ix_c8b h2) d_X_storeCapability_86 (fun H locs hs => ?_)
      refine lv_aload_n hx hb d_X_storeCapability_87 rfl (lv_at hl 4 rfl) ?_
      refine xg_X hx hb hF hs 1 (by decide) k_fl_X_13 rfl d_X_storeCapability_88 ?_
      refine lv_iload hx hb d_X_storeCapability_91 (lv_at hl 0 rfl) ?_
      refine lv_aload hx hb d_X_storeCapability_93 (lv_at hl 3 rfl) ?_
      refine xg_N2 hx hb hF hs (in13 h_n2) d_X_storeCapability_95 ?_
      refine xt_st hx hb hF hs (ix_c8g h2) d_X_storeCapability_98 (fun H locs hs => ?_)
      refine lv_iload hx hb d_X_storeCapability_99 (lv_at hl 1 rfl) ?_
      refine hret _ _ _ _ _ _ hs ?_ d_X_storeCapability_101
      exact (if_pos h1).trans ((if_pos h2).trans rfl)
  · refine lv_bipush (v := 20) hx hb d_X_storeCapability_31 (by decide) ?_
    refine lv_goto (tgt := 37) hx hb d_X_storeCapability_33 (by decide) ?_
    refine lv_bipush (v := 8) hx hb d_X_storeCapability_37 (by decide) ?_
    refine lv_iload hx hb d_X_storeCapability_39 (lv_at hl 0 rfl) ?_
    refine x_Vip hF hs v_X_check k_ml_X_82 (m_X_check h_n1) rfl rfl ⟨by decide, by decide⟩ rfl rfl hl.1 (Nat.le_of_ble_eq_true rfl) rX d_X_storeCapability_41 ⟨Nat.zero_le _, Nat.zero_le _⟩ (fun H locs hs => ?_)
    refine lv_istore (lv' := [(6, _), (5, _), (4, _), (0, _), (1, _), (2, _), (3, _)]) hx hb d_X_storeCapability_44 hl (by decide) rfl (fun ls hl => ?_)
    refine lv_iload hx hb d_X_storeCapability_46 (lv_at hl 0 rfl) ?_
    refine lv_if_ne (tgt := 99) hx hb d_X_storeCapability_48 (by decide) (fun h2 => ?_) (fun h2 => ?_)
    · refine lv_iload hx hb d_X_storeCapability_99 (lv_at hl 0 rfl) ?_
      refine hret _ _ _ _ _ _ hs ?_ d_X_storeCapability_101
      exact (if_neg h1).trans ((if_neg h2).trans rfl)
    · refine lv_iload hx hb d_X_storeCapability_51 (lv_at hl 1 rfl) ?_
      refine lv_iconst (v := 3) hx hb d_X_storeCapability_53 (by decide) ?_
      refine lv_iushr hx hb d_X_storeCapability_54 rfl ?_
      refine lv_istore (lv' := [(7, _), (6, _), (5, _), (4, _), (0, _), (1, _), (2, _), (3, _)]) hx hb d_X_storeCapability_55 hl (by decide) rfl (fun ls hl => ?_)
      refine lv_aload_n hx hb d_X_storeCapability_57 rfl (lv_at hl 4 rfl) ?_
      refine xg_X hx hb hF hs 0 (by decide) k_fl_X_9 rfl d_X_storeCapability_58 ?_
      refine lv_iconst (v := 2) hx hb d_X_storeCapability_61 (by decide) ?_
      refine lv_iload hx hb d_X_storeCapability_62 (lv_at hl 0 rfl) ?_
      refine lv_imul hx hb d_X_storeCapability_64 ?_
      refine lv_aload hx hb d_X_storeCapability_65 (lv_at hl 3 rfl) ?_
      refine xg_N4 hx hb hF hs (in13 h_n2) d_X_storeCapability_67 ?_
      refine xw_st hx hb hF hs (ix_c8a h2) d_X_storeCapability_70 (fun H locs hs => ?_)
      refine lv_aload_n hx hb d_X_storeCapability_71 rfl (lv_at hl 4 rfl) ?_
      refine xg_X hx hb hF hs 0 (by decide) k_fl_X_9 rfl d_X_storeCapability_72 ?_
      refine lv_iconst (v := 2) hx hb d_X_storeCapability_75 (by decide) ?_
      refine lv_iload hx hb d_X_storeCapability_76 (lv_at hl 0 rfl) ?_
      refine lv_imul hx hb d_X_storeCapability_78 ?_
      refine lv_iconst (v := 1) hx hb d_X_storeCapability_79 (by decide) ?_
      refine lv_iadd hx hb d_X_storeCapability_80 ?_
      refine lv_aload hx hb d_X_storeCapability_81 (lv_at hl 3 rfl) ?_
      refine xg_N3 hx hb hF hs (in13 h_n2) d_X_storeCapability_83 ?_
      refine xw_st hx hb hF hs (ix_c8b h2) d_X_storeCapability_86 (fun H locs hs => ?_)
      refine lv_aload_n hx hb d_X_storeCapability_87 rfl (lv_at hl 4 rfl) ?_
      refine xg_X hx hb hF hs 1 (by decide) k_fl_X_13 rfl d_X_storeCapability_88 ?_
      refine lv_iload hx hb d_X_storeCapability_91 (lv_at hl 0 rfl) ?_
      refine lv_aload hx hb d_X_storeCapability_93 (lv_at hl 3 rfl) ?_
      refine xg_N2 hx hb hF hs (in13 h_n2) d_X_storeCapability_95 ?_
      refine xt_st hx hb hF hs (ix_c8g h2) d_X_storeCapability_98 (fun H locs hs => ?_)
      refine lv_iload hx hb d_X_storeCapability_99 (lv_at hl 1 rfl) ?_
      refine hret _ _ _ _ _ _ hs ?_ d_X_storeCapability_101
      exact (if_neg h1).trans ((if_pos h2).trans rfl)
def p_X_narrow (σ : Mem) (i1 : Nat) (n2 : Int32) : Mem :=
  let σ1 : Mem := p_K_bound σ 12 (((σ 4 i1)).toInt64 &&& (4294967295 : Int64)) ((((σ 4 i1)).toInt64 &&& (4294967295 : Int64)) + (((n2).toInt64 &&& (4294967295 : Int64)) : Int64));
  if (bo (σ1 2 i1)) = (0 : Int32) then
    let σ2 : Mem := wr σ1 2 12 (0 : Int32);
    σ2
  else
    if (p_K_isSealed σ1 i1) = (0 : Int32) then
      if (lg_cmp (p_K_lowerBound σ1 12) (p_K_lowerBound σ1 i1)) < (0 : Int32) then
        let σ4 : Mem := wr σ1 2 12 (0 : Int32);
        σ4
      else
        if (0 : Int32) < (lg_cmp (p_K_upperBound σ1 12) (p_K_upperBound σ1 i1)) then
          let σ5 : Mem := wr σ1 2 12 (0 : Int32);
          σ5
        else
          let σ6 : Mem := wr σ1 2 12 (1 : Int32);
          σ6
    else
      let σ3 : Mem := wr σ1 2 12 (0 : Int32);
      σ3
set_option maxHeartbeats 4000000 in
set_option maxRecDepth 100000 in
theorem m_X_narrow {l : Launch} {D : va_G} {a : Nat → Nat} {cA : Nat → ClassId} {B0 : Nat → Prop} {σ : Mem} {i1 : Nat} {n2 : Int32} (h_i1 : i1 < 13) : cV l y_X_narrow (.code y_X_narrow c_X_narrow 5 (none) :: TG) (rmO 2 51) D (cwL a cA) (cty cA) B0 [.ref (a 0), .ref (a (4 + i1)), .int n2] σ (p_X_narrow σ i1 n2) := by
  refine cV_of (by decide) (Nat.le_of_ble_eq_true rfl) ?_
  intro p e s m args below meth c Q ls hx hb hF hl hs hret
  have hl : lv_has ls 5 [(0, .ref (a 0)), (1, .ref (a (4 + i1))), (2, .int n2)] := hl
  refine lv_aload_n hx hb d_X_narrow_0 rfl (lv_at hl 1 rfl) ?_
  refine xg_N4 hx hb hF hs h_i1 d_X_narrow_1 ?_
  refine lv_i2l hx hb d_X_narrow_4 rfl ?_
  refine x_ldc2 hx hb hF k_cL_X_104 d_X_narrow_5 ?_
  refine lv_land hx hb d_X_narrow_8 ?_
  refine lv_lstore_n (lv' := [(3, _), (0, _), (1, _), (2, _)]) hx hb d_X_narrow_9 rfl hl (by decide) rfl (fun ls hl => ?_)
  refine lv_aload_n hx hb d_X_narrow_10 rfl (lv_at hl 1 rfl) ?_
  refine xg_X hx hb hF hs 4 (by decide) k_fl_X_24 rfl d_X_narrow_11 ?_
  refine lv_lload_n hx hb d_X_narrow_14 rfl (lv_at hl 0 rfl) ?_
  refine lv_lload_n hx hb d_X_narrow_15 rfl (lv_at hl 0 rfl) ?_
  refine lv_iload_n hx hb d_X_narrow_16 rfl (lv_at hl 3 rfl) ?_
  refine lv_i2l hx hb d_X_narrow_17 rfl ?_
  refine x_ldc2 hx hb hF k_cL_X_104 d_X_narrow_18 ?_
  refine lv_land hx hb d_X_narrow_21 ?_
  refine lv_ladd hx hb d_X_narrow_22 ?_
  refine x_Vv hF hs v_K_bound k_ml_X_175 (m_K_bound lt12_13) rfl rfl ⟨by decide, by decide⟩ rfl rfl hl.1 (Nat.le_of_ble_eq_true rfl) (rK lt12_13) d_X_narrow_23 ⟨Nat.zero_le _, Nat.zero_le _⟩ (fun H locs hs => ?_)
  refine lv_aload_n hx hb d_X_narrow_26 rfl (lv_at hl 1 rfl) ?_
  refine xg_X hx hb hF hs 4 (by decide) k_fl_X_24 rfl d_X_narrow_27 ?_
  refine lv_aload_n hx hb d_X_narrow_30 rfl (lv_at hl 2 rfl) ?_
  refine xg_N2 hx hb hF hs h_i1 d_X_narrow_31 ?_
  refine lv_if_eq (tgt := 78) hx hb d_X_narrow_34 (by decide) (fun h1 => ?_) (fun h1 => ?_)
  · refine lv_iconst (v := 0) hx hb d_X_narrow_78 (by decide) ?_
    refine xp_N2 hx hb hF hs lt12_13 bo_0 d_X_narrow_79 (fun H locs hs => ?_)
    refine hret _ _ _ _ _ hs ?_ d_X_narrow_82
    exact (if_pos h1).trans rfl
  · refine lv_aload_n hx hb d_X_narrow_37 rfl (lv_at hl 2 rfl) ?_
    refine x_Vip hF hs v_K_isSealed k_ml_X_97 (m_K_isSealed h_i1) rfl rfl ⟨by decide, by decide⟩ rfl rfl hl.1 (Nat.le_of_ble_eq_true rfl) (rK h_i1) d_X_narrow_38 ⟨Nat.zero_le _, Nat.zero_le _⟩ (fun H locs hs => ?_)
    refine lv_if_ne (tgt := 78) hx hb d_X_narrow_41 (by decide) (fun h2 => ?_) (fun h2 => ?_)
    · refine lv_iconst (v := 0) hx hb d_X_narrow_78 (by decide) ?_
      refine xp_N2 hx hb hF hs lt12_13 bo_0 d_X_narrow_79 (fun H locs hs => ?_)
      refine hret _ _ _ _ _ hs ?_ d_X_narrow_82
      exact (if_neg h1).trans ((if_neg h2).trans rfl)
    · refine lv_aload_n hx hb d_X_narrow_44 rfl (lv_at hl 1 rfl) ?_
      refine xg_X hx hb hF hs 4 (by decide) k_fl_X_24 rfl d_X_narrow_45 ?_
      refine x_Vlp hF hs v_K_lowerBound k_ml_X_72 (m_K_lowerBound lt12_13) rfl rfl ⟨by decide, by decide⟩ rfl rfl hl.1 (Nat.le_of_ble_eq_true rfl) (rK lt12_13) d_X_narrow_48 ⟨Nat.zero_le _, Nat.zero_le _⟩ (fun H locs hs => ?_)
      refine lv_aload_n hx hb d_X_narrow_51 rfl (lv_at hl 2 rfl) ?_
      refine x_Vlp hF hs v_K_lowerBound k_ml_X_72 (m_K_lowerBound h_i1) rfl rfl ⟨by decide, by decide⟩ rfl rfl hl.1 (Nat.le_of_ble_eq_true rfl) (rK h_i1) d_X_narrow_52 ⟨Nat.zero_le _, Nat.zero_le _⟩ (fun H locs hs => ?_)
      refine W.lcmp hx hb d_X_narrow_55 ?_
      refine lv_if_lt (tgt := 78) hx hb d_X_narrow_56 (by decide) (fun h3 => ?_) (fun h3 => ?_)
      · refine lv_iconst (v := 0) hx hb d_X_narrow_78 (by decide) ?_
        refine xp_N2 hx hb hF hs lt12_13 bo_0 d_X_narrow_79 (fun H locs hs => ?_)
        refine hret _ _ _ _ _ hs ?_ d_X_narrow_82
        exact (if_neg h1).trans ((if_pos h2).trans ((if_pos h3).trans rfl))
      · refine lv_aload_n hx hb d_X_narrow_59 rfl (lv_at hl 1 rfl) ?_
        refine xg_X hx hb hF hs 4 (by decide) k_fl_X_24 rfl d_X_narrow_60 ?_
        refine x_Vlp hF hs v_K_upperBound k_ml_X_76 (m_K_upperBound lt12_13) rfl rfl ⟨by decide, by decide⟩ rfl rfl hl.1 (Nat.le_of_ble_eq_true rfl) (rK lt12_13) d_X_narrow_63 ⟨Nat.zero_le _, Nat.zero_le _⟩ (fun H locs hs => ?_)
        refine lv_aload_n hx hb d_X_narrow_66 rfl (lv_at hl 2 rfl) ?_
        refine x_Vlp hF hs v_K_upperBound k_ml_X_76 (m_K_upperBound h_i1) rfl rfl ⟨by decide, by decide⟩ rfl rfl hl.1 (Nat.le_of_ble_eq_true rfl) (rK h_i1) d_X_narrow_67 ⟨Nat.zero_le _, Nat.zero_le _⟩ (fun H locs hs => ?_)
        refine W.lcmp hx hb d_X_narrow_70 ?_
        refine lv_if_gt (tgt := 78) hx hb d_X_narrow_71 (by decide) (fun h4 => ?_) (fun h4 => ?_)
        · refine lv_iconst (v := 0) hx hb d_X_narrow_78 (by decide) ?_
          refine xp_N2 hx hb hF hs lt12_13 bo_0 d_X_narrow_79 (fun H locs hs => ?_)
          refine hret _ _ _ _ _ hs ?_ d_X_narrow_82
          exact (if_neg h1).trans ((if_pos h2).trans ((if_neg h3).trans ((if_pos h4).trans rfl)))
        · refine lv_iconst (v := 1) hx hb d_X_narrow_74 (by decide) ?_
          refine lv_goto (tgt := 79) hx hb d_X_narrow_75 (by decide) ?_
          refine xp_N2 hx hb hF hs lt12_13 bo_1 d_X_narrow_79 (fun H locs hs => ?_)
          refine hret _ _ _ _ _ hs ?_ d_X_narrow_82
          exact (if_neg h1).trans ((if_pos h2).trans ((if_neg h3).trans ((if_neg h4).trans rfl)))
def p_X_derive (σ : Mem) (n1 : Int32) (n2 : Int32) (i3 : Nat) (i4 : Nat) : Mem :=
  let σ1 : Mem := p_K_copy σ 12 i3;
  if n1 = (19 : Int32) then
    let σ2 : Mem := p_X_narrow σ1 i3 (σ1 4 i4);
    let σ3 : Mem := p_X_writeMade σ2 n2;
    σ3
  else
  if n1 = (20 : Int32) then
    let σ4 : Mem := p_K_keepPermissions σ1 12 (σ1 4 i4);
    if (bo (σ4 2 i3)) = (0 : Int32) then
      let σ5 : Mem := wr σ4 2 12 (0 : Int32);
      let σ6 : Mem := p_X_writeMade σ5 n2;
      σ6
    else
      if (p_K_isSealed σ4 i3) = (0 : Int32) then
        let σ9 : Mem := wr σ4 2 12 (1 : Int32);
        let σ10 : Mem := p_X_writeMade σ9 n2;
        σ10
      else
        let σ7 : Mem := wr σ4 2 12 (0 : Int32);
        let σ8 : Mem := p_X_writeMade σ7 n2;
        σ8
  else
  if n1 = (21 : Int32) then
    let σ11 : Mem := p_K_move σ1 12 ((σ1 4 i3) + ((σ1 4 i4) : Int32));
    let σ12 : Mem := p_X_writeMade σ11 n2;
    σ12
  else
  if n1 = (22 : Int32) then
    let σ13 : Mem := p_K_move σ1 12 (σ1 4 i4);
    let σ14 : Mem := p_X_writeMade σ13 n2;
    σ14
  else
  if n1 = (26 : Int32) then
    let σ15 : Mem := p_K_copy σ1 12 i4;
    let σ16 : Mem := wr σ15 2 12 (p_X_mayBuild σ15 i3 i4);
    let σ17 : Mem := p_X_writeMade σ16 n2;
    σ17
  else
  if n1 = (28 : Int32) then
    let σ18 : Mem := wr σ1 2 12 (0 : Int32);
    let σ19 : Mem := p_X_writeMade σ18 n2;
    σ19
  else
    let σ20 : Mem := p_X_writeMade σ1 n2;
    σ20
set_option maxHeartbeats 4000000 in
set_option maxRecDepth 100000 in
theorem m_X_derive {l : Launch} {D : va_G} {a : Nat → Nat} {cA : Nat → ClassId} {B0 : Nat → Prop} {σ : Mem} {n1 : Int32} {n2 : Int32} {i3 : Nat} {i4 : Nat} (h_i3 : i3 < 13) (h_i4 : i4 < 13) (h_n2 : vp_in n2 12) : cV l y_X_derive (.code y_X_derive c_X_derive 5 (none) :: TG) (rmO 3 76) D (cwL a cA) (cty cA) B0 [.ref (a 0), .int n1, .int n2, .ref (a (4 + i3)), .ref (a (4 + i4))] σ (p_X_derive σ n1 n2 i3 i4) := by
  refine cV_of (by decide) (Nat.le_of_ble_eq_true rfl) ?_
  intro p e s m args below meth c Q ls hx hb hF hl hs hret
  have hl : lv_has ls 5 [(0, .ref (a 0)), (1, .int n1), (2, .int n2), (3, .ref (a (4 + i3))), (4, .ref (a (4 + i4)))] := hl
  refine lv_aload_n hx hb d_X_derive_0 rfl (lv_at hl 0 rfl) ?_
  refine xg_X hx hb hF hs 4 (by decide) k_fl_X_24 rfl d_X_derive_1 ?_
  refine lv_aload_n hx hb d_X_derive_4 rfl (lv_at hl 3 rfl) ?_
  refine x_Vv hF hs v_K_copy k_ml_X_93 (m_K_copy lt12_13 h_i3) rfl rfl ⟨by decide, by decide⟩ rfl rfl hl.1 (Nat.le_of_ble_eq_true rfl) (rK lt12_13) d_X_derive_5 ⟨Nat.zero_le _, Nat.zero_le _⟩ (fun H locs hs => ?_)
  refine lv_iload_n hx hb d_X_derive_8 rfl (lv_at hl 1 rfl) ?_
  by_cases h1 : n1 = (19 : Int32)
  · refine lv_tableIn (tgt := 64) (off := 55) hx hb d_X_derive_9 (by rw [h1]; decide) (by rw [h1]; decide) (by rw [h1]; rfl) (by decide) ?_
    refine lv_aload_n hx hb d_X_derive_64 rfl (lv_at hl 0 rfl) ?_
    refine lv_aload_n hx hb d_X_derive_65 rfl (lv_at hl 3 rfl) ?_
    refine lv_aload hx hb d_X_derive_66 (lv_at hl 4 rfl) ?_
    refine xg_N4 hx hb hF hs h_i4 d_X_derive_68 ?_
    refine x_Vv hF hs v_X_narrow k_ml_X_158 (m_X_narrow h_i3) rfl rfl ⟨by decide, by decide⟩ rfl rfl hl.1 (Nat.le_of_ble_eq_true rfl) rX d_X_derive_71 ⟨Nat.zero_le _, Nat.zero_le _⟩ (fun H locs hs => ?_)
    refine lv_goto (tgt := 189) hx hb d_X_derive_74 (by decide) ?_
    refine lv_aload_n hx hb d_X_derive_189 rfl (lv_at hl 0 rfl) ?_
    refine lv_iload_n hx hb d_X_derive_190 rfl (lv_at hl 2 rfl) ?_
    refine x_Vv hF hs v_X_writeMade k_ml_X_172 (m_X_writeMade h_n2) rfl rfl ⟨by decide, by decide⟩ rfl rfl hl.1 (Nat.le_of_ble_eq_true rfl) rX d_X_derive_191 ⟨Nat.zero_le _, Nat.zero_le _⟩ (fun H locs hs => ?_)
    refine hret _ _ _ _ _ hs ?_ d_X_derive_194
    exact (if_pos h1).trans rfl
  by_cases h2 : n1 = (20 : Int32)
  · refine lv_tableIn (tgt := 77) (off := 68) hx hb d_X_derive_9 (by rw [h2]; decide) (by rw [h2]; decide) (by rw [h2]; rfl) (by decide) ?_
    refine lv_aload_n hx hb d_X_derive_77 rfl (lv_at hl 0 rfl) ?_
    refine xg_X hx hb hF hs 4 (by decide) k_fl_X_24 rfl d_X_derive_78 ?_
    refine lv_aload hx hb d_X_derive_81 (lv_at hl 4 rfl) ?_
    refine xg_N4 hx hb hF hs h_i4 d_X_derive_83 ?_
    refine x_Vv hF hs v_K_keepPermissions k_ml_X_162 (m_K_keepPermissions lt12_13) rfl rfl ⟨by decide, by decide⟩ rfl rfl hl.1 (Nat.le_of_ble_eq_true rfl) (rK lt12_13) d_X_derive_86 ⟨Nat.zero_le _, Nat.zero_le _⟩ (fun H locs hs => ?_)
    refine lv_aload_n hx hb d_X_derive_89 rfl (lv_at hl 0 rfl) ?_
    refine xg_X hx hb hF hs 4 (by decide) k_fl_X_24 rfl d_X_derive_90 ?_
    refine lv_aload_n hx hb d_X_derive_93 rfl (lv_at hl 3 rfl) ?_
    refine xg_N2 hx hb hF hs h_i3 d_X_derive_94 ?_
    refine lv_if_eq (tgt := 111) hx hb d_X_derive_97 (by decide) (fun h3 => ?_) (fun h3 => ?_)
    · refine lv_iconst (v := 0) hx hb d_X_derive_111 (by decide) ?_
      refine xp_N2 hx hb hF hs lt12_13 bo_0 d_X_derive_112 (fun H locs hs => ?_)
      refine lv_goto (tgt := 189) hx hb d_X_derive_115 (by decide) ?_
      refine lv_aload_n hx hb d_X_derive_189 rfl (lv_at hl 0 rfl) ?_
      refine lv_iload_n hx hb d_X_derive_190 rfl (lv_at hl 2 rfl) ?_
      refine x_Vv hF hs v_X_writeMade k_ml_X_172 (m_X_writeMade h_n2) rfl rfl ⟨by decide, by decide⟩ rfl rfl hl.1 (Nat.le_of_ble_eq_true rfl) rX d_X_derive_191 ⟨Nat.zero_le _, Nat.zero_le _⟩ (fun H locs hs => ?_)
      refine hret _ _ _ _ _ hs ?_ d_X_derive_194
      exact (if_neg h1).trans ((if_pos h2).trans ((if_pos h3).trans rfl))
    · refine lv_aload_n hx hb d_X_derive_100 rfl (lv_at hl 3 rfl) ?_
      refine x_Vip hF hs v_K_isSealed k_ml_X_97 (m_K_isSealed h_i3) rfl rfl ⟨by decide, by decide⟩ rfl rfl hl.1 (Nat.le_of_ble_eq_true rfl) (rK h_i3) d_X_derive_101 ⟨Nat.zero_le _, Nat.zero_le _⟩ (fun H locs hs => ?_)
      refine lv_if_ne (tgt := 111) hx hb d_X_derive_104 (by decide) (fun h4 => ?_) (fun h4 => ?_)
      · refine lv_iconst (v := 0) hx hb d_X_derive_111 (by decide) ?_
        refine xp_N2 hx hb hF hs lt12_13 bo_0 d_X_derive_112 (fun H locs hs => ?_)
        refine lv_goto (tgt := 189) hx hb d_X_derive_115 (by decide) ?_
        refine lv_aload_n hx hb d_X_derive_189 rfl (lv_at hl 0 rfl) ?_
        refine lv_iload_n hx hb d_X_derive_190 rfl (lv_at hl 2 rfl) ?_
        refine x_Vv hF hs v_X_writeMade k_ml_X_172 (m_X_writeMade h_n2) rfl rfl ⟨by decide, by decide⟩ rfl rfl hl.1 (Nat.le_of_ble_eq_true rfl) rX d_X_derive_191 ⟨Nat.zero_le _, Nat.zero_le _⟩ (fun H locs hs => ?_)
        refine hret _ _ _ _ _ hs ?_ d_X_derive_194
        exact (if_neg h1).trans ((if_pos h2).trans ((if_neg h3).trans ((if_neg h4).trans rfl)))
      · refine lv_iconst (v := 1) hx hb d_X_derive_107 (by decide) ?_
        refine lv_goto (tgt := 112) hx hb d_X_derive_108 (by decide) ?_
        refine xp_N2 hx hb hF hs lt12_13 bo_1 d_X_derive_112 (fun H locs hs => ?_)
        refine lv_goto (tgt := 189) hx hb d_X_derive_115 (by decide) ?_
        refine lv_aload_n hx hb d_X_derive_189 rfl (lv_at hl 0 rfl) ?_
        refine lv_iload_n hx hb d_X_derive_190 rfl (lv_at hl 2 rfl) ?_
        refine x_Vv hF hs v_X_writeMade k_ml_X_172 (m_X_writeMade h_n2) rfl rfl ⟨by decide, by decide⟩ rfl rfl hl.1 (Nat.le_of_ble_eq_true rfl) rX d_X_derive_191 ⟨Nat.zero_le _, Nat.zero_le _⟩ (fun H locs hs => ?_)
        refine hret _ _ _ _ _ hs ?_ d_X_derive_194
        exact (if_neg h1).trans ((if_pos h2).trans ((if_neg h3).trans ((if_pos h4).trans rfl)))
  by_cases h3 : n1 = (21 : Int32)
  · refine lv_tableIn (tgt := 118) (off := 109) hx hb d_X_derive_9 (by rw [h3]; decide) (by rw [h3]; decide) (by rw [h3]; rfl) (by decide) ?_
    refine lv_aload_n hx hb d_X_derive_118 rfl (lv_at hl 0 rfl) ?_
    refine xg_X hx hb hF hs 4 (by decide) k_fl_X_24 rfl d_X_derive_119 ?_
    refine lv_aload_n hx hb d_X_derive_122 rfl (lv_at hl 3 rfl) ?_
    refine xg_N4 hx hb hF hs h_i3 d_X_derive_123 ?_
    refine lv_aload hx hb d_X_derive_126 (lv_at hl 4 rfl) ?_
    refine xg_N4 hx hb hF hs h_i4 d_X_derive_128 ?_
    refine lv_iadd hx hb d_X_derive_131 ?_
    refine x_Vv hF hs v_K_move k_ml_X_165 (m_K_move lt12_13) rfl rfl ⟨by decide, by decide⟩ rfl rfl hl.1 (Nat.le_of_ble_eq_true rfl) (rK lt12_13) d_X_derive_132 ⟨Nat.zero_le _, Nat.zero_le _⟩ (fun H locs hs => ?_)
    refine lv_goto (tgt := 189) hx hb d_X_derive_135 (by decide) ?_
    refine lv_aload_n hx hb d_X_derive_189 rfl (lv_at hl 0 rfl) ?_
    refine lv_iload_n hx hb d_X_derive_190 rfl (lv_at hl 2 rfl) ?_
    refine x_Vv hF hs v_X_writeMade k_ml_X_172 (m_X_writeMade h_n2) rfl rfl ⟨by decide, by decide⟩ rfl rfl hl.1 (Nat.le_of_ble_eq_true rfl) rX d_X_derive_191 ⟨Nat.zero_le _, Nat.zero_le _⟩ (fun H locs hs => ?_)
    refine hret _ _ _ _ _ hs ?_ d_X_derive_194
    exact (if_neg h1).trans ((if_neg h2).trans ((if_pos h3).trans rfl))
  by_cases h4 : n1 = (22 : Int32)
  · refine lv_tableIn (tgt := 138) (off := 129) hx hb d_X_derive_9 (by rw [h4]; decide) (by rw [h4]; decide) (by rw [h4]; rfl) (by decide) ?_
    refine lv_aload_n hx hb d_X_derive_138 rfl (lv_at hl 0 rfl) ?_
    refine xg_X hx hb hF hs 4 (by decide) k_fl_X_24 rfl d_X_derive_139 ?_
    refine lv_aload hx hb d_X_derive_142 (lv_at hl 4 rfl) ?_
    refine xg_N4 hx hb hF hs h_i4 d_X_derive_144 ?_
    refine x_Vv hF hs v_K_move k_ml_X_165 (m_K_move lt12_13) rfl rfl ⟨by decide, by decide⟩ rfl rfl hl.1 (Nat.le_of_ble_eq_true rfl) (rK lt12_13) d_X_derive_147 ⟨Nat.zero_le _, Nat.zero_le _⟩ (fun H locs hs => ?_)
    refine lv_goto (tgt := 189) hx hb d_X_derive_150 (by decide) ?_
    refine lv_aload_n hx hb d_X_derive_189 rfl (lv_at hl 0 rfl) ?_
    refine lv_iload_n hx hb d_X_derive_190 rfl (lv_at hl 2 rfl) ?_
    refine x_Vv hF hs v_X_writeMade k_ml_X_172 (m_X_writeMade h_n2) rfl rfl ⟨by decide, by decide⟩ rfl rfl hl.1 (Nat.le_of_ble_eq_true rfl) rX d_X_derive_191 ⟨Nat.zero_le _, Nat.zero_le _⟩ (fun H locs hs => ?_)
    refine hret _ _ _ _ _ hs ?_ d_X_derive_194
    exact (if_neg h1).trans ((if_neg h2).trans ((if_neg h3).trans ((if_pos h4).trans rfl)))
  by_cases h5 : n1 = (26 : Int32)
  · refine lv_tableIn (tgt := 153) (off := 144) hx hb d_X_derive_9 (by rw [h5]; decide) (by rw [h5]; decide) (by rw [h5]; rfl) (by decide) ?_
    refine lv_aload_n hx hb d_X_derive_153 rfl (lv_at hl 0 rfl) ?_
    refine xg_X hx hb hF hs 4 (by decide) k_fl_X_24 rfl d_X_derive_154 ?_
    refine lv_aload hx hb d_X_derive_157 (lv_at hl 4 rfl) ?_
    refine x_Vv hF hs v_K_copy k_ml_X_93 (m_K_copy lt12_13 h_i4) rfl rfl ⟨by decide, by decide⟩ rfl rfl hl.1 (Nat.le_of_ble_eq_true rfl) (rK lt12_13) d_X_derive_159 ⟨Nat.zero_le _, Nat.zero_le _⟩ (fun H locs hs => ?_)
    refine lv_aload_n hx hb d_X_derive_162 rfl (lv_at hl 0 rfl) ?_
    refine xg_X hx hb hF hs 4 (by decide) k_fl_X_24 rfl d_X_derive_163 ?_
    refine lv_aload_n hx hb d_X_derive_166 rfl (lv_at hl 3 rfl) ?_
    refine lv_aload hx hb d_X_derive_167 (lv_at hl 4 rfl) ?_
    refine x_Sip hF hs v_X_mayBuild k_ml_X_168 (m_X_mayBuild h_i3 h_i4) rfl rfl ⟨by decide, by decide⟩ rfl rfl hl.1 (Nat.le_of_ble_eq_true rfl) d_X_derive_169 ⟨Nat.zero_le _, Nat.zero_le _⟩ (fun H locs hs => ?_)
    refine xp_N2 hx hb hF hs lt12_13 (bo_X_mayBuild _ _ _) d_X_derive_172 (fun H locs hs => ?_)
    refine lv_goto (tgt := 189) hx hb d_X_derive_175 (by decide) ?_
    refine lv_aload_n hx hb d_X_derive_189 rfl (lv_at hl 0 rfl) ?_
    refine lv_iload_n hx hb d_X_derive_190 rfl (lv_at hl 2 rfl) ?_
    refine x_Vv hF hs v_X_writeMade k_ml_X_172 (m_X_writeMade h_n2) rfl rfl ⟨by decide, by decide⟩ rfl rfl hl.1 (Nat.le_of_ble_eq_true rfl) rX d_X_derive_191 ⟨Nat.zero_le _, Nat.zero_le _⟩ (fun H locs hs => ?_)
    refine hret _ _ _ _ _ hs ?_ d_X_derive_194
    exact (if_neg h1).trans ((if_neg h2).trans ((if_neg h3).trans ((if_neg h4).trans ((if_pos h5).trans rfl))))
  by_cases h6 : n1 = (28 : Int32)
  · refine lv_tableIn (tgt := 178) (off := 169) hx hb d_X_derive_9 (by rw [h6]; decide) (by rw [h6]; decide) (by rw [h6]; rfl) (by decide) ?_
    refine lv_aload_n hx hb d_X_derive_178 rfl (lv_at hl 0 rfl) ?_
    refine xg_X hx hb hF hs 4 (by decide) k_fl_X_24 rfl d_X_derive_179 ?_
    refine lv_iconst (v := 0) hx hb d_X_derive_182 (by decide) ?_
    refine xp_N2 hx hb hF hs lt12_13 bo_0 d_X_derive_183 (fun H locs hs => ?_)
    refine lv_goto (tgt := 189) hx hb d_X_derive_186 (by decide) ?_
    refine lv_aload_n hx hb d_X_derive_189 rfl (lv_at hl 0 rfl) ?_
    refine lv_iload_n hx hb d_X_derive_190 rfl (lv_at hl 2 rfl) ?_
    refine x_Vv hF hs v_X_writeMade k_ml_X_172 (m_X_writeMade h_n2) rfl rfl ⟨by decide, by decide⟩ rfl rfl hl.1 (Nat.le_of_ble_eq_true rfl) rX d_X_derive_191 ⟨Nat.zero_le _, Nat.zero_le _⟩ (fun H locs hs => ?_)
    refine hret _ _ _ _ _ hs ?_ d_X_derive_194
    exact (if_neg h1).trans ((if_neg h2).trans ((if_neg h3).trans ((if_neg h4).trans ((if_neg h5).trans ((if_pos h6).trans rfl)))))
  refine x_tabD (tgt := 189) hx hb [19, 20, 21, 22, 26, 28] d_X_derive_9 (List.forall_mem_cons.mpr ⟨lv_neT h1 (by decide), List.forall_mem_cons.mpr ⟨lv_neT h2 (by decide), List.forall_mem_cons.mpr ⟨lv_neT h3 (by decide), List.forall_mem_cons.mpr ⟨lv_neT h4 (by decide), List.forall_mem_cons.mpr ⟨lv_neT h5 (by decide), List.forall_mem_cons.mpr ⟨lv_neT h6 (by decide), fun _ z => absurd z List.not_mem_nil⟩⟩⟩⟩⟩⟩) (by decide) (by decide) (by decide) ?_
  refine lv_aload_n hx hb d_X_derive_189 rfl (lv_at hl 0 rfl) ?_
  refine lv_iload_n hx hb d_X_derive_190 rfl (lv_at hl 2 rfl) ?_
  refine x_Vv hF hs v_X_writeMade k_ml_X_172 (m_X_writeMade h_n2) rfl rfl ⟨by decide, by decide⟩ rfl rfl hl.1 (Nat.le_of_ble_eq_true rfl) rX d_X_derive_191 ⟨Nat.zero_le _, Nat.zero_le _⟩ (fun H locs hs => ?_)
  refine hret _ _ _ _ _ hs ?_ d_X_derive_194
  exact (if_neg h1).trans ((if_neg h2).trans ((if_neg h3).trans ((if_neg h4).trans ((if_neg h5).trans ((if_neg h6).trans rfl)))))
end
section
def p_X_execute (σ : Mem) (n1 : Int32) : Int32 × Mem :=
  if (n1 &&& (31 : Int32)) = (0 : Int32) then
    let σ1 : Mem := wr σ 5 0 (1 : Int32);
    ((0 : Int32), σ1)
  else
  if (n1 &&& (31 : Int32)) = (11 : Int32) then
    let r2 := p_X_load σ ((((n1).toUInt32 >>> (((5 : Int32)).toUInt32 &&& Int32.toUInt32 31)).toInt32) &&& (7 : Int32)) ((((n1).toUInt32 >>> (((8 : Int32)).toUInt32 &&& Int32.toUInt32 31)).toInt32) &&& (7 : Int32)) (n1 >>> ((14 : Int32) &&& 31));
    if r2.1 = (0 : Int32) then
      let r3 := p_X_branch r2.2 (1 : Int32);
      (r3.1, r3.2)
    else
      (r2.1, r2.2)
  else
  if (n1 &&& (31 : Int32)) = (12 : Int32) then
    let r4 := p_X_store σ ((((n1).toUInt32 >>> (((8 : Int32)).toUInt32 &&& Int32.toUInt32 31)).toInt32) &&& (7 : Int32)) ((((n1).toUInt32 >>> (((11 : Int32)).toUInt32 &&& Int32.toUInt32 31)).toInt32) &&& (7 : Int32)) (n1 >>> ((14 : Int32) &&& 31));
    if r4.1 = (0 : Int32) then
      let r5 := p_X_branch r4.2 (1 : Int32);
      (r5.1, r5.2)
    else
      (r4.1, r4.2)
  else
  if (n1 &&& (31 : Int32)) = (13 : Int32) then
    let r6 := p_X_loadCapability σ ((((n1).toUInt32 >>> (((5 : Int32)).toUInt32 &&& Int32.toUInt32 31)).toInt32) &&& (7 : Int32)) ((((n1).toUInt32 >>> (((8 : Int32)).toUInt32 &&& Int32.toUInt32 31)).toInt32) &&& (7 : Int32)) (n1 >>> ((14 : Int32) &&& 31));
    if r6.1 = (0 : Int32) then
      let r7 := p_X_branch r6.2 (1 : Int32);
      (r7.1, r7.2)
    else
      (r6.1, r6.2)
  else
  if (n1 &&& (31 : Int32)) = (14 : Int32) then
    let r8 := p_X_storeCapability σ ((((n1).toUInt32 >>> (((8 : Int32)).toUInt32 &&& Int32.toUInt32 31)).toInt32) &&& (7 : Int32)) ((((n1).toUInt32 >>> (((11 : Int32)).toUInt32 &&& Int32.toUInt32 31)).toInt32) &&& (7 : Int32)) (n1 >>> ((14 : Int32) &&& 31));
    if r8.1 = (0 : Int32) then
      let r9 := p_X_branch r8.2 (1 : Int32);
      (r9.1, r9.2)
    else
      (r8.1, r8.2)
  else
  if (n1 &&& (31 : Int32)) = (15 : Int32) then
    if (σ 4 (((((n1).toUInt32 >>> (((8 : Int32)).toUInt32 &&& Int32.toUInt32 31)).toInt32) &&& (7 : Int32)).toNatClampNeg)) = (σ 4 (((((n1).toUInt32 >>> (((11 : Int32)).toUInt32 &&& Int32.toUInt32 31)).toInt32) &&& (7 : Int32)).toNatClampNeg)) then
      let r11 := p_X_branch σ (n1 >>> ((14 : Int32) &&& 31));
      (r11.1, r11.2)
    else
      let r10 := p_X_branch σ (1 : Int32);
      (r10.1, r10.2)
  else
  if (n1 &&& (31 : Int32)) = (16 : Int32) then
    if (σ 4 (((((n1).toUInt32 >>> (((11 : Int32)).toUInt32 &&& Int32.toUInt32 31)).toInt32) &&& (7 : Int32)).toNatClampNeg)) ≤ (σ 4 (((((n1).toUInt32 >>> (((8 : Int32)).toUInt32 &&& Int32.toUInt32 31)).toInt32) &&& (7 : Int32)).toNatClampNeg)) then
      let r12 := p_X_branch σ (1 : Int32);
      (r12.1, r12.2)
    else
      let r13 := p_X_branch σ (n1 >>> ((14 : Int32) &&& 31));
      (r13.1, r13.2)
  else
  if (n1 &&& (31 : Int32)) = (17 : Int32) then
    let σ14 : Mem := p_X_writeLink σ ((((n1).toUInt32 >>> (((5 : Int32)).toUInt32 &&& Int32.toUInt32 31)).toInt32) &&& (7 : Int32));
    let r15 := p_X_branch σ14 (n1 >>> ((14 : Int32) &&& 31));
    (r15.1, r15.2)
  else
  if (n1 &&& (31 : Int32)) = (18 : Int32) then
    let r16 := p_X_jump σ ((((n1).toUInt32 >>> (((5 : Int32)).toUInt32 &&& Int32.toUInt32 31)).toInt32) &&& (7 : Int32)) ((((n1).toUInt32 >>> (((8 : Int32)).toUInt32 &&& Int32.toUInt32 31)).toInt32) &&& (7 : Int32));
    (r16.1, r16.2)
  else
  if (n1 &&& (31 : Int32)) = (23 : Int32) then
    let r17 := p_X_seal σ ((((n1).toUInt32 >>> (((5 : Int32)).toUInt32 &&& Int32.toUInt32 31)).toInt32) &&& (7 : Int32)) ((((n1).toUInt32 >>> (((8 : Int32)).toUInt32 &&& Int32.toUInt32 31)).toInt32) &&& (7 : Int32)) ((((n1).toUInt32 >>> (((11 : Int32)).toUInt32 &&& Int32.toUInt32 31)).toInt32) &&& (7 : Int32));
    if r17.1 = (0 : Int32) then
      let r18 := p_X_branch r17.2 (1 : Int32);
      (r18.1, r18.2)
    else
      (r17.1, r17.2)
  else
  if (n1 &&& (31 : Int32)) = (24 : Int32) then
    let r19 := p_X_unseal σ ((((n1).toUInt32 >>> (((5 : Int32)).toUInt32 &&& Int32.toUInt32 31)).toInt32) &&& (7 : Int32)) ((((n1).toUInt32 >>> (((8 : Int32)).toUInt32 &&& Int32.toUInt32 31)).toInt32) &&& (7 : Int32)) ((((n1).toUInt32 >>> (((11 : Int32)).toUInt32 &&& Int32.toUInt32 31)).toInt32) &&& (7 : Int32));
    if r19.1 = (0 : Int32) then
      let r20 := p_X_branch r19.2 (1 : Int32);
      (r20.1, r20.2)
    else
      (r19.1, r19.2)
  else
  if (n1 &&& (31 : Int32)) = (25 : Int32) then
    let σ21 : Mem := p_X_writeNumber σ ((((n1).toUInt32 >>> (((5 : Int32)).toUInt32 &&& Int32.toUInt32 31)).toInt32) &&& (7 : Int32)) (p_X_tell σ (((((n1).toUInt32 >>> (((8 : Int32)).toUInt32 &&& Int32.toUInt32 31)).toInt32) &&& (7 : Int32)).toNatClampNeg) (n1 >>> ((14 : Int32) &&& 31)));
    let r22 := p_X_branch σ21 (1 : Int32);
    (r22.1, r22.2)
  else
  if (n1 &&& (31 : Int32)) = (29 : Int32) then
    let r23 := p_X_swap σ ((((n1).toUInt32 >>> (((5 : Int32)).toUInt32 &&& Int32.toUInt32 31)).toInt32) &&& (7 : Int32)) ((((n1).toUInt32 >>> (((8 : Int32)).toUInt32 &&& Int32.toUInt32 31)).toInt32) &&& (7 : Int32)) (n1 >>> ((14 : Int32) &&& 31));
    if r23.1 = (0 : Int32) then
      let r24 := p_X_branch r23.2 (1 : Int32);
      (r24.1, r24.2)
    else
      (r23.1, r23.2)
  else
  if (n1 &&& (31 : Int32)) = (30 : Int32) then
    ((p_X_trapOf (0 : Int32) (9 : Int32)), σ)
  else
  if (n1 &&& (31 : Int32)) = (31 : Int32) then
    let r25 := p_X_returnFromTrap σ;
    (r25.1, r25.2)
  else
    if (10 : Int32) < (n1 &&& (31 : Int32)) then
      let σ26 : Mem := p_X_derive σ (n1 &&& (31 : Int32)) ((((n1).toUInt32 >>> (((5 : Int32)).toUInt32 &&& Int32.toUInt32 31)).toInt32) &&& (7 : Int32)) (((((n1).toUInt32 >>> (((8 : Int32)).toUInt32 &&& Int32.toUInt32 31)).toInt32) &&& (7 : Int32)).toNatClampNeg) (((((n1).toUInt32 >>> (((11 : Int32)).toUInt32 &&& Int32.toUInt32 31)).toInt32) &&& (7 : Int32)).toNatClampNeg);
      let r27 := p_X_branch σ26 (1 : Int32);
      (r27.1, r27.2)
    else
      let σ28 : Mem := p_X_writeNumber σ ((((n1).toUInt32 >>> (((5 : Int32)).toUInt32 &&& Int32.toUInt32 31)).toInt32) &&& (7 : Int32)) (p_X_compute (n1 &&& (31 : Int32)) (σ 4 (((((n1).toUInt32 >>> (((8 : Int32)).toUInt32 &&& Int32.toUInt32 31)).toInt32) &&& (7 : Int32)).toNatClampNeg)) (σ 4 (((((n1).toUInt32 >>> (((11 : Int32)).toUInt32 &&& Int32.toUInt32 31)).toInt32) &&& (7 : Int32)).toNatClampNeg)) (n1 >>> ((14 : Int32) &&& 31)));
      let r29 := p_X_branch σ28 (1 : Int32);
      (r29.1, r29.2)
set_option maxHeartbeats 4000000 in
set_option maxRecDepth 100000 in
theorem m_X_execute {l : Launch} {D : va_G} {a : Nat → Nat} {cA : Nat → ClassId} {B0 : Nat → Prop} {σ : Mem} {n1 : Int32} : cI l y_X_execute (.code y_X_execute c_X_execute 8 (some FieldType.int) :: TG) (rmO 5 120) D (cwL a cA) (cty cA) B0 [.ref (a 0), .int n1] σ (p_X_execute σ n1) := by
  refine cI_of (by decide) (Nat.le_of_ble_eq_true rfl) ?_
  intro p e s m args below meth c Q ls hx hb hF hl hs hret
  have hl : lv_has ls 8 [(0, .ref (a 0)), (1, .int n1)] := hl
  refine lv_iload_n hx hb d_X_execute_0 rfl (lv_at hl 1 rfl) ?_
  refine lv_bipush (v := 31) hx hb d_X_execute_1 (by decide) ?_
  refine lv_iand hx hb d_X_execute_3 ?_
  refine lv_istore_n (lv' := [(2, _), (0, _), (1, _)]) hx hb d_X_execute_4 rfl hl (by decide) rfl (fun ls hl => ?_)
  refine lv_iload_n hx hb d_X_execute_5 rfl (lv_at hl 2 rfl) ?_
  refine lv_iconst (v := 5) hx hb d_X_execute_6 (by decide) ?_
  refine lv_iushr hx hb d_X_execute_7 rfl ?_
  refine lv_bipush (v := 7) hx hb d_X_execute_8 (by decide) ?_
  refine lv_iand hx hb d_X_execute_10 ?_
  refine lv_istore_n (lv' := [(3, _), (2, _), (0, _), (1, _)]) hx hb d_X_execute_11 rfl hl (by decide) rfl (fun ls hl => ?_)
  refine lv_iload_n hx hb d_X_execute_12 rfl (lv_at hl 3 rfl) ?_
  refine lv_bipush (v := 8) hx hb d_X_execute_13 (by decide) ?_
  refine lv_iushr hx hb d_X_execute_15 rfl ?_
  refine lv_bipush (v := 7) hx hb d_X_execute_16 (by decide) ?_
  refine lv_iand hx hb d_X_execute_18 ?_
  refine lv_istore (lv' := [(4, _), (3, _), (2, _), (0, _), (1, _)]) hx hb d_X_execute_19 hl (by decide) rfl (fun ls hl => ?_)
  refine lv_iload_n hx hb d_X_execute_21 rfl (lv_at hl 4 rfl) ?_
  refine lv_bipush (v := 11) hx hb d_X_execute_22 (by decide) ?_
  refine lv_iushr hx hb d_X_execute_24 rfl ?_
  refine lv_bipush (v := 7) hx hb d_X_execute_25 (by decide) ?_
  refine lv_iand hx hb d_X_execute_27 ?_
  refine lv_istore (lv' := [(5, _), (4, _), (3, _), (2, _), (0, _), (1, _)]) hx hb d_X_execute_28 hl (by decide) rfl (fun ls hl => ?_)
  refine lv_iload_n hx hb d_X_execute_30 rfl (lv_at hl 5 rfl) ?_
  refine lv_bipush (v := 14) hx hb d_X_execute_31 (by decide) ?_
  refine lv_ishr hx hb d_X_execute_33 ?_
  refine lv_istore (lv' := [(6, _), (5, _), (4, _), (3, _), (2, _), (0, _), (1, _)]) hx hb d_X_execute_34 hl (by decide) rfl (fun ls hl => ?_)
  refine lv_iconst (v := 0) hx hb d_X_execute_36 (by decide) ?_
  refine lv_istore (lv' := [(7, _), (6, _), (5, _), (4, _), (3, _), (2, _), (0, _), (1, _)]) hx hb d_X_execute_37 hl (by decide) rfl (fun ls hl => ?_)
  refine lv_iload_n hx hb d_X_execute_39 rfl (lv_at hl 5 rfl) ?_
  by_cases h1 : (n1 &&& (31 : Int32)) = (0 : Int32)
  · refine lv_tableIn (tgt := 184) (off := 144) hx hb d_X_execute_40 (by rw [h1]; decide) (by rw [h1]; decide) (by rw [h1]; rfl) (by decide) ?_
    refine lv_aload_n hx hb d_X_execute_184 rfl (lv_at hl 6 rfl) ?_
    refine lv_iconst (v := 1) hx hb d_X_execute_185 (by decide) ?_
    refine xp_X hx hb hF hs 0 (by decide) k_fl_X_28 d_X_execute_186 (fun H locs hs => ?_)
    refine lv_iconst (v := 0) hx hb d_X_execute_189 (by decide) ?_
    refine hret _ _ _ _ _ _ hs ?_ d_X_execute_190
    exact (if_pos h1).trans rfl
  by_cases h2 : (n1 &&& (31 : Int32)) = (11 : Int32)
  · refine lv_tableIn (tgt := 191) (off := 151) hx hb d_X_execute_40 (by rw [h2]; decide) (by rw [h2]; decide) (by rw [h2]; rfl) (by decide) ?_
    refine lv_aload_n hx hb d_X_execute_191 rfl (lv_at hl 6 rfl) ?_
    refine lv_iload_n hx hb d_X_execute_192 rfl (lv_at hl 4 rfl) ?_
    refine lv_iload hx hb d_X_execute_193 (lv_at hl 3 rfl) ?_
    refine lv_iload hx hb d_X_execute_195 (lv_at hl 1 rfl) ?_
    refine x_Vi hF hs v_X_load k_ml_X_112 (m_X_load (ix_and7 _) (ix_and7 _)) rfl rfl ⟨by decide, by decide⟩ rfl rfl hl.1 (Nat.le_of_ble_eq_true rfl) rX d_X_execute_197 ⟨Nat.zero_le _, Nat.zero_le _⟩ (fun H locs hs => ?_)
    refine lv_istore (lv' := [(7, _), (6, _), (5, _), (4, _), (3, _), (2, _), (0, _), (1, _)]) hx hb d_X_execute_200 hl (by decide) rfl (fun ls hl => ?_)
    refine lv_goto (tgt := 471) hx hb d_X_execute_202 (by decide) ?_
    refine lv_iload hx hb d_X_execute_471 (lv_at hl 0 rfl) ?_
    refine lv_if_ne (tgt := 484) hx hb d_X_execute_473 (by decide) (fun h3 => ?_) (fun h3 => ?_)
    · refine lv_iload hx hb d_X_execute_484 (lv_at hl 0 rfl) ?_
      refine hret _ _ _ _ _ _ hs ?_ d_X_execute_486
      exact (if_neg h1).trans ((if_pos h2).trans ((if_neg h3).trans rfl))
    · refine lv_aload_n hx hb d_X_execute_476 rfl (lv_at hl 6 rfl) ?_
      refine lv_iconst (v := 1) hx hb d_X_execute_477 (by decide) ?_
      refine x_Vi hF hs v_X_branch k_ml_X_125 (m_X_branch) rfl rfl ⟨by decide, by decide⟩ rfl rfl hl.1 (Nat.le_of_ble_eq_true rfl) rX d_X_execute_478 ⟨Nat.zero_le _, Nat.zero_le _⟩ (fun H locs hs => ?_)
      refine lv_goto (tgt := 486) hx hb d_X_execute_481 (by decide) ?_
      refine hret _ _ _ _ _ _ hs ?_ d_X_execute_486
      exact (if_neg h1).trans ((if_pos h2).trans ((if_pos h3).trans rfl))
  by_cases h3 : (n1 &&& (31 : Int32)) = (12 : Int32)
  · refine lv_tableIn (tgt := 205) (off := 165) hx hb d_X_execute_40 (by rw [h3]; decide) (by rw [h3]; decide) (by rw [h3]; rfl) (by decide) ?_
    refine lv_aload_n hx hb d_X_execute_205 rfl (lv_at hl 6 rfl) ?_
    refine lv_iload hx hb d_X_execute_206 (lv_at hl 3 rfl) ?_
    refine lv_iload hx hb d_X_execute_208 (lv_at hl 2 rfl) ?_
    refine lv_iload hx hb d_X_execute_210 (lv_at hl 1 rfl) ?_
    refine x_Vi hF hs v_X_store k_ml_X_116 (m_X_store (ix_and7 _) (ix_and7 _)) rfl rfl ⟨by decide, by decide⟩ rfl rfl hl.1 (Nat.le_of_ble_eq_true rfl) rX d_X_execute_212 ⟨Nat.zero_le _, Nat.zero_le _⟩ (fun H locs hs => ?_)
    refine lv_istore (lv' := [(7, _), (6, _), (5, _), (4, _), (3, _), (2, _), (0, _), (1, _)]) hx hb d_X_execute_215 hl (by decide) rfl (fun ls hl => ?_)
    refine lv_goto (tgt := 471) hx hb d_X_execute_217 (by decide) ?_
    refine lv_iload hx hb d_X_execute_471 (lv_at hl 0 rfl) ?_
    refine lv_if_ne (tgt := 484) hx hb d_X_execute_473 (by decide) (fun h4 => ?_) (fun h4 => ?_)
    · refine lv_iload hx hb d_X_execute_484 (lv_at hl 0 rfl) ?_
      refine hret _ _ _ _ _ _ hs ?_ d_X_execute_486
      exact (if_neg h1).trans ((if_neg h2).trans ((if_pos h3).trans ((if_neg h4).trans rfl)))
    · refine lv_aload_n hx hb d_X_execute_476 rfl (lv_at hl 6 rfl) ?_
      refine lv_iconst (v := 1) hx hb d_X_execute_477 (by decide) ?_
      refine x_Vi hF hs v_X_branch k_ml_X_125 (m_X_branch) rfl rfl ⟨by decide, by decide⟩ rfl rfl hl.1 (Nat.le_of_ble_eq_true rfl) rX d_X_execute_478 ⟨Nat.zero_le _, Nat.zero_le _⟩ (fun H locs hs => ?_)
      refine lv_goto (tgt := 486) hx hb d_X_execute_481 (by decide) ?_
      refine hret _ _ _ _ _ _ hs ?_ d_X_execute_486
      exact (if_neg h1).trans ((if_neg h2).trans ((if_pos h3).trans ((if_pos h4).trans rfl)))
  by_cases h4 : (n1 &&& (31 : Int32)) = (13 : Int32)
  · refine lv_tableIn (tgt := 220) (off := 180) hx hb d_X_execute_40 (by rw [h4]; decide) (by rw [h4]; decide) (by rw [h4]; rfl) (by decide) ?_
    refine lv_aload_n hx hb d_X_execute_220 rfl (lv_at hl 6 rfl) ?_
    refine lv_iload_n hx hb d_X_execute_221 rfl (lv_at hl 4 rfl) ?_
    refine lv_iload hx hb d_X_execute_222 (lv_at hl 3 rfl) ?_
    refine lv_iload hx hb d_X_execute_224 (lv_at hl 1 rfl) ?_
    refine x_Vi hF hs v_X_loadCapability k_ml_X_119 (m_X_loadCapability (ix_and7 _) (ix_and7 _)) rfl rfl ⟨by decide, by decide⟩ rfl rfl hl.1 (Nat.le_of_ble_eq_true rfl) rX d_X_execute_226 ⟨Nat.zero_le _, Nat.zero_le _⟩ (fun H locs hs => ?_)
    refine lv_istore (lv' := [(7, _), (6, _), (5, _), (4, _), (3, _), (2, _), (0, _), (1, _)]) hx hb d_X_execute_229 hl (by decide) rfl (fun ls hl => ?_)
    refine lv_goto (tgt := 471) hx hb d_X_execute_231 (by decide) ?_
    refine lv_iload hx hb d_X_execute_471 (lv_at hl 0 rfl) ?_
    refine lv_if_ne (tgt := 484) hx hb d_X_execute_473 (by decide) (fun h5 => ?_) (fun h5 => ?_)
    · refine lv_iload hx hb d_X_execute_484 (lv_at hl 0 rfl) ?_
      refine hret _ _ _ _ _ _ hs ?_ d_X_execute_486
      exact (if_neg h1).trans ((if_neg h2).trans ((if_neg h3).trans ((if_pos h4).trans ((if_neg h5).trans rfl))))
    · refine lv_aload_n hx hb d_X_execute_476 rfl (lv_at hl 6 rfl) ?_
      refine lv_iconst (v := 1) hx hb d_X_execute_477 (by decide) ?_
      refine x_Vi hF hs v_X_branch k_ml_X_125 (m_X_branch) rfl rfl ⟨by decide, by decide⟩ rfl rfl hl.1 (Nat.le_of_ble_eq_true rfl) rX d_X_execute_478 ⟨Nat.zero_le _, Nat.zero_le _⟩ (fun H locs hs => ?_)
      refine lv_goto (tgt := 486) hx hb d_X_execute_481 (by decide) ?_
      refine hret _ _ _ _ _ _ hs ?_ d_X_execute_486
      exact (if_neg h1).trans ((if_neg h2).trans ((if_neg h3).trans ((if_pos h4).trans ((if_pos h5).trans rfl))))
  by_cases h5 : (n1 &&& (31 : Int32)) = (14 : Int32)
  · refine lv_tableIn (tgt := 234) (off := 194) hx hb d_X_execute_40 (by rw [h5]; decide) (by rw [h5]; decide) (by rw [h5]; rfl) (by decide) ?_
    refine lv_aload_n hx hb d_X_execute_234 rfl (lv_at hl 6 rfl) ?_
    refine lv_iload hx hb d_X_execute_235 (lv_at hl 3 rfl) ?_
    refine lv_iload hx hb d_X_execute_237 (lv_at hl 2 rfl) ?_
    refine lv_iload hx hb d_X_execute_239 (lv_at hl 1 rfl) ?_
    refine x_Vi hF hs v_X_storeCapability k_ml_X_122 (m_X_storeCapability (ix_and7 _) (ix_and7 _)) rfl rfl ⟨by decide, by decide⟩ rfl rfl hl.1 (Nat.le_of_ble_eq_true rfl) rX d_X_execute_241 ⟨Nat.zero_le _, Nat.zero_le _⟩ (fun H locs hs => ?_)
    refine lv_istore (lv' := [(7, _), (6, _), (5, _), (4, _), (3, _), (2, _), (0, _), (1, _)]) hx hb d_X_execute_244 hl (by decide) rfl (fun ls hl => ?_)
    refine lv_goto (tgt := 471) hx hb d_X_execute_246 (by decide) ?_
    refine lv_iload hx hb d_X_execute_471 (lv_at hl 0 rfl) ?_
    refine lv_if_ne (tgt := 484) hx hb d_X_execute_473 (by decide) (fun h6 => ?_) (fun h6 => ?_)
    · refine lv_iload hx hb d_X_execute_484 (lv_at hl 0 rfl) ?_
      refine hret _ _ _ _ _ _ hs ?_ d_X_execute_486
      exact (if_neg h1).trans ((if_neg h2).trans ((if_neg h3).trans ((if_neg h4).trans ((if_pos h5).trans ((if_neg h6).trans rfl)))))
    · refine lv_aload_n hx hb d_X_execute_476 rfl (lv_at hl 6 rfl) ?_
      refine lv_iconst (v := 1) hx hb d_X_execute_477 (by decide) ?_
      refine x_Vi hF hs v_X_branch k_ml_X_125 (m_X_branch) rfl rfl ⟨by decide, by decide⟩ rfl rfl hl.1 (Nat.le_of_ble_eq_true rfl) rX d_X_execute_478 ⟨Nat.zero_le _, Nat.zero_le _⟩ (fun H locs hs => ?_)
      refine lv_goto (tgt := 486) hx hb d_X_execute_481 (by decide) ?_
      refine hret _ _ _ _ _ _ hs ?_ d_X_execute_486
      exact (if_neg h1).trans ((if_neg h2).trans ((if_neg h3).trans ((if_neg h4).trans ((if_pos h5).trans ((if_pos h6).trans rfl)))))
  by_cases h6 : (n1 &&& (31 : Int32)) = (15 : Int32)
  · refine lv_tableIn (tgt := 249) (off := 209) hx hb d_X_execute_40 (by rw [h6]; decide) (by rw [h6]; decide) (by rw [h6]; rfl) (by decide) ?_
    refine lv_aload_n hx hb d_X_execute_249 rfl (lv_at hl 6 rfl) ?_
    refine lv_aload_n hx hb d_X_execute_250 rfl (lv_at hl 6 rfl) ?_
    refine xg_X hx hb hF hs 2 (by decide) k_fl_X_19 rfl d_X_execute_251 ?_
    refine lv_iload hx hb d_X_execute_254 (lv_at hl 3 rfl) ?_
    refine xr_ld hx hb hF hs (ix_and7 _) d_X_execute_256 ?_
    refine xg_N4 hx hb hF hs (in13 (ix_and7 _)) d_X_execute_257 ?_
    refine lv_aload_n hx hb d_X_execute_260 rfl (lv_at hl 6 rfl) ?_
    refine xg_X hx hb hF hs 2 (by decide) k_fl_X_19 rfl d_X_execute_261 ?_
    refine lv_iload hx hb d_X_execute_264 (lv_at hl 2 rfl) ?_
    refine xr_ld hx hb hF hs (ix_and7 _) d_X_execute_266 ?_
    refine xg_N4 hx hb hF hs (in13 (ix_and7 _)) d_X_execute_267 ?_
    refine lv_icmp_ne (tgt := 278) hx hb d_X_execute_270 (by decide) (fun h7 => ?_) (fun h7 => ?_)
    · refine lv_iconst (v := 1) hx hb d_X_execute_278 (by decide) ?_
      refine x_Vi hF hs v_X_branch k_ml_X_125 (m_X_branch) rfl rfl ⟨by decide, by decide⟩ rfl rfl hl.1 (Nat.le_of_ble_eq_true rfl) rX d_X_execute_279 ⟨Nat.zero_le _, Nat.zero_le _⟩ (fun H locs hs => ?_)
      refine hret _ _ _ _ _ _ hs ?_ d_X_execute_282
      exact (if_neg h1).trans ((if_neg h2).trans ((if_neg h3).trans ((if_neg h4).trans ((if_neg h5).trans ((if_pos h6).trans ((if_neg h7).trans rfl))))))
    · refine lv_iload hx hb d_X_execute_273 (lv_at hl 1 rfl) ?_
      refine lv_goto (tgt := 279) hx hb d_X_execute_275 (by decide) ?_
      refine x_Vi hF hs v_X_branch k_ml_X_125 (m_X_branch) rfl rfl ⟨by decide, by decide⟩ rfl rfl hl.1 (Nat.le_of_ble_eq_true rfl) rX d_X_execute_279 ⟨Nat.zero_le _, Nat.zero_le _⟩ (fun H locs hs => ?_)
      refine hret _ _ _ _ _ _ hs ?_ d_X_execute_282
      exact (if_neg h1).trans ((if_neg h2).trans ((if_neg h3).trans ((if_neg h4).trans ((if_neg h5).trans ((if_pos h6).trans ((if_pos h7).trans rfl))))))
  by_cases h7 : (n1 &&& (31 : Int32)) = (16 : Int32)
  · refine lv_tableIn (tgt := 283) (off := 243) hx hb d_X_execute_40 (by rw [h7]; decide) (by rw [h7]; decide) (by rw [h7]; rfl) (by decide) ?_
    refine lv_aload_n hx hb d_X_execute_283 rfl (lv_at hl 6 rfl) ?_
    refine lv_aload_n hx hb d_X_execute_284 rfl (lv_at hl 6 rfl) ?_
    refine xg_X hx hb hF hs 2 (by decide) k_fl_X_19 rfl d_X_execute_285 ?_
    refine lv_iload hx hb d_X_execute_288 (lv_at hl 3 rfl) ?_
    refine xr_ld hx hb hF hs (ix_and7 _) d_X_execute_290 ?_
    refine xg_N4 hx hb hF hs (in13 (ix_and7 _)) d_X_execute_291 ?_
    refine lv_aload_n hx hb d_X_execute_294 rfl (lv_at hl 6 rfl) ?_
    refine xg_X hx hb hF hs 2 (by decide) k_fl_X_19 rfl d_X_execute_295 ?_
    refine lv_iload hx hb d_X_execute_298 (lv_at hl 2 rfl) ?_
    refine xr_ld hx hb hF hs (ix_and7 _) d_X_execute_300 ?_
    refine xg_N4 hx hb hF hs (in13 (ix_and7 _)) d_X_execute_301 ?_
    refine lv_icmp_ge (tgt := 312) hx hb d_X_execute_304 (by decide) (fun h8 => ?_) (fun h8 => ?_)
    · refine lv_iconst (v := 1) hx hb d_X_execute_312 (by decide) ?_
      refine x_Vi hF hs v_X_branch k_ml_X_125 (m_X_branch) rfl rfl ⟨by decide, by decide⟩ rfl rfl hl.1 (Nat.le_of_ble_eq_true rfl) rX d_X_execute_313 ⟨Nat.zero_le _, Nat.zero_le _⟩ (fun H locs hs => ?_)
      refine hret _ _ _ _ _ _ hs ?_ d_X_execute_316
      exact (if_neg h1).trans ((if_neg h2).trans ((if_neg h3).trans ((if_neg h4).trans ((if_neg h5).trans ((if_neg h6).trans ((if_pos h7).trans ((if_pos h8).trans rfl)))))))
    · refine lv_iload hx hb d_X_execute_307 (lv_at hl 1 rfl) ?_
      refine lv_goto (tgt := 313) hx hb d_X_execute_309 (by decide) ?_
      refine x_Vi hF hs v_X_branch k_ml_X_125 (m_X_branch) rfl rfl ⟨by decide, by decide⟩ rfl rfl hl.1 (Nat.le_of_ble_eq_true rfl) rX d_X_execute_313 ⟨Nat.zero_le _, Nat.zero_le _⟩ (fun H locs hs => ?_)
      refine hret _ _ _ _ _ _ hs ?_ d_X_execute_316
      exact (if_neg h1).trans ((if_neg h2).trans ((if_neg h3).trans ((if_neg h4).trans ((if_neg h5).trans ((if_neg h6).trans ((if_pos h7).trans ((if_neg h8).trans rfl)))))))
  by_cases h8 : (n1 &&& (31 : Int32)) = (17 : Int32)
  · refine lv_tableIn (tgt := 317) (off := 277) hx hb d_X_execute_40 (by rw [h8]; decide) (by rw [h8]; decide) (by rw [h8]; rfl) (by decide) ?_
    refine lv_aload_n hx hb d_X_execute_317 rfl (lv_at hl 6 rfl) ?_
    refine lv_iload_n hx hb d_X_execute_318 rfl (lv_at hl 4 rfl) ?_
    refine x_Vv hF hs v_X_writeLink k_ml_X_128 (m_X_writeLink (ix_and7 _)) rfl rfl ⟨by decide, by decide⟩ rfl rfl hl.1 (Nat.le_of_ble_eq_true rfl) rX d_X_execute_319 ⟨Nat.zero_le _, Nat.zero_le _⟩ (fun H locs hs => ?_)
    refine lv_aload_n hx hb d_X_execute_322 rfl (lv_at hl 6 rfl) ?_
    refine lv_iload hx hb d_X_execute_323 (lv_at hl 1 rfl) ?_
    refine x_Vi hF hs v_X_branch k_ml_X_125 (m_X_branch) rfl rfl ⟨by decide, by decide⟩ rfl rfl hl.1 (Nat.le_of_ble_eq_true rfl) rX d_X_execute_325 ⟨Nat.zero_le _, Nat.zero_le _⟩ (fun H locs hs => ?_)
    refine hret _ _ _ _ _ _ hs ?_ d_X_execute_328
    exact (if_neg h1).trans ((if_neg h2).trans ((if_neg h3).trans ((if_neg h4).trans ((if_neg h5).trans ((if_neg h6).trans ((if_neg h7).trans ((if_pos h8).trans rfl)))))))
  by_cases h9 : (n1 &&& (31 : Int32)) = (18 : Int32)
  · refine lv_tableIn (tgt := 329) (off := 289) hx hb d_X_execute_40 (by rw [h9]; decide) (by rw [h9]; decide) (by rw [h9]; rfl) (by decide) ?_
    refine lv_aload_n hx hb d_X_execute_329 rfl (lv_at hl 6 rfl) ?_
    refine lv_iload_n hx hb d_X_execute_330 rfl (lv_at hl 4 rfl) ?_
    refine lv_iload hx hb d_X_execute_331 (lv_at hl 3 rfl) ?_
    refine x_Vi hF hs v_X_jump k_ml_X_131 (m_X_jump (ix_and7 _) (ix_and7 _)) rfl rfl ⟨by decide, by decide⟩ rfl rfl hl.1 (Nat.le_of_ble_eq_true rfl) rX d_X_execute_333 ⟨Nat.zero_le _, Nat.zero_le _⟩ (fun H locs hs => ?_)
    refine hret _ _ _ _ _ _ hs ?_ d_X_execute_336
    exact (if_neg h1).trans ((if_neg h2).trans ((if_neg h3).trans ((if_neg h4).trans ((if_neg h5).trans ((if_neg h6).trans ((if_neg h7).trans ((if_neg h8).trans ((if_pos h9).trans rfl))))))))
  by_cases h10 : (n1 &&& (31 : Int32)) = (23 : Int32)
  · refine lv_tableIn (tgt := 337) (off := 297) hx hb d_X_execute_40 (by rw [h10]; decide) (by rw [h10]; decide) (by rw [h10]; rfl) (by decide) ?_
    refine lv_aload_n hx hb d_X_execute_337 rfl (lv_at hl 6 rfl) ?_
    refine lv_iload_n hx hb d_X_execute_338 rfl (lv_at hl 4 rfl) ?_
    refine lv_iload hx hb d_X_execute_339 (lv_at hl 3 rfl) ?_
    refine lv_iload hx hb d_X_execute_341 (lv_at hl 2 rfl) ?_
    refine x_Vi hF hs v_X_seal k_ml_X_134 (m_X_seal (ix_and7 _) (ix_and7 _) (ix_and7 _)) rfl rfl ⟨by decide, by decide⟩ rfl rfl hl.1 (Nat.le_of_ble_eq_true rfl) rX d_X_execute_343 ⟨Nat.zero_le _, Nat.zero_le _⟩ (fun H locs hs => ?_)
    refine lv_istore (lv' := [(7, _), (6, _), (5, _), (4, _), (3, _), (2, _), (0, _), (1, _)]) hx hb d_X_execute_346 hl (by decide) rfl (fun ls hl => ?_)
    refine lv_goto (tgt := 471) hx hb d_X_execute_348 (by decide) ?_
    refine lv_iload hx hb d_X_execute_471 (lv_at hl 0 rfl) ?_
    refine lv_if_ne (tgt := 484) hx hb d_X_execute_473 (by decide) (fun h11 => ?_) (fun h11 => ?_)
    · refine lv_iload hx hb d_X_execute_484 (lv_at hl 0 rfl) ?_
      refine hret _ _ _ _ _ _ hs ?_ d_X_execute_486
      exact (if_neg h1).trans ((if_neg h2).trans ((if_neg h3).trans ((if_neg h4).trans ((if_neg h5).trans ((if_neg h6).trans ((if_neg h7).trans ((if_neg h8).trans ((if_neg h9).trans ((if_pos h10).trans ((if_neg h11).trans rfl))))))))))
    · refine lv_aload_n hx hb d_X_execute_476 rfl (lv_at hl 6 rfl) ?_
      refine lv_iconst (v := 1) hx hb d_X_execute_477 (by decide) ?_
      refine x_Vi hF hs v_X_branch k_ml_X_125 (m_X_branch) rfl rfl ⟨by decide, by decide⟩ rfl rfl hl.1 (Nat.le_of_ble_eq_true rfl) rX d_X_execute_478 ⟨Nat.zero_le _, Nat.zero_le _⟩ (fun H locs hs => ?_)
      refine lv_goto (tgt := 486) hx hb d_X_execute_481 (by decide) ?_
      refine hret _ _ _ _ _ _ hs ?_ d_X_execute_486
      exact (if_neg h1).trans ((if_neg h2).trans ((if_neg h3).trans ((if_neg h4).trans ((if_neg h5).trans ((if_neg h6).trans ((if_neg h7).trans ((if_neg h8).trans ((if_neg h9).trans ((if_pos h10).trans ((if_pos h11).trans rfl))))))))))
  by_cases h11 : (n1 &&& (31 : Int32)) = (24 : Int32)
  · refine lv_tableIn (tgt := 351) (off := 311) hx hb d_X_execute_40 (by rw [h11]; decide) (by rw [h11]; decide) (by rw [h11]; rfl) (by decide) ?_
    refine lv_aload_n hx hb d_X_execute_351 rfl (lv_at hl 6 rfl) ?_
    refine lv_iload_n hx hb d_X_execute_352 rfl (lv_at hl 4 rfl) ?_
    refine lv_iload hx hb d_X_execute_353 (lv_at hl 3 rfl) ?_
    refine lv_iload hx hb d_X_execute_355 (lv_at hl 2 rfl) ?_
    refine x_Vi hF hs v_X_unseal k_ml_X_137 (m_X_unseal (ix_and7 _) (ix_and7 _) (ix_and7 _)) rfl rfl ⟨by decide, by decide⟩ rfl rfl hl.1 (Nat.le_of_ble_eq_true rfl) rX d_X_execute_357 ⟨Nat.zero_le _, Nat.zero_le _⟩ (fun H locs hs => ?_)
    refine lv_istore (lv' := [(7, _), (6, _), (5, _), (4, _), (3, _), (2, _), (0, _), (1, _)]) hx hb d_X_execute_360 hl (by decide) rfl (fun ls hl => ?_)
    refine lv_goto (tgt := 471) hx hb d_X_execute_362 (by decide) ?_
    refine lv_iload hx hb d_X_execute_471 (lv_at hl 0 rfl) ?_
    refine lv_if_ne (tgt := 484) hx hb d_X_execute_473 (by decide) (fun h12 => ?_) (fun h12 => ?_)
    · refine lv_iload hx hb d_X_execute_484 (lv_at hl 0 rfl) ?_
      refine hret _ _ _ _ _ _ hs ?_ d_X_execute_486
      exact (if_neg h1).trans ((if_neg h2).trans ((if_neg h3).trans ((if_neg h4).trans ((if_neg h5).trans ((if_neg h6).trans ((if_neg h7).trans ((if_neg h8).trans ((if_neg h9).trans ((if_neg h10).trans ((if_pos h11).trans ((if_neg h12).trans rfl)))))))))))
    · refine lv_aload_n hx hb d_X_execute_476 rfl (lv_at hl 6 rfl) ?_
      refine lv_iconst (v := 1) hx hb d_X_execute_477 (by decide) ?_
      refine x_Vi hF hs v_X_branch k_ml_X_125 (m_X_branch) rfl rfl ⟨by decide, by decide⟩ rfl rfl hl.1 (Nat.le_of_ble_eq_true rfl) rX d_X_execute_478 ⟨Nat.zero_le _, Nat.zero_le _⟩ (fun H locs hs => ?_)
      refine lv_goto (tgt := 486) hx hb d_X_execute_481 (by decide) ?_
      refine hret _ _ _ _ _ _ hs ?_ d_X_execute_486
      exact (if_neg h1).trans ((if_neg h2).trans ((if_neg h3).trans ((if_neg h4).trans ((if_neg h5).trans ((if_neg h6).trans ((if_neg h7).trans ((if_neg h8).trans ((if_neg h9).trans ((if_neg h10).trans ((if_pos h11).trans ((if_pos h12).trans rfl)))))))))))
  by_cases h12 : (n1 &&& (31 : Int32)) = (25 : Int32)
  · refine lv_tableIn (tgt := 365) (off := 325) hx hb d_X_execute_40 (by rw [h12]; decide) (by rw [h12]; decide) (by rw [h12]; rfl) (by decide) ?_
    refine lv_aload_n hx hb d_X_execute_365 rfl (lv_at hl 6 rfl) ?_
    refine lv_iload_n hx hb d_X_execute_366 rfl (lv_at hl 4 rfl) ?_
    refine lv_aload_n hx hb d_X_execute_367 rfl (lv_at hl 6 rfl) ?_
    refine xg_X hx hb hF hs 2 (by decide) k_fl_X_19 rfl d_X_execute_368 ?_
    refine lv_iload hx hb d_X_execute_371 (lv_at hl 3 rfl) ?_
    refine xr_ld hx hb hF hs (ix_and7 _) d_X_execute_373 ?_
    refine lv_iload hx hb d_X_execute_374 (lv_at hl 1 rfl) ?_
    refine x_Sip hF hs v_X_tell k_ml_X_140 (m_X_tell (in13 (ix_and7 _))) rfl rfl ⟨by decide, by decide⟩ rfl rfl hl.1 (Nat.le_of_ble_eq_true rfl) d_X_execute_376 ⟨Nat.zero_le _, Nat.zero_le _⟩ (fun H locs hs => ?_)
    refine x_Vv hF hs v_X_writeNumber k_ml_X_79 (m_X_writeNumber (ix_and7 _)) rfl rfl ⟨by decide, by decide⟩ rfl rfl hl.1 (Nat.le_of_ble_eq_true rfl) rX d_X_execute_379 ⟨Nat.zero_le _, Nat.zero_le _⟩ (fun H locs hs => ?_)
    refine lv_goto (tgt := 471) hx hb d_X_execute_382 (by decide) ?_
    refine lv_iload hx hb d_X_execute_471 (lv_at hl 0 rfl) ?_
    refine lv_if_ne (tgt := 484) hx hb d_X_execute_473 (by decide) (fun h => absurd h (by decide)) (fun _ => ?_)
    refine lv_aload_n hx hb d_X_execute_476 rfl (lv_at hl 6 rfl) ?_
    refine lv_iconst (v := 1) hx hb d_X_execute_477 (by decide) ?_
    refine x_Vi hF hs v_X_branch k_ml_X_125 (m_X_branch) rfl rfl ⟨by decide, by decide⟩ rfl rfl hl.1 (Nat.le_of_ble_eq_true rfl) rX d_X_execute_478 ⟨Nat.zero_le _, Nat.zero_le _⟩ (fun H locs hs => ?_)
    refine lv_goto (tgt := 486) hx hb d_X_execute_481 (by decide) ?_
    refine hret _ _ _ _ _ _ hs ?_ d_X_execute_486
    exact (if_neg h1).trans ((if_neg h2).trans ((if_neg h3).trans ((if_neg h4).trans ((if_neg h5).trans ((if_neg h6).trans ((if_neg h7).trans ((if_neg h8).trans ((if_neg h9).trans ((if_neg h10).trans ((if_neg h11).trans ((if_pos h12).trans rfl)))))))))))
  by_cases h13 : (n1 &&& (31 : Int32)) = (29 : Int32)
  · refine lv_tableIn (tgt := 385) (off := 345) hx hb d_X_execute_40 (by rw [h13]; decide) (by rw [h13]; decide) (by rw [h13]; rfl) (by decide) ?_
    refine lv_aload_n hx hb d_X_execute_385 rfl (lv_at hl 6 rfl) ?_
    refine lv_iload_n hx hb d_X_execute_386 rfl (lv_at hl 4 rfl) ?_
    refine lv_iload hx hb d_X_execute_387 (lv_at hl 3 rfl) ?_
    refine lv_iload hx hb d_X_execute_389 (lv_at hl 1 rfl) ?_
    refine x_Vi hF hs v_X_swap k_ml_X_144 (m_X_swap (ix_and7 _) (ix_and7 _)) rfl rfl ⟨by decide, by decide⟩ rfl rfl hl.1 (Nat.le_of_ble_eq_true rfl) rX d_X_execute_391 ⟨Nat.zero_le _, Nat.zero_le _⟩ (fun H locs hs => ?_)
    refine lv_istore (lv' := [(7, _), (6, _), (5, _), (4, _), (3, _), (2, _), (0, _), (1, _)]) hx hb d_X_execute_394 hl (by decide) rfl (fun ls hl => ?_)
    refine lv_goto (tgt := 471) hx hb d_X_execute_396 (by decide) ?_
    refine lv_iload hx hb d_X_execute_471 (lv_at hl 0 rfl) ?_
    refine lv_if_ne (tgt := 484) hx hb d_X_execute_473 (by decide) (fun h14 => ?_) (fun h14 => ?_)
    · refine lv_iload hx hb d_X_execute_484 (lv_at hl 0 rfl) ?_
      refine hret _ _ _ _ _ _ hs ?_ d_X_execute_486
      exact (if_neg h1).trans ((if_neg h2).trans ((if_neg h3).trans ((if_neg h4).trans ((if_neg h5).trans ((if_neg h6).trans ((if_neg h7).trans ((if_neg h8).trans ((if_neg h9).trans ((if_neg h10).trans ((if_neg h11).trans ((if_neg h12).trans ((if_pos h13).trans ((if_neg h14).trans rfl)))))))))))))
    · refine lv_aload_n hx hb d_X_execute_476 rfl (lv_at hl 6 rfl) ?_
      refine lv_iconst (v := 1) hx hb d_X_execute_477 (by decide) ?_
      refine x_Vi hF hs v_X_branch k_ml_X_125 (m_X_branch) rfl rfl ⟨by decide, by decide⟩ rfl rfl hl.1 (Nat.le_of_ble_eq_true rfl) rX d_X_execute_478 ⟨Nat.zero_le _, Nat.zero_le _⟩ (fun H locs hs => ?_)
      refine lv_goto (tgt := 486) hx hb d_X_execute_481 (by decide) ?_
      refine hret _ _ _ _ _ _ hs ?_ d_X_execute_486
      exact (if_neg h1).trans ((if_neg h2).trans ((if_neg h3).trans ((if_neg h4).trans ((if_neg h5).trans ((if_neg h6).trans ((if_neg h7).trans ((if_neg h8).trans ((if_neg h9).trans ((if_neg h10).trans ((if_neg h11).trans ((if_neg h12).trans ((if_pos h13).trans ((if_pos h14).trans rfl)))))))))))))
  by_cases h14 : (n1 &&& (31 : Int32)) = (30 : Int32)
  · refine lv_tableIn (tgt := 399) (off := 359) hx hb d_X_execute_40 (by rw [h14]; decide) (by rw [h14]; decide) (by rw [h14]; rfl) (by decide) ?_
    refine lv_iconst (v := 0) hx hb d_X_execute_399 (by decide) ?_
    refine lv_bipush (v := 9) hx hb d_X_execute_400 (by decide) ?_
    refine x_Sip hF hs v_X_trapOf k_ml_X_106 (m_X_trapOf) rfl rfl ⟨by decide, by decide⟩ rfl rfl hl.1 (Nat.le_of_ble_eq_true rfl) d_X_execute_402 ⟨Nat.zero_le _, Nat.zero_le _⟩ (fun H locs hs => ?_)
    refine hret _ _ _ _ _ _ hs ?_ d_X_execute_405
    exact (if_neg h1).trans ((if_neg h2).trans ((if_neg h3).trans ((if_neg h4).trans ((if_neg h5).trans ((if_neg h6).trans ((if_neg h7).trans ((if_neg h8).trans ((if_neg h9).trans ((if_neg h10).trans ((if_neg h11).trans ((if_neg h12).trans ((if_neg h13).trans ((if_pos h14).trans rfl)))))))))))))
  by_cases h15 : (n1 &&& (31 : Int32)) = (31 : Int32)
  · refine lv_tableIn (tgt := 406) (off := 366) hx hb d_X_execute_40 (by rw [h15]; decide) (by rw [h15]; decide) (by rw [h15]; rfl) (by decide) ?_
    refine lv_aload_n hx hb d_X_execute_406 rfl (lv_at hl 6 rfl) ?_
    refine x_Vi hF hs v_X_returnFromTrap k_ml_X_147 (m_X_returnFromTrap) rfl rfl ⟨by decide, by decide⟩ rfl rfl hl.1 (Nat.le_of_ble_eq_true rfl) rX d_X_execute_407 ⟨Nat.zero_le _, Nat.zero_le _⟩ (fun H locs hs => ?_)
    refine hret _ _ _ _ _ _ hs ?_ d_X_execute_410
    exact (if_neg h1).trans ((if_neg h2).trans ((if_neg h3).trans ((if_neg h4).trans ((if_neg h5).trans ((if_neg h6).trans ((if_neg h7).trans ((if_neg h8).trans ((if_neg h9).trans ((if_neg h10).trans ((if_neg h11).trans ((if_neg h12).trans ((if_neg h13).trans ((if_neg h14).trans ((if_pos h15).trans rfl))))))))))))))
  refine x_tabD (tgt := 411) hx hb [0, 11, 12, 13, 14, 15, 16, 17, 18, 23, 24, 25, 29, 30, 31] d_X_execute_40 (List.forall_mem_cons.mpr ⟨lv_neT h1 (by decide), List.forall_mem_cons.mpr ⟨lv_neT h2 (by decide), List.forall_mem_cons.mpr ⟨lv_neT h3 (by decide), List.forall_mem_cons.mpr ⟨lv_neT h4 (by decide), List.forall_mem_cons.mpr ⟨lv_neT h5 (by decide), List.forall_mem_cons.mpr ⟨lv_neT h6 (by decide), List.forall_mem_cons.mpr ⟨lv_neT h7 (by decide), List.forall_mem_cons.mpr ⟨lv_neT h8 (by decide), List.forall_mem_cons.mpr ⟨lv_neT h9 (by decide), List.forall_mem_cons.mpr ⟨lv_neT h10 (by decide), List.forall_mem_cons.mpr ⟨lv_neT h11 (by decide), List.forall_mem_cons.mpr ⟨lv_neT h12 (by decide), List.forall_mem_cons.mpr ⟨lv_neT h13 (by decide), List.forall_mem_cons.mpr ⟨lv_neT h14 (by decide), List.forall_mem_cons.mpr ⟨lv_neT h15 (by decide), fun _ z => absurd z List.not_mem_nil⟩⟩⟩⟩⟩⟩⟩⟩⟩⟩⟩⟩⟩⟩⟩) (by decide) (by decide) (by decide) ?_
  refine lv_iload_n hx hb d_X_execute_411 rfl (lv_at hl 5 rfl) ?_
  refine lv_bipush (v := 10) hx hb d_X_execute_412 (by decide) ?_
  refine lv_icmp_gt (tgt := 451) hx hb d_X_execute_414 (by decide) (fun h16 => ?_) (fun h16 => ?_)
  · refine lv_aload_n hx hb d_X_execute_451 rfl (lv_at hl 6 rfl) ?_
    refine lv_iload_n hx hb d_X_execute_452 rfl (lv_at hl 5 rfl) ?_
    refine lv_iload_n hx hb d_X_execute_453 rfl (lv_at hl 4 rfl) ?_
    refine lv_aload_n hx hb d_X_execute_454 rfl (lv_at hl 6 rfl) ?_
    refine xg_X hx hb hF hs 2 (by decide) k_fl_X_19 rfl d_X_execute_455 ?_
    refine lv_iload hx hb d_X_execute_458 (lv_at hl 3 rfl) ?_
    refine xr_ld hx hb hF hs (ix_and7 _) d_X_execute_460 ?_
    refine lv_aload_n hx hb d_X_execute_461 rfl (lv_at hl 6 rfl) ?_
    refine xg_X hx hb hF hs 2 (by decide) k_fl_X_19 rfl d_X_execute_462 ?_
    refine lv_iload hx hb d_X_execute_465 (lv_at hl 2 rfl) ?_
    refine xr_ld hx hb hF hs (ix_and7 _) d_X_execute_467 ?_
    refine x_Vv hF hs v_X_derive k_ml_X_154 (m_X_derive (in13 (ix_and7 _)) (in13 (ix_and7 _)) (ix_and7 _)) rfl rfl ⟨by decide, by decide⟩ rfl rfl hl.1 (Nat.le_of_ble_eq_true rfl) rX d_X_execute_468 ⟨Nat.zero_le _, Nat.zero_le _⟩ (fun H locs hs => ?_)
    refine lv_iload hx hb d_X_execute_471 (lv_at hl 0 rfl) ?_
    refine lv_if_ne (tgt := 484) hx hb d_X_execute_473 (by decide) (fun h => absurd h (by decide)) (fun _ => ?_)
    refine lv_aload_n hx hb d_X_execute_476 rfl (lv_at hl 6 rfl) ?_
    refine lv_iconst (v := 1) hx hb d_X_execute_477 (by decide) ?_
    refine x_Vi hF hs v_X_branch k_ml_X_125 (m_X_branch) rfl rfl ⟨by decide, by decide⟩ rfl rfl hl.1 (Nat.le_of_ble_eq_true rfl) rX d_X_execute_478 ⟨Nat.zero_le _, Nat.zero_le _⟩ (fun H locs hs => ?_)
    refine lv_goto (tgt := 486) hx hb d_X_execute_481 (by decide) ?_
    refine hret _ _ _ _ _ _ hs ?_ d_X_execute_486
    exact (if_neg h1).trans ((if_neg h2).trans ((if_neg h3).trans ((if_neg h4).trans ((if_neg h5).trans ((if_neg h6).trans ((if_neg h7).trans ((if_neg h8).trans ((if_neg h9).trans ((if_neg h10).trans ((if_neg h11).trans ((if_neg h12).trans ((if_neg h13).trans ((if_neg h14).trans ((if_neg h15).trans ((if_pos h16).trans rfl)))))))))))))))
  · refine lv_aload_n hx hb d_X_execute_417 rfl (lv_at hl 6 rfl) ?_
    refine lv_iload_n hx hb d_X_execute_418 rfl (lv_at hl 4 rfl) ?_
    refine lv_iload_n hx hb d_X_execute_419 rfl (lv_at hl 5 rfl) ?_
    refine lv_aload_n hx hb d_X_execute_420 rfl (lv_at hl 6 rfl) ?_
    refine xg_X hx hb hF hs 2 (by decide) k_fl_X_19 rfl d_X_execute_421 ?_
    refine lv_iload hx hb d_X_execute_424 (lv_at hl 3 rfl) ?_
    refine xr_ld hx hb hF hs (ix_and7 _) d_X_execute_426 ?_
    refine xg_N4 hx hb hF hs (in13 (ix_and7 _)) d_X_execute_427 ?_
    refine lv_aload_n hx hb d_X_execute_430 rfl (lv_at hl 6 rfl) ?_
    refine xg_X hx hb hF hs 2 (by decide) k_fl_X_19 rfl d_X_execute_431 ?_
    refine lv_iload hx hb d_X_execute_434 (lv_at hl 2 rfl) ?_
    refine xr_ld hx hb hF hs (ix_and7 _) d_X_execute_436 ?_
    refine xg_N4 hx hb hF hs (in13 (ix_and7 _)) d_X_execute_437 ?_
    refine lv_iload hx hb d_X_execute_440 (lv_at hl 1 rfl) ?_
    refine x_Sip hF hs v_X_compute k_ml_X_151 (m_X_compute) rfl rfl ⟨by decide, by decide⟩ rfl rfl hl.1 (Nat.le_of_ble_eq_true rfl) d_X_execute_442 ⟨Nat.zero_le _, Nat.zero_le _⟩ (fun H locs hs => ?_)
    refine x_Vv hF hs v_X_writeNumber k_ml_X_79 (m_X_writeNumber (ix_and7 _)) rfl rfl ⟨by decide, by decide⟩ rfl rfl hl.1 (Nat.le_of_ble_eq_true rfl) rX d_X_execute_445 ⟨Nat.zero_le _, Nat.zero_le _⟩ (fun H locs hs => ?_)
    refine lv_goto (tgt := 471) hx hb d_X_execute_448 (by decide) ?_
    refine lv_iload hx hb d_X_execute_471 (lv_at hl 0 rfl) ?_
    refine lv_if_ne (tgt := 484) hx hb d_X_execute_473 (by decide) (fun h => absurd h (by decide)) (fun _ => ?_)
    refine lv_aload_n hx hb d_X_execute_476 rfl (lv_at hl 6 rfl) ?_
    refine lv_iconst (v := 1) hx hb d_X_execute_477 (by decide) ?_
    refine x_Vi hF hs v_X_branch k_ml_X_125 (m_X_branch) rfl rfl ⟨by decide, by decide⟩ rfl rfl hl.1 (Nat.le_of_ble_eq_true rfl) rX d_X_execute_478 ⟨Nat.zero_le _, Nat.zero_le _⟩ (fun H locs hs => ?_)
    refine lv_goto (tgt := 486) hx hb d_X_execute_481 (by decide) ?_
    refine hret _ _ _ _ _ _ hs ?_ d_X_execute_486
    exact (if_neg h1).trans ((if_neg h2).trans ((if_neg h3).trans ((if_neg h4).trans ((if_neg h5).trans ((if_neg h6).trans ((if_neg h7).trans ((if_neg h8).trans ((if_neg h9).trans ((if_neg h10).trans ((if_neg h11).trans ((if_neg h12).trans ((if_neg h13).trans ((if_neg h14).trans ((if_neg h15).trans ((if_neg h16).trans rfl)))))))))))))))
def p_X_makeStep (σ : Mem) : Mem :=
  let σ1 : Mem := wr σ 5 2 ((σ 5 2) + (1 : Int32));
  if (p_X_check σ1 (8 : Int32) (1 : Int32) (4 : Int32) (σ1 4 8)) = (0 : Int32) then
    let r3 := p_X_execute σ1 (σ1 0 (((((σ1 4 8)).toUInt32 >>> (((2 : Int32)).toUInt32 &&& Int32.toUInt32 31)).toInt32) : Int32).toNatClampNeg);
    if r3.1 = (0 : Int32) then
      r3.2
    else
      let σ4 : Mem := p_X_enterTrap r3.2 (r3.1);
      σ4
  else
    let σ2 : Mem := p_X_enterTrap σ1 (p_X_check σ1 (8 : Int32) (1 : Int32) (4 : Int32) (σ1 4 8));
    σ2
set_option maxHeartbeats 4000000 in
set_option maxRecDepth 100000 in
theorem m_X_makeStep {l : Launch} {D : va_G} {a : Nat → Nat} {cA : Nat → ClassId} {B0 : Nat → Prop} {σ : Mem} : cV l y_X_makeStep (.code y_X_makeStep c_X_makeStep 2 (none) :: TG) (rmO 6 147) D (cwL a cA) (cty cA) B0 [.ref (a 0)] σ (p_X_makeStep σ) := by
  refine cV_of (by decide) (Nat.le_of_ble_eq_true rfl) ?_
  intro p e s m args below meth c Q ls hx hb hF hl hs hret
  have hl : lv_has ls 2 [(0, .ref (a 0))] := hl
  refine lv_aload_n hx hb d_X_makeStep_0 rfl (lv_at hl 0 rfl) ?_
  refine lv_dup hx hb d_X_makeStep_1 rfl ?_
  refine xg_X hx hb hF hs 7 (by decide) k_fl_X_35 rfl d_X_makeStep_2 ?_
  refine lv_iconst (v := 1) hx hb d_X_makeStep_5 (by decide) ?_
  refine lv_iadd hx hb d_X_makeStep_6 ?_
  refine xp_X hx hb hF hs 2 (by decide) k_fl_X_35 d_X_makeStep_7 (fun H locs hs => ?_)
  refine lv_aload_n hx hb d_X_makeStep_10 rfl (lv_at hl 0 rfl) ?_
  refine lv_bipush (v := 8) hx hb d_X_makeStep_11 (by decide) ?_
  refine lv_iconst (v := 1) hx hb d_X_makeStep_13 (by decide) ?_
  refine lv_iconst (v := 4) hx hb d_X_makeStep_14 (by decide) ?_
  refine lv_aload_n hx hb d_X_makeStep_15 rfl (lv_at hl 0 rfl) ?_
  refine xg_X hx hb hF hs 3 (by decide) k_fl_X_41 rfl d_X_makeStep_16 ?_
  refine xg_N4 hx hb hF hs lt8_13 d_X_makeStep_19 ?_
  refine x_Vip hF hs v_X_check k_ml_X_82 (m_X_check ic_8_12) rfl rfl ⟨by decide, by decide⟩ rfl rfl hl.1 (Nat.le_of_ble_eq_true rfl) rX d_X_makeStep_22 ⟨Nat.zero_le _, Nat.zero_le _⟩ (fun H locs hs => ?_)
  refine lv_istore_n (lv' := [(1, _), (0, _)]) hx hb d_X_makeStep_25 rfl hl (by decide) rfl (fun ls hl => ?_)
  refine lv_iload_n hx hb d_X_makeStep_26 rfl (lv_at hl 0 rfl) ?_
  refine lv_if_ne (tgt := 49) hx hb d_X_makeStep_27 (by decide) (fun h1 => ?_) (fun h1 => ?_)
  · refine lv_iload_n hx hb d_X_makeStep_49 rfl (lv_at hl 0 rfl) ?_
    refine lv_if_eq (tgt := 58) hx hb d_X_makeStep_50 (by decide) (fun h => absurd h h1) (fun _ => ?_)
    refine lv_aload_n hx hb d_X_makeStep_53 rfl (lv_at hl 1 rfl) ?_
    refine lv_iload_n hx hb d_X_makeStep_54 rfl (lv_at hl 0 rfl) ?_
    refine x_Vv hF hs v_X_enterTrap k_ml_X_90 (m_X_enterTrap) rfl rfl ⟨by decide, by decide⟩ rfl rfl hl.1 (Nat.le_of_ble_eq_true rfl) rX d_X_makeStep_55 ⟨Nat.zero_le _, Nat.zero_le _⟩ (fun H locs hs => ?_)
    refine hret _ _ _ _ _ hs ?_ d_X_makeStep_58
    exact (if_neg h1).trans rfl
  · refine lv_aload_n hx hb d_X_makeStep_30 rfl (lv_at hl 1 rfl) ?_
    refine lv_aload_n hx hb d_X_makeStep_31 rfl (lv_at hl 1 rfl) ?_
    refine xg_X hx hb hF hs 0 (by decide) k_fl_X_9 rfl d_X_makeStep_32 ?_
    refine lv_aload_n hx hb d_X_makeStep_35 rfl (lv_at hl 1 rfl) ?_
    refine xg_X hx hb hF hs 3 (by decide) k_fl_X_41 rfl d_X_makeStep_36 ?_
    refine xg_N4 hx hb hF hs lt8_13 d_X_makeStep_39 ?_
    refine lv_iconst (v := 2) hx hb d_X_makeStep_42 (by decide) ?_
    refine lv_iushr hx hb d_X_makeStep_43 rfl ?_
    refine xw_ld hx hb hF hs (ix_c4 h1) d_X_makeStep_44 ?_
    refine x_Vi hF hs v_X_execute k_ml_X_86 (m_X_execute) rfl rfl ⟨by decide, by decide⟩ rfl rfl hl.1 (Nat.le_of_ble_eq_true rfl) rX d_X_makeStep_45 ⟨Nat.zero_le _, Nat.zero_le _⟩ (fun H locs hs => ?_)
    refine lv_istore_n (lv' := [(1, _), (0, _)]) hx hb d_X_makeStep_48 rfl hl (by decide) rfl (fun ls hl => ?_)
    refine lv_iload_n hx hb d_X_makeStep_49 rfl (lv_at hl 0 rfl) ?_
    refine lv_if_eq (tgt := 58) hx hb d_X_makeStep_50 (by decide) (fun h2 => ?_) (fun h2 => ?_)
    · refine hret _ _ _ _ _ hs ?_ d_X_makeStep_58
      exact (if_pos h1).trans ((if_pos h2).trans rfl)
    · refine lv_aload_n hx hb d_X_makeStep_53 rfl (lv_at hl 1 rfl) ?_
      refine lv_iload_n hx hb d_X_makeStep_54 rfl (lv_at hl 0 rfl) ?_
      refine x_Vv hF hs v_X_enterTrap k_ml_X_90 (m_X_enterTrap) rfl rfl ⟨by decide, by decide⟩ rfl rfl hl.1 (Nat.le_of_ble_eq_true rfl) rX d_X_makeStep_55 ⟨Nat.zero_le _, Nat.zero_le _⟩ (fun H locs hs => ?_)
      refine hret _ _ _ _ _ hs ?_ d_X_makeStep_58
      exact (if_pos h1).trans ((if_neg h2).trans rfl)
end
section
def rL_X (n1 : Int32) : Nat → Int32 → Mem → Int32 × Mem
  | 0, d, τ => (d, τ)
  | n + 1, d, τ => if n1 ≤ d then (d, τ) else if (τ 5 0) = (0 : Int32) then rL_X n1 n (d + 1) (p_X_makeStep τ) else (d, τ)
theorem run_up {n1 : Int32} {N k n : Nat} (hN : n1 = nI N ∧ N ≤ 100) (hk : k ≤ N ∧ N < k + (n + 1)) (h : ¬ n1 ≤ nI k) : k + 1 ≤ N ∧ N < k + 1 + n := by
  have : ¬ N ≤ k := fun z => h (by rw [hN.1]; exact nI_le z (by omega))
  omega
theorem run_of {n1 : Int32} (h1 : ¬ n1 < 0) (h2 : n1 ≤ 100) : ∃ N, n1 = nI N ∧ N ≤ 100 := by
  obtain ⟨j, hj, e⟩ := nI_of2 (M := 100) (n := 100) (by decide) h1 h2
  exact ⟨j, e, hj⟩
def p_X_run (σ : Mem) (n1 : Int32) : Int32 × Mem :=
  if n1 < (0 : Int32) then ((-1 : Int32), σ) else if n1 ≤ (100 : Int32) then rL_X n1 101 0 σ else ((-1 : Int32), σ)
set_option maxHeartbeats 4000000 in
set_option maxRecDepth 100000 in
theorem m_X_run {l : Launch} {D : va_G} {a : Nat → Nat} {cA : Nat → ClassId} {B0 : Nat → Prop} {σ : Mem} {n1 : Int32} : cI l y_X_run (.code y_X_run c_X_run 3 (some FieldType.int) :: TG) (rmO 7 168) D (cwL a cA) (cty cA) B0 [.ref (a 0), .int n1] σ (p_X_run σ n1) := by
  refine cI_of (by decide) (Nat.le_of_ble_eq_true rfl) ?_
  intro p e s m args below meth c Q ls hx hb hF hl hs hret
  have hl : lv_has ls 3 [(0, .ref (a 0)), (1, .int n1)] := hl
  have J : ∀ (N : Nat), (n1 = nI N ∧ N ≤ 100) → p_X_run σ n1 = rL_X n1 101 0 σ → ∀ (n k : Nat) (τ : Mem), (k ≤ N ∧ N < k + n) → rL_X n1 n (nI k) τ = rL_X n1 101 0 σ → ∀ (H : Heap) (locs : List Loc) (ls : Array Slot), sS D (cwL a cA) B0 s τ H locs → lv_has ls 3 [(2, .int (nI k)), (0, .ref (a 0)), (1, .int n1)] → W p l e (rmO 7 168) s m args below meth c H locs 0 0 Q (F0 m 14 ls []) := by
    intro N hN hp
    have fin : ∀ (x : Int32) (τ : Mem) (H : Heap) (locs : List Loc) (ls : Array Slot), rL_X n1 101 0 σ = (x, τ) → sS D (cwL a cA) B0 s τ H locs → lv_has ls 3 [(2, .int x), (0, .ref (a 0)), (1, .int n1)] → W p l e (rmO 7 168) s m args below meth c H locs 0 0 Q (F0 m 36 ls []) := by
      intro x τ H locs ls he hs hl
      refine lv_iload_n hx hb d_X_run_36 rfl (lv_at hl 0 rfl) ?_
      refine hret _ _ _ _ _ _ hs ?_ d_X_run_37
      exact hp.trans he
    intro n
    induction n with
    | zero => intro k τ hk; omega
    | succ n ih =>
      intro k τ hk he H locs ls hs hl
      refine lv_iload_n hx hb d_X_run_14 rfl (lv_at hl 0 rfl) ?_
      refine lv_iload_n hx hb d_X_run_15 rfl (lv_at hl 2 rfl) ?_
      refine lv_icmp_ge (tgt := 36) hx hb d_X_run_16 (by decide) (fun h1 => ?_) (fun h1 => ?_)
      · exact fin _ _ _ _ _ (he.symm.trans ((if_pos h1).trans rfl)) hs hl
      · refine lv_aload_n hx hb d_X_run_19 rfl (lv_at hl 1 rfl) ?_
        refine xg_X hx hb hF hs 5 (by decide) k_fl_X_28 rfl d_X_run_20 ?_
        refine lv_if_ne (tgt := 36) hx hb d_X_run_23 (by decide) (fun h2 => ?_) (fun h2 => ?_)
        · exact fin _ _ _ _ _ (he.symm.trans ((if_neg h1).trans ((if_neg h2).trans rfl))) hs hl
        · refine lv_aload_n hx hb d_X_run_26 rfl (lv_at hl 1 rfl) ?_
          refine x_Vv hF hs v_X_makeStep k_ml_X_56 (m_X_makeStep) rfl rfl ⟨by decide, by decide⟩ rfl rfl hl.1 (Nat.le_of_ble_eq_true rfl) rX d_X_run_27 ⟨Nat.zero_le _, Nat.zero_le _⟩ (fun H locs hs => ?_)
          refine lv_iinc (k := 0) (v := (nI (k + 1))) (lv' := [(2, _), (0, _), (1, _)]) hx hb d_X_run_30 hl rfl (by rw [nI_succ]; rfl) (by decide) rfl (fun ls hl => ?_)
          refine lv_goto (tgt := 14) hx hb d_X_run_33 (by decide) ?_
          exact ih (k + 1) _ (run_up hN hk h1) (by rw [nI_succ]; exact (Eq.symm ((if_neg h1).trans ((if_pos h2).trans rfl))).trans he) _ _ _ hs hl
  refine lv_iload_n hx hb d_X_run_0 rfl (lv_at hl 1 rfl) ?_
  refine lv_if_lt (tgt := 10) hx hb d_X_run_1 (by decide) (fun h1 => ?_) (fun h1 => ?_)
  · refine lv_iconst (v := (-1)) hx hb d_X_run_10 (by decide) ?_
    refine hret _ _ _ _ _ _ hs ?_ d_X_run_11
    exact (if_pos h1).trans rfl
  · refine lv_iload_n hx hb d_X_run_4 rfl (lv_at hl 1 rfl) ?_
    refine lv_bipush (v := 100) hx hb d_X_run_5 (by decide) ?_
    refine lv_icmp_le (tgt := 12) hx hb d_X_run_7 (by decide) (fun h2 => ?_) (fun h2 => ?_)
    · refine lv_iconst (v := 0) hx hb d_X_run_12 (by decide) ?_
      refine lv_istore_n (lv' := [(2, _), (0, _), (1, _)]) hx hb d_X_run_13 rfl hl (by decide) rfl (fun ls hl => ?_)
      obtain ⟨N, hN⟩ := run_of h1 h2
      exact J N hN ((if_neg h1).trans ((if_pos h2).trans rfl)) 101 0 σ ⟨Nat.zero_le _, by omega⟩ rfl _ _ _ hs hl
    · refine lv_iconst (v := (-1)) hx hb d_X_run_10 (by decide) ?_
      refine hret _ _ _ _ _ _ hs ?_ d_X_run_11
      exact (if_neg h1).trans ((if_neg h2).trans rfl)
end
section
def p_X_poke (σ : Mem) (n1 : Int32) (n2 : Int32) : Int32 × Mem :=
  if (p_X_isWord n1) = (0 : Int32) then
    ((0 : Int32), σ)
  else
    let σ1 : Mem := p_X_writeWord σ n1 n2;
    ((1 : Int32), σ1)
set_option maxHeartbeats 4000000 in
set_option maxRecDepth 100000 in
theorem m_X_poke {l : Launch} {D : va_G} {a : Nat → Nat} {cA : Nat → ClassId} {B0 : Nat → Prop} {σ : Mem} {n1 : Int32} {n2 : Int32} : cI l y_X_poke (.code y_X_poke c_X_poke 3 (some FieldType.boolean) :: TG) (rmO 1 22) D (cwL a cA) (cty cA) B0 [.ref (a 0), .int n1, .int n2] σ (p_X_poke σ n1 n2) := by
  refine cZ_of (by decide) (Nat.le_of_ble_eq_true rfl) ?_
  intro p e s m args below meth c Q ls hx hb hF hl hs hret
  have hl : lv_has ls 3 [(0, .ref (a 0)), (1, .int n1), (2, .int n2)] := hl
  refine lv_iload_n hx hb d_X_poke_0 rfl (lv_at hl 1 rfl) ?_
  refine x_Sip hF hs v_X_isWord k_ml_X_48 (m_X_isWord) rfl rfl ⟨by decide, by decide⟩ rfl rfl hl.1 (Nat.le_of_ble_eq_true rfl) d_X_poke_1 ⟨Nat.zero_le _, Nat.zero_le _⟩ (fun H locs hs => ?_)
  refine lv_if_ne (tgt := 9) hx hb d_X_poke_4 (by decide) (fun h1 => ?_) (fun h1 => ?_)
  · refine lv_aload_n hx hb d_X_poke_9 rfl (lv_at hl 0 rfl) ?_
    refine lv_iload_n hx hb d_X_poke_10 rfl (lv_at hl 1 rfl) ?_
    refine lv_iload_n hx hb d_X_poke_11 rfl (lv_at hl 2 rfl) ?_
    refine x_Vv hF hs v_X_writeWord k_ml_X_52 (m_X_writeWord (ix_word h1)) rfl rfl ⟨by decide, by decide⟩ rfl rfl hl.1 (Nat.le_of_ble_eq_true rfl) rX d_X_poke_12 ⟨Nat.zero_le _, Nat.zero_le _⟩ (fun H locs hs => ?_)
    refine lv_iconst (v := 1) hx hb d_X_poke_15 (by decide) ?_
    refine hret _ _ _ _ _ _ hs bo_1 ?_ d_X_poke_16
    exact (if_neg h1).trans rfl
  · refine lv_iconst (v := 0) hx hb d_X_poke_7 (by decide) ?_
    refine hret _ _ _ _ _ _ hs bo_0 ?_ d_X_poke_8
    exact (if_pos h1).trans rfl
def p_X_peek (σ : Mem) (n1 : Int32) : Int32 :=
  if (p_X_isWord n1) = (0 : Int32) then
    (0 : Int32)
  else
    (σ 0 (n1 : Int32).toNatClampNeg)
set_option maxHeartbeats 4000000 in
set_option maxRecDepth 100000 in
theorem m_X_peek {l : Launch} {D : va_G} {a : Nat → Nat} {cA : Nat → ClassId} {B0 : Nat → Prop} {σ : Mem} {n1 : Int32} : cI l y_X_peek (.code y_X_peek c_X_peek 2 (some FieldType.int) :: TG) (rmO 1 20) D (cwL a cA) (cty cA) B0 [.ref (a 0), .int n1] σ (p_X_peek σ n1, σ) := by
  refine cI_of (by decide) (Nat.le_of_ble_eq_true rfl) ?_
  intro p e s m args below meth c Q ls hx hb hF hl hs hret
  have hl : lv_has ls 2 [(0, .ref (a 0)), (1, .int n1)] := hl
  refine lv_iload_n hx hb d_X_peek_0 rfl (lv_at hl 1 rfl) ?_
  refine x_Sip hF hs v_X_isWord k_ml_X_48 (m_X_isWord) rfl rfl ⟨by decide, by decide⟩ rfl rfl hl.1 (Nat.le_of_ble_eq_true rfl) d_X_peek_1 ⟨Nat.zero_le _, Nat.zero_le _⟩ (fun H locs hs => ?_)
  refine lv_if_eq (tgt := 16) hx hb d_X_peek_4 (by decide) (fun h1 => ?_) (fun h1 => ?_)
  · refine lv_iconst (v := 0) hx hb d_X_peek_16 (by decide) ?_
    refine hret _ _ _ _ _ _ hs ?_ d_X_peek_17
    exact pr_eq ((if_pos h1).trans rfl)
  · refine lv_aload_n hx hb d_X_peek_7 rfl (lv_at hl 0 rfl) ?_
    refine xg_X hx hb hF hs 0 (by decide) k_fl_X_9 rfl d_X_peek_8 ?_
    refine lv_iload_n hx hb d_X_peek_11 rfl (lv_at hl 1 rfl) ?_
    refine xw_ld hx hb hF hs (ix_word h1) d_X_peek_12 ?_
    refine lv_goto (tgt := 17) hx hb d_X_peek_13 (by decide) ?_
    refine hret _ _ _ _ _ _ hs ?_ d_X_peek_17
    exact pr_eq ((if_neg h1).trans rfl)
def p_X_tagged (σ : Mem) (n1 : Int32) : Int32 :=
  if n1 < (0 : Int32) then
    (0 : Int32)
  else
    if (128 : Int32) ≤ n1 then
      (0 : Int32)
    else
      if (bo (σ 1 (n1 : Int32).toNatClampNeg)) = (0 : Int32) then
        (0 : Int32)
      else
        (1 : Int32)
set_option maxHeartbeats 4000000 in
set_option maxRecDepth 100000 in
theorem m_X_tagged {l : Launch} {D : va_G} {a : Nat → Nat} {cA : Nat → ClassId} {B0 : Nat → Prop} {σ : Mem} {n1 : Int32} : cI l y_X_tagged (.code y_X_tagged c_X_tagged 2 (some FieldType.boolean) :: TG) (rmO 0 0) D (cwL a cA) (cty cA) B0 [.ref (a 0), .int n1] σ (p_X_tagged σ n1, σ) := by
  refine cZ_of (by decide) (Nat.le_of_ble_eq_true rfl) ?_
  intro p e s m args below meth c Q ls hx hb hF hl hs hret
  have hl : lv_has ls 2 [(0, .ref (a 0)), (1, .int n1)] := hl
  refine lv_iload_n hx hb d_X_tagged_0 rfl (lv_at hl 1 rfl) ?_
  refine lv_if_lt (tgt := 24) hx hb d_X_tagged_1 (by decide) (fun h1 => ?_) (fun h1 => ?_)
  · refine lv_iconst (v := 0) hx hb d_X_tagged_24 (by decide) ?_
    refine hret _ _ _ _ _ _ hs bo_0 ?_ d_X_tagged_25
    exact pr_eq ((if_pos h1).trans rfl)
  · refine lv_iload_n hx hb d_X_tagged_4 rfl (lv_at hl 1 rfl) ?_
    refine lv_sipush (v := 128) hx hb d_X_tagged_5 (by decide) ?_
    refine lv_icmp_ge (tgt := 24) hx hb d_X_tagged_8 (by decide) (fun h2 => ?_) (fun h2 => ?_)
    · refine lv_iconst (v := 0) hx hb d_X_tagged_24 (by decide) ?_
      refine hret _ _ _ _ _ _ hs bo_0 ?_ d_X_tagged_25
      exact pr_eq ((if_neg h1).trans ((if_pos h2).trans rfl))
    · refine lv_aload_n hx hb d_X_tagged_11 rfl (lv_at hl 0 rfl) ?_
      refine xg_X hx hb hF hs 1 (by decide) k_fl_X_13 rfl d_X_tagged_12 ?_
      refine lv_iload_n hx hb d_X_tagged_15 rfl (lv_at hl 1 rfl) ?_
      refine xt_ld hx hb hF hs (ix_lt128 h1 h2) d_X_tagged_16 ?_
      refine lv_if_eq (tgt := 24) hx hb d_X_tagged_17 (by decide) (fun h3 => ?_) (fun h3 => ?_)
      · refine lv_iconst (v := 0) hx hb d_X_tagged_24 (by decide) ?_
        refine hret _ _ _ _ _ _ hs bo_0 ?_ d_X_tagged_25
        exact pr_eq ((if_neg h1).trans ((if_neg h2).trans ((if_pos h3).trans rfl)))
      · refine lv_iconst (v := 1) hx hb d_X_tagged_20 (by decide) ?_
        refine lv_goto (tgt := 25) hx hb d_X_tagged_21 (by decide) ?_
        refine hret _ _ _ _ _ _ hs bo_1 ?_ d_X_tagged_25
        exact pr_eq ((if_neg h1).trans ((if_neg h2).trans ((if_neg h3).trans rfl)))
def p_X_state (σ : Mem) : Int32 :=
  (σ 5 0)
set_option maxHeartbeats 4000000 in
set_option maxRecDepth 100000 in
theorem m_X_state {l : Launch} {D : va_G} {a : Nat → Nat} {cA : Nat → ClassId} {B0 : Nat → Prop} {σ : Mem} : cI l y_X_state (.code y_X_state c_X_state 1 (some FieldType.int) :: TG) (rmO 0 0) D (cwL a cA) (cty cA) B0 [.ref (a 0)] σ (p_X_state σ, σ) := by
  refine cI_of (by decide) (Nat.le_of_ble_eq_true rfl) ?_
  intro p e s m args below meth c Q ls hx hb hF hl hs hret
  have hl : lv_has ls 1 [(0, .ref (a 0))] := hl
  refine lv_aload_n hx hb d_X_state_0 rfl (lv_at hl 0 rfl) ?_
  refine xg_X hx hb hF hs 5 (by decide) k_fl_X_28 rfl d_X_state_1 ?_
  refine hret _ _ _ _ _ _ hs ?_ d_X_state_4
  exact pr_eq (rfl)
def p_X_wake (σ : Mem) (n1 : Int32) : Int32 × Mem :=
  if (σ 5 0) = (0 : Int32) then
    ((0 : Int32), σ)
  else
    if (p_X_isWord n1) = (0 : Int32) then
      ((0 : Int32), σ)
    else
      let σ1 : Mem := wr σ 5 0 (0 : Int32);
      let σ2 : Mem := p_K_becomeRoot σ1 8 ((4 : Int32) * (n1 : Int32));
      ((1 : Int32), σ2)
set_option maxHeartbeats 4000000 in
set_option maxRecDepth 100000 in
theorem m_X_wake {l : Launch} {D : va_G} {a : Nat → Nat} {cA : Nat → ClassId} {B0 : Nat → Prop} {σ : Mem} {n1 : Int32} : cI l y_X_wake (.code y_X_wake c_X_wake 2 (some FieldType.boolean) :: TG) (rmO 3 70) D (cwL a cA) (cty cA) B0 [.ref (a 0), .int n1] σ (p_X_wake σ n1) := by
  refine cZ_of (by decide) (Nat.le_of_ble_eq_true rfl) ?_
  intro p e s m args below meth c Q ls hx hb hF hl hs hret
  have hl : lv_has ls 2 [(0, .ref (a 0)), (1, .int n1)] := hl
  refine lv_aload_n hx hb d_X_wake_0 rfl (lv_at hl 0 rfl) ?_
  refine xg_X hx hb hF hs 5 (by decide) k_fl_X_28 rfl d_X_wake_1 ?_
  refine lv_if_eq (tgt := 14) hx hb d_X_wake_4 (by decide) (fun h1 => ?_) (fun h1 => ?_)
  · refine lv_iconst (v := 0) hx hb d_X_wake_14 (by decide) ?_
    refine hret _ _ _ _ _ _ hs bo_0 ?_ d_X_wake_15
    exact (if_pos h1).trans rfl
  · refine lv_iload_n hx hb d_X_wake_7 rfl (lv_at hl 1 rfl) ?_
    refine x_Sip hF hs v_X_isWord k_ml_X_48 (m_X_isWord) rfl rfl ⟨by decide, by decide⟩ rfl rfl hl.1 (Nat.le_of_ble_eq_true rfl) d_X_wake_8 ⟨Nat.zero_le _, Nat.zero_le _⟩ (fun H locs hs => ?_)
    refine lv_if_ne (tgt := 16) hx hb d_X_wake_11 (by decide) (fun h2 => ?_) (fun h2 => ?_)
    · refine lv_aload_n hx hb d_X_wake_16 rfl (lv_at hl 0 rfl) ?_
      refine lv_iconst (v := 0) hx hb d_X_wake_17 (by decide) ?_
      refine xp_X hx hb hF hs 0 (by decide) k_fl_X_28 d_X_wake_18 (fun H locs hs => ?_)
      refine lv_aload_n hx hb d_X_wake_21 rfl (lv_at hl 0 rfl) ?_
      refine xg_X hx hb hF hs 3 (by decide) k_fl_X_41 rfl d_X_wake_22 ?_
      refine lv_iconst (v := 4) hx hb d_X_wake_25 (by decide) ?_
      refine lv_iload_n hx hb d_X_wake_26 rfl (lv_at hl 1 rfl) ?_
      refine lv_imul hx hb d_X_wake_27 ?_
      refine x_Vv hF hs v_K_becomeRoot k_ml_X_44 (m_K_becomeRoot lt8_13) rfl rfl ⟨by decide, by decide⟩ rfl rfl hl.1 (Nat.le_of_ble_eq_true rfl) (rK lt8_13) d_X_wake_28 ⟨Nat.zero_le _, Nat.zero_le _⟩ (fun H locs hs => ?_)
      refine lv_iconst (v := 1) hx hb d_X_wake_31 (by decide) ?_
      refine hret _ _ _ _ _ _ hs bo_1 ?_ d_X_wake_32
      exact (if_neg h1).trans ((if_neg h2).trans rfl)
    · refine lv_iconst (v := 0) hx hb d_X_wake_14 (by decide) ?_
      refine hret _ _ _ _ _ _ hs bo_0 ?_ d_X_wake_15
      exact (if_neg h1).trans ((if_pos h2).trans rfl)
def p_X_cause (σ : Mem) : Int32 :=
  (σ 5 1)
set_option maxHeartbeats 4000000 in
set_option maxRecDepth 100000 in
theorem m_X_cause {l : Launch} {D : va_G} {a : Nat → Nat} {cA : Nat → ClassId} {B0 : Nat → Prop} {σ : Mem} : cI l y_X_cause (.code y_X_cause c_X_cause 1 (some FieldType.int) :: TG) (rmO 0 0) D (cwL a cA) (cty cA) B0 [.ref (a 0)] σ (p_X_cause σ, σ) := by
  refine cI_of (by decide) (Nat.le_of_ble_eq_true rfl) ?_
  intro p e s m args below meth c Q ls hx hb hF hl hs hret
  have hl : lv_has ls 1 [(0, .ref (a 0))] := hl
  refine lv_aload_n hx hb d_X_cause_0 rfl (lv_at hl 0 rfl) ?_
  refine xg_X hx hb hF hs 6 (by decide) k_fl_X_32 rfl d_X_cause_1 ?_
  refine hret _ _ _ _ _ _ hs ?_ d_X_cause_4
  exact pr_eq (rfl)
def p_X_steps (σ : Mem) : Int32 :=
  (σ 5 2)
set_option maxHeartbeats 4000000 in
set_option maxRecDepth 100000 in
theorem m_X_steps {l : Launch} {D : va_G} {a : Nat → Nat} {cA : Nat → ClassId} {B0 : Nat → Prop} {σ : Mem} : cI l y_X_steps (.code y_X_steps c_X_steps 1 (some FieldType.int) :: TG) (rmO 0 0) D (cwL a cA) (cty cA) B0 [.ref (a 0)] σ (p_X_steps σ, σ) := by
  refine cI_of (by decide) (Nat.le_of_ble_eq_true rfl) ?_
  intro p e s m args below meth c Q ls hx hb hF hl hs hret
  have hl : lv_has ls 1 [(0, .ref (a 0))] := hl
  refine lv_aload_n hx hb d_X_steps_0 rfl (lv_at hl 0 rfl) ?_
  refine xg_X hx hb hF hs 7 (by decide) k_fl_X_35 rfl d_X_steps_1 ?_
  refine hret _ _ _ _ _ _ hs ?_ d_X_steps_4
  exact pr_eq (rfl)
def p_X_traps (σ : Mem) : Int32 :=
  (σ 5 3)
set_option maxHeartbeats 4000000 in
set_option maxRecDepth 100000 in
theorem m_X_traps {l : Launch} {D : va_G} {a : Nat → Nat} {cA : Nat → ClassId} {B0 : Nat → Prop} {σ : Mem} : cI l y_X_traps (.code y_X_traps c_X_traps 1 (some FieldType.int) :: TG) (rmO 0 0) D (cwL a cA) (cty cA) B0 [.ref (a 0)] σ (p_X_traps σ, σ) := by
  refine cI_of (by decide) (Nat.le_of_ble_eq_true rfl) ?_
  intro p e s m args below meth c Q ls hx hb hF hl hs hret
  have hl : lv_has ls 1 [(0, .ref (a 0))] := hl
  refine lv_aload_n hx hb d_X_traps_0 rfl (lv_at hl 0 rfl) ?_
  refine xg_X hx hb hF hs 8 (by decide) k_fl_X_38 rfl d_X_traps_1 ?_
  refine hret _ _ _ _ _ _ hs ?_ d_X_traps_4
  exact pr_eq (rfl)
def p_X_register (σ : Mem) (n1 : Int32) (n2 : Int32) : Int32 :=
  if (p_X_isRegister n1) = (0 : Int32) then
    ((-1) : Int32)
  else
    if n2 = (0 : Int32) then
      (σ 4 (n1.toNatClampNeg))
    else
    if n2 = (1 : Int32) then
      (σ 3 (n1.toNatClampNeg))
    else
    if n2 = (2 : Int32) then
      if (bo (σ 2 (n1.toNatClampNeg))) = (0 : Int32) then
        (0 : Int32)
      else
        (1 : Int32)
    else
      ((-1) : Int32)
set_option maxHeartbeats 4000000 in
set_option maxRecDepth 100000 in
theorem m_X_register {l : Launch} {D : va_G} {a : Nat → Nat} {cA : Nat → ClassId} {B0 : Nat → Prop} {σ : Mem} {n1 : Int32} {n2 : Int32} : cI l y_X_register (.code y_X_register c_X_register 3 (some FieldType.int) :: TG) (rmO 1 20) D (cwL a cA) (cty cA) B0 [.ref (a 0), .int n1, .int n2] σ (p_X_register σ n1 n2, σ) := by
  refine cI_of (by decide) (Nat.le_of_ble_eq_true rfl) ?_
  intro p e s m args below meth c Q ls hx hb hF hl hs hret
  have hl : lv_has ls 3 [(0, .ref (a 0)), (1, .int n1), (2, .int n2)] := hl
  refine lv_iload_n hx hb d_X_register_0 rfl (lv_at hl 1 rfl) ?_
  refine x_Sip hF hs v_X_isRegister k_ml_X_59 (m_X_isRegister) rfl rfl ⟨by decide, by decide⟩ rfl rfl hl.1 (Nat.le_of_ble_eq_true rfl) d_X_register_1 ⟨Nat.zero_le _, Nat.zero_le _⟩ (fun H locs hs => ?_)
  refine lv_if_ne (tgt := 9) hx hb d_X_register_4 (by decide) (fun h1 => ?_) (fun h1 => ?_)
  · refine lv_iload_n hx hb d_X_register_9 rfl (lv_at hl 2 rfl) ?_
    by_cases h2 : n2 = (0 : Int32)
    · refine lv_tableIn (tgt := 36) (off := 26) hx hb d_X_register_10 (by rw [h2]; decide) (by rw [h2]; decide) (by rw [h2]; rfl) (by decide) ?_
      refine lv_aload_n hx hb d_X_register_36 rfl (lv_at hl 0 rfl) ?_
      refine xg_X hx hb hF hs 2 (by decide) k_fl_X_19 rfl d_X_register_37 ?_
      refine lv_iload_n hx hb d_X_register_40 rfl (lv_at hl 1 rfl) ?_
      refine xr_ld hx hb hF hs (ix_reg h1) d_X_register_41 ?_
      refine xg_N4 hx hb hF hs (in13 (ix_reg h1)) d_X_register_42 ?_
      refine hret _ _ _ _ _ _ hs ?_ d_X_register_45
      exact pr_eq ((if_neg h1).trans ((if_pos h2).trans rfl))
    by_cases h3 : n2 = (1 : Int32)
    · refine lv_tableIn (tgt := 46) (off := 36) hx hb d_X_register_10 (by rw [h3]; decide) (by rw [h3]; decide) (by rw [h3]; rfl) (by decide) ?_
      refine lv_aload_n hx hb d_X_register_46 rfl (lv_at hl 0 rfl) ?_
      refine xg_X hx hb hF hs 2 (by decide) k_fl_X_19 rfl d_X_register_47 ?_
      refine lv_iload_n hx hb d_X_register_50 rfl (lv_at hl 1 rfl) ?_
      refine xr_ld hx hb hF hs (ix_reg h1) d_X_register_51 ?_
      refine xg_N3 hx hb hF hs (in13 (ix_reg h1)) d_X_register_52 ?_
      refine hret _ _ _ _ _ _ hs ?_ d_X_register_55
      exact pr_eq ((if_neg h1).trans ((if_neg h2).trans ((if_pos h3).trans rfl)))
    by_cases h4 : n2 = (2 : Int32)
    · refine lv_tableIn (tgt := 56) (off := 46) hx hb d_X_register_10 (by rw [h4]; decide) (by rw [h4]; decide) (by rw [h4]; rfl) (by decide) ?_
      refine lv_aload_n hx hb d_X_register_56 rfl (lv_at hl 0 rfl) ?_
      refine xg_X hx hb hF hs 2 (by decide) k_fl_X_19 rfl d_X_register_57 ?_
      refine lv_iload_n hx hb d_X_register_60 rfl (lv_at hl 1 rfl) ?_
      refine xr_ld hx hb hF hs (ix_reg h1) d_X_register_61 ?_
      refine xg_N2 hx hb hF hs (in13 (ix_reg h1)) d_X_register_62 ?_
      refine lv_if_eq (tgt := 72) hx hb d_X_register_65 (by decide) (fun h5 => ?_) (fun h5 => ?_)
      · refine lv_iconst (v := 0) hx hb d_X_register_72 (by decide) ?_
        refine hret _ _ _ _ _ _ hs ?_ d_X_register_73
        exact pr_eq ((if_neg h1).trans ((if_neg h2).trans ((if_neg h3).trans ((if_pos h4).trans ((if_pos h5).trans rfl)))))
      · refine lv_iconst (v := 1) hx hb d_X_register_68 (by decide) ?_
        refine lv_goto (tgt := 73) hx hb d_X_register_69 (by decide) ?_
        refine hret _ _ _ _ _ _ hs ?_ d_X_register_73
        exact pr_eq ((if_neg h1).trans ((if_neg h2).trans ((if_neg h3).trans ((if_pos h4).trans ((if_neg h5).trans rfl)))))
    refine x_tabD (tgt := 74) hx hb [0, 1, 2] d_X_register_10 (List.forall_mem_cons.mpr ⟨lv_neT h2 (by decide), List.forall_mem_cons.mpr ⟨lv_neT h3 (by decide), List.forall_mem_cons.mpr ⟨lv_neT h4 (by decide), fun _ z => absurd z List.not_mem_nil⟩⟩⟩) (by decide) (by decide) (by decide) ?_
    refine lv_iconst (v := (-1)) hx hb d_X_register_74 (by decide) ?_
    refine hret _ _ _ _ _ _ hs ?_ d_X_register_75
    exact pr_eq ((if_neg h1).trans ((if_neg h2).trans ((if_neg h3).trans ((if_neg h4).trans rfl))))
  · refine lv_iconst (v := (-1)) hx hb d_X_register_7 (by decide) ?_
    refine hret _ _ _ _ _ _ hs ?_ d_X_register_8
    exact pr_eq ((if_pos h1).trans rfl)
def p_X_base (σ : Mem) (n1 : Int32) : Int64 :=
  if (p_X_isRegister n1) = (0 : Int32) then
    (0 : Int64)
  else
    (p_K_lowerBound σ (n1.toNatClampNeg))
set_option maxHeartbeats 4000000 in
set_option maxRecDepth 100000 in
theorem m_X_base {l : Launch} {D : va_G} {a : Nat → Nat} {cA : Nat → ClassId} {B0 : Nat → Prop} {σ : Mem} {n1 : Int32} : cL l y_X_base (.code y_X_base c_X_base 2 (some FieldType.long) :: TG) (rmO 1 26) D (cwL a cA) (cty cA) B0 [.ref (a 0), .int n1] σ (p_X_base σ n1, σ) := by
  refine cL_of (by decide) (Nat.le_of_ble_eq_true rfl) ?_
  intro p e s m args below meth c Q ls hx hb hF hl hs hret
  have hl : lv_has ls 2 [(0, .ref (a 0)), (1, .int n1)] := hl
  refine lv_iload_n hx hb d_X_base_0 rfl (lv_at hl 1 rfl) ?_
  refine x_Sip hF hs v_X_isRegister k_ml_X_59 (m_X_isRegister) rfl rfl ⟨by decide, by decide⟩ rfl rfl hl.1 (Nat.le_of_ble_eq_true rfl) d_X_base_1 ⟨Nat.zero_le _, Nat.zero_le _⟩ (fun H locs hs => ?_)
  refine lv_if_eq (tgt := 19) hx hb d_X_base_4 (by decide) (fun h1 => ?_) (fun h1 => ?_)
  · refine lv_lconst (v := 0) hx hb d_X_base_19 (by decide) ?_
    refine hret _ _ _ _ _ _ hs ?_ d_X_base_20
    exact pr_eq ((if_pos h1).trans rfl)
  · refine lv_aload_n hx hb d_X_base_7 rfl (lv_at hl 0 rfl) ?_
    refine xg_X hx hb hF hs 2 (by decide) k_fl_X_19 rfl d_X_base_8 ?_
    refine lv_iload_n hx hb d_X_base_11 rfl (lv_at hl 1 rfl) ?_
    refine xr_ld hx hb hF hs (ix_reg h1) d_X_base_12 ?_
    refine x_Vlp hF hs v_K_lowerBound k_ml_X_72 (m_K_lowerBound (in13 (ix_reg h1))) rfl rfl ⟨by decide, by decide⟩ rfl rfl hl.1 (Nat.le_of_ble_eq_true rfl) (rK (in13 (ix_reg h1))) d_X_base_13 ⟨Nat.zero_le _, Nat.zero_le _⟩ (fun H locs hs => ?_)
    refine lv_goto (tgt := 20) hx hb d_X_base_16 (by decide) ?_
    refine hret _ _ _ _ _ _ hs ?_ d_X_base_20
    exact pr_eq ((if_neg h1).trans rfl)
def p_X_top (σ : Mem) (n1 : Int32) : Int64 :=
  if (p_X_isRegister n1) = (0 : Int32) then
    (0 : Int64)
  else
    (p_K_upperBound σ (n1.toNatClampNeg))
set_option maxHeartbeats 4000000 in
set_option maxRecDepth 100000 in
theorem m_X_top {l : Launch} {D : va_G} {a : Nat → Nat} {cA : Nat → ClassId} {B0 : Nat → Prop} {σ : Mem} {n1 : Int32} : cL l y_X_top (.code y_X_top c_X_top 2 (some FieldType.long) :: TG) (rmO 2 51) D (cwL a cA) (cty cA) B0 [.ref (a 0), .int n1] σ (p_X_top σ n1, σ) := by
  refine cL_of (by decide) (Nat.le_of_ble_eq_true rfl) ?_
  intro p e s m args below meth c Q ls hx hb hF hl hs hret
  have hl : lv_has ls 2 [(0, .ref (a 0)), (1, .int n1)] := hl
  refine lv_iload_n hx hb d_X_top_0 rfl (lv_at hl 1 rfl) ?_
  refine x_Sip hF hs v_X_isRegister k_ml_X_59 (m_X_isRegister) rfl rfl ⟨by decide, by decide⟩ rfl rfl hl.1 (Nat.le_of_ble_eq_true rfl) d_X_top_1 ⟨Nat.zero_le _, Nat.zero_le _⟩ (fun H locs hs => ?_)
  refine lv_if_eq (tgt := 19) hx hb d_X_top_4 (by decide) (fun h1 => ?_) (fun h1 => ?_)
  · refine lv_lconst (v := 0) hx hb d_X_top_19 (by decide) ?_
    refine hret _ _ _ _ _ _ hs ?_ d_X_top_20
    exact pr_eq ((if_pos h1).trans rfl)
  · refine lv_aload_n hx hb d_X_top_7 rfl (lv_at hl 0 rfl) ?_
    refine xg_X hx hb hF hs 2 (by decide) k_fl_X_19 rfl d_X_top_8 ?_
    refine lv_iload_n hx hb d_X_top_11 rfl (lv_at hl 1 rfl) ?_
    refine xr_ld hx hb hF hs (ix_reg h1) d_X_top_12 ?_
    refine x_Vlp hF hs v_K_upperBound k_ml_X_76 (m_K_upperBound (in13 (ix_reg h1))) rfl rfl ⟨by decide, by decide⟩ rfl rfl hl.1 (Nat.le_of_ble_eq_true rfl) (rK (in13 (ix_reg h1))) d_X_top_13 ⟨Nat.zero_le _, Nat.zero_le _⟩ (fun H locs hs => ?_)
    refine lv_goto (tgt := 20) hx hb d_X_top_16 (by decide) ?_
    refine hret _ _ _ _ _ _ hs ?_ d_X_top_20
    exact pr_eq ((if_neg h1).trans rfl)
def p_X_give (σ : Mem) (n1 : Int32) (n2 : Int32) : Int32 × Mem :=
  if n1 < (1 : Int32) then
    ((0 : Int32), σ)
  else
    if n1 < (8 : Int32) then
      let σ1 : Mem := p_X_writeNumber σ n1 n2;
      ((1 : Int32), σ1)
    else
      ((0 : Int32), σ)
set_option maxHeartbeats 4000000 in
set_option maxRecDepth 100000 in
theorem m_X_give {l : Launch} {D : va_G} {a : Nat → Nat} {cA : Nat → ClassId} {B0 : Nat → Prop} {σ : Mem} {n1 : Int32} {n2 : Int32} : cI l y_X_give (.code y_X_give c_X_give 3 (some FieldType.boolean) :: TG) (rmO 2 43) D (cwL a cA) (cty cA) B0 [.ref (a 0), .int n1, .int n2] σ (p_X_give σ n1 n2) := by
  refine cZ_of (by decide) (Nat.le_of_ble_eq_true rfl) ?_
  intro p e s m args below meth c Q ls hx hb hF hl hs hret
  have hl : lv_has ls 3 [(0, .ref (a 0)), (1, .int n1), (2, .int n2)] := hl
  refine lv_iload_n hx hb d_X_give_0 rfl (lv_at hl 1 rfl) ?_
  refine lv_iconst (v := 1) hx hb d_X_give_1 (by decide) ?_
  refine lv_icmp_lt (tgt := 11) hx hb d_X_give_2 (by decide) (fun h1 => ?_) (fun h1 => ?_)
  · refine lv_iconst (v := 0) hx hb d_X_give_11 (by decide) ?_
    refine hret _ _ _ _ _ _ hs bo_0 ?_ d_X_give_12
    exact (if_pos h1).trans rfl
  · refine lv_iload_n hx hb d_X_give_5 rfl (lv_at hl 1 rfl) ?_
    refine lv_bipush (v := 8) hx hb d_X_give_6 (by decide) ?_
    refine lv_icmp_lt (tgt := 13) hx hb d_X_give_8 (by decide) (fun h2 => ?_) (fun h2 => ?_)
    · refine lv_aload_n hx hb d_X_give_13 rfl (lv_at hl 0 rfl) ?_
      refine lv_iload_n hx hb d_X_give_14 rfl (lv_at hl 1 rfl) ?_
      refine lv_iload_n hx hb d_X_give_15 rfl (lv_at hl 2 rfl) ?_
      refine x_Vv hF hs v_X_writeNumber k_ml_X_79 (m_X_writeNumber (ix_give h1 h2)) rfl rfl ⟨by decide, by decide⟩ rfl rfl hl.1 (Nat.le_of_ble_eq_true rfl) rX d_X_give_16 ⟨Nat.zero_le _, Nat.zero_le _⟩ (fun H locs hs => ?_)
      refine lv_iconst (v := 1) hx hb d_X_give_19 (by decide) ?_
      refine hret _ _ _ _ _ _ hs bo_1 ?_ d_X_give_20
      exact (if_neg h1).trans ((if_pos h2).trans rfl)
    · refine lv_iconst (v := 0) hx hb d_X_give_11 (by decide) ?_
      refine hret _ _ _ _ _ _ hs bo_0 ?_ d_X_give_12
      exact (if_neg h1).trans ((if_neg h2).trans rfl)
end
