-- ===== PART A: goes FIRST, ahead of the names: the tables' words, and 'selects' of the private methods out of them =====
/-- a private method of a class that the tables say can be made, by its rows of tables_1 -/
def lw_okq (q : MethodName × Nat) : Prop := (q.1.cls ≠ "java/lang/invoke/MethodHandle" ∧ q.1.cls ≠ "java/lang/invoke/VarHandle") ∧ Cond.instantiable q.1.cls q.2 ∈ tables_1 ∧ Cond.privateMethod q.1 ∈ tables_1 ∧ Cond.instanceMethod q.1 ∈ tables_1
theorem lw_p0 : lw_okq (⟨"ScopedMemory", "isBegun", "(I)Z"⟩, 8) := ⟨⟨by decide +kernel, by decide +kernel⟩, List.mem_of_getElem? (i := 8) (by decide +kernel), List.mem_of_getElem? (i := 137) (by decide +kernel), List.mem_of_getElem? (i := 138) (by decide +kernel)⟩
theorem lw_p1 : lw_okq (⟨"ScopedMemory$Row", "push", "(IIZ)V"⟩, 5) := ⟨⟨by decide +kernel, by decide +kernel⟩, List.mem_of_getElem? (i := 68) (by decide +kernel), List.mem_of_getElem? (i := 141) (by decide +kernel), List.mem_of_getElem? (i := 142) (by decide +kernel)⟩
theorem lw_p2 : lw_okq (⟨"ScopedMemory", "isScope", "(I)Z"⟩, 8) := ⟨⟨by decide +kernel, by decide +kernel⟩, List.mem_of_getElem? (i := 8) (by decide +kernel), List.mem_of_getElem? (i := 149) (by decide +kernel), List.mem_of_getElem? (i := 150) (by decide +kernel)⟩
theorem lw_p3 : lw_okq (⟨"ScopedMemory", "isArea", "(I)Z"⟩, 8) := ⟨⟨by decide +kernel, by decide +kernel⟩, List.mem_of_getElem? (i := 8) (by decide +kernel), List.mem_of_getElem? (i := 153) (by decide +kernel), List.mem_of_getElem? (i := 154) (by decide +kernel)⟩
theorem lw_p4 : lw_okq (⟨"ScopedMemory$Row", "nearestScope", "()I"⟩, 5) := ⟨⟨by decide +kernel, by decide +kernel⟩, List.mem_of_getElem? (i := 68) (by decide +kernel), List.mem_of_getElem? (i := 157) (by decide +kernel), List.mem_of_getElem? (i := 158) (by decide +kernel)⟩
theorem lw_p5 : lw_okq (⟨"ScopedMemory$Row", "top", "()I"⟩, 5) := ⟨⟨by decide +kernel, by decide +kernel⟩, List.mem_of_getElem? (i := 68) (by decide +kernel), List.mem_of_getElem? (i := 161) (by decide +kernel), List.mem_of_getElem? (i := 162) (by decide +kernel)⟩
theorem lw_p6 : lw_okq (⟨"ScopedMemory$Row", "hasInView", "(I)Z"⟩, 5) := ⟨⟨by decide +kernel, by decide +kernel⟩, List.mem_of_getElem? (i := 68) (by decide +kernel), List.mem_of_getElem? (i := 165) (by decide +kernel), List.mem_of_getElem? (i := 166) (by decide +kernel)⟩
theorem lw_p7 : lw_okq (⟨"ScopedMemory$Row", "firstWith", "(I)I"⟩, 5) := ⟨⟨by decide +kernel, by decide +kernel⟩, List.mem_of_getElem? (i := 68) (by decide +kernel), List.mem_of_getElem? (i := 169) (by decide +kernel), List.mem_of_getElem? (i := 170) (by decide +kernel)⟩
theorem lw_p8 : lw_okq (⟨"ScopedMemory$Row", "isFull", "()Z"⟩, 5) := ⟨⟨by decide +kernel, by decide +kernel⟩, List.mem_of_getElem? (i := 68) (by decide +kernel), List.mem_of_getElem? (i := 173) (by decide +kernel), List.mem_of_getElem? (i := 174) (by decide +kernel)⟩
theorem lw_p9 : lw_okq (⟨"ScopedMemory$Row", "underOfFirstWith", "(I)I"⟩, 5) := ⟨⟨by decide +kernel, by decide +kernel⟩, List.mem_of_getElem? (i := 68) (by decide +kernel), List.mem_of_getElem? (i := 182) (by decide +kernel), List.mem_of_getElem? (i := 183) (by decide +kernel)⟩
theorem lw_p10 : lw_okq (⟨"ScopedMemory$Row", "currentArea", "()I"⟩, 5) := ⟨⟨by decide +kernel, by decide +kernel⟩, List.mem_of_getElem? (i := 68) (by decide +kernel), List.mem_of_getElem? (i := 190) (by decide +kernel), List.mem_of_getElem? (i := 191) (by decide +kernel)⟩
theorem lw_p11 : lw_okq (⟨"ScopedMemory$Row", "topWasEntered", "()Z"⟩, 5) := ⟨⟨by decide +kernel, by decide +kernel⟩, List.mem_of_getElem? (i := 68) (by decide +kernel), List.mem_of_getElem? (i := 194) (by decide +kernel), List.mem_of_getElem? (i := 195) (by decide +kernel)⟩
theorem lw_p12 : lw_okq (⟨"ScopedMemory$Row", "pop", "()V"⟩, 5) := ⟨⟨by decide +kernel, by decide +kernel⟩, List.mem_of_getElem? (i := 68) (by decide +kernel), List.mem_of_getElem? (i := 198) (by decide +kernel), List.mem_of_getElem? (i := 199) (by decide +kernel)⟩
theorem lw_p13 : lw_okq (⟨"ScopedMemory", "dropEntry", "(I)V"⟩, 8) := ⟨⟨by decide +kernel, by decide +kernel⟩, List.mem_of_getElem? (i := 8) (by decide +kernel), List.mem_of_getElem? (i := 202) (by decide +kernel), List.mem_of_getElem? (i := 203) (by decide +kernel)⟩
theorem lw_p14 : lw_okq (⟨"ScopedMemory", "emptyScope", "(I)V"⟩, 8) := ⟨⟨by decide +kernel, by decide +kernel⟩, List.mem_of_getElem? (i := 8) (by decide +kernel), List.mem_of_getElem? (i := 206) (by decide +kernel), List.mem_of_getElem? (i := 207) (by decide +kernel)⟩
theorem lw_p15 : lw_okq (⟨"ScopedMemory", "drop", "(I)V"⟩, 8) := ⟨⟨by decide +kernel, by decide +kernel⟩, List.mem_of_getElem? (i := 8) (by decide +kernel), List.mem_of_getElem? (i := 210) (by decide +kernel), List.mem_of_getElem? (i := 211) (by decide +kernel)⟩
def lw_privs_1 : List (MethodName × Nat) := [(⟨"ScopedMemory", "isBegun", "(I)Z"⟩, 8), (⟨"ScopedMemory$Row", "push", "(IIZ)V"⟩, 5), (⟨"ScopedMemory", "isScope", "(I)Z"⟩, 8), (⟨"ScopedMemory", "isArea", "(I)Z"⟩, 8), (⟨"ScopedMemory$Row", "nearestScope", "()I"⟩, 5), (⟨"ScopedMemory$Row", "top", "()I"⟩, 5), (⟨"ScopedMemory$Row", "hasInView", "(I)Z"⟩, 5), (⟨"ScopedMemory$Row", "firstWith", "(I)I"⟩, 5), (⟨"ScopedMemory$Row", "isFull", "()Z"⟩, 5), (⟨"ScopedMemory$Row", "underOfFirstWith", "(I)I"⟩, 5), (⟨"ScopedMemory$Row", "currentArea", "()I"⟩, 5), (⟨"ScopedMemory$Row", "topWasEntered", "()Z"⟩, 5), (⟨"ScopedMemory$Row", "pop", "()V"⟩, 5), (⟨"ScopedMemory", "dropEntry", "(I)V"⟩, 8), (⟨"ScopedMemory", "emptyScope", "(I)V"⟩, 8), (⟨"ScopedMemory", "drop", "(I)V"⟩, 8)]
theorem lw_r1 : ∀ q ∈ lw_privs_1, lw_okq q := List.forall_mem_cons.mpr ⟨lw_p0, List.forall_mem_cons.mpr ⟨lw_p1, List.forall_mem_cons.mpr ⟨lw_p2, List.forall_mem_cons.mpr ⟨lw_p3, List.forall_mem_cons.mpr ⟨lw_p4, List.forall_mem_cons.mpr ⟨lw_p5, List.forall_mem_cons.mpr ⟨lw_p6, List.forall_mem_cons.mpr ⟨lw_p7, List.forall_mem_cons.mpr ⟨lw_p8, List.forall_mem_cons.mpr ⟨lw_p9, List.forall_mem_cons.mpr ⟨lw_p10, List.forall_mem_cons.mpr ⟨lw_p11, List.forall_mem_cons.mpr ⟨lw_p12, List.forall_mem_cons.mpr ⟨lw_p13, List.forall_mem_cons.mpr ⟨lw_p14, List.forall_mem_cons.mpr ⟨lw_p15, fun _ h => absurd h List.not_mem_nil⟩⟩⟩⟩⟩⟩⟩⟩⟩⟩⟩⟩⟩⟩⟩⟩
theorem lw_p16 : lw_okq (⟨"ScopedMemory", "leastFreeNumber", "()I"⟩, 8) := ⟨⟨by decide +kernel, by decide +kernel⟩, List.mem_of_getElem? (i := 8) (by decide +kernel), List.mem_of_getElem? (i := 218) (by decide +kernel), List.mem_of_getElem? (i := 219) (by decide +kernel)⟩
theorem lw_p17 : lw_okq (⟨"ScopedMemory$Area", "free", "()I"⟩, 5) := ⟨⟨by decide +kernel, by decide +kernel⟩, List.mem_of_getElem? (i := 21) (by decide +kernel), List.mem_of_getElem? (i := 222) (by decide +kernel), List.mem_of_getElem? (i := 223) (by decide +kernel)⟩
theorem lw_p18 : lw_okq (⟨"ScopedMemory$Cell", "fill", "(II)V"⟩, 4) := ⟨⟨by decide +kernel, by decide +kernel⟩, List.mem_of_getElem? (i := 47) (by decide +kernel), List.mem_of_getElem? (i := 226) (by decide +kernel), List.mem_of_getElem? (i := 227) (by decide +kernel)⟩
theorem lw_p19 : lw_okq (⟨"ScopedMemory", "hasField", "(II)Z"⟩, 8) := ⟨⟨by decide +kernel, by decide +kernel⟩, List.mem_of_getElem? (i := 8) (by decide +kernel), List.mem_of_getElem? (i := 234) (by decide +kernel), List.mem_of_getElem? (i := 235) (by decide +kernel)⟩
theorem lw_p20 : lw_okq (⟨"ScopedMemory", "isObject", "(I)Z"⟩, 8) := ⟨⟨by decide +kernel, by decide +kernel⟩, List.mem_of_getElem? (i := 8) (by decide +kernel), List.mem_of_getElem? (i := 238) (by decide +kernel), List.mem_of_getElem? (i := 239) (by decide +kernel)⟩
theorem lw_p21 : lw_okq (⟨"ScopedMemory", "isObjectOrNull", "(I)Z"⟩, 8) := ⟨⟨by decide +kernel, by decide +kernel⟩, List.mem_of_getElem? (i := 8) (by decide +kernel), List.mem_of_getElem? (i := 242) (by decide +kernel), List.mem_of_getElem? (i := 243) (by decide +kernel)⟩
theorem lw_p22 : lw_okq (⟨"ScopedMemory", "sees", "(II)Z"⟩, 8) := ⟨⟨by decide +kernel, by decide +kernel⟩, List.mem_of_getElem? (i := 8) (by decide +kernel), List.mem_of_getElem? (i := 246) (by decide +kernel), List.mem_of_getElem? (i := 247) (by decide +kernel)⟩
theorem lw_p23 : lw_okq (⟨"ScopedMemory", "seesOrNull", "(II)Z"⟩, 8) := ⟨⟨by decide +kernel, by decide +kernel⟩, List.mem_of_getElem? (i := 8) (by decide +kernel), List.mem_of_getElem? (i := 250) (by decide +kernel), List.mem_of_getElem? (i := 251) (by decide +kernel)⟩
theorem lw_p24 : lw_okq (⟨"ScopedMemory", "mayPointTo", "(II)Z"⟩, 8) := ⟨⟨by decide +kernel, by decide +kernel⟩, List.mem_of_getElem? (i := 8) (by decide +kernel), List.mem_of_getElem? (i := 254) (by decide +kernel), List.mem_of_getElem? (i := 255) (by decide +kernel)⟩
theorem lw_p25 : lw_okq (⟨"ScopedMemory", "liesIn", "(II)Z"⟩, 8) := ⟨⟨by decide +kernel, by decide +kernel⟩, List.mem_of_getElem? (i := 8) (by decide +kernel), List.mem_of_getElem? (i := 258) (by decide +kernel), List.mem_of_getElem? (i := 259) (by decide +kernel)⟩
theorem lw_p26 : lw_okq (⟨"ScopedMemory", "findKept", "()V"⟩, 8) := ⟨⟨by decide +kernel, by decide +kernel⟩, List.mem_of_getElem? (i := 8) (by decide +kernel), List.mem_of_getElem? (i := 285) (by decide +kernel), List.mem_of_getElem? (i := 286) (by decide +kernel)⟩
theorem lw_p27 : lw_okq (⟨"ScopedMemory", "keep", "(I)V"⟩, 8) := ⟨⟨by decide +kernel, by decide +kernel⟩, List.mem_of_getElem? (i := 8) (by decide +kernel), List.mem_of_getElem? (i := 289) (by decide +kernel), List.mem_of_getElem? (i := 290) (by decide +kernel)⟩
theorem lw_p28 : lw_okq (⟨"ScopedMemory", "keepFieldsOf", "(I)V"⟩, 8) := ⟨⟨by decide +kernel, by decide +kernel⟩, List.mem_of_getElem? (i := 8) (by decide +kernel), List.mem_of_getElem? (i := 293) (by decide +kernel), List.mem_of_getElem? (i := 294) (by decide +kernel)⟩
theorem lw_p29 : lw_okq (⟨"ScopedMemory$Row", "areaInView", "(I)I"⟩, 5) := ⟨⟨by decide +kernel, by decide +kernel⟩, List.mem_of_getElem? (i := 68) (by decide +kernel), List.mem_of_getElem? (i := 317) (by decide +kernel), List.mem_of_getElem? (i := 318) (by decide +kernel)⟩
theorem lw_p30 : lw_okq (⟨"ScopedMemory", "begunThreads", "()I"⟩, 8) := ⟨⟨by decide +kernel, by decide +kernel⟩, List.mem_of_getElem? (i := 8) (by decide +kernel), List.mem_of_getElem? (i := 325) (by decide +kernel), List.mem_of_getElem? (i := 326) (by decide +kernel)⟩
theorem lw_p31 : lw_okq (⟨"ScopedMemoryModel", "clamp", "(I)I"⟩, 16) := ⟨⟨by decide +kernel, by decide +kernel⟩, List.mem_of_getElem? (i := 332) (by decide +kernel), List.mem_of_getElem? (i := 338) (by decide +kernel), List.mem_of_getElem? (i := 339) (by decide +kernel)⟩
def lw_privs_2 : List (MethodName × Nat) := [(⟨"ScopedMemory", "leastFreeNumber", "()I"⟩, 8), (⟨"ScopedMemory$Area", "free", "()I"⟩, 5), (⟨"ScopedMemory$Cell", "fill", "(II)V"⟩, 4), (⟨"ScopedMemory", "hasField", "(II)Z"⟩, 8), (⟨"ScopedMemory", "isObject", "(I)Z"⟩, 8), (⟨"ScopedMemory", "isObjectOrNull", "(I)Z"⟩, 8), (⟨"ScopedMemory", "sees", "(II)Z"⟩, 8), (⟨"ScopedMemory", "seesOrNull", "(II)Z"⟩, 8), (⟨"ScopedMemory", "mayPointTo", "(II)Z"⟩, 8), (⟨"ScopedMemory", "liesIn", "(II)Z"⟩, 8), (⟨"ScopedMemory", "findKept", "()V"⟩, 8), (⟨"ScopedMemory", "keep", "(I)V"⟩, 8), (⟨"ScopedMemory", "keepFieldsOf", "(I)V"⟩, 8), (⟨"ScopedMemory$Row", "areaInView", "(I)I"⟩, 5), (⟨"ScopedMemory", "begunThreads", "()I"⟩, 8), (⟨"ScopedMemoryModel", "clamp", "(I)I"⟩, 16)]
theorem lw_r2 : ∀ q ∈ lw_privs_2, lw_okq q := List.forall_mem_cons.mpr ⟨lw_p16, List.forall_mem_cons.mpr ⟨lw_p17, List.forall_mem_cons.mpr ⟨lw_p18, List.forall_mem_cons.mpr ⟨lw_p19, List.forall_mem_cons.mpr ⟨lw_p20, List.forall_mem_cons.mpr ⟨lw_p21, List.forall_mem_cons.mpr ⟨lw_p22, List.forall_mem_cons.mpr ⟨lw_p23, List.forall_mem_cons.mpr ⟨lw_p24, List.forall_mem_cons.mpr ⟨lw_p25, List.forall_mem_cons.mpr ⟨lw_p26, List.forall_mem_cons.mpr ⟨lw_p27, List.forall_mem_cons.mpr ⟨lw_p28, List.forall_mem_cons.mpr ⟨lw_p29, List.forall_mem_cons.mpr ⟨lw_p30, List.forall_mem_cons.mpr ⟨lw_p31, fun _ h => absurd h List.not_mem_nil⟩⟩⟩⟩⟩⟩⟩⟩⟩⟩⟩⟩⟩⟩⟩⟩
theorem lw_p32 : lw_okq (⟨"ScopedMemoryModel", "step", "(IIIZ)I"⟩, 16) := ⟨⟨by decide +kernel, by decide +kernel⟩, List.mem_of_getElem? (i := 332) (by decide +kernel), List.mem_of_getElem? (i := 399) (by decide +kernel), List.mem_of_getElem? (i := 400) (by decide +kernel)⟩
theorem lw_p33 : lw_okq (⟨"ScopedMemoryModel", "idle", "(I)Z"⟩, 16) := ⟨⟨by decide +kernel, by decide +kernel⟩, List.mem_of_getElem? (i := 332) (by decide +kernel), List.mem_of_getElem? (i := 407) (by decide +kernel), List.mem_of_getElem? (i := 408) (by decide +kernel)⟩
theorem lw_p34 : lw_okq (⟨"ScopedMemoryModel", "noScope", "(I)Z"⟩, 16) := ⟨⟨by decide +kernel, by decide +kernel⟩, List.mem_of_getElem? (i := 332) (by decide +kernel), List.mem_of_getElem? (i := 411) (by decide +kernel), List.mem_of_getElem? (i := 412) (by decide +kernel)⟩
theorem lw_p35 : lw_okq (⟨"ScopedMemoryModel", "stepWith", "(II)I"⟩, 16) := ⟨⟨by decide +kernel, by decide +kernel⟩, List.mem_of_getElem? (i := 332) (by decide +kernel), List.mem_of_getElem? (i := 415) (by decide +kernel), List.mem_of_getElem? (i := 416) (by decide +kernel)⟩
theorem lw_p36 : lw_okq (⟨"ScopedMemoryModel", "viewed", "(II)I"⟩, 16) := ⟨⟨by decide +kernel, by decide +kernel⟩, List.mem_of_getElem? (i := 332) (by decide +kernel), List.mem_of_getElem? (i := 419) (by decide +kernel), List.mem_of_getElem? (i := 420) (by decide +kernel)⟩
theorem lw_p37 : lw_okq (⟨"ScopedMemoryModel", "nearest", "(I)I"⟩, 16) := ⟨⟨by decide +kernel, by decide +kernel⟩, List.mem_of_getElem? (i := 332) (by decide +kernel), List.mem_of_getElem? (i := 423) (by decide +kernel), List.mem_of_getElem? (i := 424) (by decide +kernel)⟩
theorem lw_p38 : lw_okq (⟨"ScopedMemoryModel", "noArea", "(I)Z"⟩, 16) := ⟨⟨by decide +kernel, by decide +kernel⟩, List.mem_of_getElem? (i := 332) (by decide +kernel), List.mem_of_getElem? (i := 431) (by decide +kernel), List.mem_of_getElem? (i := 432) (by decide +kernel)⟩
theorem lw_p39 : lw_okq (⟨"ScopedMemoryModel", "empty", "(I)V"⟩, 16) := ⟨⟨by decide +kernel, by decide +kernel⟩, List.mem_of_getElem? (i := 332) (by decide +kernel), List.mem_of_getElem? (i := 439) (by decide +kernel), List.mem_of_getElem? (i := 440) (by decide +kernel)⟩
theorem lw_p40 : lw_okq (⟨"ScopedMemoryModel", "current", "(I)I"⟩, 16) := ⟨⟨by decide +kernel, by decide +kernel⟩, List.mem_of_getElem? (i := 332) (by decide +kernel), List.mem_of_getElem? (i := 447) (by decide +kernel), List.mem_of_getElem? (i := 448) (by decide +kernel)⟩
theorem lw_p41 : lw_okq (⟨"ScopedMemoryModel", "used", "(I)I"⟩, 16) := ⟨⟨by decide +kernel, by decide +kernel⟩, List.mem_of_getElem? (i := 332) (by decide +kernel), List.mem_of_getElem? (i := 451) (by decide +kernel), List.mem_of_getElem? (i := 452) (by decide +kernel)⟩
theorem lw_p42 : lw_okq (⟨"ScopedMemoryModel", "noObject", "(I)Z"⟩, 16) := ⟨⟨by decide +kernel, by decide +kernel⟩, List.mem_of_getElem? (i := 332) (by decide +kernel), List.mem_of_getElem? (i := 459) (by decide +kernel), List.mem_of_getElem? (i := 460) (by decide +kernel)⟩
theorem lw_p43 : lw_okq (⟨"ScopedMemoryModel", "sees", "(II)Z"⟩, 16) := ⟨⟨by decide +kernel, by decide +kernel⟩, List.mem_of_getElem? (i := 332) (by decide +kernel), List.mem_of_getElem? (i := 463) (by decide +kernel), List.mem_of_getElem? (i := 464) (by decide +kernel)⟩
theorem lw_p44 : lw_okq (⟨"ScopedMemoryModel", "mayPoint", "(II)Z"⟩, 16) := ⟨⟨by decide +kernel, by decide +kernel⟩, List.mem_of_getElem? (i := 332) (by decide +kernel), List.mem_of_getElem? (i := 467) (by decide +kernel), List.mem_of_getElem? (i := 468) (by decide +kernel)⟩
theorem lw_p45 : lw_okq (⟨"ScopedMemoryModel", "liesIn", "(II)Z"⟩, 16) := ⟨⟨by decide +kernel, by decide +kernel⟩, List.mem_of_getElem? (i := 332) (by decide +kernel), List.mem_of_getElem? (i := 471) (by decide +kernel), List.mem_of_getElem? (i := 472) (by decide +kernel)⟩
theorem lw_p46 : lw_okq (⟨"ScopedMemoryModel", "keep", "()I"⟩, 16) := ⟨⟨by decide +kernel, by decide +kernel⟩, List.mem_of_getElem? (i := 332) (by decide +kernel), List.mem_of_getElem? (i := 495) (by decide +kernel), List.mem_of_getElem? (i := 496) (by decide +kernel)⟩
theorem lw_p47 : lw_okq (⟨"ScopedMemoryModel", "keeps", "(I)Z"⟩, 16) := ⟨⟨by decide +kernel, by decide +kernel⟩, List.mem_of_getElem? (i := 332) (by decide +kernel), List.mem_of_getElem? (i := 499) (by decide +kernel), List.mem_of_getElem? (i := 500) (by decide +kernel)⟩
def lw_privs_3 : List (MethodName × Nat) := [(⟨"ScopedMemoryModel", "step", "(IIIZ)I"⟩, 16), (⟨"ScopedMemoryModel", "idle", "(I)Z"⟩, 16), (⟨"ScopedMemoryModel", "noScope", "(I)Z"⟩, 16), (⟨"ScopedMemoryModel", "stepWith", "(II)I"⟩, 16), (⟨"ScopedMemoryModel", "viewed", "(II)I"⟩, 16), (⟨"ScopedMemoryModel", "nearest", "(I)I"⟩, 16), (⟨"ScopedMemoryModel", "noArea", "(I)Z"⟩, 16), (⟨"ScopedMemoryModel", "empty", "(I)V"⟩, 16), (⟨"ScopedMemoryModel", "current", "(I)I"⟩, 16), (⟨"ScopedMemoryModel", "used", "(I)I"⟩, 16), (⟨"ScopedMemoryModel", "noObject", "(I)Z"⟩, 16), (⟨"ScopedMemoryModel", "sees", "(II)Z"⟩, 16), (⟨"ScopedMemoryModel", "mayPoint", "(II)Z"⟩, 16), (⟨"ScopedMemoryModel", "liesIn", "(II)Z"⟩, 16), (⟨"ScopedMemoryModel", "keep", "()I"⟩, 16), (⟨"ScopedMemoryModel", "keeps", "(I)Z"⟩, 16)]
theorem lw_r3 : ∀ q ∈ lw_privs_3, lw_okq q := List.forall_mem_cons.mpr ⟨lw_p32, List.forall_mem_cons.mpr ⟨lw_p33, List.forall_mem_cons.mpr ⟨lw_p34, List.forall_mem_cons.mpr ⟨lw_p35, List.forall_mem_cons.mpr ⟨lw_p36, List.forall_mem_cons.mpr ⟨lw_p37, List.forall_mem_cons.mpr ⟨lw_p38, List.forall_mem_cons.mpr ⟨lw_p39, List.forall_mem_cons.mpr ⟨lw_p40, List.forall_mem_cons.mpr ⟨lw_p41, List.forall_mem_cons.mpr ⟨lw_p42, List.forall_mem_cons.mpr ⟨lw_p43, List.forall_mem_cons.mpr ⟨lw_p44, List.forall_mem_cons.mpr ⟨lw_p45, List.forall_mem_cons.mpr ⟨lw_p46, List.forall_mem_cons.mpr ⟨lw_p47, fun _ h => absurd h List.not_mem_nil⟩⟩⟩⟩⟩⟩⟩⟩⟩⟩⟩⟩⟩⟩⟩⟩
def lw_privs : List (MethodName × Nat) := lw_privs_1 ++ (lw_privs_2 ++ (lw_privs_3))
def lw_tbl : List Cond := k2_sels lw_privs ++ tables_1
theorem lw_privs_ok : ∀ q ∈ lw_privs, lw_okq q := by
  show ∀ q ∈ lw_privs_1 ++ (lw_privs_2 ++ (lw_privs_3)), lw_okq q
  exact List.forall_mem_append.mpr ⟨lw_r1, List.forall_mem_append.mpr ⟨lw_r2, lw_r3⟩⟩

def R_Ar : String := "ScopedMemory$Area"
def F_Ar : u_T := fun k => match k with
  | 0 => ("ScopedMemory$Area", "size", "I", false)
  | 1 => ("ScopedMemory$Area", "used", "I", false)
  | 2 => ("ScopedMemory$Area", "entries", "I", false)
  | 3 => ("ScopedMemory$Area", "parent", "I", false)
  | _ => ("ScopedMemory$Area", "portal", "I", false)
def t_Ar : Nat → FieldType := fun k => match k with
  | 0 => .int
  | 1 => .int
  | 2 => .int
  | 3 => .int
  | _ => .int
theorem n_Ar : ∀ a, a < 5 → ∀ b, b < 5 → a ≠ b → (F_Ar a).2.1 ≠ (F_Ar b).2.1 := by decide +kernel
theorem t_Ar_ok : ∀ k, k < 5 → parseFieldDescriptor (F_Ar k).2.2.1 = some (t_Ar k) := by decide +kernel
def R_Ce : String := "ScopedMemory$Cell"
def F_Ce : u_T := fun k => match k with
  | 0 => ("ScopedMemory$Cell", "fields", "[I", true)
  | 1 => ("ScopedMemory$Cell", "area", "I", false)
  | 2 => ("ScopedMemory$Cell", "fieldCount", "I", false)
  | _ => ("ScopedMemory$Cell", "kept", "Z", false)
def t_Ce : Nat → FieldType := fun k => match k with
  | 0 => .array .int
  | 1 => .int
  | 2 => .int
  | _ => .boolean
theorem n_Ce : ∀ a, a < 4 → ∀ b, b < 4 → a ≠ b → (F_Ce a).2.1 ≠ (F_Ce b).2.1 := by decide +kernel
theorem t_Ce_ok : ∀ k, k < 4 → parseFieldDescriptor (F_Ce k).2.2.1 = some (t_Ce k) := by decide +kernel
def R_Ro : String := "ScopedMemory$Row"
def F_Ro : u_T := fun k => match k with
  | 0 => ("ScopedMemory$Row", "stepArea", "[I", true)
  | 1 => ("ScopedMemory$Row", "under", "[I", true)
  | 2 => ("ScopedMemory$Row", "entered", "[Z", true)
  | 3 => ("ScopedMemory$Row", "length", "I", false)
  | _ => ("ScopedMemory$Row", "heapless", "Z", false)
def t_Ro : Nat → FieldType := fun k => match k with
  | 0 => .array .int
  | 1 => .array .int
  | 2 => .array .boolean
  | 3 => .int
  | _ => .boolean
theorem n_Ro : ∀ a, a < 5 → ∀ b, b < 5 → a ≠ b → (F_Ro a).2.1 ≠ (F_Ro b).2.1 := by decide +kernel
theorem t_Ro_ok : ∀ k, k < 5 → parseFieldDescriptor (F_Ro k).2.2.1 = some (t_Ro k) := by decide +kernel
def R_SM : String := "ScopedMemory"
def F_SM : u_T := fun k => match k with
  | 0 => ("ScopedMemory", "areas", "[LScopedMemory$Area;", true)
  | 1 => ("ScopedMemory", "cells", "[LScopedMemory$Cell;", true)
  | 2 => ("ScopedMemory", "rows", "[LScopedMemory$Row;", true)
  | 3 => ("ScopedMemory", "statics", "[I", true)
  | 4 => ("ScopedMemory", "found", "[I", true)
  | 5 => ("ScopedMemory", "foundCount", "I", false)
  | 6 => ("ScopedMemory", "areaCount", "I", false)
  | _ => ("ScopedMemory", "objectCount", "I", false)
def t_SM : Nat → FieldType := fun k => match k with
  | 0 => .array (.object "ScopedMemory$Area")
  | 1 => .array (.object "ScopedMemory$Cell")
  | 2 => .array (.object "ScopedMemory$Row")
  | 3 => .array .int
  | 4 => .array .int
  | 5 => .int
  | 6 => .int
  | _ => .int
theorem n_SM : ∀ a, a < 8 → ∀ b, b < 8 → a ≠ b → (F_SM a).2.1 ≠ (F_SM b).2.1 := by decide +kernel
theorem t_SM_ok : ∀ k, k < 8 → parseFieldDescriptor (F_SM k).2.2.1 = some (t_SM k) := by decide +kernel
def R_MM : String := "ScopedMemoryModel"
def F_MM : u_T := fun k => match k with
  | 0 => ("ScopedMemoryModel", "areas", "I", false)
  | 1 => ("ScopedMemoryModel", "size", "[I", true)
  | 2 => ("ScopedMemoryModel", "entries", "[I", true)
  | 3 => ("ScopedMemoryModel", "parent", "[I", true)
  | 4 => ("ScopedMemoryModel", "portal", "[I", true)
  | 5 => ("ScopedMemoryModel", "area", "[I", true)
  | 6 => ("ScopedMemoryModel", "width", "[I", true)
  | 7 => ("ScopedMemoryModel", "field", "[I", true)
  | 8 => ("ScopedMemoryModel", "kept", "[Z", true)
  | 9 => ("ScopedMemoryModel", "begun", "[Z", true)
  | 10 => ("ScopedMemoryModel", "heapless", "[Z", true)
  | 11 => ("ScopedMemoryModel", "steps", "[I", true)
  | 12 => ("ScopedMemoryModel", "at", "[I", true)
  | 13 => ("ScopedMemoryModel", "under", "[I", true)
  | 14 => ("ScopedMemoryModel", "entered", "[Z", true)
  | _ => ("ScopedMemoryModel", "fixed", "[I", true)
def t_MM : Nat → FieldType := fun k => match k with
  | 0 => .int
  | 1 => .array .int
  | 2 => .array .int
  | 3 => .array .int
  | 4 => .array .int
  | 5 => .array .int
  | 6 => .array .int
  | 7 => .array .int
  | 8 => .array .boolean
  | 9 => .array .boolean
  | 10 => .array .boolean
  | 11 => .array .int
  | 12 => .array .int
  | 13 => .array .int
  | 14 => .array .boolean
  | _ => .array .int
theorem n_MM : ∀ a, a < 16 → ∀ b, b < 16 → a ≠ b → (F_MM a).2.1 ≠ (F_MM b).2.1 := by decide +kernel
theorem t_MM_ok : ∀ k, k < 16 → parseFieldDescriptor (F_MM k).2.2.1 = some (t_MM k) := by decide +kernel
def R_law : String := "ScopedMemoryLaw"
abbrev b_SM_init : ByteArray := prog_1_method_1_code
def y_SM_init : MethodName := ⟨R_SM, "<init>", "(II)V"⟩
abbrev b_Ar_init : ByteArray := prog_2_method_1_code
def y_Ar_init : MethodName := ⟨R_Ar, "<init>", "()V"⟩
abbrev b_Ce_init : ByteArray := prog_3_method_1_code
def y_Ce_init : MethodName := ⟨R_Ce, "<init>", "()V"⟩
abbrev b_Ro_init : ByteArray := prog_4_method_1_code
def y_Ro_init : MethodName := ⟨R_Ro, "<init>", "()V"⟩
abbrev b_SM_clampBaseSize : ByteArray := prog_1_method_20_code
def y_SM_clampBaseSize : MethodName := ⟨R_SM, "clampBaseSize", "(I)I"⟩
abbrev b_SM_scope : ByteArray := prog_1_method_2_code
def y_SM_scope : MethodName := ⟨R_SM, "scope", "(I)I"⟩
abbrev b_SM_begin : ByteArray := prog_1_method_3_code
def y_SM_begin : MethodName := ⟨R_SM, "begin", "(IZ)I"⟩
abbrev b_SM_isThread : ByteArray := prog_1_method_21_code
def y_SM_isThread : MethodName := ⟨R_SM, "isThread", "(I)Z"⟩
abbrev b_SM_isBegun : ByteArray := prog_1_method_22_code
def y_SM_isBegun : MethodName := ⟨R_SM, "isBegun", "(I)Z"⟩
abbrev b_Ro_push : ByteArray := prog_4_method_6_code
def y_Ro_push : MethodName := ⟨R_Ro, "push", "(IIZ)V"⟩
abbrev b_SM_enter : ByteArray := prog_1_method_4_code
def y_SM_enter : MethodName := ⟨R_SM, "enter", "(II)I"⟩
abbrev b_SM_isScope : ByteArray := prog_1_method_24_code
def y_SM_isScope : MethodName := ⟨R_SM, "isScope", "(I)Z"⟩
abbrev b_SM_isArea : ByteArray := prog_1_method_23_code
def y_SM_isArea : MethodName := ⟨R_SM, "isArea", "(I)Z"⟩
abbrev b_Ro_nearestScope : ByteArray := prog_4_method_11_code
def y_Ro_nearestScope : MethodName := ⟨R_Ro, "nearestScope", "()I"⟩
abbrev b_Ro_top : ByteArray := prog_4_method_2_code
def y_Ro_top : MethodName := ⟨R_Ro, "top", "()I"⟩
abbrev b_Ro_hasInView : ByteArray := prog_4_method_9_code
def y_Ro_hasInView : MethodName := ⟨R_Ro, "hasInView", "(I)Z"⟩
abbrev b_Ro_firstWith : ByteArray := prog_4_method_8_code
def y_Ro_firstWith : MethodName := ⟨R_Ro, "firstWith", "(I)I"⟩
abbrev b_Ro_isFull : ByteArray := prog_4_method_3_code
def y_Ro_isFull : MethodName := ⟨R_Ro, "isFull", "()Z"⟩
abbrev b_SM_turn : ByteArray := prog_1_method_5_code
def y_SM_turn : MethodName := ⟨R_SM, "turn", "(II)I"⟩
abbrev b_Ro_underOfFirstWith : ByteArray := prog_4_method_10_code
def y_Ro_underOfFirstWith : MethodName := ⟨R_Ro, "underOfFirstWith", "(I)I"⟩
abbrev b_SM_leave : ByteArray := prog_1_method_6_code
def y_SM_leave : MethodName := ⟨R_SM, "leave", "(I)I"⟩
abbrev b_Ro_currentArea : ByteArray := prog_4_method_4_code
def y_Ro_currentArea : MethodName := ⟨R_Ro, "currentArea", "()I"⟩
abbrev b_Ro_topWasEntered : ByteArray := prog_4_method_5_code
def y_Ro_topWasEntered : MethodName := ⟨R_Ro, "topWasEntered", "()Z"⟩
abbrev b_Ro_pop : ByteArray := prog_4_method_7_code
def y_Ro_pop : MethodName := ⟨R_Ro, "pop", "()V"⟩
abbrev b_SM_dropEntry : ByteArray := prog_1_method_36_code
def y_SM_dropEntry : MethodName := ⟨R_SM, "dropEntry", "(I)V"⟩
abbrev b_SM_emptyScope : ByteArray := prog_1_method_37_code
def y_SM_emptyScope : MethodName := ⟨R_SM, "emptyScope", "(I)V"⟩
abbrev b_SM_drop : ByteArray := prog_1_method_35_code
def y_SM_drop : MethodName := ⟨R_SM, "drop", "(I)V"⟩
abbrev b_SM_make : ByteArray := prog_1_method_7_code
def y_SM_make : MethodName := ⟨R_SM, "make", "(II)I"⟩
abbrev b_SM_leastFreeNumber : ByteArray := prog_1_method_34_code
def y_SM_leastFreeNumber : MethodName := ⟨R_SM, "leastFreeNumber", "()I"⟩
abbrev b_Ar_free : ByteArray := prog_2_method_2_code
def y_Ar_free : MethodName := ⟨R_Ar, "free", "()I"⟩
abbrev b_Ce_fill : ByteArray := prog_3_method_2_code
def y_Ce_fill : MethodName := ⟨R_Ce, "fill", "(II)V"⟩
abbrev b_SM_put : ByteArray := prog_1_method_8_code
def y_SM_put : MethodName := ⟨R_SM, "put", "(IIII)I"⟩
abbrev b_SM_hasField : ByteArray := prog_1_method_27_code
def y_SM_hasField : MethodName := ⟨R_SM, "hasField", "(II)Z"⟩
abbrev b_SM_isObject : ByteArray := prog_1_method_25_code
def y_SM_isObject : MethodName := ⟨R_SM, "isObject", "(I)Z"⟩
abbrev b_SM_isObjectOrNull : ByteArray := prog_1_method_26_code
def y_SM_isObjectOrNull : MethodName := ⟨R_SM, "isObjectOrNull", "(I)Z"⟩
abbrev b_SM_sees : ByteArray := prog_1_method_29_code
def y_SM_sees : MethodName := ⟨R_SM, "sees", "(II)Z"⟩
abbrev b_SM_seesOrNull : ByteArray := prog_1_method_30_code
def y_SM_seesOrNull : MethodName := ⟨R_SM, "seesOrNull", "(II)Z"⟩
abbrev b_SM_mayPointTo : ByteArray := prog_1_method_31_code
def y_SM_mayPointTo : MethodName := ⟨R_SM, "mayPointTo", "(II)Z"⟩
abbrev b_SM_liesIn : ByteArray := prog_1_method_32_code
def y_SM_liesIn : MethodName := ⟨R_SM, "liesIn", "(II)Z"⟩
abbrev b_SM_get : ByteArray := prog_1_method_9_code
def y_SM_get : MethodName := ⟨R_SM, "get", "(III)I"⟩
abbrev b_SM_hang : ByteArray := prog_1_method_10_code
def y_SM_hang : MethodName := ⟨R_SM, "hang", "(III)I"⟩
abbrev b_SM_portal : ByteArray := prog_1_method_11_code
def y_SM_portal : MethodName := ⟨R_SM, "portal", "(II)I"⟩
abbrev b_SM_objectOrNull : ByteArray := prog_1_method_28_code
def y_SM_objectOrNull : MethodName := ⟨R_SM, "objectOrNull", "(I)I"⟩
abbrev b_SM_assign : ByteArray := prog_1_method_12_code
def y_SM_assign : MethodName := ⟨R_SM, "assign", "(III)I"⟩
abbrev b_SM_collect : ByteArray := prog_1_method_13_code
def y_SM_collect : MethodName := ⟨R_SM, "collect", "()I"⟩
abbrev b_SM_findKept : ByteArray := prog_1_method_38_code
def y_SM_findKept : MethodName := ⟨R_SM, "findKept", "()V"⟩
abbrev b_SM_keep : ByteArray := prog_1_method_40_code
def y_SM_keep : MethodName := ⟨R_SM, "keep", "(I)V"⟩
abbrev b_SM_keepFieldsOf : ByteArray := prog_1_method_39_code
def y_SM_keepFieldsOf : MethodName := ⟨R_SM, "keepFieldsOf", "(I)V"⟩
abbrev b_SM_areaOf : ByteArray := prog_1_method_14_code
def y_SM_areaOf : MethodName := ⟨R_SM, "areaOf", "(I)I"⟩
abbrev b_SM_room : ByteArray := prog_1_method_15_code
def y_SM_room : MethodName := ⟨R_SM, "room", "(I)I"⟩
abbrev b_SM_parent : ByteArray := prog_1_method_16_code
def y_SM_parent : MethodName := ⟨R_SM, "parent", "(I)I"⟩
abbrev b_SM_entries : ByteArray := prog_1_method_17_code
def y_SM_entries : MethodName := ⟨R_SM, "entries", "(I)I"⟩
abbrev b_SM_view : ByteArray := prog_1_method_18_code
def y_SM_view : MethodName := ⟨R_SM, "view", "(II)I"⟩
abbrev b_Ro_areaInView : ByteArray := prog_4_method_12_code
def y_Ro_areaInView : MethodName := ⟨R_Ro, "areaInView", "(I)I"⟩
abbrev b_SM_count : ByteArray := prog_1_method_19_code
def y_SM_count : MethodName := ⟨R_SM, "count", "(I)I"⟩
abbrev b_SM_begunThreads : ByteArray := prog_1_method_33_code
def y_SM_begunThreads : MethodName := ⟨R_SM, "begunThreads", "()I"⟩
abbrev b_law_cell : ByteArray := method_2_code
def y_law_cell : MethodName := ⟨R_law, "cell", "([II)I"⟩
abbrev b_MM_init : ByteArray := prog_6_method_1_code
def y_MM_init : MethodName := ⟨R_MM, "<init>", "(II)V"⟩
abbrev b_MM_clamp : ByteArray := prog_6_method_2_code
def y_MM_clamp : MethodName := ⟨R_MM, "clamp", "(I)I"⟩
abbrev b_MM_scope : ByteArray := prog_6_method_8_code
def y_MM_scope : MethodName := ⟨R_MM, "scope", "(I)I"⟩
abbrev b_MM_begin : ByteArray := prog_6_method_9_code
def y_MM_begin : MethodName := ⟨R_MM, "begin", "(IZ)I"⟩
abbrev b_MM_step : ByteArray := prog_6_method_10_code
def y_MM_step : MethodName := ⟨R_MM, "step", "(IIIZ)I"⟩
abbrev b_MM_enter : ByteArray := prog_6_method_14_code
def y_MM_enter : MethodName := ⟨R_MM, "enter", "(II)I"⟩
abbrev b_MM_idle : ByteArray := prog_6_method_3_code
def y_MM_idle : MethodName := ⟨R_MM, "idle", "(I)Z"⟩
abbrev b_MM_noScope : ByteArray := prog_6_method_5_code
def y_MM_noScope : MethodName := ⟨R_MM, "noScope", "(I)Z"⟩
abbrev b_MM_stepWith : ByteArray := prog_6_method_12_code
def y_MM_stepWith : MethodName := ⟨R_MM, "stepWith", "(II)I"⟩
abbrev b_MM_viewed : ByteArray := prog_6_method_11_code
def y_MM_viewed : MethodName := ⟨R_MM, "viewed", "(II)I"⟩
abbrev b_MM_nearest : ByteArray := prog_6_method_13_code
def y_MM_nearest : MethodName := ⟨R_MM, "nearest", "(I)I"⟩
abbrev b_MM_turn : ByteArray := prog_6_method_15_code
def y_MM_turn : MethodName := ⟨R_MM, "turn", "(II)I"⟩
abbrev b_MM_noArea : ByteArray := prog_6_method_4_code
def y_MM_noArea : MethodName := ⟨R_MM, "noArea", "(I)Z"⟩
abbrev b_MM_leave : ByteArray := prog_6_method_16_code
def y_MM_leave : MethodName := ⟨R_MM, "leave", "(I)I"⟩
abbrev b_MM_empty : ByteArray := prog_6_method_17_code
def y_MM_empty : MethodName := ⟨R_MM, "empty", "(I)V"⟩
abbrev b_MM_make : ByteArray := prog_6_method_19_code
def y_MM_make : MethodName := ⟨R_MM, "make", "(II)I"⟩
abbrev b_MM_current : ByteArray := prog_6_method_18_code
def y_MM_current : MethodName := ⟨R_MM, "current", "(I)I"⟩
abbrev b_MM_used : ByteArray := prog_6_method_7_code
def y_MM_used : MethodName := ⟨R_MM, "used", "(I)I"⟩
abbrev b_MM_put : ByteArray := prog_6_method_23_code
def y_MM_put : MethodName := ⟨R_MM, "put", "(IIII)I"⟩
abbrev b_MM_noObject : ByteArray := prog_6_method_6_code
def y_MM_noObject : MethodName := ⟨R_MM, "noObject", "(I)Z"⟩
abbrev b_MM_sees : ByteArray := prog_6_method_20_code
def y_MM_sees : MethodName := ⟨R_MM, "sees", "(II)Z"⟩
abbrev b_MM_mayPoint : ByteArray := prog_6_method_22_code
def y_MM_mayPoint : MethodName := ⟨R_MM, "mayPoint", "(II)Z"⟩
abbrev b_MM_liesIn : ByteArray := prog_6_method_21_code
def y_MM_liesIn : MethodName := ⟨R_MM, "liesIn", "(II)Z"⟩
abbrev b_MM_get : ByteArray := prog_6_method_24_code
def y_MM_get : MethodName := ⟨R_MM, "get", "(III)I"⟩
abbrev b_MM_hang : ByteArray := prog_6_method_25_code
def y_MM_hang : MethodName := ⟨R_MM, "hang", "(III)I"⟩
abbrev b_MM_portal : ByteArray := prog_6_method_26_code
def y_MM_portal : MethodName := ⟨R_MM, "portal", "(II)I"⟩
abbrev b_MM_assign : ByteArray := prog_6_method_27_code
def y_MM_assign : MethodName := ⟨R_MM, "assign", "(III)I"⟩
abbrev b_MM_collect : ByteArray := prog_6_method_30_code
def y_MM_collect : MethodName := ⟨R_MM, "collect", "()I"⟩
abbrev b_MM_keep : ByteArray := prog_6_method_28_code
def y_MM_keep : MethodName := ⟨R_MM, "keep", "()I"⟩
abbrev b_MM_keeps : ByteArray := prog_6_method_29_code
def y_MM_keeps : MethodName := ⟨R_MM, "keeps", "(I)Z"⟩
abbrev b_MM_areaOf : ByteArray := prog_6_method_31_code
def y_MM_areaOf : MethodName := ⟨R_MM, "areaOf", "(I)I"⟩
abbrev b_MM_room : ByteArray := prog_6_method_32_code
def y_MM_room : MethodName := ⟨R_MM, "room", "(I)I"⟩
abbrev b_MM_parent : ByteArray := prog_6_method_33_code
def y_MM_parent : MethodName := ⟨R_MM, "parent", "(I)I"⟩
abbrev b_MM_entries : ByteArray := prog_6_method_34_code
def y_MM_entries : MethodName := ⟨R_MM, "entries", "(I)I"⟩
abbrev b_MM_view : ByteArray := prog_6_method_35_code
def y_MM_view : MethodName := ⟨R_MM, "view", "(II)I"⟩
abbrev b_MM_count : ByteArray := prog_6_method_36_code
def y_MM_count : MethodName := ⟨R_MM, "count", "(I)I"⟩
abbrev b_law_law : ByteArray := code
abbrev classes : List vw_C := [(R_Ar, F_Ar, 5), (R_Ce, F_Ce, 4), (R_Ro, F_Ro, 5), (R_SM, F_SM, 8), (R_MM, F_MM, 16)]
abbrev zTy (dA : Nat → ClassId) : List (ClassId × FieldType) := [(dA 0, .int), (dA 1, .boolean), (dA 2, .object R_Ar), (dA 3, .object R_Ce), (dA 4, .object R_Ro)]
abbrev zAO : List String := [R_Ar, R_Ce, R_Ro]
def zR (K : Nat) : Room := { frames := K, cells := 0, slots := 0, locals := 40 * K }
