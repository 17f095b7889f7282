section
-- ===== PART A: goes FIRST, ahead of the names: the tables' words, and 'selects' of the private methods out of them =====
/-- a private method of a class that the tables say can be made, by its rows of tables_1 -/
def lw_okq (q : MethodName × Nat) : Prop := (q.1.cls ≠ "java/lang/invoke/MethodHandle" ∧ q.1.cls ≠ "java/lang/invoke/VarHandle") ∧ Cond.instantiable q.1.cls q.2 ∈ tables_1 ∧ Cond.privateMethod q.1 ∈ tables_1 ∧ Cond.instanceMethod q.1 ∈ tables_1
theorem lw_p0 : lw_okq (⟨"ScopedMemory", "isBegun", "(I)Z"⟩, 8) := ⟨⟨by decide +kernel, by decide +kernel⟩, List.mem_of_getElem? (i := 8) (by decide +kernel), List.mem_of_getElem? (i := 137) (by decide +kernel), List.mem_of_getElem? (i := 138) (by decide +kernel)⟩
theorem lw_p1 : lw_okq (⟨"ScopedMemory$Row", "push", "(IIZ)V"⟩, 5) := ⟨⟨by decide +kernel, by decide +kernel⟩, List.mem_of_getElem? (i := 68) (by decide +kernel), List.mem_of_getElem? (i := 141) (by decide +kernel), List.mem_of_getElem? (i := 142) (by decide +kernel)⟩
theorem lw_p2 : lw_okq (⟨"ScopedMemory", "isScope", "(I)Z"⟩, 8) := ⟨⟨by decide +kernel, by decide +kernel⟩, List.mem_of_getElem? (i := 8) (by decide +kernel), List.mem_of_getElem? (i := 149) (by decide +kernel), List.mem_of_getElem? (i := 150) (by decide +kernel)⟩
theorem lw_p3 : lw_okq (⟨"ScopedMemory", "isArea", "(I)Z"⟩, 8) := ⟨⟨by decide +kernel, by decide +kernel⟩, List.mem_of_getElem? (i := 8) (by decide +kernel), List.mem_of_getElem? (i := 153) (by decide +kernel), List.mem_of_getElem? (i := 154) (by decide +kernel)⟩
theorem lw_p4 : lw_okq (⟨"ScopedMemory$Row", "nearestScope", "()I"⟩, 5) := ⟨⟨by decide +kernel, by decide +kernel⟩, List.mem_of_getElem? (i := 68) (by decide +kernel), List.mem_of_getElem? (i := 157) (by decide +kernel), List.mem_of_getElem? (i := 158) (by decide +kernel)⟩
theorem lw_p5 : lw_okq (⟨"ScopedMemory$Row", "top", "()I"⟩, 5) := ⟨⟨by decide +kernel, by decide +kernel⟩, List.mem_of_getElem? (i := 68) (by decide +kernel), List.mem_of_getElem? (i := 161) (by decide +kernel), List.mem_of_getElem? (i := 162) (by decide +kernel)⟩
theorem lw_p6 : lw_okq (⟨"ScopedMemory$Row", "hasInView", "(I)Z"⟩, 5) := ⟨⟨by decide +kernel, by decide +kernel⟩, List.mem_of_getElem? (i := 68) (by decide +kernel), List.mem_of_getElem? (i := 165) (by decide +kernel), List.mem_of_getElem? (i := 166) (by decide +kernel)⟩
theorem lw_p7 : lw_okq (⟨"ScopedMemory$Row", "firstWith", "(I)I"⟩, 5) := ⟨⟨by decide +kernel, by decide +kernel⟩, List.mem_of_getElem? (i := 68) (by decide +kernel), List.mem_of_getElem? (i := 169) (by decide +kernel), List.mem_of_getElem? (i := 170) (by decide +kernel)⟩
theorem lw_p8 : lw_okq (⟨"ScopedMemory$Row", "isFull", "()Z"⟩, 5) := ⟨⟨by decide +kernel, by decide +kernel⟩, List.mem_of_getElem? (i := 68) (by decide +kernel), List.mem_of_getElem? (i := 173) (by decide +kernel), List.mem_of_getElem? (i := 174) (by decide +kernel)⟩
theorem lw_p9 : lw_okq (⟨"ScopedMemory$Row", "underOfFirstWith", "(I)I"⟩, 5) := ⟨⟨by decide +kernel, by decide +kernel⟩, List.mem_of_getElem? (i := 68) (by decide +kernel), List.mem_of_getElem? (i := 182) (by decide +kernel), List.mem_of_getElem? (i := 183) (by decide +kernel)⟩
theorem lw_p10 : lw_okq (⟨"ScopedMemory$Row", "currentArea", "()I"⟩, 5) := ⟨⟨by decide +kernel, by decide +kernel⟩, List.mem_of_getElem? (i := 68) (by decide +kernel), List.mem_of_getElem? (i := 190) (by decide +kernel), List.mem_of_getElem? (i := 191) (by decide +kernel)⟩
theorem lw_p11 : lw_okq (⟨"ScopedMemory$Row", "topWasEntered", "()Z"⟩, 5) := ⟨⟨by decide +kernel, by decide +kernel⟩, List.mem_of_getElem? (i := 68) (by decide +kernel), List.mem_of_getElem? (i := 194) (by decide +kernel), List.mem_of_getElem? (i := 195) (by decide +kernel)⟩
theorem lw_p12 : lw_okq (⟨"ScopedMemory$Row", "pop", "()V"⟩, 5) := ⟨⟨by decide +kernel, by decide +kernel⟩, List.mem_of_getElem? (i := 68) (by decide +kernel), List.mem_of_getElem? (i := 198) (by decide +kernel), List.mem_of_getElem? (i := 199) (by decide +kernel)⟩
theorem lw_p13 : lw_okq (⟨"ScopedMemory", "dropEntry", "(I)V"⟩, 8) := ⟨⟨by decide +kernel, by decide +kernel⟩, List.mem_of_getElem? (i := 8) (by decide +kernel), List.mem_of_getElem? (i := 202) (by decide +kernel), List.mem_of_getElem? (i := 203) (by decide +kernel)⟩
theorem lw_p14 : lw_okq (⟨"ScopedMemory", "emptyScope", "(I)V"⟩, 8) := ⟨⟨by decide +kernel, by decide +kernel⟩, List.mem_of_getElem? (i := 8) (by decide +kernel), List.mem_of_getElem? (i := 206) (by decide +kernel), List.mem_of_getElem? (i := 207) (by decide +kernel)⟩
theorem lw_p15 : lw_okq (⟨"ScopedMemory", "drop", "(I)V"⟩, 8) := ⟨⟨by decide +kernel, by decide +kernel⟩, List.mem_of_getElem? (i := 8) (by decide +kernel), List.mem_of_getElem? (i := 210) (by decide +kernel), List.mem_of_getElem? (i := 211) (by decide +kernel)⟩
def lw_privs_1 : List (MethodName × Nat) := [(⟨"ScopedMemory", "isBegun", "(I)Z"⟩, 8), (⟨"ScopedMemory$Row", "push", "(IIZ)V"⟩, 5), (⟨"ScopedMemory", "isScope", "(I)Z"⟩, 8), (⟨"ScopedMemory", "isArea", "(I)Z"⟩, 8), (⟨"ScopedMemory$Row", "nearestScope", "()I"⟩, 5), (⟨"ScopedMemory$Row", "top", "()I"⟩, 5), (⟨"ScopedMemory$Row", "hasInView", "(I)Z"⟩, 5), (⟨"ScopedMemory$Row", "firstWith", "(I)I"⟩, 5), (⟨"ScopedMemory$Row", "isFull", "()Z"⟩, 5), (⟨"ScopedMemory$Row", "underOfFirstWith", "(I)I"⟩, 5), (⟨"ScopedMemory$Row", "currentArea", "()I"⟩, 5), (⟨"ScopedMemory$Row", "topWasEntered", "()Z"⟩, 5), (⟨"ScopedMemory$Row", "pop", "()V"⟩, 5), (⟨"ScopedMemory", "dropEntry", "(I)V"⟩, 8), (⟨"ScopedMemory", "emptyScope", "(I)V"⟩, 8), (⟨"ScopedMemory", "drop", "(I)V"⟩, 8)]
theorem lw_r1 : ∀ q ∈ lw_privs_1, lw_okq q := List.forall_mem_cons.mpr ⟨lw_p0, List.forall_mem_cons.mpr ⟨lw_p1, List.forall_mem_cons.mpr ⟨lw_p2, List.forall_mem_cons.mpr ⟨lw_p3, List.forall_mem_cons.mpr ⟨lw_p4, List.forall_mem_cons.mpr ⟨lw_p5, List.forall_mem_cons.mpr ⟨lw_p6, List.forall_mem_cons.mpr ⟨lw_p7, List.forall_mem_cons.mpr ⟨lw_p8, List.forall_mem_cons.mpr ⟨lw_p9, List.forall_mem_cons.mpr ⟨lw_p10, List.forall_mem_cons.mpr ⟨lw_p11, List.forall_mem_cons.mpr ⟨lw_p12, List.forall_mem_cons.mpr ⟨lw_p13, List.forall_mem_cons.mpr ⟨lw_p14, List.forall_mem_cons.mpr ⟨lw_p15, fun _ h => absurd h List.not_mem_nil⟩⟩⟩⟩⟩⟩⟩⟩⟩⟩⟩⟩⟩⟩⟩⟩
theorem lw_p16 : lw_okq (⟨"ScopedMemory", "leastFreeNumber", "()I"⟩, 8) := ⟨⟨by decide +kernel, by decide +kernel⟩, List.mem_of_getElem? (i := 8) (by decide +kernel), List.mem_of_getElem? (i := 218) (by decide +kernel), List.mem_of_getElem? (i := 219) (by decide +kernel)⟩
theorem lw_p17 : lw_okq (⟨"ScopedMemory$Area", "free", "()I"⟩, 5) := ⟨⟨by decide +kernel, by decide +kernel⟩, List.mem_of_getElem? (i := 21) (by decide +kernel), List.mem_of_getElem? (i := 222) (by decide +kernel), List.mem_of_getElem? (i := 223) (by decide +kernel)⟩
theorem lw_p18 : lw_okq (⟨"ScopedMemory$Cell", "fill", "(II)V"⟩, 4) := ⟨⟨by decide +kernel, by decide +kernel⟩, List.mem_of_getElem? (i := 47) (by decide +kernel), List.mem_of_getElem? (i := 226) (by decide +kernel), List.mem_of_getElem? (i := 227) (by decide +kernel)⟩
theorem lw_p19 : lw_okq (⟨"ScopedMemory", "hasField", "(II)Z"⟩, 8) := ⟨⟨by decide +kernel, by decide +kernel⟩, List.mem_of_getElem? (i := 8) (by decide +kernel), List.mem_of_getElem? (i := 234) (by decide +kernel), List.mem_of_getElem? (i := 235) (by decide +kernel)⟩
theorem lw_p20 : lw_okq (⟨"ScopedMemory", "isObject", "(I)Z"⟩, 8) := ⟨⟨by decide +kernel, by decide +kernel⟩, List.mem_of_getElem? (i := 8) (by decide +kernel), List.mem_of_getElem? (i := 238) (by decide +kernel), List.mem_of_getElem? (i := 239) (by decide +kernel)⟩
theorem lw_p21 : lw_okq (⟨"ScopedMemory", "isObjectOrNull", "(I)Z"⟩, 8) := ⟨⟨by decide +kernel, by decide +kernel⟩, List.mem_of_getElem? (i := 8) (by decide +kernel), List.mem_of_getElem? (i := 242) (by decide +kernel), List.mem_of_getElem? (i := 243) (by decide +kernel)⟩
theorem lw_p22 : lw_okq (⟨"ScopedMemory", "sees", "(II)Z"⟩, 8) := ⟨⟨by decide +kernel, by decide +kernel⟩, List.mem_of_getElem? (i := 8) (by decide +kernel), List.mem_of_getElem? (i := 246) (by decide +kernel), List.mem_of_getElem? (i := 247) (by decide +kernel)⟩
theorem lw_p23 : lw_okq (⟨"ScopedMemory", "seesOrNull", "(II)Z"⟩, 8) := ⟨⟨by decide +kernel, by decide +kernel⟩, List.mem_of_getElem? (i := 8) (by decide +kernel), List.mem_of_getElem? (i := 250) (by decide +kernel), List.mem_of_getElem? (i := 251) (by decide +kernel)⟩
theorem lw_p24 : lw_okq (⟨"ScopedMemory", "mayPointTo", "(II)Z"⟩, 8) := ⟨⟨by decide +kernel, by decide +kernel⟩, List.mem_of_getElem? (i := 8) (by decide +kernel), List.mem_of_getElem? (i := 254) (by decide +kernel), List.mem_of_getElem? (i := 255) (by decide +kernel)⟩
theorem lw_p25 : lw_okq (⟨"ScopedMemory", "liesIn", "(II)Z"⟩, 8) := ⟨⟨by decide +kernel, by decide +kernel⟩, List.mem_of_getElem? (i := 8) (by decide +kernel), List.mem_of_getElem? (i := 258) (by decide +kernel), List.mem_of_getElem? (i := 259) (by decide +kernel)⟩
theorem lw_p26 : lw_okq (⟨"ScopedMemory", "findKept", "()V"⟩, 8) := ⟨⟨by decide +kernel, by decide +kernel⟩, List.mem_of_getElem? (i := 8) (by decide +kernel), List.mem_of_getElem? (i := 285) (by decide +kernel), List.mem_of_getElem? (i := 286) (by decide +kernel)⟩
theorem lw_p27 : lw_okq (⟨"ScopedMemory", "keep", "(I)V"⟩, 8) := ⟨⟨by decide +kernel, by decide +kernel⟩, List.mem_of_getElem? (i := 8) (by decide +kernel), List.mem_of_getElem? (i := 289) (by decide +kernel), List.mem_of_getElem? (i := 290) (by decide +kernel)⟩
theorem lw_p28 : lw_okq (⟨"ScopedMemory", "keepFieldsOf", "(I)V"⟩, 8) := ⟨⟨by decide +kernel, by decide +kernel⟩, List.mem_of_getElem? (i := 8) (by decide +kernel), List.mem_of_getElem? (i := 293) (by decide +kernel), List.mem_of_getElem? (i := 294) (by decide +kernel)⟩
theorem lw_p29 : lw_okq (⟨"ScopedMemory$Row", "areaInView", "(I)I"⟩, 5) := ⟨⟨by decide +kernel, by decide +kernel⟩, List.mem_of_getElem? (i := 68) (by decide +kernel), List.mem_of_getElem? (i := 317) (by decide +kernel), List.mem_of_getElem? (i := 318) (by decide +kernel)⟩
theorem lw_p30 : lw_okq (⟨"ScopedMemory", "begunThreads", "()I"⟩, 8) := ⟨⟨by decide +kernel, by decide +kernel⟩, List.mem_of_getElem? (i := 8) (by decide +kernel), List.mem_of_getElem? (i := 325) (by decide +kernel), List.mem_of_getElem? (i := 326) (by decide +kernel)⟩
theorem lw_p31 : lw_okq (⟨"ScopedMemoryModel", "clamp", "(I)I"⟩, 16) := ⟨⟨by decide +kernel, by decide +kernel⟩, List.mem_of_getElem? (i := 332) (by decide +kernel), List.mem_of_getElem? (i := 338) (by decide +kernel), List.mem_of_getElem? (i := 339) (by decide +kernel)⟩
def lw_privs_2 : List (MethodName × Nat) := [(⟨"ScopedMemory", "leastFreeNumber", "()I"⟩, 8), (⟨"ScopedMemory$Area", "free", "()I"⟩, 5), (⟨"ScopedMemory$Cell", "fill", "(II)V"⟩, 4), (⟨"ScopedMemory", "hasField", "(II)Z"⟩, 8), (⟨"ScopedMemory", "isObject", "(I)Z"⟩, 8), (⟨"ScopedMemory", "isObjectOrNull", "(I)Z"⟩, 8), (⟨"ScopedMemory", "sees", "(II)Z"⟩, 8), (⟨"ScopedMemory", "seesOrNull", "(II)Z"⟩, 8), (⟨"ScopedMemory", "mayPointTo", "(II)Z"⟩, 8), (⟨"ScopedMemory", "liesIn", "(II)Z"⟩, 8), (⟨"ScopedMemory", "findKept", "()V"⟩, 8), (⟨"ScopedMemory", "keep", "(I)V"⟩, 8), (⟨"ScopedMemory", "keepFieldsOf", "(I)V"⟩, 8), (⟨"ScopedMemory$Row", "areaInView", "(I)I"⟩, 5), (⟨"ScopedMemory", "begunThreads", "()I"⟩, 8), (⟨"ScopedMemoryModel", "clamp", "(I)I"⟩, 16)]
theorem lw_r2 : ∀ q ∈ lw_privs_2, lw_okq q := List.forall_mem_cons.mpr ⟨lw_p16, List.forall_mem_cons.mpr ⟨lw_p17, List.forall_mem_cons.mpr ⟨lw_p18, List.forall_mem_cons.mpr ⟨lw_p19, List.forall_mem_cons.mpr ⟨lw_p20, List.forall_mem_cons.mpr ⟨lw_p21, List.forall_mem_cons.mpr ⟨lw_p22, List.forall_mem_cons.mpr ⟨lw_p23, List.forall_mem_cons.mpr ⟨lw_p24, List.forall_mem_cons.mpr ⟨lw_p25, List.forall_mem_cons.mpr ⟨lw_p26, List.forall_mem_cons.mpr ⟨lw_p27, List.forall_mem_cons.mpr ⟨lw_p28, List.forall_mem_cons.mpr ⟨lw_p29, List.forall_mem_cons.mpr ⟨lw_p30, List.forall_mem_cons.mpr ⟨lw_p31, fun _ h => absurd h List.not_mem_nil⟩⟩⟩⟩⟩⟩⟩⟩⟩⟩⟩⟩⟩⟩⟩⟩
theorem lw_p32 : lw_okq (⟨"ScopedMemoryModel", "step", "(IIIZ)I"⟩, 16) := ⟨⟨by decide +kernel, by decide +kernel⟩, List.mem_of_getElem? (i := 332) (by decide +kernel), List.mem_of_getElem? (i := 399) (by decide +kernel), List.mem_of_getElem? (i := 400) (by decide +kernel)⟩
theorem lw_p33 : lw_okq (⟨"ScopedMemoryModel", "idle", "(I)Z"⟩, 16) := ⟨⟨by decide +kernel, by decide +kernel⟩, List.mem_of_getElem? (i := 332) (by decide +kernel), List.mem_of_getElem? (i := 407) (by decide +kernel), List.mem_of_getElem? (i := 408) (by decide +kernel)⟩
theorem lw_p34 : lw_okq (⟨"ScopedMemoryModel", "noScope", "(I)Z"⟩, 16) := ⟨⟨by decide +kernel, by decide +kernel⟩, List.mem_of_getElem? (i := 332) (by decide +kernel), List.mem_of_getElem? (i := 411) (by decide +kernel), List.mem_of_getElem? (i := 412) (by decide +kernel)⟩
theorem lw_p35 : lw_okq (⟨"ScopedMemoryModel", "stepWith", "(II)I"⟩, 16) := ⟨⟨by decide +kernel, by decide +kernel⟩, List.mem_of_getElem? (i := 332) (by decide +kernel), List.mem_of_getElem? (i := 415) (by decide +kernel), List.mem_of_getElem? (i := 416) (by decide +kernel)⟩
theorem lw_p36 : lw_okq (⟨"ScopedMemoryModel", "viewed", "(II)I"⟩, 16) := ⟨⟨by decide +kernel, by decide +kernel⟩, List.mem_of_getElem? (i := 332) (by decide +kernel), List.mem_of_getElem? (i := 419) (by decide +kernel), List.mem_of_getElem? (i := 420) (by decide +kernel)⟩
theorem lw_p37 : lw_okq (⟨"ScopedMemoryModel", "nearest", "(I)I"⟩, 16) := ⟨⟨by decide +kernel, by decide +kernel⟩, List.mem_of_getElem? (i := 332) (by decide +kernel), List.mem_of_getElem? (i := 423) (by decide +kernel), List.mem_of_getElem? (i := 424) (by decide +kernel)⟩
theorem lw_p38 : lw_okq (⟨"ScopedMemoryModel", "noArea", "(I)Z"⟩, 16) := ⟨⟨by decide +kernel, by decide +kernel⟩, List.mem_of_getElem? (i := 332) (by decide +kernel), List.mem_of_getElem? (i := 431) (by decide +kernel), List.mem_of_getElem? (i := 432) (by decide +kernel)⟩
theorem lw_p39 : lw_okq (⟨"ScopedMemoryModel", "empty", "(I)V"⟩, 16) := ⟨⟨by decide +kernel, by decide +kernel⟩, List.mem_of_getElem? (i := 332) (by decide +kernel), List.mem_of_getElem? (i := 439) (by decide +kernel), List.mem_of_getElem? (i := 440) (by decide +kernel)⟩
theorem lw_p40 : lw_okq (⟨"ScopedMemoryModel", "current", "(I)I"⟩, 16) := ⟨⟨by decide +kernel, by decide +kernel⟩, List.mem_of_getElem? (i := 332) (by decide +kernel), List.mem_of_getElem? (i := 447) (by decide +kernel), List.mem_of_getElem? (i := 448) (by decide +kernel)⟩
theorem lw_p41 : lw_okq (⟨"ScopedMemoryModel", "used", "(I)I"⟩, 16) := ⟨⟨by decide +kernel, by decide +kernel⟩, List.mem_of_getElem? (i := 332) (by decide +kernel), List.mem_of_getElem? (i := 451) (by decide +kernel), List.mem_of_getElem? (i := 452) (by decide +kernel)⟩
theorem lw_p42 : lw_okq (⟨"ScopedMemoryModel", "noObject", "(I)Z"⟩, 16) := ⟨⟨by decide +kernel, by decide +kernel⟩, List.mem_of_getElem? (i := 332) (by decide +kernel), List.mem_of_getElem? (i := 459) (by decide +kernel), List.mem_of_getElem? (i := 460) (by decide +kernel)⟩
theorem lw_p43 : lw_okq (⟨"ScopedMemoryModel", "sees", "(II)Z"⟩, 16) := ⟨⟨by decide +kernel, by decide +kernel⟩, List.mem_of_getElem? (i := 332) (by decide +kernel), List.mem_of_getElem? (i := 463) (by decide +kernel), List.mem_of_getElem? (i := 464) (by decide +kernel)⟩
theorem lw_p44 : lw_okq (⟨"ScopedMemoryModel", "mayPoint", "(II)Z"⟩, 16) := ⟨⟨by decide +kernel, by decide +kernel⟩, List.mem_of_getElem? (i := 332) (by decide +kernel), List.mem_of_getElem? (i := 467) (by decide +kernel), List.mem_of_getElem? (i := 468) (by decide +kernel)⟩
theorem lw_p45 : lw_okq (⟨"ScopedMemoryModel", "liesIn", "(II)Z"⟩, 16) := ⟨⟨by decide +kernel, by decide +kernel⟩, List.mem_of_getElem? (i := 332) (by decide +kernel), List.mem_of_getElem? (i := 471) (by decide +kernel), List.mem_of_getElem? (i := 472) (by decide +kernel)⟩
theorem lw_p46 : lw_okq (⟨"ScopedMemoryModel", "keep", "()I"⟩, 16) := ⟨⟨by decide +kernel, by decide +kernel⟩, List.mem_of_getElem? (i := 332) (by decide +kernel), List.mem_of_getElem? (i := 495) (by decide +kernel), List.mem_of_getElem? (i := 496) (by decide +kernel)⟩
theorem lw_p47 : lw_okq (⟨"ScopedMemoryModel", "keeps", "(I)Z"⟩, 16) := ⟨⟨by decide +kernel, by decide +kernel⟩, List.mem_of_getElem? (i := 332) (by decide +kernel), List.mem_of_getElem? (i := 499) (by decide +kernel), List.mem_of_getElem? (i := 500) (by decide +kernel)⟩
def lw_privs_3 : List (MethodName × Nat) := [(⟨"ScopedMemoryModel", "step", "(IIIZ)I"⟩, 16), (⟨"ScopedMemoryModel", "idle", "(I)Z"⟩, 16), (⟨"ScopedMemoryModel", "noScope", "(I)Z"⟩, 16), (⟨"ScopedMemoryModel", "stepWith", "(II)I"⟩, 16), (⟨"ScopedMemoryModel", "viewed", "(II)I"⟩, 16), (⟨"ScopedMemoryModel", "nearest", "(I)I"⟩, 16), (⟨"ScopedMemoryModel", "noArea", "(I)Z"⟩, 16), (⟨"ScopedMemoryModel", "empty", "(I)V"⟩, 16), (⟨"ScopedMemoryModel", "current", "(I)I"⟩, 16), (⟨"ScopedMemoryModel", "used", "(I)I"⟩, 16), (⟨"ScopedMemoryModel", "noObject", "(I)Z"⟩, 16), (⟨"ScopedMemoryModel", "sees", "(II)Z"⟩, 16), (⟨"ScopedMemoryModel", "mayPoint", "(II)Z"⟩, 16), (⟨"ScopedMemoryModel", "liesIn", "(II)Z"⟩, 16), (⟨"ScopedMemoryModel", "keep", "()I"⟩, 16), (⟨"ScopedMemoryModel", "keeps", "(I)Z"⟩, 16)]
theorem lw_r3 : ∀ q ∈ lw_privs_3, lw_okq q := List.forall_mem_cons.mpr ⟨lw_p32, List.forall_mem_cons.mpr ⟨lw_p33, List.forall_mem_cons.mpr ⟨lw_p34, List.forall_mem_cons.mpr ⟨lw_p35, List.forall_mem_cons.mpr ⟨lw_p36, List.forall_mem_cons.mpr ⟨lw_p37, List.forall_mem_cons.mpr ⟨lw_p38, List.forall_mem_cons.mpr ⟨lw_p39, List.forall_mem_cons.mpr ⟨lw_p40, List.forall_mem_cons.mpr ⟨lw_p41, List.forall_mem_cons.mpr ⟨lw_p42, List.forall_mem_cons.mpr ⟨lw_p43, List.forall_mem_cons.mpr ⟨lw_p44, List.forall_mem_cons.mpr ⟨lw_p45, List.forall_mem_cons.mpr ⟨lw_p46, List.forall_mem_cons.mpr ⟨lw_p47, fun _ h => absurd h List.not_mem_nil⟩⟩⟩⟩⟩⟩⟩⟩⟩⟩⟩⟩⟩⟩⟩⟩
def lw_privs : List (MethodName × Nat) := lw_privs_1 ++ (lw_privs_2 ++ (lw_privs_3))
def lw_tbl : List Cond := k2_sels lw_privs ++ tables_1
theorem lw_privs_ok : ∀ q ∈ lw_privs, lw_okq q := by
  show ∀ q ∈ lw_privs_1 ++ (lw_privs_2 ++ (lw_privs_3)), lw_okq q
  exact List.forall_mem_append.mpr ⟨lw_r1, List.forall_mem_append.mpr ⟨lw_r2, lw_r3⟩⟩

def R_Ar : String := "ScopedMemory$Area"
def F_Ar : u_T := fun k => match k with
  | 0 => ("ScopedMemory$Area", "size", "I", false)
  | 1 => ("ScopedMemory$Area", "used", "I", false)
  | 2 => ("ScopedMemory$Area", "entries", "I", false)
  | 3 => ("ScopedMemory$Area", "parent", "I", false)
  | _ => ("ScopedMemory$Area", "portal", "I", false)
def t_Ar : Nat → FieldType := fun k => match k with
  | 0 => .int
  | 1 => .int
  | 2 => .int
  | 3 => .int
  | _ => .int
theorem n_Ar : ∀ a, a < 5 → ∀ b, b < 5 → a ≠ b → (F_Ar a).2.1 ≠ (F_Ar b).2.1 := by decide +kernel
theorem t_Ar_ok : ∀ k, k < 5 → parseFieldDescriptor (F_Ar k).2.2.1 = some (t_Ar k) := by decide +kernel
def R_Ce : String := "ScopedMemory$Cell"
def F_Ce : u_T := fun k => match k with
  | 0 => ("ScopedMemory$Cell", "fields", "[I", true)
  | 1 => ("ScopedMemory$Cell", "area", "I", false)
  | 2 => ("ScopedMemory$Cell", "fieldCount", "I", false)
  | _ => ("ScopedMemory$Cell", "kept", "Z", false)
def t_Ce : Nat → FieldType := fun k => match k with
  | 0 => .array .int
  | 1 => .int
  | 2 => .int
  | _ => .boolean
theorem n_Ce : ∀ a, a < 4 → ∀ b, b < 4 → a ≠ b → (F_Ce a).2.1 ≠ (F_Ce b).2.1 := by decide +kernel
theorem t_Ce_ok : ∀ k, k < 4 → parseFieldDescriptor (F_Ce k).2.2.1 = some (t_Ce k) := by decide +kernel
def R_Ro : String := "ScopedMemory$Row"
def F_Ro : u_T := fun k => match k with
  | 0 => ("ScopedMemory$Row", "stepArea", "[I", true)
  | 1 => ("ScopedMemory$Row", "under", "[I", true)
  | 2 => ("ScopedMemory$Row", "entered", "[Z", true)
  | 3 => ("ScopedMemory$Row", "length", "I", false)
  | _ => ("ScopedMemory$Row", "heapless", "Z", false)
def t_Ro : Nat → FieldType := fun k => match k with
  | 0 => .array .int
  | 1 => .array .int
  | 2 => .array .boolean
  | 3 => .int
  | _ => .boolean
theorem n_Ro : ∀ a, a < 5 → ∀ b, b < 5 → a ≠ b → (F_Ro a).2.1 ≠ (F_Ro b).2.1 := by decide +kernel
theorem t_Ro_ok : ∀ k, k < 5 → parseFieldDescriptor (F_Ro k).2.2.1 = some (t_Ro k) := by decide +kernel
def R_SM : String := "ScopedMemory"
def F_SM : u_T := fun k => match k with
  | 0 => ("ScopedMemory", "areas", "[LScopedMemory$Area;", true)
  | 1 => ("ScopedMemory", "cells", "[LScopedMemory$Cell;", true)
  | 2 => ("ScopedMemory", "rows", "[LScopedMemory$Row;", true)
  | 3 => ("ScopedMemory", "statics", "[I", true)
  | 4 => ("ScopedMemory", "found", "[I", true)
  | 5 => ("ScopedMemory", "foundCount", "I", false)
  | 6 => ("ScopedMemory", "areaCount", "I", false)
  | _ => ("ScopedMemory", "objectCount", "I", false)
def t_SM : Nat → FieldType := fun k => match k with
  | 0 => .array (.object "ScopedMemory$Area")
  | 1 => .array (.object "ScopedMemory$Cell")
  | 2 => .array (.object "ScopedMemory$Row")
  | 3 => .array .int
  | 4 => .array .int
  | 5 => .int
  | 6 => .int
  | _ => .int
theorem n_SM : ∀ a, a < 8 → ∀ b, b < 8 → a ≠ b → (F_SM a).2.1 ≠ (F_SM b).2.1 := by decide +kernel
theorem t_SM_ok : ∀ k, k < 8 → parseFieldDescriptor (F_SM k).2.2.1 = some (t_SM k) := by decide +kernel
def R_MM : String := "ScopedMemoryModel"
def F_MM : u_T := fun k => match k with
  | 0 => ("ScopedMemoryModel", "areas", "I", false)
  | 1 => ("ScopedMemoryModel", "size", "[I", true)
  | 2 => ("ScopedMemoryModel", "entries", "[I", true)
  | 3 => ("ScopedMemoryModel", "parent", "[I", true)
  | 4 => ("ScopedMemoryModel", "portal", "[I", true)
  | 5 => ("ScopedMemoryModel", "area", "[I", true)
  | 6 => ("ScopedMemoryModel", "width", "[I", true)
  | 7 => ("ScopedMemoryModel", "field", "[I", true)
  | 8 => ("ScopedMemoryModel", "kept", "[Z", true)
  | 9 => ("ScopedMemoryModel", "begun", "[Z", true)
  | 10 => ("ScopedMemoryModel", "heapless", "[Z", true)
  | 11 => ("ScopedMemoryModel", "steps", "[I", true)
  | 12 => ("ScopedMemoryModel", "at", "[I", true)
  | 13 => ("ScopedMemoryModel", "under", "[I", true)
  | 14 => ("ScopedMemoryModel", "entered", "[Z", true)
  | _ => ("ScopedMemoryModel", "fixed", "[I", true)
def t_MM : Nat → FieldType := fun k => match k with
  | 0 => .int
  | 1 => .array .int
  | 2 => .array .int
  | 3 => .array .int
  | 4 => .array .int
  | 5 => .array .int
  | 6 => .array .int
  | 7 => .array .int
  | 8 => .array .boolean
  | 9 => .array .boolean
  | 10 => .array .boolean
  | 11 => .array .int
  | 12 => .array .int
  | 13 => .array .int
  | 14 => .array .boolean
  | _ => .array .int
theorem n_MM : ∀ a, a < 16 → ∀ b, b < 16 → a ≠ b → (F_MM a).2.1 ≠ (F_MM b).2.1 := by decide +kernel
theorem t_MM_ok : ∀ k, k < 16 → parseFieldDescriptor (F_MM k).2.2.1 = some (t_MM k) := by decide +kernel
def R_law : String := "ScopedMemoryLaw"
abbrev b_SM_init : ByteArray := prog_1_method_1_code
def y_SM_init : MethodName := ⟨R_SM, "<init>", "(II)V"⟩
abbrev b_Ar_init : ByteArray := prog_2_method_1_code
def y_Ar_init : MethodName := ⟨R_Ar, "<init>", "()V"⟩
abbrev b_Ce_init : ByteArray := prog_3_method_1_code
def y_Ce_init : MethodName := ⟨R_Ce, "<init>", "()V"⟩
abbrev b_Ro_init : ByteArray := prog_4_method_1_code
def y_Ro_init : MethodName := ⟨R_Ro, "<init>", "()V"⟩
abbrev b_SM_clampBaseSize : ByteArray := prog_1_method_20_code
def y_SM_clampBaseSize : MethodName := ⟨R_SM, "clampBaseSize", "(I)I"⟩
abbrev b_SM_scope : ByteArray := prog_1_method_2_code
def y_SM_scope : MethodName := ⟨R_SM, "scope", "(I)I"⟩
abbrev b_SM_begin : ByteArray := prog_1_method_3_code
def y_SM_begin : MethodName := ⟨R_SM, "begin", "(IZ)I"⟩
abbrev b_SM_isThread : ByteArray := prog_1_method_21_code
def y_SM_isThread : MethodName := ⟨R_SM, "isThread", "(I)Z"⟩
abbrev b_SM_isBegun : ByteArray := prog_1_method_22_code
def y_SM_isBegun : MethodName := ⟨R_SM, "isBegun", "(I)Z"⟩
abbrev b_Ro_push : ByteArray := prog_4_method_6_code
def y_Ro_push : MethodName := ⟨R_Ro, "push", "(IIZ)V"⟩
abbrev b_SM_enter : ByteArray := prog_1_method_4_code
def y_SM_enter : MethodName := ⟨R_SM, "enter", "(II)I"⟩
abbrev b_SM_isScope : ByteArray := prog_1_method_24_code
def y_SM_isScope : MethodName := ⟨R_SM, "isScope", "(I)Z"⟩
abbrev b_SM_isArea : ByteArray := prog_1_method_23_code
def y_SM_isArea : MethodName := ⟨R_SM, "isArea", "(I)Z"⟩
abbrev b_Ro_nearestScope : ByteArray := prog_4_method_11_code
def y_Ro_nearestScope : MethodName := ⟨R_Ro, "nearestScope", "()I"⟩
abbrev b_Ro_top : ByteArray := prog_4_method_2_code
def y_Ro_top : MethodName := ⟨R_Ro, "top", "()I"⟩
abbrev b_Ro_hasInView : ByteArray := prog_4_method_9_code
def y_Ro_hasInView : MethodName := ⟨R_Ro, "hasInView", "(I)Z"⟩
abbrev b_Ro_firstWith : ByteArray := prog_4_method_8_code
def y_Ro_firstWith : MethodName := ⟨R_Ro, "firstWith", "(I)I"⟩
abbrev b_Ro_isFull : ByteArray := prog_4_method_3_code
def y_Ro_isFull : MethodName := ⟨R_Ro, "isFull", "()Z"⟩
abbrev b_SM_turn : ByteArray := prog_1_method_5_code
def y_SM_turn : MethodName := ⟨R_SM, "turn", "(II)I"⟩
abbrev b_Ro_underOfFirstWith : ByteArray := prog_4_method_10_code
def y_Ro_underOfFirstWith : MethodName := ⟨R_Ro, "underOfFirstWith", "(I)I"⟩
abbrev b_SM_leave : ByteArray := prog_1_method_6_code
def y_SM_leave : MethodName := ⟨R_SM, "leave", "(I)I"⟩
abbrev b_Ro_currentArea : ByteArray := prog_4_method_4_code
def y_Ro_currentArea : MethodName := ⟨R_Ro, "currentArea", "()I"⟩
abbrev b_Ro_topWasEntered : ByteArray := prog_4_method_5_code
def y_Ro_topWasEntered : MethodName := ⟨R_Ro, "topWasEntered", "()Z"⟩
abbrev b_Ro_pop : ByteArray := prog_4_method_7_code
def y_Ro_pop : MethodName := ⟨R_Ro, "pop", "()V"⟩
abbrev b_SM_dropEntry : ByteArray := prog_1_method_36_code
def y_SM_dropEntry : MethodName := ⟨R_SM, "dropEntry", "(I)V"⟩
abbrev b_SM_emptyScope : ByteArray := prog_1_method_37_code
def y_SM_emptyScope : MethodName := ⟨R_SM, "emptyScope", "(I)V"⟩
abbrev b_SM_drop : ByteArray := prog_1_method_35_code
def y_SM_drop : MethodName := ⟨R_SM, "drop", "(I)V"⟩
abbrev b_SM_make : ByteArray := prog_1_method_7_code
def y_SM_make : MethodName := ⟨R_SM, "make", "(II)I"⟩
abbrev b_SM_leastFreeNumber : ByteArray := prog_1_method_34_code
def y_SM_leastFreeNumber : MethodName := ⟨R_SM, "leastFreeNumber", "()I"⟩
abbrev b_Ar_free : ByteArray := prog_2_method_2_code
def y_Ar_free : MethodName := ⟨R_Ar, "free", "()I"⟩
abbrev b_Ce_fill : ByteArray := prog_3_method_2_code
def y_Ce_fill : MethodName := ⟨R_Ce, "fill", "(II)V"⟩
abbrev b_SM_put : ByteArray := prog_1_method_8_code
def y_SM_put : MethodName := ⟨R_SM, "put", "(IIII)I"⟩
abbrev b_SM_hasField : ByteArray := prog_1_method_27_code
def y_SM_hasField : MethodName := ⟨R_SM, "hasField", "(II)Z"⟩
abbrev b_SM_isObject : ByteArray := prog_1_method_25_code
def y_SM_isObject : MethodName := ⟨R_SM, "isObject", "(I)Z"⟩
abbrev b_SM_isObjectOrNull : ByteArray := prog_1_method_26_code
def y_SM_isObjectOrNull : MethodName := ⟨R_SM, "isObjectOrNull", "(I)Z"⟩
abbrev b_SM_sees : ByteArray := prog_1_method_29_code
def y_SM_sees : MethodName := ⟨R_SM, "sees", "(II)Z"⟩
abbrev b_SM_seesOrNull : ByteArray := prog_1_method_30_code
def y_SM_seesOrNull : MethodName := ⟨R_SM, "seesOrNull", "(II)Z"⟩
abbrev b_SM_mayPointTo : ByteArray := prog_1_method_31_code
def y_SM_mayPointTo : MethodName := ⟨R_SM, "mayPointTo", "(II)Z"⟩
abbrev b_SM_liesIn : ByteArray := prog_1_method_32_code
def y_SM_liesIn : MethodName := ⟨R_SM, "liesIn", "(II)Z"⟩
abbrev b_SM_get : ByteArray := prog_1_method_9_code
def y_SM_get : MethodName := ⟨R_SM, "get", "(III)I"⟩
abbrev b_SM_hang : ByteArray := prog_1_method_10_code
def y_SM_hang : MethodName := ⟨R_SM, "hang", "(III)I"⟩
abbrev b_SM_portal : ByteArray := prog_1_method_11_code
def y_SM_portal : MethodName := ⟨R_SM, "portal", "(II)I"⟩
abbrev b_SM_objectOrNull : ByteArray := prog_1_method_28_code
def y_SM_objectOrNull : MethodName := ⟨R_SM, "objectOrNull", "(I)I"⟩
abbrev b_SM_assign : ByteArray := prog_1_method_12_code
def y_SM_assign : MethodName := ⟨R_SM, "assign", "(III)I"⟩
abbrev b_SM_collect : ByteArray := prog_1_method_13_code
def y_SM_collect : MethodName := ⟨R_SM, "collect", "()I"⟩
abbrev b_SM_findKept : ByteArray := prog_1_method_38_code
def y_SM_findKept : MethodName := ⟨R_SM, "findKept", "()V"⟩
abbrev b_SM_keep : ByteArray := prog_1_method_40_code
def y_SM_keep : MethodName := ⟨R_SM, "keep", "(I)V"⟩
abbrev b_SM_keepFieldsOf : ByteArray := prog_1_method_39_code
def y_SM_keepFieldsOf : MethodName := ⟨R_SM, "keepFieldsOf", "(I)V"⟩
abbrev b_SM_areaOf : ByteArray := prog_1_method_14_code
def y_SM_areaOf : MethodName := ⟨R_SM, "areaOf", "(I)I"⟩
abbrev b_SM_room : ByteArray := prog_1_method_15_code
def y_SM_room : MethodName := ⟨R_SM, "room", "(I)I"⟩
abbrev b_SM_parent : ByteArray := prog_1_method_16_code
def y_SM_parent : MethodName := ⟨R_SM, "parent", "(I)I"⟩
abbrev b_SM_entries : ByteArray := prog_1_method_17_code
def y_SM_entries : MethodName := ⟨R_SM, "entries", "(I)I"⟩
abbrev b_SM_view : ByteArray := prog_1_method_18_code
def y_SM_view : MethodName := ⟨R_SM, "view", "(II)I"⟩
abbrev b_Ro_areaInView : ByteArray := prog_4_method_12_code
def y_Ro_areaInView : MethodName := ⟨R_Ro, "areaInView", "(I)I"⟩
abbrev b_SM_count : ByteArray := prog_1_method_19_code
def y_SM_count : MethodName := ⟨R_SM, "count", "(I)I"⟩
abbrev b_SM_begunThreads : ByteArray := prog_1_method_33_code
def y_SM_begunThreads : MethodName := ⟨R_SM, "begunThreads", "()I"⟩
abbrev b_law_cell : ByteArray := method_2_code
def y_law_cell : MethodName := ⟨R_law, "cell", "([II)I"⟩
abbrev b_MM_init : ByteArray := prog_6_method_1_code
def y_MM_init : MethodName := ⟨R_MM, "<init>", "(II)V"⟩
abbrev b_MM_clamp : ByteArray := prog_6_method_2_code
def y_MM_clamp : MethodName := ⟨R_MM, "clamp", "(I)I"⟩
abbrev b_MM_scope : ByteArray := prog_6_method_8_code
def y_MM_scope : MethodName := ⟨R_MM, "scope", "(I)I"⟩
abbrev b_MM_begin : ByteArray := prog_6_method_9_code
def y_MM_begin : MethodName := ⟨R_MM, "begin", "(IZ)I"⟩
abbrev b_MM_step : ByteArray := prog_6_method_10_code
def y_MM_step : MethodName := ⟨R_MM, "step", "(IIIZ)I"⟩
abbrev b_MM_enter : ByteArray := prog_6_method_14_code
def y_MM_enter : MethodName := ⟨R_MM, "enter", "(II)I"⟩
abbrev b_MM_idle : ByteArray := prog_6_method_3_code
def y_MM_idle : MethodName := ⟨R_MM, "idle", "(I)Z"⟩
abbrev b_MM_noScope : ByteArray := prog_6_method_5_code
def y_MM_noScope : MethodName := ⟨R_MM, "noScope", "(I)Z"⟩
abbrev b_MM_stepWith : ByteArray := prog_6_method_12_code
def y_MM_stepWith : MethodName := ⟨R_MM, "stepWith", "(II)I"⟩
abbrev b_MM_viewed : ByteArray := prog_6_method_11_code
def y_MM_viewed : MethodName := ⟨R_MM, "viewed", "(II)I"⟩
abbrev b_MM_nearest : ByteArray := prog_6_method_13_code
def y_MM_nearest : MethodName := ⟨R_MM, "nearest", "(I)I"⟩
abbrev b_MM_turn : ByteArray := prog_6_method_15_code
def y_MM_turn : MethodName := ⟨R_MM, "turn", "(II)I"⟩
abbrev b_MM_noArea : ByteArray := prog_6_method_4_code
def y_MM_noArea : MethodName := ⟨R_MM, "noArea", "(I)Z"⟩
abbrev b_MM_leave : ByteArray := prog_6_method_16_code
def y_MM_leave : MethodName := ⟨R_MM, "leave", "(I)I"⟩
abbrev b_MM_empty : ByteArray := prog_6_method_17_code
def y_MM_empty : MethodName := ⟨R_MM, "empty", "(I)V"⟩
abbrev b_MM_make : ByteArray := prog_6_method_19_code
def y_MM_make : MethodName := ⟨R_MM, "make", "(II)I"⟩
abbrev b_MM_current : ByteArray := prog_6_method_18_code
def y_MM_current : MethodName := ⟨R_MM, "current", "(I)I"⟩
abbrev b_MM_used : ByteArray := prog_6_method_7_code
def y_MM_used : MethodName := ⟨R_MM, "used", "(I)I"⟩
abbrev b_MM_put : ByteArray := prog_6_method_23_code
def y_MM_put : MethodName := ⟨R_MM, "put", "(IIII)I"⟩
abbrev b_MM_noObject : ByteArray := prog_6_method_6_code
def y_MM_noObject : MethodName := ⟨R_MM, "noObject", "(I)Z"⟩
abbrev b_MM_sees : ByteArray := prog_6_method_20_code
def y_MM_sees : MethodName := ⟨R_MM, "sees", "(II)Z"⟩
abbrev b_MM_mayPoint : ByteArray := prog_6_method_22_code
def y_MM_mayPoint : MethodName := ⟨R_MM, "mayPoint", "(II)Z"⟩
abbrev b_MM_liesIn : ByteArray := prog_6_method_21_code
def y_MM_liesIn : MethodName := ⟨R_MM, "liesIn", "(II)Z"⟩
abbrev b_MM_get : ByteArray := prog_6_method_24_code
def y_MM_get : MethodName := ⟨R_MM, "get", "(III)I"⟩
abbrev b_MM_hang : ByteArray := prog_6_method_25_code
def y_MM_hang : MethodName := ⟨R_MM, "hang", "(III)I"⟩
abbrev b_MM_portal : ByteArray := prog_6_method_26_code
def y_MM_portal : MethodName := ⟨R_MM, "portal", "(II)I"⟩
abbrev b_MM_assign : ByteArray := prog_6_method_27_code
def y_MM_assign : MethodName := ⟨R_MM, "assign", "(III)I"⟩
abbrev b_MM_collect : ByteArray := prog_6_method_30_code
def y_MM_collect : MethodName := ⟨R_MM, "collect", "()I"⟩
abbrev b_MM_keep : ByteArray := prog_6_method_28_code
def y_MM_keep : MethodName := ⟨R_MM, "keep", "()I"⟩
abbrev b_MM_keeps : ByteArray := prog_6_method_29_code
def y_MM_keeps : MethodName := ⟨R_MM, "keeps", "(I)Z"⟩
abbrev b_MM_areaOf : ByteArray := prog_6_method_31_code
def y_MM_areaOf : MethodName := ⟨R_MM, "areaOf", "(I)I"⟩
abbrev b_MM_room : ByteArray := prog_6_method_32_code
def y_MM_room : MethodName := ⟨R_MM, "room", "(I)I"⟩
abbrev b_MM_parent : ByteArray := prog_6_method_33_code
def y_MM_parent : MethodName := ⟨R_MM, "parent", "(I)I"⟩
abbrev b_MM_entries : ByteArray := prog_6_method_34_code
def y_MM_entries : MethodName := ⟨R_MM, "entries", "(I)I"⟩
abbrev b_MM_view : ByteArray := prog_6_method_35_code
def y_MM_view : MethodName := ⟨R_MM, "view", "(II)I"⟩
abbrev b_MM_count : ByteArray := prog_6_method_36_code
def y_MM_count : MethodName := ⟨R_MM, "count", "(I)I"⟩
abbrev b_law_law : ByteArray := code
abbrev classes : List vw_C := [(R_Ar, F_Ar, 5), (R_Ce, F_Ce, 4), (R_Ro, F_Ro, 5), (R_SM, F_SM, 8), (R_MM, F_MM, 16)]
abbrev zTy (dA : Nat → ClassId) : List (ClassId × FieldType) := [(dA 0, .int), (dA 1, .boolean), (dA 2, .object R_Ar), (dA 3, .object R_Ce), (dA 4, .object R_Ro)]
abbrev zAO : List String := [R_Ar, R_Ce, R_Ro]
def zR (K : Nat) : Room := { frames := K, cells := 0, slots := 0, locals := 40 * K }
end
section
-- the words of the tables that every method may have: the good ones and the codes; those of nest mates; the classes that arrays are made of
def zIsN : Cond → Bool
  | .fieldLinkNest .. => true
  | .methodLinkNest .. => true
  | _ => false
def zT : List Cond := lw_tbl.filter (fun w => k2_isCode w || goodWord w)
def zN : List Cond := lw_tbl.filter zIsN
theorem zT_good : ∀ w ∈ zT, ((w.onTables && w.keeps) = true ∨ ∃ ty, w = .arrayClass ty) := by
  intro w hw
  have h := (List.mem_filter.mp hw).2
  simp only [Bool.or_eq_true] at h
  rcases h with h | h
  · cases w <;> first | (simp [k2_isCode] at h; done) | exact Or.inl rfl
  · exact good_of_word h
abbrev zW : Type := Nat → Option va_E
abbrev zL : Type := List (Nat × Value)
/-- the cells that are known, by their addresses -/
def zP (D : va_G) (w : zW) (H : Heap) : Prop := ∀ (q : Nat) (e : va_E), w q = some e → va_at D classes (q, e) H
/-- what the tables say, of any state of the run -/
def zKK (D : va_G) (dA : Nat → ClassId) (U : State) : Prop := va_K D classes (zTy dA) U ∧ (∀ w ∈ zN, va_Nw w U) ∧ ∀ C ∈ zAO, va_AO C U
theorem zKK.warm {D : va_G} {dA : Nat → ClassId} {s U : State} (hW : s.WarmedH U.vm) (h : zKK D dA s) : zKK D dA U := by
  refine ⟨va_K.moved hW.alike h.1, fun w hw => ?_, fun C hC => (h.2.2 C hC).moved hW.alike⟩
  have h1 := h.2.1 w hw
  have h2 := (List.mem_filter.mp hw).2
  cases w <;> first | exact va_Nw.warmF hW h1 | exact va_Nw.warmM hW h1 | (simp [zIsN] at h2; done)
theorem zKK.call {D : va_G} {dA : Nat → ClassId} {U : State} {g : JFrame} {mk : MethodId} {a : Array Value} (h : zKK D dA U) : zKK D dA (U.calling g mk a) := by
  refine ⟨va_K.moved (u := U) (U := U.calling g mk a) (Vm.Alike.refl U.vm) h.1, fun w hw => ?_, fun C hC => (h.2.2 C hC).moved (Vm.Alike.refl U.vm)⟩
  have h1 := h.2.1 w hw
  have h2 := (List.mem_filter.mp hw).2
  cases w <;> first | exact va_Nw.same rfl rfl h1 | (simp [zIsN] at h2; done)
theorem zKK.nest {D : va_G} {dA : Nat → ClassId} {U : State} {w : Cond} {A : Array Value} (h : zKK D dA U) (hw : w ∈ zN) : w.before A U = true := by
  have h1 := h.2.1 w hw
  have h2 := (List.mem_filter.mp hw).2
  cases w <;> first | exact va_Nw.use rfl h1 | (simp [zIsN] at h2; done)
-- locals: an association list, the first entry counts
def zH (ls : Array Slot) (nL : Nat) (lv : zL) : Prop := ∃ l0 : zL, lv_has ls nL l0 ∧ ∀ (i : Nat) (v : Value), lv.lookup i = some v → (i, v) ∈ l0 ∧ v.category = 1
theorem zH.size {ls : Array Slot} {nL : Nat} {lv : zL} (h : zH ls nL lv) : ls.size = nL := by
  obtain ⟨l0, h1, -⟩ := h
  exact h1.1
theorem zH.at {ls : Array Slot} {nL : Nat} {lv : zL} {i : Nat} {v : Value} (h : zH ls nL lv) (hv : lv.lookup i = some v) : ls[i]? = some (.val v) := by
  obtain ⟨l0, h1, h2⟩ := h
  exact h1.2.2 (i, v) (h2 i v hv).1
theorem zH.sub {ls : Array Slot} {nL : Nat} {lv lv' : zL} (h : zH ls nL lv) (hs : ∀ (i : Nat) (v : Value), lv'.lookup i = some v → lv.lookup i = some v) : zH ls nL lv' := by
  obtain ⟨l0, h1, h2⟩ := h
  exact ⟨l0, h1, fun i v hv => h2 i v (hs i v hv)⟩
theorem zH.set {ls' : Array Slot} {nL : Nat} {lv l0 : zL} {i : Nat} {v : Value} (hc : v.category = 1) (h' : lv_has ls' nL ((i, v) :: l0.filter (fun q => !(q.1 == i) && !(q.1 + 1 == i && q.2.category == 2)))) (h2 : ∀ (j : Nat) (u : Value), lv.lookup j = some u → (j, u) ∈ l0 ∧ u.category = 1) : zH ls' nL ((i, v) :: lv) := by
  refine ⟨_, h', fun j u hu => ?_⟩
  rw [List.lookup_cons] at hu
  by_cases hj : j = i
  · subst hj
    simp at hu
    subst hu
    exact ⟨List.mem_cons_self, hc⟩
  · have hji : (j == i) = false := by simpa using hj
    rw [hji] at hu
    obtain ⟨a, b⟩ := h2 j u hu
    refine ⟨List.mem_cons_of_mem _ (List.mem_filter.mpr ⟨a, ?_⟩), b⟩
    simp [hj, b]
theorem z_lookup_mem : ∀ (lv : zL) (i : Nat) (v : Value), lv.lookup i = some v → (i, v) ∈ lv
  | [], i, v, h => by simp at h
  | (j, u) :: lv, i, v, h => by
    rw [List.lookup_cons] at h
    by_cases hj : i = j
    · subst hj
      simp at h
      subst h
      exact List.mem_cons_self
    · have hji : (i == j) = false := by simpa using hj
      rw [hji] at h
      exact List.mem_cons_of_mem _ (z_lookup_mem lv i v h)
/-- some of the locals, by their numbers -/
def zpick (lv : zL) (ks : List Nat) : zL := ks.filterMap (fun i => (lv.lookup i).map (fun v => (i, v)))
theorem zpick_ok (lv : zL) : ∀ (ks : List Nat) (i : Nat) (v : Value), (zpick lv ks).lookup i = some v → lv.lookup i = some v := by
  intro ks i v h
  have h1 := z_lookup_mem _ i v h
  obtain ⟨k, -, hk⟩ := List.mem_filterMap.mp h1
  cases hl : lv.lookup k with
  | none => rw [hl] at hk; cases hk
  | some u =>
    rw [hl] at hk
    simp only [Option.map_some, Option.some.injEq, Prod.mk.injEq] at hk
    obtain ⟨rfl, rfl⟩ := hk
    exact hl
/-- what a method has at hand throughout its walk -/
def zC (p : Program) (s : State) (m : MethodId) (args : Array Value) (meth : Method) (c : Code) (cc : ByteArray) (nL : Nat) (own : String) (D : va_G) (dA : Nat → ClassId) : Prop :=
  p.tables.exec = Jvm.exec ∧ c.code = cc ∧ c.maxLocals = nL ∧ s.vm.findClass own = some m.cls ∧ (∀ w ∈ zT, w.before args s = true) ∧ zKK D dA s ∧ meth.locks = false
/-- the frame at pc, with locals and stack, in every heap of size n that holds the world w -/
def zz (p : Program) (l : Launch) (e : Env) (R : Room) (s : State) (m : MethodId) (args : Array Value) (below : List Frame) (meth : Method) (c : Code) (D : va_G) (A : Nat → Prop) (nL : Nat) (Q : State → Prop) (w : zW) (n kc ks pc : Nat) (lv : zL) (st : List Value) : Prop :=
  ∀ (H : Heap) (locs : List Loc) (ls : Array Slot), H.size = n → zP D w H → va_S A s.heap H locs → zH ls nL lv → W p l e R s m args below meth c H locs kc ks Q (F0 m pc ls st)
/-- a method's end: its answer, its world, the heap's size -/
def zQ (D : va_G) (A : Nat → Prop) (r : Option Value) (w' : zW) (n' : Nat) : Array Value → State → Outcome → State → Prop := fun _ st oc t => oc = .returned r ∧ zP D w' t.heap ∧ t.heap.size = n' ∧ va_F A st t
/-- a method's contract -/
def zM (l : Launch) (y : MethodName) (bytes : ByteArray) (maxL : Nat) (ret : Option FieldType) (rm : Room) (D : va_G) (dA : Nat → ClassId) (A : Nat → Prop) (av : List Value) (w : zW) (n : Nat) (r : Option Value) (w' : zW) (n' mc ms : Nat) : Prop :=
  Met l y (.code y bytes maxL ret :: zT) rm (va_Pc av (fun U => U.heap.size = n ∧ zP D w U.heap ∧ zKK D dA U)) (zQ D A r w' n') mc ms A
abbrev zSite (y : MethodName) (n : Nat) : Prop := Cond.initialized y.cls ∈ zT ∧ y.cls ≠ "java/lang/invoke/MethodHandle" ∧ y.cls ≠ "java/lang/invoke/VarHandle" ∧ (parseMethodDescriptor y.desc).map (fun d => d.parameters.length) = some n
abbrev zSiteV (own : String) (idx : Nat) (y : MethodName) (n : Nat) : Prop := (Cond.methodLink own idx y ∈ zT ∧ Cond.instanceMethod y ∈ zT ∧ Cond.selects y.cls y y ∈ zT) ∧ zSite y n
abbrev zSiteVN (own : String) (idx : Nat) (y : MethodName) (host : String) (n : Nat) : Prop := (Cond.methodLinkNest own idx y host ∈ zN ∧ Cond.instanceMethod y ∈ zT ∧ Cond.selects y.cls y y ∈ zT) ∧ zSite y n
abbrev zSiteS (own : String) (idx : Nat) (y : MethodName) (n : Nat) : Prop := (Cond.methodLink own idx y ∈ zT ∧ Cond.static y ∈ zT) ∧ zSite y n
abbrev zSiteI (own : String) (idx : Nat) (y : MethodName) (n : Nat) : Prop := (Cond.methodLink own idx y ∈ zT ∧ Cond.instanceMethod y ∈ zT ∧ y.name = "<init>") ∧ zSite y n
abbrev zSiteIN (own : String) (idx : Nat) (y : MethodName) (host : String) (n : Nat) : Prop := (Cond.methodLinkNest own idx y host ∈ zN ∧ Cond.instanceMethod y ∈ zT ∧ y.name = "<init>") ∧ zSite y n
section ZZ
variable {p : Program} {l : Launch} {e : Env} {R : Room} {s : State} {m : MethodId} {args : Array Value} {below : List Frame} {meth : Method} {c : Code} {cc : ByteArray} {nL : Nat} {own : String} {D : va_G} {dA : Nat → ClassId} {A : Nat → Prop} {Q : State → Prop} {w : zW} {n kc ks pc : Nat} {lv : zL} {st : List Value}
theorem zz_mono {w' : zW} (h : ∀ (q : Nat) (e : va_E), w' q = some e → w q = some e) (k : zz p l e R s m args below meth c D A nL Q w' n kc ks pc lv st) : zz p l e R s m args below meth c D A nL Q w n kc ks pc lv st := fun H locs ls hn hP hS hL => k H locs ls hn (fun q e hq => hP q e (h q e hq)) hS hL
theorem zz_lv (js : List Nat) {lv' : zL} (h : zpick lv js = lv') (k : zz p l e R s m args below meth c D A nL Q w n kc ks pc lv' st) : zz p l e R s m args below meth c D A nL Q w n kc ks pc lv st := fun H locs ls hn hP hS hL => k H locs ls hn hP hS (hL.sub (fun i v hv => zpick_ok lv js i v (by rw [h]; exact hv)))
theorem zz_wide {kc' ks' : Nat} (h1 : kc ≤ kc') (h2 : ks ≤ ks') (k : zz p l e R s m args below meth c D A nL Q w n kc' ks' pc lv st) : zz p l e R s m args below meth c D A nL Q w n kc ks pc lv st := fun H locs ls hn hP hS hL => W.widen h1 h2 (k H locs ls hn hP hS hL)
theorem zz_topi {x : Int32} (k : ∀ y : Int32, y = x → zz p l e R s m args below meth c D A nL Q w n kc ks pc lv (.int y :: st)) : zz p l e R s m args below meth c D A nL Q w n kc ks pc lv (.int x :: st) := k x rfl
theorem zz_iconst (C : zC p s m args meth c cc nL own D dA) {i : Int} {x : Int32} (hd : decode cc pc = .ok (.iconst i, 1)) (hv : Int32.ofInt i = x) (k : zz p l e R s m args below meth c D A nL Q w n kc ks (pc + 1) lv (.int x :: st)) : zz p l e R s m args below meth c D A nL Q w n kc ks pc lv st := fun H locs ls hn hP hS hL => lv_iconst C.1 C.2.1 hd hv (k H locs ls hn hP hS hL)
theorem zz_bipush (C : zC p s m args meth c cc nL own D dA) {i : Int} {x : Int32} (hd : decode cc pc = .ok (.bipush i, 2)) (hv : (Int8.ofInt i).toInt32 = x) (k : zz p l e R s m args below meth c D A nL Q w n kc ks (pc + 2) lv (.int x :: st)) : zz p l e R s m args below meth c D A nL Q w n kc ks pc lv st := fun H locs ls hn hP hS hL => lv_bipush C.1 C.2.1 hd hv (k H locs ls hn hP hS hL)
theorem zz_sipush (C : zC p s m args meth c cc nL own D dA) {i : Int} {x : Int32} (hd : decode cc pc = .ok (.sipush i, 3)) (hv : (Int16.ofInt i).toInt32 = x) (k : zz p l e R s m args below meth c D A nL Q w n kc ks (pc + 3) lv (.int x :: st)) : zz p l e R s m args below meth c D A nL Q w n kc ks pc lv st := fun H locs ls hn hP hS hL => lv_sipush C.1 C.2.1 hd hv (k H locs ls hn hP hS hL)
theorem zz_ldc (C : zC p s m args meth c cc nL own D dA) {i : Nat} {x : Int32} (hc : Cond.constant own i x ∈ zT) (hd : decode cc pc = .ok (.ldc i, 2)) (k : zz p l e R s m args below meth c D A nL Q w n kc ks (pc + 2) lv (.int x :: st)) : zz p l e R s m args below meth c D A nL Q w n kc ks pc lv st := fun H locs ls hn hP hS hL => lv_ldc C.1 C.2.1 C.2.2.2.1 (C.2.2.2.2.1 _ hc) hd (k H locs ls hn hP hS hL)
theorem zz_iload_n (C : zC p s m args meth c cc nL own D dA) {j : Fin 4} {x : Int32} (hd : decode cc pc = .ok (.iload_n j, 1)) (hv : lv.lookup (j : Nat) = some (.int x)) (k : zz p l e R s m args below meth c D A nL Q w n kc ks (pc + 1) lv (.int x :: st)) : zz p l e R s m args below meth c D A nL Q w n kc ks pc lv st := fun H locs ls hn hP hS hL => lv_iload_n C.1 C.2.1 hd rfl (hL.at hv) (k H locs ls hn hP hS hL)
theorem zz_iload (C : zC p s m args meth c cc nL own D dA) {i : Nat} {x : Int32} (hd : decode cc pc = .ok (.iload i, 2)) (hv : lv.lookup i = some (.int x)) (k : zz p l e R s m args below meth c D A nL Q w n kc ks (pc + 2) lv (.int x :: st)) : zz p l e R s m args below meth c D A nL Q w n kc ks pc lv st := fun H locs ls hn hP hS hL => lv_iload C.1 C.2.1 hd (hL.at hv) (k H locs ls hn hP hS hL)
theorem zz_istore_n (C : zC p s m args meth c cc nL own D dA) {j : Fin 4} {x : Int32} (hd : decode cc pc = .ok (.istore_n j, 1)) (hi : (j : Nat) < nL) (k : zz p l e R s m args below meth c D A nL Q w n kc ks (pc + 1) (((j : Nat), Value.int x) :: lv) st) : zz p l e R s m args below meth c D A nL Q w n kc ks pc lv (.int x :: st) := by
  intro H locs ls hn hP hS hL
  obtain ⟨l0, h1, h2⟩ := hL
  exact lv_istore_n C.1 C.2.1 hd rfl h1 hi rfl (fun ls' h' => k H locs ls' hn hP hS (zH.set rfl h' h2))
theorem zz_istore (C : zC p s m args meth c cc nL own D dA) {i : Nat} {x : Int32} (hd : decode cc pc = .ok (.istore i, 2)) (hi : i < nL) (k : zz p l e R s m args below meth c D A nL Q w n kc ks (pc + 2) ((i, Value.int x) :: lv) st) : zz p l e R s m args below meth c D A nL Q w n kc ks pc lv (.int x :: st) := by
  intro H locs ls hn hP hS hL
  obtain ⟨l0, h1, h2⟩ := hL
  exact lv_istore C.1 C.2.1 hd h1 hi rfl (fun ls' h' => k H locs ls' hn hP hS (zH.set rfl h' h2))
theorem zz_aload_n (C : zC p s m args meth c cc nL own D dA) {j : Fin 4} {x : Nat} (hd : decode cc pc = .ok (.aload_n j, 1)) (hv : lv.lookup (j : Nat) = some (.ref x)) (k : zz p l e R s m args below meth c D A nL Q w n kc ks (pc + 1) lv (.ref x :: st)) : zz p l e R s m args below meth c D A nL Q w n kc ks pc lv st := fun H locs ls hn hP hS hL => lv_aload_n C.1 C.2.1 hd rfl (hL.at hv) (k H locs ls hn hP hS hL)
theorem zz_aload (C : zC p s m args meth c cc nL own D dA) {i : Nat} {x : Nat} (hd : decode cc pc = .ok (.aload i, 2)) (hv : lv.lookup i = some (.ref x)) (k : zz p l e R s m args below meth c D A nL Q w n kc ks (pc + 2) lv (.ref x :: st)) : zz p l e R s m args below meth c D A nL Q w n kc ks pc lv st := fun H locs ls hn hP hS hL => lv_aload C.1 C.2.1 hd (hL.at hv) (k H locs ls hn hP hS hL)
theorem zz_astore_n (C : zC p s m args meth c cc nL own D dA) {j : Fin 4} {x : Nat} (hd : decode cc pc = .ok (.astore_n j, 1)) (hi : (j : Nat) < nL) (k : zz p l e R s m args below meth c D A nL Q w n kc ks (pc + 1) (((j : Nat), Value.ref x) :: lv) st) : zz p l e R s m args below meth c D A nL Q w n kc ks pc lv (.ref x :: st) := by
  intro H locs ls hn hP hS hL
  obtain ⟨l0, h1, h2⟩ := hL
  exact lv_astore_n C.1 C.2.1 hd rfl h1 hi rfl (fun ls' h' => k H locs ls' hn hP hS (zH.set rfl h' h2))
theorem zz_astore (C : zC p s m args meth c cc nL own D dA) {i : Nat} {x : Nat} (hd : decode cc pc = .ok (.astore i, 2)) (hi : i < nL) (k : zz p l e R s m args below meth c D A nL Q w n kc ks (pc + 2) ((i, Value.ref x) :: lv) st) : zz p l e R s m args below meth c D A nL Q w n kc ks pc lv (.ref x :: st) := by
  intro H locs ls hn hP hS hL
  obtain ⟨l0, h1, h2⟩ := hL
  exact lv_astore C.1 C.2.1 hd h1 hi rfl (fun ls' h' => k H locs ls' hn hP hS (zH.set rfl h' h2))
theorem zz_iinc (C : zC p s m args meth c cc nL own D dA) {i : Nat} {d : Int} {x d' : Int32} (hd : decode cc pc = .ok (.iinc i d, 3)) (hx : lv.lookup i = some (.int x)) (hv : Int32.ofInt d = d') (hi : i < nL) (k : zz p l e R s m args below meth c D A nL Q w n kc ks (pc + 3) ((i, Value.int (x + d')) :: lv) st) : zz p l e R s m args below meth c D A nL Q w n kc ks pc lv st := by
  intro H locs ls hn hP hS hL
  obtain ⟨l0, h1, h2⟩ := hL
  obtain ⟨k0, hk0⟩ := List.getElem?_of_mem (h2 i _ hx).1
  exact lv_iinc C.1 C.2.1 hd h1 hk0 (by rw [hv]) hi rfl (fun ls' h' => k H locs ls' hn hP hS (zH.set rfl h' h2))
theorem zz_iadd (C : zC p s m args meth c cc nL own D dA) {x y : Int32} (hd : decode cc pc = .ok (.iadd, 1)) (k : zz p l e R s m args below meth c D A nL Q w n kc ks (pc + 1) lv (.int (x + y) :: st)) : zz p l e R s m args below meth c D A nL Q w n kc ks pc lv (.int y :: .int x :: st) := fun H locs ls hn hP hS hL => lv_iadd C.1 C.2.1 hd (k H locs ls hn hP hS hL)
theorem zz_isub (C : zC p s m args meth c cc nL own D dA) {x y : Int32} (hd : decode cc pc = .ok (.isub, 1)) (k : zz p l e R s m args below meth c D A nL Q w n kc ks (pc + 1) lv (.int (x - y) :: st)) : zz p l e R s m args below meth c D A nL Q w n kc ks pc lv (.int y :: .int x :: st) := fun H locs ls hn hP hS hL => lv_isub C.1 C.2.1 hd (k H locs ls hn hP hS hL)
theorem zz_imul (C : zC p s m args meth c cc nL own D dA) {x y : Int32} (hd : decode cc pc = .ok (.imul, 1)) (k : zz p l e R s m args below meth c D A nL Q w n kc ks (pc + 1) lv (.int (x * y) :: st)) : zz p l e R s m args below meth c D A nL Q w n kc ks pc lv (.int y :: .int x :: st) := fun H locs ls hn hP hS hL => lv_imul C.1 C.2.1 hd (k H locs ls hn hP hS hL)
theorem zz_iand (C : zC p s m args meth c cc nL own D dA) {x y : Int32} (hd : decode cc pc = .ok (.iand, 1)) (k : zz p l e R s m args below meth c D A nL Q w n kc ks (pc + 1) lv (.int (x &&& y) :: st)) : zz p l e R s m args below meth c D A nL Q w n kc ks pc lv (.int y :: .int x :: st) := fun H locs ls hn hP hS hL => lv_iand C.1 C.2.1 hd (k H locs ls hn hP hS hL)
theorem zz_ior (C : zC p s m args meth c cc nL own D dA) {x y : Int32} (hd : decode cc pc = .ok (.ior, 1)) (k : zz p l e R s m args below meth c D A nL Q w n kc ks (pc + 1) lv (.int (x ||| y) :: st)) : zz p l e R s m args below meth c D A nL Q w n kc ks pc lv (.int y :: .int x :: st) := fun H locs ls hn hP hS hL => lv_ior C.1 C.2.1 hd (k H locs ls hn hP hS hL)
theorem zz_ixor (C : zC p s m args meth c cc nL own D dA) {x y : Int32} (hd : decode cc pc = .ok (.ixor, 1)) (k : zz p l e R s m args below meth c D A nL Q w n kc ks (pc + 1) lv (.int (x ^^^ y) :: st)) : zz p l e R s m args below meth c D A nL Q w n kc ks pc lv (.int y :: .int x :: st) := fun H locs ls hn hP hS hL => lv_ixor C.1 C.2.1 hd (k H locs ls hn hP hS hL)
theorem zz_idiv (C : zC p s m args meth c cc nL own D dA) {x y : Int32} (hd : decode cc pc = .ok (.idiv, 1)) (hne : ¬ y = 0) (k : zz p l e R s m args below meth c D A nL Q w n kc ks (pc + 1) lv (.int (x / y) :: st)) : zz p l e R s m args below meth c D A nL Q w n kc ks pc lv (.int y :: .int x :: st) := fun H locs ls hn hP hS hL => lv_idiv C.1 C.2.1 hd hne (k H locs ls hn hP hS hL)
theorem zz_irem (C : zC p s m args meth c cc nL own D dA) {x y : Int32} (hd : decode cc pc = .ok (.irem, 1)) (hne : ¬ y = 0) (k : zz p l e R s m args below meth c D A nL Q w n kc ks (pc + 1) lv (.int (x - x / y * y) :: st)) : zz p l e R s m args below meth c D A nL Q w n kc ks pc lv (.int y :: .int x :: st) := fun H locs ls hn hP hS hL => lv_irem C.1 C.2.1 hd hne (k H locs ls hn hP hS hL)
theorem zz_ineg (C : zC p s m args meth c cc nL own D dA) {x : Int32} (hd : decode cc pc = .ok (.ineg, 1)) (k : zz p l e R s m args below meth c D A nL Q w n kc ks (pc + 1) lv (.int (-x) :: st)) : zz p l e R s m args below meth c D A nL Q w n kc ks pc lv (.int x :: st) := fun H locs ls hn hP hS hL => lv_ineg C.1 C.2.1 hd (k H locs ls hn hP hS hL)
theorem zz_dup (C : zC p s m args meth c cc nL own D dA) {v : Value} (hd : decode cc pc = .ok (.dup, 1)) (hv : v.category = 1) (k : zz p l e R s m args below meth c D A nL Q w n kc ks (pc + 1) lv (v :: v :: st)) : zz p l e R s m args below meth c D A nL Q w n kc ks pc lv (v :: st) := fun H locs ls hn hP hS hL => lv_dup C.1 C.2.1 hd hv (k H locs ls hn hP hS hL)
theorem zz_pop (C : zC p s m args meth c cc nL own D dA) {v : Value} (hd : decode cc pc = .ok (.pop, 1)) (hv : v.category = 1) (k : zz p l e R s m args below meth c D A nL Q w n kc ks (pc + 1) lv st) : zz p l e R s m args below meth c D A nL Q w n kc ks pc lv (v :: st) := fun H locs ls hn hP hS hL => lv_pop C.1 C.2.1 hd hv (k H locs ls hn hP hS hL)
theorem zz_dup_x1 (C : zC p s m args meth c cc nL own D dA) {u v : Value} (hd : decode cc pc = .ok (.dup_x1, 1)) (hu : u.category = 1) (hv : v.category = 1) (k : zz p l e R s m args below meth c D A nL Q w n kc ks (pc + 1) lv (u :: v :: u :: st)) : zz p l e R s m args below meth c D A nL Q w n kc ks pc lv (u :: v :: st) := fun H locs ls hn hP hS hL => lv_dup_x1 C.1 C.2.1 hd hu hv (k H locs ls hn hP hS hL)
theorem zz_dup2 (C : zC p s m args meth c cc nL own D dA) {u v : Value} (hd : decode cc pc = .ok (.dup2, 1)) (hu : u.category = 1) (hv : v.category = 1) (k : zz p l e R s m args below meth c D A nL Q w n kc ks (pc + 1) lv (u :: v :: u :: v :: st)) : zz p l e R s m args below meth c D A nL Q w n kc ks pc lv (u :: v :: st) := fun H locs ls hn hP hS hL => lv_dup2_11 C.1 C.2.1 hd hu hv (k H locs ls hn hP hS hL)
theorem zz_if_eq (C : zC p s m args meth c cc nL own D dA) {x : Int32} {off : Int} {tgt : Nat} (hd : decode cc pc = .ok (.ifCond .eq off, 3)) (ht : (pc : Int) + off = (tgt : Int)) (kt : x = 0 → zz p l e R s m args below meth c D A nL Q w n kc ks tgt lv st) (kf : ¬ x = 0 → zz p l e R s m args below meth c D A nL Q w n kc ks (pc + 3) lv st) : zz p l e R s m args below meth c D A nL Q w n kc ks pc lv (.int x :: st) := fun H locs ls hn hP hS hL => lv_if_eq C.1 C.2.1 hd ht (fun h => kt h H locs ls hn hP hS hL) (fun h => kf h H locs ls hn hP hS hL)
theorem zz_icmp_eq (C : zC p s m args meth c cc nL own D dA) {x y : Int32} {off : Int} {tgt : Nat} (hd : decode cc pc = .ok (.if_icmp .eq off, 3)) (ht : (pc : Int) + off = (tgt : Int)) (kt : x = y → zz p l e R s m args below meth c D A nL Q w n kc ks tgt lv st) (kf : ¬ x = y → zz p l e R s m args below meth c D A nL Q w n kc ks (pc + 3) lv st) : zz p l e R s m args below meth c D A nL Q w n kc ks pc lv (.int y :: .int x :: st) := fun H locs ls hn hP hS hL => lv_icmp_eq C.1 C.2.1 hd ht (fun h => kt h H locs ls hn hP hS hL) (fun h => kf h H locs ls hn hP hS hL)
theorem zz_if_ne (C : zC p s m args meth c cc nL own D dA) {x : Int32} {off : Int} {tgt : Nat} (hd : decode cc pc = .ok (.ifCond .ne off, 3)) (ht : (pc : Int) + off = (tgt : Int)) (kt : ¬ x = 0 → zz p l e R s m args below meth c D A nL Q w n kc ks tgt lv st) (kf : x = 0 → zz p l e R s m args below meth c D A nL Q w n kc ks (pc + 3) lv st) : zz p l e R s m args below meth c D A nL Q w n kc ks pc lv (.int x :: st) := fun H locs ls hn hP hS hL => lv_if_ne C.1 C.2.1 hd ht (fun h => kt h H locs ls hn hP hS hL) (fun h => kf h H locs ls hn hP hS hL)
theorem zz_icmp_ne (C : zC p s m args meth c cc nL own D dA) {x y : Int32} {off : Int} {tgt : Nat} (hd : decode cc pc = .ok (.if_icmp .ne off, 3)) (ht : (pc : Int) + off = (tgt : Int)) (kt : ¬ x = y → zz p l e R s m args below meth c D A nL Q w n kc ks tgt lv st) (kf : x = y → zz p l e R s m args below meth c D A nL Q w n kc ks (pc + 3) lv st) : zz p l e R s m args below meth c D A nL Q w n kc ks pc lv (.int y :: .int x :: st) := fun H locs ls hn hP hS hL => lv_icmp_ne C.1 C.2.1 hd ht (fun h => kt h H locs ls hn hP hS hL) (fun h => kf h H locs ls hn hP hS hL)
theorem zz_if_lt (C : zC p s m args meth c cc nL own D dA) {x : Int32} {off : Int} {tgt : Nat} (hd : decode cc pc = .ok (.ifCond .lt off, 3)) (ht : (pc : Int) + off = (tgt : Int)) (kt : x < 0 → zz p l e R s m args below meth c D A nL Q w n kc ks tgt lv st) (kf : ¬ x < 0 → zz p l e R s m args below meth c D A nL Q w n kc ks (pc + 3) lv st) : zz p l e R s m args below meth c D A nL Q w n kc ks pc lv (.int x :: st) := fun H locs ls hn hP hS hL => lv_if_lt C.1 C.2.1 hd ht (fun h => kt h H locs ls hn hP hS hL) (fun h => kf h H locs ls hn hP hS hL)
theorem zz_icmp_lt (C : zC p s m args meth c cc nL own D dA) {x y : Int32} {off : Int} {tgt : Nat} (hd : decode cc pc = .ok (.if_icmp .lt off, 3)) (ht : (pc : Int) + off = (tgt : Int)) (kt : x < y → zz p l e R s m args below meth c D A nL Q w n kc ks tgt lv st) (kf : ¬ x < y → zz p l e R s m args below meth c D A nL Q w n kc ks (pc + 3) lv st) : zz p l e R s m args below meth c D A nL Q w n kc ks pc lv (.int y :: .int x :: st) := fun H locs ls hn hP hS hL => lv_icmp_lt C.1 C.2.1 hd ht (fun h => kt h H locs ls hn hP hS hL) (fun h => kf h H locs ls hn hP hS hL)
theorem zz_if_ge (C : zC p s m args meth c cc nL own D dA) {x : Int32} {off : Int} {tgt : Nat} (hd : decode cc pc = .ok (.ifCond .ge off, 3)) (ht : (pc : Int) + off = (tgt : Int)) (kt : 0 ≤ x → zz p l e R s m args below meth c D A nL Q w n kc ks tgt lv st) (kf : ¬ 0 ≤ x → zz p l e R s m args below meth c D A nL Q w n kc ks (pc + 3) lv st) : zz p l e R s m args below meth c D A nL Q w n kc ks pc lv (.int x :: st) := fun H locs ls hn hP hS hL => lv_if_ge C.1 C.2.1 hd ht (fun h => kt h H locs ls hn hP hS hL) (fun h => kf h H locs ls hn hP hS hL)
theorem zz_icmp_ge (C : zC p s m args meth c cc nL own D dA) {x y : Int32} {off : Int} {tgt : Nat} (hd : decode cc pc = .ok (.if_icmp .ge off, 3)) (ht : (pc : Int) + off = (tgt : Int)) (kt : y ≤ x → zz p l e R s m args below meth c D A nL Q w n kc ks tgt lv st) (kf : ¬ y ≤ x → zz p l e R s m args below meth c D A nL Q w n kc ks (pc + 3) lv st) : zz p l e R s m args below meth c D A nL Q w n kc ks pc lv (.int y :: .int x :: st) := fun H locs ls hn hP hS hL => lv_icmp_ge C.1 C.2.1 hd ht (fun h => kt h H locs ls hn hP hS hL) (fun h => kf h H locs ls hn hP hS hL)
theorem zz_if_gt (C : zC p s m args meth c cc nL own D dA) {x : Int32} {off : Int} {tgt : Nat} (hd : decode cc pc = .ok (.ifCond .gt off, 3)) (ht : (pc : Int) + off = (tgt : Int)) (kt : 0 < x → zz p l e R s m args below meth c D A nL Q w n kc ks tgt lv st) (kf : ¬ 0 < x → zz p l e R s m args below meth c D A nL Q w n kc ks (pc + 3) lv st) : zz p l e R s m args below meth c D A nL Q w n kc ks pc lv (.int x :: st) := fun H locs ls hn hP hS hL => lv_if_gt C.1 C.2.1 hd ht (fun h => kt h H locs ls hn hP hS hL) (fun h => kf h H locs ls hn hP hS hL)
theorem zz_icmp_gt (C : zC p s m args meth c cc nL own D dA) {x y : Int32} {off : Int} {tgt : Nat} (hd : decode cc pc = .ok (.if_icmp .gt off, 3)) (ht : (pc : Int) + off = (tgt : Int)) (kt : y < x → zz p l e R s m args below meth c D A nL Q w n kc ks tgt lv st) (kf : ¬ y < x → zz p l e R s m args below meth c D A nL Q w n kc ks (pc + 3) lv st) : zz p l e R s m args below meth c D A nL Q w n kc ks pc lv (.int y :: .int x :: st) := fun H locs ls hn hP hS hL => lv_icmp_gt C.1 C.2.1 hd ht (fun h => kt h H locs ls hn hP hS hL) (fun h => kf h H locs ls hn hP hS hL)
theorem zz_if_le (C : zC p s m args meth c cc nL own D dA) {x : Int32} {off : Int} {tgt : Nat} (hd : decode cc pc = .ok (.ifCond .le off, 3)) (ht : (pc : Int) + off = (tgt : Int)) (kt : x ≤ 0 → zz p l e R s m args below meth c D A nL Q w n kc ks tgt lv st) (kf : ¬ x ≤ 0 → zz p l e R s m args below meth c D A nL Q w n kc ks (pc + 3) lv st) : zz p l e R s m args below meth c D A nL Q w n kc ks pc lv (.int x :: st) := fun H locs ls hn hP hS hL => lv_if_le C.1 C.2.1 hd ht (fun h => kt h H locs ls hn hP hS hL) (fun h => kf h H locs ls hn hP hS hL)
theorem zz_icmp_le (C : zC p s m args meth c cc nL own D dA) {x y : Int32} {off : Int} {tgt : Nat} (hd : decode cc pc = .ok (.if_icmp .le off, 3)) (ht : (pc : Int) + off = (tgt : Int)) (kt : x ≤ y → zz p l e R s m args below meth c D A nL Q w n kc ks tgt lv st) (kf : ¬ x ≤ y → zz p l e R s m args below meth c D A nL Q w n kc ks (pc + 3) lv st) : zz p l e R s m args below meth c D A nL Q w n kc ks pc lv (.int y :: .int x :: st) := fun H locs ls hn hP hS hL => lv_icmp_le C.1 C.2.1 hd ht (fun h => kt h H locs ls hn hP hS hL) (fun h => kf h H locs ls hn hP hS hL)
theorem zz_goto (C : zC p s m args meth c cc nL own D dA) {off : Int} {tgt : Nat} (hd : decode cc pc = .ok (.goto off, 3)) (ht : (pc : Int) + off = (tgt : Int)) (k : zz p l e R s m args below meth c D A nL Q w n kc ks tgt lv st) : zz p l e R s m args below meth c D A nL Q w n kc ks pc lv st := fun H locs ls hn hP hS hL => lv_goto C.1 C.2.1 hd ht (k H locs ls hn hP hS hL)
theorem zz_tableOut (C : zC p s m args meth c cc nL own D dA) {dflt lo hi : Int} {offs : Array Int} {len : Nat} {x : Int32} {tgt : Nat} (hd : decode cc pc = .ok (.tableswitch dflt lo hi offs, len)) (h : x.toInt < lo ∨ hi < x.toInt) (ht : (pc : Int) + dflt = (tgt : Int)) (k : zz p l e R s m args below meth c D A nL Q w n kc ks tgt lv st) : zz p l e R s m args below meth c D A nL Q w n kc ks pc lv (.int x :: st) := fun H locs ls hn hP hS hL => lv_tableOut C.1 C.2.1 hd h ht (k H locs ls hn hP hS hL)
theorem zz_tableIn (C : zC p s m args meth c cc nL own D dA) {dflt lo hi : Int} {offs : Array Int} {len : Nat} {x : Int32} {off : Int} {tgt : Nat} (hd : decode cc pc = .ok (.tableswitch dflt lo hi offs, len)) (h1 : ¬ x.toInt < lo) (h2 : ¬ hi < x.toInt) (ho : offs[(x.toInt - lo).toNat]? = some off) (ht : (pc : Int) + off = (tgt : Int)) (k : zz p l e R s m args below meth c D A nL Q w n kc ks tgt lv st) : zz p l e R s m args below meth c D A nL Q w n kc ks pc lv (.int x :: st) := fun H locs ls hn hP hS hL => lv_tableIn C.1 C.2.1 hd h1 h2 ho ht (k H locs ls hn hP hS hL)
theorem zP.one {H : Heap} {a : Nat} {e : va_E} (h : zP D w H) (ha : w a = some e) : va_P D classes [(a, e)] H := by
  intro k q hk
  have hz : k < 1 := (List.getElem?_eq_some_iff.mp hk).1
  rw [show k = 0 by omega] at hk
  cases hk
  exact h a e ha
theorem zP.up {H H1 : Heap} {a : Nat} {e : va_E} (h : zP D w H) (he : va_at D classes (a, e) H1) (oq : ∀ q : Nat, q ≠ a → H1[q]? = H[q]?) : zP D (va_up w a (some e)) H1 := by
  intro q e' hq
  by_cases hqa : q = a
  · subst hqa
    rw [va_up_self] at hq
    cases hq
    exact he
  · rw [va_up_ne _ _ hqa] at hq
    exact (h q e' hq).kept (oq q hqa)
theorem zP.push {H H1 : Heap} {a : Nat} {e : va_E} (h : zP D w H) (ha : H.size = a) (he : va_at D classes (a, e) H1) (oq : ∀ q : Nat, q < a → H1[q]? = H[q]?) : zP D (va_up w a (some e)) H1 := by
  intro q e' hq
  by_cases hqa : q = a
  · subst hqa
    rw [va_up_self] at hq
    cases hq
    exact he
  · rw [va_up_ne _ _ hqa] at hq
    have hl : q < H.size := (h q e' hq).lt
    exact (h q e' hq).kept (oq q (by omega))
theorem zz_get (C : zC p s m args meth c cc nL own D dA) {Cn : String} {T : u_T} {N ci index a : Nat} {fs : List Value} {v : Value} (k0 : Nat) (hc : classes[ci]? = some (Cn, T, N)) (hin : ∀ w ∈ u_ws Cn T N, w ∈ zT) (hk : k0 < N) (hl : Cond.fieldLink own index (T k0).1 (T k0).2.1 (T k0).2.2.1 ∈ zT) (ha : w a = some (.inr (ci, fs))) (hv : fs[k0]? = some v) (hd : decode cc pc = .ok (.getfield index, 3)) (k : zz p l e R s m args below meth c D A nL Q w n kc ks (pc + 3) lv (v :: st)) : zz p l e R s m args below meth c D A nL Q w n kc ks pc lv (.ref a :: st) := fun H locs ls hn hP hS hL => va_get C.1 C.2.1 C.2.2.2.2.1 hin C.2.2.2.1 C.2.2.2.2.2.1.1 (hP.one ha) 0 rfl hc k0 hk (C.2.2.2.2.1 _ hl) (fun _ h9 => h9) hv hd (k H locs ls hn hP hS hL)
theorem zz_getN (C : zC p s m args meth c cc nL own D dA) {Cn host : String} {T : u_T} {N ci index a : Nat} {fs : List Value} {v : Value} (k0 : Nat) (hc : classes[ci]? = some (Cn, T, N)) (hin : ∀ w ∈ u_ws Cn T N, w ∈ zT) (hk : k0 < N) (hl : Cond.fieldLinkNest own index (T k0).1 (T k0).2.1 (T k0).2.2.1 host ∈ zN) (ha : w a = some (.inr (ci, fs))) (hv : fs[k0]? = some v) (hd : decode cc pc = .ok (.getfield index, 3)) (k : zz p l e R s m args below meth c D A nL Q w n kc ks (pc + 3) lv (v :: st)) : zz p l e R s m args below meth c D A nL Q w n kc ks pc lv (.ref a :: st) := fun H locs ls hn hP hS hL => va_getN C.1 C.2.1 C.2.2.2.2.1 hin C.2.2.2.1 C.2.2.2.2.2.1.1 (hP.one ha) 0 rfl hc k0 hk (C.2.2.2.2.2.1.nest hl) (fun _ h9 => h9) hv hd (k H locs ls hn hP hS hL)
theorem zz_put (C : zC p s m args meth c cc nL own D dA) {Cn : String} {T : u_T} {N ci index a : Nat} {fs : List Value} {v : Value} {ty : FieldType} (k0 : Nat) (hc : classes[ci]? = some (Cn, T, N)) (hin : ∀ w ∈ u_ws Cn T N, w ∈ zT) (ty0 : Nat → FieldType) (hty : ∀ k, k < N → parseFieldDescriptor (T k).2.2.1 = some (ty0 k)) (hnm : ∀ a, a < N → ∀ b, b < N → a ≠ b → (T a).2.1 ≠ (T b).2.1) (hk : k0 < N) (hl : Cond.fieldLink own index (T k0).1 (T k0).2.1 (T k0).2.2.1 ∈ zT) (hfin : (T k0).2.2.2 = false) (hty1 : ty0 k0 = ty) (hna : narrow ty v = v) (hfit : fits ty v = true) (hlen : k0 < fs.length) (ha : w a = some (.inr (ci, fs))) (hA : A a) (hd : decode cc pc = .ok (.putfield index, 3)) (k : zz p l e R s m args below meth c D A nL Q (va_up w a (some (.inr (ci, fs.set k0 v)))) n kc ks (pc + 3) lv st) : zz p l e R s m args below meth c D A nL Q w n kc ks pc lv (v :: .ref a :: st) := by
  intro H locs ls hn hP hS hL
  have hK : va_K D classes (zTy dA) s := C.2.2.2.2.2.1.1
  have hts := C.2.2.2.2.1
  have hap := va_apart (own := own) hts hin ty0 hty hnm hK hc
  obtain ⟨r, h1, cell, q1, q2, q3, q4⟩ := hP a _ ha
  have hr : r = (Cn, T, N) := Option.some.inj (h1.symm.trans hc)
  subst hr
  obtain ⟨hSl, hfc, kC, hkC, hkind⟩ := hK.1 ci _ hc
  obtain ⟨cf, kf, fi, f, hi, hsl⟩ := hSl k0 hk
  have hlay := hts _ (hin _ (u_in_lay hk))
  unfold u_lay at hlay
  have hst := (u_facts hfc hkC (u_lays hts hin hk) hi).1
  have hdd : parseFieldDescriptor (T k0).2.2.1 = some ty := by rw [← hty1]; exact hty k0 hk
  rw [if_neg (by rw [hfin]; decide)] at hlay
  have h6 := u_store hfc hkC hkind hlay hi hdd hna hfit
  refine W.putK C.1 C.2.1 (f := f) ⟨C.2.2.2.1, hts _ hl, ⟨_, _, _, hi⟩, hst⟩ (by rw [q2]; exact h6) q1 q3 (by rw [hsl]; exact k2_hasslot (q4 k0 hk)) rfl rfl hd fun H' e1 e2 e3 => ?_
  rw [hsl] at e1 ⊢
  exact k H' _ ls (e2.trans hn) (hP.up ⟨_, hc, t_OB.to (V := updV (vp_V fs) k0 v) ⟨_, e1, q2, q3, t_set q4 hap hk v⟩ (fun j _ => vp_updV_set hlen v j)⟩ e3) (hS.put e2 e3 hA) hL
theorem zz_putF (C : zC p s m args meth c cc nL own D dA) {Cn : String} {T : u_T} {N ci index a : Nat} {fs : List Value} {v : Value} {ty : FieldType} (k0 : Nat) (hc : classes[ci]? = some (Cn, T, N)) (hin : ∀ w ∈ u_ws Cn T N, w ∈ zT) (ty0 : Nat → FieldType) (hty : ∀ k, k < N → parseFieldDescriptor (T k).2.2.1 = some (ty0 k)) (hnm : ∀ a, a < N → ∀ b, b < N → a ≠ b → (T a).2.1 ≠ (T b).2.1) (hk : k0 < N) (hl : Cond.fieldLink own index (T k0).1 (T k0).2.1 (T k0).2.2.1 ∈ zT) (hfin : (T k0).2.2.2 = true) (hin2 : meth.name = "<init>") (hdecl : (T k0).1 = own) (hty1 : ty0 k0 = ty) (hna : narrow ty v = v) (hfit : fits ty v = true) (hlen : k0 < fs.length) (ha : w a = some (.inr (ci, fs))) (hA : A a) (hd : decode cc pc = .ok (.putfield index, 3)) (k : zz p l e R s m args below meth c D A nL Q (va_up w a (some (.inr (ci, fs.set k0 v)))) n kc ks (pc + 3) lv st) : zz p l e R s m args below meth c D A nL Q w n kc ks pc lv (v :: .ref a :: st) := by
  intro H locs ls hn hP hS hL
  have hK : va_K D classes (zTy dA) s := C.2.2.2.2.2.1.1
  have hts := C.2.2.2.2.1
  have hap := va_apart (own := own) hts hin ty0 hty hnm hK hc
  obtain ⟨r, h1, cell, q1, q2, q3, q4⟩ := hP a _ ha
  have hr : r = (Cn, T, N) := Option.some.inj (h1.symm.trans hc)
  subst hr
  obtain ⟨hSl, hfc, kC, hkC, hkind⟩ := hK.1 ci _ hc
  obtain ⟨cf, kf, fi, f, hi, hsl⟩ := hSl k0 hk
  have hlay := hts _ (hin _ (u_in_lay hk))
  unfold u_lay at hlay
  have hst := (u_facts hfc hkC (u_lays hts hin hk) hi).1
  have hdd : parseFieldDescriptor (T k0).2.2.1 = some ty := by rw [← hty1]; exact hty k0 hk
  rw [if_pos hfin] at hlay
  have hcf : m.cls = cf := by
    obtain ⟨_, _, c', _, _, _, -, -, hf', -, -, -, hown2, -⟩ := Cond.laysFinal_spec hlay
    have e1 : c' = cf := by have := hi.symm.trans hf'; simp at this; exact this.1.symm
    rw [hdecl] at hown2
    rw [← e1]; exact Option.some.inj (C.2.2.2.1.symm.trans hown2)
  have h6 := u_fits hfc hkC hkind (Or.inr hlay) hi hdd hna hfit
  refine W.putFinK C.1 C.2.1 C.2.2.2.1 (hts _ hl) hi hst hcf hin2 (by rw [q2]; exact h6) q1 q3 (by rw [hsl]; exact k2_hasslot (q4 k0 hk)) rfl rfl hd fun H' e1 e2 e3 => ?_
  rw [hsl] at e1 ⊢
  exact k H' _ ls (e2.trans hn) (hP.up ⟨_, hc, t_OB.to (V := updV (vp_V fs) k0 v) ⟨_, e1, q2, q3, t_set q4 hap hk v⟩ (fun j _ => vp_updV_set hlen v j)⟩ e3) (hS.put e2 e3 hA) hL
theorem zz_putN (C : zC p s m args meth c cc nL own D dA) {Cn host : String} {T : u_T} {N ci index a : Nat} {fs : List Value} {v : Value} {ty : FieldType} (k0 : Nat) (hc : classes[ci]? = some (Cn, T, N)) (hin : ∀ w ∈ u_ws Cn T N, w ∈ zT) (ty0 : Nat → FieldType) (hty : ∀ k, k < N → parseFieldDescriptor (T k).2.2.1 = some (ty0 k)) (hnm : ∀ a, a < N → ∀ b, b < N → a ≠ b → (T a).2.1 ≠ (T b).2.1) (hk : k0 < N) (hl : Cond.fieldLinkNest own index (T k0).1 (T k0).2.1 (T k0).2.2.1 host ∈ zN) (hfin : (T k0).2.2.2 = false) (hty1 : ty0 k0 = ty) (hna : narrow ty v = v) (hfit : fits ty v = true) (hlen : k0 < fs.length) (ha : w a = some (.inr (ci, fs))) (hA : A a) (hd : decode cc pc = .ok (.putfield index, 3)) (k : zz p l e R s m args below meth c D A nL Q (va_up w a (some (.inr (ci, fs.set k0 v)))) n kc ks (pc + 3) lv st) : zz p l e R s m args below meth c D A nL Q w n kc ks pc lv (v :: .ref a :: st) := by
  intro H locs ls hn hP hS hL
  have hK : va_K D classes (zTy dA) s := C.2.2.2.2.2.1.1
  have hts := C.2.2.2.2.1
  have hap := va_apart (own := own) hts hin ty0 hty hnm hK hc
  obtain ⟨r, h1, cell, q1, q2, q3, q4⟩ := hP a _ ha
  have hr : r = (Cn, T, N) := Option.some.inj (h1.symm.trans hc)
  subst hr
  obtain ⟨hSl, hfc, kC, hkC, hkind⟩ := hK.1 ci _ hc
  obtain ⟨cf, kf, fi, f, hi, hsl⟩ := hSl k0 hk
  have hlay := hts _ (hin _ (u_in_lay hk))
  unfold u_lay at hlay
  have hst := (u_facts hfc hkC (u_lays hts hin hk) hi).1
  have hdd : parseFieldDescriptor (T k0).2.2.1 = some ty := by rw [← hty1]; exact hty k0 hk
  rw [if_neg (by rw [hfin]; decide)] at hlay
  have h6 := u_store hfc hkC hkind hlay hi hdd hna hfit
  refine va_WputK C.1 C.2.1 (f := f) C.2.2.2.1 (C.2.2.2.2.2.1.nest hl) hi hst (by rw [q2]; exact h6) q1 q3 (by rw [hsl]; exact k2_hasslot (q4 k0 hk)) rfl rfl hd fun H' e1 e2 e3 => ?_
  rw [hsl] at e1 ⊢
  exact k H' _ ls (e2.trans hn) (hP.up ⟨_, hc, t_OB.to (V := updV (vp_V fs) k0 v) ⟨_, e1, q2, q3, t_set q4 hap hk v⟩ (fun j _ => vp_updV_set hlen v j)⟩ e3) (hS.put e2 e3 hA) hL
theorem zz_iald (C : zC p s m args meth c cc nL own D dA) {a N t0 : Nat} {f : Nat → Int32} {i : Int32} {cA : ClassId} (ht : (zTy dA)[t0]? = some (cA, .int)) (ha : w a = some (.inl (cA, N, .inl f))) (hi : vp_in i N) (hd : decode cc pc = .ok (.iaload, 1)) (k : zz p l e R s m args below meth c D A nL Q w n kc ks (pc + 1) lv (.int (f i.toNatClampNeg) :: st)) : zz p l e R s m args below meth c D A nL Q w n kc ks pc lv (.int i :: .ref a :: st) := fun H locs ls hn hP hS hL => va_iald C.1 C.2.1 C.2.2.2.2.2.1.1 (hP.one ha) 0 t0 rfl ht hi hd (k H locs ls hn hP hS hL)
theorem zz_zald (C : zC p s m args meth c cc nL own D dA) {a N t0 : Nat} {f : Nat → Int32} {i : Int32} {cA : ClassId} (ht : (zTy dA)[t0]? = some (cA, .boolean)) (ha : w a = some (.inl (cA, N, .inl f))) (hi : vp_in i N) (hd : decode cc pc = .ok (.baload, 1)) (k : zz p l e R s m args below meth c D A nL Q w n kc ks (pc + 1) lv (.int (f i.toNatClampNeg) :: st)) : zz p l e R s m args below meth c D A nL Q w n kc ks pc lv (.int i :: .ref a :: st) := fun H locs ls hn hP hS hL => va_zald C.1 C.2.1 C.2.2.2.2.2.1.1 (hP.one ha) 0 t0 rfl ht hi hd (k H locs ls hn hP hS hL)
theorem zz_aald (C : zC p s m args meth c cc nL own D dA) {a N t0 : Nat} {f : Nat → Option Nat} {i : Int32} {cA : ClassId} {Cn : String} {v : Nat} (ht : (zTy dA)[t0]? = some (cA, .object Cn)) (ha : w a = some (.inl (cA, N, .inr (.inr (.inr (.inr f)))))) (hi : vp_in i N) (hv : i.toNatClampNeg < N → f i.toNatClampNeg = some v) (hd : decode cc pc = .ok (.aaload, 1)) (k : i.toNatClampNeg < N → zz p l e R s m args below meth c D A nL Q w n kc ks (pc + 1) lv (.ref v :: st)) : zz p l e R s m args below meth c D A nL Q w n kc ks pc lv (.int i :: .ref a :: st) := fun H locs ls hn hP hS hL => va_aldq C.1 C.2.1 C.2.2.2.2.2.1.1 (hP.one ha) 0 t0 rfl ht hi hd (by rw [hv (Nat.not_le.mp fun q => hi (Or.inr q))]; exact (k (Nat.not_le.mp fun q => hi (Or.inr q)) H locs ls hn hP hS hL))
theorem zz_alen (C : zC p s m args meth c cc nL own D dA) {a t0 : Nat} {x : vp_A} {cA : ClassId} {ty : FieldType} {v : Int32} (ht : (zTy dA)[t0]? = some (cA, ty)) (ha : w a = some (.inl (cA, x))) (hv : Int32.ofNat x.1 = v) (hd : decode cc pc = .ok (.arraylength, 1)) (k : zz p l e R s m args below meth c D A nL Q w n kc ks (pc + 1) lv (.int v :: st)) : zz p l e R s m args below meth c D A nL Q w n kc ks pc lv (.ref a :: st) := fun H locs ls hn hP hS hL => va_alen C.1 C.2.1 C.2.2.2.2.2.1.1 (hP.one ha) 0 t0 rfl ht hv hd (k H locs ls hn hP hS hL)
theorem zz_iast (C : zC p s m args meth c cc nL own D dA) {a N t0 : Nat} {f : Nat → Int32} {i x : Int32} {cA : ClassId} (ht : (zTy dA)[t0]? = some (cA, .int)) (ha : w a = some (.inl (cA, N, .inl f))) (hA : A a) (hi : vp_in i N) (hd : decode cc pc = .ok (.iastore, 1)) (k : zz p l e R s m args below meth c D A nL Q (va_up w a (some (.inl (cA, N, .inl (upd f i.toNatClampNeg x))))) n kc ks (pc + 1) lv st) : zz p l e R s m args below meth c D A nL Q w n kc ks pc lv (.int x :: .int i :: .ref a :: st) := by
  intro H locs ls hn hP hS hL
  have hK : va_K D classes (zTy dA) s := C.2.2.2.2.2.1.1
  refine W.iast C.1 C.2.1 (hP a _ ha) ((hK.2 t0 _ ht).1 N (fun j => .int (f j))) (fun q => by cases q) (by show ¬ (i < 0 ∨ (arrV _ _ _).slots.size ≤ _); rw [arrV_size]; exact hi) rfl rfl hd fun H1 e z oq => ?_
  refine k H1 _ ls (z.trans hn) (hP.up ?_ oq) (hS.put z oq hA) hL
  show H1[a]? = some (vp_cell _ _)
  rw [e]
  rw [vp_cell_i, vp_cell_i, arrV_store]
  congr 2
  funext q
  by_cases hq : q = i.toNatClampNeg
  · subst hq
    simp [updV, upd, vp_nar]
    try rfl
  · simp [updV, upd, hq]
theorem zz_zast (C : zC p s m args meth c cc nL own D dA) {a N t0 : Nat} {f : Nat → Int32} {i x : Int32} {cA : ClassId} (ht : (zTy dA)[t0]? = some (cA, .boolean)) (ha : w a = some (.inl (cA, N, .inl f))) (hA : A a) (hi : vp_in i N) (hd : decode cc pc = .ok (.bastore, 1)) (k : zz p l e R s m args below meth c D A nL Q (va_up w a (some (.inl (cA, N, .inl (upd f i.toNatClampNeg (vp_nar .boolean x)))))) n kc ks (pc + 1) lv st) : zz p l e R s m args below meth c D A nL Q w n kc ks pc lv (.int x :: .int i :: .ref a :: st) := by
  intro H locs ls hn hP hS hL
  have hK : va_K D classes (zTy dA) s := C.2.2.2.2.2.1.1
  refine W.zast C.1 C.2.1 (hP a _ ha) ((hK.2 t0 _ ht).1 N (fun j => .int (f j))) (fun q => by cases q) (by show ¬ (i < 0 ∨ (arrV _ _ _).slots.size ≤ _); rw [arrV_size]; exact hi) rfl rfl hd fun H1 e z oq => ?_
  refine k H1 _ ls (z.trans hn) (hP.up ?_ oq) (hS.put z oq hA) hL
  show H1[a]? = some (vp_cell _ _)
  rw [e]
  rw [vp_cell_i, vp_cell_i, arrV_store]
  congr 2
  funext q
  by_cases hq : q = i.toNatClampNeg
  · subst hq
    simp [updV, upd, vp_nar]
    try rfl
  · simp [updV, upd, hq]
theorem zz_aast (C : zC p s m args meth c cc nL own D dA) {a N t0 v ci : Nat} {f : Nat → Option Nat} {i : Int32} {cA : ClassId} {r : vw_C} {vs : List Value} (ht : (zTy dA)[t0]? = some (cA, .object r.1)) (ha : w a = some (.inl (cA, N, .inr (.inr (.inr (.inr f)))))) (hc : classes[ci]? = some r) (hv : w v = some (.inr (ci, vs))) (hA : A a) (hi : vp_in i N) (hd : decode cc pc = .ok (.aastore, 1)) (k : zz p l e R s m args below meth c D A nL Q (va_up w a (some (.inl (cA, N, .inr (.inr (.inr (.inr (va_up f i.toNatClampNeg (some v))))))))) n kc ks (pc + 1) lv st) : zz p l e R s m args below meth c D A nL Q w n kc ks pc lv (.ref v :: .int i :: .ref a :: st) := by
  intro H locs ls hn hP hS hL
  have hK : va_K D classes (zTy dA) s := C.2.2.2.2.2.1.1
  have hlt : i.toNatClampNeg < N := Nat.not_le.mp fun q => hi (Or.inr q)
  have h0 : ¬ i < 0 := fun q => hi (Or.inl q)
  obtain ⟨r', hr', cellV, g1, g2, g3, -⟩ := hP v _ hv
  have hcls := (hK.1 ci r hc).2
  obtain ⟨kA, comp, k1, k2, k3, -⟩ := (hK.2 t0 _ ht).2
  have hcomp : comp = D.1 ci := Option.some.inj (k3.symm.trans hcls.1)
  subst hcomp
  obtain ⟨kC, hkC, -⟩ := hcls.2
  refine W.aast C.1 C.2.1 (hP a _ ha) (fun q h => by cases h) (fun h => by cases h) k1 k2 rfl hkC ⟨h0, by show _ < (arrV _ _ _).slots.size; rw [arrV_size]; exact hlt⟩ g1 (fun q h => by rw [g3] at h; cases h) (by rw [g2]; exact hkC) (by rw [g2]; exact va_assign hcls) rfl rfl hd fun H1 e z oq => ?_
  refine k H1 _ ls (z.trans hn) (hP.up ?_ oq) (hS.put z oq hA) hL
  show H1[a]? = some (vp_cell _ _)
  rw [e]
  rw [vp_cell_q, vp_cell_q, arrV_store]
  congr 2
  funext q
  by_cases hq : q = i.toNatClampNeg
  · subst hq
    simp [updV, va_up, va_rf]
  · simp [updV, va_up, hq]
theorem zz_new (C : zC p s m args meth c cc nL own D dA) {Cn : String} {T : u_T} {N ci index : Nat} {fs : List Value} (hc : classes[ci]? = some (Cn, T, N)) (hin : ∀ w ∈ u_ws Cn T N, w ∈ zT) (ty0 : Nat → FieldType) (hty : ∀ k, k < N → parseFieldDescriptor (T k).2.2.1 = some (ty0 k)) (hcl : Cond.classLink own index Cn ∈ zT ∧ Cond.instantiable Cn N ∈ zT ∧ Cond.initialized Cn ∈ zT) (hfs : ∀ j, j < N → defaultValue (ty0 j) = vp_V fs j) (hA : ∀ q, s.heap.size ≤ q → A q) (hcells : kc + 1 ≤ R.cells) (hslots : ks + N ≤ R.slots) (hd : decode cc pc = .ok (.new index, 3)) (k : zz p l e R s m args below meth c D A nL Q (va_up w n (some (.inr (ci, fs)))) (n + 1) (kc + 1) (ks + N) (pc + 3) lv (.ref n :: st)) : zz p l e R s m args below meth c D A nL Q w n kc ks pc lv st := by
  intro H locs ls hn hP hS hL
  have hK : va_K D classes (zTy dA) s := C.2.2.2.2.2.1.1
  have hts := C.2.2.2.2.1
  have hKn := hK.1 ci _ hc
  refine W.newcK C.1 C.2.1 C.2.2.2.1 (hts _ hcl.1) (hts _ hcl.2.1) (hts _ hcl.2.2) rfl hd hcells hslots hKn.2.1 hn fun H1 kC hkC e1 z1 o1 => ?_
  exact k H1 locs ls z1 (hP.push hn ⟨_, hc, (u_born ty0 hts hin hKn hkC e1 hty).to hfs⟩ o1) ⟨Nat.le_trans hS.1 (by omega), fun x h1 h2 => (o1 x (by have := hS.1; omega)).trans (hS.2.1 x h1 h2), hS.2.2⟩ hL
theorem zz_newa (C : zC p s m args meth c cc nL own D dA) {atype : ArrayType} {ty : FieldType} {i : Int32} {N t0 : Nat} {cA : ClassId} {a0 : vp_A} (hty : newarray.typeOf atype = ty) (ht : (zTy dA)[t0]? = some (cA, ty)) (har : Cond.arrayClass ty ∈ zT) (hprim : ∀ U cA, va_RA U cA ty = (U.vm.findClass ("[" ++ ty.toString) = some cA)) (ha : ∀ cA : ClassId, vp_cell cA a0 = arrV cA N (fun _ => defaultValue ty)) (hi : ¬ i < 0) (hN : i.toNatClampNeg = N) (hb : N * componentBytes ty ≤ 536870912) (hcells : kc + 1 ≤ R.cells) (hslots : ks + N ≤ R.slots) (hd : decode cc pc = .ok (.newarray atype, 2)) (k : zz p l e R s m args below meth c D A nL Q (va_up w n (some (.inl (cA, a0)))) (n + 1) (kc + 1) (ks + N) (pc + 2) lv (.ref n :: st)) : zz p l e R s m args below meth c D A nL Q w n kc ks pc lv (.int i :: st) := by
  intro H locs ls hn hP hS hL
  have hK : va_K D classes (zTy dA) s := C.2.2.2.2.2.1.1
  subst hty
  refine va_newaK C.1 C.2.1 (C.2.2.2.2.1 _ har) rfl hd rfl hi hN hb hcells hslots hn fun H1 cB e1 z1 o1 hAr hNm => ?_
  have hcA := (hK.2 t0 _ ht).2
  rw [hprim] at hcA
  have hcc : cB = cA := Option.some.inj (hNm.symm.trans hcA)
  subst hcc
  exact k H1 locs ls z1 (hP.push hn (by show H1[n]? = some (vp_cell _ _); rw [ha]; exact e1) o1) ⟨Nat.le_trans hS.1 (by omega), fun x h1 h2 => (o1 x (by have := hS.1; omega)).trans (hS.2.1 x h1 h2), hS.2.2⟩ hL
theorem zz_newq (C : zC p s m args meth c cc nL own D dA) {Cn : String} {index : Nat} {i : Int32} {N t0 : Nat} {cA : ClassId} (ht : (zTy dA)[t0]? = some (cA, .object Cn)) (hcl : Cond.classLink own index Cn ∈ zT) (hov : Cn ∈ zAO) (hi : ¬ i < 0) (hN : i.toNatClampNeg = N) (hb : N * 4 ≤ 536870912) (hcells : kc + 1 ≤ R.cells) (hslots : ks + N ≤ R.slots) (hd : decode cc pc = .ok (.anewarray index, 3)) (k : zz p l e R s m args below meth c D A nL Q (va_up w n (some (.inl (cA, N, .inr (.inr (.inr (.inr (fun _ => none)))))))) (n + 1) (kc + 1) (ks + N) (pc + 3) lv (.ref n :: st)) : zz p l e R s m args below meth c D A nL Q w n kc ks pc lv (.int i :: st) := by
  intro H locs ls hn hP hS hL
  have hK : va_K D classes (zTy dA) s := C.2.2.2.2.2.1.1
  subst hN
  refine W.anew C.1 C.2.1 C.2.2.2.1 (C.2.2.2.2.1 _ hcl) (va_AO.use (C.2.2.2.2.2.1.2.2 _ hov)) rfl hd rfl hi hb hcells hslots fun cB kA comp f1 f2 f3 f4 => ?_
  obtain ⟨kA', comp', k1, k2, k3, k4⟩ := (hK.2 t0 _ ht).2
  have hcc : cB = cA := Option.some.inj (f1.symm.trans k4)
  subst hcc
  generalize hH1 : H.push ({ cls := cB, slots := Array.replicate i.toNatClampNeg .null, vm := .none } : Cell) = H1
  have z1 : H1.size = n + 1 := by rw [← hH1, Array.size_push, hn]
  have e1 : H1[n]? = some (arrV cB i.toNatClampNeg (fun _ => .null)) := by rw [← hH1, ← hn, Array.getElem?_push_size, ← arrV_new]
  have o1 : ∀ q : Nat, q < n → H1[q]? = H[q]? := fun q hq => by rw [← hH1, Array.getElem?_push, if_neg (by omega)]
  rw [hn]
  exact k H1 locs ls z1 (hP.push hn (by show H1[n]? = some (vp_cell _ _); rw [vp_cell_q]; exact e1) o1) ⟨Nat.le_trans hS.1 (by omega), fun x h1 h2 => (o1 x (by have := hS.1; omega)).trans (hS.2.1 x h1 h2), hS.2.2⟩ hL
theorem zz_objInit (C : zC p s m args meth c cc nL own D dA) {idx a : Nat} (hl : Cond.methodLink own idx objectInit ∈ zT ∧ Cond.instanceMethod objectInit ∈ zT ∧ Cond.code objectInit ⟨#[0xb1]⟩ 1 none ∈ zT) (hd : decode cc pc = .ok (.invokespecial idx, 3)) (hf : 1 ≤ R.frames) (hlo : (st.map fun v => v.category).sum + 12 ≤ R.locals) (k : zz p l e R s m args below meth c D A nL Q w n kc ks (pc + 3) lv st) : zz p l e R s m args below meth c D A nL Q w n kc ks pc lv (.ref a :: st) := by
  intro H locs ls hn hP hS hL
  have hts := C.2.2.2.2.1
  refine W.objInit C.1 C.2.1 C.2.2.2.1 (hts _ hl.1) (hts _ hl.2.1) (hts _ hl.2.2) rfl (by rw [C.2.2.1]; exact hL.size) rfl hd hf (by simpa [JFrame.monitorRoom] using hlo) ?_
  exact W.eq (g2 := F0 m (pc + 3) ls st) rfl (k H locs ls hn hP hS hL)
theorem zz_mmax (C : zC p s m args meth c cc nL own D dA) {idx : Nat} {x y : Int32} (hl : Cond.methodLink own idx Lib.Math.max.name ∈ zT ∧ Cond.static Lib.Math.max.name ∈ zT ∧ Cond.initialized "java/lang/Math" ∈ zT) (hcode : Cond.code Lib.Math.max.name Lib.Math.max.code 2 (some .int) ∈ zT) (hf : 1 ≤ R.frames) (hlo : (st.map fun v => v.category).sum + 13 ≤ R.locals) (hc : kc ≤ R.cells) (hs : ks ≤ R.slots) (hd : decode cc pc = .ok (.invokestatic idx, 3)) (k : zz p l e R s m args below meth c D A nL Q w n kc ks (pc + 3) lv (.int (if x < y then y else x) :: st)) : zz p l e R s m args below meth c D A nL Q w n kc ks pc lv (.int y :: .int x :: st) := fun H locs ls hn hP hS hL => va_mmax C.1 C.2.1 (C.2.2.1.trans hL.size.symm) C.2.2.2.1 (C.2.2.2.2.1 _ hl.1) (C.2.2.2.2.1 _ hl.2.1) (C.2.2.2.2.1 _ hl.2.2) (C.2.2.2.2.1 _ hcode) hf hlo hc hs hd (k H locs ls hn hP hS hL)
theorem zz_mmin (C : zC p s m args meth c cc nL own D dA) {idx : Nat} {x y : Int32} (hl : Cond.methodLink own idx Lib.Math.min.name ∈ zT ∧ Cond.static Lib.Math.min.name ∈ zT ∧ Cond.initialized "java/lang/Math" ∈ zT) (hcode : Cond.code Lib.Math.min.name Lib.Math.min.code 2 (some .int) ∈ zT) (hf : 1 ≤ R.frames) (hlo : (st.map fun v => v.category).sum + 13 ≤ R.locals) (hc : kc ≤ R.cells) (hs : ks ≤ R.slots) (hd : decode cc pc = .ok (.invokestatic idx, 3)) (k : zz p l e R s m args below meth c D A nL Q w n kc ks (pc + 3) lv (.int (if y < x then y else x) :: st)) : zz p l e R s m args below meth c D A nL Q w n kc ks pc lv (.int y :: .int x :: st) := fun H locs ls hn hP hS hL => va_mmin C.1 C.2.1 (C.2.2.1.trans hL.size.symm) C.2.2.2.1 (C.2.2.2.2.1 _ hl.1) (C.2.2.2.2.1 _ hl.2.1) (C.2.2.2.2.1 _ hl.2.2) (C.2.2.2.2.1 _ hcode) hf hlo hc hs hd (k H locs ls hn hP hS hL)
theorem zz_iret (C : zC p s m args meth c cc nL own D dA) {ty : FieldType} {x y : Int32} {w' : zW} {n' mc ms : Nat} (hr : meth.sig.returnType = some ty) (hna : narrow ty (.int x) = .int x) (hd : decode cc pc = .ok (.ireturn, 1)) (h1 : kc ≤ mc) (h2 : ks ≤ ms) (hn' : n = n') (hx : x = y) (hw : ∀ (q : Nat) (e : va_E), w' q = some e → w q = some e) : zz p l e R s m args below meth c D A nL (MQ below (zQ D A (some (.int y)) w' n') args s mc ms A) w n kc ks pc lv [.int x] := by
  intro H locs ls hn hP hS hL
  subst hx
  refine W.widen h1 h2 ?_
  exact W.zret C.1 C.2.1 hr hna (fun t ht hW => ⟨rfl, by rw [ht]; exact fun q e hq => hP q e (hw q e hq), by rw [ht, hn, hn'], hS.F ht⟩) hS.2.2 hd C.2.2.2.2.2.2
theorem zz_vret (C : zC p s m args meth c cc nL own D dA) {w' : zW} {n' mc ms : Nat} (hr : meth.sig.returnType = none) (hd : decode cc pc = .ok (.return_, 1)) (h1 : kc ≤ mc) (h2 : ks ≤ ms) (hn' : n = n') (hw : ∀ (q : Nat) (e : va_E), w' q = some e → w q = some e) : zz p l e R s m args below meth c D A nL (MQ below (zQ D A none w' n') args s mc ms A) w n kc ks pc lv [] := by
  intro H locs ls hn hP hS hL
  refine W.widen h1 h2 ?_
  exact W.vret C.1 C.2.1 hr (fun t ht hW => ⟨rfl, by rw [ht]; exact fun q e hq => hP q e (hw q e hq), by rw [ht, hn, hn'], hS.F ht⟩) hS.2.2 hd C.2.2.2.2.2.2
theorem zM_of {y : MethodName} {bytes : ByteArray} {maxL : Nat} {ret : Option FieldType} {rm : Room} {av : List Value} {w' : zW} {r : Option Value} {n' mc ms : Nat} (hy : plainName y.cls = true) (hlen : Nat.ble (lg_sl av).length maxL = true) {lv0 : zL} (hlv : lv_args 0 av = lv0) (hcat : (lv0.all fun q => q.2.category == 1) = true)
    (body : ∀ (p : Program) (e : Env) (s : State) (m : MethodId) (below : List Frame) (meth : Method) (c : Code), zC p s m av.toArray meth c bytes maxL y.cls D dA → meth.sig.returnType = ret → meth.name = y.name → s.heap.size = n →
      zz p l e rm s m av.toArray below meth c D A maxL (MQ below (zQ D A r w' n') av.toArray s mc ms A) w n 0 0 0 lv0 []) : zM l y bytes maxL ret rm D dA A av w n r w' n' mc ms := by
  refine Met.ofW (cc := bytes) (maxL := maxL) (ret := ret) hy rfl ?_
  intro p e s m args below meth c s₁ B hml hv
  obtain ⟨rfl, hsz, hP, hK⟩ := hv
  have hts := atoms_spec (ws := .code y bytes maxL ret :: zT) B.pre
  have hown : s.vm.findClass y.cls = some m.cls := findClass_of_methodNamed B.named
  have hl := lv_entry av (n := maxL) (Nat.le_of_ble_eq_true hlen)
  have hcat2 : ∀ q ∈ lv0, q.2.category = 1 := fun q hq => by simpa using List.all_eq_true.mp hcat q hq
  rw [lg_entry_eq]
  refine body p e s m below meth c ⟨B.exec, B.bytes, hml, hown, fun w hw => hts w (List.mem_cons_of_mem _ hw), hK, B.notSynchronized⟩ B.returns (name_of_methodNamed B.named B.method).1 hsz s.heap [] _ hsz hP va_S.rf ?_
  rw [hlv] at hl
  exact ⟨lv0, hl, fun i v hv => ⟨z_lookup_mem lv0 i v hv, hcat2 _ (z_lookup_mem lv0 i v hv)⟩⟩
theorem zz_go {H : Heap} {locs : List Loc} {ls : Array Slot} {A1 : Nat → Prop} {r : Option Value} {w1 w2 : zW} {n1 mc ms : Nat} {a : Array Value} {st0 rest : List Value} (hn : H.size = n) (hP : zP D w H) (hS : va_S A s.heap H locs) (hL : zH ls nL lv) (hr : va_Run p l e R s m args below meth c H locs kc ks mc ms (F0 m pc ls st0) rest (zQ D A1 r w1 n1 a) A1) (hA : ∀ q, A1 q → A q) (hw : ∀ (q : Nat) (e : va_E), w2 q = some e → w1 q = some e ∨ (w q = some e ∧ ¬ A1 q))
    (k : zz p l e R s m args below meth c D A nL Q w2 n1 (kc + mc) (ks + ms) (pc + 3) lv (r.toList ++ rest)) : W p l e R s m args below meth c H locs kc ks Q (F0 m pc ls st0) := by
  intro T hT X
  obtain ⟨v, st₀, t, T', L, h0, X', hL', e1, e2, ⟨hv, hp, hz0, hz, hk⟩, go⟩ := hr T hT X
  cases hv
  rw [h0] at hz hk
  have hP2 : zP D w2 T'.heap := by
    intro q e hq
    rcases hw q e hq with h | ⟨h, h'⟩
    · rw [e1]; exact hp q e h
    · have hl : q < H.size := (hP q e h).lt
      exact (hP q e h).kept (by rw [e1]; exact hk q hl h')
  obtain ⟨t2, a1, b1⟩ := k T'.heap (locs ++ L) ls (by rw [e1]; exact hz0) hP2
    ⟨Nat.le_trans hS.1 (by rw [e1]; exact hz), fun q h1 h2 => by rw [e1, hk q (Nat.lt_of_lt_of_le h1 hS.1) (fun z => h2 (hA q z))]; exact hS.2.1 q h1 h2, fun q hq => by
      rcases List.mem_append.mp hq with h | h
      · exact hS.2.2 q h
      · exact hA _ (hL' q h)⟩ hL T' rfl X'
  exact ⟨t2, go t2 a1, b1⟩
theorem zz_callVi (C : zC p s m args meth c cc nL own D dA) {y : MethodName} {bytes : ByteArray} {maxL : Nat} {ret : Option FieldType} {rm : Room} {A1 : Nat → Prop} {As rest st0 : List Value} {b : Nat} {x : Int32} {wc w1 w2 : zW} {n1 mc ms idx na : Nat} {host : String} {ci : Nat} {fs : List Value} {T : u_T} {N : Nat} (hrc : w b = some (.inr (ci, fs))) (hcl : classes[ci]? = some (y.cls, T, N)) (site : zSiteV own idx y na) (hM : zM l y bytes maxL ret rm D dA A1 (.ref b :: As) wc n (some (.int x)) w1 n1 mc ms) (hst : st0 = As.reverse ++ .ref b :: rest) (hna : As.length = na) (hd : decode cc pc = .ok (.invokevirtual idx, 3)) (hcode : Cond.code y bytes maxL ret ∈ zT) (hwc : ∀ (q : Nat) (e : va_E), wc q = some e → w q = some e) (hA : ∀ q, A1 q → A q) (hw : ∀ (q : Nat) (e : va_E), w2 q = some e → w1 q = some e ∨ (w q = some e ∧ ¬ A1 q)) (hrm : rm.cells = mc ∧ rm.slots = ms) (hR : rm.frames + 1 ≤ R.frames ∧ 8 + (maxL + 11) + rm.locals ≤ R.locals) (hf : kc + mc ≤ R.cells ∧ ks + ms ≤ R.slots) (hcat : (rest.map fun v => v.category).sum ≤ 8)
    (k : zz p l e R s m args below meth c D A nL Q w2 n1 (kc + mc) (ks + ms) (pc + 3) lv (.int x :: rest)) : zz p l e R s m args below meth c D A nL Q w n kc ks pc lv st0 := by
  intro H locs ls hn hP hS hL
  subst hst
  have hts := C.2.2.2.2.1
  have hG : GoodIn zT (Cond.code y bytes maxL ret :: zT) := fun w hw => by
    rcases List.mem_cons.mp hw with h | h
    · rw [h]; exact ⟨hcode, zT_good _ hcode⟩
    · exact ⟨h, zT_good _ h⟩
  refine zz_go hn hP hS hL (va_runV (C := y.cls) (As := As) (rest := rest) ⟨C.1, C.2.1, C.2.2.1, C.2.2.2.1, hts⟩ hM ⟨callB_of na hts hG rfl hrm.1 hrm.2 (hts _ site.2.1) (hts _ site.1.1) ⟨site.2.2.1, site.2.2.2.1, site.2.2.2.2⟩ hR, hts _ site.1.2.1, hts _ site.1.2.2⟩ ⟨fun a U g mk q => by obtain ⟨q0, q1, q2, q3⟩ := q; exact ⟨q0, q1, q2, q3.call⟩, (va_recv C.2.2.2.2.2.1.1 (hP.one hrc) hcl (q0 := 0) rfl), fun U hU hW => ⟨rfl, by rw [hU]; exact hn, by rw [hU]; exact fun q e hq => hP q e (hwc q e hq), C.2.2.2.2.2.1.warm hW⟩⟩ rfl hna hL.size rfl (lv_room hcat) hd hf) hA hw k
theorem zz_callVv (C : zC p s m args meth c cc nL own D dA) {y : MethodName} {bytes : ByteArray} {maxL : Nat} {ret : Option FieldType} {rm : Room} {A1 : Nat → Prop} {As rest st0 : List Value} {b : Nat} {x : Int32} {wc w1 w2 : zW} {n1 mc ms idx na : Nat} {host : String} {ci : Nat} {fs : List Value} {T : u_T} {N : Nat} (hrc : w b = some (.inr (ci, fs))) (hcl : classes[ci]? = some (y.cls, T, N)) (site : zSiteV own idx y na) (hM : zM l y bytes maxL ret rm D dA A1 (.ref b :: As) wc n none w1 n1 mc ms) (hst : st0 = As.reverse ++ .ref b :: rest) (hna : As.length = na) (hd : decode cc pc = .ok (.invokevirtual idx, 3)) (hcode : Cond.code y bytes maxL ret ∈ zT) (hwc : ∀ (q : Nat) (e : va_E), wc q = some e → w q = some e) (hA : ∀ q, A1 q → A q) (hw : ∀ (q : Nat) (e : va_E), w2 q = some e → w1 q = some e ∨ (w q = some e ∧ ¬ A1 q)) (hrm : rm.cells = mc ∧ rm.slots = ms) (hR : rm.frames + 1 ≤ R.frames ∧ 8 + (maxL + 11) + rm.locals ≤ R.locals) (hf : kc + mc ≤ R.cells ∧ ks + ms ≤ R.slots) (hcat : (rest.map fun v => v.category).sum ≤ 8)
    (k : zz p l e R s m args below meth c D A nL Q w2 n1 (kc + mc) (ks + ms) (pc + 3) lv rest) : zz p l e R s m args below meth c D A nL Q w n kc ks pc lv st0 := by
  intro H locs ls hn hP hS hL
  subst hst
  have hts := C.2.2.2.2.1
  have hG : GoodIn zT (Cond.code y bytes maxL ret :: zT) := fun w hw => by
    rcases List.mem_cons.mp hw with h | h
    · rw [h]; exact ⟨hcode, zT_good _ hcode⟩
    · exact ⟨h, zT_good _ h⟩
  refine zz_go hn hP hS hL (va_runV (C := y.cls) (As := As) (rest := rest) ⟨C.1, C.2.1, C.2.2.1, C.2.2.2.1, hts⟩ hM ⟨callB_of na hts hG rfl hrm.1 hrm.2 (hts _ site.2.1) (hts _ site.1.1) ⟨site.2.2.1, site.2.2.2.1, site.2.2.2.2⟩ hR, hts _ site.1.2.1, hts _ site.1.2.2⟩ ⟨fun a U g mk q => by obtain ⟨q0, q1, q2, q3⟩ := q; exact ⟨q0, q1, q2, q3.call⟩, (va_recv C.2.2.2.2.2.1.1 (hP.one hrc) hcl (q0 := 0) rfl), fun U hU hW => ⟨rfl, by rw [hU]; exact hn, by rw [hU]; exact fun q e hq => hP q e (hwc q e hq), C.2.2.2.2.2.1.warm hW⟩⟩ rfl hna hL.size rfl (lv_room hcat) hd hf) hA hw k
theorem zz_callVNi (C : zC p s m args meth c cc nL own D dA) {y : MethodName} {bytes : ByteArray} {maxL : Nat} {ret : Option FieldType} {rm : Room} {A1 : Nat → Prop} {As rest st0 : List Value} {b : Nat} {x : Int32} {wc w1 w2 : zW} {n1 mc ms idx na : Nat} {host : String} {ci : Nat} {fs : List Value} {T : u_T} {N : Nat} (hrc : w b = some (.inr (ci, fs))) (hcl : classes[ci]? = some (y.cls, T, N)) (site : zSiteVN own idx y host na) (hM : zM l y bytes maxL ret rm D dA A1 (.ref b :: As) wc n (some (.int x)) w1 n1 mc ms) (hst : st0 = As.reverse ++ .ref b :: rest) (hna : As.length = na) (hd : decode cc pc = .ok (.invokevirtual idx, 3)) (hcode : Cond.code y bytes maxL ret ∈ zT) (hwc : ∀ (q : Nat) (e : va_E), wc q = some e → w q = some e) (hA : ∀ q, A1 q → A q) (hw : ∀ (q : Nat) (e : va_E), w2 q = some e → w1 q = some e ∨ (w q = some e ∧ ¬ A1 q)) (hrm : rm.cells = mc ∧ rm.slots = ms) (hR : rm.frames + 1 ≤ R.frames ∧ 8 + (maxL + 11) + rm.locals ≤ R.locals) (hf : kc + mc ≤ R.cells ∧ ks + ms ≤ R.slots) (hcat : (rest.map fun v => v.category).sum ≤ 8)
    (k : zz p l e R s m args below meth c D A nL Q w2 n1 (kc + mc) (ks + ms) (pc + 3) lv (.int x :: rest)) : zz p l e R s m args below meth c D A nL Q w n kc ks pc lv st0 := by
  intro H locs ls hn hP hS hL
  subst hst
  have hts := C.2.2.2.2.1
  have hG : GoodIn zT (Cond.code y bytes maxL ret :: zT) := fun w hw => by
    rcases List.mem_cons.mp hw with h | h
    · rw [h]; exact ⟨hcode, zT_good _ hcode⟩
    · exact ⟨h, zT_good _ h⟩
  refine zz_go hn hP hS hL (va_runVN (C := y.cls) (host := host) (As := As) (rest := rest) ⟨C.1, C.2.1, C.2.2.1, C.2.2.2.1, hts⟩ hM ⟨va_cnB na hts hG rfl hrm.1 hrm.2 (C.2.2.2.2.2.1.2.1 _ site.1.1) (hts _ site.2.1) ⟨site.2.2.1, site.2.2.2.1, site.2.2.2.2⟩ hR, hts _ site.1.2.1, hts _ site.1.2.2⟩ ⟨fun a U g mk q => by obtain ⟨q0, q1, q2, q3⟩ := q; exact ⟨q0, q1, q2, q3.call⟩, (va_recv C.2.2.2.2.2.1.1 (hP.one hrc) hcl (q0 := 0) rfl), fun U hU hW => ⟨rfl, by rw [hU]; exact hn, by rw [hU]; exact fun q e hq => hP q e (hwc q e hq), C.2.2.2.2.2.1.warm hW⟩⟩ rfl hna hL.size rfl (lv_room hcat) hd hf) hA hw k
theorem zz_callVNv (C : zC p s m args meth c cc nL own D dA) {y : MethodName} {bytes : ByteArray} {maxL : Nat} {ret : Option FieldType} {rm : Room} {A1 : Nat → Prop} {As rest st0 : List Value} {b : Nat} {x : Int32} {wc w1 w2 : zW} {n1 mc ms idx na : Nat} {host : String} {ci : Nat} {fs : List Value} {T : u_T} {N : Nat} (hrc : w b = some (.inr (ci, fs))) (hcl : classes[ci]? = some (y.cls, T, N)) (site : zSiteVN own idx y host na) (hM : zM l y bytes maxL ret rm D dA A1 (.ref b :: As) wc n none w1 n1 mc ms) (hst : st0 = As.reverse ++ .ref b :: rest) (hna : As.length = na) (hd : decode cc pc = .ok (.invokevirtual idx, 3)) (hcode : Cond.code y bytes maxL ret ∈ zT) (hwc : ∀ (q : Nat) (e : va_E), wc q = some e → w q = some e) (hA : ∀ q, A1 q → A q) (hw : ∀ (q : Nat) (e : va_E), w2 q = some e → w1 q = some e ∨ (w q = some e ∧ ¬ A1 q)) (hrm : rm.cells = mc ∧ rm.slots = ms) (hR : rm.frames + 1 ≤ R.frames ∧ 8 + (maxL + 11) + rm.locals ≤ R.locals) (hf : kc + mc ≤ R.cells ∧ ks + ms ≤ R.slots) (hcat : (rest.map fun v => v.category).sum ≤ 8)
    (k : zz p l e R s m args below meth c D A nL Q w2 n1 (kc + mc) (ks + ms) (pc + 3) lv rest) : zz p l e R s m args below meth c D A nL Q w n kc ks pc lv st0 := by
  intro H locs ls hn hP hS hL
  subst hst
  have hts := C.2.2.2.2.1
  have hG : GoodIn zT (Cond.code y bytes maxL ret :: zT) := fun w hw => by
    rcases List.mem_cons.mp hw with h | h
    · rw [h]; exact ⟨hcode, zT_good _ hcode⟩
    · exact ⟨h, zT_good _ h⟩
  refine zz_go hn hP hS hL (va_runVN (C := y.cls) (host := host) (As := As) (rest := rest) ⟨C.1, C.2.1, C.2.2.1, C.2.2.2.1, hts⟩ hM ⟨va_cnB na hts hG rfl hrm.1 hrm.2 (C.2.2.2.2.2.1.2.1 _ site.1.1) (hts _ site.2.1) ⟨site.2.2.1, site.2.2.2.1, site.2.2.2.2⟩ hR, hts _ site.1.2.1, hts _ site.1.2.2⟩ ⟨fun a U g mk q => by obtain ⟨q0, q1, q2, q3⟩ := q; exact ⟨q0, q1, q2, q3.call⟩, (va_recv C.2.2.2.2.2.1.1 (hP.one hrc) hcl (q0 := 0) rfl), fun U hU hW => ⟨rfl, by rw [hU]; exact hn, by rw [hU]; exact fun q e hq => hP q e (hwc q e hq), C.2.2.2.2.2.1.warm hW⟩⟩ rfl hna hL.size rfl (lv_room hcat) hd hf) hA hw k
theorem zz_callSi (C : zC p s m args meth c cc nL own D dA) {y : MethodName} {bytes : ByteArray} {maxL : Nat} {ret : Option FieldType} {rm : Room} {A1 : Nat → Prop} {As rest st0 : List Value} {b : Nat} {x : Int32} {wc w1 w2 : zW} {n1 mc ms idx na : Nat} {host : String} (site : zSiteS own idx y na) (hM : zM l y bytes maxL ret rm D dA A1 As wc n (some (.int x)) w1 n1 mc ms) (hst : st0 = As.reverse ++ rest) (hna : As.length = na) (hd : decode cc pc = .ok (.invokestatic idx, 3)) (hcode : Cond.code y bytes maxL ret ∈ zT) (hwc : ∀ (q : Nat) (e : va_E), wc q = some e → w q = some e) (hA : ∀ q, A1 q → A q) (hw : ∀ (q : Nat) (e : va_E), w2 q = some e → w1 q = some e ∨ (w q = some e ∧ ¬ A1 q)) (hrm : rm.cells = mc ∧ rm.slots = ms) (hR : rm.frames + 1 ≤ R.frames ∧ 8 + (maxL + 11) + rm.locals ≤ R.locals) (hf : kc + mc ≤ R.cells ∧ ks + ms ≤ R.slots) (hcat : (rest.map fun v => v.category).sum ≤ 8)
    (k : zz p l e R s m args below meth c D A nL Q w2 n1 (kc + mc) (ks + ms) (pc + 3) lv (.int x :: rest)) : zz p l e R s m args below meth c D A nL Q w n kc ks pc lv st0 := by
  intro H locs ls hn hP hS hL
  subst hst
  have hts := C.2.2.2.2.1
  have hG : GoodIn zT (Cond.code y bytes maxL ret :: zT) := fun w hw => by
    rcases List.mem_cons.mp hw with h | h
    · rw [h]; exact ⟨hcode, zT_good _ hcode⟩
    · exact ⟨h, zT_good _ h⟩
  refine zz_go hn hP hS hL (va_runS (As := As) (rest := rest) ⟨C.1, C.2.1, C.2.2.1, C.2.2.2.1, hts⟩ hM ⟨callB_of na hts hG rfl hrm.1 hrm.2 (hts _ site.2.1) (hts _ site.1.1) ⟨site.2.2.1, site.2.2.2.1, site.2.2.2.2⟩ hR, hts _ site.1.2⟩ ⟨fun a U g mk q => by obtain ⟨q0, q1, q2, q3⟩ := q; exact ⟨q0, q1, q2, q3.call⟩, fun U hU hW => ⟨rfl, by rw [hU]; exact hn, by rw [hU]; exact fun q e hq => hP q e (hwc q e hq), C.2.2.2.2.2.1.warm hW⟩⟩ rfl hna hL.size rfl (lv_room hcat) hd hf) hA hw k
theorem zz_callSv (C : zC p s m args meth c cc nL own D dA) {y : MethodName} {bytes : ByteArray} {maxL : Nat} {ret : Option FieldType} {rm : Room} {A1 : Nat → Prop} {As rest st0 : List Value} {b : Nat} {x : Int32} {wc w1 w2 : zW} {n1 mc ms idx na : Nat} {host : String} (site : zSiteS own idx y na) (hM : zM l y bytes maxL ret rm D dA A1 As wc n none w1 n1 mc ms) (hst : st0 = As.reverse ++ rest) (hna : As.length = na) (hd : decode cc pc = .ok (.invokestatic idx, 3)) (hcode : Cond.code y bytes maxL ret ∈ zT) (hwc : ∀ (q : Nat) (e : va_E), wc q = some e → w q = some e) (hA : ∀ q, A1 q → A q) (hw : ∀ (q : Nat) (e : va_E), w2 q = some e → w1 q = some e ∨ (w q = some e ∧ ¬ A1 q)) (hrm : rm.cells = mc ∧ rm.slots = ms) (hR : rm.frames + 1 ≤ R.frames ∧ 8 + (maxL + 11) + rm.locals ≤ R.locals) (hf : kc + mc ≤ R.cells ∧ ks + ms ≤ R.slots) (hcat : (rest.map fun v => v.category).sum ≤ 8)
    (k : zz p l e R s m args below meth c D A nL Q w2 n1 (kc + mc) (ks + ms) (pc + 3) lv rest) : zz p l e R s m args below meth c D A nL Q w n kc ks pc lv st0 := by
  intro H locs ls hn hP hS hL
  subst hst
  have hts := C.2.2.2.2.1
  have hG : GoodIn zT (Cond.code y bytes maxL ret :: zT) := fun w hw => by
    rcases List.mem_cons.mp hw with h | h
    · rw [h]; exact ⟨hcode, zT_good _ hcode⟩
    · exact ⟨h, zT_good _ h⟩
  refine zz_go hn hP hS hL (va_runS (As := As) (rest := rest) ⟨C.1, C.2.1, C.2.2.1, C.2.2.2.1, hts⟩ hM ⟨callB_of na hts hG rfl hrm.1 hrm.2 (hts _ site.2.1) (hts _ site.1.1) ⟨site.2.2.1, site.2.2.2.1, site.2.2.2.2⟩ hR, hts _ site.1.2⟩ ⟨fun a U g mk q => by obtain ⟨q0, q1, q2, q3⟩ := q; exact ⟨q0, q1, q2, q3.call⟩, fun U hU hW => ⟨rfl, by rw [hU]; exact hn, by rw [hU]; exact fun q e hq => hP q e (hwc q e hq), C.2.2.2.2.2.1.warm hW⟩⟩ rfl hna hL.size rfl (lv_room hcat) hd hf) hA hw k
theorem zz_callIv (C : zC p s m args meth c cc nL own D dA) {y : MethodName} {bytes : ByteArray} {maxL : Nat} {ret : Option FieldType} {rm : Room} {A1 : Nat → Prop} {As rest st0 : List Value} {b : Nat} {x : Int32} {wc w1 w2 : zW} {n1 mc ms idx na : Nat} {host : String} (site : zSiteI own idx y na) (hM : zM l y bytes maxL none rm D dA A1 (.ref b :: As) wc n none w1 n1 mc ms) (hst : st0 = As.reverse ++ .ref b :: rest) (hna : As.length = na) (hd : decode cc pc = .ok (.invokespecial idx, 3)) (hcode : Cond.code y bytes maxL none ∈ zT) (hwc : ∀ (q : Nat) (e : va_E), wc q = some e → w q = some e) (hA : ∀ q, A1 q → A q) (hw : ∀ (q : Nat) (e : va_E), w2 q = some e → w1 q = some e ∨ (w q = some e ∧ ¬ A1 q)) (hrm : rm.cells = mc ∧ rm.slots = ms) (hR : rm.frames + 1 ≤ R.frames ∧ 8 + (maxL + 11) + rm.locals ≤ R.locals) (hf : kc + mc ≤ R.cells ∧ ks + ms ≤ R.slots) (hcat : (rest.map fun v => v.category).sum ≤ 8)
    (k : zz p l e R s m args below meth c D A nL Q w2 n1 (kc + mc) (ks + ms) (pc + 3) lv rest) : zz p l e R s m args below meth c D A nL Q w n kc ks pc lv st0 := by
  intro H locs ls hn hP hS hL
  subst hst
  have hts := C.2.2.2.2.1
  have hG : GoodIn zT (Cond.code y bytes maxL none :: zT) := fun w hw => by
    rcases List.mem_cons.mp hw with h | h
    · rw [h]; exact ⟨hcode, zT_good _ hcode⟩
    · exact ⟨h, zT_good _ h⟩
  refine zz_go hn hP hS hL (va_runI (b := b) (As := As) (rest := rest) ⟨C.1, C.2.1, C.2.2.1, C.2.2.2.1, hts⟩ hM ⟨callB_of na hts hG rfl hrm.1 hrm.2 (hts _ site.2.1) (hts _ site.1.1) ⟨site.2.2.1, site.2.2.2.1, site.2.2.2.2⟩ hR, site.1.2.2, hts _ site.1.2.1⟩ ⟨fun a U g mk q => by obtain ⟨q0, q1, q2, q3⟩ := q; exact ⟨q0, q1, q2, q3.call⟩, fun U hU hW => ⟨rfl, by rw [hU]; exact hn, by rw [hU]; exact fun q e hq => hP q e (hwc q e hq), C.2.2.2.2.2.1.warm hW⟩⟩ rfl hna hL.size rfl (lv_room hcat) hd hf) hA hw k
theorem zz_callINv (C : zC p s m args meth c cc nL own D dA) {y : MethodName} {bytes : ByteArray} {maxL : Nat} {ret : Option FieldType} {rm : Room} {A1 : Nat → Prop} {As rest st0 : List Value} {b : Nat} {x : Int32} {wc w1 w2 : zW} {n1 mc ms idx na : Nat} {host : String} (site : zSiteIN own idx y host na) (hM : zM l y bytes maxL none rm D dA A1 (.ref b :: As) wc n none w1 n1 mc ms) (hst : st0 = As.reverse ++ .ref b :: rest) (hna : As.length = na) (hd : decode cc pc = .ok (.invokespecial idx, 3)) (hcode : Cond.code y bytes maxL none ∈ zT) (hwc : ∀ (q : Nat) (e : va_E), wc q = some e → w q = some e) (hA : ∀ q, A1 q → A q) (hw : ∀ (q : Nat) (e : va_E), w2 q = some e → w1 q = some e ∨ (w q = some e ∧ ¬ A1 q)) (hrm : rm.cells = mc ∧ rm.slots = ms) (hR : rm.frames + 1 ≤ R.frames ∧ 8 + (maxL + 11) + rm.locals ≤ R.locals) (hf : kc + mc ≤ R.cells ∧ ks + ms ≤ R.slots) (hcat : (rest.map fun v => v.category).sum ≤ 8)
    (k : zz p l e R s m args below meth c D A nL Q w2 n1 (kc + mc) (ks + ms) (pc + 3) lv rest) : zz p l e R s m args below meth c D A nL Q w n kc ks pc lv st0 := by
  intro H locs ls hn hP hS hL
  subst hst
  have hts := C.2.2.2.2.1
  have hG : GoodIn zT (Cond.code y bytes maxL none :: zT) := fun w hw => by
    rcases List.mem_cons.mp hw with h | h
    · rw [h]; exact ⟨hcode, zT_good _ hcode⟩
    · exact ⟨h, zT_good _ h⟩
  refine zz_go hn hP hS hL (va_runIN (b := b) (host := host) (As := As) (rest := rest) ⟨C.1, C.2.1, C.2.2.1, C.2.2.2.1, hts⟩ hM ⟨va_cnB na hts hG rfl hrm.1 hrm.2 (C.2.2.2.2.2.1.2.1 _ site.1.1) (hts _ site.2.1) ⟨site.2.2.1, site.2.2.2.1, site.2.2.2.2⟩ hR, site.1.2.2, hts _ site.1.2.1⟩ ⟨fun a U g mk q => by obtain ⟨q0, q1, q2, q3⟩ := q; exact ⟨q0, q1, q2, q3.call⟩, fun U hU hW => ⟨rfl, by rw [hU]; exact hn, by rw [hU]; exact fun q e hq => hP q e (hwc q e hq), C.2.2.2.2.2.1.warm hW⟩⟩ rfl hna hL.size rfl (lv_room hcat) hd hf) hA hw k
end ZZ
end
section
theorem zt_of {i : Nat} {w : Cond} (h : tables_1[i]? = some w) (g : (k2_isCode w || goodWord w) = true) : w ∈ zT := List.mem_filter.mpr ⟨List.mem_append_right _ (List.mem_of_getElem? h), g⟩
theorem zs_of {i : Nat} {w : Cond} (h : (k2_sels lw_privs)[i]? = some w) (g : (k2_isCode w || goodWord w) = true) : w ∈ zT := List.mem_filter.mpr ⟨List.mem_append_left _ (List.mem_of_getElem? h), g⟩
theorem zn_of {i : Nat} {w : Cond} (h : tables_1[i]? = some w) (g : zIsN w = true) : w ∈ zN := List.mem_filter.mpr ⟨List.mem_append_right _ (List.mem_of_getElem? h), g⟩
theorem zR_le {K K' maxL : Nat} (h : K + 1 ≤ K' ∧ maxL ≤ 21) : (zR K).frames + 1 ≤ (zR K').frames ∧ 8 + (maxL + 11) + (zR K).locals ≤ (zR K').locals := by
  simp only [zR]
  omega
theorem zi_Ar : ∀ w ∈ u_ws R_Ar F_Ar 5, w ∈ zT := by
  intro w hw
  obtain ⟨k, hk, rfl⟩ := List.mem_map.mp hw
  have hk := List.mem_range.mp hk
  match k, hk with
  | 0, _ => exact zt_of (i := 35) (by decide +kernel) rfl
  | 1, _ => exact zt_of (i := 37) (by decide +kernel) rfl
  | 2, _ => exact zt_of (i := 39) (by decide +kernel) rfl
  | 3, _ => exact zt_of (i := 41) (by decide +kernel) rfl
  | 4, _ => exact zt_of (i := 43) (by decide +kernel) rfl
  | k + 5, h => omega
theorem zi_Ce : ∀ w ∈ u_ws R_Ce F_Ce 4, w ∈ zT := by
  intro w hw
  obtain ⟨k, hk, rfl⟩ := List.mem_map.mp hw
  have hk := List.mem_range.mp hk
  match k, hk with
  | 0, _ => exact zt_of (i := 59) (by decide +kernel) rfl
  | 1, _ => exact zt_of (i := 61) (by decide +kernel) rfl
  | 2, _ => exact zt_of (i := 63) (by decide +kernel) rfl
  | 3, _ => exact zt_of (i := 65) (by decide +kernel) rfl
  | k + 4, h => omega
theorem zi_Ro : ∀ w ∈ u_ws R_Ro F_Ro 5, w ∈ zT := by
  intro w hw
  obtain ⟨k, hk, rfl⟩ := List.mem_map.mp hw
  have hk := List.mem_range.mp hk
  match k, hk with
  | 0, _ => exact zt_of (i := 79) (by decide +kernel) rfl
  | 1, _ => exact zt_of (i := 81) (by decide +kernel) rfl
  | 2, _ => exact zt_of (i := 83) (by decide +kernel) rfl
  | 3, _ => exact zt_of (i := 85) (by decide +kernel) rfl
  | 4, _ => exact zt_of (i := 87) (by decide +kernel) rfl
  | k + 5, h => omega
theorem zi_SM : ∀ w ∈ u_ws R_SM F_SM 8, w ∈ zT := by
  intro w hw
  obtain ⟨k, hk, rfl⟩ := List.mem_map.mp hw
  have hk := List.mem_range.mp hk
  match k, hk with
  | 0, _ => exact zt_of (i := 108) (by decide +kernel) rfl
  | 1, _ => exact zt_of (i := 110) (by decide +kernel) rfl
  | 2, _ => exact zt_of (i := 112) (by decide +kernel) rfl
  | 3, _ => exact zt_of (i := 114) (by decide +kernel) rfl
  | 4, _ => exact zt_of (i := 116) (by decide +kernel) rfl
  | 5, _ => exact zt_of (i := 118) (by decide +kernel) rfl
  | 6, _ => exact zt_of (i := 120) (by decide +kernel) rfl
  | 7, _ => exact zt_of (i := 122) (by decide +kernel) rfl
  | k + 8, h => omega
theorem zi_MM : ∀ w ∈ u_ws R_MM F_MM 16, w ∈ zT := by
  intro w hw
  obtain ⟨k, hk, rfl⟩ := List.mem_map.mp hw
  have hk := List.mem_range.mp hk
  match k, hk with
  | 0, _ => exact zt_of (i := 357) (by decide +kernel) rfl
  | 1, _ => exact zt_of (i := 359) (by decide +kernel) rfl
  | 2, _ => exact zt_of (i := 361) (by decide +kernel) rfl
  | 3, _ => exact zt_of (i := 363) (by decide +kernel) rfl
  | 4, _ => exact zt_of (i := 365) (by decide +kernel) rfl
  | 5, _ => exact zt_of (i := 367) (by decide +kernel) rfl
  | 6, _ => exact zt_of (i := 369) (by decide +kernel) rfl
  | 7, _ => exact zt_of (i := 371) (by decide +kernel) rfl
  | 8, _ => exact zt_of (i := 373) (by decide +kernel) rfl
  | 9, _ => exact zt_of (i := 375) (by decide +kernel) rfl
  | 10, _ => exact zt_of (i := 377) (by decide +kernel) rfl
  | 11, _ => exact zt_of (i := 379) (by decide +kernel) rfl
  | 12, _ => exact zt_of (i := 381) (by decide +kernel) rfl
  | 13, _ => exact zt_of (i := 383) (by decide +kernel) rfl
  | 14, _ => exact zt_of (i := 385) (by decide +kernel) rfl
  | 15, _ => exact zt_of (i := 387) (by decide +kernel) rfl
  | k + 16, h => omega
theorem fn_SM_41 : Cond.fieldLinkNest R_SM 41 (F_Ar 0).1 (F_Ar 0).2.1 (F_Ar 0).2.2.1 "ScopedMemory" ∈ zN := zn_of (i := 26) (by decide +kernel) rfl
theorem fl_Ar_18 : Cond.fieldLink R_Ar 18 (F_Ar 0).1 (F_Ar 0).2.1 (F_Ar 0).2.2.1 ∈ zT := zt_of (i := 27) (by decide +kernel) rfl
theorem fl_Ar_21 : Cond.fieldLink R_Ar 21 (F_Ar 1).1 (F_Ar 1).2.1 (F_Ar 1).2.2.1 ∈ zT := zt_of (i := 28) (by decide +kernel) rfl
theorem fn_SM_118 : Cond.fieldLinkNest R_SM 118 (F_Ar 1).1 (F_Ar 1).2.1 (F_Ar 1).2.2.1 "ScopedMemory" ∈ zN := zn_of (i := 29) (by decide +kernel) rfl
theorem fn_SM_73 : Cond.fieldLinkNest R_SM 73 (F_Ar 2).1 (F_Ar 2).2.1 (F_Ar 2).2.2.1 "ScopedMemory" ∈ zN := zn_of (i := 30) (by decide +kernel) rfl
theorem fl_Ar_9 : Cond.fieldLink R_Ar 9 (F_Ar 3).1 (F_Ar 3).2.1 (F_Ar 3).2.2.1 ∈ zT := zt_of (i := 31) (by decide +kernel) rfl
theorem fn_SM_76 : Cond.fieldLinkNest R_SM 76 (F_Ar 3).1 (F_Ar 3).2.1 (F_Ar 3).2.2.1 "ScopedMemory" ∈ zN := zn_of (i := 32) (by decide +kernel) rfl
theorem fl_Ar_15 : Cond.fieldLink R_Ar 15 (F_Ar 4).1 (F_Ar 4).2.1 (F_Ar 4).2.2.1 ∈ zT := zt_of (i := 33) (by decide +kernel) rfl
theorem fn_SM_146 : Cond.fieldLinkNest R_SM 146 (F_Ar 4).1 (F_Ar 4).2.1 (F_Ar 4).2.2.1 "ScopedMemory" ∈ zN := zn_of (i := 34) (by decide +kernel) rfl
theorem fl_Ce_9 : Cond.fieldLink R_Ce 9 (F_Ce 0).1 (F_Ce 0).2.1 (F_Ce 0).2.2.1 ∈ zT := zt_of (i := 52) (by decide +kernel) rfl
theorem fn_SM_143 : Cond.fieldLinkNest R_SM 143 (F_Ce 0).1 (F_Ce 0).2.1 (F_Ce 0).2.2.1 "ScopedMemory" ∈ zN := zn_of (i := 53) (by decide +kernel) rfl
theorem fl_Ce_15 : Cond.fieldLink R_Ce 15 (F_Ce 1).1 (F_Ce 1).2.1 (F_Ce 1).2.2.1 ∈ zT := zt_of (i := 54) (by decide +kernel) rfl
theorem fn_SM_137 : Cond.fieldLinkNest R_SM 137 (F_Ce 1).1 (F_Ce 1).2.1 (F_Ce 1).2.2.1 "ScopedMemory" ∈ zN := zn_of (i := 55) (by decide +kernel) rfl
theorem fl_Ce_19 : Cond.fieldLink R_Ce 19 (F_Ce 2).1 (F_Ce 2).2.1 (F_Ce 2).2.2.1 ∈ zT := zt_of (i := 56) (by decide +kernel) rfl
theorem fn_SM_182 : Cond.fieldLinkNest R_SM 182 (F_Ce 2).1 (F_Ce 2).2.1 (F_Ce 2).2.2.1 "ScopedMemory" ∈ zN := zn_of (i := 57) (by decide +kernel) rfl
theorem fn_SM_155 : Cond.fieldLinkNest R_SM 155 (F_Ce 3).1 (F_Ce 3).2.1 (F_Ce 3).2.2.1 "ScopedMemory" ∈ zN := zn_of (i := 58) (by decide +kernel) rfl
theorem fl_Ro_9 : Cond.fieldLink R_Ro 9 (F_Ro 0).1 (F_Ro 0).2.1 (F_Ro 0).2.2.1 ∈ zT := zt_of (i := 73) (by decide +kernel) rfl
theorem fl_Ro_15 : Cond.fieldLink R_Ro 15 (F_Ro 1).1 (F_Ro 1).2.1 (F_Ro 1).2.2.1 ∈ zT := zt_of (i := 74) (by decide +kernel) rfl
theorem fl_Ro_18 : Cond.fieldLink R_Ro 18 (F_Ro 2).1 (F_Ro 2).2.1 (F_Ro 2).2.2.1 ∈ zT := zt_of (i := 75) (by decide +kernel) rfl
theorem fl_Ro_22 : Cond.fieldLink R_Ro 22 (F_Ro 3).1 (F_Ro 3).2.1 (F_Ro 3).2.2.1 ∈ zT := zt_of (i := 76) (by decide +kernel) rfl
theorem fn_SM_92 : Cond.fieldLinkNest R_SM 92 (F_Ro 3).1 (F_Ro 3).2.1 (F_Ro 3).2.2.1 "ScopedMemory" ∈ zN := zn_of (i := 77) (by decide +kernel) rfl
theorem fn_SM_55 : Cond.fieldLinkNest R_SM 55 (F_Ro 4).1 (F_Ro 4).2.1 (F_Ro 4).2.2.1 "ScopedMemory" ∈ zN := zn_of (i := 78) (by decide +kernel) rfl
theorem fl_SM_11 : Cond.fieldLink R_SM 11 (F_SM 0).1 (F_SM 0).2.1 (F_SM 0).2.2.1 ∈ zT := zt_of (i := 100) (by decide +kernel) rfl
theorem fl_SM_17 : Cond.fieldLink R_SM 17 (F_SM 1).1 (F_SM 1).2.1 (F_SM 1).2.2.1 ∈ zT := zt_of (i := 101) (by decide +kernel) rfl
theorem fl_SM_23 : Cond.fieldLink R_SM 23 (F_SM 2).1 (F_SM 2).2.1 (F_SM 2).2.2.1 ∈ zT := zt_of (i := 102) (by decide +kernel) rfl
theorem fl_SM_27 : Cond.fieldLink R_SM 27 (F_SM 3).1 (F_SM 3).2.1 (F_SM 3).2.2.1 ∈ zT := zt_of (i := 103) (by decide +kernel) rfl
theorem fl_SM_31 : Cond.fieldLink R_SM 31 (F_SM 4).1 (F_SM 4).2.1 (F_SM 4).2.2.1 ∈ zT := zt_of (i := 104) (by decide +kernel) rfl
theorem fl_SM_170 : Cond.fieldLink R_SM 170 (F_SM 5).1 (F_SM 5).2.1 (F_SM 5).2.2.1 ∈ zT := zt_of (i := 105) (by decide +kernel) rfl
theorem fl_SM_45 : Cond.fieldLink R_SM 45 (F_SM 6).1 (F_SM 6).2.1 (F_SM 6).2.2.1 ∈ zT := zt_of (i := 106) (by decide +kernel) rfl
theorem fl_SM_121 : Cond.fieldLink R_SM 121 (F_SM 7).1 (F_SM 7).2.1 (F_SM 7).2.2.1 ∈ zT := zt_of (i := 107) (by decide +kernel) rfl
theorem fl_MM_7 : Cond.fieldLink R_MM 7 (F_MM 0).1 (F_MM 0).2.1 (F_MM 0).2.2.1 ∈ zT := zt_of (i := 341) (by decide +kernel) rfl
theorem fl_MM_13 : Cond.fieldLink R_MM 13 (F_MM 1).1 (F_MM 1).2.1 (F_MM 1).2.2.1 ∈ zT := zt_of (i := 342) (by decide +kernel) rfl
theorem fl_MM_17 : Cond.fieldLink R_MM 17 (F_MM 2).1 (F_MM 2).2.1 (F_MM 2).2.2.1 ∈ zT := zt_of (i := 343) (by decide +kernel) rfl
theorem fl_MM_20 : Cond.fieldLink R_MM 20 (F_MM 3).1 (F_MM 3).2.1 (F_MM 3).2.2.1 ∈ zT := zt_of (i := 344) (by decide +kernel) rfl
theorem fl_MM_23 : Cond.fieldLink R_MM 23 (F_MM 4).1 (F_MM 4).2.1 (F_MM 4).2.2.1 ∈ zT := zt_of (i := 345) (by decide +kernel) rfl
theorem fl_MM_26 : Cond.fieldLink R_MM 26 (F_MM 5).1 (F_MM 5).2.1 (F_MM 5).2.2.1 ∈ zT := zt_of (i := 346) (by decide +kernel) rfl
theorem fl_MM_29 : Cond.fieldLink R_MM 29 (F_MM 6).1 (F_MM 6).2.1 (F_MM 6).2.2.1 ∈ zT := zt_of (i := 347) (by decide +kernel) rfl
theorem fl_MM_32 : Cond.fieldLink R_MM 32 (F_MM 7).1 (F_MM 7).2.1 (F_MM 7).2.2.1 ∈ zT := zt_of (i := 348) (by decide +kernel) rfl
theorem fl_MM_35 : Cond.fieldLink R_MM 35 (F_MM 8).1 (F_MM 8).2.1 (F_MM 8).2.2.1 ∈ zT := zt_of (i := 349) (by decide +kernel) rfl
theorem fl_MM_39 : Cond.fieldLink R_MM 39 (F_MM 9).1 (F_MM 9).2.1 (F_MM 9).2.2.1 ∈ zT := zt_of (i := 350) (by decide +kernel) rfl
theorem fl_MM_42 : Cond.fieldLink R_MM 42 (F_MM 10).1 (F_MM 10).2.1 (F_MM 10).2.2.1 ∈ zT := zt_of (i := 351) (by decide +kernel) rfl
theorem fl_MM_45 : Cond.fieldLink R_MM 45 (F_MM 11).1 (F_MM 11).2.1 (F_MM 11).2.2.1 ∈ zT := zt_of (i := 352) (by decide +kernel) rfl
theorem fl_MM_48 : Cond.fieldLink R_MM 48 (F_MM 12).1 (F_MM 12).2.1 (F_MM 12).2.2.1 ∈ zT := zt_of (i := 353) (by decide +kernel) rfl
theorem fl_MM_51 : Cond.fieldLink R_MM 51 (F_MM 13).1 (F_MM 13).2.1 (F_MM 13).2.2.1 ∈ zT := zt_of (i := 354) (by decide +kernel) rfl
theorem fl_MM_54 : Cond.fieldLink R_MM 54 (F_MM 14).1 (F_MM 14).2.1 (F_MM 14).2.2.1 ∈ zT := zt_of (i := 355) (by decide +kernel) rfl
theorem fl_MM_57 : Cond.fieldLink R_MM 57 (F_MM 15).1 (F_MM 15).2.1 (F_MM 15).2.2.1 ∈ zT := zt_of (i := 356) (by decide +kernel) rfl
set_option maxRecDepth 20000 in
theorem k_SM_init : Cond.code y_SM_init b_SM_init 4 none ∈ zT := zt_of (i := 11) rfl rfl
set_option maxRecDepth 20000 in
theorem k_Ar_init : Cond.code y_Ar_init b_Ar_init 1 none ∈ zT := zt_of (i := 24) rfl rfl
set_option maxRecDepth 20000 in
theorem k_Ce_init : Cond.code y_Ce_init b_Ce_init 1 none ∈ zT := zt_of (i := 50) rfl rfl
set_option maxRecDepth 20000 in
theorem k_Ro_init : Cond.code y_Ro_init b_Ro_init 1 none ∈ zT := zt_of (i := 71) rfl rfl
set_option maxRecDepth 20000 in
theorem k_SM_clampBaseSize : Cond.code y_SM_clampBaseSize b_SM_clampBaseSize 1 (some .int) ∈ zT := zt_of (i := 93) rfl rfl
set_option maxRecDepth 20000 in
theorem k_SM_scope : Cond.code y_SM_scope b_SM_scope 3 (some .int) ∈ zT := zt_of (i := 128) rfl rfl
set_option maxRecDepth 20000 in
theorem k_SM_begin : Cond.code y_SM_begin b_SM_begin 3 (some .int) ∈ zT := zt_of (i := 132) rfl rfl
set_option maxRecDepth 20000 in
theorem k_SM_isThread : Cond.code y_SM_isThread b_SM_isThread 1 (some .boolean) ∈ zT := zt_of (i := 135) rfl rfl
set_option maxRecDepth 20000 in
theorem k_SM_isBegun : Cond.code y_SM_isBegun b_SM_isBegun 2 (some .boolean) ∈ zT := zt_of (i := 139) rfl rfl
set_option maxRecDepth 20000 in
theorem k_Ro_push : Cond.code y_Ro_push b_Ro_push 4 none ∈ zT := zt_of (i := 143) rfl rfl
set_option maxRecDepth 20000 in
theorem k_SM_enter : Cond.code y_SM_enter b_SM_enter 6 (some .int) ∈ zT := zt_of (i := 147) rfl rfl
set_option maxRecDepth 20000 in
theorem k_SM_isScope : Cond.code y_SM_isScope b_SM_isScope 2 (some .boolean) ∈ zT := zt_of (i := 151) rfl rfl
set_option maxRecDepth 20000 in
theorem k_SM_isArea : Cond.code y_SM_isArea b_SM_isArea 2 (some .boolean) ∈ zT := zt_of (i := 155) rfl rfl
set_option maxRecDepth 20000 in
theorem k_Ro_nearestScope : Cond.code y_Ro_nearestScope b_Ro_nearestScope 3 (some .int) ∈ zT := zt_of (i := 159) rfl rfl
set_option maxRecDepth 20000 in
theorem k_Ro_top : Cond.code y_Ro_top b_Ro_top 1 (some .int) ∈ zT := zt_of (i := 163) rfl rfl
set_option maxRecDepth 20000 in
theorem k_Ro_hasInView : Cond.code y_Ro_hasInView b_Ro_hasInView 2 (some .boolean) ∈ zT := zt_of (i := 167) rfl rfl
set_option maxRecDepth 20000 in
theorem k_Ro_firstWith : Cond.code y_Ro_firstWith b_Ro_firstWith 4 (some .int) ∈ zT := zt_of (i := 171) rfl rfl
set_option maxRecDepth 20000 in
theorem k_Ro_isFull : Cond.code y_Ro_isFull b_Ro_isFull 1 (some .boolean) ∈ zT := zt_of (i := 175) rfl rfl
set_option maxRecDepth 20000 in
theorem k_SM_turn : Cond.code y_SM_turn b_SM_turn 4 (some .int) ∈ zT := zt_of (i := 180) rfl rfl
set_option maxRecDepth 20000 in
theorem k_Ro_underOfFirstWith : Cond.code y_Ro_underOfFirstWith b_Ro_underOfFirstWith 3 (some .int) ∈ zT := zt_of (i := 184) rfl rfl
set_option maxRecDepth 20000 in
theorem k_SM_leave : Cond.code y_SM_leave b_SM_leave 5 (some .int) ∈ zT := zt_of (i := 188) rfl rfl
set_option maxRecDepth 20000 in
theorem k_Ro_currentArea : Cond.code y_Ro_currentArea b_Ro_currentArea 1 (some .int) ∈ zT := zt_of (i := 192) rfl rfl
set_option maxRecDepth 20000 in
theorem k_Ro_topWasEntered : Cond.code y_Ro_topWasEntered b_Ro_topWasEntered 1 (some .boolean) ∈ zT := zt_of (i := 196) rfl rfl
set_option maxRecDepth 20000 in
theorem k_Ro_pop : Cond.code y_Ro_pop b_Ro_pop 1 none ∈ zT := zt_of (i := 200) rfl rfl
set_option maxRecDepth 20000 in
theorem k_SM_dropEntry : Cond.code y_SM_dropEntry b_SM_dropEntry 2 none ∈ zT := zt_of (i := 204) rfl rfl
set_option maxRecDepth 20000 in
theorem k_SM_emptyScope : Cond.code y_SM_emptyScope b_SM_emptyScope 3 none ∈ zT := zt_of (i := 208) rfl rfl
set_option maxRecDepth 20000 in
theorem k_SM_drop : Cond.code y_SM_drop b_SM_drop 3 none ∈ zT := zt_of (i := 212) rfl rfl
set_option maxRecDepth 20000 in
theorem k_SM_make : Cond.code y_SM_make b_SM_make 5 (some .int) ∈ zT := zt_of (i := 216) rfl rfl
set_option maxRecDepth 20000 in
theorem k_SM_leastFreeNumber : Cond.code y_SM_leastFreeNumber b_SM_leastFreeNumber 2 (some .int) ∈ zT := zt_of (i := 220) rfl rfl
set_option maxRecDepth 20000 in
theorem k_Ar_free : Cond.code y_Ar_free b_Ar_free 1 (some .int) ∈ zT := zt_of (i := 224) rfl rfl
set_option maxRecDepth 20000 in
theorem k_Ce_fill : Cond.code y_Ce_fill b_Ce_fill 4 none ∈ zT := zt_of (i := 228) rfl rfl
set_option maxRecDepth 20000 in
theorem k_SM_put : Cond.code y_SM_put b_SM_put 5 (some .int) ∈ zT := zt_of (i := 232) rfl rfl
set_option maxRecDepth 20000 in
theorem k_SM_hasField : Cond.code y_SM_hasField b_SM_hasField 3 (some .boolean) ∈ zT := zt_of (i := 236) rfl rfl
set_option maxRecDepth 20000 in
theorem k_SM_isObject : Cond.code y_SM_isObject b_SM_isObject 2 (some .boolean) ∈ zT := zt_of (i := 240) rfl rfl
set_option maxRecDepth 20000 in
theorem k_SM_isObjectOrNull : Cond.code y_SM_isObjectOrNull b_SM_isObjectOrNull 2 (some .boolean) ∈ zT := zt_of (i := 244) rfl rfl
set_option maxRecDepth 20000 in
theorem k_SM_sees : Cond.code y_SM_sees b_SM_sees 4 (some .boolean) ∈ zT := zt_of (i := 248) rfl rfl
set_option maxRecDepth 20000 in
theorem k_SM_seesOrNull : Cond.code y_SM_seesOrNull b_SM_seesOrNull 3 (some .boolean) ∈ zT := zt_of (i := 252) rfl rfl
set_option maxRecDepth 20000 in
theorem k_SM_mayPointTo : Cond.code y_SM_mayPointTo b_SM_mayPointTo 4 (some .boolean) ∈ zT := zt_of (i := 256) rfl rfl
set_option maxRecDepth 20000 in
theorem k_SM_liesIn : Cond.code y_SM_liesIn b_SM_liesIn 5 (some .boolean) ∈ zT := zt_of (i := 260) rfl rfl
set_option maxRecDepth 20000 in
theorem k_SM_get : Cond.code y_SM_get b_SM_get 5 (some .int) ∈ zT := zt_of (i := 264) rfl rfl
set_option maxRecDepth 20000 in
theorem k_SM_hang : Cond.code y_SM_hang b_SM_hang 4 (some .int) ∈ zT := zt_of (i := 268) rfl rfl
set_option maxRecDepth 20000 in
theorem k_SM_portal : Cond.code y_SM_portal b_SM_portal 3 (some .int) ∈ zT := zt_of (i := 272) rfl rfl
set_option maxRecDepth 20000 in
theorem k_SM_objectOrNull : Cond.code y_SM_objectOrNull b_SM_objectOrNull 1 (some .int) ∈ zT := zt_of (i := 275) rfl rfl
set_option maxRecDepth 20000 in
theorem k_SM_assign : Cond.code y_SM_assign b_SM_assign 4 (some .int) ∈ zT := zt_of (i := 279) rfl rfl
set_option maxRecDepth 20000 in
theorem k_SM_collect : Cond.code y_SM_collect b_SM_collect 3 (some .int) ∈ zT := zt_of (i := 283) rfl rfl
set_option maxRecDepth 20000 in
theorem k_SM_findKept : Cond.code y_SM_findKept b_SM_findKept 2 none ∈ zT := zt_of (i := 287) rfl rfl
set_option maxRecDepth 20000 in
theorem k_SM_keep : Cond.code y_SM_keep b_SM_keep 2 none ∈ zT := zt_of (i := 291) rfl rfl
set_option maxRecDepth 20000 in
theorem k_SM_keepFieldsOf : Cond.code y_SM_keepFieldsOf b_SM_keepFieldsOf 4 none ∈ zT := zt_of (i := 295) rfl rfl
set_option maxRecDepth 20000 in
theorem k_SM_areaOf : Cond.code y_SM_areaOf b_SM_areaOf 2 (some .int) ∈ zT := zt_of (i := 299) rfl rfl
set_option maxRecDepth 20000 in
theorem k_SM_room : Cond.code y_SM_room b_SM_room 2 (some .int) ∈ zT := zt_of (i := 303) rfl rfl
set_option maxRecDepth 20000 in
theorem k_SM_parent : Cond.code y_SM_parent b_SM_parent 2 (some .int) ∈ zT := zt_of (i := 307) rfl rfl
set_option maxRecDepth 20000 in
theorem k_SM_entries : Cond.code y_SM_entries b_SM_entries 2 (some .int) ∈ zT := zt_of (i := 311) rfl rfl
set_option maxRecDepth 20000 in
theorem k_SM_view : Cond.code y_SM_view b_SM_view 4 (some .int) ∈ zT := zt_of (i := 315) rfl rfl
set_option maxRecDepth 20000 in
theorem k_Ro_areaInView : Cond.code y_Ro_areaInView b_Ro_areaInView 4 (some .int) ∈ zT := zt_of (i := 319) rfl rfl
set_option maxRecDepth 20000 in
theorem k_SM_count : Cond.code y_SM_count b_SM_count 2 (some .int) ∈ zT := zt_of (i := 323) rfl rfl
set_option maxRecDepth 20000 in
theorem k_SM_begunThreads : Cond.code y_SM_begunThreads b_SM_begunThreads 3 (some .int) ∈ zT := zt_of (i := 327) rfl rfl
set_option maxRecDepth 20000 in
theorem k_law_cell : Cond.code y_law_cell b_law_cell 2 (some .int) ∈ zT := zt_of (i := 330) rfl rfl
set_option maxRecDepth 20000 in
theorem k_MM_init : Cond.code y_MM_init b_MM_init 4 none ∈ zT := zt_of (i := 335) rfl rfl
set_option maxRecDepth 20000 in
theorem k_MM_clamp : Cond.code y_MM_clamp b_MM_clamp 2 (some .int) ∈ zT := zt_of (i := 340) rfl rfl
set_option maxRecDepth 20000 in
theorem k_MM_scope : Cond.code y_MM_scope b_MM_scope 2 (some .int) ∈ zT := zt_of (i := 393) rfl rfl
set_option maxRecDepth 20000 in
theorem k_MM_begin : Cond.code y_MM_begin b_MM_begin 3 (some .int) ∈ zT := zt_of (i := 397) rfl rfl
set_option maxRecDepth 20000 in
theorem k_MM_step : Cond.code y_MM_step b_MM_step 6 (some .int) ∈ zT := zt_of (i := 401) rfl rfl
set_option maxRecDepth 20000 in
theorem k_MM_enter : Cond.code y_MM_enter b_MM_enter 3 (some .int) ∈ zT := zt_of (i := 405) rfl rfl
set_option maxRecDepth 20000 in
theorem k_MM_idle : Cond.code y_MM_idle b_MM_idle 2 (some .boolean) ∈ zT := zt_of (i := 409) rfl rfl
set_option maxRecDepth 20000 in
theorem k_MM_noScope : Cond.code y_MM_noScope b_MM_noScope 2 (some .boolean) ∈ zT := zt_of (i := 413) rfl rfl
set_option maxRecDepth 20000 in
theorem k_MM_stepWith : Cond.code y_MM_stepWith b_MM_stepWith 5 (some .int) ∈ zT := zt_of (i := 417) rfl rfl
set_option maxRecDepth 20000 in
theorem k_MM_viewed : Cond.code y_MM_viewed b_MM_viewed 5 (some .int) ∈ zT := zt_of (i := 421) rfl rfl
set_option maxRecDepth 20000 in
theorem k_MM_nearest : Cond.code y_MM_nearest b_MM_nearest 4 (some .int) ∈ zT := zt_of (i := 425) rfl rfl
set_option maxRecDepth 20000 in
theorem k_MM_turn : Cond.code y_MM_turn b_MM_turn 4 (some .int) ∈ zT := zt_of (i := 429) rfl rfl
set_option maxRecDepth 20000 in
theorem k_MM_noArea : Cond.code y_MM_noArea b_MM_noArea 2 (some .boolean) ∈ zT := zt_of (i := 433) rfl rfl
set_option maxRecDepth 20000 in
theorem k_MM_leave : Cond.code y_MM_leave b_MM_leave 3 (some .int) ∈ zT := zt_of (i := 437) rfl rfl
set_option maxRecDepth 20000 in
theorem k_MM_empty : Cond.code y_MM_empty b_MM_empty 3 none ∈ zT := zt_of (i := 441) rfl rfl
set_option maxRecDepth 20000 in
theorem k_MM_make : Cond.code y_MM_make b_MM_make 6 (some .int) ∈ zT := zt_of (i := 445) rfl rfl
set_option maxRecDepth 20000 in
theorem k_MM_current : Cond.code y_MM_current b_MM_current 2 (some .int) ∈ zT := zt_of (i := 449) rfl rfl
set_option maxRecDepth 20000 in
theorem k_MM_used : Cond.code y_MM_used b_MM_used 4 (some .int) ∈ zT := zt_of (i := 453) rfl rfl
set_option maxRecDepth 20000 in
theorem k_MM_put : Cond.code y_MM_put b_MM_put 5 (some .int) ∈ zT := zt_of (i := 457) rfl rfl
set_option maxRecDepth 20000 in
theorem k_MM_noObject : Cond.code y_MM_noObject b_MM_noObject 2 (some .boolean) ∈ zT := zt_of (i := 461) rfl rfl
set_option maxRecDepth 20000 in
theorem k_MM_sees : Cond.code y_MM_sees b_MM_sees 3 (some .boolean) ∈ zT := zt_of (i := 465) rfl rfl
set_option maxRecDepth 20000 in
theorem k_MM_mayPoint : Cond.code y_MM_mayPoint b_MM_mayPoint 3 (some .boolean) ∈ zT := zt_of (i := 469) rfl rfl
set_option maxRecDepth 20000 in
theorem k_MM_liesIn : Cond.code y_MM_liesIn b_MM_liesIn 5 (some .boolean) ∈ zT := zt_of (i := 473) rfl rfl
set_option maxRecDepth 20000 in
theorem k_MM_get : Cond.code y_MM_get b_MM_get 5 (some .int) ∈ zT := zt_of (i := 477) rfl rfl
set_option maxRecDepth 20000 in
theorem k_MM_hang : Cond.code y_MM_hang b_MM_hang 4 (some .int) ∈ zT := zt_of (i := 481) rfl rfl
set_option maxRecDepth 20000 in
theorem k_MM_portal : Cond.code y_MM_portal b_MM_portal 3 (some .int) ∈ zT := zt_of (i := 485) rfl rfl
set_option maxRecDepth 20000 in
theorem k_MM_assign : Cond.code y_MM_assign b_MM_assign 4 (some .int) ∈ zT := zt_of (i := 489) rfl rfl
set_option maxRecDepth 20000 in
theorem k_MM_collect : Cond.code y_MM_collect b_MM_collect 3 (some .int) ∈ zT := zt_of (i := 493) rfl rfl
set_option maxRecDepth 20000 in
theorem k_MM_keep : Cond.code y_MM_keep b_MM_keep 7 (some .int) ∈ zT := zt_of (i := 497) rfl rfl
set_option maxRecDepth 20000 in
theorem k_MM_keeps : Cond.code y_MM_keeps b_MM_keeps 2 (some .boolean) ∈ zT := zt_of (i := 501) rfl rfl
set_option maxRecDepth 20000 in
theorem k_MM_areaOf : Cond.code y_MM_areaOf b_MM_areaOf 2 (some .int) ∈ zT := zt_of (i := 505) rfl rfl
set_option maxRecDepth 20000 in
theorem k_MM_room : Cond.code y_MM_room b_MM_room 2 (some .int) ∈ zT := zt_of (i := 509) rfl rfl
set_option maxRecDepth 20000 in
theorem k_MM_parent : Cond.code y_MM_parent b_MM_parent 2 (some .int) ∈ zT := zt_of (i := 513) rfl rfl
set_option maxRecDepth 20000 in
theorem k_MM_entries : Cond.code y_MM_entries b_MM_entries 2 (some .int) ∈ zT := zt_of (i := 517) rfl rfl
set_option maxRecDepth 20000 in
theorem k_MM_view : Cond.code y_MM_view b_MM_view 4 (some .int) ∈ zT := zt_of (i := 521) rfl rfl
set_option maxRecDepth 20000 in
theorem k_MM_count : Cond.code y_MM_count b_MM_count 4 (some .int) ∈ zT := zt_of (i := 525) rfl rfl
theorem s_law_15 : zSiteI R_law 15 y_SM_init 2 := ⟨⟨zt_of (i := 9) (by decide +kernel) rfl, zt_of (i := 10) (by decide +kernel) rfl, rfl⟩, ⟨zt_of (i := 1) (by decide +kernel) rfl, by decide, by decide, by decide +kernel⟩⟩
theorem s_SM_34 : zSiteIN R_SM 34 y_Ar_init "ScopedMemory" 0 := ⟨⟨zn_of (i := 22) (by decide +kernel) rfl, zt_of (i := 23) (by decide +kernel) rfl, rfl⟩, ⟨zt_of (i := 2) (by decide +kernel) rfl, by decide, by decide, by decide +kernel⟩⟩
theorem s_SM_35 : zSiteIN R_SM 35 y_Ce_init "ScopedMemory" 0 := ⟨⟨zn_of (i := 48) (by decide +kernel) rfl, zt_of (i := 49) (by decide +kernel) rfl, rfl⟩, ⟨zt_of (i := 3) (by decide +kernel) rfl, by decide, by decide, by decide +kernel⟩⟩
theorem s_SM_36 : zSiteIN R_SM 36 y_Ro_init "ScopedMemory" 0 := ⟨⟨zn_of (i := 69) (by decide +kernel) rfl, zt_of (i := 70) (by decide +kernel) rfl, rfl⟩, ⟨zt_of (i := 4) (by decide +kernel) rfl, by decide, by decide, by decide +kernel⟩⟩
theorem s_SM_37 : zSiteS R_SM 37 y_SM_clampBaseSize 1 := ⟨⟨zt_of (i := 91) (by decide +kernel) rfl, zt_of (i := 92) (by decide +kernel) rfl⟩, ⟨zt_of (i := 1) (by decide +kernel) rfl, by decide, by decide, by decide +kernel⟩⟩
theorem s_law_21 : zSiteV R_law 21 y_SM_scope 1 := ⟨⟨zt_of (i := 125) (by decide +kernel) rfl, zt_of (i := 126) (by decide +kernel) rfl, zt_of (i := 127) (by decide +kernel) rfl⟩, ⟨zt_of (i := 1) (by decide +kernel) rfl, by decide, by decide, by decide +kernel⟩⟩
theorem s_law_26 : zSiteV R_law 26 y_SM_begin 2 := ⟨⟨zt_of (i := 129) (by decide +kernel) rfl, zt_of (i := 130) (by decide +kernel) rfl, zt_of (i := 131) (by decide +kernel) rfl⟩, ⟨zt_of (i := 1) (by decide +kernel) rfl, by decide, by decide, by decide +kernel⟩⟩
theorem s_SM_48 : zSiteS R_SM 48 y_SM_isThread 1 := ⟨⟨zt_of (i := 133) (by decide +kernel) rfl, zt_of (i := 134) (by decide +kernel) rfl⟩, ⟨zt_of (i := 1) (by decide +kernel) rfl, by decide, by decide, by decide +kernel⟩⟩
theorem s_SM_52 : zSiteV R_SM 52 y_SM_isBegun 1 := ⟨⟨zt_of (i := 136) (by decide +kernel) rfl, zt_of (i := 138) (by decide +kernel) rfl, zs_of (i := 0) (by decide +kernel) rfl⟩, ⟨zt_of (i := 1) (by decide +kernel) rfl, by decide, by decide, by decide +kernel⟩⟩
theorem s_SM_59 : zSiteVN R_SM 59 y_Ro_push "ScopedMemory" 3 := ⟨⟨zn_of (i := 140) (by decide +kernel) rfl, zt_of (i := 142) (by decide +kernel) rfl, zs_of (i := 1) (by decide +kernel) rfl⟩, ⟨zt_of (i := 4) (by decide +kernel) rfl, by decide, by decide, by decide +kernel⟩⟩
theorem s_law_31 : zSiteV R_law 31 y_SM_enter 2 := ⟨⟨zt_of (i := 144) (by decide +kernel) rfl, zt_of (i := 145) (by decide +kernel) rfl, zt_of (i := 146) (by decide +kernel) rfl⟩, ⟨zt_of (i := 1) (by decide +kernel) rfl, by decide, by decide, by decide +kernel⟩⟩
theorem s_SM_63 : zSiteV R_SM 63 y_SM_isScope 1 := ⟨⟨zt_of (i := 148) (by decide +kernel) rfl, zt_of (i := 150) (by decide +kernel) rfl, zs_of (i := 2) (by decide +kernel) rfl⟩, ⟨zt_of (i := 1) (by decide +kernel) rfl, by decide, by decide, by decide +kernel⟩⟩
theorem s_SM_86 : zSiteV R_SM 86 y_SM_isArea 1 := ⟨⟨zt_of (i := 152) (by decide +kernel) rfl, zt_of (i := 154) (by decide +kernel) rfl, zs_of (i := 3) (by decide +kernel) rfl⟩, ⟨zt_of (i := 1) (by decide +kernel) rfl, by decide, by decide, by decide +kernel⟩⟩
theorem s_SM_66 : zSiteVN R_SM 66 y_Ro_nearestScope "ScopedMemory" 0 := ⟨⟨zn_of (i := 156) (by decide +kernel) rfl, zt_of (i := 158) (by decide +kernel) rfl, zs_of (i := 4) (by decide +kernel) rfl⟩, ⟨zt_of (i := 4) (by decide +kernel) rfl, by decide, by decide, by decide +kernel⟩⟩
theorem s_Ro_26 : zSiteV R_Ro 26 y_Ro_top 0 := ⟨⟨zt_of (i := 160) (by decide +kernel) rfl, zt_of (i := 162) (by decide +kernel) rfl, zs_of (i := 5) (by decide +kernel) rfl⟩, ⟨zt_of (i := 4) (by decide +kernel) rfl, by decide, by decide, by decide +kernel⟩⟩
theorem s_SM_70 : zSiteVN R_SM 70 y_Ro_hasInView "ScopedMemory" 1 := ⟨⟨zn_of (i := 164) (by decide +kernel) rfl, zt_of (i := 166) (by decide +kernel) rfl, zs_of (i := 6) (by decide +kernel) rfl⟩, ⟨zt_of (i := 4) (by decide +kernel) rfl, by decide, by decide, by decide +kernel⟩⟩
theorem s_Ro_30 : zSiteV R_Ro 30 y_Ro_firstWith 1 := ⟨⟨zt_of (i := 168) (by decide +kernel) rfl, zt_of (i := 170) (by decide +kernel) rfl, zs_of (i := 7) (by decide +kernel) rfl⟩, ⟨zt_of (i := 4) (by decide +kernel) rfl, by decide, by decide, by decide +kernel⟩⟩
theorem s_SM_79 : zSiteVN R_SM 79 y_Ro_isFull "ScopedMemory" 0 := ⟨⟨zn_of (i := 172) (by decide +kernel) rfl, zt_of (i := 174) (by decide +kernel) rfl, zs_of (i := 8) (by decide +kernel) rfl⟩, ⟨zt_of (i := 4) (by decide +kernel) rfl, by decide, by decide, by decide +kernel⟩⟩
theorem s_SM_83 : zSiteVN R_SM 83 y_Ro_top "ScopedMemory" 0 := ⟨⟨zn_of (i := 176) (by decide +kernel) rfl, zt_of (i := 162) (by decide +kernel) rfl, zs_of (i := 5) (by decide +kernel) rfl⟩, ⟨zt_of (i := 4) (by decide +kernel) rfl, by decide, by decide, by decide +kernel⟩⟩
theorem s_law_36 : zSiteV R_law 36 y_SM_turn 2 := ⟨⟨zt_of (i := 177) (by decide +kernel) rfl, zt_of (i := 178) (by decide +kernel) rfl, zt_of (i := 179) (by decide +kernel) rfl⟩, ⟨zt_of (i := 1) (by decide +kernel) rfl, by decide, by decide, by decide +kernel⟩⟩
theorem s_SM_89 : zSiteVN R_SM 89 y_Ro_underOfFirstWith "ScopedMemory" 1 := ⟨⟨zn_of (i := 181) (by decide +kernel) rfl, zt_of (i := 183) (by decide +kernel) rfl, zs_of (i := 9) (by decide +kernel) rfl⟩, ⟨zt_of (i := 4) (by decide +kernel) rfl, by decide, by decide, by decide +kernel⟩⟩
theorem s_law_40 : zSiteV R_law 40 y_SM_leave 1 := ⟨⟨zt_of (i := 185) (by decide +kernel) rfl, zt_of (i := 186) (by decide +kernel) rfl, zt_of (i := 187) (by decide +kernel) rfl⟩, ⟨zt_of (i := 1) (by decide +kernel) rfl, by decide, by decide, by decide +kernel⟩⟩
theorem s_SM_95 : zSiteVN R_SM 95 y_Ro_currentArea "ScopedMemory" 0 := ⟨⟨zn_of (i := 189) (by decide +kernel) rfl, zt_of (i := 191) (by decide +kernel) rfl, zs_of (i := 10) (by decide +kernel) rfl⟩, ⟨zt_of (i := 4) (by decide +kernel) rfl, by decide, by decide, by decide +kernel⟩⟩
theorem s_SM_98 : zSiteVN R_SM 98 y_Ro_topWasEntered "ScopedMemory" 0 := ⟨⟨zn_of (i := 193) (by decide +kernel) rfl, zt_of (i := 195) (by decide +kernel) rfl, zs_of (i := 11) (by decide +kernel) rfl⟩, ⟨zt_of (i := 4) (by decide +kernel) rfl, by decide, by decide, by decide +kernel⟩⟩
theorem s_SM_101 : zSiteVN R_SM 101 y_Ro_pop "ScopedMemory" 0 := ⟨⟨zn_of (i := 197) (by decide +kernel) rfl, zt_of (i := 199) (by decide +kernel) rfl, zs_of (i := 12) (by decide +kernel) rfl⟩, ⟨zt_of (i := 4) (by decide +kernel) rfl, by decide, by decide, by decide +kernel⟩⟩
theorem s_SM_104 : zSiteV R_SM 104 y_SM_dropEntry 1 := ⟨⟨zt_of (i := 201) (by decide +kernel) rfl, zt_of (i := 203) (by decide +kernel) rfl, zs_of (i := 13) (by decide +kernel) rfl⟩, ⟨zt_of (i := 1) (by decide +kernel) rfl, by decide, by decide, by decide +kernel⟩⟩
theorem s_SM_188 : zSiteV R_SM 188 y_SM_emptyScope 1 := ⟨⟨zt_of (i := 205) (by decide +kernel) rfl, zt_of (i := 207) (by decide +kernel) rfl, zs_of (i := 14) (by decide +kernel) rfl⟩, ⟨zt_of (i := 1) (by decide +kernel) rfl, by decide, by decide, by decide +kernel⟩⟩
theorem s_SM_158 : zSiteV R_SM 158 y_SM_drop 1 := ⟨⟨zt_of (i := 209) (by decide +kernel) rfl, zt_of (i := 211) (by decide +kernel) rfl, zs_of (i := 15) (by decide +kernel) rfl⟩, ⟨zt_of (i := 1) (by decide +kernel) rfl, by decide, by decide, by decide +kernel⟩⟩
theorem s_law_44 : zSiteV R_law 44 y_SM_make 2 := ⟨⟨zt_of (i := 213) (by decide +kernel) rfl, zt_of (i := 214) (by decide +kernel) rfl, zt_of (i := 215) (by decide +kernel) rfl⟩, ⟨zt_of (i := 1) (by decide +kernel) rfl, by decide, by decide, by decide +kernel⟩⟩
theorem s_SM_108 : zSiteV R_SM 108 y_SM_leastFreeNumber 0 := ⟨⟨zt_of (i := 217) (by decide +kernel) rfl, zt_of (i := 219) (by decide +kernel) rfl, zs_of (i := 16) (by decide +kernel) rfl⟩, ⟨zt_of (i := 1) (by decide +kernel) rfl, by decide, by decide, by decide +kernel⟩⟩
theorem s_SM_111 : zSiteVN R_SM 111 y_Ar_free "ScopedMemory" 0 := ⟨⟨zn_of (i := 221) (by decide +kernel) rfl, zt_of (i := 223) (by decide +kernel) rfl, zs_of (i := 17) (by decide +kernel) rfl⟩, ⟨zt_of (i := 2) (by decide +kernel) rfl, by decide, by decide, by decide +kernel⟩⟩
theorem s_SM_114 : zSiteVN R_SM 114 y_Ce_fill "ScopedMemory" 2 := ⟨⟨zn_of (i := 225) (by decide +kernel) rfl, zt_of (i := 227) (by decide +kernel) rfl, zs_of (i := 18) (by decide +kernel) rfl⟩, ⟨zt_of (i := 3) (by decide +kernel) rfl, by decide, by decide, by decide +kernel⟩⟩
theorem s_law_48 : zSiteV R_law 48 y_SM_put 4 := ⟨⟨zt_of (i := 229) (by decide +kernel) rfl, zt_of (i := 230) (by decide +kernel) rfl, zt_of (i := 231) (by decide +kernel) rfl⟩, ⟨zt_of (i := 1) (by decide +kernel) rfl, by decide, by decide, by decide +kernel⟩⟩
theorem s_SM_124 : zSiteV R_SM 124 y_SM_hasField 2 := ⟨⟨zt_of (i := 233) (by decide +kernel) rfl, zt_of (i := 235) (by decide +kernel) rfl, zs_of (i := 19) (by decide +kernel) rfl⟩, ⟨zt_of (i := 1) (by decide +kernel) rfl, by decide, by decide, by decide +kernel⟩⟩
theorem s_SM_161 : zSiteV R_SM 161 y_SM_isObject 1 := ⟨⟨zt_of (i := 237) (by decide +kernel) rfl, zt_of (i := 239) (by decide +kernel) rfl, zs_of (i := 20) (by decide +kernel) rfl⟩, ⟨zt_of (i := 1) (by decide +kernel) rfl, by decide, by decide, by decide +kernel⟩⟩
theorem s_SM_128 : zSiteV R_SM 128 y_SM_isObjectOrNull 1 := ⟨⟨zt_of (i := 241) (by decide +kernel) rfl, zt_of (i := 243) (by decide +kernel) rfl, zs_of (i := 21) (by decide +kernel) rfl⟩, ⟨zt_of (i := 1) (by decide +kernel) rfl, by decide, by decide, by decide +kernel⟩⟩
theorem s_SM_131 : zSiteV R_SM 131 y_SM_sees 2 := ⟨⟨zt_of (i := 245) (by decide +kernel) rfl, zt_of (i := 247) (by decide +kernel) rfl, zs_of (i := 22) (by decide +kernel) rfl⟩, ⟨zt_of (i := 1) (by decide +kernel) rfl, by decide, by decide, by decide +kernel⟩⟩
theorem s_SM_134 : zSiteV R_SM 134 y_SM_seesOrNull 2 := ⟨⟨zt_of (i := 249) (by decide +kernel) rfl, zt_of (i := 251) (by decide +kernel) rfl, zs_of (i := 23) (by decide +kernel) rfl⟩, ⟨zt_of (i := 1) (by decide +kernel) rfl, by decide, by decide, by decide +kernel⟩⟩
theorem s_SM_140 : zSiteV R_SM 140 y_SM_mayPointTo 2 := ⟨⟨zt_of (i := 253) (by decide +kernel) rfl, zt_of (i := 255) (by decide +kernel) rfl, zs_of (i := 24) (by decide +kernel) rfl⟩, ⟨zt_of (i := 1) (by decide +kernel) rfl, by decide, by decide, by decide +kernel⟩⟩
theorem s_SM_185 : zSiteV R_SM 185 y_SM_liesIn 2 := ⟨⟨zt_of (i := 257) (by decide +kernel) rfl, zt_of (i := 259) (by decide +kernel) rfl, zs_of (i := 25) (by decide +kernel) rfl⟩, ⟨zt_of (i := 1) (by decide +kernel) rfl, by decide, by decide, by decide +kernel⟩⟩
theorem s_law_53 : zSiteV R_law 53 y_SM_get 3 := ⟨⟨zt_of (i := 261) (by decide +kernel) rfl, zt_of (i := 262) (by decide +kernel) rfl, zt_of (i := 263) (by decide +kernel) rfl⟩, ⟨zt_of (i := 1) (by decide +kernel) rfl, by decide, by decide, by decide +kernel⟩⟩
theorem s_law_58 : zSiteV R_law 58 y_SM_hang 3 := ⟨⟨zt_of (i := 265) (by decide +kernel) rfl, zt_of (i := 266) (by decide +kernel) rfl, zt_of (i := 267) (by decide +kernel) rfl⟩, ⟨zt_of (i := 1) (by decide +kernel) rfl, by decide, by decide, by decide +kernel⟩⟩
theorem s_law_62 : zSiteV R_law 62 y_SM_portal 2 := ⟨⟨zt_of (i := 269) (by decide +kernel) rfl, zt_of (i := 270) (by decide +kernel) rfl, zt_of (i := 271) (by decide +kernel) rfl⟩, ⟨zt_of (i := 1) (by decide +kernel) rfl, by decide, by decide, by decide +kernel⟩⟩
theorem s_SM_149 : zSiteS R_SM 149 y_SM_objectOrNull 1 := ⟨⟨zt_of (i := 273) (by decide +kernel) rfl, zt_of (i := 274) (by decide +kernel) rfl⟩, ⟨zt_of (i := 1) (by decide +kernel) rfl, by decide, by decide, by decide +kernel⟩⟩
theorem s_law_66 : zSiteV R_law 66 y_SM_assign 3 := ⟨⟨zt_of (i := 276) (by decide +kernel) rfl, zt_of (i := 277) (by decide +kernel) rfl, zt_of (i := 278) (by decide +kernel) rfl⟩, ⟨zt_of (i := 1) (by decide +kernel) rfl, by decide, by decide, by decide +kernel⟩⟩
theorem s_law_70 : zSiteV R_law 70 y_SM_collect 0 := ⟨⟨zt_of (i := 280) (by decide +kernel) rfl, zt_of (i := 281) (by decide +kernel) rfl, zt_of (i := 282) (by decide +kernel) rfl⟩, ⟨zt_of (i := 1) (by decide +kernel) rfl, by decide, by decide, by decide +kernel⟩⟩
theorem s_SM_152 : zSiteV R_SM 152 y_SM_findKept 0 := ⟨⟨zt_of (i := 284) (by decide +kernel) rfl, zt_of (i := 286) (by decide +kernel) rfl, zs_of (i := 26) (by decide +kernel) rfl⟩, ⟨zt_of (i := 1) (by decide +kernel) rfl, by decide, by decide, by decide +kernel⟩⟩
theorem s_SM_191 : zSiteV R_SM 191 y_SM_keep 1 := ⟨⟨zt_of (i := 288) (by decide +kernel) rfl, zt_of (i := 290) (by decide +kernel) rfl, zs_of (i := 27) (by decide +kernel) rfl⟩, ⟨zt_of (i := 1) (by decide +kernel) rfl, by decide, by decide, by decide +kernel⟩⟩
theorem s_SM_194 : zSiteV R_SM 194 y_SM_keepFieldsOf 1 := ⟨⟨zt_of (i := 292) (by decide +kernel) rfl, zt_of (i := 294) (by decide +kernel) rfl, zs_of (i := 28) (by decide +kernel) rfl⟩, ⟨zt_of (i := 1) (by decide +kernel) rfl, by decide, by decide, by decide +kernel⟩⟩
theorem s_law_75 : zSiteV R_law 75 y_SM_areaOf 1 := ⟨⟨zt_of (i := 296) (by decide +kernel) rfl, zt_of (i := 297) (by decide +kernel) rfl, zt_of (i := 298) (by decide +kernel) rfl⟩, ⟨zt_of (i := 1) (by decide +kernel) rfl, by decide, by decide, by decide +kernel⟩⟩
theorem s_law_79 : zSiteV R_law 79 y_SM_room 1 := ⟨⟨zt_of (i := 300) (by decide +kernel) rfl, zt_of (i := 301) (by decide +kernel) rfl, zt_of (i := 302) (by decide +kernel) rfl⟩, ⟨zt_of (i := 1) (by decide +kernel) rfl, by decide, by decide, by decide +kernel⟩⟩
theorem s_law_83 : zSiteV R_law 83 y_SM_parent 1 := ⟨⟨zt_of (i := 304) (by decide +kernel) rfl, zt_of (i := 305) (by decide +kernel) rfl, zt_of (i := 306) (by decide +kernel) rfl⟩, ⟨zt_of (i := 1) (by decide +kernel) rfl, by decide, by decide, by decide +kernel⟩⟩
theorem s_law_87 : zSiteV R_law 87 y_SM_entries 1 := ⟨⟨zt_of (i := 308) (by decide +kernel) rfl, zt_of (i := 309) (by decide +kernel) rfl, zt_of (i := 310) (by decide +kernel) rfl⟩, ⟨zt_of (i := 1) (by decide +kernel) rfl, by decide, by decide, by decide +kernel⟩⟩
theorem s_law_91 : zSiteV R_law 91 y_SM_view 2 := ⟨⟨zt_of (i := 312) (by decide +kernel) rfl, zt_of (i := 313) (by decide +kernel) rfl, zt_of (i := 314) (by decide +kernel) rfl⟩, ⟨zt_of (i := 1) (by decide +kernel) rfl, by decide, by decide, by decide +kernel⟩⟩
theorem s_SM_164 : zSiteVN R_SM 164 y_Ro_areaInView "ScopedMemory" 1 := ⟨⟨zn_of (i := 316) (by decide +kernel) rfl, zt_of (i := 318) (by decide +kernel) rfl, zs_of (i := 29) (by decide +kernel) rfl⟩, ⟨zt_of (i := 4) (by decide +kernel) rfl, by decide, by decide, by decide +kernel⟩⟩
theorem s_law_95 : zSiteV R_law 95 y_SM_count 1 := ⟨⟨zt_of (i := 320) (by decide +kernel) rfl, zt_of (i := 321) (by decide +kernel) rfl, zt_of (i := 322) (by decide +kernel) rfl⟩, ⟨zt_of (i := 1) (by decide +kernel) rfl, by decide, by decide, by decide +kernel⟩⟩
theorem s_SM_167 : zSiteV R_SM 167 y_SM_begunThreads 0 := ⟨⟨zt_of (i := 324) (by decide +kernel) rfl, zt_of (i := 326) (by decide +kernel) rfl, zs_of (i := 30) (by decide +kernel) rfl⟩, ⟨zt_of (i := 1) (by decide +kernel) rfl, by decide, by decide, by decide +kernel⟩⟩
theorem s_law_9 : zSiteS R_law 9 y_law_cell 2 := ⟨⟨zt_of (i := 328) (by decide +kernel) rfl, zt_of (i := 329) (by decide +kernel) rfl⟩, ⟨zt_of (i := 0) (by decide +kernel) rfl, by decide, by decide, by decide +kernel⟩⟩
theorem s_law_20 : zSiteI R_law 20 y_MM_init 2 := ⟨⟨zt_of (i := 333) (by decide +kernel) rfl, zt_of (i := 334) (by decide +kernel) rfl, rfl⟩, ⟨zt_of (i := 6) (by decide +kernel) rfl, by decide, by decide, by decide +kernel⟩⟩
theorem s_MM_60 : zSiteV R_MM 60 y_MM_clamp 1 := ⟨⟨zt_of (i := 337) (by decide +kernel) rfl, zt_of (i := 339) (by decide +kernel) rfl, zs_of (i := 31) (by decide +kernel) rfl⟩, ⟨zt_of (i := 6) (by decide +kernel) rfl, by decide, by decide, by decide +kernel⟩⟩
theorem s_law_25 : zSiteV R_law 25 y_MM_scope 1 := ⟨⟨zt_of (i := 390) (by decide +kernel) rfl, zt_of (i := 391) (by decide +kernel) rfl, zt_of (i := 392) (by decide +kernel) rfl⟩, ⟨zt_of (i := 6) (by decide +kernel) rfl, by decide, by decide, by decide +kernel⟩⟩
theorem s_law_30 : zSiteV R_law 30 y_MM_begin 2 := ⟨⟨zt_of (i := 394) (by decide +kernel) rfl, zt_of (i := 395) (by decide +kernel) rfl, zt_of (i := 396) (by decide +kernel) rfl⟩, ⟨zt_of (i := 6) (by decide +kernel) rfl, by decide, by decide, by decide +kernel⟩⟩
theorem s_MM_64 : zSiteV R_MM 64 y_MM_step 4 := ⟨⟨zt_of (i := 398) (by decide +kernel) rfl, zt_of (i := 400) (by decide +kernel) rfl, zs_of (i := 32) (by decide +kernel) rfl⟩, ⟨zt_of (i := 6) (by decide +kernel) rfl, by decide, by decide, by decide +kernel⟩⟩
theorem s_law_35 : zSiteV R_law 35 y_MM_enter 2 := ⟨⟨zt_of (i := 402) (by decide +kernel) rfl, zt_of (i := 403) (by decide +kernel) rfl, zt_of (i := 404) (by decide +kernel) rfl⟩, ⟨zt_of (i := 6) (by decide +kernel) rfl, by decide, by decide, by decide +kernel⟩⟩
theorem s_MM_72 : zSiteV R_MM 72 y_MM_idle 1 := ⟨⟨zt_of (i := 406) (by decide +kernel) rfl, zt_of (i := 408) (by decide +kernel) rfl, zs_of (i := 33) (by decide +kernel) rfl⟩, ⟨zt_of (i := 6) (by decide +kernel) rfl, by decide, by decide, by decide +kernel⟩⟩
theorem s_MM_76 : zSiteV R_MM 76 y_MM_noScope 1 := ⟨⟨zt_of (i := 410) (by decide +kernel) rfl, zt_of (i := 412) (by decide +kernel) rfl, zs_of (i := 34) (by decide +kernel) rfl⟩, ⟨zt_of (i := 6) (by decide +kernel) rfl, by decide, by decide, by decide +kernel⟩⟩
theorem s_MM_79 : zSiteV R_MM 79 y_MM_stepWith 2 := ⟨⟨zt_of (i := 414) (by decide +kernel) rfl, zt_of (i := 416) (by decide +kernel) rfl, zs_of (i := 35) (by decide +kernel) rfl⟩, ⟨zt_of (i := 6) (by decide +kernel) rfl, by decide, by decide, by decide +kernel⟩⟩
theorem s_MM_68 : zSiteV R_MM 68 y_MM_viewed 2 := ⟨⟨zt_of (i := 418) (by decide +kernel) rfl, zt_of (i := 420) (by decide +kernel) rfl, zs_of (i := 36) (by decide +kernel) rfl⟩, ⟨zt_of (i := 6) (by decide +kernel) rfl, by decide, by decide, by decide +kernel⟩⟩
theorem s_MM_82 : zSiteV R_MM 82 y_MM_nearest 1 := ⟨⟨zt_of (i := 422) (by decide +kernel) rfl, zt_of (i := 424) (by decide +kernel) rfl, zs_of (i := 37) (by decide +kernel) rfl⟩, ⟨zt_of (i := 6) (by decide +kernel) rfl, by decide, by decide, by decide +kernel⟩⟩
theorem s_law_39 : zSiteV R_law 39 y_MM_turn 2 := ⟨⟨zt_of (i := 426) (by decide +kernel) rfl, zt_of (i := 427) (by decide +kernel) rfl, zt_of (i := 428) (by decide +kernel) rfl⟩, ⟨zt_of (i := 6) (by decide +kernel) rfl, by decide, by decide, by decide +kernel⟩⟩
theorem s_MM_85 : zSiteV R_MM 85 y_MM_noArea 1 := ⟨⟨zt_of (i := 430) (by decide +kernel) rfl, zt_of (i := 432) (by decide +kernel) rfl, zs_of (i := 38) (by decide +kernel) rfl⟩, ⟨zt_of (i := 6) (by decide +kernel) rfl, by decide, by decide, by decide +kernel⟩⟩
theorem s_law_43 : zSiteV R_law 43 y_MM_leave 1 := ⟨⟨zt_of (i := 434) (by decide +kernel) rfl, zt_of (i := 435) (by decide +kernel) rfl, zt_of (i := 436) (by decide +kernel) rfl⟩, ⟨zt_of (i := 6) (by decide +kernel) rfl, by decide, by decide, by decide +kernel⟩⟩
theorem s_MM_88 : zSiteV R_MM 88 y_MM_empty 1 := ⟨⟨zt_of (i := 438) (by decide +kernel) rfl, zt_of (i := 440) (by decide +kernel) rfl, zs_of (i := 39) (by decide +kernel) rfl⟩, ⟨zt_of (i := 6) (by decide +kernel) rfl, by decide, by decide, by decide +kernel⟩⟩
theorem s_law_47 : zSiteV R_law 47 y_MM_make 2 := ⟨⟨zt_of (i := 442) (by decide +kernel) rfl, zt_of (i := 443) (by decide +kernel) rfl, zt_of (i := 444) (by decide +kernel) rfl⟩, ⟨zt_of (i := 6) (by decide +kernel) rfl, by decide, by decide, by decide +kernel⟩⟩
theorem s_MM_92 : zSiteV R_MM 92 y_MM_current 1 := ⟨⟨zt_of (i := 446) (by decide +kernel) rfl, zt_of (i := 448) (by decide +kernel) rfl, zs_of (i := 40) (by decide +kernel) rfl⟩, ⟨zt_of (i := 6) (by decide +kernel) rfl, by decide, by decide, by decide +kernel⟩⟩
theorem s_MM_95 : zSiteV R_MM 95 y_MM_used 1 := ⟨⟨zt_of (i := 450) (by decide +kernel) rfl, zt_of (i := 452) (by decide +kernel) rfl, zs_of (i := 41) (by decide +kernel) rfl⟩, ⟨zt_of (i := 6) (by decide +kernel) rfl, by decide, by decide, by decide +kernel⟩⟩
theorem s_law_52 : zSiteV R_law 52 y_MM_put 4 := ⟨⟨zt_of (i := 454) (by decide +kernel) rfl, zt_of (i := 455) (by decide +kernel) rfl, zt_of (i := 456) (by decide +kernel) rfl⟩, ⟨zt_of (i := 6) (by decide +kernel) rfl, by decide, by decide, by decide +kernel⟩⟩
theorem s_MM_102 : zSiteV R_MM 102 y_MM_noObject 1 := ⟨⟨zt_of (i := 458) (by decide +kernel) rfl, zt_of (i := 460) (by decide +kernel) rfl, zs_of (i := 42) (by decide +kernel) rfl⟩, ⟨zt_of (i := 6) (by decide +kernel) rfl, by decide, by decide, by decide +kernel⟩⟩
theorem s_MM_105 : zSiteV R_MM 105 y_MM_sees 2 := ⟨⟨zt_of (i := 462) (by decide +kernel) rfl, zt_of (i := 464) (by decide +kernel) rfl, zs_of (i := 43) (by decide +kernel) rfl⟩, ⟨zt_of (i := 6) (by decide +kernel) rfl, by decide, by decide, by decide +kernel⟩⟩
theorem s_MM_108 : zSiteV R_MM 108 y_MM_mayPoint 2 := ⟨⟨zt_of (i := 466) (by decide +kernel) rfl, zt_of (i := 468) (by decide +kernel) rfl, zs_of (i := 44) (by decide +kernel) rfl⟩, ⟨zt_of (i := 6) (by decide +kernel) rfl, by decide, by decide, by decide +kernel⟩⟩
theorem s_MM_98 : zSiteV R_MM 98 y_MM_liesIn 2 := ⟨⟨zt_of (i := 470) (by decide +kernel) rfl, zt_of (i := 472) (by decide +kernel) rfl, zs_of (i := 45) (by decide +kernel) rfl⟩, ⟨zt_of (i := 6) (by decide +kernel) rfl, by decide, by decide, by decide +kernel⟩⟩
theorem s_law_57 : zSiteV R_law 57 y_MM_get 3 := ⟨⟨zt_of (i := 474) (by decide +kernel) rfl, zt_of (i := 475) (by decide +kernel) rfl, zt_of (i := 476) (by decide +kernel) rfl⟩, ⟨zt_of (i := 6) (by decide +kernel) rfl, by decide, by decide, by decide +kernel⟩⟩
theorem s_law_61 : zSiteV R_law 61 y_MM_hang 3 := ⟨⟨zt_of (i := 478) (by decide +kernel) rfl, zt_of (i := 479) (by decide +kernel) rfl, zt_of (i := 480) (by decide +kernel) rfl⟩, ⟨zt_of (i := 6) (by decide +kernel) rfl, by decide, by decide, by decide +kernel⟩⟩
theorem s_law_65 : zSiteV R_law 65 y_MM_portal 2 := ⟨⟨zt_of (i := 482) (by decide +kernel) rfl, zt_of (i := 483) (by decide +kernel) rfl, zt_of (i := 484) (by decide +kernel) rfl⟩, ⟨zt_of (i := 6) (by decide +kernel) rfl, by decide, by decide, by decide +kernel⟩⟩
theorem s_law_69 : zSiteV R_law 69 y_MM_assign 3 := ⟨⟨zt_of (i := 486) (by decide +kernel) rfl, zt_of (i := 487) (by decide +kernel) rfl, zt_of (i := 488) (by decide +kernel) rfl⟩, ⟨zt_of (i := 6) (by decide +kernel) rfl, by decide, by decide, by decide +kernel⟩⟩
theorem s_law_74 : zSiteV R_law 74 y_MM_collect 0 := ⟨⟨zt_of (i := 490) (by decide +kernel) rfl, zt_of (i := 491) (by decide +kernel) rfl, zt_of (i := 492) (by decide +kernel) rfl⟩, ⟨zt_of (i := 6) (by decide +kernel) rfl, by decide, by decide, by decide +kernel⟩⟩
theorem s_MM_114 : zSiteV R_MM 114 y_MM_keep 0 := ⟨⟨zt_of (i := 494) (by decide +kernel) rfl, zt_of (i := 496) (by decide +kernel) rfl, zs_of (i := 46) (by decide +kernel) rfl⟩, ⟨zt_of (i := 6) (by decide +kernel) rfl, by decide, by decide, by decide +kernel⟩⟩
theorem s_MM_111 : zSiteV R_MM 111 y_MM_keeps 1 := ⟨⟨zt_of (i := 498) (by decide +kernel) rfl, zt_of (i := 500) (by decide +kernel) rfl, zs_of (i := 47) (by decide +kernel) rfl⟩, ⟨zt_of (i := 6) (by decide +kernel) rfl, by decide, by decide, by decide +kernel⟩⟩
theorem s_law_78 : zSiteV R_law 78 y_MM_areaOf 1 := ⟨⟨zt_of (i := 502) (by decide +kernel) rfl, zt_of (i := 503) (by decide +kernel) rfl, zt_of (i := 504) (by decide +kernel) rfl⟩, ⟨zt_of (i := 6) (by decide +kernel) rfl, by decide, by decide, by decide +kernel⟩⟩
theorem s_law_82 : zSiteV R_law 82 y_MM_room 1 := ⟨⟨zt_of (i := 506) (by decide +kernel) rfl, zt_of (i := 507) (by decide +kernel) rfl, zt_of (i := 508) (by decide +kernel) rfl⟩, ⟨zt_of (i := 6) (by decide +kernel) rfl, by decide, by decide, by decide +kernel⟩⟩
theorem s_law_86 : zSiteV R_law 86 y_MM_parent 1 := ⟨⟨zt_of (i := 510) (by decide +kernel) rfl, zt_of (i := 511) (by decide +kernel) rfl, zt_of (i := 512) (by decide +kernel) rfl⟩, ⟨zt_of (i := 6) (by decide +kernel) rfl, by decide, by decide, by decide +kernel⟩⟩
theorem s_law_90 : zSiteV R_law 90 y_MM_entries 1 := ⟨⟨zt_of (i := 514) (by decide +kernel) rfl, zt_of (i := 515) (by decide +kernel) rfl, zt_of (i := 516) (by decide +kernel) rfl⟩, ⟨zt_of (i := 6) (by decide +kernel) rfl, by decide, by decide, by decide +kernel⟩⟩
theorem s_law_94 : zSiteV R_law 94 y_MM_view 2 := ⟨⟨zt_of (i := 518) (by decide +kernel) rfl, zt_of (i := 519) (by decide +kernel) rfl, zt_of (i := 520) (by decide +kernel) rfl⟩, ⟨zt_of (i := 6) (by decide +kernel) rfl, by decide, by decide, by decide +kernel⟩⟩
theorem s_law_98 : zSiteV R_law 98 y_MM_count 1 := ⟨⟨zt_of (i := 522) (by decide +kernel) rfl, zt_of (i := 523) (by decide +kernel) rfl, zt_of (i := 524) (by decide +kernel) rfl⟩, ⟨zt_of (i := 6) (by decide +kernel) rfl, by decide, by decide, by decide +kernel⟩⟩
end
section
theorem d_SM_init_0 : decode b_SM_init 0 = .ok (.aload_n 0, 1) := by decide +kernel
theorem d_SM_init_1 : decode b_SM_init 1 = .ok (.invokespecial 1, 3) := by decide +kernel
theorem d_SM_init_4 : decode b_SM_init 4 = .ok (.aload_n 0, 1) := by decide +kernel
theorem d_SM_init_5 : decode b_SM_init 5 = .ok (.bipush 10, 2) := by decide +kernel
theorem d_SM_init_7 : decode b_SM_init 7 = .ok (.anewarray 9, 3) := by decide +kernel
theorem d_SM_init_10 : decode b_SM_init 10 = .ok (.putfield 11, 3) := by decide +kernel
theorem d_SM_init_13 : decode b_SM_init 13 = .ok (.aload_n 0, 1) := by decide +kernel
theorem d_SM_init_14 : decode b_SM_init 14 = .ok (.bipush 40, 2) := by decide +kernel
theorem d_SM_init_16 : decode b_SM_init 16 = .ok (.anewarray 15, 3) := by decide +kernel
theorem d_SM_init_19 : decode b_SM_init 19 = .ok (.putfield 17, 3) := by decide +kernel
theorem d_SM_init_22 : decode b_SM_init 22 = .ok (.aload_n 0, 1) := by decide +kernel
theorem d_SM_init_23 : decode b_SM_init 23 = .ok (.iconst 4, 1) := by decide +kernel
theorem d_SM_init_24 : decode b_SM_init 24 = .ok (.anewarray 21, 3) := by decide +kernel
theorem d_SM_init_27 : decode b_SM_init 27 = .ok (.putfield 23, 3) := by decide +kernel
theorem d_SM_init_30 : decode b_SM_init 30 = .ok (.aload_n 0, 1) := by decide +kernel
theorem d_SM_init_31 : decode b_SM_init 31 = .ok (.iconst 4, 1) := by decide +kernel
theorem d_SM_init_32 : decode b_SM_init 32 = .ok (.newarray .int, 2) := by decide +kernel
theorem d_SM_init_34 : decode b_SM_init 34 = .ok (.putfield 27, 3) := by decide +kernel
theorem d_SM_init_37 : decode b_SM_init 37 = .ok (.aload_n 0, 1) := by decide +kernel
theorem d_SM_init_38 : decode b_SM_init 38 = .ok (.bipush 40, 2) := by decide +kernel
theorem d_SM_init_40 : decode b_SM_init 40 = .ok (.newarray .int, 2) := by decide +kernel
theorem d_SM_init_42 : decode b_SM_init 42 = .ok (.putfield 31, 3) := by decide +kernel
theorem d_SM_init_45 : decode b_SM_init 45 = .ok (.iconst 0, 1) := by decide +kernel
theorem d_SM_init_46 : decode b_SM_init 46 = .ok (.istore_n 3, 1) := by decide +kernel
theorem d_SM_init_47 : decode b_SM_init 47 = .ok (.iload_n 3, 1) := by decide +kernel
theorem d_SM_init_48 : decode b_SM_init 48 = .ok (.bipush 10, 2) := by decide +kernel
theorem d_SM_init_50 : decode b_SM_init 50 = .ok (.if_icmp .ge 22, 3) := by decide +kernel
theorem d_SM_init_53 : decode b_SM_init 53 = .ok (.aload_n 0, 1) := by decide +kernel
theorem d_SM_init_54 : decode b_SM_init 54 = .ok (.getfield 11, 3) := by decide +kernel
theorem d_SM_init_57 : decode b_SM_init 57 = .ok (.iload_n 3, 1) := by decide +kernel
theorem d_SM_init_58 : decode b_SM_init 58 = .ok (.new 9, 3) := by decide +kernel
theorem d_SM_init_61 : decode b_SM_init 61 = .ok (.dup, 1) := by decide +kernel
theorem d_SM_init_62 : decode b_SM_init 62 = .ok (.invokespecial 34, 3) := by decide +kernel
theorem d_SM_init_65 : decode b_SM_init 65 = .ok (.aastore, 1) := by decide +kernel
theorem d_SM_init_66 : decode b_SM_init 66 = .ok (.iinc 3 1, 3) := by decide +kernel
theorem d_SM_init_69 : decode b_SM_init 69 = .ok (.goto (-22), 3) := by decide +kernel
theorem d_SM_init_72 : decode b_SM_init 72 = .ok (.iconst 0, 1) := by decide +kernel
theorem d_SM_init_73 : decode b_SM_init 73 = .ok (.istore_n 3, 1) := by decide +kernel
theorem d_SM_init_74 : decode b_SM_init 74 = .ok (.iload_n 3, 1) := by decide +kernel
theorem d_SM_init_75 : decode b_SM_init 75 = .ok (.bipush 40, 2) := by decide +kernel
theorem d_SM_init_77 : decode b_SM_init 77 = .ok (.if_icmp .ge 22, 3) := by decide +kernel
theorem d_SM_init_80 : decode b_SM_init 80 = .ok (.aload_n 0, 1) := by decide +kernel
theorem d_SM_init_81 : decode b_SM_init 81 = .ok (.getfield 17, 3) := by decide +kernel
theorem d_SM_init_84 : decode b_SM_init 84 = .ok (.iload_n 3, 1) := by decide +kernel
theorem d_SM_init_85 : decode b_SM_init 85 = .ok (.new 15, 3) := by decide +kernel
theorem d_SM_init_88 : decode b_SM_init 88 = .ok (.dup, 1) := by decide +kernel
theorem d_SM_init_89 : decode b_SM_init 89 = .ok (.invokespecial 35, 3) := by decide +kernel
theorem d_SM_init_92 : decode b_SM_init 92 = .ok (.aastore, 1) := by decide +kernel
theorem d_SM_init_93 : decode b_SM_init 93 = .ok (.iinc 3 1, 3) := by decide +kernel
theorem d_SM_init_96 : decode b_SM_init 96 = .ok (.goto (-22), 3) := by decide +kernel
theorem d_SM_init_99 : decode b_SM_init 99 = .ok (.iconst 0, 1) := by decide +kernel
theorem d_SM_init_100 : decode b_SM_init 100 = .ok (.istore_n 3, 1) := by decide +kernel
theorem d_SM_init_101 : decode b_SM_init 101 = .ok (.iload_n 3, 1) := by decide +kernel
theorem d_SM_init_102 : decode b_SM_init 102 = .ok (.iconst 4, 1) := by decide +kernel
theorem d_SM_init_103 : decode b_SM_init 103 = .ok (.if_icmp .ge 22, 3) := by decide +kernel
theorem d_SM_init_106 : decode b_SM_init 106 = .ok (.aload_n 0, 1) := by decide +kernel
theorem d_SM_init_107 : decode b_SM_init 107 = .ok (.getfield 23, 3) := by decide +kernel
theorem d_SM_init_110 : decode b_SM_init 110 = .ok (.iload_n 3, 1) := by decide +kernel
theorem d_SM_init_111 : decode b_SM_init 111 = .ok (.new 21, 3) := by decide +kernel
theorem d_SM_init_114 : decode b_SM_init 114 = .ok (.dup, 1) := by decide +kernel
theorem d_SM_init_115 : decode b_SM_init 115 = .ok (.invokespecial 36, 3) := by decide +kernel
theorem d_SM_init_118 : decode b_SM_init 118 = .ok (.aastore, 1) := by decide +kernel
theorem d_SM_init_119 : decode b_SM_init 119 = .ok (.iinc 3 1, 3) := by decide +kernel
theorem d_SM_init_122 : decode b_SM_init 122 = .ok (.goto (-21), 3) := by decide +kernel
theorem d_SM_init_125 : decode b_SM_init 125 = .ok (.iconst 0, 1) := by decide +kernel
theorem d_SM_init_126 : decode b_SM_init 126 = .ok (.istore_n 3, 1) := by decide +kernel
theorem d_SM_init_127 : decode b_SM_init 127 = .ok (.iload_n 3, 1) := by decide +kernel
theorem d_SM_init_128 : decode b_SM_init 128 = .ok (.iconst 4, 1) := by decide +kernel
theorem d_SM_init_129 : decode b_SM_init 129 = .ok (.if_icmp .ge 16, 3) := by decide +kernel
theorem d_SM_init_132 : decode b_SM_init 132 = .ok (.aload_n 0, 1) := by decide +kernel
theorem d_SM_init_133 : decode b_SM_init 133 = .ok (.getfield 27, 3) := by decide +kernel
theorem d_SM_init_136 : decode b_SM_init 136 = .ok (.iload_n 3, 1) := by decide +kernel
theorem d_SM_init_137 : decode b_SM_init 137 = .ok (.iconst (-1), 1) := by decide +kernel
theorem d_SM_init_138 : decode b_SM_init 138 = .ok (.iastore, 1) := by decide +kernel
theorem d_SM_init_139 : decode b_SM_init 139 = .ok (.iinc 3 1, 3) := by decide +kernel
theorem d_SM_init_142 : decode b_SM_init 142 = .ok (.goto (-15), 3) := by decide +kernel
theorem d_SM_init_145 : decode b_SM_init 145 = .ok (.aload_n 0, 1) := by decide +kernel
theorem d_SM_init_146 : decode b_SM_init 146 = .ok (.getfield 11, 3) := by decide +kernel
theorem d_SM_init_149 : decode b_SM_init 149 = .ok (.iconst 0, 1) := by decide +kernel
theorem d_SM_init_150 : decode b_SM_init 150 = .ok (.aaload, 1) := by decide +kernel
theorem d_SM_init_151 : decode b_SM_init 151 = .ok (.iload_n 1, 1) := by decide +kernel
theorem d_SM_init_152 : decode b_SM_init 152 = .ok (.invokestatic 37, 3) := by decide +kernel
theorem d_SM_init_155 : decode b_SM_init 155 = .ok (.putfield 41, 3) := by decide +kernel
theorem d_SM_init_158 : decode b_SM_init 158 = .ok (.aload_n 0, 1) := by decide +kernel
theorem d_SM_init_159 : decode b_SM_init 159 = .ok (.getfield 11, 3) := by decide +kernel
theorem d_SM_init_162 : decode b_SM_init 162 = .ok (.iconst 1, 1) := by decide +kernel
theorem d_SM_init_163 : decode b_SM_init 163 = .ok (.aaload, 1) := by decide +kernel
theorem d_SM_init_164 : decode b_SM_init 164 = .ok (.iload_n 2, 1) := by decide +kernel
theorem d_SM_init_165 : decode b_SM_init 165 = .ok (.invokestatic 37, 3) := by decide +kernel
theorem d_SM_init_168 : decode b_SM_init 168 = .ok (.putfield 41, 3) := by decide +kernel
theorem d_SM_init_171 : decode b_SM_init 171 = .ok (.aload_n 0, 1) := by decide +kernel
theorem d_SM_init_172 : decode b_SM_init 172 = .ok (.iconst 2, 1) := by decide +kernel
theorem d_SM_init_173 : decode b_SM_init 173 = .ok (.putfield 45, 3) := by decide +kernel
theorem d_SM_init_176 : decode b_SM_init 176 = .ok (.return_, 1) := by decide +kernel
theorem d_SM_scope_0 : decode b_SM_scope 0 = .ok (.iload_n 1, 1) := by decide +kernel
theorem d_SM_scope_1 : decode b_SM_scope 1 = .ok (.iconst 1, 1) := by decide +kernel
theorem d_SM_scope_2 : decode b_SM_scope 2 = .ok (.if_icmp .lt 9, 3) := by decide +kernel
theorem d_SM_scope_5 : decode b_SM_scope 5 = .ok (.iload_n 1, 1) := by decide +kernel
theorem d_SM_scope_6 : decode b_SM_scope 6 = .ok (.bipush 40, 2) := by decide +kernel
theorem d_SM_scope_8 : decode b_SM_scope 8 = .ok (.if_icmp .le 5, 3) := by decide +kernel
theorem d_SM_scope_11 : decode b_SM_scope 11 = .ok (.iconst (-1), 1) := by decide +kernel
theorem d_SM_scope_12 : decode b_SM_scope 12 = .ok (.ireturn, 1) := by decide +kernel
theorem d_SM_scope_13 : decode b_SM_scope 13 = .ok (.aload_n 0, 1) := by decide +kernel
theorem d_SM_scope_14 : decode b_SM_scope 14 = .ok (.getfield 45, 3) := by decide +kernel
theorem d_SM_scope_17 : decode b_SM_scope 17 = .ok (.bipush 10, 2) := by decide +kernel
theorem d_SM_scope_19 : decode b_SM_scope 19 = .ok (.if_icmp .lt 6, 3) := by decide +kernel
theorem d_SM_scope_22 : decode b_SM_scope 22 = .ok (.bipush (-2), 2) := by decide +kernel
theorem d_SM_scope_24 : decode b_SM_scope 24 = .ok (.ireturn, 1) := by decide +kernel
theorem d_SM_scope_25 : decode b_SM_scope 25 = .ok (.aload_n 0, 1) := by decide +kernel
theorem d_SM_scope_26 : decode b_SM_scope 26 = .ok (.getfield 45, 3) := by decide +kernel
theorem d_SM_scope_29 : decode b_SM_scope 29 = .ok (.istore_n 2, 1) := by decide +kernel
theorem d_SM_scope_30 : decode b_SM_scope 30 = .ok (.aload_n 0, 1) := by decide +kernel
theorem d_SM_scope_31 : decode b_SM_scope 31 = .ok (.getfield 11, 3) := by decide +kernel
theorem d_SM_scope_34 : decode b_SM_scope 34 = .ok (.iload_n 2, 1) := by decide +kernel
theorem d_SM_scope_35 : decode b_SM_scope 35 = .ok (.aaload, 1) := by decide +kernel
theorem d_SM_scope_36 : decode b_SM_scope 36 = .ok (.iload_n 1, 1) := by decide +kernel
theorem d_SM_scope_37 : decode b_SM_scope 37 = .ok (.putfield 41, 3) := by decide +kernel
theorem d_SM_scope_40 : decode b_SM_scope 40 = .ok (.aload_n 0, 1) := by decide +kernel
theorem d_SM_scope_41 : decode b_SM_scope 41 = .ok (.dup, 1) := by decide +kernel
theorem d_SM_scope_42 : decode b_SM_scope 42 = .ok (.getfield 45, 3) := by decide +kernel
theorem d_SM_scope_45 : decode b_SM_scope 45 = .ok (.iconst 1, 1) := by decide +kernel
theorem d_SM_scope_46 : decode b_SM_scope 46 = .ok (.iadd, 1) := by decide +kernel
theorem d_SM_scope_47 : decode b_SM_scope 47 = .ok (.putfield 45, 3) := by decide +kernel
theorem d_SM_scope_50 : decode b_SM_scope 50 = .ok (.iload_n 2, 1) := by decide +kernel
theorem d_SM_scope_51 : decode b_SM_scope 51 = .ok (.ireturn, 1) := by decide +kernel
theorem d_SM_begin_0 : decode b_SM_begin 0 = .ok (.iload_n 1, 1) := by decide +kernel
theorem d_SM_begin_1 : decode b_SM_begin 1 = .ok (.invokestatic 48, 3) := by decide +kernel
theorem d_SM_begin_4 : decode b_SM_begin 4 = .ok (.ifCond .eq 11, 3) := by decide +kernel
theorem d_SM_begin_7 : decode b_SM_begin 7 = .ok (.aload_n 0, 1) := by decide +kernel
theorem d_SM_begin_8 : decode b_SM_begin 8 = .ok (.iload_n 1, 1) := by decide +kernel
theorem d_SM_begin_9 : decode b_SM_begin 9 = .ok (.invokevirtual 52, 3) := by decide +kernel
theorem d_SM_begin_12 : decode b_SM_begin 12 = .ok (.ifCond .eq 5, 3) := by decide +kernel
theorem d_SM_begin_15 : decode b_SM_begin 15 = .ok (.iconst (-1), 1) := by decide +kernel
theorem d_SM_begin_16 : decode b_SM_begin 16 = .ok (.ireturn, 1) := by decide +kernel
theorem d_SM_begin_17 : decode b_SM_begin 17 = .ok (.aload_n 0, 1) := by decide +kernel
theorem d_SM_begin_18 : decode b_SM_begin 18 = .ok (.getfield 23, 3) := by decide +kernel
theorem d_SM_begin_21 : decode b_SM_begin 21 = .ok (.iload_n 1, 1) := by decide +kernel
theorem d_SM_begin_22 : decode b_SM_begin 22 = .ok (.aaload, 1) := by decide +kernel
theorem d_SM_begin_23 : decode b_SM_begin 23 = .ok (.iload_n 2, 1) := by decide +kernel
theorem d_SM_begin_24 : decode b_SM_begin 24 = .ok (.putfield 55, 3) := by decide +kernel
theorem d_SM_begin_27 : decode b_SM_begin 27 = .ok (.aload_n 0, 1) := by decide +kernel
theorem d_SM_begin_28 : decode b_SM_begin 28 = .ok (.getfield 23, 3) := by decide +kernel
theorem d_SM_begin_31 : decode b_SM_begin 31 = .ok (.iload_n 1, 1) := by decide +kernel
theorem d_SM_begin_32 : decode b_SM_begin 32 = .ok (.aaload, 1) := by decide +kernel
theorem d_SM_begin_33 : decode b_SM_begin 33 = .ok (.iload_n 2, 1) := by decide +kernel
theorem d_SM_begin_34 : decode b_SM_begin 34 = .ok (.ifCond .eq 7, 3) := by decide +kernel
theorem d_SM_begin_37 : decode b_SM_begin 37 = .ok (.iconst 1, 1) := by decide +kernel
theorem d_SM_begin_38 : decode b_SM_begin 38 = .ok (.goto 4, 3) := by decide +kernel
theorem d_SM_begin_41 : decode b_SM_begin 41 = .ok (.iconst 0, 1) := by decide +kernel
theorem d_SM_begin_42 : decode b_SM_begin 42 = .ok (.iconst (-1), 1) := by decide +kernel
theorem d_SM_begin_43 : decode b_SM_begin 43 = .ok (.iconst 0, 1) := by decide +kernel
theorem d_SM_begin_44 : decode b_SM_begin 44 = .ok (.invokevirtual 59, 3) := by decide +kernel
theorem d_SM_begin_47 : decode b_SM_begin 47 = .ok (.iconst 0, 1) := by decide +kernel
theorem d_SM_begin_48 : decode b_SM_begin 48 = .ok (.ireturn, 1) := by decide +kernel
theorem d_SM_enter_0 : decode b_SM_enter 0 = .ok (.aload_n 0, 1) := by decide +kernel
theorem d_SM_enter_1 : decode b_SM_enter 1 = .ok (.iload_n 1, 1) := by decide +kernel
theorem d_SM_enter_2 : decode b_SM_enter 2 = .ok (.invokevirtual 52, 3) := by decide +kernel
theorem d_SM_enter_5 : decode b_SM_enter 5 = .ok (.ifCond .eq 11, 3) := by decide +kernel
theorem d_SM_enter_8 : decode b_SM_enter 8 = .ok (.aload_n 0, 1) := by decide +kernel
theorem d_SM_enter_9 : decode b_SM_enter 9 = .ok (.iload_n 2, 1) := by decide +kernel
theorem d_SM_enter_10 : decode b_SM_enter 10 = .ok (.invokevirtual 63, 3) := by decide +kernel
theorem d_SM_enter_13 : decode b_SM_enter 13 = .ok (.ifCond .ne 5, 3) := by decide +kernel
theorem d_SM_enter_16 : decode b_SM_enter 16 = .ok (.iconst (-1), 1) := by decide +kernel
theorem d_SM_enter_17 : decode b_SM_enter 17 = .ok (.ireturn, 1) := by decide +kernel
theorem d_SM_enter_18 : decode b_SM_enter 18 = .ok (.aload_n 0, 1) := by decide +kernel
theorem d_SM_enter_19 : decode b_SM_enter 19 = .ok (.getfield 23, 3) := by decide +kernel
theorem d_SM_enter_22 : decode b_SM_enter 22 = .ok (.iload_n 1, 1) := by decide +kernel
theorem d_SM_enter_23 : decode b_SM_enter 23 = .ok (.aaload, 1) := by decide +kernel
theorem d_SM_enter_24 : decode b_SM_enter 24 = .ok (.astore_n 3, 1) := by decide +kernel
theorem d_SM_enter_25 : decode b_SM_enter 25 = .ok (.aload_n 0, 1) := by decide +kernel
theorem d_SM_enter_26 : decode b_SM_enter 26 = .ok (.getfield 11, 3) := by decide +kernel
theorem d_SM_enter_29 : decode b_SM_enter 29 = .ok (.iload_n 2, 1) := by decide +kernel
theorem d_SM_enter_30 : decode b_SM_enter 30 = .ok (.aaload, 1) := by decide +kernel
theorem d_SM_enter_31 : decode b_SM_enter 31 = .ok (.astore 4, 2) := by decide +kernel
theorem d_SM_enter_33 : decode b_SM_enter 33 = .ok (.aload_n 3, 1) := by decide +kernel
theorem d_SM_enter_34 : decode b_SM_enter 34 = .ok (.invokevirtual 66, 3) := by decide +kernel
theorem d_SM_enter_37 : decode b_SM_enter 37 = .ok (.istore 5, 2) := by decide +kernel
theorem d_SM_enter_39 : decode b_SM_enter 39 = .ok (.aload_n 3, 1) := by decide +kernel
theorem d_SM_enter_40 : decode b_SM_enter 40 = .ok (.iload_n 2, 1) := by decide +kernel
theorem d_SM_enter_41 : decode b_SM_enter 41 = .ok (.invokevirtual 70, 3) := by decide +kernel
theorem d_SM_enter_44 : decode b_SM_enter 44 = .ok (.ifCond .ne 21, 3) := by decide +kernel
theorem d_SM_enter_47 : decode b_SM_enter 47 = .ok (.aload 4, 2) := by decide +kernel
theorem d_SM_enter_49 : decode b_SM_enter 49 = .ok (.getfield 73, 3) := by decide +kernel
theorem d_SM_enter_52 : decode b_SM_enter 52 = .ok (.ifCond .le 16, 3) := by decide +kernel
theorem d_SM_enter_55 : decode b_SM_enter 55 = .ok (.aload 4, 2) := by decide +kernel
theorem d_SM_enter_57 : decode b_SM_enter 57 = .ok (.getfield 76, 3) := by decide +kernel
theorem d_SM_enter_60 : decode b_SM_enter 60 = .ok (.iload 5, 2) := by decide +kernel
theorem d_SM_enter_62 : decode b_SM_enter 62 = .ok (.if_icmp .eq 6, 3) := by decide +kernel
theorem d_SM_enter_65 : decode b_SM_enter 65 = .ok (.bipush (-3), 2) := by decide +kernel
theorem d_SM_enter_67 : decode b_SM_enter 67 = .ok (.ireturn, 1) := by decide +kernel
theorem d_SM_enter_68 : decode b_SM_enter 68 = .ok (.aload_n 3, 1) := by decide +kernel
theorem d_SM_enter_69 : decode b_SM_enter 69 = .ok (.invokevirtual 79, 3) := by decide +kernel
theorem d_SM_enter_72 : decode b_SM_enter 72 = .ok (.ifCond .eq 6, 3) := by decide +kernel
theorem d_SM_enter_75 : decode b_SM_enter 75 = .ok (.bipush (-2), 2) := by decide +kernel
theorem d_SM_enter_77 : decode b_SM_enter 77 = .ok (.ireturn, 1) := by decide +kernel
theorem d_SM_enter_78 : decode b_SM_enter 78 = .ok (.aload 4, 2) := by decide +kernel
theorem d_SM_enter_80 : decode b_SM_enter 80 = .ok (.getfield 73, 3) := by decide +kernel
theorem d_SM_enter_83 : decode b_SM_enter 83 = .ok (.ifCond .ne 10, 3) := by decide +kernel
theorem d_SM_enter_86 : decode b_SM_enter 86 = .ok (.aload 4, 2) := by decide +kernel
theorem d_SM_enter_88 : decode b_SM_enter 88 = .ok (.iload 5, 2) := by decide +kernel
theorem d_SM_enter_90 : decode b_SM_enter 90 = .ok (.putfield 76, 3) := by decide +kernel
theorem d_SM_enter_93 : decode b_SM_enter 93 = .ok (.aload 4, 2) := by decide +kernel
theorem d_SM_enter_95 : decode b_SM_enter 95 = .ok (.dup, 1) := by decide +kernel
theorem d_SM_enter_96 : decode b_SM_enter 96 = .ok (.getfield 73, 3) := by decide +kernel
theorem d_SM_enter_99 : decode b_SM_enter 99 = .ok (.iconst 1, 1) := by decide +kernel
theorem d_SM_enter_100 : decode b_SM_enter 100 = .ok (.iadd, 1) := by decide +kernel
theorem d_SM_enter_101 : decode b_SM_enter 101 = .ok (.putfield 73, 3) := by decide +kernel
theorem d_SM_enter_104 : decode b_SM_enter 104 = .ok (.aload_n 3, 1) := by decide +kernel
theorem d_SM_enter_105 : decode b_SM_enter 105 = .ok (.iload_n 2, 1) := by decide +kernel
theorem d_SM_enter_106 : decode b_SM_enter 106 = .ok (.aload_n 3, 1) := by decide +kernel
theorem d_SM_enter_107 : decode b_SM_enter 107 = .ok (.invokevirtual 83, 3) := by decide +kernel
theorem d_SM_enter_110 : decode b_SM_enter 110 = .ok (.iconst 1, 1) := by decide +kernel
theorem d_SM_enter_111 : decode b_SM_enter 111 = .ok (.invokevirtual 59, 3) := by decide +kernel
theorem d_SM_enter_114 : decode b_SM_enter 114 = .ok (.aload 4, 2) := by decide +kernel
theorem d_SM_enter_116 : decode b_SM_enter 116 = .ok (.getfield 73, 3) := by decide +kernel
theorem d_SM_enter_119 : decode b_SM_enter 119 = .ok (.ireturn, 1) := by decide +kernel
theorem d_SM_turn_0 : decode b_SM_turn 0 = .ok (.aload_n 0, 1) := by decide +kernel
theorem d_SM_turn_1 : decode b_SM_turn 1 = .ok (.iload_n 1, 1) := by decide +kernel
theorem d_SM_turn_2 : decode b_SM_turn 2 = .ok (.invokevirtual 52, 3) := by decide +kernel
theorem d_SM_turn_5 : decode b_SM_turn 5 = .ok (.ifCond .eq 11, 3) := by decide +kernel
theorem d_SM_turn_8 : decode b_SM_turn 8 = .ok (.aload_n 0, 1) := by decide +kernel
theorem d_SM_turn_9 : decode b_SM_turn 9 = .ok (.iload_n 2, 1) := by decide +kernel
theorem d_SM_turn_10 : decode b_SM_turn 10 = .ok (.invokevirtual 86, 3) := by decide +kernel
theorem d_SM_turn_13 : decode b_SM_turn 13 = .ok (.ifCond .ne 5, 3) := by decide +kernel
theorem d_SM_turn_16 : decode b_SM_turn 16 = .ok (.iconst (-1), 1) := by decide +kernel
theorem d_SM_turn_17 : decode b_SM_turn 17 = .ok (.ireturn, 1) := by decide +kernel
theorem d_SM_turn_18 : decode b_SM_turn 18 = .ok (.aload_n 0, 1) := by decide +kernel
theorem d_SM_turn_19 : decode b_SM_turn 19 = .ok (.getfield 23, 3) := by decide +kernel
theorem d_SM_turn_22 : decode b_SM_turn 22 = .ok (.iload_n 1, 1) := by decide +kernel
theorem d_SM_turn_23 : decode b_SM_turn 23 = .ok (.aaload, 1) := by decide +kernel
theorem d_SM_turn_24 : decode b_SM_turn 24 = .ok (.astore_n 3, 1) := by decide +kernel
theorem d_SM_turn_25 : decode b_SM_turn 25 = .ok (.iload_n 2, 1) := by decide +kernel
theorem d_SM_turn_26 : decode b_SM_turn 26 = .ok (.ifCond .ne 13, 3) := by decide +kernel
theorem d_SM_turn_29 : decode b_SM_turn 29 = .ok (.aload_n 3, 1) := by decide +kernel
theorem d_SM_turn_30 : decode b_SM_turn 30 = .ok (.getfield 55, 3) := by decide +kernel
theorem d_SM_turn_33 : decode b_SM_turn 33 = .ok (.ifCond .eq 6, 3) := by decide +kernel
theorem d_SM_turn_36 : decode b_SM_turn 36 = .ok (.bipush (-5), 2) := by decide +kernel
theorem d_SM_turn_38 : decode b_SM_turn 38 = .ok (.ireturn, 1) := by decide +kernel
theorem d_SM_turn_39 : decode b_SM_turn 39 = .ok (.aload_n 0, 1) := by decide +kernel
theorem d_SM_turn_40 : decode b_SM_turn 40 = .ok (.iload_n 2, 1) := by decide +kernel
theorem d_SM_turn_41 : decode b_SM_turn 41 = .ok (.invokevirtual 63, 3) := by decide +kernel
theorem d_SM_turn_44 : decode b_SM_turn 44 = .ok (.ifCond .eq 14, 3) := by decide +kernel
theorem d_SM_turn_47 : decode b_SM_turn 47 = .ok (.aload_n 3, 1) := by decide +kernel
theorem d_SM_turn_48 : decode b_SM_turn 48 = .ok (.iload_n 2, 1) := by decide +kernel
theorem d_SM_turn_49 : decode b_SM_turn 49 = .ok (.invokevirtual 70, 3) := by decide +kernel
theorem d_SM_turn_52 : decode b_SM_turn 52 = .ok (.ifCond .ne 6, 3) := by decide +kernel
theorem d_SM_turn_55 : decode b_SM_turn 55 = .ok (.bipush (-4), 2) := by decide +kernel
theorem d_SM_turn_57 : decode b_SM_turn 57 = .ok (.ireturn, 1) := by decide +kernel
theorem d_SM_turn_58 : decode b_SM_turn 58 = .ok (.aload_n 3, 1) := by decide +kernel
theorem d_SM_turn_59 : decode b_SM_turn 59 = .ok (.invokevirtual 79, 3) := by decide +kernel
theorem d_SM_turn_62 : decode b_SM_turn 62 = .ok (.ifCond .eq 6, 3) := by decide +kernel
theorem d_SM_turn_65 : decode b_SM_turn 65 = .ok (.bipush (-2), 2) := by decide +kernel
theorem d_SM_turn_67 : decode b_SM_turn 67 = .ok (.ireturn, 1) := by decide +kernel
theorem d_SM_turn_68 : decode b_SM_turn 68 = .ok (.aload_n 3, 1) := by decide +kernel
theorem d_SM_turn_69 : decode b_SM_turn 69 = .ok (.iload_n 2, 1) := by decide +kernel
theorem d_SM_turn_70 : decode b_SM_turn 70 = .ok (.aload_n 0, 1) := by decide +kernel
theorem d_SM_turn_71 : decode b_SM_turn 71 = .ok (.iload_n 2, 1) := by decide +kernel
theorem d_SM_turn_72 : decode b_SM_turn 72 = .ok (.invokevirtual 63, 3) := by decide +kernel
theorem d_SM_turn_75 : decode b_SM_turn 75 = .ok (.ifCond .eq 11, 3) := by decide +kernel
theorem d_SM_turn_78 : decode b_SM_turn 78 = .ok (.aload_n 3, 1) := by decide +kernel
theorem d_SM_turn_79 : decode b_SM_turn 79 = .ok (.iload_n 2, 1) := by decide +kernel
theorem d_SM_turn_80 : decode b_SM_turn 80 = .ok (.invokevirtual 89, 3) := by decide +kernel
theorem d_SM_turn_83 : decode b_SM_turn 83 = .ok (.goto 4, 3) := by decide +kernel
theorem d_SM_turn_86 : decode b_SM_turn 86 = .ok (.iconst (-1), 1) := by decide +kernel
theorem d_SM_turn_87 : decode b_SM_turn 87 = .ok (.iconst 0, 1) := by decide +kernel
theorem d_SM_turn_88 : decode b_SM_turn 88 = .ok (.invokevirtual 59, 3) := by decide +kernel
theorem d_SM_turn_91 : decode b_SM_turn 91 = .ok (.aload_n 3, 1) := by decide +kernel
theorem d_SM_turn_92 : decode b_SM_turn 92 = .ok (.getfield 92, 3) := by decide +kernel
theorem d_SM_turn_95 : decode b_SM_turn 95 = .ok (.ireturn, 1) := by decide +kernel
theorem d_SM_leave_0 : decode b_SM_leave 0 = .ok (.aload_n 0, 1) := by decide +kernel
theorem d_SM_leave_1 : decode b_SM_leave 1 = .ok (.iload_n 1, 1) := by decide +kernel
theorem d_SM_leave_2 : decode b_SM_leave 2 = .ok (.invokevirtual 52, 3) := by decide +kernel
theorem d_SM_leave_5 : decode b_SM_leave 5 = .ok (.ifCond .ne 5, 3) := by decide +kernel
theorem d_SM_leave_8 : decode b_SM_leave 8 = .ok (.iconst (-1), 1) := by decide +kernel
theorem d_SM_leave_9 : decode b_SM_leave 9 = .ok (.ireturn, 1) := by decide +kernel
theorem d_SM_leave_10 : decode b_SM_leave 10 = .ok (.aload_n 0, 1) := by decide +kernel
theorem d_SM_leave_11 : decode b_SM_leave 11 = .ok (.getfield 23, 3) := by decide +kernel
theorem d_SM_leave_14 : decode b_SM_leave 14 = .ok (.iload_n 1, 1) := by decide +kernel
theorem d_SM_leave_15 : decode b_SM_leave 15 = .ok (.aaload, 1) := by decide +kernel
theorem d_SM_leave_16 : decode b_SM_leave 16 = .ok (.astore_n 2, 1) := by decide +kernel
theorem d_SM_leave_17 : decode b_SM_leave 17 = .ok (.aload_n 2, 1) := by decide +kernel
theorem d_SM_leave_18 : decode b_SM_leave 18 = .ok (.invokevirtual 95, 3) := by decide +kernel
theorem d_SM_leave_21 : decode b_SM_leave 21 = .ok (.istore_n 3, 1) := by decide +kernel
theorem d_SM_leave_22 : decode b_SM_leave 22 = .ok (.aload_n 2, 1) := by decide +kernel
theorem d_SM_leave_23 : decode b_SM_leave 23 = .ok (.invokevirtual 98, 3) := by decide +kernel
theorem d_SM_leave_26 : decode b_SM_leave 26 = .ok (.istore 4, 2) := by decide +kernel
theorem d_SM_leave_28 : decode b_SM_leave 28 = .ok (.aload_n 2, 1) := by decide +kernel
theorem d_SM_leave_29 : decode b_SM_leave 29 = .ok (.invokevirtual 101, 3) := by decide +kernel
theorem d_SM_leave_32 : decode b_SM_leave 32 = .ok (.iload 4, 2) := by decide +kernel
theorem d_SM_leave_34 : decode b_SM_leave 34 = .ok (.ifCond .eq 8, 3) := by decide +kernel
theorem d_SM_leave_37 : decode b_SM_leave 37 = .ok (.aload_n 0, 1) := by decide +kernel
theorem d_SM_leave_38 : decode b_SM_leave 38 = .ok (.iload_n 3, 1) := by decide +kernel
theorem d_SM_leave_39 : decode b_SM_leave 39 = .ok (.invokevirtual 104, 3) := by decide +kernel
theorem d_SM_leave_42 : decode b_SM_leave 42 = .ok (.aload_n 2, 1) := by decide +kernel
theorem d_SM_leave_43 : decode b_SM_leave 43 = .ok (.getfield 92, 3) := by decide +kernel
theorem d_SM_leave_46 : decode b_SM_leave 46 = .ok (.ireturn, 1) := by decide +kernel
theorem d_SM_make_0 : decode b_SM_make 0 = .ok (.aload_n 0, 1) := by decide +kernel
theorem d_SM_make_1 : decode b_SM_make 1 = .ok (.iload_n 1, 1) := by decide +kernel
theorem d_SM_make_2 : decode b_SM_make 2 = .ok (.invokevirtual 52, 3) := by decide +kernel
theorem d_SM_make_5 : decode b_SM_make 5 = .ok (.ifCond .eq 12, 3) := by decide +kernel
theorem d_SM_make_8 : decode b_SM_make 8 = .ok (.iload_n 2, 1) := by decide +kernel
theorem d_SM_make_9 : decode b_SM_make 9 = .ok (.ifCond .lt 8, 3) := by decide +kernel
theorem d_SM_make_12 : decode b_SM_make 12 = .ok (.iload_n 2, 1) := by decide +kernel
theorem d_SM_make_13 : decode b_SM_make 13 = .ok (.iconst 4, 1) := by decide +kernel
theorem d_SM_make_14 : decode b_SM_make 14 = .ok (.if_icmp .le 5, 3) := by decide +kernel
theorem d_SM_make_17 : decode b_SM_make 17 = .ok (.iconst (-1), 1) := by decide +kernel
theorem d_SM_make_18 : decode b_SM_make 18 = .ok (.ireturn, 1) := by decide +kernel
theorem d_SM_make_19 : decode b_SM_make 19 = .ok (.aload_n 0, 1) := by decide +kernel
theorem d_SM_make_20 : decode b_SM_make 20 = .ok (.getfield 23, 3) := by decide +kernel
theorem d_SM_make_23 : decode b_SM_make 23 = .ok (.iload_n 1, 1) := by decide +kernel
theorem d_SM_make_24 : decode b_SM_make 24 = .ok (.aaload, 1) := by decide +kernel
theorem d_SM_make_25 : decode b_SM_make 25 = .ok (.invokevirtual 95, 3) := by decide +kernel
theorem d_SM_make_28 : decode b_SM_make 28 = .ok (.istore_n 3, 1) := by decide +kernel
theorem d_SM_make_29 : decode b_SM_make 29 = .ok (.aload_n 0, 1) := by decide +kernel
theorem d_SM_make_30 : decode b_SM_make 30 = .ok (.invokevirtual 108, 3) := by decide +kernel
theorem d_SM_make_33 : decode b_SM_make 33 = .ok (.istore 4, 2) := by decide +kernel
theorem d_SM_make_35 : decode b_SM_make 35 = .ok (.iload 4, 2) := by decide +kernel
theorem d_SM_make_37 : decode b_SM_make 37 = .ok (.iconst (-1), 1) := by decide +kernel
theorem d_SM_make_38 : decode b_SM_make 38 = .ok (.if_icmp .eq 18, 3) := by decide +kernel
theorem d_SM_make_41 : decode b_SM_make 41 = .ok (.aload_n 0, 1) := by decide +kernel
theorem d_SM_make_42 : decode b_SM_make 42 = .ok (.getfield 11, 3) := by decide +kernel
theorem d_SM_make_45 : decode b_SM_make 45 = .ok (.iload_n 3, 1) := by decide +kernel
theorem d_SM_make_46 : decode b_SM_make 46 = .ok (.aaload, 1) := by decide +kernel
theorem d_SM_make_47 : decode b_SM_make 47 = .ok (.invokevirtual 111, 3) := by decide +kernel
theorem d_SM_make_50 : decode b_SM_make 50 = .ok (.iconst 1, 1) := by decide +kernel
theorem d_SM_make_51 : decode b_SM_make 51 = .ok (.iload_n 2, 1) := by decide +kernel
theorem d_SM_make_52 : decode b_SM_make 52 = .ok (.iadd, 1) := by decide +kernel
theorem d_SM_make_53 : decode b_SM_make 53 = .ok (.if_icmp .ge 6, 3) := by decide +kernel
theorem d_SM_make_56 : decode b_SM_make 56 = .ok (.bipush (-2), 2) := by decide +kernel
theorem d_SM_make_58 : decode b_SM_make 58 = .ok (.ireturn, 1) := by decide +kernel
theorem d_SM_make_59 : decode b_SM_make 59 = .ok (.aload_n 0, 1) := by decide +kernel
theorem d_SM_make_60 : decode b_SM_make 60 = .ok (.getfield 17, 3) := by decide +kernel
theorem d_SM_make_63 : decode b_SM_make 63 = .ok (.iload 4, 2) := by decide +kernel
theorem d_SM_make_65 : decode b_SM_make 65 = .ok (.aaload, 1) := by decide +kernel
theorem d_SM_make_66 : decode b_SM_make 66 = .ok (.iload_n 3, 1) := by decide +kernel
theorem d_SM_make_67 : decode b_SM_make 67 = .ok (.iload_n 2, 1) := by decide +kernel
theorem d_SM_make_68 : decode b_SM_make 68 = .ok (.invokevirtual 114, 3) := by decide +kernel
theorem d_SM_make_71 : decode b_SM_make 71 = .ok (.aload_n 0, 1) := by decide +kernel
theorem d_SM_make_72 : decode b_SM_make 72 = .ok (.getfield 11, 3) := by decide +kernel
theorem d_SM_make_75 : decode b_SM_make 75 = .ok (.iload_n 3, 1) := by decide +kernel
theorem d_SM_make_76 : decode b_SM_make 76 = .ok (.aaload, 1) := by decide +kernel
theorem d_SM_make_77 : decode b_SM_make 77 = .ok (.dup, 1) := by decide +kernel
theorem d_SM_make_78 : decode b_SM_make 78 = .ok (.getfield 118, 3) := by decide +kernel
theorem d_SM_make_81 : decode b_SM_make 81 = .ok (.iconst 1, 1) := by decide +kernel
theorem d_SM_make_82 : decode b_SM_make 82 = .ok (.iload_n 2, 1) := by decide +kernel
theorem d_SM_make_83 : decode b_SM_make 83 = .ok (.iadd, 1) := by decide +kernel
theorem d_SM_make_84 : decode b_SM_make 84 = .ok (.iadd, 1) := by decide +kernel
theorem d_SM_make_85 : decode b_SM_make 85 = .ok (.putfield 118, 3) := by decide +kernel
theorem d_SM_make_88 : decode b_SM_make 88 = .ok (.aload_n 0, 1) := by decide +kernel
theorem d_SM_make_89 : decode b_SM_make 89 = .ok (.dup, 1) := by decide +kernel
theorem d_SM_make_90 : decode b_SM_make 90 = .ok (.getfield 121, 3) := by decide +kernel
theorem d_SM_make_93 : decode b_SM_make 93 = .ok (.iconst 1, 1) := by decide +kernel
theorem d_SM_make_94 : decode b_SM_make 94 = .ok (.iadd, 1) := by decide +kernel
theorem d_SM_make_95 : decode b_SM_make 95 = .ok (.putfield 121, 3) := by decide +kernel
theorem d_SM_make_98 : decode b_SM_make 98 = .ok (.iload 4, 2) := by decide +kernel
theorem d_SM_make_100 : decode b_SM_make 100 = .ok (.ireturn, 1) := by decide +kernel
theorem d_SM_put_0 : decode b_SM_put 0 = .ok (.aload_n 0, 1) := by decide +kernel
theorem d_SM_put_1 : decode b_SM_put 1 = .ok (.iload_n 1, 1) := by decide +kernel
theorem d_SM_put_2 : decode b_SM_put 2 = .ok (.invokevirtual 52, 3) := by decide +kernel
theorem d_SM_put_5 : decode b_SM_put 5 = .ok (.ifCond .eq 21, 3) := by decide +kernel
theorem d_SM_put_8 : decode b_SM_put 8 = .ok (.aload_n 0, 1) := by decide +kernel
theorem d_SM_put_9 : decode b_SM_put 9 = .ok (.iload_n 2, 1) := by decide +kernel
theorem d_SM_put_10 : decode b_SM_put 10 = .ok (.iload_n 3, 1) := by decide +kernel
theorem d_SM_put_11 : decode b_SM_put 11 = .ok (.invokevirtual 124, 3) := by decide +kernel
theorem d_SM_put_14 : decode b_SM_put 14 = .ok (.ifCond .eq 12, 3) := by decide +kernel
theorem d_SM_put_17 : decode b_SM_put 17 = .ok (.aload_n 0, 1) := by decide +kernel
theorem d_SM_put_18 : decode b_SM_put 18 = .ok (.iload 4, 2) := by decide +kernel
theorem d_SM_put_20 : decode b_SM_put 20 = .ok (.invokevirtual 128, 3) := by decide +kernel
theorem d_SM_put_23 : decode b_SM_put 23 = .ok (.ifCond .ne 5, 3) := by decide +kernel
theorem d_SM_put_26 : decode b_SM_put 26 = .ok (.iconst (-1), 1) := by decide +kernel
theorem d_SM_put_27 : decode b_SM_put 27 = .ok (.ireturn, 1) := by decide +kernel
theorem d_SM_put_28 : decode b_SM_put 28 = .ok (.aload_n 0, 1) := by decide +kernel
theorem d_SM_put_29 : decode b_SM_put 29 = .ok (.iload_n 1, 1) := by decide +kernel
theorem d_SM_put_30 : decode b_SM_put 30 = .ok (.iload_n 2, 1) := by decide +kernel
theorem d_SM_put_31 : decode b_SM_put 31 = .ok (.invokevirtual 131, 3) := by decide +kernel
theorem d_SM_put_34 : decode b_SM_put 34 = .ok (.ifCond .eq 13, 3) := by decide +kernel
theorem d_SM_put_37 : decode b_SM_put 37 = .ok (.aload_n 0, 1) := by decide +kernel
theorem d_SM_put_38 : decode b_SM_put 38 = .ok (.iload_n 1, 1) := by decide +kernel
theorem d_SM_put_39 : decode b_SM_put 39 = .ok (.iload 4, 2) := by decide +kernel
theorem d_SM_put_41 : decode b_SM_put 41 = .ok (.invokevirtual 134, 3) := by decide +kernel
theorem d_SM_put_44 : decode b_SM_put 44 = .ok (.ifCond .ne 6, 3) := by decide +kernel
theorem d_SM_put_47 : decode b_SM_put 47 = .ok (.bipush (-4), 2) := by decide +kernel
theorem d_SM_put_49 : decode b_SM_put 49 = .ok (.ireturn, 1) := by decide +kernel
theorem d_SM_put_50 : decode b_SM_put 50 = .ok (.iload 4, 2) := by decide +kernel
theorem d_SM_put_52 : decode b_SM_put 52 = .ok (.iconst (-1), 1) := by decide +kernel
theorem d_SM_put_53 : decode b_SM_put 53 = .ok (.if_icmp .eq 24, 3) := by decide +kernel
theorem d_SM_put_56 : decode b_SM_put 56 = .ok (.aload_n 0, 1) := by decide +kernel
theorem d_SM_put_57 : decode b_SM_put 57 = .ok (.aload_n 0, 1) := by decide +kernel
theorem d_SM_put_58 : decode b_SM_put 58 = .ok (.getfield 17, 3) := by decide +kernel
theorem d_SM_put_61 : decode b_SM_put 61 = .ok (.iload_n 2, 1) := by decide +kernel
theorem d_SM_put_62 : decode b_SM_put 62 = .ok (.aaload, 1) := by decide +kernel
theorem d_SM_put_63 : decode b_SM_put 63 = .ok (.getfield 137, 3) := by decide +kernel
theorem d_SM_put_66 : decode b_SM_put 66 = .ok (.iload 4, 2) := by decide +kernel
theorem d_SM_put_68 : decode b_SM_put 68 = .ok (.invokevirtual 140, 3) := by decide +kernel
theorem d_SM_put_71 : decode b_SM_put 71 = .ok (.ifCond .ne 6, 3) := by decide +kernel
theorem d_SM_put_74 : decode b_SM_put 74 = .ok (.bipush (-5), 2) := by decide +kernel
theorem d_SM_put_76 : decode b_SM_put 76 = .ok (.ireturn, 1) := by decide +kernel
theorem d_SM_put_77 : decode b_SM_put 77 = .ok (.aload_n 0, 1) := by decide +kernel
theorem d_SM_put_78 : decode b_SM_put 78 = .ok (.getfield 17, 3) := by decide +kernel
theorem d_SM_put_81 : decode b_SM_put 81 = .ok (.iload_n 2, 1) := by decide +kernel
theorem d_SM_put_82 : decode b_SM_put 82 = .ok (.aaload, 1) := by decide +kernel
theorem d_SM_put_83 : decode b_SM_put 83 = .ok (.getfield 143, 3) := by decide +kernel
theorem d_SM_put_86 : decode b_SM_put 86 = .ok (.iload_n 3, 1) := by decide +kernel
theorem d_SM_put_87 : decode b_SM_put 87 = .ok (.iload 4, 2) := by decide +kernel
theorem d_SM_put_89 : decode b_SM_put 89 = .ok (.iastore, 1) := by decide +kernel
theorem d_SM_put_90 : decode b_SM_put 90 = .ok (.iconst 0, 1) := by decide +kernel
theorem d_SM_put_91 : decode b_SM_put 91 = .ok (.ireturn, 1) := by decide +kernel
theorem d_SM_get_0 : decode b_SM_get 0 = .ok (.aload_n 0, 1) := by decide +kernel
theorem d_SM_get_1 : decode b_SM_get 1 = .ok (.iload_n 1, 1) := by decide +kernel
theorem d_SM_get_2 : decode b_SM_get 2 = .ok (.invokevirtual 52, 3) := by decide +kernel
theorem d_SM_get_5 : decode b_SM_get 5 = .ok (.ifCond .eq 12, 3) := by decide +kernel
theorem d_SM_get_8 : decode b_SM_get 8 = .ok (.aload_n 0, 1) := by decide +kernel
theorem d_SM_get_9 : decode b_SM_get 9 = .ok (.iload_n 2, 1) := by decide +kernel
theorem d_SM_get_10 : decode b_SM_get 10 = .ok (.iload_n 3, 1) := by decide +kernel
theorem d_SM_get_11 : decode b_SM_get 11 = .ok (.invokevirtual 124, 3) := by decide +kernel
theorem d_SM_get_14 : decode b_SM_get 14 = .ok (.ifCond .ne 5, 3) := by decide +kernel
theorem d_SM_get_17 : decode b_SM_get 17 = .ok (.iconst (-1), 1) := by decide +kernel
theorem d_SM_get_18 : decode b_SM_get 18 = .ok (.ireturn, 1) := by decide +kernel
theorem d_SM_get_19 : decode b_SM_get 19 = .ok (.aload_n 0, 1) := by decide +kernel
theorem d_SM_get_20 : decode b_SM_get 20 = .ok (.iload_n 1, 1) := by decide +kernel
theorem d_SM_get_21 : decode b_SM_get 21 = .ok (.iload_n 2, 1) := by decide +kernel
theorem d_SM_get_22 : decode b_SM_get 22 = .ok (.invokevirtual 131, 3) := by decide +kernel
theorem d_SM_get_25 : decode b_SM_get 25 = .ok (.ifCond .ne 6, 3) := by decide +kernel
theorem d_SM_get_28 : decode b_SM_get 28 = .ok (.bipush (-4), 2) := by decide +kernel
theorem d_SM_get_30 : decode b_SM_get 30 = .ok (.ireturn, 1) := by decide +kernel
theorem d_SM_get_31 : decode b_SM_get 31 = .ok (.aload_n 0, 1) := by decide +kernel
theorem d_SM_get_32 : decode b_SM_get 32 = .ok (.getfield 17, 3) := by decide +kernel
theorem d_SM_get_35 : decode b_SM_get 35 = .ok (.iload_n 2, 1) := by decide +kernel
theorem d_SM_get_36 : decode b_SM_get 36 = .ok (.aaload, 1) := by decide +kernel
theorem d_SM_get_37 : decode b_SM_get 37 = .ok (.getfield 143, 3) := by decide +kernel
theorem d_SM_get_40 : decode b_SM_get 40 = .ok (.iload_n 3, 1) := by decide +kernel
theorem d_SM_get_41 : decode b_SM_get 41 = .ok (.iaload, 1) := by decide +kernel
theorem d_SM_get_42 : decode b_SM_get 42 = .ok (.istore 4, 2) := by decide +kernel
theorem d_SM_get_44 : decode b_SM_get 44 = .ok (.iload 4, 2) := by decide +kernel
theorem d_SM_get_46 : decode b_SM_get 46 = .ok (.iconst (-1), 1) := by decide +kernel
theorem d_SM_get_47 : decode b_SM_get 47 = .ok (.if_icmp .ne 6, 3) := by decide +kernel
theorem d_SM_get_50 : decode b_SM_get 50 = .ok (.bipush (-6), 2) := by decide +kernel
theorem d_SM_get_52 : decode b_SM_get 52 = .ok (.ireturn, 1) := by decide +kernel
theorem d_SM_get_53 : decode b_SM_get 53 = .ok (.aload_n 0, 1) := by decide +kernel
theorem d_SM_get_54 : decode b_SM_get 54 = .ok (.iload_n 1, 1) := by decide +kernel
theorem d_SM_get_55 : decode b_SM_get 55 = .ok (.iload 4, 2) := by decide +kernel
theorem d_SM_get_57 : decode b_SM_get 57 = .ok (.invokevirtual 131, 3) := by decide +kernel
theorem d_SM_get_60 : decode b_SM_get 60 = .ok (.ifCond .eq 8, 3) := by decide +kernel
theorem d_SM_get_63 : decode b_SM_get 63 = .ok (.iload 4, 2) := by decide +kernel
theorem d_SM_get_65 : decode b_SM_get 65 = .ok (.goto 5, 3) := by decide +kernel
theorem d_SM_get_68 : decode b_SM_get 68 = .ok (.bipush (-4), 2) := by decide +kernel
theorem d_SM_get_70 : decode b_SM_get 70 = .ok (.ireturn, 1) := by decide +kernel
theorem d_SM_hang_0 : decode b_SM_hang 0 = .ok (.aload_n 0, 1) := by decide +kernel
theorem d_SM_hang_1 : decode b_SM_hang 1 = .ok (.iload_n 1, 1) := by decide +kernel
theorem d_SM_hang_2 : decode b_SM_hang 2 = .ok (.invokevirtual 52, 3) := by decide +kernel
theorem d_SM_hang_5 : decode b_SM_hang 5 = .ok (.ifCond .eq 19, 3) := by decide +kernel
theorem d_SM_hang_8 : decode b_SM_hang 8 = .ok (.aload_n 0, 1) := by decide +kernel
theorem d_SM_hang_9 : decode b_SM_hang 9 = .ok (.iload_n 2, 1) := by decide +kernel
theorem d_SM_hang_10 : decode b_SM_hang 10 = .ok (.invokevirtual 63, 3) := by decide +kernel
theorem d_SM_hang_13 : decode b_SM_hang 13 = .ok (.ifCond .eq 11, 3) := by decide +kernel
theorem d_SM_hang_16 : decode b_SM_hang 16 = .ok (.aload_n 0, 1) := by decide +kernel
theorem d_SM_hang_17 : decode b_SM_hang 17 = .ok (.iload_n 3, 1) := by decide +kernel
theorem d_SM_hang_18 : decode b_SM_hang 18 = .ok (.invokevirtual 128, 3) := by decide +kernel
theorem d_SM_hang_21 : decode b_SM_hang 21 = .ok (.ifCond .ne 5, 3) := by decide +kernel
theorem d_SM_hang_24 : decode b_SM_hang 24 = .ok (.iconst (-1), 1) := by decide +kernel
theorem d_SM_hang_25 : decode b_SM_hang 25 = .ok (.ireturn, 1) := by decide +kernel
theorem d_SM_hang_26 : decode b_SM_hang 26 = .ok (.aload_n 0, 1) := by decide +kernel
theorem d_SM_hang_27 : decode b_SM_hang 27 = .ok (.getfield 23, 3) := by decide +kernel
theorem d_SM_hang_30 : decode b_SM_hang 30 = .ok (.iload_n 1, 1) := by decide +kernel
theorem d_SM_hang_31 : decode b_SM_hang 31 = .ok (.aaload, 1) := by decide +kernel
theorem d_SM_hang_32 : decode b_SM_hang 32 = .ok (.iload_n 2, 1) := by decide +kernel
theorem d_SM_hang_33 : decode b_SM_hang 33 = .ok (.invokevirtual 70, 3) := by decide +kernel
theorem d_SM_hang_36 : decode b_SM_hang 36 = .ok (.ifCond .eq 12, 3) := by decide +kernel
theorem d_SM_hang_39 : decode b_SM_hang 39 = .ok (.aload_n 0, 1) := by decide +kernel
theorem d_SM_hang_40 : decode b_SM_hang 40 = .ok (.iload_n 1, 1) := by decide +kernel
theorem d_SM_hang_41 : decode b_SM_hang 41 = .ok (.iload_n 3, 1) := by decide +kernel
theorem d_SM_hang_42 : decode b_SM_hang 42 = .ok (.invokevirtual 134, 3) := by decide +kernel
theorem d_SM_hang_45 : decode b_SM_hang 45 = .ok (.ifCond .ne 6, 3) := by decide +kernel
theorem d_SM_hang_48 : decode b_SM_hang 48 = .ok (.bipush (-4), 2) := by decide +kernel
theorem d_SM_hang_50 : decode b_SM_hang 50 = .ok (.ireturn, 1) := by decide +kernel
theorem d_SM_hang_51 : decode b_SM_hang 51 = .ok (.iload_n 3, 1) := by decide +kernel
theorem d_SM_hang_52 : decode b_SM_hang 52 = .ok (.iconst (-1), 1) := by decide +kernel
theorem d_SM_hang_53 : decode b_SM_hang 53 = .ok (.if_icmp .eq 19, 3) := by decide +kernel
theorem d_SM_hang_56 : decode b_SM_hang 56 = .ok (.aload_n 0, 1) := by decide +kernel
theorem d_SM_hang_57 : decode b_SM_hang 57 = .ok (.getfield 17, 3) := by decide +kernel
theorem d_SM_hang_60 : decode b_SM_hang 60 = .ok (.iload_n 3, 1) := by decide +kernel
theorem d_SM_hang_61 : decode b_SM_hang 61 = .ok (.aaload, 1) := by decide +kernel
theorem d_SM_hang_62 : decode b_SM_hang 62 = .ok (.getfield 137, 3) := by decide +kernel
theorem d_SM_hang_65 : decode b_SM_hang 65 = .ok (.iload_n 2, 1) := by decide +kernel
theorem d_SM_hang_66 : decode b_SM_hang 66 = .ok (.if_icmp .eq 6, 3) := by decide +kernel
theorem d_SM_hang_69 : decode b_SM_hang 69 = .ok (.bipush (-5), 2) := by decide +kernel
theorem d_SM_hang_71 : decode b_SM_hang 71 = .ok (.ireturn, 1) := by decide +kernel
theorem d_SM_hang_72 : decode b_SM_hang 72 = .ok (.aload_n 0, 1) := by decide +kernel
theorem d_SM_hang_73 : decode b_SM_hang 73 = .ok (.getfield 11, 3) := by decide +kernel
theorem d_SM_hang_76 : decode b_SM_hang 76 = .ok (.iload_n 2, 1) := by decide +kernel
theorem d_SM_hang_77 : decode b_SM_hang 77 = .ok (.aaload, 1) := by decide +kernel
theorem d_SM_hang_78 : decode b_SM_hang 78 = .ok (.iload_n 3, 1) := by decide +kernel
theorem d_SM_hang_79 : decode b_SM_hang 79 = .ok (.putfield 146, 3) := by decide +kernel
theorem d_SM_hang_82 : decode b_SM_hang 82 = .ok (.iconst 0, 1) := by decide +kernel
theorem d_SM_hang_83 : decode b_SM_hang 83 = .ok (.ireturn, 1) := by decide +kernel
theorem d_SM_portal_0 : decode b_SM_portal 0 = .ok (.aload_n 0, 1) := by decide +kernel
theorem d_SM_portal_1 : decode b_SM_portal 1 = .ok (.iload_n 1, 1) := by decide +kernel
theorem d_SM_portal_2 : decode b_SM_portal 2 = .ok (.invokevirtual 52, 3) := by decide +kernel
theorem d_SM_portal_5 : decode b_SM_portal 5 = .ok (.ifCond .eq 11, 3) := by decide +kernel
theorem d_SM_portal_8 : decode b_SM_portal 8 = .ok (.aload_n 0, 1) := by decide +kernel
theorem d_SM_portal_9 : decode b_SM_portal 9 = .ok (.iload_n 2, 1) := by decide +kernel
theorem d_SM_portal_10 : decode b_SM_portal 10 = .ok (.invokevirtual 63, 3) := by decide +kernel
theorem d_SM_portal_13 : decode b_SM_portal 13 = .ok (.ifCond .ne 5, 3) := by decide +kernel
theorem d_SM_portal_16 : decode b_SM_portal 16 = .ok (.iconst (-1), 1) := by decide +kernel
theorem d_SM_portal_17 : decode b_SM_portal 17 = .ok (.ireturn, 1) := by decide +kernel
theorem d_SM_portal_18 : decode b_SM_portal 18 = .ok (.aload_n 0, 1) := by decide +kernel
theorem d_SM_portal_19 : decode b_SM_portal 19 = .ok (.getfield 23, 3) := by decide +kernel
theorem d_SM_portal_22 : decode b_SM_portal 22 = .ok (.iload_n 1, 1) := by decide +kernel
theorem d_SM_portal_23 : decode b_SM_portal 23 = .ok (.aaload, 1) := by decide +kernel
theorem d_SM_portal_24 : decode b_SM_portal 24 = .ok (.iload_n 2, 1) := by decide +kernel
theorem d_SM_portal_25 : decode b_SM_portal 25 = .ok (.invokevirtual 70, 3) := by decide +kernel
theorem d_SM_portal_28 : decode b_SM_portal 28 = .ok (.ifCond .ne 6, 3) := by decide +kernel
theorem d_SM_portal_31 : decode b_SM_portal 31 = .ok (.bipush (-4), 2) := by decide +kernel
theorem d_SM_portal_33 : decode b_SM_portal 33 = .ok (.ireturn, 1) := by decide +kernel
theorem d_SM_portal_34 : decode b_SM_portal 34 = .ok (.aload_n 0, 1) := by decide +kernel
theorem d_SM_portal_35 : decode b_SM_portal 35 = .ok (.getfield 11, 3) := by decide +kernel
theorem d_SM_portal_38 : decode b_SM_portal 38 = .ok (.iload_n 2, 1) := by decide +kernel
theorem d_SM_portal_39 : decode b_SM_portal 39 = .ok (.aaload, 1) := by decide +kernel
theorem d_SM_portal_40 : decode b_SM_portal 40 = .ok (.getfield 146, 3) := by decide +kernel
theorem d_SM_portal_43 : decode b_SM_portal 43 = .ok (.invokestatic 149, 3) := by decide +kernel
theorem d_SM_portal_46 : decode b_SM_portal 46 = .ok (.ireturn, 1) := by decide +kernel
theorem d_SM_assign_0 : decode b_SM_assign 0 = .ok (.aload_n 0, 1) := by decide +kernel
theorem d_SM_assign_1 : decode b_SM_assign 1 = .ok (.iload_n 1, 1) := by decide +kernel
theorem d_SM_assign_2 : decode b_SM_assign 2 = .ok (.invokevirtual 52, 3) := by decide +kernel
theorem d_SM_assign_5 : decode b_SM_assign 5 = .ok (.ifCond .eq 20, 3) := by decide +kernel
theorem d_SM_assign_8 : decode b_SM_assign 8 = .ok (.iload_n 2, 1) := by decide +kernel
theorem d_SM_assign_9 : decode b_SM_assign 9 = .ok (.ifCond .lt 16, 3) := by decide +kernel
theorem d_SM_assign_12 : decode b_SM_assign 12 = .ok (.iload_n 2, 1) := by decide +kernel
theorem d_SM_assign_13 : decode b_SM_assign 13 = .ok (.iconst 4, 1) := by decide +kernel
theorem d_SM_assign_14 : decode b_SM_assign 14 = .ok (.if_icmp .ge 11, 3) := by decide +kernel
theorem d_SM_assign_17 : decode b_SM_assign 17 = .ok (.aload_n 0, 1) := by decide +kernel
theorem d_SM_assign_18 : decode b_SM_assign 18 = .ok (.iload_n 3, 1) := by decide +kernel
theorem d_SM_assign_19 : decode b_SM_assign 19 = .ok (.invokevirtual 128, 3) := by decide +kernel
theorem d_SM_assign_22 : decode b_SM_assign 22 = .ok (.ifCond .ne 5, 3) := by decide +kernel
theorem d_SM_assign_25 : decode b_SM_assign 25 = .ok (.iconst (-1), 1) := by decide +kernel
theorem d_SM_assign_26 : decode b_SM_assign 26 = .ok (.ireturn, 1) := by decide +kernel
theorem d_SM_assign_27 : decode b_SM_assign 27 = .ok (.aload_n 0, 1) := by decide +kernel
theorem d_SM_assign_28 : decode b_SM_assign 28 = .ok (.iload_n 1, 1) := by decide +kernel
theorem d_SM_assign_29 : decode b_SM_assign 29 = .ok (.iload_n 3, 1) := by decide +kernel
theorem d_SM_assign_30 : decode b_SM_assign 30 = .ok (.invokevirtual 134, 3) := by decide +kernel
theorem d_SM_assign_33 : decode b_SM_assign 33 = .ok (.ifCond .ne 6, 3) := by decide +kernel
theorem d_SM_assign_36 : decode b_SM_assign 36 = .ok (.bipush (-4), 2) := by decide +kernel
theorem d_SM_assign_38 : decode b_SM_assign 38 = .ok (.ireturn, 1) := by decide +kernel
theorem d_SM_assign_39 : decode b_SM_assign 39 = .ok (.iload_n 3, 1) := by decide +kernel
theorem d_SM_assign_40 : decode b_SM_assign 40 = .ok (.iconst (-1), 1) := by decide +kernel
theorem d_SM_assign_41 : decode b_SM_assign 41 = .ok (.if_icmp .eq 22, 3) := by decide +kernel
theorem d_SM_assign_44 : decode b_SM_assign 44 = .ok (.aload_n 0, 1) := by decide +kernel
theorem d_SM_assign_45 : decode b_SM_assign 45 = .ok (.aload_n 0, 1) := by decide +kernel
theorem d_SM_assign_46 : decode b_SM_assign 46 = .ok (.getfield 17, 3) := by decide +kernel
theorem d_SM_assign_49 : decode b_SM_assign 49 = .ok (.iload_n 3, 1) := by decide +kernel
theorem d_SM_assign_50 : decode b_SM_assign 50 = .ok (.aaload, 1) := by decide +kernel
theorem d_SM_assign_51 : decode b_SM_assign 51 = .ok (.getfield 137, 3) := by decide +kernel
theorem d_SM_assign_54 : decode b_SM_assign 54 = .ok (.invokevirtual 63, 3) := by decide +kernel
theorem d_SM_assign_57 : decode b_SM_assign 57 = .ok (.ifCond .eq 6, 3) := by decide +kernel
theorem d_SM_assign_60 : decode b_SM_assign 60 = .ok (.bipush (-5), 2) := by decide +kernel
theorem d_SM_assign_62 : decode b_SM_assign 62 = .ok (.ireturn, 1) := by decide +kernel
theorem d_SM_assign_63 : decode b_SM_assign 63 = .ok (.aload_n 0, 1) := by decide +kernel
theorem d_SM_assign_64 : decode b_SM_assign 64 = .ok (.getfield 27, 3) := by decide +kernel
theorem d_SM_assign_67 : decode b_SM_assign 67 = .ok (.iload_n 2, 1) := by decide +kernel
theorem d_SM_assign_68 : decode b_SM_assign 68 = .ok (.iload_n 3, 1) := by decide +kernel
theorem d_SM_assign_69 : decode b_SM_assign 69 = .ok (.iastore, 1) := by decide +kernel
theorem d_SM_assign_70 : decode b_SM_assign 70 = .ok (.iconst 0, 1) := by decide +kernel
theorem d_SM_assign_71 : decode b_SM_assign 71 = .ok (.ireturn, 1) := by decide +kernel
theorem d_SM_collect_0 : decode b_SM_collect 0 = .ok (.aload_n 0, 1) := by decide +kernel
theorem d_SM_collect_1 : decode b_SM_collect 1 = .ok (.invokevirtual 152, 3) := by decide +kernel
theorem d_SM_collect_4 : decode b_SM_collect 4 = .ok (.aload_n 0, 1) := by decide +kernel
theorem d_SM_collect_5 : decode b_SM_collect 5 = .ok (.getfield 121, 3) := by decide +kernel
theorem d_SM_collect_8 : decode b_SM_collect 8 = .ok (.istore_n 1, 1) := by decide +kernel
theorem d_SM_collect_9 : decode b_SM_collect 9 = .ok (.iconst 0, 1) := by decide +kernel
theorem d_SM_collect_10 : decode b_SM_collect 10 = .ok (.istore_n 2, 1) := by decide +kernel
theorem d_SM_collect_11 : decode b_SM_collect 11 = .ok (.iload_n 2, 1) := by decide +kernel
theorem d_SM_collect_12 : decode b_SM_collect 12 = .ok (.bipush 40, 2) := by decide +kernel
theorem d_SM_collect_14 : decode b_SM_collect 14 = .ok (.if_icmp .ge 38, 3) := by decide +kernel
theorem d_SM_collect_17 : decode b_SM_collect 17 = .ok (.aload_n 0, 1) := by decide +kernel
theorem d_SM_collect_18 : decode b_SM_collect 18 = .ok (.getfield 17, 3) := by decide +kernel
theorem d_SM_collect_21 : decode b_SM_collect 21 = .ok (.iload_n 2, 1) := by decide +kernel
theorem d_SM_collect_22 : decode b_SM_collect 22 = .ok (.aaload, 1) := by decide +kernel
theorem d_SM_collect_23 : decode b_SM_collect 23 = .ok (.getfield 137, 3) := by decide +kernel
theorem d_SM_collect_26 : decode b_SM_collect 26 = .ok (.ifCond .ne 20, 3) := by decide +kernel
theorem d_SM_collect_29 : decode b_SM_collect 29 = .ok (.aload_n 0, 1) := by decide +kernel
theorem d_SM_collect_30 : decode b_SM_collect 30 = .ok (.getfield 17, 3) := by decide +kernel
theorem d_SM_collect_33 : decode b_SM_collect 33 = .ok (.iload_n 2, 1) := by decide +kernel
theorem d_SM_collect_34 : decode b_SM_collect 34 = .ok (.aaload, 1) := by decide +kernel
theorem d_SM_collect_35 : decode b_SM_collect 35 = .ok (.getfield 155, 3) := by decide +kernel
theorem d_SM_collect_38 : decode b_SM_collect 38 = .ok (.ifCond .ne 8, 3) := by decide +kernel
theorem d_SM_collect_41 : decode b_SM_collect 41 = .ok (.aload_n 0, 1) := by decide +kernel
theorem d_SM_collect_42 : decode b_SM_collect 42 = .ok (.iload_n 2, 1) := by decide +kernel
theorem d_SM_collect_43 : decode b_SM_collect 43 = .ok (.invokevirtual 158, 3) := by decide +kernel
theorem d_SM_collect_46 : decode b_SM_collect 46 = .ok (.iinc 2 1, 3) := by decide +kernel
theorem d_SM_collect_49 : decode b_SM_collect 49 = .ok (.goto (-38), 3) := by decide +kernel
theorem d_SM_collect_52 : decode b_SM_collect 52 = .ok (.iload_n 1, 1) := by decide +kernel
theorem d_SM_collect_53 : decode b_SM_collect 53 = .ok (.aload_n 0, 1) := by decide +kernel
theorem d_SM_collect_54 : decode b_SM_collect 54 = .ok (.getfield 121, 3) := by decide +kernel
theorem d_SM_collect_57 : decode b_SM_collect 57 = .ok (.isub, 1) := by decide +kernel
theorem d_SM_collect_58 : decode b_SM_collect 58 = .ok (.ireturn, 1) := by decide +kernel
theorem d_SM_areaOf_0 : decode b_SM_areaOf 0 = .ok (.aload_n 0, 1) := by decide +kernel
theorem d_SM_areaOf_1 : decode b_SM_areaOf 1 = .ok (.iload_n 1, 1) := by decide +kernel
theorem d_SM_areaOf_2 : decode b_SM_areaOf 2 = .ok (.invokevirtual 161, 3) := by decide +kernel
theorem d_SM_areaOf_5 : decode b_SM_areaOf 5 = .ok (.ifCond .eq 15, 3) := by decide +kernel
theorem d_SM_areaOf_8 : decode b_SM_areaOf 8 = .ok (.aload_n 0, 1) := by decide +kernel
theorem d_SM_areaOf_9 : decode b_SM_areaOf 9 = .ok (.getfield 17, 3) := by decide +kernel
theorem d_SM_areaOf_12 : decode b_SM_areaOf 12 = .ok (.iload_n 1, 1) := by decide +kernel
theorem d_SM_areaOf_13 : decode b_SM_areaOf 13 = .ok (.aaload, 1) := by decide +kernel
theorem d_SM_areaOf_14 : decode b_SM_areaOf 14 = .ok (.getfield 137, 3) := by decide +kernel
theorem d_SM_areaOf_17 : decode b_SM_areaOf 17 = .ok (.goto 4, 3) := by decide +kernel
theorem d_SM_areaOf_20 : decode b_SM_areaOf 20 = .ok (.iconst (-1), 1) := by decide +kernel
theorem d_SM_areaOf_21 : decode b_SM_areaOf 21 = .ok (.ireturn, 1) := by decide +kernel
theorem d_SM_room_0 : decode b_SM_room 0 = .ok (.aload_n 0, 1) := by decide +kernel
theorem d_SM_room_1 : decode b_SM_room 1 = .ok (.iload_n 1, 1) := by decide +kernel
theorem d_SM_room_2 : decode b_SM_room 2 = .ok (.invokevirtual 86, 3) := by decide +kernel
theorem d_SM_room_5 : decode b_SM_room 5 = .ok (.ifCond .eq 15, 3) := by decide +kernel
theorem d_SM_room_8 : decode b_SM_room 8 = .ok (.aload_n 0, 1) := by decide +kernel
theorem d_SM_room_9 : decode b_SM_room 9 = .ok (.getfield 11, 3) := by decide +kernel
theorem d_SM_room_12 : decode b_SM_room 12 = .ok (.iload_n 1, 1) := by decide +kernel
theorem d_SM_room_13 : decode b_SM_room 13 = .ok (.aaload, 1) := by decide +kernel
theorem d_SM_room_14 : decode b_SM_room 14 = .ok (.invokevirtual 111, 3) := by decide +kernel
theorem d_SM_room_17 : decode b_SM_room 17 = .ok (.goto 4, 3) := by decide +kernel
theorem d_SM_room_20 : decode b_SM_room 20 = .ok (.iconst (-1), 1) := by decide +kernel
theorem d_SM_room_21 : decode b_SM_room 21 = .ok (.ireturn, 1) := by decide +kernel
theorem d_SM_parent_0 : decode b_SM_parent 0 = .ok (.aload_n 0, 1) := by decide +kernel
theorem d_SM_parent_1 : decode b_SM_parent 1 = .ok (.iload_n 1, 1) := by decide +kernel
theorem d_SM_parent_2 : decode b_SM_parent 2 = .ok (.invokevirtual 63, 3) := by decide +kernel
theorem d_SM_parent_5 : decode b_SM_parent 5 = .ok (.ifCond .ne 5, 3) := by decide +kernel
theorem d_SM_parent_8 : decode b_SM_parent 8 = .ok (.iconst (-1), 1) := by decide +kernel
theorem d_SM_parent_9 : decode b_SM_parent 9 = .ok (.ireturn, 1) := by decide +kernel
theorem d_SM_parent_10 : decode b_SM_parent 10 = .ok (.aload_n 0, 1) := by decide +kernel
theorem d_SM_parent_11 : decode b_SM_parent 11 = .ok (.getfield 11, 3) := by decide +kernel
theorem d_SM_parent_14 : decode b_SM_parent 14 = .ok (.iload_n 1, 1) := by decide +kernel
theorem d_SM_parent_15 : decode b_SM_parent 15 = .ok (.aaload, 1) := by decide +kernel
theorem d_SM_parent_16 : decode b_SM_parent 16 = .ok (.getfield 73, 3) := by decide +kernel
theorem d_SM_parent_19 : decode b_SM_parent 19 = .ok (.ifCond .le 15, 3) := by decide +kernel
theorem d_SM_parent_22 : decode b_SM_parent 22 = .ok (.aload_n 0, 1) := by decide +kernel
theorem d_SM_parent_23 : decode b_SM_parent 23 = .ok (.getfield 11, 3) := by decide +kernel
theorem d_SM_parent_26 : decode b_SM_parent 26 = .ok (.iload_n 1, 1) := by decide +kernel
theorem d_SM_parent_27 : decode b_SM_parent 27 = .ok (.aaload, 1) := by decide +kernel
theorem d_SM_parent_28 : decode b_SM_parent 28 = .ok (.getfield 76, 3) := by decide +kernel
theorem d_SM_parent_31 : decode b_SM_parent 31 = .ok (.goto 5, 3) := by decide +kernel
theorem d_SM_parent_34 : decode b_SM_parent 34 = .ok (.bipush (-6), 2) := by decide +kernel
theorem d_SM_parent_36 : decode b_SM_parent 36 = .ok (.ireturn, 1) := by decide +kernel
theorem d_SM_entries_0 : decode b_SM_entries 0 = .ok (.aload_n 0, 1) := by decide +kernel
theorem d_SM_entries_1 : decode b_SM_entries 1 = .ok (.iload_n 1, 1) := by decide +kernel
theorem d_SM_entries_2 : decode b_SM_entries 2 = .ok (.invokevirtual 63, 3) := by decide +kernel
theorem d_SM_entries_5 : decode b_SM_entries 5 = .ok (.ifCond .eq 15, 3) := by decide +kernel
theorem d_SM_entries_8 : decode b_SM_entries 8 = .ok (.aload_n 0, 1) := by decide +kernel
theorem d_SM_entries_9 : decode b_SM_entries 9 = .ok (.getfield 11, 3) := by decide +kernel
theorem d_SM_entries_12 : decode b_SM_entries 12 = .ok (.iload_n 1, 1) := by decide +kernel
theorem d_SM_entries_13 : decode b_SM_entries 13 = .ok (.aaload, 1) := by decide +kernel
theorem d_SM_entries_14 : decode b_SM_entries 14 = .ok (.getfield 73, 3) := by decide +kernel
theorem d_SM_entries_17 : decode b_SM_entries 17 = .ok (.goto 4, 3) := by decide +kernel
theorem d_SM_entries_20 : decode b_SM_entries 20 = .ok (.iconst (-1), 1) := by decide +kernel
theorem d_SM_entries_21 : decode b_SM_entries 21 = .ok (.ireturn, 1) := by decide +kernel
theorem d_SM_view_0 : decode b_SM_view 0 = .ok (.aload_n 0, 1) := by decide +kernel
theorem d_SM_view_1 : decode b_SM_view 1 = .ok (.iload_n 1, 1) := by decide +kernel
theorem d_SM_view_2 : decode b_SM_view 2 = .ok (.invokevirtual 52, 3) := by decide +kernel
theorem d_SM_view_5 : decode b_SM_view 5 = .ok (.ifCond .eq 7, 3) := by decide +kernel
theorem d_SM_view_8 : decode b_SM_view 8 = .ok (.iload_n 2, 1) := by decide +kernel
theorem d_SM_view_9 : decode b_SM_view 9 = .ok (.ifCond .ge 5, 3) := by decide +kernel
theorem d_SM_view_12 : decode b_SM_view 12 = .ok (.iconst (-1), 1) := by decide +kernel
theorem d_SM_view_13 : decode b_SM_view 13 = .ok (.ireturn, 1) := by decide +kernel
theorem d_SM_view_14 : decode b_SM_view 14 = .ok (.aload_n 0, 1) := by decide +kernel
theorem d_SM_view_15 : decode b_SM_view 15 = .ok (.getfield 23, 3) := by decide +kernel
theorem d_SM_view_18 : decode b_SM_view 18 = .ok (.iload_n 1, 1) := by decide +kernel
theorem d_SM_view_19 : decode b_SM_view 19 = .ok (.aaload, 1) := by decide +kernel
theorem d_SM_view_20 : decode b_SM_view 20 = .ok (.iload_n 2, 1) := by decide +kernel
theorem d_SM_view_21 : decode b_SM_view 21 = .ok (.invokevirtual 164, 3) := by decide +kernel
theorem d_SM_view_24 : decode b_SM_view 24 = .ok (.istore_n 3, 1) := by decide +kernel
theorem d_SM_view_25 : decode b_SM_view 25 = .ok (.iload_n 3, 1) := by decide +kernel
theorem d_SM_view_26 : decode b_SM_view 26 = .ok (.iconst (-1), 1) := by decide +kernel
theorem d_SM_view_27 : decode b_SM_view 27 = .ok (.if_icmp .ne 7, 3) := by decide +kernel
theorem d_SM_view_30 : decode b_SM_view 30 = .ok (.iconst (-1), 1) := by decide +kernel
theorem d_SM_view_31 : decode b_SM_view 31 = .ok (.goto 4, 3) := by decide +kernel
theorem d_SM_view_34 : decode b_SM_view 34 = .ok (.iload_n 3, 1) := by decide +kernel
theorem d_SM_view_35 : decode b_SM_view 35 = .ok (.ireturn, 1) := by decide +kernel
theorem d_SM_count_0 : decode b_SM_count 0 = .ok (.iload_n 1, 1) := by decide +kernel
theorem d_SM_count_1 : decode b_SM_count 1 = .ok (.tableswitch 83 0 7 #[47, 52, 57, 62, 71, 71, 71, 71], 47) := by decide +kernel
theorem d_SM_count_48 : decode b_SM_count 48 = .ok (.aload_n 0, 1) := by decide +kernel
theorem d_SM_count_49 : decode b_SM_count 49 = .ok (.getfield 121, 3) := by decide +kernel
theorem d_SM_count_52 : decode b_SM_count 52 = .ok (.ireturn, 1) := by decide +kernel
theorem d_SM_count_53 : decode b_SM_count 53 = .ok (.aload_n 0, 1) := by decide +kernel
theorem d_SM_count_54 : decode b_SM_count 54 = .ok (.getfield 45, 3) := by decide +kernel
theorem d_SM_count_57 : decode b_SM_count 57 = .ok (.ireturn, 1) := by decide +kernel
theorem d_SM_count_58 : decode b_SM_count 58 = .ok (.aload_n 0, 1) := by decide +kernel
theorem d_SM_count_59 : decode b_SM_count 59 = .ok (.invokevirtual 167, 3) := by decide +kernel
theorem d_SM_count_62 : decode b_SM_count 62 = .ok (.ireturn, 1) := by decide +kernel
theorem d_SM_count_63 : decode b_SM_count 63 = .ok (.aload_n 0, 1) := by decide +kernel
theorem d_SM_count_64 : decode b_SM_count 64 = .ok (.invokevirtual 152, 3) := by decide +kernel
theorem d_SM_count_67 : decode b_SM_count 67 = .ok (.aload_n 0, 1) := by decide +kernel
theorem d_SM_count_68 : decode b_SM_count 68 = .ok (.getfield 170, 3) := by decide +kernel
theorem d_SM_count_71 : decode b_SM_count 71 = .ok (.ireturn, 1) := by decide +kernel
theorem d_SM_count_72 : decode b_SM_count 72 = .ok (.aload_n 0, 1) := by decide +kernel
theorem d_SM_count_73 : decode b_SM_count 73 = .ok (.getfield 27, 3) := by decide +kernel
theorem d_SM_count_76 : decode b_SM_count 76 = .ok (.iload_n 1, 1) := by decide +kernel
theorem d_SM_count_77 : decode b_SM_count 77 = .ok (.iconst 4, 1) := by decide +kernel
theorem d_SM_count_78 : decode b_SM_count 78 = .ok (.isub, 1) := by decide +kernel
theorem d_SM_count_79 : decode b_SM_count 79 = .ok (.iaload, 1) := by decide +kernel
theorem d_SM_count_80 : decode b_SM_count 80 = .ok (.invokestatic 149, 3) := by decide +kernel
theorem d_SM_count_83 : decode b_SM_count 83 = .ok (.ireturn, 1) := by decide +kernel
theorem d_SM_count_84 : decode b_SM_count 84 = .ok (.iconst (-1), 1) := by decide +kernel
theorem d_SM_count_85 : decode b_SM_count 85 = .ok (.ireturn, 1) := by decide +kernel
theorem d_SM_clampBaseSize_0 : decode b_SM_clampBaseSize 0 = .ok (.iconst 4, 1) := by decide +kernel
theorem d_SM_clampBaseSize_1 : decode b_SM_clampBaseSize 1 = .ok (.bipush 60, 2) := by decide +kernel
theorem d_SM_clampBaseSize_3 : decode b_SM_clampBaseSize 3 = .ok (.iload_n 0, 1) := by decide +kernel
theorem d_SM_clampBaseSize_4 : decode b_SM_clampBaseSize 4 = .ok (.invokestatic 173, 3) := by decide +kernel
theorem d_SM_clampBaseSize_7 : decode b_SM_clampBaseSize 7 = .ok (.invokestatic 179, 3) := by decide +kernel
theorem d_SM_clampBaseSize_10 : decode b_SM_clampBaseSize 10 = .ok (.ireturn, 1) := by decide +kernel
theorem d_SM_isThread_0 : decode b_SM_isThread 0 = .ok (.iload_n 0, 1) := by decide +kernel
theorem d_SM_isThread_1 : decode b_SM_isThread 1 = .ok (.ifCond .lt 12, 3) := by decide +kernel
theorem d_SM_isThread_4 : decode b_SM_isThread 4 = .ok (.iload_n 0, 1) := by decide +kernel
theorem d_SM_isThread_5 : decode b_SM_isThread 5 = .ok (.iconst 4, 1) := by decide +kernel
theorem d_SM_isThread_6 : decode b_SM_isThread 6 = .ok (.if_icmp .ge 7, 3) := by decide +kernel
theorem d_SM_isThread_9 : decode b_SM_isThread 9 = .ok (.iconst 1, 1) := by decide +kernel
theorem d_SM_isThread_10 : decode b_SM_isThread 10 = .ok (.goto 4, 3) := by decide +kernel
theorem d_SM_isThread_13 : decode b_SM_isThread 13 = .ok (.iconst 0, 1) := by decide +kernel
theorem d_SM_isThread_14 : decode b_SM_isThread 14 = .ok (.ireturn, 1) := by decide +kernel
theorem d_SM_isBegun_0 : decode b_SM_isBegun 0 = .ok (.iload_n 1, 1) := by decide +kernel
theorem d_SM_isBegun_1 : decode b_SM_isBegun 1 = .ok (.invokestatic 48, 3) := by decide +kernel
theorem d_SM_isBegun_4 : decode b_SM_isBegun 4 = .ok (.ifCond .eq 19, 3) := by decide +kernel
theorem d_SM_isBegun_7 : decode b_SM_isBegun 7 = .ok (.aload_n 0, 1) := by decide +kernel
theorem d_SM_isBegun_8 : decode b_SM_isBegun 8 = .ok (.getfield 23, 3) := by decide +kernel
theorem d_SM_isBegun_11 : decode b_SM_isBegun 11 = .ok (.iload_n 1, 1) := by decide +kernel
theorem d_SM_isBegun_12 : decode b_SM_isBegun 12 = .ok (.aaload, 1) := by decide +kernel
theorem d_SM_isBegun_13 : decode b_SM_isBegun 13 = .ok (.getfield 92, 3) := by decide +kernel
theorem d_SM_isBegun_16 : decode b_SM_isBegun 16 = .ok (.ifCond .le 7, 3) := by decide +kernel
theorem d_SM_isBegun_19 : decode b_SM_isBegun 19 = .ok (.iconst 1, 1) := by decide +kernel
theorem d_SM_isBegun_20 : decode b_SM_isBegun 20 = .ok (.goto 4, 3) := by decide +kernel
theorem d_SM_isBegun_23 : decode b_SM_isBegun 23 = .ok (.iconst 0, 1) := by decide +kernel
theorem d_SM_isBegun_24 : decode b_SM_isBegun 24 = .ok (.ireturn, 1) := by decide +kernel
theorem d_SM_isArea_0 : decode b_SM_isArea 0 = .ok (.iload_n 1, 1) := by decide +kernel
theorem d_SM_isArea_1 : decode b_SM_isArea 1 = .ok (.ifCond .lt 15, 3) := by decide +kernel
theorem d_SM_isArea_4 : decode b_SM_isArea 4 = .ok (.iload_n 1, 1) := by decide +kernel
theorem d_SM_isArea_5 : decode b_SM_isArea 5 = .ok (.aload_n 0, 1) := by decide +kernel
theorem d_SM_isArea_6 : decode b_SM_isArea 6 = .ok (.getfield 45, 3) := by decide +kernel
theorem d_SM_isArea_9 : decode b_SM_isArea 9 = .ok (.if_icmp .ge 7, 3) := by decide +kernel
theorem d_SM_isArea_12 : decode b_SM_isArea 12 = .ok (.iconst 1, 1) := by decide +kernel
theorem d_SM_isArea_13 : decode b_SM_isArea 13 = .ok (.goto 4, 3) := by decide +kernel
theorem d_SM_isArea_16 : decode b_SM_isArea 16 = .ok (.iconst 0, 1) := by decide +kernel
theorem d_SM_isArea_17 : decode b_SM_isArea 17 = .ok (.ireturn, 1) := by decide +kernel
theorem d_SM_isScope_0 : decode b_SM_isScope 0 = .ok (.iload_n 1, 1) := by decide +kernel
theorem d_SM_isScope_1 : decode b_SM_isScope 1 = .ok (.iconst 2, 1) := by decide +kernel
theorem d_SM_isScope_2 : decode b_SM_isScope 2 = .ok (.if_icmp .lt 15, 3) := by decide +kernel
theorem d_SM_isScope_5 : decode b_SM_isScope 5 = .ok (.aload_n 0, 1) := by decide +kernel
theorem d_SM_isScope_6 : decode b_SM_isScope 6 = .ok (.iload_n 1, 1) := by decide +kernel
theorem d_SM_isScope_7 : decode b_SM_isScope 7 = .ok (.invokevirtual 86, 3) := by decide +kernel
theorem d_SM_isScope_10 : decode b_SM_isScope 10 = .ok (.ifCond .eq 7, 3) := by decide +kernel
theorem d_SM_isScope_13 : decode b_SM_isScope 13 = .ok (.iconst 1, 1) := by decide +kernel
theorem d_SM_isScope_14 : decode b_SM_isScope 14 = .ok (.goto 4, 3) := by decide +kernel
theorem d_SM_isScope_17 : decode b_SM_isScope 17 = .ok (.iconst 0, 1) := by decide +kernel
theorem d_SM_isScope_18 : decode b_SM_isScope 18 = .ok (.ireturn, 1) := by decide +kernel
theorem d_SM_isObject_0 : decode b_SM_isObject 0 = .ok (.iload_n 1, 1) := by decide +kernel
theorem d_SM_isObject_1 : decode b_SM_isObject 1 = .ok (.ifCond .lt 26, 3) := by decide +kernel
theorem d_SM_isObject_4 : decode b_SM_isObject 4 = .ok (.iload_n 1, 1) := by decide +kernel
theorem d_SM_isObject_5 : decode b_SM_isObject 5 = .ok (.bipush 40, 2) := by decide +kernel
theorem d_SM_isObject_7 : decode b_SM_isObject 7 = .ok (.if_icmp .ge 20, 3) := by decide +kernel
theorem d_SM_isObject_10 : decode b_SM_isObject 10 = .ok (.aload_n 0, 1) := by decide +kernel
theorem d_SM_isObject_11 : decode b_SM_isObject 11 = .ok (.getfield 17, 3) := by decide +kernel
theorem d_SM_isObject_14 : decode b_SM_isObject 14 = .ok (.iload_n 1, 1) := by decide +kernel
theorem d_SM_isObject_15 : decode b_SM_isObject 15 = .ok (.aaload, 1) := by decide +kernel
theorem d_SM_isObject_16 : decode b_SM_isObject 16 = .ok (.getfield 137, 3) := by decide +kernel
theorem d_SM_isObject_19 : decode b_SM_isObject 19 = .ok (.iconst (-1), 1) := by decide +kernel
theorem d_SM_isObject_20 : decode b_SM_isObject 20 = .ok (.if_icmp .eq 7, 3) := by decide +kernel
theorem d_SM_isObject_23 : decode b_SM_isObject 23 = .ok (.iconst 1, 1) := by decide +kernel
theorem d_SM_isObject_24 : decode b_SM_isObject 24 = .ok (.goto 4, 3) := by decide +kernel
theorem d_SM_isObject_27 : decode b_SM_isObject 27 = .ok (.iconst 0, 1) := by decide +kernel
theorem d_SM_isObject_28 : decode b_SM_isObject 28 = .ok (.ireturn, 1) := by decide +kernel
theorem d_SM_isObjectOrNull_0 : decode b_SM_isObjectOrNull 0 = .ok (.iload_n 1, 1) := by decide +kernel
theorem d_SM_isObjectOrNull_1 : decode b_SM_isObjectOrNull 1 = .ok (.iconst (-1), 1) := by decide +kernel
theorem d_SM_isObjectOrNull_2 : decode b_SM_isObjectOrNull 2 = .ok (.if_icmp .eq 11, 3) := by decide +kernel
theorem d_SM_isObjectOrNull_5 : decode b_SM_isObjectOrNull 5 = .ok (.aload_n 0, 1) := by decide +kernel
theorem d_SM_isObjectOrNull_6 : decode b_SM_isObjectOrNull 6 = .ok (.iload_n 1, 1) := by decide +kernel
theorem d_SM_isObjectOrNull_7 : decode b_SM_isObjectOrNull 7 = .ok (.invokevirtual 161, 3) := by decide +kernel
theorem d_SM_isObjectOrNull_10 : decode b_SM_isObjectOrNull 10 = .ok (.ifCond .eq 7, 3) := by decide +kernel
theorem d_SM_isObjectOrNull_13 : decode b_SM_isObjectOrNull 13 = .ok (.iconst 1, 1) := by decide +kernel
theorem d_SM_isObjectOrNull_14 : decode b_SM_isObjectOrNull 14 = .ok (.goto 4, 3) := by decide +kernel
theorem d_SM_isObjectOrNull_17 : decode b_SM_isObjectOrNull 17 = .ok (.iconst 0, 1) := by decide +kernel
theorem d_SM_isObjectOrNull_18 : decode b_SM_isObjectOrNull 18 = .ok (.ireturn, 1) := by decide +kernel
theorem d_SM_hasField_0 : decode b_SM_hasField 0 = .ok (.aload_n 0, 1) := by decide +kernel
theorem d_SM_hasField_1 : decode b_SM_hasField 1 = .ok (.iload_n 1, 1) := by decide +kernel
theorem d_SM_hasField_2 : decode b_SM_hasField 2 = .ok (.invokevirtual 161, 3) := by decide +kernel
theorem d_SM_hasField_5 : decode b_SM_hasField 5 = .ok (.ifCond .eq 24, 3) := by decide +kernel
theorem d_SM_hasField_8 : decode b_SM_hasField 8 = .ok (.iload_n 2, 1) := by decide +kernel
theorem d_SM_hasField_9 : decode b_SM_hasField 9 = .ok (.ifCond .lt 20, 3) := by decide +kernel
theorem d_SM_hasField_12 : decode b_SM_hasField 12 = .ok (.iload_n 2, 1) := by decide +kernel
theorem d_SM_hasField_13 : decode b_SM_hasField 13 = .ok (.aload_n 0, 1) := by decide +kernel
theorem d_SM_hasField_14 : decode b_SM_hasField 14 = .ok (.getfield 17, 3) := by decide +kernel
theorem d_SM_hasField_17 : decode b_SM_hasField 17 = .ok (.iload_n 1, 1) := by decide +kernel
theorem d_SM_hasField_18 : decode b_SM_hasField 18 = .ok (.aaload, 1) := by decide +kernel
theorem d_SM_hasField_19 : decode b_SM_hasField 19 = .ok (.getfield 182, 3) := by decide +kernel
theorem d_SM_hasField_22 : decode b_SM_hasField 22 = .ok (.if_icmp .ge 7, 3) := by decide +kernel
theorem d_SM_hasField_25 : decode b_SM_hasField 25 = .ok (.iconst 1, 1) := by decide +kernel
theorem d_SM_hasField_26 : decode b_SM_hasField 26 = .ok (.goto 4, 3) := by decide +kernel
theorem d_SM_hasField_29 : decode b_SM_hasField 29 = .ok (.iconst 0, 1) := by decide +kernel
theorem d_SM_hasField_30 : decode b_SM_hasField 30 = .ok (.ireturn, 1) := by decide +kernel
theorem d_SM_objectOrNull_0 : decode b_SM_objectOrNull 0 = .ok (.iload_n 0, 1) := by decide +kernel
theorem d_SM_objectOrNull_1 : decode b_SM_objectOrNull 1 = .ok (.iconst (-1), 1) := by decide +kernel
theorem d_SM_objectOrNull_2 : decode b_SM_objectOrNull 2 = .ok (.if_icmp .ne 8, 3) := by decide +kernel
theorem d_SM_objectOrNull_5 : decode b_SM_objectOrNull 5 = .ok (.bipush (-6), 2) := by decide +kernel
theorem d_SM_objectOrNull_7 : decode b_SM_objectOrNull 7 = .ok (.goto 4, 3) := by decide +kernel
theorem d_SM_objectOrNull_10 : decode b_SM_objectOrNull 10 = .ok (.iload_n 0, 1) := by decide +kernel
theorem d_SM_objectOrNull_11 : decode b_SM_objectOrNull 11 = .ok (.ireturn, 1) := by decide +kernel
theorem d_SM_sees_0 : decode b_SM_sees 0 = .ok (.aload_n 0, 1) := by decide +kernel
theorem d_SM_sees_1 : decode b_SM_sees 1 = .ok (.getfield 17, 3) := by decide +kernel
theorem d_SM_sees_4 : decode b_SM_sees 4 = .ok (.iload_n 2, 1) := by decide +kernel
theorem d_SM_sees_5 : decode b_SM_sees 5 = .ok (.aaload, 1) := by decide +kernel
theorem d_SM_sees_6 : decode b_SM_sees 6 = .ok (.getfield 137, 3) := by decide +kernel
theorem d_SM_sees_9 : decode b_SM_sees 9 = .ok (.istore_n 3, 1) := by decide +kernel
theorem d_SM_sees_10 : decode b_SM_sees 10 = .ok (.iload_n 3, 1) := by decide +kernel
theorem d_SM_sees_11 : decode b_SM_sees 11 = .ok (.ifCond .ne 21, 3) := by decide +kernel
theorem d_SM_sees_14 : decode b_SM_sees 14 = .ok (.aload_n 0, 1) := by decide +kernel
theorem d_SM_sees_15 : decode b_SM_sees 15 = .ok (.getfield 23, 3) := by decide +kernel
theorem d_SM_sees_18 : decode b_SM_sees 18 = .ok (.iload_n 1, 1) := by decide +kernel
theorem d_SM_sees_19 : decode b_SM_sees 19 = .ok (.aaload, 1) := by decide +kernel
theorem d_SM_sees_20 : decode b_SM_sees 20 = .ok (.getfield 55, 3) := by decide +kernel
theorem d_SM_sees_23 : decode b_SM_sees 23 = .ok (.ifCond .ne 7, 3) := by decide +kernel
theorem d_SM_sees_26 : decode b_SM_sees 26 = .ok (.iconst 1, 1) := by decide +kernel
theorem d_SM_sees_27 : decode b_SM_sees 27 = .ok (.goto 4, 3) := by decide +kernel
theorem d_SM_sees_30 : decode b_SM_sees 30 = .ok (.iconst 0, 1) := by decide +kernel
theorem d_SM_sees_31 : decode b_SM_sees 31 = .ok (.ireturn, 1) := by decide +kernel
theorem d_SM_sees_32 : decode b_SM_sees 32 = .ok (.iload_n 3, 1) := by decide +kernel
theorem d_SM_sees_33 : decode b_SM_sees 33 = .ok (.iconst 1, 1) := by decide +kernel
theorem d_SM_sees_34 : decode b_SM_sees 34 = .ok (.if_icmp .eq 16, 3) := by decide +kernel
theorem d_SM_sees_37 : decode b_SM_sees 37 = .ok (.aload_n 0, 1) := by decide +kernel
theorem d_SM_sees_38 : decode b_SM_sees 38 = .ok (.getfield 23, 3) := by decide +kernel
theorem d_SM_sees_41 : decode b_SM_sees 41 = .ok (.iload_n 1, 1) := by decide +kernel
theorem d_SM_sees_42 : decode b_SM_sees 42 = .ok (.aaload, 1) := by decide +kernel
theorem d_SM_sees_43 : decode b_SM_sees 43 = .ok (.iload_n 3, 1) := by decide +kernel
theorem d_SM_sees_44 : decode b_SM_sees 44 = .ok (.invokevirtual 70, 3) := by decide +kernel
theorem d_SM_sees_47 : decode b_SM_sees 47 = .ok (.ifCond .eq 7, 3) := by decide +kernel
theorem d_SM_sees_50 : decode b_SM_sees 50 = .ok (.iconst 1, 1) := by decide +kernel
theorem d_SM_sees_51 : decode b_SM_sees 51 = .ok (.goto 4, 3) := by decide +kernel
theorem d_SM_sees_54 : decode b_SM_sees 54 = .ok (.iconst 0, 1) := by decide +kernel
theorem d_SM_sees_55 : decode b_SM_sees 55 = .ok (.ireturn, 1) := by decide +kernel
theorem d_SM_seesOrNull_0 : decode b_SM_seesOrNull 0 = .ok (.iload_n 2, 1) := by decide +kernel
theorem d_SM_seesOrNull_1 : decode b_SM_seesOrNull 1 = .ok (.iconst (-1), 1) := by decide +kernel
theorem d_SM_seesOrNull_2 : decode b_SM_seesOrNull 2 = .ok (.if_icmp .eq 12, 3) := by decide +kernel
theorem d_SM_seesOrNull_5 : decode b_SM_seesOrNull 5 = .ok (.aload_n 0, 1) := by decide +kernel
theorem d_SM_seesOrNull_6 : decode b_SM_seesOrNull 6 = .ok (.iload_n 1, 1) := by decide +kernel
theorem d_SM_seesOrNull_7 : decode b_SM_seesOrNull 7 = .ok (.iload_n 2, 1) := by decide +kernel
theorem d_SM_seesOrNull_8 : decode b_SM_seesOrNull 8 = .ok (.invokevirtual 131, 3) := by decide +kernel
theorem d_SM_seesOrNull_11 : decode b_SM_seesOrNull 11 = .ok (.ifCond .eq 7, 3) := by decide +kernel
theorem d_SM_seesOrNull_14 : decode b_SM_seesOrNull 14 = .ok (.iconst 1, 1) := by decide +kernel
theorem d_SM_seesOrNull_15 : decode b_SM_seesOrNull 15 = .ok (.goto 4, 3) := by decide +kernel
theorem d_SM_seesOrNull_18 : decode b_SM_seesOrNull 18 = .ok (.iconst 0, 1) := by decide +kernel
theorem d_SM_seesOrNull_19 : decode b_SM_seesOrNull 19 = .ok (.ireturn, 1) := by decide +kernel
theorem d_SM_mayPointTo_0 : decode b_SM_mayPointTo 0 = .ok (.aload_n 0, 1) := by decide +kernel
theorem d_SM_mayPointTo_1 : decode b_SM_mayPointTo 1 = .ok (.getfield 17, 3) := by decide +kernel
theorem d_SM_mayPointTo_4 : decode b_SM_mayPointTo 4 = .ok (.iload_n 2, 1) := by decide +kernel
theorem d_SM_mayPointTo_5 : decode b_SM_mayPointTo 5 = .ok (.aaload, 1) := by decide +kernel
theorem d_SM_mayPointTo_6 : decode b_SM_mayPointTo 6 = .ok (.getfield 137, 3) := by decide +kernel
theorem d_SM_mayPointTo_9 : decode b_SM_mayPointTo 9 = .ok (.istore_n 3, 1) := by decide +kernel
theorem d_SM_mayPointTo_10 : decode b_SM_mayPointTo 10 = .ok (.iload_n 3, 1) := by decide +kernel
theorem d_SM_mayPointTo_11 : decode b_SM_mayPointTo 11 = .ok (.ifCond .eq 17, 3) := by decide +kernel
theorem d_SM_mayPointTo_14 : decode b_SM_mayPointTo 14 = .ok (.iload_n 3, 1) := by decide +kernel
theorem d_SM_mayPointTo_15 : decode b_SM_mayPointTo 15 = .ok (.iconst 1, 1) := by decide +kernel
theorem d_SM_mayPointTo_16 : decode b_SM_mayPointTo 16 = .ok (.if_icmp .eq 12, 3) := by decide +kernel
theorem d_SM_mayPointTo_19 : decode b_SM_mayPointTo 19 = .ok (.aload_n 0, 1) := by decide +kernel
theorem d_SM_mayPointTo_20 : decode b_SM_mayPointTo 20 = .ok (.iload_n 1, 1) := by decide +kernel
theorem d_SM_mayPointTo_21 : decode b_SM_mayPointTo 21 = .ok (.iload_n 3, 1) := by decide +kernel
theorem d_SM_mayPointTo_22 : decode b_SM_mayPointTo 22 = .ok (.invokevirtual 185, 3) := by decide +kernel
theorem d_SM_mayPointTo_25 : decode b_SM_mayPointTo 25 = .ok (.ifCond .eq 7, 3) := by decide +kernel
theorem d_SM_mayPointTo_28 : decode b_SM_mayPointTo 28 = .ok (.iconst 1, 1) := by decide +kernel
theorem d_SM_mayPointTo_29 : decode b_SM_mayPointTo 29 = .ok (.goto 4, 3) := by decide +kernel
theorem d_SM_mayPointTo_32 : decode b_SM_mayPointTo 32 = .ok (.iconst 0, 1) := by decide +kernel
theorem d_SM_mayPointTo_33 : decode b_SM_mayPointTo 33 = .ok (.ireturn, 1) := by decide +kernel
theorem d_SM_liesIn_0 : decode b_SM_liesIn 0 = .ok (.iload_n 1, 1) := by decide +kernel
theorem d_SM_liesIn_1 : decode b_SM_liesIn 1 = .ok (.istore_n 3, 1) := by decide +kernel
theorem d_SM_liesIn_2 : decode b_SM_liesIn 2 = .ok (.iconst 0, 1) := by decide +kernel
theorem d_SM_liesIn_3 : decode b_SM_liesIn 3 = .ok (.istore 4, 2) := by decide +kernel
theorem d_SM_liesIn_5 : decode b_SM_liesIn 5 = .ok (.iload 4, 2) := by decide +kernel
theorem d_SM_liesIn_7 : decode b_SM_liesIn 7 = .ok (.bipush 10, 2) := by decide +kernel
theorem d_SM_liesIn_9 : decode b_SM_liesIn 9 = .ok (.if_icmp .ge 31, 3) := by decide +kernel
theorem d_SM_liesIn_12 : decode b_SM_liesIn 12 = .ok (.iload_n 3, 1) := by decide +kernel
theorem d_SM_liesIn_13 : decode b_SM_liesIn 13 = .ok (.iconst 2, 1) := by decide +kernel
theorem d_SM_liesIn_14 : decode b_SM_liesIn 14 = .ok (.if_icmp .lt 26, 3) := by decide +kernel
theorem d_SM_liesIn_17 : decode b_SM_liesIn 17 = .ok (.iload_n 3, 1) := by decide +kernel
theorem d_SM_liesIn_18 : decode b_SM_liesIn 18 = .ok (.iload_n 2, 1) := by decide +kernel
theorem d_SM_liesIn_19 : decode b_SM_liesIn 19 = .ok (.if_icmp .ne 5, 3) := by decide +kernel
theorem d_SM_liesIn_22 : decode b_SM_liesIn 22 = .ok (.iconst 1, 1) := by decide +kernel
theorem d_SM_liesIn_23 : decode b_SM_liesIn 23 = .ok (.ireturn, 1) := by decide +kernel
theorem d_SM_liesIn_24 : decode b_SM_liesIn 24 = .ok (.aload_n 0, 1) := by decide +kernel
theorem d_SM_liesIn_25 : decode b_SM_liesIn 25 = .ok (.getfield 11, 3) := by decide +kernel
theorem d_SM_liesIn_28 : decode b_SM_liesIn 28 = .ok (.iload_n 3, 1) := by decide +kernel
theorem d_SM_liesIn_29 : decode b_SM_liesIn 29 = .ok (.aaload, 1) := by decide +kernel
theorem d_SM_liesIn_30 : decode b_SM_liesIn 30 = .ok (.getfield 76, 3) := by decide +kernel
theorem d_SM_liesIn_33 : decode b_SM_liesIn 33 = .ok (.istore_n 3, 1) := by decide +kernel
theorem d_SM_liesIn_34 : decode b_SM_liesIn 34 = .ok (.iinc 4 1, 3) := by decide +kernel
theorem d_SM_liesIn_37 : decode b_SM_liesIn 37 = .ok (.goto (-32), 3) := by decide +kernel
theorem d_SM_liesIn_40 : decode b_SM_liesIn 40 = .ok (.iconst 0, 1) := by decide +kernel
theorem d_SM_liesIn_41 : decode b_SM_liesIn 41 = .ok (.ireturn, 1) := by decide +kernel
theorem d_SM_begunThreads_0 : decode b_SM_begunThreads 0 = .ok (.iconst 0, 1) := by decide +kernel
theorem d_SM_begunThreads_1 : decode b_SM_begunThreads 1 = .ok (.istore_n 1, 1) := by decide +kernel
theorem d_SM_begunThreads_2 : decode b_SM_begunThreads 2 = .ok (.iconst 0, 1) := by decide +kernel
theorem d_SM_begunThreads_3 : decode b_SM_begunThreads 3 = .ok (.istore_n 2, 1) := by decide +kernel
theorem d_SM_begunThreads_4 : decode b_SM_begunThreads 4 = .ok (.iload_n 2, 1) := by decide +kernel
theorem d_SM_begunThreads_5 : decode b_SM_begunThreads 5 = .ok (.iconst 4, 1) := by decide +kernel
theorem d_SM_begunThreads_6 : decode b_SM_begunThreads 6 = .ok (.if_icmp .ge 20, 3) := by decide +kernel
theorem d_SM_begunThreads_9 : decode b_SM_begunThreads 9 = .ok (.aload_n 0, 1) := by decide +kernel
theorem d_SM_begunThreads_10 : decode b_SM_begunThreads 10 = .ok (.iload_n 2, 1) := by decide +kernel
theorem d_SM_begunThreads_11 : decode b_SM_begunThreads 11 = .ok (.invokevirtual 52, 3) := by decide +kernel
theorem d_SM_begunThreads_14 : decode b_SM_begunThreads 14 = .ok (.ifCond .eq 6, 3) := by decide +kernel
theorem d_SM_begunThreads_17 : decode b_SM_begunThreads 17 = .ok (.iinc 1 1, 3) := by decide +kernel
theorem d_SM_begunThreads_20 : decode b_SM_begunThreads 20 = .ok (.iinc 2 1, 3) := by decide +kernel
theorem d_SM_begunThreads_23 : decode b_SM_begunThreads 23 = .ok (.goto (-19), 3) := by decide +kernel
theorem d_SM_begunThreads_26 : decode b_SM_begunThreads 26 = .ok (.iload_n 1, 1) := by decide +kernel
theorem d_SM_begunThreads_27 : decode b_SM_begunThreads 27 = .ok (.ireturn, 1) := by decide +kernel
theorem d_SM_leastFreeNumber_0 : decode b_SM_leastFreeNumber 0 = .ok (.iconst 0, 1) := by decide +kernel
theorem d_SM_leastFreeNumber_1 : decode b_SM_leastFreeNumber 1 = .ok (.istore_n 1, 1) := by decide +kernel
theorem d_SM_leastFreeNumber_2 : decode b_SM_leastFreeNumber 2 = .ok (.iload_n 1, 1) := by decide +kernel
theorem d_SM_leastFreeNumber_3 : decode b_SM_leastFreeNumber 3 = .ok (.bipush 40, 2) := by decide +kernel
theorem d_SM_leastFreeNumber_5 : decode b_SM_leastFreeNumber 5 = .ok (.if_icmp .ge 24, 3) := by decide +kernel
theorem d_SM_leastFreeNumber_8 : decode b_SM_leastFreeNumber 8 = .ok (.aload_n 0, 1) := by decide +kernel
theorem d_SM_leastFreeNumber_9 : decode b_SM_leastFreeNumber 9 = .ok (.getfield 17, 3) := by decide +kernel
theorem d_SM_leastFreeNumber_12 : decode b_SM_leastFreeNumber 12 = .ok (.iload_n 1, 1) := by decide +kernel
theorem d_SM_leastFreeNumber_13 : decode b_SM_leastFreeNumber 13 = .ok (.aaload, 1) := by decide +kernel
theorem d_SM_leastFreeNumber_14 : decode b_SM_leastFreeNumber 14 = .ok (.getfield 137, 3) := by decide +kernel
theorem d_SM_leastFreeNumber_17 : decode b_SM_leastFreeNumber 17 = .ok (.iconst (-1), 1) := by decide +kernel
theorem d_SM_leastFreeNumber_18 : decode b_SM_leastFreeNumber 18 = .ok (.if_icmp .ne 5, 3) := by decide +kernel
theorem d_SM_leastFreeNumber_21 : decode b_SM_leastFreeNumber 21 = .ok (.iload_n 1, 1) := by decide +kernel
theorem d_SM_leastFreeNumber_22 : decode b_SM_leastFreeNumber 22 = .ok (.ireturn, 1) := by decide +kernel
theorem d_SM_leastFreeNumber_23 : decode b_SM_leastFreeNumber 23 = .ok (.iinc 1 1, 3) := by decide +kernel
theorem d_SM_leastFreeNumber_26 : decode b_SM_leastFreeNumber 26 = .ok (.goto (-24), 3) := by decide +kernel
theorem d_SM_leastFreeNumber_29 : decode b_SM_leastFreeNumber 29 = .ok (.iconst (-1), 1) := by decide +kernel
theorem d_SM_leastFreeNumber_30 : decode b_SM_leastFreeNumber 30 = .ok (.ireturn, 1) := by decide +kernel
theorem d_SM_drop_0 : decode b_SM_drop 0 = .ok (.aload_n 0, 1) := by decide +kernel
theorem d_SM_drop_1 : decode b_SM_drop 1 = .ok (.getfield 17, 3) := by decide +kernel
theorem d_SM_drop_4 : decode b_SM_drop 4 = .ok (.iload_n 1, 1) := by decide +kernel
theorem d_SM_drop_5 : decode b_SM_drop 5 = .ok (.aaload, 1) := by decide +kernel
theorem d_SM_drop_6 : decode b_SM_drop 6 = .ok (.astore_n 2, 1) := by decide +kernel
theorem d_SM_drop_7 : decode b_SM_drop 7 = .ok (.aload_n 0, 1) := by decide +kernel
theorem d_SM_drop_8 : decode b_SM_drop 8 = .ok (.getfield 11, 3) := by decide +kernel
theorem d_SM_drop_11 : decode b_SM_drop 11 = .ok (.aload_n 2, 1) := by decide +kernel
theorem d_SM_drop_12 : decode b_SM_drop 12 = .ok (.getfield 137, 3) := by decide +kernel
theorem d_SM_drop_15 : decode b_SM_drop 15 = .ok (.aaload, 1) := by decide +kernel
theorem d_SM_drop_16 : decode b_SM_drop 16 = .ok (.dup, 1) := by decide +kernel
theorem d_SM_drop_17 : decode b_SM_drop 17 = .ok (.getfield 118, 3) := by decide +kernel
theorem d_SM_drop_20 : decode b_SM_drop 20 = .ok (.iconst 1, 1) := by decide +kernel
theorem d_SM_drop_21 : decode b_SM_drop 21 = .ok (.aload_n 2, 1) := by decide +kernel
theorem d_SM_drop_22 : decode b_SM_drop 22 = .ok (.getfield 182, 3) := by decide +kernel
theorem d_SM_drop_25 : decode b_SM_drop 25 = .ok (.iadd, 1) := by decide +kernel
theorem d_SM_drop_26 : decode b_SM_drop 26 = .ok (.isub, 1) := by decide +kernel
theorem d_SM_drop_27 : decode b_SM_drop 27 = .ok (.putfield 118, 3) := by decide +kernel
theorem d_SM_drop_30 : decode b_SM_drop 30 = .ok (.aload_n 2, 1) := by decide +kernel
theorem d_SM_drop_31 : decode b_SM_drop 31 = .ok (.iconst (-1), 1) := by decide +kernel
theorem d_SM_drop_32 : decode b_SM_drop 32 = .ok (.putfield 137, 3) := by decide +kernel
theorem d_SM_drop_35 : decode b_SM_drop 35 = .ok (.aload_n 0, 1) := by decide +kernel
theorem d_SM_drop_36 : decode b_SM_drop 36 = .ok (.dup, 1) := by decide +kernel
theorem d_SM_drop_37 : decode b_SM_drop 37 = .ok (.getfield 121, 3) := by decide +kernel
theorem d_SM_drop_40 : decode b_SM_drop 40 = .ok (.iconst 1, 1) := by decide +kernel
theorem d_SM_drop_41 : decode b_SM_drop 41 = .ok (.isub, 1) := by decide +kernel
theorem d_SM_drop_42 : decode b_SM_drop 42 = .ok (.putfield 121, 3) := by decide +kernel
theorem d_SM_drop_45 : decode b_SM_drop 45 = .ok (.return_, 1) := by decide +kernel
theorem d_SM_dropEntry_0 : decode b_SM_dropEntry 0 = .ok (.aload_n 0, 1) := by decide +kernel
theorem d_SM_dropEntry_1 : decode b_SM_dropEntry 1 = .ok (.getfield 11, 3) := by decide +kernel
theorem d_SM_dropEntry_4 : decode b_SM_dropEntry 4 = .ok (.iload_n 1, 1) := by decide +kernel
theorem d_SM_dropEntry_5 : decode b_SM_dropEntry 5 = .ok (.aaload, 1) := by decide +kernel
theorem d_SM_dropEntry_6 : decode b_SM_dropEntry 6 = .ok (.dup, 1) := by decide +kernel
theorem d_SM_dropEntry_7 : decode b_SM_dropEntry 7 = .ok (.getfield 73, 3) := by decide +kernel
theorem d_SM_dropEntry_10 : decode b_SM_dropEntry 10 = .ok (.iconst 1, 1) := by decide +kernel
theorem d_SM_dropEntry_11 : decode b_SM_dropEntry 11 = .ok (.isub, 1) := by decide +kernel
theorem d_SM_dropEntry_12 : decode b_SM_dropEntry 12 = .ok (.putfield 73, 3) := by decide +kernel
theorem d_SM_dropEntry_15 : decode b_SM_dropEntry 15 = .ok (.aload_n 0, 1) := by decide +kernel
theorem d_SM_dropEntry_16 : decode b_SM_dropEntry 16 = .ok (.getfield 11, 3) := by decide +kernel
theorem d_SM_dropEntry_19 : decode b_SM_dropEntry 19 = .ok (.iload_n 1, 1) := by decide +kernel
theorem d_SM_dropEntry_20 : decode b_SM_dropEntry 20 = .ok (.aaload, 1) := by decide +kernel
theorem d_SM_dropEntry_21 : decode b_SM_dropEntry 21 = .ok (.getfield 73, 3) := by decide +kernel
theorem d_SM_dropEntry_24 : decode b_SM_dropEntry 24 = .ok (.ifCond .ne 8, 3) := by decide +kernel
theorem d_SM_dropEntry_27 : decode b_SM_dropEntry 27 = .ok (.aload_n 0, 1) := by decide +kernel
theorem d_SM_dropEntry_28 : decode b_SM_dropEntry 28 = .ok (.iload_n 1, 1) := by decide +kernel
theorem d_SM_dropEntry_29 : decode b_SM_dropEntry 29 = .ok (.invokevirtual 188, 3) := by decide +kernel
theorem d_SM_dropEntry_32 : decode b_SM_dropEntry 32 = .ok (.return_, 1) := by decide +kernel
theorem d_SM_emptyScope_0 : decode b_SM_emptyScope 0 = .ok (.iconst 0, 1) := by decide +kernel
theorem d_SM_emptyScope_1 : decode b_SM_emptyScope 1 = .ok (.istore_n 2, 1) := by decide +kernel
theorem d_SM_emptyScope_2 : decode b_SM_emptyScope 2 = .ok (.iload_n 2, 1) := by decide +kernel
theorem d_SM_emptyScope_3 : decode b_SM_emptyScope 3 = .ok (.bipush 40, 2) := by decide +kernel
theorem d_SM_emptyScope_5 : decode b_SM_emptyScope 5 = .ok (.if_icmp .ge 27, 3) := by decide +kernel
theorem d_SM_emptyScope_8 : decode b_SM_emptyScope 8 = .ok (.aload_n 0, 1) := by decide +kernel
theorem d_SM_emptyScope_9 : decode b_SM_emptyScope 9 = .ok (.getfield 17, 3) := by decide +kernel
theorem d_SM_emptyScope_12 : decode b_SM_emptyScope 12 = .ok (.iload_n 2, 1) := by decide +kernel
theorem d_SM_emptyScope_13 : decode b_SM_emptyScope 13 = .ok (.aaload, 1) := by decide +kernel
theorem d_SM_emptyScope_14 : decode b_SM_emptyScope 14 = .ok (.getfield 137, 3) := by decide +kernel
theorem d_SM_emptyScope_17 : decode b_SM_emptyScope 17 = .ok (.iload_n 1, 1) := by decide +kernel
theorem d_SM_emptyScope_18 : decode b_SM_emptyScope 18 = .ok (.if_icmp .ne 8, 3) := by decide +kernel
theorem d_SM_emptyScope_21 : decode b_SM_emptyScope 21 = .ok (.aload_n 0, 1) := by decide +kernel
theorem d_SM_emptyScope_22 : decode b_SM_emptyScope 22 = .ok (.iload_n 2, 1) := by decide +kernel
theorem d_SM_emptyScope_23 : decode b_SM_emptyScope 23 = .ok (.invokevirtual 158, 3) := by decide +kernel
theorem d_SM_emptyScope_26 : decode b_SM_emptyScope 26 = .ok (.iinc 2 1, 3) := by decide +kernel
theorem d_SM_emptyScope_29 : decode b_SM_emptyScope 29 = .ok (.goto (-27), 3) := by decide +kernel
theorem d_SM_emptyScope_32 : decode b_SM_emptyScope 32 = .ok (.aload_n 0, 1) := by decide +kernel
theorem d_SM_emptyScope_33 : decode b_SM_emptyScope 33 = .ok (.getfield 11, 3) := by decide +kernel
theorem d_SM_emptyScope_36 : decode b_SM_emptyScope 36 = .ok (.iload_n 1, 1) := by decide +kernel
theorem d_SM_emptyScope_37 : decode b_SM_emptyScope 37 = .ok (.aaload, 1) := by decide +kernel
theorem d_SM_emptyScope_38 : decode b_SM_emptyScope 38 = .ok (.iconst 0, 1) := by decide +kernel
theorem d_SM_emptyScope_39 : decode b_SM_emptyScope 39 = .ok (.putfield 76, 3) := by decide +kernel
theorem d_SM_emptyScope_42 : decode b_SM_emptyScope 42 = .ok (.aload_n 0, 1) := by decide +kernel
theorem d_SM_emptyScope_43 : decode b_SM_emptyScope 43 = .ok (.getfield 11, 3) := by decide +kernel
theorem d_SM_emptyScope_46 : decode b_SM_emptyScope 46 = .ok (.iload_n 1, 1) := by decide +kernel
theorem d_SM_emptyScope_47 : decode b_SM_emptyScope 47 = .ok (.aaload, 1) := by decide +kernel
theorem d_SM_emptyScope_48 : decode b_SM_emptyScope 48 = .ok (.iconst (-1), 1) := by decide +kernel
theorem d_SM_emptyScope_49 : decode b_SM_emptyScope 49 = .ok (.putfield 146, 3) := by decide +kernel
theorem d_SM_emptyScope_52 : decode b_SM_emptyScope 52 = .ok (.return_, 1) := by decide +kernel
theorem d_SM_findKept_0 : decode b_SM_findKept 0 = .ok (.aload_n 0, 1) := by decide +kernel
theorem d_SM_findKept_1 : decode b_SM_findKept 1 = .ok (.iconst 0, 1) := by decide +kernel
theorem d_SM_findKept_2 : decode b_SM_findKept 2 = .ok (.putfield 170, 3) := by decide +kernel
theorem d_SM_findKept_5 : decode b_SM_findKept 5 = .ok (.iconst 0, 1) := by decide +kernel
theorem d_SM_findKept_6 : decode b_SM_findKept 6 = .ok (.istore_n 1, 1) := by decide +kernel
theorem d_SM_findKept_7 : decode b_SM_findKept 7 = .ok (.iload_n 1, 1) := by decide +kernel
theorem d_SM_findKept_8 : decode b_SM_findKept 8 = .ok (.bipush 40, 2) := by decide +kernel
theorem d_SM_findKept_10 : decode b_SM_findKept 10 = .ok (.if_icmp .ge 19, 3) := by decide +kernel
theorem d_SM_findKept_13 : decode b_SM_findKept 13 = .ok (.aload_n 0, 1) := by decide +kernel
theorem d_SM_findKept_14 : decode b_SM_findKept 14 = .ok (.getfield 17, 3) := by decide +kernel
theorem d_SM_findKept_17 : decode b_SM_findKept 17 = .ok (.iload_n 1, 1) := by decide +kernel
theorem d_SM_findKept_18 : decode b_SM_findKept 18 = .ok (.aaload, 1) := by decide +kernel
theorem d_SM_findKept_19 : decode b_SM_findKept 19 = .ok (.iconst 0, 1) := by decide +kernel
theorem d_SM_findKept_20 : decode b_SM_findKept 20 = .ok (.putfield 155, 3) := by decide +kernel
theorem d_SM_findKept_23 : decode b_SM_findKept 23 = .ok (.iinc 1 1, 3) := by decide +kernel
theorem d_SM_findKept_26 : decode b_SM_findKept 26 = .ok (.goto (-19), 3) := by decide +kernel
theorem d_SM_findKept_29 : decode b_SM_findKept 29 = .ok (.iconst 0, 1) := by decide +kernel
theorem d_SM_findKept_30 : decode b_SM_findKept 30 = .ok (.istore_n 1, 1) := by decide +kernel
theorem d_SM_findKept_31 : decode b_SM_findKept 31 = .ok (.iload_n 1, 1) := by decide +kernel
theorem d_SM_findKept_32 : decode b_SM_findKept 32 = .ok (.iconst 4, 1) := by decide +kernel
theorem d_SM_findKept_33 : decode b_SM_findKept 33 = .ok (.if_icmp .ge 19, 3) := by decide +kernel
theorem d_SM_findKept_36 : decode b_SM_findKept 36 = .ok (.aload_n 0, 1) := by decide +kernel
theorem d_SM_findKept_37 : decode b_SM_findKept 37 = .ok (.aload_n 0, 1) := by decide +kernel
theorem d_SM_findKept_38 : decode b_SM_findKept 38 = .ok (.getfield 27, 3) := by decide +kernel
theorem d_SM_findKept_41 : decode b_SM_findKept 41 = .ok (.iload_n 1, 1) := by decide +kernel
theorem d_SM_findKept_42 : decode b_SM_findKept 42 = .ok (.iaload, 1) := by decide +kernel
theorem d_SM_findKept_43 : decode b_SM_findKept 43 = .ok (.invokevirtual 191, 3) := by decide +kernel
theorem d_SM_findKept_46 : decode b_SM_findKept 46 = .ok (.iinc 1 1, 3) := by decide +kernel
theorem d_SM_findKept_49 : decode b_SM_findKept 49 = .ok (.goto (-18), 3) := by decide +kernel
theorem d_SM_findKept_52 : decode b_SM_findKept 52 = .ok (.iconst 0, 1) := by decide +kernel
theorem d_SM_findKept_53 : decode b_SM_findKept 53 = .ok (.istore_n 1, 1) := by decide +kernel
theorem d_SM_findKept_54 : decode b_SM_findKept 54 = .ok (.iload_n 1, 1) := by decide +kernel
theorem d_SM_findKept_55 : decode b_SM_findKept 55 = .ok (.bipush 40, 2) := by decide +kernel
theorem d_SM_findKept_57 : decode b_SM_findKept 57 = .ok (.if_icmp .ge 39, 3) := by decide +kernel
theorem d_SM_findKept_60 : decode b_SM_findKept 60 = .ok (.aload_n 0, 1) := by decide +kernel
theorem d_SM_findKept_61 : decode b_SM_findKept 61 = .ok (.getfield 17, 3) := by decide +kernel
theorem d_SM_findKept_64 : decode b_SM_findKept 64 = .ok (.iload_n 1, 1) := by decide +kernel
theorem d_SM_findKept_65 : decode b_SM_findKept 65 = .ok (.aaload, 1) := by decide +kernel
theorem d_SM_findKept_66 : decode b_SM_findKept 66 = .ok (.getfield 137, 3) := by decide +kernel
theorem d_SM_findKept_69 : decode b_SM_findKept 69 = .ok (.iconst (-1), 1) := by decide +kernel
theorem d_SM_findKept_70 : decode b_SM_findKept 70 = .ok (.if_icmp .eq 20, 3) := by decide +kernel
theorem d_SM_findKept_73 : decode b_SM_findKept 73 = .ok (.aload_n 0, 1) := by decide +kernel
theorem d_SM_findKept_74 : decode b_SM_findKept 74 = .ok (.getfield 17, 3) := by decide +kernel
theorem d_SM_findKept_77 : decode b_SM_findKept 77 = .ok (.iload_n 1, 1) := by decide +kernel
theorem d_SM_findKept_78 : decode b_SM_findKept 78 = .ok (.aaload, 1) := by decide +kernel
theorem d_SM_findKept_79 : decode b_SM_findKept 79 = .ok (.getfield 137, 3) := by decide +kernel
theorem d_SM_findKept_82 : decode b_SM_findKept 82 = .ok (.ifCond .eq 8, 3) := by decide +kernel
theorem d_SM_findKept_85 : decode b_SM_findKept 85 = .ok (.aload_n 0, 1) := by decide +kernel
theorem d_SM_findKept_86 : decode b_SM_findKept 86 = .ok (.iload_n 1, 1) := by decide +kernel
theorem d_SM_findKept_87 : decode b_SM_findKept 87 = .ok (.invokevirtual 194, 3) := by decide +kernel
theorem d_SM_findKept_90 : decode b_SM_findKept 90 = .ok (.iinc 1 1, 3) := by decide +kernel
theorem d_SM_findKept_93 : decode b_SM_findKept 93 = .ok (.goto (-39), 3) := by decide +kernel
theorem d_SM_findKept_96 : decode b_SM_findKept 96 = .ok (.iconst 0, 1) := by decide +kernel
theorem d_SM_findKept_97 : decode b_SM_findKept 97 = .ok (.istore_n 1, 1) := by decide +kernel
theorem d_SM_findKept_98 : decode b_SM_findKept 98 = .ok (.iload_n 1, 1) := by decide +kernel
theorem d_SM_findKept_99 : decode b_SM_findKept 99 = .ok (.aload_n 0, 1) := by decide +kernel
theorem d_SM_findKept_100 : decode b_SM_findKept 100 = .ok (.getfield 170, 3) := by decide +kernel
theorem d_SM_findKept_103 : decode b_SM_findKept 103 = .ok (.if_icmp .ge 25, 3) := by decide +kernel
theorem d_SM_findKept_106 : decode b_SM_findKept 106 = .ok (.iload_n 1, 1) := by decide +kernel
theorem d_SM_findKept_107 : decode b_SM_findKept 107 = .ok (.bipush 40, 2) := by decide +kernel
theorem d_SM_findKept_109 : decode b_SM_findKept 109 = .ok (.if_icmp .ge 19, 3) := by decide +kernel
theorem d_SM_findKept_112 : decode b_SM_findKept 112 = .ok (.aload_n 0, 1) := by decide +kernel
theorem d_SM_findKept_113 : decode b_SM_findKept 113 = .ok (.aload_n 0, 1) := by decide +kernel
theorem d_SM_findKept_114 : decode b_SM_findKept 114 = .ok (.getfield 31, 3) := by decide +kernel
theorem d_SM_findKept_117 : decode b_SM_findKept 117 = .ok (.iload_n 1, 1) := by decide +kernel
theorem d_SM_findKept_118 : decode b_SM_findKept 118 = .ok (.iaload, 1) := by decide +kernel
theorem d_SM_findKept_119 : decode b_SM_findKept 119 = .ok (.invokevirtual 194, 3) := by decide +kernel
theorem d_SM_findKept_122 : decode b_SM_findKept 122 = .ok (.iinc 1 1, 3) := by decide +kernel
theorem d_SM_findKept_125 : decode b_SM_findKept 125 = .ok (.goto (-27), 3) := by decide +kernel
theorem d_SM_findKept_128 : decode b_SM_findKept 128 = .ok (.return_, 1) := by decide +kernel
theorem d_SM_keepFieldsOf_0 : decode b_SM_keepFieldsOf 0 = .ok (.aload_n 0, 1) := by decide +kernel
theorem d_SM_keepFieldsOf_1 : decode b_SM_keepFieldsOf 1 = .ok (.getfield 17, 3) := by decide +kernel
theorem d_SM_keepFieldsOf_4 : decode b_SM_keepFieldsOf 4 = .ok (.iload_n 1, 1) := by decide +kernel
theorem d_SM_keepFieldsOf_5 : decode b_SM_keepFieldsOf 5 = .ok (.aaload, 1) := by decide +kernel
theorem d_SM_keepFieldsOf_6 : decode b_SM_keepFieldsOf 6 = .ok (.astore_n 2, 1) := by decide +kernel
theorem d_SM_keepFieldsOf_7 : decode b_SM_keepFieldsOf 7 = .ok (.iconst 0, 1) := by decide +kernel
theorem d_SM_keepFieldsOf_8 : decode b_SM_keepFieldsOf 8 = .ok (.istore_n 3, 1) := by decide +kernel
theorem d_SM_keepFieldsOf_9 : decode b_SM_keepFieldsOf 9 = .ok (.iload_n 3, 1) := by decide +kernel
theorem d_SM_keepFieldsOf_10 : decode b_SM_keepFieldsOf 10 = .ok (.aload_n 2, 1) := by decide +kernel
theorem d_SM_keepFieldsOf_11 : decode b_SM_keepFieldsOf 11 = .ok (.getfield 182, 3) := by decide +kernel
theorem d_SM_keepFieldsOf_14 : decode b_SM_keepFieldsOf 14 = .ok (.if_icmp .ge 24, 3) := by decide +kernel
theorem d_SM_keepFieldsOf_17 : decode b_SM_keepFieldsOf 17 = .ok (.iload_n 3, 1) := by decide +kernel
theorem d_SM_keepFieldsOf_18 : decode b_SM_keepFieldsOf 18 = .ok (.iconst 4, 1) := by decide +kernel
theorem d_SM_keepFieldsOf_19 : decode b_SM_keepFieldsOf 19 = .ok (.if_icmp .ge 19, 3) := by decide +kernel
theorem d_SM_keepFieldsOf_22 : decode b_SM_keepFieldsOf 22 = .ok (.aload_n 0, 1) := by decide +kernel
theorem d_SM_keepFieldsOf_23 : decode b_SM_keepFieldsOf 23 = .ok (.aload_n 2, 1) := by decide +kernel
theorem d_SM_keepFieldsOf_24 : decode b_SM_keepFieldsOf 24 = .ok (.getfield 143, 3) := by decide +kernel
theorem d_SM_keepFieldsOf_27 : decode b_SM_keepFieldsOf 27 = .ok (.iload_n 3, 1) := by decide +kernel
theorem d_SM_keepFieldsOf_28 : decode b_SM_keepFieldsOf 28 = .ok (.iaload, 1) := by decide +kernel
theorem d_SM_keepFieldsOf_29 : decode b_SM_keepFieldsOf 29 = .ok (.invokevirtual 191, 3) := by decide +kernel
theorem d_SM_keepFieldsOf_32 : decode b_SM_keepFieldsOf 32 = .ok (.iinc 3 1, 3) := by decide +kernel
theorem d_SM_keepFieldsOf_35 : decode b_SM_keepFieldsOf 35 = .ok (.goto (-26), 3) := by decide +kernel
theorem d_SM_keepFieldsOf_38 : decode b_SM_keepFieldsOf 38 = .ok (.return_, 1) := by decide +kernel
theorem d_SM_keep_0 : decode b_SM_keep 0 = .ok (.iload_n 1, 1) := by decide +kernel
theorem d_SM_keep_1 : decode b_SM_keep 1 = .ok (.iconst (-1), 1) := by decide +kernel
theorem d_SM_keep_2 : decode b_SM_keep 2 = .ok (.if_icmp .eq 27, 3) := by decide +kernel
theorem d_SM_keep_5 : decode b_SM_keep 5 = .ok (.aload_n 0, 1) := by decide +kernel
theorem d_SM_keep_6 : decode b_SM_keep 6 = .ok (.getfield 17, 3) := by decide +kernel
theorem d_SM_keep_9 : decode b_SM_keep 9 = .ok (.iload_n 1, 1) := by decide +kernel
theorem d_SM_keep_10 : decode b_SM_keep 10 = .ok (.aaload, 1) := by decide +kernel
theorem d_SM_keep_11 : decode b_SM_keep 11 = .ok (.getfield 137, 3) := by decide +kernel
theorem d_SM_keep_14 : decode b_SM_keep 14 = .ok (.ifCond .ne 15, 3) := by decide +kernel
theorem d_SM_keep_17 : decode b_SM_keep 17 = .ok (.aload_n 0, 1) := by decide +kernel
theorem d_SM_keep_18 : decode b_SM_keep 18 = .ok (.getfield 17, 3) := by decide +kernel
theorem d_SM_keep_21 : decode b_SM_keep 21 = .ok (.iload_n 1, 1) := by decide +kernel
theorem d_SM_keep_22 : decode b_SM_keep 22 = .ok (.aaload, 1) := by decide +kernel
theorem d_SM_keep_23 : decode b_SM_keep 23 = .ok (.getfield 155, 3) := by decide +kernel
theorem d_SM_keep_26 : decode b_SM_keep 26 = .ok (.ifCond .eq 4, 3) := by decide +kernel
theorem d_SM_keep_29 : decode b_SM_keep 29 = .ok (.return_, 1) := by decide +kernel
theorem d_SM_keep_30 : decode b_SM_keep 30 = .ok (.aload_n 0, 1) := by decide +kernel
theorem d_SM_keep_31 : decode b_SM_keep 31 = .ok (.getfield 17, 3) := by decide +kernel
theorem d_SM_keep_34 : decode b_SM_keep 34 = .ok (.iload_n 1, 1) := by decide +kernel
theorem d_SM_keep_35 : decode b_SM_keep 35 = .ok (.aaload, 1) := by decide +kernel
theorem d_SM_keep_36 : decode b_SM_keep 36 = .ok (.iconst 1, 1) := by decide +kernel
theorem d_SM_keep_37 : decode b_SM_keep 37 = .ok (.putfield 155, 3) := by decide +kernel
theorem d_SM_keep_40 : decode b_SM_keep 40 = .ok (.aload_n 0, 1) := by decide +kernel
theorem d_SM_keep_41 : decode b_SM_keep 41 = .ok (.getfield 31, 3) := by decide +kernel
theorem d_SM_keep_44 : decode b_SM_keep 44 = .ok (.aload_n 0, 1) := by decide +kernel
theorem d_SM_keep_45 : decode b_SM_keep 45 = .ok (.getfield 170, 3) := by decide +kernel
theorem d_SM_keep_48 : decode b_SM_keep 48 = .ok (.iload_n 1, 1) := by decide +kernel
theorem d_SM_keep_49 : decode b_SM_keep 49 = .ok (.iastore, 1) := by decide +kernel
theorem d_SM_keep_50 : decode b_SM_keep 50 = .ok (.aload_n 0, 1) := by decide +kernel
theorem d_SM_keep_51 : decode b_SM_keep 51 = .ok (.dup, 1) := by decide +kernel
theorem d_SM_keep_52 : decode b_SM_keep 52 = .ok (.getfield 170, 3) := by decide +kernel
theorem d_SM_keep_55 : decode b_SM_keep 55 = .ok (.iconst 1, 1) := by decide +kernel
theorem d_SM_keep_56 : decode b_SM_keep 56 = .ok (.iadd, 1) := by decide +kernel
theorem d_SM_keep_57 : decode b_SM_keep 57 = .ok (.putfield 170, 3) := by decide +kernel
theorem d_SM_keep_60 : decode b_SM_keep 60 = .ok (.return_, 1) := by decide +kernel
theorem d_Ar_init_0 : decode b_Ar_init 0 = .ok (.aload_n 0, 1) := by decide +kernel
theorem d_Ar_init_1 : decode b_Ar_init 1 = .ok (.invokespecial 3, 3) := by decide +kernel
theorem d_Ar_init_4 : decode b_Ar_init 4 = .ok (.aload_n 0, 1) := by decide +kernel
theorem d_Ar_init_5 : decode b_Ar_init 5 = .ok (.iconst 0, 1) := by decide +kernel
theorem d_Ar_init_6 : decode b_Ar_init 6 = .ok (.putfield 9, 3) := by decide +kernel
theorem d_Ar_init_9 : decode b_Ar_init 9 = .ok (.aload_n 0, 1) := by decide +kernel
theorem d_Ar_init_10 : decode b_Ar_init 10 = .ok (.iconst (-1), 1) := by decide +kernel
theorem d_Ar_init_11 : decode b_Ar_init 11 = .ok (.putfield 15, 3) := by decide +kernel
theorem d_Ar_init_14 : decode b_Ar_init 14 = .ok (.return_, 1) := by decide +kernel
theorem d_Ar_free_0 : decode b_Ar_free 0 = .ok (.aload_n 0, 1) := by decide +kernel
theorem d_Ar_free_1 : decode b_Ar_free 1 = .ok (.getfield 18, 3) := by decide +kernel
theorem d_Ar_free_4 : decode b_Ar_free 4 = .ok (.aload_n 0, 1) := by decide +kernel
theorem d_Ar_free_5 : decode b_Ar_free 5 = .ok (.getfield 21, 3) := by decide +kernel
theorem d_Ar_free_8 : decode b_Ar_free 8 = .ok (.isub, 1) := by decide +kernel
theorem d_Ar_free_9 : decode b_Ar_free 9 = .ok (.ireturn, 1) := by decide +kernel
theorem d_Ce_init_0 : decode b_Ce_init 0 = .ok (.aload_n 0, 1) := by decide +kernel
theorem d_Ce_init_1 : decode b_Ce_init 1 = .ok (.invokespecial 3, 3) := by decide +kernel
theorem d_Ce_init_4 : decode b_Ce_init 4 = .ok (.aload_n 0, 1) := by decide +kernel
theorem d_Ce_init_5 : decode b_Ce_init 5 = .ok (.iconst 4, 1) := by decide +kernel
theorem d_Ce_init_6 : decode b_Ce_init 6 = .ok (.newarray .int, 2) := by decide +kernel
theorem d_Ce_init_8 : decode b_Ce_init 8 = .ok (.putfield 9, 3) := by decide +kernel
theorem d_Ce_init_11 : decode b_Ce_init 11 = .ok (.aload_n 0, 1) := by decide +kernel
theorem d_Ce_init_12 : decode b_Ce_init 12 = .ok (.iconst (-1), 1) := by decide +kernel
theorem d_Ce_init_13 : decode b_Ce_init 13 = .ok (.putfield 15, 3) := by decide +kernel
theorem d_Ce_init_16 : decode b_Ce_init 16 = .ok (.return_, 1) := by decide +kernel
theorem d_Ce_fill_0 : decode b_Ce_fill 0 = .ok (.aload_n 0, 1) := by decide +kernel
theorem d_Ce_fill_1 : decode b_Ce_fill 1 = .ok (.iload_n 1, 1) := by decide +kernel
theorem d_Ce_fill_2 : decode b_Ce_fill 2 = .ok (.putfield 15, 3) := by decide +kernel
theorem d_Ce_fill_5 : decode b_Ce_fill 5 = .ok (.aload_n 0, 1) := by decide +kernel
theorem d_Ce_fill_6 : decode b_Ce_fill 6 = .ok (.iload_n 2, 1) := by decide +kernel
theorem d_Ce_fill_7 : decode b_Ce_fill 7 = .ok (.putfield 19, 3) := by decide +kernel
theorem d_Ce_fill_10 : decode b_Ce_fill 10 = .ok (.iconst 0, 1) := by decide +kernel
theorem d_Ce_fill_11 : decode b_Ce_fill 11 = .ok (.istore_n 3, 1) := by decide +kernel
theorem d_Ce_fill_12 : decode b_Ce_fill 12 = .ok (.iload_n 3, 1) := by decide +kernel
theorem d_Ce_fill_13 : decode b_Ce_fill 13 = .ok (.iconst 4, 1) := by decide +kernel
theorem d_Ce_fill_14 : decode b_Ce_fill 14 = .ok (.if_icmp .ge 16, 3) := by decide +kernel
theorem d_Ce_fill_17 : decode b_Ce_fill 17 = .ok (.aload_n 0, 1) := by decide +kernel
theorem d_Ce_fill_18 : decode b_Ce_fill 18 = .ok (.getfield 9, 3) := by decide +kernel
theorem d_Ce_fill_21 : decode b_Ce_fill 21 = .ok (.iload_n 3, 1) := by decide +kernel
theorem d_Ce_fill_22 : decode b_Ce_fill 22 = .ok (.iconst (-1), 1) := by decide +kernel
theorem d_Ce_fill_23 : decode b_Ce_fill 23 = .ok (.iastore, 1) := by decide +kernel
theorem d_Ce_fill_24 : decode b_Ce_fill 24 = .ok (.iinc 3 1, 3) := by decide +kernel
theorem d_Ce_fill_27 : decode b_Ce_fill 27 = .ok (.goto (-15), 3) := by decide +kernel
theorem d_Ce_fill_30 : decode b_Ce_fill 30 = .ok (.return_, 1) := by decide +kernel
theorem d_Ro_init_0 : decode b_Ro_init 0 = .ok (.aload_n 0, 1) := by decide +kernel
theorem d_Ro_init_1 : decode b_Ro_init 1 = .ok (.invokespecial 3, 3) := by decide +kernel
theorem d_Ro_init_4 : decode b_Ro_init 4 = .ok (.aload_n 0, 1) := by decide +kernel
theorem d_Ro_init_5 : decode b_Ro_init 5 = .ok (.bipush 12, 2) := by decide +kernel
theorem d_Ro_init_7 : decode b_Ro_init 7 = .ok (.newarray .int, 2) := by decide +kernel
theorem d_Ro_init_9 : decode b_Ro_init 9 = .ok (.putfield 9, 3) := by decide +kernel
theorem d_Ro_init_12 : decode b_Ro_init 12 = .ok (.aload_n 0, 1) := by decide +kernel
theorem d_Ro_init_13 : decode b_Ro_init 13 = .ok (.bipush 12, 2) := by decide +kernel
theorem d_Ro_init_15 : decode b_Ro_init 15 = .ok (.newarray .int, 2) := by decide +kernel
theorem d_Ro_init_17 : decode b_Ro_init 17 = .ok (.putfield 15, 3) := by decide +kernel
theorem d_Ro_init_20 : decode b_Ro_init 20 = .ok (.aload_n 0, 1) := by decide +kernel
theorem d_Ro_init_21 : decode b_Ro_init 21 = .ok (.bipush 12, 2) := by decide +kernel
theorem d_Ro_init_23 : decode b_Ro_init 23 = .ok (.newarray .boolean, 2) := by decide +kernel
theorem d_Ro_init_25 : decode b_Ro_init 25 = .ok (.putfield 18, 3) := by decide +kernel
theorem d_Ro_init_28 : decode b_Ro_init 28 = .ok (.return_, 1) := by decide +kernel
theorem d_Ro_top_0 : decode b_Ro_top 0 = .ok (.aload_n 0, 1) := by decide +kernel
theorem d_Ro_top_1 : decode b_Ro_top 1 = .ok (.getfield 22, 3) := by decide +kernel
theorem d_Ro_top_4 : decode b_Ro_top 4 = .ok (.iconst 1, 1) := by decide +kernel
theorem d_Ro_top_5 : decode b_Ro_top 5 = .ok (.isub, 1) := by decide +kernel
theorem d_Ro_top_6 : decode b_Ro_top 6 = .ok (.ireturn, 1) := by decide +kernel
theorem d_Ro_isFull_0 : decode b_Ro_isFull 0 = .ok (.aload_n 0, 1) := by decide +kernel
theorem d_Ro_isFull_1 : decode b_Ro_isFull 1 = .ok (.getfield 22, 3) := by decide +kernel
theorem d_Ro_isFull_4 : decode b_Ro_isFull 4 = .ok (.bipush 12, 2) := by decide +kernel
theorem d_Ro_isFull_6 : decode b_Ro_isFull 6 = .ok (.if_icmp .lt 7, 3) := by decide +kernel
theorem d_Ro_isFull_9 : decode b_Ro_isFull 9 = .ok (.iconst 1, 1) := by decide +kernel
theorem d_Ro_isFull_10 : decode b_Ro_isFull 10 = .ok (.goto 4, 3) := by decide +kernel
theorem d_Ro_isFull_13 : decode b_Ro_isFull 13 = .ok (.iconst 0, 1) := by decide +kernel
theorem d_Ro_isFull_14 : decode b_Ro_isFull 14 = .ok (.ireturn, 1) := by decide +kernel
theorem d_Ro_currentArea_0 : decode b_Ro_currentArea 0 = .ok (.aload_n 0, 1) := by decide +kernel
theorem d_Ro_currentArea_1 : decode b_Ro_currentArea 1 = .ok (.getfield 9, 3) := by decide +kernel
theorem d_Ro_currentArea_4 : decode b_Ro_currentArea 4 = .ok (.aload_n 0, 1) := by decide +kernel
theorem d_Ro_currentArea_5 : decode b_Ro_currentArea 5 = .ok (.invokevirtual 26, 3) := by decide +kernel
theorem d_Ro_currentArea_8 : decode b_Ro_currentArea 8 = .ok (.iaload, 1) := by decide +kernel
theorem d_Ro_currentArea_9 : decode b_Ro_currentArea 9 = .ok (.ireturn, 1) := by decide +kernel
theorem d_Ro_topWasEntered_0 : decode b_Ro_topWasEntered 0 = .ok (.aload_n 0, 1) := by decide +kernel
theorem d_Ro_topWasEntered_1 : decode b_Ro_topWasEntered 1 = .ok (.getfield 18, 3) := by decide +kernel
theorem d_Ro_topWasEntered_4 : decode b_Ro_topWasEntered 4 = .ok (.aload_n 0, 1) := by decide +kernel
theorem d_Ro_topWasEntered_5 : decode b_Ro_topWasEntered 5 = .ok (.invokevirtual 26, 3) := by decide +kernel
theorem d_Ro_topWasEntered_8 : decode b_Ro_topWasEntered 8 = .ok (.baload, 1) := by decide +kernel
theorem d_Ro_topWasEntered_9 : decode b_Ro_topWasEntered 9 = .ok (.ireturn, 1) := by decide +kernel
theorem d_Ro_push_0 : decode b_Ro_push 0 = .ok (.aload_n 0, 1) := by decide +kernel
theorem d_Ro_push_1 : decode b_Ro_push 1 = .ok (.getfield 9, 3) := by decide +kernel
theorem d_Ro_push_4 : decode b_Ro_push 4 = .ok (.aload_n 0, 1) := by decide +kernel
theorem d_Ro_push_5 : decode b_Ro_push 5 = .ok (.getfield 22, 3) := by decide +kernel
theorem d_Ro_push_8 : decode b_Ro_push 8 = .ok (.iload_n 1, 1) := by decide +kernel
theorem d_Ro_push_9 : decode b_Ro_push 9 = .ok (.iastore, 1) := by decide +kernel
theorem d_Ro_push_10 : decode b_Ro_push 10 = .ok (.aload_n 0, 1) := by decide +kernel
theorem d_Ro_push_11 : decode b_Ro_push 11 = .ok (.getfield 15, 3) := by decide +kernel
theorem d_Ro_push_14 : decode b_Ro_push 14 = .ok (.aload_n 0, 1) := by decide +kernel
theorem d_Ro_push_15 : decode b_Ro_push 15 = .ok (.getfield 22, 3) := by decide +kernel
theorem d_Ro_push_18 : decode b_Ro_push 18 = .ok (.iload_n 2, 1) := by decide +kernel
theorem d_Ro_push_19 : decode b_Ro_push 19 = .ok (.iastore, 1) := by decide +kernel
theorem d_Ro_push_20 : decode b_Ro_push 20 = .ok (.aload_n 0, 1) := by decide +kernel
theorem d_Ro_push_21 : decode b_Ro_push 21 = .ok (.getfield 18, 3) := by decide +kernel
theorem d_Ro_push_24 : decode b_Ro_push 24 = .ok (.aload_n 0, 1) := by decide +kernel
theorem d_Ro_push_25 : decode b_Ro_push 25 = .ok (.getfield 22, 3) := by decide +kernel
theorem d_Ro_push_28 : decode b_Ro_push 28 = .ok (.iload_n 3, 1) := by decide +kernel
theorem d_Ro_push_29 : decode b_Ro_push 29 = .ok (.bastore, 1) := by decide +kernel
theorem d_Ro_push_30 : decode b_Ro_push 30 = .ok (.aload_n 0, 1) := by decide +kernel
theorem d_Ro_push_31 : decode b_Ro_push 31 = .ok (.dup, 1) := by decide +kernel
theorem d_Ro_push_32 : decode b_Ro_push 32 = .ok (.getfield 22, 3) := by decide +kernel
theorem d_Ro_push_35 : decode b_Ro_push 35 = .ok (.iconst 1, 1) := by decide +kernel
theorem d_Ro_push_36 : decode b_Ro_push 36 = .ok (.iadd, 1) := by decide +kernel
theorem d_Ro_push_37 : decode b_Ro_push 37 = .ok (.putfield 22, 3) := by decide +kernel
theorem d_Ro_push_40 : decode b_Ro_push 40 = .ok (.return_, 1) := by decide +kernel
theorem d_Ro_pop_0 : decode b_Ro_pop 0 = .ok (.aload_n 0, 1) := by decide +kernel
theorem d_Ro_pop_1 : decode b_Ro_pop 1 = .ok (.dup, 1) := by decide +kernel
theorem d_Ro_pop_2 : decode b_Ro_pop 2 = .ok (.getfield 22, 3) := by decide +kernel
theorem d_Ro_pop_5 : decode b_Ro_pop 5 = .ok (.iconst 1, 1) := by decide +kernel
theorem d_Ro_pop_6 : decode b_Ro_pop 6 = .ok (.isub, 1) := by decide +kernel
theorem d_Ro_pop_7 : decode b_Ro_pop 7 = .ok (.putfield 22, 3) := by decide +kernel
theorem d_Ro_pop_10 : decode b_Ro_pop 10 = .ok (.return_, 1) := by decide +kernel
theorem d_Ro_firstWith_0 : decode b_Ro_firstWith 0 = .ok (.aload_n 0, 1) := by decide +kernel
theorem d_Ro_firstWith_1 : decode b_Ro_firstWith 1 = .ok (.invokevirtual 26, 3) := by decide +kernel
theorem d_Ro_firstWith_4 : decode b_Ro_firstWith 4 = .ok (.istore_n 2, 1) := by decide +kernel
theorem d_Ro_firstWith_5 : decode b_Ro_firstWith 5 = .ok (.iconst 0, 1) := by decide +kernel
theorem d_Ro_firstWith_6 : decode b_Ro_firstWith 6 = .ok (.istore_n 3, 1) := by decide +kernel
theorem d_Ro_firstWith_7 : decode b_Ro_firstWith 7 = .ok (.iload_n 3, 1) := by decide +kernel
theorem d_Ro_firstWith_8 : decode b_Ro_firstWith 8 = .ok (.bipush 12, 2) := by decide +kernel
theorem d_Ro_firstWith_10 : decode b_Ro_firstWith 10 = .ok (.if_icmp .ge 33, 3) := by decide +kernel
theorem d_Ro_firstWith_13 : decode b_Ro_firstWith 13 = .ok (.iload_n 2, 1) := by decide +kernel
theorem d_Ro_firstWith_14 : decode b_Ro_firstWith 14 = .ok (.iconst (-1), 1) := by decide +kernel
theorem d_Ro_firstWith_15 : decode b_Ro_firstWith 15 = .ok (.if_icmp .eq 28, 3) := by decide +kernel
theorem d_Ro_firstWith_18 : decode b_Ro_firstWith 18 = .ok (.aload_n 0, 1) := by decide +kernel
theorem d_Ro_firstWith_19 : decode b_Ro_firstWith 19 = .ok (.getfield 9, 3) := by decide +kernel
theorem d_Ro_firstWith_22 : decode b_Ro_firstWith 22 = .ok (.iload_n 2, 1) := by decide +kernel
theorem d_Ro_firstWith_23 : decode b_Ro_firstWith 23 = .ok (.iaload, 1) := by decide +kernel
theorem d_Ro_firstWith_24 : decode b_Ro_firstWith 24 = .ok (.iload_n 1, 1) := by decide +kernel
theorem d_Ro_firstWith_25 : decode b_Ro_firstWith 25 = .ok (.if_icmp .ne 5, 3) := by decide +kernel
theorem d_Ro_firstWith_28 : decode b_Ro_firstWith 28 = .ok (.iload_n 2, 1) := by decide +kernel
theorem d_Ro_firstWith_29 : decode b_Ro_firstWith 29 = .ok (.ireturn, 1) := by decide +kernel
theorem d_Ro_firstWith_30 : decode b_Ro_firstWith 30 = .ok (.aload_n 0, 1) := by decide +kernel
theorem d_Ro_firstWith_31 : decode b_Ro_firstWith 31 = .ok (.getfield 15, 3) := by decide +kernel
theorem d_Ro_firstWith_34 : decode b_Ro_firstWith 34 = .ok (.iload_n 2, 1) := by decide +kernel
theorem d_Ro_firstWith_35 : decode b_Ro_firstWith 35 = .ok (.iaload, 1) := by decide +kernel
theorem d_Ro_firstWith_36 : decode b_Ro_firstWith 36 = .ok (.istore_n 2, 1) := by decide +kernel
theorem d_Ro_firstWith_37 : decode b_Ro_firstWith 37 = .ok (.iinc 3 1, 3) := by decide +kernel
theorem d_Ro_firstWith_40 : decode b_Ro_firstWith 40 = .ok (.goto (-33), 3) := by decide +kernel
theorem d_Ro_firstWith_43 : decode b_Ro_firstWith 43 = .ok (.iconst (-1), 1) := by decide +kernel
theorem d_Ro_firstWith_44 : decode b_Ro_firstWith 44 = .ok (.ireturn, 1) := by decide +kernel
theorem d_Ro_hasInView_0 : decode b_Ro_hasInView 0 = .ok (.aload_n 0, 1) := by decide +kernel
theorem d_Ro_hasInView_1 : decode b_Ro_hasInView 1 = .ok (.iload_n 1, 1) := by decide +kernel
theorem d_Ro_hasInView_2 : decode b_Ro_hasInView 2 = .ok (.invokevirtual 30, 3) := by decide +kernel
theorem d_Ro_hasInView_5 : decode b_Ro_hasInView 5 = .ok (.iconst (-1), 1) := by decide +kernel
theorem d_Ro_hasInView_6 : decode b_Ro_hasInView 6 = .ok (.if_icmp .eq 7, 3) := by decide +kernel
theorem d_Ro_hasInView_9 : decode b_Ro_hasInView 9 = .ok (.iconst 1, 1) := by decide +kernel
theorem d_Ro_hasInView_10 : decode b_Ro_hasInView 10 = .ok (.goto 4, 3) := by decide +kernel
theorem d_Ro_hasInView_13 : decode b_Ro_hasInView 13 = .ok (.iconst 0, 1) := by decide +kernel
theorem d_Ro_hasInView_14 : decode b_Ro_hasInView 14 = .ok (.ireturn, 1) := by decide +kernel
theorem d_Ro_underOfFirstWith_0 : decode b_Ro_underOfFirstWith 0 = .ok (.aload_n 0, 1) := by decide +kernel
theorem d_Ro_underOfFirstWith_1 : decode b_Ro_underOfFirstWith 1 = .ok (.iload_n 1, 1) := by decide +kernel
theorem d_Ro_underOfFirstWith_2 : decode b_Ro_underOfFirstWith 2 = .ok (.invokevirtual 30, 3) := by decide +kernel
theorem d_Ro_underOfFirstWith_5 : decode b_Ro_underOfFirstWith 5 = .ok (.istore_n 2, 1) := by decide +kernel
theorem d_Ro_underOfFirstWith_6 : decode b_Ro_underOfFirstWith 6 = .ok (.iload_n 2, 1) := by decide +kernel
theorem d_Ro_underOfFirstWith_7 : decode b_Ro_underOfFirstWith 7 = .ok (.iconst (-1), 1) := by decide +kernel
theorem d_Ro_underOfFirstWith_8 : decode b_Ro_underOfFirstWith 8 = .ok (.if_icmp .ne 7, 3) := by decide +kernel
theorem d_Ro_underOfFirstWith_11 : decode b_Ro_underOfFirstWith 11 = .ok (.iconst (-1), 1) := by decide +kernel
theorem d_Ro_underOfFirstWith_12 : decode b_Ro_underOfFirstWith 12 = .ok (.goto 9, 3) := by decide +kernel
theorem d_Ro_underOfFirstWith_15 : decode b_Ro_underOfFirstWith 15 = .ok (.aload_n 0, 1) := by decide +kernel
theorem d_Ro_underOfFirstWith_16 : decode b_Ro_underOfFirstWith 16 = .ok (.getfield 15, 3) := by decide +kernel
theorem d_Ro_underOfFirstWith_19 : decode b_Ro_underOfFirstWith 19 = .ok (.iload_n 2, 1) := by decide +kernel
theorem d_Ro_underOfFirstWith_20 : decode b_Ro_underOfFirstWith 20 = .ok (.iaload, 1) := by decide +kernel
theorem d_Ro_underOfFirstWith_21 : decode b_Ro_underOfFirstWith 21 = .ok (.ireturn, 1) := by decide +kernel
theorem d_Ro_nearestScope_0 : decode b_Ro_nearestScope 0 = .ok (.aload_n 0, 1) := by decide +kernel
theorem d_Ro_nearestScope_1 : decode b_Ro_nearestScope 1 = .ok (.invokevirtual 26, 3) := by decide +kernel
theorem d_Ro_nearestScope_4 : decode b_Ro_nearestScope 4 = .ok (.istore_n 1, 1) := by decide +kernel
theorem d_Ro_nearestScope_5 : decode b_Ro_nearestScope 5 = .ok (.iconst 0, 1) := by decide +kernel
theorem d_Ro_nearestScope_6 : decode b_Ro_nearestScope 6 = .ok (.istore_n 2, 1) := by decide +kernel
theorem d_Ro_nearestScope_7 : decode b_Ro_nearestScope 7 = .ok (.iload_n 2, 1) := by decide +kernel
theorem d_Ro_nearestScope_8 : decode b_Ro_nearestScope 8 = .ok (.bipush 12, 2) := by decide +kernel
theorem d_Ro_nearestScope_10 : decode b_Ro_nearestScope 10 = .ok (.if_icmp .ge 38, 3) := by decide +kernel
theorem d_Ro_nearestScope_13 : decode b_Ro_nearestScope 13 = .ok (.iload_n 1, 1) := by decide +kernel
theorem d_Ro_nearestScope_14 : decode b_Ro_nearestScope 14 = .ok (.iconst (-1), 1) := by decide +kernel
theorem d_Ro_nearestScope_15 : decode b_Ro_nearestScope 15 = .ok (.if_icmp .eq 33, 3) := by decide +kernel
theorem d_Ro_nearestScope_18 : decode b_Ro_nearestScope 18 = .ok (.aload_n 0, 1) := by decide +kernel
theorem d_Ro_nearestScope_19 : decode b_Ro_nearestScope 19 = .ok (.getfield 9, 3) := by decide +kernel
theorem d_Ro_nearestScope_22 : decode b_Ro_nearestScope 22 = .ok (.iload_n 1, 1) := by decide +kernel
theorem d_Ro_nearestScope_23 : decode b_Ro_nearestScope 23 = .ok (.iaload, 1) := by decide +kernel
theorem d_Ro_nearestScope_24 : decode b_Ro_nearestScope 24 = .ok (.iconst 2, 1) := by decide +kernel
theorem d_Ro_nearestScope_25 : decode b_Ro_nearestScope 25 = .ok (.if_icmp .lt 10, 3) := by decide +kernel
theorem d_Ro_nearestScope_28 : decode b_Ro_nearestScope 28 = .ok (.aload_n 0, 1) := by decide +kernel
theorem d_Ro_nearestScope_29 : decode b_Ro_nearestScope 29 = .ok (.getfield 9, 3) := by decide +kernel
theorem d_Ro_nearestScope_32 : decode b_Ro_nearestScope 32 = .ok (.iload_n 1, 1) := by decide +kernel
theorem d_Ro_nearestScope_33 : decode b_Ro_nearestScope 33 = .ok (.iaload, 1) := by decide +kernel
theorem d_Ro_nearestScope_34 : decode b_Ro_nearestScope 34 = .ok (.ireturn, 1) := by decide +kernel
theorem d_Ro_nearestScope_35 : decode b_Ro_nearestScope 35 = .ok (.aload_n 0, 1) := by decide +kernel
theorem d_Ro_nearestScope_36 : decode b_Ro_nearestScope 36 = .ok (.getfield 15, 3) := by decide +kernel
theorem d_Ro_nearestScope_39 : decode b_Ro_nearestScope 39 = .ok (.iload_n 1, 1) := by decide +kernel
theorem d_Ro_nearestScope_40 : decode b_Ro_nearestScope 40 = .ok (.iaload, 1) := by decide +kernel
theorem d_Ro_nearestScope_41 : decode b_Ro_nearestScope 41 = .ok (.istore_n 1, 1) := by decide +kernel
theorem d_Ro_nearestScope_42 : decode b_Ro_nearestScope 42 = .ok (.iinc 2 1, 3) := by decide +kernel
theorem d_Ro_nearestScope_45 : decode b_Ro_nearestScope 45 = .ok (.goto (-38), 3) := by decide +kernel
theorem d_Ro_nearestScope_48 : decode b_Ro_nearestScope 48 = .ok (.iconst 0, 1) := by decide +kernel
theorem d_Ro_nearestScope_49 : decode b_Ro_nearestScope 49 = .ok (.ireturn, 1) := by decide +kernel
theorem d_Ro_areaInView_0 : decode b_Ro_areaInView 0 = .ok (.aload_n 0, 1) := by decide +kernel
theorem d_Ro_areaInView_1 : decode b_Ro_areaInView 1 = .ok (.invokevirtual 26, 3) := by decide +kernel
theorem d_Ro_areaInView_4 : decode b_Ro_areaInView 4 = .ok (.istore_n 2, 1) := by decide +kernel
theorem d_Ro_areaInView_5 : decode b_Ro_areaInView 5 = .ok (.iconst 0, 1) := by decide +kernel
theorem d_Ro_areaInView_6 : decode b_Ro_areaInView 6 = .ok (.istore_n 3, 1) := by decide +kernel
theorem d_Ro_areaInView_7 : decode b_Ro_areaInView 7 = .ok (.iload_n 3, 1) := by decide +kernel
theorem d_Ro_areaInView_8 : decode b_Ro_areaInView 8 = .ok (.iload_n 1, 1) := by decide +kernel
theorem d_Ro_areaInView_9 : decode b_Ro_areaInView 9 = .ok (.if_icmp .ge 27, 3) := by decide +kernel
theorem d_Ro_areaInView_12 : decode b_Ro_areaInView 12 = .ok (.iload_n 3, 1) := by decide +kernel
theorem d_Ro_areaInView_13 : decode b_Ro_areaInView 13 = .ok (.bipush 12, 2) := by decide +kernel
theorem d_Ro_areaInView_15 : decode b_Ro_areaInView 15 = .ok (.if_icmp .ge 21, 3) := by decide +kernel
theorem d_Ro_areaInView_18 : decode b_Ro_areaInView 18 = .ok (.iload_n 2, 1) := by decide +kernel
theorem d_Ro_areaInView_19 : decode b_Ro_areaInView 19 = .ok (.iconst (-1), 1) := by decide +kernel
theorem d_Ro_areaInView_20 : decode b_Ro_areaInView 20 = .ok (.if_icmp .eq 16, 3) := by decide +kernel
theorem d_Ro_areaInView_23 : decode b_Ro_areaInView 23 = .ok (.aload_n 0, 1) := by decide +kernel
theorem d_Ro_areaInView_24 : decode b_Ro_areaInView 24 = .ok (.getfield 15, 3) := by decide +kernel
theorem d_Ro_areaInView_27 : decode b_Ro_areaInView 27 = .ok (.iload_n 2, 1) := by decide +kernel
theorem d_Ro_areaInView_28 : decode b_Ro_areaInView 28 = .ok (.iaload, 1) := by decide +kernel
theorem d_Ro_areaInView_29 : decode b_Ro_areaInView 29 = .ok (.istore_n 2, 1) := by decide +kernel
theorem d_Ro_areaInView_30 : decode b_Ro_areaInView 30 = .ok (.iinc 3 1, 3) := by decide +kernel
theorem d_Ro_areaInView_33 : decode b_Ro_areaInView 33 = .ok (.goto (-26), 3) := by decide +kernel
theorem d_Ro_areaInView_36 : decode b_Ro_areaInView 36 = .ok (.iload_n 2, 1) := by decide +kernel
theorem d_Ro_areaInView_37 : decode b_Ro_areaInView 37 = .ok (.iconst (-1), 1) := by decide +kernel
theorem d_Ro_areaInView_38 : decode b_Ro_areaInView 38 = .ok (.if_icmp .ne 7, 3) := by decide +kernel
theorem d_Ro_areaInView_41 : decode b_Ro_areaInView 41 = .ok (.iconst (-1), 1) := by decide +kernel
theorem d_Ro_areaInView_42 : decode b_Ro_areaInView 42 = .ok (.goto 9, 3) := by decide +kernel
theorem d_Ro_areaInView_45 : decode b_Ro_areaInView 45 = .ok (.aload_n 0, 1) := by decide +kernel
theorem d_Ro_areaInView_46 : decode b_Ro_areaInView 46 = .ok (.getfield 9, 3) := by decide +kernel
theorem d_Ro_areaInView_49 : decode b_Ro_areaInView 49 = .ok (.iload_n 2, 1) := by decide +kernel
theorem d_Ro_areaInView_50 : decode b_Ro_areaInView 50 = .ok (.iaload, 1) := by decide +kernel
theorem d_Ro_areaInView_51 : decode b_Ro_areaInView 51 = .ok (.ireturn, 1) := by decide +kernel
end
section
theorem d_MM_init_0 : decode b_MM_init 0 = .ok (.aload_n 0, 1) := by decide +kernel
theorem d_MM_init_1 : decode b_MM_init 1 = .ok (.invokespecial 1, 3) := by decide +kernel
theorem d_MM_init_4 : decode b_MM_init 4 = .ok (.aload_n 0, 1) := by decide +kernel
theorem d_MM_init_5 : decode b_MM_init 5 = .ok (.iconst 2, 1) := by decide +kernel
theorem d_MM_init_6 : decode b_MM_init 6 = .ok (.putfield 7, 3) := by decide +kernel
theorem d_MM_init_9 : decode b_MM_init 9 = .ok (.aload_n 0, 1) := by decide +kernel
theorem d_MM_init_10 : decode b_MM_init 10 = .ok (.bipush 10, 2) := by decide +kernel
theorem d_MM_init_12 : decode b_MM_init 12 = .ok (.newarray .int, 2) := by decide +kernel
theorem d_MM_init_14 : decode b_MM_init 14 = .ok (.putfield 13, 3) := by decide +kernel
theorem d_MM_init_17 : decode b_MM_init 17 = .ok (.aload_n 0, 1) := by decide +kernel
theorem d_MM_init_18 : decode b_MM_init 18 = .ok (.bipush 10, 2) := by decide +kernel
theorem d_MM_init_20 : decode b_MM_init 20 = .ok (.newarray .int, 2) := by decide +kernel
theorem d_MM_init_22 : decode b_MM_init 22 = .ok (.putfield 17, 3) := by decide +kernel
theorem d_MM_init_25 : decode b_MM_init 25 = .ok (.aload_n 0, 1) := by decide +kernel
theorem d_MM_init_26 : decode b_MM_init 26 = .ok (.bipush 10, 2) := by decide +kernel
theorem d_MM_init_28 : decode b_MM_init 28 = .ok (.newarray .int, 2) := by decide +kernel
theorem d_MM_init_30 : decode b_MM_init 30 = .ok (.putfield 20, 3) := by decide +kernel
theorem d_MM_init_33 : decode b_MM_init 33 = .ok (.aload_n 0, 1) := by decide +kernel
theorem d_MM_init_34 : decode b_MM_init 34 = .ok (.bipush 10, 2) := by decide +kernel
theorem d_MM_init_36 : decode b_MM_init 36 = .ok (.newarray .int, 2) := by decide +kernel
theorem d_MM_init_38 : decode b_MM_init 38 = .ok (.putfield 23, 3) := by decide +kernel
theorem d_MM_init_41 : decode b_MM_init 41 = .ok (.aload_n 0, 1) := by decide +kernel
theorem d_MM_init_42 : decode b_MM_init 42 = .ok (.bipush 40, 2) := by decide +kernel
theorem d_MM_init_44 : decode b_MM_init 44 = .ok (.newarray .int, 2) := by decide +kernel
theorem d_MM_init_46 : decode b_MM_init 46 = .ok (.putfield 26, 3) := by decide +kernel
theorem d_MM_init_49 : decode b_MM_init 49 = .ok (.aload_n 0, 1) := by decide +kernel
theorem d_MM_init_50 : decode b_MM_init 50 = .ok (.bipush 40, 2) := by decide +kernel
theorem d_MM_init_52 : decode b_MM_init 52 = .ok (.newarray .int, 2) := by decide +kernel
theorem d_MM_init_54 : decode b_MM_init 54 = .ok (.putfield 29, 3) := by decide +kernel
theorem d_MM_init_57 : decode b_MM_init 57 = .ok (.aload_n 0, 1) := by decide +kernel
theorem d_MM_init_58 : decode b_MM_init 58 = .ok (.sipush 160, 3) := by decide +kernel
theorem d_MM_init_61 : decode b_MM_init 61 = .ok (.newarray .int, 2) := by decide +kernel
theorem d_MM_init_63 : decode b_MM_init 63 = .ok (.putfield 32, 3) := by decide +kernel
theorem d_MM_init_66 : decode b_MM_init 66 = .ok (.aload_n 0, 1) := by decide +kernel
theorem d_MM_init_67 : decode b_MM_init 67 = .ok (.bipush 40, 2) := by decide +kernel
theorem d_MM_init_69 : decode b_MM_init 69 = .ok (.newarray .boolean, 2) := by decide +kernel
theorem d_MM_init_71 : decode b_MM_init 71 = .ok (.putfield 35, 3) := by decide +kernel
theorem d_MM_init_74 : decode b_MM_init 74 = .ok (.aload_n 0, 1) := by decide +kernel
theorem d_MM_init_75 : decode b_MM_init 75 = .ok (.iconst 4, 1) := by decide +kernel
theorem d_MM_init_76 : decode b_MM_init 76 = .ok (.newarray .boolean, 2) := by decide +kernel
theorem d_MM_init_78 : decode b_MM_init 78 = .ok (.putfield 39, 3) := by decide +kernel
theorem d_MM_init_81 : decode b_MM_init 81 = .ok (.aload_n 0, 1) := by decide +kernel
theorem d_MM_init_82 : decode b_MM_init 82 = .ok (.iconst 4, 1) := by decide +kernel
theorem d_MM_init_83 : decode b_MM_init 83 = .ok (.newarray .boolean, 2) := by decide +kernel
theorem d_MM_init_85 : decode b_MM_init 85 = .ok (.putfield 42, 3) := by decide +kernel
theorem d_MM_init_88 : decode b_MM_init 88 = .ok (.aload_n 0, 1) := by decide +kernel
theorem d_MM_init_89 : decode b_MM_init 89 = .ok (.iconst 4, 1) := by decide +kernel
theorem d_MM_init_90 : decode b_MM_init 90 = .ok (.newarray .int, 2) := by decide +kernel
theorem d_MM_init_92 : decode b_MM_init 92 = .ok (.putfield 45, 3) := by decide +kernel
theorem d_MM_init_95 : decode b_MM_init 95 = .ok (.aload_n 0, 1) := by decide +kernel
theorem d_MM_init_96 : decode b_MM_init 96 = .ok (.bipush 48, 2) := by decide +kernel
theorem d_MM_init_98 : decode b_MM_init 98 = .ok (.newarray .int, 2) := by decide +kernel
theorem d_MM_init_100 : decode b_MM_init 100 = .ok (.putfield 48, 3) := by decide +kernel
theorem d_MM_init_103 : decode b_MM_init 103 = .ok (.aload_n 0, 1) := by decide +kernel
theorem d_MM_init_104 : decode b_MM_init 104 = .ok (.bipush 48, 2) := by decide +kernel
theorem d_MM_init_106 : decode b_MM_init 106 = .ok (.newarray .int, 2) := by decide +kernel
theorem d_MM_init_108 : decode b_MM_init 108 = .ok (.putfield 51, 3) := by decide +kernel
theorem d_MM_init_111 : decode b_MM_init 111 = .ok (.aload_n 0, 1) := by decide +kernel
theorem d_MM_init_112 : decode b_MM_init 112 = .ok (.bipush 48, 2) := by decide +kernel
theorem d_MM_init_114 : decode b_MM_init 114 = .ok (.newarray .boolean, 2) := by decide +kernel
theorem d_MM_init_116 : decode b_MM_init 116 = .ok (.putfield 54, 3) := by decide +kernel
theorem d_MM_init_119 : decode b_MM_init 119 = .ok (.aload_n 0, 1) := by decide +kernel
theorem d_MM_init_120 : decode b_MM_init 120 = .ok (.iconst 4, 1) := by decide +kernel
theorem d_MM_init_121 : decode b_MM_init 121 = .ok (.newarray .int, 2) := by decide +kernel
theorem d_MM_init_123 : decode b_MM_init 123 = .ok (.putfield 57, 3) := by decide +kernel
theorem d_MM_init_126 : decode b_MM_init 126 = .ok (.aload_n 0, 1) := by decide +kernel
theorem d_MM_init_127 : decode b_MM_init 127 = .ok (.getfield 13, 3) := by decide +kernel
theorem d_MM_init_130 : decode b_MM_init 130 = .ok (.iconst 0, 1) := by decide +kernel
theorem d_MM_init_131 : decode b_MM_init 131 = .ok (.aload_n 0, 1) := by decide +kernel
theorem d_MM_init_132 : decode b_MM_init 132 = .ok (.iload_n 1, 1) := by decide +kernel
theorem d_MM_init_133 : decode b_MM_init 133 = .ok (.invokevirtual 60, 3) := by decide +kernel
theorem d_MM_init_136 : decode b_MM_init 136 = .ok (.iastore, 1) := by decide +kernel
theorem d_MM_init_137 : decode b_MM_init 137 = .ok (.aload_n 0, 1) := by decide +kernel
theorem d_MM_init_138 : decode b_MM_init 138 = .ok (.getfield 13, 3) := by decide +kernel
theorem d_MM_init_141 : decode b_MM_init 141 = .ok (.iconst 1, 1) := by decide +kernel
theorem d_MM_init_142 : decode b_MM_init 142 = .ok (.aload_n 0, 1) := by decide +kernel
theorem d_MM_init_143 : decode b_MM_init 143 = .ok (.iload_n 2, 1) := by decide +kernel
theorem d_MM_init_144 : decode b_MM_init 144 = .ok (.invokevirtual 60, 3) := by decide +kernel
theorem d_MM_init_147 : decode b_MM_init 147 = .ok (.iastore, 1) := by decide +kernel
theorem d_MM_init_148 : decode b_MM_init 148 = .ok (.iconst 0, 1) := by decide +kernel
theorem d_MM_init_149 : decode b_MM_init 149 = .ok (.istore_n 3, 1) := by decide +kernel
theorem d_MM_init_150 : decode b_MM_init 150 = .ok (.iload_n 3, 1) := by decide +kernel
theorem d_MM_init_151 : decode b_MM_init 151 = .ok (.bipush 40, 2) := by decide +kernel
theorem d_MM_init_153 : decode b_MM_init 153 = .ok (.if_icmp .ge 16, 3) := by decide +kernel
theorem d_MM_init_156 : decode b_MM_init 156 = .ok (.aload_n 0, 1) := by decide +kernel
theorem d_MM_init_157 : decode b_MM_init 157 = .ok (.getfield 26, 3) := by decide +kernel
theorem d_MM_init_160 : decode b_MM_init 160 = .ok (.iload_n 3, 1) := by decide +kernel
theorem d_MM_init_161 : decode b_MM_init 161 = .ok (.iconst (-1), 1) := by decide +kernel
theorem d_MM_init_162 : decode b_MM_init 162 = .ok (.iastore, 1) := by decide +kernel
theorem d_MM_init_163 : decode b_MM_init 163 = .ok (.iinc 3 1, 3) := by decide +kernel
theorem d_MM_init_166 : decode b_MM_init 166 = .ok (.goto (-16), 3) := by decide +kernel
theorem d_MM_init_169 : decode b_MM_init 169 = .ok (.iconst 0, 1) := by decide +kernel
theorem d_MM_init_170 : decode b_MM_init 170 = .ok (.istore_n 3, 1) := by decide +kernel
theorem d_MM_init_171 : decode b_MM_init 171 = .ok (.iload_n 3, 1) := by decide +kernel
theorem d_MM_init_172 : decode b_MM_init 172 = .ok (.bipush 10, 2) := by decide +kernel
theorem d_MM_init_174 : decode b_MM_init 174 = .ok (.if_icmp .ge 16, 3) := by decide +kernel
theorem d_MM_init_177 : decode b_MM_init 177 = .ok (.aload_n 0, 1) := by decide +kernel
theorem d_MM_init_178 : decode b_MM_init 178 = .ok (.getfield 23, 3) := by decide +kernel
theorem d_MM_init_181 : decode b_MM_init 181 = .ok (.iload_n 3, 1) := by decide +kernel
theorem d_MM_init_182 : decode b_MM_init 182 = .ok (.iconst (-1), 1) := by decide +kernel
theorem d_MM_init_183 : decode b_MM_init 183 = .ok (.iastore, 1) := by decide +kernel
theorem d_MM_init_184 : decode b_MM_init 184 = .ok (.iinc 3 1, 3) := by decide +kernel
theorem d_MM_init_187 : decode b_MM_init 187 = .ok (.goto (-16), 3) := by decide +kernel
theorem d_MM_init_190 : decode b_MM_init 190 = .ok (.iconst 0, 1) := by decide +kernel
theorem d_MM_init_191 : decode b_MM_init 191 = .ok (.istore_n 3, 1) := by decide +kernel
theorem d_MM_init_192 : decode b_MM_init 192 = .ok (.iload_n 3, 1) := by decide +kernel
theorem d_MM_init_193 : decode b_MM_init 193 = .ok (.iconst 4, 1) := by decide +kernel
theorem d_MM_init_194 : decode b_MM_init 194 = .ok (.if_icmp .ge 16, 3) := by decide +kernel
theorem d_MM_init_197 : decode b_MM_init 197 = .ok (.aload_n 0, 1) := by decide +kernel
theorem d_MM_init_198 : decode b_MM_init 198 = .ok (.getfield 57, 3) := by decide +kernel
theorem d_MM_init_201 : decode b_MM_init 201 = .ok (.iload_n 3, 1) := by decide +kernel
theorem d_MM_init_202 : decode b_MM_init 202 = .ok (.iconst (-1), 1) := by decide +kernel
theorem d_MM_init_203 : decode b_MM_init 203 = .ok (.iastore, 1) := by decide +kernel
theorem d_MM_init_204 : decode b_MM_init 204 = .ok (.iinc 3 1, 3) := by decide +kernel
theorem d_MM_init_207 : decode b_MM_init 207 = .ok (.goto (-15), 3) := by decide +kernel
theorem d_MM_init_210 : decode b_MM_init 210 = .ok (.return_, 1) := by decide +kernel
theorem d_MM_clamp_0 : decode b_MM_clamp 0 = .ok (.iload_n 1, 1) := by decide +kernel
theorem d_MM_clamp_1 : decode b_MM_clamp 1 = .ok (.iconst 4, 1) := by decide +kernel
theorem d_MM_clamp_2 : decode b_MM_clamp 2 = .ok (.if_icmp .ge 7, 3) := by decide +kernel
theorem d_MM_clamp_5 : decode b_MM_clamp 5 = .ok (.iconst 4, 1) := by decide +kernel
theorem d_MM_clamp_6 : decode b_MM_clamp 6 = .ok (.goto 15, 3) := by decide +kernel
theorem d_MM_clamp_9 : decode b_MM_clamp 9 = .ok (.iload_n 1, 1) := by decide +kernel
theorem d_MM_clamp_10 : decode b_MM_clamp 10 = .ok (.bipush 60, 2) := by decide +kernel
theorem d_MM_clamp_12 : decode b_MM_clamp 12 = .ok (.if_icmp .le 8, 3) := by decide +kernel
theorem d_MM_clamp_15 : decode b_MM_clamp 15 = .ok (.bipush 60, 2) := by decide +kernel
theorem d_MM_clamp_17 : decode b_MM_clamp 17 = .ok (.goto 4, 3) := by decide +kernel
theorem d_MM_clamp_20 : decode b_MM_clamp 20 = .ok (.iload_n 1, 1) := by decide +kernel
theorem d_MM_clamp_21 : decode b_MM_clamp 21 = .ok (.ireturn, 1) := by decide +kernel
theorem d_MM_idle_0 : decode b_MM_idle 0 = .ok (.iload_n 1, 1) := by decide +kernel
theorem d_MM_idle_1 : decode b_MM_idle 1 = .ok (.ifCond .lt 17, 3) := by decide +kernel
theorem d_MM_idle_4 : decode b_MM_idle 4 = .ok (.iload_n 1, 1) := by decide +kernel
theorem d_MM_idle_5 : decode b_MM_idle 5 = .ok (.iconst 3, 1) := by decide +kernel
theorem d_MM_idle_6 : decode b_MM_idle 6 = .ok (.if_icmp .gt 12, 3) := by decide +kernel
theorem d_MM_idle_9 : decode b_MM_idle 9 = .ok (.aload_n 0, 1) := by decide +kernel
theorem d_MM_idle_10 : decode b_MM_idle 10 = .ok (.getfield 39, 3) := by decide +kernel
theorem d_MM_idle_13 : decode b_MM_idle 13 = .ok (.iload_n 1, 1) := by decide +kernel
theorem d_MM_idle_14 : decode b_MM_idle 14 = .ok (.baload, 1) := by decide +kernel
theorem d_MM_idle_15 : decode b_MM_idle 15 = .ok (.ifCond .ne 7, 3) := by decide +kernel
theorem d_MM_idle_18 : decode b_MM_idle 18 = .ok (.iconst 1, 1) := by decide +kernel
theorem d_MM_idle_19 : decode b_MM_idle 19 = .ok (.goto 4, 3) := by decide +kernel
theorem d_MM_idle_22 : decode b_MM_idle 22 = .ok (.iconst 0, 1) := by decide +kernel
theorem d_MM_idle_23 : decode b_MM_idle 23 = .ok (.ireturn, 1) := by decide +kernel
theorem d_MM_noArea_0 : decode b_MM_noArea 0 = .ok (.iload_n 1, 1) := by decide +kernel
theorem d_MM_noArea_1 : decode b_MM_noArea 1 = .ok (.ifCond .lt 11, 3) := by decide +kernel
theorem d_MM_noArea_4 : decode b_MM_noArea 4 = .ok (.iload_n 1, 1) := by decide +kernel
theorem d_MM_noArea_5 : decode b_MM_noArea 5 = .ok (.aload_n 0, 1) := by decide +kernel
theorem d_MM_noArea_6 : decode b_MM_noArea 6 = .ok (.getfield 7, 3) := by decide +kernel
theorem d_MM_noArea_9 : decode b_MM_noArea 9 = .ok (.if_icmp .lt 7, 3) := by decide +kernel
theorem d_MM_noArea_12 : decode b_MM_noArea 12 = .ok (.iconst 1, 1) := by decide +kernel
theorem d_MM_noArea_13 : decode b_MM_noArea 13 = .ok (.goto 4, 3) := by decide +kernel
theorem d_MM_noArea_16 : decode b_MM_noArea 16 = .ok (.iconst 0, 1) := by decide +kernel
theorem d_MM_noArea_17 : decode b_MM_noArea 17 = .ok (.ireturn, 1) := by decide +kernel
theorem d_MM_noScope_0 : decode b_MM_noScope 0 = .ok (.iload_n 1, 1) := by decide +kernel
theorem d_MM_noScope_1 : decode b_MM_noScope 1 = .ok (.iconst 2, 1) := by decide +kernel
theorem d_MM_noScope_2 : decode b_MM_noScope 2 = .ok (.if_icmp .lt 11, 3) := by decide +kernel
theorem d_MM_noScope_5 : decode b_MM_noScope 5 = .ok (.iload_n 1, 1) := by decide +kernel
theorem d_MM_noScope_6 : decode b_MM_noScope 6 = .ok (.aload_n 0, 1) := by decide +kernel
theorem d_MM_noScope_7 : decode b_MM_noScope 7 = .ok (.getfield 7, 3) := by decide +kernel
theorem d_MM_noScope_10 : decode b_MM_noScope 10 = .ok (.if_icmp .lt 7, 3) := by decide +kernel
theorem d_MM_noScope_13 : decode b_MM_noScope 13 = .ok (.iconst 1, 1) := by decide +kernel
theorem d_MM_noScope_14 : decode b_MM_noScope 14 = .ok (.goto 4, 3) := by decide +kernel
theorem d_MM_noScope_17 : decode b_MM_noScope 17 = .ok (.iconst 0, 1) := by decide +kernel
theorem d_MM_noScope_18 : decode b_MM_noScope 18 = .ok (.ireturn, 1) := by decide +kernel
theorem d_MM_noObject_0 : decode b_MM_noObject 0 = .ok (.iload_n 1, 1) := by decide +kernel
theorem d_MM_noObject_1 : decode b_MM_noObject 1 = .ok (.ifCond .lt 18, 3) := by decide +kernel
theorem d_MM_noObject_4 : decode b_MM_noObject 4 = .ok (.iload_n 1, 1) := by decide +kernel
theorem d_MM_noObject_5 : decode b_MM_noObject 5 = .ok (.bipush 39, 2) := by decide +kernel
theorem d_MM_noObject_7 : decode b_MM_noObject 7 = .ok (.if_icmp .gt 12, 3) := by decide +kernel
theorem d_MM_noObject_10 : decode b_MM_noObject 10 = .ok (.aload_n 0, 1) := by decide +kernel
theorem d_MM_noObject_11 : decode b_MM_noObject 11 = .ok (.getfield 26, 3) := by decide +kernel
theorem d_MM_noObject_14 : decode b_MM_noObject 14 = .ok (.iload_n 1, 1) := by decide +kernel
theorem d_MM_noObject_15 : decode b_MM_noObject 15 = .ok (.iaload, 1) := by decide +kernel
theorem d_MM_noObject_16 : decode b_MM_noObject 16 = .ok (.ifCond .ge 7, 3) := by decide +kernel
theorem d_MM_noObject_19 : decode b_MM_noObject 19 = .ok (.iconst 1, 1) := by decide +kernel
theorem d_MM_noObject_20 : decode b_MM_noObject 20 = .ok (.goto 4, 3) := by decide +kernel
theorem d_MM_noObject_23 : decode b_MM_noObject 23 = .ok (.iconst 0, 1) := by decide +kernel
theorem d_MM_noObject_24 : decode b_MM_noObject 24 = .ok (.ireturn, 1) := by decide +kernel
theorem d_MM_used_0 : decode b_MM_used 0 = .ok (.iconst 0, 1) := by decide +kernel
theorem d_MM_used_1 : decode b_MM_used 1 = .ok (.istore_n 2, 1) := by decide +kernel
theorem d_MM_used_2 : decode b_MM_used 2 = .ok (.iconst 0, 1) := by decide +kernel
theorem d_MM_used_3 : decode b_MM_used 3 = .ok (.istore_n 3, 1) := by decide +kernel
theorem d_MM_used_4 : decode b_MM_used 4 = .ok (.iload_n 3, 1) := by decide +kernel
theorem d_MM_used_5 : decode b_MM_used 5 = .ok (.bipush 40, 2) := by decide +kernel
theorem d_MM_used_7 : decode b_MM_used 7 = .ok (.if_icmp .ge 30, 3) := by decide +kernel
theorem d_MM_used_10 : decode b_MM_used 10 = .ok (.aload_n 0, 1) := by decide +kernel
theorem d_MM_used_11 : decode b_MM_used 11 = .ok (.getfield 26, 3) := by decide +kernel
theorem d_MM_used_14 : decode b_MM_used 14 = .ok (.iload_n 3, 1) := by decide +kernel
theorem d_MM_used_15 : decode b_MM_used 15 = .ok (.iaload, 1) := by decide +kernel
theorem d_MM_used_16 : decode b_MM_used 16 = .ok (.iload_n 1, 1) := by decide +kernel
theorem d_MM_used_17 : decode b_MM_used 17 = .ok (.if_icmp .ne 14, 3) := by decide +kernel
theorem d_MM_used_20 : decode b_MM_used 20 = .ok (.iload_n 2, 1) := by decide +kernel
theorem d_MM_used_21 : decode b_MM_used 21 = .ok (.iconst 1, 1) := by decide +kernel
theorem d_MM_used_22 : decode b_MM_used 22 = .ok (.aload_n 0, 1) := by decide +kernel
theorem d_MM_used_23 : decode b_MM_used 23 = .ok (.getfield 29, 3) := by decide +kernel
theorem d_MM_used_26 : decode b_MM_used 26 = .ok (.iload_n 3, 1) := by decide +kernel
theorem d_MM_used_27 : decode b_MM_used 27 = .ok (.iaload, 1) := by decide +kernel
theorem d_MM_used_28 : decode b_MM_used 28 = .ok (.iadd, 1) := by decide +kernel
theorem d_MM_used_29 : decode b_MM_used 29 = .ok (.iadd, 1) := by decide +kernel
theorem d_MM_used_30 : decode b_MM_used 30 = .ok (.istore_n 2, 1) := by decide +kernel
theorem d_MM_used_31 : decode b_MM_used 31 = .ok (.iinc 3 1, 3) := by decide +kernel
theorem d_MM_used_34 : decode b_MM_used 34 = .ok (.goto (-30), 3) := by decide +kernel
theorem d_MM_used_37 : decode b_MM_used 37 = .ok (.iload_n 2, 1) := by decide +kernel
theorem d_MM_used_38 : decode b_MM_used 38 = .ok (.ireturn, 1) := by decide +kernel
theorem d_MM_scope_0 : decode b_MM_scope 0 = .ok (.iload_n 1, 1) := by decide +kernel
theorem d_MM_scope_1 : decode b_MM_scope 1 = .ok (.iconst 1, 1) := by decide +kernel
theorem d_MM_scope_2 : decode b_MM_scope 2 = .ok (.if_icmp .lt 9, 3) := by decide +kernel
theorem d_MM_scope_5 : decode b_MM_scope 5 = .ok (.iload_n 1, 1) := by decide +kernel
theorem d_MM_scope_6 : decode b_MM_scope 6 = .ok (.bipush 40, 2) := by decide +kernel
theorem d_MM_scope_8 : decode b_MM_scope 8 = .ok (.if_icmp .le 5, 3) := by decide +kernel
theorem d_MM_scope_11 : decode b_MM_scope 11 = .ok (.iconst (-1), 1) := by decide +kernel
theorem d_MM_scope_12 : decode b_MM_scope 12 = .ok (.ireturn, 1) := by decide +kernel
theorem d_MM_scope_13 : decode b_MM_scope 13 = .ok (.aload_n 0, 1) := by decide +kernel
theorem d_MM_scope_14 : decode b_MM_scope 14 = .ok (.getfield 7, 3) := by decide +kernel
theorem d_MM_scope_17 : decode b_MM_scope 17 = .ok (.bipush 10, 2) := by decide +kernel
theorem d_MM_scope_19 : decode b_MM_scope 19 = .ok (.if_icmp .ne 6, 3) := by decide +kernel
theorem d_MM_scope_22 : decode b_MM_scope 22 = .ok (.bipush (-2), 2) := by decide +kernel
theorem d_MM_scope_24 : decode b_MM_scope 24 = .ok (.ireturn, 1) := by decide +kernel
theorem d_MM_scope_25 : decode b_MM_scope 25 = .ok (.aload_n 0, 1) := by decide +kernel
theorem d_MM_scope_26 : decode b_MM_scope 26 = .ok (.getfield 13, 3) := by decide +kernel
theorem d_MM_scope_29 : decode b_MM_scope 29 = .ok (.aload_n 0, 1) := by decide +kernel
theorem d_MM_scope_30 : decode b_MM_scope 30 = .ok (.getfield 7, 3) := by decide +kernel
theorem d_MM_scope_33 : decode b_MM_scope 33 = .ok (.iload_n 1, 1) := by decide +kernel
theorem d_MM_scope_34 : decode b_MM_scope 34 = .ok (.iastore, 1) := by decide +kernel
theorem d_MM_scope_35 : decode b_MM_scope 35 = .ok (.aload_n 0, 1) := by decide +kernel
theorem d_MM_scope_36 : decode b_MM_scope 36 = .ok (.dup, 1) := by decide +kernel
theorem d_MM_scope_37 : decode b_MM_scope 37 = .ok (.getfield 7, 3) := by decide +kernel
theorem d_MM_scope_40 : decode b_MM_scope 40 = .ok (.iconst 1, 1) := by decide +kernel
theorem d_MM_scope_41 : decode b_MM_scope 41 = .ok (.iadd, 1) := by decide +kernel
theorem d_MM_scope_42 : decode b_MM_scope 42 = .ok (.putfield 7, 3) := by decide +kernel
theorem d_MM_scope_45 : decode b_MM_scope 45 = .ok (.aload_n 0, 1) := by decide +kernel
theorem d_MM_scope_46 : decode b_MM_scope 46 = .ok (.getfield 7, 3) := by decide +kernel
theorem d_MM_scope_49 : decode b_MM_scope 49 = .ok (.iconst 1, 1) := by decide +kernel
theorem d_MM_scope_50 : decode b_MM_scope 50 = .ok (.isub, 1) := by decide +kernel
theorem d_MM_scope_51 : decode b_MM_scope 51 = .ok (.ireturn, 1) := by decide +kernel
theorem d_MM_begin_0 : decode b_MM_begin 0 = .ok (.iload_n 1, 1) := by decide +kernel
theorem d_MM_begin_1 : decode b_MM_begin 1 = .ok (.ifCond .lt 17, 3) := by decide +kernel
theorem d_MM_begin_4 : decode b_MM_begin 4 = .ok (.iload_n 1, 1) := by decide +kernel
theorem d_MM_begin_5 : decode b_MM_begin 5 = .ok (.iconst 3, 1) := by decide +kernel
theorem d_MM_begin_6 : decode b_MM_begin 6 = .ok (.if_icmp .gt 12, 3) := by decide +kernel
theorem d_MM_begin_9 : decode b_MM_begin 9 = .ok (.aload_n 0, 1) := by decide +kernel
theorem d_MM_begin_10 : decode b_MM_begin 10 = .ok (.getfield 39, 3) := by decide +kernel
theorem d_MM_begin_13 : decode b_MM_begin 13 = .ok (.iload_n 1, 1) := by decide +kernel
theorem d_MM_begin_14 : decode b_MM_begin 14 = .ok (.baload, 1) := by decide +kernel
theorem d_MM_begin_15 : decode b_MM_begin 15 = .ok (.ifCond .eq 5, 3) := by decide +kernel
theorem d_MM_begin_18 : decode b_MM_begin 18 = .ok (.iconst (-1), 1) := by decide +kernel
theorem d_MM_begin_19 : decode b_MM_begin 19 = .ok (.ireturn, 1) := by decide +kernel
theorem d_MM_begin_20 : decode b_MM_begin 20 = .ok (.aload_n 0, 1) := by decide +kernel
theorem d_MM_begin_21 : decode b_MM_begin 21 = .ok (.getfield 39, 3) := by decide +kernel
theorem d_MM_begin_24 : decode b_MM_begin 24 = .ok (.iload_n 1, 1) := by decide +kernel
theorem d_MM_begin_25 : decode b_MM_begin 25 = .ok (.iconst 1, 1) := by decide +kernel
theorem d_MM_begin_26 : decode b_MM_begin 26 = .ok (.bastore, 1) := by decide +kernel
theorem d_MM_begin_27 : decode b_MM_begin 27 = .ok (.aload_n 0, 1) := by decide +kernel
theorem d_MM_begin_28 : decode b_MM_begin 28 = .ok (.getfield 42, 3) := by decide +kernel
theorem d_MM_begin_31 : decode b_MM_begin 31 = .ok (.iload_n 1, 1) := by decide +kernel
theorem d_MM_begin_32 : decode b_MM_begin 32 = .ok (.iload_n 2, 1) := by decide +kernel
theorem d_MM_begin_33 : decode b_MM_begin 33 = .ok (.bastore, 1) := by decide +kernel
theorem d_MM_begin_34 : decode b_MM_begin 34 = .ok (.aload_n 0, 1) := by decide +kernel
theorem d_MM_begin_35 : decode b_MM_begin 35 = .ok (.getfield 45, 3) := by decide +kernel
theorem d_MM_begin_38 : decode b_MM_begin 38 = .ok (.iload_n 1, 1) := by decide +kernel
theorem d_MM_begin_39 : decode b_MM_begin 39 = .ok (.iconst 0, 1) := by decide +kernel
theorem d_MM_begin_40 : decode b_MM_begin 40 = .ok (.iastore, 1) := by decide +kernel
theorem d_MM_begin_41 : decode b_MM_begin 41 = .ok (.aload_n 0, 1) := by decide +kernel
theorem d_MM_begin_42 : decode b_MM_begin 42 = .ok (.iload_n 1, 1) := by decide +kernel
theorem d_MM_begin_43 : decode b_MM_begin 43 = .ok (.iload_n 2, 1) := by decide +kernel
theorem d_MM_begin_44 : decode b_MM_begin 44 = .ok (.ifCond .eq 7, 3) := by decide +kernel
theorem d_MM_begin_47 : decode b_MM_begin 47 = .ok (.iconst 1, 1) := by decide +kernel
theorem d_MM_begin_48 : decode b_MM_begin 48 = .ok (.goto 4, 3) := by decide +kernel
theorem d_MM_begin_51 : decode b_MM_begin 51 = .ok (.iconst 0, 1) := by decide +kernel
theorem d_MM_begin_52 : decode b_MM_begin 52 = .ok (.iconst (-1), 1) := by decide +kernel
theorem d_MM_begin_53 : decode b_MM_begin 53 = .ok (.iconst 0, 1) := by decide +kernel
theorem d_MM_begin_54 : decode b_MM_begin 54 = .ok (.invokevirtual 64, 3) := by decide +kernel
theorem d_MM_begin_57 : decode b_MM_begin 57 = .ok (.pop, 1) := by decide +kernel
theorem d_MM_begin_58 : decode b_MM_begin 58 = .ok (.iconst 0, 1) := by decide +kernel
theorem d_MM_begin_59 : decode b_MM_begin 59 = .ok (.ireturn, 1) := by decide +kernel
theorem d_MM_step_0 : decode b_MM_step 0 = .ok (.iload_n 1, 1) := by decide +kernel
theorem d_MM_step_1 : decode b_MM_step 1 = .ok (.bipush 12, 2) := by decide +kernel
theorem d_MM_step_3 : decode b_MM_step 3 = .ok (.imul, 1) := by decide +kernel
theorem d_MM_step_4 : decode b_MM_step 4 = .ok (.aload_n 0, 1) := by decide +kernel
theorem d_MM_step_5 : decode b_MM_step 5 = .ok (.getfield 45, 3) := by decide +kernel
theorem d_MM_step_8 : decode b_MM_step 8 = .ok (.iload_n 1, 1) := by decide +kernel
theorem d_MM_step_9 : decode b_MM_step 9 = .ok (.iaload, 1) := by decide +kernel
theorem d_MM_step_10 : decode b_MM_step 10 = .ok (.iadd, 1) := by decide +kernel
theorem d_MM_step_11 : decode b_MM_step 11 = .ok (.istore 5, 2) := by decide +kernel
theorem d_MM_step_13 : decode b_MM_step 13 = .ok (.aload_n 0, 1) := by decide +kernel
theorem d_MM_step_14 : decode b_MM_step 14 = .ok (.getfield 48, 3) := by decide +kernel
theorem d_MM_step_17 : decode b_MM_step 17 = .ok (.iload 5, 2) := by decide +kernel
theorem d_MM_step_19 : decode b_MM_step 19 = .ok (.iload_n 2, 1) := by decide +kernel
theorem d_MM_step_20 : decode b_MM_step 20 = .ok (.iastore, 1) := by decide +kernel
theorem d_MM_step_21 : decode b_MM_step 21 = .ok (.aload_n 0, 1) := by decide +kernel
theorem d_MM_step_22 : decode b_MM_step 22 = .ok (.getfield 51, 3) := by decide +kernel
theorem d_MM_step_25 : decode b_MM_step 25 = .ok (.iload 5, 2) := by decide +kernel
theorem d_MM_step_27 : decode b_MM_step 27 = .ok (.iload_n 3, 1) := by decide +kernel
theorem d_MM_step_28 : decode b_MM_step 28 = .ok (.iastore, 1) := by decide +kernel
theorem d_MM_step_29 : decode b_MM_step 29 = .ok (.aload_n 0, 1) := by decide +kernel
theorem d_MM_step_30 : decode b_MM_step 30 = .ok (.getfield 54, 3) := by decide +kernel
theorem d_MM_step_33 : decode b_MM_step 33 = .ok (.iload 5, 2) := by decide +kernel
theorem d_MM_step_35 : decode b_MM_step 35 = .ok (.iload 4, 2) := by decide +kernel
theorem d_MM_step_37 : decode b_MM_step 37 = .ok (.bastore, 1) := by decide +kernel
theorem d_MM_step_38 : decode b_MM_step 38 = .ok (.aload_n 0, 1) := by decide +kernel
theorem d_MM_step_39 : decode b_MM_step 39 = .ok (.getfield 45, 3) := by decide +kernel
theorem d_MM_step_42 : decode b_MM_step 42 = .ok (.iload_n 1, 1) := by decide +kernel
theorem d_MM_step_43 : decode b_MM_step 43 = .ok (.dup2, 1) := by decide +kernel
theorem d_MM_step_44 : decode b_MM_step 44 = .ok (.iaload, 1) := by decide +kernel
theorem d_MM_step_45 : decode b_MM_step 45 = .ok (.iconst 1, 1) := by decide +kernel
theorem d_MM_step_46 : decode b_MM_step 46 = .ok (.iadd, 1) := by decide +kernel
theorem d_MM_step_47 : decode b_MM_step 47 = .ok (.iastore, 1) := by decide +kernel
theorem d_MM_step_48 : decode b_MM_step 48 = .ok (.aload_n 0, 1) := by decide +kernel
theorem d_MM_step_49 : decode b_MM_step 49 = .ok (.getfield 45, 3) := by decide +kernel
theorem d_MM_step_52 : decode b_MM_step 52 = .ok (.iload_n 1, 1) := by decide +kernel
theorem d_MM_step_53 : decode b_MM_step 53 = .ok (.iaload, 1) := by decide +kernel
theorem d_MM_step_54 : decode b_MM_step 54 = .ok (.ireturn, 1) := by decide +kernel
theorem d_MM_viewed_0 : decode b_MM_viewed 0 = .ok (.aload_n 0, 1) := by decide +kernel
theorem d_MM_viewed_1 : decode b_MM_viewed 1 = .ok (.getfield 45, 3) := by decide +kernel
theorem d_MM_viewed_4 : decode b_MM_viewed 4 = .ok (.iload_n 1, 1) := by decide +kernel
theorem d_MM_viewed_5 : decode b_MM_viewed 5 = .ok (.iaload, 1) := by decide +kernel
theorem d_MM_viewed_6 : decode b_MM_viewed 6 = .ok (.iconst 1, 1) := by decide +kernel
theorem d_MM_viewed_7 : decode b_MM_viewed 7 = .ok (.isub, 1) := by decide +kernel
theorem d_MM_viewed_8 : decode b_MM_viewed 8 = .ok (.istore_n 3, 1) := by decide +kernel
theorem d_MM_viewed_9 : decode b_MM_viewed 9 = .ok (.iconst 0, 1) := by decide +kernel
theorem d_MM_viewed_10 : decode b_MM_viewed 10 = .ok (.istore 4, 2) := by decide +kernel
theorem d_MM_viewed_12 : decode b_MM_viewed 12 = .ok (.iload 4, 2) := by decide +kernel
theorem d_MM_viewed_14 : decode b_MM_viewed 14 = .ok (.iload_n 2, 1) := by decide +kernel
theorem d_MM_viewed_15 : decode b_MM_viewed 15 = .ok (.if_icmp .ge 25, 3) := by decide +kernel
theorem d_MM_viewed_18 : decode b_MM_viewed 18 = .ok (.iload_n 3, 1) := by decide +kernel
theorem d_MM_viewed_19 : decode b_MM_viewed 19 = .ok (.ifCond .lt 21, 3) := by decide +kernel
theorem d_MM_viewed_22 : decode b_MM_viewed 22 = .ok (.aload_n 0, 1) := by decide +kernel
theorem d_MM_viewed_23 : decode b_MM_viewed 23 = .ok (.getfield 51, 3) := by decide +kernel
theorem d_MM_viewed_26 : decode b_MM_viewed 26 = .ok (.iload_n 1, 1) := by decide +kernel
theorem d_MM_viewed_27 : decode b_MM_viewed 27 = .ok (.bipush 12, 2) := by decide +kernel
theorem d_MM_viewed_29 : decode b_MM_viewed 29 = .ok (.imul, 1) := by decide +kernel
theorem d_MM_viewed_30 : decode b_MM_viewed 30 = .ok (.iload_n 3, 1) := by decide +kernel
theorem d_MM_viewed_31 : decode b_MM_viewed 31 = .ok (.iadd, 1) := by decide +kernel
theorem d_MM_viewed_32 : decode b_MM_viewed 32 = .ok (.iaload, 1) := by decide +kernel
theorem d_MM_viewed_33 : decode b_MM_viewed 33 = .ok (.istore_n 3, 1) := by decide +kernel
theorem d_MM_viewed_34 : decode b_MM_viewed 34 = .ok (.iinc 4 1, 3) := by decide +kernel
theorem d_MM_viewed_37 : decode b_MM_viewed 37 = .ok (.goto (-25), 3) := by decide +kernel
theorem d_MM_viewed_40 : decode b_MM_viewed 40 = .ok (.iload_n 3, 1) := by decide +kernel
theorem d_MM_viewed_41 : decode b_MM_viewed 41 = .ok (.ireturn, 1) := by decide +kernel
theorem d_MM_stepWith_0 : decode b_MM_stepWith 0 = .ok (.iconst 0, 1) := by decide +kernel
theorem d_MM_stepWith_1 : decode b_MM_stepWith 1 = .ok (.istore_n 3, 1) := by decide +kernel
theorem d_MM_stepWith_2 : decode b_MM_stepWith 2 = .ok (.iload_n 3, 1) := by decide +kernel
theorem d_MM_stepWith_3 : decode b_MM_stepWith 3 = .ok (.bipush 12, 2) := by decide +kernel
theorem d_MM_stepWith_5 : decode b_MM_stepWith 5 = .ok (.if_icmp .ge 43, 3) := by decide +kernel
theorem d_MM_stepWith_8 : decode b_MM_stepWith 8 = .ok (.aload_n 0, 1) := by decide +kernel
theorem d_MM_stepWith_9 : decode b_MM_stepWith 9 = .ok (.iload_n 1, 1) := by decide +kernel
theorem d_MM_stepWith_10 : decode b_MM_stepWith 10 = .ok (.iload_n 3, 1) := by decide +kernel
theorem d_MM_stepWith_11 : decode b_MM_stepWith 11 = .ok (.invokevirtual 68, 3) := by decide +kernel
theorem d_MM_stepWith_14 : decode b_MM_stepWith 14 = .ok (.istore 4, 2) := by decide +kernel
theorem d_MM_stepWith_16 : decode b_MM_stepWith 16 = .ok (.iload 4, 2) := by decide +kernel
theorem d_MM_stepWith_18 : decode b_MM_stepWith 18 = .ok (.ifCond .ge 5, 3) := by decide +kernel
theorem d_MM_stepWith_21 : decode b_MM_stepWith 21 = .ok (.iconst (-1), 1) := by decide +kernel
theorem d_MM_stepWith_22 : decode b_MM_stepWith 22 = .ok (.ireturn, 1) := by decide +kernel
theorem d_MM_stepWith_23 : decode b_MM_stepWith 23 = .ok (.aload_n 0, 1) := by decide +kernel
theorem d_MM_stepWith_24 : decode b_MM_stepWith 24 = .ok (.getfield 48, 3) := by decide +kernel
theorem d_MM_stepWith_27 : decode b_MM_stepWith 27 = .ok (.iload_n 1, 1) := by decide +kernel
theorem d_MM_stepWith_28 : decode b_MM_stepWith 28 = .ok (.bipush 12, 2) := by decide +kernel
theorem d_MM_stepWith_30 : decode b_MM_stepWith 30 = .ok (.imul, 1) := by decide +kernel
theorem d_MM_stepWith_31 : decode b_MM_stepWith 31 = .ok (.iload 4, 2) := by decide +kernel
theorem d_MM_stepWith_33 : decode b_MM_stepWith 33 = .ok (.iadd, 1) := by decide +kernel
theorem d_MM_stepWith_34 : decode b_MM_stepWith 34 = .ok (.iaload, 1) := by decide +kernel
theorem d_MM_stepWith_35 : decode b_MM_stepWith 35 = .ok (.iload_n 2, 1) := by decide +kernel
theorem d_MM_stepWith_36 : decode b_MM_stepWith 36 = .ok (.if_icmp .ne 6, 3) := by decide +kernel
theorem d_MM_stepWith_39 : decode b_MM_stepWith 39 = .ok (.iload 4, 2) := by decide +kernel
theorem d_MM_stepWith_41 : decode b_MM_stepWith 41 = .ok (.ireturn, 1) := by decide +kernel
theorem d_MM_stepWith_42 : decode b_MM_stepWith 42 = .ok (.iinc 3 1, 3) := by decide +kernel
theorem d_MM_stepWith_45 : decode b_MM_stepWith 45 = .ok (.goto (-43), 3) := by decide +kernel
theorem d_MM_stepWith_48 : decode b_MM_stepWith 48 = .ok (.iconst (-1), 1) := by decide +kernel
theorem d_MM_stepWith_49 : decode b_MM_stepWith 49 = .ok (.ireturn, 1) := by decide +kernel
theorem d_MM_nearest_0 : decode b_MM_nearest 0 = .ok (.iconst 0, 1) := by decide +kernel
theorem d_MM_nearest_1 : decode b_MM_nearest 1 = .ok (.istore_n 2, 1) := by decide +kernel
theorem d_MM_nearest_2 : decode b_MM_nearest 2 = .ok (.iload_n 2, 1) := by decide +kernel
theorem d_MM_nearest_3 : decode b_MM_nearest 3 = .ok (.bipush 12, 2) := by decide +kernel
theorem d_MM_nearest_5 : decode b_MM_nearest 5 = .ok (.if_icmp .ge 49, 3) := by decide +kernel
theorem d_MM_nearest_8 : decode b_MM_nearest 8 = .ok (.aload_n 0, 1) := by decide +kernel
theorem d_MM_nearest_9 : decode b_MM_nearest 9 = .ok (.iload_n 1, 1) := by decide +kernel
theorem d_MM_nearest_10 : decode b_MM_nearest 10 = .ok (.iload_n 2, 1) := by decide +kernel
theorem d_MM_nearest_11 : decode b_MM_nearest 11 = .ok (.invokevirtual 68, 3) := by decide +kernel
theorem d_MM_nearest_14 : decode b_MM_nearest 14 = .ok (.istore_n 3, 1) := by decide +kernel
theorem d_MM_nearest_15 : decode b_MM_nearest 15 = .ok (.iload_n 3, 1) := by decide +kernel
theorem d_MM_nearest_16 : decode b_MM_nearest 16 = .ok (.ifCond .ge 5, 3) := by decide +kernel
theorem d_MM_nearest_19 : decode b_MM_nearest 19 = .ok (.iconst 0, 1) := by decide +kernel
theorem d_MM_nearest_20 : decode b_MM_nearest 20 = .ok (.ireturn, 1) := by decide +kernel
theorem d_MM_nearest_21 : decode b_MM_nearest 21 = .ok (.aload_n 0, 1) := by decide +kernel
theorem d_MM_nearest_22 : decode b_MM_nearest 22 = .ok (.getfield 48, 3) := by decide +kernel
theorem d_MM_nearest_25 : decode b_MM_nearest 25 = .ok (.iload_n 1, 1) := by decide +kernel
theorem d_MM_nearest_26 : decode b_MM_nearest 26 = .ok (.bipush 12, 2) := by decide +kernel
theorem d_MM_nearest_28 : decode b_MM_nearest 28 = .ok (.imul, 1) := by decide +kernel
theorem d_MM_nearest_29 : decode b_MM_nearest 29 = .ok (.iload_n 3, 1) := by decide +kernel
theorem d_MM_nearest_30 : decode b_MM_nearest 30 = .ok (.iadd, 1) := by decide +kernel
theorem d_MM_nearest_31 : decode b_MM_nearest 31 = .ok (.iaload, 1) := by decide +kernel
theorem d_MM_nearest_32 : decode b_MM_nearest 32 = .ok (.iconst 1, 1) := by decide +kernel
theorem d_MM_nearest_33 : decode b_MM_nearest 33 = .ok (.if_icmp .le 15, 3) := by decide +kernel
theorem d_MM_nearest_36 : decode b_MM_nearest 36 = .ok (.aload_n 0, 1) := by decide +kernel
theorem d_MM_nearest_37 : decode b_MM_nearest 37 = .ok (.getfield 48, 3) := by decide +kernel
theorem d_MM_nearest_40 : decode b_MM_nearest 40 = .ok (.iload_n 1, 1) := by decide +kernel
theorem d_MM_nearest_41 : decode b_MM_nearest 41 = .ok (.bipush 12, 2) := by decide +kernel
theorem d_MM_nearest_43 : decode b_MM_nearest 43 = .ok (.imul, 1) := by decide +kernel
theorem d_MM_nearest_44 : decode b_MM_nearest 44 = .ok (.iload_n 3, 1) := by decide +kernel
theorem d_MM_nearest_45 : decode b_MM_nearest 45 = .ok (.iadd, 1) := by decide +kernel
theorem d_MM_nearest_46 : decode b_MM_nearest 46 = .ok (.iaload, 1) := by decide +kernel
theorem d_MM_nearest_47 : decode b_MM_nearest 47 = .ok (.ireturn, 1) := by decide +kernel
theorem d_MM_nearest_48 : decode b_MM_nearest 48 = .ok (.iinc 2 1, 3) := by decide +kernel
theorem d_MM_nearest_51 : decode b_MM_nearest 51 = .ok (.goto (-49), 3) := by decide +kernel
theorem d_MM_nearest_54 : decode b_MM_nearest 54 = .ok (.iconst 0, 1) := by decide +kernel
theorem d_MM_nearest_55 : decode b_MM_nearest 55 = .ok (.ireturn, 1) := by decide +kernel
theorem d_MM_enter_0 : decode b_MM_enter 0 = .ok (.aload_n 0, 1) := by decide +kernel
theorem d_MM_enter_1 : decode b_MM_enter 1 = .ok (.iload_n 1, 1) := by decide +kernel
theorem d_MM_enter_2 : decode b_MM_enter 2 = .ok (.invokevirtual 72, 3) := by decide +kernel
theorem d_MM_enter_5 : decode b_MM_enter 5 = .ok (.ifCond .ne 11, 3) := by decide +kernel
theorem d_MM_enter_8 : decode b_MM_enter 8 = .ok (.aload_n 0, 1) := by decide +kernel
theorem d_MM_enter_9 : decode b_MM_enter 9 = .ok (.iload_n 2, 1) := by decide +kernel
theorem d_MM_enter_10 : decode b_MM_enter 10 = .ok (.invokevirtual 76, 3) := by decide +kernel
theorem d_MM_enter_13 : decode b_MM_enter 13 = .ok (.ifCond .eq 5, 3) := by decide +kernel
theorem d_MM_enter_16 : decode b_MM_enter 16 = .ok (.iconst (-1), 1) := by decide +kernel
theorem d_MM_enter_17 : decode b_MM_enter 17 = .ok (.ireturn, 1) := by decide +kernel
theorem d_MM_enter_18 : decode b_MM_enter 18 = .ok (.aload_n 0, 1) := by decide +kernel
theorem d_MM_enter_19 : decode b_MM_enter 19 = .ok (.iload_n 1, 1) := by decide +kernel
theorem d_MM_enter_20 : decode b_MM_enter 20 = .ok (.iload_n 2, 1) := by decide +kernel
theorem d_MM_enter_21 : decode b_MM_enter 21 = .ok (.invokevirtual 79, 3) := by decide +kernel
theorem d_MM_enter_24 : decode b_MM_enter 24 = .ok (.ifCond .ge 26, 3) := by decide +kernel
theorem d_MM_enter_27 : decode b_MM_enter 27 = .ok (.aload_n 0, 1) := by decide +kernel
theorem d_MM_enter_28 : decode b_MM_enter 28 = .ok (.getfield 17, 3) := by decide +kernel
theorem d_MM_enter_31 : decode b_MM_enter 31 = .ok (.iload_n 2, 1) := by decide +kernel
theorem d_MM_enter_32 : decode b_MM_enter 32 = .ok (.iaload, 1) := by decide +kernel
theorem d_MM_enter_33 : decode b_MM_enter 33 = .ok (.ifCond .le 20, 3) := by decide +kernel
theorem d_MM_enter_36 : decode b_MM_enter 36 = .ok (.aload_n 0, 1) := by decide +kernel
theorem d_MM_enter_37 : decode b_MM_enter 37 = .ok (.getfield 20, 3) := by decide +kernel
theorem d_MM_enter_40 : decode b_MM_enter 40 = .ok (.iload_n 2, 1) := by decide +kernel
theorem d_MM_enter_41 : decode b_MM_enter 41 = .ok (.iaload, 1) := by decide +kernel
theorem d_MM_enter_42 : decode b_MM_enter 42 = .ok (.aload_n 0, 1) := by decide +kernel
theorem d_MM_enter_43 : decode b_MM_enter 43 = .ok (.iload_n 1, 1) := by decide +kernel
theorem d_MM_enter_44 : decode b_MM_enter 44 = .ok (.invokevirtual 82, 3) := by decide +kernel
theorem d_MM_enter_47 : decode b_MM_enter 47 = .ok (.if_icmp .eq 6, 3) := by decide +kernel
theorem d_MM_enter_50 : decode b_MM_enter 50 = .ok (.bipush (-3), 2) := by decide +kernel
theorem d_MM_enter_52 : decode b_MM_enter 52 = .ok (.ireturn, 1) := by decide +kernel
theorem d_MM_enter_53 : decode b_MM_enter 53 = .ok (.aload_n 0, 1) := by decide +kernel
theorem d_MM_enter_54 : decode b_MM_enter 54 = .ok (.getfield 45, 3) := by decide +kernel
theorem d_MM_enter_57 : decode b_MM_enter 57 = .ok (.iload_n 1, 1) := by decide +kernel
theorem d_MM_enter_58 : decode b_MM_enter 58 = .ok (.iaload, 1) := by decide +kernel
theorem d_MM_enter_59 : decode b_MM_enter 59 = .ok (.bipush 12, 2) := by decide +kernel
theorem d_MM_enter_61 : decode b_MM_enter 61 = .ok (.if_icmp .ne 6, 3) := by decide +kernel
theorem d_MM_enter_64 : decode b_MM_enter 64 = .ok (.bipush (-2), 2) := by decide +kernel
theorem d_MM_enter_66 : decode b_MM_enter 66 = .ok (.ireturn, 1) := by decide +kernel
theorem d_MM_enter_67 : decode b_MM_enter 67 = .ok (.aload_n 0, 1) := by decide +kernel
theorem d_MM_enter_68 : decode b_MM_enter 68 = .ok (.getfield 17, 3) := by decide +kernel
theorem d_MM_enter_71 : decode b_MM_enter 71 = .ok (.iload_n 2, 1) := by decide +kernel
theorem d_MM_enter_72 : decode b_MM_enter 72 = .ok (.iaload, 1) := by decide +kernel
theorem d_MM_enter_73 : decode b_MM_enter 73 = .ok (.ifCond .ne 14, 3) := by decide +kernel
theorem d_MM_enter_76 : decode b_MM_enter 76 = .ok (.aload_n 0, 1) := by decide +kernel
theorem d_MM_enter_77 : decode b_MM_enter 77 = .ok (.getfield 20, 3) := by decide +kernel
theorem d_MM_enter_80 : decode b_MM_enter 80 = .ok (.iload_n 2, 1) := by decide +kernel
theorem d_MM_enter_81 : decode b_MM_enter 81 = .ok (.aload_n 0, 1) := by decide +kernel
theorem d_MM_enter_82 : decode b_MM_enter 82 = .ok (.iload_n 1, 1) := by decide +kernel
theorem d_MM_enter_83 : decode b_MM_enter 83 = .ok (.invokevirtual 82, 3) := by decide +kernel
theorem d_MM_enter_86 : decode b_MM_enter 86 = .ok (.iastore, 1) := by decide +kernel
theorem d_MM_enter_87 : decode b_MM_enter 87 = .ok (.aload_n 0, 1) := by decide +kernel
theorem d_MM_enter_88 : decode b_MM_enter 88 = .ok (.iload_n 1, 1) := by decide +kernel
theorem d_MM_enter_89 : decode b_MM_enter 89 = .ok (.iload_n 2, 1) := by decide +kernel
theorem d_MM_enter_90 : decode b_MM_enter 90 = .ok (.aload_n 0, 1) := by decide +kernel
theorem d_MM_enter_91 : decode b_MM_enter 91 = .ok (.getfield 45, 3) := by decide +kernel
theorem d_MM_enter_94 : decode b_MM_enter 94 = .ok (.iload_n 1, 1) := by decide +kernel
theorem d_MM_enter_95 : decode b_MM_enter 95 = .ok (.iaload, 1) := by decide +kernel
theorem d_MM_enter_96 : decode b_MM_enter 96 = .ok (.iconst 1, 1) := by decide +kernel
theorem d_MM_enter_97 : decode b_MM_enter 97 = .ok (.isub, 1) := by decide +kernel
theorem d_MM_enter_98 : decode b_MM_enter 98 = .ok (.iconst 1, 1) := by decide +kernel
theorem d_MM_enter_99 : decode b_MM_enter 99 = .ok (.invokevirtual 64, 3) := by decide +kernel
theorem d_MM_enter_102 : decode b_MM_enter 102 = .ok (.pop, 1) := by decide +kernel
theorem d_MM_enter_103 : decode b_MM_enter 103 = .ok (.aload_n 0, 1) := by decide +kernel
theorem d_MM_enter_104 : decode b_MM_enter 104 = .ok (.getfield 17, 3) := by decide +kernel
theorem d_MM_enter_107 : decode b_MM_enter 107 = .ok (.iload_n 2, 1) := by decide +kernel
theorem d_MM_enter_108 : decode b_MM_enter 108 = .ok (.dup2, 1) := by decide +kernel
theorem d_MM_enter_109 : decode b_MM_enter 109 = .ok (.iaload, 1) := by decide +kernel
theorem d_MM_enter_110 : decode b_MM_enter 110 = .ok (.iconst 1, 1) := by decide +kernel
theorem d_MM_enter_111 : decode b_MM_enter 111 = .ok (.iadd, 1) := by decide +kernel
theorem d_MM_enter_112 : decode b_MM_enter 112 = .ok (.iastore, 1) := by decide +kernel
theorem d_MM_enter_113 : decode b_MM_enter 113 = .ok (.aload_n 0, 1) := by decide +kernel
theorem d_MM_enter_114 : decode b_MM_enter 114 = .ok (.getfield 17, 3) := by decide +kernel
theorem d_MM_enter_117 : decode b_MM_enter 117 = .ok (.iload_n 2, 1) := by decide +kernel
theorem d_MM_enter_118 : decode b_MM_enter 118 = .ok (.iaload, 1) := by decide +kernel
theorem d_MM_enter_119 : decode b_MM_enter 119 = .ok (.ireturn, 1) := by decide +kernel
theorem d_MM_turn_0 : decode b_MM_turn 0 = .ok (.aload_n 0, 1) := by decide +kernel
theorem d_MM_turn_1 : decode b_MM_turn 1 = .ok (.iload_n 1, 1) := by decide +kernel
theorem d_MM_turn_2 : decode b_MM_turn 2 = .ok (.invokevirtual 72, 3) := by decide +kernel
theorem d_MM_turn_5 : decode b_MM_turn 5 = .ok (.ifCond .ne 11, 3) := by decide +kernel
theorem d_MM_turn_8 : decode b_MM_turn 8 = .ok (.aload_n 0, 1) := by decide +kernel
theorem d_MM_turn_9 : decode b_MM_turn 9 = .ok (.iload_n 2, 1) := by decide +kernel
theorem d_MM_turn_10 : decode b_MM_turn 10 = .ok (.invokevirtual 85, 3) := by decide +kernel
theorem d_MM_turn_13 : decode b_MM_turn 13 = .ok (.ifCond .eq 5, 3) := by decide +kernel
theorem d_MM_turn_16 : decode b_MM_turn 16 = .ok (.iconst (-1), 1) := by decide +kernel
theorem d_MM_turn_17 : decode b_MM_turn 17 = .ok (.ireturn, 1) := by decide +kernel
theorem d_MM_turn_18 : decode b_MM_turn 18 = .ok (.iload_n 2, 1) := by decide +kernel
theorem d_MM_turn_19 : decode b_MM_turn 19 = .ok (.ifCond .ne 15, 3) := by decide +kernel
theorem d_MM_turn_22 : decode b_MM_turn 22 = .ok (.aload_n 0, 1) := by decide +kernel
theorem d_MM_turn_23 : decode b_MM_turn 23 = .ok (.getfield 42, 3) := by decide +kernel
theorem d_MM_turn_26 : decode b_MM_turn 26 = .ok (.iload_n 1, 1) := by decide +kernel
theorem d_MM_turn_27 : decode b_MM_turn 27 = .ok (.baload, 1) := by decide +kernel
theorem d_MM_turn_28 : decode b_MM_turn 28 = .ok (.ifCond .eq 6, 3) := by decide +kernel
theorem d_MM_turn_31 : decode b_MM_turn 31 = .ok (.bipush (-5), 2) := by decide +kernel
theorem d_MM_turn_33 : decode b_MM_turn 33 = .ok (.ireturn, 1) := by decide +kernel
theorem d_MM_turn_34 : decode b_MM_turn 34 = .ok (.iload_n 2, 1) := by decide +kernel
theorem d_MM_turn_35 : decode b_MM_turn 35 = .ok (.iconst 2, 1) := by decide +kernel
theorem d_MM_turn_36 : decode b_MM_turn 36 = .ok (.if_icmp .ge 7, 3) := by decide +kernel
theorem d_MM_turn_39 : decode b_MM_turn 39 = .ok (.iconst (-1), 1) := by decide +kernel
theorem d_MM_turn_40 : decode b_MM_turn 40 = .ok (.goto 9, 3) := by decide +kernel
theorem d_MM_turn_43 : decode b_MM_turn 43 = .ok (.aload_n 0, 1) := by decide +kernel
theorem d_MM_turn_44 : decode b_MM_turn 44 = .ok (.iload_n 1, 1) := by decide +kernel
theorem d_MM_turn_45 : decode b_MM_turn 45 = .ok (.iload_n 2, 1) := by decide +kernel
theorem d_MM_turn_46 : decode b_MM_turn 46 = .ok (.invokevirtual 79, 3) := by decide +kernel
theorem d_MM_turn_49 : decode b_MM_turn 49 = .ok (.istore_n 3, 1) := by decide +kernel
theorem d_MM_turn_50 : decode b_MM_turn 50 = .ok (.iload_n 2, 1) := by decide +kernel
theorem d_MM_turn_51 : decode b_MM_turn 51 = .ok (.iconst 1, 1) := by decide +kernel
theorem d_MM_turn_52 : decode b_MM_turn 52 = .ok (.if_icmp .le 10, 3) := by decide +kernel
theorem d_MM_turn_55 : decode b_MM_turn 55 = .ok (.iload_n 3, 1) := by decide +kernel
theorem d_MM_turn_56 : decode b_MM_turn 56 = .ok (.ifCond .ge 6, 3) := by decide +kernel
theorem d_MM_turn_59 : decode b_MM_turn 59 = .ok (.bipush (-4), 2) := by decide +kernel
theorem d_MM_turn_61 : decode b_MM_turn 61 = .ok (.ireturn, 1) := by decide +kernel
theorem d_MM_turn_62 : decode b_MM_turn 62 = .ok (.aload_n 0, 1) := by decide +kernel
theorem d_MM_turn_63 : decode b_MM_turn 63 = .ok (.getfield 45, 3) := by decide +kernel
theorem d_MM_turn_66 : decode b_MM_turn 66 = .ok (.iload_n 1, 1) := by decide +kernel
theorem d_MM_turn_67 : decode b_MM_turn 67 = .ok (.iaload, 1) := by decide +kernel
theorem d_MM_turn_68 : decode b_MM_turn 68 = .ok (.bipush 12, 2) := by decide +kernel
theorem d_MM_turn_70 : decode b_MM_turn 70 = .ok (.if_icmp .ne 6, 3) := by decide +kernel
theorem d_MM_turn_73 : decode b_MM_turn 73 = .ok (.bipush (-2), 2) := by decide +kernel
theorem d_MM_turn_75 : decode b_MM_turn 75 = .ok (.ireturn, 1) := by decide +kernel
theorem d_MM_turn_76 : decode b_MM_turn 76 = .ok (.aload_n 0, 1) := by decide +kernel
theorem d_MM_turn_77 : decode b_MM_turn 77 = .ok (.iload_n 1, 1) := by decide +kernel
theorem d_MM_turn_78 : decode b_MM_turn 78 = .ok (.iload_n 2, 1) := by decide +kernel
theorem d_MM_turn_79 : decode b_MM_turn 79 = .ok (.iload_n 3, 1) := by decide +kernel
theorem d_MM_turn_80 : decode b_MM_turn 80 = .ok (.ifCond .ge 7, 3) := by decide +kernel
theorem d_MM_turn_83 : decode b_MM_turn 83 = .ok (.iconst (-1), 1) := by decide +kernel
theorem d_MM_turn_84 : decode b_MM_turn 84 = .ok (.goto 14, 3) := by decide +kernel
theorem d_MM_turn_87 : decode b_MM_turn 87 = .ok (.aload_n 0, 1) := by decide +kernel
theorem d_MM_turn_88 : decode b_MM_turn 88 = .ok (.getfield 51, 3) := by decide +kernel
theorem d_MM_turn_91 : decode b_MM_turn 91 = .ok (.iload_n 1, 1) := by decide +kernel
theorem d_MM_turn_92 : decode b_MM_turn 92 = .ok (.bipush 12, 2) := by decide +kernel
theorem d_MM_turn_94 : decode b_MM_turn 94 = .ok (.imul, 1) := by decide +kernel
theorem d_MM_turn_95 : decode b_MM_turn 95 = .ok (.iload_n 3, 1) := by decide +kernel
theorem d_MM_turn_96 : decode b_MM_turn 96 = .ok (.iadd, 1) := by decide +kernel
theorem d_MM_turn_97 : decode b_MM_turn 97 = .ok (.iaload, 1) := by decide +kernel
theorem d_MM_turn_98 : decode b_MM_turn 98 = .ok (.iconst 0, 1) := by decide +kernel
theorem d_MM_turn_99 : decode b_MM_turn 99 = .ok (.invokevirtual 64, 3) := by decide +kernel
theorem d_MM_turn_102 : decode b_MM_turn 102 = .ok (.ireturn, 1) := by decide +kernel
theorem d_MM_leave_0 : decode b_MM_leave 0 = .ok (.aload_n 0, 1) := by decide +kernel
theorem d_MM_leave_1 : decode b_MM_leave 1 = .ok (.iload_n 1, 1) := by decide +kernel
theorem d_MM_leave_2 : decode b_MM_leave 2 = .ok (.invokevirtual 72, 3) := by decide +kernel
theorem d_MM_leave_5 : decode b_MM_leave 5 = .ok (.ifCond .eq 5, 3) := by decide +kernel
theorem d_MM_leave_8 : decode b_MM_leave 8 = .ok (.iconst (-1), 1) := by decide +kernel
theorem d_MM_leave_9 : decode b_MM_leave 9 = .ok (.ireturn, 1) := by decide +kernel
theorem d_MM_leave_10 : decode b_MM_leave 10 = .ok (.aload_n 0, 1) := by decide +kernel
theorem d_MM_leave_11 : decode b_MM_leave 11 = .ok (.getfield 45, 3) := by decide +kernel
theorem d_MM_leave_14 : decode b_MM_leave 14 = .ok (.iload_n 1, 1) := by decide +kernel
theorem d_MM_leave_15 : decode b_MM_leave 15 = .ok (.dup2, 1) := by decide +kernel
theorem d_MM_leave_16 : decode b_MM_leave 16 = .ok (.iaload, 1) := by decide +kernel
theorem d_MM_leave_17 : decode b_MM_leave 17 = .ok (.iconst 1, 1) := by decide +kernel
theorem d_MM_leave_18 : decode b_MM_leave 18 = .ok (.isub, 1) := by decide +kernel
theorem d_MM_leave_19 : decode b_MM_leave 19 = .ok (.iastore, 1) := by decide +kernel
theorem d_MM_leave_20 : decode b_MM_leave 20 = .ok (.iload_n 1, 1) := by decide +kernel
theorem d_MM_leave_21 : decode b_MM_leave 21 = .ok (.bipush 12, 2) := by decide +kernel
theorem d_MM_leave_23 : decode b_MM_leave 23 = .ok (.imul, 1) := by decide +kernel
theorem d_MM_leave_24 : decode b_MM_leave 24 = .ok (.aload_n 0, 1) := by decide +kernel
theorem d_MM_leave_25 : decode b_MM_leave 25 = .ok (.getfield 45, 3) := by decide +kernel
theorem d_MM_leave_28 : decode b_MM_leave 28 = .ok (.iload_n 1, 1) := by decide +kernel
theorem d_MM_leave_29 : decode b_MM_leave 29 = .ok (.iaload, 1) := by decide +kernel
theorem d_MM_leave_30 : decode b_MM_leave 30 = .ok (.iadd, 1) := by decide +kernel
theorem d_MM_leave_31 : decode b_MM_leave 31 = .ok (.istore_n 2, 1) := by decide +kernel
theorem d_MM_leave_32 : decode b_MM_leave 32 = .ok (.aload_n 0, 1) := by decide +kernel
theorem d_MM_leave_33 : decode b_MM_leave 33 = .ok (.getfield 45, 3) := by decide +kernel
theorem d_MM_leave_36 : decode b_MM_leave 36 = .ok (.iload_n 1, 1) := by decide +kernel
theorem d_MM_leave_37 : decode b_MM_leave 37 = .ok (.iaload, 1) := by decide +kernel
theorem d_MM_leave_38 : decode b_MM_leave 38 = .ok (.ifCond .ne 10, 3) := by decide +kernel
theorem d_MM_leave_41 : decode b_MM_leave 41 = .ok (.aload_n 0, 1) := by decide +kernel
theorem d_MM_leave_42 : decode b_MM_leave 42 = .ok (.getfield 39, 3) := by decide +kernel
theorem d_MM_leave_45 : decode b_MM_leave 45 = .ok (.iload_n 1, 1) := by decide +kernel
theorem d_MM_leave_46 : decode b_MM_leave 46 = .ok (.iconst 0, 1) := by decide +kernel
theorem d_MM_leave_47 : decode b_MM_leave 47 = .ok (.bastore, 1) := by decide +kernel
theorem d_MM_leave_48 : decode b_MM_leave 48 = .ok (.aload_n 0, 1) := by decide +kernel
theorem d_MM_leave_49 : decode b_MM_leave 49 = .ok (.getfield 54, 3) := by decide +kernel
theorem d_MM_leave_52 : decode b_MM_leave 52 = .ok (.iload_n 2, 1) := by decide +kernel
theorem d_MM_leave_53 : decode b_MM_leave 53 = .ok (.baload, 1) := by decide +kernel
theorem d_MM_leave_54 : decode b_MM_leave 54 = .ok (.ifCond .eq 42, 3) := by decide +kernel
theorem d_MM_leave_57 : decode b_MM_leave 57 = .ok (.aload_n 0, 1) := by decide +kernel
theorem d_MM_leave_58 : decode b_MM_leave 58 = .ok (.getfield 17, 3) := by decide +kernel
theorem d_MM_leave_61 : decode b_MM_leave 61 = .ok (.aload_n 0, 1) := by decide +kernel
theorem d_MM_leave_62 : decode b_MM_leave 62 = .ok (.getfield 48, 3) := by decide +kernel
theorem d_MM_leave_65 : decode b_MM_leave 65 = .ok (.iload_n 2, 1) := by decide +kernel
theorem d_MM_leave_66 : decode b_MM_leave 66 = .ok (.iaload, 1) := by decide +kernel
theorem d_MM_leave_67 : decode b_MM_leave 67 = .ok (.dup2, 1) := by decide +kernel
theorem d_MM_leave_68 : decode b_MM_leave 68 = .ok (.iaload, 1) := by decide +kernel
theorem d_MM_leave_69 : decode b_MM_leave 69 = .ok (.iconst 1, 1) := by decide +kernel
theorem d_MM_leave_70 : decode b_MM_leave 70 = .ok (.isub, 1) := by decide +kernel
theorem d_MM_leave_71 : decode b_MM_leave 71 = .ok (.iastore, 1) := by decide +kernel
theorem d_MM_leave_72 : decode b_MM_leave 72 = .ok (.aload_n 0, 1) := by decide +kernel
theorem d_MM_leave_73 : decode b_MM_leave 73 = .ok (.getfield 17, 3) := by decide +kernel
theorem d_MM_leave_76 : decode b_MM_leave 76 = .ok (.aload_n 0, 1) := by decide +kernel
theorem d_MM_leave_77 : decode b_MM_leave 77 = .ok (.getfield 48, 3) := by decide +kernel
theorem d_MM_leave_80 : decode b_MM_leave 80 = .ok (.iload_n 2, 1) := by decide +kernel
theorem d_MM_leave_81 : decode b_MM_leave 81 = .ok (.iaload, 1) := by decide +kernel
theorem d_MM_leave_82 : decode b_MM_leave 82 = .ok (.iaload, 1) := by decide +kernel
theorem d_MM_leave_83 : decode b_MM_leave 83 = .ok (.ifCond .ne 13, 3) := by decide +kernel
theorem d_MM_leave_86 : decode b_MM_leave 86 = .ok (.aload_n 0, 1) := by decide +kernel
theorem d_MM_leave_87 : decode b_MM_leave 87 = .ok (.aload_n 0, 1) := by decide +kernel
theorem d_MM_leave_88 : decode b_MM_leave 88 = .ok (.getfield 48, 3) := by decide +kernel
theorem d_MM_leave_91 : decode b_MM_leave 91 = .ok (.iload_n 2, 1) := by decide +kernel
theorem d_MM_leave_92 : decode b_MM_leave 92 = .ok (.iaload, 1) := by decide +kernel
theorem d_MM_leave_93 : decode b_MM_leave 93 = .ok (.invokevirtual 88, 3) := by decide +kernel
theorem d_MM_leave_96 : decode b_MM_leave 96 = .ok (.aload_n 0, 1) := by decide +kernel
theorem d_MM_leave_97 : decode b_MM_leave 97 = .ok (.getfield 45, 3) := by decide +kernel
theorem d_MM_leave_100 : decode b_MM_leave 100 = .ok (.iload_n 1, 1) := by decide +kernel
theorem d_MM_leave_101 : decode b_MM_leave 101 = .ok (.iaload, 1) := by decide +kernel
theorem d_MM_leave_102 : decode b_MM_leave 102 = .ok (.ireturn, 1) := by decide +kernel
theorem d_MM_empty_0 : decode b_MM_empty 0 = .ok (.iconst 0, 1) := by decide +kernel
theorem d_MM_empty_1 : decode b_MM_empty 1 = .ok (.istore_n 2, 1) := by decide +kernel
theorem d_MM_empty_2 : decode b_MM_empty 2 = .ok (.iload_n 2, 1) := by decide +kernel
theorem d_MM_empty_3 : decode b_MM_empty 3 = .ok (.bipush 40, 2) := by decide +kernel
theorem d_MM_empty_5 : decode b_MM_empty 5 = .ok (.if_icmp .ge 26, 3) := by decide +kernel
theorem d_MM_empty_8 : decode b_MM_empty 8 = .ok (.aload_n 0, 1) := by decide +kernel
theorem d_MM_empty_9 : decode b_MM_empty 9 = .ok (.getfield 26, 3) := by decide +kernel
theorem d_MM_empty_12 : decode b_MM_empty 12 = .ok (.iload_n 2, 1) := by decide +kernel
theorem d_MM_empty_13 : decode b_MM_empty 13 = .ok (.iaload, 1) := by decide +kernel
theorem d_MM_empty_14 : decode b_MM_empty 14 = .ok (.iload_n 1, 1) := by decide +kernel
theorem d_MM_empty_15 : decode b_MM_empty 15 = .ok (.if_icmp .ne 10, 3) := by decide +kernel
theorem d_MM_empty_18 : decode b_MM_empty 18 = .ok (.aload_n 0, 1) := by decide +kernel
theorem d_MM_empty_19 : decode b_MM_empty 19 = .ok (.getfield 26, 3) := by decide +kernel
theorem d_MM_empty_22 : decode b_MM_empty 22 = .ok (.iload_n 2, 1) := by decide +kernel
theorem d_MM_empty_23 : decode b_MM_empty 23 = .ok (.iconst (-1), 1) := by decide +kernel
theorem d_MM_empty_24 : decode b_MM_empty 24 = .ok (.iastore, 1) := by decide +kernel
theorem d_MM_empty_25 : decode b_MM_empty 25 = .ok (.iinc 2 1, 3) := by decide +kernel
theorem d_MM_empty_28 : decode b_MM_empty 28 = .ok (.goto (-26), 3) := by decide +kernel
theorem d_MM_empty_31 : decode b_MM_empty 31 = .ok (.aload_n 0, 1) := by decide +kernel
theorem d_MM_empty_32 : decode b_MM_empty 32 = .ok (.getfield 23, 3) := by decide +kernel
theorem d_MM_empty_35 : decode b_MM_empty 35 = .ok (.iload_n 1, 1) := by decide +kernel
theorem d_MM_empty_36 : decode b_MM_empty 36 = .ok (.iconst (-1), 1) := by decide +kernel
theorem d_MM_empty_37 : decode b_MM_empty 37 = .ok (.iastore, 1) := by decide +kernel
theorem d_MM_empty_38 : decode b_MM_empty 38 = .ok (.return_, 1) := by decide +kernel
theorem d_MM_current_0 : decode b_MM_current 0 = .ok (.aload_n 0, 1) := by decide +kernel
theorem d_MM_current_1 : decode b_MM_current 1 = .ok (.getfield 48, 3) := by decide +kernel
theorem d_MM_current_4 : decode b_MM_current 4 = .ok (.iload_n 1, 1) := by decide +kernel
theorem d_MM_current_5 : decode b_MM_current 5 = .ok (.bipush 12, 2) := by decide +kernel
theorem d_MM_current_7 : decode b_MM_current 7 = .ok (.imul, 1) := by decide +kernel
theorem d_MM_current_8 : decode b_MM_current 8 = .ok (.aload_n 0, 1) := by decide +kernel
theorem d_MM_current_9 : decode b_MM_current 9 = .ok (.getfield 45, 3) := by decide +kernel
theorem d_MM_current_12 : decode b_MM_current 12 = .ok (.iload_n 1, 1) := by decide +kernel
theorem d_MM_current_13 : decode b_MM_current 13 = .ok (.iaload, 1) := by decide +kernel
theorem d_MM_current_14 : decode b_MM_current 14 = .ok (.iadd, 1) := by decide +kernel
theorem d_MM_current_15 : decode b_MM_current 15 = .ok (.iconst 1, 1) := by decide +kernel
theorem d_MM_current_16 : decode b_MM_current 16 = .ok (.isub, 1) := by decide +kernel
theorem d_MM_current_17 : decode b_MM_current 17 = .ok (.iaload, 1) := by decide +kernel
theorem d_MM_current_18 : decode b_MM_current 18 = .ok (.ireturn, 1) := by decide +kernel
theorem d_MM_make_0 : decode b_MM_make 0 = .ok (.aload_n 0, 1) := by decide +kernel
theorem d_MM_make_1 : decode b_MM_make 1 = .ok (.iload_n 1, 1) := by decide +kernel
theorem d_MM_make_2 : decode b_MM_make 2 = .ok (.invokevirtual 72, 3) := by decide +kernel
theorem d_MM_make_5 : decode b_MM_make 5 = .ok (.ifCond .ne 12, 3) := by decide +kernel
theorem d_MM_make_8 : decode b_MM_make 8 = .ok (.iload_n 2, 1) := by decide +kernel
theorem d_MM_make_9 : decode b_MM_make 9 = .ok (.ifCond .lt 8, 3) := by decide +kernel
theorem d_MM_make_12 : decode b_MM_make 12 = .ok (.iload_n 2, 1) := by decide +kernel
theorem d_MM_make_13 : decode b_MM_make 13 = .ok (.iconst 4, 1) := by decide +kernel
theorem d_MM_make_14 : decode b_MM_make 14 = .ok (.if_icmp .le 5, 3) := by decide +kernel
theorem d_MM_make_17 : decode b_MM_make 17 = .ok (.iconst (-1), 1) := by decide +kernel
theorem d_MM_make_18 : decode b_MM_make 18 = .ok (.ireturn, 1) := by decide +kernel
theorem d_MM_make_19 : decode b_MM_make 19 = .ok (.aload_n 0, 1) := by decide +kernel
theorem d_MM_make_20 : decode b_MM_make 20 = .ok (.iload_n 1, 1) := by decide +kernel
theorem d_MM_make_21 : decode b_MM_make 21 = .ok (.invokevirtual 92, 3) := by decide +kernel
theorem d_MM_make_24 : decode b_MM_make 24 = .ok (.istore_n 3, 1) := by decide +kernel
theorem d_MM_make_25 : decode b_MM_make 25 = .ok (.iconst 0, 1) := by decide +kernel
theorem d_MM_make_26 : decode b_MM_make 26 = .ok (.istore 4, 2) := by decide +kernel
theorem d_MM_make_28 : decode b_MM_make 28 = .ok (.iload 4, 2) := by decide +kernel
theorem d_MM_make_30 : decode b_MM_make 30 = .ok (.bipush 40, 2) := by decide +kernel
theorem d_MM_make_32 : decode b_MM_make 32 = .ok (.if_icmp .ge 19, 3) := by decide +kernel
theorem d_MM_make_35 : decode b_MM_make 35 = .ok (.aload_n 0, 1) := by decide +kernel
theorem d_MM_make_36 : decode b_MM_make 36 = .ok (.getfield 26, 3) := by decide +kernel
theorem d_MM_make_39 : decode b_MM_make 39 = .ok (.iload 4, 2) := by decide +kernel
theorem d_MM_make_41 : decode b_MM_make 41 = .ok (.iaload, 1) := by decide +kernel
theorem d_MM_make_42 : decode b_MM_make 42 = .ok (.ifCond .lt 9, 3) := by decide +kernel
theorem d_MM_make_45 : decode b_MM_make 45 = .ok (.iinc 4 1, 3) := by decide +kernel
theorem d_MM_make_48 : decode b_MM_make 48 = .ok (.goto (-20), 3) := by decide +kernel
theorem d_MM_make_51 : decode b_MM_make 51 = .ok (.iload 4, 2) := by decide +kernel
theorem d_MM_make_53 : decode b_MM_make 53 = .ok (.bipush 40, 2) := by decide +kernel
theorem d_MM_make_55 : decode b_MM_make 55 = .ok (.if_icmp .eq 21, 3) := by decide +kernel
theorem d_MM_make_58 : decode b_MM_make 58 = .ok (.aload_n 0, 1) := by decide +kernel
theorem d_MM_make_59 : decode b_MM_make 59 = .ok (.iload_n 3, 1) := by decide +kernel
theorem d_MM_make_60 : decode b_MM_make 60 = .ok (.invokevirtual 95, 3) := by decide +kernel
theorem d_MM_make_63 : decode b_MM_make 63 = .ok (.iconst 1, 1) := by decide +kernel
theorem d_MM_make_64 : decode b_MM_make 64 = .ok (.iadd, 1) := by decide +kernel
theorem d_MM_make_65 : decode b_MM_make 65 = .ok (.iload_n 2, 1) := by decide +kernel
theorem d_MM_make_66 : decode b_MM_make 66 = .ok (.iadd, 1) := by decide +kernel
theorem d_MM_make_67 : decode b_MM_make 67 = .ok (.aload_n 0, 1) := by decide +kernel
theorem d_MM_make_68 : decode b_MM_make 68 = .ok (.getfield 13, 3) := by decide +kernel
theorem d_MM_make_71 : decode b_MM_make 71 = .ok (.iload_n 3, 1) := by decide +kernel
theorem d_MM_make_72 : decode b_MM_make 72 = .ok (.iaload, 1) := by decide +kernel
theorem d_MM_make_73 : decode b_MM_make 73 = .ok (.if_icmp .le 6, 3) := by decide +kernel
theorem d_MM_make_76 : decode b_MM_make 76 = .ok (.bipush (-2), 2) := by decide +kernel
theorem d_MM_make_78 : decode b_MM_make 78 = .ok (.ireturn, 1) := by decide +kernel
theorem d_MM_make_79 : decode b_MM_make 79 = .ok (.aload_n 0, 1) := by decide +kernel
theorem d_MM_make_80 : decode b_MM_make 80 = .ok (.getfield 26, 3) := by decide +kernel
theorem d_MM_make_83 : decode b_MM_make 83 = .ok (.iload 4, 2) := by decide +kernel
theorem d_MM_make_85 : decode b_MM_make 85 = .ok (.iload_n 3, 1) := by decide +kernel
theorem d_MM_make_86 : decode b_MM_make 86 = .ok (.iastore, 1) := by decide +kernel
theorem d_MM_make_87 : decode b_MM_make 87 = .ok (.aload_n 0, 1) := by decide +kernel
theorem d_MM_make_88 : decode b_MM_make 88 = .ok (.getfield 29, 3) := by decide +kernel
theorem d_MM_make_91 : decode b_MM_make 91 = .ok (.iload 4, 2) := by decide +kernel
theorem d_MM_make_93 : decode b_MM_make 93 = .ok (.iload_n 2, 1) := by decide +kernel
theorem d_MM_make_94 : decode b_MM_make 94 = .ok (.iastore, 1) := by decide +kernel
theorem d_MM_make_95 : decode b_MM_make 95 = .ok (.iconst 0, 1) := by decide +kernel
theorem d_MM_make_96 : decode b_MM_make 96 = .ok (.istore 5, 2) := by decide +kernel
theorem d_MM_make_98 : decode b_MM_make 98 = .ok (.iload 5, 2) := by decide +kernel
theorem d_MM_make_100 : decode b_MM_make 100 = .ok (.iconst 4, 1) := by decide +kernel
theorem d_MM_make_101 : decode b_MM_make 101 = .ok (.if_icmp .ge 22, 3) := by decide +kernel
theorem d_MM_make_104 : decode b_MM_make 104 = .ok (.aload_n 0, 1) := by decide +kernel
theorem d_MM_make_105 : decode b_MM_make 105 = .ok (.getfield 32, 3) := by decide +kernel
theorem d_MM_make_108 : decode b_MM_make 108 = .ok (.iload 4, 2) := by decide +kernel
theorem d_MM_make_110 : decode b_MM_make 110 = .ok (.iconst 4, 1) := by decide +kernel
theorem d_MM_make_111 : decode b_MM_make 111 = .ok (.imul, 1) := by decide +kernel
theorem d_MM_make_112 : decode b_MM_make 112 = .ok (.iload 5, 2) := by decide +kernel
theorem d_MM_make_114 : decode b_MM_make 114 = .ok (.iadd, 1) := by decide +kernel
theorem d_MM_make_115 : decode b_MM_make 115 = .ok (.iconst (-1), 1) := by decide +kernel
theorem d_MM_make_116 : decode b_MM_make 116 = .ok (.iastore, 1) := by decide +kernel
theorem d_MM_make_117 : decode b_MM_make 117 = .ok (.iinc 5 1, 3) := by decide +kernel
theorem d_MM_make_120 : decode b_MM_make 120 = .ok (.goto (-22), 3) := by decide +kernel
theorem d_MM_make_123 : decode b_MM_make 123 = .ok (.iload 4, 2) := by decide +kernel
theorem d_MM_make_125 : decode b_MM_make 125 = .ok (.ireturn, 1) := by decide +kernel
theorem d_MM_sees_0 : decode b_MM_sees 0 = .ok (.aload_n 0, 1) := by decide +kernel
theorem d_MM_sees_1 : decode b_MM_sees 1 = .ok (.getfield 26, 3) := by decide +kernel
theorem d_MM_sees_4 : decode b_MM_sees 4 = .ok (.iload_n 2, 1) := by decide +kernel
theorem d_MM_sees_5 : decode b_MM_sees 5 = .ok (.iaload, 1) := by decide +kernel
theorem d_MM_sees_6 : decode b_MM_sees 6 = .ok (.ifCond .ne 18, 3) := by decide +kernel
theorem d_MM_sees_9 : decode b_MM_sees 9 = .ok (.aload_n 0, 1) := by decide +kernel
theorem d_MM_sees_10 : decode b_MM_sees 10 = .ok (.getfield 42, 3) := by decide +kernel
theorem d_MM_sees_13 : decode b_MM_sees 13 = .ok (.iload_n 1, 1) := by decide +kernel
theorem d_MM_sees_14 : decode b_MM_sees 14 = .ok (.baload, 1) := by decide +kernel
theorem d_MM_sees_15 : decode b_MM_sees 15 = .ok (.ifCond .ne 7, 3) := by decide +kernel
theorem d_MM_sees_18 : decode b_MM_sees 18 = .ok (.iconst 1, 1) := by decide +kernel
theorem d_MM_sees_19 : decode b_MM_sees 19 = .ok (.goto 4, 3) := by decide +kernel
theorem d_MM_sees_22 : decode b_MM_sees 22 = .ok (.iconst 0, 1) := by decide +kernel
theorem d_MM_sees_23 : decode b_MM_sees 23 = .ok (.ireturn, 1) := by decide +kernel
theorem d_MM_sees_24 : decode b_MM_sees 24 = .ok (.aload_n 0, 1) := by decide +kernel
theorem d_MM_sees_25 : decode b_MM_sees 25 = .ok (.getfield 26, 3) := by decide +kernel
theorem d_MM_sees_28 : decode b_MM_sees 28 = .ok (.iload_n 2, 1) := by decide +kernel
theorem d_MM_sees_29 : decode b_MM_sees 29 = .ok (.iaload, 1) := by decide +kernel
theorem d_MM_sees_30 : decode b_MM_sees 30 = .ok (.iconst 1, 1) := by decide +kernel
theorem d_MM_sees_31 : decode b_MM_sees 31 = .ok (.if_icmp .eq 17, 3) := by decide +kernel
theorem d_MM_sees_34 : decode b_MM_sees 34 = .ok (.aload_n 0, 1) := by decide +kernel
theorem d_MM_sees_35 : decode b_MM_sees 35 = .ok (.iload_n 1, 1) := by decide +kernel
theorem d_MM_sees_36 : decode b_MM_sees 36 = .ok (.aload_n 0, 1) := by decide +kernel
theorem d_MM_sees_37 : decode b_MM_sees 37 = .ok (.getfield 26, 3) := by decide +kernel
theorem d_MM_sees_40 : decode b_MM_sees 40 = .ok (.iload_n 2, 1) := by decide +kernel
theorem d_MM_sees_41 : decode b_MM_sees 41 = .ok (.iaload, 1) := by decide +kernel
theorem d_MM_sees_42 : decode b_MM_sees 42 = .ok (.invokevirtual 79, 3) := by decide +kernel
theorem d_MM_sees_45 : decode b_MM_sees 45 = .ok (.ifCond .lt 7, 3) := by decide +kernel
theorem d_MM_sees_48 : decode b_MM_sees 48 = .ok (.iconst 1, 1) := by decide +kernel
theorem d_MM_sees_49 : decode b_MM_sees 49 = .ok (.goto 4, 3) := by decide +kernel
theorem d_MM_sees_52 : decode b_MM_sees 52 = .ok (.iconst 0, 1) := by decide +kernel
theorem d_MM_sees_53 : decode b_MM_sees 53 = .ok (.ireturn, 1) := by decide +kernel
theorem d_MM_liesIn_0 : decode b_MM_liesIn 0 = .ok (.iload_n 1, 1) := by decide +kernel
theorem d_MM_liesIn_1 : decode b_MM_liesIn 1 = .ok (.istore_n 3, 1) := by decide +kernel
theorem d_MM_liesIn_2 : decode b_MM_liesIn 2 = .ok (.iconst 0, 1) := by decide +kernel
theorem d_MM_liesIn_3 : decode b_MM_liesIn 3 = .ok (.istore 4, 2) := by decide +kernel
theorem d_MM_liesIn_5 : decode b_MM_liesIn 5 = .ok (.iload 4, 2) := by decide +kernel
theorem d_MM_liesIn_7 : decode b_MM_liesIn 7 = .ok (.bipush 10, 2) := by decide +kernel
theorem d_MM_liesIn_9 : decode b_MM_liesIn 9 = .ok (.if_icmp .ge 28, 3) := by decide +kernel
theorem d_MM_liesIn_12 : decode b_MM_liesIn 12 = .ok (.iload_n 3, 1) := by decide +kernel
theorem d_MM_liesIn_13 : decode b_MM_liesIn 13 = .ok (.iconst 1, 1) := by decide +kernel
theorem d_MM_liesIn_14 : decode b_MM_liesIn 14 = .ok (.if_icmp .le 23, 3) := by decide +kernel
theorem d_MM_liesIn_17 : decode b_MM_liesIn 17 = .ok (.iload_n 3, 1) := by decide +kernel
theorem d_MM_liesIn_18 : decode b_MM_liesIn 18 = .ok (.iload_n 2, 1) := by decide +kernel
theorem d_MM_liesIn_19 : decode b_MM_liesIn 19 = .ok (.if_icmp .ne 5, 3) := by decide +kernel
theorem d_MM_liesIn_22 : decode b_MM_liesIn 22 = .ok (.iconst 1, 1) := by decide +kernel
theorem d_MM_liesIn_23 : decode b_MM_liesIn 23 = .ok (.ireturn, 1) := by decide +kernel
theorem d_MM_liesIn_24 : decode b_MM_liesIn 24 = .ok (.aload_n 0, 1) := by decide +kernel
theorem d_MM_liesIn_25 : decode b_MM_liesIn 25 = .ok (.getfield 20, 3) := by decide +kernel
theorem d_MM_liesIn_28 : decode b_MM_liesIn 28 = .ok (.iload_n 3, 1) := by decide +kernel
theorem d_MM_liesIn_29 : decode b_MM_liesIn 29 = .ok (.iaload, 1) := by decide +kernel
theorem d_MM_liesIn_30 : decode b_MM_liesIn 30 = .ok (.istore_n 3, 1) := by decide +kernel
theorem d_MM_liesIn_31 : decode b_MM_liesIn 31 = .ok (.iinc 4 1, 3) := by decide +kernel
theorem d_MM_liesIn_34 : decode b_MM_liesIn 34 = .ok (.goto (-29), 3) := by decide +kernel
theorem d_MM_liesIn_37 : decode b_MM_liesIn 37 = .ok (.iconst 0, 1) := by decide +kernel
theorem d_MM_liesIn_38 : decode b_MM_liesIn 38 = .ok (.ireturn, 1) := by decide +kernel
theorem d_MM_mayPoint_0 : decode b_MM_mayPoint 0 = .ok (.aload_n 0, 1) := by decide +kernel
theorem d_MM_mayPoint_1 : decode b_MM_mayPoint 1 = .ok (.getfield 26, 3) := by decide +kernel
theorem d_MM_mayPoint_4 : decode b_MM_mayPoint 4 = .ok (.iload_n 2, 1) := by decide +kernel
theorem d_MM_mayPoint_5 : decode b_MM_mayPoint 5 = .ok (.iaload, 1) := by decide +kernel
theorem d_MM_mayPoint_6 : decode b_MM_mayPoint 6 = .ok (.iconst 2, 1) := by decide +kernel
theorem d_MM_mayPoint_7 : decode b_MM_mayPoint 7 = .ok (.if_icmp .lt 22, 3) := by decide +kernel
theorem d_MM_mayPoint_10 : decode b_MM_mayPoint 10 = .ok (.iload_n 1, 1) := by decide +kernel
theorem d_MM_mayPoint_11 : decode b_MM_mayPoint 11 = .ok (.iconst 1, 1) := by decide +kernel
theorem d_MM_mayPoint_12 : decode b_MM_mayPoint 12 = .ok (.if_icmp .le 21, 3) := by decide +kernel
theorem d_MM_mayPoint_15 : decode b_MM_mayPoint 15 = .ok (.aload_n 0, 1) := by decide +kernel
theorem d_MM_mayPoint_16 : decode b_MM_mayPoint 16 = .ok (.iload_n 1, 1) := by decide +kernel
theorem d_MM_mayPoint_17 : decode b_MM_mayPoint 17 = .ok (.aload_n 0, 1) := by decide +kernel
theorem d_MM_mayPoint_18 : decode b_MM_mayPoint 18 = .ok (.getfield 26, 3) := by decide +kernel
theorem d_MM_mayPoint_21 : decode b_MM_mayPoint 21 = .ok (.iload_n 2, 1) := by decide +kernel
theorem d_MM_mayPoint_22 : decode b_MM_mayPoint 22 = .ok (.iaload, 1) := by decide +kernel
theorem d_MM_mayPoint_23 : decode b_MM_mayPoint 23 = .ok (.invokevirtual 98, 3) := by decide +kernel
theorem d_MM_mayPoint_26 : decode b_MM_mayPoint 26 = .ok (.ifCond .eq 7, 3) := by decide +kernel
theorem d_MM_mayPoint_29 : decode b_MM_mayPoint 29 = .ok (.iconst 1, 1) := by decide +kernel
theorem d_MM_mayPoint_30 : decode b_MM_mayPoint 30 = .ok (.goto 4, 3) := by decide +kernel
theorem d_MM_mayPoint_33 : decode b_MM_mayPoint 33 = .ok (.iconst 0, 1) := by decide +kernel
theorem d_MM_mayPoint_34 : decode b_MM_mayPoint 34 = .ok (.ireturn, 1) := by decide +kernel
theorem d_MM_put_0 : decode b_MM_put 0 = .ok (.aload_n 0, 1) := by decide +kernel
theorem d_MM_put_1 : decode b_MM_put 1 = .ok (.iload_n 1, 1) := by decide +kernel
theorem d_MM_put_2 : decode b_MM_put 2 = .ok (.invokevirtual 72, 3) := by decide +kernel
theorem d_MM_put_5 : decode b_MM_put 5 = .ok (.ifCond .ne 35, 3) := by decide +kernel
theorem d_MM_put_8 : decode b_MM_put 8 = .ok (.aload_n 0, 1) := by decide +kernel
theorem d_MM_put_9 : decode b_MM_put 9 = .ok (.iload_n 2, 1) := by decide +kernel
theorem d_MM_put_10 : decode b_MM_put 10 = .ok (.invokevirtual 102, 3) := by decide +kernel
theorem d_MM_put_13 : decode b_MM_put 13 = .ok (.ifCond .ne 27, 3) := by decide +kernel
theorem d_MM_put_16 : decode b_MM_put 16 = .ok (.iload_n 3, 1) := by decide +kernel
theorem d_MM_put_17 : decode b_MM_put 17 = .ok (.ifCond .lt 23, 3) := by decide +kernel
theorem d_MM_put_20 : decode b_MM_put 20 = .ok (.iload_n 3, 1) := by decide +kernel
theorem d_MM_put_21 : decode b_MM_put 21 = .ok (.iconst 3, 1) := by decide +kernel
theorem d_MM_put_22 : decode b_MM_put 22 = .ok (.if_icmp .gt 18, 3) := by decide +kernel
theorem d_MM_put_25 : decode b_MM_put 25 = .ok (.iload 4, 2) := by decide +kernel
theorem d_MM_put_27 : decode b_MM_put 27 = .ok (.iconst (-1), 1) := by decide +kernel
theorem d_MM_put_28 : decode b_MM_put 28 = .ok (.if_icmp .eq 14, 3) := by decide +kernel
theorem d_MM_put_31 : decode b_MM_put 31 = .ok (.aload_n 0, 1) := by decide +kernel
theorem d_MM_put_32 : decode b_MM_put 32 = .ok (.iload 4, 2) := by decide +kernel
theorem d_MM_put_34 : decode b_MM_put 34 = .ok (.invokevirtual 102, 3) := by decide +kernel
theorem d_MM_put_37 : decode b_MM_put 37 = .ok (.ifCond .eq 5, 3) := by decide +kernel
theorem d_MM_put_40 : decode b_MM_put 40 = .ok (.iconst (-1), 1) := by decide +kernel
theorem d_MM_put_41 : decode b_MM_put 41 = .ok (.ireturn, 1) := by decide +kernel
theorem d_MM_put_42 : decode b_MM_put 42 = .ok (.iload_n 3, 1) := by decide +kernel
theorem d_MM_put_43 : decode b_MM_put 43 = .ok (.aload_n 0, 1) := by decide +kernel
theorem d_MM_put_44 : decode b_MM_put 44 = .ok (.getfield 29, 3) := by decide +kernel
theorem d_MM_put_47 : decode b_MM_put 47 = .ok (.iload_n 2, 1) := by decide +kernel
theorem d_MM_put_48 : decode b_MM_put 48 = .ok (.iaload, 1) := by decide +kernel
theorem d_MM_put_49 : decode b_MM_put 49 = .ok (.if_icmp .lt 5, 3) := by decide +kernel
theorem d_MM_put_52 : decode b_MM_put 52 = .ok (.iconst (-1), 1) := by decide +kernel
theorem d_MM_put_53 : decode b_MM_put 53 = .ok (.ireturn, 1) := by decide +kernel
theorem d_MM_put_54 : decode b_MM_put 54 = .ok (.aload_n 0, 1) := by decide +kernel
theorem d_MM_put_55 : decode b_MM_put 55 = .ok (.iload_n 1, 1) := by decide +kernel
theorem d_MM_put_56 : decode b_MM_put 56 = .ok (.iload_n 2, 1) := by decide +kernel
theorem d_MM_put_57 : decode b_MM_put 57 = .ok (.invokevirtual 105, 3) := by decide +kernel
theorem d_MM_put_60 : decode b_MM_put 60 = .ok (.ifCond .eq 18, 3) := by decide +kernel
theorem d_MM_put_63 : decode b_MM_put 63 = .ok (.iload 4, 2) := by decide +kernel
theorem d_MM_put_65 : decode b_MM_put 65 = .ok (.ifCond .lt 16, 3) := by decide +kernel
theorem d_MM_put_68 : decode b_MM_put 68 = .ok (.aload_n 0, 1) := by decide +kernel
theorem d_MM_put_69 : decode b_MM_put 69 = .ok (.iload_n 1, 1) := by decide +kernel
theorem d_MM_put_70 : decode b_MM_put 70 = .ok (.iload 4, 2) := by decide +kernel
theorem d_MM_put_72 : decode b_MM_put 72 = .ok (.invokevirtual 105, 3) := by decide +kernel
theorem d_MM_put_75 : decode b_MM_put 75 = .ok (.ifCond .ne 6, 3) := by decide +kernel
theorem d_MM_put_78 : decode b_MM_put 78 = .ok (.bipush (-4), 2) := by decide +kernel
theorem d_MM_put_80 : decode b_MM_put 80 = .ok (.ireturn, 1) := by decide +kernel
theorem d_MM_put_81 : decode b_MM_put 81 = .ok (.iload 4, 2) := by decide +kernel
theorem d_MM_put_83 : decode b_MM_put 83 = .ok (.ifCond .lt 21, 3) := by decide +kernel
theorem d_MM_put_86 : decode b_MM_put 86 = .ok (.aload_n 0, 1) := by decide +kernel
theorem d_MM_put_87 : decode b_MM_put 87 = .ok (.aload_n 0, 1) := by decide +kernel
theorem d_MM_put_88 : decode b_MM_put 88 = .ok (.getfield 26, 3) := by decide +kernel
theorem d_MM_put_91 : decode b_MM_put 91 = .ok (.iload_n 2, 1) := by decide +kernel
theorem d_MM_put_92 : decode b_MM_put 92 = .ok (.iaload, 1) := by decide +kernel
theorem d_MM_put_93 : decode b_MM_put 93 = .ok (.iload 4, 2) := by decide +kernel
theorem d_MM_put_95 : decode b_MM_put 95 = .ok (.invokevirtual 108, 3) := by decide +kernel
theorem d_MM_put_98 : decode b_MM_put 98 = .ok (.ifCond .ne 6, 3) := by decide +kernel
theorem d_MM_put_101 : decode b_MM_put 101 = .ok (.bipush (-5), 2) := by decide +kernel
theorem d_MM_put_103 : decode b_MM_put 103 = .ok (.ireturn, 1) := by decide +kernel
theorem d_MM_put_104 : decode b_MM_put 104 = .ok (.aload_n 0, 1) := by decide +kernel
theorem d_MM_put_105 : decode b_MM_put 105 = .ok (.getfield 32, 3) := by decide +kernel
theorem d_MM_put_108 : decode b_MM_put 108 = .ok (.iload_n 2, 1) := by decide +kernel
theorem d_MM_put_109 : decode b_MM_put 109 = .ok (.iconst 4, 1) := by decide +kernel
theorem d_MM_put_110 : decode b_MM_put 110 = .ok (.imul, 1) := by decide +kernel
theorem d_MM_put_111 : decode b_MM_put 111 = .ok (.iload_n 3, 1) := by decide +kernel
theorem d_MM_put_112 : decode b_MM_put 112 = .ok (.iadd, 1) := by decide +kernel
theorem d_MM_put_113 : decode b_MM_put 113 = .ok (.iload 4, 2) := by decide +kernel
theorem d_MM_put_115 : decode b_MM_put 115 = .ok (.iastore, 1) := by decide +kernel
theorem d_MM_put_116 : decode b_MM_put 116 = .ok (.iconst 0, 1) := by decide +kernel
theorem d_MM_put_117 : decode b_MM_put 117 = .ok (.ireturn, 1) := by decide +kernel
theorem d_MM_get_0 : decode b_MM_get 0 = .ok (.aload_n 0, 1) := by decide +kernel
theorem d_MM_get_1 : decode b_MM_get 1 = .ok (.iload_n 1, 1) := by decide +kernel
theorem d_MM_get_2 : decode b_MM_get 2 = .ok (.invokevirtual 72, 3) := by decide +kernel
theorem d_MM_get_5 : decode b_MM_get 5 = .ok (.ifCond .ne 25, 3) := by decide +kernel
theorem d_MM_get_8 : decode b_MM_get 8 = .ok (.aload_n 0, 1) := by decide +kernel
theorem d_MM_get_9 : decode b_MM_get 9 = .ok (.iload_n 2, 1) := by decide +kernel
theorem d_MM_get_10 : decode b_MM_get 10 = .ok (.invokevirtual 102, 3) := by decide +kernel
theorem d_MM_get_13 : decode b_MM_get 13 = .ok (.ifCond .ne 17, 3) := by decide +kernel
theorem d_MM_get_16 : decode b_MM_get 16 = .ok (.iload_n 3, 1) := by decide +kernel
theorem d_MM_get_17 : decode b_MM_get 17 = .ok (.ifCond .lt 13, 3) := by decide +kernel
theorem d_MM_get_20 : decode b_MM_get 20 = .ok (.iload_n 3, 1) := by decide +kernel
theorem d_MM_get_21 : decode b_MM_get 21 = .ok (.aload_n 0, 1) := by decide +kernel
theorem d_MM_get_22 : decode b_MM_get 22 = .ok (.getfield 29, 3) := by decide +kernel
theorem d_MM_get_25 : decode b_MM_get 25 = .ok (.iload_n 2, 1) := by decide +kernel
theorem d_MM_get_26 : decode b_MM_get 26 = .ok (.iaload, 1) := by decide +kernel
theorem d_MM_get_27 : decode b_MM_get 27 = .ok (.if_icmp .lt 5, 3) := by decide +kernel
theorem d_MM_get_30 : decode b_MM_get 30 = .ok (.iconst (-1), 1) := by decide +kernel
theorem d_MM_get_31 : decode b_MM_get 31 = .ok (.ireturn, 1) := by decide +kernel
theorem d_MM_get_32 : decode b_MM_get 32 = .ok (.aload_n 0, 1) := by decide +kernel
theorem d_MM_get_33 : decode b_MM_get 33 = .ok (.iload_n 1, 1) := by decide +kernel
theorem d_MM_get_34 : decode b_MM_get 34 = .ok (.iload_n 2, 1) := by decide +kernel
theorem d_MM_get_35 : decode b_MM_get 35 = .ok (.invokevirtual 105, 3) := by decide +kernel
theorem d_MM_get_38 : decode b_MM_get 38 = .ok (.ifCond .ne 6, 3) := by decide +kernel
theorem d_MM_get_41 : decode b_MM_get 41 = .ok (.bipush (-4), 2) := by decide +kernel
theorem d_MM_get_43 : decode b_MM_get 43 = .ok (.ireturn, 1) := by decide +kernel
theorem d_MM_get_44 : decode b_MM_get 44 = .ok (.aload_n 0, 1) := by decide +kernel
theorem d_MM_get_45 : decode b_MM_get 45 = .ok (.getfield 32, 3) := by decide +kernel
theorem d_MM_get_48 : decode b_MM_get 48 = .ok (.iload_n 2, 1) := by decide +kernel
theorem d_MM_get_49 : decode b_MM_get 49 = .ok (.iconst 4, 1) := by decide +kernel
theorem d_MM_get_50 : decode b_MM_get 50 = .ok (.imul, 1) := by decide +kernel
theorem d_MM_get_51 : decode b_MM_get 51 = .ok (.iload_n 3, 1) := by decide +kernel
theorem d_MM_get_52 : decode b_MM_get 52 = .ok (.iadd, 1) := by decide +kernel
theorem d_MM_get_53 : decode b_MM_get 53 = .ok (.iaload, 1) := by decide +kernel
theorem d_MM_get_54 : decode b_MM_get 54 = .ok (.istore 4, 2) := by decide +kernel
theorem d_MM_get_56 : decode b_MM_get 56 = .ok (.iload 4, 2) := by decide +kernel
theorem d_MM_get_58 : decode b_MM_get 58 = .ok (.ifCond .ge 8, 3) := by decide +kernel
theorem d_MM_get_61 : decode b_MM_get 61 = .ok (.bipush (-6), 2) := by decide +kernel
theorem d_MM_get_63 : decode b_MM_get 63 = .ok (.goto 20, 3) := by decide +kernel
theorem d_MM_get_66 : decode b_MM_get 66 = .ok (.aload_n 0, 1) := by decide +kernel
theorem d_MM_get_67 : decode b_MM_get 67 = .ok (.iload_n 1, 1) := by decide +kernel
theorem d_MM_get_68 : decode b_MM_get 68 = .ok (.iload 4, 2) := by decide +kernel
theorem d_MM_get_70 : decode b_MM_get 70 = .ok (.invokevirtual 105, 3) := by decide +kernel
theorem d_MM_get_73 : decode b_MM_get 73 = .ok (.ifCond .eq 8, 3) := by decide +kernel
theorem d_MM_get_76 : decode b_MM_get 76 = .ok (.iload 4, 2) := by decide +kernel
theorem d_MM_get_78 : decode b_MM_get 78 = .ok (.goto 5, 3) := by decide +kernel
theorem d_MM_get_81 : decode b_MM_get 81 = .ok (.bipush (-4), 2) := by decide +kernel
theorem d_MM_get_83 : decode b_MM_get 83 = .ok (.ireturn, 1) := by decide +kernel
theorem d_MM_hang_0 : decode b_MM_hang 0 = .ok (.aload_n 0, 1) := by decide +kernel
theorem d_MM_hang_1 : decode b_MM_hang 1 = .ok (.iload_n 1, 1) := by decide +kernel
theorem d_MM_hang_2 : decode b_MM_hang 2 = .ok (.invokevirtual 72, 3) := by decide +kernel
theorem d_MM_hang_5 : decode b_MM_hang 5 = .ok (.ifCond .ne 24, 3) := by decide +kernel
theorem d_MM_hang_8 : decode b_MM_hang 8 = .ok (.aload_n 0, 1) := by decide +kernel
theorem d_MM_hang_9 : decode b_MM_hang 9 = .ok (.iload_n 2, 1) := by decide +kernel
theorem d_MM_hang_10 : decode b_MM_hang 10 = .ok (.invokevirtual 76, 3) := by decide +kernel
theorem d_MM_hang_13 : decode b_MM_hang 13 = .ok (.ifCond .ne 16, 3) := by decide +kernel
theorem d_MM_hang_16 : decode b_MM_hang 16 = .ok (.iload_n 3, 1) := by decide +kernel
theorem d_MM_hang_17 : decode b_MM_hang 17 = .ok (.iconst (-1), 1) := by decide +kernel
theorem d_MM_hang_18 : decode b_MM_hang 18 = .ok (.if_icmp .eq 13, 3) := by decide +kernel
theorem d_MM_hang_21 : decode b_MM_hang 21 = .ok (.aload_n 0, 1) := by decide +kernel
theorem d_MM_hang_22 : decode b_MM_hang 22 = .ok (.iload_n 3, 1) := by decide +kernel
theorem d_MM_hang_23 : decode b_MM_hang 23 = .ok (.invokevirtual 102, 3) := by decide +kernel
theorem d_MM_hang_26 : decode b_MM_hang 26 = .ok (.ifCond .eq 5, 3) := by decide +kernel
theorem d_MM_hang_29 : decode b_MM_hang 29 = .ok (.iconst (-1), 1) := by decide +kernel
theorem d_MM_hang_30 : decode b_MM_hang 30 = .ok (.ireturn, 1) := by decide +kernel
theorem d_MM_hang_31 : decode b_MM_hang 31 = .ok (.aload_n 0, 1) := by decide +kernel
theorem d_MM_hang_32 : decode b_MM_hang 32 = .ok (.iload_n 1, 1) := by decide +kernel
theorem d_MM_hang_33 : decode b_MM_hang 33 = .ok (.iload_n 2, 1) := by decide +kernel
theorem d_MM_hang_34 : decode b_MM_hang 34 = .ok (.invokevirtual 79, 3) := by decide +kernel
theorem d_MM_hang_37 : decode b_MM_hang 37 = .ok (.ifCond .lt 16, 3) := by decide +kernel
theorem d_MM_hang_40 : decode b_MM_hang 40 = .ok (.iload_n 3, 1) := by decide +kernel
theorem d_MM_hang_41 : decode b_MM_hang 41 = .ok (.ifCond .lt 15, 3) := by decide +kernel
theorem d_MM_hang_44 : decode b_MM_hang 44 = .ok (.aload_n 0, 1) := by decide +kernel
theorem d_MM_hang_45 : decode b_MM_hang 45 = .ok (.iload_n 1, 1) := by decide +kernel
theorem d_MM_hang_46 : decode b_MM_hang 46 = .ok (.iload_n 3, 1) := by decide +kernel
theorem d_MM_hang_47 : decode b_MM_hang 47 = .ok (.invokevirtual 105, 3) := by decide +kernel
theorem d_MM_hang_50 : decode b_MM_hang 50 = .ok (.ifCond .ne 6, 3) := by decide +kernel
theorem d_MM_hang_53 : decode b_MM_hang 53 = .ok (.bipush (-4), 2) := by decide +kernel
theorem d_MM_hang_55 : decode b_MM_hang 55 = .ok (.ireturn, 1) := by decide +kernel
theorem d_MM_hang_56 : decode b_MM_hang 56 = .ok (.iload_n 3, 1) := by decide +kernel
theorem d_MM_hang_57 : decode b_MM_hang 57 = .ok (.ifCond .lt 16, 3) := by decide +kernel
theorem d_MM_hang_60 : decode b_MM_hang 60 = .ok (.aload_n 0, 1) := by decide +kernel
theorem d_MM_hang_61 : decode b_MM_hang 61 = .ok (.getfield 26, 3) := by decide +kernel
theorem d_MM_hang_64 : decode b_MM_hang 64 = .ok (.iload_n 3, 1) := by decide +kernel
theorem d_MM_hang_65 : decode b_MM_hang 65 = .ok (.iaload, 1) := by decide +kernel
theorem d_MM_hang_66 : decode b_MM_hang 66 = .ok (.iload_n 2, 1) := by decide +kernel
theorem d_MM_hang_67 : decode b_MM_hang 67 = .ok (.if_icmp .eq 6, 3) := by decide +kernel
theorem d_MM_hang_70 : decode b_MM_hang 70 = .ok (.bipush (-5), 2) := by decide +kernel
theorem d_MM_hang_72 : decode b_MM_hang 72 = .ok (.ireturn, 1) := by decide +kernel
theorem d_MM_hang_73 : decode b_MM_hang 73 = .ok (.aload_n 0, 1) := by decide +kernel
theorem d_MM_hang_74 : decode b_MM_hang 74 = .ok (.getfield 23, 3) := by decide +kernel
theorem d_MM_hang_77 : decode b_MM_hang 77 = .ok (.iload_n 2, 1) := by decide +kernel
theorem d_MM_hang_78 : decode b_MM_hang 78 = .ok (.iload_n 3, 1) := by decide +kernel
theorem d_MM_hang_79 : decode b_MM_hang 79 = .ok (.iastore, 1) := by decide +kernel
theorem d_MM_hang_80 : decode b_MM_hang 80 = .ok (.iconst 0, 1) := by decide +kernel
theorem d_MM_hang_81 : decode b_MM_hang 81 = .ok (.ireturn, 1) := by decide +kernel
theorem d_MM_portal_0 : decode b_MM_portal 0 = .ok (.aload_n 0, 1) := by decide +kernel
theorem d_MM_portal_1 : decode b_MM_portal 1 = .ok (.iload_n 1, 1) := by decide +kernel
theorem d_MM_portal_2 : decode b_MM_portal 2 = .ok (.invokevirtual 72, 3) := by decide +kernel
theorem d_MM_portal_5 : decode b_MM_portal 5 = .ok (.ifCond .ne 11, 3) := by decide +kernel
theorem d_MM_portal_8 : decode b_MM_portal 8 = .ok (.aload_n 0, 1) := by decide +kernel
theorem d_MM_portal_9 : decode b_MM_portal 9 = .ok (.iload_n 2, 1) := by decide +kernel
theorem d_MM_portal_10 : decode b_MM_portal 10 = .ok (.invokevirtual 76, 3) := by decide +kernel
theorem d_MM_portal_13 : decode b_MM_portal 13 = .ok (.ifCond .eq 5, 3) := by decide +kernel
theorem d_MM_portal_16 : decode b_MM_portal 16 = .ok (.iconst (-1), 1) := by decide +kernel
theorem d_MM_portal_17 : decode b_MM_portal 17 = .ok (.ireturn, 1) := by decide +kernel
theorem d_MM_portal_18 : decode b_MM_portal 18 = .ok (.aload_n 0, 1) := by decide +kernel
theorem d_MM_portal_19 : decode b_MM_portal 19 = .ok (.iload_n 1, 1) := by decide +kernel
theorem d_MM_portal_20 : decode b_MM_portal 20 = .ok (.iload_n 2, 1) := by decide +kernel
theorem d_MM_portal_21 : decode b_MM_portal 21 = .ok (.invokevirtual 79, 3) := by decide +kernel
theorem d_MM_portal_24 : decode b_MM_portal 24 = .ok (.ifCond .ge 6, 3) := by decide +kernel
theorem d_MM_portal_27 : decode b_MM_portal 27 = .ok (.bipush (-4), 2) := by decide +kernel
theorem d_MM_portal_29 : decode b_MM_portal 29 = .ok (.ireturn, 1) := by decide +kernel
theorem d_MM_portal_30 : decode b_MM_portal 30 = .ok (.aload_n 0, 1) := by decide +kernel
theorem d_MM_portal_31 : decode b_MM_portal 31 = .ok (.getfield 23, 3) := by decide +kernel
theorem d_MM_portal_34 : decode b_MM_portal 34 = .ok (.iload_n 2, 1) := by decide +kernel
theorem d_MM_portal_35 : decode b_MM_portal 35 = .ok (.iaload, 1) := by decide +kernel
theorem d_MM_portal_36 : decode b_MM_portal 36 = .ok (.ifCond .ge 8, 3) := by decide +kernel
theorem d_MM_portal_39 : decode b_MM_portal 39 = .ok (.bipush (-6), 2) := by decide +kernel
theorem d_MM_portal_41 : decode b_MM_portal 41 = .ok (.goto 9, 3) := by decide +kernel
theorem d_MM_portal_44 : decode b_MM_portal 44 = .ok (.aload_n 0, 1) := by decide +kernel
theorem d_MM_portal_45 : decode b_MM_portal 45 = .ok (.getfield 23, 3) := by decide +kernel
theorem d_MM_portal_48 : decode b_MM_portal 48 = .ok (.iload_n 2, 1) := by decide +kernel
theorem d_MM_portal_49 : decode b_MM_portal 49 = .ok (.iaload, 1) := by decide +kernel
theorem d_MM_portal_50 : decode b_MM_portal 50 = .ok (.ireturn, 1) := by decide +kernel
theorem d_MM_assign_0 : decode b_MM_assign 0 = .ok (.aload_n 0, 1) := by decide +kernel
theorem d_MM_assign_1 : decode b_MM_assign 1 = .ok (.iload_n 1, 1) := by decide +kernel
theorem d_MM_assign_2 : decode b_MM_assign 2 = .ok (.invokevirtual 72, 3) := by decide +kernel
theorem d_MM_assign_5 : decode b_MM_assign 5 = .ok (.ifCond .ne 25, 3) := by decide +kernel
theorem d_MM_assign_8 : decode b_MM_assign 8 = .ok (.iload_n 2, 1) := by decide +kernel
theorem d_MM_assign_9 : decode b_MM_assign 9 = .ok (.ifCond .lt 21, 3) := by decide +kernel
theorem d_MM_assign_12 : decode b_MM_assign 12 = .ok (.iload_n 2, 1) := by decide +kernel
theorem d_MM_assign_13 : decode b_MM_assign 13 = .ok (.iconst 3, 1) := by decide +kernel
theorem d_MM_assign_14 : decode b_MM_assign 14 = .ok (.if_icmp .gt 16, 3) := by decide +kernel
theorem d_MM_assign_17 : decode b_MM_assign 17 = .ok (.iload_n 3, 1) := by decide +kernel
theorem d_MM_assign_18 : decode b_MM_assign 18 = .ok (.iconst (-1), 1) := by decide +kernel
theorem d_MM_assign_19 : decode b_MM_assign 19 = .ok (.if_icmp .eq 13, 3) := by decide +kernel
theorem d_MM_assign_22 : decode b_MM_assign 22 = .ok (.aload_n 0, 1) := by decide +kernel
theorem d_MM_assign_23 : decode b_MM_assign 23 = .ok (.iload_n 3, 1) := by decide +kernel
theorem d_MM_assign_24 : decode b_MM_assign 24 = .ok (.invokevirtual 102, 3) := by decide +kernel
theorem d_MM_assign_27 : decode b_MM_assign 27 = .ok (.ifCond .eq 5, 3) := by decide +kernel
theorem d_MM_assign_30 : decode b_MM_assign 30 = .ok (.iconst (-1), 1) := by decide +kernel
theorem d_MM_assign_31 : decode b_MM_assign 31 = .ok (.ireturn, 1) := by decide +kernel
theorem d_MM_assign_32 : decode b_MM_assign 32 = .ok (.iload_n 3, 1) := by decide +kernel
theorem d_MM_assign_33 : decode b_MM_assign 33 = .ok (.ifCond .lt 15, 3) := by decide +kernel
theorem d_MM_assign_36 : decode b_MM_assign 36 = .ok (.aload_n 0, 1) := by decide +kernel
theorem d_MM_assign_37 : decode b_MM_assign 37 = .ok (.iload_n 1, 1) := by decide +kernel
theorem d_MM_assign_38 : decode b_MM_assign 38 = .ok (.iload_n 3, 1) := by decide +kernel
theorem d_MM_assign_39 : decode b_MM_assign 39 = .ok (.invokevirtual 105, 3) := by decide +kernel
theorem d_MM_assign_42 : decode b_MM_assign 42 = .ok (.ifCond .ne 6, 3) := by decide +kernel
theorem d_MM_assign_45 : decode b_MM_assign 45 = .ok (.bipush (-4), 2) := by decide +kernel
theorem d_MM_assign_47 : decode b_MM_assign 47 = .ok (.ireturn, 1) := by decide +kernel
theorem d_MM_assign_48 : decode b_MM_assign 48 = .ok (.iload_n 3, 1) := by decide +kernel
theorem d_MM_assign_49 : decode b_MM_assign 49 = .ok (.ifCond .lt 16, 3) := by decide +kernel
theorem d_MM_assign_52 : decode b_MM_assign 52 = .ok (.aload_n 0, 1) := by decide +kernel
theorem d_MM_assign_53 : decode b_MM_assign 53 = .ok (.getfield 26, 3) := by decide +kernel
theorem d_MM_assign_56 : decode b_MM_assign 56 = .ok (.iload_n 3, 1) := by decide +kernel
theorem d_MM_assign_57 : decode b_MM_assign 57 = .ok (.iaload, 1) := by decide +kernel
theorem d_MM_assign_58 : decode b_MM_assign 58 = .ok (.iconst 1, 1) := by decide +kernel
theorem d_MM_assign_59 : decode b_MM_assign 59 = .ok (.if_icmp .le 6, 3) := by decide +kernel
theorem d_MM_assign_62 : decode b_MM_assign 62 = .ok (.bipush (-5), 2) := by decide +kernel
theorem d_MM_assign_64 : decode b_MM_assign 64 = .ok (.ireturn, 1) := by decide +kernel
theorem d_MM_assign_65 : decode b_MM_assign 65 = .ok (.aload_n 0, 1) := by decide +kernel
theorem d_MM_assign_66 : decode b_MM_assign 66 = .ok (.getfield 57, 3) := by decide +kernel
theorem d_MM_assign_69 : decode b_MM_assign 69 = .ok (.iload_n 2, 1) := by decide +kernel
theorem d_MM_assign_70 : decode b_MM_assign 70 = .ok (.iload_n 3, 1) := by decide +kernel
theorem d_MM_assign_71 : decode b_MM_assign 71 = .ok (.iastore, 1) := by decide +kernel
theorem d_MM_assign_72 : decode b_MM_assign 72 = .ok (.iconst 0, 1) := by decide +kernel
theorem d_MM_assign_73 : decode b_MM_assign 73 = .ok (.ireturn, 1) := by decide +kernel
theorem d_MM_keep_0 : decode b_MM_keep 0 = .ok (.iconst 0, 1) := by decide +kernel
theorem d_MM_keep_1 : decode b_MM_keep 1 = .ok (.istore_n 1, 1) := by decide +kernel
theorem d_MM_keep_2 : decode b_MM_keep 2 = .ok (.iconst 0, 1) := by decide +kernel
theorem d_MM_keep_3 : decode b_MM_keep 3 = .ok (.istore_n 2, 1) := by decide +kernel
theorem d_MM_keep_4 : decode b_MM_keep 4 = .ok (.iload_n 2, 1) := by decide +kernel
theorem d_MM_keep_5 : decode b_MM_keep 5 = .ok (.bipush 40, 2) := by decide +kernel
theorem d_MM_keep_7 : decode b_MM_keep 7 = .ok (.if_icmp .ge 16, 3) := by decide +kernel
theorem d_MM_keep_10 : decode b_MM_keep 10 = .ok (.aload_n 0, 1) := by decide +kernel
theorem d_MM_keep_11 : decode b_MM_keep 11 = .ok (.getfield 35, 3) := by decide +kernel
theorem d_MM_keep_14 : decode b_MM_keep 14 = .ok (.iload_n 2, 1) := by decide +kernel
theorem d_MM_keep_15 : decode b_MM_keep 15 = .ok (.iconst 0, 1) := by decide +kernel
theorem d_MM_keep_16 : decode b_MM_keep 16 = .ok (.bastore, 1) := by decide +kernel
theorem d_MM_keep_17 : decode b_MM_keep 17 = .ok (.iinc 2 1, 3) := by decide +kernel
theorem d_MM_keep_20 : decode b_MM_keep 20 = .ok (.goto (-16), 3) := by decide +kernel
theorem d_MM_keep_23 : decode b_MM_keep 23 = .ok (.iconst 1, 1) := by decide +kernel
theorem d_MM_keep_24 : decode b_MM_keep 24 = .ok (.istore_n 2, 1) := by decide +kernel
theorem d_MM_keep_25 : decode b_MM_keep 25 = .ok (.iconst 0, 1) := by decide +kernel
theorem d_MM_keep_26 : decode b_MM_keep 26 = .ok (.istore_n 3, 1) := by decide +kernel
theorem d_MM_keep_27 : decode b_MM_keep 27 = .ok (.iload_n 3, 1) := by decide +kernel
theorem d_MM_keep_28 : decode b_MM_keep 28 = .ok (.bipush 41, 2) := by decide +kernel
theorem d_MM_keep_30 : decode b_MM_keep 30 = .ok (.if_icmp .ge 141, 3) := by decide +kernel
theorem d_MM_keep_33 : decode b_MM_keep 33 = .ok (.iload_n 2, 1) := by decide +kernel
theorem d_MM_keep_34 : decode b_MM_keep 34 = .ok (.ifCond .eq 137, 3) := by decide +kernel
theorem d_MM_keep_37 : decode b_MM_keep 37 = .ok (.iconst 0, 1) := by decide +kernel
theorem d_MM_keep_38 : decode b_MM_keep 38 = .ok (.istore_n 2, 1) := by decide +kernel
theorem d_MM_keep_39 : decode b_MM_keep 39 = .ok (.iconst 0, 1) := by decide +kernel
theorem d_MM_keep_40 : decode b_MM_keep 40 = .ok (.istore 4, 2) := by decide +kernel
theorem d_MM_keep_42 : decode b_MM_keep 42 = .ok (.iload 4, 2) := by decide +kernel
theorem d_MM_keep_44 : decode b_MM_keep 44 = .ok (.iconst 4, 1) := by decide +kernel
theorem d_MM_keep_45 : decode b_MM_keep 45 = .ok (.if_icmp .ge 25, 3) := by decide +kernel
theorem d_MM_keep_48 : decode b_MM_keep 48 = .ok (.aload_n 0, 1) := by decide +kernel
theorem d_MM_keep_49 : decode b_MM_keep 49 = .ok (.aload_n 0, 1) := by decide +kernel
theorem d_MM_keep_50 : decode b_MM_keep 50 = .ok (.getfield 57, 3) := by decide +kernel
theorem d_MM_keep_53 : decode b_MM_keep 53 = .ok (.iload 4, 2) := by decide +kernel
theorem d_MM_keep_55 : decode b_MM_keep 55 = .ok (.iaload, 1) := by decide +kernel
theorem d_MM_keep_56 : decode b_MM_keep 56 = .ok (.invokevirtual 111, 3) := by decide +kernel
theorem d_MM_keep_59 : decode b_MM_keep 59 = .ok (.ifCond .eq 5, 3) := by decide +kernel
theorem d_MM_keep_62 : decode b_MM_keep 62 = .ok (.iconst 1, 1) := by decide +kernel
theorem d_MM_keep_63 : decode b_MM_keep 63 = .ok (.istore_n 2, 1) := by decide +kernel
theorem d_MM_keep_64 : decode b_MM_keep 64 = .ok (.iinc 4 1, 3) := by decide +kernel
theorem d_MM_keep_67 : decode b_MM_keep 67 = .ok (.goto (-25), 3) := by decide +kernel
theorem d_MM_keep_70 : decode b_MM_keep 70 = .ok (.iconst 0, 1) := by decide +kernel
theorem d_MM_keep_71 : decode b_MM_keep 71 = .ok (.istore 4, 2) := by decide +kernel
theorem d_MM_keep_73 : decode b_MM_keep 73 = .ok (.iload 4, 2) := by decide +kernel
theorem d_MM_keep_75 : decode b_MM_keep 75 = .ok (.sipush 160, 3) := by decide +kernel
theorem d_MM_keep_78 : decode b_MM_keep 78 = .ok (.if_icmp .ge 87, 3) := by decide +kernel
theorem d_MM_keep_81 : decode b_MM_keep 81 = .ok (.iload 4, 2) := by decide +kernel
theorem d_MM_keep_83 : decode b_MM_keep 83 = .ok (.iconst 4, 1) := by decide +kernel
theorem d_MM_keep_84 : decode b_MM_keep 84 = .ok (.idiv, 1) := by decide +kernel
theorem d_MM_keep_85 : decode b_MM_keep 85 = .ok (.istore 5, 2) := by decide +kernel
theorem d_MM_keep_87 : decode b_MM_keep 87 = .ok (.aload_n 0, 1) := by decide +kernel
theorem d_MM_keep_88 : decode b_MM_keep 88 = .ok (.getfield 26, 3) := by decide +kernel
theorem d_MM_keep_91 : decode b_MM_keep 91 = .ok (.iload 5, 2) := by decide +kernel
theorem d_MM_keep_93 : decode b_MM_keep 93 = .ok (.iaload, 1) := by decide +kernel
theorem d_MM_keep_94 : decode b_MM_keep 94 = .ok (.ifCond .gt 23, 3) := by decide +kernel
theorem d_MM_keep_97 : decode b_MM_keep 97 = .ok (.aload_n 0, 1) := by decide +kernel
theorem d_MM_keep_98 : decode b_MM_keep 98 = .ok (.getfield 26, 3) := by decide +kernel
theorem d_MM_keep_101 : decode b_MM_keep 101 = .ok (.iload 5, 2) := by decide +kernel
theorem d_MM_keep_103 : decode b_MM_keep 103 = .ok (.iaload, 1) := by decide +kernel
theorem d_MM_keep_104 : decode b_MM_keep 104 = .ok (.ifCond .ne 17, 3) := by decide +kernel
theorem d_MM_keep_107 : decode b_MM_keep 107 = .ok (.aload_n 0, 1) := by decide +kernel
theorem d_MM_keep_108 : decode b_MM_keep 108 = .ok (.getfield 35, 3) := by decide +kernel
theorem d_MM_keep_111 : decode b_MM_keep 111 = .ok (.iload 5, 2) := by decide +kernel
theorem d_MM_keep_113 : decode b_MM_keep 113 = .ok (.baload, 1) := by decide +kernel
theorem d_MM_keep_114 : decode b_MM_keep 114 = .ok (.ifCond .eq 7, 3) := by decide +kernel
theorem d_MM_keep_117 : decode b_MM_keep 117 = .ok (.iconst 1, 1) := by decide +kernel
theorem d_MM_keep_118 : decode b_MM_keep 118 = .ok (.goto 4, 3) := by decide +kernel
theorem d_MM_keep_121 : decode b_MM_keep 121 = .ok (.iconst 0, 1) := by decide +kernel
theorem d_MM_keep_122 : decode b_MM_keep 122 = .ok (.istore 6, 2) := by decide +kernel
theorem d_MM_keep_124 : decode b_MM_keep 124 = .ok (.iload 6, 2) := by decide +kernel
theorem d_MM_keep_126 : decode b_MM_keep 126 = .ok (.ifCond .eq 33, 3) := by decide +kernel
theorem d_MM_keep_129 : decode b_MM_keep 129 = .ok (.iload 4, 2) := by decide +kernel
theorem d_MM_keep_131 : decode b_MM_keep 131 = .ok (.iconst 4, 1) := by decide +kernel
theorem d_MM_keep_132 : decode b_MM_keep 132 = .ok (.irem, 1) := by decide +kernel
theorem d_MM_keep_133 : decode b_MM_keep 133 = .ok (.aload_n 0, 1) := by decide +kernel
theorem d_MM_keep_134 : decode b_MM_keep 134 = .ok (.getfield 29, 3) := by decide +kernel
theorem d_MM_keep_137 : decode b_MM_keep 137 = .ok (.iload 5, 2) := by decide +kernel
theorem d_MM_keep_139 : decode b_MM_keep 139 = .ok (.iaload, 1) := by decide +kernel
theorem d_MM_keep_140 : decode b_MM_keep 140 = .ok (.if_icmp .ge 19, 3) := by decide +kernel
theorem d_MM_keep_143 : decode b_MM_keep 143 = .ok (.aload_n 0, 1) := by decide +kernel
theorem d_MM_keep_144 : decode b_MM_keep 144 = .ok (.aload_n 0, 1) := by decide +kernel
theorem d_MM_keep_145 : decode b_MM_keep 145 = .ok (.getfield 32, 3) := by decide +kernel
theorem d_MM_keep_148 : decode b_MM_keep 148 = .ok (.iload 4, 2) := by decide +kernel
theorem d_MM_keep_150 : decode b_MM_keep 150 = .ok (.iaload, 1) := by decide +kernel
theorem d_MM_keep_151 : decode b_MM_keep 151 = .ok (.invokevirtual 111, 3) := by decide +kernel
theorem d_MM_keep_154 : decode b_MM_keep 154 = .ok (.ifCond .eq 5, 3) := by decide +kernel
theorem d_MM_keep_157 : decode b_MM_keep 157 = .ok (.iconst 1, 1) := by decide +kernel
theorem d_MM_keep_158 : decode b_MM_keep 158 = .ok (.istore_n 2, 1) := by decide +kernel
theorem d_MM_keep_159 : decode b_MM_keep 159 = .ok (.iinc 4 1, 3) := by decide +kernel
theorem d_MM_keep_162 : decode b_MM_keep 162 = .ok (.goto (-89), 3) := by decide +kernel
theorem d_MM_keep_165 : decode b_MM_keep 165 = .ok (.iinc 3 1, 3) := by decide +kernel
theorem d_MM_keep_168 : decode b_MM_keep 168 = .ok (.goto (-141), 3) := by decide +kernel
theorem d_MM_keep_171 : decode b_MM_keep 171 = .ok (.iconst 0, 1) := by decide +kernel
theorem d_MM_keep_172 : decode b_MM_keep 172 = .ok (.istore_n 3, 1) := by decide +kernel
theorem d_MM_keep_173 : decode b_MM_keep 173 = .ok (.iload_n 3, 1) := by decide +kernel
theorem d_MM_keep_174 : decode b_MM_keep 174 = .ok (.bipush 40, 2) := by decide +kernel
theorem d_MM_keep_176 : decode b_MM_keep 176 = .ok (.if_icmp .ge 21, 3) := by decide +kernel
theorem d_MM_keep_179 : decode b_MM_keep 179 = .ok (.aload_n 0, 1) := by decide +kernel
theorem d_MM_keep_180 : decode b_MM_keep 180 = .ok (.getfield 35, 3) := by decide +kernel
theorem d_MM_keep_183 : decode b_MM_keep 183 = .ok (.iload_n 3, 1) := by decide +kernel
theorem d_MM_keep_184 : decode b_MM_keep 184 = .ok (.baload, 1) := by decide +kernel
theorem d_MM_keep_185 : decode b_MM_keep 185 = .ok (.ifCond .eq 6, 3) := by decide +kernel
theorem d_MM_keep_188 : decode b_MM_keep 188 = .ok (.iinc 1 1, 3) := by decide +kernel
theorem d_MM_keep_191 : decode b_MM_keep 191 = .ok (.iinc 3 1, 3) := by decide +kernel
theorem d_MM_keep_194 : decode b_MM_keep 194 = .ok (.goto (-21), 3) := by decide +kernel
theorem d_MM_keep_197 : decode b_MM_keep 197 = .ok (.iload_n 1, 1) := by decide +kernel
theorem d_MM_keep_198 : decode b_MM_keep 198 = .ok (.ireturn, 1) := by decide +kernel
theorem d_MM_keeps_0 : decode b_MM_keeps 0 = .ok (.iload_n 1, 1) := by decide +kernel
theorem d_MM_keeps_1 : decode b_MM_keeps 1 = .ok (.ifCond .lt 21, 3) := by decide +kernel
theorem d_MM_keeps_4 : decode b_MM_keeps 4 = .ok (.aload_n 0, 1) := by decide +kernel
theorem d_MM_keeps_5 : decode b_MM_keeps 5 = .ok (.getfield 26, 3) := by decide +kernel
theorem d_MM_keeps_8 : decode b_MM_keeps 8 = .ok (.iload_n 1, 1) := by decide +kernel
theorem d_MM_keeps_9 : decode b_MM_keeps 9 = .ok (.iaload, 1) := by decide +kernel
theorem d_MM_keeps_10 : decode b_MM_keeps 10 = .ok (.ifCond .ne 12, 3) := by decide +kernel
theorem d_MM_keeps_13 : decode b_MM_keeps 13 = .ok (.aload_n 0, 1) := by decide +kernel
theorem d_MM_keeps_14 : decode b_MM_keeps 14 = .ok (.getfield 35, 3) := by decide +kernel
theorem d_MM_keeps_17 : decode b_MM_keeps 17 = .ok (.iload_n 1, 1) := by decide +kernel
theorem d_MM_keeps_18 : decode b_MM_keeps 18 = .ok (.baload, 1) := by decide +kernel
theorem d_MM_keeps_19 : decode b_MM_keeps 19 = .ok (.ifCond .eq 5, 3) := by decide +kernel
theorem d_MM_keeps_22 : decode b_MM_keeps 22 = .ok (.iconst 0, 1) := by decide +kernel
theorem d_MM_keeps_23 : decode b_MM_keeps 23 = .ok (.ireturn, 1) := by decide +kernel
theorem d_MM_keeps_24 : decode b_MM_keeps 24 = .ok (.aload_n 0, 1) := by decide +kernel
theorem d_MM_keeps_25 : decode b_MM_keeps 25 = .ok (.getfield 35, 3) := by decide +kernel
theorem d_MM_keeps_28 : decode b_MM_keeps 28 = .ok (.iload_n 1, 1) := by decide +kernel
theorem d_MM_keeps_29 : decode b_MM_keeps 29 = .ok (.iconst 1, 1) := by decide +kernel
theorem d_MM_keeps_30 : decode b_MM_keeps 30 = .ok (.bastore, 1) := by decide +kernel
theorem d_MM_keeps_31 : decode b_MM_keeps 31 = .ok (.iconst 1, 1) := by decide +kernel
theorem d_MM_keeps_32 : decode b_MM_keeps 32 = .ok (.ireturn, 1) := by decide +kernel
theorem d_MM_collect_0 : decode b_MM_collect 0 = .ok (.iconst 0, 1) := by decide +kernel
theorem d_MM_collect_1 : decode b_MM_collect 1 = .ok (.istore_n 1, 1) := by decide +kernel
theorem d_MM_collect_2 : decode b_MM_collect 2 = .ok (.aload_n 0, 1) := by decide +kernel
theorem d_MM_collect_3 : decode b_MM_collect 3 = .ok (.invokevirtual 114, 3) := by decide +kernel
theorem d_MM_collect_6 : decode b_MM_collect 6 = .ok (.pop, 1) := by decide +kernel
theorem d_MM_collect_7 : decode b_MM_collect 7 = .ok (.iconst 0, 1) := by decide +kernel
theorem d_MM_collect_8 : decode b_MM_collect 8 = .ok (.istore_n 2, 1) := by decide +kernel
theorem d_MM_collect_9 : decode b_MM_collect 9 = .ok (.iload_n 2, 1) := by decide +kernel
theorem d_MM_collect_10 : decode b_MM_collect 10 = .ok (.bipush 40, 2) := by decide +kernel
theorem d_MM_collect_12 : decode b_MM_collect 12 = .ok (.if_icmp .ge 40, 3) := by decide +kernel
theorem d_MM_collect_15 : decode b_MM_collect 15 = .ok (.aload_n 0, 1) := by decide +kernel
theorem d_MM_collect_16 : decode b_MM_collect 16 = .ok (.getfield 26, 3) := by decide +kernel
theorem d_MM_collect_19 : decode b_MM_collect 19 = .ok (.iload_n 2, 1) := by decide +kernel
theorem d_MM_collect_20 : decode b_MM_collect 20 = .ok (.iaload, 1) := by decide +kernel
theorem d_MM_collect_21 : decode b_MM_collect 21 = .ok (.ifCond .ne 25, 3) := by decide +kernel
theorem d_MM_collect_24 : decode b_MM_collect 24 = .ok (.aload_n 0, 1) := by decide +kernel
theorem d_MM_collect_25 : decode b_MM_collect 25 = .ok (.getfield 35, 3) := by decide +kernel
theorem d_MM_collect_28 : decode b_MM_collect 28 = .ok (.iload_n 2, 1) := by decide +kernel
theorem d_MM_collect_29 : decode b_MM_collect 29 = .ok (.baload, 1) := by decide +kernel
theorem d_MM_collect_30 : decode b_MM_collect 30 = .ok (.ifCond .eq 6, 3) := by decide +kernel
theorem d_MM_collect_33 : decode b_MM_collect 33 = .ok (.goto 13, 3) := by decide +kernel
theorem d_MM_collect_36 : decode b_MM_collect 36 = .ok (.aload_n 0, 1) := by decide +kernel
theorem d_MM_collect_37 : decode b_MM_collect 37 = .ok (.getfield 26, 3) := by decide +kernel
theorem d_MM_collect_40 : decode b_MM_collect 40 = .ok (.iload_n 2, 1) := by decide +kernel
theorem d_MM_collect_41 : decode b_MM_collect 41 = .ok (.iconst (-1), 1) := by decide +kernel
theorem d_MM_collect_42 : decode b_MM_collect 42 = .ok (.iastore, 1) := by decide +kernel
theorem d_MM_collect_43 : decode b_MM_collect 43 = .ok (.iinc 1 1, 3) := by decide +kernel
theorem d_MM_collect_46 : decode b_MM_collect 46 = .ok (.iinc 2 1, 3) := by decide +kernel
theorem d_MM_collect_49 : decode b_MM_collect 49 = .ok (.goto (-40), 3) := by decide +kernel
theorem d_MM_collect_52 : decode b_MM_collect 52 = .ok (.iload_n 1, 1) := by decide +kernel
theorem d_MM_collect_53 : decode b_MM_collect 53 = .ok (.ireturn, 1) := by decide +kernel
theorem d_MM_areaOf_0 : decode b_MM_areaOf 0 = .ok (.aload_n 0, 1) := by decide +kernel
theorem d_MM_areaOf_1 : decode b_MM_areaOf 1 = .ok (.iload_n 1, 1) := by decide +kernel
theorem d_MM_areaOf_2 : decode b_MM_areaOf 2 = .ok (.invokevirtual 102, 3) := by decide +kernel
theorem d_MM_areaOf_5 : decode b_MM_areaOf 5 = .ok (.ifCond .eq 7, 3) := by decide +kernel
theorem d_MM_areaOf_8 : decode b_MM_areaOf 8 = .ok (.iconst (-1), 1) := by decide +kernel
theorem d_MM_areaOf_9 : decode b_MM_areaOf 9 = .ok (.goto 9, 3) := by decide +kernel
theorem d_MM_areaOf_12 : decode b_MM_areaOf 12 = .ok (.aload_n 0, 1) := by decide +kernel
theorem d_MM_areaOf_13 : decode b_MM_areaOf 13 = .ok (.getfield 26, 3) := by decide +kernel
theorem d_MM_areaOf_16 : decode b_MM_areaOf 16 = .ok (.iload_n 1, 1) := by decide +kernel
theorem d_MM_areaOf_17 : decode b_MM_areaOf 17 = .ok (.iaload, 1) := by decide +kernel
theorem d_MM_areaOf_18 : decode b_MM_areaOf 18 = .ok (.ireturn, 1) := by decide +kernel
theorem d_MM_room_0 : decode b_MM_room 0 = .ok (.aload_n 0, 1) := by decide +kernel
theorem d_MM_room_1 : decode b_MM_room 1 = .ok (.iload_n 1, 1) := by decide +kernel
theorem d_MM_room_2 : decode b_MM_room 2 = .ok (.invokevirtual 85, 3) := by decide +kernel
theorem d_MM_room_5 : decode b_MM_room 5 = .ok (.ifCond .eq 7, 3) := by decide +kernel
theorem d_MM_room_8 : decode b_MM_room 8 = .ok (.iconst (-1), 1) := by decide +kernel
theorem d_MM_room_9 : decode b_MM_room 9 = .ok (.goto 15, 3) := by decide +kernel
theorem d_MM_room_12 : decode b_MM_room 12 = .ok (.aload_n 0, 1) := by decide +kernel
theorem d_MM_room_13 : decode b_MM_room 13 = .ok (.getfield 13, 3) := by decide +kernel
theorem d_MM_room_16 : decode b_MM_room 16 = .ok (.iload_n 1, 1) := by decide +kernel
theorem d_MM_room_17 : decode b_MM_room 17 = .ok (.iaload, 1) := by decide +kernel
theorem d_MM_room_18 : decode b_MM_room 18 = .ok (.aload_n 0, 1) := by decide +kernel
theorem d_MM_room_19 : decode b_MM_room 19 = .ok (.iload_n 1, 1) := by decide +kernel
theorem d_MM_room_20 : decode b_MM_room 20 = .ok (.invokevirtual 95, 3) := by decide +kernel
theorem d_MM_room_23 : decode b_MM_room 23 = .ok (.isub, 1) := by decide +kernel
theorem d_MM_room_24 : decode b_MM_room 24 = .ok (.ireturn, 1) := by decide +kernel
theorem d_MM_parent_0 : decode b_MM_parent 0 = .ok (.aload_n 0, 1) := by decide +kernel
theorem d_MM_parent_1 : decode b_MM_parent 1 = .ok (.iload_n 1, 1) := by decide +kernel
theorem d_MM_parent_2 : decode b_MM_parent 2 = .ok (.invokevirtual 76, 3) := by decide +kernel
theorem d_MM_parent_5 : decode b_MM_parent 5 = .ok (.ifCond .eq 7, 3) := by decide +kernel
theorem d_MM_parent_8 : decode b_MM_parent 8 = .ok (.iconst (-1), 1) := by decide +kernel
theorem d_MM_parent_9 : decode b_MM_parent 9 = .ok (.goto 23, 3) := by decide +kernel
theorem d_MM_parent_12 : decode b_MM_parent 12 = .ok (.aload_n 0, 1) := by decide +kernel
theorem d_MM_parent_13 : decode b_MM_parent 13 = .ok (.getfield 17, 3) := by decide +kernel
theorem d_MM_parent_16 : decode b_MM_parent 16 = .ok (.iload_n 1, 1) := by decide +kernel
theorem d_MM_parent_17 : decode b_MM_parent 17 = .ok (.iaload, 1) := by decide +kernel
theorem d_MM_parent_18 : decode b_MM_parent 18 = .ok (.ifCond .ne 8, 3) := by decide +kernel
theorem d_MM_parent_21 : decode b_MM_parent 21 = .ok (.bipush (-6), 2) := by decide +kernel
theorem d_MM_parent_23 : decode b_MM_parent 23 = .ok (.goto 9, 3) := by decide +kernel
theorem d_MM_parent_26 : decode b_MM_parent 26 = .ok (.aload_n 0, 1) := by decide +kernel
theorem d_MM_parent_27 : decode b_MM_parent 27 = .ok (.getfield 20, 3) := by decide +kernel
theorem d_MM_parent_30 : decode b_MM_parent 30 = .ok (.iload_n 1, 1) := by decide +kernel
theorem d_MM_parent_31 : decode b_MM_parent 31 = .ok (.iaload, 1) := by decide +kernel
theorem d_MM_parent_32 : decode b_MM_parent 32 = .ok (.ireturn, 1) := by decide +kernel
theorem d_MM_entries_0 : decode b_MM_entries 0 = .ok (.aload_n 0, 1) := by decide +kernel
theorem d_MM_entries_1 : decode b_MM_entries 1 = .ok (.iload_n 1, 1) := by decide +kernel
theorem d_MM_entries_2 : decode b_MM_entries 2 = .ok (.invokevirtual 76, 3) := by decide +kernel
theorem d_MM_entries_5 : decode b_MM_entries 5 = .ok (.ifCond .eq 7, 3) := by decide +kernel
theorem d_MM_entries_8 : decode b_MM_entries 8 = .ok (.iconst (-1), 1) := by decide +kernel
theorem d_MM_entries_9 : decode b_MM_entries 9 = .ok (.goto 9, 3) := by decide +kernel
theorem d_MM_entries_12 : decode b_MM_entries 12 = .ok (.aload_n 0, 1) := by decide +kernel
theorem d_MM_entries_13 : decode b_MM_entries 13 = .ok (.getfield 17, 3) := by decide +kernel
theorem d_MM_entries_16 : decode b_MM_entries 16 = .ok (.iload_n 1, 1) := by decide +kernel
theorem d_MM_entries_17 : decode b_MM_entries 17 = .ok (.iaload, 1) := by decide +kernel
theorem d_MM_entries_18 : decode b_MM_entries 18 = .ok (.ireturn, 1) := by decide +kernel
theorem d_MM_view_0 : decode b_MM_view 0 = .ok (.aload_n 0, 1) := by decide +kernel
theorem d_MM_view_1 : decode b_MM_view 1 = .ok (.iload_n 1, 1) := by decide +kernel
theorem d_MM_view_2 : decode b_MM_view 2 = .ok (.invokevirtual 72, 3) := by decide +kernel
theorem d_MM_view_5 : decode b_MM_view 5 = .ok (.ifCond .ne 13, 3) := by decide +kernel
theorem d_MM_view_8 : decode b_MM_view 8 = .ok (.iload_n 2, 1) := by decide +kernel
theorem d_MM_view_9 : decode b_MM_view 9 = .ok (.ifCond .lt 9, 3) := by decide +kernel
theorem d_MM_view_12 : decode b_MM_view 12 = .ok (.iload_n 2, 1) := by decide +kernel
theorem d_MM_view_13 : decode b_MM_view 13 = .ok (.bipush 11, 2) := by decide +kernel
theorem d_MM_view_15 : decode b_MM_view 15 = .ok (.if_icmp .le 5, 3) := by decide +kernel
theorem d_MM_view_18 : decode b_MM_view 18 = .ok (.iconst (-1), 1) := by decide +kernel
theorem d_MM_view_19 : decode b_MM_view 19 = .ok (.ireturn, 1) := by decide +kernel
theorem d_MM_view_20 : decode b_MM_view 20 = .ok (.aload_n 0, 1) := by decide +kernel
theorem d_MM_view_21 : decode b_MM_view 21 = .ok (.iload_n 1, 1) := by decide +kernel
theorem d_MM_view_22 : decode b_MM_view 22 = .ok (.iload_n 2, 1) := by decide +kernel
theorem d_MM_view_23 : decode b_MM_view 23 = .ok (.invokevirtual 68, 3) := by decide +kernel
theorem d_MM_view_26 : decode b_MM_view 26 = .ok (.istore_n 3, 1) := by decide +kernel
theorem d_MM_view_27 : decode b_MM_view 27 = .ok (.iload_n 3, 1) := by decide +kernel
theorem d_MM_view_28 : decode b_MM_view 28 = .ok (.ifCond .ge 7, 3) := by decide +kernel
theorem d_MM_view_31 : decode b_MM_view 31 = .ok (.iconst (-1), 1) := by decide +kernel
theorem d_MM_view_32 : decode b_MM_view 32 = .ok (.goto 14, 3) := by decide +kernel
theorem d_MM_view_35 : decode b_MM_view 35 = .ok (.aload_n 0, 1) := by decide +kernel
theorem d_MM_view_36 : decode b_MM_view 36 = .ok (.getfield 48, 3) := by decide +kernel
theorem d_MM_view_39 : decode b_MM_view 39 = .ok (.iload_n 1, 1) := by decide +kernel
theorem d_MM_view_40 : decode b_MM_view 40 = .ok (.bipush 12, 2) := by decide +kernel
theorem d_MM_view_42 : decode b_MM_view 42 = .ok (.imul, 1) := by decide +kernel
theorem d_MM_view_43 : decode b_MM_view 43 = .ok (.iload_n 3, 1) := by decide +kernel
theorem d_MM_view_44 : decode b_MM_view 44 = .ok (.iadd, 1) := by decide +kernel
theorem d_MM_view_45 : decode b_MM_view 45 = .ok (.iaload, 1) := by decide +kernel
theorem d_MM_view_46 : decode b_MM_view 46 = .ok (.ireturn, 1) := by decide +kernel
theorem d_MM_count_0 : decode b_MM_count 0 = .ok (.iconst 0, 1) := by decide +kernel
theorem d_MM_count_1 : decode b_MM_count 1 = .ok (.istore_n 2, 1) := by decide +kernel
theorem d_MM_count_2 : decode b_MM_count 2 = .ok (.iload_n 1, 1) := by decide +kernel
theorem d_MM_count_3 : decode b_MM_count 3 = .ok (.ifCond .ne 29, 3) := by decide +kernel
theorem d_MM_count_6 : decode b_MM_count 6 = .ok (.iconst 0, 1) := by decide +kernel
theorem d_MM_count_7 : decode b_MM_count 7 = .ok (.istore_n 3, 1) := by decide +kernel
theorem d_MM_count_8 : decode b_MM_count 8 = .ok (.iload_n 3, 1) := by decide +kernel
theorem d_MM_count_9 : decode b_MM_count 9 = .ok (.bipush 40, 2) := by decide +kernel
theorem d_MM_count_11 : decode b_MM_count 11 = .ok (.if_icmp .ge 21, 3) := by decide +kernel
theorem d_MM_count_14 : decode b_MM_count 14 = .ok (.aload_n 0, 1) := by decide +kernel
theorem d_MM_count_15 : decode b_MM_count 15 = .ok (.getfield 26, 3) := by decide +kernel
theorem d_MM_count_18 : decode b_MM_count 18 = .ok (.iload_n 3, 1) := by decide +kernel
theorem d_MM_count_19 : decode b_MM_count 19 = .ok (.iaload, 1) := by decide +kernel
theorem d_MM_count_20 : decode b_MM_count 20 = .ok (.ifCond .lt 6, 3) := by decide +kernel
theorem d_MM_count_23 : decode b_MM_count 23 = .ok (.iinc 2 1, 3) := by decide +kernel
theorem d_MM_count_26 : decode b_MM_count 26 = .ok (.iinc 3 1, 3) := by decide +kernel
theorem d_MM_count_29 : decode b_MM_count 29 = .ok (.goto (-21), 3) := by decide +kernel
theorem d_MM_count_32 : decode b_MM_count 32 = .ok (.iload_n 1, 1) := by decide +kernel
theorem d_MM_count_33 : decode b_MM_count 33 = .ok (.iconst 2, 1) := by decide +kernel
theorem d_MM_count_34 : decode b_MM_count 34 = .ok (.if_icmp .ne 28, 3) := by decide +kernel
theorem d_MM_count_37 : decode b_MM_count 37 = .ok (.iconst 0, 1) := by decide +kernel
theorem d_MM_count_38 : decode b_MM_count 38 = .ok (.istore_n 3, 1) := by decide +kernel
theorem d_MM_count_39 : decode b_MM_count 39 = .ok (.iload_n 3, 1) := by decide +kernel
theorem d_MM_count_40 : decode b_MM_count 40 = .ok (.iconst 4, 1) := by decide +kernel
theorem d_MM_count_41 : decode b_MM_count 41 = .ok (.if_icmp .ge 21, 3) := by decide +kernel
theorem d_MM_count_44 : decode b_MM_count 44 = .ok (.aload_n 0, 1) := by decide +kernel
theorem d_MM_count_45 : decode b_MM_count 45 = .ok (.getfield 39, 3) := by decide +kernel
theorem d_MM_count_48 : decode b_MM_count 48 = .ok (.iload_n 3, 1) := by decide +kernel
theorem d_MM_count_49 : decode b_MM_count 49 = .ok (.baload, 1) := by decide +kernel
theorem d_MM_count_50 : decode b_MM_count 50 = .ok (.ifCond .eq 6, 3) := by decide +kernel
theorem d_MM_count_53 : decode b_MM_count 53 = .ok (.iinc 2 1, 3) := by decide +kernel
theorem d_MM_count_56 : decode b_MM_count 56 = .ok (.iinc 3 1, 3) := by decide +kernel
theorem d_MM_count_59 : decode b_MM_count 59 = .ok (.goto (-20), 3) := by decide +kernel
theorem d_MM_count_62 : decode b_MM_count 62 = .ok (.iload_n 1, 1) := by decide +kernel
theorem d_MM_count_63 : decode b_MM_count 63 = .ok (.ifCond .eq 8, 3) := by decide +kernel
theorem d_MM_count_66 : decode b_MM_count 66 = .ok (.iload_n 1, 1) := by decide +kernel
theorem d_MM_count_67 : decode b_MM_count 67 = .ok (.iconst 2, 1) := by decide +kernel
theorem d_MM_count_68 : decode b_MM_count 68 = .ok (.if_icmp .ne 5, 3) := by decide +kernel
theorem d_MM_count_71 : decode b_MM_count 71 = .ok (.iload_n 2, 1) := by decide +kernel
theorem d_MM_count_72 : decode b_MM_count 72 = .ok (.ireturn, 1) := by decide +kernel
theorem d_MM_count_73 : decode b_MM_count 73 = .ok (.iload_n 1, 1) := by decide +kernel
theorem d_MM_count_74 : decode b_MM_count 74 = .ok (.iconst 1, 1) := by decide +kernel
theorem d_MM_count_75 : decode b_MM_count 75 = .ok (.if_icmp .ne 8, 3) := by decide +kernel
theorem d_MM_count_78 : decode b_MM_count 78 = .ok (.aload_n 0, 1) := by decide +kernel
theorem d_MM_count_79 : decode b_MM_count 79 = .ok (.getfield 7, 3) := by decide +kernel
theorem d_MM_count_82 : decode b_MM_count 82 = .ok (.ireturn, 1) := by decide +kernel
theorem d_MM_count_83 : decode b_MM_count 83 = .ok (.iload_n 1, 1) := by decide +kernel
theorem d_MM_count_84 : decode b_MM_count 84 = .ok (.iconst 3, 1) := by decide +kernel
theorem d_MM_count_85 : decode b_MM_count 85 = .ok (.if_icmp .ne 8, 3) := by decide +kernel
theorem d_MM_count_88 : decode b_MM_count 88 = .ok (.aload_n 0, 1) := by decide +kernel
theorem d_MM_count_89 : decode b_MM_count 89 = .ok (.invokevirtual 114, 3) := by decide +kernel
theorem d_MM_count_92 : decode b_MM_count 92 = .ok (.ireturn, 1) := by decide +kernel
theorem d_MM_count_93 : decode b_MM_count 93 = .ok (.iload_n 1, 1) := by decide +kernel
theorem d_MM_count_94 : decode b_MM_count 94 = .ok (.iconst 3, 1) := by decide +kernel
theorem d_MM_count_95 : decode b_MM_count 95 = .ok (.if_icmp .le 36, 3) := by decide +kernel
theorem d_MM_count_98 : decode b_MM_count 98 = .ok (.iload_n 1, 1) := by decide +kernel
theorem d_MM_count_99 : decode b_MM_count 99 = .ok (.bipush 8, 2) := by decide +kernel
theorem d_MM_count_101 : decode b_MM_count 101 = .ok (.if_icmp .ge 30, 3) := by decide +kernel
theorem d_MM_count_104 : decode b_MM_count 104 = .ok (.aload_n 0, 1) := by decide +kernel
theorem d_MM_count_105 : decode b_MM_count 105 = .ok (.getfield 57, 3) := by decide +kernel
theorem d_MM_count_108 : decode b_MM_count 108 = .ok (.iload_n 1, 1) := by decide +kernel
theorem d_MM_count_109 : decode b_MM_count 109 = .ok (.iconst 4, 1) := by decide +kernel
theorem d_MM_count_110 : decode b_MM_count 110 = .ok (.isub, 1) := by decide +kernel
theorem d_MM_count_111 : decode b_MM_count 111 = .ok (.iaload, 1) := by decide +kernel
theorem d_MM_count_112 : decode b_MM_count 112 = .ok (.ifCond .ge 8, 3) := by decide +kernel
theorem d_MM_count_115 : decode b_MM_count 115 = .ok (.bipush (-6), 2) := by decide +kernel
theorem d_MM_count_117 : decode b_MM_count 117 = .ok (.goto 15, 3) := by decide +kernel
theorem d_MM_count_120 : decode b_MM_count 120 = .ok (.aload_n 0, 1) := by decide +kernel
theorem d_MM_count_121 : decode b_MM_count 121 = .ok (.getfield 57, 3) := by decide +kernel
theorem d_MM_count_124 : decode b_MM_count 124 = .ok (.iload_n 1, 1) := by decide +kernel
theorem d_MM_count_125 : decode b_MM_count 125 = .ok (.iconst 4, 1) := by decide +kernel
theorem d_MM_count_126 : decode b_MM_count 126 = .ok (.isub, 1) := by decide +kernel
theorem d_MM_count_127 : decode b_MM_count 127 = .ok (.iaload, 1) := by decide +kernel
theorem d_MM_count_128 : decode b_MM_count 128 = .ok (.goto 4, 3) := by decide +kernel
theorem d_MM_count_131 : decode b_MM_count 131 = .ok (.iconst (-1), 1) := by decide +kernel
theorem d_MM_count_132 : decode b_MM_count 132 = .ok (.ireturn, 1) := by decide +kernel
end
section
theorem d_law_cell_0 : decode b_law_cell 0 = .ok (.iload_n 1, 1) := by decide +kernel
theorem d_law_cell_1 : decode b_law_cell 1 = .ok (.aload_n 0, 1) := by decide +kernel
theorem d_law_cell_2 : decode b_law_cell 2 = .ok (.arraylength, 1) := by decide +kernel
theorem d_law_cell_3 : decode b_law_cell 3 = .ok (.if_icmp .ge 9, 3) := by decide +kernel
theorem d_law_cell_6 : decode b_law_cell 6 = .ok (.aload_n 0, 1) := by decide +kernel
theorem d_law_cell_7 : decode b_law_cell 7 = .ok (.iload_n 1, 1) := by decide +kernel
theorem d_law_cell_8 : decode b_law_cell 8 = .ok (.iaload, 1) := by decide +kernel
theorem d_law_cell_9 : decode b_law_cell 9 = .ok (.goto 4, 3) := by decide +kernel
theorem d_law_cell_12 : decode b_law_cell 12 = .ok (.iconst 0, 1) := by decide +kernel
theorem d_law_cell_13 : decode b_law_cell 13 = .ok (.ireturn, 1) := by decide +kernel
theorem d_law_law_0 : decode b_law_law 0 = .ok (.new 7, 3) := by decide +kernel
theorem d_law_law_3 : decode b_law_law 3 = .ok (.dup, 1) := by decide +kernel
theorem d_law_law_4 : decode b_law_law 4 = .ok (.aload_n 0, 1) := by decide +kernel
theorem d_law_law_5 : decode b_law_law 5 = .ok (.iconst 0, 1) := by decide +kernel
theorem d_law_law_6 : decode b_law_law 6 = .ok (.invokestatic 9, 3) := by decide +kernel
theorem d_law_law_9 : decode b_law_law 9 = .ok (.aload_n 0, 1) := by decide +kernel
theorem d_law_law_10 : decode b_law_law 10 = .ok (.iconst 1, 1) := by decide +kernel
theorem d_law_law_11 : decode b_law_law 11 = .ok (.invokestatic 9, 3) := by decide +kernel
theorem d_law_law_14 : decode b_law_law 14 = .ok (.invokespecial 15, 3) := by decide +kernel
theorem d_law_law_17 : decode b_law_law 17 = .ok (.astore_n 1, 1) := by decide +kernel
theorem d_law_law_18 : decode b_law_law 18 = .ok (.new 18, 3) := by decide +kernel
theorem d_law_law_21 : decode b_law_law 21 = .ok (.dup, 1) := by decide +kernel
theorem d_law_law_22 : decode b_law_law 22 = .ok (.aload_n 0, 1) := by decide +kernel
theorem d_law_law_23 : decode b_law_law 23 = .ok (.iconst 0, 1) := by decide +kernel
theorem d_law_law_24 : decode b_law_law 24 = .ok (.invokestatic 9, 3) := by decide +kernel
theorem d_law_law_27 : decode b_law_law 27 = .ok (.aload_n 0, 1) := by decide +kernel
theorem d_law_law_28 : decode b_law_law 28 = .ok (.iconst 1, 1) := by decide +kernel
theorem d_law_law_29 : decode b_law_law 29 = .ok (.invokestatic 9, 3) := by decide +kernel
theorem d_law_law_32 : decode b_law_law 32 = .ok (.invokespecial 20, 3) := by decide +kernel
theorem d_law_law_35 : decode b_law_law 35 = .ok (.astore_n 2, 1) := by decide +kernel
theorem d_law_law_36 : decode b_law_law 36 = .ok (.iconst 2, 1) := by decide +kernel
theorem d_law_law_37 : decode b_law_law 37 = .ok (.istore_n 3, 1) := by decide +kernel
theorem d_law_law_38 : decode b_law_law 38 = .ok (.iload_n 3, 1) := by decide +kernel
theorem d_law_law_39 : decode b_law_law 39 = .ok (.aload_n 0, 1) := by decide +kernel
theorem d_law_law_40 : decode b_law_law 40 = .ok (.arraylength, 1) := by decide +kernel
theorem d_law_law_41 : decode b_law_law 41 = .ok (.iconst 5, 1) := by decide +kernel
theorem d_law_law_42 : decode b_law_law 42 = .ok (.isub, 1) := by decide +kernel
theorem d_law_law_43 : decode b_law_law 43 = .ok (.if_icmp .gt 673, 3) := by decide +kernel
theorem d_law_law_46 : decode b_law_law 46 = .ok (.aload_n 0, 1) := by decide +kernel
theorem d_law_law_47 : decode b_law_law 47 = .ok (.iload_n 3, 1) := by decide +kernel
theorem d_law_law_48 : decode b_law_law 48 = .ok (.iaload, 1) := by decide +kernel
theorem d_law_law_49 : decode b_law_law 49 = .ok (.bipush 31, 2) := by decide +kernel
theorem d_law_law_51 : decode b_law_law 51 = .ok (.iand, 1) := by decide +kernel
theorem d_law_law_52 : decode b_law_law 52 = .ok (.tableswitch 658 0 17 #[88, 111, 160, 193, 226, 249, 282, 335, 378, 421, 454, 497, 510, 533, 556, 579, 602, 635], 88) := by decide +kernel
theorem d_law_law_140 : decode b_law_law 140 = .ok (.aload_n 1, 1) := by decide +kernel
theorem d_law_law_141 : decode b_law_law 141 = .ok (.aload_n 0, 1) := by decide +kernel
theorem d_law_law_142 : decode b_law_law 142 = .ok (.iload_n 3, 1) := by decide +kernel
theorem d_law_law_143 : decode b_law_law 143 = .ok (.iconst 1, 1) := by decide +kernel
theorem d_law_law_144 : decode b_law_law 144 = .ok (.iadd, 1) := by decide +kernel
theorem d_law_law_145 : decode b_law_law 145 = .ok (.iaload, 1) := by decide +kernel
theorem d_law_law_146 : decode b_law_law 146 = .ok (.invokevirtual 21, 3) := by decide +kernel
theorem d_law_law_149 : decode b_law_law 149 = .ok (.aload_n 2, 1) := by decide +kernel
theorem d_law_law_150 : decode b_law_law 150 = .ok (.aload_n 0, 1) := by decide +kernel
theorem d_law_law_151 : decode b_law_law 151 = .ok (.iload_n 3, 1) := by decide +kernel
theorem d_law_law_152 : decode b_law_law 152 = .ok (.iconst 1, 1) := by decide +kernel
theorem d_law_law_153 : decode b_law_law 153 = .ok (.iadd, 1) := by decide +kernel
theorem d_law_law_154 : decode b_law_law 154 = .ok (.iaload, 1) := by decide +kernel
theorem d_law_law_155 : decode b_law_law 155 = .ok (.invokevirtual 25, 3) := by decide +kernel
theorem d_law_law_158 : decode b_law_law 158 = .ok (.if_icmp .eq 552, 3) := by decide +kernel
theorem d_law_law_161 : decode b_law_law 161 = .ok (.iconst 0, 1) := by decide +kernel
theorem d_law_law_162 : decode b_law_law 162 = .ok (.ireturn, 1) := by decide +kernel
theorem d_law_law_163 : decode b_law_law 163 = .ok (.aload_n 1, 1) := by decide +kernel
theorem d_law_law_164 : decode b_law_law 164 = .ok (.aload_n 0, 1) := by decide +kernel
theorem d_law_law_165 : decode b_law_law 165 = .ok (.iload_n 3, 1) := by decide +kernel
theorem d_law_law_166 : decode b_law_law 166 = .ok (.iconst 1, 1) := by decide +kernel
theorem d_law_law_167 : decode b_law_law 167 = .ok (.iadd, 1) := by decide +kernel
theorem d_law_law_168 : decode b_law_law 168 = .ok (.iaload, 1) := by decide +kernel
theorem d_law_law_169 : decode b_law_law 169 = .ok (.aload_n 0, 1) := by decide +kernel
theorem d_law_law_170 : decode b_law_law 170 = .ok (.iload_n 3, 1) := by decide +kernel
theorem d_law_law_171 : decode b_law_law 171 = .ok (.iconst 2, 1) := by decide +kernel
theorem d_law_law_172 : decode b_law_law 172 = .ok (.iadd, 1) := by decide +kernel
theorem d_law_law_173 : decode b_law_law 173 = .ok (.iaload, 1) := by decide +kernel
theorem d_law_law_174 : decode b_law_law 174 = .ok (.ifCond .eq 7, 3) := by decide +kernel
theorem d_law_law_177 : decode b_law_law 177 = .ok (.iconst 1, 1) := by decide +kernel
theorem d_law_law_178 : decode b_law_law 178 = .ok (.goto 4, 3) := by decide +kernel
theorem d_law_law_181 : decode b_law_law 181 = .ok (.iconst 0, 1) := by decide +kernel
theorem d_law_law_182 : decode b_law_law 182 = .ok (.invokevirtual 26, 3) := by decide +kernel
theorem d_law_law_185 : decode b_law_law 185 = .ok (.aload_n 2, 1) := by decide +kernel
theorem d_law_law_186 : decode b_law_law 186 = .ok (.aload_n 0, 1) := by decide +kernel
theorem d_law_law_187 : decode b_law_law 187 = .ok (.iload_n 3, 1) := by decide +kernel
theorem d_law_law_188 : decode b_law_law 188 = .ok (.iconst 1, 1) := by decide +kernel
theorem d_law_law_189 : decode b_law_law 189 = .ok (.iadd, 1) := by decide +kernel
theorem d_law_law_190 : decode b_law_law 190 = .ok (.iaload, 1) := by decide +kernel
theorem d_law_law_191 : decode b_law_law 191 = .ok (.aload_n 0, 1) := by decide +kernel
theorem d_law_law_192 : decode b_law_law 192 = .ok (.iload_n 3, 1) := by decide +kernel
theorem d_law_law_193 : decode b_law_law 193 = .ok (.iconst 2, 1) := by decide +kernel
theorem d_law_law_194 : decode b_law_law 194 = .ok (.iadd, 1) := by decide +kernel
theorem d_law_law_195 : decode b_law_law 195 = .ok (.iaload, 1) := by decide +kernel
theorem d_law_law_196 : decode b_law_law 196 = .ok (.ifCond .eq 7, 3) := by decide +kernel
theorem d_law_law_199 : decode b_law_law 199 = .ok (.iconst 1, 1) := by decide +kernel
theorem d_law_law_200 : decode b_law_law 200 = .ok (.goto 4, 3) := by decide +kernel
theorem d_law_law_203 : decode b_law_law 203 = .ok (.iconst 0, 1) := by decide +kernel
theorem d_law_law_204 : decode b_law_law 204 = .ok (.invokevirtual 30, 3) := by decide +kernel
theorem d_law_law_207 : decode b_law_law 207 = .ok (.if_icmp .eq 503, 3) := by decide +kernel
theorem d_law_law_210 : decode b_law_law 210 = .ok (.iconst 0, 1) := by decide +kernel
theorem d_law_law_211 : decode b_law_law 211 = .ok (.ireturn, 1) := by decide +kernel
theorem d_law_law_212 : decode b_law_law 212 = .ok (.aload_n 1, 1) := by decide +kernel
theorem d_law_law_213 : decode b_law_law 213 = .ok (.aload_n 0, 1) := by decide +kernel
theorem d_law_law_214 : decode b_law_law 214 = .ok (.iload_n 3, 1) := by decide +kernel
theorem d_law_law_215 : decode b_law_law 215 = .ok (.iconst 1, 1) := by decide +kernel
theorem d_law_law_216 : decode b_law_law 216 = .ok (.iadd, 1) := by decide +kernel
theorem d_law_law_217 : decode b_law_law 217 = .ok (.iaload, 1) := by decide +kernel
theorem d_law_law_218 : decode b_law_law 218 = .ok (.aload_n 0, 1) := by decide +kernel
theorem d_law_law_219 : decode b_law_law 219 = .ok (.iload_n 3, 1) := by decide +kernel
theorem d_law_law_220 : decode b_law_law 220 = .ok (.iconst 2, 1) := by decide +kernel
theorem d_law_law_221 : decode b_law_law 221 = .ok (.iadd, 1) := by decide +kernel
theorem d_law_law_222 : decode b_law_law 222 = .ok (.iaload, 1) := by decide +kernel
theorem d_law_law_223 : decode b_law_law 223 = .ok (.invokevirtual 31, 3) := by decide +kernel
theorem d_law_law_226 : decode b_law_law 226 = .ok (.aload_n 2, 1) := by decide +kernel
theorem d_law_law_227 : decode b_law_law 227 = .ok (.aload_n 0, 1) := by decide +kernel
theorem d_law_law_228 : decode b_law_law 228 = .ok (.iload_n 3, 1) := by decide +kernel
theorem d_law_law_229 : decode b_law_law 229 = .ok (.iconst 1, 1) := by decide +kernel
theorem d_law_law_230 : decode b_law_law 230 = .ok (.iadd, 1) := by decide +kernel
theorem d_law_law_231 : decode b_law_law 231 = .ok (.iaload, 1) := by decide +kernel
theorem d_law_law_232 : decode b_law_law 232 = .ok (.aload_n 0, 1) := by decide +kernel
theorem d_law_law_233 : decode b_law_law 233 = .ok (.iload_n 3, 1) := by decide +kernel
theorem d_law_law_234 : decode b_law_law 234 = .ok (.iconst 2, 1) := by decide +kernel
theorem d_law_law_235 : decode b_law_law 235 = .ok (.iadd, 1) := by decide +kernel
theorem d_law_law_236 : decode b_law_law 236 = .ok (.iaload, 1) := by decide +kernel
theorem d_law_law_237 : decode b_law_law 237 = .ok (.invokevirtual 35, 3) := by decide +kernel
theorem d_law_law_240 : decode b_law_law 240 = .ok (.if_icmp .eq 470, 3) := by decide +kernel
theorem d_law_law_243 : decode b_law_law 243 = .ok (.iconst 0, 1) := by decide +kernel
theorem d_law_law_244 : decode b_law_law 244 = .ok (.ireturn, 1) := by decide +kernel
theorem d_law_law_245 : decode b_law_law 245 = .ok (.aload_n 1, 1) := by decide +kernel
theorem d_law_law_246 : decode b_law_law 246 = .ok (.aload_n 0, 1) := by decide +kernel
theorem d_law_law_247 : decode b_law_law 247 = .ok (.iload_n 3, 1) := by decide +kernel
theorem d_law_law_248 : decode b_law_law 248 = .ok (.iconst 1, 1) := by decide +kernel
theorem d_law_law_249 : decode b_law_law 249 = .ok (.iadd, 1) := by decide +kernel
theorem d_law_law_250 : decode b_law_law 250 = .ok (.iaload, 1) := by decide +kernel
theorem d_law_law_251 : decode b_law_law 251 = .ok (.aload_n 0, 1) := by decide +kernel
theorem d_law_law_252 : decode b_law_law 252 = .ok (.iload_n 3, 1) := by decide +kernel
theorem d_law_law_253 : decode b_law_law 253 = .ok (.iconst 2, 1) := by decide +kernel
theorem d_law_law_254 : decode b_law_law 254 = .ok (.iadd, 1) := by decide +kernel
theorem d_law_law_255 : decode b_law_law 255 = .ok (.iaload, 1) := by decide +kernel
theorem d_law_law_256 : decode b_law_law 256 = .ok (.invokevirtual 36, 3) := by decide +kernel
theorem d_law_law_259 : decode b_law_law 259 = .ok (.aload_n 2, 1) := by decide +kernel
theorem d_law_law_260 : decode b_law_law 260 = .ok (.aload_n 0, 1) := by decide +kernel
theorem d_law_law_261 : decode b_law_law 261 = .ok (.iload_n 3, 1) := by decide +kernel
theorem d_law_law_262 : decode b_law_law 262 = .ok (.iconst 1, 1) := by decide +kernel
theorem d_law_law_263 : decode b_law_law 263 = .ok (.iadd, 1) := by decide +kernel
theorem d_law_law_264 : decode b_law_law 264 = .ok (.iaload, 1) := by decide +kernel
theorem d_law_law_265 : decode b_law_law 265 = .ok (.aload_n 0, 1) := by decide +kernel
theorem d_law_law_266 : decode b_law_law 266 = .ok (.iload_n 3, 1) := by decide +kernel
theorem d_law_law_267 : decode b_law_law 267 = .ok (.iconst 2, 1) := by decide +kernel
theorem d_law_law_268 : decode b_law_law 268 = .ok (.iadd, 1) := by decide +kernel
theorem d_law_law_269 : decode b_law_law 269 = .ok (.iaload, 1) := by decide +kernel
theorem d_law_law_270 : decode b_law_law 270 = .ok (.invokevirtual 39, 3) := by decide +kernel
theorem d_law_law_273 : decode b_law_law 273 = .ok (.if_icmp .eq 437, 3) := by decide +kernel
theorem d_law_law_276 : decode b_law_law 276 = .ok (.iconst 0, 1) := by decide +kernel
theorem d_law_law_277 : decode b_law_law 277 = .ok (.ireturn, 1) := by decide +kernel
theorem d_law_law_278 : decode b_law_law 278 = .ok (.aload_n 1, 1) := by decide +kernel
theorem d_law_law_279 : decode b_law_law 279 = .ok (.aload_n 0, 1) := by decide +kernel
theorem d_law_law_280 : decode b_law_law 280 = .ok (.iload_n 3, 1) := by decide +kernel
theorem d_law_law_281 : decode b_law_law 281 = .ok (.iconst 1, 1) := by decide +kernel
theorem d_law_law_282 : decode b_law_law 282 = .ok (.iadd, 1) := by decide +kernel
theorem d_law_law_283 : decode b_law_law 283 = .ok (.iaload, 1) := by decide +kernel
theorem d_law_law_284 : decode b_law_law 284 = .ok (.invokevirtual 40, 3) := by decide +kernel
theorem d_law_law_287 : decode b_law_law 287 = .ok (.aload_n 2, 1) := by decide +kernel
theorem d_law_law_288 : decode b_law_law 288 = .ok (.aload_n 0, 1) := by decide +kernel
theorem d_law_law_289 : decode b_law_law 289 = .ok (.iload_n 3, 1) := by decide +kernel
theorem d_law_law_290 : decode b_law_law 290 = .ok (.iconst 1, 1) := by decide +kernel
theorem d_law_law_291 : decode b_law_law 291 = .ok (.iadd, 1) := by decide +kernel
theorem d_law_law_292 : decode b_law_law 292 = .ok (.iaload, 1) := by decide +kernel
theorem d_law_law_293 : decode b_law_law 293 = .ok (.invokevirtual 43, 3) := by decide +kernel
theorem d_law_law_296 : decode b_law_law 296 = .ok (.if_icmp .eq 414, 3) := by decide +kernel
theorem d_law_law_299 : decode b_law_law 299 = .ok (.iconst 0, 1) := by decide +kernel
theorem d_law_law_300 : decode b_law_law 300 = .ok (.ireturn, 1) := by decide +kernel
theorem d_law_law_301 : decode b_law_law 301 = .ok (.aload_n 1, 1) := by decide +kernel
theorem d_law_law_302 : decode b_law_law 302 = .ok (.aload_n 0, 1) := by decide +kernel
theorem d_law_law_303 : decode b_law_law 303 = .ok (.iload_n 3, 1) := by decide +kernel
theorem d_law_law_304 : decode b_law_law 304 = .ok (.iconst 1, 1) := by decide +kernel
theorem d_law_law_305 : decode b_law_law 305 = .ok (.iadd, 1) := by decide +kernel
theorem d_law_law_306 : decode b_law_law 306 = .ok (.iaload, 1) := by decide +kernel
theorem d_law_law_307 : decode b_law_law 307 = .ok (.aload_n 0, 1) := by decide +kernel
theorem d_law_law_308 : decode b_law_law 308 = .ok (.iload_n 3, 1) := by decide +kernel
theorem d_law_law_309 : decode b_law_law 309 = .ok (.iconst 2, 1) := by decide +kernel
theorem d_law_law_310 : decode b_law_law 310 = .ok (.iadd, 1) := by decide +kernel
theorem d_law_law_311 : decode b_law_law 311 = .ok (.iaload, 1) := by decide +kernel
theorem d_law_law_312 : decode b_law_law 312 = .ok (.invokevirtual 44, 3) := by decide +kernel
theorem d_law_law_315 : decode b_law_law 315 = .ok (.aload_n 2, 1) := by decide +kernel
theorem d_law_law_316 : decode b_law_law 316 = .ok (.aload_n 0, 1) := by decide +kernel
theorem d_law_law_317 : decode b_law_law 317 = .ok (.iload_n 3, 1) := by decide +kernel
theorem d_law_law_318 : decode b_law_law 318 = .ok (.iconst 1, 1) := by decide +kernel
theorem d_law_law_319 : decode b_law_law 319 = .ok (.iadd, 1) := by decide +kernel
theorem d_law_law_320 : decode b_law_law 320 = .ok (.iaload, 1) := by decide +kernel
theorem d_law_law_321 : decode b_law_law 321 = .ok (.aload_n 0, 1) := by decide +kernel
theorem d_law_law_322 : decode b_law_law 322 = .ok (.iload_n 3, 1) := by decide +kernel
theorem d_law_law_323 : decode b_law_law 323 = .ok (.iconst 2, 1) := by decide +kernel
theorem d_law_law_324 : decode b_law_law 324 = .ok (.iadd, 1) := by decide +kernel
theorem d_law_law_325 : decode b_law_law 325 = .ok (.iaload, 1) := by decide +kernel
theorem d_law_law_326 : decode b_law_law 326 = .ok (.invokevirtual 47, 3) := by decide +kernel
theorem d_law_law_329 : decode b_law_law 329 = .ok (.if_icmp .eq 381, 3) := by decide +kernel
theorem d_law_law_332 : decode b_law_law 332 = .ok (.iconst 0, 1) := by decide +kernel
theorem d_law_law_333 : decode b_law_law 333 = .ok (.ireturn, 1) := by decide +kernel
theorem d_law_law_334 : decode b_law_law 334 = .ok (.aload_n 1, 1) := by decide +kernel
theorem d_law_law_335 : decode b_law_law 335 = .ok (.aload_n 0, 1) := by decide +kernel
theorem d_law_law_336 : decode b_law_law 336 = .ok (.iload_n 3, 1) := by decide +kernel
theorem d_law_law_337 : decode b_law_law 337 = .ok (.iconst 1, 1) := by decide +kernel
theorem d_law_law_338 : decode b_law_law 338 = .ok (.iadd, 1) := by decide +kernel
theorem d_law_law_339 : decode b_law_law 339 = .ok (.iaload, 1) := by decide +kernel
theorem d_law_law_340 : decode b_law_law 340 = .ok (.aload_n 0, 1) := by decide +kernel
theorem d_law_law_341 : decode b_law_law 341 = .ok (.iload_n 3, 1) := by decide +kernel
theorem d_law_law_342 : decode b_law_law 342 = .ok (.iconst 2, 1) := by decide +kernel
theorem d_law_law_343 : decode b_law_law 343 = .ok (.iadd, 1) := by decide +kernel
theorem d_law_law_344 : decode b_law_law 344 = .ok (.iaload, 1) := by decide +kernel
theorem d_law_law_345 : decode b_law_law 345 = .ok (.aload_n 0, 1) := by decide +kernel
theorem d_law_law_346 : decode b_law_law 346 = .ok (.iload_n 3, 1) := by decide +kernel
theorem d_law_law_347 : decode b_law_law 347 = .ok (.iconst 3, 1) := by decide +kernel
theorem d_law_law_348 : decode b_law_law 348 = .ok (.iadd, 1) := by decide +kernel
theorem d_law_law_349 : decode b_law_law 349 = .ok (.iaload, 1) := by decide +kernel
theorem d_law_law_350 : decode b_law_law 350 = .ok (.aload_n 0, 1) := by decide +kernel
theorem d_law_law_351 : decode b_law_law 351 = .ok (.iload_n 3, 1) := by decide +kernel
theorem d_law_law_352 : decode b_law_law 352 = .ok (.iconst 4, 1) := by decide +kernel
theorem d_law_law_353 : decode b_law_law 353 = .ok (.iadd, 1) := by decide +kernel
theorem d_law_law_354 : decode b_law_law 354 = .ok (.iaload, 1) := by decide +kernel
theorem d_law_law_355 : decode b_law_law 355 = .ok (.invokevirtual 48, 3) := by decide +kernel
theorem d_law_law_358 : decode b_law_law 358 = .ok (.aload_n 2, 1) := by decide +kernel
theorem d_law_law_359 : decode b_law_law 359 = .ok (.aload_n 0, 1) := by decide +kernel
theorem d_law_law_360 : decode b_law_law 360 = .ok (.iload_n 3, 1) := by decide +kernel
theorem d_law_law_361 : decode b_law_law 361 = .ok (.iconst 1, 1) := by decide +kernel
theorem d_law_law_362 : decode b_law_law 362 = .ok (.iadd, 1) := by decide +kernel
theorem d_law_law_363 : decode b_law_law 363 = .ok (.iaload, 1) := by decide +kernel
theorem d_law_law_364 : decode b_law_law 364 = .ok (.aload_n 0, 1) := by decide +kernel
theorem d_law_law_365 : decode b_law_law 365 = .ok (.iload_n 3, 1) := by decide +kernel
theorem d_law_law_366 : decode b_law_law 366 = .ok (.iconst 2, 1) := by decide +kernel
theorem d_law_law_367 : decode b_law_law 367 = .ok (.iadd, 1) := by decide +kernel
theorem d_law_law_368 : decode b_law_law 368 = .ok (.iaload, 1) := by decide +kernel
theorem d_law_law_369 : decode b_law_law 369 = .ok (.aload_n 0, 1) := by decide +kernel
theorem d_law_law_370 : decode b_law_law 370 = .ok (.iload_n 3, 1) := by decide +kernel
theorem d_law_law_371 : decode b_law_law 371 = .ok (.iconst 3, 1) := by decide +kernel
theorem d_law_law_372 : decode b_law_law 372 = .ok (.iadd, 1) := by decide +kernel
theorem d_law_law_373 : decode b_law_law 373 = .ok (.iaload, 1) := by decide +kernel
theorem d_law_law_374 : decode b_law_law 374 = .ok (.aload_n 0, 1) := by decide +kernel
theorem d_law_law_375 : decode b_law_law 375 = .ok (.iload_n 3, 1) := by decide +kernel
theorem d_law_law_376 : decode b_law_law 376 = .ok (.iconst 4, 1) := by decide +kernel
theorem d_law_law_377 : decode b_law_law 377 = .ok (.iadd, 1) := by decide +kernel
theorem d_law_law_378 : decode b_law_law 378 = .ok (.iaload, 1) := by decide +kernel
theorem d_law_law_379 : decode b_law_law 379 = .ok (.invokevirtual 52, 3) := by decide +kernel
theorem d_law_law_382 : decode b_law_law 382 = .ok (.if_icmp .eq 328, 3) := by decide +kernel
theorem d_law_law_385 : decode b_law_law 385 = .ok (.iconst 0, 1) := by decide +kernel
theorem d_law_law_386 : decode b_law_law 386 = .ok (.ireturn, 1) := by decide +kernel
theorem d_law_law_387 : decode b_law_law 387 = .ok (.aload_n 1, 1) := by decide +kernel
theorem d_law_law_388 : decode b_law_law 388 = .ok (.aload_n 0, 1) := by decide +kernel
theorem d_law_law_389 : decode b_law_law 389 = .ok (.iload_n 3, 1) := by decide +kernel
theorem d_law_law_390 : decode b_law_law 390 = .ok (.iconst 1, 1) := by decide +kernel
theorem d_law_law_391 : decode b_law_law 391 = .ok (.iadd, 1) := by decide +kernel
theorem d_law_law_392 : decode b_law_law 392 = .ok (.iaload, 1) := by decide +kernel
theorem d_law_law_393 : decode b_law_law 393 = .ok (.aload_n 0, 1) := by decide +kernel
theorem d_law_law_394 : decode b_law_law 394 = .ok (.iload_n 3, 1) := by decide +kernel
theorem d_law_law_395 : decode b_law_law 395 = .ok (.iconst 2, 1) := by decide +kernel
theorem d_law_law_396 : decode b_law_law 396 = .ok (.iadd, 1) := by decide +kernel
theorem d_law_law_397 : decode b_law_law 397 = .ok (.iaload, 1) := by decide +kernel
theorem d_law_law_398 : decode b_law_law 398 = .ok (.aload_n 0, 1) := by decide +kernel
theorem d_law_law_399 : decode b_law_law 399 = .ok (.iload_n 3, 1) := by decide +kernel
theorem d_law_law_400 : decode b_law_law 400 = .ok (.iconst 3, 1) := by decide +kernel
theorem d_law_law_401 : decode b_law_law 401 = .ok (.iadd, 1) := by decide +kernel
theorem d_law_law_402 : decode b_law_law 402 = .ok (.iaload, 1) := by decide +kernel
theorem d_law_law_403 : decode b_law_law 403 = .ok (.invokevirtual 53, 3) := by decide +kernel
theorem d_law_law_406 : decode b_law_law 406 = .ok (.aload_n 2, 1) := by decide +kernel
theorem d_law_law_407 : decode b_law_law 407 = .ok (.aload_n 0, 1) := by decide +kernel
theorem d_law_law_408 : decode b_law_law 408 = .ok (.iload_n 3, 1) := by decide +kernel
theorem d_law_law_409 : decode b_law_law 409 = .ok (.iconst 1, 1) := by decide +kernel
theorem d_law_law_410 : decode b_law_law 410 = .ok (.iadd, 1) := by decide +kernel
theorem d_law_law_411 : decode b_law_law 411 = .ok (.iaload, 1) := by decide +kernel
theorem d_law_law_412 : decode b_law_law 412 = .ok (.aload_n 0, 1) := by decide +kernel
theorem d_law_law_413 : decode b_law_law 413 = .ok (.iload_n 3, 1) := by decide +kernel
theorem d_law_law_414 : decode b_law_law 414 = .ok (.iconst 2, 1) := by decide +kernel
theorem d_law_law_415 : decode b_law_law 415 = .ok (.iadd, 1) := by decide +kernel
theorem d_law_law_416 : decode b_law_law 416 = .ok (.iaload, 1) := by decide +kernel
theorem d_law_law_417 : decode b_law_law 417 = .ok (.aload_n 0, 1) := by decide +kernel
theorem d_law_law_418 : decode b_law_law 418 = .ok (.iload_n 3, 1) := by decide +kernel
theorem d_law_law_419 : decode b_law_law 419 = .ok (.iconst 3, 1) := by decide +kernel
theorem d_law_law_420 : decode b_law_law 420 = .ok (.iadd, 1) := by decide +kernel
theorem d_law_law_421 : decode b_law_law 421 = .ok (.iaload, 1) := by decide +kernel
theorem d_law_law_422 : decode b_law_law 422 = .ok (.invokevirtual 57, 3) := by decide +kernel
theorem d_law_law_425 : decode b_law_law 425 = .ok (.if_icmp .eq 285, 3) := by decide +kernel
theorem d_law_law_428 : decode b_law_law 428 = .ok (.iconst 0, 1) := by decide +kernel
theorem d_law_law_429 : decode b_law_law 429 = .ok (.ireturn, 1) := by decide +kernel
theorem d_law_law_430 : decode b_law_law 430 = .ok (.aload_n 1, 1) := by decide +kernel
theorem d_law_law_431 : decode b_law_law 431 = .ok (.aload_n 0, 1) := by decide +kernel
theorem d_law_law_432 : decode b_law_law 432 = .ok (.iload_n 3, 1) := by decide +kernel
theorem d_law_law_433 : decode b_law_law 433 = .ok (.iconst 1, 1) := by decide +kernel
theorem d_law_law_434 : decode b_law_law 434 = .ok (.iadd, 1) := by decide +kernel
theorem d_law_law_435 : decode b_law_law 435 = .ok (.iaload, 1) := by decide +kernel
theorem d_law_law_436 : decode b_law_law 436 = .ok (.aload_n 0, 1) := by decide +kernel
theorem d_law_law_437 : decode b_law_law 437 = .ok (.iload_n 3, 1) := by decide +kernel
theorem d_law_law_438 : decode b_law_law 438 = .ok (.iconst 2, 1) := by decide +kernel
theorem d_law_law_439 : decode b_law_law 439 = .ok (.iadd, 1) := by decide +kernel
theorem d_law_law_440 : decode b_law_law 440 = .ok (.iaload, 1) := by decide +kernel
theorem d_law_law_441 : decode b_law_law 441 = .ok (.aload_n 0, 1) := by decide +kernel
theorem d_law_law_442 : decode b_law_law 442 = .ok (.iload_n 3, 1) := by decide +kernel
theorem d_law_law_443 : decode b_law_law 443 = .ok (.iconst 3, 1) := by decide +kernel
theorem d_law_law_444 : decode b_law_law 444 = .ok (.iadd, 1) := by decide +kernel
theorem d_law_law_445 : decode b_law_law 445 = .ok (.iaload, 1) := by decide +kernel
theorem d_law_law_446 : decode b_law_law 446 = .ok (.invokevirtual 58, 3) := by decide +kernel
theorem d_law_law_449 : decode b_law_law 449 = .ok (.aload_n 2, 1) := by decide +kernel
theorem d_law_law_450 : decode b_law_law 450 = .ok (.aload_n 0, 1) := by decide +kernel
theorem d_law_law_451 : decode b_law_law 451 = .ok (.iload_n 3, 1) := by decide +kernel
theorem d_law_law_452 : decode b_law_law 452 = .ok (.iconst 1, 1) := by decide +kernel
theorem d_law_law_453 : decode b_law_law 453 = .ok (.iadd, 1) := by decide +kernel
theorem d_law_law_454 : decode b_law_law 454 = .ok (.iaload, 1) := by decide +kernel
theorem d_law_law_455 : decode b_law_law 455 = .ok (.aload_n 0, 1) := by decide +kernel
theorem d_law_law_456 : decode b_law_law 456 = .ok (.iload_n 3, 1) := by decide +kernel
theorem d_law_law_457 : decode b_law_law 457 = .ok (.iconst 2, 1) := by decide +kernel
theorem d_law_law_458 : decode b_law_law 458 = .ok (.iadd, 1) := by decide +kernel
theorem d_law_law_459 : decode b_law_law 459 = .ok (.iaload, 1) := by decide +kernel
theorem d_law_law_460 : decode b_law_law 460 = .ok (.aload_n 0, 1) := by decide +kernel
theorem d_law_law_461 : decode b_law_law 461 = .ok (.iload_n 3, 1) := by decide +kernel
theorem d_law_law_462 : decode b_law_law 462 = .ok (.iconst 3, 1) := by decide +kernel
theorem d_law_law_463 : decode b_law_law 463 = .ok (.iadd, 1) := by decide +kernel
theorem d_law_law_464 : decode b_law_law 464 = .ok (.iaload, 1) := by decide +kernel
theorem d_law_law_465 : decode b_law_law 465 = .ok (.invokevirtual 61, 3) := by decide +kernel
theorem d_law_law_468 : decode b_law_law 468 = .ok (.if_icmp .eq 242, 3) := by decide +kernel
theorem d_law_law_471 : decode b_law_law 471 = .ok (.iconst 0, 1) := by decide +kernel
theorem d_law_law_472 : decode b_law_law 472 = .ok (.ireturn, 1) := by decide +kernel
theorem d_law_law_473 : decode b_law_law 473 = .ok (.aload_n 1, 1) := by decide +kernel
theorem d_law_law_474 : decode b_law_law 474 = .ok (.aload_n 0, 1) := by decide +kernel
theorem d_law_law_475 : decode b_law_law 475 = .ok (.iload_n 3, 1) := by decide +kernel
theorem d_law_law_476 : decode b_law_law 476 = .ok (.iconst 1, 1) := by decide +kernel
theorem d_law_law_477 : decode b_law_law 477 = .ok (.iadd, 1) := by decide +kernel
theorem d_law_law_478 : decode b_law_law 478 = .ok (.iaload, 1) := by decide +kernel
theorem d_law_law_479 : decode b_law_law 479 = .ok (.aload_n 0, 1) := by decide +kernel
theorem d_law_law_480 : decode b_law_law 480 = .ok (.iload_n 3, 1) := by decide +kernel
theorem d_law_law_481 : decode b_law_law 481 = .ok (.iconst 2, 1) := by decide +kernel
theorem d_law_law_482 : decode b_law_law 482 = .ok (.iadd, 1) := by decide +kernel
theorem d_law_law_483 : decode b_law_law 483 = .ok (.iaload, 1) := by decide +kernel
theorem d_law_law_484 : decode b_law_law 484 = .ok (.invokevirtual 62, 3) := by decide +kernel
theorem d_law_law_487 : decode b_law_law 487 = .ok (.aload_n 2, 1) := by decide +kernel
theorem d_law_law_488 : decode b_law_law 488 = .ok (.aload_n 0, 1) := by decide +kernel
theorem d_law_law_489 : decode b_law_law 489 = .ok (.iload_n 3, 1) := by decide +kernel
theorem d_law_law_490 : decode b_law_law 490 = .ok (.iconst 1, 1) := by decide +kernel
theorem d_law_law_491 : decode b_law_law 491 = .ok (.iadd, 1) := by decide +kernel
theorem d_law_law_492 : decode b_law_law 492 = .ok (.iaload, 1) := by decide +kernel
theorem d_law_law_493 : decode b_law_law 493 = .ok (.aload_n 0, 1) := by decide +kernel
theorem d_law_law_494 : decode b_law_law 494 = .ok (.iload_n 3, 1) := by decide +kernel
theorem d_law_law_495 : decode b_law_law 495 = .ok (.iconst 2, 1) := by decide +kernel
theorem d_law_law_496 : decode b_law_law 496 = .ok (.iadd, 1) := by decide +kernel
theorem d_law_law_497 : decode b_law_law 497 = .ok (.iaload, 1) := by decide +kernel
theorem d_law_law_498 : decode b_law_law 498 = .ok (.invokevirtual 65, 3) := by decide +kernel
theorem d_law_law_501 : decode b_law_law 501 = .ok (.if_icmp .eq 209, 3) := by decide +kernel
theorem d_law_law_504 : decode b_law_law 504 = .ok (.iconst 0, 1) := by decide +kernel
theorem d_law_law_505 : decode b_law_law 505 = .ok (.ireturn, 1) := by decide +kernel
theorem d_law_law_506 : decode b_law_law 506 = .ok (.aload_n 1, 1) := by decide +kernel
theorem d_law_law_507 : decode b_law_law 507 = .ok (.aload_n 0, 1) := by decide +kernel
theorem d_law_law_508 : decode b_law_law 508 = .ok (.iload_n 3, 1) := by decide +kernel
theorem d_law_law_509 : decode b_law_law 509 = .ok (.iconst 1, 1) := by decide +kernel
theorem d_law_law_510 : decode b_law_law 510 = .ok (.iadd, 1) := by decide +kernel
theorem d_law_law_511 : decode b_law_law 511 = .ok (.iaload, 1) := by decide +kernel
theorem d_law_law_512 : decode b_law_law 512 = .ok (.aload_n 0, 1) := by decide +kernel
theorem d_law_law_513 : decode b_law_law 513 = .ok (.iload_n 3, 1) := by decide +kernel
theorem d_law_law_514 : decode b_law_law 514 = .ok (.iconst 2, 1) := by decide +kernel
theorem d_law_law_515 : decode b_law_law 515 = .ok (.iadd, 1) := by decide +kernel
theorem d_law_law_516 : decode b_law_law 516 = .ok (.iaload, 1) := by decide +kernel
theorem d_law_law_517 : decode b_law_law 517 = .ok (.aload_n 0, 1) := by decide +kernel
theorem d_law_law_518 : decode b_law_law 518 = .ok (.iload_n 3, 1) := by decide +kernel
theorem d_law_law_519 : decode b_law_law 519 = .ok (.iconst 3, 1) := by decide +kernel
theorem d_law_law_520 : decode b_law_law 520 = .ok (.iadd, 1) := by decide +kernel
theorem d_law_law_521 : decode b_law_law 521 = .ok (.iaload, 1) := by decide +kernel
theorem d_law_law_522 : decode b_law_law 522 = .ok (.invokevirtual 66, 3) := by decide +kernel
theorem d_law_law_525 : decode b_law_law 525 = .ok (.aload_n 2, 1) := by decide +kernel
theorem d_law_law_526 : decode b_law_law 526 = .ok (.aload_n 0, 1) := by decide +kernel
theorem d_law_law_527 : decode b_law_law 527 = .ok (.iload_n 3, 1) := by decide +kernel
theorem d_law_law_528 : decode b_law_law 528 = .ok (.iconst 1, 1) := by decide +kernel
theorem d_law_law_529 : decode b_law_law 529 = .ok (.iadd, 1) := by decide +kernel
theorem d_law_law_530 : decode b_law_law 530 = .ok (.iaload, 1) := by decide +kernel
theorem d_law_law_531 : decode b_law_law 531 = .ok (.aload_n 0, 1) := by decide +kernel
theorem d_law_law_532 : decode b_law_law 532 = .ok (.iload_n 3, 1) := by decide +kernel
theorem d_law_law_533 : decode b_law_law 533 = .ok (.iconst 2, 1) := by decide +kernel
theorem d_law_law_534 : decode b_law_law 534 = .ok (.iadd, 1) := by decide +kernel
theorem d_law_law_535 : decode b_law_law 535 = .ok (.iaload, 1) := by decide +kernel
theorem d_law_law_536 : decode b_law_law 536 = .ok (.aload_n 0, 1) := by decide +kernel
theorem d_law_law_537 : decode b_law_law 537 = .ok (.iload_n 3, 1) := by decide +kernel
theorem d_law_law_538 : decode b_law_law 538 = .ok (.iconst 3, 1) := by decide +kernel
theorem d_law_law_539 : decode b_law_law 539 = .ok (.iadd, 1) := by decide +kernel
theorem d_law_law_540 : decode b_law_law 540 = .ok (.iaload, 1) := by decide +kernel
theorem d_law_law_541 : decode b_law_law 541 = .ok (.invokevirtual 69, 3) := by decide +kernel
theorem d_law_law_544 : decode b_law_law 544 = .ok (.if_icmp .eq 166, 3) := by decide +kernel
theorem d_law_law_547 : decode b_law_law 547 = .ok (.iconst 0, 1) := by decide +kernel
theorem d_law_law_548 : decode b_law_law 548 = .ok (.ireturn, 1) := by decide +kernel
theorem d_law_law_549 : decode b_law_law 549 = .ok (.aload_n 1, 1) := by decide +kernel
theorem d_law_law_550 : decode b_law_law 550 = .ok (.invokevirtual 70, 3) := by decide +kernel
theorem d_law_law_553 : decode b_law_law 553 = .ok (.aload_n 2, 1) := by decide +kernel
theorem d_law_law_554 : decode b_law_law 554 = .ok (.invokevirtual 74, 3) := by decide +kernel
theorem d_law_law_557 : decode b_law_law 557 = .ok (.if_icmp .eq 153, 3) := by decide +kernel
theorem d_law_law_560 : decode b_law_law 560 = .ok (.iconst 0, 1) := by decide +kernel
theorem d_law_law_561 : decode b_law_law 561 = .ok (.ireturn, 1) := by decide +kernel
theorem d_law_law_562 : decode b_law_law 562 = .ok (.aload_n 1, 1) := by decide +kernel
theorem d_law_law_563 : decode b_law_law 563 = .ok (.aload_n 0, 1) := by decide +kernel
theorem d_law_law_564 : decode b_law_law 564 = .ok (.iload_n 3, 1) := by decide +kernel
theorem d_law_law_565 : decode b_law_law 565 = .ok (.iconst 1, 1) := by decide +kernel
theorem d_law_law_566 : decode b_law_law 566 = .ok (.iadd, 1) := by decide +kernel
theorem d_law_law_567 : decode b_law_law 567 = .ok (.iaload, 1) := by decide +kernel
theorem d_law_law_568 : decode b_law_law 568 = .ok (.invokevirtual 75, 3) := by decide +kernel
theorem d_law_law_571 : decode b_law_law 571 = .ok (.aload_n 2, 1) := by decide +kernel
theorem d_law_law_572 : decode b_law_law 572 = .ok (.aload_n 0, 1) := by decide +kernel
theorem d_law_law_573 : decode b_law_law 573 = .ok (.iload_n 3, 1) := by decide +kernel
theorem d_law_law_574 : decode b_law_law 574 = .ok (.iconst 1, 1) := by decide +kernel
theorem d_law_law_575 : decode b_law_law 575 = .ok (.iadd, 1) := by decide +kernel
theorem d_law_law_576 : decode b_law_law 576 = .ok (.iaload, 1) := by decide +kernel
theorem d_law_law_577 : decode b_law_law 577 = .ok (.invokevirtual 78, 3) := by decide +kernel
theorem d_law_law_580 : decode b_law_law 580 = .ok (.if_icmp .eq 130, 3) := by decide +kernel
theorem d_law_law_583 : decode b_law_law 583 = .ok (.iconst 0, 1) := by decide +kernel
theorem d_law_law_584 : decode b_law_law 584 = .ok (.ireturn, 1) := by decide +kernel
theorem d_law_law_585 : decode b_law_law 585 = .ok (.aload_n 1, 1) := by decide +kernel
theorem d_law_law_586 : decode b_law_law 586 = .ok (.aload_n 0, 1) := by decide +kernel
theorem d_law_law_587 : decode b_law_law 587 = .ok (.iload_n 3, 1) := by decide +kernel
theorem d_law_law_588 : decode b_law_law 588 = .ok (.iconst 1, 1) := by decide +kernel
theorem d_law_law_589 : decode b_law_law 589 = .ok (.iadd, 1) := by decide +kernel
theorem d_law_law_590 : decode b_law_law 590 = .ok (.iaload, 1) := by decide +kernel
theorem d_law_law_591 : decode b_law_law 591 = .ok (.invokevirtual 79, 3) := by decide +kernel
theorem d_law_law_594 : decode b_law_law 594 = .ok (.aload_n 2, 1) := by decide +kernel
theorem d_law_law_595 : decode b_law_law 595 = .ok (.aload_n 0, 1) := by decide +kernel
theorem d_law_law_596 : decode b_law_law 596 = .ok (.iload_n 3, 1) := by decide +kernel
theorem d_law_law_597 : decode b_law_law 597 = .ok (.iconst 1, 1) := by decide +kernel
theorem d_law_law_598 : decode b_law_law 598 = .ok (.iadd, 1) := by decide +kernel
theorem d_law_law_599 : decode b_law_law 599 = .ok (.iaload, 1) := by decide +kernel
theorem d_law_law_600 : decode b_law_law 600 = .ok (.invokevirtual 82, 3) := by decide +kernel
theorem d_law_law_603 : decode b_law_law 603 = .ok (.if_icmp .eq 107, 3) := by decide +kernel
theorem d_law_law_606 : decode b_law_law 606 = .ok (.iconst 0, 1) := by decide +kernel
theorem d_law_law_607 : decode b_law_law 607 = .ok (.ireturn, 1) := by decide +kernel
theorem d_law_law_608 : decode b_law_law 608 = .ok (.aload_n 1, 1) := by decide +kernel
theorem d_law_law_609 : decode b_law_law 609 = .ok (.aload_n 0, 1) := by decide +kernel
theorem d_law_law_610 : decode b_law_law 610 = .ok (.iload_n 3, 1) := by decide +kernel
theorem d_law_law_611 : decode b_law_law 611 = .ok (.iconst 1, 1) := by decide +kernel
theorem d_law_law_612 : decode b_law_law 612 = .ok (.iadd, 1) := by decide +kernel
theorem d_law_law_613 : decode b_law_law 613 = .ok (.iaload, 1) := by decide +kernel
theorem d_law_law_614 : decode b_law_law 614 = .ok (.invokevirtual 83, 3) := by decide +kernel
theorem d_law_law_617 : decode b_law_law 617 = .ok (.aload_n 2, 1) := by decide +kernel
theorem d_law_law_618 : decode b_law_law 618 = .ok (.aload_n 0, 1) := by decide +kernel
theorem d_law_law_619 : decode b_law_law 619 = .ok (.iload_n 3, 1) := by decide +kernel
theorem d_law_law_620 : decode b_law_law 620 = .ok (.iconst 1, 1) := by decide +kernel
theorem d_law_law_621 : decode b_law_law 621 = .ok (.iadd, 1) := by decide +kernel
theorem d_law_law_622 : decode b_law_law 622 = .ok (.iaload, 1) := by decide +kernel
theorem d_law_law_623 : decode b_law_law 623 = .ok (.invokevirtual 86, 3) := by decide +kernel
theorem d_law_law_626 : decode b_law_law 626 = .ok (.if_icmp .eq 84, 3) := by decide +kernel
theorem d_law_law_629 : decode b_law_law 629 = .ok (.iconst 0, 1) := by decide +kernel
theorem d_law_law_630 : decode b_law_law 630 = .ok (.ireturn, 1) := by decide +kernel
theorem d_law_law_631 : decode b_law_law 631 = .ok (.aload_n 1, 1) := by decide +kernel
theorem d_law_law_632 : decode b_law_law 632 = .ok (.aload_n 0, 1) := by decide +kernel
theorem d_law_law_633 : decode b_law_law 633 = .ok (.iload_n 3, 1) := by decide +kernel
theorem d_law_law_634 : decode b_law_law 634 = .ok (.iconst 1, 1) := by decide +kernel
theorem d_law_law_635 : decode b_law_law 635 = .ok (.iadd, 1) := by decide +kernel
theorem d_law_law_636 : decode b_law_law 636 = .ok (.iaload, 1) := by decide +kernel
theorem d_law_law_637 : decode b_law_law 637 = .ok (.invokevirtual 87, 3) := by decide +kernel
theorem d_law_law_640 : decode b_law_law 640 = .ok (.aload_n 2, 1) := by decide +kernel
theorem d_law_law_641 : decode b_law_law 641 = .ok (.aload_n 0, 1) := by decide +kernel
theorem d_law_law_642 : decode b_law_law 642 = .ok (.iload_n 3, 1) := by decide +kernel
theorem d_law_law_643 : decode b_law_law 643 = .ok (.iconst 1, 1) := by decide +kernel
theorem d_law_law_644 : decode b_law_law 644 = .ok (.iadd, 1) := by decide +kernel
theorem d_law_law_645 : decode b_law_law 645 = .ok (.iaload, 1) := by decide +kernel
theorem d_law_law_646 : decode b_law_law 646 = .ok (.invokevirtual 90, 3) := by decide +kernel
theorem d_law_law_649 : decode b_law_law 649 = .ok (.if_icmp .eq 61, 3) := by decide +kernel
theorem d_law_law_652 : decode b_law_law 652 = .ok (.iconst 0, 1) := by decide +kernel
theorem d_law_law_653 : decode b_law_law 653 = .ok (.ireturn, 1) := by decide +kernel
theorem d_law_law_654 : decode b_law_law 654 = .ok (.aload_n 1, 1) := by decide +kernel
theorem d_law_law_655 : decode b_law_law 655 = .ok (.aload_n 0, 1) := by decide +kernel
theorem d_law_law_656 : decode b_law_law 656 = .ok (.iload_n 3, 1) := by decide +kernel
theorem d_law_law_657 : decode b_law_law 657 = .ok (.iconst 1, 1) := by decide +kernel
theorem d_law_law_658 : decode b_law_law 658 = .ok (.iadd, 1) := by decide +kernel
theorem d_law_law_659 : decode b_law_law 659 = .ok (.iaload, 1) := by decide +kernel
theorem d_law_law_660 : decode b_law_law 660 = .ok (.aload_n 0, 1) := by decide +kernel
theorem d_law_law_661 : decode b_law_law 661 = .ok (.iload_n 3, 1) := by decide +kernel
theorem d_law_law_662 : decode b_law_law 662 = .ok (.iconst 2, 1) := by decide +kernel
theorem d_law_law_663 : decode b_law_law 663 = .ok (.iadd, 1) := by decide +kernel
theorem d_law_law_664 : decode b_law_law 664 = .ok (.iaload, 1) := by decide +kernel
theorem d_law_law_665 : decode b_law_law 665 = .ok (.invokevirtual 91, 3) := by decide +kernel
theorem d_law_law_668 : decode b_law_law 668 = .ok (.aload_n 2, 1) := by decide +kernel
theorem d_law_law_669 : decode b_law_law 669 = .ok (.aload_n 0, 1) := by decide +kernel
theorem d_law_law_670 : decode b_law_law 670 = .ok (.iload_n 3, 1) := by decide +kernel
theorem d_law_law_671 : decode b_law_law 671 = .ok (.iconst 1, 1) := by decide +kernel
theorem d_law_law_672 : decode b_law_law 672 = .ok (.iadd, 1) := by decide +kernel
theorem d_law_law_673 : decode b_law_law 673 = .ok (.iaload, 1) := by decide +kernel
theorem d_law_law_674 : decode b_law_law 674 = .ok (.aload_n 0, 1) := by decide +kernel
theorem d_law_law_675 : decode b_law_law 675 = .ok (.iload_n 3, 1) := by decide +kernel
theorem d_law_law_676 : decode b_law_law 676 = .ok (.iconst 2, 1) := by decide +kernel
theorem d_law_law_677 : decode b_law_law 677 = .ok (.iadd, 1) := by decide +kernel
theorem d_law_law_678 : decode b_law_law 678 = .ok (.iaload, 1) := by decide +kernel
theorem d_law_law_679 : decode b_law_law 679 = .ok (.invokevirtual 94, 3) := by decide +kernel
theorem d_law_law_682 : decode b_law_law 682 = .ok (.if_icmp .eq 28, 3) := by decide +kernel
theorem d_law_law_685 : decode b_law_law 685 = .ok (.iconst 0, 1) := by decide +kernel
theorem d_law_law_686 : decode b_law_law 686 = .ok (.ireturn, 1) := by decide +kernel
theorem d_law_law_687 : decode b_law_law 687 = .ok (.aload_n 1, 1) := by decide +kernel
theorem d_law_law_688 : decode b_law_law 688 = .ok (.aload_n 0, 1) := by decide +kernel
theorem d_law_law_689 : decode b_law_law 689 = .ok (.iload_n 3, 1) := by decide +kernel
theorem d_law_law_690 : decode b_law_law 690 = .ok (.iconst 1, 1) := by decide +kernel
theorem d_law_law_691 : decode b_law_law 691 = .ok (.iadd, 1) := by decide +kernel
theorem d_law_law_692 : decode b_law_law 692 = .ok (.iaload, 1) := by decide +kernel
theorem d_law_law_693 : decode b_law_law 693 = .ok (.invokevirtual 95, 3) := by decide +kernel
theorem d_law_law_696 : decode b_law_law 696 = .ok (.aload_n 2, 1) := by decide +kernel
theorem d_law_law_697 : decode b_law_law 697 = .ok (.aload_n 0, 1) := by decide +kernel
theorem d_law_law_698 : decode b_law_law 698 = .ok (.iload_n 3, 1) := by decide +kernel
theorem d_law_law_699 : decode b_law_law 699 = .ok (.iconst 1, 1) := by decide +kernel
theorem d_law_law_700 : decode b_law_law 700 = .ok (.iadd, 1) := by decide +kernel
theorem d_law_law_701 : decode b_law_law 701 = .ok (.iaload, 1) := by decide +kernel
theorem d_law_law_702 : decode b_law_law 702 = .ok (.invokevirtual 98, 3) := by decide +kernel
theorem d_law_law_705 : decode b_law_law 705 = .ok (.if_icmp .eq 5, 3) := by decide +kernel
theorem d_law_law_708 : decode b_law_law 708 = .ok (.iconst 0, 1) := by decide +kernel
theorem d_law_law_709 : decode b_law_law 709 = .ok (.ireturn, 1) := by decide +kernel
theorem d_law_law_710 : decode b_law_law 710 = .ok (.iinc 3 5, 3) := by decide +kernel
theorem d_law_law_713 : decode b_law_law 713 = .ok (.goto (-675), 3) := by decide +kernel
theorem d_law_law_716 : decode b_law_law 716 = .ok (.iconst 1, 1) := by decide +kernel
theorem d_law_law_717 : decode b_law_law 717 = .ok (.ireturn, 1) := by decide +kernel
end
section
-- the class's state as numbers: area 0 size 1 used 2 entries 3 parent 4 portal; cell 5 fields 6 area 7 fieldCount 8 kept; row 9 stepArea 10 under 11 entered 12 length 13 heapless; 14 statics 15 found 16 foundCount 17 areaCount 18 objectCount
abbrev zS : Type := Nat → Nat → Nat → Int32
def z_up (σ : zS) (f i j : Nat) (v : Int32) : zS := fun f' i' j' => if f' = f ∧ i' = i ∧ j' = j then v else σ f' i' j'
abbrev z_ix (x : Int32) : Nat := x.toNatClampNeg
-- rows
def xf_top (σ : zS) (t : Nat) : Int32 := σ 12 t 0 - 1
def xf_isFull (σ : zS) (t : Nat) : Int32 := if σ 12 t 0 < 12 then 0 else 1
def xf_currentArea (σ : zS) (t : Nat) : Int32 := σ 9 t (z_ix (xf_top σ t))
def xf_topWasEntered (σ : zS) (t : Nat) : Int32 := σ 11 t (z_ix (xf_top σ t))
def xf_push (σ : zS) (t : Nat) (a u b : Int32) : zS := z_up (z_up (z_up (z_up σ 9 t (z_ix (σ 12 t 0)) a) 10 t (z_ix (σ 12 t 0)) u) 11 t (z_ix (σ 12 t 0)) (vp_nar .boolean b)) 12 t 0 (σ 12 t 0 + 1)
def xf_pop (σ : zS) (t : Nat) : zS := z_up σ 12 t 0 (σ 12 t 0 - 1)
def xf_fw (σ : zS) (t : Nat) (a : Int32) : Nat → Int32 → Int32
  | 0, _ => -1
  | k + 1, step => if step = -1 then -1 else if σ 9 t (z_ix step) = a then step else xf_fw σ t a k (σ 10 t (z_ix step))
def xf_firstWith (σ : zS) (t : Nat) (a : Int32) : Int32 := xf_fw σ t a 12 (xf_top σ t)
def xf_hasInView (σ : zS) (t : Nat) (a : Int32) : Int32 := if xf_firstWith σ t a = -1 then 0 else 1
def xf_underOfFirstWith (σ : zS) (t : Nat) (a : Int32) : Int32 := if xf_firstWith σ t a = -1 then -1 else σ 10 t (z_ix (xf_firstWith σ t a))
def xf_ns (σ : zS) (t : Nat) : Nat → Int32 → Int32
  | 0, _ => 0
  | k + 1, step => if step = -1 then 0 else if σ 9 t (z_ix step) < 2 then xf_ns σ t k (σ 10 t (z_ix step)) else σ 9 t (z_ix step)
def xf_nearestScope (σ : zS) (t : Nat) : Int32 := xf_ns σ t 12 (xf_top σ t)
/-- so many steps down (k: what is left of 12; d: what is left of the depth) -/
def xf_av (σ : zS) (t : Nat) : Nat → Nat → Int32 → Int32
  | 0, _, step => step
  | _, 0, step => step
  | k + 1, d + 1, step => if step = -1 then step else xf_av σ t k d (σ 10 t (z_ix step))
def xf_areaInView (σ : zS) (t : Nat) (depth : Int32) : Int32 := if xf_av σ t 12 (z_ix depth) (xf_top σ t) = -1 then -1 else σ 9 t (z_ix (xf_av σ t 12 (z_ix depth) (xf_top σ t)))
-- cells, areas
def xf_free (σ : zS) (i : Nat) : Int32 := σ 0 i 0 - σ 1 i 0
def xf_ff (σ : zS) (i : Nat) : Nat → zS
  | 0 => σ
  | k + 1 => z_up (xf_ff σ i k) 5 i k (-1)
def xf_fill (σ : zS) (i : Nat) (a c : Int32) : zS := xf_ff (z_up (z_up σ 6 i 0 a) 7 i 0 c) i 4
-- tests
def xf_clampBaseSize (x : Int32) : Int32 := if (4 : Int32) < (if x < 60 then x else 60) then (if x < 60 then x else 60) else 4
def xf_isThread (t : Int32) : Int32 := if t < 0 then 0 else if 4 ≤ t then 0 else 1
def xf_isBegun (σ : zS) (t : Int32) : Int32 := if xf_isThread t = 0 then 0 else if σ 12 (z_ix t) 0 ≤ 0 then 0 else 1
def xf_isArea (σ : zS) (a : Int32) : Int32 := if a < 0 then 0 else if σ 17 0 0 ≤ a then 0 else 1
def xf_isScope (σ : zS) (a : Int32) : Int32 := if a < 2 then 0 else if xf_isArea σ a = 0 then 0 else 1
def xf_isObject (σ : zS) (o : Int32) : Int32 := if o < 0 then 0 else if 40 ≤ o then 0 else if σ 6 (z_ix o) 0 = -1 then 0 else 1
def xf_isObjectOrNull (σ : zS) (o : Int32) : Int32 := if o = -1 then 1 else if xf_isObject σ o = 0 then 0 else 1
def xf_hasField (σ : zS) (o f : Int32) : Int32 := if xf_isObject σ o = 0 then 0 else if f < 0 then 0 else if σ 7 (z_ix o) 0 ≤ f then 0 else 1
def xf_objectOrNull (h : Int32) : Int32 := if h = -1 then -6 else h
def xf_sees (σ : zS) (t o : Int32) : Int32 := if σ 6 (z_ix o) 0 = 0 then (if σ 13 (z_ix t) 0 = 0 then 1 else 0) else if σ 6 (z_ix o) 0 = 1 then 1 else if xf_hasInView σ (z_ix t) (σ 6 (z_ix o) 0) = 0 then 0 else 1
def xf_seesOrNull (σ : zS) (t o : Int32) : Int32 := if o = -1 then 1 else if xf_sees σ t o = 0 then 0 else 1
def xf_li (σ : zS) (s : Int32) : Nat → Int32 → Int32
  | 0, _ => 0
  | k + 1, at_ => if at_ < 2 then 0 else if at_ = s then 1 else xf_li σ s k (σ 3 (z_ix at_) 0)
def xf_liesIn (σ : zS) (a s : Int32) : Int32 := xf_li σ s 10 a
def xf_mayPointTo (σ : zS) (a o : Int32) : Int32 := if σ 6 (z_ix o) 0 = 0 then 1 else if σ 6 (z_ix o) 0 = 1 then 1 else if xf_liesIn σ a (σ 6 (z_ix o) 0) = 0 then 0 else 1
def xf_bt (σ : zS) : Nat → Nat → Int32 → Int32
  | 0, _, b => b
  | k + 1, i, b => xf_bt σ k (i + 1) (if xf_isBegun σ (nI i) = 0 then b else b + 1)
def xf_begunThreads (σ : zS) : Int32 := xf_bt σ 4 0 0
/-- the least free number from i on, k places -/
def xf_lf (σ : zS) : Nat → Nat → Int32
  | 0, _ => -1
  | k + 1, i => if σ 6 i 0 = -1 then nI i else xf_lf σ k (i + 1)
def xf_leastFreeNumber (σ : zS) : Int32 := xf_lf σ 40 0
def xf_drop (σ : zS) (o : Int32) : zS := z_up (z_up (z_up σ 1 (z_ix (σ 6 (z_ix o) 0)) 0 (σ 1 (z_ix (σ 6 (z_ix o) 0)) 0 - (1 + σ 7 (z_ix o) 0))) 6 (z_ix o) 0 (-1)) 18 0 0 (σ 18 0 0 - 1)
/-- the objects of the scope go, from i on -/
def xf_es (s : Int32) : Nat → Nat → zS → zS
  | 0, _, σ => σ
  | k + 1, i, σ => xf_es s k (i + 1) (if σ 6 i 0 = s then xf_drop σ (nI i) else σ)
def xf_emptyScope (σ : zS) (s : Int32) : zS := z_up (z_up (xf_es s 40 0 σ) 3 (z_ix s) 0 0) 4 (z_ix s) 0 (-1)
def xf_dropEntry (σ : zS) (s : Int32) : zS := if σ 2 (z_ix s) 0 - 1 = 0 then xf_emptyScope (z_up σ 2 (z_ix s) 0 (σ 2 (z_ix s) 0 - 1)) s else z_up σ 2 (z_ix s) 0 (σ 2 (z_ix s) 0 - 1)
-- what is kept
def xf_keep (σ : zS) (o : Int32) : zS := if o = -1 then σ else if ¬ σ 6 (z_ix o) 0 = 0 then σ else if ¬ σ 8 (z_ix o) 0 = 0 then σ else z_up (z_up (z_up σ 8 (z_ix o) 0 1) 15 0 (z_ix (σ 16 0 0)) o) 16 0 0 (σ 16 0 0 + 1)
/-- keep the fields of o, from i on -/
def xf_kl (o : Nat) : Nat → Nat → zS → zS
  | 0, _, σ => σ
  | k + 1, i, σ => if σ 7 o 0 ≤ nI i then σ else xf_kl o k (i + 1) (xf_keep σ (σ 5 o i))
def xf_keepFieldsOf (σ : zS) (o : Int32) : zS := xf_kl (z_ix o) 4 0 σ
def xf_k0 : Nat → Nat → zS → zS
  | 0, _, σ => σ
  | k + 1, i, σ => xf_k0 k (i + 1) (z_up σ 8 i 0 0)
def xf_k1 : Nat → Nat → zS → zS
  | 0, _, σ => σ
  | k + 1, i, σ => xf_k1 k (i + 1) (xf_keep σ (σ 14 0 i))
def xf_k2 : Nat → Nat → zS → zS
  | 0, _, σ => σ
  | k + 1, i, σ => xf_k2 k (i + 1) (if σ 6 i 0 = -1 then σ else if σ 6 i 0 = 0 then σ else xf_keepFieldsOf σ (nI i))
/-- the search goes on: k places left, the next is i -/
def xf_k3 : Nat → Nat → zS → zS
  | 0, _, σ => σ
  | k + 1, i, σ => if σ 16 0 0 ≤ nI i then σ else xf_k3 k (i + 1) (xf_keepFieldsOf σ (σ 15 0 i))
def xf_findKept (σ : zS) : zS := xf_k3 40 0 (xf_k2 40 0 (xf_k1 4 0 (xf_k0 40 0 (z_up σ 16 0 0 0))))
-- the public methods: the answer and the state behind the call
def xf_scope (σ : zS) (size : Int32) : Int32 × zS := if size < 1 then (-1, σ) else if size ≤ 40 then (if σ 17 0 0 < 10 then (σ 17 0 0, z_up (z_up σ 0 (z_ix (σ 17 0 0)) 0 size) 17 0 0 (σ 17 0 0 + 1)) else (-2, σ)) else (-1, σ)
def xf_begin (σ : zS) (t h : Int32) : Int32 × zS := if xf_isThread t = 0 then (-1, σ) else if xf_isBegun σ t = 0 then (0, xf_push (z_up σ 13 (z_ix t) 0 h) (z_ix t) (if h = 0 then 0 else 1) (-1) 0) else (-1, σ)
def xf_enterS (σ : zS) (t z : Int32) : zS := if σ 2 (z_ix z) 0 = 0 then z_up σ 3 (z_ix z) 0 (xf_nearestScope σ (z_ix t)) else σ
def xf_enterT (σ : zS) (t z : Int32) : zS := z_up (xf_enterS σ t z) 2 (z_ix z) 0 (σ 2 (z_ix z) 0 + 1)
def xf_enterR (σ : zS) (t z : Int32) : Int32 × zS := if xf_isFull σ (z_ix t) = 0 then (σ 2 (z_ix z) 0 + 1, xf_push (xf_enterT σ t z) (z_ix t) z (xf_top σ (z_ix t)) 1) else (-2, σ)
def xf_enter (σ : zS) (t z : Int32) : Int32 × zS := if xf_isBegun σ t = 0 then (-1, σ) else if xf_isScope σ z = 0 then (-1, σ) else if xf_hasInView σ (z_ix t) z = 0 then (if σ 2 (z_ix z) 0 ≤ 0 then xf_enterR σ t z else if σ 3 (z_ix z) 0 = xf_nearestScope σ (z_ix t) then xf_enterR σ t z else (-3, σ)) else (-3, σ)
def xf_turn3 (σ : zS) (t a : Int32) : Int32 × zS := if xf_isFull σ (z_ix t) = 0 then (σ 12 (z_ix t) 0 + 1, xf_push σ (z_ix t) a (if xf_isScope σ a = 0 then -1 else xf_underOfFirstWith σ (z_ix t) a) 0) else (-2, σ)
def xf_turn2 (σ : zS) (t a : Int32) : Int32 × zS := if xf_isScope σ a = 0 then xf_turn3 σ t a else if xf_hasInView σ (z_ix t) a = 0 then (-4, σ) else xf_turn3 σ t a
def xf_turn (σ : zS) (t a : Int32) : Int32 × zS := if xf_isBegun σ t = 0 then (-1, σ) else if xf_isArea σ a = 0 then (-1, σ) else if a = 0 then (if σ 13 (z_ix t) 0 = 0 then xf_turn2 σ t a else (-5, σ)) else xf_turn2 σ t a
def xf_leave (σ : zS) (t : Int32) : Int32 × zS := if xf_isBegun σ t = 0 then (-1, σ) else (σ 12 (z_ix t) 0 - 1, if xf_topWasEntered σ (z_ix t) = 0 then xf_pop σ (z_ix t) else xf_dropEntry (xf_pop σ (z_ix t)) (xf_currentArea σ (z_ix t)))
def xf_make (σ : zS) (t f : Int32) : Int32 × zS := if xf_isBegun σ t = 0 then (-1, σ) else if f < 0 then (-1, σ) else if f ≤ 4 then (if xf_leastFreeNumber σ = -1 then (-2, σ) else if 1 + f ≤ xf_free σ (z_ix (xf_currentArea σ (z_ix t))) then (xf_leastFreeNumber σ, z_up (z_up (xf_fill σ (z_ix (xf_leastFreeNumber σ)) (xf_currentArea σ (z_ix t)) f) 1 (z_ix (xf_currentArea σ (z_ix t))) 0 (σ 1 (z_ix (xf_currentArea σ (z_ix t))) 0 + (1 + f))) 18 0 0 (σ 18 0 0 + 1)) else (-2, σ)) else (-1, σ)
def xf_put (σ : zS) (t o f g : Int32) : Int32 × zS := if xf_isBegun σ t = 0 then (-1, σ) else if xf_hasField σ o f = 0 then (-1, σ) else if xf_isObjectOrNull σ g = 0 then (-1, σ) else if xf_sees σ t o = 0 then (-4, σ) else if xf_seesOrNull σ t g = 0 then (-4, σ) else if g = -1 then (0, z_up σ 5 (z_ix o) (z_ix f) g) else if xf_mayPointTo σ (σ 6 (z_ix o) 0) g = 0 then (-5, σ) else (0, z_up σ 5 (z_ix o) (z_ix f) g)
def xf_get (σ : zS) (t o f : Int32) : Int32 := if xf_isBegun σ t = 0 then -1 else if xf_hasField σ o f = 0 then -1 else if xf_sees σ t o = 0 then -4 else if σ 5 (z_ix o) (z_ix f) = -1 then -6 else if xf_sees σ t (σ 5 (z_ix o) (z_ix f)) = 0 then -4 else σ 5 (z_ix o) (z_ix f)
def xf_hang (σ : zS) (t z o : Int32) : Int32 × zS := if xf_isBegun σ t = 0 then (-1, σ) else if xf_isScope σ z = 0 then (-1, σ) else if xf_isObjectOrNull σ o = 0 then (-1, σ) else if xf_hasInView σ (z_ix t) z = 0 then (-4, σ) else if xf_seesOrNull σ t o = 0 then (-4, σ) else if o = -1 then (0, z_up σ 4 (z_ix z) 0 o) else if σ 6 (z_ix o) 0 = z then (0, z_up σ 4 (z_ix z) 0 o) else (-5, σ)
def xf_portal (σ : zS) (t z : Int32) : Int32 := if xf_isBegun σ t = 0 then -1 else if xf_isScope σ z = 0 then -1 else if xf_hasInView σ (z_ix t) z = 0 then -4 else xf_objectOrNull (σ 4 (z_ix z) 0)
def xf_assign (σ : zS) (t k o : Int32) : Int32 × zS := if xf_isBegun σ t = 0 then (-1, σ) else if k < 0 then (-1, σ) else if 4 ≤ k then (-1, σ) else if xf_isObjectOrNull σ o = 0 then (-1, σ) else if xf_seesOrNull σ t o = 0 then (-4, σ) else if o = -1 then (0, z_up σ 14 0 (z_ix k) o) else if xf_isScope σ (σ 6 (z_ix o) 0) = 0 then (0, z_up σ 14 0 (z_ix k) o) else (-5, σ)
def xf_co : Nat → Nat → zS → zS
  | 0, _, σ => σ
  | k + 1, i, σ => xf_co k (i + 1) (if σ 6 i 0 = 0 then (if σ 8 i 0 = 0 then xf_drop σ (nI i) else σ) else σ)
def xf_collect (σ : zS) : Int32 × zS := ((xf_findKept σ) 18 0 0 - (xf_co 40 0 (xf_findKept σ)) 18 0 0, xf_co 40 0 (xf_findKept σ))
def xf_areaOf (σ : zS) (o : Int32) : Int32 := if xf_isObject σ o = 0 then -1 else σ 6 (z_ix o) 0
def xf_room (σ : zS) (a : Int32) : Int32 := if xf_isArea σ a = 0 then -1 else xf_free σ (z_ix a)
def xf_parent (σ : zS) (z : Int32) : Int32 := if xf_isScope σ z = 0 then -1 else if σ 2 (z_ix z) 0 ≤ 0 then -6 else σ 3 (z_ix z) 0
def xf_entries (σ : zS) (z : Int32) : Int32 := if xf_isScope σ z = 0 then -1 else σ 2 (z_ix z) 0
def xf_view (σ : zS) (t i : Int32) : Int32 := if xf_isBegun σ t = 0 then -1 else if 0 ≤ i then (if xf_areaInView σ (z_ix t) i = -1 then -1 else xf_areaInView σ (z_ix t) i) else -1
def xf_count (σ : zS) (w : Int32) : Int32 × zS := if w = 0 then (σ 18 0 0, σ) else if w = 1 then (σ 17 0 0, σ) else if w = 2 then (xf_begunThreads σ, σ) else if w = 3 then ((xf_findKept σ) 16 0 0, xf_findKept σ) else if w = 4 then (xf_objectOrNull (σ 14 0 0), σ) else if w = 5 then (xf_objectOrNull (σ 14 0 1), σ) else if w = 6 then (xf_objectOrNull (σ 14 0 2), σ) else if w = 7 then (xf_objectOrNull (σ 14 0 3), σ) else (-1, σ)
def z_o (N : Nat) (x : Int32) : Prop := x = -1 ∨ vp_in x N
def xI1 (σ : zS) : Prop := σ 17 0 0 ≤ 10 ∧ 2 ≤ σ 17 0 0
def xI2 (σ : zS) : Prop := ∀ i, i < 10 → vp_in (σ 3 i 0) 10
def xI3 (σ : zS) : Prop := ∀ i, i < 40 → z_o 10 (σ 6 i 0)
def xI4 (σ : zS) : Prop := ∀ i, i < 40 → vp_in (σ 7 i 0) 5
def xI5 (σ : zS) : Prop := ∀ i, i < 40 → ∀ j, j < 4 → z_o 40 (σ 5 i j)
def xI6 (σ : zS) : Prop := ∀ t, t < 4 → vp_in (σ 12 t 0) 13
def xI7 (σ : zS) : Prop := ∀ t, t < 4 → ∀ j, j < 12 → z_o 12 (σ 10 t j)
def xI8 (σ : zS) : Prop := ∀ t, t < 4 → ∀ j, j < 12 → vp_in (σ 9 t j) 10
def xI9 (σ : zS) : Prop := ∀ j, j < 4 → z_o 40 (σ 14 0 j)
def xI10 (σ : zS) : Prop := ∀ t, t < 4 → ∀ j, j < 12 → narrow .boolean (.int (σ 11 t j)) = .int (σ 11 t j)
def xI (σ : zS) : Prop := xI1 σ ∧ xI2 σ ∧ xI3 σ ∧ xI4 σ ∧ xI5 σ ∧ xI6 σ ∧ xI7 σ ∧ xI8 σ ∧ xI9 σ ∧ xI10 σ
theorem z_at (σ : zS) (f i j : Nat) (v : Int32) (f' i' j' : Nat) : z_up σ f i j v f' i' j' = if f' = f ∧ i' = i ∧ j' = j then v else σ f' i' j' := rfl
theorem xI_u0 {σ : zS} {i : Nat} {v : Int32} (h : xI σ) : xI (z_up σ 0 i 0 v) :=
  ⟨h.1, h.2.1, h.2.2.1, h.2.2.2.1, h.2.2.2.2.1, h.2.2.2.2.2.1, h.2.2.2.2.2.2.1, h.2.2.2.2.2.2.2.1, h.2.2.2.2.2.2.2.2.1, h.2.2.2.2.2.2.2.2.2⟩
theorem xI_u1 {σ : zS} {i : Nat} {v : Int32} (h : xI σ) : xI (z_up σ 1 i 0 v) :=
  ⟨h.1, h.2.1, h.2.2.1, h.2.2.2.1, h.2.2.2.2.1, h.2.2.2.2.2.1, h.2.2.2.2.2.2.1, h.2.2.2.2.2.2.2.1, h.2.2.2.2.2.2.2.2.1, h.2.2.2.2.2.2.2.2.2⟩
theorem xI_u2 {σ : zS} {i : Nat} {v : Int32} (h : xI σ) : xI (z_up σ 2 i 0 v) :=
  ⟨h.1, h.2.1, h.2.2.1, h.2.2.2.1, h.2.2.2.2.1, h.2.2.2.2.2.1, h.2.2.2.2.2.2.1, h.2.2.2.2.2.2.2.1, h.2.2.2.2.2.2.2.2.1, h.2.2.2.2.2.2.2.2.2⟩
theorem xI_u3 {σ : zS} {i : Nat} {v : Int32} (h : xI σ) (hv : vp_in v 10) : xI (z_up σ 3 i 0 v) :=
  ⟨h.1, (fun a ha => by rw [z_at]; split; exact hv; exact h.2.1 a ha), h.2.2.1, h.2.2.2.1, h.2.2.2.2.1, h.2.2.2.2.2.1, h.2.2.2.2.2.2.1, h.2.2.2.2.2.2.2.1, h.2.2.2.2.2.2.2.2.1, h.2.2.2.2.2.2.2.2.2⟩
theorem xI_u4 {σ : zS} {i : Nat} {v : Int32} (h : xI σ) : xI (z_up σ 4 i 0 v) :=
  ⟨h.1, h.2.1, h.2.2.1, h.2.2.2.1, h.2.2.2.2.1, h.2.2.2.2.2.1, h.2.2.2.2.2.2.1, h.2.2.2.2.2.2.2.1, h.2.2.2.2.2.2.2.2.1, h.2.2.2.2.2.2.2.2.2⟩
theorem xI_u5 {σ : zS} {i j : Nat} {v : Int32} (h : xI σ) (hv : z_o 40 v) : xI (z_up σ 5 i j v) :=
  ⟨h.1, h.2.1, h.2.2.1, h.2.2.2.1, (fun a ha b hb => by rw [z_at]; split; exact hv; exact h.2.2.2.2.1 a ha b hb), h.2.2.2.2.2.1, h.2.2.2.2.2.2.1, h.2.2.2.2.2.2.2.1, h.2.2.2.2.2.2.2.2.1, h.2.2.2.2.2.2.2.2.2⟩
theorem xI_u6 {σ : zS} {i : Nat} {v : Int32} (h : xI σ) (hv : z_o 10 v) : xI (z_up σ 6 i 0 v) :=
  ⟨h.1, h.2.1, (fun a ha => by rw [z_at]; split; exact hv; exact h.2.2.1 a ha), h.2.2.2.1, h.2.2.2.2.1, h.2.2.2.2.2.1, h.2.2.2.2.2.2.1, h.2.2.2.2.2.2.2.1, h.2.2.2.2.2.2.2.2.1, h.2.2.2.2.2.2.2.2.2⟩
theorem xI_u7 {σ : zS} {i : Nat} {v : Int32} (h : xI σ) (hv : vp_in v 5) : xI (z_up σ 7 i 0 v) :=
  ⟨h.1, h.2.1, h.2.2.1, (fun a ha => by rw [z_at]; split; exact hv; exact h.2.2.2.1 a ha), h.2.2.2.2.1, h.2.2.2.2.2.1, h.2.2.2.2.2.2.1, h.2.2.2.2.2.2.2.1, h.2.2.2.2.2.2.2.2.1, h.2.2.2.2.2.2.2.2.2⟩
theorem xI_u8 {σ : zS} {i : Nat} {v : Int32} (h : xI σ) : xI (z_up σ 8 i 0 v) :=
  ⟨h.1, h.2.1, h.2.2.1, h.2.2.2.1, h.2.2.2.2.1, h.2.2.2.2.2.1, h.2.2.2.2.2.2.1, h.2.2.2.2.2.2.2.1, h.2.2.2.2.2.2.2.2.1, h.2.2.2.2.2.2.2.2.2⟩
theorem xI_u9 {σ : zS} {i j : Nat} {v : Int32} (h : xI σ) (hv : vp_in v 10) : xI (z_up σ 9 i j v) :=
  ⟨h.1, h.2.1, h.2.2.1, h.2.2.2.1, h.2.2.2.2.1, h.2.2.2.2.2.1, h.2.2.2.2.2.2.1, (fun a ha b hb => by rw [z_at]; split; exact hv; exact h.2.2.2.2.2.2.2.1 a ha b hb), h.2.2.2.2.2.2.2.2.1, h.2.2.2.2.2.2.2.2.2⟩
theorem xI_u10 {σ : zS} {i j : Nat} {v : Int32} (h : xI σ) (hv : z_o 12 v) : xI (z_up σ 10 i j v) :=
  ⟨h.1, h.2.1, h.2.2.1, h.2.2.2.1, h.2.2.2.2.1, h.2.2.2.2.2.1, (fun a ha b hb => by rw [z_at]; split; exact hv; exact h.2.2.2.2.2.2.1 a ha b hb), h.2.2.2.2.2.2.2.1, h.2.2.2.2.2.2.2.2.1, h.2.2.2.2.2.2.2.2.2⟩
theorem xI_u11 {σ : zS} {i j : Nat} {v : Int32} (h : xI σ) (hv : narrow .boolean (.int v) = .int v) : xI (z_up σ 11 i j v) :=
  ⟨h.1, h.2.1, h.2.2.1, h.2.2.2.1, h.2.2.2.2.1, h.2.2.2.2.2.1, h.2.2.2.2.2.2.1, h.2.2.2.2.2.2.2.1, h.2.2.2.2.2.2.2.2.1, (fun a ha b hb => by rw [z_at]; split; exact hv; exact h.2.2.2.2.2.2.2.2.2 a ha b hb)⟩
theorem xI_u12 {σ : zS} {i : Nat} {v : Int32} (h : xI σ) (hv : vp_in v 13) : xI (z_up σ 12 i 0 v) :=
  ⟨h.1, h.2.1, h.2.2.1, h.2.2.2.1, h.2.2.2.2.1, (fun a ha => by rw [z_at]; split; exact hv; exact h.2.2.2.2.2.1 a ha), h.2.2.2.2.2.2.1, h.2.2.2.2.2.2.2.1, h.2.2.2.2.2.2.2.2.1, h.2.2.2.2.2.2.2.2.2⟩
theorem xI_u13 {σ : zS} {i : Nat} {v : Int32} (h : xI σ) : xI (z_up σ 13 i 0 v) :=
  ⟨h.1, h.2.1, h.2.2.1, h.2.2.2.1, h.2.2.2.2.1, h.2.2.2.2.2.1, h.2.2.2.2.2.2.1, h.2.2.2.2.2.2.2.1, h.2.2.2.2.2.2.2.2.1, h.2.2.2.2.2.2.2.2.2⟩
theorem xI_u14 {σ : zS} {j : Nat} {v : Int32} (h : xI σ) (hv : z_o 40 v) : xI (z_up σ 14 0 j v) :=
  ⟨h.1, h.2.1, h.2.2.1, h.2.2.2.1, h.2.2.2.2.1, h.2.2.2.2.2.1, h.2.2.2.2.2.2.1, h.2.2.2.2.2.2.2.1, (fun a ha => by rw [z_at]; split; exact hv; exact h.2.2.2.2.2.2.2.2.1 a ha), h.2.2.2.2.2.2.2.2.2⟩
theorem xI_u15 {σ : zS} {j : Nat} {v : Int32} (h : xI σ) : xI (z_up σ 15 0 j v) :=
  ⟨h.1, h.2.1, h.2.2.1, h.2.2.2.1, h.2.2.2.2.1, h.2.2.2.2.2.1, h.2.2.2.2.2.2.1, h.2.2.2.2.2.2.2.1, h.2.2.2.2.2.2.2.2.1, h.2.2.2.2.2.2.2.2.2⟩
theorem xI_u16 {σ : zS} {v : Int32} (h : xI σ) : xI (z_up σ 16 0 0 v) :=
  ⟨h.1, h.2.1, h.2.2.1, h.2.2.2.1, h.2.2.2.2.1, h.2.2.2.2.2.1, h.2.2.2.2.2.2.1, h.2.2.2.2.2.2.2.1, h.2.2.2.2.2.2.2.2.1, h.2.2.2.2.2.2.2.2.2⟩
theorem xI_u17 {σ : zS} {v : Int32} (h : xI σ) (hv : v ≤ 10 ∧ 2 ≤ v) : xI (z_up σ 17 0 0 v) :=
  ⟨(by unfold xI1; rw [z_at]; split; exact hv; exact h.1), h.2.1, h.2.2.1, h.2.2.2.1, h.2.2.2.2.1, h.2.2.2.2.2.1, h.2.2.2.2.2.2.1, h.2.2.2.2.2.2.2.1, h.2.2.2.2.2.2.2.2.1, h.2.2.2.2.2.2.2.2.2⟩
theorem xI_u18 {σ : zS} {v : Int32} (h : xI σ) : xI (z_up σ 18 0 0 v) :=
  ⟨h.1, h.2.1, h.2.2.1, h.2.2.2.1, h.2.2.2.2.1, h.2.2.2.2.2.1, h.2.2.2.2.2.2.1, h.2.2.2.2.2.2.2.1, h.2.2.2.2.2.2.2.2.1, h.2.2.2.2.2.2.2.2.2⟩
theorem z_vin {x M : Int32} {N : Nat} (h0 : ¬ x < 0) (h1 : ¬ M ≤ x) (hM : M.toInt = N) : vp_in x N := by
  rw [vp_in_iff]
  rw [Int32.lt_iff_toInt_lt, Int32.toInt_zero] at h0
  rw [Int32.le_iff_toInt_le, hM] at h1
  omega
theorem z_vlt {x : Int32} {N : Nat} (h : vp_in x N) : x.toNatClampNeg < N := Nat.not_le.mp fun q => h (Or.inr q)
theorem z_ovin {x : Int32} {N : Nat} (h : z_o N x) (h1 : ¬ x = -1) : vp_in x N := h.resolve_left h1
theorem z_vmono {x : Int32} {N M : Nat} (h : vp_in x N) (hN : N ≤ M) : vp_in x M := by
  rw [vp_in_iff] at h ⊢
  omega
theorem z_area {σ : zS} {a : Int32} (h : xI1 σ) (h0 : ¬ a < 0) (h1 : ¬ σ 17 0 0 ≤ a) : vp_in a 10 := by
  rw [vp_in_iff]
  have h2 := h.1
  rw [Int32.lt_iff_toInt_lt, Int32.toInt_zero] at h0
  rw [Int32.le_iff_toInt_le] at h1 h2
  have : (10 : Int32).toInt = 10 := rfl
  omega
end
section
section XL
variable {p : Program} {l : Launch} {e : Env} {R : Room} {s : State} {m : MethodId} {args : Array Value} {below : List Frame} {meth : Method} {c : Code} {cc : ByteArray} {nL : Nat} {own : String} {D : va_G} {dA : Nat → ClassId} {Q : State → Prop} {σ : zS} {lo n kc ks pc : Nat} {lv : zL} {st : List Value}
def xa0 (lo i : Nat) : Nat := lo + i
def xa1 (lo i : Nat) : Nat := lo + 1 + i
def xa2 (lo i : Nat) : Nat := lo + 2 + i
def xa3 (lo i : Nat) : Nat := lo + 3 + i
def xa4 (lo i : Nat) : Nat := lo + 4 + i
def xa5 (lo i : Nat) : Nat := lo + 5 + i
def xa6 (lo i : Nat) : Nat := lo + 6 + i
def xa7 (lo i : Nat) : Nat := lo + 16 + 2 * i
def xa8 (lo i : Nat) : Nat := lo + 17 + 2 * i
def xa9 (lo i : Nat) : Nat := lo + 96 + 4 * i
def xa10 (lo i : Nat) : Nat := lo + 97 + 4 * i
def xa11 (lo i : Nat) : Nat := lo + 98 + 4 * i
def xa12 (lo i : Nat) : Nat := lo + 99 + 4 * i
def xk (lo q : Nat) : Nat × Nat := if q < lo ∨ lo + 112 ≤ q then (99, 0) else if q - lo < 6 then (q - lo, 0) else if q - lo < 16 then (6, q - lo - 6) else if q - lo < 96 then (7 + (q - lo - 16) % 2, (q - lo - 16) / 2) else (9 + (q - lo - 96) % 4, (q - lo - 96) / 4)
def xe (dA : Nat → ClassId) (lo : Nat) (σ : zS) (κ i : Nat) : Option va_E := match κ with
  | 0 => some (.inr (3, [.ref (xa1 lo 0), .ref (xa2 lo 0), .ref (xa3 lo 0), .ref (xa4 lo 0), .ref (xa5 lo 0), .int (σ 16 i 0), .int (σ 17 i 0), .int (σ 18 i 0)]))
  | 1 => some (.inl (dA 2, 10, .inr (.inr (.inr (.inr (fun j => if j < 10 then some (xa6 lo j) else none))))))
  | 2 => some (.inl (dA 3, 40, .inr (.inr (.inr (.inr (fun j => if j < 40 then some (xa7 lo j) else none))))))
  | 3 => some (.inl (dA 4, 4, .inr (.inr (.inr (.inr (fun j => if j < 4 then some (xa9 lo j) else none))))))
  | 4 => some (.inl (dA 0, 4, .inl (fun j => σ 14 i j)))
  | 5 => some (.inl (dA 0, 40, .inl (fun j => σ 15 i j)))
  | 6 => some (.inr (0, [.int (σ 0 i 0), .int (σ 1 i 0), .int (σ 2 i 0), .int (σ 3 i 0), .int (σ 4 i 0)]))
  | 7 => some (.inr (1, [.ref (xa8 lo i), .int (σ 6 i 0), .int (σ 7 i 0), .int (σ 8 i 0)]))
  | 8 => some (.inl (dA 0, 4, .inl (fun j => σ 5 i j)))
  | 9 => some (.inr (2, [.ref (xa10 lo i), .ref (xa11 lo i), .ref (xa12 lo i), .int (σ 12 i 0), .int (σ 13 i 0)]))
  | 10 => some (.inl (dA 0, 12, .inl (fun j => σ 9 i j)))
  | 11 => some (.inl (dA 0, 12, .inl (fun j => σ 10 i j)))
  | 12 => some (.inl (dA 1, 12, .inl (fun j => σ 11 i j)))
  | _ => none
def xw (dA : Nat → ClassId) (lo : Nat) (σ : zS) : zW := fun q => xe dA lo σ (xk lo q).1 (xk lo q).2
def xA (lo : Nat) : Nat → Prop := fun q => lo ≤ q ∧ q < lo + 112
theorem xk_0 {lo i : Nat} (h : i < 1) : xk lo (xa0 lo i) = (0, i) := by
  unfold xk xa0
  (repeat' split) <;> first | (exfalso; omega) | (refine Prod.ext ?_ ?_ <;> (show _ = _) <;> omega)
theorem xk_i0 {lo q i : Nat} (h : xk lo q = (0, i)) : q = xa0 lo i ∧ i < 1 := by
  unfold xk at h
  unfold xa0
  (repeat' split at h) <;> simp only [Prod.mk.injEq] at h <;> omega
theorem xw_0 {dA : Nat → ClassId} {lo i : Nat} {σ : zS} (h : i < 1) : xw dA lo σ (xa0 lo i) = some (.inr (3, [.ref (xa1 lo 0), .ref (xa2 lo 0), .ref (xa3 lo 0), .ref (xa4 lo 0), .ref (xa5 lo 0), .int (σ 16 i 0), .int (σ 17 i 0), .int (σ 18 i 0)])) := by
  unfold xw
  rw [xk_0 h]
  rfl
theorem xA_0 {lo i : Nat} (h : i < 1) : xA lo (xa0 lo i) := by
  unfold xA xa0
  omega
theorem xk_1 {lo i : Nat} (h : i < 1) : xk lo (xa1 lo i) = (1, i) := by
  unfold xk xa1
  (repeat' split) <;> first | (exfalso; omega) | (refine Prod.ext ?_ ?_ <;> (show _ = _) <;> omega)
theorem xk_i1 {lo q i : Nat} (h : xk lo q = (1, i)) : q = xa1 lo i ∧ i < 1 := by
  unfold xk at h
  unfold xa1
  (repeat' split at h) <;> simp only [Prod.mk.injEq] at h <;> omega
theorem xw_1 {dA : Nat → ClassId} {lo i : Nat} {σ : zS} (h : i < 1) : xw dA lo σ (xa1 lo i) = some (.inl (dA 2, 10, .inr (.inr (.inr (.inr (fun j => if j < 10 then some (xa6 lo j) else none)))))) := by
  unfold xw
  rw [xk_1 h]
  rfl
theorem xA_1 {lo i : Nat} (h : i < 1) : xA lo (xa1 lo i) := by
  unfold xA xa1
  omega
theorem xk_2 {lo i : Nat} (h : i < 1) : xk lo (xa2 lo i) = (2, i) := by
  unfold xk xa2
  (repeat' split) <;> first | (exfalso; omega) | (refine Prod.ext ?_ ?_ <;> (show _ = _) <;> omega)
theorem xk_i2 {lo q i : Nat} (h : xk lo q = (2, i)) : q = xa2 lo i ∧ i < 1 := by
  unfold xk at h
  unfold xa2
  (repeat' split at h) <;> simp only [Prod.mk.injEq] at h <;> omega
theorem xw_2 {dA : Nat → ClassId} {lo i : Nat} {σ : zS} (h : i < 1) : xw dA lo σ (xa2 lo i) = some (.inl (dA 3, 40, .inr (.inr (.inr (.inr (fun j => if j < 40 then some (xa7 lo j) else none)))))) := by
  unfold xw
  rw [xk_2 h]
  rfl
theorem xA_2 {lo i : Nat} (h : i < 1) : xA lo (xa2 lo i) := by
  unfold xA xa2
  omega
theorem xk_3 {lo i : Nat} (h : i < 1) : xk lo (xa3 lo i) = (3, i) := by
  unfold xk xa3
  (repeat' split) <;> first | (exfalso; omega) | (refine Prod.ext ?_ ?_ <;> (show _ = _) <;> omega)
theorem xk_i3 {lo q i : Nat} (h : xk lo q = (3, i)) : q = xa3 lo i ∧ i < 1 := by
  unfold xk at h
  unfold xa3
  (repeat' split at h) <;> simp only [Prod.mk.injEq] at h <;> omega
theorem xw_3 {dA : Nat → ClassId} {lo i : Nat} {σ : zS} (h : i < 1) : xw dA lo σ (xa3 lo i) = some (.inl (dA 4, 4, .inr (.inr (.inr (.inr (fun j => if j < 4 then some (xa9 lo j) else none)))))) := by
  unfold xw
  rw [xk_3 h]
  rfl
theorem xA_3 {lo i : Nat} (h : i < 1) : xA lo (xa3 lo i) := by
  unfold xA xa3
  omega
theorem xk_4 {lo i : Nat} (h : i < 1) : xk lo (xa4 lo i) = (4, i) := by
  unfold xk xa4
  (repeat' split) <;> first | (exfalso; omega) | (refine Prod.ext ?_ ?_ <;> (show _ = _) <;> omega)
theorem xk_i4 {lo q i : Nat} (h : xk lo q = (4, i)) : q = xa4 lo i ∧ i < 1 := by
  unfold xk at h
  unfold xa4
  (repeat' split at h) <;> simp only [Prod.mk.injEq] at h <;> omega
theorem xw_4 {dA : Nat → ClassId} {lo i : Nat} {σ : zS} (h : i < 1) : xw dA lo σ (xa4 lo i) = some (.inl (dA 0, 4, .inl (fun j => σ 14 i j))) := by
  unfold xw
  rw [xk_4 h]
  rfl
theorem xA_4 {lo i : Nat} (h : i < 1) : xA lo (xa4 lo i) := by
  unfold xA xa4
  omega
theorem xk_5 {lo i : Nat} (h : i < 1) : xk lo (xa5 lo i) = (5, i) := by
  unfold xk xa5
  (repeat' split) <;> first | (exfalso; omega) | (refine Prod.ext ?_ ?_ <;> (show _ = _) <;> omega)
theorem xk_i5 {lo q i : Nat} (h : xk lo q = (5, i)) : q = xa5 lo i ∧ i < 1 := by
  unfold xk at h
  unfold xa5
  (repeat' split at h) <;> simp only [Prod.mk.injEq] at h <;> omega
theorem xw_5 {dA : Nat → ClassId} {lo i : Nat} {σ : zS} (h : i < 1) : xw dA lo σ (xa5 lo i) = some (.inl (dA 0, 40, .inl (fun j => σ 15 i j))) := by
  unfold xw
  rw [xk_5 h]
  rfl
theorem xA_5 {lo i : Nat} (h : i < 1) : xA lo (xa5 lo i) := by
  unfold xA xa5
  omega
theorem xk_6 {lo i : Nat} (h : i < 10) : xk lo (xa6 lo i) = (6, i) := by
  unfold xk xa6
  (repeat' split) <;> first | (exfalso; omega) | (refine Prod.ext ?_ ?_ <;> (show _ = _) <;> omega)
theorem xk_i6 {lo q i : Nat} (h : xk lo q = (6, i)) : q = xa6 lo i ∧ i < 10 := by
  unfold xk at h
  unfold xa6
  (repeat' split at h) <;> simp only [Prod.mk.injEq] at h <;> omega
theorem xw_6 {dA : Nat → ClassId} {lo i : Nat} {σ : zS} (h : i < 10) : xw dA lo σ (xa6 lo i) = some (.inr (0, [.int (σ 0 i 0), .int (σ 1 i 0), .int (σ 2 i 0), .int (σ 3 i 0), .int (σ 4 i 0)])) := by
  unfold xw
  rw [xk_6 h]
  rfl
theorem xA_6 {lo i : Nat} (h : i < 10) : xA lo (xa6 lo i) := by
  unfold xA xa6
  omega
theorem xk_7 {lo i : Nat} (h : i < 40) : xk lo (xa7 lo i) = (7, i) := by
  unfold xk xa7
  (repeat' split) <;> first | (exfalso; omega) | (refine Prod.ext ?_ ?_ <;> (show _ = _) <;> omega)
theorem xk_i7 {lo q i : Nat} (h : xk lo q = (7, i)) : q = xa7 lo i ∧ i < 40 := by
  unfold xk at h
  unfold xa7
  (repeat' split at h) <;> simp only [Prod.mk.injEq] at h <;> omega
theorem xw_7 {dA : Nat → ClassId} {lo i : Nat} {σ : zS} (h : i < 40) : xw dA lo σ (xa7 lo i) = some (.inr (1, [.ref (xa8 lo i), .int (σ 6 i 0), .int (σ 7 i 0), .int (σ 8 i 0)])) := by
  unfold xw
  rw [xk_7 h]
  rfl
theorem xA_7 {lo i : Nat} (h : i < 40) : xA lo (xa7 lo i) := by
  unfold xA xa7
  omega
theorem xk_8 {lo i : Nat} (h : i < 40) : xk lo (xa8 lo i) = (8, i) := by
  unfold xk xa8
  (repeat' split) <;> first | (exfalso; omega) | (refine Prod.ext ?_ ?_ <;> (show _ = _) <;> omega)
theorem xk_i8 {lo q i : Nat} (h : xk lo q = (8, i)) : q = xa8 lo i ∧ i < 40 := by
  unfold xk at h
  unfold xa8
  (repeat' split at h) <;> simp only [Prod.mk.injEq] at h <;> omega
theorem xw_8 {dA : Nat → ClassId} {lo i : Nat} {σ : zS} (h : i < 40) : xw dA lo σ (xa8 lo i) = some (.inl (dA 0, 4, .inl (fun j => σ 5 i j))) := by
  unfold xw
  rw [xk_8 h]
  rfl
theorem xA_8 {lo i : Nat} (h : i < 40) : xA lo (xa8 lo i) := by
  unfold xA xa8
  omega
theorem xk_9 {lo i : Nat} (h : i < 4) : xk lo (xa9 lo i) = (9, i) := by
  unfold xk xa9
  (repeat' split) <;> first | (exfalso; omega) | (refine Prod.ext ?_ ?_ <;> (show _ = _) <;> omega)
theorem xk_i9 {lo q i : Nat} (h : xk lo q = (9, i)) : q = xa9 lo i ∧ i < 4 := by
  unfold xk at h
  unfold xa9
  (repeat' split at h) <;> simp only [Prod.mk.injEq] at h <;> omega
theorem xw_9 {dA : Nat → ClassId} {lo i : Nat} {σ : zS} (h : i < 4) : xw dA lo σ (xa9 lo i) = some (.inr (2, [.ref (xa10 lo i), .ref (xa11 lo i), .ref (xa12 lo i), .int (σ 12 i 0), .int (σ 13 i 0)])) := by
  unfold xw
  rw [xk_9 h]
  rfl
theorem xA_9 {lo i : Nat} (h : i < 4) : xA lo (xa9 lo i) := by
  unfold xA xa9
  omega
theorem xk_10 {lo i : Nat} (h : i < 4) : xk lo (xa10 lo i) = (10, i) := by
  unfold xk xa10
  (repeat' split) <;> first | (exfalso; omega) | (refine Prod.ext ?_ ?_ <;> (show _ = _) <;> omega)
theorem xk_i10 {lo q i : Nat} (h : xk lo q = (10, i)) : q = xa10 lo i ∧ i < 4 := by
  unfold xk at h
  unfold xa10
  (repeat' split at h) <;> simp only [Prod.mk.injEq] at h <;> omega
theorem xw_10 {dA : Nat → ClassId} {lo i : Nat} {σ : zS} (h : i < 4) : xw dA lo σ (xa10 lo i) = some (.inl (dA 0, 12, .inl (fun j => σ 9 i j))) := by
  unfold xw
  rw [xk_10 h]
  rfl
theorem xA_10 {lo i : Nat} (h : i < 4) : xA lo (xa10 lo i) := by
  unfold xA xa10
  omega
theorem xk_11 {lo i : Nat} (h : i < 4) : xk lo (xa11 lo i) = (11, i) := by
  unfold xk xa11
  (repeat' split) <;> first | (exfalso; omega) | (refine Prod.ext ?_ ?_ <;> (show _ = _) <;> omega)
theorem xk_i11 {lo q i : Nat} (h : xk lo q = (11, i)) : q = xa11 lo i ∧ i < 4 := by
  unfold xk at h
  unfold xa11
  (repeat' split at h) <;> simp only [Prod.mk.injEq] at h <;> omega
theorem xw_11 {dA : Nat → ClassId} {lo i : Nat} {σ : zS} (h : i < 4) : xw dA lo σ (xa11 lo i) = some (.inl (dA 0, 12, .inl (fun j => σ 10 i j))) := by
  unfold xw
  rw [xk_11 h]
  rfl
theorem xA_11 {lo i : Nat} (h : i < 4) : xA lo (xa11 lo i) := by
  unfold xA xa11
  omega
theorem xk_12 {lo i : Nat} (h : i < 4) : xk lo (xa12 lo i) = (12, i) := by
  unfold xk xa12
  (repeat' split) <;> first | (exfalso; omega) | (refine Prod.ext ?_ ?_ <;> (show _ = _) <;> omega)
theorem xk_i12 {lo q i : Nat} (h : xk lo q = (12, i)) : q = xa12 lo i ∧ i < 4 := by
  unfold xk at h
  unfold xa12
  (repeat' split at h) <;> simp only [Prod.mk.injEq] at h <;> omega
theorem xw_12 {dA : Nat → ClassId} {lo i : Nat} {σ : zS} (h : i < 4) : xw dA lo σ (xa12 lo i) = some (.inl (dA 1, 12, .inl (fun j => σ 11 i j))) := by
  unfold xw
  rw [xk_12 h]
  rfl
theorem xA_12 {lo i : Nat} (h : i < 4) : xA lo (xa12 lo i) := by
  unfold xA xa12
  omega
theorem xw_in {dA : Nat → ClassId} {lo q : Nat} {σ : zS} {e : va_E} (h : xw dA lo σ q = some e) : xA lo q := by
  unfold xw at h
  unfold xA
  by_cases hq : lo ≤ q ∧ q < lo + 112
  · exact hq
  · exfalso
    have : xk lo q = (99, 0) := by
      unfold xk
      rw [if_pos (by omega)]
    rw [this] at h
    cases h
theorem xo_16 {dA : Nat → ClassId} {lo i j κ i' : Nat} {σ : zS} {v : Int32} (h : ¬ (κ = 0 ∧ i' = i)) : xe dA lo (z_up σ 16 i j v) κ i' = xe dA lo σ κ i' := by
  unfold xe
  split <;> simp_all [z_up]
theorem xu_16 {dA : Nat → ClassId} {lo i : Nat} {σ : zS} {v : Int32} (hi : i < 1) : ∀ (q : Nat) (e : va_E), xw dA lo (z_up σ 16 i 0 v) q = some e → va_up (xw dA lo σ) (xa0 lo i) (some (.inr (3, [.ref (xa1 lo 0), .ref (xa2 lo 0), .ref (xa3 lo 0), .ref (xa4 lo 0), .ref (xa5 lo 0), .int v, .int (σ 17 i 0), .int (σ 18 i 0)]))) q = some e := by
  intro q e h
  by_cases hq : q = xa0 lo i
  · subst hq
    rw [xw_0 hi] at h
    rw [va_up_self, ← h]
    simp [z_up]
  · rw [va_up_ne _ _ hq, ← h]
    unfold xw
    rw [xo_16]
    intro hk
    exact hq (xk_i0 (Prod.ext hk.1 hk.2)).1
theorem xp_16 (C : zC p s m args meth c cc nL own D dA) {index i : Nat} {v : Int32} (hl : Cond.fieldLink own index (F_SM 5).1 (F_SM 5).2.1 (F_SM 5).2.2.1 ∈ zT) (hi : i < 1) (hna : narrow .int (.int v) = .int v) (hfit : fits .int (.int v) = true) (hd : decode cc pc = .ok (.putfield index, 3)) (k : zz p l e R s m args below meth c D (xA lo) nL Q (xw dA lo (z_up σ 16 i 0 v)) n kc ks (pc + 3) lv st) : zz p l e R s m args below meth c D (xA lo) nL Q (xw dA lo σ) n kc ks pc lv (.int v :: .ref (xa0 lo i) :: st) :=
  zz_put C (ci := 3) (N := 8) 5 rfl zi_SM t_SM t_SM_ok n_SM (by decide) hl rfl rfl hna hfit (Nat.le_of_ble_eq_true rfl) (xw_0 hi) (xA_0 hi) hd (zz_mono (xu_16 hi) k)
theorem xpN_16 (C : zC p s m args meth c cc nL own D dA) {index i : Nat} {v : Int32} {host : String} (hl : Cond.fieldLinkNest own index (F_SM 5).1 (F_SM 5).2.1 (F_SM 5).2.2.1 host ∈ zN) (hi : i < 1) (hna : narrow .int (.int v) = .int v) (hfit : fits .int (.int v) = true) (hd : decode cc pc = .ok (.putfield index, 3)) (k : zz p l e R s m args below meth c D (xA lo) nL Q (xw dA lo (z_up σ 16 i 0 v)) n kc ks (pc + 3) lv st) : zz p l e R s m args below meth c D (xA lo) nL Q (xw dA lo σ) n kc ks pc lv (.int v :: .ref (xa0 lo i) :: st) :=
  zz_putN C (ci := 3) (N := 8) 5 rfl zi_SM t_SM t_SM_ok n_SM (by decide) hl rfl rfl hna hfit (Nat.le_of_ble_eq_true rfl) (xw_0 hi) (xA_0 hi) hd (zz_mono (xu_16 hi) k)
theorem xo_17 {dA : Nat → ClassId} {lo i j κ i' : Nat} {σ : zS} {v : Int32} (h : ¬ (κ = 0 ∧ i' = i)) : xe dA lo (z_up σ 17 i j v) κ i' = xe dA lo σ κ i' := by
  unfold xe
  split <;> simp_all [z_up]
theorem xu_17 {dA : Nat → ClassId} {lo i : Nat} {σ : zS} {v : Int32} (hi : i < 1) : ∀ (q : Nat) (e : va_E), xw dA lo (z_up σ 17 i 0 v) q = some e → va_up (xw dA lo σ) (xa0 lo i) (some (.inr (3, [.ref (xa1 lo 0), .ref (xa2 lo 0), .ref (xa3 lo 0), .ref (xa4 lo 0), .ref (xa5 lo 0), .int (σ 16 i 0), .int v, .int (σ 18 i 0)]))) q = some e := by
  intro q e h
  by_cases hq : q = xa0 lo i
  · subst hq
    rw [xw_0 hi] at h
    rw [va_up_self, ← h]
    simp [z_up]
  · rw [va_up_ne _ _ hq, ← h]
    unfold xw
    rw [xo_17]
    intro hk
    exact hq (xk_i0 (Prod.ext hk.1 hk.2)).1
theorem xp_17 (C : zC p s m args meth c cc nL own D dA) {index i : Nat} {v : Int32} (hl : Cond.fieldLink own index (F_SM 6).1 (F_SM 6).2.1 (F_SM 6).2.2.1 ∈ zT) (hi : i < 1) (hna : narrow .int (.int v) = .int v) (hfit : fits .int (.int v) = true) (hd : decode cc pc = .ok (.putfield index, 3)) (k : zz p l e R s m args below meth c D (xA lo) nL Q (xw dA lo (z_up σ 17 i 0 v)) n kc ks (pc + 3) lv st) : zz p l e R s m args below meth c D (xA lo) nL Q (xw dA lo σ) n kc ks pc lv (.int v :: .ref (xa0 lo i) :: st) :=
  zz_put C (ci := 3) (N := 8) 6 rfl zi_SM t_SM t_SM_ok n_SM (by decide) hl rfl rfl hna hfit (Nat.le_of_ble_eq_true rfl) (xw_0 hi) (xA_0 hi) hd (zz_mono (xu_17 hi) k)
theorem xpN_17 (C : zC p s m args meth c cc nL own D dA) {index i : Nat} {v : Int32} {host : String} (hl : Cond.fieldLinkNest own index (F_SM 6).1 (F_SM 6).2.1 (F_SM 6).2.2.1 host ∈ zN) (hi : i < 1) (hna : narrow .int (.int v) = .int v) (hfit : fits .int (.int v) = true) (hd : decode cc pc = .ok (.putfield index, 3)) (k : zz p l e R s m args below meth c D (xA lo) nL Q (xw dA lo (z_up σ 17 i 0 v)) n kc ks (pc + 3) lv st) : zz p l e R s m args below meth c D (xA lo) nL Q (xw dA lo σ) n kc ks pc lv (.int v :: .ref (xa0 lo i) :: st) :=
  zz_putN C (ci := 3) (N := 8) 6 rfl zi_SM t_SM t_SM_ok n_SM (by decide) hl rfl rfl hna hfit (Nat.le_of_ble_eq_true rfl) (xw_0 hi) (xA_0 hi) hd (zz_mono (xu_17 hi) k)
theorem xo_18 {dA : Nat → ClassId} {lo i j κ i' : Nat} {σ : zS} {v : Int32} (h : ¬ (κ = 0 ∧ i' = i)) : xe dA lo (z_up σ 18 i j v) κ i' = xe dA lo σ κ i' := by
  unfold xe
  split <;> simp_all [z_up]
theorem xu_18 {dA : Nat → ClassId} {lo i : Nat} {σ : zS} {v : Int32} (hi : i < 1) : ∀ (q : Nat) (e : va_E), xw dA lo (z_up σ 18 i 0 v) q = some e → va_up (xw dA lo σ) (xa0 lo i) (some (.inr (3, [.ref (xa1 lo 0), .ref (xa2 lo 0), .ref (xa3 lo 0), .ref (xa4 lo 0), .ref (xa5 lo 0), .int (σ 16 i 0), .int (σ 17 i 0), .int v]))) q = some e := by
  intro q e h
  by_cases hq : q = xa0 lo i
  · subst hq
    rw [xw_0 hi] at h
    rw [va_up_self, ← h]
    simp [z_up]
  · rw [va_up_ne _ _ hq, ← h]
    unfold xw
    rw [xo_18]
    intro hk
    exact hq (xk_i0 (Prod.ext hk.1 hk.2)).1
theorem xp_18 (C : zC p s m args meth c cc nL own D dA) {index i : Nat} {v : Int32} (hl : Cond.fieldLink own index (F_SM 7).1 (F_SM 7).2.1 (F_SM 7).2.2.1 ∈ zT) (hi : i < 1) (hna : narrow .int (.int v) = .int v) (hfit : fits .int (.int v) = true) (hd : decode cc pc = .ok (.putfield index, 3)) (k : zz p l e R s m args below meth c D (xA lo) nL Q (xw dA lo (z_up σ 18 i 0 v)) n kc ks (pc + 3) lv st) : zz p l e R s m args below meth c D (xA lo) nL Q (xw dA lo σ) n kc ks pc lv (.int v :: .ref (xa0 lo i) :: st) :=
  zz_put C (ci := 3) (N := 8) 7 rfl zi_SM t_SM t_SM_ok n_SM (by decide) hl rfl rfl hna hfit (Nat.le_of_ble_eq_true rfl) (xw_0 hi) (xA_0 hi) hd (zz_mono (xu_18 hi) k)
theorem xpN_18 (C : zC p s m args meth c cc nL own D dA) {index i : Nat} {v : Int32} {host : String} (hl : Cond.fieldLinkNest own index (F_SM 7).1 (F_SM 7).2.1 (F_SM 7).2.2.1 host ∈ zN) (hi : i < 1) (hna : narrow .int (.int v) = .int v) (hfit : fits .int (.int v) = true) (hd : decode cc pc = .ok (.putfield index, 3)) (k : zz p l e R s m args below meth c D (xA lo) nL Q (xw dA lo (z_up σ 18 i 0 v)) n kc ks (pc + 3) lv st) : zz p l e R s m args below meth c D (xA lo) nL Q (xw dA lo σ) n kc ks pc lv (.int v :: .ref (xa0 lo i) :: st) :=
  zz_putN C (ci := 3) (N := 8) 7 rfl zi_SM t_SM t_SM_ok n_SM (by decide) hl rfl rfl hna hfit (Nat.le_of_ble_eq_true rfl) (xw_0 hi) (xA_0 hi) hd (zz_mono (xu_18 hi) k)
theorem xo_14 {dA : Nat → ClassId} {lo i j κ i' : Nat} {σ : zS} {v : Int32} (h : ¬ (κ = 4 ∧ i' = i)) : xe dA lo (z_up σ 14 i j v) κ i' = xe dA lo σ κ i' := by
  unfold xe
  split <;> simp_all [z_up]
theorem xu_14 {dA : Nat → ClassId} {lo i j : Nat} {σ : zS} {v : Int32} (hi : i < 1) : ∀ (q : Nat) (e : va_E), xw dA lo (z_up σ 14 i j v) q = some e → va_up (xw dA lo σ) (xa4 lo i) (some (.inl (dA 0, 4, .inl (upd (fun j => σ 14 i j) j v)))) q = some e := by
  intro q e h
  by_cases hq : q = xa4 lo i
  · subst hq
    rw [xw_4 hi] at h
    rw [va_up_self, ← h]
    refine congrArg some (congrArg Sum.inl (congrArg (Prod.mk _) (congrArg (Prod.mk _) (congrArg Sum.inl (funext fun j' => ?_)))))
    simp [z_up, upd]
  · rw [va_up_ne _ _ hq, ← h]
    unfold xw
    rw [xo_14]
    intro hk
    exact hq (xk_i4 (Prod.ext hk.1 hk.2)).1
theorem xs_14 (C : zC p s m args meth c cc nL own D dA) {i : Nat} {j v : Int32} (hi : i < 1) (hj : vp_in j 4) (hd : decode cc pc = .ok (.iastore, 1)) (k : zz p l e R s m args below meth c D (xA lo) nL Q (xw dA lo (z_up σ 14 i j.toNatClampNeg v)) n kc ks (pc + 1) lv st) : zz p l e R s m args below meth c D (xA lo) nL Q (xw dA lo σ) n kc ks pc lv (.int v :: .int j :: .ref (xa4 lo i) :: st) :=
  zz_iast C (t0 := 0) rfl (xw_4 hi) (xA_4 hi) hj hd (zz_mono (xu_14 hi) k)
theorem xo_15 {dA : Nat → ClassId} {lo i j κ i' : Nat} {σ : zS} {v : Int32} (h : ¬ (κ = 5 ∧ i' = i)) : xe dA lo (z_up σ 15 i j v) κ i' = xe dA lo σ κ i' := by
  unfold xe
  split <;> simp_all [z_up]
theorem xu_15 {dA : Nat → ClassId} {lo i j : Nat} {σ : zS} {v : Int32} (hi : i < 1) : ∀ (q : Nat) (e : va_E), xw dA lo (z_up σ 15 i j v) q = some e → va_up (xw dA lo σ) (xa5 lo i) (some (.inl (dA 0, 40, .inl (upd (fun j => σ 15 i j) j v)))) q = some e := by
  intro q e h
  by_cases hq : q = xa5 lo i
  · subst hq
    rw [xw_5 hi] at h
    rw [va_up_self, ← h]
    refine congrArg some (congrArg Sum.inl (congrArg (Prod.mk _) (congrArg (Prod.mk _) (congrArg Sum.inl (funext fun j' => ?_)))))
    simp [z_up, upd]
  · rw [va_up_ne _ _ hq, ← h]
    unfold xw
    rw [xo_15]
    intro hk
    exact hq (xk_i5 (Prod.ext hk.1 hk.2)).1
theorem xs_15 (C : zC p s m args meth c cc nL own D dA) {i : Nat} {j v : Int32} (hi : i < 1) (hj : vp_in j 40) (hd : decode cc pc = .ok (.iastore, 1)) (k : zz p l e R s m args below meth c D (xA lo) nL Q (xw dA lo (z_up σ 15 i j.toNatClampNeg v)) n kc ks (pc + 1) lv st) : zz p l e R s m args below meth c D (xA lo) nL Q (xw dA lo σ) n kc ks pc lv (.int v :: .int j :: .ref (xa5 lo i) :: st) :=
  zz_iast C (t0 := 0) rfl (xw_5 hi) (xA_5 hi) hj hd (zz_mono (xu_15 hi) k)
theorem xo_0 {dA : Nat → ClassId} {lo i j κ i' : Nat} {σ : zS} {v : Int32} (h : ¬ (κ = 6 ∧ i' = i)) : xe dA lo (z_up σ 0 i j v) κ i' = xe dA lo σ κ i' := by
  unfold xe
  split <;> simp_all [z_up]
theorem xu_0 {dA : Nat → ClassId} {lo i : Nat} {σ : zS} {v : Int32} (hi : i < 10) : ∀ (q : Nat) (e : va_E), xw dA lo (z_up σ 0 i 0 v) q = some e → va_up (xw dA lo σ) (xa6 lo i) (some (.inr (0, [.int v, .int (σ 1 i 0), .int (σ 2 i 0), .int (σ 3 i 0), .int (σ 4 i 0)]))) q = some e := by
  intro q e h
  by_cases hq : q = xa6 lo i
  · subst hq
    rw [xw_6 hi] at h
    rw [va_up_self, ← h]
    simp [z_up]
  · rw [va_up_ne _ _ hq, ← h]
    unfold xw
    rw [xo_0]
    intro hk
    exact hq (xk_i6 (Prod.ext hk.1 hk.2)).1
theorem xp_0 (C : zC p s m args meth c cc nL own D dA) {index i : Nat} {v : Int32} (hl : Cond.fieldLink own index (F_Ar 0).1 (F_Ar 0).2.1 (F_Ar 0).2.2.1 ∈ zT) (hi : i < 10) (hna : narrow .int (.int v) = .int v) (hfit : fits .int (.int v) = true) (hd : decode cc pc = .ok (.putfield index, 3)) (k : zz p l e R s m args below meth c D (xA lo) nL Q (xw dA lo (z_up σ 0 i 0 v)) n kc ks (pc + 3) lv st) : zz p l e R s m args below meth c D (xA lo) nL Q (xw dA lo σ) n kc ks pc lv (.int v :: .ref (xa6 lo i) :: st) :=
  zz_put C (ci := 0) (N := 5) 0 rfl zi_Ar t_Ar t_Ar_ok n_Ar (by decide) hl rfl rfl hna hfit (Nat.le_of_ble_eq_true rfl) (xw_6 hi) (xA_6 hi) hd (zz_mono (xu_0 hi) k)
theorem xpN_0 (C : zC p s m args meth c cc nL own D dA) {index i : Nat} {v : Int32} {host : String} (hl : Cond.fieldLinkNest own index (F_Ar 0).1 (F_Ar 0).2.1 (F_Ar 0).2.2.1 host ∈ zN) (hi : i < 10) (hna : narrow .int (.int v) = .int v) (hfit : fits .int (.int v) = true) (hd : decode cc pc = .ok (.putfield index, 3)) (k : zz p l e R s m args below meth c D (xA lo) nL Q (xw dA lo (z_up σ 0 i 0 v)) n kc ks (pc + 3) lv st) : zz p l e R s m args below meth c D (xA lo) nL Q (xw dA lo σ) n kc ks pc lv (.int v :: .ref (xa6 lo i) :: st) :=
  zz_putN C (ci := 0) (N := 5) 0 rfl zi_Ar t_Ar t_Ar_ok n_Ar (by decide) hl rfl rfl hna hfit (Nat.le_of_ble_eq_true rfl) (xw_6 hi) (xA_6 hi) hd (zz_mono (xu_0 hi) k)
theorem xo_1 {dA : Nat → ClassId} {lo i j κ i' : Nat} {σ : zS} {v : Int32} (h : ¬ (κ = 6 ∧ i' = i)) : xe dA lo (z_up σ 1 i j v) κ i' = xe dA lo σ κ i' := by
  unfold xe
  split <;> simp_all [z_up]
theorem xu_1 {dA : Nat → ClassId} {lo i : Nat} {σ : zS} {v : Int32} (hi : i < 10) : ∀ (q : Nat) (e : va_E), xw dA lo (z_up σ 1 i 0 v) q = some e → va_up (xw dA lo σ) (xa6 lo i) (some (.inr (0, [.int (σ 0 i 0), .int v, .int (σ 2 i 0), .int (σ 3 i 0), .int (σ 4 i 0)]))) q = some e := by
  intro q e h
  by_cases hq : q = xa6 lo i
  · subst hq
    rw [xw_6 hi] at h
    rw [va_up_self, ← h]
    simp [z_up]
  · rw [va_up_ne _ _ hq, ← h]
    unfold xw
    rw [xo_1]
    intro hk
    exact hq (xk_i6 (Prod.ext hk.1 hk.2)).1
theorem xp_1 (C : zC p s m args meth c cc nL own D dA) {index i : Nat} {v : Int32} (hl : Cond.fieldLink own index (F_Ar 1).1 (F_Ar 1).2.1 (F_Ar 1).2.2.1 ∈ zT) (hi : i < 10) (hna : narrow .int (.int v) = .int v) (hfit : fits .int (.int v) = true) (hd : decode cc pc = .ok (.putfield index, 3)) (k : zz p l e R s m args below meth c D (xA lo) nL Q (xw dA lo (z_up σ 1 i 0 v)) n kc ks (pc + 3) lv st) : zz p l e R s m args below meth c D (xA lo) nL Q (xw dA lo σ) n kc ks pc lv (.int v :: .ref (xa6 lo i) :: st) :=
  zz_put C (ci := 0) (N := 5) 1 rfl zi_Ar t_Ar t_Ar_ok n_Ar (by decide) hl rfl rfl hna hfit (Nat.le_of_ble_eq_true rfl) (xw_6 hi) (xA_6 hi) hd (zz_mono (xu_1 hi) k)
theorem xpN_1 (C : zC p s m args meth c cc nL own D dA) {index i : Nat} {v : Int32} {host : String} (hl : Cond.fieldLinkNest own index (F_Ar 1).1 (F_Ar 1).2.1 (F_Ar 1).2.2.1 host ∈ zN) (hi : i < 10) (hna : narrow .int (.int v) = .int v) (hfit : fits .int (.int v) = true) (hd : decode cc pc = .ok (.putfield index, 3)) (k : zz p l e R s m args below meth c D (xA lo) nL Q (xw dA lo (z_up σ 1 i 0 v)) n kc ks (pc + 3) lv st) : zz p l e R s m args below meth c D (xA lo) nL Q (xw dA lo σ) n kc ks pc lv (.int v :: .ref (xa6 lo i) :: st) :=
  zz_putN C (ci := 0) (N := 5) 1 rfl zi_Ar t_Ar t_Ar_ok n_Ar (by decide) hl rfl rfl hna hfit (Nat.le_of_ble_eq_true rfl) (xw_6 hi) (xA_6 hi) hd (zz_mono (xu_1 hi) k)
theorem xo_2 {dA : Nat → ClassId} {lo i j κ i' : Nat} {σ : zS} {v : Int32} (h : ¬ (κ = 6 ∧ i' = i)) : xe dA lo (z_up σ 2 i j v) κ i' = xe dA lo σ κ i' := by
  unfold xe
  split <;> simp_all [z_up]
theorem xu_2 {dA : Nat → ClassId} {lo i : Nat} {σ : zS} {v : Int32} (hi : i < 10) : ∀ (q : Nat) (e : va_E), xw dA lo (z_up σ 2 i 0 v) q = some e → va_up (xw dA lo σ) (xa6 lo i) (some (.inr (0, [.int (σ 0 i 0), .int (σ 1 i 0), .int v, .int (σ 3 i 0), .int (σ 4 i 0)]))) q = some e := by
  intro q e h
  by_cases hq : q = xa6 lo i
  · subst hq
    rw [xw_6 hi] at h
    rw [va_up_self, ← h]
    simp [z_up]
  · rw [va_up_ne _ _ hq, ← h]
    unfold xw
    rw [xo_2]
    intro hk
    exact hq (xk_i6 (Prod.ext hk.1 hk.2)).1
theorem xp_2 (C : zC p s m args meth c cc nL own D dA) {index i : Nat} {v : Int32} (hl : Cond.fieldLink own index (F_Ar 2).1 (F_Ar 2).2.1 (F_Ar 2).2.2.1 ∈ zT) (hi : i < 10) (hna : narrow .int (.int v) = .int v) (hfit : fits .int (.int v) = true) (hd : decode cc pc = .ok (.putfield index, 3)) (k : zz p l e R s m args below meth c D (xA lo) nL Q (xw dA lo (z_up σ 2 i 0 v)) n kc ks (pc + 3) lv st) : zz p l e R s m args below meth c D (xA lo) nL Q (xw dA lo σ) n kc ks pc lv (.int v :: .ref (xa6 lo i) :: st) :=
  zz_put C (ci := 0) (N := 5) 2 rfl zi_Ar t_Ar t_Ar_ok n_Ar (by decide) hl rfl rfl hna hfit (Nat.le_of_ble_eq_true rfl) (xw_6 hi) (xA_6 hi) hd (zz_mono (xu_2 hi) k)
theorem xpN_2 (C : zC p s m args meth c cc nL own D dA) {index i : Nat} {v : Int32} {host : String} (hl : Cond.fieldLinkNest own index (F_Ar 2).1 (F_Ar 2).2.1 (F_Ar 2).2.2.1 host ∈ zN) (hi : i < 10) (hna : narrow .int (.int v) = .int v) (hfit : fits .int (.int v) = true) (hd : decode cc pc = .ok (.putfield index, 3)) (k : zz p l e R s m args below meth c D (xA lo) nL Q (xw dA lo (z_up σ 2 i 0 v)) n kc ks (pc + 3) lv st) : zz p l e R s m args below meth c D (xA lo) nL Q (xw dA lo σ) n kc ks pc lv (.int v :: .ref (xa6 lo i) :: st) :=
  zz_putN C (ci := 0) (N := 5) 2 rfl zi_Ar t_Ar t_Ar_ok n_Ar (by decide) hl rfl rfl hna hfit (Nat.le_of_ble_eq_true rfl) (xw_6 hi) (xA_6 hi) hd (zz_mono (xu_2 hi) k)
theorem xo_3 {dA : Nat → ClassId} {lo i j κ i' : Nat} {σ : zS} {v : Int32} (h : ¬ (κ = 6 ∧ i' = i)) : xe dA lo (z_up σ 3 i j v) κ i' = xe dA lo σ κ i' := by
  unfold xe
  split <;> simp_all [z_up]
theorem xu_3 {dA : Nat → ClassId} {lo i : Nat} {σ : zS} {v : Int32} (hi : i < 10) : ∀ (q : Nat) (e : va_E), xw dA lo (z_up σ 3 i 0 v) q = some e → va_up (xw dA lo σ) (xa6 lo i) (some (.inr (0, [.int (σ 0 i 0), .int (σ 1 i 0), .int (σ 2 i 0), .int v, .int (σ 4 i 0)]))) q = some e := by
  intro q e h
  by_cases hq : q = xa6 lo i
  · subst hq
    rw [xw_6 hi] at h
    rw [va_up_self, ← h]
    simp [z_up]
  · rw [va_up_ne _ _ hq, ← h]
    unfold xw
    rw [xo_3]
    intro hk
    exact hq (xk_i6 (Prod.ext hk.1 hk.2)).1
theorem xp_3 (C : zC p s m args meth c cc nL own D dA) {index i : Nat} {v : Int32} (hl : Cond.fieldLink own index (F_Ar 3).1 (F_Ar 3).2.1 (F_Ar 3).2.2.1 ∈ zT) (hi : i < 10) (hna : narrow .int (.int v) = .int v) (hfit : fits .int (.int v) = true) (hd : decode cc pc = .ok (.putfield index, 3)) (k : zz p l e R s m args below meth c D (xA lo) nL Q (xw dA lo (z_up σ 3 i 0 v)) n kc ks (pc + 3) lv st) : zz p l e R s m args below meth c D (xA lo) nL Q (xw dA lo σ) n kc ks pc lv (.int v :: .ref (xa6 lo i) :: st) :=
  zz_put C (ci := 0) (N := 5) 3 rfl zi_Ar t_Ar t_Ar_ok n_Ar (by decide) hl rfl rfl hna hfit (Nat.le_of_ble_eq_true rfl) (xw_6 hi) (xA_6 hi) hd (zz_mono (xu_3 hi) k)
theorem xpN_3 (C : zC p s m args meth c cc nL own D dA) {index i : Nat} {v : Int32} {host : String} (hl : Cond.fieldLinkNest own index (F_Ar 3).1 (F_Ar 3).2.1 (F_Ar 3).2.2.1 host ∈ zN) (hi : i < 10) (hna : narrow .int (.int v) = .int v) (hfit : fits .int (.int v) = true) (hd : decode cc pc = .ok (.putfield index, 3)) (k : zz p l e R s m args below meth c D (xA lo) nL Q (xw dA lo (z_up σ 3 i 0 v)) n kc ks (pc + 3) lv st) : zz p l e R s m args below meth c D (xA lo) nL Q (xw dA lo σ) n kc ks pc lv (.int v :: .ref (xa6 lo i) :: st) :=
  zz_putN C (ci := 0) (N := 5) 3 rfl zi_Ar t_Ar t_Ar_ok n_Ar (by decide) hl rfl rfl hna hfit (Nat.le_of_ble_eq_true rfl) (xw_6 hi) (xA_6 hi) hd (zz_mono (xu_3 hi) k)
theorem xo_4 {dA : Nat → ClassId} {lo i j κ i' : Nat} {σ : zS} {v : Int32} (h : ¬ (κ = 6 ∧ i' = i)) : xe dA lo (z_up σ 4 i j v) κ i' = xe dA lo σ κ i' := by
  unfold xe
  split <;> simp_all [z_up]
theorem xu_4 {dA : Nat → ClassId} {lo i : Nat} {σ : zS} {v : Int32} (hi : i < 10) : ∀ (q : Nat) (e : va_E), xw dA lo (z_up σ 4 i 0 v) q = some e → va_up (xw dA lo σ) (xa6 lo i) (some (.inr (0, [.int (σ 0 i 0), .int (σ 1 i 0), .int (σ 2 i 0), .int (σ 3 i 0), .int v]))) q = some e := by
  intro q e h
  by_cases hq : q = xa6 lo i
  · subst hq
    rw [xw_6 hi] at h
    rw [va_up_self, ← h]
    simp [z_up]
  · rw [va_up_ne _ _ hq, ← h]
    unfold xw
    rw [xo_4]
    intro hk
    exact hq (xk_i6 (Prod.ext hk.1 hk.2)).1
theorem xp_4 (C : zC p s m args meth c cc nL own D dA) {index i : Nat} {v : Int32} (hl : Cond.fieldLink own index (F_Ar 4).1 (F_Ar 4).2.1 (F_Ar 4).2.2.1 ∈ zT) (hi : i < 10) (hna : narrow .int (.int v) = .int v) (hfit : fits .int (.int v) = true) (hd : decode cc pc = .ok (.putfield index, 3)) (k : zz p l e R s m args below meth c D (xA lo) nL Q (xw dA lo (z_up σ 4 i 0 v)) n kc ks (pc + 3) lv st) : zz p l e R s m args below meth c D (xA lo) nL Q (xw dA lo σ) n kc ks pc lv (.int v :: .ref (xa6 lo i) :: st) :=
  zz_put C (ci := 0) (N := 5) 4 rfl zi_Ar t_Ar t_Ar_ok n_Ar (by decide) hl rfl rfl hna hfit (Nat.le_of_ble_eq_true rfl) (xw_6 hi) (xA_6 hi) hd (zz_mono (xu_4 hi) k)
theorem xpN_4 (C : zC p s m args meth c cc nL own D dA) {index i : Nat} {v : Int32} {host : String} (hl : Cond.fieldLinkNest own index (F_Ar 4).1 (F_Ar 4).2.1 (F_Ar 4).2.2.1 host ∈ zN) (hi : i < 10) (hna : narrow .int (.int v) = .int v) (hfit : fits .int (.int v) = true) (hd : decode cc pc = .ok (.putfield index, 3)) (k : zz p l e R s m args below meth c D (xA lo) nL Q (xw dA lo (z_up σ 4 i 0 v)) n kc ks (pc + 3) lv st) : zz p l e R s m args below meth c D (xA lo) nL Q (xw dA lo σ) n kc ks pc lv (.int v :: .ref (xa6 lo i) :: st) :=
  zz_putN C (ci := 0) (N := 5) 4 rfl zi_Ar t_Ar t_Ar_ok n_Ar (by decide) hl rfl rfl hna hfit (Nat.le_of_ble_eq_true rfl) (xw_6 hi) (xA_6 hi) hd (zz_mono (xu_4 hi) k)
theorem xo_6 {dA : Nat → ClassId} {lo i j κ i' : Nat} {σ : zS} {v : Int32} (h : ¬ (κ = 7 ∧ i' = i)) : xe dA lo (z_up σ 6 i j v) κ i' = xe dA lo σ κ i' := by
  unfold xe
  split <;> simp_all [z_up]
theorem xu_6 {dA : Nat → ClassId} {lo i : Nat} {σ : zS} {v : Int32} (hi : i < 40) : ∀ (q : Nat) (e : va_E), xw dA lo (z_up σ 6 i 0 v) q = some e → va_up (xw dA lo σ) (xa7 lo i) (some (.inr (1, [.ref (xa8 lo i), .int v, .int (σ 7 i 0), .int (σ 8 i 0)]))) q = some e := by
  intro q e h
  by_cases hq : q = xa7 lo i
  · subst hq
    rw [xw_7 hi] at h
    rw [va_up_self, ← h]
    simp [z_up]
  · rw [va_up_ne _ _ hq, ← h]
    unfold xw
    rw [xo_6]
    intro hk
    exact hq (xk_i7 (Prod.ext hk.1 hk.2)).1
theorem xp_6 (C : zC p s m args meth c cc nL own D dA) {index i : Nat} {v : Int32} (hl : Cond.fieldLink own index (F_Ce 1).1 (F_Ce 1).2.1 (F_Ce 1).2.2.1 ∈ zT) (hi : i < 40) (hna : narrow .int (.int v) = .int v) (hfit : fits .int (.int v) = true) (hd : decode cc pc = .ok (.putfield index, 3)) (k : zz p l e R s m args below meth c D (xA lo) nL Q (xw dA lo (z_up σ 6 i 0 v)) n kc ks (pc + 3) lv st) : zz p l e R s m args below meth c D (xA lo) nL Q (xw dA lo σ) n kc ks pc lv (.int v :: .ref (xa7 lo i) :: st) :=
  zz_put C (ci := 1) (N := 4) 1 rfl zi_Ce t_Ce t_Ce_ok n_Ce (by decide) hl rfl rfl hna hfit (Nat.le_of_ble_eq_true rfl) (xw_7 hi) (xA_7 hi) hd (zz_mono (xu_6 hi) k)
theorem xpN_6 (C : zC p s m args meth c cc nL own D dA) {index i : Nat} {v : Int32} {host : String} (hl : Cond.fieldLinkNest own index (F_Ce 1).1 (F_Ce 1).2.1 (F_Ce 1).2.2.1 host ∈ zN) (hi : i < 40) (hna : narrow .int (.int v) = .int v) (hfit : fits .int (.int v) = true) (hd : decode cc pc = .ok (.putfield index, 3)) (k : zz p l e R s m args below meth c D (xA lo) nL Q (xw dA lo (z_up σ 6 i 0 v)) n kc ks (pc + 3) lv st) : zz p l e R s m args below meth c D (xA lo) nL Q (xw dA lo σ) n kc ks pc lv (.int v :: .ref (xa7 lo i) :: st) :=
  zz_putN C (ci := 1) (N := 4) 1 rfl zi_Ce t_Ce t_Ce_ok n_Ce (by decide) hl rfl rfl hna hfit (Nat.le_of_ble_eq_true rfl) (xw_7 hi) (xA_7 hi) hd (zz_mono (xu_6 hi) k)
theorem xo_7 {dA : Nat → ClassId} {lo i j κ i' : Nat} {σ : zS} {v : Int32} (h : ¬ (κ = 7 ∧ i' = i)) : xe dA lo (z_up σ 7 i j v) κ i' = xe dA lo σ κ i' := by
  unfold xe
  split <;> simp_all [z_up]
theorem xu_7 {dA : Nat → ClassId} {lo i : Nat} {σ : zS} {v : Int32} (hi : i < 40) : ∀ (q : Nat) (e : va_E), xw dA lo (z_up σ 7 i 0 v) q = some e → va_up (xw dA lo σ) (xa7 lo i) (some (.inr (1, [.ref (xa8 lo i), .int (σ 6 i 0), .int v, .int (σ 8 i 0)]))) q = some e := by
  intro q e h
  by_cases hq : q = xa7 lo i
  · subst hq
    rw [xw_7 hi] at h
    rw [va_up_self, ← h]
    simp [z_up]
  · rw [va_up_ne _ _ hq, ← h]
    unfold xw
    rw [xo_7]
    intro hk
    exact hq (xk_i7 (Prod.ext hk.1 hk.2)).1
theorem xp_7 (C : zC p s m args meth c cc nL own D dA) {index i : Nat} {v : Int32} (hl : Cond.fieldLink own index (F_Ce 2).1 (F_Ce 2).2.1 (F_Ce 2).2.2.1 ∈ zT) (hi : i < 40) (hna : narrow .int (.int v) = .int v) (hfit : fits .int (.int v) = true) (hd : decode cc pc = .ok (.putfield index, 3)) (k : zz p l e R s m args below meth c D (xA lo) nL Q (xw dA lo (z_up σ 7 i 0 v)) n kc ks (pc + 3) lv st) : zz p l e R s m args below meth c D (xA lo) nL Q (xw dA lo σ) n kc ks pc lv (.int v :: .ref (xa7 lo i) :: st) :=
  zz_put C (ci := 1) (N := 4) 2 rfl zi_Ce t_Ce t_Ce_ok n_Ce (by decide) hl rfl rfl hna hfit (Nat.le_of_ble_eq_true rfl) (xw_7 hi) (xA_7 hi) hd (zz_mono (xu_7 hi) k)
theorem xpN_7 (C : zC p s m args meth c cc nL own D dA) {index i : Nat} {v : Int32} {host : String} (hl : Cond.fieldLinkNest own index (F_Ce 2).1 (F_Ce 2).2.1 (F_Ce 2).2.2.1 host ∈ zN) (hi : i < 40) (hna : narrow .int (.int v) = .int v) (hfit : fits .int (.int v) = true) (hd : decode cc pc = .ok (.putfield index, 3)) (k : zz p l e R s m args below meth c D (xA lo) nL Q (xw dA lo (z_up σ 7 i 0 v)) n kc ks (pc + 3) lv st) : zz p l e R s m args below meth c D (xA lo) nL Q (xw dA lo σ) n kc ks pc lv (.int v :: .ref (xa7 lo i) :: st) :=
  zz_putN C (ci := 1) (N := 4) 2 rfl zi_Ce t_Ce t_Ce_ok n_Ce (by decide) hl rfl rfl hna hfit (Nat.le_of_ble_eq_true rfl) (xw_7 hi) (xA_7 hi) hd (zz_mono (xu_7 hi) k)
theorem xo_8 {dA : Nat → ClassId} {lo i j κ i' : Nat} {σ : zS} {v : Int32} (h : ¬ (κ = 7 ∧ i' = i)) : xe dA lo (z_up σ 8 i j v) κ i' = xe dA lo σ κ i' := by
  unfold xe
  split <;> simp_all [z_up]
theorem xu_8 {dA : Nat → ClassId} {lo i : Nat} {σ : zS} {v : Int32} (hi : i < 40) : ∀ (q : Nat) (e : va_E), xw dA lo (z_up σ 8 i 0 v) q = some e → va_up (xw dA lo σ) (xa7 lo i) (some (.inr (1, [.ref (xa8 lo i), .int (σ 6 i 0), .int (σ 7 i 0), .int v]))) q = some e := by
  intro q e h
  by_cases hq : q = xa7 lo i
  · subst hq
    rw [xw_7 hi] at h
    rw [va_up_self, ← h]
    simp [z_up]
  · rw [va_up_ne _ _ hq, ← h]
    unfold xw
    rw [xo_8]
    intro hk
    exact hq (xk_i7 (Prod.ext hk.1 hk.2)).1
theorem xp_8 (C : zC p s m args meth c cc nL own D dA) {index i : Nat} {v : Int32} (hl : Cond.fieldLink own index (F_Ce 3).1 (F_Ce 3).2.1 (F_Ce 3).2.2.1 ∈ zT) (hi : i < 40) (hna : narrow .boolean (.int v) = .int v) (hfit : fits .boolean (.int v) = true) (hd : decode cc pc = .ok (.putfield index, 3)) (k : zz p l e R s m args below meth c D (xA lo) nL Q (xw dA lo (z_up σ 8 i 0 v)) n kc ks (pc + 3) lv st) : zz p l e R s m args below meth c D (xA lo) nL Q (xw dA lo σ) n kc ks pc lv (.int v :: .ref (xa7 lo i) :: st) :=
  zz_put C (ci := 1) (N := 4) 3 rfl zi_Ce t_Ce t_Ce_ok n_Ce (by decide) hl rfl rfl hna hfit (Nat.le_of_ble_eq_true rfl) (xw_7 hi) (xA_7 hi) hd (zz_mono (xu_8 hi) k)
theorem xpN_8 (C : zC p s m args meth c cc nL own D dA) {index i : Nat} {v : Int32} {host : String} (hl : Cond.fieldLinkNest own index (F_Ce 3).1 (F_Ce 3).2.1 (F_Ce 3).2.2.1 host ∈ zN) (hi : i < 40) (hna : narrow .boolean (.int v) = .int v) (hfit : fits .boolean (.int v) = true) (hd : decode cc pc = .ok (.putfield index, 3)) (k : zz p l e R s m args below meth c D (xA lo) nL Q (xw dA lo (z_up σ 8 i 0 v)) n kc ks (pc + 3) lv st) : zz p l e R s m args below meth c D (xA lo) nL Q (xw dA lo σ) n kc ks pc lv (.int v :: .ref (xa7 lo i) :: st) :=
  zz_putN C (ci := 1) (N := 4) 3 rfl zi_Ce t_Ce t_Ce_ok n_Ce (by decide) hl rfl rfl hna hfit (Nat.le_of_ble_eq_true rfl) (xw_7 hi) (xA_7 hi) hd (zz_mono (xu_8 hi) k)
theorem xo_5 {dA : Nat → ClassId} {lo i j κ i' : Nat} {σ : zS} {v : Int32} (h : ¬ (κ = 8 ∧ i' = i)) : xe dA lo (z_up σ 5 i j v) κ i' = xe dA lo σ κ i' := by
  unfold xe
  split <;> simp_all [z_up]
theorem xu_5 {dA : Nat → ClassId} {lo i j : Nat} {σ : zS} {v : Int32} (hi : i < 40) : ∀ (q : Nat) (e : va_E), xw dA lo (z_up σ 5 i j v) q = some e → va_up (xw dA lo σ) (xa8 lo i) (some (.inl (dA 0, 4, .inl (upd (fun j => σ 5 i j) j v)))) q = some e := by
  intro q e h
  by_cases hq : q = xa8 lo i
  · subst hq
    rw [xw_8 hi] at h
    rw [va_up_self, ← h]
    refine congrArg some (congrArg Sum.inl (congrArg (Prod.mk _) (congrArg (Prod.mk _) (congrArg Sum.inl (funext fun j' => ?_)))))
    simp [z_up, upd]
  · rw [va_up_ne _ _ hq, ← h]
    unfold xw
    rw [xo_5]
    intro hk
    exact hq (xk_i8 (Prod.ext hk.1 hk.2)).1
theorem xs_5 (C : zC p s m args meth c cc nL own D dA) {i : Nat} {j v : Int32} (hi : i < 40) (hj : vp_in j 4) (hd : decode cc pc = .ok (.iastore, 1)) (k : zz p l e R s m args below meth c D (xA lo) nL Q (xw dA lo (z_up σ 5 i j.toNatClampNeg v)) n kc ks (pc + 1) lv st) : zz p l e R s m args below meth c D (xA lo) nL Q (xw dA lo σ) n kc ks pc lv (.int v :: .int j :: .ref (xa8 lo i) :: st) :=
  zz_iast C (t0 := 0) rfl (xw_8 hi) (xA_8 hi) hj hd (zz_mono (xu_5 hi) k)
theorem xo_12 {dA : Nat → ClassId} {lo i j κ i' : Nat} {σ : zS} {v : Int32} (h : ¬ (κ = 9 ∧ i' = i)) : xe dA lo (z_up σ 12 i j v) κ i' = xe dA lo σ κ i' := by
  unfold xe
  split <;> simp_all [z_up]
theorem xu_12 {dA : Nat → ClassId} {lo i : Nat} {σ : zS} {v : Int32} (hi : i < 4) : ∀ (q : Nat) (e : va_E), xw dA lo (z_up σ 12 i 0 v) q = some e → va_up (xw dA lo σ) (xa9 lo i) (some (.inr (2, [.ref (xa10 lo i), .ref (xa11 lo i), .ref (xa12 lo i), .int v, .int (σ 13 i 0)]))) q = some e := by
  intro q e h
  by_cases hq : q = xa9 lo i
  · subst hq
    rw [xw_9 hi] at h
    rw [va_up_self, ← h]
    simp [z_up]
  · rw [va_up_ne _ _ hq, ← h]
    unfold xw
    rw [xo_12]
    intro hk
    exact hq (xk_i9 (Prod.ext hk.1 hk.2)).1
theorem xp_12 (C : zC p s m args meth c cc nL own D dA) {index i : Nat} {v : Int32} (hl : Cond.fieldLink own index (F_Ro 3).1 (F_Ro 3).2.1 (F_Ro 3).2.2.1 ∈ zT) (hi : i < 4) (hna : narrow .int (.int v) = .int v) (hfit : fits .int (.int v) = true) (hd : decode cc pc = .ok (.putfield index, 3)) (k : zz p l e R s m args below meth c D (xA lo) nL Q (xw dA lo (z_up σ 12 i 0 v)) n kc ks (pc + 3) lv st) : zz p l e R s m args below meth c D (xA lo) nL Q (xw dA lo σ) n kc ks pc lv (.int v :: .ref (xa9 lo i) :: st) :=
  zz_put C (ci := 2) (N := 5) 3 rfl zi_Ro t_Ro t_Ro_ok n_Ro (by decide) hl rfl rfl hna hfit (Nat.le_of_ble_eq_true rfl) (xw_9 hi) (xA_9 hi) hd (zz_mono (xu_12 hi) k)
theorem xpN_12 (C : zC p s m args meth c cc nL own D dA) {index i : Nat} {v : Int32} {host : String} (hl : Cond.fieldLinkNest own index (F_Ro 3).1 (F_Ro 3).2.1 (F_Ro 3).2.2.1 host ∈ zN) (hi : i < 4) (hna : narrow .int (.int v) = .int v) (hfit : fits .int (.int v) = true) (hd : decode cc pc = .ok (.putfield index, 3)) (k : zz p l e R s m args below meth c D (xA lo) nL Q (xw dA lo (z_up σ 12 i 0 v)) n kc ks (pc + 3) lv st) : zz p l e R s m args below meth c D (xA lo) nL Q (xw dA lo σ) n kc ks pc lv (.int v :: .ref (xa9 lo i) :: st) :=
  zz_putN C (ci := 2) (N := 5) 3 rfl zi_Ro t_Ro t_Ro_ok n_Ro (by decide) hl rfl rfl hna hfit (Nat.le_of_ble_eq_true rfl) (xw_9 hi) (xA_9 hi) hd (zz_mono (xu_12 hi) k)
theorem xo_13 {dA : Nat → ClassId} {lo i j κ i' : Nat} {σ : zS} {v : Int32} (h : ¬ (κ = 9 ∧ i' = i)) : xe dA lo (z_up σ 13 i j v) κ i' = xe dA lo σ κ i' := by
  unfold xe
  split <;> simp_all [z_up]
theorem xu_13 {dA : Nat → ClassId} {lo i : Nat} {σ : zS} {v : Int32} (hi : i < 4) : ∀ (q : Nat) (e : va_E), xw dA lo (z_up σ 13 i 0 v) q = some e → va_up (xw dA lo σ) (xa9 lo i) (some (.inr (2, [.ref (xa10 lo i), .ref (xa11 lo i), .ref (xa12 lo i), .int (σ 12 i 0), .int v]))) q = some e := by
  intro q e h
  by_cases hq : q = xa9 lo i
  · subst hq
    rw [xw_9 hi] at h
    rw [va_up_self, ← h]
    simp [z_up]
  · rw [va_up_ne _ _ hq, ← h]
    unfold xw
    rw [xo_13]
    intro hk
    exact hq (xk_i9 (Prod.ext hk.1 hk.2)).1
theorem xp_13 (C : zC p s m args meth c cc nL own D dA) {index i : Nat} {v : Int32} (hl : Cond.fieldLink own index (F_Ro 4).1 (F_Ro 4).2.1 (F_Ro 4).2.2.1 ∈ zT) (hi : i < 4) (hna : narrow .boolean (.int v) = .int v) (hfit : fits .boolean (.int v) = true) (hd : decode cc pc = .ok (.putfield index, 3)) (k : zz p l e R s m args below meth c D (xA lo) nL Q (xw dA lo (z_up σ 13 i 0 v)) n kc ks (pc + 3) lv st) : zz p l e R s m args below meth c D (xA lo) nL Q (xw dA lo σ) n kc ks pc lv (.int v :: .ref (xa9 lo i) :: st) :=
  zz_put C (ci := 2) (N := 5) 4 rfl zi_Ro t_Ro t_Ro_ok n_Ro (by decide) hl rfl rfl hna hfit (Nat.le_of_ble_eq_true rfl) (xw_9 hi) (xA_9 hi) hd (zz_mono (xu_13 hi) k)
theorem xpN_13 (C : zC p s m args meth c cc nL own D dA) {index i : Nat} {v : Int32} {host : String} (hl : Cond.fieldLinkNest own index (F_Ro 4).1 (F_Ro 4).2.1 (F_Ro 4).2.2.1 host ∈ zN) (hi : i < 4) (hna : narrow .boolean (.int v) = .int v) (hfit : fits .boolean (.int v) = true) (hd : decode cc pc = .ok (.putfield index, 3)) (k : zz p l e R s m args below meth c D (xA lo) nL Q (xw dA lo (z_up σ 13 i 0 v)) n kc ks (pc + 3) lv st) : zz p l e R s m args below meth c D (xA lo) nL Q (xw dA lo σ) n kc ks pc lv (.int v :: .ref (xa9 lo i) :: st) :=
  zz_putN C (ci := 2) (N := 5) 4 rfl zi_Ro t_Ro t_Ro_ok n_Ro (by decide) hl rfl rfl hna hfit (Nat.le_of_ble_eq_true rfl) (xw_9 hi) (xA_9 hi) hd (zz_mono (xu_13 hi) k)
theorem xo_9 {dA : Nat → ClassId} {lo i j κ i' : Nat} {σ : zS} {v : Int32} (h : ¬ (κ = 10 ∧ i' = i)) : xe dA lo (z_up σ 9 i j v) κ i' = xe dA lo σ κ i' := by
  unfold xe
  split <;> simp_all [z_up]
theorem xu_9 {dA : Nat → ClassId} {lo i j : Nat} {σ : zS} {v : Int32} (hi : i < 4) : ∀ (q : Nat) (e : va_E), xw dA lo (z_up σ 9 i j v) q = some e → va_up (xw dA lo σ) (xa10 lo i) (some (.inl (dA 0, 12, .inl (upd (fun j => σ 9 i j) j v)))) q = some e := by
  intro q e h
  by_cases hq : q = xa10 lo i
  · subst hq
    rw [xw_10 hi] at h
    rw [va_up_self, ← h]
    refine congrArg some (congrArg Sum.inl (congrArg (Prod.mk _) (congrArg (Prod.mk _) (congrArg Sum.inl (funext fun j' => ?_)))))
    simp [z_up, upd]
  · rw [va_up_ne _ _ hq, ← h]
    unfold xw
    rw [xo_9]
    intro hk
    exact hq (xk_i10 (Prod.ext hk.1 hk.2)).1
theorem xs_9 (C : zC p s m args meth c cc nL own D dA) {i : Nat} {j v : Int32} (hi : i < 4) (hj : vp_in j 12) (hd : decode cc pc = .ok (.iastore, 1)) (k : zz p l e R s m args below meth c D (xA lo) nL Q (xw dA lo (z_up σ 9 i j.toNatClampNeg v)) n kc ks (pc + 1) lv st) : zz p l e R s m args below meth c D (xA lo) nL Q (xw dA lo σ) n kc ks pc lv (.int v :: .int j :: .ref (xa10 lo i) :: st) :=
  zz_iast C (t0 := 0) rfl (xw_10 hi) (xA_10 hi) hj hd (zz_mono (xu_9 hi) k)
theorem xo_10 {dA : Nat → ClassId} {lo i j κ i' : Nat} {σ : zS} {v : Int32} (h : ¬ (κ = 11 ∧ i' = i)) : xe dA lo (z_up σ 10 i j v) κ i' = xe dA lo σ κ i' := by
  unfold xe
  split <;> simp_all [z_up]
theorem xu_10 {dA : Nat → ClassId} {lo i j : Nat} {σ : zS} {v : Int32} (hi : i < 4) : ∀ (q : Nat) (e : va_E), xw dA lo (z_up σ 10 i j v) q = some e → va_up (xw dA lo σ) (xa11 lo i) (some (.inl (dA 0, 12, .inl (upd (fun j => σ 10 i j) j v)))) q = some e := by
  intro q e h
  by_cases hq : q = xa11 lo i
  · subst hq
    rw [xw_11 hi] at h
    rw [va_up_self, ← h]
    refine congrArg some (congrArg Sum.inl (congrArg (Prod.mk _) (congrArg (Prod.mk _) (congrArg Sum.inl (funext fun j' => ?_)))))
    simp [z_up, upd]
  · rw [va_up_ne _ _ hq, ← h]
    unfold xw
    rw [xo_10]
    intro hk
    exact hq (xk_i11 (Prod.ext hk.1 hk.2)).1
theorem xs_10 (C : zC p s m args meth c cc nL own D dA) {i : Nat} {j v : Int32} (hi : i < 4) (hj : vp_in j 12) (hd : decode cc pc = .ok (.iastore, 1)) (k : zz p l e R s m args below meth c D (xA lo) nL Q (xw dA lo (z_up σ 10 i j.toNatClampNeg v)) n kc ks (pc + 1) lv st) : zz p l e R s m args below meth c D (xA lo) nL Q (xw dA lo σ) n kc ks pc lv (.int v :: .int j :: .ref (xa11 lo i) :: st) :=
  zz_iast C (t0 := 0) rfl (xw_11 hi) (xA_11 hi) hj hd (zz_mono (xu_10 hi) k)
theorem xo_11 {dA : Nat → ClassId} {lo i j κ i' : Nat} {σ : zS} {v : Int32} (h : ¬ (κ = 12 ∧ i' = i)) : xe dA lo (z_up σ 11 i j v) κ i' = xe dA lo σ κ i' := by
  unfold xe
  split <;> simp_all [z_up]
theorem xu_11 {dA : Nat → ClassId} {lo i j : Nat} {σ : zS} {v : Int32} (hi : i < 4) : ∀ (q : Nat) (e : va_E), xw dA lo (z_up σ 11 i j v) q = some e → va_up (xw dA lo σ) (xa12 lo i) (some (.inl (dA 1, 12, .inl (upd (fun j => σ 11 i j) j v)))) q = some e := by
  intro q e h
  by_cases hq : q = xa12 lo i
  · subst hq
    rw [xw_12 hi] at h
    rw [va_up_self, ← h]
    refine congrArg some (congrArg Sum.inl (congrArg (Prod.mk _) (congrArg (Prod.mk _) (congrArg Sum.inl (funext fun j' => ?_)))))
    simp [z_up, upd]
  · rw [va_up_ne _ _ hq, ← h]
    unfold xw
    rw [xo_11]
    intro hk
    exact hq (xk_i12 (Prod.ext hk.1 hk.2)).1
theorem xs_11 (C : zC p s m args meth c cc nL own D dA) {i : Nat} {j v : Int32} (hi : i < 4) (hj : vp_in j 12) (hd : decode cc pc = .ok (.bastore, 1)) (k : zz p l e R s m args below meth c D (xA lo) nL Q (xw dA lo (z_up σ 11 i j.toNatClampNeg (vp_nar .boolean v))) n kc ks (pc + 1) lv st) : zz p l e R s m args below meth c D (xA lo) nL Q (xw dA lo σ) n kc ks pc lv (.int v :: .int j :: .ref (xa12 lo i) :: st) :=
  zz_zast C (t0 := 1) rfl (xw_12 hi) (xA_12 hi) hj hd (zz_mono (xu_11 hi) k)
abbrev xZ (p : Program) (l : Launch) (e : Env) (K : Nat) (s : State) (m : MethodId) (args : Array Value) (below : List Frame) (meth : Method) (c : Code) (D : va_G) (dA : Nat → ClassId) (lo nL n : Nat) (r : Option Value) (σ' σ : zS) (pc : Nat) (lv : zL) (st : List Value) : Prop := zz p l e (zR K) s m args below meth c D (xA lo) nL (MQ below (zQ D (xA lo) r (xw dA lo σ') n) args s 0 0 (xA lo)) (xw dA lo σ) n 0 0 pc lv st
abbrev xM (l : Launch) (y : MethodName) (bytes : ByteArray) (maxL : Nat) (ret : Option FieldType) (K : Nat) (D : va_G) (dA : Nat → ClassId) (lo n : Nat) (av : List Value) (σ : zS) (r : Option Value) (σ' : zS) : Prop := zM l y bytes maxL ret (zR K) D dA (xA lo) av (xw dA lo σ) n r (xw dA lo σ') n 0 0
theorem xc_Vi (C : zC p s m args meth c cc nL own D dA) {y : MethodName} {bytes : ByteArray} {maxL K K' : Nat} {ret : Option FieldType} {As rest st0 : List Value} {b ci N idx na : Nat} {v : Int32} {fs : List Value} {T : u_T} {σ' : zS} (hrc : xw dA lo σ b = some (.inr (ci, fs))) (hcl : classes[ci]? = some (y.cls, T, N)) (site : zSiteV own idx y na) (hM : xM l y bytes maxL ret K D dA lo n (.ref b :: As) σ (some (.int v)) σ') (hst : st0 = As.reverse ++ .ref b :: rest) (hna : As.length = na) (hd : decode cc pc = .ok (.invokevirtual idx, 3)) (hcode : Cond.code y bytes maxL ret ∈ zT) (hK : K + 1 ≤ K' ∧ maxL ≤ 21) (hcat : Nat.ble (rest.map fun v => v.category).sum 8 = true) (k : zz p l e (zR K') s m args below meth c D (xA lo) nL Q (xw dA lo σ') n 0 0 (pc + 3) lv (.int v :: rest)) : zz p l e (zR K') s m args below meth c D (xA lo) nL Q (xw dA lo σ) n 0 0 pc lv st0 :=
  zz_callVi (host := "") C hrc hcl site hM hst hna hd hcode (fun _ _ h => h) (fun _ h => h) (fun _ _ h => Or.inl h) ⟨rfl, rfl⟩ (zR_le hK) ⟨Nat.le_refl _, Nat.le_refl _⟩ (Nat.le_of_ble_eq_true hcat) k
theorem xc_Vv (C : zC p s m args meth c cc nL own D dA) {y : MethodName} {bytes : ByteArray} {maxL K K' : Nat} {ret : Option FieldType} {As rest st0 : List Value} {b ci N idx na : Nat} {fs : List Value} {T : u_T} {σ' : zS} (hrc : xw dA lo σ b = some (.inr (ci, fs))) (hcl : classes[ci]? = some (y.cls, T, N)) (site : zSiteV own idx y na) (hM : xM l y bytes maxL ret K D dA lo n (.ref b :: As) σ none σ') (hst : st0 = As.reverse ++ .ref b :: rest) (hna : As.length = na) (hd : decode cc pc = .ok (.invokevirtual idx, 3)) (hcode : Cond.code y bytes maxL ret ∈ zT) (hK : K + 1 ≤ K' ∧ maxL ≤ 21) (hcat : Nat.ble (rest.map fun v => v.category).sum 8 = true) (k : zz p l e (zR K') s m args below meth c D (xA lo) nL Q (xw dA lo σ') n 0 0 (pc + 3) lv rest) : zz p l e (zR K') s m args below meth c D (xA lo) nL Q (xw dA lo σ) n 0 0 pc lv st0 :=
  zz_callVv (host := "") (x := 0) C hrc hcl site hM hst hna hd hcode (fun _ _ h => h) (fun _ h => h) (fun _ _ h => Or.inl h) ⟨rfl, rfl⟩ (zR_le hK) ⟨Nat.le_refl _, Nat.le_refl _⟩ (Nat.le_of_ble_eq_true hcat) k
theorem xc_VNi (C : zC p s m args meth c cc nL own D dA) {y : MethodName} {bytes : ByteArray} {maxL K K' : Nat} {ret : Option FieldType} {As rest st0 : List Value} {b ci N idx na : Nat} {v : Int32} {fs : List Value} {T : u_T} {σ' : zS} {host : String} (hrc : xw dA lo σ b = some (.inr (ci, fs))) (hcl : classes[ci]? = some (y.cls, T, N)) (site : zSiteVN own idx y host na) (hM : xM l y bytes maxL ret K D dA lo n (.ref b :: As) σ (some (.int v)) σ') (hst : st0 = As.reverse ++ .ref b :: rest) (hna : As.length = na) (hd : decode cc pc = .ok (.invokevirtual idx, 3)) (hcode : Cond.code y bytes maxL ret ∈ zT) (hK : K + 1 ≤ K' ∧ maxL ≤ 21) (hcat : Nat.ble (rest.map fun v => v.category).sum 8 = true) (k : zz p l e (zR K') s m args below meth c D (xA lo) nL Q (xw dA lo σ') n 0 0 (pc + 3) lv (.int v :: rest)) : zz p l e (zR K') s m args below meth c D (xA lo) nL Q (xw dA lo σ) n 0 0 pc lv st0 :=
  zz_callVNi C hrc hcl site hM hst hna hd hcode (fun _ _ h => h) (fun _ h => h) (fun _ _ h => Or.inl h) ⟨rfl, rfl⟩ (zR_le hK) ⟨Nat.le_refl _, Nat.le_refl _⟩ (Nat.le_of_ble_eq_true hcat) k
theorem xc_VNv (C : zC p s m args meth c cc nL own D dA) {y : MethodName} {bytes : ByteArray} {maxL K K' : Nat} {ret : Option FieldType} {As rest st0 : List Value} {b ci N idx na : Nat} {fs : List Value} {T : u_T} {σ' : zS} {host : String} (hrc : xw dA lo σ b = some (.inr (ci, fs))) (hcl : classes[ci]? = some (y.cls, T, N)) (site : zSiteVN own idx y host na) (hM : xM l y bytes maxL ret K D dA lo n (.ref b :: As) σ none σ') (hst : st0 = As.reverse ++ .ref b :: rest) (hna : As.length = na) (hd : decode cc pc = .ok (.invokevirtual idx, 3)) (hcode : Cond.code y bytes maxL ret ∈ zT) (hK : K + 1 ≤ K' ∧ maxL ≤ 21) (hcat : Nat.ble (rest.map fun v => v.category).sum 8 = true) (k : zz p l e (zR K') s m args below meth c D (xA lo) nL Q (xw dA lo σ') n 0 0 (pc + 3) lv rest) : zz p l e (zR K') s m args below meth c D (xA lo) nL Q (xw dA lo σ) n 0 0 pc lv st0 :=
  zz_callVNv (x := 0) C hrc hcl site hM hst hna hd hcode (fun _ _ h => h) (fun _ h => h) (fun _ _ h => Or.inl h) ⟨rfl, rfl⟩ (zR_le hK) ⟨Nat.le_refl _, Nat.le_refl _⟩ (Nat.le_of_ble_eq_true hcat) k
theorem xc_Si (C : zC p s m args meth c cc nL own D dA) {y : MethodName} {bytes : ByteArray} {maxL K K' : Nat} {ret : Option FieldType} {As rest st0 : List Value} {idx na : Nat} {v : Int32} {σ' : zS} (site : zSiteS own idx y na) (hM : xM l y bytes maxL ret K D dA lo n As σ (some (.int v)) σ') (hst : st0 = As.reverse ++ rest) (hna : As.length = na) (hd : decode cc pc = .ok (.invokestatic idx, 3)) (hcode : Cond.code y bytes maxL ret ∈ zT) (hK : K + 1 ≤ K' ∧ maxL ≤ 21) (hcat : Nat.ble (rest.map fun v => v.category).sum 8 = true) (k : zz p l e (zR K') s m args below meth c D (xA lo) nL Q (xw dA lo σ') n 0 0 (pc + 3) lv (.int v :: rest)) : zz p l e (zR K') s m args below meth c D (xA lo) nL Q (xw dA lo σ) n 0 0 pc lv st0 :=
  zz_callSi (b := 0) (host := "") C site hM hst hna hd hcode (fun _ _ h => h) (fun _ h => h) (fun _ _ h => Or.inl h) ⟨rfl, rfl⟩ (zR_le hK) ⟨Nat.le_refl _, Nat.le_refl _⟩ (Nat.le_of_ble_eq_true hcat) k
theorem xc_Sv (C : zC p s m args meth c cc nL own D dA) {y : MethodName} {bytes : ByteArray} {maxL K K' : Nat} {ret : Option FieldType} {As rest st0 : List Value} {idx na : Nat} {σ' : zS} (site : zSiteS own idx y na) (hM : xM l y bytes maxL ret K D dA lo n As σ none σ') (hst : st0 = As.reverse ++ rest) (hna : As.length = na) (hd : decode cc pc = .ok (.invokestatic idx, 3)) (hcode : Cond.code y bytes maxL ret ∈ zT) (hK : K + 1 ≤ K' ∧ maxL ≤ 21) (hcat : Nat.ble (rest.map fun v => v.category).sum 8 = true) (k : zz p l e (zR K') s m args below meth c D (xA lo) nL Q (xw dA lo σ') n 0 0 (pc + 3) lv rest) : zz p l e (zR K') s m args below meth c D (xA lo) nL Q (xw dA lo σ) n 0 0 pc lv st0 :=
  zz_callSv (b := 0) (host := "") (x := 0) C site hM hst hna hd hcode (fun _ _ h => h) (fun _ h => h) (fun _ _ h => Or.inl h) ⟨rfl, rfl⟩ (zR_le hK) ⟨Nat.le_refl _, Nat.le_refl _⟩ (Nat.le_of_ble_eq_true hcat) k
theorem xr_i (C : zC p s m args meth c cc nL own D dA) {ty : FieldType} {a b : Int32} {σ' : zS} (hr : meth.sig.returnType = some ty) (hna : narrow ty (.int a) = .int a) (hd : decode cc pc = .ok (.ireturn, 1)) (hx : a = b) (hσ : σ = σ') : zz p l e R s m args below meth c D (xA lo) nL (MQ below (zQ D (xA lo) (some (.int b)) (xw dA lo σ') n) args s 0 0 (xA lo)) (xw dA lo σ) n 0 0 pc lv [.int a] :=
  zz_iret C hr hna hd (Nat.le_refl _) (Nat.le_refl _) rfl hx (by rw [hσ]; exact fun _ _ h => h)
theorem xr_v (C : zC p s m args meth c cc nL own D dA) {σ' : zS} (hr : meth.sig.returnType = none) (hd : decode cc pc = .ok (.return_, 1)) (hσ : σ = σ') : zz p l e R s m args below meth c D (xA lo) nL (MQ below (zQ D (xA lo) none (xw dA lo σ') n) args s 0 0 (xA lo)) (xw dA lo σ) n 0 0 pc lv [] :=
  zz_vret C hr hd (Nat.le_refl _) (Nat.le_refl _) rfl (by rw [hσ]; exact fun _ _ h => h)
end XL
end
section
theorem z_nge {iv M : Int32} {i N : Nat} (hiv : iv = nI i) (hM : M = nI N) (h : i < N) (hN : N < 2 ^ 31) : ¬ M ≤ iv := by
  rw [hiv, hM]
  exact nI_ge h hN
theorem z_ge {iv M : Int32} {i N : Nat} (hiv : iv = nI i) (hM : M = nI N) (h : N ≤ i) (hi : i < 2 ^ 31) : M ≤ iv := by
  rw [hiv, hM]
  exact nI_le h hi
theorem z_vinI {iv : Int32} {i N : Nat} (hiv : iv = nI i) (h : i < N) (hN : N < 2 ^ 31) : vp_in iv N := by
  rw [hiv]
  exact vp_in_nI h hN
theorem z_ixI {iv : Int32} {i : Nat} (hiv : iv = nI i) (h : i < 2 ^ 31) : z_ix iv = i := by
  rw [hiv]
  exact nI_clamp h
theorem z_sI {iv : Int32} {i : Nat} (hiv : iv = nI i) : iv + 1 = nI (i + 1) := by
  rw [hiv]
  exact nI_1 i
theorem x_top_o {σ : zS} {t : Nat} (I : xI σ) (ht : t < 4) : z_o 12 (xf_top σ t) := by
  obtain ⟨j, hj, e⟩ := vp_in_of (I.2.2.2.2.2.1 t ht) (by decide)
  unfold xf_top
  rw [e]
  cases j with
  | zero => exact Or.inl (by decide)
  | succ j =>
    rw [nI_pred]
    exact Or.inr (vp_in_nI (by omega) (by decide))
theorem x_top_in {σ : zS} {t : Nat} (I : xI σ) (ht : t < 4) (h : ¬ σ 12 t 0 ≤ 0) : vp_in (xf_top σ t) 12 := by
  obtain ⟨j, hj, e⟩ := vp_in_of (I.2.2.2.2.2.1 t ht) (by decide)
  unfold xf_top
  rw [e] at h ⊢
  cases j with
  | zero => exact absurd (by decide) h
  | succ j =>
    rw [nI_pred]
    exact vp_in_nI (by omega) (by decide)
theorem x_len_in {σ : zS} {t : Nat} (I : xI σ) (ht : t < 4) (h : xf_isFull σ t = 0) : vp_in (σ 12 t 0) 12 := by
  have h1 := I.2.2.2.2.2.1 t ht
  unfold xf_isFull at h
  have h2 : σ 12 t 0 < 12 := by
    by_cases q : σ 12 t 0 < 12
    · exact q
    · rw [if_neg q] at h
      exact absurd h (by decide)
  rw [vp_in_iff] at h1 ⊢
  rw [Int32.lt_iff_toInt_lt] at h2
  have : (12 : Int32).toInt = 12 := rfl
  omega
theorem x_fw_o {σ : zS} {t : Nat} {a : Int32} (I : xI σ) (ht : t < 4) : ∀ (k : Nat) (step : Int32), z_o 12 step → z_o 12 (xf_fw σ t a k step) := by
  intro k
  induction k with
  | zero => intro step _; exact Or.inl rfl
  | succ k ih =>
    intro step hs
    unfold xf_fw
    split
    · exact Or.inl rfl
    · rename_i h1
      split
      · exact hs
      · exact ih _ (I.2.2.2.2.2.2.1 t ht _ (z_vlt (z_ovin hs h1)))
theorem x_firstWith_o {σ : zS} {t : Nat} {a : Int32} (I : xI σ) (ht : t < 4) : z_o 12 (xf_firstWith σ t a) := x_fw_o I ht 12 _ (x_top_o I ht)
theorem x_av_o {σ : zS} {t : Nat} (I : xI σ) (ht : t < 4) : ∀ (k d : Nat) (step : Int32), z_o 12 step → z_o 12 (xf_av σ t k d step) := by
  intro k
  induction k with
  | zero => intro d step hs; exact hs
  | succ k ih =>
    intro d step hs
    cases d with
    | zero => exact hs
    | succ d =>
      unfold xf_av
      split
      · exact hs
      · rename_i h1
        exact ih _ _ (I.2.2.2.2.2.2.1 t ht _ (z_vlt (z_ovin hs h1)))
theorem x_av_d {σ : zS} {t k i : Nat} {d step iv : Int32} (hd : ¬ d < 0) (hiv : iv = nI i) (h : d ≤ iv) (hi : i < 2 ^ 31 := by omega) : xf_av σ t (k + 1) (z_ix d - i) step = step := by
  obtain ⟨j, hj, rfl⟩ := nI_of hd
  rw [hiv] at h
  have h1 : j ≤ i := (nI_leI hj hi).mp h
  rw [show z_ix (nI j) = j from nI_clamp hj, show j - i = 0 by omega]
  rfl
theorem x_av_s {i : Nat} {d iv : Int32} (hd : ¬ d < 0) (hiv : iv = nI i) (h : ¬ d ≤ iv) (hi : i < 2 ^ 31) : ∃ q, z_ix d - i = q + 1 := by
  obtain ⟨j, hj, rfl⟩ := nI_of hd
  rw [hiv] at h
  have h1 : ¬ j ≤ i := fun q => h ((nI_leI hj hi).mpr q)
  rw [show z_ix (nI j) = j from nI_clamp hj]
  exact ⟨j - i - 1, by omega⟩
end
section
set_option maxHeartbeats 400000 in
set_option maxRecDepth 100000 in
theorem c_Ro_top {l : Launch} {D : va_G} {dA : Nat → ClassId} {lo n : Nat} {σ : zS} {t : Nat} (ht : t < 4) : xM l y_Ro_top b_Ro_top 1 (some .int) 0 D dA lo n [.ref (xa9 lo t)] σ (some (.int (xf_top σ t))) σ := by
  refine zM_of (lv0 := [(0, .ref (xa9 lo t))]) (by decide) rfl rfl rfl ?_
  intro p e s m below meth c C hr hnm hsz
  have C : zC p s m ([.ref (xa9 lo t)] : List Value).toArray meth c b_Ro_top 1 R_Ro D dA := C
  refine zz_aload_n C d_Ro_top_0 rfl ?_
  refine zz_get C (ci := 2) (N := 5) 3 rfl zi_Ro (by decide) fl_Ro_22 (xw_9 ht) rfl d_Ro_top_1 ?_
  refine zz_iconst (x := 1) C d_Ro_top_4 rfl ?_
  refine zz_isub C d_Ro_top_5 ?_
  exact xr_i C hr rfl d_Ro_top_6 (by first | rfl | simp [xf_top, z_at]) rfl
set_option maxHeartbeats 400000 in
set_option maxRecDepth 100000 in
theorem c_Ro_isFull {l : Launch} {D : va_G} {dA : Nat → ClassId} {lo n : Nat} {σ : zS} {t : Nat} (ht : t < 4) : xM l y_Ro_isFull b_Ro_isFull 1 (some .boolean) 0 D dA lo n [.ref (xa9 lo t)] σ (some (.int (xf_isFull σ t))) σ := by
  refine zM_of (lv0 := [(0, .ref (xa9 lo t))]) (by decide) rfl rfl rfl ?_
  intro p e s m below meth c C hr hnm hsz
  have C : zC p s m ([.ref (xa9 lo t)] : List Value).toArray meth c b_Ro_isFull 1 R_Ro D dA := C
  refine zz_aload_n C d_Ro_isFull_0 rfl ?_
  refine zz_get C (ci := 2) (N := 5) 3 rfl zi_Ro (by decide) fl_Ro_22 (xw_9 ht) rfl d_Ro_isFull_1 ?_
  refine zz_bipush (x := 12) C d_Ro_isFull_4 rfl ?_
  refine zz_icmp_lt (tgt := 13) C d_Ro_isFull_6 (by decide) (fun h6 => ?_) (fun h6 => ?_)
  · refine zz_iconst (x := 0) C d_Ro_isFull_13 rfl ?_
    exact xr_i C hr rfl d_Ro_isFull_14 (by simp only [xf_isFull, if_pos h6] <;> simp [xf_isFull, z_at]) rfl
  · refine zz_iconst (x := 1) C d_Ro_isFull_9 rfl ?_
    refine zz_goto (tgt := 14) C d_Ro_isFull_10 (by decide) ?_
    exact xr_i C hr rfl d_Ro_isFull_14 (by simp only [xf_isFull, if_neg h6] <;> simp [xf_isFull, z_at]) rfl
set_option maxHeartbeats 400000 in
set_option maxRecDepth 100000 in
theorem c_Ro_currentArea {l : Launch} {D : va_G} {dA : Nat → ClassId} {lo n : Nat} {σ : zS} {t : Nat} (ht : t < 4) (hL : vp_in (xf_top σ t) 12) : xM l y_Ro_currentArea b_Ro_currentArea 1 (some .int) 1 D dA lo n [.ref (xa9 lo t)] σ (some (.int (xf_currentArea σ t))) σ := by
  refine zM_of (lv0 := [(0, .ref (xa9 lo t))]) (by decide) rfl rfl rfl ?_
  intro p e s m below meth c C hr hnm hsz
  have C : zC p s m ([.ref (xa9 lo t)] : List Value).toArray meth c b_Ro_currentArea 1 R_Ro D dA := C
  refine zz_aload_n C d_Ro_currentArea_0 rfl ?_
  refine zz_get C (ci := 2) (N := 5) 0 rfl zi_Ro (by decide) fl_Ro_9 (xw_9 ht) rfl d_Ro_currentArea_1 ?_
  refine zz_aload_n C d_Ro_currentArea_4 rfl ?_
  refine xc_Vi C (xw_9 ht) rfl s_Ro_26 (c_Ro_top ht) rfl rfl d_Ro_currentArea_5 k_Ro_top ⟨by decide, by decide⟩ rfl ?_
  refine zz_iald C (t0 := 0) rfl (xw_10 ht) hL d_Ro_currentArea_8 ?_
  exact xr_i C hr rfl d_Ro_currentArea_9 (by first | rfl | simp [xf_currentArea, z_at]) rfl
set_option maxHeartbeats 400000 in
set_option maxRecDepth 100000 in
theorem c_Ro_topWasEntered {l : Launch} {D : va_G} {dA : Nat → ClassId} {lo n : Nat} {σ : zS} {t : Nat} (ht : t < 4) (I : xI σ) (hL : vp_in (xf_top σ t) 12) : xM l y_Ro_topWasEntered b_Ro_topWasEntered 1 (some .boolean) 1 D dA lo n [.ref (xa9 lo t)] σ (some (.int (xf_topWasEntered σ t))) σ := by
  refine zM_of (lv0 := [(0, .ref (xa9 lo t))]) (by decide) rfl rfl rfl ?_
  intro p e s m below meth c C hr hnm hsz
  have C : zC p s m ([.ref (xa9 lo t)] : List Value).toArray meth c b_Ro_topWasEntered 1 R_Ro D dA := C
  refine zz_aload_n C d_Ro_topWasEntered_0 rfl ?_
  refine zz_get C (ci := 2) (N := 5) 2 rfl zi_Ro (by decide) fl_Ro_18 (xw_9 ht) rfl d_Ro_topWasEntered_1 ?_
  refine zz_aload_n C d_Ro_topWasEntered_4 rfl ?_
  refine xc_Vi C (xw_9 ht) rfl s_Ro_26 (c_Ro_top ht) rfl rfl d_Ro_topWasEntered_5 k_Ro_top ⟨by decide, by decide⟩ rfl ?_
  refine zz_zald C (t0 := 1) rfl (xw_12 ht) hL d_Ro_topWasEntered_8 ?_
  exact xr_i C hr (I.2.2.2.2.2.2.2.2.2 t ht _ (z_vlt hL)) d_Ro_topWasEntered_9 (by first | rfl | simp [xf_topWasEntered, z_at]) rfl
set_option maxHeartbeats 400000 in
set_option maxRecDepth 100000 in
theorem c_Ro_push {l : Launch} {D : va_G} {dA : Nat → ClassId} {lo n : Nat} {σ : zS} {t : Nat} {a u b : Int32} (ht : t < 4) (hL : vp_in (σ 12 t 0) 12) : xM l y_Ro_push b_Ro_push 4 none 0 D dA lo n [.ref (xa9 lo t), .int a, .int u, .int b] σ none (xf_push σ t a u b) := by
  refine zM_of (lv0 := [(0, .ref (xa9 lo t)), (1, .int a), (2, .int u), (3, .int b)]) (by decide) rfl rfl rfl ?_
  intro p e s m below meth c C hr hnm hsz
  have C : zC p s m ([.ref (xa9 lo t), .int a, .int u, .int b] : List Value).toArray meth c b_Ro_push 4 R_Ro D dA := C
  refine zz_aload_n C d_Ro_push_0 rfl ?_
  refine zz_get C (ci := 2) (N := 5) 0 rfl zi_Ro (by decide) fl_Ro_9 (xw_9 ht) rfl d_Ro_push_1 ?_
  refine zz_aload_n C d_Ro_push_4 rfl ?_
  refine zz_get C (ci := 2) (N := 5) 3 rfl zi_Ro (by decide) fl_Ro_22 (xw_9 ht) rfl d_Ro_push_5 ?_
  refine zz_iload_n C d_Ro_push_8 rfl ?_
  refine xs_9 C ht hL d_Ro_push_9 ?_
  refine zz_aload_n C d_Ro_push_10 rfl ?_
  refine zz_get C (ci := 2) (N := 5) 1 rfl zi_Ro (by decide) fl_Ro_15 (xw_9 ht) rfl d_Ro_push_11 ?_
  refine zz_aload_n C d_Ro_push_14 rfl ?_
  refine zz_get C (ci := 2) (N := 5) 3 rfl zi_Ro (by decide) fl_Ro_22 (xw_9 ht) rfl d_Ro_push_15 ?_
  refine zz_iload_n C d_Ro_push_18 rfl ?_
  refine xs_10 C ht hL d_Ro_push_19 ?_
  refine zz_aload_n C d_Ro_push_20 rfl ?_
  refine zz_get C (ci := 2) (N := 5) 2 rfl zi_Ro (by decide) fl_Ro_18 (xw_9 ht) rfl d_Ro_push_21 ?_
  refine zz_aload_n C d_Ro_push_24 rfl ?_
  refine zz_get C (ci := 2) (N := 5) 3 rfl zi_Ro (by decide) fl_Ro_22 (xw_9 ht) rfl d_Ro_push_25 ?_
  refine zz_iload_n C d_Ro_push_28 rfl ?_
  refine xs_11 C ht hL d_Ro_push_29 ?_
  refine zz_aload_n C d_Ro_push_30 rfl ?_
  refine zz_dup C d_Ro_push_31 rfl ?_
  refine zz_get C (ci := 2) (N := 5) 3 rfl zi_Ro (by decide) fl_Ro_22 (xw_9 ht) rfl d_Ro_push_32 ?_
  refine zz_iconst (x := 1) C d_Ro_push_35 rfl ?_
  refine zz_iadd C d_Ro_push_36 ?_
  refine xp_12 C fl_Ro_22 ht rfl rfl d_Ro_push_37 ?_
  exact xr_v C hr d_Ro_push_40 (by first | rfl | simp [xf_push, z_at])
set_option maxHeartbeats 400000 in
set_option maxRecDepth 100000 in
theorem c_Ro_pop {l : Launch} {D : va_G} {dA : Nat → ClassId} {lo n : Nat} {σ : zS} {t : Nat} (ht : t < 4) : xM l y_Ro_pop b_Ro_pop 1 none 0 D dA lo n [.ref (xa9 lo t)] σ none (xf_pop σ t) := by
  refine zM_of (lv0 := [(0, .ref (xa9 lo t))]) (by decide) rfl rfl rfl ?_
  intro p e s m below meth c C hr hnm hsz
  have C : zC p s m ([.ref (xa9 lo t)] : List Value).toArray meth c b_Ro_pop 1 R_Ro D dA := C
  refine zz_aload_n C d_Ro_pop_0 rfl ?_
  refine zz_dup C d_Ro_pop_1 rfl ?_
  refine zz_get C (ci := 2) (N := 5) 3 rfl zi_Ro (by decide) fl_Ro_22 (xw_9 ht) rfl d_Ro_pop_2 ?_
  refine zz_iconst (x := 1) C d_Ro_pop_5 rfl ?_
  refine zz_isub C d_Ro_pop_6 ?_
  refine xp_12 C fl_Ro_22 ht rfl rfl d_Ro_pop_7 ?_
  exact xr_v C hr d_Ro_pop_10 (by first | rfl | simp [xf_pop, z_at])
set_option maxHeartbeats 400000 in
set_option maxRecDepth 100000 in
theorem c_Ro_firstWith {l : Launch} {D : va_G} {dA : Nat → ClassId} {lo n : Nat} {σ : zS} {t : Nat} {a : Int32} (ht : t < 4) (I : xI σ) : xM l y_Ro_firstWith b_Ro_firstWith 4 (some .int) 1 D dA lo n [.ref (xa9 lo t), .int a] σ (some (.int (xf_firstWith σ t a))) σ := by
  refine zM_of (lv0 := [(0, .ref (xa9 lo t)), (1, .int a)]) (by decide) rfl rfl rfl ?_
  intro p e s m below meth c C hr hnm hsz
  have C : zC p s m ([.ref (xa9 lo t), .int a] : List Value).toArray meth c b_Ro_firstWith 4 R_Ro D dA := C
  have loop : ∀ (k i : Nat) (step iv : Int32), iv = nI i → i + k = 12 → z_o 12 step → xf_fw σ t a k step = xf_firstWith σ t a → xZ p l e 1 s m ([.ref (xa9 lo t), .int a] : List Value).toArray below meth c D dA lo 4 n (some (.int (xf_firstWith σ t a))) (σ) (σ) 7 [(0, .ref (xa9 lo t)), (1, .int a), (2, .int step), (3, .int iv)] [] := by
    intro k
    induction k with
    | zero =>
      intro i step iv hiv hik hs hres
      refine zz_iload_n C d_Ro_firstWith_7 rfl ?_
      refine zz_bipush (x := 12) C d_Ro_firstWith_8 rfl ?_
      refine zz_icmp_ge (tgt := 43) C d_Ro_firstWith_10 (by decide) (fun h10 => ?_) (fun h10 => ?_)
      · refine zz_iconst (x := -1) C d_Ro_firstWith_43 rfl ?_
        exact xr_i C hr rfl d_Ro_firstWith_44 (by rw [← hres]; rfl) rfl
      · exact absurd (z_ge (N := 12) hiv rfl (by omega) (by omega)) h10
    | succ k ih =>
      intro i step iv hiv hik hs hres
      unfold xf_fw at hres
      refine zz_iload_n C d_Ro_firstWith_7 rfl ?_
      refine zz_bipush (x := 12) C d_Ro_firstWith_8 rfl ?_
      refine zz_icmp_ge (tgt := 43) C d_Ro_firstWith_10 (by decide) (fun h10 => ?_) (fun h10 => ?_)
      · exact absurd h10 (z_nge hiv rfl (show i < 12 by omega) (by decide))
      · refine zz_iload_n C d_Ro_firstWith_13 rfl ?_
        refine zz_iconst (x := -1) C d_Ro_firstWith_14 rfl ?_
        refine zz_icmp_eq (tgt := 43) C d_Ro_firstWith_15 (by decide) (fun h15 => ?_) (fun h15 => ?_)
        · refine zz_iconst (x := -1) C d_Ro_firstWith_43 rfl ?_
          exact xr_i C hr rfl d_Ro_firstWith_44 (by rw [← hres, if_pos h15]) rfl
        · refine zz_aload_n C d_Ro_firstWith_18 rfl ?_
          refine zz_get C (ci := 2) (N := 5) 0 rfl zi_Ro (by decide) fl_Ro_9 (xw_9 ht) rfl d_Ro_firstWith_19 ?_
          refine zz_iload_n C d_Ro_firstWith_22 rfl ?_
          refine zz_iald C (t0 := 0) rfl (xw_10 ht) (z_ovin hs h15) d_Ro_firstWith_23 ?_
          refine zz_iload_n C d_Ro_firstWith_24 rfl ?_
          refine zz_icmp_ne (tgt := 30) C d_Ro_firstWith_25 (by decide) (fun h25 => ?_) (fun h25 => ?_)
          · refine zz_aload_n C d_Ro_firstWith_30 rfl ?_
            refine zz_get C (ci := 2) (N := 5) 1 rfl zi_Ro (by decide) fl_Ro_15 (xw_9 ht) rfl d_Ro_firstWith_31 ?_
            refine zz_iload_n C d_Ro_firstWith_34 rfl ?_
            refine zz_iald C (t0 := 0) rfl (xw_11 ht) (z_ovin hs h15) d_Ro_firstWith_35 ?_
            refine zz_istore_n C d_Ro_firstWith_36 (by decide) ?_
            refine zz_iinc (d' := 1) C d_Ro_firstWith_37 rfl rfl (by decide) ?_
            refine zz_goto (tgt := 7) C d_Ro_firstWith_40 (by decide) ?_
            refine zz_lv [0, 1, 2, 3] rfl ?_
            exact ih (i + 1) _ _ (z_sI hiv) (by omega) (I.2.2.2.2.2.2.1 t ht _ (z_vlt (z_ovin hs h15))) (by rw [← hres, if_neg h15, if_neg h25])
          · refine zz_iload_n C d_Ro_firstWith_28 rfl ?_
            exact xr_i C hr rfl d_Ro_firstWith_29 (by rw [← hres, if_neg h15, if_pos h25]) rfl
  refine zz_aload_n C d_Ro_firstWith_0 rfl ?_
  refine xc_Vi C (xw_9 ht) rfl s_Ro_26 (c_Ro_top ht) rfl rfl d_Ro_firstWith_1 k_Ro_top ⟨by decide, by decide⟩ rfl ?_
  refine zz_istore_n C d_Ro_firstWith_4 (by decide) ?_
  refine zz_iconst (x := 0) C d_Ro_firstWith_5 rfl ?_
  refine zz_istore_n C d_Ro_firstWith_6 (by decide) ?_
  refine zz_lv [0, 1, 2, 3] rfl ?_
  exact loop 12 0 _ _ nI_0.symm rfl (x_top_o I ht) rfl
set_option maxHeartbeats 400000 in
set_option maxRecDepth 100000 in
theorem c_Ro_hasInView {l : Launch} {D : va_G} {dA : Nat → ClassId} {lo n : Nat} {σ : zS} {t : Nat} {a : Int32} (ht : t < 4) (I : xI σ) : xM l y_Ro_hasInView b_Ro_hasInView 2 (some .boolean) 2 D dA lo n [.ref (xa9 lo t), .int a] σ (some (.int (xf_hasInView σ t a))) σ := by
  refine zM_of (lv0 := [(0, .ref (xa9 lo t)), (1, .int a)]) (by decide) rfl rfl rfl ?_
  intro p e s m below meth c C hr hnm hsz
  have C : zC p s m ([.ref (xa9 lo t), .int a] : List Value).toArray meth c b_Ro_hasInView 2 R_Ro D dA := C
  refine zz_aload_n C d_Ro_hasInView_0 rfl ?_
  refine zz_iload_n C d_Ro_hasInView_1 rfl ?_
  refine xc_Vi C (xw_9 ht) rfl s_Ro_30 (c_Ro_firstWith ht I) rfl rfl d_Ro_hasInView_2 k_Ro_firstWith ⟨by decide, by decide⟩ rfl ?_
  refine zz_iconst (x := -1) C d_Ro_hasInView_5 rfl ?_
  refine zz_icmp_eq (tgt := 13) C d_Ro_hasInView_6 (by decide) (fun h6 => ?_) (fun h6 => ?_)
  · refine zz_iconst (x := 0) C d_Ro_hasInView_13 rfl ?_
    exact xr_i C hr rfl d_Ro_hasInView_14 (by simp only [xf_hasInView, if_pos h6] <;> simp [xf_hasInView, z_at]) rfl
  · refine zz_iconst (x := 1) C d_Ro_hasInView_9 rfl ?_
    refine zz_goto (tgt := 14) C d_Ro_hasInView_10 (by decide) ?_
    exact xr_i C hr rfl d_Ro_hasInView_14 (by simp only [xf_hasInView, if_neg h6] <;> simp [xf_hasInView, z_at]) rfl
set_option maxHeartbeats 400000 in
set_option maxRecDepth 100000 in
theorem c_Ro_underOfFirstWith {l : Launch} {D : va_G} {dA : Nat → ClassId} {lo n : Nat} {σ : zS} {t : Nat} {a : Int32} (ht : t < 4) (I : xI σ) : xM l y_Ro_underOfFirstWith b_Ro_underOfFirstWith 3 (some .int) 2 D dA lo n [.ref (xa9 lo t), .int a] σ (some (.int (xf_underOfFirstWith σ t a))) σ := by
  refine zM_of (lv0 := [(0, .ref (xa9 lo t)), (1, .int a)]) (by decide) rfl rfl rfl ?_
  intro p e s m below meth c C hr hnm hsz
  have C : zC p s m ([.ref (xa9 lo t), .int a] : List Value).toArray meth c b_Ro_underOfFirstWith 3 R_Ro D dA := C
  refine zz_aload_n C d_Ro_underOfFirstWith_0 rfl ?_
  refine zz_iload_n C d_Ro_underOfFirstWith_1 rfl ?_
  refine xc_Vi C (xw_9 ht) rfl s_Ro_30 (c_Ro_firstWith ht I) rfl rfl d_Ro_underOfFirstWith_2 k_Ro_firstWith ⟨by decide, by decide⟩ rfl ?_
  refine zz_istore_n C d_Ro_underOfFirstWith_5 (by decide) ?_
  refine zz_iload_n C d_Ro_underOfFirstWith_6 rfl ?_
  refine zz_iconst (x := -1) C d_Ro_underOfFirstWith_7 rfl ?_
  refine zz_icmp_ne (tgt := 15) C d_Ro_underOfFirstWith_8 (by decide) (fun h8 => ?_) (fun h8 => ?_)
  · refine zz_aload_n C d_Ro_underOfFirstWith_15 rfl ?_
    refine zz_get C (ci := 2) (N := 5) 1 rfl zi_Ro (by decide) fl_Ro_15 (xw_9 ht) rfl d_Ro_underOfFirstWith_16 ?_
    refine zz_iload_n C d_Ro_underOfFirstWith_19 rfl ?_
    refine zz_iald C (t0 := 0) rfl (xw_11 ht) (z_ovin (x_firstWith_o I ht) h8) d_Ro_underOfFirstWith_20 ?_
    exact xr_i C hr rfl d_Ro_underOfFirstWith_21 (by simp only [xf_underOfFirstWith, if_neg h8] <;> simp [xf_underOfFirstWith, z_at]) rfl
  · refine zz_iconst (x := -1) C d_Ro_underOfFirstWith_11 rfl ?_
    refine zz_goto (tgt := 21) C d_Ro_underOfFirstWith_12 (by decide) ?_
    exact xr_i C hr rfl d_Ro_underOfFirstWith_21 (by simp only [xf_underOfFirstWith, if_pos h8] <;> simp [xf_underOfFirstWith, z_at]) rfl
set_option maxHeartbeats 400000 in
set_option maxRecDepth 100000 in
theorem c_Ro_nearestScope {l : Launch} {D : va_G} {dA : Nat → ClassId} {lo n : Nat} {σ : zS} {t : Nat} (ht : t < 4) (I : xI σ) : xM l y_Ro_nearestScope b_Ro_nearestScope 3 (some .int) 1 D dA lo n [.ref (xa9 lo t)] σ (some (.int (xf_nearestScope σ t))) σ := by
  refine zM_of (lv0 := [(0, .ref (xa9 lo t))]) (by decide) rfl rfl rfl ?_
  intro p e s m below meth c C hr hnm hsz
  have C : zC p s m ([.ref (xa9 lo t)] : List Value).toArray meth c b_Ro_nearestScope 3 R_Ro D dA := C
  have loop : ∀ (k i : Nat) (step iv : Int32), iv = nI i → i + k = 12 → z_o 12 step → xf_ns σ t k step = xf_nearestScope σ t → xZ p l e 1 s m ([.ref (xa9 lo t)] : List Value).toArray below meth c D dA lo 3 n (some (.int (xf_nearestScope σ t))) (σ) (σ) 7 [(0, .ref (xa9 lo t)), (1, .int step), (2, .int iv)] [] := by
    intro k
    induction k with
    | zero =>
      intro i step iv hiv hik hs hres
      refine zz_iload_n C d_Ro_nearestScope_7 rfl ?_
      refine zz_bipush (x := 12) C d_Ro_nearestScope_8 rfl ?_
      refine zz_icmp_ge (tgt := 48) C d_Ro_nearestScope_10 (by decide) (fun h10 => ?_) (fun h10 => ?_)
      · refine zz_iconst (x := 0) C d_Ro_nearestScope_48 rfl ?_
        exact xr_i C hr rfl d_Ro_nearestScope_49 (by rw [← hres]; rfl) rfl
      · exact absurd (z_ge (N := 12) hiv rfl (by omega) (by omega)) h10
    | succ k ih =>
      intro i step iv hiv hik hs hres
      unfold xf_ns at hres
      refine zz_iload_n C d_Ro_nearestScope_7 rfl ?_
      refine zz_bipush (x := 12) C d_Ro_nearestScope_8 rfl ?_
      refine zz_icmp_ge (tgt := 48) C d_Ro_nearestScope_10 (by decide) (fun h10 => ?_) (fun h10 => ?_)
      · exact absurd h10 (z_nge hiv rfl (show i < 12 by omega) (by decide))
      · refine zz_iload_n C d_Ro_nearestScope_13 rfl ?_
        refine zz_iconst (x := -1) C d_Ro_nearestScope_14 rfl ?_
        refine zz_icmp_eq (tgt := 48) C d_Ro_nearestScope_15 (by decide) (fun h15 => ?_) (fun h15 => ?_)
        · refine zz_iconst (x := 0) C d_Ro_nearestScope_48 rfl ?_
          exact xr_i C hr rfl d_Ro_nearestScope_49 (by rw [← hres, if_pos h15]) rfl
        · refine zz_aload_n C d_Ro_nearestScope_18 rfl ?_
          refine zz_get C (ci := 2) (N := 5) 0 rfl zi_Ro (by decide) fl_Ro_9 (xw_9 ht) rfl d_Ro_nearestScope_19 ?_
          refine zz_iload_n C d_Ro_nearestScope_22 rfl ?_
          refine zz_iald C (t0 := 0) rfl (xw_10 ht) (z_ovin hs h15) d_Ro_nearestScope_23 ?_
          refine zz_iconst (x := 2) C d_Ro_nearestScope_24 rfl ?_
          refine zz_icmp_lt (tgt := 35) C d_Ro_nearestScope_25 (by decide) (fun h25 => ?_) (fun h25 => ?_)
          · refine zz_aload_n C d_Ro_nearestScope_35 rfl ?_
            refine zz_get C (ci := 2) (N := 5) 1 rfl zi_Ro (by decide) fl_Ro_15 (xw_9 ht) rfl d_Ro_nearestScope_36 ?_
            refine zz_iload_n C d_Ro_nearestScope_39 rfl ?_
            refine zz_iald C (t0 := 0) rfl (xw_11 ht) (z_ovin hs h15) d_Ro_nearestScope_40 ?_
            refine zz_istore_n C d_Ro_nearestScope_41 (by decide) ?_
            refine zz_iinc (d' := 1) C d_Ro_nearestScope_42 rfl rfl (by decide) ?_
            refine zz_goto (tgt := 7) C d_Ro_nearestScope_45 (by decide) ?_
            refine zz_lv [0, 1, 2] rfl ?_
            exact ih (i + 1) _ _ (z_sI hiv) (by omega) (I.2.2.2.2.2.2.1 t ht _ (z_vlt (z_ovin hs h15))) (by rw [← hres, if_neg h15, if_pos h25])
          · refine zz_aload_n C d_Ro_nearestScope_28 rfl ?_
            refine zz_get C (ci := 2) (N := 5) 0 rfl zi_Ro (by decide) fl_Ro_9 (xw_9 ht) rfl d_Ro_nearestScope_29 ?_
            refine zz_iload_n C d_Ro_nearestScope_32 rfl ?_
            refine zz_iald C (t0 := 0) rfl (xw_10 ht) (z_ovin hs h15) d_Ro_nearestScope_33 ?_
            exact xr_i C hr rfl d_Ro_nearestScope_34 (by rw [← hres, if_neg h15, if_neg h25]) rfl
  refine zz_aload_n C d_Ro_nearestScope_0 rfl ?_
  refine xc_Vi C (xw_9 ht) rfl s_Ro_26 (c_Ro_top ht) rfl rfl d_Ro_nearestScope_1 k_Ro_top ⟨by decide, by decide⟩ rfl ?_
  refine zz_istore_n C d_Ro_nearestScope_4 (by decide) ?_
  refine zz_iconst (x := 0) C d_Ro_nearestScope_5 rfl ?_
  refine zz_istore_n C d_Ro_nearestScope_6 (by decide) ?_
  refine zz_lv [0, 1, 2] rfl ?_
  exact loop 12 0 _ _ nI_0.symm rfl (x_top_o I ht) rfl
set_option maxHeartbeats 400000 in
set_option maxRecDepth 100000 in
theorem c_Ro_areaInView {l : Launch} {D : va_G} {dA : Nat → ClassId} {lo n : Nat} {σ : zS} {t : Nat} {d : Int32} (ht : t < 4) (I : xI σ) (hd : ¬ d < 0) : xM l y_Ro_areaInView b_Ro_areaInView 4 (some .int) 1 D dA lo n [.ref (xa9 lo t), .int d] σ (some (.int (xf_areaInView σ t d))) σ := by
  refine zM_of (lv0 := [(0, .ref (xa9 lo t)), (1, .int d)]) (by decide) rfl rfl rfl ?_
  intro p e s m below meth c C hr hnm hsz
  have C : zC p s m ([.ref (xa9 lo t), .int d] : List Value).toArray meth c b_Ro_areaInView 4 R_Ro D dA := C
  have fin : ∀ (step iv : Int32), z_o 12 step → xf_av σ t 12 (z_ix d) (xf_top σ t) = step → xZ p l e 1 s m ([.ref (xa9 lo t), .int d] : List Value).toArray below meth c D dA lo 4 n (some (.int (xf_areaInView σ t d))) (σ) (σ) 36 [(0, .ref (xa9 lo t)), (1, .int d), (2, .int step), (3, .int iv)] [] := by
    intro step iv hs hres
    refine zz_iload_n C d_Ro_areaInView_36 rfl ?_
    refine zz_iconst (x := -1) C d_Ro_areaInView_37 rfl ?_
    refine zz_icmp_ne (tgt := 45) C d_Ro_areaInView_38 (by decide) (fun h38 => ?_) (fun h38 => ?_)
    · refine zz_aload_n C d_Ro_areaInView_45 rfl ?_
      refine zz_get C (ci := 2) (N := 5) 0 rfl zi_Ro (by decide) fl_Ro_9 (xw_9 ht) rfl d_Ro_areaInView_46 ?_
      refine zz_iload_n C d_Ro_areaInView_49 rfl ?_
      refine zz_iald C (t0 := 0) rfl (xw_10 ht) (z_ovin hs h38) d_Ro_areaInView_50 ?_
      exact xr_i C hr rfl d_Ro_areaInView_51 (by simp [xf_areaInView, hres, h38]) rfl
    · refine zz_iconst (x := -1) C d_Ro_areaInView_41 rfl ?_
      refine zz_goto (tgt := 51) C d_Ro_areaInView_42 (by decide) ?_
      exact xr_i C hr rfl d_Ro_areaInView_51 (by simp [xf_areaInView, hres, h38]) rfl
  have loop : ∀ (k i : Nat) (step iv : Int32), iv = nI i → i + k = 12 → z_o 12 step → (¬ d < 0 → xf_av σ t k (z_ix d - i) step = xf_av σ t 12 (z_ix d) (xf_top σ t)) → xZ p l e 1 s m ([.ref (xa9 lo t), .int d] : List Value).toArray below meth c D dA lo 4 n (some (.int (xf_areaInView σ t d))) (σ) (σ) 7 [(0, .ref (xa9 lo t)), (1, .int d), (2, .int step), (3, .int iv)] [] := by
    intro k
    induction k with
    | zero =>
      intro i step iv hiv hik hs hres
      refine zz_iload_n C d_Ro_areaInView_7 rfl ?_
      refine zz_iload_n C d_Ro_areaInView_8 rfl ?_
      refine zz_icmp_ge (tgt := 36) C d_Ro_areaInView_9 (by decide) (fun h9 => ?_) (fun h9 => ?_)
      · exact fin _ _ hs (hres hd).symm
      · refine zz_iload_n C d_Ro_areaInView_12 rfl ?_
        refine zz_bipush (x := 12) C d_Ro_areaInView_13 rfl ?_
        refine zz_icmp_ge (tgt := 36) C d_Ro_areaInView_15 (by decide) (fun h15 => ?_) (fun h15 => ?_)
        · exact fin _ _ hs (hres hd).symm
        · exact absurd (z_ge (N := 12) hiv rfl (by omega) (by omega)) h15
    | succ k ih =>
      intro i step iv hiv hik hs hres
      refine zz_iload_n C d_Ro_areaInView_7 rfl ?_
      refine zz_iload_n C d_Ro_areaInView_8 rfl ?_
      refine zz_icmp_ge (tgt := 36) C d_Ro_areaInView_9 (by decide) (fun h9 => ?_) (fun h9 => ?_)
      · exact fin _ _ hs ((hres hd).symm.trans (by rw [x_av_d hd hiv h9]))
      · refine zz_iload_n C d_Ro_areaInView_12 rfl ?_
        refine zz_bipush (x := 12) C d_Ro_areaInView_13 rfl ?_
        refine zz_icmp_ge (tgt := 36) C d_Ro_areaInView_15 (by decide) (fun h15 => ?_) (fun h15 => ?_)
        · exact absurd h15 (z_nge hiv rfl (show i < 12 by omega) (by decide))
        · refine zz_iload_n C d_Ro_areaInView_18 rfl ?_
          refine zz_iconst (x := -1) C d_Ro_areaInView_19 rfl ?_
          refine zz_icmp_eq (tgt := 36) C d_Ro_areaInView_20 (by decide) (fun h20 => ?_) (fun h20 => ?_)
          · exact fin _ _ hs ((hres hd).symm.trans (by obtain ⟨q, hq⟩ := x_av_s hd hiv h9 (by omega); rw [hq]; unfold xf_av; rw [if_pos h20]))
          · refine zz_aload_n C d_Ro_areaInView_23 rfl ?_
            refine zz_get C (ci := 2) (N := 5) 1 rfl zi_Ro (by decide) fl_Ro_15 (xw_9 ht) rfl d_Ro_areaInView_24 ?_
            refine zz_iload_n C d_Ro_areaInView_27 rfl ?_
            refine zz_iald C (t0 := 0) rfl (xw_11 ht) (z_ovin hs h20) d_Ro_areaInView_28 ?_
            refine zz_istore_n C d_Ro_areaInView_29 (by decide) ?_
            refine zz_iinc (d' := 1) C d_Ro_areaInView_30 rfl rfl (by decide) ?_
            refine zz_goto (tgt := 7) C d_Ro_areaInView_33 (by decide) ?_
            refine zz_lv [0, 1, 2, 3] rfl ?_
            exact ih (i + 1) _ _ (z_sI hiv) (by omega) (I.2.2.2.2.2.2.1 t ht _ (z_vlt (z_ovin hs h20))) (fun _ => by
              rw [← hres hd]
              obtain ⟨q, hq⟩ := x_av_s hd hiv h9 (by omega)
              rw [hq, show z_ix d - (i + 1) = q by omega]
              conv => rhs; unfold xf_av
              rw [if_neg h20])
  refine zz_aload_n C d_Ro_areaInView_0 rfl ?_
  refine xc_Vi C (xw_9 ht) rfl s_Ro_26 (c_Ro_top ht) rfl rfl d_Ro_areaInView_1 k_Ro_top ⟨by decide, by decide⟩ rfl ?_
  refine zz_istore_n C d_Ro_areaInView_4 (by decide) ?_
  refine zz_iconst (x := 0) C d_Ro_areaInView_5 rfl ?_
  refine zz_istore_n C d_Ro_areaInView_6 (by decide) ?_
  refine zz_lv [0, 1, 2, 3] rfl ?_
  exact loop 12 0 _ _ nI_0.symm rfl (x_top_o I ht) (fun _ => rfl)
set_option maxHeartbeats 400000 in
set_option maxRecDepth 100000 in
theorem c_Ar_free {l : Launch} {D : va_G} {dA : Nat → ClassId} {lo n : Nat} {σ : zS} {i : Nat} (hi : i < 10) : xM l y_Ar_free b_Ar_free 1 (some .int) 0 D dA lo n [.ref (xa6 lo i)] σ (some (.int (xf_free σ i))) σ := by
  refine zM_of (lv0 := [(0, .ref (xa6 lo i))]) (by decide) rfl rfl rfl ?_
  intro p e s m below meth c C hr hnm hsz
  have C : zC p s m ([.ref (xa6 lo i)] : List Value).toArray meth c b_Ar_free 1 R_Ar D dA := C
  refine zz_aload_n C d_Ar_free_0 rfl ?_
  refine zz_get C (ci := 0) (N := 5) 0 rfl zi_Ar (by decide) fl_Ar_18 (xw_6 hi) rfl d_Ar_free_1 ?_
  refine zz_aload_n C d_Ar_free_4 rfl ?_
  refine zz_get C (ci := 0) (N := 5) 1 rfl zi_Ar (by decide) fl_Ar_21 (xw_6 hi) rfl d_Ar_free_5 ?_
  refine zz_isub C d_Ar_free_8 ?_
  exact xr_i C hr rfl d_Ar_free_9 (by first | rfl | simp [xf_free, z_at]) rfl
set_option maxHeartbeats 400000 in
set_option maxRecDepth 100000 in
theorem c_Ce_fill {l : Launch} {D : va_G} {dA : Nat → ClassId} {lo n : Nat} {σ : zS} {i : Nat} {a c0 : Int32} (hi : i < 40) : xM l y_Ce_fill b_Ce_fill 4 none 0 D dA lo n [.ref (xa7 lo i), .int a, .int c0] σ none (xf_fill σ i a c0) := by
  refine zM_of (lv0 := [(0, .ref (xa7 lo i)), (1, .int a), (2, .int c0)]) (by decide) rfl rfl rfl ?_
  intro p e s m below meth c C hr hnm hsz
  have C : zC p s m ([.ref (xa7 lo i), .int a, .int c0] : List Value).toArray meth c b_Ce_fill 4 R_Ce D dA := C
  have loop : ∀ (k j : Nat) (jv : Int32), jv = nI j → j + k = 4 → xZ p l e 0 s m ([.ref (xa7 lo i), .int a, .int c0] : List Value).toArray below meth c D dA lo 4 n none (xf_fill σ i a c0) (xf_ff (z_up (z_up σ 6 i 0 a) 7 i 0 c0) i j) 12 [(0, .ref (xa7 lo i)), (3, .int jv)] [] := by
    intro k
    induction k with
    | zero =>
      intro j jv hjv hjk
      obtain rfl : j = 4 := by omega
      refine zz_iload_n C d_Ce_fill_12 rfl ?_
      refine zz_iconst (x := 4) C d_Ce_fill_13 rfl ?_
      refine zz_icmp_ge (tgt := 30) C d_Ce_fill_14 (by decide) (fun h14 => ?_) (fun h14 => ?_)
      · exact xr_v C hr d_Ce_fill_30 rfl
      · exact absurd (z_ge (N := 4) hjv rfl (by omega) (by omega)) h14
    | succ k ih =>
      intro j jv hjv hjk
      refine zz_iload_n C d_Ce_fill_12 rfl ?_
      refine zz_iconst (x := 4) C d_Ce_fill_13 rfl ?_
      refine zz_icmp_ge (tgt := 30) C d_Ce_fill_14 (by decide) (fun h14 => ?_) (fun h14 => ?_)
      · exact absurd h14 (z_nge hjv rfl (show j < 4 by omega) (by decide))
      · refine zz_aload_n C d_Ce_fill_17 rfl ?_
        refine zz_get C (ci := 1) (N := 4) 0 rfl zi_Ce (by decide) fl_Ce_9 (xw_7 hi) rfl d_Ce_fill_18 ?_
        refine zz_iload_n C d_Ce_fill_21 rfl ?_
        refine zz_iconst (x := -1) C d_Ce_fill_22 rfl ?_
        refine xs_5 C hi (z_vinI hjv (by omega) (by decide)) d_Ce_fill_23 ?_
        refine zz_iinc (d' := 1) C d_Ce_fill_24 rfl rfl (by decide) ?_
        refine zz_goto (tgt := 12) C d_Ce_fill_27 (by decide) ?_
        refine zz_lv [0, 3] rfl ?_
        rw [show jv.toNatClampNeg = j from z_ixI hjv (by omega)]
        exact ih (j + 1) _ (z_sI hjv) (by omega)
  refine zz_aload_n C d_Ce_fill_0 rfl ?_
  refine zz_iload_n C d_Ce_fill_1 rfl ?_
  refine xp_6 C fl_Ce_15 hi rfl rfl d_Ce_fill_2 ?_
  refine zz_aload_n C d_Ce_fill_5 rfl ?_
  refine zz_iload_n C d_Ce_fill_6 rfl ?_
  refine xp_7 C fl_Ce_19 hi rfl rfl d_Ce_fill_7 ?_
  refine zz_iconst (x := 0) C d_Ce_fill_10 rfl ?_
  refine zz_istore_n C d_Ce_fill_11 (by decide) ?_
  refine zz_lv [0, 3] rfl ?_
  exact loop 4 0 _ nI_0.symm rfl
end
section
-- the kept ones are counted, and listed
def x_cn (σ : zS) : Nat → Nat
  | 0 => 0
  | k + 1 => x_cn σ k + (if σ 8 k 0 = 0 then 0 else 1)
def xF (σ : zS) : Prop := σ 16 0 0 = nI (x_cn σ 40) ∧ ∀ j, j < x_cn σ 40 → vp_in (σ 15 0 j) 40
theorem x_cn_le {σ : zS} (k : Nat) : x_cn σ k ≤ k := by
  induction k with
  | zero => exact Nat.le_refl _
  | succ k ih => unfold x_cn; split <;> omega
theorem x_cn_lt {σ : zS} {i : Nat} (h : σ 8 i 0 = 0) : ∀ k, i < k → x_cn σ k < k := by
  intro k
  induction k with
  | zero => intro q; omega
  | succ k ih =>
    intro q
    unfold x_cn
    by_cases hk : i = k
    · subst hk
      rw [if_pos h]
      have := x_cn_le (σ := σ) i
      omega
    · have := ih (by omega)
      split <;> omega
theorem x_cn_congr {σ σ' : zS} (k : Nat) (h : ∀ i, i < k → σ 8 i 0 = σ' 8 i 0) : x_cn σ k = x_cn σ' k := by
  induction k with
  | zero => rfl
  | succ k ih => unfold x_cn; rw [ih (fun i hi => h i (by omega)), h k (by omega)]
theorem x_cn_up {σ : zS} {i : Nat} (h : σ 8 i 0 = 0) (k : Nat) : x_cn (z_up σ 8 i 0 1) k = x_cn σ k + (if i < k then 1 else 0) := by
  induction k with
  | zero => rfl
  | succ k ih =>
    unfold x_cn
    rw [ih]
    by_cases hk : k = i
    · subst hk
      simp [z_at, h]
    · have e0 : z_up σ 8 i 0 1 8 k 0 = σ 8 k 0 := by simp [z_at, hk]
      rw [e0]
      by_cases hik : i < k
      · rw [if_pos hik, if_pos (show i < k + 1 by omega)]
        split <;> omega
      · rw [if_neg hik, if_neg (show ¬ i < k + 1 by omega)]
        split <;> omega
theorem x_keep_at {σ : zS} {o : Int32} {f i j : Nat} (h8 : f ≠ 8) (h15 : f ≠ 15) (h16 : f ≠ 16) : xf_keep σ o f i j = σ f i j := by
  unfold xf_keep
  split
  · rfl
  · split
    · rfl
    · split
      · rfl
      · simp [z_at, h8, h15, h16]
theorem x_keep_I {σ : zS} {o : Int32} (I : xI σ) : xI (xf_keep σ o) := by
  unfold xf_keep
  split
  · exact I
  · split
    · exact I
    · split
      · exact I
      · exact xI_u16 (xI_u15 (xI_u8 I))
theorem x_keep_in {σ : zS} {o : Int32} (F : xF σ) (ho : vp_in o 40) (h : σ 8 (z_ix o) 0 = 0) : vp_in (σ 16 0 0) 40 := by
  rw [F.1]
  exact vp_in_nI (x_cn_lt h 40 (z_vlt ho)) (by decide)
theorem x_keep_F {σ : zS} {o : Int32} (F : xF σ) (ho : z_o 40 o) : xF (xf_keep σ o) := by
  unfold xf_keep
  split
  · exact F
  · rename_i h1
    have hv := z_ovin ho h1
    split
    · exact F
    · split
      · exact F
      · rename_i h3
        have h8 : σ 8 (z_ix o) 0 = 0 := by simpa using h3
        have hl : z_ix o < 40 := z_vlt hv
        have hc : x_cn σ 40 < 40 := x_cn_lt h8 40 hl
        have e : x_cn (z_up (z_up (z_up σ 8 (z_ix o) 0 1) 15 0 (z_ix (σ 16 0 0)) o) 16 0 0 (σ 16 0 0 + 1)) 40 = x_cn σ 40 + 1 := by
          refine (x_cn_congr (σ' := z_up σ 8 (z_ix o) 0 1) 40 (fun i _ => ?_)).trans ?_
          · simp [z_at]
          · rw [x_cn_up h8 40, if_pos hl]
        have e16 : z_ix (σ 16 0 0) = x_cn σ 40 := by rw [F.1]; exact nI_clamp (by omega)
        refine ⟨?_, fun j hj => ?_⟩
        · rw [e]
          show σ 16 0 0 + 1 = _
          rw [F.1]
          exact nI_1 _
        · rw [e] at hj
          by_cases q : j = x_cn σ 40
          · subst q
            have : z_up (z_up (z_up σ 8 (z_ix o) 0 1) 15 0 (z_ix (σ 16 0 0)) o) 16 0 0 (σ 16 0 0 + 1) 15 0 (x_cn σ 40) = o := by
              simp only [z_at, e16]
              simp
            rw [this]
            exact hv
          · have : z_up (z_up (z_up σ 8 (z_ix o) 0 1) 15 0 (z_ix (σ 16 0 0)) o) 16 0 0 (σ 16 0 0 + 1) 15 0 j = σ 15 0 j := by
              simp only [z_at, e16]
              simp [q]
            rw [this]
            exact F.2 j (by omega)
theorem x_kl_at {o : Nat} {f i' j' : Nat} (h8 : f ≠ 8) (h15 : f ≠ 15) (h16 : f ≠ 16) : ∀ (k i : Nat) (σ : zS), xf_kl o k i σ f i' j' = σ f i' j' := by
  intro k
  induction k with
  | zero => intro i σ; rfl
  | succ k ih =>
    intro i σ
    unfold xf_kl
    split
    · rfl
    · rw [ih, x_keep_at h8 h15 h16]
theorem x_kl_IF {o : Nat} (ho : o < 40) : ∀ (k i : Nat) (σ : zS), i + k = 4 → xI σ → xF σ → xI (xf_kl o k i σ) ∧ xF (xf_kl o k i σ) := by
  intro k
  induction k with
  | zero => intro i σ _ I F; exact ⟨I, F⟩
  | succ k ih =>
    intro i σ hk I F
    unfold xf_kl
    split
    · exact ⟨I, F⟩
    · exact ih (i + 1) _ (by omega) (x_keep_I I) (x_keep_F F (I.2.2.2.2.1 o ho i (by omega)))
theorem x_kfo_IF {σ : zS} {o : Int32} (ho : vp_in o 40) (I : xI σ) (F : xF σ) : xI (xf_keepFieldsOf σ o) ∧ xF (xf_keepFieldsOf σ o) := x_kl_IF (z_vlt ho) 4 0 σ rfl I F
theorem x_k0_I : ∀ (k i : Nat) (σ : zS), xI σ → xI (xf_k0 k i σ) := by
  intro k
  induction k with
  | zero => intro i σ I; exact I
  | succ k ih => intro i σ I; exact ih _ _ (xI_u8 I)
theorem x_k0_at {f i' j' : Nat} (h8 : f ≠ 8) : ∀ (k i : Nat) (σ : zS), xf_k0 k i σ f i' j' = σ f i' j' := by
  intro k
  induction k with
  | zero => intro i σ; rfl
  | succ k ih =>
    intro i σ
    unfold xf_k0
    rw [ih]
    simp [z_at, h8]
theorem x_k0_8 : ∀ (k i : Nat) (σ : zS) (a : Nat), xf_k0 k i σ 8 a 0 = if i ≤ a ∧ a < i + k then 0 else σ 8 a 0 := by
  intro k
  induction k with
  | zero => intro i σ a; rw [if_neg (by omega)]; rfl
  | succ k ih =>
    intro i σ a
    unfold xf_k0
    rw [ih]
    simp only [z_at]
    by_cases h : a = i
    · subst h
      rw [if_neg (by omega), if_pos (by simp), if_pos (by omega)]
    · by_cases h2 : i + 1 ≤ a ∧ a < i + 1 + k
      · rw [if_pos h2, if_pos (by omega)]
      · rw [if_neg h2, if_neg (by simp [h]), if_neg (by omega)]
theorem x_k0_F {σ : zS} : xF (xf_k0 40 0 (z_up σ 16 0 0 0)) := by
  have e : ∀ k, k ≤ 40 → x_cn (xf_k0 40 0 (z_up σ 16 0 0 0)) k = 0 := by
    intro k
    induction k with
    | zero => intro _; rfl
    | succ k ih =>
      intro hk
      unfold x_cn
      have h8 : xf_k0 40 0 (z_up σ 16 0 0 0) 8 k 0 = 0 := by rw [x_k0_8, if_pos ⟨Nat.zero_le _, by omega⟩]
      rw [ih (by omega), if_pos h8]
  unfold xF
  rw [e 40 (by omega)]
  refine ⟨?_, fun j hj => by omega⟩
  rw [x_k0_at (by decide)]
  rfl
theorem x_k1_IF : ∀ (k i : Nat) (σ : zS), i + k = 4 → xI σ → xF σ → xI (xf_k1 k i σ) ∧ xF (xf_k1 k i σ) := by
  intro k
  induction k with
  | zero => intro i σ _ I F; exact ⟨I, F⟩
  | succ k ih => intro i σ hk I F; exact ih (i + 1) _ (by omega) (x_keep_I I) (x_keep_F F (I.2.2.2.2.2.2.2.2.1 i (by omega)))
theorem x_k2s_IF {i : Nat} {σ : zS} (hi : i < 40) (I : xI σ) (F : xF σ) : xI (if σ 6 i 0 = -1 then σ else if σ 6 i 0 = 0 then σ else xf_keepFieldsOf σ (nI i)) ∧ xF (if σ 6 i 0 = -1 then σ else if σ 6 i 0 = 0 then σ else xf_keepFieldsOf σ (nI i)) := by
  split
  · exact ⟨I, F⟩
  · split
    · exact ⟨I, F⟩
    · exact x_kfo_IF (vp_in_nI hi (by decide)) I F
theorem x_k2_IF : ∀ (k i : Nat) (σ : zS), i + k = 40 → xI σ → xF σ → xI (xf_k2 k i σ) ∧ xF (xf_k2 k i σ) := by
  intro k
  induction k with
  | zero => intro i σ _ I F; exact ⟨I, F⟩
  | succ k ih =>
    intro i σ hk I F
    have h := x_k2s_IF (i := i) (by omega) I F
    exact ih (i + 1) _ (by omega) h.1 h.2
theorem x_found {σ : zS} {i : Nat} (F : xF σ) (h : ¬ σ 16 0 0 ≤ nI i) (hi : i < 2 ^ 31) : vp_in (σ 15 0 i) 40 := by
  refine F.2 i ?_
  rw [F.1] at h
  have hl := x_cn_le (σ := σ) 40
  exact Nat.lt_of_not_le fun q => h ((nI_leI (by omega) hi).mpr q)
theorem x_k3_IF : ∀ (k i : Nat) (σ : zS), i + k = 40 → xI σ → xF σ → xI (xf_k3 k i σ) ∧ xF (xf_k3 k i σ) := by
  intro k
  induction k with
  | zero => intro i σ _ I F; exact ⟨I, F⟩
  | succ k ih =>
    intro i σ hk I F
    unfold xf_k3
    split
    · exact ⟨I, F⟩
    · rename_i h
      have h2 := x_kfo_IF (x_found F h (by omega)) I F
      exact ih (i + 1) _ (by omega) h2.1 h2.2
theorem x_findKept_IF {σ : zS} (I : xI σ) : xI (xf_findKept σ) ∧ xF (xf_findKept σ) := by
  have h0 := x_k0_I 40 0 _ (xI_u16 (v := 0) I)
  have h1 := x_k1_IF 4 0 _ rfl h0 x_k0_F
  have h2 := x_k2_IF 40 0 _ rfl h1.1 h1.2
  exact x_k3_IF 40 0 _ rfl h2.1 h2.2
-- what goes
theorem x_drop_I {σ : zS} {o : Int32} (I : xI σ) : xI (xf_drop σ o) := xI_u18 (xI_u6 (xI_u1 I) (Or.inl rfl))
theorem x_es_I {s : Int32} : ∀ (k i : Nat) (σ : zS), xI σ → xI (xf_es s k i σ) := by
  intro k
  induction k with
  | zero => intro i σ I; exact I
  | succ k ih =>
    intro i σ I
    unfold xf_es
    refine ih _ _ ?_
    split
    · exact x_drop_I I
    · exact I
theorem x_emptyScope_I {σ : zS} {s : Int32} (I : xI σ) : xI (xf_emptyScope σ s) := xI_u4 (xI_u3 (x_es_I 40 0 σ I) (vp_in_nI (n := 0) (by decide) (by decide)))
theorem x_dropEntry_I {σ : zS} {s : Int32} (I : xI σ) : xI (xf_dropEntry σ s) := by
  unfold xf_dropEntry
  split
  · exact x_emptyScope_I (xI_u2 I)
  · exact xI_u2 I
theorem x_co_I : ∀ (k i : Nat) (σ : zS), xI σ → xI (xf_co k i σ) := by
  intro k
  induction k with
  | zero => intro i σ I; exact I
  | succ k ih =>
    intro i σ I
    unfold xf_co
    refine ih _ _ ?_
    split
    · split
      · exact x_drop_I I
      · exact I
    · exact I
theorem x_thr {t : Int32} (h : ¬ xf_isThread t = 0) : vp_in t 4 := by
  unfold xf_isThread at h
  split at h
  · exact absurd rfl h
  · split at h
    · exact absurd rfl h
    · rename_i h1 h2
      exact z_vin h1 h2 rfl
theorem x_begun_thr {σ : zS} {t : Int32} (h : ¬ xf_isBegun σ t = 0) : vp_in t 4 := by
  unfold xf_isBegun at h
  split at h
  · exact absurd rfl h
  · rename_i h1
    exact x_thr h1
theorem x_begun_len {σ : zS} {t : Int32} (h : ¬ xf_isBegun σ t = 0) : ¬ σ 12 (z_ix t) 0 ≤ 0 := by
  unfold xf_isBegun at h
  split at h
  · exact absurd rfl h
  · split at h
    · exact absurd rfl h
    · assumption
theorem x_obj {σ : zS} {o : Int32} (h : ¬ xf_isObject σ o = 0) : vp_in o 40 := by
  unfold xf_isObject at h
  split at h
  · exact absurd rfl h
  · split at h
    · exact absurd rfl h
    · rename_i h1 h2
      exact z_vin h1 h2 rfl
theorem x_obj_area {σ : zS} {o : Int32} (h : ¬ xf_isObject σ o = 0) : ¬ σ 6 (z_ix o) 0 = -1 := by
  unfold xf_isObject at h
  split at h
  · exact absurd rfl h
  · split at h
    · exact absurd rfl h
    · split at h
      · exact absurd rfl h
      · assumption
theorem x_objN {σ : zS} {o : Int32} (h : ¬ xf_isObjectOrNull σ o = 0) : z_o 40 o := by
  unfold xf_isObjectOrNull at h
  split at h
  · exact Or.inl (by assumption)
  · split at h
    · exact absurd rfl h
    · rename_i h1
      exact Or.inr (x_obj h1)
theorem x_area_in {σ : zS} {a : Int32} (I : xI σ) (h : ¬ xf_isArea σ a = 0) : vp_in a 10 := by
  unfold xf_isArea at h
  split at h
  · exact absurd rfl h
  · split at h
    · exact absurd rfl h
    · rename_i h1 h2
      exact z_area I.1 h1 h2
theorem x_scope_in {σ : zS} {a : Int32} (I : xI σ) (h : ¬ xf_isScope σ a = 0) : vp_in a 10 := by
  unfold xf_isScope at h
  split at h
  · exact absurd rfl h
  · split at h
    · exact absurd rfl h
    · rename_i h1
      exact x_area_in I h1
theorem x_hasF {σ : zS} {o f : Int32} (h : ¬ xf_hasField σ o f = 0) : ¬ xf_isObject σ o = 0 := by
  unfold xf_hasField at h
  split at h
  · exact absurd rfl h
  · assumption
theorem x_hasF_f {σ : zS} {o f : Int32} (I : xI σ) (h : ¬ xf_hasField σ o f = 0) : vp_in f 4 := by
  have ho := x_obj (x_hasF h)
  have h7 := I.2.2.2.1 (z_ix o) (z_vlt ho)
  unfold xf_hasField at h
  split at h
  · exact absurd rfl h
  · split at h
    · exact absurd rfl h
    · split at h
      · exact absurd rfl h
      · rename_i h1 h2
        rw [vp_in_iff] at h7 ⊢
        rw [Int32.lt_iff_toInt_lt, Int32.toInt_zero] at h1
        rw [Int32.le_iff_toInt_le] at h2
        omega
theorem x_ge2 {a : Int32} (h : z_o 10 a) (h2 : ¬ a < 2) : vp_in a 10 := by
  refine z_ovin h (fun q => h2 ?_)
  rw [q]
  decide
end
section
set_option maxHeartbeats 400000 in
set_option maxRecDepth 100000 in
theorem c_SM_isThread {l : Launch} {D : va_G} {dA : Nat → ClassId} {lo n : Nat} {σ : zS} {t : Int32} : xM l y_SM_isThread b_SM_isThread 1 (some .boolean) 0 D dA lo n [.int t] σ (some (.int (xf_isThread t))) σ := by
  refine zM_of (lv0 := [(0, .int t)]) (by decide) rfl rfl rfl ?_
  intro p e s m below meth c C hr hnm hsz
  have C : zC p s m ([.int t] : List Value).toArray meth c b_SM_isThread 1 R_SM D dA := C
  refine zz_iload_n C d_SM_isThread_0 rfl ?_
  refine zz_if_lt (tgt := 13) C d_SM_isThread_1 (by decide) (fun h1 => ?_) (fun h1 => ?_)
  · refine zz_iconst (x := 0) C d_SM_isThread_13 rfl ?_
    exact xr_i C hr rfl d_SM_isThread_14 (by simp only [xf_isThread, if_pos h1] <;> simp [xf_isThread, z_at]) rfl
  · refine zz_iload_n C d_SM_isThread_4 rfl ?_
    refine zz_iconst (x := 4) C d_SM_isThread_5 rfl ?_
    refine zz_icmp_ge (tgt := 13) C d_SM_isThread_6 (by decide) (fun h6 => ?_) (fun h6 => ?_)
    · refine zz_iconst (x := 0) C d_SM_isThread_13 rfl ?_
      exact xr_i C hr rfl d_SM_isThread_14 (by simp only [xf_isThread, if_neg h1, if_pos h6] <;> simp [xf_isThread, z_at]) rfl
    · refine zz_iconst (x := 1) C d_SM_isThread_9 rfl ?_
      refine zz_goto (tgt := 14) C d_SM_isThread_10 (by decide) ?_
      exact xr_i C hr rfl d_SM_isThread_14 (by simp only [xf_isThread, if_neg h1, if_neg h6] <;> simp [xf_isThread, z_at]) rfl
set_option maxHeartbeats 400000 in
set_option maxRecDepth 100000 in
theorem c_SM_isBegun {l : Launch} {D : va_G} {dA : Nat → ClassId} {lo n : Nat} {σ : zS} {t : Int32} : xM l y_SM_isBegun b_SM_isBegun 2 (some .boolean) 1 D dA lo n [.ref (xa0 lo 0), .int t] σ (some (.int (xf_isBegun σ t))) σ := by
  refine zM_of (lv0 := [(0, .ref (xa0 lo 0)), (1, .int t)]) (by decide) rfl rfl rfl ?_
  intro p e s m below meth c C hr hnm hsz
  have C : zC p s m ([.ref (xa0 lo 0), .int t] : List Value).toArray meth c b_SM_isBegun 2 R_SM D dA := C
  refine zz_iload_n C d_SM_isBegun_0 rfl ?_
  refine xc_Si C s_SM_48 c_SM_isThread rfl rfl d_SM_isBegun_1 k_SM_isThread ⟨by decide, by decide⟩ rfl ?_
  refine zz_if_eq (tgt := 23) C d_SM_isBegun_4 (by decide) (fun h4 => ?_) (fun h4 => ?_)
  · refine zz_iconst (x := 0) C d_SM_isBegun_23 rfl ?_
    exact xr_i C hr rfl d_SM_isBegun_24 (by simp only [xf_isBegun, if_pos h4] <;> simp [xf_isBegun, z_at]) rfl
  · refine zz_aload_n C d_SM_isBegun_7 rfl ?_
    refine zz_get C (ci := 3) (N := 8) 2 rfl zi_SM (by decide) fl_SM_23 (xw_0 Nat.zero_lt_one) rfl d_SM_isBegun_8 ?_
    refine zz_iload_n C d_SM_isBegun_11 rfl ?_
    refine zz_aald C (t0 := 4) rfl (xw_3 Nat.zero_lt_one) (x_thr h4) (fun h9 => if_pos h9) d_SM_isBegun_12 (fun b12 => ?_)
    refine zz_getN C (ci := 2) (N := 5) 3 rfl zi_Ro (by decide) fn_SM_92 (xw_9 b12) rfl d_SM_isBegun_13 ?_
    refine zz_if_le (tgt := 23) C d_SM_isBegun_16 (by decide) (fun h16 => ?_) (fun h16 => ?_)
    · refine zz_iconst (x := 0) C d_SM_isBegun_23 rfl ?_
      exact xr_i C hr rfl d_SM_isBegun_24 (by simp only [xf_isBegun, if_neg h4, if_pos h16] <;> simp [xf_isBegun, z_at]) rfl
    · refine zz_iconst (x := 1) C d_SM_isBegun_19 rfl ?_
      refine zz_goto (tgt := 24) C d_SM_isBegun_20 (by decide) ?_
      exact xr_i C hr rfl d_SM_isBegun_24 (by simp only [xf_isBegun, if_neg h4, if_neg h16] <;> simp [xf_isBegun, z_at]) rfl
set_option maxHeartbeats 400000 in
set_option maxRecDepth 100000 in
theorem c_SM_isArea {l : Launch} {D : va_G} {dA : Nat → ClassId} {lo n : Nat} {σ : zS} {a : Int32} : xM l y_SM_isArea b_SM_isArea 2 (some .boolean) 0 D dA lo n [.ref (xa0 lo 0), .int a] σ (some (.int (xf_isArea σ a))) σ := by
  refine zM_of (lv0 := [(0, .ref (xa0 lo 0)), (1, .int a)]) (by decide) rfl rfl rfl ?_
  intro p e s m below meth c C hr hnm hsz
  have C : zC p s m ([.ref (xa0 lo 0), .int a] : List Value).toArray meth c b_SM_isArea 2 R_SM D dA := C
  refine zz_iload_n C d_SM_isArea_0 rfl ?_
  refine zz_if_lt (tgt := 16) C d_SM_isArea_1 (by decide) (fun h1 => ?_) (fun h1 => ?_)
  · refine zz_iconst (x := 0) C d_SM_isArea_16 rfl ?_
    exact xr_i C hr rfl d_SM_isArea_17 (by simp only [xf_isArea, if_pos h1] <;> simp [xf_isArea, z_at]) rfl
  · refine zz_iload_n C d_SM_isArea_4 rfl ?_
    refine zz_aload_n C d_SM_isArea_5 rfl ?_
    refine zz_get C (ci := 3) (N := 8) 6 rfl zi_SM (by decide) fl_SM_45 (xw_0 Nat.zero_lt_one) rfl d_SM_isArea_6 ?_
    refine zz_icmp_ge (tgt := 16) C d_SM_isArea_9 (by decide) (fun h9 => ?_) (fun h9 => ?_)
    · refine zz_iconst (x := 0) C d_SM_isArea_16 rfl ?_
      exact xr_i C hr rfl d_SM_isArea_17 (by simp only [xf_isArea, if_neg h1, if_pos h9] <;> simp [xf_isArea, z_at]) rfl
    · refine zz_iconst (x := 1) C d_SM_isArea_12 rfl ?_
      refine zz_goto (tgt := 17) C d_SM_isArea_13 (by decide) ?_
      exact xr_i C hr rfl d_SM_isArea_17 (by simp only [xf_isArea, if_neg h1, if_neg h9] <;> simp [xf_isArea, z_at]) rfl
set_option maxHeartbeats 400000 in
set_option maxRecDepth 100000 in
theorem c_SM_isScope {l : Launch} {D : va_G} {dA : Nat → ClassId} {lo n : Nat} {σ : zS} {a : Int32} : xM l y_SM_isScope b_SM_isScope 2 (some .boolean) 1 D dA lo n [.ref (xa0 lo 0), .int a] σ (some (.int (xf_isScope σ a))) σ := by
  refine zM_of (lv0 := [(0, .ref (xa0 lo 0)), (1, .int a)]) (by decide) rfl rfl rfl ?_
  intro p e s m below meth c C hr hnm hsz
  have C : zC p s m ([.ref (xa0 lo 0), .int a] : List Value).toArray meth c b_SM_isScope 2 R_SM D dA := C
  refine zz_iload_n C d_SM_isScope_0 rfl ?_
  refine zz_iconst (x := 2) C d_SM_isScope_1 rfl ?_
  refine zz_icmp_lt (tgt := 17) C d_SM_isScope_2 (by decide) (fun h2 => ?_) (fun h2 => ?_)
  · refine zz_iconst (x := 0) C d_SM_isScope_17 rfl ?_
    exact xr_i C hr rfl d_SM_isScope_18 (by simp only [xf_isScope, if_pos h2] <;> simp [xf_isScope, z_at]) rfl
  · refine zz_aload_n C d_SM_isScope_5 rfl ?_
    refine zz_iload_n C d_SM_isScope_6 rfl ?_
    refine xc_Vi C (xw_0 Nat.zero_lt_one) rfl s_SM_86 c_SM_isArea rfl rfl d_SM_isScope_7 k_SM_isArea ⟨by decide, by decide⟩ rfl ?_
    refine zz_if_eq (tgt := 17) C d_SM_isScope_10 (by decide) (fun h10 => ?_) (fun h10 => ?_)
    · refine zz_iconst (x := 0) C d_SM_isScope_17 rfl ?_
      exact xr_i C hr rfl d_SM_isScope_18 (by simp only [xf_isScope, if_neg h2, if_pos h10] <;> simp [xf_isScope, z_at]) rfl
    · refine zz_iconst (x := 1) C d_SM_isScope_13 rfl ?_
      refine zz_goto (tgt := 18) C d_SM_isScope_14 (by decide) ?_
      exact xr_i C hr rfl d_SM_isScope_18 (by simp only [xf_isScope, if_neg h2, if_neg h10] <;> simp [xf_isScope, z_at]) rfl
set_option maxHeartbeats 400000 in
set_option maxRecDepth 100000 in
theorem c_SM_isObject {l : Launch} {D : va_G} {dA : Nat → ClassId} {lo n : Nat} {σ : zS} {o : Int32} : xM l y_SM_isObject b_SM_isObject 2 (some .boolean) 0 D dA lo n [.ref (xa0 lo 0), .int o] σ (some (.int (xf_isObject σ o))) σ := by
  refine zM_of (lv0 := [(0, .ref (xa0 lo 0)), (1, .int o)]) (by decide) rfl rfl rfl ?_
  intro p e s m below meth c C hr hnm hsz
  have C : zC p s m ([.ref (xa0 lo 0), .int o] : List Value).toArray meth c b_SM_isObject 2 R_SM D dA := C
  refine zz_iload_n C d_SM_isObject_0 rfl ?_
  refine zz_if_lt (tgt := 27) C d_SM_isObject_1 (by decide) (fun h1 => ?_) (fun h1 => ?_)
  · refine zz_iconst (x := 0) C d_SM_isObject_27 rfl ?_
    exact xr_i C hr rfl d_SM_isObject_28 (by simp only [xf_isObject, if_pos h1] <;> simp [xf_isObject, z_at]) rfl
  · refine zz_iload_n C d_SM_isObject_4 rfl ?_
    refine zz_bipush (x := 40) C d_SM_isObject_5 rfl ?_
    refine zz_icmp_ge (tgt := 27) C d_SM_isObject_7 (by decide) (fun h7 => ?_) (fun h7 => ?_)
    · refine zz_iconst (x := 0) C d_SM_isObject_27 rfl ?_
      exact xr_i C hr rfl d_SM_isObject_28 (by simp only [xf_isObject, if_neg h1, if_pos h7] <;> simp [xf_isObject, z_at]) rfl
    · refine zz_aload_n C d_SM_isObject_10 rfl ?_
      refine zz_get C (ci := 3) (N := 8) 1 rfl zi_SM (by decide) fl_SM_17 (xw_0 Nat.zero_lt_one) rfl d_SM_isObject_11 ?_
      refine zz_iload_n C d_SM_isObject_14 rfl ?_
      refine zz_aald C (t0 := 3) rfl (xw_2 Nat.zero_lt_one) (z_vin h1 h7 rfl) (fun h9 => if_pos h9) d_SM_isObject_15 (fun b15 => ?_)
      refine zz_getN C (ci := 1) (N := 4) 1 rfl zi_Ce (by decide) fn_SM_137 (xw_7 b15) rfl d_SM_isObject_16 ?_
      refine zz_iconst (x := -1) C d_SM_isObject_19 rfl ?_
      refine zz_icmp_eq (tgt := 27) C d_SM_isObject_20 (by decide) (fun h20 => ?_) (fun h20 => ?_)
      · refine zz_iconst (x := 0) C d_SM_isObject_27 rfl ?_
        exact xr_i C hr rfl d_SM_isObject_28 (by simp only [xf_isObject, if_neg h1, if_neg h7, if_pos h20] <;> simp [xf_isObject, z_at]) rfl
      · refine zz_iconst (x := 1) C d_SM_isObject_23 rfl ?_
        refine zz_goto (tgt := 28) C d_SM_isObject_24 (by decide) ?_
        exact xr_i C hr rfl d_SM_isObject_28 (by simp only [xf_isObject, if_neg h1, if_neg h7, if_neg h20] <;> simp [xf_isObject, z_at]) rfl
set_option maxHeartbeats 400000 in
set_option maxRecDepth 100000 in
theorem c_SM_isObjectOrNull {l : Launch} {D : va_G} {dA : Nat → ClassId} {lo n : Nat} {σ : zS} {o : Int32} : xM l y_SM_isObjectOrNull b_SM_isObjectOrNull 2 (some .boolean) 1 D dA lo n [.ref (xa0 lo 0), .int o] σ (some (.int (xf_isObjectOrNull σ o))) σ := by
  refine zM_of (lv0 := [(0, .ref (xa0 lo 0)), (1, .int o)]) (by decide) rfl rfl rfl ?_
  intro p e s m below meth c C hr hnm hsz
  have C : zC p s m ([.ref (xa0 lo 0), .int o] : List Value).toArray meth c b_SM_isObjectOrNull 2 R_SM D dA := C
  refine zz_iload_n C d_SM_isObjectOrNull_0 rfl ?_
  refine zz_iconst (x := -1) C d_SM_isObjectOrNull_1 rfl ?_
  refine zz_icmp_eq (tgt := 13) C d_SM_isObjectOrNull_2 (by decide) (fun h2 => ?_) (fun h2 => ?_)
  · refine zz_iconst (x := 1) C d_SM_isObjectOrNull_13 rfl ?_
    refine zz_goto (tgt := 18) C d_SM_isObjectOrNull_14 (by decide) ?_
    exact xr_i C hr rfl d_SM_isObjectOrNull_18 (by simp only [xf_isObjectOrNull, if_pos h2] <;> simp [xf_isObjectOrNull, z_at]) rfl
  · refine zz_aload_n C d_SM_isObjectOrNull_5 rfl ?_
    refine zz_iload_n C d_SM_isObjectOrNull_6 rfl ?_
    refine xc_Vi C (xw_0 Nat.zero_lt_one) rfl s_SM_161 c_SM_isObject rfl rfl d_SM_isObjectOrNull_7 k_SM_isObject ⟨by decide, by decide⟩ rfl ?_
    refine zz_if_eq (tgt := 17) C d_SM_isObjectOrNull_10 (by decide) (fun h10 => ?_) (fun h10 => ?_)
    · refine zz_iconst (x := 0) C d_SM_isObjectOrNull_17 rfl ?_
      exact xr_i C hr rfl d_SM_isObjectOrNull_18 (by simp only [xf_isObjectOrNull, if_neg h2, if_pos h10] <;> simp [xf_isObjectOrNull, z_at]) rfl
    · refine zz_iconst (x := 1) C d_SM_isObjectOrNull_13 rfl ?_
      refine zz_goto (tgt := 18) C d_SM_isObjectOrNull_14 (by decide) ?_
      exact xr_i C hr rfl d_SM_isObjectOrNull_18 (by simp only [xf_isObjectOrNull, if_neg h2, if_neg h10] <;> simp [xf_isObjectOrNull, z_at]) rfl
set_option maxHeartbeats 400000 in
set_option maxRecDepth 100000 in
theorem c_SM_hasField {l : Launch} {D : va_G} {dA : Nat → ClassId} {lo n : Nat} {σ : zS} {o f : Int32} : xM l y_SM_hasField b_SM_hasField 3 (some .boolean) 1 D dA lo n [.ref (xa0 lo 0), .int o, .int f] σ (some (.int (xf_hasField σ o f))) σ := by
  refine zM_of (lv0 := [(0, .ref (xa0 lo 0)), (1, .int o), (2, .int f)]) (by decide) rfl rfl rfl ?_
  intro p e s m below meth c C hr hnm hsz
  have C : zC p s m ([.ref (xa0 lo 0), .int o, .int f] : List Value).toArray meth c b_SM_hasField 3 R_SM D dA := C
  refine zz_aload_n C d_SM_hasField_0 rfl ?_
  refine zz_iload_n C d_SM_hasField_1 rfl ?_
  refine xc_Vi C (xw_0 Nat.zero_lt_one) rfl s_SM_161 c_SM_isObject rfl rfl d_SM_hasField_2 k_SM_isObject ⟨by decide, by decide⟩ rfl ?_
  refine zz_if_eq (tgt := 29) C d_SM_hasField_5 (by decide) (fun h5 => ?_) (fun h5 => ?_)
  · refine zz_iconst (x := 0) C d_SM_hasField_29 rfl ?_
    exact xr_i C hr rfl d_SM_hasField_30 (by simp only [xf_hasField, if_pos h5] <;> simp [xf_hasField, z_at]) rfl
  · refine zz_iload_n C d_SM_hasField_8 rfl ?_
    refine zz_if_lt (tgt := 29) C d_SM_hasField_9 (by decide) (fun h9 => ?_) (fun h9 => ?_)
    · refine zz_iconst (x := 0) C d_SM_hasField_29 rfl ?_
      exact xr_i C hr rfl d_SM_hasField_30 (by simp only [xf_hasField, if_neg h5, if_pos h9] <;> simp [xf_hasField, z_at]) rfl
    · refine zz_iload_n C d_SM_hasField_12 rfl ?_
      refine zz_aload_n C d_SM_hasField_13 rfl ?_
      refine zz_get C (ci := 3) (N := 8) 1 rfl zi_SM (by decide) fl_SM_17 (xw_0 Nat.zero_lt_one) rfl d_SM_hasField_14 ?_
      refine zz_iload_n C d_SM_hasField_17 rfl ?_
      refine zz_aald C (t0 := 3) rfl (xw_2 Nat.zero_lt_one) (x_obj h5) (fun h9 => if_pos h9) d_SM_hasField_18 (fun b18 => ?_)
      refine zz_getN C (ci := 1) (N := 4) 2 rfl zi_Ce (by decide) fn_SM_182 (xw_7 b18) rfl d_SM_hasField_19 ?_
      refine zz_icmp_ge (tgt := 29) C d_SM_hasField_22 (by decide) (fun h22 => ?_) (fun h22 => ?_)
      · refine zz_iconst (x := 0) C d_SM_hasField_29 rfl ?_
        exact xr_i C hr rfl d_SM_hasField_30 (by simp only [xf_hasField, if_neg h5, if_neg h9, if_pos h22] <;> simp [xf_hasField, z_at]) rfl
      · refine zz_iconst (x := 1) C d_SM_hasField_25 rfl ?_
        refine zz_goto (tgt := 30) C d_SM_hasField_26 (by decide) ?_
        exact xr_i C hr rfl d_SM_hasField_30 (by simp only [xf_hasField, if_neg h5, if_neg h9, if_neg h22] <;> simp [xf_hasField, z_at]) rfl
set_option maxHeartbeats 400000 in
set_option maxRecDepth 100000 in
theorem c_SM_objectOrNull {l : Launch} {D : va_G} {dA : Nat → ClassId} {lo n : Nat} {σ : zS} {o : Int32} : xM l y_SM_objectOrNull b_SM_objectOrNull 1 (some .int) 0 D dA lo n [.int o] σ (some (.int (xf_objectOrNull o))) σ := by
  refine zM_of (lv0 := [(0, .int o)]) (by decide) rfl rfl rfl ?_
  intro p e s m below meth c C hr hnm hsz
  have C : zC p s m ([.int o] : List Value).toArray meth c b_SM_objectOrNull 1 R_SM D dA := C
  refine zz_iload_n C d_SM_objectOrNull_0 rfl ?_
  refine zz_iconst (x := -1) C d_SM_objectOrNull_1 rfl ?_
  refine zz_icmp_ne (tgt := 10) C d_SM_objectOrNull_2 (by decide) (fun h2 => ?_) (fun h2 => ?_)
  · refine zz_iload_n C d_SM_objectOrNull_10 rfl ?_
    exact xr_i C hr rfl d_SM_objectOrNull_11 (by simp only [xf_objectOrNull, if_neg h2] <;> simp [xf_objectOrNull, z_at]) rfl
  · refine zz_bipush (x := -6) C d_SM_objectOrNull_5 rfl ?_
    refine zz_goto (tgt := 11) C d_SM_objectOrNull_7 (by decide) ?_
    exact xr_i C hr rfl d_SM_objectOrNull_11 (by simp only [xf_objectOrNull, if_pos h2] <;> simp [xf_objectOrNull, z_at]) rfl
set_option maxHeartbeats 400000 in
set_option maxRecDepth 100000 in
theorem c_SM_sees {l : Launch} {D : va_G} {dA : Nat → ClassId} {lo n : Nat} {σ : zS} {t o : Int32} (I : xI σ) (ht : vp_in t 4) (ho : vp_in o 40) : xM l y_SM_sees b_SM_sees 4 (some .boolean) 3 D dA lo n [.ref (xa0 lo 0), .int t, .int o] σ (some (.int (xf_sees σ t o))) σ := by
  refine zM_of (lv0 := [(0, .ref (xa0 lo 0)), (1, .int t), (2, .int o)]) (by decide) rfl rfl rfl ?_
  intro p e s m below meth c C hr hnm hsz
  have C : zC p s m ([.ref (xa0 lo 0), .int t, .int o] : List Value).toArray meth c b_SM_sees 4 R_SM D dA := C
  refine zz_aload_n C d_SM_sees_0 rfl ?_
  refine zz_get C (ci := 3) (N := 8) 1 rfl zi_SM (by decide) fl_SM_17 (xw_0 Nat.zero_lt_one) rfl d_SM_sees_1 ?_
  refine zz_iload_n C d_SM_sees_4 rfl ?_
  refine zz_aald C (t0 := 3) rfl (xw_2 Nat.zero_lt_one) ho (fun h9 => if_pos h9) d_SM_sees_5 (fun b5 => ?_)
  refine zz_getN C (ci := 1) (N := 4) 1 rfl zi_Ce (by decide) fn_SM_137 (xw_7 b5) rfl d_SM_sees_6 ?_
  refine zz_istore_n C d_SM_sees_9 (by decide) ?_
  refine zz_iload_n C d_SM_sees_10 rfl ?_
  refine zz_if_ne (tgt := 32) C d_SM_sees_11 (by decide) (fun h11 => ?_) (fun h11 => ?_)
  · refine zz_iload_n C d_SM_sees_32 rfl ?_
    refine zz_iconst (x := 1) C d_SM_sees_33 rfl ?_
    refine zz_icmp_eq (tgt := 50) C d_SM_sees_34 (by decide) (fun h34 => ?_) (fun h34 => ?_)
    · refine zz_iconst (x := 1) C d_SM_sees_50 rfl ?_
      refine zz_goto (tgt := 55) C d_SM_sees_51 (by decide) ?_
      exact xr_i C hr rfl d_SM_sees_55 (by simp only [xf_sees, if_neg h11, if_pos h34] <;> simp [xf_sees, z_at]) rfl
    · refine zz_aload_n C d_SM_sees_37 rfl ?_
      refine zz_get C (ci := 3) (N := 8) 2 rfl zi_SM (by decide) fl_SM_23 (xw_0 Nat.zero_lt_one) rfl d_SM_sees_38 ?_
      refine zz_iload_n C d_SM_sees_41 rfl ?_
      refine zz_aald C (t0 := 4) rfl (xw_3 Nat.zero_lt_one) ht (fun h9 => if_pos h9) d_SM_sees_42 (fun b42 => ?_)
      refine zz_iload_n C d_SM_sees_43 rfl ?_
      refine xc_VNi C (xw_9 b42) rfl s_SM_70 (c_Ro_hasInView b42 I) rfl rfl d_SM_sees_44 k_Ro_hasInView ⟨by decide, by decide⟩ rfl ?_
      refine zz_if_eq (tgt := 54) C d_SM_sees_47 (by decide) (fun h47 => ?_) (fun h47 => ?_)
      · refine zz_iconst (x := 0) C d_SM_sees_54 rfl ?_
        exact xr_i C hr rfl d_SM_sees_55 (by simp only [xf_sees, if_neg h11, if_neg h34, if_pos h47] <;> simp [xf_sees, z_at]) rfl
      · refine zz_iconst (x := 1) C d_SM_sees_50 rfl ?_
        refine zz_goto (tgt := 55) C d_SM_sees_51 (by decide) ?_
        exact xr_i C hr rfl d_SM_sees_55 (by simp only [xf_sees, if_neg h11, if_neg h34, if_neg h47] <;> simp [xf_sees, z_at]) rfl
  · refine zz_aload_n C d_SM_sees_14 rfl ?_
    refine zz_get C (ci := 3) (N := 8) 2 rfl zi_SM (by decide) fl_SM_23 (xw_0 Nat.zero_lt_one) rfl d_SM_sees_15 ?_
    refine zz_iload_n C d_SM_sees_18 rfl ?_
    refine zz_aald C (t0 := 4) rfl (xw_3 Nat.zero_lt_one) ht (fun h9 => if_pos h9) d_SM_sees_19 (fun b19 => ?_)
    refine zz_getN C (ci := 2) (N := 5) 4 rfl zi_Ro (by decide) fn_SM_55 (xw_9 b19) rfl d_SM_sees_20 ?_
    refine zz_if_ne (tgt := 30) C d_SM_sees_23 (by decide) (fun h23 => ?_) (fun h23 => ?_)
    · refine zz_iconst (x := 0) C d_SM_sees_30 rfl ?_
      exact xr_i C hr rfl d_SM_sees_31 (by simp only [xf_sees, if_pos h11, if_neg h23] <;> simp [xf_sees, z_at]) rfl
    · refine zz_iconst (x := 1) C d_SM_sees_26 rfl ?_
      refine zz_goto (tgt := 31) C d_SM_sees_27 (by decide) ?_
      exact xr_i C hr rfl d_SM_sees_31 (by simp only [xf_sees, if_pos h11, if_pos h23] <;> simp [xf_sees, z_at]) rfl
set_option maxHeartbeats 400000 in
set_option maxRecDepth 100000 in
theorem c_SM_seesOrNull {l : Launch} {D : va_G} {dA : Nat → ClassId} {lo n : Nat} {σ : zS} {t o : Int32} (I : xI σ) (ht : vp_in t 4) (ho : z_o 40 o) : xM l y_SM_seesOrNull b_SM_seesOrNull 3 (some .boolean) 4 D dA lo n [.ref (xa0 lo 0), .int t, .int o] σ (some (.int (xf_seesOrNull σ t o))) σ := by
  refine zM_of (lv0 := [(0, .ref (xa0 lo 0)), (1, .int t), (2, .int o)]) (by decide) rfl rfl rfl ?_
  intro p e s m below meth c C hr hnm hsz
  have C : zC p s m ([.ref (xa0 lo 0), .int t, .int o] : List Value).toArray meth c b_SM_seesOrNull 3 R_SM D dA := C
  refine zz_iload_n C d_SM_seesOrNull_0 rfl ?_
  refine zz_iconst (x := -1) C d_SM_seesOrNull_1 rfl ?_
  refine zz_icmp_eq (tgt := 14) C d_SM_seesOrNull_2 (by decide) (fun h2 => ?_) (fun h2 => ?_)
  · refine zz_iconst (x := 1) C d_SM_seesOrNull_14 rfl ?_
    refine zz_goto (tgt := 19) C d_SM_seesOrNull_15 (by decide) ?_
    exact xr_i C hr rfl d_SM_seesOrNull_19 (by simp only [xf_seesOrNull, if_pos h2] <;> simp [xf_seesOrNull, z_at]) rfl
  · refine zz_aload_n C d_SM_seesOrNull_5 rfl ?_
    refine zz_iload_n C d_SM_seesOrNull_6 rfl ?_
    refine zz_iload_n C d_SM_seesOrNull_7 rfl ?_
    refine xc_Vi C (xw_0 Nat.zero_lt_one) rfl s_SM_131 (c_SM_sees I ht (z_ovin ho h2)) rfl rfl d_SM_seesOrNull_8 k_SM_sees ⟨by decide, by decide⟩ rfl ?_
    refine zz_if_eq (tgt := 18) C d_SM_seesOrNull_11 (by decide) (fun h11 => ?_) (fun h11 => ?_)
    · refine zz_iconst (x := 0) C d_SM_seesOrNull_18 rfl ?_
      exact xr_i C hr rfl d_SM_seesOrNull_19 (by simp only [xf_seesOrNull, if_neg h2, if_pos h11] <;> simp [xf_seesOrNull, z_at]) rfl
    · refine zz_iconst (x := 1) C d_SM_seesOrNull_14 rfl ?_
      refine zz_goto (tgt := 19) C d_SM_seesOrNull_15 (by decide) ?_
      exact xr_i C hr rfl d_SM_seesOrNull_19 (by simp only [xf_seesOrNull, if_neg h2, if_neg h11] <;> simp [xf_seesOrNull, z_at]) rfl
set_option maxHeartbeats 400000 in
set_option maxRecDepth 100000 in
theorem c_SM_liesIn {l : Launch} {D : va_G} {dA : Nat → ClassId} {lo n : Nat} {σ : zS} {a z : Int32} (I : xI σ) (ha : z_o 10 a) : xM l y_SM_liesIn b_SM_liesIn 5 (some .boolean) 0 D dA lo n [.ref (xa0 lo 0), .int a, .int z] σ (some (.int (xf_liesIn σ a z))) σ := by
  refine zM_of (lv0 := [(0, .ref (xa0 lo 0)), (1, .int a), (2, .int z)]) (by decide) rfl rfl rfl ?_
  intro p e s m below meth c C hr hnm hsz
  have C : zC p s m ([.ref (xa0 lo 0), .int a, .int z] : List Value).toArray meth c b_SM_liesIn 5 R_SM D dA := C
  have loop : ∀ (k i : Nat) (q iv : Int32), iv = nI i → i + k = 10 → z_o 10 q → xf_li σ z k q = xf_liesIn σ a z → xZ p l e 0 s m ([.ref (xa0 lo 0), .int a, .int z] : List Value).toArray below meth c D dA lo 5 n (some (.int (xf_liesIn σ a z))) (σ) (σ) 5 [(0, .ref (xa0 lo 0)), (1, .int a), (2, .int z), (3, .int q), (4, .int iv)] [] := by
    intro k
    induction k with
    | zero =>
      intro i q iv hiv hik hq hres
      refine zz_iload C d_SM_liesIn_5 rfl ?_
      refine zz_bipush (x := 10) C d_SM_liesIn_7 rfl ?_
      refine zz_icmp_ge (tgt := 40) C d_SM_liesIn_9 (by decide) (fun h9 => ?_) (fun h9 => ?_)
      · refine zz_iconst (x := 0) C d_SM_liesIn_40 rfl ?_
        exact xr_i C hr rfl d_SM_liesIn_41 (by rw [← hres]; rfl) rfl
      · exact absurd (z_ge (N := 10) hiv rfl (by omega) (by omega)) h9
    | succ k ih =>
      intro i q iv hiv hik hq hres
      unfold xf_li at hres
      refine zz_iload C d_SM_liesIn_5 rfl ?_
      refine zz_bipush (x := 10) C d_SM_liesIn_7 rfl ?_
      refine zz_icmp_ge (tgt := 40) C d_SM_liesIn_9 (by decide) (fun h9 => ?_) (fun h9 => ?_)
      · exact absurd h9 (z_nge hiv rfl (show i < 10 by omega) (by decide))
      · refine zz_iload_n C d_SM_liesIn_12 rfl ?_
        refine zz_iconst (x := 2) C d_SM_liesIn_13 rfl ?_
        refine zz_icmp_lt (tgt := 40) C d_SM_liesIn_14 (by decide) (fun h14 => ?_) (fun h14 => ?_)
        · refine zz_iconst (x := 0) C d_SM_liesIn_40 rfl ?_
          exact xr_i C hr rfl d_SM_liesIn_41 (by rw [← hres, if_pos h14]) rfl
        · refine zz_iload_n C d_SM_liesIn_17 rfl ?_
          refine zz_iload_n C d_SM_liesIn_18 rfl ?_
          refine zz_icmp_ne (tgt := 24) C d_SM_liesIn_19 (by decide) (fun h19 => ?_) (fun h19 => ?_)
          · refine zz_aload_n C d_SM_liesIn_24 rfl ?_
            refine zz_get C (ci := 3) (N := 8) 0 rfl zi_SM (by decide) fl_SM_11 (xw_0 Nat.zero_lt_one) rfl d_SM_liesIn_25 ?_
            refine zz_iload_n C d_SM_liesIn_28 rfl ?_
            refine zz_aald C (t0 := 2) rfl (xw_1 Nat.zero_lt_one) (x_ge2 hq h14) (fun h9 => if_pos h9) d_SM_liesIn_29 (fun b29 => ?_)
            refine zz_getN C (ci := 0) (N := 5) 3 rfl zi_Ar (by decide) fn_SM_76 (xw_6 b29) rfl d_SM_liesIn_30 ?_
            refine zz_istore_n C d_SM_liesIn_33 (by decide) ?_
            refine zz_iinc (d' := 1) C d_SM_liesIn_34 rfl rfl (by decide) ?_
            refine zz_goto (tgt := 5) C d_SM_liesIn_37 (by decide) ?_
            refine zz_lv [0, 1, 2, 3, 4] rfl ?_
            exact ih (i + 1) _ _ (z_sI hiv) (by omega) (Or.inr (I.2.1 _ b29)) (by rw [← hres, if_neg h14, if_neg h19])
          · refine zz_iconst (x := 1) C d_SM_liesIn_22 rfl ?_
            exact xr_i C hr rfl d_SM_liesIn_23 (by rw [← hres, if_neg h14, if_pos h19]) rfl
  refine zz_iload_n C d_SM_liesIn_0 rfl ?_
  refine zz_istore_n C d_SM_liesIn_1 (by decide) ?_
  refine zz_iconst (x := 0) C d_SM_liesIn_2 rfl ?_
  refine zz_istore C d_SM_liesIn_3 (by decide) ?_
  refine zz_lv [0, 1, 2, 3, 4] rfl ?_
  exact loop 10 0 _ _ nI_0.symm rfl ha rfl
set_option maxHeartbeats 400000 in
set_option maxRecDepth 100000 in
theorem c_SM_mayPointTo {l : Launch} {D : va_G} {dA : Nat → ClassId} {lo n : Nat} {σ : zS} {a o : Int32} (I : xI σ) (ha : z_o 10 a) (ho : vp_in o 40) : xM l y_SM_mayPointTo b_SM_mayPointTo 4 (some .boolean) 1 D dA lo n [.ref (xa0 lo 0), .int a, .int o] σ (some (.int (xf_mayPointTo σ a o))) σ := by
  refine zM_of (lv0 := [(0, .ref (xa0 lo 0)), (1, .int a), (2, .int o)]) (by decide) rfl rfl rfl ?_
  intro p e s m below meth c C hr hnm hsz
  have C : zC p s m ([.ref (xa0 lo 0), .int a, .int o] : List Value).toArray meth c b_SM_mayPointTo 4 R_SM D dA := C
  refine zz_aload_n C d_SM_mayPointTo_0 rfl ?_
  refine zz_get C (ci := 3) (N := 8) 1 rfl zi_SM (by decide) fl_SM_17 (xw_0 Nat.zero_lt_one) rfl d_SM_mayPointTo_1 ?_
  refine zz_iload_n C d_SM_mayPointTo_4 rfl ?_
  refine zz_aald C (t0 := 3) rfl (xw_2 Nat.zero_lt_one) ho (fun h9 => if_pos h9) d_SM_mayPointTo_5 (fun b5 => ?_)
  refine zz_getN C (ci := 1) (N := 4) 1 rfl zi_Ce (by decide) fn_SM_137 (xw_7 b5) rfl d_SM_mayPointTo_6 ?_
  refine zz_istore_n C d_SM_mayPointTo_9 (by decide) ?_
  refine zz_iload_n C d_SM_mayPointTo_10 rfl ?_
  refine zz_if_eq (tgt := 28) C d_SM_mayPointTo_11 (by decide) (fun h11 => ?_) (fun h11 => ?_)
  · refine zz_iconst (x := 1) C d_SM_mayPointTo_28 rfl ?_
    refine zz_goto (tgt := 33) C d_SM_mayPointTo_29 (by decide) ?_
    exact xr_i C hr rfl d_SM_mayPointTo_33 (by simp only [xf_mayPointTo, if_pos h11] <;> simp [xf_mayPointTo, z_at]) rfl
  · refine zz_iload_n C d_SM_mayPointTo_14 rfl ?_
    refine zz_iconst (x := 1) C d_SM_mayPointTo_15 rfl ?_
    refine zz_icmp_eq (tgt := 28) C d_SM_mayPointTo_16 (by decide) (fun h16 => ?_) (fun h16 => ?_)
    · refine zz_iconst (x := 1) C d_SM_mayPointTo_28 rfl ?_
      refine zz_goto (tgt := 33) C d_SM_mayPointTo_29 (by decide) ?_
      exact xr_i C hr rfl d_SM_mayPointTo_33 (by simp only [xf_mayPointTo, if_neg h11, if_pos h16] <;> simp [xf_mayPointTo, z_at]) rfl
    · refine zz_aload_n C d_SM_mayPointTo_19 rfl ?_
      refine zz_iload_n C d_SM_mayPointTo_20 rfl ?_
      refine zz_iload_n C d_SM_mayPointTo_21 rfl ?_
      refine xc_Vi C (xw_0 Nat.zero_lt_one) rfl s_SM_185 (c_SM_liesIn I ha) rfl rfl d_SM_mayPointTo_22 k_SM_liesIn ⟨by decide, by decide⟩ rfl ?_
      refine zz_if_eq (tgt := 32) C d_SM_mayPointTo_25 (by decide) (fun h25 => ?_) (fun h25 => ?_)
      · refine zz_iconst (x := 0) C d_SM_mayPointTo_32 rfl ?_
        exact xr_i C hr rfl d_SM_mayPointTo_33 (by simp only [xf_mayPointTo, if_neg h11, if_neg h16, if_pos h25] <;> simp [xf_mayPointTo, z_at]) rfl
      · refine zz_iconst (x := 1) C d_SM_mayPointTo_28 rfl ?_
        refine zz_goto (tgt := 33) C d_SM_mayPointTo_29 (by decide) ?_
        exact xr_i C hr rfl d_SM_mayPointTo_33 (by simp only [xf_mayPointTo, if_neg h11, if_neg h16, if_neg h25] <;> simp [xf_mayPointTo, z_at]) rfl
set_option maxHeartbeats 400000 in
set_option maxRecDepth 100000 in
theorem c_SM_begunThreads {l : Launch} {D : va_G} {dA : Nat → ClassId} {lo n : Nat} {σ : zS}  : xM l y_SM_begunThreads b_SM_begunThreads 3 (some .int) 2 D dA lo n [.ref (xa0 lo 0)] σ (some (.int (xf_begunThreads σ))) σ := by
  refine zM_of (lv0 := [(0, .ref (xa0 lo 0))]) (by decide) rfl rfl rfl ?_
  intro p e s m below meth c C hr hnm hsz
  have C : zC p s m ([.ref (xa0 lo 0)] : List Value).toArray meth c b_SM_begunThreads 3 R_SM D dA := C
  have loop : ∀ (k i : Nat) (b iv : Int32), iv = nI i → i + k = 4 → xf_bt σ k i b = xf_begunThreads σ → xZ p l e 2 s m ([.ref (xa0 lo 0)] : List Value).toArray below meth c D dA lo 3 n (some (.int (xf_begunThreads σ))) (σ) (σ) 4 [(0, .ref (xa0 lo 0)), (1, .int b), (2, .int iv)] [] := by
    intro k
    induction k with
    | zero =>
      intro i b iv hiv hik hres
      refine zz_iload_n C d_SM_begunThreads_4 rfl ?_
      refine zz_iconst (x := 4) C d_SM_begunThreads_5 rfl ?_
      refine zz_icmp_ge (tgt := 26) C d_SM_begunThreads_6 (by decide) (fun h6 => ?_) (fun h6 => ?_)
      · refine zz_iload_n C d_SM_begunThreads_26 rfl ?_
        exact xr_i C hr rfl d_SM_begunThreads_27 hres rfl
      · exact absurd (z_ge (N := 4) hiv rfl (by omega) (by omega)) h6
    | succ k ih =>
      intro i b iv hiv hik hres
      unfold xf_bt at hres
      refine zz_iload_n C d_SM_begunThreads_4 rfl ?_
      refine zz_iconst (x := 4) C d_SM_begunThreads_5 rfl ?_
      refine zz_icmp_ge (tgt := 26) C d_SM_begunThreads_6 (by decide) (fun h6 => ?_) (fun h6 => ?_)
      · exact absurd h6 (z_nge hiv rfl (show i < 4 by omega) (by decide))
      · refine zz_aload_n C d_SM_begunThreads_9 rfl ?_
        refine zz_iload_n C d_SM_begunThreads_10 rfl ?_
        refine xc_Vi C (xw_0 Nat.zero_lt_one) rfl s_SM_52 c_SM_isBegun rfl rfl d_SM_begunThreads_11 k_SM_isBegun ⟨by decide, by decide⟩ rfl ?_
        refine zz_if_eq (tgt := 20) C d_SM_begunThreads_14 (by decide) (fun h14 => ?_) (fun h14 => ?_)
        · refine zz_iinc (d' := 1) C d_SM_begunThreads_20 rfl rfl (by decide) ?_
          refine zz_goto (tgt := 4) C d_SM_begunThreads_23 (by decide) ?_
          refine zz_lv [0, 1, 2] rfl ?_
          rw [hiv] at h14
          exact ih (i + 1) _ _ (z_sI hiv) (by omega) (by rw [← hres, if_pos h14])
        · refine zz_iinc (d' := 1) C d_SM_begunThreads_17 rfl rfl (by decide) ?_
          refine zz_iinc (d' := 1) C d_SM_begunThreads_20 rfl rfl (by decide) ?_
          refine zz_goto (tgt := 4) C d_SM_begunThreads_23 (by decide) ?_
          refine zz_lv [0, 1, 2] rfl ?_
          rw [hiv] at h14
          exact ih (i + 1) _ _ (z_sI hiv) (by omega) (by rw [← hres, if_neg h14])
  refine zz_iconst (x := 0) C d_SM_begunThreads_0 rfl ?_
  refine zz_istore_n C d_SM_begunThreads_1 (by decide) ?_
  refine zz_iconst (x := 0) C d_SM_begunThreads_2 rfl ?_
  refine zz_istore_n C d_SM_begunThreads_3 (by decide) ?_
  refine zz_lv [0, 1, 2] rfl ?_
  exact loop 4 0 _ _ nI_0.symm rfl rfl
set_option maxHeartbeats 400000 in
set_option maxRecDepth 100000 in
theorem c_SM_leastFreeNumber {l : Launch} {D : va_G} {dA : Nat → ClassId} {lo n : Nat} {σ : zS}  : xM l y_SM_leastFreeNumber b_SM_leastFreeNumber 2 (some .int) 0 D dA lo n [.ref (xa0 lo 0)] σ (some (.int (xf_leastFreeNumber σ))) σ := by
  refine zM_of (lv0 := [(0, .ref (xa0 lo 0))]) (by decide) rfl rfl rfl ?_
  intro p e s m below meth c C hr hnm hsz
  have C : zC p s m ([.ref (xa0 lo 0)] : List Value).toArray meth c b_SM_leastFreeNumber 2 R_SM D dA := C
  have loop : ∀ (k i : Nat) (iv : Int32), iv = nI i → i + k = 40 → xf_lf σ k i = xf_leastFreeNumber σ → xZ p l e 0 s m ([.ref (xa0 lo 0)] : List Value).toArray below meth c D dA lo 2 n (some (.int (xf_leastFreeNumber σ))) (σ) (σ) 2 [(0, .ref (xa0 lo 0)), (1, .int iv)] [] := by
    intro k
    induction k with
    | zero =>
      intro i iv hiv hik hres
      refine zz_iload_n C d_SM_leastFreeNumber_2 rfl ?_
      refine zz_bipush (x := 40) C d_SM_leastFreeNumber_3 rfl ?_
      refine zz_icmp_ge (tgt := 29) C d_SM_leastFreeNumber_5 (by decide) (fun h5 => ?_) (fun h5 => ?_)
      · refine zz_iconst (x := -1) C d_SM_leastFreeNumber_29 rfl ?_
        exact xr_i C hr rfl d_SM_leastFreeNumber_30 (by rw [← hres]; rfl) rfl
      · exact absurd (z_ge (N := 40) hiv rfl (by omega) (by omega)) h5
    | succ k ih =>
      intro i iv hiv hik hres
      unfold xf_lf at hres
      have hix : iv.toNatClampNeg = i := z_ixI hiv (by omega)
      refine zz_iload_n C d_SM_leastFreeNumber_2 rfl ?_
      refine zz_bipush (x := 40) C d_SM_leastFreeNumber_3 rfl ?_
      refine zz_icmp_ge (tgt := 29) C d_SM_leastFreeNumber_5 (by decide) (fun h5 => ?_) (fun h5 => ?_)
      · exact absurd h5 (z_nge hiv rfl (show i < 40 by omega) (by decide))
      · refine zz_aload_n C d_SM_leastFreeNumber_8 rfl ?_
        refine zz_get C (ci := 3) (N := 8) 1 rfl zi_SM (by decide) fl_SM_17 (xw_0 Nat.zero_lt_one) rfl d_SM_leastFreeNumber_9 ?_
        refine zz_iload_n C d_SM_leastFreeNumber_12 rfl ?_
        refine zz_aald C (t0 := 3) rfl (xw_2 Nat.zero_lt_one) (z_vinI hiv (by omega) (by decide)) (fun h9 => if_pos h9) d_SM_leastFreeNumber_13 (fun b13 => ?_)
        refine zz_getN C (ci := 1) (N := 4) 1 rfl zi_Ce (by decide) fn_SM_137 (xw_7 b13) rfl d_SM_leastFreeNumber_14 ?_
        refine zz_iconst (x := -1) C d_SM_leastFreeNumber_17 rfl ?_
        refine zz_icmp_ne (tgt := 23) C d_SM_leastFreeNumber_18 (by decide) (fun h18 => ?_) (fun h18 => ?_)
        · refine zz_iinc (d' := 1) C d_SM_leastFreeNumber_23 rfl rfl (by decide) ?_
          refine zz_goto (tgt := 2) C d_SM_leastFreeNumber_26 (by decide) ?_
          refine zz_lv [0, 1] rfl ?_
          rw [hix] at h18
          exact ih (i + 1) _ (z_sI hiv) (by omega) (by rw [← hres, if_neg h18])
        · refine zz_iload_n C d_SM_leastFreeNumber_21 rfl ?_
          rw [hix] at h18
          exact xr_i C hr rfl d_SM_leastFreeNumber_22 (by rw [← hres, if_pos h18, hiv]) rfl
  refine zz_iconst (x := 0) C d_SM_leastFreeNumber_0 rfl ?_
  refine zz_istore_n C d_SM_leastFreeNumber_1 (by decide) ?_
  refine zz_lv [0, 1] rfl ?_
  exact loop 40 0 _ nI_0.symm rfl rfl
set_option maxHeartbeats 400000 in
set_option maxRecDepth 100000 in
theorem c_SM_drop {l : Launch} {D : va_G} {dA : Nat → ClassId} {lo n : Nat} {σ : zS} {o : Int32} (ho : vp_in o 40) (ha : vp_in (σ 6 (z_ix o) 0) 10) : xM l y_SM_drop b_SM_drop 3 none 0 D dA lo n [.ref (xa0 lo 0), .int o] σ none (xf_drop σ o) := by
  refine zM_of (lv0 := [(0, .ref (xa0 lo 0)), (1, .int o)]) (by decide) rfl rfl rfl ?_
  intro p e s m below meth c C hr hnm hsz
  have C : zC p s m ([.ref (xa0 lo 0), .int o] : List Value).toArray meth c b_SM_drop 3 R_SM D dA := C
  refine zz_aload_n C d_SM_drop_0 rfl ?_
  refine zz_get C (ci := 3) (N := 8) 1 rfl zi_SM (by decide) fl_SM_17 (xw_0 Nat.zero_lt_one) rfl d_SM_drop_1 ?_
  refine zz_iload_n C d_SM_drop_4 rfl ?_
  refine zz_aald C (t0 := 3) rfl (xw_2 Nat.zero_lt_one) ho (fun h9 => if_pos h9) d_SM_drop_5 (fun b5 => ?_)
  refine zz_astore_n C d_SM_drop_6 (by decide) ?_
  refine zz_aload_n C d_SM_drop_7 rfl ?_
  refine zz_get C (ci := 3) (N := 8) 0 rfl zi_SM (by decide) fl_SM_11 (xw_0 Nat.zero_lt_one) rfl d_SM_drop_8 ?_
  refine zz_aload_n C d_SM_drop_11 rfl ?_
  refine zz_getN C (ci := 1) (N := 4) 1 rfl zi_Ce (by decide) fn_SM_137 (xw_7 b5) rfl d_SM_drop_12 ?_
  refine zz_aald C (t0 := 2) rfl (xw_1 Nat.zero_lt_one) ha (fun h9 => if_pos h9) d_SM_drop_15 (fun b15 => ?_)
  refine zz_dup C d_SM_drop_16 rfl ?_
  refine zz_getN C (ci := 0) (N := 5) 1 rfl zi_Ar (by decide) fn_SM_118 (xw_6 b15) rfl d_SM_drop_17 ?_
  refine zz_iconst (x := 1) C d_SM_drop_20 rfl ?_
  refine zz_aload_n C d_SM_drop_21 rfl ?_
  refine zz_getN C (ci := 1) (N := 4) 2 rfl zi_Ce (by decide) fn_SM_182 (xw_7 b5) rfl d_SM_drop_22 ?_
  refine zz_iadd C d_SM_drop_25 ?_
  refine zz_isub C d_SM_drop_26 ?_
  refine xpN_1 C fn_SM_118 b15 rfl rfl d_SM_drop_27 ?_
  refine zz_aload_n C d_SM_drop_30 rfl ?_
  refine zz_iconst (x := -1) C d_SM_drop_31 rfl ?_
  refine xpN_6 C fn_SM_137 b5 rfl rfl d_SM_drop_32 ?_
  refine zz_aload_n C d_SM_drop_35 rfl ?_
  refine zz_dup C d_SM_drop_36 rfl ?_
  refine zz_get C (ci := 3) (N := 8) 7 rfl zi_SM (by decide) fl_SM_121 (xw_0 Nat.zero_lt_one) rfl d_SM_drop_37 ?_
  refine zz_iconst (x := 1) C d_SM_drop_40 rfl ?_
  refine zz_isub C d_SM_drop_41 ?_
  refine xp_18 C fl_SM_121 Nat.zero_lt_one rfl rfl d_SM_drop_42 ?_
  exact xr_v C hr d_SM_drop_45 (by first | rfl | simp [xf_drop, z_at])
set_option maxHeartbeats 400000 in
set_option maxRecDepth 100000 in
theorem c_SM_emptyScope {l : Launch} {D : va_G} {dA : Nat → ClassId} {lo n : Nat} {σ : zS} {z : Int32} (hz : vp_in z 10) : xM l y_SM_emptyScope b_SM_emptyScope 3 none 1 D dA lo n [.ref (xa0 lo 0), .int z] σ none (xf_emptyScope σ z) := by
  refine zM_of (lv0 := [(0, .ref (xa0 lo 0)), (1, .int z)]) (by decide) rfl rfl rfl ?_
  intro p e s m below meth c C hr hnm hsz
  have C : zC p s m ([.ref (xa0 lo 0), .int z] : List Value).toArray meth c b_SM_emptyScope 3 R_SM D dA := C
  generalize hT : xf_es z 40 0 σ = T
  have loop : ∀ (k i : Nat) (iv : Int32) (σ1 : zS), iv = nI i → i + k = 40 → xf_es z k i σ1 = T → xZ p l e 1 s m ([.ref (xa0 lo 0), .int z] : List Value).toArray below meth c D dA lo 3 n none (xf_emptyScope σ z) (σ1) 2 [(0, .ref (xa0 lo 0)), (1, .int z), (2, .int iv)] [] := by
    intro k
    induction k with
    | zero =>
      intro i iv σ1 hiv hik hres
      have hres : σ1 = T := hres
      refine zz_iload_n C d_SM_emptyScope_2 rfl ?_
      refine zz_bipush (x := 40) C d_SM_emptyScope_3 rfl ?_
      refine zz_icmp_ge (tgt := 32) C d_SM_emptyScope_5 (by decide) (fun h5 => ?_) (fun h5 => ?_)
      · refine zz_aload_n C d_SM_emptyScope_32 rfl ?_
        refine zz_get C (ci := 3) (N := 8) 0 rfl zi_SM (by decide) fl_SM_11 (xw_0 Nat.zero_lt_one) rfl d_SM_emptyScope_33 ?_
        refine zz_iload_n C d_SM_emptyScope_36 rfl ?_
        refine zz_aald C (t0 := 2) rfl (xw_1 Nat.zero_lt_one) hz (fun h9 => if_pos h9) d_SM_emptyScope_37 (fun b37 => ?_)
        refine zz_iconst (x := 0) C d_SM_emptyScope_38 rfl ?_
        refine xpN_3 C fn_SM_76 b37 rfl rfl d_SM_emptyScope_39 ?_
        refine zz_aload_n C d_SM_emptyScope_42 rfl ?_
        refine zz_get C (ci := 3) (N := 8) 0 rfl zi_SM (by decide) fl_SM_11 (xw_0 Nat.zero_lt_one) rfl d_SM_emptyScope_43 ?_
        refine zz_iload_n C d_SM_emptyScope_46 rfl ?_
        refine zz_aald C (t0 := 2) rfl (xw_1 Nat.zero_lt_one) hz (fun h9 => if_pos h9) d_SM_emptyScope_47 (fun b47 => ?_)
        refine zz_iconst (x := -1) C d_SM_emptyScope_48 rfl ?_
        refine xpN_4 C fn_SM_146 b47 rfl rfl d_SM_emptyScope_49 ?_
        exact xr_v C hr d_SM_emptyScope_52 (by rw [hres, ← hT]; rfl)
      · exact absurd (z_ge (N := 40) hiv rfl (by omega) (by omega)) h5
    | succ k ih =>
      intro i iv σ1 hiv hik hres
      unfold xf_es at hres
      have hix : iv.toNatClampNeg = i := z_ixI hiv (by omega)
      refine zz_iload_n C d_SM_emptyScope_2 rfl ?_
      refine zz_bipush (x := 40) C d_SM_emptyScope_3 rfl ?_
      refine zz_icmp_ge (tgt := 32) C d_SM_emptyScope_5 (by decide) (fun h5 => ?_) (fun h5 => ?_)
      · exact absurd h5 (z_nge hiv rfl (show i < 40 by omega) (by decide))
      · refine zz_aload_n C d_SM_emptyScope_8 rfl ?_
        refine zz_get C (ci := 3) (N := 8) 1 rfl zi_SM (by decide) fl_SM_17 (xw_0 Nat.zero_lt_one) rfl d_SM_emptyScope_9 ?_
        refine zz_iload_n C d_SM_emptyScope_12 rfl ?_
        refine zz_aald C (t0 := 3) rfl (xw_2 Nat.zero_lt_one) (z_vinI hiv (by omega) (by decide)) (fun h9 => if_pos h9) d_SM_emptyScope_13 (fun b13 => ?_)
        refine zz_getN C (ci := 1) (N := 4) 1 rfl zi_Ce (by decide) fn_SM_137 (xw_7 b13) rfl d_SM_emptyScope_14 ?_
        refine zz_iload_n C d_SM_emptyScope_17 rfl ?_
        refine zz_icmp_ne (tgt := 26) C d_SM_emptyScope_18 (by decide) (fun h18 => ?_) (fun h18 => ?_)
        · refine zz_iinc (d' := 1) C d_SM_emptyScope_26 rfl rfl (by decide) ?_
          refine zz_goto (tgt := 2) C d_SM_emptyScope_29 (by decide) ?_
          refine zz_lv [0, 1, 2] rfl ?_
          rw [hix] at h18
          exact ih (i + 1) _ _ (z_sI hiv) (by omega) (by rw [← hres, if_neg h18])
        · refine zz_aload_n C d_SM_emptyScope_21 rfl ?_
          refine zz_iload_n C d_SM_emptyScope_22 rfl ?_
          refine xc_Vv C (xw_0 Nat.zero_lt_one) rfl s_SM_158 (c_SM_drop (z_vinI hiv (by omega) (by decide)) (by rw [h18]; exact hz)) rfl rfl d_SM_emptyScope_23 k_SM_drop ⟨by decide, by decide⟩ rfl ?_
          refine zz_iinc (d' := 1) C d_SM_emptyScope_26 rfl rfl (by decide) ?_
          refine zz_goto (tgt := 2) C d_SM_emptyScope_29 (by decide) ?_
          refine zz_lv [0, 1, 2] rfl ?_
          rw [hix] at h18
          exact ih (i + 1) _ _ (z_sI hiv) (by omega) (by rw [← hres, if_pos h18, hiv])
  refine zz_iconst (x := 0) C d_SM_emptyScope_0 rfl ?_
  refine zz_istore_n C d_SM_emptyScope_1 (by decide) ?_
  refine zz_lv [0, 1, 2] rfl ?_
  exact loop 40 0 _ _ nI_0.symm rfl hT
set_option maxHeartbeats 400000 in
set_option maxRecDepth 100000 in
theorem c_SM_dropEntry {l : Launch} {D : va_G} {dA : Nat → ClassId} {lo n : Nat} {σ : zS} {z : Int32} (hz : vp_in z 10) : xM l y_SM_dropEntry b_SM_dropEntry 2 none 2 D dA lo n [.ref (xa0 lo 0), .int z] σ none (xf_dropEntry σ z) := by
  refine zM_of (lv0 := [(0, .ref (xa0 lo 0)), (1, .int z)]) (by decide) rfl rfl rfl ?_
  intro p e s m below meth c C hr hnm hsz
  have C : zC p s m ([.ref (xa0 lo 0), .int z] : List Value).toArray meth c b_SM_dropEntry 2 R_SM D dA := C
  refine zz_aload_n C d_SM_dropEntry_0 rfl ?_
  refine zz_get C (ci := 3) (N := 8) 0 rfl zi_SM (by decide) fl_SM_11 (xw_0 Nat.zero_lt_one) rfl d_SM_dropEntry_1 ?_
  refine zz_iload_n C d_SM_dropEntry_4 rfl ?_
  refine zz_aald C (t0 := 2) rfl (xw_1 Nat.zero_lt_one) hz (fun h9 => if_pos h9) d_SM_dropEntry_5 (fun b5 => ?_)
  refine zz_dup C d_SM_dropEntry_6 rfl ?_
  refine zz_getN C (ci := 0) (N := 5) 2 rfl zi_Ar (by decide) fn_SM_73 (xw_6 b5) rfl d_SM_dropEntry_7 ?_
  refine zz_iconst (x := 1) C d_SM_dropEntry_10 rfl ?_
  refine zz_isub C d_SM_dropEntry_11 ?_
  refine xpN_2 C fn_SM_73 b5 rfl rfl d_SM_dropEntry_12 ?_
  refine zz_aload_n C d_SM_dropEntry_15 rfl ?_
  refine zz_get C (ci := 3) (N := 8) 0 rfl zi_SM (by decide) fl_SM_11 (xw_0 Nat.zero_lt_one) rfl d_SM_dropEntry_16 ?_
  refine zz_iload_n C d_SM_dropEntry_19 rfl ?_
  refine zz_aald C (t0 := 2) rfl (xw_1 Nat.zero_lt_one) hz (fun h9 => if_pos h9) d_SM_dropEntry_20 (fun b20 => ?_)
  refine zz_getN C (ci := 0) (N := 5) 2 rfl zi_Ar (by decide) fn_SM_73 (xw_6 b20) rfl d_SM_dropEntry_21 ?_
  refine zz_if_ne (tgt := 32) C d_SM_dropEntry_24 (by decide) (fun h24 => ?_) (fun h24 => ?_)
  · rw [z_at, if_pos ⟨rfl, rfl, rfl⟩] at h24
    exact xr_v C hr d_SM_dropEntry_32 (by unfold xf_dropEntry; rw [if_neg h24])
  · refine zz_aload_n C d_SM_dropEntry_27 rfl ?_
    refine zz_iload_n C d_SM_dropEntry_28 rfl ?_
    refine xc_Vv C (xw_0 Nat.zero_lt_one) rfl s_SM_188 (c_SM_emptyScope hz) rfl rfl d_SM_dropEntry_29 k_SM_emptyScope ⟨by decide, by decide⟩ rfl ?_
    rw [z_at, if_pos ⟨rfl, rfl, rfl⟩] at h24
    exact xr_v C hr d_SM_dropEntry_32 (by unfold xf_dropEntry; rw [if_pos h24])
set_option maxHeartbeats 400000 in
set_option maxRecDepth 100000 in
theorem c_SM_keep {l : Launch} {D : va_G} {dA : Nat → ClassId} {lo n : Nat} {σ : zS} {o : Int32} (ho : z_o 40 o) (F : xF σ) : xM l y_SM_keep b_SM_keep 2 none 0 D dA lo n [.ref (xa0 lo 0), .int o] σ none (xf_keep σ o) := by
  refine zM_of (lv0 := [(0, .ref (xa0 lo 0)), (1, .int o)]) (by decide) rfl rfl rfl ?_
  intro p e s m below meth c C hr hnm hsz
  have C : zC p s m ([.ref (xa0 lo 0), .int o] : List Value).toArray meth c b_SM_keep 2 R_SM D dA := C
  refine zz_iload_n C d_SM_keep_0 rfl ?_
  refine zz_iconst (x := -1) C d_SM_keep_1 rfl ?_
  refine zz_icmp_eq (tgt := 29) C d_SM_keep_2 (by decide) (fun h2 => ?_) (fun h2 => ?_)
  · exact xr_v C hr d_SM_keep_29 (by simp [xf_keep, z_at, h2])
  · refine zz_aload_n C d_SM_keep_5 rfl ?_
    refine zz_get C (ci := 3) (N := 8) 1 rfl zi_SM (by decide) fl_SM_17 (xw_0 Nat.zero_lt_one) rfl d_SM_keep_6 ?_
    refine zz_iload_n C d_SM_keep_9 rfl ?_
    refine zz_aald C (t0 := 3) rfl (xw_2 Nat.zero_lt_one) (z_ovin ho h2) (fun h9 => if_pos h9) d_SM_keep_10 (fun b10 => ?_)
    refine zz_getN C (ci := 1) (N := 4) 1 rfl zi_Ce (by decide) fn_SM_137 (xw_7 b10) rfl d_SM_keep_11 ?_
    refine zz_if_ne (tgt := 29) C d_SM_keep_14 (by decide) (fun h14 => ?_) (fun h14 => ?_)
    · exact xr_v C hr d_SM_keep_29 (by simp [xf_keep, z_at, h2, h14])
    · refine zz_aload_n C d_SM_keep_17 rfl ?_
      refine zz_get C (ci := 3) (N := 8) 1 rfl zi_SM (by decide) fl_SM_17 (xw_0 Nat.zero_lt_one) rfl d_SM_keep_18 ?_
      refine zz_iload_n C d_SM_keep_21 rfl ?_
      refine zz_aald C (t0 := 3) rfl (xw_2 Nat.zero_lt_one) (z_ovin ho h2) (fun h9 => if_pos h9) d_SM_keep_22 (fun b22 => ?_)
      refine zz_getN C (ci := 1) (N := 4) 3 rfl zi_Ce (by decide) fn_SM_155 (xw_7 b22) rfl d_SM_keep_23 ?_
      refine zz_if_eq (tgt := 30) C d_SM_keep_26 (by decide) (fun h26 => ?_) (fun h26 => ?_)
      · refine zz_aload_n C d_SM_keep_30 rfl ?_
        refine zz_get C (ci := 3) (N := 8) 1 rfl zi_SM (by decide) fl_SM_17 (xw_0 Nat.zero_lt_one) rfl d_SM_keep_31 ?_
        refine zz_iload_n C d_SM_keep_34 rfl ?_
        refine zz_aald C (t0 := 3) rfl (xw_2 Nat.zero_lt_one) (z_ovin ho h2) (fun h9 => if_pos h9) d_SM_keep_35 (fun b35 => ?_)
        refine zz_iconst (x := 1) C d_SM_keep_36 rfl ?_
        refine xpN_8 C fn_SM_155 b35 rfl rfl d_SM_keep_37 ?_
        refine zz_aload_n C d_SM_keep_40 rfl ?_
        refine zz_get C (ci := 3) (N := 8) 4 rfl zi_SM (by decide) fl_SM_31 (xw_0 Nat.zero_lt_one) rfl d_SM_keep_41 ?_
        refine zz_aload_n C d_SM_keep_44 rfl ?_
        refine zz_get C (ci := 3) (N := 8) 5 rfl zi_SM (by decide) fl_SM_170 (xw_0 Nat.zero_lt_one) rfl d_SM_keep_45 ?_
        refine zz_iload_n C d_SM_keep_48 rfl ?_
        refine xs_15 C Nat.zero_lt_one (x_keep_in (σ := σ) F (z_ovin ho h2) h26) d_SM_keep_49 ?_
        refine zz_aload_n C d_SM_keep_50 rfl ?_
        refine zz_dup C d_SM_keep_51 rfl ?_
        refine zz_get C (ci := 3) (N := 8) 5 rfl zi_SM (by decide) fl_SM_170 (xw_0 Nat.zero_lt_one) rfl d_SM_keep_52 ?_
        refine zz_iconst (x := 1) C d_SM_keep_55 rfl ?_
        refine zz_iadd C d_SM_keep_56 ?_
        refine xp_16 C fl_SM_170 Nat.zero_lt_one rfl rfl d_SM_keep_57 ?_
        exact xr_v C hr d_SM_keep_60 (by simp [xf_keep, z_at, h2, h14, h26])
      · exact xr_v C hr d_SM_keep_29 (by simp [xf_keep, z_at, h2, h14, h26])
set_option maxHeartbeats 400000 in
set_option maxRecDepth 100000 in
theorem c_SM_keepFieldsOf {l : Launch} {D : va_G} {dA : Nat → ClassId} {lo n : Nat} {σ : zS} {o : Int32} (I : xI σ) (F : xF σ) (ho : vp_in o 40) : xM l y_SM_keepFieldsOf b_SM_keepFieldsOf 4 none 1 D dA lo n [.ref (xa0 lo 0), .int o] σ none (xf_keepFieldsOf σ o) := by
  refine zM_of (lv0 := [(0, .ref (xa0 lo 0)), (1, .int o)]) (by decide) rfl rfl rfl ?_
  intro p e s m below meth c C hr hnm hsz
  have C : zC p s m ([.ref (xa0 lo 0), .int o] : List Value).toArray meth c b_SM_keepFieldsOf 4 R_SM D dA := C
  have hl : o.toNatClampNeg < 40 := z_vlt ho
  have loop : ∀ (k i : Nat) (iv : Int32) (σ1 : zS), iv = nI i → i + k = 4 → xI σ1 → xF σ1 → xf_kl (z_ix o) k i σ1 = xf_keepFieldsOf σ o → xZ p l e 1 s m ([.ref (xa0 lo 0), .int o] : List Value).toArray below meth c D dA lo 4 n none (xf_keepFieldsOf σ o) (σ1) 9 [(0, .ref (xa0 lo 0)), (2, .ref (xa7 lo o.toNatClampNeg)), (3, .int iv)] [] := by
    intro k
    induction k with
    | zero =>
      intro i iv σ1 hiv hik I1 F1 hres
      refine zz_iload_n C d_SM_keepFieldsOf_9 rfl ?_
      refine zz_aload_n C d_SM_keepFieldsOf_10 rfl ?_
      refine zz_getN C (ci := 1) (N := 4) 2 rfl zi_Ce (by decide) fn_SM_182 (xw_7 hl) rfl d_SM_keepFieldsOf_11 ?_
      refine zz_icmp_ge (tgt := 38) C d_SM_keepFieldsOf_14 (by decide) (fun h14 => ?_) (fun h14 => ?_)
      · exact xr_v C hr d_SM_keepFieldsOf_38 hres
      · refine zz_iload_n C d_SM_keepFieldsOf_17 rfl ?_
        refine zz_iconst (x := 4) C d_SM_keepFieldsOf_18 rfl ?_
        refine zz_icmp_ge (tgt := 38) C d_SM_keepFieldsOf_19 (by decide) (fun h19 => ?_) (fun h19 => ?_)
        · exact xr_v C hr d_SM_keepFieldsOf_38 hres
        · exact absurd (z_ge (N := 4) hiv rfl (by omega) (by omega)) h19
    | succ k ih =>
      intro i iv σ1 hiv hik I1 F1 hres
      unfold xf_kl at hres
      have hix : iv.toNatClampNeg = i := z_ixI hiv (by omega)
      refine zz_iload_n C d_SM_keepFieldsOf_9 rfl ?_
      refine zz_aload_n C d_SM_keepFieldsOf_10 rfl ?_
      refine zz_getN C (ci := 1) (N := 4) 2 rfl zi_Ce (by decide) fn_SM_182 (xw_7 hl) rfl d_SM_keepFieldsOf_11 ?_
      refine zz_icmp_ge (tgt := 38) C d_SM_keepFieldsOf_14 (by decide) (fun h14 => ?_) (fun h14 => ?_)
      · exact xr_v C hr d_SM_keepFieldsOf_38 (by rw [← hres, if_pos (by rw [← hiv]; exact h14)])
      · refine zz_iload_n C d_SM_keepFieldsOf_17 rfl ?_
        refine zz_iconst (x := 4) C d_SM_keepFieldsOf_18 rfl ?_
        refine zz_icmp_ge (tgt := 38) C d_SM_keepFieldsOf_19 (by decide) (fun h19 => ?_) (fun h19 => ?_)
        · exact absurd h19 (z_nge hiv rfl (show i < 4 by omega) (by decide))
        · refine zz_aload_n C d_SM_keepFieldsOf_22 rfl ?_
          refine zz_aload_n C d_SM_keepFieldsOf_23 rfl ?_
          refine zz_getN C (ci := 1) (N := 4) 0 rfl zi_Ce (by decide) fn_SM_143 (xw_7 hl) rfl d_SM_keepFieldsOf_24 ?_
          refine zz_iload_n C d_SM_keepFieldsOf_27 rfl ?_
          refine zz_iald C (t0 := 0) rfl (xw_8 hl) (z_vinI hiv (by omega) (by decide)) d_SM_keepFieldsOf_28 ?_
          refine xc_Vv C (xw_0 Nat.zero_lt_one) rfl s_SM_191 (c_SM_keep (by rw [hix]; exact I1.2.2.2.2.1 _ hl i (by omega)) F1) rfl rfl d_SM_keepFieldsOf_29 k_SM_keep ⟨by decide, by decide⟩ rfl ?_
          refine zz_iinc (d' := 1) C d_SM_keepFieldsOf_32 rfl rfl (by decide) ?_
          refine zz_goto (tgt := 9) C d_SM_keepFieldsOf_35 (by decide) ?_
          refine zz_lv [0, 2, 3] rfl ?_
          rw [hix]
          exact ih (i + 1) _ _ (z_sI hiv) (by omega) (x_keep_I I1) (x_keep_F F1 (I1.2.2.2.2.1 _ hl i (by omega))) (by rw [← hres, if_neg (by rw [← hiv]; exact h14)])
  refine zz_aload_n C d_SM_keepFieldsOf_0 rfl ?_
  refine zz_get C (ci := 3) (N := 8) 1 rfl zi_SM (by decide) fl_SM_17 (xw_0 Nat.zero_lt_one) rfl d_SM_keepFieldsOf_1 ?_
  refine zz_iload_n C d_SM_keepFieldsOf_4 rfl ?_
  refine zz_aald C (t0 := 3) rfl (xw_2 Nat.zero_lt_one) ho (fun h9 => if_pos h9) d_SM_keepFieldsOf_5 (fun b5 => ?_)
  refine zz_astore_n C d_SM_keepFieldsOf_6 (by decide) ?_
  refine zz_iconst (x := 0) C d_SM_keepFieldsOf_7 rfl ?_
  refine zz_istore_n C d_SM_keepFieldsOf_8 (by decide) ?_
  refine zz_lv [0, 2, 3] rfl ?_
  exact loop 4 0 _ _ nI_0.symm rfl I F rfl
set_option maxHeartbeats 400000 in
set_option maxRecDepth 100000 in
theorem c_SM_findKept {l : Launch} {D : va_G} {dA : Nat → ClassId} {lo n : Nat} {σ : zS} (I : xI σ) : xM l y_SM_findKept b_SM_findKept 2 none 2 D dA lo n [.ref (xa0 lo 0)] σ none (xf_findKept σ) := by
  refine zM_of (lv0 := [(0, .ref (xa0 lo 0))]) (by decide) rfl rfl rfl ?_
  intro p e s m below meth c C hr hnm hsz
  have C : zC p s m ([.ref (xa0 lo 0)] : List Value).toArray meth c b_SM_findKept 2 R_SM D dA := C
  have loop4 : ∀ (k i : Nat) (iv : Int32) (σ1 : zS), iv = nI i → i + k = 40 → xI σ1 → xF σ1 → xf_k3 k i σ1 = xf_findKept σ → xZ p l e 2 s m ([.ref (xa0 lo 0)] : List Value).toArray below meth c D dA lo 2 n none (xf_findKept σ) (σ1) 98 [(0, .ref (xa0 lo 0)), (1, .int iv)] [] := by
    intro k
    induction k with
    | zero =>
      intro i iv σ1 hiv hik I1 F1 hres
      refine zz_iload_n C d_SM_findKept_98 rfl ?_
      refine zz_aload_n C d_SM_findKept_99 rfl ?_
      refine zz_get C (ci := 3) (N := 8) 5 rfl zi_SM (by decide) fl_SM_170 (xw_0 Nat.zero_lt_one) rfl d_SM_findKept_100 ?_
      refine zz_icmp_ge (tgt := 128) C d_SM_findKept_103 (by decide) (fun h103 => ?_) (fun h103 => ?_)
      · exact xr_v C hr d_SM_findKept_128 hres
      · refine zz_iload_n C d_SM_findKept_106 rfl ?_
        refine zz_bipush (x := 40) C d_SM_findKept_107 rfl ?_
        refine zz_icmp_ge (tgt := 128) C d_SM_findKept_109 (by decide) (fun h109 => ?_) (fun h109 => ?_)
        · exact xr_v C hr d_SM_findKept_128 hres
        · exact absurd (z_ge (N := 40) hiv rfl (by omega) (by omega)) h109
    | succ k ih =>
      intro i iv σ1 hiv hik I1 F1 hres
      unfold xf_k3 at hres
      have hix : iv.toNatClampNeg = i := z_ixI hiv (by omega)
      refine zz_iload_n C d_SM_findKept_98 rfl ?_
      refine zz_aload_n C d_SM_findKept_99 rfl ?_
      refine zz_get C (ci := 3) (N := 8) 5 rfl zi_SM (by decide) fl_SM_170 (xw_0 Nat.zero_lt_one) rfl d_SM_findKept_100 ?_
      refine zz_icmp_ge (tgt := 128) C d_SM_findKept_103 (by decide) (fun h103 => ?_) (fun h103 => ?_)
      · exact xr_v C hr d_SM_findKept_128 (by rw [← hres, if_pos (by rw [← hiv]; exact h103)])
      · refine zz_iload_n C d_SM_findKept_106 rfl ?_
        refine zz_bipush (x := 40) C d_SM_findKept_107 rfl ?_
        refine zz_icmp_ge (tgt := 128) C d_SM_findKept_109 (by decide) (fun h109 => ?_) (fun h109 => ?_)
        · exact absurd h109 (z_nge hiv rfl (show i < 40 by omega) (by decide))
        · refine zz_aload_n C d_SM_findKept_112 rfl ?_
          refine zz_aload_n C d_SM_findKept_113 rfl ?_
          refine zz_get C (ci := 3) (N := 8) 4 rfl zi_SM (by decide) fl_SM_31 (xw_0 Nat.zero_lt_one) rfl d_SM_findKept_114 ?_
          refine zz_iload_n C d_SM_findKept_117 rfl ?_
          refine zz_iald C (t0 := 0) rfl (xw_5 Nat.zero_lt_one) (z_vinI hiv (by omega) (by decide)) d_SM_findKept_118 ?_
          refine xc_Vv C (xw_0 Nat.zero_lt_one) rfl s_SM_194 (c_SM_keepFieldsOf I1 F1 (by rw [hix]; exact x_found F1 (by rw [← hiv]; exact h103) (by omega))) rfl rfl d_SM_findKept_119 k_SM_keepFieldsOf ⟨by decide, by decide⟩ rfl ?_
          refine zz_iinc (d' := 1) C d_SM_findKept_122 rfl rfl (by decide) ?_
          refine zz_goto (tgt := 98) C d_SM_findKept_125 (by decide) ?_
          refine zz_lv [0, 1] rfl ?_
          rw [hix]
          have h2 := x_kfo_IF (x_found F1 (by rw [← hiv]; exact h103) (by omega)) I1 F1
          exact ih (i + 1) _ _ (z_sI hiv) (by omega) h2.1 h2.2 (by rw [← hres, if_neg (by rw [← hiv]; exact h103)])
  have loop3 : ∀ (k i : Nat) (iv : Int32) (σ1 : zS), iv = nI i → i + k = 40 → xI σ1 → xF σ1 → xf_k3 40 0 (xf_k2 k i σ1) = xf_findKept σ → xZ p l e 2 s m ([.ref (xa0 lo 0)] : List Value).toArray below meth c D dA lo 2 n none (xf_findKept σ) (σ1) 54 [(0, .ref (xa0 lo 0)), (1, .int iv)] [] := by
    intro k
    induction k with
    | zero =>
      intro i iv σ1 hiv hik I1 F1 hres
      refine zz_iload_n C d_SM_findKept_54 rfl ?_
      refine zz_bipush (x := 40) C d_SM_findKept_55 rfl ?_
      refine zz_icmp_ge (tgt := 96) C d_SM_findKept_57 (by decide) (fun h57 => ?_) (fun h57 => ?_)
      · refine zz_iconst (x := 0) C d_SM_findKept_96 rfl ?_
        refine zz_istore_n C d_SM_findKept_97 (by decide) ?_
        refine zz_lv [0, 1] rfl ?_
        exact loop4 40 0 _ _ nI_0.symm rfl I1 F1 hres
      · exact absurd (z_ge (N := 40) hiv rfl (by omega) (by omega)) h57
    | succ k ih =>
      intro i iv σ1 hiv hik I1 F1 hres
      unfold xf_k2 at hres
      have hix : iv.toNatClampNeg = i := z_ixI hiv (by omega)
      refine zz_iload_n C d_SM_findKept_54 rfl ?_
      refine zz_bipush (x := 40) C d_SM_findKept_55 rfl ?_
      refine zz_icmp_ge (tgt := 96) C d_SM_findKept_57 (by decide) (fun h57 => ?_) (fun h57 => ?_)
      · exact absurd h57 (z_nge hiv rfl (show i < 40 by omega) (by decide))
      · refine zz_aload_n C d_SM_findKept_60 rfl ?_
        refine zz_get C (ci := 3) (N := 8) 1 rfl zi_SM (by decide) fl_SM_17 (xw_0 Nat.zero_lt_one) rfl d_SM_findKept_61 ?_
        refine zz_iload_n C d_SM_findKept_64 rfl ?_
        refine zz_aald C (t0 := 3) rfl (xw_2 Nat.zero_lt_one) (z_vinI hiv (by omega) (by decide)) (fun h9 => if_pos h9) d_SM_findKept_65 (fun b65 => ?_)
        refine zz_getN C (ci := 1) (N := 4) 1 rfl zi_Ce (by decide) fn_SM_137 (xw_7 b65) rfl d_SM_findKept_66 ?_
        refine zz_iconst (x := -1) C d_SM_findKept_69 rfl ?_
        refine zz_icmp_eq (tgt := 90) C d_SM_findKept_70 (by decide) (fun h70 => ?_) (fun h70 => ?_)
        · refine zz_iinc (d' := 1) C d_SM_findKept_90 rfl rfl (by decide) ?_
          refine zz_goto (tgt := 54) C d_SM_findKept_93 (by decide) ?_
          refine zz_lv [0, 1] rfl ?_
          rw [hix] at h70
          have h2 := x_k2s_IF (i := i) (by omega) I1 F1
          rw [if_pos h70] at hres h2
          exact ih (i + 1) _ _ (z_sI hiv) (by omega) h2.1 h2.2 hres
        · refine zz_aload_n C d_SM_findKept_73 rfl ?_
          refine zz_get C (ci := 3) (N := 8) 1 rfl zi_SM (by decide) fl_SM_17 (xw_0 Nat.zero_lt_one) rfl d_SM_findKept_74 ?_
          refine zz_iload_n C d_SM_findKept_77 rfl ?_
          refine zz_aald C (t0 := 3) rfl (xw_2 Nat.zero_lt_one) (z_vinI hiv (by omega) (by decide)) (fun h9 => if_pos h9) d_SM_findKept_78 (fun b78 => ?_)
          refine zz_getN C (ci := 1) (N := 4) 1 rfl zi_Ce (by decide) fn_SM_137 (xw_7 b78) rfl d_SM_findKept_79 ?_
          refine zz_if_eq (tgt := 90) C d_SM_findKept_82 (by decide) (fun h82 => ?_) (fun h82 => ?_)
          · refine zz_iinc (d' := 1) C d_SM_findKept_90 rfl rfl (by decide) ?_
            refine zz_goto (tgt := 54) C d_SM_findKept_93 (by decide) ?_
            refine zz_lv [0, 1] rfl ?_
            rw [hix] at h70 h82
            have h2 := x_k2s_IF (i := i) (by omega) I1 F1
            rw [if_neg h70, if_pos h82] at hres h2
            exact ih (i + 1) _ _ (z_sI hiv) (by omega) h2.1 h2.2 hres
          · refine zz_aload_n C d_SM_findKept_85 rfl ?_
            refine zz_iload_n C d_SM_findKept_86 rfl ?_
            refine xc_Vv C (xw_0 Nat.zero_lt_one) rfl s_SM_194 (c_SM_keepFieldsOf I1 F1 (z_vinI hiv (by omega) (by decide))) rfl rfl d_SM_findKept_87 k_SM_keepFieldsOf ⟨by decide, by decide⟩ rfl ?_
            refine zz_iinc (d' := 1) C d_SM_findKept_90 rfl rfl (by decide) ?_
            refine zz_goto (tgt := 54) C d_SM_findKept_93 (by decide) ?_
            refine zz_lv [0, 1] rfl ?_
            rw [hix] at h70 h82
            have h2 := x_k2s_IF (i := i) (by omega) I1 F1
            rw [if_neg h70, if_neg h82, ← hiv] at hres h2
            exact ih (i + 1) _ _ (z_sI hiv) (by omega) h2.1 h2.2 hres
  have loop2 : ∀ (k i : Nat) (iv : Int32) (σ1 : zS), iv = nI i → i + k = 4 → xI σ1 → xF σ1 → xf_k3 40 0 (xf_k2 40 0 (xf_k1 k i σ1)) = xf_findKept σ → xZ p l e 2 s m ([.ref (xa0 lo 0)] : List Value).toArray below meth c D dA lo 2 n none (xf_findKept σ) (σ1) 31 [(0, .ref (xa0 lo 0)), (1, .int iv)] [] := by
    intro k
    induction k with
    | zero =>
      intro i iv σ1 hiv hik I1 F1 hres
      refine zz_iload_n C d_SM_findKept_31 rfl ?_
      refine zz_iconst (x := 4) C d_SM_findKept_32 rfl ?_
      refine zz_icmp_ge (tgt := 52) C d_SM_findKept_33 (by decide) (fun h33 => ?_) (fun h33 => ?_)
      · refine zz_iconst (x := 0) C d_SM_findKept_52 rfl ?_
        refine zz_istore_n C d_SM_findKept_53 (by decide) ?_
        refine zz_lv [0, 1] rfl ?_
        exact loop3 40 0 _ _ nI_0.symm rfl I1 F1 hres
      · exact absurd (z_ge (N := 4) hiv rfl (by omega) (by omega)) h33
    | succ k ih =>
      intro i iv σ1 hiv hik I1 F1 hres
      unfold xf_k1 at hres
      have hix : iv.toNatClampNeg = i := z_ixI hiv (by omega)
      refine zz_iload_n C d_SM_findKept_31 rfl ?_
      refine zz_iconst (x := 4) C d_SM_findKept_32 rfl ?_
      refine zz_icmp_ge (tgt := 52) C d_SM_findKept_33 (by decide) (fun h33 => ?_) (fun h33 => ?_)
      · exact absurd h33 (z_nge hiv rfl (show i < 4 by omega) (by decide))
      · refine zz_aload_n C d_SM_findKept_36 rfl ?_
        refine zz_aload_n C d_SM_findKept_37 rfl ?_
        refine zz_get C (ci := 3) (N := 8) 3 rfl zi_SM (by decide) fl_SM_27 (xw_0 Nat.zero_lt_one) rfl d_SM_findKept_38 ?_
        refine zz_iload_n C d_SM_findKept_41 rfl ?_
        refine zz_iald C (t0 := 0) rfl (xw_4 Nat.zero_lt_one) (z_vinI hiv (by omega) (by decide)) d_SM_findKept_42 ?_
        refine xc_Vv C (xw_0 Nat.zero_lt_one) rfl s_SM_191 (c_SM_keep (by rw [hix]; exact I1.2.2.2.2.2.2.2.2.1 i (by omega)) F1) rfl rfl d_SM_findKept_43 k_SM_keep ⟨by decide, by decide⟩ rfl ?_
        refine zz_iinc (d' := 1) C d_SM_findKept_46 rfl rfl (by decide) ?_
        refine zz_goto (tgt := 31) C d_SM_findKept_49 (by decide) ?_
        refine zz_lv [0, 1] rfl ?_
        rw [hix]
        exact ih (i + 1) _ _ (z_sI hiv) (by omega) (x_keep_I I1) (x_keep_F F1 (I1.2.2.2.2.2.2.2.2.1 i (by omega))) hres
  have loop1 : ∀ (k i : Nat) (iv : Int32) (σ1 : zS), iv = nI i → i + k = 40 → xf_k0 k i σ1 = xf_k0 40 0 (z_up σ 16 0 0 0) → xZ p l e 2 s m ([.ref (xa0 lo 0)] : List Value).toArray below meth c D dA lo 2 n none (xf_findKept σ) (σ1) 7 [(0, .ref (xa0 lo 0)), (1, .int iv)] [] := by
    intro k
    induction k with
    | zero =>
      intro i iv σ1 hiv hik hres
      obtain rfl : σ1 = xf_k0 40 0 (z_up σ 16 0 0 0) := hres
      refine zz_iload_n C d_SM_findKept_7 rfl ?_
      refine zz_bipush (x := 40) C d_SM_findKept_8 rfl ?_
      refine zz_icmp_ge (tgt := 29) C d_SM_findKept_10 (by decide) (fun h10 => ?_) (fun h10 => ?_)
      · refine zz_iconst (x := 0) C d_SM_findKept_29 rfl ?_
        refine zz_istore_n C d_SM_findKept_30 (by decide) ?_
        refine zz_lv [0, 1] rfl ?_
        exact loop2 4 0 _ _ nI_0.symm rfl (x_k0_I 40 0 _ (xI_u16 I)) x_k0_F rfl
      · exact absurd (z_ge (N := 40) hiv rfl (by omega) (by omega)) h10
    | succ k ih =>
      intro i iv σ1 hiv hik hres
      unfold xf_k0 at hres
      have hix : iv.toNatClampNeg = i := z_ixI hiv (by omega)
      refine zz_iload_n C d_SM_findKept_7 rfl ?_
      refine zz_bipush (x := 40) C d_SM_findKept_8 rfl ?_
      refine zz_icmp_ge (tgt := 29) C d_SM_findKept_10 (by decide) (fun h10 => ?_) (fun h10 => ?_)
      · exact absurd h10 (z_nge hiv rfl (show i < 40 by omega) (by decide))
      · refine zz_aload_n C d_SM_findKept_13 rfl ?_
        refine zz_get C (ci := 3) (N := 8) 1 rfl zi_SM (by decide) fl_SM_17 (xw_0 Nat.zero_lt_one) rfl d_SM_findKept_14 ?_
        refine zz_iload_n C d_SM_findKept_17 rfl ?_
        refine zz_aald C (t0 := 3) rfl (xw_2 Nat.zero_lt_one) (z_vinI hiv (by omega) (by decide)) (fun h9 => if_pos h9) d_SM_findKept_18 (fun b18 => ?_)
        refine zz_iconst (x := 0) C d_SM_findKept_19 rfl ?_
        refine xpN_8 C fn_SM_155 b18 rfl rfl d_SM_findKept_20 ?_
        refine zz_iinc (d' := 1) C d_SM_findKept_23 rfl rfl (by decide) ?_
        refine zz_goto (tgt := 7) C d_SM_findKept_26 (by decide) ?_
        refine zz_lv [0, 1] rfl ?_
        rw [hix]
        exact ih (i + 1) _ _ (z_sI hiv) (by omega) hres
  refine zz_aload_n C d_SM_findKept_0 rfl ?_
  refine zz_iconst (x := 0) C d_SM_findKept_1 rfl ?_
  refine xp_16 C fl_SM_170 Nat.zero_lt_one rfl rfl d_SM_findKept_2 ?_
  refine zz_iconst (x := 0) C d_SM_findKept_5 rfl ?_
  refine zz_istore_n C d_SM_findKept_6 (by decide) ?_
  refine zz_lv [0, 1] rfl ?_
  exact loop1 40 0 _ _ nI_0.symm rfl rfl
end
section
theorem x_nA_in {σ : zS} (I : xI σ) (h : σ 17 0 0 < 10) : vp_in (σ 17 0 0) 10 := by
  have h2 := I.1.2
  rw [vp_in_iff]
  rw [Int32.lt_iff_toInt_lt] at h
  rw [Int32.le_iff_toInt_le] at h2
  have e1 : (10 : Int32).toInt = 10 := rfl
  have e2 : (2 : Int32).toInt = 2 := rfl
  omega
theorem x_nb {h : Int32} (hh : h = 0 ∨ h = 1) : narrow .boolean (.int h) = .int h := by
  rcases hh with rfl | rfl <;> rfl
theorem x_fb {h : Int32} (hh : h = 0 ∨ h = 1) : fits .boolean (.int h) = true := by
  rcases hh with rfl | rfl <;> rfl
theorem z_nn {i : Int32} (h : 0 ≤ i) : ¬ i < 0 := by
  rw [Int32.le_iff_toInt_le, Int32.toInt_zero] at h
  rw [Int32.lt_iff_toInt_lt, Int32.toInt_zero]
  omega
theorem x_idle_len {σ : zS} {t : Int32} (I : xI σ) (h : ¬ xf_isThread t = 0) (h2 : xf_isBegun σ t = 0) : vp_in (σ 12 (z_ix t) 0) 12 := by
  have h6 := I.2.2.2.2.2.1 (z_ix t) (z_vlt (x_thr h))
  unfold xf_isBegun at h2
  rw [if_neg h] at h2
  split at h2
  · rename_i h3
    rw [vp_in_iff] at h6 ⊢
    rw [Int32.le_iff_toInt_le, Int32.toInt_zero] at h3
    omega
  · exact absurd h2 (by decide)
theorem x_lf_in' {σ : zS} : ∀ (k i : Nat), i + k = 40 → z_o 40 (xf_lf σ k i) := by
  intro k
  induction k with
  | zero => intro i _; exact Or.inl rfl
  | succ k ih =>
    intro i hi
    unfold xf_lf
    split
    · exact Or.inr (vp_in_nI (by omega) (by decide))
    · exact ih (i + 1) (by omega)
theorem x_lf_in {σ : zS} (h : ¬ xf_leastFreeNumber σ = -1) : vp_in (xf_leastFreeNumber σ) 40 := z_ovin (x_lf_in' 40 0 rfl) h
theorem x_ff_at {i f i' j' : Nat} {σ : zS} (h : f ≠ 5) : ∀ k, xf_ff σ i k f i' j' = σ f i' j' := by
  intro k
  induction k with
  | zero => rfl
  | succ k ih => unfold xf_ff; simp [z_at, h, ih]
theorem x_fill_at {σ : zS} {i f i' j' : Nat} {a c : Int32} (h5 : f ≠ 5) (h6 : f ≠ 6) (h7 : f ≠ 7) : xf_fill σ i a c f i' j' = σ f i' j' := by
  unfold xf_fill
  rw [x_ff_at h5]
  simp [z_at, h6, h7]
theorem x_fill_1 {σ : zS} {i i' j' : Nat} {a c : Int32} : xf_fill σ i a c 1 i' j' = σ 1 i' j' := x_fill_at (by decide) (by decide) (by decide)
theorem x_fill_18 {σ : zS} {i i' j' : Nat} {a c : Int32} : xf_fill σ i a c 18 i' j' = σ 18 i' j' := x_fill_at (by decide) (by decide) (by decide)
theorem x_drop_at {σ : zS} {o : Int32} {f i' j' : Nat} (h1 : f ≠ 1) (h6 : f ≠ 6) (h18 : f ≠ 18) : xf_drop σ o f i' j' = σ f i' j' := by
  unfold xf_drop
  simp [z_at, h1, h6, h18]
theorem x_es_at {s : Int32} {f i' j' : Nat} (h1 : f ≠ 1) (h6 : f ≠ 6) (h18 : f ≠ 18) : ∀ (k i : Nat) (σ : zS), xf_es s k i σ f i' j' = σ f i' j' := by
  intro k
  induction k with
  | zero => intro i σ; rfl
  | succ k ih =>
    intro i σ
    unfold xf_es
    rw [ih]
    split
    · exact x_drop_at h1 h6 h18
    · rfl
theorem x_dropEntry_12 {σ : zS} {s : Int32} {i j : Nat} : xf_dropEntry σ s 12 i j = σ 12 i j := by
  unfold xf_dropEntry
  split
  · unfold xf_emptyScope
    simp only [z_at]
    simp
    rw [x_es_at (by decide) (by decide) (by decide)]
    simp [z_at]
  · simp [z_at]
theorem x_out8 {w : Int32} (h0 : ¬ w = 0) (h1 : ¬ w = 1) (h2 : ¬ w = 2) (h3 : ¬ w = 3) (h4 : ¬ w = 4) (h5 : ¬ w = 5) (h6 : ¬ w = 6) (h7 : ¬ w = 7) : w.toInt < 0 ∨ 7 < w.toInt := by
  have hne : ∀ (v : Int32), ¬ w = v → w.toInt ≠ v.toInt := fun v h q => h (Int32.toInt_inj.mp q)
  have e0 := hne _ h0
  have e1 := hne _ h1
  have e2 := hne _ h2
  have e3 := hne _ h3
  have e4 := hne _ h4
  have e5 := hne _ h5
  have e6 := hne _ h6
  have e7 := hne _ h7
  simp only [show (0 : Int32).toInt = 0 from rfl, show (1 : Int32).toInt = 1 from rfl, show (2 : Int32).toInt = 2 from rfl, show (3 : Int32).toInt = 3 from rfl, show (4 : Int32).toInt = 4 from rfl, show (5 : Int32).toInt = 5 from rfl, show (6 : Int32).toInt = 6 from rfl, show (7 : Int32).toInt = 7 from rfl] at e0 e1 e2 e3 e4 e5 e6 e7
  omega
end
section
set_option maxHeartbeats 400000 in
set_option maxRecDepth 100000 in
theorem c_SM_scope {l : Launch} {D : va_G} {dA : Nat → ClassId} {lo n : Nat} {σ : zS} {size : Int32} (I : xI σ) : xM l y_SM_scope b_SM_scope 3 (some .int) 0 D dA lo n [.ref (xa0 lo 0), .int size] σ (some (.int ((xf_scope σ size).1))) ((xf_scope σ size).2) := by
  refine zM_of (lv0 := [(0, .ref (xa0 lo 0)), (1, .int size)]) (by decide) rfl rfl rfl ?_
  intro p e s m below meth c C hr hnm hsz
  have C : zC p s m ([.ref (xa0 lo 0), .int size] : List Value).toArray meth c b_SM_scope 3 R_SM D dA := C
  refine zz_iload_n C d_SM_scope_0 rfl ?_
  refine zz_iconst (x := 1) C d_SM_scope_1 rfl ?_
  refine zz_icmp_lt (tgt := 11) C d_SM_scope_2 (by decide) (fun h2 => ?_) (fun h2 => ?_)
  · refine zz_iconst (x := -1) C d_SM_scope_11 rfl ?_
    exact xr_i C hr rfl d_SM_scope_12 (by simp only [xf_scope, if_pos h2] <;> simp [xf_scope, z_at]) (by simp only [xf_scope, if_pos h2] <;> simp [xf_scope, z_at])
  · refine zz_iload_n C d_SM_scope_5 rfl ?_
    refine zz_bipush (x := 40) C d_SM_scope_6 rfl ?_
    refine zz_icmp_le (tgt := 13) C d_SM_scope_8 (by decide) (fun h8 => ?_) (fun h8 => ?_)
    · refine zz_aload_n C d_SM_scope_13 rfl ?_
      refine zz_get C (ci := 3) (N := 8) 6 rfl zi_SM (by decide) fl_SM_45 (xw_0 Nat.zero_lt_one) rfl d_SM_scope_14 ?_
      refine zz_bipush (x := 10) C d_SM_scope_17 rfl ?_
      refine zz_icmp_lt (tgt := 25) C d_SM_scope_19 (by decide) (fun h19 => ?_) (fun h19 => ?_)
      · refine zz_aload_n C d_SM_scope_25 rfl ?_
        refine zz_get C (ci := 3) (N := 8) 6 rfl zi_SM (by decide) fl_SM_45 (xw_0 Nat.zero_lt_one) rfl d_SM_scope_26 ?_
        refine zz_istore_n C d_SM_scope_29 (by decide) ?_
        refine zz_aload_n C d_SM_scope_30 rfl ?_
        refine zz_get C (ci := 3) (N := 8) 0 rfl zi_SM (by decide) fl_SM_11 (xw_0 Nat.zero_lt_one) rfl d_SM_scope_31 ?_
        refine zz_iload_n C d_SM_scope_34 rfl ?_
        refine zz_aald C (t0 := 2) rfl (xw_1 Nat.zero_lt_one) (x_nA_in I h19) (fun h9 => if_pos h9) d_SM_scope_35 (fun b35 => ?_)
        refine zz_iload_n C d_SM_scope_36 rfl ?_
        refine xpN_0 C fn_SM_41 b35 rfl rfl d_SM_scope_37 ?_
        refine zz_aload_n C d_SM_scope_40 rfl ?_
        refine zz_dup C d_SM_scope_41 rfl ?_
        refine zz_get C (ci := 3) (N := 8) 6 rfl zi_SM (by decide) fl_SM_45 (xw_0 Nat.zero_lt_one) rfl d_SM_scope_42 ?_
        refine zz_iconst (x := 1) C d_SM_scope_45 rfl ?_
        refine zz_iadd C d_SM_scope_46 ?_
        refine xp_17 C fl_SM_45 Nat.zero_lt_one rfl rfl d_SM_scope_47 ?_
        refine zz_iload_n C d_SM_scope_50 rfl ?_
        exact xr_i C hr rfl d_SM_scope_51 (by simp only [xf_scope, if_neg h2, if_pos h8, if_pos h19] <;> simp [xf_scope, z_at]) (by simp only [xf_scope, if_neg h2, if_pos h8, if_pos h19] <;> simp [xf_scope, z_at])
      · refine zz_bipush (x := -2) C d_SM_scope_22 rfl ?_
        exact xr_i C hr rfl d_SM_scope_24 (by simp only [xf_scope, if_neg h2, if_pos h8, if_neg h19] <;> simp [xf_scope, z_at]) (by simp only [xf_scope, if_neg h2, if_pos h8, if_neg h19] <;> simp [xf_scope, z_at])
    · refine zz_iconst (x := -1) C d_SM_scope_11 rfl ?_
      exact xr_i C hr rfl d_SM_scope_12 (by simp only [xf_scope, if_neg h2, if_neg h8] <;> simp [xf_scope, z_at]) (by simp only [xf_scope, if_neg h2, if_neg h8] <;> simp [xf_scope, z_at])
set_option maxHeartbeats 400000 in
set_option maxRecDepth 100000 in
theorem c_SM_begin {l : Launch} {D : va_G} {dA : Nat → ClassId} {lo n : Nat} {σ : zS} {t h : Int32} (I : xI σ) (hh : h = 0 ∨ h = 1) : xM l y_SM_begin b_SM_begin 3 (some .int) 2 D dA lo n [.ref (xa0 lo 0), .int t, .int h] σ (some (.int ((xf_begin σ t h).1))) ((xf_begin σ t h).2) := by
  refine zM_of (lv0 := [(0, .ref (xa0 lo 0)), (1, .int t), (2, .int h)]) (by decide) rfl rfl rfl ?_
  intro p e s m below meth c C hr hnm hsz
  have C : zC p s m ([.ref (xa0 lo 0), .int t, .int h] : List Value).toArray meth c b_SM_begin 3 R_SM D dA := C
  refine zz_iload_n C d_SM_begin_0 rfl ?_
  refine xc_Si C s_SM_48 c_SM_isThread rfl rfl d_SM_begin_1 k_SM_isThread ⟨by decide, by decide⟩ rfl ?_
  refine zz_if_eq (tgt := 15) C d_SM_begin_4 (by decide) (fun h4 => ?_) (fun h4 => ?_)
  · refine zz_iconst (x := -1) C d_SM_begin_15 rfl ?_
    exact xr_i C hr rfl d_SM_begin_16 (by simp only [xf_begin, if_pos h4] <;> simp [xf_begin, z_at]) (by simp only [xf_begin, if_pos h4] <;> simp [xf_begin, z_at])
  · refine zz_aload_n C d_SM_begin_7 rfl ?_
    refine zz_iload_n C d_SM_begin_8 rfl ?_
    refine xc_Vi C (xw_0 Nat.zero_lt_one) rfl s_SM_52 c_SM_isBegun rfl rfl d_SM_begin_9 k_SM_isBegun ⟨by decide, by decide⟩ rfl ?_
    refine zz_if_eq (tgt := 17) C d_SM_begin_12 (by decide) (fun h12 => ?_) (fun h12 => ?_)
    · refine zz_aload_n C d_SM_begin_17 rfl ?_
      refine zz_get C (ci := 3) (N := 8) 2 rfl zi_SM (by decide) fl_SM_23 (xw_0 Nat.zero_lt_one) rfl d_SM_begin_18 ?_
      refine zz_iload_n C d_SM_begin_21 rfl ?_
      refine zz_aald C (t0 := 4) rfl (xw_3 Nat.zero_lt_one) (x_thr h4) (fun h9 => if_pos h9) d_SM_begin_22 (fun b22 => ?_)
      refine zz_iload_n C d_SM_begin_23 rfl ?_
      refine xpN_13 C fn_SM_55 b22 (x_nb hh) (x_fb hh) d_SM_begin_24 ?_
      refine zz_aload_n C d_SM_begin_27 rfl ?_
      refine zz_get C (ci := 3) (N := 8) 2 rfl zi_SM (by decide) fl_SM_23 (xw_0 Nat.zero_lt_one) rfl d_SM_begin_28 ?_
      refine zz_iload_n C d_SM_begin_31 rfl ?_
      refine zz_aald C (t0 := 4) rfl (xw_3 Nat.zero_lt_one) (x_thr h4) (fun h9 => if_pos h9) d_SM_begin_32 (fun b32 => ?_)
      refine zz_iload_n C d_SM_begin_33 rfl ?_
      refine zz_if_eq (tgt := 41) C d_SM_begin_34 (by decide) (fun h34 => ?_) (fun h34 => ?_)
      · refine zz_iconst (x := 0) C d_SM_begin_41 rfl ?_
        refine zz_iconst (x := -1) C d_SM_begin_42 rfl ?_
        refine zz_iconst (x := 0) C d_SM_begin_43 rfl ?_
        refine xc_VNv C (xw_9 b32) rfl s_SM_59 (c_Ro_push b32 (x_idle_len (σ := σ) I h4 h12)) rfl rfl d_SM_begin_44 k_Ro_push ⟨by decide, by decide⟩ rfl ?_
        refine zz_iconst (x := 0) C d_SM_begin_47 rfl ?_
        exact xr_i C hr rfl d_SM_begin_48 (by simp only [xf_begin, if_neg h4, if_pos h12, if_pos h34] <;> simp [xf_begin, z_at]) (by simp only [xf_begin, if_neg h4, if_pos h12, if_pos h34] <;> simp [xf_begin, z_at])
      · refine zz_iconst (x := 1) C d_SM_begin_37 rfl ?_
        refine zz_goto (tgt := 42) C d_SM_begin_38 (by decide) ?_
        refine zz_iconst (x := -1) C d_SM_begin_42 rfl ?_
        refine zz_iconst (x := 0) C d_SM_begin_43 rfl ?_
        refine xc_VNv C (xw_9 b32) rfl s_SM_59 (c_Ro_push b32 (x_idle_len (σ := σ) I h4 h12)) rfl rfl d_SM_begin_44 k_Ro_push ⟨by decide, by decide⟩ rfl ?_
        refine zz_iconst (x := 0) C d_SM_begin_47 rfl ?_
        exact xr_i C hr rfl d_SM_begin_48 (by simp only [xf_begin, if_neg h4, if_pos h12, if_neg h34] <;> simp [xf_begin, z_at]) (by simp only [xf_begin, if_neg h4, if_pos h12, if_neg h34] <;> simp [xf_begin, z_at])
    · refine zz_iconst (x := -1) C d_SM_begin_15 rfl ?_
      exact xr_i C hr rfl d_SM_begin_16 (by simp only [xf_begin, if_neg h4, if_neg h12] <;> simp [xf_begin, z_at]) (by simp only [xf_begin, if_neg h4, if_neg h12] <;> simp [xf_begin, z_at])
set_option maxHeartbeats 400000 in
set_option maxRecDepth 100000 in
theorem c_SM_enter {l : Launch} {D : va_G} {dA : Nat → ClassId} {lo n : Nat} {σ : zS} {t z : Int32} (I : xI σ) : xM l y_SM_enter b_SM_enter 6 (some .int) 3 D dA lo n [.ref (xa0 lo 0), .int t, .int z] σ (some (.int ((xf_enter σ t z).1))) ((xf_enter σ t z).2) := by
  refine zM_of (lv0 := [(0, .ref (xa0 lo 0)), (1, .int t), (2, .int z)]) (by decide) rfl rfl rfl ?_
  intro p e s m below meth c C hr hnm hsz
  have C : zC p s m ([.ref (xa0 lo 0), .int t, .int z] : List Value).toArray meth c b_SM_enter 6 R_SM D dA := C
  refine zz_aload_n C d_SM_enter_0 rfl ?_
  refine zz_iload_n C d_SM_enter_1 rfl ?_
  refine xc_Vi C (xw_0 Nat.zero_lt_one) rfl s_SM_52 c_SM_isBegun rfl rfl d_SM_enter_2 k_SM_isBegun ⟨by decide, by decide⟩ rfl ?_
  refine zz_if_eq (tgt := 16) C d_SM_enter_5 (by decide) (fun h5 => ?_) (fun h5 => ?_)
  · refine zz_iconst (x := -1) C d_SM_enter_16 rfl ?_
    exact xr_i C hr rfl d_SM_enter_17 (by simp only [xf_enter, xf_enterR, xf_enterT, xf_enterS, if_pos h5] <;> simp [xf_enter, xf_enterR, xf_enterT, xf_enterS, xf_push, xf_top, z_at]) (by simp only [xf_enter, xf_enterR, xf_enterT, xf_enterS, if_pos h5] <;> simp [xf_enter, xf_enterR, xf_enterT, xf_enterS, xf_push, xf_top, z_at])
  · refine zz_aload_n C d_SM_enter_8 rfl ?_
    refine zz_iload_n C d_SM_enter_9 rfl ?_
    refine xc_Vi C (xw_0 Nat.zero_lt_one) rfl s_SM_63 c_SM_isScope rfl rfl d_SM_enter_10 k_SM_isScope ⟨by decide, by decide⟩ rfl ?_
    refine zz_if_ne (tgt := 18) C d_SM_enter_13 (by decide) (fun h13 => ?_) (fun h13 => ?_)
    · refine zz_aload_n C d_SM_enter_18 rfl ?_
      refine zz_get C (ci := 3) (N := 8) 2 rfl zi_SM (by decide) fl_SM_23 (xw_0 Nat.zero_lt_one) rfl d_SM_enter_19 ?_
      refine zz_iload_n C d_SM_enter_22 rfl ?_
      refine zz_aald C (t0 := 4) rfl (xw_3 Nat.zero_lt_one) (x_begun_thr h5) (fun h9 => if_pos h9) d_SM_enter_23 (fun b23 => ?_)
      refine zz_astore_n C d_SM_enter_24 (by decide) ?_
      refine zz_aload_n C d_SM_enter_25 rfl ?_
      refine zz_get C (ci := 3) (N := 8) 0 rfl zi_SM (by decide) fl_SM_11 (xw_0 Nat.zero_lt_one) rfl d_SM_enter_26 ?_
      refine zz_iload_n C d_SM_enter_29 rfl ?_
      refine zz_aald C (t0 := 2) rfl (xw_1 Nat.zero_lt_one) (x_scope_in I h13) (fun h9 => if_pos h9) d_SM_enter_30 (fun b30 => ?_)
      refine zz_astore C d_SM_enter_31 (by decide) ?_
      refine zz_aload_n C d_SM_enter_33 rfl ?_
      refine xc_VNi C (xw_9 b23) rfl s_SM_66 (c_Ro_nearestScope b23 I) rfl rfl d_SM_enter_34 k_Ro_nearestScope ⟨by decide, by decide⟩ rfl ?_
      refine zz_istore C d_SM_enter_37 (by decide) ?_
      refine zz_aload_n C d_SM_enter_39 rfl ?_
      refine zz_iload_n C d_SM_enter_40 rfl ?_
      refine xc_VNi C (xw_9 b23) rfl s_SM_70 (c_Ro_hasInView b23 I) rfl rfl d_SM_enter_41 k_Ro_hasInView ⟨by decide, by decide⟩ rfl ?_
      refine zz_if_ne (tgt := 65) C d_SM_enter_44 (by decide) (fun h44 => ?_) (fun h44 => ?_)
      · refine zz_bipush (x := -3) C d_SM_enter_65 rfl ?_
        exact xr_i C hr rfl d_SM_enter_67 (by simp only [xf_enter, xf_enterR, xf_enterT, xf_enterS, if_neg h5, if_neg h13, if_neg h44] <;> simp [xf_enter, xf_enterR, xf_enterT, xf_enterS, xf_push, xf_top, z_at]) (by simp only [xf_enter, xf_enterR, xf_enterT, xf_enterS, if_neg h5, if_neg h13, if_neg h44] <;> simp [xf_enter, xf_enterR, xf_enterT, xf_enterS, xf_push, xf_top, z_at])
      · refine zz_aload C d_SM_enter_47 rfl ?_
        refine zz_getN C (ci := 0) (N := 5) 2 rfl zi_Ar (by decide) fn_SM_73 (xw_6 b30) rfl d_SM_enter_49 ?_
        refine zz_if_le (tgt := 68) C d_SM_enter_52 (by decide) (fun h52 => ?_) (fun h52 => ?_)
        · refine zz_aload_n C d_SM_enter_68 rfl ?_
          refine xc_VNi C (xw_9 b23) rfl s_SM_79 (c_Ro_isFull b23) rfl rfl d_SM_enter_69 k_Ro_isFull ⟨by decide, by decide⟩ rfl ?_
          refine zz_if_eq (tgt := 78) C d_SM_enter_72 (by decide) (fun h72 => ?_) (fun h72 => ?_)
          · refine zz_aload C d_SM_enter_78 rfl ?_
            refine zz_getN C (ci := 0) (N := 5) 2 rfl zi_Ar (by decide) fn_SM_73 (xw_6 b30) rfl d_SM_enter_80 ?_
            refine zz_if_ne (tgt := 93) C d_SM_enter_83 (by decide) (fun h83 => ?_) (fun h83 => ?_)
            · refine zz_aload C d_SM_enter_93 rfl ?_
              refine zz_dup C d_SM_enter_95 rfl ?_
              refine zz_getN C (ci := 0) (N := 5) 2 rfl zi_Ar (by decide) fn_SM_73 (xw_6 b30) rfl d_SM_enter_96 ?_
              refine zz_iconst (x := 1) C d_SM_enter_99 rfl ?_
              refine zz_iadd C d_SM_enter_100 ?_
              refine xpN_2 C fn_SM_73 b30 rfl rfl d_SM_enter_101 ?_
              refine zz_aload_n C d_SM_enter_104 rfl ?_
              refine zz_iload_n C d_SM_enter_105 rfl ?_
              refine zz_aload_n C d_SM_enter_106 rfl ?_
              refine xc_VNi C (xw_9 b23) rfl s_SM_83 (c_Ro_top b23) rfl rfl d_SM_enter_107 k_Ro_top ⟨by decide, by decide⟩ rfl ?_
              refine zz_iconst (x := 1) C d_SM_enter_110 rfl ?_
              refine xc_VNv C (xw_9 b23) rfl s_SM_59 (c_Ro_push b23 (x_len_in (σ := σ) I b23 h72)) rfl rfl d_SM_enter_111 k_Ro_push ⟨by decide, by decide⟩ rfl ?_
              refine zz_aload C d_SM_enter_114 rfl ?_
              refine zz_getN C (ci := 0) (N := 5) 2 rfl zi_Ar (by decide) fn_SM_73 (xw_6 b30) rfl d_SM_enter_116 ?_
              exact xr_i C hr rfl d_SM_enter_119 (by simp only [xf_enter, xf_enterR, xf_enterT, xf_enterS, if_neg h5, if_neg h13, if_pos h44, if_pos h52, if_pos h72, if_neg h83] <;> simp [xf_enter, xf_enterR, xf_enterT, xf_enterS, xf_push, xf_top, z_at]) (by simp only [xf_enter, xf_enterR, xf_enterT, xf_enterS, if_neg h5, if_neg h13, if_pos h44, if_pos h52, if_pos h72, if_neg h83] <;> simp [xf_enter, xf_enterR, xf_enterT, xf_enterS, xf_push, xf_top, z_at])
            · refine zz_aload C d_SM_enter_86 rfl ?_
              refine zz_iload C d_SM_enter_88 rfl ?_
              refine xpN_3 C fn_SM_76 b30 rfl rfl d_SM_enter_90 ?_
              refine zz_aload C d_SM_enter_93 rfl ?_
              refine zz_dup C d_SM_enter_95 rfl ?_
              refine zz_getN C (ci := 0) (N := 5) 2 rfl zi_Ar (by decide) fn_SM_73 (xw_6 b30) rfl d_SM_enter_96 ?_
              refine zz_iconst (x := 1) C d_SM_enter_99 rfl ?_
              refine zz_iadd C d_SM_enter_100 ?_
              refine xpN_2 C fn_SM_73 b30 rfl rfl d_SM_enter_101 ?_
              refine zz_aload_n C d_SM_enter_104 rfl ?_
              refine zz_iload_n C d_SM_enter_105 rfl ?_
              refine zz_aload_n C d_SM_enter_106 rfl ?_
              refine xc_VNi C (xw_9 b23) rfl s_SM_83 (c_Ro_top b23) rfl rfl d_SM_enter_107 k_Ro_top ⟨by decide, by decide⟩ rfl ?_
              refine zz_iconst (x := 1) C d_SM_enter_110 rfl ?_
              refine xc_VNv C (xw_9 b23) rfl s_SM_59 (c_Ro_push b23 (x_len_in (σ := σ) I b23 h72)) rfl rfl d_SM_enter_111 k_Ro_push ⟨by decide, by decide⟩ rfl ?_
              refine zz_aload C d_SM_enter_114 rfl ?_
              refine zz_getN C (ci := 0) (N := 5) 2 rfl zi_Ar (by decide) fn_SM_73 (xw_6 b30) rfl d_SM_enter_116 ?_
              exact xr_i C hr rfl d_SM_enter_119 (by simp only [xf_enter, xf_enterR, xf_enterT, xf_enterS, if_neg h5, if_neg h13, if_pos h44, if_pos h52, if_pos h72, if_pos h83] <;> simp [xf_enter, xf_enterR, xf_enterT, xf_enterS, xf_push, xf_top, z_at]) (by simp only [xf_enter, xf_enterR, xf_enterT, xf_enterS, if_neg h5, if_neg h13, if_pos h44, if_pos h52, if_pos h72, if_pos h83] <;> simp [xf_enter, xf_enterR, xf_enterT, xf_enterS, xf_push, xf_top, z_at])
          · refine zz_bipush (x := -2) C d_SM_enter_75 rfl ?_
            exact xr_i C hr rfl d_SM_enter_77 (by simp only [xf_enter, xf_enterR, xf_enterT, xf_enterS, if_neg h5, if_neg h13, if_pos h44, if_pos h52, if_neg h72] <;> simp [xf_enter, xf_enterR, xf_enterT, xf_enterS, xf_push, xf_top, z_at]) (by simp only [xf_enter, xf_enterR, xf_enterT, xf_enterS, if_neg h5, if_neg h13, if_pos h44, if_pos h52, if_neg h72] <;> simp [xf_enter, xf_enterR, xf_enterT, xf_enterS, xf_push, xf_top, z_at])
        · refine zz_aload C d_SM_enter_55 rfl ?_
          refine zz_getN C (ci := 0) (N := 5) 3 rfl zi_Ar (by decide) fn_SM_76 (xw_6 b30) rfl d_SM_enter_57 ?_
          refine zz_iload C d_SM_enter_60 rfl ?_
          refine zz_icmp_eq (tgt := 68) C d_SM_enter_62 (by decide) (fun h62 => ?_) (fun h62 => ?_)
          · refine zz_aload_n C d_SM_enter_68 rfl ?_
            refine xc_VNi C (xw_9 b23) rfl s_SM_79 (c_Ro_isFull b23) rfl rfl d_SM_enter_69 k_Ro_isFull ⟨by decide, by decide⟩ rfl ?_
            refine zz_if_eq (tgt := 78) C d_SM_enter_72 (by decide) (fun h72 => ?_) (fun h72 => ?_)
            · refine zz_aload C d_SM_enter_78 rfl ?_
              refine zz_getN C (ci := 0) (N := 5) 2 rfl zi_Ar (by decide) fn_SM_73 (xw_6 b30) rfl d_SM_enter_80 ?_
              refine zz_if_ne (tgt := 93) C d_SM_enter_83 (by decide) (fun h83 => ?_) (fun h83 => ?_)
              · refine zz_aload C d_SM_enter_93 rfl ?_
                refine zz_dup C d_SM_enter_95 rfl ?_
                refine zz_getN C (ci := 0) (N := 5) 2 rfl zi_Ar (by decide) fn_SM_73 (xw_6 b30) rfl d_SM_enter_96 ?_
                refine zz_iconst (x := 1) C d_SM_enter_99 rfl ?_
                refine zz_iadd C d_SM_enter_100 ?_
                refine xpN_2 C fn_SM_73 b30 rfl rfl d_SM_enter_101 ?_
                refine zz_aload_n C d_SM_enter_104 rfl ?_
                refine zz_iload_n C d_SM_enter_105 rfl ?_
                refine zz_aload_n C d_SM_enter_106 rfl ?_
                refine xc_VNi C (xw_9 b23) rfl s_SM_83 (c_Ro_top b23) rfl rfl d_SM_enter_107 k_Ro_top ⟨by decide, by decide⟩ rfl ?_
                refine zz_iconst (x := 1) C d_SM_enter_110 rfl ?_
                refine xc_VNv C (xw_9 b23) rfl s_SM_59 (c_Ro_push b23 (x_len_in (σ := σ) I b23 h72)) rfl rfl d_SM_enter_111 k_Ro_push ⟨by decide, by decide⟩ rfl ?_
                refine zz_aload C d_SM_enter_114 rfl ?_
                refine zz_getN C (ci := 0) (N := 5) 2 rfl zi_Ar (by decide) fn_SM_73 (xw_6 b30) rfl d_SM_enter_116 ?_
                exact xr_i C hr rfl d_SM_enter_119 (by simp only [xf_enter, xf_enterR, xf_enterT, xf_enterS, if_neg h5, if_neg h13, if_pos h44, if_neg h52, if_pos h62, if_pos h72, if_neg h83] <;> simp [xf_enter, xf_enterR, xf_enterT, xf_enterS, xf_push, xf_top, z_at]) (by simp only [xf_enter, xf_enterR, xf_enterT, xf_enterS, if_neg h5, if_neg h13, if_pos h44, if_neg h52, if_pos h62, if_pos h72, if_neg h83] <;> simp [xf_enter, xf_enterR, xf_enterT, xf_enterS, xf_push, xf_top, z_at])
              · refine zz_aload C d_SM_enter_86 rfl ?_
                refine zz_iload C d_SM_enter_88 rfl ?_
                refine xpN_3 C fn_SM_76 b30 rfl rfl d_SM_enter_90 ?_
                refine zz_aload C d_SM_enter_93 rfl ?_
                refine zz_dup C d_SM_enter_95 rfl ?_
                refine zz_getN C (ci := 0) (N := 5) 2 rfl zi_Ar (by decide) fn_SM_73 (xw_6 b30) rfl d_SM_enter_96 ?_
                refine zz_iconst (x := 1) C d_SM_enter_99 rfl ?_
                refine zz_iadd C d_SM_enter_100 ?_
                refine xpN_2 C fn_SM_73 b30 rfl rfl d_SM_enter_101 ?_
                refine zz_aload_n C d_SM_enter_104 rfl ?_
                refine zz_iload_n C d_SM_enter_105 rfl ?_
                refine zz_aload_n C d_SM_enter_106 rfl ?_
                refine xc_VNi C (xw_9 b23) rfl s_SM_83 (c_Ro_top b23) rfl rfl d_SM_enter_107 k_Ro_top ⟨by decide, by decide⟩ rfl ?_
                refine zz_iconst (x := 1) C d_SM_enter_110 rfl ?_
                refine xc_VNv C (xw_9 b23) rfl s_SM_59 (c_Ro_push b23 (x_len_in (σ := σ) I b23 h72)) rfl rfl d_SM_enter_111 k_Ro_push ⟨by decide, by decide⟩ rfl ?_
                refine zz_aload C d_SM_enter_114 rfl ?_
                refine zz_getN C (ci := 0) (N := 5) 2 rfl zi_Ar (by decide) fn_SM_73 (xw_6 b30) rfl d_SM_enter_116 ?_
                exact xr_i C hr rfl d_SM_enter_119 (by simp only [xf_enter, xf_enterR, xf_enterT, xf_enterS, if_neg h5, if_neg h13, if_pos h44, if_neg h52, if_pos h62, if_pos h72, if_pos h83] <;> simp [xf_enter, xf_enterR, xf_enterT, xf_enterS, xf_push, xf_top, z_at]) (by simp only [xf_enter, xf_enterR, xf_enterT, xf_enterS, if_neg h5, if_neg h13, if_pos h44, if_neg h52, if_pos h62, if_pos h72, if_pos h83] <;> simp [xf_enter, xf_enterR, xf_enterT, xf_enterS, xf_push, xf_top, z_at])
            · refine zz_bipush (x := -2) C d_SM_enter_75 rfl ?_
              exact xr_i C hr rfl d_SM_enter_77 (by simp only [xf_enter, xf_enterR, xf_enterT, xf_enterS, if_neg h5, if_neg h13, if_pos h44, if_neg h52, if_pos h62, if_neg h72] <;> simp [xf_enter, xf_enterR, xf_enterT, xf_enterS, xf_push, xf_top, z_at]) (by simp only [xf_enter, xf_enterR, xf_enterT, xf_enterS, if_neg h5, if_neg h13, if_pos h44, if_neg h52, if_pos h62, if_neg h72] <;> simp [xf_enter, xf_enterR, xf_enterT, xf_enterS, xf_push, xf_top, z_at])
          · refine zz_bipush (x := -3) C d_SM_enter_65 rfl ?_
            exact xr_i C hr rfl d_SM_enter_67 (by simp only [xf_enter, xf_enterR, xf_enterT, xf_enterS, if_neg h5, if_neg h13, if_pos h44, if_neg h52, if_neg h62] <;> simp [xf_enter, xf_enterR, xf_enterT, xf_enterS, xf_push, xf_top, z_at]) (by simp only [xf_enter, xf_enterR, xf_enterT, xf_enterS, if_neg h5, if_neg h13, if_pos h44, if_neg h52, if_neg h62] <;> simp [xf_enter, xf_enterR, xf_enterT, xf_enterS, xf_push, xf_top, z_at])
    · refine zz_iconst (x := -1) C d_SM_enter_16 rfl ?_
      exact xr_i C hr rfl d_SM_enter_17 (by simp only [xf_enter, xf_enterR, xf_enterT, xf_enterS, if_neg h5, if_pos h13] <;> simp [xf_enter, xf_enterR, xf_enterT, xf_enterS, xf_push, xf_top, z_at]) (by simp only [xf_enter, xf_enterR, xf_enterT, xf_enterS, if_neg h5, if_pos h13] <;> simp [xf_enter, xf_enterR, xf_enterT, xf_enterS, xf_push, xf_top, z_at])
set_option maxHeartbeats 400000 in
set_option maxRecDepth 100000 in
theorem c_SM_turn {l : Launch} {D : va_G} {dA : Nat → ClassId} {lo n : Nat} {σ : zS} {t a : Int32} (I : xI σ) : xM l y_SM_turn b_SM_turn 4 (some .int) 3 D dA lo n [.ref (xa0 lo 0), .int t, .int a] σ (some (.int ((xf_turn σ t a).1))) ((xf_turn σ t a).2) := by
  refine zM_of (lv0 := [(0, .ref (xa0 lo 0)), (1, .int t), (2, .int a)]) (by decide) rfl rfl rfl ?_
  intro p e s m below meth c C hr hnm hsz
  have C : zC p s m ([.ref (xa0 lo 0), .int t, .int a] : List Value).toArray meth c b_SM_turn 4 R_SM D dA := C
  refine zz_aload_n C d_SM_turn_0 rfl ?_
  refine zz_iload_n C d_SM_turn_1 rfl ?_
  refine xc_Vi C (xw_0 Nat.zero_lt_one) rfl s_SM_52 c_SM_isBegun rfl rfl d_SM_turn_2 k_SM_isBegun ⟨by decide, by decide⟩ rfl ?_
  refine zz_if_eq (tgt := 16) C d_SM_turn_5 (by decide) (fun h5 => ?_) (fun h5 => ?_)
  · refine zz_iconst (x := -1) C d_SM_turn_16 rfl ?_
    exact xr_i C hr rfl d_SM_turn_17 (by simp only [xf_turn, xf_turn2, xf_turn3, if_pos h5] <;> simp [xf_turn, xf_turn2, xf_turn3, xf_push, z_at]) (by simp only [xf_turn, xf_turn2, xf_turn3, if_pos h5] <;> simp [xf_turn, xf_turn2, xf_turn3, xf_push, z_at])
  · refine zz_aload_n C d_SM_turn_8 rfl ?_
    refine zz_iload_n C d_SM_turn_9 rfl ?_
    refine xc_Vi C (xw_0 Nat.zero_lt_one) rfl s_SM_86 c_SM_isArea rfl rfl d_SM_turn_10 k_SM_isArea ⟨by decide, by decide⟩ rfl ?_
    refine zz_if_ne (tgt := 18) C d_SM_turn_13 (by decide) (fun h13 => ?_) (fun h13 => ?_)
    · refine zz_aload_n C d_SM_turn_18 rfl ?_
      refine zz_get C (ci := 3) (N := 8) 2 rfl zi_SM (by decide) fl_SM_23 (xw_0 Nat.zero_lt_one) rfl d_SM_turn_19 ?_
      refine zz_iload_n C d_SM_turn_22 rfl ?_
      refine zz_aald C (t0 := 4) rfl (xw_3 Nat.zero_lt_one) (x_begun_thr h5) (fun h9 => if_pos h9) d_SM_turn_23 (fun b23 => ?_)
      refine zz_astore_n C d_SM_turn_24 (by decide) ?_
      refine zz_iload_n C d_SM_turn_25 rfl ?_
      refine zz_if_ne (tgt := 39) C d_SM_turn_26 (by decide) (fun h26 => ?_) (fun h26 => ?_)
      · refine zz_aload_n C d_SM_turn_39 rfl ?_
        refine zz_iload_n C d_SM_turn_40 rfl ?_
        refine xc_Vi C (xw_0 Nat.zero_lt_one) rfl s_SM_63 c_SM_isScope rfl rfl d_SM_turn_41 k_SM_isScope ⟨by decide, by decide⟩ rfl ?_
        refine zz_if_eq (tgt := 58) C d_SM_turn_44 (by decide) (fun h44 => ?_) (fun h44 => ?_)
        · refine zz_aload_n C d_SM_turn_58 rfl ?_
          refine xc_VNi C (xw_9 b23) rfl s_SM_79 (c_Ro_isFull b23) rfl rfl d_SM_turn_59 k_Ro_isFull ⟨by decide, by decide⟩ rfl ?_
          refine zz_if_eq (tgt := 68) C d_SM_turn_62 (by decide) (fun h62 => ?_) (fun h62 => ?_)
          · refine zz_aload_n C d_SM_turn_68 rfl ?_
            refine zz_iload_n C d_SM_turn_69 rfl ?_
            refine zz_aload_n C d_SM_turn_70 rfl ?_
            refine zz_iload_n C d_SM_turn_71 rfl ?_
            refine xc_Vi C (xw_0 Nat.zero_lt_one) rfl s_SM_63 c_SM_isScope rfl rfl d_SM_turn_72 k_SM_isScope ⟨by decide, by decide⟩ rfl ?_
            refine zz_if_eq (tgt := 86) C d_SM_turn_75 (by decide) (fun h75 => ?_) (fun h75 => ?_)
            · refine zz_iconst (x := -1) C d_SM_turn_86 rfl ?_
              refine zz_iconst (x := 0) C d_SM_turn_87 rfl ?_
              refine xc_VNv C (xw_9 b23) rfl s_SM_59 (c_Ro_push b23 (x_len_in (σ := σ) I b23 h62)) rfl rfl d_SM_turn_88 k_Ro_push ⟨by decide, by decide⟩ rfl ?_
              refine zz_aload_n C d_SM_turn_91 rfl ?_
              refine zz_getN C (ci := 2) (N := 5) 3 rfl zi_Ro (by decide) fn_SM_92 (xw_9 b23) rfl d_SM_turn_92 ?_
              exact xr_i C hr rfl d_SM_turn_95 (by simp only [xf_turn, xf_turn2, xf_turn3, if_neg h5, if_neg h13, if_neg h26, if_pos h44, if_pos h62, if_pos h75] <;> simp [xf_turn, xf_turn2, xf_turn3, xf_push, z_at]) (by simp only [xf_turn, xf_turn2, xf_turn3, if_neg h5, if_neg h13, if_neg h26, if_pos h44, if_pos h62, if_pos h75] <;> simp [xf_turn, xf_turn2, xf_turn3, xf_push, z_at])
            · exact absurd h44 h75
          · refine zz_bipush (x := -2) C d_SM_turn_65 rfl ?_
            exact xr_i C hr rfl d_SM_turn_67 (by simp only [xf_turn, xf_turn2, xf_turn3, if_neg h5, if_neg h13, if_neg h26, if_pos h44, if_neg h62] <;> simp [xf_turn, xf_turn2, xf_turn3, xf_push, z_at]) (by simp only [xf_turn, xf_turn2, xf_turn3, if_neg h5, if_neg h13, if_neg h26, if_pos h44, if_neg h62] <;> simp [xf_turn, xf_turn2, xf_turn3, xf_push, z_at])
        · refine zz_aload_n C d_SM_turn_47 rfl ?_
          refine zz_iload_n C d_SM_turn_48 rfl ?_
          refine xc_VNi C (xw_9 b23) rfl s_SM_70 (c_Ro_hasInView b23 I) rfl rfl d_SM_turn_49 k_Ro_hasInView ⟨by decide, by decide⟩ rfl ?_
          refine zz_if_ne (tgt := 58) C d_SM_turn_52 (by decide) (fun h52 => ?_) (fun h52 => ?_)
          · refine zz_aload_n C d_SM_turn_58 rfl ?_
            refine xc_VNi C (xw_9 b23) rfl s_SM_79 (c_Ro_isFull b23) rfl rfl d_SM_turn_59 k_Ro_isFull ⟨by decide, by decide⟩ rfl ?_
            refine zz_if_eq (tgt := 68) C d_SM_turn_62 (by decide) (fun h62 => ?_) (fun h62 => ?_)
            · refine zz_aload_n C d_SM_turn_68 rfl ?_
              refine zz_iload_n C d_SM_turn_69 rfl ?_
              refine zz_aload_n C d_SM_turn_70 rfl ?_
              refine zz_iload_n C d_SM_turn_71 rfl ?_
              refine xc_Vi C (xw_0 Nat.zero_lt_one) rfl s_SM_63 c_SM_isScope rfl rfl d_SM_turn_72 k_SM_isScope ⟨by decide, by decide⟩ rfl ?_
              refine zz_if_eq (tgt := 86) C d_SM_turn_75 (by decide) (fun h75 => ?_) (fun h75 => ?_)
              · exact absurd h75 h44
              · refine zz_aload_n C d_SM_turn_78 rfl ?_
                refine zz_iload_n C d_SM_turn_79 rfl ?_
                refine xc_VNi C (xw_9 b23) rfl s_SM_89 (c_Ro_underOfFirstWith b23 I) rfl rfl d_SM_turn_80 k_Ro_underOfFirstWith ⟨by decide, by decide⟩ rfl ?_
                refine zz_goto (tgt := 87) C d_SM_turn_83 (by decide) ?_
                refine zz_iconst (x := 0) C d_SM_turn_87 rfl ?_
                refine xc_VNv C (xw_9 b23) rfl s_SM_59 (c_Ro_push b23 (x_len_in (σ := σ) I b23 h62)) rfl rfl d_SM_turn_88 k_Ro_push ⟨by decide, by decide⟩ rfl ?_
                refine zz_aload_n C d_SM_turn_91 rfl ?_
                refine zz_getN C (ci := 2) (N := 5) 3 rfl zi_Ro (by decide) fn_SM_92 (xw_9 b23) rfl d_SM_turn_92 ?_
                exact xr_i C hr rfl d_SM_turn_95 (by simp only [xf_turn, xf_turn2, xf_turn3, if_neg h5, if_neg h13, if_neg h26, if_neg h44, if_neg h52, if_pos h62, if_neg h75] <;> simp [xf_turn, xf_turn2, xf_turn3, xf_push, z_at]) (by simp only [xf_turn, xf_turn2, xf_turn3, if_neg h5, if_neg h13, if_neg h26, if_neg h44, if_neg h52, if_pos h62, if_neg h75] <;> simp [xf_turn, xf_turn2, xf_turn3, xf_push, z_at])
            · refine zz_bipush (x := -2) C d_SM_turn_65 rfl ?_
              exact xr_i C hr rfl d_SM_turn_67 (by simp only [xf_turn, xf_turn2, xf_turn3, if_neg h5, if_neg h13, if_neg h26, if_neg h44, if_neg h52, if_neg h62] <;> simp [xf_turn, xf_turn2, xf_turn3, xf_push, z_at]) (by simp only [xf_turn, xf_turn2, xf_turn3, if_neg h5, if_neg h13, if_neg h26, if_neg h44, if_neg h52, if_neg h62] <;> simp [xf_turn, xf_turn2, xf_turn3, xf_push, z_at])
          · refine zz_bipush (x := -4) C d_SM_turn_55 rfl ?_
            exact xr_i C hr rfl d_SM_turn_57 (by simp only [xf_turn, xf_turn2, xf_turn3, if_neg h5, if_neg h13, if_neg h26, if_neg h44, if_pos h52] <;> simp [xf_turn, xf_turn2, xf_turn3, xf_push, z_at]) (by simp only [xf_turn, xf_turn2, xf_turn3, if_neg h5, if_neg h13, if_neg h26, if_neg h44, if_pos h52] <;> simp [xf_turn, xf_turn2, xf_turn3, xf_push, z_at])
      · refine zz_aload_n C d_SM_turn_29 rfl ?_
        refine zz_getN C (ci := 2) (N := 5) 4 rfl zi_Ro (by decide) fn_SM_55 (xw_9 b23) rfl d_SM_turn_30 ?_
        refine zz_if_eq (tgt := 39) C d_SM_turn_33 (by decide) (fun h33 => ?_) (fun h33 => ?_)
        · refine zz_aload_n C d_SM_turn_39 rfl ?_
          refine zz_iload_n C d_SM_turn_40 rfl ?_
          refine xc_Vi C (xw_0 Nat.zero_lt_one) rfl s_SM_63 c_SM_isScope rfl rfl d_SM_turn_41 k_SM_isScope ⟨by decide, by decide⟩ rfl ?_
          refine zz_if_eq (tgt := 58) C d_SM_turn_44 (by decide) (fun h44 => ?_) (fun h44 => ?_)
          · refine zz_aload_n C d_SM_turn_58 rfl ?_
            refine xc_VNi C (xw_9 b23) rfl s_SM_79 (c_Ro_isFull b23) rfl rfl d_SM_turn_59 k_Ro_isFull ⟨by decide, by decide⟩ rfl ?_
            refine zz_if_eq (tgt := 68) C d_SM_turn_62 (by decide) (fun h62 => ?_) (fun h62 => ?_)
            · refine zz_aload_n C d_SM_turn_68 rfl ?_
              refine zz_iload_n C d_SM_turn_69 rfl ?_
              refine zz_aload_n C d_SM_turn_70 rfl ?_
              refine zz_iload_n C d_SM_turn_71 rfl ?_
              refine xc_Vi C (xw_0 Nat.zero_lt_one) rfl s_SM_63 c_SM_isScope rfl rfl d_SM_turn_72 k_SM_isScope ⟨by decide, by decide⟩ rfl ?_
              refine zz_if_eq (tgt := 86) C d_SM_turn_75 (by decide) (fun h75 => ?_) (fun h75 => ?_)
              · refine zz_iconst (x := -1) C d_SM_turn_86 rfl ?_
                refine zz_iconst (x := 0) C d_SM_turn_87 rfl ?_
                refine xc_VNv C (xw_9 b23) rfl s_SM_59 (c_Ro_push b23 (x_len_in (σ := σ) I b23 h62)) rfl rfl d_SM_turn_88 k_Ro_push ⟨by decide, by decide⟩ rfl ?_
                refine zz_aload_n C d_SM_turn_91 rfl ?_
                refine zz_getN C (ci := 2) (N := 5) 3 rfl zi_Ro (by decide) fn_SM_92 (xw_9 b23) rfl d_SM_turn_92 ?_
                exact xr_i C hr rfl d_SM_turn_95 (by simp only [xf_turn, xf_turn2, xf_turn3, if_neg h5, if_neg h13, if_pos h26, if_pos h33, if_pos h44, if_pos h62, if_pos h75] <;> simp [xf_turn, xf_turn2, xf_turn3, xf_push, z_at]) (by simp only [xf_turn, xf_turn2, xf_turn3, if_neg h5, if_neg h13, if_pos h26, if_pos h33, if_pos h44, if_pos h62, if_pos h75] <;> simp [xf_turn, xf_turn2, xf_turn3, xf_push, z_at])
              · exact absurd h44 h75
            · refine zz_bipush (x := -2) C d_SM_turn_65 rfl ?_
              exact xr_i C hr rfl d_SM_turn_67 (by simp only [xf_turn, xf_turn2, xf_turn3, if_neg h5, if_neg h13, if_pos h26, if_pos h33, if_pos h44, if_neg h62] <;> simp [xf_turn, xf_turn2, xf_turn3, xf_push, z_at]) (by simp only [xf_turn, xf_turn2, xf_turn3, if_neg h5, if_neg h13, if_pos h26, if_pos h33, if_pos h44, if_neg h62] <;> simp [xf_turn, xf_turn2, xf_turn3, xf_push, z_at])
          · refine zz_aload_n C d_SM_turn_47 rfl ?_
            refine zz_iload_n C d_SM_turn_48 rfl ?_
            refine xc_VNi C (xw_9 b23) rfl s_SM_70 (c_Ro_hasInView b23 I) rfl rfl d_SM_turn_49 k_Ro_hasInView ⟨by decide, by decide⟩ rfl ?_
            refine zz_if_ne (tgt := 58) C d_SM_turn_52 (by decide) (fun h52 => ?_) (fun h52 => ?_)
            · refine zz_aload_n C d_SM_turn_58 rfl ?_
              refine xc_VNi C (xw_9 b23) rfl s_SM_79 (c_Ro_isFull b23) rfl rfl d_SM_turn_59 k_Ro_isFull ⟨by decide, by decide⟩ rfl ?_
              refine zz_if_eq (tgt := 68) C d_SM_turn_62 (by decide) (fun h62 => ?_) (fun h62 => ?_)
              · refine zz_aload_n C d_SM_turn_68 rfl ?_
                refine zz_iload_n C d_SM_turn_69 rfl ?_
                refine zz_aload_n C d_SM_turn_70 rfl ?_
                refine zz_iload_n C d_SM_turn_71 rfl ?_
                refine xc_Vi C (xw_0 Nat.zero_lt_one) rfl s_SM_63 c_SM_isScope rfl rfl d_SM_turn_72 k_SM_isScope ⟨by decide, by decide⟩ rfl ?_
                refine zz_if_eq (tgt := 86) C d_SM_turn_75 (by decide) (fun h75 => ?_) (fun h75 => ?_)
                · exact absurd h75 h44
                · refine zz_aload_n C d_SM_turn_78 rfl ?_
                  refine zz_iload_n C d_SM_turn_79 rfl ?_
                  refine xc_VNi C (xw_9 b23) rfl s_SM_89 (c_Ro_underOfFirstWith b23 I) rfl rfl d_SM_turn_80 k_Ro_underOfFirstWith ⟨by decide, by decide⟩ rfl ?_
                  refine zz_goto (tgt := 87) C d_SM_turn_83 (by decide) ?_
                  refine zz_iconst (x := 0) C d_SM_turn_87 rfl ?_
                  refine xc_VNv C (xw_9 b23) rfl s_SM_59 (c_Ro_push b23 (x_len_in (σ := σ) I b23 h62)) rfl rfl d_SM_turn_88 k_Ro_push ⟨by decide, by decide⟩ rfl ?_
                  refine zz_aload_n C d_SM_turn_91 rfl ?_
                  refine zz_getN C (ci := 2) (N := 5) 3 rfl zi_Ro (by decide) fn_SM_92 (xw_9 b23) rfl d_SM_turn_92 ?_
                  exact xr_i C hr rfl d_SM_turn_95 (by simp only [xf_turn, xf_turn2, xf_turn3, if_neg h5, if_neg h13, if_pos h26, if_pos h33, if_neg h44, if_neg h52, if_pos h62, if_neg h75] <;> simp [xf_turn, xf_turn2, xf_turn3, xf_push, z_at]) (by simp only [xf_turn, xf_turn2, xf_turn3, if_neg h5, if_neg h13, if_pos h26, if_pos h33, if_neg h44, if_neg h52, if_pos h62, if_neg h75] <;> simp [xf_turn, xf_turn2, xf_turn3, xf_push, z_at])
              · refine zz_bipush (x := -2) C d_SM_turn_65 rfl ?_
                exact xr_i C hr rfl d_SM_turn_67 (by simp only [xf_turn, xf_turn2, xf_turn3, if_neg h5, if_neg h13, if_pos h26, if_pos h33, if_neg h44, if_neg h52, if_neg h62] <;> simp [xf_turn, xf_turn2, xf_turn3, xf_push, z_at]) (by simp only [xf_turn, xf_turn2, xf_turn3, if_neg h5, if_neg h13, if_pos h26, if_pos h33, if_neg h44, if_neg h52, if_neg h62] <;> simp [xf_turn, xf_turn2, xf_turn3, xf_push, z_at])
            · refine zz_bipush (x := -4) C d_SM_turn_55 rfl ?_
              exact xr_i C hr rfl d_SM_turn_57 (by simp only [xf_turn, xf_turn2, xf_turn3, if_neg h5, if_neg h13, if_pos h26, if_pos h33, if_neg h44, if_pos h52] <;> simp [xf_turn, xf_turn2, xf_turn3, xf_push, z_at]) (by simp only [xf_turn, xf_turn2, xf_turn3, if_neg h5, if_neg h13, if_pos h26, if_pos h33, if_neg h44, if_pos h52] <;> simp [xf_turn, xf_turn2, xf_turn3, xf_push, z_at])
        · refine zz_bipush (x := -5) C d_SM_turn_36 rfl ?_
          exact xr_i C hr rfl d_SM_turn_38 (by simp only [xf_turn, xf_turn2, xf_turn3, if_neg h5, if_neg h13, if_pos h26, if_neg h33] <;> simp [xf_turn, xf_turn2, xf_turn3, xf_push, z_at]) (by simp only [xf_turn, xf_turn2, xf_turn3, if_neg h5, if_neg h13, if_pos h26, if_neg h33] <;> simp [xf_turn, xf_turn2, xf_turn3, xf_push, z_at])
    · refine zz_iconst (x := -1) C d_SM_turn_16 rfl ?_
      exact xr_i C hr rfl d_SM_turn_17 (by simp only [xf_turn, xf_turn2, xf_turn3, if_neg h5, if_pos h13] <;> simp [xf_turn, xf_turn2, xf_turn3, xf_push, z_at]) (by simp only [xf_turn, xf_turn2, xf_turn3, if_neg h5, if_pos h13] <;> simp [xf_turn, xf_turn2, xf_turn3, xf_push, z_at])
set_option maxHeartbeats 400000 in
set_option maxRecDepth 100000 in
theorem c_SM_leave {l : Launch} {D : va_G} {dA : Nat → ClassId} {lo n : Nat} {σ : zS} {t : Int32} (I : xI σ) : xM l y_SM_leave b_SM_leave 5 (some .int) 3 D dA lo n [.ref (xa0 lo 0), .int t] σ (some (.int ((xf_leave σ t).1))) ((xf_leave σ t).2) := by
  refine zM_of (lv0 := [(0, .ref (xa0 lo 0)), (1, .int t)]) (by decide) rfl rfl rfl ?_
  intro p e s m below meth c C hr hnm hsz
  have C : zC p s m ([.ref (xa0 lo 0), .int t] : List Value).toArray meth c b_SM_leave 5 R_SM D dA := C
  refine zz_aload_n C d_SM_leave_0 rfl ?_
  refine zz_iload_n C d_SM_leave_1 rfl ?_
  refine xc_Vi C (xw_0 Nat.zero_lt_one) rfl s_SM_52 c_SM_isBegun rfl rfl d_SM_leave_2 k_SM_isBegun ⟨by decide, by decide⟩ rfl ?_
  refine zz_if_ne (tgt := 10) C d_SM_leave_5 (by decide) (fun h5 => ?_) (fun h5 => ?_)
  · refine zz_aload_n C d_SM_leave_10 rfl ?_
    refine zz_get C (ci := 3) (N := 8) 2 rfl zi_SM (by decide) fl_SM_23 (xw_0 Nat.zero_lt_one) rfl d_SM_leave_11 ?_
    refine zz_iload_n C d_SM_leave_14 rfl ?_
    refine zz_aald C (t0 := 4) rfl (xw_3 Nat.zero_lt_one) (x_begun_thr h5) (fun h9 => if_pos h9) d_SM_leave_15 (fun b15 => ?_)
    refine zz_astore_n C d_SM_leave_16 (by decide) ?_
    refine zz_aload_n C d_SM_leave_17 rfl ?_
    refine xc_VNi C (xw_9 b15) rfl s_SM_95 (c_Ro_currentArea b15 (x_top_in I b15 (x_begun_len h5))) rfl rfl d_SM_leave_18 k_Ro_currentArea ⟨by decide, by decide⟩ rfl ?_
    refine zz_istore_n C d_SM_leave_21 (by decide) ?_
    refine zz_aload_n C d_SM_leave_22 rfl ?_
    refine xc_VNi C (xw_9 b15) rfl s_SM_98 (c_Ro_topWasEntered b15 I (x_top_in I b15 (x_begun_len h5))) rfl rfl d_SM_leave_23 k_Ro_topWasEntered ⟨by decide, by decide⟩ rfl ?_
    refine zz_istore C d_SM_leave_26 (by decide) ?_
    refine zz_aload_n C d_SM_leave_28 rfl ?_
    refine xc_VNv C (xw_9 b15) rfl s_SM_101 (c_Ro_pop b15) rfl rfl d_SM_leave_29 k_Ro_pop ⟨by decide, by decide⟩ rfl ?_
    refine zz_iload C d_SM_leave_32 rfl ?_
    refine zz_if_eq (tgt := 42) C d_SM_leave_34 (by decide) (fun h34 => ?_) (fun h34 => ?_)
    · refine zz_aload_n C d_SM_leave_42 rfl ?_
      refine zz_getN C (ci := 2) (N := 5) 3 rfl zi_Ro (by decide) fn_SM_92 (xw_9 b15) rfl d_SM_leave_43 ?_
      exact xr_i C hr rfl d_SM_leave_46 (by simp only [xf_leave, if_neg h5, if_pos h34] <;> simp [xf_leave, xf_pop, x_dropEntry_12, xf_currentArea, z_at]) (by simp only [xf_leave, if_neg h5, if_pos h34] <;> simp [xf_leave, xf_pop, x_dropEntry_12, xf_currentArea, z_at])
    · refine zz_aload_n C d_SM_leave_37 rfl ?_
      refine zz_iload_n C d_SM_leave_38 rfl ?_
      refine xc_Vv C (xw_0 Nat.zero_lt_one) rfl s_SM_104 (c_SM_dropEntry (I.2.2.2.2.2.2.2.1 _ b15 _ (z_vlt (x_top_in I b15 (x_begun_len h5))))) rfl rfl d_SM_leave_39 k_SM_dropEntry ⟨by decide, by decide⟩ rfl ?_
      refine zz_aload_n C d_SM_leave_42 rfl ?_
      refine zz_getN C (ci := 2) (N := 5) 3 rfl zi_Ro (by decide) fn_SM_92 (xw_9 b15) rfl d_SM_leave_43 ?_
      exact xr_i C hr rfl d_SM_leave_46 (by simp only [xf_leave, if_neg h5, if_neg h34] <;> simp [xf_leave, xf_pop, x_dropEntry_12, xf_currentArea, z_at]) (by simp only [xf_leave, if_neg h5, if_neg h34] <;> simp [xf_leave, xf_pop, x_dropEntry_12, xf_currentArea, z_at])
  · refine zz_iconst (x := -1) C d_SM_leave_8 rfl ?_
    exact xr_i C hr rfl d_SM_leave_9 (by simp only [xf_leave, if_pos h5] <;> simp [xf_leave, xf_pop, x_dropEntry_12, xf_currentArea, z_at]) (by simp only [xf_leave, if_pos h5] <;> simp [xf_leave, xf_pop, x_dropEntry_12, xf_currentArea, z_at])
set_option maxHeartbeats 400000 in
set_option maxRecDepth 100000 in
theorem c_SM_make {l : Launch} {D : va_G} {dA : Nat → ClassId} {lo n : Nat} {σ : zS} {t f : Int32} (I : xI σ) : xM l y_SM_make b_SM_make 5 (some .int) 2 D dA lo n [.ref (xa0 lo 0), .int t, .int f] σ (some (.int ((xf_make σ t f).1))) ((xf_make σ t f).2) := by
  refine zM_of (lv0 := [(0, .ref (xa0 lo 0)), (1, .int t), (2, .int f)]) (by decide) rfl rfl rfl ?_
  intro p e s m below meth c C hr hnm hsz
  have C : zC p s m ([.ref (xa0 lo 0), .int t, .int f] : List Value).toArray meth c b_SM_make 5 R_SM D dA := C
  refine zz_aload_n C d_SM_make_0 rfl ?_
  refine zz_iload_n C d_SM_make_1 rfl ?_
  refine xc_Vi C (xw_0 Nat.zero_lt_one) rfl s_SM_52 c_SM_isBegun rfl rfl d_SM_make_2 k_SM_isBegun ⟨by decide, by decide⟩ rfl ?_
  refine zz_if_eq (tgt := 17) C d_SM_make_5 (by decide) (fun h5 => ?_) (fun h5 => ?_)
  · refine zz_iconst (x := -1) C d_SM_make_17 rfl ?_
    exact xr_i C hr rfl d_SM_make_18 (by simp only [xf_make, if_pos h5] <;> simp [xf_make, x_fill_1, x_fill_18, z_at]) (by simp only [xf_make, if_pos h5] <;> simp [xf_make, x_fill_1, x_fill_18, z_at])
  · refine zz_iload_n C d_SM_make_8 rfl ?_
    refine zz_if_lt (tgt := 17) C d_SM_make_9 (by decide) (fun h9 => ?_) (fun h9 => ?_)
    · refine zz_iconst (x := -1) C d_SM_make_17 rfl ?_
      exact xr_i C hr rfl d_SM_make_18 (by simp only [xf_make, if_neg h5, if_pos h9] <;> simp [xf_make, x_fill_1, x_fill_18, z_at]) (by simp only [xf_make, if_neg h5, if_pos h9] <;> simp [xf_make, x_fill_1, x_fill_18, z_at])
    · refine zz_iload_n C d_SM_make_12 rfl ?_
      refine zz_iconst (x := 4) C d_SM_make_13 rfl ?_
      refine zz_icmp_le (tgt := 19) C d_SM_make_14 (by decide) (fun h14 => ?_) (fun h14 => ?_)
      · refine zz_aload_n C d_SM_make_19 rfl ?_
        refine zz_get C (ci := 3) (N := 8) 2 rfl zi_SM (by decide) fl_SM_23 (xw_0 Nat.zero_lt_one) rfl d_SM_make_20 ?_
        refine zz_iload_n C d_SM_make_23 rfl ?_
        refine zz_aald C (t0 := 4) rfl (xw_3 Nat.zero_lt_one) (x_begun_thr h5) (fun h9 => if_pos h9) d_SM_make_24 (fun b24 => ?_)
        refine xc_VNi C (xw_9 b24) rfl s_SM_95 (c_Ro_currentArea b24 (x_top_in I b24 (x_begun_len h5))) rfl rfl d_SM_make_25 k_Ro_currentArea ⟨by decide, by decide⟩ rfl ?_
        refine zz_istore_n C d_SM_make_28 (by decide) ?_
        refine zz_aload_n C d_SM_make_29 rfl ?_
        refine xc_Vi C (xw_0 Nat.zero_lt_one) rfl s_SM_108 c_SM_leastFreeNumber rfl rfl d_SM_make_30 k_SM_leastFreeNumber ⟨by decide, by decide⟩ rfl ?_
        refine zz_istore C d_SM_make_33 (by decide) ?_
        refine zz_iload C d_SM_make_35 rfl ?_
        refine zz_iconst (x := -1) C d_SM_make_37 rfl ?_
        refine zz_icmp_eq (tgt := 56) C d_SM_make_38 (by decide) (fun h38 => ?_) (fun h38 => ?_)
        · refine zz_bipush (x := -2) C d_SM_make_56 rfl ?_
          exact xr_i C hr rfl d_SM_make_58 (by simp only [xf_make, if_neg h5, if_neg h9, if_pos h14, if_pos h38] <;> simp [xf_make, x_fill_1, x_fill_18, z_at]) (by simp only [xf_make, if_neg h5, if_neg h9, if_pos h14, if_pos h38] <;> simp [xf_make, x_fill_1, x_fill_18, z_at])
        · refine zz_aload_n C d_SM_make_41 rfl ?_
          refine zz_get C (ci := 3) (N := 8) 0 rfl zi_SM (by decide) fl_SM_11 (xw_0 Nat.zero_lt_one) rfl d_SM_make_42 ?_
          refine zz_iload_n C d_SM_make_45 rfl ?_
          refine zz_aald C (t0 := 2) rfl (xw_1 Nat.zero_lt_one) (I.2.2.2.2.2.2.2.1 _ b24 _ (z_vlt (x_top_in I b24 (x_begun_len h5)))) (fun h9 => if_pos h9) d_SM_make_46 (fun b46 => ?_)
          refine xc_VNi C (xw_6 b46) rfl s_SM_111 (c_Ar_free b46) rfl rfl d_SM_make_47 k_Ar_free ⟨by decide, by decide⟩ rfl ?_
          refine zz_iconst (x := 1) C d_SM_make_50 rfl ?_
          refine zz_iload_n C d_SM_make_51 rfl ?_
          refine zz_iadd C d_SM_make_52 ?_
          refine zz_icmp_ge (tgt := 59) C d_SM_make_53 (by decide) (fun h53 => ?_) (fun h53 => ?_)
          · refine zz_aload_n C d_SM_make_59 rfl ?_
            refine zz_get C (ci := 3) (N := 8) 1 rfl zi_SM (by decide) fl_SM_17 (xw_0 Nat.zero_lt_one) rfl d_SM_make_60 ?_
            refine zz_iload C d_SM_make_63 rfl ?_
            refine zz_aald C (t0 := 3) rfl (xw_2 Nat.zero_lt_one) (x_lf_in h38) (fun h9 => if_pos h9) d_SM_make_65 (fun b65 => ?_)
            refine zz_iload_n C d_SM_make_66 rfl ?_
            refine zz_iload_n C d_SM_make_67 rfl ?_
            refine xc_VNv C (xw_7 b65) rfl s_SM_114 (c_Ce_fill b65) rfl rfl d_SM_make_68 k_Ce_fill ⟨by decide, by decide⟩ rfl ?_
            refine zz_aload_n C d_SM_make_71 rfl ?_
            refine zz_get C (ci := 3) (N := 8) 0 rfl zi_SM (by decide) fl_SM_11 (xw_0 Nat.zero_lt_one) rfl d_SM_make_72 ?_
            refine zz_iload_n C d_SM_make_75 rfl ?_
            refine zz_aald C (t0 := 2) rfl (xw_1 Nat.zero_lt_one) (I.2.2.2.2.2.2.2.1 _ b24 _ (z_vlt (x_top_in I b24 (x_begun_len h5)))) (fun h9 => if_pos h9) d_SM_make_76 (fun b76 => ?_)
            refine zz_dup C d_SM_make_77 rfl ?_
            refine zz_getN C (ci := 0) (N := 5) 1 rfl zi_Ar (by decide) fn_SM_118 (xw_6 b76) rfl d_SM_make_78 ?_
            refine zz_iconst (x := 1) C d_SM_make_81 rfl ?_
            refine zz_iload_n C d_SM_make_82 rfl ?_
            refine zz_iadd C d_SM_make_83 ?_
            refine zz_iadd C d_SM_make_84 ?_
            refine xpN_1 C fn_SM_118 b76 rfl rfl d_SM_make_85 ?_
            refine zz_aload_n C d_SM_make_88 rfl ?_
            refine zz_dup C d_SM_make_89 rfl ?_
            refine zz_get C (ci := 3) (N := 8) 7 rfl zi_SM (by decide) fl_SM_121 (xw_0 Nat.zero_lt_one) rfl d_SM_make_90 ?_
            refine zz_iconst (x := 1) C d_SM_make_93 rfl ?_
            refine zz_iadd C d_SM_make_94 ?_
            refine xp_18 C fl_SM_121 Nat.zero_lt_one rfl rfl d_SM_make_95 ?_
            refine zz_iload C d_SM_make_98 rfl ?_
            exact xr_i C hr rfl d_SM_make_100 (by simp only [xf_make, if_neg h5, if_neg h9, if_pos h14, if_neg h38, if_pos h53] <;> simp [xf_make, x_fill_1, x_fill_18, z_at]) (by simp only [xf_make, if_neg h5, if_neg h9, if_pos h14, if_neg h38, if_pos h53] <;> simp [xf_make, x_fill_1, x_fill_18, z_at])
          · refine zz_bipush (x := -2) C d_SM_make_56 rfl ?_
            exact xr_i C hr rfl d_SM_make_58 (by simp only [xf_make, if_neg h5, if_neg h9, if_pos h14, if_neg h38, if_neg h53] <;> simp [xf_make, x_fill_1, x_fill_18, z_at]) (by simp only [xf_make, if_neg h5, if_neg h9, if_pos h14, if_neg h38, if_neg h53] <;> simp [xf_make, x_fill_1, x_fill_18, z_at])
      · refine zz_iconst (x := -1) C d_SM_make_17 rfl ?_
        exact xr_i C hr rfl d_SM_make_18 (by simp only [xf_make, if_neg h5, if_neg h9, if_neg h14] <;> simp [xf_make, x_fill_1, x_fill_18, z_at]) (by simp only [xf_make, if_neg h5, if_neg h9, if_neg h14] <;> simp [xf_make, x_fill_1, x_fill_18, z_at])
set_option maxHeartbeats 400000 in
set_option maxRecDepth 100000 in
theorem c_SM_put {l : Launch} {D : va_G} {dA : Nat → ClassId} {lo n : Nat} {σ : zS} {t o f g : Int32} (I : xI σ) : xM l y_SM_put b_SM_put 5 (some .int) 5 D dA lo n [.ref (xa0 lo 0), .int t, .int o, .int f, .int g] σ (some (.int ((xf_put σ t o f g).1))) ((xf_put σ t o f g).2) := by
  refine zM_of (lv0 := [(0, .ref (xa0 lo 0)), (1, .int t), (2, .int o), (3, .int f), (4, .int g)]) (by decide) rfl rfl rfl ?_
  intro p e s m below meth c C hr hnm hsz
  have C : zC p s m ([.ref (xa0 lo 0), .int t, .int o, .int f, .int g] : List Value).toArray meth c b_SM_put 5 R_SM D dA := C
  refine zz_aload_n C d_SM_put_0 rfl ?_
  refine zz_iload_n C d_SM_put_1 rfl ?_
  refine xc_Vi C (xw_0 Nat.zero_lt_one) rfl s_SM_52 c_SM_isBegun rfl rfl d_SM_put_2 k_SM_isBegun ⟨by decide, by decide⟩ rfl ?_
  refine zz_if_eq (tgt := 26) C d_SM_put_5 (by decide) (fun h5 => ?_) (fun h5 => ?_)
  · refine zz_iconst (x := -1) C d_SM_put_26 rfl ?_
    exact xr_i C hr rfl d_SM_put_27 (by simp only [xf_put, if_pos h5] <;> simp [xf_put, z_at]) (by simp only [xf_put, if_pos h5] <;> simp [xf_put, z_at])
  · refine zz_aload_n C d_SM_put_8 rfl ?_
    refine zz_iload_n C d_SM_put_9 rfl ?_
    refine zz_iload_n C d_SM_put_10 rfl ?_
    refine xc_Vi C (xw_0 Nat.zero_lt_one) rfl s_SM_124 c_SM_hasField rfl rfl d_SM_put_11 k_SM_hasField ⟨by decide, by decide⟩ rfl ?_
    refine zz_if_eq (tgt := 26) C d_SM_put_14 (by decide) (fun h14 => ?_) (fun h14 => ?_)
    · refine zz_iconst (x := -1) C d_SM_put_26 rfl ?_
      exact xr_i C hr rfl d_SM_put_27 (by simp only [xf_put, if_neg h5, if_pos h14] <;> simp [xf_put, z_at]) (by simp only [xf_put, if_neg h5, if_pos h14] <;> simp [xf_put, z_at])
    · refine zz_aload_n C d_SM_put_17 rfl ?_
      refine zz_iload C d_SM_put_18 rfl ?_
      refine xc_Vi C (xw_0 Nat.zero_lt_one) rfl s_SM_128 c_SM_isObjectOrNull rfl rfl d_SM_put_20 k_SM_isObjectOrNull ⟨by decide, by decide⟩ rfl ?_
      refine zz_if_ne (tgt := 28) C d_SM_put_23 (by decide) (fun h23 => ?_) (fun h23 => ?_)
      · refine zz_aload_n C d_SM_put_28 rfl ?_
        refine zz_iload_n C d_SM_put_29 rfl ?_
        refine zz_iload_n C d_SM_put_30 rfl ?_
        refine xc_Vi C (xw_0 Nat.zero_lt_one) rfl s_SM_131 (c_SM_sees I (x_begun_thr h5) (x_obj (x_hasF h14))) rfl rfl d_SM_put_31 k_SM_sees ⟨by decide, by decide⟩ rfl ?_
        refine zz_if_eq (tgt := 47) C d_SM_put_34 (by decide) (fun h34 => ?_) (fun h34 => ?_)
        · refine zz_bipush (x := -4) C d_SM_put_47 rfl ?_
          exact xr_i C hr rfl d_SM_put_49 (by simp only [xf_put, if_neg h5, if_neg h14, if_neg h23, if_pos h34] <;> simp [xf_put, z_at]) (by simp only [xf_put, if_neg h5, if_neg h14, if_neg h23, if_pos h34] <;> simp [xf_put, z_at])
        · refine zz_aload_n C d_SM_put_37 rfl ?_
          refine zz_iload_n C d_SM_put_38 rfl ?_
          refine zz_iload C d_SM_put_39 rfl ?_
          refine xc_Vi C (xw_0 Nat.zero_lt_one) rfl s_SM_134 (c_SM_seesOrNull I (x_begun_thr h5) (x_objN h23)) rfl rfl d_SM_put_41 k_SM_seesOrNull ⟨by decide, by decide⟩ rfl ?_
          refine zz_if_ne (tgt := 50) C d_SM_put_44 (by decide) (fun h44 => ?_) (fun h44 => ?_)
          · refine zz_iload C d_SM_put_50 rfl ?_
            refine zz_iconst (x := -1) C d_SM_put_52 rfl ?_
            refine zz_icmp_eq (tgt := 77) C d_SM_put_53 (by decide) (fun h53 => ?_) (fun h53 => ?_)
            · refine zz_aload_n C d_SM_put_77 rfl ?_
              refine zz_get C (ci := 3) (N := 8) 1 rfl zi_SM (by decide) fl_SM_17 (xw_0 Nat.zero_lt_one) rfl d_SM_put_78 ?_
              refine zz_iload_n C d_SM_put_81 rfl ?_
              refine zz_aald C (t0 := 3) rfl (xw_2 Nat.zero_lt_one) (x_obj (x_hasF h14)) (fun h9 => if_pos h9) d_SM_put_82 (fun b82 => ?_)
              refine zz_getN C (ci := 1) (N := 4) 0 rfl zi_Ce (by decide) fn_SM_143 (xw_7 b82) rfl d_SM_put_83 ?_
              refine zz_iload_n C d_SM_put_86 rfl ?_
              refine zz_iload C d_SM_put_87 rfl ?_
              refine xs_5 C b82 (x_hasF_f I h14) d_SM_put_89 ?_
              refine zz_iconst (x := 0) C d_SM_put_90 rfl ?_
              exact xr_i C hr rfl d_SM_put_91 (by simp only [xf_put, if_neg h5, if_neg h14, if_neg h23, if_neg h34, if_neg h44, if_pos h53] <;> simp [xf_put, z_at]) (by simp only [xf_put, if_neg h5, if_neg h14, if_neg h23, if_neg h34, if_neg h44, if_pos h53] <;> simp [xf_put, z_at])
            · refine zz_aload_n C d_SM_put_56 rfl ?_
              refine zz_aload_n C d_SM_put_57 rfl ?_
              refine zz_get C (ci := 3) (N := 8) 1 rfl zi_SM (by decide) fl_SM_17 (xw_0 Nat.zero_lt_one) rfl d_SM_put_58 ?_
              refine zz_iload_n C d_SM_put_61 rfl ?_
              refine zz_aald C (t0 := 3) rfl (xw_2 Nat.zero_lt_one) (x_obj (x_hasF h14)) (fun h9 => if_pos h9) d_SM_put_62 (fun b62 => ?_)
              refine zz_getN C (ci := 1) (N := 4) 1 rfl zi_Ce (by decide) fn_SM_137 (xw_7 b62) rfl d_SM_put_63 ?_
              refine zz_iload C d_SM_put_66 rfl ?_
              refine xc_Vi C (xw_0 Nat.zero_lt_one) rfl s_SM_140 (c_SM_mayPointTo I (I.2.2.1 _ b62) (z_ovin (x_objN h23) h53)) rfl rfl d_SM_put_68 k_SM_mayPointTo ⟨by decide, by decide⟩ rfl ?_
              refine zz_if_ne (tgt := 77) C d_SM_put_71 (by decide) (fun h71 => ?_) (fun h71 => ?_)
              · refine zz_aload_n C d_SM_put_77 rfl ?_
                refine zz_get C (ci := 3) (N := 8) 1 rfl zi_SM (by decide) fl_SM_17 (xw_0 Nat.zero_lt_one) rfl d_SM_put_78 ?_
                refine zz_iload_n C d_SM_put_81 rfl ?_
                refine zz_aald C (t0 := 3) rfl (xw_2 Nat.zero_lt_one) (x_obj (x_hasF h14)) (fun h9 => if_pos h9) d_SM_put_82 (fun b82 => ?_)
                refine zz_getN C (ci := 1) (N := 4) 0 rfl zi_Ce (by decide) fn_SM_143 (xw_7 b82) rfl d_SM_put_83 ?_
                refine zz_iload_n C d_SM_put_86 rfl ?_
                refine zz_iload C d_SM_put_87 rfl ?_
                refine xs_5 C b82 (x_hasF_f I h14) d_SM_put_89 ?_
                refine zz_iconst (x := 0) C d_SM_put_90 rfl ?_
                exact xr_i C hr rfl d_SM_put_91 (by simp only [xf_put, if_neg h5, if_neg h14, if_neg h23, if_neg h34, if_neg h44, if_neg h53, if_neg h71] <;> simp [xf_put, z_at]) (by simp only [xf_put, if_neg h5, if_neg h14, if_neg h23, if_neg h34, if_neg h44, if_neg h53, if_neg h71] <;> simp [xf_put, z_at])
              · refine zz_bipush (x := -5) C d_SM_put_74 rfl ?_
                exact xr_i C hr rfl d_SM_put_76 (by simp only [xf_put, if_neg h5, if_neg h14, if_neg h23, if_neg h34, if_neg h44, if_neg h53, if_pos h71] <;> simp [xf_put, z_at]) (by simp only [xf_put, if_neg h5, if_neg h14, if_neg h23, if_neg h34, if_neg h44, if_neg h53, if_pos h71] <;> simp [xf_put, z_at])
          · refine zz_bipush (x := -4) C d_SM_put_47 rfl ?_
            exact xr_i C hr rfl d_SM_put_49 (by simp only [xf_put, if_neg h5, if_neg h14, if_neg h23, if_neg h34, if_pos h44] <;> simp [xf_put, z_at]) (by simp only [xf_put, if_neg h5, if_neg h14, if_neg h23, if_neg h34, if_pos h44] <;> simp [xf_put, z_at])
      · refine zz_iconst (x := -1) C d_SM_put_26 rfl ?_
        exact xr_i C hr rfl d_SM_put_27 (by simp only [xf_put, if_neg h5, if_neg h14, if_pos h23] <;> simp [xf_put, z_at]) (by simp only [xf_put, if_neg h5, if_neg h14, if_pos h23] <;> simp [xf_put, z_at])
set_option maxHeartbeats 400000 in
set_option maxRecDepth 100000 in
theorem c_SM_get {l : Launch} {D : va_G} {dA : Nat → ClassId} {lo n : Nat} {σ : zS} {t o f : Int32} (I : xI σ) : xM l y_SM_get b_SM_get 5 (some .int) 4 D dA lo n [.ref (xa0 lo 0), .int t, .int o, .int f] σ (some (.int (xf_get σ t o f))) σ := by
  refine zM_of (lv0 := [(0, .ref (xa0 lo 0)), (1, .int t), (2, .int o), (3, .int f)]) (by decide) rfl rfl rfl ?_
  intro p e s m below meth c C hr hnm hsz
  have C : zC p s m ([.ref (xa0 lo 0), .int t, .int o, .int f] : List Value).toArray meth c b_SM_get 5 R_SM D dA := C
  refine zz_aload_n C d_SM_get_0 rfl ?_
  refine zz_iload_n C d_SM_get_1 rfl ?_
  refine xc_Vi C (xw_0 Nat.zero_lt_one) rfl s_SM_52 c_SM_isBegun rfl rfl d_SM_get_2 k_SM_isBegun ⟨by decide, by decide⟩ rfl ?_
  refine zz_if_eq (tgt := 17) C d_SM_get_5 (by decide) (fun h5 => ?_) (fun h5 => ?_)
  · refine zz_iconst (x := -1) C d_SM_get_17 rfl ?_
    exact xr_i C hr rfl d_SM_get_18 (by simp only [xf_get, if_pos h5] <;> simp [xf_get, z_at]) rfl
  · refine zz_aload_n C d_SM_get_8 rfl ?_
    refine zz_iload_n C d_SM_get_9 rfl ?_
    refine zz_iload_n C d_SM_get_10 rfl ?_
    refine xc_Vi C (xw_0 Nat.zero_lt_one) rfl s_SM_124 c_SM_hasField rfl rfl d_SM_get_11 k_SM_hasField ⟨by decide, by decide⟩ rfl ?_
    refine zz_if_ne (tgt := 19) C d_SM_get_14 (by decide) (fun h14 => ?_) (fun h14 => ?_)
    · refine zz_aload_n C d_SM_get_19 rfl ?_
      refine zz_iload_n C d_SM_get_20 rfl ?_
      refine zz_iload_n C d_SM_get_21 rfl ?_
      refine xc_Vi C (xw_0 Nat.zero_lt_one) rfl s_SM_131 (c_SM_sees I (x_begun_thr h5) (x_obj (x_hasF h14))) rfl rfl d_SM_get_22 k_SM_sees ⟨by decide, by decide⟩ rfl ?_
      refine zz_if_ne (tgt := 31) C d_SM_get_25 (by decide) (fun h25 => ?_) (fun h25 => ?_)
      · refine zz_aload_n C d_SM_get_31 rfl ?_
        refine zz_get C (ci := 3) (N := 8) 1 rfl zi_SM (by decide) fl_SM_17 (xw_0 Nat.zero_lt_one) rfl d_SM_get_32 ?_
        refine zz_iload_n C d_SM_get_35 rfl ?_
        refine zz_aald C (t0 := 3) rfl (xw_2 Nat.zero_lt_one) (x_obj (x_hasF h14)) (fun h9 => if_pos h9) d_SM_get_36 (fun b36 => ?_)
        refine zz_getN C (ci := 1) (N := 4) 0 rfl zi_Ce (by decide) fn_SM_143 (xw_7 b36) rfl d_SM_get_37 ?_
        refine zz_iload_n C d_SM_get_40 rfl ?_
        refine zz_iald C (t0 := 0) rfl (xw_8 b36) (x_hasF_f I h14) d_SM_get_41 ?_
        refine zz_istore C d_SM_get_42 (by decide) ?_
        refine zz_iload C d_SM_get_44 rfl ?_
        refine zz_iconst (x := -1) C d_SM_get_46 rfl ?_
        refine zz_icmp_ne (tgt := 53) C d_SM_get_47 (by decide) (fun h47 => ?_) (fun h47 => ?_)
        · refine zz_aload_n C d_SM_get_53 rfl ?_
          refine zz_iload_n C d_SM_get_54 rfl ?_
          refine zz_iload C d_SM_get_55 rfl ?_
          refine xc_Vi C (xw_0 Nat.zero_lt_one) rfl s_SM_131 (c_SM_sees I (x_begun_thr h5) (z_ovin (I.2.2.2.2.1 _ b36 _ (z_vlt (x_hasF_f I h14))) h47)) rfl rfl d_SM_get_57 k_SM_sees ⟨by decide, by decide⟩ rfl ?_
          refine zz_if_eq (tgt := 68) C d_SM_get_60 (by decide) (fun h60 => ?_) (fun h60 => ?_)
          · refine zz_bipush (x := -4) C d_SM_get_68 rfl ?_
            exact xr_i C hr rfl d_SM_get_70 (by simp only [xf_get, if_neg h5, if_neg h14, if_neg h25, if_neg h47, if_pos h60] <;> simp [xf_get, z_at]) rfl
          · refine zz_iload C d_SM_get_63 rfl ?_
            refine zz_goto (tgt := 70) C d_SM_get_65 (by decide) ?_
            exact xr_i C hr rfl d_SM_get_70 (by simp only [xf_get, if_neg h5, if_neg h14, if_neg h25, if_neg h47, if_neg h60] <;> simp [xf_get, z_at]) rfl
        · refine zz_bipush (x := -6) C d_SM_get_50 rfl ?_
          exact xr_i C hr rfl d_SM_get_52 (by simp only [xf_get, if_neg h5, if_neg h14, if_neg h25, if_pos h47] <;> simp [xf_get, z_at]) rfl
      · refine zz_bipush (x := -4) C d_SM_get_28 rfl ?_
        exact xr_i C hr rfl d_SM_get_30 (by simp only [xf_get, if_neg h5, if_neg h14, if_pos h25] <;> simp [xf_get, z_at]) rfl
    · refine zz_iconst (x := -1) C d_SM_get_17 rfl ?_
      exact xr_i C hr rfl d_SM_get_18 (by simp only [xf_get, if_neg h5, if_pos h14] <;> simp [xf_get, z_at]) rfl
set_option maxHeartbeats 400000 in
set_option maxRecDepth 100000 in
theorem c_SM_hang {l : Launch} {D : va_G} {dA : Nat → ClassId} {lo n : Nat} {σ : zS} {t z o : Int32} (I : xI σ) : xM l y_SM_hang b_SM_hang 4 (some .int) 5 D dA lo n [.ref (xa0 lo 0), .int t, .int z, .int o] σ (some (.int ((xf_hang σ t z o).1))) ((xf_hang σ t z o).2) := by
  refine zM_of (lv0 := [(0, .ref (xa0 lo 0)), (1, .int t), (2, .int z), (3, .int o)]) (by decide) rfl rfl rfl ?_
  intro p e s m below meth c C hr hnm hsz
  have C : zC p s m ([.ref (xa0 lo 0), .int t, .int z, .int o] : List Value).toArray meth c b_SM_hang 4 R_SM D dA := C
  refine zz_aload_n C d_SM_hang_0 rfl ?_
  refine zz_iload_n C d_SM_hang_1 rfl ?_
  refine xc_Vi C (xw_0 Nat.zero_lt_one) rfl s_SM_52 c_SM_isBegun rfl rfl d_SM_hang_2 k_SM_isBegun ⟨by decide, by decide⟩ rfl ?_
  refine zz_if_eq (tgt := 24) C d_SM_hang_5 (by decide) (fun h5 => ?_) (fun h5 => ?_)
  · refine zz_iconst (x := -1) C d_SM_hang_24 rfl ?_
    exact xr_i C hr rfl d_SM_hang_25 (by simp only [xf_hang, if_pos h5] <;> simp [xf_hang, z_at]) (by simp only [xf_hang, if_pos h5] <;> simp [xf_hang, z_at])
  · refine zz_aload_n C d_SM_hang_8 rfl ?_
    refine zz_iload_n C d_SM_hang_9 rfl ?_
    refine xc_Vi C (xw_0 Nat.zero_lt_one) rfl s_SM_63 c_SM_isScope rfl rfl d_SM_hang_10 k_SM_isScope ⟨by decide, by decide⟩ rfl ?_
    refine zz_if_eq (tgt := 24) C d_SM_hang_13 (by decide) (fun h13 => ?_) (fun h13 => ?_)
    · refine zz_iconst (x := -1) C d_SM_hang_24 rfl ?_
      exact xr_i C hr rfl d_SM_hang_25 (by simp only [xf_hang, if_neg h5, if_pos h13] <;> simp [xf_hang, z_at]) (by simp only [xf_hang, if_neg h5, if_pos h13] <;> simp [xf_hang, z_at])
    · refine zz_aload_n C d_SM_hang_16 rfl ?_
      refine zz_iload_n C d_SM_hang_17 rfl ?_
      refine xc_Vi C (xw_0 Nat.zero_lt_one) rfl s_SM_128 c_SM_isObjectOrNull rfl rfl d_SM_hang_18 k_SM_isObjectOrNull ⟨by decide, by decide⟩ rfl ?_
      refine zz_if_ne (tgt := 26) C d_SM_hang_21 (by decide) (fun h21 => ?_) (fun h21 => ?_)
      · refine zz_aload_n C d_SM_hang_26 rfl ?_
        refine zz_get C (ci := 3) (N := 8) 2 rfl zi_SM (by decide) fl_SM_23 (xw_0 Nat.zero_lt_one) rfl d_SM_hang_27 ?_
        refine zz_iload_n C d_SM_hang_30 rfl ?_
        refine zz_aald C (t0 := 4) rfl (xw_3 Nat.zero_lt_one) (x_begun_thr h5) (fun h9 => if_pos h9) d_SM_hang_31 (fun b31 => ?_)
        refine zz_iload_n C d_SM_hang_32 rfl ?_
        refine xc_VNi C (xw_9 b31) rfl s_SM_70 (c_Ro_hasInView b31 I) rfl rfl d_SM_hang_33 k_Ro_hasInView ⟨by decide, by decide⟩ rfl ?_
        refine zz_if_eq (tgt := 48) C d_SM_hang_36 (by decide) (fun h36 => ?_) (fun h36 => ?_)
        · refine zz_bipush (x := -4) C d_SM_hang_48 rfl ?_
          exact xr_i C hr rfl d_SM_hang_50 (by simp only [xf_hang, if_neg h5, if_neg h13, if_neg h21, if_pos h36] <;> simp [xf_hang, z_at]) (by simp only [xf_hang, if_neg h5, if_neg h13, if_neg h21, if_pos h36] <;> simp [xf_hang, z_at])
        · refine zz_aload_n C d_SM_hang_39 rfl ?_
          refine zz_iload_n C d_SM_hang_40 rfl ?_
          refine zz_iload_n C d_SM_hang_41 rfl ?_
          refine xc_Vi C (xw_0 Nat.zero_lt_one) rfl s_SM_134 (c_SM_seesOrNull I (x_begun_thr h5) (x_objN h21)) rfl rfl d_SM_hang_42 k_SM_seesOrNull ⟨by decide, by decide⟩ rfl ?_
          refine zz_if_ne (tgt := 51) C d_SM_hang_45 (by decide) (fun h45 => ?_) (fun h45 => ?_)
          · refine zz_iload_n C d_SM_hang_51 rfl ?_
            refine zz_iconst (x := -1) C d_SM_hang_52 rfl ?_
            refine zz_icmp_eq (tgt := 72) C d_SM_hang_53 (by decide) (fun h53 => ?_) (fun h53 => ?_)
            · refine zz_aload_n C d_SM_hang_72 rfl ?_
              refine zz_get C (ci := 3) (N := 8) 0 rfl zi_SM (by decide) fl_SM_11 (xw_0 Nat.zero_lt_one) rfl d_SM_hang_73 ?_
              refine zz_iload_n C d_SM_hang_76 rfl ?_
              refine zz_aald C (t0 := 2) rfl (xw_1 Nat.zero_lt_one) (x_scope_in I h13) (fun h9 => if_pos h9) d_SM_hang_77 (fun b77 => ?_)
              refine zz_iload_n C d_SM_hang_78 rfl ?_
              refine xpN_4 C fn_SM_146 b77 rfl rfl d_SM_hang_79 ?_
              refine zz_iconst (x := 0) C d_SM_hang_82 rfl ?_
              exact xr_i C hr rfl d_SM_hang_83 (by simp only [xf_hang, if_neg h5, if_neg h13, if_neg h21, if_neg h36, if_neg h45, if_pos h53] <;> simp [xf_hang, z_at]) (by simp only [xf_hang, if_neg h5, if_neg h13, if_neg h21, if_neg h36, if_neg h45, if_pos h53] <;> simp [xf_hang, z_at])
            · refine zz_aload_n C d_SM_hang_56 rfl ?_
              refine zz_get C (ci := 3) (N := 8) 1 rfl zi_SM (by decide) fl_SM_17 (xw_0 Nat.zero_lt_one) rfl d_SM_hang_57 ?_
              refine zz_iload_n C d_SM_hang_60 rfl ?_
              refine zz_aald C (t0 := 3) rfl (xw_2 Nat.zero_lt_one) (z_ovin (x_objN h21) h53) (fun h9 => if_pos h9) d_SM_hang_61 (fun b61 => ?_)
              refine zz_getN C (ci := 1) (N := 4) 1 rfl zi_Ce (by decide) fn_SM_137 (xw_7 b61) rfl d_SM_hang_62 ?_
              refine zz_iload_n C d_SM_hang_65 rfl ?_
              refine zz_icmp_eq (tgt := 72) C d_SM_hang_66 (by decide) (fun h66 => ?_) (fun h66 => ?_)
              · refine zz_aload_n C d_SM_hang_72 rfl ?_
                refine zz_get C (ci := 3) (N := 8) 0 rfl zi_SM (by decide) fl_SM_11 (xw_0 Nat.zero_lt_one) rfl d_SM_hang_73 ?_
                refine zz_iload_n C d_SM_hang_76 rfl ?_
                refine zz_aald C (t0 := 2) rfl (xw_1 Nat.zero_lt_one) (x_scope_in I h13) (fun h9 => if_pos h9) d_SM_hang_77 (fun b77 => ?_)
                refine zz_iload_n C d_SM_hang_78 rfl ?_
                refine xpN_4 C fn_SM_146 b77 rfl rfl d_SM_hang_79 ?_
                refine zz_iconst (x := 0) C d_SM_hang_82 rfl ?_
                exact xr_i C hr rfl d_SM_hang_83 (by simp only [xf_hang, if_neg h5, if_neg h13, if_neg h21, if_neg h36, if_neg h45, if_neg h53, if_pos h66] <;> simp [xf_hang, z_at]) (by simp only [xf_hang, if_neg h5, if_neg h13, if_neg h21, if_neg h36, if_neg h45, if_neg h53, if_pos h66] <;> simp [xf_hang, z_at])
              · refine zz_bipush (x := -5) C d_SM_hang_69 rfl ?_
                exact xr_i C hr rfl d_SM_hang_71 (by simp only [xf_hang, if_neg h5, if_neg h13, if_neg h21, if_neg h36, if_neg h45, if_neg h53, if_neg h66] <;> simp [xf_hang, z_at]) (by simp only [xf_hang, if_neg h5, if_neg h13, if_neg h21, if_neg h36, if_neg h45, if_neg h53, if_neg h66] <;> simp [xf_hang, z_at])
          · refine zz_bipush (x := -4) C d_SM_hang_48 rfl ?_
            exact xr_i C hr rfl d_SM_hang_50 (by simp only [xf_hang, if_neg h5, if_neg h13, if_neg h21, if_neg h36, if_pos h45] <;> simp [xf_hang, z_at]) (by simp only [xf_hang, if_neg h5, if_neg h13, if_neg h21, if_neg h36, if_pos h45] <;> simp [xf_hang, z_at])
      · refine zz_iconst (x := -1) C d_SM_hang_24 rfl ?_
        exact xr_i C hr rfl d_SM_hang_25 (by simp only [xf_hang, if_neg h5, if_neg h13, if_pos h21] <;> simp [xf_hang, z_at]) (by simp only [xf_hang, if_neg h5, if_neg h13, if_pos h21] <;> simp [xf_hang, z_at])
set_option maxHeartbeats 400000 in
set_option maxRecDepth 100000 in
theorem c_SM_portal {l : Launch} {D : va_G} {dA : Nat → ClassId} {lo n : Nat} {σ : zS} {t z : Int32} (I : xI σ) : xM l y_SM_portal b_SM_portal 3 (some .int) 3 D dA lo n [.ref (xa0 lo 0), .int t, .int z] σ (some (.int (xf_portal σ t z))) σ := by
  refine zM_of (lv0 := [(0, .ref (xa0 lo 0)), (1, .int t), (2, .int z)]) (by decide) rfl rfl rfl ?_
  intro p e s m below meth c C hr hnm hsz
  have C : zC p s m ([.ref (xa0 lo 0), .int t, .int z] : List Value).toArray meth c b_SM_portal 3 R_SM D dA := C
  refine zz_aload_n C d_SM_portal_0 rfl ?_
  refine zz_iload_n C d_SM_portal_1 rfl ?_
  refine xc_Vi C (xw_0 Nat.zero_lt_one) rfl s_SM_52 c_SM_isBegun rfl rfl d_SM_portal_2 k_SM_isBegun ⟨by decide, by decide⟩ rfl ?_
  refine zz_if_eq (tgt := 16) C d_SM_portal_5 (by decide) (fun h5 => ?_) (fun h5 => ?_)
  · refine zz_iconst (x := -1) C d_SM_portal_16 rfl ?_
    exact xr_i C hr rfl d_SM_portal_17 (by simp only [xf_portal, if_pos h5] <;> simp [xf_portal, z_at]) rfl
  · refine zz_aload_n C d_SM_portal_8 rfl ?_
    refine zz_iload_n C d_SM_portal_9 rfl ?_
    refine xc_Vi C (xw_0 Nat.zero_lt_one) rfl s_SM_63 c_SM_isScope rfl rfl d_SM_portal_10 k_SM_isScope ⟨by decide, by decide⟩ rfl ?_
    refine zz_if_ne (tgt := 18) C d_SM_portal_13 (by decide) (fun h13 => ?_) (fun h13 => ?_)
    · refine zz_aload_n C d_SM_portal_18 rfl ?_
      refine zz_get C (ci := 3) (N := 8) 2 rfl zi_SM (by decide) fl_SM_23 (xw_0 Nat.zero_lt_one) rfl d_SM_portal_19 ?_
      refine zz_iload_n C d_SM_portal_22 rfl ?_
      refine zz_aald C (t0 := 4) rfl (xw_3 Nat.zero_lt_one) (x_begun_thr h5) (fun h9 => if_pos h9) d_SM_portal_23 (fun b23 => ?_)
      refine zz_iload_n C d_SM_portal_24 rfl ?_
      refine xc_VNi C (xw_9 b23) rfl s_SM_70 (c_Ro_hasInView b23 I) rfl rfl d_SM_portal_25 k_Ro_hasInView ⟨by decide, by decide⟩ rfl ?_
      refine zz_if_ne (tgt := 34) C d_SM_portal_28 (by decide) (fun h28 => ?_) (fun h28 => ?_)
      · refine zz_aload_n C d_SM_portal_34 rfl ?_
        refine zz_get C (ci := 3) (N := 8) 0 rfl zi_SM (by decide) fl_SM_11 (xw_0 Nat.zero_lt_one) rfl d_SM_portal_35 ?_
        refine zz_iload_n C d_SM_portal_38 rfl ?_
        refine zz_aald C (t0 := 2) rfl (xw_1 Nat.zero_lt_one) (x_scope_in I h13) (fun h9 => if_pos h9) d_SM_portal_39 (fun b39 => ?_)
        refine zz_getN C (ci := 0) (N := 5) 4 rfl zi_Ar (by decide) fn_SM_146 (xw_6 b39) rfl d_SM_portal_40 ?_
        refine xc_Si C s_SM_149 c_SM_objectOrNull rfl rfl d_SM_portal_43 k_SM_objectOrNull ⟨by decide, by decide⟩ rfl ?_
        exact xr_i C hr rfl d_SM_portal_46 (by simp only [xf_portal, if_neg h5, if_neg h13, if_neg h28] <;> simp [xf_portal, z_at]) rfl
      · refine zz_bipush (x := -4) C d_SM_portal_31 rfl ?_
        exact xr_i C hr rfl d_SM_portal_33 (by simp only [xf_portal, if_neg h5, if_neg h13, if_pos h28] <;> simp [xf_portal, z_at]) rfl
    · refine zz_iconst (x := -1) C d_SM_portal_16 rfl ?_
      exact xr_i C hr rfl d_SM_portal_17 (by simp only [xf_portal, if_neg h5, if_pos h13] <;> simp [xf_portal, z_at]) rfl
set_option maxHeartbeats 400000 in
set_option maxRecDepth 100000 in
theorem c_SM_assign {l : Launch} {D : va_G} {dA : Nat → ClassId} {lo n : Nat} {σ : zS} {t k o : Int32} (I : xI σ) : xM l y_SM_assign b_SM_assign 4 (some .int) 5 D dA lo n [.ref (xa0 lo 0), .int t, .int k, .int o] σ (some (.int ((xf_assign σ t k o).1))) ((xf_assign σ t k o).2) := by
  refine zM_of (lv0 := [(0, .ref (xa0 lo 0)), (1, .int t), (2, .int k), (3, .int o)]) (by decide) rfl rfl rfl ?_
  intro p e s m below meth c C hr hnm hsz
  have C : zC p s m ([.ref (xa0 lo 0), .int t, .int k, .int o] : List Value).toArray meth c b_SM_assign 4 R_SM D dA := C
  refine zz_aload_n C d_SM_assign_0 rfl ?_
  refine zz_iload_n C d_SM_assign_1 rfl ?_
  refine xc_Vi C (xw_0 Nat.zero_lt_one) rfl s_SM_52 c_SM_isBegun rfl rfl d_SM_assign_2 k_SM_isBegun ⟨by decide, by decide⟩ rfl ?_
  refine zz_if_eq (tgt := 25) C d_SM_assign_5 (by decide) (fun h5 => ?_) (fun h5 => ?_)
  · refine zz_iconst (x := -1) C d_SM_assign_25 rfl ?_
    exact xr_i C hr rfl d_SM_assign_26 (by simp only [xf_assign, if_pos h5] <;> simp [xf_assign, z_at]) (by simp only [xf_assign, if_pos h5] <;> simp [xf_assign, z_at])
  · refine zz_iload_n C d_SM_assign_8 rfl ?_
    refine zz_if_lt (tgt := 25) C d_SM_assign_9 (by decide) (fun h9 => ?_) (fun h9 => ?_)
    · refine zz_iconst (x := -1) C d_SM_assign_25 rfl ?_
      exact xr_i C hr rfl d_SM_assign_26 (by simp only [xf_assign, if_neg h5, if_pos h9] <;> simp [xf_assign, z_at]) (by simp only [xf_assign, if_neg h5, if_pos h9] <;> simp [xf_assign, z_at])
    · refine zz_iload_n C d_SM_assign_12 rfl ?_
      refine zz_iconst (x := 4) C d_SM_assign_13 rfl ?_
      refine zz_icmp_ge (tgt := 25) C d_SM_assign_14 (by decide) (fun h14 => ?_) (fun h14 => ?_)
      · refine zz_iconst (x := -1) C d_SM_assign_25 rfl ?_
        exact xr_i C hr rfl d_SM_assign_26 (by simp only [xf_assign, if_neg h5, if_neg h9, if_pos h14] <;> simp [xf_assign, z_at]) (by simp only [xf_assign, if_neg h5, if_neg h9, if_pos h14] <;> simp [xf_assign, z_at])
      · refine zz_aload_n C d_SM_assign_17 rfl ?_
        refine zz_iload_n C d_SM_assign_18 rfl ?_
        refine xc_Vi C (xw_0 Nat.zero_lt_one) rfl s_SM_128 c_SM_isObjectOrNull rfl rfl d_SM_assign_19 k_SM_isObjectOrNull ⟨by decide, by decide⟩ rfl ?_
        refine zz_if_ne (tgt := 27) C d_SM_assign_22 (by decide) (fun h22 => ?_) (fun h22 => ?_)
        · refine zz_aload_n C d_SM_assign_27 rfl ?_
          refine zz_iload_n C d_SM_assign_28 rfl ?_
          refine zz_iload_n C d_SM_assign_29 rfl ?_
          refine xc_Vi C (xw_0 Nat.zero_lt_one) rfl s_SM_134 (c_SM_seesOrNull I (x_begun_thr h5) (x_objN h22)) rfl rfl d_SM_assign_30 k_SM_seesOrNull ⟨by decide, by decide⟩ rfl ?_
          refine zz_if_ne (tgt := 39) C d_SM_assign_33 (by decide) (fun h33 => ?_) (fun h33 => ?_)
          · refine zz_iload_n C d_SM_assign_39 rfl ?_
            refine zz_iconst (x := -1) C d_SM_assign_40 rfl ?_
            refine zz_icmp_eq (tgt := 63) C d_SM_assign_41 (by decide) (fun h41 => ?_) (fun h41 => ?_)
            · refine zz_aload_n C d_SM_assign_63 rfl ?_
              refine zz_get C (ci := 3) (N := 8) 3 rfl zi_SM (by decide) fl_SM_27 (xw_0 Nat.zero_lt_one) rfl d_SM_assign_64 ?_
              refine zz_iload_n C d_SM_assign_67 rfl ?_
              refine zz_iload_n C d_SM_assign_68 rfl ?_
              refine xs_14 C Nat.zero_lt_one (z_vin h9 h14 rfl) d_SM_assign_69 ?_
              refine zz_iconst (x := 0) C d_SM_assign_70 rfl ?_
              exact xr_i C hr rfl d_SM_assign_71 (by simp only [xf_assign, if_neg h5, if_neg h9, if_neg h14, if_neg h22, if_neg h33, if_pos h41] <;> simp [xf_assign, z_at]) (by simp only [xf_assign, if_neg h5, if_neg h9, if_neg h14, if_neg h22, if_neg h33, if_pos h41] <;> simp [xf_assign, z_at])
            · refine zz_aload_n C d_SM_assign_44 rfl ?_
              refine zz_aload_n C d_SM_assign_45 rfl ?_
              refine zz_get C (ci := 3) (N := 8) 1 rfl zi_SM (by decide) fl_SM_17 (xw_0 Nat.zero_lt_one) rfl d_SM_assign_46 ?_
              refine zz_iload_n C d_SM_assign_49 rfl ?_
              refine zz_aald C (t0 := 3) rfl (xw_2 Nat.zero_lt_one) (z_ovin (x_objN h22) h41) (fun h9 => if_pos h9) d_SM_assign_50 (fun b50 => ?_)
              refine zz_getN C (ci := 1) (N := 4) 1 rfl zi_Ce (by decide) fn_SM_137 (xw_7 b50) rfl d_SM_assign_51 ?_
              refine xc_Vi C (xw_0 Nat.zero_lt_one) rfl s_SM_63 c_SM_isScope rfl rfl d_SM_assign_54 k_SM_isScope ⟨by decide, by decide⟩ rfl ?_
              refine zz_if_eq (tgt := 63) C d_SM_assign_57 (by decide) (fun h57 => ?_) (fun h57 => ?_)
              · refine zz_aload_n C d_SM_assign_63 rfl ?_
                refine zz_get C (ci := 3) (N := 8) 3 rfl zi_SM (by decide) fl_SM_27 (xw_0 Nat.zero_lt_one) rfl d_SM_assign_64 ?_
                refine zz_iload_n C d_SM_assign_67 rfl ?_
                refine zz_iload_n C d_SM_assign_68 rfl ?_
                refine xs_14 C Nat.zero_lt_one (z_vin h9 h14 rfl) d_SM_assign_69 ?_
                refine zz_iconst (x := 0) C d_SM_assign_70 rfl ?_
                exact xr_i C hr rfl d_SM_assign_71 (by simp only [xf_assign, if_neg h5, if_neg h9, if_neg h14, if_neg h22, if_neg h33, if_neg h41, if_pos h57] <;> simp [xf_assign, z_at]) (by simp only [xf_assign, if_neg h5, if_neg h9, if_neg h14, if_neg h22, if_neg h33, if_neg h41, if_pos h57] <;> simp [xf_assign, z_at])
              · refine zz_bipush (x := -5) C d_SM_assign_60 rfl ?_
                exact xr_i C hr rfl d_SM_assign_62 (by simp only [xf_assign, if_neg h5, if_neg h9, if_neg h14, if_neg h22, if_neg h33, if_neg h41, if_neg h57] <;> simp [xf_assign, z_at]) (by simp only [xf_assign, if_neg h5, if_neg h9, if_neg h14, if_neg h22, if_neg h33, if_neg h41, if_neg h57] <;> simp [xf_assign, z_at])
          · refine zz_bipush (x := -4) C d_SM_assign_36 rfl ?_
            exact xr_i C hr rfl d_SM_assign_38 (by simp only [xf_assign, if_neg h5, if_neg h9, if_neg h14, if_neg h22, if_pos h33] <;> simp [xf_assign, z_at]) (by simp only [xf_assign, if_neg h5, if_neg h9, if_neg h14, if_neg h22, if_pos h33] <;> simp [xf_assign, z_at])
        · refine zz_iconst (x := -1) C d_SM_assign_25 rfl ?_
          exact xr_i C hr rfl d_SM_assign_26 (by simp only [xf_assign, if_neg h5, if_neg h9, if_neg h14, if_pos h22] <;> simp [xf_assign, z_at]) (by simp only [xf_assign, if_neg h5, if_neg h9, if_neg h14, if_pos h22] <;> simp [xf_assign, z_at])
set_option maxHeartbeats 400000 in
set_option maxRecDepth 100000 in
theorem c_SM_collect {l : Launch} {D : va_G} {dA : Nat → ClassId} {lo n : Nat} {σ : zS} {r : Int32} {τ : zS} (I : xI σ) (hR : xf_collect σ = (r, τ)) : xM l y_SM_collect b_SM_collect 3 (some .int) 3 D dA lo n [.ref (xa0 lo 0)] σ (some (.int (r))) τ := by
  refine zM_of (lv0 := [(0, .ref (xa0 lo 0))]) (by decide) rfl rfl rfl ?_
  intro p e s m below meth c C hr hnm hsz
  have C : zC p s m ([.ref (xa0 lo 0)] : List Value).toArray meth c b_SM_collect 3 R_SM D dA := C
  unfold xf_collect at hR
  generalize hT : xf_co 40 0 (xf_findKept σ) = T at hR
  generalize hb : (xf_findKept σ) 18 0 0 = b at hR
  simp only [Prod.mk.injEq] at hR
  have loop : ∀ (k i : Nat) (iv : Int32) (σ1 : zS), iv = nI i → i + k = 40 → xf_co k i σ1 = T → xZ p l e 3 s m ([.ref (xa0 lo 0)] : List Value).toArray below meth c D dA lo 3 n (some (.int (r))) (τ) (σ1) 11 [(0, .ref (xa0 lo 0)), (1, .int b), (2, .int iv)] [] := by
    intro k
    induction k with
    | zero =>
      intro i iv σ1 hiv hik hres
      have hres : σ1 = T := hres
      refine zz_iload_n C d_SM_collect_11 rfl ?_
      refine zz_bipush (x := 40) C d_SM_collect_12 rfl ?_
      refine zz_icmp_ge (tgt := 52) C d_SM_collect_14 (by decide) (fun h14 => ?_) (fun h14 => ?_)
      · refine zz_iload_n C d_SM_collect_52 rfl ?_
        refine zz_aload_n C d_SM_collect_53 rfl ?_
        refine zz_get C (ci := 3) (N := 8) 7 rfl zi_SM (by decide) fl_SM_121 (xw_0 Nat.zero_lt_one) rfl d_SM_collect_54 ?_
        refine zz_isub C d_SM_collect_57 ?_
        exact xr_i C hr rfl d_SM_collect_58 (by rw [hres]; exact hR.1) (by rw [hres]; exact hR.2)
      · exact absurd (z_ge (N := 40) hiv rfl (by omega) (by omega)) h14
    | succ k ih =>
      intro i iv σ1 hiv hik hres
      unfold xf_co at hres
      have hix : iv.toNatClampNeg = i := z_ixI hiv (by omega)
      refine zz_iload_n C d_SM_collect_11 rfl ?_
      refine zz_bipush (x := 40) C d_SM_collect_12 rfl ?_
      refine zz_icmp_ge (tgt := 52) C d_SM_collect_14 (by decide) (fun h14 => ?_) (fun h14 => ?_)
      · exact absurd h14 (z_nge hiv rfl (show i < 40 by omega) (by decide))
      · refine zz_aload_n C d_SM_collect_17 rfl ?_
        refine zz_get C (ci := 3) (N := 8) 1 rfl zi_SM (by decide) fl_SM_17 (xw_0 Nat.zero_lt_one) rfl d_SM_collect_18 ?_
        refine zz_iload_n C d_SM_collect_21 rfl ?_
        refine zz_aald C (t0 := 3) rfl (xw_2 Nat.zero_lt_one) (z_vinI hiv (by omega) (by decide)) (fun h9 => if_pos h9) d_SM_collect_22 (fun b22 => ?_)
        refine zz_getN C (ci := 1) (N := 4) 1 rfl zi_Ce (by decide) fn_SM_137 (xw_7 b22) rfl d_SM_collect_23 ?_
        refine zz_if_ne (tgt := 46) C d_SM_collect_26 (by decide) (fun h26 => ?_) (fun h26 => ?_)
        · refine zz_iinc (d' := 1) C d_SM_collect_46 rfl rfl (by decide) ?_
          refine zz_goto (tgt := 11) C d_SM_collect_49 (by decide) ?_
          refine zz_lv [0, 1, 2] rfl ?_
          rw [hix] at h26
          exact ih (i + 1) _ _ (z_sI hiv) (by omega) (by rw [← hres, if_neg h26])
        · refine zz_aload_n C d_SM_collect_29 rfl ?_
          refine zz_get C (ci := 3) (N := 8) 1 rfl zi_SM (by decide) fl_SM_17 (xw_0 Nat.zero_lt_one) rfl d_SM_collect_30 ?_
          refine zz_iload_n C d_SM_collect_33 rfl ?_
          refine zz_aald C (t0 := 3) rfl (xw_2 Nat.zero_lt_one) (z_vinI hiv (by omega) (by decide)) (fun h9 => if_pos h9) d_SM_collect_34 (fun b34 => ?_)
          refine zz_getN C (ci := 1) (N := 4) 3 rfl zi_Ce (by decide) fn_SM_155 (xw_7 b34) rfl d_SM_collect_35 ?_
          refine zz_if_ne (tgt := 46) C d_SM_collect_38 (by decide) (fun h38 => ?_) (fun h38 => ?_)
          · refine zz_iinc (d' := 1) C d_SM_collect_46 rfl rfl (by decide) ?_
            refine zz_goto (tgt := 11) C d_SM_collect_49 (by decide) ?_
            refine zz_lv [0, 1, 2] rfl ?_
            rw [hix] at h26 h38
            exact ih (i + 1) _ _ (z_sI hiv) (by omega) (by rw [← hres, if_pos h26, if_neg h38])
          · refine zz_aload_n C d_SM_collect_41 rfl ?_
            refine zz_iload_n C d_SM_collect_42 rfl ?_
            refine xc_Vv C (xw_0 Nat.zero_lt_one) rfl s_SM_158 (c_SM_drop (z_vinI hiv (by omega) (by decide)) (by rw [h26]; exact vp_in_nI (n := 0) (by decide) (by decide))) rfl rfl d_SM_collect_43 k_SM_drop ⟨by decide, by decide⟩ rfl ?_
            refine zz_iinc (d' := 1) C d_SM_collect_46 rfl rfl (by decide) ?_
            refine zz_goto (tgt := 11) C d_SM_collect_49 (by decide) ?_
            refine zz_lv [0, 1, 2] rfl ?_
            rw [hix] at h26 h38
            exact ih (i + 1) _ _ (z_sI hiv) (by omega) (by rw [← hres, if_pos h26, if_pos h38, hiv])
  refine zz_aload_n C d_SM_collect_0 rfl ?_
  refine xc_Vv C (xw_0 Nat.zero_lt_one) rfl s_SM_152 (c_SM_findKept I) rfl rfl d_SM_collect_1 k_SM_findKept ⟨by decide, by decide⟩ rfl ?_
  refine zz_aload_n C d_SM_collect_4 rfl ?_
  refine zz_get C (ci := 3) (N := 8) 7 rfl zi_SM (by decide) fl_SM_121 (xw_0 Nat.zero_lt_one) rfl d_SM_collect_5 ?_
  refine zz_istore_n C d_SM_collect_8 (by decide) ?_
  refine zz_iconst (x := 0) C d_SM_collect_9 rfl ?_
  refine zz_istore_n C d_SM_collect_10 (by decide) ?_
  refine zz_lv [0, 1, 2] rfl ?_
  rw [hb]
  exact loop 40 0 _ _ nI_0.symm rfl hT
set_option maxHeartbeats 400000 in
set_option maxRecDepth 100000 in
theorem c_SM_areaOf {l : Launch} {D : va_G} {dA : Nat → ClassId} {lo n : Nat} {σ : zS} {o : Int32} : xM l y_SM_areaOf b_SM_areaOf 2 (some .int) 1 D dA lo n [.ref (xa0 lo 0), .int o] σ (some (.int (xf_areaOf σ o))) σ := by
  refine zM_of (lv0 := [(0, .ref (xa0 lo 0)), (1, .int o)]) (by decide) rfl rfl rfl ?_
  intro p e s m below meth c C hr hnm hsz
  have C : zC p s m ([.ref (xa0 lo 0), .int o] : List Value).toArray meth c b_SM_areaOf 2 R_SM D dA := C
  refine zz_aload_n C d_SM_areaOf_0 rfl ?_
  refine zz_iload_n C d_SM_areaOf_1 rfl ?_
  refine xc_Vi C (xw_0 Nat.zero_lt_one) rfl s_SM_161 c_SM_isObject rfl rfl d_SM_areaOf_2 k_SM_isObject ⟨by decide, by decide⟩ rfl ?_
  refine zz_if_eq (tgt := 20) C d_SM_areaOf_5 (by decide) (fun h5 => ?_) (fun h5 => ?_)
  · refine zz_iconst (x := -1) C d_SM_areaOf_20 rfl ?_
    exact xr_i C hr rfl d_SM_areaOf_21 (by simp only [xf_areaOf, if_pos h5] <;> simp [xf_areaOf, z_at]) rfl
  · refine zz_aload_n C d_SM_areaOf_8 rfl ?_
    refine zz_get C (ci := 3) (N := 8) 1 rfl zi_SM (by decide) fl_SM_17 (xw_0 Nat.zero_lt_one) rfl d_SM_areaOf_9 ?_
    refine zz_iload_n C d_SM_areaOf_12 rfl ?_
    refine zz_aald C (t0 := 3) rfl (xw_2 Nat.zero_lt_one) (x_obj h5) (fun h9 => if_pos h9) d_SM_areaOf_13 (fun b13 => ?_)
    refine zz_getN C (ci := 1) (N := 4) 1 rfl zi_Ce (by decide) fn_SM_137 (xw_7 b13) rfl d_SM_areaOf_14 ?_
    refine zz_goto (tgt := 21) C d_SM_areaOf_17 (by decide) ?_
    exact xr_i C hr rfl d_SM_areaOf_21 (by simp only [xf_areaOf, if_neg h5] <;> simp [xf_areaOf, z_at]) rfl
set_option maxHeartbeats 400000 in
set_option maxRecDepth 100000 in
theorem c_SM_room {l : Launch} {D : va_G} {dA : Nat → ClassId} {lo n : Nat} {σ : zS} {a : Int32} (I : xI σ) : xM l y_SM_room b_SM_room 2 (some .int) 1 D dA lo n [.ref (xa0 lo 0), .int a] σ (some (.int (xf_room σ a))) σ := by
  refine zM_of (lv0 := [(0, .ref (xa0 lo 0)), (1, .int a)]) (by decide) rfl rfl rfl ?_
  intro p e s m below meth c C hr hnm hsz
  have C : zC p s m ([.ref (xa0 lo 0), .int a] : List Value).toArray meth c b_SM_room 2 R_SM D dA := C
  refine zz_aload_n C d_SM_room_0 rfl ?_
  refine zz_iload_n C d_SM_room_1 rfl ?_
  refine xc_Vi C (xw_0 Nat.zero_lt_one) rfl s_SM_86 c_SM_isArea rfl rfl d_SM_room_2 k_SM_isArea ⟨by decide, by decide⟩ rfl ?_
  refine zz_if_eq (tgt := 20) C d_SM_room_5 (by decide) (fun h5 => ?_) (fun h5 => ?_)
  · refine zz_iconst (x := -1) C d_SM_room_20 rfl ?_
    exact xr_i C hr rfl d_SM_room_21 (by simp only [xf_room, if_pos h5] <;> simp [xf_room, z_at]) rfl
  · refine zz_aload_n C d_SM_room_8 rfl ?_
    refine zz_get C (ci := 3) (N := 8) 0 rfl zi_SM (by decide) fl_SM_11 (xw_0 Nat.zero_lt_one) rfl d_SM_room_9 ?_
    refine zz_iload_n C d_SM_room_12 rfl ?_
    refine zz_aald C (t0 := 2) rfl (xw_1 Nat.zero_lt_one) (x_area_in I h5) (fun h9 => if_pos h9) d_SM_room_13 (fun b13 => ?_)
    refine xc_VNi C (xw_6 b13) rfl s_SM_111 (c_Ar_free b13) rfl rfl d_SM_room_14 k_Ar_free ⟨by decide, by decide⟩ rfl ?_
    refine zz_goto (tgt := 21) C d_SM_room_17 (by decide) ?_
    exact xr_i C hr rfl d_SM_room_21 (by simp only [xf_room, if_neg h5] <;> simp [xf_room, z_at]) rfl
set_option maxHeartbeats 400000 in
set_option maxRecDepth 100000 in
theorem c_SM_parent {l : Launch} {D : va_G} {dA : Nat → ClassId} {lo n : Nat} {σ : zS} {z : Int32} (I : xI σ) : xM l y_SM_parent b_SM_parent 2 (some .int) 2 D dA lo n [.ref (xa0 lo 0), .int z] σ (some (.int (xf_parent σ z))) σ := by
  refine zM_of (lv0 := [(0, .ref (xa0 lo 0)), (1, .int z)]) (by decide) rfl rfl rfl ?_
  intro p e s m below meth c C hr hnm hsz
  have C : zC p s m ([.ref (xa0 lo 0), .int z] : List Value).toArray meth c b_SM_parent 2 R_SM D dA := C
  refine zz_aload_n C d_SM_parent_0 rfl ?_
  refine zz_iload_n C d_SM_parent_1 rfl ?_
  refine xc_Vi C (xw_0 Nat.zero_lt_one) rfl s_SM_63 c_SM_isScope rfl rfl d_SM_parent_2 k_SM_isScope ⟨by decide, by decide⟩ rfl ?_
  refine zz_if_ne (tgt := 10) C d_SM_parent_5 (by decide) (fun h5 => ?_) (fun h5 => ?_)
  · refine zz_aload_n C d_SM_parent_10 rfl ?_
    refine zz_get C (ci := 3) (N := 8) 0 rfl zi_SM (by decide) fl_SM_11 (xw_0 Nat.zero_lt_one) rfl d_SM_parent_11 ?_
    refine zz_iload_n C d_SM_parent_14 rfl ?_
    refine zz_aald C (t0 := 2) rfl (xw_1 Nat.zero_lt_one) (x_scope_in I h5) (fun h9 => if_pos h9) d_SM_parent_15 (fun b15 => ?_)
    refine zz_getN C (ci := 0) (N := 5) 2 rfl zi_Ar (by decide) fn_SM_73 (xw_6 b15) rfl d_SM_parent_16 ?_
    refine zz_if_le (tgt := 34) C d_SM_parent_19 (by decide) (fun h19 => ?_) (fun h19 => ?_)
    · refine zz_bipush (x := -6) C d_SM_parent_34 rfl ?_
      exact xr_i C hr rfl d_SM_parent_36 (by simp only [xf_parent, if_neg h5, if_pos h19] <;> simp [xf_parent, z_at]) rfl
    · refine zz_aload_n C d_SM_parent_22 rfl ?_
      refine zz_get C (ci := 3) (N := 8) 0 rfl zi_SM (by decide) fl_SM_11 (xw_0 Nat.zero_lt_one) rfl d_SM_parent_23 ?_
      refine zz_iload_n C d_SM_parent_26 rfl ?_
      refine zz_aald C (t0 := 2) rfl (xw_1 Nat.zero_lt_one) (x_scope_in I h5) (fun h9 => if_pos h9) d_SM_parent_27 (fun b27 => ?_)
      refine zz_getN C (ci := 0) (N := 5) 3 rfl zi_Ar (by decide) fn_SM_76 (xw_6 b27) rfl d_SM_parent_28 ?_
      refine zz_goto (tgt := 36) C d_SM_parent_31 (by decide) ?_
      exact xr_i C hr rfl d_SM_parent_36 (by simp only [xf_parent, if_neg h5, if_neg h19] <;> simp [xf_parent, z_at]) rfl
  · refine zz_iconst (x := -1) C d_SM_parent_8 rfl ?_
    exact xr_i C hr rfl d_SM_parent_9 (by simp only [xf_parent, if_pos h5] <;> simp [xf_parent, z_at]) rfl
set_option maxHeartbeats 400000 in
set_option maxRecDepth 100000 in
theorem c_SM_entries {l : Launch} {D : va_G} {dA : Nat → ClassId} {lo n : Nat} {σ : zS} {z : Int32} (I : xI σ) : xM l y_SM_entries b_SM_entries 2 (some .int) 2 D dA lo n [.ref (xa0 lo 0), .int z] σ (some (.int (xf_entries σ z))) σ := by
  refine zM_of (lv0 := [(0, .ref (xa0 lo 0)), (1, .int z)]) (by decide) rfl rfl rfl ?_
  intro p e s m below meth c C hr hnm hsz
  have C : zC p s m ([.ref (xa0 lo 0), .int z] : List Value).toArray meth c b_SM_entries 2 R_SM D dA := C
  refine zz_aload_n C d_SM_entries_0 rfl ?_
  refine zz_iload_n C d_SM_entries_1 rfl ?_
  refine xc_Vi C (xw_0 Nat.zero_lt_one) rfl s_SM_63 c_SM_isScope rfl rfl d_SM_entries_2 k_SM_isScope ⟨by decide, by decide⟩ rfl ?_
  refine zz_if_eq (tgt := 20) C d_SM_entries_5 (by decide) (fun h5 => ?_) (fun h5 => ?_)
  · refine zz_iconst (x := -1) C d_SM_entries_20 rfl ?_
    exact xr_i C hr rfl d_SM_entries_21 (by simp only [xf_entries, if_pos h5] <;> simp [xf_entries, z_at]) rfl
  · refine zz_aload_n C d_SM_entries_8 rfl ?_
    refine zz_get C (ci := 3) (N := 8) 0 rfl zi_SM (by decide) fl_SM_11 (xw_0 Nat.zero_lt_one) rfl d_SM_entries_9 ?_
    refine zz_iload_n C d_SM_entries_12 rfl ?_
    refine zz_aald C (t0 := 2) rfl (xw_1 Nat.zero_lt_one) (x_scope_in I h5) (fun h9 => if_pos h9) d_SM_entries_13 (fun b13 => ?_)
    refine zz_getN C (ci := 0) (N := 5) 2 rfl zi_Ar (by decide) fn_SM_73 (xw_6 b13) rfl d_SM_entries_14 ?_
    refine zz_goto (tgt := 21) C d_SM_entries_17 (by decide) ?_
    exact xr_i C hr rfl d_SM_entries_21 (by simp only [xf_entries, if_neg h5] <;> simp [xf_entries, z_at]) rfl
set_option maxHeartbeats 400000 in
set_option maxRecDepth 100000 in
theorem c_SM_view {l : Launch} {D : va_G} {dA : Nat → ClassId} {lo n : Nat} {σ : zS} {t i : Int32} (I : xI σ) : xM l y_SM_view b_SM_view 4 (some .int) 2 D dA lo n [.ref (xa0 lo 0), .int t, .int i] σ (some (.int (xf_view σ t i))) σ := by
  refine zM_of (lv0 := [(0, .ref (xa0 lo 0)), (1, .int t), (2, .int i)]) (by decide) rfl rfl rfl ?_
  intro p e s m below meth c C hr hnm hsz
  have C : zC p s m ([.ref (xa0 lo 0), .int t, .int i] : List Value).toArray meth c b_SM_view 4 R_SM D dA := C
  refine zz_aload_n C d_SM_view_0 rfl ?_
  refine zz_iload_n C d_SM_view_1 rfl ?_
  refine xc_Vi C (xw_0 Nat.zero_lt_one) rfl s_SM_52 c_SM_isBegun rfl rfl d_SM_view_2 k_SM_isBegun ⟨by decide, by decide⟩ rfl ?_
  refine zz_if_eq (tgt := 12) C d_SM_view_5 (by decide) (fun h5 => ?_) (fun h5 => ?_)
  · refine zz_iconst (x := -1) C d_SM_view_12 rfl ?_
    exact xr_i C hr rfl d_SM_view_13 (by simp only [xf_view, if_pos h5] <;> simp [xf_view, z_at]) rfl
  · refine zz_iload_n C d_SM_view_8 rfl ?_
    refine zz_if_ge (tgt := 14) C d_SM_view_9 (by decide) (fun h9 => ?_) (fun h9 => ?_)
    · refine zz_aload_n C d_SM_view_14 rfl ?_
      refine zz_get C (ci := 3) (N := 8) 2 rfl zi_SM (by decide) fl_SM_23 (xw_0 Nat.zero_lt_one) rfl d_SM_view_15 ?_
      refine zz_iload_n C d_SM_view_18 rfl ?_
      refine zz_aald C (t0 := 4) rfl (xw_3 Nat.zero_lt_one) (x_begun_thr h5) (fun h9 => if_pos h9) d_SM_view_19 (fun b19 => ?_)
      refine zz_iload_n C d_SM_view_20 rfl ?_
      refine xc_VNi C (xw_9 b19) rfl s_SM_164 (c_Ro_areaInView b19 I (z_nn h9)) rfl rfl d_SM_view_21 k_Ro_areaInView ⟨by decide, by decide⟩ rfl ?_
      refine zz_istore_n C d_SM_view_24 (by decide) ?_
      refine zz_iload_n C d_SM_view_25 rfl ?_
      refine zz_iconst (x := -1) C d_SM_view_26 rfl ?_
      refine zz_icmp_ne (tgt := 34) C d_SM_view_27 (by decide) (fun h27 => ?_) (fun h27 => ?_)
      · refine zz_iload_n C d_SM_view_34 rfl ?_
        exact xr_i C hr rfl d_SM_view_35 (by simp only [xf_view, if_neg h5, if_pos h9, if_neg h27] <;> simp [xf_view, z_at]) rfl
      · refine zz_iconst (x := -1) C d_SM_view_30 rfl ?_
        refine zz_goto (tgt := 35) C d_SM_view_31 (by decide) ?_
        exact xr_i C hr rfl d_SM_view_35 (by simp only [xf_view, if_neg h5, if_pos h9, if_pos h27] <;> simp [xf_view, z_at]) rfl
    · refine zz_iconst (x := -1) C d_SM_view_12 rfl ?_
      exact xr_i C hr rfl d_SM_view_13 (by simp only [xf_view, if_neg h5, if_neg h9] <;> simp [xf_view, z_at]) rfl
set_option maxHeartbeats 400000 in
set_option maxRecDepth 100000 in
theorem c_SM_count {l : Launch} {D : va_G} {dA : Nat → ClassId} {lo n : Nat} {σ : zS} {w : Int32} {r : Int32} {τ : zS} (I : xI σ) (hR : xf_count σ w = (r, τ)) : xM l y_SM_count b_SM_count 2 (some .int) 3 D dA lo n [.ref (xa0 lo 0), .int w] σ (some (.int (r))) τ := by
  refine zM_of (lv0 := [(0, .ref (xa0 lo 0)), (1, .int w)]) (by decide) rfl rfl rfl ?_
  intro p e s m below meth c C hr hnm hsz
  have C : zC p s m ([.ref (xa0 lo 0), .int w] : List Value).toArray meth c b_SM_count 2 R_SM D dA := C
  refine zz_iload_n C d_SM_count_0 rfl ?_
  by_cases g0 : w = 0
  · subst g0
    simp only [xf_count, if_true, Prod.mk.injEq] at hR
    refine zz_tableIn (tgt := 48) C d_SM_count_1 (by decide) (by decide) rfl (by decide) ?_
    refine zz_aload_n C d_SM_count_48 rfl ?_
    refine zz_get C (ci := 3) (N := 8) 7 rfl zi_SM (by decide) fl_SM_121 (xw_0 Nat.zero_lt_one) rfl d_SM_count_49 ?_
    exact xr_i C hr rfl d_SM_count_52 hR.1 hR.2
  by_cases g1 : w = 1
  · subst g1
    simp only [xf_count, if_neg (show ¬ (1 : Int32) = 0 by decide), if_true, Prod.mk.injEq] at hR
    refine zz_tableIn (tgt := 53) C d_SM_count_1 (by decide) (by decide) rfl (by decide) ?_
    refine zz_aload_n C d_SM_count_53 rfl ?_
    refine zz_get C (ci := 3) (N := 8) 6 rfl zi_SM (by decide) fl_SM_45 (xw_0 Nat.zero_lt_one) rfl d_SM_count_54 ?_
    exact xr_i C hr rfl d_SM_count_57 hR.1 hR.2
  by_cases g2 : w = 2
  · subst g2
    simp only [xf_count, if_neg (show ¬ (2 : Int32) = 0 by decide), if_neg (show ¬ (2 : Int32) = 1 by decide), if_true, Prod.mk.injEq] at hR
    refine zz_tableIn (tgt := 58) C d_SM_count_1 (by decide) (by decide) rfl (by decide) ?_
    refine zz_aload_n C d_SM_count_58 rfl ?_
    refine xc_Vi C (xw_0 Nat.zero_lt_one) rfl s_SM_167 c_SM_begunThreads rfl rfl d_SM_count_59 k_SM_begunThreads ⟨by decide, by decide⟩ rfl ?_
    exact xr_i C hr rfl d_SM_count_62 hR.1 hR.2
  by_cases g3 : w = 3
  · subst g3
    simp only [xf_count, if_neg (show ¬ (3 : Int32) = 0 by decide), if_neg (show ¬ (3 : Int32) = 1 by decide), if_neg (show ¬ (3 : Int32) = 2 by decide), if_true, Prod.mk.injEq] at hR
    refine zz_tableIn (tgt := 63) C d_SM_count_1 (by decide) (by decide) rfl (by decide) ?_
    refine zz_aload_n C d_SM_count_63 rfl ?_
    refine xc_Vv C (xw_0 Nat.zero_lt_one) rfl s_SM_152 (c_SM_findKept I) rfl rfl d_SM_count_64 k_SM_findKept ⟨by decide, by decide⟩ rfl ?_
    refine zz_aload_n C d_SM_count_67 rfl ?_
    refine zz_get C (ci := 3) (N := 8) 5 rfl zi_SM (by decide) fl_SM_170 (xw_0 Nat.zero_lt_one) rfl d_SM_count_68 ?_
    exact xr_i C hr rfl d_SM_count_71 hR.1 hR.2
  by_cases g4 : w = 4
  · subst g4
    simp only [xf_count, if_neg (show ¬ (4 : Int32) = 0 by decide), if_neg (show ¬ (4 : Int32) = 1 by decide), if_neg (show ¬ (4 : Int32) = 2 by decide), if_neg (show ¬ (4 : Int32) = 3 by decide), if_true, Prod.mk.injEq] at hR
    refine zz_tableIn (tgt := 72) C d_SM_count_1 (by decide) (by decide) rfl (by decide) ?_
    refine zz_aload_n C d_SM_count_72 rfl ?_
    refine zz_get C (ci := 3) (N := 8) 3 rfl zi_SM (by decide) fl_SM_27 (xw_0 Nat.zero_lt_one) rfl d_SM_count_73 ?_
    refine zz_iload_n C d_SM_count_76 rfl ?_
    refine zz_iconst (x := 4) C d_SM_count_77 rfl ?_
    refine zz_isub C d_SM_count_78 ?_
    refine zz_iald C (t0 := 0) rfl (xw_4 Nat.zero_lt_one) (by unfold vp_in; decide) d_SM_count_79 ?_
    refine xc_Si C s_SM_149 c_SM_objectOrNull rfl rfl d_SM_count_80 k_SM_objectOrNull ⟨by decide, by decide⟩ rfl ?_
    exact xr_i C hr rfl d_SM_count_83 hR.1 hR.2
  by_cases g5 : w = 5
  · subst g5
    simp only [xf_count, if_neg (show ¬ (5 : Int32) = 0 by decide), if_neg (show ¬ (5 : Int32) = 1 by decide), if_neg (show ¬ (5 : Int32) = 2 by decide), if_neg (show ¬ (5 : Int32) = 3 by decide), if_neg (show ¬ (5 : Int32) = 4 by decide), if_true, Prod.mk.injEq] at hR
    refine zz_tableIn (tgt := 72) C d_SM_count_1 (by decide) (by decide) rfl (by decide) ?_
    refine zz_aload_n C d_SM_count_72 rfl ?_
    refine zz_get C (ci := 3) (N := 8) 3 rfl zi_SM (by decide) fl_SM_27 (xw_0 Nat.zero_lt_one) rfl d_SM_count_73 ?_
    refine zz_iload_n C d_SM_count_76 rfl ?_
    refine zz_iconst (x := 4) C d_SM_count_77 rfl ?_
    refine zz_isub C d_SM_count_78 ?_
    refine zz_iald C (t0 := 0) rfl (xw_4 Nat.zero_lt_one) (by unfold vp_in; decide) d_SM_count_79 ?_
    refine xc_Si C s_SM_149 c_SM_objectOrNull rfl rfl d_SM_count_80 k_SM_objectOrNull ⟨by decide, by decide⟩ rfl ?_
    exact xr_i C hr rfl d_SM_count_83 hR.1 hR.2
  by_cases g6 : w = 6
  · subst g6
    simp only [xf_count, if_neg (show ¬ (6 : Int32) = 0 by decide), if_neg (show ¬ (6 : Int32) = 1 by decide), if_neg (show ¬ (6 : Int32) = 2 by decide), if_neg (show ¬ (6 : Int32) = 3 by decide), if_neg (show ¬ (6 : Int32) = 4 by decide), if_neg (show ¬ (6 : Int32) = 5 by decide), if_true, Prod.mk.injEq] at hR
    refine zz_tableIn (tgt := 72) C d_SM_count_1 (by decide) (by decide) rfl (by decide) ?_
    refine zz_aload_n C d_SM_count_72 rfl ?_
    refine zz_get C (ci := 3) (N := 8) 3 rfl zi_SM (by decide) fl_SM_27 (xw_0 Nat.zero_lt_one) rfl d_SM_count_73 ?_
    refine zz_iload_n C d_SM_count_76 rfl ?_
    refine zz_iconst (x := 4) C d_SM_count_77 rfl ?_
    refine zz_isub C d_SM_count_78 ?_
    refine zz_iald C (t0 := 0) rfl (xw_4 Nat.zero_lt_one) (by unfold vp_in; decide) d_SM_count_79 ?_
    refine xc_Si C s_SM_149 c_SM_objectOrNull rfl rfl d_SM_count_80 k_SM_objectOrNull ⟨by decide, by decide⟩ rfl ?_
    exact xr_i C hr rfl d_SM_count_83 hR.1 hR.2
  by_cases g7 : w = 7
  · subst g7
    simp only [xf_count, if_neg (show ¬ (7 : Int32) = 0 by decide), if_neg (show ¬ (7 : Int32) = 1 by decide), if_neg (show ¬ (7 : Int32) = 2 by decide), if_neg (show ¬ (7 : Int32) = 3 by decide), if_neg (show ¬ (7 : Int32) = 4 by decide), if_neg (show ¬ (7 : Int32) = 5 by decide), if_neg (show ¬ (7 : Int32) = 6 by decide), if_true, Prod.mk.injEq] at hR
    refine zz_tableIn (tgt := 72) C d_SM_count_1 (by decide) (by decide) rfl (by decide) ?_
    refine zz_aload_n C d_SM_count_72 rfl ?_
    refine zz_get C (ci := 3) (N := 8) 3 rfl zi_SM (by decide) fl_SM_27 (xw_0 Nat.zero_lt_one) rfl d_SM_count_73 ?_
    refine zz_iload_n C d_SM_count_76 rfl ?_
    refine zz_iconst (x := 4) C d_SM_count_77 rfl ?_
    refine zz_isub C d_SM_count_78 ?_
    refine zz_iald C (t0 := 0) rfl (xw_4 Nat.zero_lt_one) (by unfold vp_in; decide) d_SM_count_79 ?_
    refine xc_Si C s_SM_149 c_SM_objectOrNull rfl rfl d_SM_count_80 k_SM_objectOrNull ⟨by decide, by decide⟩ rfl ?_
    exact xr_i C hr rfl d_SM_count_83 hR.1 hR.2
  refine zz_tableOut (tgt := 84) C d_SM_count_1 (x_out8 g0 g1 g2 g3 g4 g5 g6 g7) (by decide) ?_
  refine zz_iconst (x := -1) C d_SM_count_84 rfl ?_
  simp only [xf_count, if_neg g0, if_neg g1, if_neg g2, if_neg g3, if_neg g4, if_neg g5, if_neg g6, if_neg g7, Prod.mk.injEq] at hR
  exact xr_i C hr rfl d_SM_count_85 hR.1 hR.2
end
section
-- the reference's state as numbers: 0 areas; 1 size 2 entries 3 parent 4 portal; 5 area 6 width 7 field 8 kept; 9 begun 10 heapless 11 steps 12 at 13 under 14 entered 15 fixed
def mf_clamp (v : Int32) : Int32 := if 4 ≤ v then (if v ≤ 60 then v else 60) else 4
def mf_idle (ρ : zS) (t : Int32) : Int32 := if t < 0 then 1 else if 3 < t then 1 else if ρ 9 0 (z_ix t) = 0 then 1 else 0
def mf_noArea (ρ : zS) (a : Int32) : Int32 := if a < 0 then 1 else if a < ρ 0 0 0 then 0 else 1
def mf_noScope (ρ : zS) (a : Int32) : Int32 := if a < 2 then 1 else if a < ρ 0 0 0 then 0 else 1
def mf_noObject (ρ : zS) (o : Int32) : Int32 := if o < 0 then 1 else if 39 < o then 1 else if 0 ≤ ρ 5 0 (z_ix o) then 0 else 1
def mf_us (ρ : zS) (a : Int32) : Nat → Nat → Int32 → Int32
  | 0, _, n => n
  | k + 1, i, n => mf_us ρ a k (i + 1) (if ρ 5 0 i = a then n + (1 + ρ 6 0 i) else n)
def mf_used (ρ : zS) (a : Int32) : Int32 := mf_us ρ a 40 0 0
def mf_scope (ρ : zS) (size : Int32) : Int32 × zS := if size < 1 then (-1, ρ) else if size ≤ 40 then (if ρ 0 0 0 = 10 then (-2, ρ) else (ρ 0 0 0 + 1 - 1, z_up (z_up ρ 1 0 (z_ix (ρ 0 0 0)) size) 0 0 0 (ρ 0 0 0 + 1))) else (-1, ρ)
def mf_step (ρ : zS) (t a u b : Int32) : zS := z_up (z_up (z_up (z_up ρ 12 0 (z_ix (t * 12 + ρ 11 0 (z_ix t))) a) 13 0 (z_ix (t * 12 + ρ 11 0 (z_ix t))) u) 14 0 (z_ix (t * 12 + ρ 11 0 (z_ix t))) (vp_nar .boolean b)) 11 0 (z_ix t) (ρ 11 0 (z_ix t) + 1)
def mf_beginS (ρ : zS) (t h : Int32) : zS := z_up (z_up (z_up ρ 9 0 (z_ix t) (vp_nar .boolean 1)) 10 0 (z_ix t) (vp_nar .boolean h)) 11 0 (z_ix t) 0
def mf_begin (ρ : zS) (t h : Int32) : Int32 × zS := if t < 0 then (-1, ρ) else if 3 < t then (-1, ρ) else if ρ 9 0 (z_ix t) = 0 then (0, mf_step (mf_beginS ρ t h) t (if h = 0 then 0 else 1) (-1) 0) else (-1, ρ)
def mf_vw (ρ : zS) (t : Int32) : Nat → Int32 → Int32
  | 0, k => k
  | d + 1, k => if k < 0 then k else mf_vw ρ t d (ρ 13 0 (z_ix (t * 12 + k)))
def mf_viewed (ρ : zS) (t i : Int32) : Int32 := mf_vw ρ t (z_ix i) (ρ 11 0 (z_ix t) - 1)
def mf_sw (ρ : zS) (t a : Int32) : Nat → Nat → Int32
  | 0, _ => -1
  | k + 1, i => if 0 ≤ mf_viewed ρ t (nI i) then (if ρ 12 0 (z_ix (t * 12 + mf_viewed ρ t (nI i))) = a then mf_viewed ρ t (nI i) else mf_sw ρ t a k (i + 1)) else -1
def mf_stepWith (ρ : zS) (t a : Int32) : Int32 := mf_sw ρ t a 12 0
def mf_nr (ρ : zS) (t : Int32) : Nat → Nat → Int32
  | 0, _ => 0
  | k + 1, i => if 0 ≤ mf_viewed ρ t (nI i) then (if ρ 12 0 (z_ix (t * 12 + mf_viewed ρ t (nI i))) ≤ 1 then mf_nr ρ t k (i + 1) else ρ 12 0 (z_ix (t * 12 + mf_viewed ρ t (nI i)))) else 0
def mf_nearest (ρ : zS) (t : Int32) : Int32 := mf_nr ρ t 12 0
def mf_enterS (ρ : zS) (t z : Int32) : zS := if ρ 2 0 (z_ix z) = 0 then z_up ρ 3 0 (z_ix z) (mf_nearest ρ t) else ρ
def mf_enterT (ρ : zS) (t z : Int32) : zS := mf_step (mf_enterS ρ t z) t z (ρ 11 0 (z_ix t) - 1) 1
def mf_enterR (ρ : zS) (t z : Int32) : Int32 × zS := if ρ 11 0 (z_ix t) = 12 then (-2, ρ) else (ρ 2 0 (z_ix z) + 1, z_up (mf_enterT ρ t z) 2 0 (z_ix z) (ρ 2 0 (z_ix z) + 1))
def mf_enter (ρ : zS) (t z : Int32) : Int32 × zS := if mf_idle ρ t = 0 then (if mf_noScope ρ z = 0 then (if 0 ≤ mf_stepWith ρ t z then (-3, ρ) else if ρ 2 0 (z_ix z) ≤ 0 then mf_enterR ρ t z else if ρ 3 0 (z_ix z) = mf_nearest ρ t then mf_enterR ρ t z else (-3, ρ)) else (-1, ρ)) else (-1, ρ)
def mf_turn3 (ρ : zS) (t a k : Int32) : Int32 × zS := if ρ 11 0 (z_ix t) = 12 then (-2, ρ) else (ρ 11 0 (z_ix t) + 1, mf_step ρ t a (if 0 ≤ k then ρ 13 0 (z_ix (t * 12 + k)) else -1) 0)
def mf_turn2 (ρ : zS) (t a : Int32) : Int32 × zS := if 2 ≤ a then (if 0 ≤ mf_stepWith ρ t a then mf_turn3 ρ t a (mf_stepWith ρ t a) else (-4, ρ)) else mf_turn3 ρ t a (-1)
def mf_turn (ρ : zS) (t a : Int32) : Int32 × zS := if mf_idle ρ t = 0 then (if mf_noArea ρ a = 0 then (if a = 0 then (if ρ 10 0 (z_ix t) = 0 then mf_turn2 ρ t a else (-5, ρ)) else mf_turn2 ρ t a) else (-1, ρ)) else (-1, ρ)
def mf_em (z : Int32) : Nat → Nat → zS → zS
  | 0, _, ρ => ρ
  | k + 1, i, ρ => mf_em z k (i + 1) (if ρ 5 0 i = z then z_up ρ 5 0 i (-1) else ρ)
def mf_empty (ρ : zS) (z : Int32) : zS := z_up (mf_em z 40 0 ρ) 4 0 (z_ix z) (-1)
def mf_lvK (ρ : zS) (t : Int32) : Int32 := t * 12 + (ρ 11 0 (z_ix t) - 1)
def mf_lvA (ρ : zS) (t : Int32) : zS := if ρ 11 0 (z_ix t) - 1 = 0 then z_up (z_up ρ 11 0 (z_ix t) (ρ 11 0 (z_ix t) - 1)) 9 0 (z_ix t) (vp_nar .boolean 0) else z_up ρ 11 0 (z_ix t) (ρ 11 0 (z_ix t) - 1)
def mf_lvZ (ρ : zS) (t : Int32) : Int32 := ρ 12 0 (z_ix (mf_lvK ρ t))
def mf_lvB (ρ : zS) (t : Int32) : zS := z_up (mf_lvA ρ t) 2 0 (z_ix (mf_lvZ ρ t)) (ρ 2 0 (z_ix (mf_lvZ ρ t)) - 1)
def mf_leave (ρ : zS) (t : Int32) : Int32 × zS := if mf_idle ρ t = 0 then (ρ 11 0 (z_ix t) - 1, if ρ 14 0 (z_ix (mf_lvK ρ t)) = 0 then mf_lvA ρ t else if ρ 2 0 (z_ix (mf_lvZ ρ t)) - 1 = 0 then mf_empty (mf_lvB ρ t) (mf_lvZ ρ t) else mf_lvB ρ t) else (-1, ρ)
def mf_current (ρ : zS) (t : Int32) : Int32 := ρ 12 0 (z_ix (t * 12 + ρ 11 0 (z_ix t) - 1))
/-- the first number from i on without an object, or 40 -/
def mf_fr (ρ : zS) : Nat → Nat → Int32
  | 0, i => nI i
  | k + 1, i => if ρ 5 0 i < 0 then nI i else mf_fr ρ k (i + 1)
def mf_free (ρ : zS) : Int32 := mf_fr ρ 40 0
def mf_ff (o : Int32) : Nat → Nat → zS → zS
  | 0, _, ρ => ρ
  | k + 1, i, ρ => mf_ff o k (i + 1) (z_up ρ 7 0 (z_ix (o * 4 + nI i)) (-1))
def mf_make (ρ : zS) (t f : Int32) : Int32 × zS := if mf_idle ρ t = 0 then (if f < 0 then (-1, ρ) else if f ≤ 4 then (if mf_free ρ = 40 then (-2, ρ) else if mf_used ρ (mf_current ρ t) + 1 + f ≤ ρ 1 0 (z_ix (mf_current ρ t)) then (mf_free ρ, mf_ff (mf_free ρ) 4 0 (z_up (z_up ρ 5 0 (z_ix (mf_free ρ)) (mf_current ρ t)) 6 0 (z_ix (mf_free ρ)) f)) else (-2, ρ)) else (-1, ρ)) else (-1, ρ)
def mf_sees (ρ : zS) (t o : Int32) : Int32 := if ρ 5 0 (z_ix o) = 0 then (if ρ 10 0 (z_ix t) = 0 then 1 else 0) else if ρ 5 0 (z_ix o) = 1 then 1 else if mf_stepWith ρ t (ρ 5 0 (z_ix o)) < 0 then 0 else 1
def mf_li (ρ : zS) (z : Int32) : Nat → Int32 → Int32
  | 0, _ => 0
  | k + 1, q => if q ≤ 1 then 0 else if q = z then 1 else mf_li ρ z k (ρ 3 0 (z_ix q))
def mf_liesIn (ρ : zS) (a z : Int32) : Int32 := mf_li ρ z 10 a
def mf_mayPoint (ρ : zS) (a o : Int32) : Int32 := if ρ 5 0 (z_ix o) < 2 then 1 else if a ≤ 1 then 0 else if mf_liesIn ρ a (ρ 5 0 (z_ix o)) = 0 then 0 else 1
def mf_put2 (ρ : zS) (t o f g : Int32) : Int32 × zS := if f < ρ 6 0 (z_ix o) then (if mf_sees ρ t o = 0 then (-4, ρ) else if g < 0 then (0, z_up ρ 7 0 (z_ix (o * 4 + f)) g) else if mf_sees ρ t g = 0 then (-4, ρ) else if mf_mayPoint ρ (ρ 5 0 (z_ix o)) g = 0 then (-5, ρ) else (0, z_up ρ 7 0 (z_ix (o * 4 + f)) g)) else (-1, ρ)
def mf_put (ρ : zS) (t o f g : Int32) : Int32 × zS := if mf_idle ρ t = 0 then (if mf_noObject ρ o = 0 then (if f < 0 then (-1, ρ) else if 3 < f then (-1, ρ) else if g = -1 then mf_put2 ρ t o f g else if mf_noObject ρ g = 0 then mf_put2 ρ t o f g else (-1, ρ)) else (-1, ρ)) else (-1, ρ)
def mf_get (ρ : zS) (t o f : Int32) : Int32 := if mf_idle ρ t = 0 then (if mf_noObject ρ o = 0 then (if f < 0 then -1 else if f < ρ 6 0 (z_ix o) then (if mf_sees ρ t o = 0 then -4 else if 0 ≤ ρ 7 0 (z_ix (o * 4 + f)) then (if mf_sees ρ t (ρ 7 0 (z_ix (o * 4 + f))) = 0 then -4 else ρ 7 0 (z_ix (o * 4 + f))) else -6) else -1) else -1) else -1
def mf_hang2 (ρ : zS) (t z o : Int32) : Int32 × zS := if mf_stepWith ρ t z < 0 then (-4, ρ) else if o < 0 then (0, z_up ρ 4 0 (z_ix z) o) else if mf_sees ρ t o = 0 then (-4, ρ) else if ρ 5 0 (z_ix o) = z then (0, z_up ρ 4 0 (z_ix z) o) else (-5, ρ)
def mf_hang (ρ : zS) (t z o : Int32) : Int32 × zS := if mf_idle ρ t = 0 then (if mf_noScope ρ z = 0 then (if o = -1 then mf_hang2 ρ t z o else if mf_noObject ρ o = 0 then mf_hang2 ρ t z o else (-1, ρ)) else (-1, ρ)) else (-1, ρ)
def mf_portal (ρ : zS) (t z : Int32) : Int32 := if mf_idle ρ t = 0 then (if mf_noScope ρ z = 0 then (if 0 ≤ mf_stepWith ρ t z then (if 0 ≤ ρ 4 0 (z_ix z) then ρ 4 0 (z_ix z) else -6) else -4) else -1) else -1
def mf_assign2 (ρ : zS) (t k o : Int32) : Int32 × zS := if o < 0 then (0, z_up ρ 15 0 (z_ix k) o) else if mf_sees ρ t o = 0 then (-4, ρ) else if ρ 5 0 (z_ix o) ≤ 1 then (0, z_up ρ 15 0 (z_ix k) o) else (-5, ρ)
def mf_assign (ρ : zS) (t k o : Int32) : Int32 × zS := if mf_idle ρ t = 0 then (if k < 0 then (-1, ρ) else if 3 < k then (-1, ρ) else if o = -1 then mf_assign2 ρ t k o else if mf_noObject ρ o = 0 then mf_assign2 ρ t k o else (-1, ρ)) else (-1, ρ)
def mf_areaOf (ρ : zS) (o : Int32) : Int32 := if mf_noObject ρ o = 0 then ρ 5 0 (z_ix o) else -1
def mf_room (ρ : zS) (a : Int32) : Int32 := if mf_noArea ρ a = 0 then ρ 1 0 (z_ix a) - mf_used ρ a else -1
def mf_parent (ρ : zS) (z : Int32) : Int32 := if mf_noScope ρ z = 0 then (if ρ 2 0 (z_ix z) = 0 then -6 else ρ 3 0 (z_ix z)) else -1
def mf_entries (ρ : zS) (z : Int32) : Int32 := if mf_noScope ρ z = 0 then ρ 2 0 (z_ix z) else -1
def mf_view (ρ : zS) (t i : Int32) : Int32 := if mf_idle ρ t = 0 then (if i < 0 then -1 else if i ≤ 11 then (if 0 ≤ mf_viewed ρ t i then ρ 12 0 (z_ix (t * 12 + mf_viewed ρ t i)) else -1) else -1) else -1
-- what is kept
def mf_keeps (ρ : zS) (o : Int32) : Int32 × zS := if o < 0 then (0, ρ) else if ρ 5 0 (z_ix o) = 0 then (if ρ 8 0 (z_ix o) = 0 then (1, z_up ρ 8 0 (z_ix o) (vp_nar .boolean 1)) else (0, ρ)) else (0, ρ)
def mf_ks (q : Int32 × zS) (o : Int32) : Int32 × zS := (if (mf_keeps q.2 o).1 = 0 then q.1 else 1, (mf_keeps q.2 o).2)
def mf_l0 : Nat → Nat → zS → zS
  | 0, _, ρ => ρ
  | k + 1, i, ρ => mf_l0 k (i + 1) (z_up ρ 8 0 i (vp_nar .boolean 0))
def mf_l1 : Nat → Nat → Int32 × zS → Int32 × zS
  | 0, _, q => q
  | k + 1, i, q => mf_l1 k (i + 1) (mf_ks q (q.2 15 0 i))
def mf_l2s (i : Nat) (q : Int32 × zS) : Int32 × zS := if 0 < q.2 5 0 (i / 4) then (if q.2 6 0 (i / 4) ≤ nI (i % 4) then q else mf_ks q (q.2 7 0 i)) else if q.2 5 0 (i / 4) = 0 then (if q.2 8 0 (i / 4) = 0 then q else if q.2 6 0 (i / 4) ≤ nI (i % 4) then q else mf_ks q (q.2 7 0 i)) else q
def mf_l2 : Nat → Nat → Int32 × zS → Int32 × zS
  | 0, _, q => q
  | k + 1, i, q => mf_l2 k (i + 1) (mf_l2s i q)
def mf_l3 : Nat → Int32 × zS → zS
  | 0, q => q.2
  | k + 1, q => if q.1 = 0 then q.2 else mf_l3 k (mf_l2 160 0 (mf_l1 4 0 (0, q.2)))
def mf_kc (ρ : zS) : Nat → Nat → Int32 → Int32
  | 0, _, n => n
  | k + 1, i, n => mf_kc ρ k (i + 1) (if ρ 8 0 i = 0 then n else n + 1)
def mf_keepS (ρ : zS) : zS := mf_l3 41 (1, mf_l0 40 0 ρ)
def mf_keep (ρ : zS) : Int32 × zS := (mf_kc (mf_keepS ρ) 40 0 0, mf_keepS ρ)
def mf_cl : Nat → Nat → Int32 × zS → Int32 × zS
  | 0, _, q => q
  | k + 1, i, q => mf_cl k (i + 1) (if q.2 5 0 i = 0 then (if q.2 8 0 i = 0 then (q.1 + 1, z_up q.2 5 0 i (-1)) else q) else q)
def mf_collect (ρ : zS) : Int32 × zS := mf_cl 40 0 (0, mf_keepS ρ)
def mf_no (ρ : zS) : Nat → Nat → Int32 → Int32
  | 0, _, n => n
  | k + 1, i, n => mf_no ρ k (i + 1) (if ρ 5 0 i < 0 then n else n + 1)
def mf_nb (ρ : zS) : Nat → Nat → Int32 → Int32
  | 0, _, n => n
  | k + 1, i, n => mf_nb ρ k (i + 1) (if ρ 9 0 i = 0 then n else n + 1)
def mf_count (ρ : zS) (w : Int32) : Int32 × zS := if w = 0 then (mf_no ρ 40 0 0, ρ) else if w = 2 then (mf_nb ρ 4 0 0, ρ) else if w = 1 then (ρ 0 0 0, ρ) else if w = 3 then mf_keep ρ else if w ≤ 3 then (-1, ρ) else if 8 ≤ w then (-1, ρ) else (if 0 ≤ ρ 15 0 (z_ix (w - 4)) then ρ 15 0 (z_ix (w - 4)) else -6, ρ)
end
section
section ML
variable {p : Program} {l : Launch} {e : Env} {R : Room} {s : State} {m : MethodId} {args : Array Value} {below : List Frame} {meth : Method} {c : Code} {cc : ByteArray} {nL : Nat} {own : String} {D : va_G} {dA : Nat → ClassId} {Q : State → Prop} {σ : zS} {lo n kc ks pc : Nat} {lv : zL} {st : List Value}
def ma0 (lo i : Nat) : Nat := lo + i
def ma1 (lo i : Nat) : Nat := lo + 1 + i
def ma2 (lo i : Nat) : Nat := lo + 2 + i
def ma3 (lo i : Nat) : Nat := lo + 3 + i
def ma4 (lo i : Nat) : Nat := lo + 4 + i
def ma5 (lo i : Nat) : Nat := lo + 5 + i
def ma6 (lo i : Nat) : Nat := lo + 6 + i
def ma7 (lo i : Nat) : Nat := lo + 7 + i
def ma8 (lo i : Nat) : Nat := lo + 8 + i
def ma9 (lo i : Nat) : Nat := lo + 9 + i
def ma10 (lo i : Nat) : Nat := lo + 10 + i
def ma11 (lo i : Nat) : Nat := lo + 11 + i
def ma12 (lo i : Nat) : Nat := lo + 12 + i
def ma13 (lo i : Nat) : Nat := lo + 13 + i
def ma14 (lo i : Nat) : Nat := lo + 14 + i
def ma15 (lo i : Nat) : Nat := lo + 15 + i
def mk (lo q : Nat) : Nat × Nat := if q < lo ∨ lo + 16 ≤ q then (99, 0) else (q - lo, 0)
def me (dA : Nat → ClassId) (lo : Nat) (σ : zS) (κ i : Nat) : Option va_E := match κ with
  | 0 => some (.inr (4, [.int (σ 0 i 0), .ref (ma1 lo 0), .ref (ma2 lo 0), .ref (ma3 lo 0), .ref (ma4 lo 0), .ref (ma5 lo 0), .ref (ma6 lo 0), .ref (ma7 lo 0), .ref (ma8 lo 0), .ref (ma9 lo 0), .ref (ma10 lo 0), .ref (ma11 lo 0), .ref (ma12 lo 0), .ref (ma13 lo 0), .ref (ma14 lo 0), .ref (ma15 lo 0)]))
  | 1 => some (.inl (dA 0, 10, .inl (fun j => σ 1 i j)))
  | 2 => some (.inl (dA 0, 10, .inl (fun j => σ 2 i j)))
  | 3 => some (.inl (dA 0, 10, .inl (fun j => σ 3 i j)))
  | 4 => some (.inl (dA 0, 10, .inl (fun j => σ 4 i j)))
  | 5 => some (.inl (dA 0, 40, .inl (fun j => σ 5 i j)))
  | 6 => some (.inl (dA 0, 40, .inl (fun j => σ 6 i j)))
  | 7 => some (.inl (dA 0, 160, .inl (fun j => σ 7 i j)))
  | 8 => some (.inl (dA 1, 40, .inl (fun j => σ 8 i j)))
  | 9 => some (.inl (dA 1, 4, .inl (fun j => σ 9 i j)))
  | 10 => some (.inl (dA 1, 4, .inl (fun j => σ 10 i j)))
  | 11 => some (.inl (dA 0, 4, .inl (fun j => σ 11 i j)))
  | 12 => some (.inl (dA 0, 48, .inl (fun j => σ 12 i j)))
  | 13 => some (.inl (dA 0, 48, .inl (fun j => σ 13 i j)))
  | 14 => some (.inl (dA 1, 48, .inl (fun j => σ 14 i j)))
  | 15 => some (.inl (dA 0, 4, .inl (fun j => σ 15 i j)))
  | _ => none
def mw (dA : Nat → ClassId) (lo : Nat) (σ : zS) : zW := fun q => me dA lo σ (mk lo q).1 (mk lo q).2
def mA (lo : Nat) : Nat → Prop := fun q => lo ≤ q ∧ q < lo + 16
theorem mk_0 {lo i : Nat} (h : i < 1) : mk lo (ma0 lo i) = (0, i) := by
  unfold mk ma0
  (repeat' split) <;> first | (exfalso; omega) | (refine Prod.ext ?_ ?_ <;> (show _ = _) <;> omega)
theorem mk_i0 {lo q i : Nat} (h : mk lo q = (0, i)) : q = ma0 lo i ∧ i < 1 := by
  unfold mk at h
  unfold ma0
  (repeat' split at h) <;> simp only [Prod.mk.injEq] at h <;> omega
theorem mw_0 {dA : Nat → ClassId} {lo i : Nat} {σ : zS} (h : i < 1) : mw dA lo σ (ma0 lo i) = some (.inr (4, [.int (σ 0 i 0), .ref (ma1 lo 0), .ref (ma2 lo 0), .ref (ma3 lo 0), .ref (ma4 lo 0), .ref (ma5 lo 0), .ref (ma6 lo 0), .ref (ma7 lo 0), .ref (ma8 lo 0), .ref (ma9 lo 0), .ref (ma10 lo 0), .ref (ma11 lo 0), .ref (ma12 lo 0), .ref (ma13 lo 0), .ref (ma14 lo 0), .ref (ma15 lo 0)])) := by
  unfold mw
  rw [mk_0 h]
  rfl
theorem mA_0 {lo i : Nat} (h : i < 1) : mA lo (ma0 lo i) := by
  unfold mA ma0
  omega
theorem mk_1 {lo i : Nat} (h : i < 1) : mk lo (ma1 lo i) = (1, i) := by
  unfold mk ma1
  (repeat' split) <;> first | (exfalso; omega) | (refine Prod.ext ?_ ?_ <;> (show _ = _) <;> omega)
theorem mk_i1 {lo q i : Nat} (h : mk lo q = (1, i)) : q = ma1 lo i ∧ i < 1 := by
  unfold mk at h
  unfold ma1
  (repeat' split at h) <;> simp only [Prod.mk.injEq] at h <;> omega
theorem mw_1 {dA : Nat → ClassId} {lo i : Nat} {σ : zS} (h : i < 1) : mw dA lo σ (ma1 lo i) = some (.inl (dA 0, 10, .inl (fun j => σ 1 i j))) := by
  unfold mw
  rw [mk_1 h]
  rfl
theorem mA_1 {lo i : Nat} (h : i < 1) : mA lo (ma1 lo i) := by
  unfold mA ma1
  omega
theorem mk_2 {lo i : Nat} (h : i < 1) : mk lo (ma2 lo i) = (2, i) := by
  unfold mk ma2
  (repeat' split) <;> first | (exfalso; omega) | (refine Prod.ext ?_ ?_ <;> (show _ = _) <;> omega)
theorem mk_i2 {lo q i : Nat} (h : mk lo q = (2, i)) : q = ma2 lo i ∧ i < 1 := by
  unfold mk at h
  unfold ma2
  (repeat' split at h) <;> simp only [Prod.mk.injEq] at h <;> omega
theorem mw_2 {dA : Nat → ClassId} {lo i : Nat} {σ : zS} (h : i < 1) : mw dA lo σ (ma2 lo i) = some (.inl (dA 0, 10, .inl (fun j => σ 2 i j))) := by
  unfold mw
  rw [mk_2 h]
  rfl
theorem mA_2 {lo i : Nat} (h : i < 1) : mA lo (ma2 lo i) := by
  unfold mA ma2
  omega
theorem mk_3 {lo i : Nat} (h : i < 1) : mk lo (ma3 lo i) = (3, i) := by
  unfold mk ma3
  (repeat' split) <;> first | (exfalso; omega) | (refine Prod.ext ?_ ?_ <;> (show _ = _) <;> omega)
theorem mk_i3 {lo q i : Nat} (h : mk lo q = (3, i)) : q = ma3 lo i ∧ i < 1 := by
  unfold mk at h
  unfold ma3
  (repeat' split at h) <;> simp only [Prod.mk.injEq] at h <;> omega
theorem mw_3 {dA : Nat → ClassId} {lo i : Nat} {σ : zS} (h : i < 1) : mw dA lo σ (ma3 lo i) = some (.inl (dA 0, 10, .inl (fun j => σ 3 i j))) := by
  unfold mw
  rw [mk_3 h]
  rfl
theorem mA_3 {lo i : Nat} (h : i < 1) : mA lo (ma3 lo i) := by
  unfold mA ma3
  omega
theorem mk_4 {lo i : Nat} (h : i < 1) : mk lo (ma4 lo i) = (4, i) := by
  unfold mk ma4
  (repeat' split) <;> first | (exfalso; omega) | (refine Prod.ext ?_ ?_ <;> (show _ = _) <;> omega)
theorem mk_i4 {lo q i : Nat} (h : mk lo q = (4, i)) : q = ma4 lo i ∧ i < 1 := by
  unfold mk at h
  unfold ma4
  (repeat' split at h) <;> simp only [Prod.mk.injEq] at h <;> omega
theorem mw_4 {dA : Nat → ClassId} {lo i : Nat} {σ : zS} (h : i < 1) : mw dA lo σ (ma4 lo i) = some (.inl (dA 0, 10, .inl (fun j => σ 4 i j))) := by
  unfold mw
  rw [mk_4 h]
  rfl
theorem mA_4 {lo i : Nat} (h : i < 1) : mA lo (ma4 lo i) := by
  unfold mA ma4
  omega
theorem mk_5 {lo i : Nat} (h : i < 1) : mk lo (ma5 lo i) = (5, i) := by
  unfold mk ma5
  (repeat' split) <;> first | (exfalso; omega) | (refine Prod.ext ?_ ?_ <;> (show _ = _) <;> omega)
theorem mk_i5 {lo q i : Nat} (h : mk lo q = (5, i)) : q = ma5 lo i ∧ i < 1 := by
  unfold mk at h
  unfold ma5
  (repeat' split at h) <;> simp only [Prod.mk.injEq] at h <;> omega
theorem mw_5 {dA : Nat → ClassId} {lo i : Nat} {σ : zS} (h : i < 1) : mw dA lo σ (ma5 lo i) = some (.inl (dA 0, 40, .inl (fun j => σ 5 i j))) := by
  unfold mw
  rw [mk_5 h]
  rfl
theorem mA_5 {lo i : Nat} (h : i < 1) : mA lo (ma5 lo i) := by
  unfold mA ma5
  omega
theorem mk_6 {lo i : Nat} (h : i < 1) : mk lo (ma6 lo i) = (6, i) := by
  unfold mk ma6
  (repeat' split) <;> first | (exfalso; omega) | (refine Prod.ext ?_ ?_ <;> (show _ = _) <;> omega)
theorem mk_i6 {lo q i : Nat} (h : mk lo q = (6, i)) : q = ma6 lo i ∧ i < 1 := by
  unfold mk at h
  unfold ma6
  (repeat' split at h) <;> simp only [Prod.mk.injEq] at h <;> omega
theorem mw_6 {dA : Nat → ClassId} {lo i : Nat} {σ : zS} (h : i < 1) : mw dA lo σ (ma6 lo i) = some (.inl (dA 0, 40, .inl (fun j => σ 6 i j))) := by
  unfold mw
  rw [mk_6 h]
  rfl
theorem mA_6 {lo i : Nat} (h : i < 1) : mA lo (ma6 lo i) := by
  unfold mA ma6
  omega
theorem mk_7 {lo i : Nat} (h : i < 1) : mk lo (ma7 lo i) = (7, i) := by
  unfold mk ma7
  (repeat' split) <;> first | (exfalso; omega) | (refine Prod.ext ?_ ?_ <;> (show _ = _) <;> omega)
theorem mk_i7 {lo q i : Nat} (h : mk lo q = (7, i)) : q = ma7 lo i ∧ i < 1 := by
  unfold mk at h
  unfold ma7
  (repeat' split at h) <;> simp only [Prod.mk.injEq] at h <;> omega
theorem mw_7 {dA : Nat → ClassId} {lo i : Nat} {σ : zS} (h : i < 1) : mw dA lo σ (ma7 lo i) = some (.inl (dA 0, 160, .inl (fun j => σ 7 i j))) := by
  unfold mw
  rw [mk_7 h]
  rfl
theorem mA_7 {lo i : Nat} (h : i < 1) : mA lo (ma7 lo i) := by
  unfold mA ma7
  omega
theorem mk_8 {lo i : Nat} (h : i < 1) : mk lo (ma8 lo i) = (8, i) := by
  unfold mk ma8
  (repeat' split) <;> first | (exfalso; omega) | (refine Prod.ext ?_ ?_ <;> (show _ = _) <;> omega)
theorem mk_i8 {lo q i : Nat} (h : mk lo q = (8, i)) : q = ma8 lo i ∧ i < 1 := by
  unfold mk at h
  unfold ma8
  (repeat' split at h) <;> simp only [Prod.mk.injEq] at h <;> omega
theorem mw_8 {dA : Nat → ClassId} {lo i : Nat} {σ : zS} (h : i < 1) : mw dA lo σ (ma8 lo i) = some (.inl (dA 1, 40, .inl (fun j => σ 8 i j))) := by
  unfold mw
  rw [mk_8 h]
  rfl
theorem mA_8 {lo i : Nat} (h : i < 1) : mA lo (ma8 lo i) := by
  unfold mA ma8
  omega
theorem mk_9 {lo i : Nat} (h : i < 1) : mk lo (ma9 lo i) = (9, i) := by
  unfold mk ma9
  (repeat' split) <;> first | (exfalso; omega) | (refine Prod.ext ?_ ?_ <;> (show _ = _) <;> omega)
theorem mk_i9 {lo q i : Nat} (h : mk lo q = (9, i)) : q = ma9 lo i ∧ i < 1 := by
  unfold mk at h
  unfold ma9
  (repeat' split at h) <;> simp only [Prod.mk.injEq] at h <;> omega
theorem mw_9 {dA : Nat → ClassId} {lo i : Nat} {σ : zS} (h : i < 1) : mw dA lo σ (ma9 lo i) = some (.inl (dA 1, 4, .inl (fun j => σ 9 i j))) := by
  unfold mw
  rw [mk_9 h]
  rfl
theorem mA_9 {lo i : Nat} (h : i < 1) : mA lo (ma9 lo i) := by
  unfold mA ma9
  omega
theorem mk_10 {lo i : Nat} (h : i < 1) : mk lo (ma10 lo i) = (10, i) := by
  unfold mk ma10
  (repeat' split) <;> first | (exfalso; omega) | (refine Prod.ext ?_ ?_ <;> (show _ = _) <;> omega)
theorem mk_i10 {lo q i : Nat} (h : mk lo q = (10, i)) : q = ma10 lo i ∧ i < 1 := by
  unfold mk at h
  unfold ma10
  (repeat' split at h) <;> simp only [Prod.mk.injEq] at h <;> omega
theorem mw_10 {dA : Nat → ClassId} {lo i : Nat} {σ : zS} (h : i < 1) : mw dA lo σ (ma10 lo i) = some (.inl (dA 1, 4, .inl (fun j => σ 10 i j))) := by
  unfold mw
  rw [mk_10 h]
  rfl
theorem mA_10 {lo i : Nat} (h : i < 1) : mA lo (ma10 lo i) := by
  unfold mA ma10
  omega
theorem mk_11 {lo i : Nat} (h : i < 1) : mk lo (ma11 lo i) = (11, i) := by
  unfold mk ma11
  (repeat' split) <;> first | (exfalso; omega) | (refine Prod.ext ?_ ?_ <;> (show _ = _) <;> omega)
theorem mk_i11 {lo q i : Nat} (h : mk lo q = (11, i)) : q = ma11 lo i ∧ i < 1 := by
  unfold mk at h
  unfold ma11
  (repeat' split at h) <;> simp only [Prod.mk.injEq] at h <;> omega
theorem mw_11 {dA : Nat → ClassId} {lo i : Nat} {σ : zS} (h : i < 1) : mw dA lo σ (ma11 lo i) = some (.inl (dA 0, 4, .inl (fun j => σ 11 i j))) := by
  unfold mw
  rw [mk_11 h]
  rfl
theorem mA_11 {lo i : Nat} (h : i < 1) : mA lo (ma11 lo i) := by
  unfold mA ma11
  omega
theorem mk_12 {lo i : Nat} (h : i < 1) : mk lo (ma12 lo i) = (12, i) := by
  unfold mk ma12
  (repeat' split) <;> first | (exfalso; omega) | (refine Prod.ext ?_ ?_ <;> (show _ = _) <;> omega)
theorem mk_i12 {lo q i : Nat} (h : mk lo q = (12, i)) : q = ma12 lo i ∧ i < 1 := by
  unfold mk at h
  unfold ma12
  (repeat' split at h) <;> simp only [Prod.mk.injEq] at h <;> omega
theorem mw_12 {dA : Nat → ClassId} {lo i : Nat} {σ : zS} (h : i < 1) : mw dA lo σ (ma12 lo i) = some (.inl (dA 0, 48, .inl (fun j => σ 12 i j))) := by
  unfold mw
  rw [mk_12 h]
  rfl
theorem mA_12 {lo i : Nat} (h : i < 1) : mA lo (ma12 lo i) := by
  unfold mA ma12
  omega
theorem mk_13 {lo i : Nat} (h : i < 1) : mk lo (ma13 lo i) = (13, i) := by
  unfold mk ma13
  (repeat' split) <;> first | (exfalso; omega) | (refine Prod.ext ?_ ?_ <;> (show _ = _) <;> omega)
theorem mk_i13 {lo q i : Nat} (h : mk lo q = (13, i)) : q = ma13 lo i ∧ i < 1 := by
  unfold mk at h
  unfold ma13
  (repeat' split at h) <;> simp only [Prod.mk.injEq] at h <;> omega
theorem mw_13 {dA : Nat → ClassId} {lo i : Nat} {σ : zS} (h : i < 1) : mw dA lo σ (ma13 lo i) = some (.inl (dA 0, 48, .inl (fun j => σ 13 i j))) := by
  unfold mw
  rw [mk_13 h]
  rfl
theorem mA_13 {lo i : Nat} (h : i < 1) : mA lo (ma13 lo i) := by
  unfold mA ma13
  omega
theorem mk_14 {lo i : Nat} (h : i < 1) : mk lo (ma14 lo i) = (14, i) := by
  unfold mk ma14
  (repeat' split) <;> first | (exfalso; omega) | (refine Prod.ext ?_ ?_ <;> (show _ = _) <;> omega)
theorem mk_i14 {lo q i : Nat} (h : mk lo q = (14, i)) : q = ma14 lo i ∧ i < 1 := by
  unfold mk at h
  unfold ma14
  (repeat' split at h) <;> simp only [Prod.mk.injEq] at h <;> omega
theorem mw_14 {dA : Nat → ClassId} {lo i : Nat} {σ : zS} (h : i < 1) : mw dA lo σ (ma14 lo i) = some (.inl (dA 1, 48, .inl (fun j => σ 14 i j))) := by
  unfold mw
  rw [mk_14 h]
  rfl
theorem mA_14 {lo i : Nat} (h : i < 1) : mA lo (ma14 lo i) := by
  unfold mA ma14
  omega
theorem mk_15 {lo i : Nat} (h : i < 1) : mk lo (ma15 lo i) = (15, i) := by
  unfold mk ma15
  (repeat' split) <;> first | (exfalso; omega) | (refine Prod.ext ?_ ?_ <;> (show _ = _) <;> omega)
theorem mk_i15 {lo q i : Nat} (h : mk lo q = (15, i)) : q = ma15 lo i ∧ i < 1 := by
  unfold mk at h
  unfold ma15
  (repeat' split at h) <;> simp only [Prod.mk.injEq] at h <;> omega
theorem mw_15 {dA : Nat → ClassId} {lo i : Nat} {σ : zS} (h : i < 1) : mw dA lo σ (ma15 lo i) = some (.inl (dA 0, 4, .inl (fun j => σ 15 i j))) := by
  unfold mw
  rw [mk_15 h]
  rfl
theorem mA_15 {lo i : Nat} (h : i < 1) : mA lo (ma15 lo i) := by
  unfold mA ma15
  omega
theorem mw_in {dA : Nat → ClassId} {lo q : Nat} {σ : zS} {e : va_E} (h : mw dA lo σ q = some e) : mA lo q := by
  unfold mw at h
  unfold mA
  by_cases hq : lo ≤ q ∧ q < lo + 16
  · exact hq
  · exfalso
    have : mk lo q = (99, 0) := by
      unfold mk
      rw [if_pos (by omega)]
    rw [this] at h
    cases h
theorem mo_0 {dA : Nat → ClassId} {lo i j κ i' : Nat} {σ : zS} {v : Int32} (h : ¬ (κ = 0 ∧ i' = i)) : me dA lo (z_up σ 0 i j v) κ i' = me dA lo σ κ i' := by
  unfold me
  split <;> simp_all [z_up]
theorem mu_0 {dA : Nat → ClassId} {lo i : Nat} {σ : zS} {v : Int32} (hi : i < 1) : ∀ (q : Nat) (e : va_E), mw dA lo (z_up σ 0 i 0 v) q = some e → va_up (mw dA lo σ) (ma0 lo i) (some (.inr (4, [.int v, .ref (ma1 lo 0), .ref (ma2 lo 0), .ref (ma3 lo 0), .ref (ma4 lo 0), .ref (ma5 lo 0), .ref (ma6 lo 0), .ref (ma7 lo 0), .ref (ma8 lo 0), .ref (ma9 lo 0), .ref (ma10 lo 0), .ref (ma11 lo 0), .ref (ma12 lo 0), .ref (ma13 lo 0), .ref (ma14 lo 0), .ref (ma15 lo 0)]))) q = some e := by
  intro q e h
  by_cases hq : q = ma0 lo i
  · subst hq
    rw [mw_0 hi] at h
    rw [va_up_self, ← h]
    simp [z_up]
  · rw [va_up_ne _ _ hq, ← h]
    unfold mw
    rw [mo_0]
    intro hk
    exact hq (mk_i0 (Prod.ext hk.1 hk.2)).1
theorem mp_0 (C : zC p s m args meth c cc nL own D dA) {index i : Nat} {v : Int32} (hl : Cond.fieldLink own index (F_MM 0).1 (F_MM 0).2.1 (F_MM 0).2.2.1 ∈ zT) (hi : i < 1) (hna : narrow .int (.int v) = .int v) (hfit : fits .int (.int v) = true) (hd : decode cc pc = .ok (.putfield index, 3)) (k : zz p l e R s m args below meth c D (mA lo) nL Q (mw dA lo (z_up σ 0 i 0 v)) n kc ks (pc + 3) lv st) : zz p l e R s m args below meth c D (mA lo) nL Q (mw dA lo σ) n kc ks pc lv (.int v :: .ref (ma0 lo i) :: st) :=
  zz_put C (ci := 4) (N := 16) 0 rfl zi_MM t_MM t_MM_ok n_MM (by decide) hl rfl rfl hna hfit (Nat.le_of_ble_eq_true rfl) (mw_0 hi) (mA_0 hi) hd (zz_mono (mu_0 hi) k)
theorem mpN_0 (C : zC p s m args meth c cc nL own D dA) {index i : Nat} {v : Int32} {host : String} (hl : Cond.fieldLinkNest own index (F_MM 0).1 (F_MM 0).2.1 (F_MM 0).2.2.1 host ∈ zN) (hi : i < 1) (hna : narrow .int (.int v) = .int v) (hfit : fits .int (.int v) = true) (hd : decode cc pc = .ok (.putfield index, 3)) (k : zz p l e R s m args below meth c D (mA lo) nL Q (mw dA lo (z_up σ 0 i 0 v)) n kc ks (pc + 3) lv st) : zz p l e R s m args below meth c D (mA lo) nL Q (mw dA lo σ) n kc ks pc lv (.int v :: .ref (ma0 lo i) :: st) :=
  zz_putN C (ci := 4) (N := 16) 0 rfl zi_MM t_MM t_MM_ok n_MM (by decide) hl rfl rfl hna hfit (Nat.le_of_ble_eq_true rfl) (mw_0 hi) (mA_0 hi) hd (zz_mono (mu_0 hi) k)
theorem mo_1 {dA : Nat → ClassId} {lo i j κ i' : Nat} {σ : zS} {v : Int32} (h : ¬ (κ = 1 ∧ i' = i)) : me dA lo (z_up σ 1 i j v) κ i' = me dA lo σ κ i' := by
  unfold me
  split <;> simp_all [z_up]
theorem mu_1 {dA : Nat → ClassId} {lo i j : Nat} {σ : zS} {v : Int32} (hi : i < 1) : ∀ (q : Nat) (e : va_E), mw dA lo (z_up σ 1 i j v) q = some e → va_up (mw dA lo σ) (ma1 lo i) (some (.inl (dA 0, 10, .inl (upd (fun j => σ 1 i j) j v)))) q = some e := by
  intro q e h
  by_cases hq : q = ma1 lo i
  · subst hq
    rw [mw_1 hi] at h
    rw [va_up_self, ← h]
    refine congrArg some (congrArg Sum.inl (congrArg (Prod.mk _) (congrArg (Prod.mk _) (congrArg Sum.inl (funext fun j' => ?_)))))
    simp [z_up, upd]
  · rw [va_up_ne _ _ hq, ← h]
    unfold mw
    rw [mo_1]
    intro hk
    exact hq (mk_i1 (Prod.ext hk.1 hk.2)).1
theorem ms_1 (C : zC p s m args meth c cc nL own D dA) {i : Nat} {j v : Int32} (hi : i < 1) (hj : vp_in j 10) (hd : decode cc pc = .ok (.iastore, 1)) (k : zz p l e R s m args below meth c D (mA lo) nL Q (mw dA lo (z_up σ 1 i j.toNatClampNeg v)) n kc ks (pc + 1) lv st) : zz p l e R s m args below meth c D (mA lo) nL Q (mw dA lo σ) n kc ks pc lv (.int v :: .int j :: .ref (ma1 lo i) :: st) :=
  zz_iast C (t0 := 0) rfl (mw_1 hi) (mA_1 hi) hj hd (zz_mono (mu_1 hi) k)
theorem mo_2 {dA : Nat → ClassId} {lo i j κ i' : Nat} {σ : zS} {v : Int32} (h : ¬ (κ = 2 ∧ i' = i)) : me dA lo (z_up σ 2 i j v) κ i' = me dA lo σ κ i' := by
  unfold me
  split <;> simp_all [z_up]
theorem mu_2 {dA : Nat → ClassId} {lo i j : Nat} {σ : zS} {v : Int32} (hi : i < 1) : ∀ (q : Nat) (e : va_E), mw dA lo (z_up σ 2 i j v) q = some e → va_up (mw dA lo σ) (ma2 lo i) (some (.inl (dA 0, 10, .inl (upd (fun j => σ 2 i j) j v)))) q = some e := by
  intro q e h
  by_cases hq : q = ma2 lo i
  · subst hq
    rw [mw_2 hi] at h
    rw [va_up_self, ← h]
    refine congrArg some (congrArg Sum.inl (congrArg (Prod.mk _) (congrArg (Prod.mk _) (congrArg Sum.inl (funext fun j' => ?_)))))
    simp [z_up, upd]
  · rw [va_up_ne _ _ hq, ← h]
    unfold mw
    rw [mo_2]
    intro hk
    exact hq (mk_i2 (Prod.ext hk.1 hk.2)).1
theorem ms_2 (C : zC p s m args meth c cc nL own D dA) {i : Nat} {j v : Int32} (hi : i < 1) (hj : vp_in j 10) (hd : decode cc pc = .ok (.iastore, 1)) (k : zz p l e R s m args below meth c D (mA lo) nL Q (mw dA lo (z_up σ 2 i j.toNatClampNeg v)) n kc ks (pc + 1) lv st) : zz p l e R s m args below meth c D (mA lo) nL Q (mw dA lo σ) n kc ks pc lv (.int v :: .int j :: .ref (ma2 lo i) :: st) :=
  zz_iast C (t0 := 0) rfl (mw_2 hi) (mA_2 hi) hj hd (zz_mono (mu_2 hi) k)
theorem mo_3 {dA : Nat → ClassId} {lo i j κ i' : Nat} {σ : zS} {v : Int32} (h : ¬ (κ = 3 ∧ i' = i)) : me dA lo (z_up σ 3 i j v) κ i' = me dA lo σ κ i' := by
  unfold me
  split <;> simp_all [z_up]
theorem mu_3 {dA : Nat → ClassId} {lo i j : Nat} {σ : zS} {v : Int32} (hi : i < 1) : ∀ (q : Nat) (e : va_E), mw dA lo (z_up σ 3 i j v) q = some e → va_up (mw dA lo σ) (ma3 lo i) (some (.inl (dA 0, 10, .inl (upd (fun j => σ 3 i j) j v)))) q = some e := by
  intro q e h
  by_cases hq : q = ma3 lo i
  · subst hq
    rw [mw_3 hi] at h
    rw [va_up_self, ← h]
    refine congrArg some (congrArg Sum.inl (congrArg (Prod.mk _) (congrArg (Prod.mk _) (congrArg Sum.inl (funext fun j' => ?_)))))
    simp [z_up, upd]
  · rw [va_up_ne _ _ hq, ← h]
    unfold mw
    rw [mo_3]
    intro hk
    exact hq (mk_i3 (Prod.ext hk.1 hk.2)).1
theorem ms_3 (C : zC p s m args meth c cc nL own D dA) {i : Nat} {j v : Int32} (hi : i < 1) (hj : vp_in j 10) (hd : decode cc pc = .ok (.iastore, 1)) (k : zz p l e R s m args below meth c D (mA lo) nL Q (mw dA lo (z_up σ 3 i j.toNatClampNeg v)) n kc ks (pc + 1) lv st) : zz p l e R s m args below meth c D (mA lo) nL Q (mw dA lo σ) n kc ks pc lv (.int v :: .int j :: .ref (ma3 lo i) :: st) :=
  zz_iast C (t0 := 0) rfl (mw_3 hi) (mA_3 hi) hj hd (zz_mono (mu_3 hi) k)
theorem mo_4 {dA : Nat → ClassId} {lo i j κ i' : Nat} {σ : zS} {v : Int32} (h : ¬ (κ = 4 ∧ i' = i)) : me dA lo (z_up σ 4 i j v) κ i' = me dA lo σ κ i' := by
  unfold me
  split <;> simp_all [z_up]
theorem mu_4 {dA : Nat → ClassId} {lo i j : Nat} {σ : zS} {v : Int32} (hi : i < 1) : ∀ (q : Nat) (e : va_E), mw dA lo (z_up σ 4 i j v) q = some e → va_up (mw dA lo σ) (ma4 lo i) (some (.inl (dA 0, 10, .inl (upd (fun j => σ 4 i j) j v)))) q = some e := by
  intro q e h
  by_cases hq : q = ma4 lo i
  · subst hq
    rw [mw_4 hi] at h
    rw [va_up_self, ← h]
    refine congrArg some (congrArg Sum.inl (congrArg (Prod.mk _) (congrArg (Prod.mk _) (congrArg Sum.inl (funext fun j' => ?_)))))
    simp [z_up, upd]
  · rw [va_up_ne _ _ hq, ← h]
    unfold mw
    rw [mo_4]
    intro hk
    exact hq (mk_i4 (Prod.ext hk.1 hk.2)).1
theorem ms_4 (C : zC p s m args meth c cc nL own D dA) {i : Nat} {j v : Int32} (hi : i < 1) (hj : vp_in j 10) (hd : decode cc pc = .ok (.iastore, 1)) (k : zz p l e R s m args below meth c D (mA lo) nL Q (mw dA lo (z_up σ 4 i j.toNatClampNeg v)) n kc ks (pc + 1) lv st) : zz p l e R s m args below meth c D (mA lo) nL Q (mw dA lo σ) n kc ks pc lv (.int v :: .int j :: .ref (ma4 lo i) :: st) :=
  zz_iast C (t0 := 0) rfl (mw_4 hi) (mA_4 hi) hj hd (zz_mono (mu_4 hi) k)
theorem mo_5 {dA : Nat → ClassId} {lo i j κ i' : Nat} {σ : zS} {v : Int32} (h : ¬ (κ = 5 ∧ i' = i)) : me dA lo (z_up σ 5 i j v) κ i' = me dA lo σ κ i' := by
  unfold me
  split <;> simp_all [z_up]
theorem mu_5 {dA : Nat → ClassId} {lo i j : Nat} {σ : zS} {v : Int32} (hi : i < 1) : ∀ (q : Nat) (e : va_E), mw dA lo (z_up σ 5 i j v) q = some e → va_up (mw dA lo σ) (ma5 lo i) (some (.inl (dA 0, 40, .inl (upd (fun j => σ 5 i j) j v)))) q = some e := by
  intro q e h
  by_cases hq : q = ma5 lo i
  · subst hq
    rw [mw_5 hi] at h
    rw [va_up_self, ← h]
    refine congrArg some (congrArg Sum.inl (congrArg (Prod.mk _) (congrArg (Prod.mk _) (congrArg Sum.inl (funext fun j' => ?_)))))
    simp [z_up, upd]
  · rw [va_up_ne _ _ hq, ← h]
    unfold mw
    rw [mo_5]
    intro hk
    exact hq (mk_i5 (Prod.ext hk.1 hk.2)).1
theorem ms_5 (C : zC p s m args meth c cc nL own D dA) {i : Nat} {j v : Int32} (hi : i < 1) (hj : vp_in j 40) (hd : decode cc pc = .ok (.iastore, 1)) (k : zz p l e R s m args below meth c D (mA lo) nL Q (mw dA lo (z_up σ 5 i j.toNatClampNeg v)) n kc ks (pc + 1) lv st) : zz p l e R s m args below meth c D (mA lo) nL Q (mw dA lo σ) n kc ks pc lv (.int v :: .int j :: .ref (ma5 lo i) :: st) :=
  zz_iast C (t0 := 0) rfl (mw_5 hi) (mA_5 hi) hj hd (zz_mono (mu_5 hi) k)
theorem mo_6 {dA : Nat → ClassId} {lo i j κ i' : Nat} {σ : zS} {v : Int32} (h : ¬ (κ = 6 ∧ i' = i)) : me dA lo (z_up σ 6 i j v) κ i' = me dA lo σ κ i' := by
  unfold me
  split <;> simp_all [z_up]
theorem mu_6 {dA : Nat → ClassId} {lo i j : Nat} {σ : zS} {v : Int32} (hi : i < 1) : ∀ (q : Nat) (e : va_E), mw dA lo (z_up σ 6 i j v) q = some e → va_up (mw dA lo σ) (ma6 lo i) (some (.inl (dA 0, 40, .inl (upd (fun j => σ 6 i j) j v)))) q = some e := by
  intro q e h
  by_cases hq : q = ma6 lo i
  · subst hq
    rw [mw_6 hi] at h
    rw [va_up_self, ← h]
    refine congrArg some (congrArg Sum.inl (congrArg (Prod.mk _) (congrArg (Prod.mk _) (congrArg Sum.inl (funext fun j' => ?_)))))
    simp [z_up, upd]
  · rw [va_up_ne _ _ hq, ← h]
    unfold mw
    rw [mo_6]
    intro hk
    exact hq (mk_i6 (Prod.ext hk.1 hk.2)).1
theorem ms_6 (C : zC p s m args meth c cc nL own D dA) {i : Nat} {j v : Int32} (hi : i < 1) (hj : vp_in j 40) (hd : decode cc pc = .ok (.iastore, 1)) (k : zz p l e R s m args below meth c D (mA lo) nL Q (mw dA lo (z_up σ 6 i j.toNatClampNeg v)) n kc ks (pc + 1) lv st) : zz p l e R s m args below meth c D (mA lo) nL Q (mw dA lo σ) n kc ks pc lv (.int v :: .int j :: .ref (ma6 lo i) :: st) :=
  zz_iast C (t0 := 0) rfl (mw_6 hi) (mA_6 hi) hj hd (zz_mono (mu_6 hi) k)
theorem mo_7 {dA : Nat → ClassId} {lo i j κ i' : Nat} {σ : zS} {v : Int32} (h : ¬ (κ = 7 ∧ i' = i)) : me dA lo (z_up σ 7 i j v) κ i' = me dA lo σ κ i' := by
  unfold me
  split <;> simp_all [z_up]
theorem mu_7 {dA : Nat → ClassId} {lo i j : Nat} {σ : zS} {v : Int32} (hi : i < 1) : ∀ (q : Nat) (e : va_E), mw dA lo (z_up σ 7 i j v) q = some e → va_up (mw dA lo σ) (ma7 lo i) (some (.inl (dA 0, 160, .inl (upd (fun j => σ 7 i j) j v)))) q = some e := by
  intro q e h
  by_cases hq : q = ma7 lo i
  · subst hq
    rw [mw_7 hi] at h
    rw [va_up_self, ← h]
    refine congrArg some (congrArg Sum.inl (congrArg (Prod.mk _) (congrArg (Prod.mk _) (congrArg Sum.inl (funext fun j' => ?_)))))
    simp [z_up, upd]
  · rw [va_up_ne _ _ hq, ← h]
    unfold mw
    rw [mo_7]
    intro hk
    exact hq (mk_i7 (Prod.ext hk.1 hk.2)).1
theorem ms_7 (C : zC p s m args meth c cc nL own D dA) {i : Nat} {j v : Int32} (hi : i < 1) (hj : vp_in j 160) (hd : decode cc pc = .ok (.iastore, 1)) (k : zz p l e R s m args below meth c D (mA lo) nL Q (mw dA lo (z_up σ 7 i j.toNatClampNeg v)) n kc ks (pc + 1) lv st) : zz p l e R s m args below meth c D (mA lo) nL Q (mw dA lo σ) n kc ks pc lv (.int v :: .int j :: .ref (ma7 lo i) :: st) :=
  zz_iast C (t0 := 0) rfl (mw_7 hi) (mA_7 hi) hj hd (zz_mono (mu_7 hi) k)
theorem mo_8 {dA : Nat → ClassId} {lo i j κ i' : Nat} {σ : zS} {v : Int32} (h : ¬ (κ = 8 ∧ i' = i)) : me dA lo (z_up σ 8 i j v) κ i' = me dA lo σ κ i' := by
  unfold me
  split <;> simp_all [z_up]
theorem mu_8 {dA : Nat → ClassId} {lo i j : Nat} {σ : zS} {v : Int32} (hi : i < 1) : ∀ (q : Nat) (e : va_E), mw dA lo (z_up σ 8 i j v) q = some e → va_up (mw dA lo σ) (ma8 lo i) (some (.inl (dA 1, 40, .inl (upd (fun j => σ 8 i j) j v)))) q = some e := by
  intro q e h
  by_cases hq : q = ma8 lo i
  · subst hq
    rw [mw_8 hi] at h
    rw [va_up_self, ← h]
    refine congrArg some (congrArg Sum.inl (congrArg (Prod.mk _) (congrArg (Prod.mk _) (congrArg Sum.inl (funext fun j' => ?_)))))
    simp [z_up, upd]
  · rw [va_up_ne _ _ hq, ← h]
    unfold mw
    rw [mo_8]
    intro hk
    exact hq (mk_i8 (Prod.ext hk.1 hk.2)).1
theorem ms_8 (C : zC p s m args meth c cc nL own D dA) {i : Nat} {j v : Int32} (hi : i < 1) (hj : vp_in j 40) (hd : decode cc pc = .ok (.bastore, 1)) (k : zz p l e R s m args below meth c D (mA lo) nL Q (mw dA lo (z_up σ 8 i j.toNatClampNeg (vp_nar .boolean v))) n kc ks (pc + 1) lv st) : zz p l e R s m args below meth c D (mA lo) nL Q (mw dA lo σ) n kc ks pc lv (.int v :: .int j :: .ref (ma8 lo i) :: st) :=
  zz_zast C (t0 := 1) rfl (mw_8 hi) (mA_8 hi) hj hd (zz_mono (mu_8 hi) k)
theorem mo_9 {dA : Nat → ClassId} {lo i j κ i' : Nat} {σ : zS} {v : Int32} (h : ¬ (κ = 9 ∧ i' = i)) : me dA lo (z_up σ 9 i j v) κ i' = me dA lo σ κ i' := by
  unfold me
  split <;> simp_all [z_up]
theorem mu_9 {dA : Nat → ClassId} {lo i j : Nat} {σ : zS} {v : Int32} (hi : i < 1) : ∀ (q : Nat) (e : va_E), mw dA lo (z_up σ 9 i j v) q = some e → va_up (mw dA lo σ) (ma9 lo i) (some (.inl (dA 1, 4, .inl (upd (fun j => σ 9 i j) j v)))) q = some e := by
  intro q e h
  by_cases hq : q = ma9 lo i
  · subst hq
    rw [mw_9 hi] at h
    rw [va_up_self, ← h]
    refine congrArg some (congrArg Sum.inl (congrArg (Prod.mk _) (congrArg (Prod.mk _) (congrArg Sum.inl (funext fun j' => ?_)))))
    simp [z_up, upd]
  · rw [va_up_ne _ _ hq, ← h]
    unfold mw
    rw [mo_9]
    intro hk
    exact hq (mk_i9 (Prod.ext hk.1 hk.2)).1
theorem ms_9 (C : zC p s m args meth c cc nL own D dA) {i : Nat} {j v : Int32} (hi : i < 1) (hj : vp_in j 4) (hd : decode cc pc = .ok (.bastore, 1)) (k : zz p l e R s m args below meth c D (mA lo) nL Q (mw dA lo (z_up σ 9 i j.toNatClampNeg (vp_nar .boolean v))) n kc ks (pc + 1) lv st) : zz p l e R s m args below meth c D (mA lo) nL Q (mw dA lo σ) n kc ks pc lv (.int v :: .int j :: .ref (ma9 lo i) :: st) :=
  zz_zast C (t0 := 1) rfl (mw_9 hi) (mA_9 hi) hj hd (zz_mono (mu_9 hi) k)
theorem mo_10 {dA : Nat → ClassId} {lo i j κ i' : Nat} {σ : zS} {v : Int32} (h : ¬ (κ = 10 ∧ i' = i)) : me dA lo (z_up σ 10 i j v) κ i' = me dA lo σ κ i' := by
  unfold me
  split <;> simp_all [z_up]
theorem mu_10 {dA : Nat → ClassId} {lo i j : Nat} {σ : zS} {v : Int32} (hi : i < 1) : ∀ (q : Nat) (e : va_E), mw dA lo (z_up σ 10 i j v) q = some e → va_up (mw dA lo σ) (ma10 lo i) (some (.inl (dA 1, 4, .inl (upd (fun j => σ 10 i j) j v)))) q = some e := by
  intro q e h
  by_cases hq : q = ma10 lo i
  · subst hq
    rw [mw_10 hi] at h
    rw [va_up_self, ← h]
    refine congrArg some (congrArg Sum.inl (congrArg (Prod.mk _) (congrArg (Prod.mk _) (congrArg Sum.inl (funext fun j' => ?_)))))
    simp [z_up, upd]
  · rw [va_up_ne _ _ hq, ← h]
    unfold mw
    rw [mo_10]
    intro hk
    exact hq (mk_i10 (Prod.ext hk.1 hk.2)).1
theorem ms_10 (C : zC p s m args meth c cc nL own D dA) {i : Nat} {j v : Int32} (hi : i < 1) (hj : vp_in j 4) (hd : decode cc pc = .ok (.bastore, 1)) (k : zz p l e R s m args below meth c D (mA lo) nL Q (mw dA lo (z_up σ 10 i j.toNatClampNeg (vp_nar .boolean v))) n kc ks (pc + 1) lv st) : zz p l e R s m args below meth c D (mA lo) nL Q (mw dA lo σ) n kc ks pc lv (.int v :: .int j :: .ref (ma10 lo i) :: st) :=
  zz_zast C (t0 := 1) rfl (mw_10 hi) (mA_10 hi) hj hd (zz_mono (mu_10 hi) k)
theorem mo_11 {dA : Nat → ClassId} {lo i j κ i' : Nat} {σ : zS} {v : Int32} (h : ¬ (κ = 11 ∧ i' = i)) : me dA lo (z_up σ 11 i j v) κ i' = me dA lo σ κ i' := by
  unfold me
  split <;> simp_all [z_up]
theorem mu_11 {dA : Nat → ClassId} {lo i j : Nat} {σ : zS} {v : Int32} (hi : i < 1) : ∀ (q : Nat) (e : va_E), mw dA lo (z_up σ 11 i j v) q = some e → va_up (mw dA lo σ) (ma11 lo i) (some (.inl (dA 0, 4, .inl (upd (fun j => σ 11 i j) j v)))) q = some e := by
  intro q e h
  by_cases hq : q = ma11 lo i
  · subst hq
    rw [mw_11 hi] at h
    rw [va_up_self, ← h]
    refine congrArg some (congrArg Sum.inl (congrArg (Prod.mk _) (congrArg (Prod.mk _) (congrArg Sum.inl (funext fun j' => ?_)))))
    simp [z_up, upd]
  · rw [va_up_ne _ _ hq, ← h]
    unfold mw
    rw [mo_11]
    intro hk
    exact hq (mk_i11 (Prod.ext hk.1 hk.2)).1
theorem ms_11 (C : zC p s m args meth c cc nL own D dA) {i : Nat} {j v : Int32} (hi : i < 1) (hj : vp_in j 4) (hd : decode cc pc = .ok (.iastore, 1)) (k : zz p l e R s m args below meth c D (mA lo) nL Q (mw dA lo (z_up σ 11 i j.toNatClampNeg v)) n kc ks (pc + 1) lv st) : zz p l e R s m args below meth c D (mA lo) nL Q (mw dA lo σ) n kc ks pc lv (.int v :: .int j :: .ref (ma11 lo i) :: st) :=
  zz_iast C (t0 := 0) rfl (mw_11 hi) (mA_11 hi) hj hd (zz_mono (mu_11 hi) k)
theorem mo_12 {dA : Nat → ClassId} {lo i j κ i' : Nat} {σ : zS} {v : Int32} (h : ¬ (κ = 12 ∧ i' = i)) : me dA lo (z_up σ 12 i j v) κ i' = me dA lo σ κ i' := by
  unfold me
  split <;> simp_all [z_up]
theorem mu_12 {dA : Nat → ClassId} {lo i j : Nat} {σ : zS} {v : Int32} (hi : i < 1) : ∀ (q : Nat) (e : va_E), mw dA lo (z_up σ 12 i j v) q = some e → va_up (mw dA lo σ) (ma12 lo i) (some (.inl (dA 0, 48, .inl (upd (fun j => σ 12 i j) j v)))) q = some e := by
  intro q e h
  by_cases hq : q = ma12 lo i
  · subst hq
    rw [mw_12 hi] at h
    rw [va_up_self, ← h]
    refine congrArg some (congrArg Sum.inl (congrArg (Prod.mk _) (congrArg (Prod.mk _) (congrArg Sum.inl (funext fun j' => ?_)))))
    simp [z_up, upd]
  · rw [va_up_ne _ _ hq, ← h]
    unfold mw
    rw [mo_12]
    intro hk
    exact hq (mk_i12 (Prod.ext hk.1 hk.2)).1
theorem ms_12 (C : zC p s m args meth c cc nL own D dA) {i : Nat} {j v : Int32} (hi : i < 1) (hj : vp_in j 48) (hd : decode cc pc = .ok (.iastore, 1)) (k : zz p l e R s m args below meth c D (mA lo) nL Q (mw dA lo (z_up σ 12 i j.toNatClampNeg v)) n kc ks (pc + 1) lv st) : zz p l e R s m args below meth c D (mA lo) nL Q (mw dA lo σ) n kc ks pc lv (.int v :: .int j :: .ref (ma12 lo i) :: st) :=
  zz_iast C (t0 := 0) rfl (mw_12 hi) (mA_12 hi) hj hd (zz_mono (mu_12 hi) k)
theorem mo_13 {dA : Nat → ClassId} {lo i j κ i' : Nat} {σ : zS} {v : Int32} (h : ¬ (κ = 13 ∧ i' = i)) : me dA lo (z_up σ 13 i j v) κ i' = me dA lo σ κ i' := by
  unfold me
  split <;> simp_all [z_up]
theorem mu_13 {dA : Nat → ClassId} {lo i j : Nat} {σ : zS} {v : Int32} (hi : i < 1) : ∀ (q : Nat) (e : va_E), mw dA lo (z_up σ 13 i j v) q = some e → va_up (mw dA lo σ) (ma13 lo i) (some (.inl (dA 0, 48, .inl (upd (fun j => σ 13 i j) j v)))) q = some e := by
  intro q e h
  by_cases hq : q = ma13 lo i
  · subst hq
    rw [mw_13 hi] at h
    rw [va_up_self, ← h]
    refine congrArg some (congrArg Sum.inl (congrArg (Prod.mk _) (congrArg (Prod.mk _) (congrArg Sum.inl (funext fun j' => ?_)))))
    simp [z_up, upd]
  · rw [va_up_ne _ _ hq, ← h]
    unfold mw
    rw [mo_13]
    intro hk
    exact hq (mk_i13 (Prod.ext hk.1 hk.2)).1
theorem ms_13 (C : zC p s m args meth c cc nL own D dA) {i : Nat} {j v : Int32} (hi : i < 1) (hj : vp_in j 48) (hd : decode cc pc = .ok (.iastore, 1)) (k : zz p l e R s m args below meth c D (mA lo) nL Q (mw dA lo (z_up σ 13 i j.toNatClampNeg v)) n kc ks (pc + 1) lv st) : zz p l e R s m args below meth c D (mA lo) nL Q (mw dA lo σ) n kc ks pc lv (.int v :: .int j :: .ref (ma13 lo i) :: st) :=
  zz_iast C (t0 := 0) rfl (mw_13 hi) (mA_13 hi) hj hd (zz_mono (mu_13 hi) k)
theorem mo_14 {dA : Nat → ClassId} {lo i j κ i' : Nat} {σ : zS} {v : Int32} (h : ¬ (κ = 14 ∧ i' = i)) : me dA lo (z_up σ 14 i j v) κ i' = me dA lo σ κ i' := by
  unfold me
  split <;> simp_all [z_up]
theorem mu_14 {dA : Nat → ClassId} {lo i j : Nat} {σ : zS} {v : Int32} (hi : i < 1) : ∀ (q : Nat) (e : va_E), mw dA lo (z_up σ 14 i j v) q = some e → va_up (mw dA lo σ) (ma14 lo i) (some (.inl (dA 1, 48, .inl (upd (fun j => σ 14 i j) j v)))) q = some e := by
  intro q e h
  by_cases hq : q = ma14 lo i
  · subst hq
    rw [mw_14 hi] at h
    rw [va_up_self, ← h]
    refine congrArg some (congrArg Sum.inl (congrArg (Prod.mk _) (congrArg (Prod.mk _) (congrArg Sum.inl (funext fun j' => ?_)))))
    simp [z_up, upd]
  · rw [va_up_ne _ _ hq, ← h]
    unfold mw
    rw [mo_14]
    intro hk
    exact hq (mk_i14 (Prod.ext hk.1 hk.2)).1
theorem ms_14 (C : zC p s m args meth c cc nL own D dA) {i : Nat} {j v : Int32} (hi : i < 1) (hj : vp_in j 48) (hd : decode cc pc = .ok (.bastore, 1)) (k : zz p l e R s m args below meth c D (mA lo) nL Q (mw dA lo (z_up σ 14 i j.toNatClampNeg (vp_nar .boolean v))) n kc ks (pc + 1) lv st) : zz p l e R s m args below meth c D (mA lo) nL Q (mw dA lo σ) n kc ks pc lv (.int v :: .int j :: .ref (ma14 lo i) :: st) :=
  zz_zast C (t0 := 1) rfl (mw_14 hi) (mA_14 hi) hj hd (zz_mono (mu_14 hi) k)
theorem mo_15 {dA : Nat → ClassId} {lo i j κ i' : Nat} {σ : zS} {v : Int32} (h : ¬ (κ = 15 ∧ i' = i)) : me dA lo (z_up σ 15 i j v) κ i' = me dA lo σ κ i' := by
  unfold me
  split <;> simp_all [z_up]
theorem mu_15 {dA : Nat → ClassId} {lo i j : Nat} {σ : zS} {v : Int32} (hi : i < 1) : ∀ (q : Nat) (e : va_E), mw dA lo (z_up σ 15 i j v) q = some e → va_up (mw dA lo σ) (ma15 lo i) (some (.inl (dA 0, 4, .inl (upd (fun j => σ 15 i j) j v)))) q = some e := by
  intro q e h
  by_cases hq : q = ma15 lo i
  · subst hq
    rw [mw_15 hi] at h
    rw [va_up_self, ← h]
    refine congrArg some (congrArg Sum.inl (congrArg (Prod.mk _) (congrArg (Prod.mk _) (congrArg Sum.inl (funext fun j' => ?_)))))
    simp [z_up, upd]
  · rw [va_up_ne _ _ hq, ← h]
    unfold mw
    rw [mo_15]
    intro hk
    exact hq (mk_i15 (Prod.ext hk.1 hk.2)).1
theorem ms_15 (C : zC p s m args meth c cc nL own D dA) {i : Nat} {j v : Int32} (hi : i < 1) (hj : vp_in j 4) (hd : decode cc pc = .ok (.iastore, 1)) (k : zz p l e R s m args below meth c D (mA lo) nL Q (mw dA lo (z_up σ 15 i j.toNatClampNeg v)) n kc ks (pc + 1) lv st) : zz p l e R s m args below meth c D (mA lo) nL Q (mw dA lo σ) n kc ks pc lv (.int v :: .int j :: .ref (ma15 lo i) :: st) :=
  zz_iast C (t0 := 0) rfl (mw_15 hi) (mA_15 hi) hj hd (zz_mono (mu_15 hi) k)
abbrev mZ (p : Program) (l : Launch) (e : Env) (K : Nat) (s : State) (m : MethodId) (args : Array Value) (below : List Frame) (meth : Method) (c : Code) (D : va_G) (dA : Nat → ClassId) (lo nL n : Nat) (r : Option Value) (σ' σ : zS) (pc : Nat) (lv : zL) (st : List Value) : Prop := zz p l e (zR K) s m args below meth c D (mA lo) nL (MQ below (zQ D (mA lo) r (mw dA lo σ') n) args s 0 0 (mA lo)) (mw dA lo σ) n 0 0 pc lv st
abbrev mM (l : Launch) (y : MethodName) (bytes : ByteArray) (maxL : Nat) (ret : Option FieldType) (K : Nat) (D : va_G) (dA : Nat → ClassId) (lo n : Nat) (av : List Value) (σ : zS) (r : Option Value) (σ' : zS) : Prop := zM l y bytes maxL ret (zR K) D dA (mA lo) av (mw dA lo σ) n r (mw dA lo σ') n 0 0
theorem mc_Vi (C : zC p s m args meth c cc nL own D dA) {y : MethodName} {bytes : ByteArray} {maxL K K' : Nat} {ret : Option FieldType} {As rest st0 : List Value} {b ci N idx na : Nat} {v : Int32} {fs : List Value} {T : u_T} {σ' : zS} (hrc : mw dA lo σ b = some (.inr (ci, fs))) (hcl : classes[ci]? = some (y.cls, T, N)) (site : zSiteV own idx y na) (hM : mM l y bytes maxL ret K D dA lo n (.ref b :: As) σ (some (.int v)) σ') (hst : st0 = As.reverse ++ .ref b :: rest) (hna : As.length = na) (hd : decode cc pc = .ok (.invokevirtual idx, 3)) (hcode : Cond.code y bytes maxL ret ∈ zT) (hK : K + 1 ≤ K' ∧ maxL ≤ 21) (hcat : Nat.ble (rest.map fun v => v.category).sum 8 = true) (k : zz p l e (zR K') s m args below meth c D (mA lo) nL Q (mw dA lo σ') n 0 0 (pc + 3) lv (.int v :: rest)) : zz p l e (zR K') s m args below meth c D (mA lo) nL Q (mw dA lo σ) n 0 0 pc lv st0 :=
  zz_callVi (host := "") C hrc hcl site hM hst hna hd hcode (fun _ _ h => h) (fun _ h => h) (fun _ _ h => Or.inl h) ⟨rfl, rfl⟩ (zR_le hK) ⟨Nat.le_refl _, Nat.le_refl _⟩ (Nat.le_of_ble_eq_true hcat) k
theorem mc_Vv (C : zC p s m args meth c cc nL own D dA) {y : MethodName} {bytes : ByteArray} {maxL K K' : Nat} {ret : Option FieldType} {As rest st0 : List Value} {b ci N idx na : Nat} {fs : List Value} {T : u_T} {σ' : zS} (hrc : mw dA lo σ b = some (.inr (ci, fs))) (hcl : classes[ci]? = some (y.cls, T, N)) (site : zSiteV own idx y na) (hM : mM l y bytes maxL ret K D dA lo n (.ref b :: As) σ none σ') (hst : st0 = As.reverse ++ .ref b :: rest) (hna : As.length = na) (hd : decode cc pc = .ok (.invokevirtual idx, 3)) (hcode : Cond.code y bytes maxL ret ∈ zT) (hK : K + 1 ≤ K' ∧ maxL ≤ 21) (hcat : Nat.ble (rest.map fun v => v.category).sum 8 = true) (k : zz p l e (zR K') s m args below meth c D (mA lo) nL Q (mw dA lo σ') n 0 0 (pc + 3) lv rest) : zz p l e (zR K') s m args below meth c D (mA lo) nL Q (mw dA lo σ) n 0 0 pc lv st0 :=
  zz_callVv (host := "") (x := 0) C hrc hcl site hM hst hna hd hcode (fun _ _ h => h) (fun _ h => h) (fun _ _ h => Or.inl h) ⟨rfl, rfl⟩ (zR_le hK) ⟨Nat.le_refl _, Nat.le_refl _⟩ (Nat.le_of_ble_eq_true hcat) k
theorem mc_VNi (C : zC p s m args meth c cc nL own D dA) {y : MethodName} {bytes : ByteArray} {maxL K K' : Nat} {ret : Option FieldType} {As rest st0 : List Value} {b ci N idx na : Nat} {v : Int32} {fs : List Value} {T : u_T} {σ' : zS} {host : String} (hrc : mw dA lo σ b = some (.inr (ci, fs))) (hcl : classes[ci]? = some (y.cls, T, N)) (site : zSiteVN own idx y host na) (hM : mM l y bytes maxL ret K D dA lo n (.ref b :: As) σ (some (.int v)) σ') (hst : st0 = As.reverse ++ .ref b :: rest) (hna : As.length = na) (hd : decode cc pc = .ok (.invokevirtual idx, 3)) (hcode : Cond.code y bytes maxL ret ∈ zT) (hK : K + 1 ≤ K' ∧ maxL ≤ 21) (hcat : Nat.ble (rest.map fun v => v.category).sum 8 = true) (k : zz p l e (zR K') s m args below meth c D (mA lo) nL Q (mw dA lo σ') n 0 0 (pc + 3) lv (.int v :: rest)) : zz p l e (zR K') s m args below meth c D (mA lo) nL Q (mw dA lo σ) n 0 0 pc lv st0 :=
  zz_callVNi C hrc hcl site hM hst hna hd hcode (fun _ _ h => h) (fun _ h => h) (fun _ _ h => Or.inl h) ⟨rfl, rfl⟩ (zR_le hK) ⟨Nat.le_refl _, Nat.le_refl _⟩ (Nat.le_of_ble_eq_true hcat) k
theorem mc_VNv (C : zC p s m args meth c cc nL own D dA) {y : MethodName} {bytes : ByteArray} {maxL K K' : Nat} {ret : Option FieldType} {As rest st0 : List Value} {b ci N idx na : Nat} {fs : List Value} {T : u_T} {σ' : zS} {host : String} (hrc : mw dA lo σ b = some (.inr (ci, fs))) (hcl : classes[ci]? = some (y.cls, T, N)) (site : zSiteVN own idx y host na) (hM : mM l y bytes maxL ret K D dA lo n (.ref b :: As) σ none σ') (hst : st0 = As.reverse ++ .ref b :: rest) (hna : As.length = na) (hd : decode cc pc = .ok (.invokevirtual idx, 3)) (hcode : Cond.code y bytes maxL ret ∈ zT) (hK : K + 1 ≤ K' ∧ maxL ≤ 21) (hcat : Nat.ble (rest.map fun v => v.category).sum 8 = true) (k : zz p l e (zR K') s m args below meth c D (mA lo) nL Q (mw dA lo σ') n 0 0 (pc + 3) lv rest) : zz p l e (zR K') s m args below meth c D (mA lo) nL Q (mw dA lo σ) n 0 0 pc lv st0 :=
  zz_callVNv (x := 0) C hrc hcl site hM hst hna hd hcode (fun _ _ h => h) (fun _ h => h) (fun _ _ h => Or.inl h) ⟨rfl, rfl⟩ (zR_le hK) ⟨Nat.le_refl _, Nat.le_refl _⟩ (Nat.le_of_ble_eq_true hcat) k
theorem mc_Si (C : zC p s m args meth c cc nL own D dA) {y : MethodName} {bytes : ByteArray} {maxL K K' : Nat} {ret : Option FieldType} {As rest st0 : List Value} {idx na : Nat} {v : Int32} {σ' : zS} (site : zSiteS own idx y na) (hM : mM l y bytes maxL ret K D dA lo n As σ (some (.int v)) σ') (hst : st0 = As.reverse ++ rest) (hna : As.length = na) (hd : decode cc pc = .ok (.invokestatic idx, 3)) (hcode : Cond.code y bytes maxL ret ∈ zT) (hK : K + 1 ≤ K' ∧ maxL ≤ 21) (hcat : Nat.ble (rest.map fun v => v.category).sum 8 = true) (k : zz p l e (zR K') s m args below meth c D (mA lo) nL Q (mw dA lo σ') n 0 0 (pc + 3) lv (.int v :: rest)) : zz p l e (zR K') s m args below meth c D (mA lo) nL Q (mw dA lo σ) n 0 0 pc lv st0 :=
  zz_callSi (b := 0) (host := "") C site hM hst hna hd hcode (fun _ _ h => h) (fun _ h => h) (fun _ _ h => Or.inl h) ⟨rfl, rfl⟩ (zR_le hK) ⟨Nat.le_refl _, Nat.le_refl _⟩ (Nat.le_of_ble_eq_true hcat) k
theorem mc_Sv (C : zC p s m args meth c cc nL own D dA) {y : MethodName} {bytes : ByteArray} {maxL K K' : Nat} {ret : Option FieldType} {As rest st0 : List Value} {idx na : Nat} {σ' : zS} (site : zSiteS own idx y na) (hM : mM l y bytes maxL ret K D dA lo n As σ none σ') (hst : st0 = As.reverse ++ rest) (hna : As.length = na) (hd : decode cc pc = .ok (.invokestatic idx, 3)) (hcode : Cond.code y bytes maxL ret ∈ zT) (hK : K + 1 ≤ K' ∧ maxL ≤ 21) (hcat : Nat.ble (rest.map fun v => v.category).sum 8 = true) (k : zz p l e (zR K') s m args below meth c D (mA lo) nL Q (mw dA lo σ') n 0 0 (pc + 3) lv rest) : zz p l e (zR K') s m args below meth c D (mA lo) nL Q (mw dA lo σ) n 0 0 pc lv st0 :=
  zz_callSv (b := 0) (host := "") (x := 0) C site hM hst hna hd hcode (fun _ _ h => h) (fun _ h => h) (fun _ _ h => Or.inl h) ⟨rfl, rfl⟩ (zR_le hK) ⟨Nat.le_refl _, Nat.le_refl _⟩ (Nat.le_of_ble_eq_true hcat) k
theorem mr_i (C : zC p s m args meth c cc nL own D dA) {ty : FieldType} {a b : Int32} {σ' : zS} (hr : meth.sig.returnType = some ty) (hna : narrow ty (.int a) = .int a) (hd : decode cc pc = .ok (.ireturn, 1)) (hx : a = b) (hσ : σ = σ') : zz p l e R s m args below meth c D (mA lo) nL (MQ below (zQ D (mA lo) (some (.int b)) (mw dA lo σ') n) args s 0 0 (mA lo)) (mw dA lo σ) n 0 0 pc lv [.int a] :=
  zz_iret C hr hna hd (Nat.le_refl _) (Nat.le_refl _) rfl hx (by rw [hσ]; exact fun _ _ h => h)
theorem mr_v (C : zC p s m args meth c cc nL own D dA) {σ' : zS} (hr : meth.sig.returnType = none) (hd : decode cc pc = .ok (.return_, 1)) (hσ : σ = σ') : zz p l e R s m args below meth c D (mA lo) nL (MQ below (zQ D (mA lo) none (mw dA lo σ') n) args s 0 0 (mA lo)) (mw dA lo σ) n 0 0 pc lv [] :=
  zz_vret C hr hd (Nat.le_refl _) (Nat.le_refl _) rfl (by rw [hσ]; exact fun _ _ h => h)
end ML
end
section
def mI (σ : zS) : Prop := (σ 0 0 0 ≤ 10 ∧ 2 ≤ σ 0 0 0) ∧ (∀ j, j < 10 → vp_in (σ 3 0 j) 10) ∧ (∀ o, o < 40 → z_o 10 (σ 5 0 o)) ∧ (∀ o, o < 40 → vp_in (σ 6 0 o) 5) ∧ (∀ k, k < 160 → z_o 40 (σ 7 0 k)) ∧ (∀ t, t < 4 → vp_in (σ 11 0 t) 13) ∧ (∀ k, k < 48 → vp_in (σ 12 0 k) 10) ∧ (∀ k, k < 48 → z_o 12 (σ 13 0 k)) ∧ (∀ k, k < 4 → z_o 40 (σ 15 0 k)) ∧ (∀ t, t < 4 → σ 9 0 t = 0 ∨ ¬ σ 11 0 t ≤ 0)
theorem m_ixE {t k : Int32} {a b M : Nat} {w : Int32} (hw : w = nI M) (ht : t = nI a) (hk : k = nI b) : t * w + k = nI (a * M + b) := by
  rw [ht, hk, hw, pk_mul, nI_add]
theorem m_ix {t k : Int32} (ht : vp_in t 4) (hk : vp_in k 12) : vp_in (t * 12 + k) 48 := by
  obtain ⟨a, ha, ea⟩ := vp_in_of ht (by decide)
  obtain ⟨b, hb, eb⟩ := vp_in_of hk (by decide)
  rw [m_ixE (w := 12) (M := 12) rfl ea eb]
  exact vp_in_nI (by omega) (by decide)
theorem m_ix4 {o f : Int32} (ho : vp_in o 40) (hf : vp_in f 4) : vp_in (o * 4 + f) 160 := by
  obtain ⟨a, ha, ea⟩ := vp_in_of ho (by decide)
  obtain ⟨b, hb, eb⟩ := vp_in_of hf (by decide)
  rw [m_ixE (w := 4) (M := 4) rfl ea eb]
  exact vp_in_nI (by omega) (by decide)
theorem z_nlt {N : Nat} {k : Int32} (h : z_o N k) (h0 : ¬ k < 0) : vp_in k N := z_ovin h (fun q => h0 (by rw [q]; decide))
theorem z_nle {N : Nat} {k : Int32} (h : z_o N k) (h0 : 0 ≤ k) : vp_in k N := z_ovin h (fun q => by rw [q] at h0; exact absurd h0 (by decide))
theorem z_vin2 {x M : Int32} {N : Nat} (h0 : ¬ x < 0) (h1 : ¬ M < x) (hM : M.toInt + 1 = N) : vp_in x N := by
  rw [vp_in_iff]
  rw [Int32.lt_iff_toInt_lt, Int32.toInt_zero] at h0
  rw [Int32.lt_iff_toInt_lt] at h1
  omega
theorem z_vin3 {x M : Int32} {N : Nat} (h0 : ¬ x < 0) (h1 : x ≤ M) (hM : M.toInt + 1 = N) : vp_in x N := by
  rw [vp_in_iff]
  rw [Int32.lt_iff_toInt_lt, Int32.toInt_zero] at h0
  rw [Int32.le_iff_toInt_le] at h1
  omega
theorem m_idle_thr {σ : zS} {t : Int32} (h : mf_idle σ t = 0) : vp_in t 4 := by
  unfold mf_idle at h
  split at h
  · exact absurd h (by decide)
  · split at h
    · exact absurd h (by decide)
    · rename_i h1 h2
      exact z_vin2 h1 h2 rfl
theorem m_idle_len {σ : zS} {t : Int32} (I : mI σ) (h : mf_idle σ t = 0) : ¬ σ 11 0 (z_ix t) ≤ 0 := by
  have ht := m_idle_thr h
  unfold mf_idle at h
  split at h
  · exact absurd h (by decide)
  · split at h
    · exact absurd h (by decide)
    · split at h
      · exact absurd h (by decide)
      · rename_i h3
        exact (I.2.2.2.2.2.2.2.2.2 _ (z_vlt ht)).resolve_left h3
theorem m_area_in {σ : zS} {a : Int32} (I : mI σ) (h : mf_noArea σ a = 0) : vp_in a 10 := by
  have h2 := I.1.1
  unfold mf_noArea at h
  split at h
  · exact absurd h (by decide)
  · split at h
    · rename_i h0 h1
      rw [vp_in_iff]
      rw [Int32.lt_iff_toInt_lt, Int32.toInt_zero] at h0
      rw [Int32.lt_iff_toInt_lt] at h1
      rw [Int32.le_iff_toInt_le] at h2
      have e1 : (10 : Int32).toInt = 10 := rfl
      omega
    · exact absurd h (by decide)
theorem m_scope_in {σ : zS} {a : Int32} (I : mI σ) (h : mf_noScope σ a = 0) : vp_in a 10 := by
  have h2 := I.1.1
  unfold mf_noScope at h
  split at h
  · exact absurd h (by decide)
  · split at h
    · rename_i h0 h1
      rw [vp_in_iff]
      rw [Int32.lt_iff_toInt_lt] at h0
      rw [Int32.lt_iff_toInt_lt] at h1
      rw [Int32.le_iff_toInt_le] at h2
      have e1 : (10 : Int32).toInt = 10 := rfl
      have e2 : (2 : Int32).toInt = 2 := rfl
      omega
    · exact absurd h (by decide)
theorem m_obj {σ : zS} {o : Int32} (h : mf_noObject σ o = 0) : vp_in o 40 := by
  unfold mf_noObject at h
  split at h
  · exact absurd h (by decide)
  · split at h
    · exact absurd h (by decide)
    · rename_i h1 h2
      exact z_vin2 h1 h2 rfl
theorem m_top_o {σ : zS} {t : Nat} (I : mI σ) (ht : t < 4) : z_o 12 (σ 11 0 t - 1) := by
  obtain ⟨j, hj, e⟩ := vp_in_of (I.2.2.2.2.2.1 t ht) (by decide)
  rw [e]
  cases j with
  | zero => exact Or.inl (by decide)
  | succ j =>
    rw [nI_pred]
    exact Or.inr (vp_in_nI (by omega) (by decide))
theorem m_top_in {σ : zS} {t : Nat} (I : mI σ) (ht : t < 4) (h : ¬ σ 11 0 t ≤ 0) : vp_in (σ 11 0 t - 1) 12 := by
  obtain ⟨j, hj, e⟩ := vp_in_of (I.2.2.2.2.2.1 t ht) (by decide)
  rw [e] at h ⊢
  cases j with
  | zero => exact absurd (by decide) h
  | succ j =>
    rw [nI_pred]
    exact vp_in_nI (by omega) (by decide)
theorem m_len_in {σ : zS} {t : Nat} (I : mI σ) (ht : t < 4) (h : ¬ σ 11 0 t = 12) : vp_in (σ 11 0 t) 12 := by
  obtain ⟨j, hj, e⟩ := vp_in_of (I.2.2.2.2.2.1 t ht) (by decide)
  rw [e] at h ⊢
  have : j ≠ 12 := fun q => h (by rw [q]; rfl)
  exact vp_in_nI (by omega) (by decide)
theorem m_vw_o {σ : zS} {t : Int32} (I : mI σ) (ht : vp_in t 4) : ∀ (d : Nat) (k : Int32), z_o 12 k → z_o 12 (mf_vw σ t d k) := by
  intro d
  induction d with
  | zero => intro k hk; exact hk
  | succ d ih =>
    intro k hk
    unfold mf_vw
    split
    · exact hk
    · rename_i h
      exact ih _ (I.2.2.2.2.2.2.2.1 _ (z_vlt (m_ix ht (z_nlt hk h))))
theorem m_viewed_o {σ : zS} {t i : Int32} (I : mI σ) (ht : vp_in t 4) : z_o 12 (mf_viewed σ t i) := m_vw_o I ht _ _ (m_top_o I (z_vlt ht))
theorem m_sw_o {σ : zS} {t a : Int32} (I : mI σ) (ht : vp_in t 4) : ∀ (k i : Nat), z_o 12 (mf_sw σ t a k i) := by
  intro k
  induction k with
  | zero => intro i; exact Or.inl rfl
  | succ k ih =>
    intro i
    unfold mf_sw
    split
    · split
      · exact m_viewed_o I ht
      · exact ih _
    · exact Or.inl rfl
theorem m_stepWith_o {σ : zS} {t a : Int32} (I : mI σ) (ht : vp_in t 4) : z_o 12 (mf_stepWith σ t a) := m_sw_o I ht 12 0
theorem m_gt1 {q : Int32} (h : z_o 10 q) (h2 : ¬ q ≤ 1) : vp_in q 10 := by
  refine z_ovin h (fun e => h2 ?_)
  rw [e]
  decide
theorem m_ct {t k : Int32} : t * 12 + k - 1 = t * 12 + (k - 1) := by
  rw [Int32.sub_eq_add_neg, Int32.sub_eq_add_neg, Int32.add_assoc]
theorem z_nnI {iv : Int32} {i : Nat} (hiv : iv = nI i) (h : i < 2 ^ 31) : ¬ iv < 0 := by
  rw [hiv]
  exact nI_pos h
theorem m_nA_in {σ : zS} (I : mI σ) (h : ¬ σ 0 0 0 = 10) : vp_in (σ 0 0 0) 10 := by
  have h1 := I.1.1
  have h2 := I.1.2
  have h3 : ¬ (σ 0 0 0).toInt = 10 := fun q => h (Int32.toInt_inj.mp q)
  rw [vp_in_iff]
  rw [Int32.le_iff_toInt_le] at h1 h2
  have e1 : (10 : Int32).toInt = 10 := rfl
  have e2 : (2 : Int32).toInt = 2 := rfl
  omega
theorem m_21 {a : Int32} (h : 2 ≤ a) : ¬ a ≤ 1 := by
  rw [Int32.le_iff_toInt_le] at h ⊢
  have e1 : (1 : Int32).toInt = 1 := rfl
  have e2 : (2 : Int32).toInt = 2 := rfl
  omega
theorem m_12 {a : Int32} (h : ¬ 2 ≤ a) : a ≤ 1 := by
  rw [Int32.le_iff_toInt_le] at h ⊢
  have e1 : (1 : Int32).toInt = 1 := rfl
  have e2 : (2 : Int32).toInt = 2 := rfl
  omega
theorem m_fw {σ : zS} {o f : Int32} (I : mI σ) (ho : vp_in o 40) (h0 : ¬ f < 0) (h : f < σ 6 0 (z_ix o)) : vp_in f 4 := by
  have h6 : vp_in (σ 6 0 (z_ix o)) 5 := I.2.2.2.1 _ (z_vlt ho)
  rw [vp_in_iff] at h6 ⊢
  rw [Int32.lt_iff_toInt_lt, Int32.toInt_zero] at h0
  rw [Int32.lt_iff_toInt_lt] at h
  omega
/-- a number that is -1 or an object's, and not below 0 -/
theorem m_gin {σ : zS} {g : Int32} (h0 : ¬ g < 0) (h : g = -1 ∨ mf_noObject σ g = 0) : vp_in g 40 := by
  rcases h with h | h
  · exact absurd (by rw [h]; decide) h0
  · exact m_obj h
end
section
set_option maxHeartbeats 400000 in
set_option maxRecDepth 100000 in
theorem c_MM_clamp {l : Launch} {D : va_G} {dA : Nat → ClassId} {lo n : Nat} {σ : zS} {v : Int32} : mM l y_MM_clamp b_MM_clamp 2 (some .int) 0 D dA lo n [.ref (ma0 lo 0), .int v] σ (some (.int (mf_clamp v))) σ := by
  refine zM_of (lv0 := [(0, .ref (ma0 lo 0)), (1, .int v)]) (by decide) rfl rfl rfl ?_
  intro p e s m below meth c C hr hnm hsz
  have C : zC p s m ([.ref (ma0 lo 0), .int v] : List Value).toArray meth c b_MM_clamp 2 R_MM D dA := C
  refine zz_iload_n C d_MM_clamp_0 rfl ?_
  refine zz_iconst (x := 4) C d_MM_clamp_1 rfl ?_
  refine zz_icmp_ge (tgt := 9) C d_MM_clamp_2 (by decide) (fun h2 => ?_) (fun h2 => ?_)
  · refine zz_iload_n C d_MM_clamp_9 rfl ?_
    refine zz_bipush (x := 60) C d_MM_clamp_10 rfl ?_
    refine zz_icmp_le (tgt := 20) C d_MM_clamp_12 (by decide) (fun h12 => ?_) (fun h12 => ?_)
    · refine zz_iload_n C d_MM_clamp_20 rfl ?_
      exact mr_i C hr rfl d_MM_clamp_21 (by simp only [mf_clamp, if_pos h2, if_pos h12] <;> simp [mf_clamp, z_at]) rfl
    · refine zz_bipush (x := 60) C d_MM_clamp_15 rfl ?_
      refine zz_goto (tgt := 21) C d_MM_clamp_17 (by decide) ?_
      exact mr_i C hr rfl d_MM_clamp_21 (by simp only [mf_clamp, if_pos h2, if_neg h12] <;> simp [mf_clamp, z_at]) rfl
  · refine zz_iconst (x := 4) C d_MM_clamp_5 rfl ?_
    refine zz_goto (tgt := 21) C d_MM_clamp_6 (by decide) ?_
    exact mr_i C hr rfl d_MM_clamp_21 (by simp only [mf_clamp, if_neg h2] <;> simp [mf_clamp, z_at]) rfl
set_option maxHeartbeats 400000 in
set_option maxRecDepth 100000 in
theorem c_MM_idle {l : Launch} {D : va_G} {dA : Nat → ClassId} {lo n : Nat} {σ : zS} {t : Int32} : mM l y_MM_idle b_MM_idle 2 (some .boolean) 0 D dA lo n [.ref (ma0 lo 0), .int t] σ (some (.int (mf_idle σ t))) σ := by
  refine zM_of (lv0 := [(0, .ref (ma0 lo 0)), (1, .int t)]) (by decide) rfl rfl rfl ?_
  intro p e s m below meth c C hr hnm hsz
  have C : zC p s m ([.ref (ma0 lo 0), .int t] : List Value).toArray meth c b_MM_idle 2 R_MM D dA := C
  refine zz_iload_n C d_MM_idle_0 rfl ?_
  refine zz_if_lt (tgt := 18) C d_MM_idle_1 (by decide) (fun h1 => ?_) (fun h1 => ?_)
  · refine zz_iconst (x := 1) C d_MM_idle_18 rfl ?_
    refine zz_goto (tgt := 23) C d_MM_idle_19 (by decide) ?_
    exact mr_i C hr rfl d_MM_idle_23 (by simp only [mf_idle, if_pos h1] <;> simp [mf_idle, z_at]) rfl
  · refine zz_iload_n C d_MM_idle_4 rfl ?_
    refine zz_iconst (x := 3) C d_MM_idle_5 rfl ?_
    refine zz_icmp_gt (tgt := 18) C d_MM_idle_6 (by decide) (fun h6 => ?_) (fun h6 => ?_)
    · refine zz_iconst (x := 1) C d_MM_idle_18 rfl ?_
      refine zz_goto (tgt := 23) C d_MM_idle_19 (by decide) ?_
      exact mr_i C hr rfl d_MM_idle_23 (by simp only [mf_idle, if_neg h1, if_pos h6] <;> simp [mf_idle, z_at]) rfl
    · refine zz_aload_n C d_MM_idle_9 rfl ?_
      refine zz_get C (ci := 4) (N := 16) 9 rfl zi_MM (by decide) fl_MM_39 (mw_0 Nat.zero_lt_one) rfl d_MM_idle_10 ?_
      refine zz_iload_n C d_MM_idle_13 rfl ?_
      refine zz_zald C (t0 := 1) rfl (mw_9 Nat.zero_lt_one) (z_vin2 h1 h6 rfl) d_MM_idle_14 ?_
      refine zz_if_ne (tgt := 22) C d_MM_idle_15 (by decide) (fun h15 => ?_) (fun h15 => ?_)
      · refine zz_iconst (x := 0) C d_MM_idle_22 rfl ?_
        exact mr_i C hr rfl d_MM_idle_23 (by simp only [mf_idle, if_neg h1, if_neg h6, if_neg h15] <;> simp [mf_idle, z_at]) rfl
      · refine zz_iconst (x := 1) C d_MM_idle_18 rfl ?_
        refine zz_goto (tgt := 23) C d_MM_idle_19 (by decide) ?_
        exact mr_i C hr rfl d_MM_idle_23 (by simp only [mf_idle, if_neg h1, if_neg h6, if_pos h15] <;> simp [mf_idle, z_at]) rfl
set_option maxHeartbeats 400000 in
set_option maxRecDepth 100000 in
theorem c_MM_noArea {l : Launch} {D : va_G} {dA : Nat → ClassId} {lo n : Nat} {σ : zS} {a : Int32} : mM l y_MM_noArea b_MM_noArea 2 (some .boolean) 0 D dA lo n [.ref (ma0 lo 0), .int a] σ (some (.int (mf_noArea σ a))) σ := by
  refine zM_of (lv0 := [(0, .ref (ma0 lo 0)), (1, .int a)]) (by decide) rfl rfl rfl ?_
  intro p e s m below meth c C hr hnm hsz
  have C : zC p s m ([.ref (ma0 lo 0), .int a] : List Value).toArray meth c b_MM_noArea 2 R_MM D dA := C
  refine zz_iload_n C d_MM_noArea_0 rfl ?_
  refine zz_if_lt (tgt := 12) C d_MM_noArea_1 (by decide) (fun h1 => ?_) (fun h1 => ?_)
  · refine zz_iconst (x := 1) C d_MM_noArea_12 rfl ?_
    refine zz_goto (tgt := 17) C d_MM_noArea_13 (by decide) ?_
    exact mr_i C hr rfl d_MM_noArea_17 (by simp only [mf_noArea, if_pos h1] <;> simp [mf_noArea, z_at]) rfl
  · refine zz_iload_n C d_MM_noArea_4 rfl ?_
    refine zz_aload_n C d_MM_noArea_5 rfl ?_
    refine zz_get C (ci := 4) (N := 16) 0 rfl zi_MM (by decide) fl_MM_7 (mw_0 Nat.zero_lt_one) rfl d_MM_noArea_6 ?_
    refine zz_icmp_lt (tgt := 16) C d_MM_noArea_9 (by decide) (fun h9 => ?_) (fun h9 => ?_)
    · refine zz_iconst (x := 0) C d_MM_noArea_16 rfl ?_
      exact mr_i C hr rfl d_MM_noArea_17 (by simp only [mf_noArea, if_neg h1, if_pos h9] <;> simp [mf_noArea, z_at]) rfl
    · refine zz_iconst (x := 1) C d_MM_noArea_12 rfl ?_
      refine zz_goto (tgt := 17) C d_MM_noArea_13 (by decide) ?_
      exact mr_i C hr rfl d_MM_noArea_17 (by simp only [mf_noArea, if_neg h1, if_neg h9] <;> simp [mf_noArea, z_at]) rfl
set_option maxHeartbeats 400000 in
set_option maxRecDepth 100000 in
theorem c_MM_noScope {l : Launch} {D : va_G} {dA : Nat → ClassId} {lo n : Nat} {σ : zS} {a : Int32} : mM l y_MM_noScope b_MM_noScope 2 (some .boolean) 0 D dA lo n [.ref (ma0 lo 0), .int a] σ (some (.int (mf_noScope σ a))) σ := by
  refine zM_of (lv0 := [(0, .ref (ma0 lo 0)), (1, .int a)]) (by decide) rfl rfl rfl ?_
  intro p e s m below meth c C hr hnm hsz
  have C : zC p s m ([.ref (ma0 lo 0), .int a] : List Value).toArray meth c b_MM_noScope 2 R_MM D dA := C
  refine zz_iload_n C d_MM_noScope_0 rfl ?_
  refine zz_iconst (x := 2) C d_MM_noScope_1 rfl ?_
  refine zz_icmp_lt (tgt := 13) C d_MM_noScope_2 (by decide) (fun h2 => ?_) (fun h2 => ?_)
  · refine zz_iconst (x := 1) C d_MM_noScope_13 rfl ?_
    refine zz_goto (tgt := 18) C d_MM_noScope_14 (by decide) ?_
    exact mr_i C hr rfl d_MM_noScope_18 (by simp only [mf_noScope, if_pos h2] <;> simp [mf_noScope, z_at]) rfl
  · refine zz_iload_n C d_MM_noScope_5 rfl ?_
    refine zz_aload_n C d_MM_noScope_6 rfl ?_
    refine zz_get C (ci := 4) (N := 16) 0 rfl zi_MM (by decide) fl_MM_7 (mw_0 Nat.zero_lt_one) rfl d_MM_noScope_7 ?_
    refine zz_icmp_lt (tgt := 17) C d_MM_noScope_10 (by decide) (fun h10 => ?_) (fun h10 => ?_)
    · refine zz_iconst (x := 0) C d_MM_noScope_17 rfl ?_
      exact mr_i C hr rfl d_MM_noScope_18 (by simp only [mf_noScope, if_neg h2, if_pos h10] <;> simp [mf_noScope, z_at]) rfl
    · refine zz_iconst (x := 1) C d_MM_noScope_13 rfl ?_
      refine zz_goto (tgt := 18) C d_MM_noScope_14 (by decide) ?_
      exact mr_i C hr rfl d_MM_noScope_18 (by simp only [mf_noScope, if_neg h2, if_neg h10] <;> simp [mf_noScope, z_at]) rfl
set_option maxHeartbeats 400000 in
set_option maxRecDepth 100000 in
theorem c_MM_noObject {l : Launch} {D : va_G} {dA : Nat → ClassId} {lo n : Nat} {σ : zS} {o : Int32} : mM l y_MM_noObject b_MM_noObject 2 (some .boolean) 0 D dA lo n [.ref (ma0 lo 0), .int o] σ (some (.int (mf_noObject σ o))) σ := by
  refine zM_of (lv0 := [(0, .ref (ma0 lo 0)), (1, .int o)]) (by decide) rfl rfl rfl ?_
  intro p e s m below meth c C hr hnm hsz
  have C : zC p s m ([.ref (ma0 lo 0), .int o] : List Value).toArray meth c b_MM_noObject 2 R_MM D dA := C
  refine zz_iload_n C d_MM_noObject_0 rfl ?_
  refine zz_if_lt (tgt := 19) C d_MM_noObject_1 (by decide) (fun h1 => ?_) (fun h1 => ?_)
  · refine zz_iconst (x := 1) C d_MM_noObject_19 rfl ?_
    refine zz_goto (tgt := 24) C d_MM_noObject_20 (by decide) ?_
    exact mr_i C hr rfl d_MM_noObject_24 (by simp only [mf_noObject, if_pos h1] <;> simp [mf_noObject, z_at]) rfl
  · refine zz_iload_n C d_MM_noObject_4 rfl ?_
    refine zz_bipush (x := 39) C d_MM_noObject_5 rfl ?_
    refine zz_icmp_gt (tgt := 19) C d_MM_noObject_7 (by decide) (fun h7 => ?_) (fun h7 => ?_)
    · refine zz_iconst (x := 1) C d_MM_noObject_19 rfl ?_
      refine zz_goto (tgt := 24) C d_MM_noObject_20 (by decide) ?_
      exact mr_i C hr rfl d_MM_noObject_24 (by simp only [mf_noObject, if_neg h1, if_pos h7] <;> simp [mf_noObject, z_at]) rfl
    · refine zz_aload_n C d_MM_noObject_10 rfl ?_
      refine zz_get C (ci := 4) (N := 16) 5 rfl zi_MM (by decide) fl_MM_26 (mw_0 Nat.zero_lt_one) rfl d_MM_noObject_11 ?_
      refine zz_iload_n C d_MM_noObject_14 rfl ?_
      refine zz_iald C (t0 := 0) rfl (mw_5 Nat.zero_lt_one) (z_vin2 h1 h7 rfl) d_MM_noObject_15 ?_
      refine zz_if_ge (tgt := 23) C d_MM_noObject_16 (by decide) (fun h16 => ?_) (fun h16 => ?_)
      · refine zz_iconst (x := 0) C d_MM_noObject_23 rfl ?_
        exact mr_i C hr rfl d_MM_noObject_24 (by simp only [mf_noObject, if_neg h1, if_neg h7, if_pos h16] <;> simp [mf_noObject, z_at]) rfl
      · refine zz_iconst (x := 1) C d_MM_noObject_19 rfl ?_
        refine zz_goto (tgt := 24) C d_MM_noObject_20 (by decide) ?_
        exact mr_i C hr rfl d_MM_noObject_24 (by simp only [mf_noObject, if_neg h1, if_neg h7, if_neg h16] <;> simp [mf_noObject, z_at]) rfl
set_option maxHeartbeats 400000 in
set_option maxRecDepth 100000 in
theorem c_MM_used {l : Launch} {D : va_G} {dA : Nat → ClassId} {lo n : Nat} {σ : zS} {a : Int32} : mM l y_MM_used b_MM_used 4 (some .int) 0 D dA lo n [.ref (ma0 lo 0), .int a] σ (some (.int (mf_used σ a))) σ := by
  refine zM_of (lv0 := [(0, .ref (ma0 lo 0)), (1, .int a)]) (by decide) rfl rfl rfl ?_
  intro p e s m below meth c C hr hnm hsz
  have C : zC p s m ([.ref (ma0 lo 0), .int a] : List Value).toArray meth c b_MM_used 4 R_MM D dA := C
  have loop : ∀ (k i : Nat) (q iv : Int32), iv = nI i → i + k = 40 → mf_us σ a k i q = mf_used σ a → mZ p l e 0 s m ([.ref (ma0 lo 0), .int a] : List Value).toArray below meth c D dA lo 4 n (some (.int (mf_used σ a))) (σ) (σ) 4 [(0, .ref (ma0 lo 0)), (1, .int a), (2, .int q), (3, .int iv)] [] := by
    intro k
    induction k with
    | zero =>
      intro i q iv hiv hik hres
      refine zz_iload_n C d_MM_used_4 rfl ?_
      refine zz_bipush (x := 40) C d_MM_used_5 rfl ?_
      refine zz_icmp_ge (tgt := 37) C d_MM_used_7 (by decide) (fun h7 => ?_) (fun h7 => ?_)
      · refine zz_iload_n C d_MM_used_37 rfl ?_
        exact mr_i C hr rfl d_MM_used_38 hres rfl
      · exact absurd (z_ge (N := 40) hiv rfl (by omega) (by omega)) h7
    | succ k ih =>
      intro i q iv hiv hik hres
      unfold mf_us at hres
      have hix : iv.toNatClampNeg = i := z_ixI hiv (by omega)
      refine zz_iload_n C d_MM_used_4 rfl ?_
      refine zz_bipush (x := 40) C d_MM_used_5 rfl ?_
      refine zz_icmp_ge (tgt := 37) C d_MM_used_7 (by decide) (fun h7 => ?_) (fun h7 => ?_)
      · exact absurd h7 (z_nge hiv rfl (show i < 40 by omega) (by decide))
      · refine zz_aload_n C d_MM_used_10 rfl ?_
        refine zz_get C (ci := 4) (N := 16) 5 rfl zi_MM (by decide) fl_MM_26 (mw_0 Nat.zero_lt_one) rfl d_MM_used_11 ?_
        refine zz_iload_n C d_MM_used_14 rfl ?_
        refine zz_iald C (t0 := 0) rfl (mw_5 Nat.zero_lt_one) (z_vinI hiv (by omega) (by decide)) d_MM_used_15 ?_
        refine zz_iload_n C d_MM_used_16 rfl ?_
        refine zz_icmp_ne (tgt := 31) C d_MM_used_17 (by decide) (fun h17 => ?_) (fun h17 => ?_)
        · refine zz_iinc (d' := 1) C d_MM_used_31 rfl rfl (by decide) ?_
          refine zz_goto (tgt := 4) C d_MM_used_34 (by decide) ?_
          refine zz_lv [0, 1, 2, 3] rfl ?_
          rw [hix] at h17
          exact ih (i + 1) _ _ (z_sI hiv) (by omega) (by rw [← hres, if_neg h17])
        · refine zz_iload_n C d_MM_used_20 rfl ?_
          refine zz_iconst (x := 1) C d_MM_used_21 rfl ?_
          refine zz_aload_n C d_MM_used_22 rfl ?_
          refine zz_get C (ci := 4) (N := 16) 6 rfl zi_MM (by decide) fl_MM_29 (mw_0 Nat.zero_lt_one) rfl d_MM_used_23 ?_
          refine zz_iload_n C d_MM_used_26 rfl ?_
          refine zz_iald C (t0 := 0) rfl (mw_6 Nat.zero_lt_one) (z_vinI hiv (by omega) (by decide)) d_MM_used_27 ?_
          refine zz_iadd C d_MM_used_28 ?_
          refine zz_iadd C d_MM_used_29 ?_
          refine zz_istore_n C d_MM_used_30 (by decide) ?_
          refine zz_iinc (d' := 1) C d_MM_used_31 rfl rfl (by decide) ?_
          refine zz_goto (tgt := 4) C d_MM_used_34 (by decide) ?_
          refine zz_lv [0, 1, 2, 3] rfl ?_
          rw [hix] at h17
          rw [hix]
          exact ih (i + 1) _ _ (z_sI hiv) (by omega) (by rw [← hres, if_pos h17])
  refine zz_iconst (x := 0) C d_MM_used_0 rfl ?_
  refine zz_istore_n C d_MM_used_1 (by decide) ?_
  refine zz_iconst (x := 0) C d_MM_used_2 rfl ?_
  refine zz_istore_n C d_MM_used_3 (by decide) ?_
  refine zz_lv [0, 1, 2, 3] rfl ?_
  exact loop 40 0 _ _ nI_0.symm rfl rfl
set_option maxHeartbeats 400000 in
set_option maxRecDepth 100000 in
theorem c_MM_scope {l : Launch} {D : va_G} {dA : Nat → ClassId} {lo n : Nat} {σ : zS} {size : Int32} (I : mI σ) : mM l y_MM_scope b_MM_scope 2 (some .int) 0 D dA lo n [.ref (ma0 lo 0), .int size] σ (some (.int ((mf_scope σ size).1))) ((mf_scope σ size).2) := by
  refine zM_of (lv0 := [(0, .ref (ma0 lo 0)), (1, .int size)]) (by decide) rfl rfl rfl ?_
  intro p e s m below meth c C hr hnm hsz
  have C : zC p s m ([.ref (ma0 lo 0), .int size] : List Value).toArray meth c b_MM_scope 2 R_MM D dA := C
  refine zz_iload_n C d_MM_scope_0 rfl ?_
  refine zz_iconst (x := 1) C d_MM_scope_1 rfl ?_
  refine zz_icmp_lt (tgt := 11) C d_MM_scope_2 (by decide) (fun h2 => ?_) (fun h2 => ?_)
  · refine zz_iconst (x := -1) C d_MM_scope_11 rfl ?_
    exact mr_i C hr rfl d_MM_scope_12 (by simp only [mf_scope, if_pos h2] <;> simp [mf_scope, z_at]) (by simp only [mf_scope, if_pos h2] <;> simp [mf_scope, z_at])
  · refine zz_iload_n C d_MM_scope_5 rfl ?_
    refine zz_bipush (x := 40) C d_MM_scope_6 rfl ?_
    refine zz_icmp_le (tgt := 13) C d_MM_scope_8 (by decide) (fun h8 => ?_) (fun h8 => ?_)
    · refine zz_aload_n C d_MM_scope_13 rfl ?_
      refine zz_get C (ci := 4) (N := 16) 0 rfl zi_MM (by decide) fl_MM_7 (mw_0 Nat.zero_lt_one) rfl d_MM_scope_14 ?_
      refine zz_bipush (x := 10) C d_MM_scope_17 rfl ?_
      refine zz_icmp_ne (tgt := 25) C d_MM_scope_19 (by decide) (fun h19 => ?_) (fun h19 => ?_)
      · refine zz_aload_n C d_MM_scope_25 rfl ?_
        refine zz_get C (ci := 4) (N := 16) 1 rfl zi_MM (by decide) fl_MM_13 (mw_0 Nat.zero_lt_one) rfl d_MM_scope_26 ?_
        refine zz_aload_n C d_MM_scope_29 rfl ?_
        refine zz_get C (ci := 4) (N := 16) 0 rfl zi_MM (by decide) fl_MM_7 (mw_0 Nat.zero_lt_one) rfl d_MM_scope_30 ?_
        refine zz_iload_n C d_MM_scope_33 rfl ?_
        refine ms_1 C Nat.zero_lt_one (m_nA_in I h19) d_MM_scope_34 ?_
        refine zz_aload_n C d_MM_scope_35 rfl ?_
        refine zz_dup C d_MM_scope_36 rfl ?_
        refine zz_get C (ci := 4) (N := 16) 0 rfl zi_MM (by decide) fl_MM_7 (mw_0 Nat.zero_lt_one) rfl d_MM_scope_37 ?_
        refine zz_iconst (x := 1) C d_MM_scope_40 rfl ?_
        refine zz_iadd C d_MM_scope_41 ?_
        refine mp_0 C fl_MM_7 Nat.zero_lt_one rfl rfl d_MM_scope_42 ?_
        refine zz_aload_n C d_MM_scope_45 rfl ?_
        refine zz_get C (ci := 4) (N := 16) 0 rfl zi_MM (by decide) fl_MM_7 (mw_0 Nat.zero_lt_one) rfl d_MM_scope_46 ?_
        refine zz_iconst (x := 1) C d_MM_scope_49 rfl ?_
        refine zz_isub C d_MM_scope_50 ?_
        exact mr_i C hr rfl d_MM_scope_51 (by simp only [mf_scope, if_neg h2, if_pos h8, if_neg h19] <;> simp [mf_scope, z_at]) (by simp only [mf_scope, if_neg h2, if_pos h8, if_neg h19] <;> simp [mf_scope, z_at])
      · refine zz_bipush (x := -2) C d_MM_scope_22 rfl ?_
        exact mr_i C hr rfl d_MM_scope_24 (by simp only [mf_scope, if_neg h2, if_pos h8, if_pos h19] <;> simp [mf_scope, z_at]) (by simp only [mf_scope, if_neg h2, if_pos h8, if_pos h19] <;> simp [mf_scope, z_at])
    · refine zz_iconst (x := -1) C d_MM_scope_11 rfl ?_
      exact mr_i C hr rfl d_MM_scope_12 (by simp only [mf_scope, if_neg h2, if_neg h8] <;> simp [mf_scope, z_at]) (by simp only [mf_scope, if_neg h2, if_neg h8] <;> simp [mf_scope, z_at])
set_option maxHeartbeats 400000 in
set_option maxRecDepth 100000 in
theorem c_MM_step {l : Launch} {D : va_G} {dA : Nat → ClassId} {lo n : Nat} {σ : zS} {t a u b : Int32} (ht : vp_in t 4) (hk : vp_in (σ 11 0 (z_ix t)) 12) : mM l y_MM_step b_MM_step 6 (some .int) 0 D dA lo n [.ref (ma0 lo 0), .int t, .int a, .int u, .int b] σ (some (.int (σ 11 0 (z_ix t) + 1))) (mf_step σ t a u b) := by
  refine zM_of (lv0 := [(0, .ref (ma0 lo 0)), (1, .int t), (2, .int a), (3, .int u), (4, .int b)]) (by decide) rfl rfl rfl ?_
  intro p e s m below meth c C hr hnm hsz
  have C : zC p s m ([.ref (ma0 lo 0), .int t, .int a, .int u, .int b] : List Value).toArray meth c b_MM_step 6 R_MM D dA := C
  refine zz_iload_n C d_MM_step_0 rfl ?_
  refine zz_bipush (x := 12) C d_MM_step_1 rfl ?_
  refine zz_imul C d_MM_step_3 ?_
  refine zz_aload_n C d_MM_step_4 rfl ?_
  refine zz_get C (ci := 4) (N := 16) 11 rfl zi_MM (by decide) fl_MM_45 (mw_0 Nat.zero_lt_one) rfl d_MM_step_5 ?_
  refine zz_iload_n C d_MM_step_8 rfl ?_
  refine zz_iald C (t0 := 0) rfl (mw_11 Nat.zero_lt_one) ht d_MM_step_9 ?_
  refine zz_iadd C d_MM_step_10 ?_
  refine zz_istore C d_MM_step_11 (by decide) ?_
  refine zz_aload_n C d_MM_step_13 rfl ?_
  refine zz_get C (ci := 4) (N := 16) 12 rfl zi_MM (by decide) fl_MM_48 (mw_0 Nat.zero_lt_one) rfl d_MM_step_14 ?_
  refine zz_iload C d_MM_step_17 rfl ?_
  refine zz_iload_n C d_MM_step_19 rfl ?_
  refine ms_12 C Nat.zero_lt_one (m_ix ht hk) d_MM_step_20 ?_
  refine zz_aload_n C d_MM_step_21 rfl ?_
  refine zz_get C (ci := 4) (N := 16) 13 rfl zi_MM (by decide) fl_MM_51 (mw_0 Nat.zero_lt_one) rfl d_MM_step_22 ?_
  refine zz_iload C d_MM_step_25 rfl ?_
  refine zz_iload_n C d_MM_step_27 rfl ?_
  refine ms_13 C Nat.zero_lt_one (m_ix ht hk) d_MM_step_28 ?_
  refine zz_aload_n C d_MM_step_29 rfl ?_
  refine zz_get C (ci := 4) (N := 16) 14 rfl zi_MM (by decide) fl_MM_54 (mw_0 Nat.zero_lt_one) rfl d_MM_step_30 ?_
  refine zz_iload C d_MM_step_33 rfl ?_
  refine zz_iload C d_MM_step_35 rfl ?_
  refine ms_14 C Nat.zero_lt_one (m_ix ht hk) d_MM_step_37 ?_
  refine zz_aload_n C d_MM_step_38 rfl ?_
  refine zz_get C (ci := 4) (N := 16) 11 rfl zi_MM (by decide) fl_MM_45 (mw_0 Nat.zero_lt_one) rfl d_MM_step_39 ?_
  refine zz_iload_n C d_MM_step_42 rfl ?_
  refine zz_dup2 C d_MM_step_43 rfl rfl ?_
  refine zz_iald C (t0 := 0) rfl (mw_11 Nat.zero_lt_one) ht d_MM_step_44 ?_
  refine zz_iconst (x := 1) C d_MM_step_45 rfl ?_
  refine zz_iadd C d_MM_step_46 ?_
  refine ms_11 C Nat.zero_lt_one ht d_MM_step_47 ?_
  refine zz_aload_n C d_MM_step_48 rfl ?_
  refine zz_get C (ci := 4) (N := 16) 11 rfl zi_MM (by decide) fl_MM_45 (mw_0 Nat.zero_lt_one) rfl d_MM_step_49 ?_
  refine zz_iload_n C d_MM_step_52 rfl ?_
  refine zz_iald C (t0 := 0) rfl (mw_11 Nat.zero_lt_one) ht d_MM_step_53 ?_
  exact mr_i C hr rfl d_MM_step_54 (by first | rfl | simp [mf_step, z_at]) (by first | rfl | simp [mf_step, z_at])
set_option maxHeartbeats 400000 in
set_option maxRecDepth 100000 in
theorem c_MM_begin {l : Launch} {D : va_G} {dA : Nat → ClassId} {lo n : Nat} {σ : zS} {t h : Int32} : mM l y_MM_begin b_MM_begin 3 (some .int) 1 D dA lo n [.ref (ma0 lo 0), .int t, .int h] σ (some (.int ((mf_begin σ t h).1))) ((mf_begin σ t h).2) := by
  refine zM_of (lv0 := [(0, .ref (ma0 lo 0)), (1, .int t), (2, .int h)]) (by decide) rfl rfl rfl ?_
  intro p e s m below meth c C hr hnm hsz
  have C : zC p s m ([.ref (ma0 lo 0), .int t, .int h] : List Value).toArray meth c b_MM_begin 3 R_MM D dA := C
  refine zz_iload_n C d_MM_begin_0 rfl ?_
  refine zz_if_lt (tgt := 18) C d_MM_begin_1 (by decide) (fun h1 => ?_) (fun h1 => ?_)
  · refine zz_iconst (x := -1) C d_MM_begin_18 rfl ?_
    exact mr_i C hr rfl d_MM_begin_19 (by simp only [mf_begin, if_pos h1] <;> simp [mf_begin, mf_beginS, mf_step, z_at]) (by simp only [mf_begin, if_pos h1] <;> simp [mf_begin, mf_beginS, mf_step, z_at])
  · refine zz_iload_n C d_MM_begin_4 rfl ?_
    refine zz_iconst (x := 3) C d_MM_begin_5 rfl ?_
    refine zz_icmp_gt (tgt := 18) C d_MM_begin_6 (by decide) (fun h6 => ?_) (fun h6 => ?_)
    · refine zz_iconst (x := -1) C d_MM_begin_18 rfl ?_
      exact mr_i C hr rfl d_MM_begin_19 (by simp only [mf_begin, if_neg h1, if_pos h6] <;> simp [mf_begin, mf_beginS, mf_step, z_at]) (by simp only [mf_begin, if_neg h1, if_pos h6] <;> simp [mf_begin, mf_beginS, mf_step, z_at])
    · refine zz_aload_n C d_MM_begin_9 rfl ?_
      refine zz_get C (ci := 4) (N := 16) 9 rfl zi_MM (by decide) fl_MM_39 (mw_0 Nat.zero_lt_one) rfl d_MM_begin_10 ?_
      refine zz_iload_n C d_MM_begin_13 rfl ?_
      refine zz_zald C (t0 := 1) rfl (mw_9 Nat.zero_lt_one) (z_vin2 h1 h6 rfl) d_MM_begin_14 ?_
      refine zz_if_eq (tgt := 20) C d_MM_begin_15 (by decide) (fun h15 => ?_) (fun h15 => ?_)
      · refine zz_aload_n C d_MM_begin_20 rfl ?_
        refine zz_get C (ci := 4) (N := 16) 9 rfl zi_MM (by decide) fl_MM_39 (mw_0 Nat.zero_lt_one) rfl d_MM_begin_21 ?_
        refine zz_iload_n C d_MM_begin_24 rfl ?_
        refine zz_iconst (x := 1) C d_MM_begin_25 rfl ?_
        refine ms_9 C Nat.zero_lt_one (z_vin2 h1 h6 rfl) d_MM_begin_26 ?_
        refine zz_aload_n C d_MM_begin_27 rfl ?_
        refine zz_get C (ci := 4) (N := 16) 10 rfl zi_MM (by decide) fl_MM_42 (mw_0 Nat.zero_lt_one) rfl d_MM_begin_28 ?_
        refine zz_iload_n C d_MM_begin_31 rfl ?_
        refine zz_iload_n C d_MM_begin_32 rfl ?_
        refine ms_10 C Nat.zero_lt_one (z_vin2 h1 h6 rfl) d_MM_begin_33 ?_
        refine zz_aload_n C d_MM_begin_34 rfl ?_
        refine zz_get C (ci := 4) (N := 16) 11 rfl zi_MM (by decide) fl_MM_45 (mw_0 Nat.zero_lt_one) rfl d_MM_begin_35 ?_
        refine zz_iload_n C d_MM_begin_38 rfl ?_
        refine zz_iconst (x := 0) C d_MM_begin_39 rfl ?_
        refine ms_11 C Nat.zero_lt_one (z_vin2 h1 h6 rfl) d_MM_begin_40 ?_
        refine zz_aload_n C d_MM_begin_41 rfl ?_
        refine zz_iload_n C d_MM_begin_42 rfl ?_
        refine zz_iload_n C d_MM_begin_43 rfl ?_
        refine zz_if_eq (tgt := 51) C d_MM_begin_44 (by decide) (fun h44 => ?_) (fun h44 => ?_)
        · refine zz_iconst (x := 0) C d_MM_begin_51 rfl ?_
          refine zz_iconst (x := -1) C d_MM_begin_52 rfl ?_
          refine zz_iconst (x := 0) C d_MM_begin_53 rfl ?_
          refine mc_Vi C (mw_0 Nat.zero_lt_one) rfl s_MM_64 (c_MM_step (z_vin2 h1 h6 rfl) (by rw [z_at, if_pos ⟨rfl, rfl, rfl⟩]; exact vp_in_nI (n := 0) (by decide) (by decide))) rfl rfl d_MM_begin_54 k_MM_step ⟨by decide, by decide⟩ rfl ?_
          refine zz_pop C d_MM_begin_57 rfl ?_
          refine zz_iconst (x := 0) C d_MM_begin_58 rfl ?_
          exact mr_i C hr rfl d_MM_begin_59 (by simp only [mf_begin, if_neg h1, if_neg h6, if_pos h15, if_pos h44] <;> simp [mf_begin, mf_beginS, mf_step, z_at]) (by simp only [mf_begin, if_neg h1, if_neg h6, if_pos h15, if_pos h44] <;> simp [mf_begin, mf_beginS, mf_step, z_at])
        · refine zz_iconst (x := 1) C d_MM_begin_47 rfl ?_
          refine zz_goto (tgt := 52) C d_MM_begin_48 (by decide) ?_
          refine zz_iconst (x := -1) C d_MM_begin_52 rfl ?_
          refine zz_iconst (x := 0) C d_MM_begin_53 rfl ?_
          refine mc_Vi C (mw_0 Nat.zero_lt_one) rfl s_MM_64 (c_MM_step (z_vin2 h1 h6 rfl) (by rw [z_at, if_pos ⟨rfl, rfl, rfl⟩]; exact vp_in_nI (n := 0) (by decide) (by decide))) rfl rfl d_MM_begin_54 k_MM_step ⟨by decide, by decide⟩ rfl ?_
          refine zz_pop C d_MM_begin_57 rfl ?_
          refine zz_iconst (x := 0) C d_MM_begin_58 rfl ?_
          exact mr_i C hr rfl d_MM_begin_59 (by simp only [mf_begin, if_neg h1, if_neg h6, if_pos h15, if_neg h44] <;> simp [mf_begin, mf_beginS, mf_step, z_at]) (by simp only [mf_begin, if_neg h1, if_neg h6, if_pos h15, if_neg h44] <;> simp [mf_begin, mf_beginS, mf_step, z_at])
      · refine zz_iconst (x := -1) C d_MM_begin_18 rfl ?_
        exact mr_i C hr rfl d_MM_begin_19 (by simp only [mf_begin, if_neg h1, if_neg h6, if_neg h15] <;> simp [mf_begin, mf_beginS, mf_step, z_at]) (by simp only [mf_begin, if_neg h1, if_neg h6, if_neg h15] <;> simp [mf_begin, mf_beginS, mf_step, z_at])
set_option maxHeartbeats 400000 in
set_option maxRecDepth 100000 in
theorem c_MM_viewed {l : Launch} {D : va_G} {dA : Nat → ClassId} {lo n : Nat} {σ : zS} {t i : Int32} (I : mI σ) (ht : vp_in t 4) (hi : ¬ i < 0) : mM l y_MM_viewed b_MM_viewed 5 (some .int) 0 D dA lo n [.ref (ma0 lo 0), .int t, .int i] σ (some (.int (mf_viewed σ t i))) σ := by
  refine zM_of (lv0 := [(0, .ref (ma0 lo 0)), (1, .int t), (2, .int i)]) (by decide) rfl rfl rfl ?_
  intro p e s m below meth c C hr hnm hsz
  have C : zC p s m ([.ref (ma0 lo 0), .int t, .int i] : List Value).toArray meth c b_MM_viewed 5 R_MM D dA := C
  obtain ⟨j, hj, hij⟩ := nI_of hi
  have loop : ∀ (d r : Nat) (q iv : Int32), iv = nI r → r + d = j → z_o 12 q → mf_vw σ t d q = mf_viewed σ t i → mZ p l e 0 s m ([.ref (ma0 lo 0), .int t, .int i] : List Value).toArray below meth c D dA lo 5 n (some (.int (mf_viewed σ t i))) (σ) (σ) 12 [(0, .ref (ma0 lo 0)), (1, .int t), (2, .int i), (3, .int q), (4, .int iv)] [] := by
    intro d
    induction d with
    | zero =>
      intro r q iv hiv hik hq hres
      refine zz_iload C d_MM_viewed_12 rfl ?_
      refine zz_iload_n C d_MM_viewed_14 rfl ?_
      refine zz_icmp_ge (tgt := 40) C d_MM_viewed_15 (by decide) (fun h15 => ?_) (fun h15 => ?_)
      · refine zz_iload_n C d_MM_viewed_40 rfl ?_
        exact mr_i C hr rfl d_MM_viewed_41 hres rfl
      · exact absurd (z_ge (N := j) hiv hij (by omega) (by omega)) h15
    | succ d ih =>
      intro r q iv hiv hik hq hres
      unfold mf_vw at hres
      refine zz_iload C d_MM_viewed_12 rfl ?_
      refine zz_iload_n C d_MM_viewed_14 rfl ?_
      refine zz_icmp_ge (tgt := 40) C d_MM_viewed_15 (by decide) (fun h15 => ?_) (fun h15 => ?_)
      · exact absurd h15 (z_nge hiv hij (by omega) hj)
      · refine zz_iload_n C d_MM_viewed_18 rfl ?_
        refine zz_if_lt (tgt := 40) C d_MM_viewed_19 (by decide) (fun h19 => ?_) (fun h19 => ?_)
        · refine zz_iload_n C d_MM_viewed_40 rfl ?_
          exact mr_i C hr rfl d_MM_viewed_41 (by rw [← hres, if_pos h19]) rfl
        · refine zz_aload_n C d_MM_viewed_22 rfl ?_
          refine zz_get C (ci := 4) (N := 16) 13 rfl zi_MM (by decide) fl_MM_51 (mw_0 Nat.zero_lt_one) rfl d_MM_viewed_23 ?_
          refine zz_iload_n C d_MM_viewed_26 rfl ?_
          refine zz_bipush (x := 12) C d_MM_viewed_27 rfl ?_
          refine zz_imul C d_MM_viewed_29 ?_
          refine zz_iload_n C d_MM_viewed_30 rfl ?_
          refine zz_iadd C d_MM_viewed_31 ?_
          refine zz_iald C (t0 := 0) rfl (mw_13 Nat.zero_lt_one) (m_ix ht (z_nlt hq h19)) d_MM_viewed_32 ?_
          refine zz_istore_n C d_MM_viewed_33 (by decide) ?_
          refine zz_iinc (d' := 1) C d_MM_viewed_34 rfl rfl (by decide) ?_
          refine zz_goto (tgt := 12) C d_MM_viewed_37 (by decide) ?_
          refine zz_lv [0, 1, 2, 3, 4] rfl ?_
          exact ih (r + 1) _ _ (z_sI hiv) (by omega) (I.2.2.2.2.2.2.2.1 _ (z_vlt (m_ix ht (z_nlt hq h19)))) (by rw [← hres, if_neg h19])
  refine zz_aload_n C d_MM_viewed_0 rfl ?_
  refine zz_get C (ci := 4) (N := 16) 11 rfl zi_MM (by decide) fl_MM_45 (mw_0 Nat.zero_lt_one) rfl d_MM_viewed_1 ?_
  refine zz_iload_n C d_MM_viewed_4 rfl ?_
  refine zz_iald C (t0 := 0) rfl (mw_11 Nat.zero_lt_one) ht d_MM_viewed_5 ?_
  refine zz_iconst (x := 1) C d_MM_viewed_6 rfl ?_
  refine zz_isub C d_MM_viewed_7 ?_
  refine zz_istore_n C d_MM_viewed_8 (by decide) ?_
  refine zz_iconst (x := 0) C d_MM_viewed_9 rfl ?_
  refine zz_istore C d_MM_viewed_10 (by decide) ?_
  refine zz_lv [0, 1, 2, 3, 4] rfl ?_
  exact loop j 0 _ _ nI_0.symm (by omega) (m_top_o I (z_vlt ht)) (by unfold mf_viewed; rw [show z_ix i = j from z_ixI hij hj])
set_option maxHeartbeats 400000 in
set_option maxRecDepth 100000 in
theorem c_MM_stepWith {l : Launch} {D : va_G} {dA : Nat → ClassId} {lo n : Nat} {σ : zS} {t a : Int32} (I : mI σ) (ht : vp_in t 4) : mM l y_MM_stepWith b_MM_stepWith 5 (some .int) 1 D dA lo n [.ref (ma0 lo 0), .int t, .int a] σ (some (.int (mf_stepWith σ t a))) σ := by
  refine zM_of (lv0 := [(0, .ref (ma0 lo 0)), (1, .int t), (2, .int a)]) (by decide) rfl rfl rfl ?_
  intro p e s m below meth c C hr hnm hsz
  have C : zC p s m ([.ref (ma0 lo 0), .int t, .int a] : List Value).toArray meth c b_MM_stepWith 5 R_MM D dA := C
  have loop : ∀ (k i : Nat) (iv : Int32), iv = nI i → i + k = 12 → mf_sw σ t a k i = mf_stepWith σ t a → mZ p l e 1 s m ([.ref (ma0 lo 0), .int t, .int a] : List Value).toArray below meth c D dA lo 5 n (some (.int (mf_stepWith σ t a))) (σ) (σ) 2 [(0, .ref (ma0 lo 0)), (1, .int t), (2, .int a), (3, .int iv)] [] := by
    intro k
    induction k with
    | zero =>
      intro i iv hiv hik hres
      refine zz_iload_n C d_MM_stepWith_2 rfl ?_
      refine zz_bipush (x := 12) C d_MM_stepWith_3 rfl ?_
      refine zz_icmp_ge (tgt := 48) C d_MM_stepWith_5 (by decide) (fun h5 => ?_) (fun h5 => ?_)
      · refine zz_iconst (x := -1) C d_MM_stepWith_48 rfl ?_
        exact mr_i C hr rfl d_MM_stepWith_49 (by rw [← hres]; rfl) rfl
      · exact absurd (z_ge (N := 12) hiv rfl (by omega) (by omega)) h5
    | succ k ih =>
      intro i iv hiv hik hres
      unfold mf_sw at hres
      rw [← hiv] at hres
      refine zz_iload_n C d_MM_stepWith_2 rfl ?_
      refine zz_bipush (x := 12) C d_MM_stepWith_3 rfl ?_
      refine zz_icmp_ge (tgt := 48) C d_MM_stepWith_5 (by decide) (fun h5 => ?_) (fun h5 => ?_)
      · exact absurd h5 (z_nge hiv rfl (show i < 12 by omega) (by decide))
      · refine zz_aload_n C d_MM_stepWith_8 rfl ?_
        refine zz_iload_n C d_MM_stepWith_9 rfl ?_
        refine zz_iload_n C d_MM_stepWith_10 rfl ?_
        refine mc_Vi C (mw_0 Nat.zero_lt_one) rfl s_MM_68 (c_MM_viewed I ht (z_nnI hiv (by omega))) rfl rfl d_MM_stepWith_11 k_MM_viewed ⟨by decide, by decide⟩ rfl ?_
        refine zz_istore C d_MM_stepWith_14 (by decide) ?_
        refine zz_iload C d_MM_stepWith_16 rfl ?_
        refine zz_if_ge (tgt := 23) C d_MM_stepWith_18 (by decide) (fun h18 => ?_) (fun h18 => ?_)
        · refine zz_aload_n C d_MM_stepWith_23 rfl ?_
          refine zz_get C (ci := 4) (N := 16) 12 rfl zi_MM (by decide) fl_MM_48 (mw_0 Nat.zero_lt_one) rfl d_MM_stepWith_24 ?_
          refine zz_iload_n C d_MM_stepWith_27 rfl ?_
          refine zz_bipush (x := 12) C d_MM_stepWith_28 rfl ?_
          refine zz_imul C d_MM_stepWith_30 ?_
          refine zz_iload C d_MM_stepWith_31 rfl ?_
          refine zz_iadd C d_MM_stepWith_33 ?_
          refine zz_iald C (t0 := 0) rfl (mw_12 Nat.zero_lt_one) (m_ix ht (z_nle (m_viewed_o I ht) h18)) d_MM_stepWith_34 ?_
          refine zz_iload_n C d_MM_stepWith_35 rfl ?_
          refine zz_icmp_ne (tgt := 42) C d_MM_stepWith_36 (by decide) (fun h36 => ?_) (fun h36 => ?_)
          · refine zz_iinc (d' := 1) C d_MM_stepWith_42 rfl rfl (by decide) ?_
            refine zz_goto (tgt := 2) C d_MM_stepWith_45 (by decide) ?_
            refine zz_lv [0, 1, 2, 3] rfl ?_
            exact ih (i + 1) _ (z_sI hiv) (by omega) (by rw [← hres, if_pos h18, if_neg h36])
          · refine zz_iload C d_MM_stepWith_39 rfl ?_
            exact mr_i C hr rfl d_MM_stepWith_41 (by rw [← hres, if_pos h18, if_pos h36]) rfl
        · refine zz_iconst (x := -1) C d_MM_stepWith_21 rfl ?_
          exact mr_i C hr rfl d_MM_stepWith_22 (by rw [← hres, if_neg h18]) rfl
  refine zz_iconst (x := 0) C d_MM_stepWith_0 rfl ?_
  refine zz_istore_n C d_MM_stepWith_1 (by decide) ?_
  refine zz_lv [0, 1, 2, 3] rfl ?_
  exact loop 12 0 _ nI_0.symm rfl rfl
set_option maxHeartbeats 400000 in
set_option maxRecDepth 100000 in
theorem c_MM_nearest {l : Launch} {D : va_G} {dA : Nat → ClassId} {lo n : Nat} {σ : zS} {t : Int32} (I : mI σ) (ht : vp_in t 4) : mM l y_MM_nearest b_MM_nearest 4 (some .int) 1 D dA lo n [.ref (ma0 lo 0), .int t] σ (some (.int (mf_nearest σ t))) σ := by
  refine zM_of (lv0 := [(0, .ref (ma0 lo 0)), (1, .int t)]) (by decide) rfl rfl rfl ?_
  intro p e s m below meth c C hr hnm hsz
  have C : zC p s m ([.ref (ma0 lo 0), .int t] : List Value).toArray meth c b_MM_nearest 4 R_MM D dA := C
  have loop : ∀ (k i : Nat) (iv : Int32), iv = nI i → i + k = 12 → mf_nr σ t k i = mf_nearest σ t → mZ p l e 1 s m ([.ref (ma0 lo 0), .int t] : List Value).toArray below meth c D dA lo 4 n (some (.int (mf_nearest σ t))) (σ) (σ) 2 [(0, .ref (ma0 lo 0)), (1, .int t), (2, .int iv)] [] := by
    intro k
    induction k with
    | zero =>
      intro i iv hiv hik hres
      refine zz_iload_n C d_MM_nearest_2 rfl ?_
      refine zz_bipush (x := 12) C d_MM_nearest_3 rfl ?_
      refine zz_icmp_ge (tgt := 54) C d_MM_nearest_5 (by decide) (fun h5 => ?_) (fun h5 => ?_)
      · refine zz_iconst (x := 0) C d_MM_nearest_54 rfl ?_
        exact mr_i C hr rfl d_MM_nearest_55 (by rw [← hres]; rfl) rfl
      · exact absurd (z_ge (N := 12) hiv rfl (by omega) (by omega)) h5
    | succ k ih =>
      intro i iv hiv hik hres
      unfold mf_nr at hres
      rw [← hiv] at hres
      refine zz_iload_n C d_MM_nearest_2 rfl ?_
      refine zz_bipush (x := 12) C d_MM_nearest_3 rfl ?_
      refine zz_icmp_ge (tgt := 54) C d_MM_nearest_5 (by decide) (fun h5 => ?_) (fun h5 => ?_)
      · exact absurd h5 (z_nge hiv rfl (show i < 12 by omega) (by decide))
      · refine zz_aload_n C d_MM_nearest_8 rfl ?_
        refine zz_iload_n C d_MM_nearest_9 rfl ?_
        refine zz_iload_n C d_MM_nearest_10 rfl ?_
        refine mc_Vi C (mw_0 Nat.zero_lt_one) rfl s_MM_68 (c_MM_viewed I ht (z_nnI hiv (by omega))) rfl rfl d_MM_nearest_11 k_MM_viewed ⟨by decide, by decide⟩ rfl ?_
        refine zz_istore_n C d_MM_nearest_14 (by decide) ?_
        refine zz_iload_n C d_MM_nearest_15 rfl ?_
        refine zz_if_ge (tgt := 21) C d_MM_nearest_16 (by decide) (fun h16 => ?_) (fun h16 => ?_)
        · refine zz_aload_n C d_MM_nearest_21 rfl ?_
          refine zz_get C (ci := 4) (N := 16) 12 rfl zi_MM (by decide) fl_MM_48 (mw_0 Nat.zero_lt_one) rfl d_MM_nearest_22 ?_
          refine zz_iload_n C d_MM_nearest_25 rfl ?_
          refine zz_bipush (x := 12) C d_MM_nearest_26 rfl ?_
          refine zz_imul C d_MM_nearest_28 ?_
          refine zz_iload_n C d_MM_nearest_29 rfl ?_
          refine zz_iadd C d_MM_nearest_30 ?_
          refine zz_iald C (t0 := 0) rfl (mw_12 Nat.zero_lt_one) (m_ix ht (z_nle (m_viewed_o I ht) h16)) d_MM_nearest_31 ?_
          refine zz_iconst (x := 1) C d_MM_nearest_32 rfl ?_
          refine zz_icmp_le (tgt := 48) C d_MM_nearest_33 (by decide) (fun h33 => ?_) (fun h33 => ?_)
          · refine zz_iinc (d' := 1) C d_MM_nearest_48 rfl rfl (by decide) ?_
            refine zz_goto (tgt := 2) C d_MM_nearest_51 (by decide) ?_
            refine zz_lv [0, 1, 2] rfl ?_
            exact ih (i + 1) _ (z_sI hiv) (by omega) (by rw [← hres, if_pos h16, if_pos h33])
          · refine zz_aload_n C d_MM_nearest_36 rfl ?_
            refine zz_get C (ci := 4) (N := 16) 12 rfl zi_MM (by decide) fl_MM_48 (mw_0 Nat.zero_lt_one) rfl d_MM_nearest_37 ?_
            refine zz_iload_n C d_MM_nearest_40 rfl ?_
            refine zz_bipush (x := 12) C d_MM_nearest_41 rfl ?_
            refine zz_imul C d_MM_nearest_43 ?_
            refine zz_iload_n C d_MM_nearest_44 rfl ?_
            refine zz_iadd C d_MM_nearest_45 ?_
            refine zz_iald C (t0 := 0) rfl (mw_12 Nat.zero_lt_one) (m_ix ht (z_nle (m_viewed_o I ht) h16)) d_MM_nearest_46 ?_
            exact mr_i C hr rfl d_MM_nearest_47 (by rw [← hres, if_pos h16, if_neg h33]) rfl
        · refine zz_iconst (x := 0) C d_MM_nearest_19 rfl ?_
          exact mr_i C hr rfl d_MM_nearest_20 (by rw [← hres, if_neg h16]) rfl
  refine zz_iconst (x := 0) C d_MM_nearest_0 rfl ?_
  refine zz_istore_n C d_MM_nearest_1 (by decide) ?_
  refine zz_lv [0, 1, 2] rfl ?_
  exact loop 12 0 _ nI_0.symm rfl rfl
set_option maxHeartbeats 400000 in
set_option maxRecDepth 100000 in
theorem c_MM_enter {l : Launch} {D : va_G} {dA : Nat → ClassId} {lo n : Nat} {σ : zS} {t z : Int32} (I : mI σ) : mM l y_MM_enter b_MM_enter 3 (some .int) 2 D dA lo n [.ref (ma0 lo 0), .int t, .int z] σ (some (.int ((mf_enter σ t z).1))) ((mf_enter σ t z).2) := by
  refine zM_of (lv0 := [(0, .ref (ma0 lo 0)), (1, .int t), (2, .int z)]) (by decide) rfl rfl rfl ?_
  intro p e s m below meth c C hr hnm hsz
  have C : zC p s m ([.ref (ma0 lo 0), .int t, .int z] : List Value).toArray meth c b_MM_enter 3 R_MM D dA := C
  refine zz_aload_n C d_MM_enter_0 rfl ?_
  refine zz_iload_n C d_MM_enter_1 rfl ?_
  refine mc_Vi C (mw_0 Nat.zero_lt_one) rfl s_MM_72 c_MM_idle rfl rfl d_MM_enter_2 k_MM_idle ⟨by decide, by decide⟩ rfl ?_
  refine zz_if_ne (tgt := 16) C d_MM_enter_5 (by decide) (fun h5 => ?_) (fun h5 => ?_)
  · refine zz_iconst (x := -1) C d_MM_enter_16 rfl ?_
    exact mr_i C hr rfl d_MM_enter_17 (by simp only [mf_enter, mf_enterR, mf_enterT, mf_enterS, if_neg h5] <;> simp [mf_enter, mf_enterR, mf_enterT, mf_enterS, mf_step, z_at]) (by simp only [mf_enter, mf_enterR, mf_enterT, mf_enterS, if_neg h5] <;> simp [mf_enter, mf_enterR, mf_enterT, mf_enterS, mf_step, z_at])
  · refine zz_aload_n C d_MM_enter_8 rfl ?_
    refine zz_iload_n C d_MM_enter_9 rfl ?_
    refine mc_Vi C (mw_0 Nat.zero_lt_one) rfl s_MM_76 c_MM_noScope rfl rfl d_MM_enter_10 k_MM_noScope ⟨by decide, by decide⟩ rfl ?_
    refine zz_if_eq (tgt := 18) C d_MM_enter_13 (by decide) (fun h13 => ?_) (fun h13 => ?_)
    · refine zz_aload_n C d_MM_enter_18 rfl ?_
      refine zz_iload_n C d_MM_enter_19 rfl ?_
      refine zz_iload_n C d_MM_enter_20 rfl ?_
      refine mc_Vi C (mw_0 Nat.zero_lt_one) rfl s_MM_79 (c_MM_stepWith I (m_idle_thr h5)) rfl rfl d_MM_enter_21 k_MM_stepWith ⟨by decide, by decide⟩ rfl ?_
      refine zz_if_ge (tgt := 50) C d_MM_enter_24 (by decide) (fun h24 => ?_) (fun h24 => ?_)
      · refine zz_bipush (x := -3) C d_MM_enter_50 rfl ?_
        exact mr_i C hr rfl d_MM_enter_52 (by simp only [mf_enter, mf_enterR, mf_enterT, mf_enterS, if_pos h5, if_pos h13, if_pos h24] <;> simp [mf_enter, mf_enterR, mf_enterT, mf_enterS, mf_step, z_at]) (by simp only [mf_enter, mf_enterR, mf_enterT, mf_enterS, if_pos h5, if_pos h13, if_pos h24] <;> simp [mf_enter, mf_enterR, mf_enterT, mf_enterS, mf_step, z_at])
      · refine zz_aload_n C d_MM_enter_27 rfl ?_
        refine zz_get C (ci := 4) (N := 16) 2 rfl zi_MM (by decide) fl_MM_17 (mw_0 Nat.zero_lt_one) rfl d_MM_enter_28 ?_
        refine zz_iload_n C d_MM_enter_31 rfl ?_
        refine zz_iald C (t0 := 0) rfl (mw_2 Nat.zero_lt_one) (m_scope_in I h13) d_MM_enter_32 ?_
        refine zz_if_le (tgt := 53) C d_MM_enter_33 (by decide) (fun h33 => ?_) (fun h33 => ?_)
        · refine zz_aload_n C d_MM_enter_53 rfl ?_
          refine zz_get C (ci := 4) (N := 16) 11 rfl zi_MM (by decide) fl_MM_45 (mw_0 Nat.zero_lt_one) rfl d_MM_enter_54 ?_
          refine zz_iload_n C d_MM_enter_57 rfl ?_
          refine zz_iald C (t0 := 0) rfl (mw_11 Nat.zero_lt_one) (m_idle_thr h5) d_MM_enter_58 ?_
          refine zz_bipush (x := 12) C d_MM_enter_59 rfl ?_
          refine zz_icmp_ne (tgt := 67) C d_MM_enter_61 (by decide) (fun h61 => ?_) (fun h61 => ?_)
          · refine zz_aload_n C d_MM_enter_67 rfl ?_
            refine zz_get C (ci := 4) (N := 16) 2 rfl zi_MM (by decide) fl_MM_17 (mw_0 Nat.zero_lt_one) rfl d_MM_enter_68 ?_
            refine zz_iload_n C d_MM_enter_71 rfl ?_
            refine zz_iald C (t0 := 0) rfl (mw_2 Nat.zero_lt_one) (m_scope_in I h13) d_MM_enter_72 ?_
            refine zz_if_ne (tgt := 87) C d_MM_enter_73 (by decide) (fun h73 => ?_) (fun h73 => ?_)
            · refine zz_aload_n C d_MM_enter_87 rfl ?_
              refine zz_iload_n C d_MM_enter_88 rfl ?_
              refine zz_iload_n C d_MM_enter_89 rfl ?_
              refine zz_aload_n C d_MM_enter_90 rfl ?_
              refine zz_get C (ci := 4) (N := 16) 11 rfl zi_MM (by decide) fl_MM_45 (mw_0 Nat.zero_lt_one) rfl d_MM_enter_91 ?_
              refine zz_iload_n C d_MM_enter_94 rfl ?_
              refine zz_iald C (t0 := 0) rfl (mw_11 Nat.zero_lt_one) (m_idle_thr h5) d_MM_enter_95 ?_
              refine zz_iconst (x := 1) C d_MM_enter_96 rfl ?_
              refine zz_isub C d_MM_enter_97 ?_
              refine zz_iconst (x := 1) C d_MM_enter_98 rfl ?_
              refine mc_Vi C (mw_0 Nat.zero_lt_one) rfl s_MM_64 (c_MM_step (m_idle_thr h5) (m_len_in (σ := σ) I (z_vlt (m_idle_thr h5)) h61)) rfl rfl d_MM_enter_99 k_MM_step ⟨by decide, by decide⟩ rfl ?_
              refine zz_pop C d_MM_enter_102 rfl ?_
              refine zz_aload_n C d_MM_enter_103 rfl ?_
              refine zz_get C (ci := 4) (N := 16) 2 rfl zi_MM (by decide) fl_MM_17 (mw_0 Nat.zero_lt_one) rfl d_MM_enter_104 ?_
              refine zz_iload_n C d_MM_enter_107 rfl ?_
              refine zz_dup2 C d_MM_enter_108 rfl rfl ?_
              refine zz_iald C (t0 := 0) rfl (mw_2 Nat.zero_lt_one) (m_scope_in I h13) d_MM_enter_109 ?_
              refine zz_iconst (x := 1) C d_MM_enter_110 rfl ?_
              refine zz_iadd C d_MM_enter_111 ?_
              refine ms_2 C Nat.zero_lt_one (m_scope_in I h13) d_MM_enter_112 ?_
              refine zz_aload_n C d_MM_enter_113 rfl ?_
              refine zz_get C (ci := 4) (N := 16) 2 rfl zi_MM (by decide) fl_MM_17 (mw_0 Nat.zero_lt_one) rfl d_MM_enter_114 ?_
              refine zz_iload_n C d_MM_enter_117 rfl ?_
              refine zz_iald C (t0 := 0) rfl (mw_2 Nat.zero_lt_one) (m_scope_in I h13) d_MM_enter_118 ?_
              exact mr_i C hr rfl d_MM_enter_119 (by simp only [mf_enter, mf_enterR, mf_enterT, mf_enterS, if_pos h5, if_pos h13, if_neg h24, if_pos h33, if_neg h61, if_neg h73] <;> simp [mf_enter, mf_enterR, mf_enterT, mf_enterS, mf_step, z_at]) (by simp only [mf_enter, mf_enterR, mf_enterT, mf_enterS, if_pos h5, if_pos h13, if_neg h24, if_pos h33, if_neg h61, if_neg h73] <;> simp [mf_enter, mf_enterR, mf_enterT, mf_enterS, mf_step, z_at])
            · refine zz_aload_n C d_MM_enter_76 rfl ?_
              refine zz_get C (ci := 4) (N := 16) 3 rfl zi_MM (by decide) fl_MM_20 (mw_0 Nat.zero_lt_one) rfl d_MM_enter_77 ?_
              refine zz_iload_n C d_MM_enter_80 rfl ?_
              refine zz_aload_n C d_MM_enter_81 rfl ?_
              refine zz_iload_n C d_MM_enter_82 rfl ?_
              refine mc_Vi C (mw_0 Nat.zero_lt_one) rfl s_MM_82 (c_MM_nearest I (m_idle_thr h5)) rfl rfl d_MM_enter_83 k_MM_nearest ⟨by decide, by decide⟩ rfl ?_
              refine ms_3 C Nat.zero_lt_one (m_scope_in I h13) d_MM_enter_86 ?_
              refine zz_aload_n C d_MM_enter_87 rfl ?_
              refine zz_iload_n C d_MM_enter_88 rfl ?_
              refine zz_iload_n C d_MM_enter_89 rfl ?_
              refine zz_aload_n C d_MM_enter_90 rfl ?_
              refine zz_get C (ci := 4) (N := 16) 11 rfl zi_MM (by decide) fl_MM_45 (mw_0 Nat.zero_lt_one) rfl d_MM_enter_91 ?_
              refine zz_iload_n C d_MM_enter_94 rfl ?_
              refine zz_iald C (t0 := 0) rfl (mw_11 Nat.zero_lt_one) (m_idle_thr h5) d_MM_enter_95 ?_
              refine zz_iconst (x := 1) C d_MM_enter_96 rfl ?_
              refine zz_isub C d_MM_enter_97 ?_
              refine zz_iconst (x := 1) C d_MM_enter_98 rfl ?_
              refine mc_Vi C (mw_0 Nat.zero_lt_one) rfl s_MM_64 (c_MM_step (m_idle_thr h5) (m_len_in (σ := σ) I (z_vlt (m_idle_thr h5)) h61)) rfl rfl d_MM_enter_99 k_MM_step ⟨by decide, by decide⟩ rfl ?_
              refine zz_pop C d_MM_enter_102 rfl ?_
              refine zz_aload_n C d_MM_enter_103 rfl ?_
              refine zz_get C (ci := 4) (N := 16) 2 rfl zi_MM (by decide) fl_MM_17 (mw_0 Nat.zero_lt_one) rfl d_MM_enter_104 ?_
              refine zz_iload_n C d_MM_enter_107 rfl ?_
              refine zz_dup2 C d_MM_enter_108 rfl rfl ?_
              refine zz_iald C (t0 := 0) rfl (mw_2 Nat.zero_lt_one) (m_scope_in I h13) d_MM_enter_109 ?_
              refine zz_iconst (x := 1) C d_MM_enter_110 rfl ?_
              refine zz_iadd C d_MM_enter_111 ?_
              refine ms_2 C Nat.zero_lt_one (m_scope_in I h13) d_MM_enter_112 ?_
              refine zz_aload_n C d_MM_enter_113 rfl ?_
              refine zz_get C (ci := 4) (N := 16) 2 rfl zi_MM (by decide) fl_MM_17 (mw_0 Nat.zero_lt_one) rfl d_MM_enter_114 ?_
              refine zz_iload_n C d_MM_enter_117 rfl ?_
              refine zz_iald C (t0 := 0) rfl (mw_2 Nat.zero_lt_one) (m_scope_in I h13) d_MM_enter_118 ?_
              exact mr_i C hr rfl d_MM_enter_119 (by simp only [mf_enter, mf_enterR, mf_enterT, mf_enterS, if_pos h5, if_pos h13, if_neg h24, if_pos h33, if_neg h61, if_pos h73] <;> simp [mf_enter, mf_enterR, mf_enterT, mf_enterS, mf_step, z_at]) (by simp only [mf_enter, mf_enterR, mf_enterT, mf_enterS, if_pos h5, if_pos h13, if_neg h24, if_pos h33, if_neg h61, if_pos h73] <;> simp [mf_enter, mf_enterR, mf_enterT, mf_enterS, mf_step, z_at])
          · refine zz_bipush (x := -2) C d_MM_enter_64 rfl ?_
            exact mr_i C hr rfl d_MM_enter_66 (by simp only [mf_enter, mf_enterR, mf_enterT, mf_enterS, if_pos h5, if_pos h13, if_neg h24, if_pos h33, if_pos h61] <;> simp [mf_enter, mf_enterR, mf_enterT, mf_enterS, mf_step, z_at]) (by simp only [mf_enter, mf_enterR, mf_enterT, mf_enterS, if_pos h5, if_pos h13, if_neg h24, if_pos h33, if_pos h61] <;> simp [mf_enter, mf_enterR, mf_enterT, mf_enterS, mf_step, z_at])
        · refine zz_aload_n C d_MM_enter_36 rfl ?_
          refine zz_get C (ci := 4) (N := 16) 3 rfl zi_MM (by decide) fl_MM_20 (mw_0 Nat.zero_lt_one) rfl d_MM_enter_37 ?_
          refine zz_iload_n C d_MM_enter_40 rfl ?_
          refine zz_iald C (t0 := 0) rfl (mw_3 Nat.zero_lt_one) (m_scope_in I h13) d_MM_enter_41 ?_
          refine zz_aload_n C d_MM_enter_42 rfl ?_
          refine zz_iload_n C d_MM_enter_43 rfl ?_
          refine mc_Vi C (mw_0 Nat.zero_lt_one) rfl s_MM_82 (c_MM_nearest I (m_idle_thr h5)) rfl rfl d_MM_enter_44 k_MM_nearest ⟨by decide, by decide⟩ rfl ?_
          refine zz_icmp_eq (tgt := 53) C d_MM_enter_47 (by decide) (fun h47 => ?_) (fun h47 => ?_)
          · refine zz_aload_n C d_MM_enter_53 rfl ?_
            refine zz_get C (ci := 4) (N := 16) 11 rfl zi_MM (by decide) fl_MM_45 (mw_0 Nat.zero_lt_one) rfl d_MM_enter_54 ?_
            refine zz_iload_n C d_MM_enter_57 rfl ?_
            refine zz_iald C (t0 := 0) rfl (mw_11 Nat.zero_lt_one) (m_idle_thr h5) d_MM_enter_58 ?_
            refine zz_bipush (x := 12) C d_MM_enter_59 rfl ?_
            refine zz_icmp_ne (tgt := 67) C d_MM_enter_61 (by decide) (fun h61 => ?_) (fun h61 => ?_)
            · refine zz_aload_n C d_MM_enter_67 rfl ?_
              refine zz_get C (ci := 4) (N := 16) 2 rfl zi_MM (by decide) fl_MM_17 (mw_0 Nat.zero_lt_one) rfl d_MM_enter_68 ?_
              refine zz_iload_n C d_MM_enter_71 rfl ?_
              refine zz_iald C (t0 := 0) rfl (mw_2 Nat.zero_lt_one) (m_scope_in I h13) d_MM_enter_72 ?_
              refine zz_if_ne (tgt := 87) C d_MM_enter_73 (by decide) (fun h73 => ?_) (fun h73 => ?_)
              · refine zz_aload_n C d_MM_enter_87 rfl ?_
                refine zz_iload_n C d_MM_enter_88 rfl ?_
                refine zz_iload_n C d_MM_enter_89 rfl ?_
                refine zz_aload_n C d_MM_enter_90 rfl ?_
                refine zz_get C (ci := 4) (N := 16) 11 rfl zi_MM (by decide) fl_MM_45 (mw_0 Nat.zero_lt_one) rfl d_MM_enter_91 ?_
                refine zz_iload_n C d_MM_enter_94 rfl ?_
                refine zz_iald C (t0 := 0) rfl (mw_11 Nat.zero_lt_one) (m_idle_thr h5) d_MM_enter_95 ?_
                refine zz_iconst (x := 1) C d_MM_enter_96 rfl ?_
                refine zz_isub C d_MM_enter_97 ?_
                refine zz_iconst (x := 1) C d_MM_enter_98 rfl ?_
                refine mc_Vi C (mw_0 Nat.zero_lt_one) rfl s_MM_64 (c_MM_step (m_idle_thr h5) (m_len_in (σ := σ) I (z_vlt (m_idle_thr h5)) h61)) rfl rfl d_MM_enter_99 k_MM_step ⟨by decide, by decide⟩ rfl ?_
                refine zz_pop C d_MM_enter_102 rfl ?_
                refine zz_aload_n C d_MM_enter_103 rfl ?_
                refine zz_get C (ci := 4) (N := 16) 2 rfl zi_MM (by decide) fl_MM_17 (mw_0 Nat.zero_lt_one) rfl d_MM_enter_104 ?_
                refine zz_iload_n C d_MM_enter_107 rfl ?_
                refine zz_dup2 C d_MM_enter_108 rfl rfl ?_
                refine zz_iald C (t0 := 0) rfl (mw_2 Nat.zero_lt_one) (m_scope_in I h13) d_MM_enter_109 ?_
                refine zz_iconst (x := 1) C d_MM_enter_110 rfl ?_
                refine zz_iadd C d_MM_enter_111 ?_
                refine ms_2 C Nat.zero_lt_one (m_scope_in I h13) d_MM_enter_112 ?_
                refine zz_aload_n C d_MM_enter_113 rfl ?_
                refine zz_get C (ci := 4) (N := 16) 2 rfl zi_MM (by decide) fl_MM_17 (mw_0 Nat.zero_lt_one) rfl d_MM_enter_114 ?_
                refine zz_iload_n C d_MM_enter_117 rfl ?_
                refine zz_iald C (t0 := 0) rfl (mw_2 Nat.zero_lt_one) (m_scope_in I h13) d_MM_enter_118 ?_
                exact mr_i C hr rfl d_MM_enter_119 (by simp only [mf_enter, mf_enterR, mf_enterT, mf_enterS, if_pos h5, if_pos h13, if_neg h24, if_neg h33, if_pos h47, if_neg h61, if_neg h73] <;> simp [mf_enter, mf_enterR, mf_enterT, mf_enterS, mf_step, z_at]) (by simp only [mf_enter, mf_enterR, mf_enterT, mf_enterS, if_pos h5, if_pos h13, if_neg h24, if_neg h33, if_pos h47, if_neg h61, if_neg h73] <;> simp [mf_enter, mf_enterR, mf_enterT, mf_enterS, mf_step, z_at])
              · refine zz_aload_n C d_MM_enter_76 rfl ?_
                refine zz_get C (ci := 4) (N := 16) 3 rfl zi_MM (by decide) fl_MM_20 (mw_0 Nat.zero_lt_one) rfl d_MM_enter_77 ?_
                refine zz_iload_n C d_MM_enter_80 rfl ?_
                refine zz_aload_n C d_MM_enter_81 rfl ?_
                refine zz_iload_n C d_MM_enter_82 rfl ?_
                refine mc_Vi C (mw_0 Nat.zero_lt_one) rfl s_MM_82 (c_MM_nearest I (m_idle_thr h5)) rfl rfl d_MM_enter_83 k_MM_nearest ⟨by decide, by decide⟩ rfl ?_
                refine ms_3 C Nat.zero_lt_one (m_scope_in I h13) d_MM_enter_86 ?_
                refine zz_aload_n C d_MM_enter_87 rfl ?_
                refine zz_iload_n C d_MM_enter_88 rfl ?_
                refine zz_iload_n C d_MM_enter_89 rfl ?_
                refine zz_aload_n C d_MM_enter_90 rfl ?_
                refine zz_get C (ci := 4) (N := 16) 11 rfl zi_MM (by decide) fl_MM_45 (mw_0 Nat.zero_lt_one) rfl d_MM_enter_91 ?_
                refine zz_iload_n C d_MM_enter_94 rfl ?_
                refine zz_iald C (t0 := 0) rfl (mw_11 Nat.zero_lt_one) (m_idle_thr h5) d_MM_enter_95 ?_
                refine zz_iconst (x := 1) C d_MM_enter_96 rfl ?_
                refine zz_isub C d_MM_enter_97 ?_
                refine zz_iconst (x := 1) C d_MM_enter_98 rfl ?_
                refine mc_Vi C (mw_0 Nat.zero_lt_one) rfl s_MM_64 (c_MM_step (m_idle_thr h5) (m_len_in (σ := σ) I (z_vlt (m_idle_thr h5)) h61)) rfl rfl d_MM_enter_99 k_MM_step ⟨by decide, by decide⟩ rfl ?_
                refine zz_pop C d_MM_enter_102 rfl ?_
                refine zz_aload_n C d_MM_enter_103 rfl ?_
                refine zz_get C (ci := 4) (N := 16) 2 rfl zi_MM (by decide) fl_MM_17 (mw_0 Nat.zero_lt_one) rfl d_MM_enter_104 ?_
                refine zz_iload_n C d_MM_enter_107 rfl ?_
                refine zz_dup2 C d_MM_enter_108 rfl rfl ?_
                refine zz_iald C (t0 := 0) rfl (mw_2 Nat.zero_lt_one) (m_scope_in I h13) d_MM_enter_109 ?_
                refine zz_iconst (x := 1) C d_MM_enter_110 rfl ?_
                refine zz_iadd C d_MM_enter_111 ?_
                refine ms_2 C Nat.zero_lt_one (m_scope_in I h13) d_MM_enter_112 ?_
                refine zz_aload_n C d_MM_enter_113 rfl ?_
                refine zz_get C (ci := 4) (N := 16) 2 rfl zi_MM (by decide) fl_MM_17 (mw_0 Nat.zero_lt_one) rfl d_MM_enter_114 ?_
                refine zz_iload_n C d_MM_enter_117 rfl ?_
                refine zz_iald C (t0 := 0) rfl (mw_2 Nat.zero_lt_one) (m_scope_in I h13) d_MM_enter_118 ?_
                exact mr_i C hr rfl d_MM_enter_119 (by simp only [mf_enter, mf_enterR, mf_enterT, mf_enterS, if_pos h5, if_pos h13, if_neg h24, if_neg h33, if_pos h47, if_neg h61, if_pos h73] <;> simp [mf_enter, mf_enterR, mf_enterT, mf_enterS, mf_step, z_at]) (by simp only [mf_enter, mf_enterR, mf_enterT, mf_enterS, if_pos h5, if_pos h13, if_neg h24, if_neg h33, if_pos h47, if_neg h61, if_pos h73] <;> simp [mf_enter, mf_enterR, mf_enterT, mf_enterS, mf_step, z_at])
            · refine zz_bipush (x := -2) C d_MM_enter_64 rfl ?_
              exact mr_i C hr rfl d_MM_enter_66 (by simp only [mf_enter, mf_enterR, mf_enterT, mf_enterS, if_pos h5, if_pos h13, if_neg h24, if_neg h33, if_pos h47, if_pos h61] <;> simp [mf_enter, mf_enterR, mf_enterT, mf_enterS, mf_step, z_at]) (by simp only [mf_enter, mf_enterR, mf_enterT, mf_enterS, if_pos h5, if_pos h13, if_neg h24, if_neg h33, if_pos h47, if_pos h61] <;> simp [mf_enter, mf_enterR, mf_enterT, mf_enterS, mf_step, z_at])
          · refine zz_bipush (x := -3) C d_MM_enter_50 rfl ?_
            exact mr_i C hr rfl d_MM_enter_52 (by simp only [mf_enter, mf_enterR, mf_enterT, mf_enterS, if_pos h5, if_pos h13, if_neg h24, if_neg h33, if_neg h47] <;> simp [mf_enter, mf_enterR, mf_enterT, mf_enterS, mf_step, z_at]) (by simp only [mf_enter, mf_enterR, mf_enterT, mf_enterS, if_pos h5, if_pos h13, if_neg h24, if_neg h33, if_neg h47] <;> simp [mf_enter, mf_enterR, mf_enterT, mf_enterS, mf_step, z_at])
    · refine zz_iconst (x := -1) C d_MM_enter_16 rfl ?_
      exact mr_i C hr rfl d_MM_enter_17 (by simp only [mf_enter, mf_enterR, mf_enterT, mf_enterS, if_pos h5, if_neg h13] <;> simp [mf_enter, mf_enterR, mf_enterT, mf_enterS, mf_step, z_at]) (by simp only [mf_enter, mf_enterR, mf_enterT, mf_enterS, if_pos h5, if_neg h13] <;> simp [mf_enter, mf_enterR, mf_enterT, mf_enterS, mf_step, z_at])
set_option maxHeartbeats 400000 in
set_option maxRecDepth 100000 in
theorem c_MM_current {l : Launch} {D : va_G} {dA : Nat → ClassId} {lo n : Nat} {σ : zS} {t : Int32} (ht : vp_in t 4) (hk : vp_in (σ 11 0 (z_ix t) - 1) 12) : mM l y_MM_current b_MM_current 2 (some .int) 0 D dA lo n [.ref (ma0 lo 0), .int t] σ (some (.int (mf_current σ t))) σ := by
  refine zM_of (lv0 := [(0, .ref (ma0 lo 0)), (1, .int t)]) (by decide) rfl rfl rfl ?_
  intro p e s m below meth c C hr hnm hsz
  have C : zC p s m ([.ref (ma0 lo 0), .int t] : List Value).toArray meth c b_MM_current 2 R_MM D dA := C
  refine zz_aload_n C d_MM_current_0 rfl ?_
  refine zz_get C (ci := 4) (N := 16) 12 rfl zi_MM (by decide) fl_MM_48 (mw_0 Nat.zero_lt_one) rfl d_MM_current_1 ?_
  refine zz_iload_n C d_MM_current_4 rfl ?_
  refine zz_bipush (x := 12) C d_MM_current_5 rfl ?_
  refine zz_imul C d_MM_current_7 ?_
  refine zz_aload_n C d_MM_current_8 rfl ?_
  refine zz_get C (ci := 4) (N := 16) 11 rfl zi_MM (by decide) fl_MM_45 (mw_0 Nat.zero_lt_one) rfl d_MM_current_9 ?_
  refine zz_iload_n C d_MM_current_12 rfl ?_
  refine zz_iald C (t0 := 0) rfl (mw_11 Nat.zero_lt_one) ht d_MM_current_13 ?_
  refine zz_iadd C d_MM_current_14 ?_
  refine zz_iconst (x := 1) C d_MM_current_15 rfl ?_
  refine zz_isub C d_MM_current_16 ?_
  refine zz_iald C (t0 := 0) rfl (mw_12 Nat.zero_lt_one) (by rw [m_ct]; exact m_ix ht hk) d_MM_current_17 ?_
  exact mr_i C hr rfl d_MM_current_18 (by first | rfl | simp [mf_current, z_at]) rfl
set_option maxHeartbeats 400000 in
set_option maxRecDepth 100000 in
theorem c_MM_sees {l : Launch} {D : va_G} {dA : Nat → ClassId} {lo n : Nat} {σ : zS} {t o : Int32} (I : mI σ) (ht : vp_in t 4) (ho : vp_in o 40) : mM l y_MM_sees b_MM_sees 3 (some .boolean) 2 D dA lo n [.ref (ma0 lo 0), .int t, .int o] σ (some (.int (mf_sees σ t o))) σ := by
  refine zM_of (lv0 := [(0, .ref (ma0 lo 0)), (1, .int t), (2, .int o)]) (by decide) rfl rfl rfl ?_
  intro p e s m below meth c C hr hnm hsz
  have C : zC p s m ([.ref (ma0 lo 0), .int t, .int o] : List Value).toArray meth c b_MM_sees 3 R_MM D dA := C
  refine zz_aload_n C d_MM_sees_0 rfl ?_
  refine zz_get C (ci := 4) (N := 16) 5 rfl zi_MM (by decide) fl_MM_26 (mw_0 Nat.zero_lt_one) rfl d_MM_sees_1 ?_
  refine zz_iload_n C d_MM_sees_4 rfl ?_
  refine zz_iald C (t0 := 0) rfl (mw_5 Nat.zero_lt_one) ho d_MM_sees_5 ?_
  refine zz_if_ne (tgt := 24) C d_MM_sees_6 (by decide) (fun h6 => ?_) (fun h6 => ?_)
  · refine zz_aload_n C d_MM_sees_24 rfl ?_
    refine zz_get C (ci := 4) (N := 16) 5 rfl zi_MM (by decide) fl_MM_26 (mw_0 Nat.zero_lt_one) rfl d_MM_sees_25 ?_
    refine zz_iload_n C d_MM_sees_28 rfl ?_
    refine zz_iald C (t0 := 0) rfl (mw_5 Nat.zero_lt_one) ho d_MM_sees_29 ?_
    refine zz_iconst (x := 1) C d_MM_sees_30 rfl ?_
    refine zz_icmp_eq (tgt := 48) C d_MM_sees_31 (by decide) (fun h31 => ?_) (fun h31 => ?_)
    · refine zz_iconst (x := 1) C d_MM_sees_48 rfl ?_
      refine zz_goto (tgt := 53) C d_MM_sees_49 (by decide) ?_
      exact mr_i C hr rfl d_MM_sees_53 (by simp only [mf_sees, if_neg h6, if_pos h31] <;> simp [mf_sees, z_at]) rfl
    · refine zz_aload_n C d_MM_sees_34 rfl ?_
      refine zz_iload_n C d_MM_sees_35 rfl ?_
      refine zz_aload_n C d_MM_sees_36 rfl ?_
      refine zz_get C (ci := 4) (N := 16) 5 rfl zi_MM (by decide) fl_MM_26 (mw_0 Nat.zero_lt_one) rfl d_MM_sees_37 ?_
      refine zz_iload_n C d_MM_sees_40 rfl ?_
      refine zz_iald C (t0 := 0) rfl (mw_5 Nat.zero_lt_one) ho d_MM_sees_41 ?_
      refine mc_Vi C (mw_0 Nat.zero_lt_one) rfl s_MM_79 (c_MM_stepWith I ht) rfl rfl d_MM_sees_42 k_MM_stepWith ⟨by decide, by decide⟩ rfl ?_
      refine zz_if_lt (tgt := 52) C d_MM_sees_45 (by decide) (fun h45 => ?_) (fun h45 => ?_)
      · refine zz_iconst (x := 0) C d_MM_sees_52 rfl ?_
        exact mr_i C hr rfl d_MM_sees_53 (by simp only [mf_sees, if_neg h6, if_neg h31, if_pos h45] <;> simp [mf_sees, z_at]) rfl
      · refine zz_iconst (x := 1) C d_MM_sees_48 rfl ?_
        refine zz_goto (tgt := 53) C d_MM_sees_49 (by decide) ?_
        exact mr_i C hr rfl d_MM_sees_53 (by simp only [mf_sees, if_neg h6, if_neg h31, if_neg h45] <;> simp [mf_sees, z_at]) rfl
  · refine zz_aload_n C d_MM_sees_9 rfl ?_
    refine zz_get C (ci := 4) (N := 16) 10 rfl zi_MM (by decide) fl_MM_42 (mw_0 Nat.zero_lt_one) rfl d_MM_sees_10 ?_
    refine zz_iload_n C d_MM_sees_13 rfl ?_
    refine zz_zald C (t0 := 1) rfl (mw_10 Nat.zero_lt_one) ht d_MM_sees_14 ?_
    refine zz_if_ne (tgt := 22) C d_MM_sees_15 (by decide) (fun h15 => ?_) (fun h15 => ?_)
    · refine zz_iconst (x := 0) C d_MM_sees_22 rfl ?_
      exact mr_i C hr rfl d_MM_sees_23 (by simp only [mf_sees, if_pos h6, if_neg h15] <;> simp [mf_sees, z_at]) rfl
    · refine zz_iconst (x := 1) C d_MM_sees_18 rfl ?_
      refine zz_goto (tgt := 23) C d_MM_sees_19 (by decide) ?_
      exact mr_i C hr rfl d_MM_sees_23 (by simp only [mf_sees, if_pos h6, if_pos h15] <;> simp [mf_sees, z_at]) rfl
set_option maxHeartbeats 400000 in
set_option maxRecDepth 100000 in
theorem c_MM_liesIn {l : Launch} {D : va_G} {dA : Nat → ClassId} {lo n : Nat} {σ : zS} {a z : Int32} (I : mI σ) (ha : z_o 10 a) : mM l y_MM_liesIn b_MM_liesIn 5 (some .boolean) 0 D dA lo n [.ref (ma0 lo 0), .int a, .int z] σ (some (.int (mf_liesIn σ a z))) σ := by
  refine zM_of (lv0 := [(0, .ref (ma0 lo 0)), (1, .int a), (2, .int z)]) (by decide) rfl rfl rfl ?_
  intro p e s m below meth c C hr hnm hsz
  have C : zC p s m ([.ref (ma0 lo 0), .int a, .int z] : List Value).toArray meth c b_MM_liesIn 5 R_MM D dA := C
  have loop : ∀ (k i : Nat) (q iv : Int32), iv = nI i → i + k = 10 → z_o 10 q → mf_li σ z k q = mf_liesIn σ a z → mZ p l e 0 s m ([.ref (ma0 lo 0), .int a, .int z] : List Value).toArray below meth c D dA lo 5 n (some (.int (mf_liesIn σ a z))) (σ) (σ) 5 [(0, .ref (ma0 lo 0)), (1, .int a), (2, .int z), (3, .int q), (4, .int iv)] [] := by
    intro k
    induction k with
    | zero =>
      intro i q iv hiv hik hq hres
      refine zz_iload C d_MM_liesIn_5 rfl ?_
      refine zz_bipush (x := 10) C d_MM_liesIn_7 rfl ?_
      refine zz_icmp_ge (tgt := 37) C d_MM_liesIn_9 (by decide) (fun h9 => ?_) (fun h9 => ?_)
      · refine zz_iconst (x := 0) C d_MM_liesIn_37 rfl ?_
        exact mr_i C hr rfl d_MM_liesIn_38 (by rw [← hres]; rfl) rfl
      · exact absurd (z_ge (N := 10) hiv rfl (by omega) (by omega)) h9
    | succ k ih =>
      intro i q iv hiv hik hq hres
      unfold mf_li at hres
      refine zz_iload C d_MM_liesIn_5 rfl ?_
      refine zz_bipush (x := 10) C d_MM_liesIn_7 rfl ?_
      refine zz_icmp_ge (tgt := 37) C d_MM_liesIn_9 (by decide) (fun h9 => ?_) (fun h9 => ?_)
      · exact absurd h9 (z_nge hiv rfl (show i < 10 by omega) (by decide))
      · refine zz_iload_n C d_MM_liesIn_12 rfl ?_
        refine zz_iconst (x := 1) C d_MM_liesIn_13 rfl ?_
        refine zz_icmp_le (tgt := 37) C d_MM_liesIn_14 (by decide) (fun h14 => ?_) (fun h14 => ?_)
        · refine zz_iconst (x := 0) C d_MM_liesIn_37 rfl ?_
          exact mr_i C hr rfl d_MM_liesIn_38 (by rw [← hres, if_pos h14]) rfl
        · refine zz_iload_n C d_MM_liesIn_17 rfl ?_
          refine zz_iload_n C d_MM_liesIn_18 rfl ?_
          refine zz_icmp_ne (tgt := 24) C d_MM_liesIn_19 (by decide) (fun h19 => ?_) (fun h19 => ?_)
          · refine zz_aload_n C d_MM_liesIn_24 rfl ?_
            refine zz_get C (ci := 4) (N := 16) 3 rfl zi_MM (by decide) fl_MM_20 (mw_0 Nat.zero_lt_one) rfl d_MM_liesIn_25 ?_
            refine zz_iload_n C d_MM_liesIn_28 rfl ?_
            refine zz_iald C (t0 := 0) rfl (mw_3 Nat.zero_lt_one) (m_gt1 hq h14) d_MM_liesIn_29 ?_
            refine zz_istore_n C d_MM_liesIn_30 (by decide) ?_
            refine zz_iinc (d' := 1) C d_MM_liesIn_31 rfl rfl (by decide) ?_
            refine zz_goto (tgt := 5) C d_MM_liesIn_34 (by decide) ?_
            refine zz_lv [0, 1, 2, 3, 4] rfl ?_
            exact ih (i + 1) _ _ (z_sI hiv) (by omega) (Or.inr (I.2.1 _ (z_vlt (m_gt1 hq h14)))) (by rw [← hres, if_neg h14, if_neg h19])
          · refine zz_iconst (x := 1) C d_MM_liesIn_22 rfl ?_
            exact mr_i C hr rfl d_MM_liesIn_23 (by rw [← hres, if_neg h14, if_pos h19]) rfl
  refine zz_iload_n C d_MM_liesIn_0 rfl ?_
  refine zz_istore_n C d_MM_liesIn_1 (by decide) ?_
  refine zz_iconst (x := 0) C d_MM_liesIn_2 rfl ?_
  refine zz_istore C d_MM_liesIn_3 (by decide) ?_
  refine zz_lv [0, 1, 2, 3, 4] rfl ?_
  exact loop 10 0 _ _ nI_0.symm rfl ha rfl
set_option maxHeartbeats 400000 in
set_option maxRecDepth 100000 in
theorem c_MM_mayPoint {l : Launch} {D : va_G} {dA : Nat → ClassId} {lo n : Nat} {σ : zS} {a o : Int32} (I : mI σ) (ha : z_o 10 a) (ho : vp_in o 40) : mM l y_MM_mayPoint b_MM_mayPoint 3 (some .boolean) 1 D dA lo n [.ref (ma0 lo 0), .int a, .int o] σ (some (.int (mf_mayPoint σ a o))) σ := by
  refine zM_of (lv0 := [(0, .ref (ma0 lo 0)), (1, .int a), (2, .int o)]) (by decide) rfl rfl rfl ?_
  intro p e s m below meth c C hr hnm hsz
  have C : zC p s m ([.ref (ma0 lo 0), .int a, .int o] : List Value).toArray meth c b_MM_mayPoint 3 R_MM D dA := C
  refine zz_aload_n C d_MM_mayPoint_0 rfl ?_
  refine zz_get C (ci := 4) (N := 16) 5 rfl zi_MM (by decide) fl_MM_26 (mw_0 Nat.zero_lt_one) rfl d_MM_mayPoint_1 ?_
  refine zz_iload_n C d_MM_mayPoint_4 rfl ?_
  refine zz_iald C (t0 := 0) rfl (mw_5 Nat.zero_lt_one) ho d_MM_mayPoint_5 ?_
  refine zz_iconst (x := 2) C d_MM_mayPoint_6 rfl ?_
  refine zz_icmp_lt (tgt := 29) C d_MM_mayPoint_7 (by decide) (fun h7 => ?_) (fun h7 => ?_)
  · refine zz_iconst (x := 1) C d_MM_mayPoint_29 rfl ?_
    refine zz_goto (tgt := 34) C d_MM_mayPoint_30 (by decide) ?_
    exact mr_i C hr rfl d_MM_mayPoint_34 (by simp only [mf_mayPoint, if_pos h7] <;> simp [mf_mayPoint, z_at]) rfl
  · refine zz_iload_n C d_MM_mayPoint_10 rfl ?_
    refine zz_iconst (x := 1) C d_MM_mayPoint_11 rfl ?_
    refine zz_icmp_le (tgt := 33) C d_MM_mayPoint_12 (by decide) (fun h12 => ?_) (fun h12 => ?_)
    · refine zz_iconst (x := 0) C d_MM_mayPoint_33 rfl ?_
      exact mr_i C hr rfl d_MM_mayPoint_34 (by simp only [mf_mayPoint, if_neg h7, if_pos h12] <;> simp [mf_mayPoint, z_at]) rfl
    · refine zz_aload_n C d_MM_mayPoint_15 rfl ?_
      refine zz_iload_n C d_MM_mayPoint_16 rfl ?_
      refine zz_aload_n C d_MM_mayPoint_17 rfl ?_
      refine zz_get C (ci := 4) (N := 16) 5 rfl zi_MM (by decide) fl_MM_26 (mw_0 Nat.zero_lt_one) rfl d_MM_mayPoint_18 ?_
      refine zz_iload_n C d_MM_mayPoint_21 rfl ?_
      refine zz_iald C (t0 := 0) rfl (mw_5 Nat.zero_lt_one) ho d_MM_mayPoint_22 ?_
      refine mc_Vi C (mw_0 Nat.zero_lt_one) rfl s_MM_98 (c_MM_liesIn I ha) rfl rfl d_MM_mayPoint_23 k_MM_liesIn ⟨by decide, by decide⟩ rfl ?_
      refine zz_if_eq (tgt := 33) C d_MM_mayPoint_26 (by decide) (fun h26 => ?_) (fun h26 => ?_)
      · refine zz_iconst (x := 0) C d_MM_mayPoint_33 rfl ?_
        exact mr_i C hr rfl d_MM_mayPoint_34 (by simp only [mf_mayPoint, if_neg h7, if_neg h12, if_pos h26] <;> simp [mf_mayPoint, z_at]) rfl
      · refine zz_iconst (x := 1) C d_MM_mayPoint_29 rfl ?_
        refine zz_goto (tgt := 34) C d_MM_mayPoint_30 (by decide) ?_
        exact mr_i C hr rfl d_MM_mayPoint_34 (by simp only [mf_mayPoint, if_neg h7, if_neg h12, if_neg h26] <;> simp [mf_mayPoint, z_at]) rfl
set_option maxHeartbeats 400000 in
set_option maxRecDepth 100000 in
theorem c_MM_turn {l : Launch} {D : va_G} {dA : Nat → ClassId} {lo n : Nat} {σ : zS} {t a : Int32} (I : mI σ) : mM l y_MM_turn b_MM_turn 4 (some .int) 2 D dA lo n [.ref (ma0 lo 0), .int t, .int a] σ (some (.int ((mf_turn σ t a).1))) ((mf_turn σ t a).2) := by
  refine zM_of (lv0 := [(0, .ref (ma0 lo 0)), (1, .int t), (2, .int a)]) (by decide) rfl rfl rfl ?_
  intro p e s m below meth c C hr hnm hsz
  have C : zC p s m ([.ref (ma0 lo 0), .int t, .int a] : List Value).toArray meth c b_MM_turn 4 R_MM D dA := C
  refine zz_aload_n C d_MM_turn_0 rfl ?_
  refine zz_iload_n C d_MM_turn_1 rfl ?_
  refine mc_Vi C (mw_0 Nat.zero_lt_one) rfl s_MM_72 c_MM_idle rfl rfl d_MM_turn_2 k_MM_idle ⟨by decide, by decide⟩ rfl ?_
  refine zz_if_ne (tgt := 16) C d_MM_turn_5 (by decide) (fun h5 => ?_) (fun h5 => ?_)
  · refine zz_iconst (x := -1) C d_MM_turn_16 rfl ?_
    exact mr_i C hr rfl d_MM_turn_17 (by simp only [mf_turn, mf_turn2, mf_turn3, if_neg h5] <;> simp [mf_turn, mf_turn2, mf_turn3, z_at]) (by simp only [mf_turn, mf_turn2, mf_turn3, if_neg h5] <;> simp [mf_turn, mf_turn2, mf_turn3, z_at])
  · refine zz_aload_n C d_MM_turn_8 rfl ?_
    refine zz_iload_n C d_MM_turn_9 rfl ?_
    refine mc_Vi C (mw_0 Nat.zero_lt_one) rfl s_MM_85 c_MM_noArea rfl rfl d_MM_turn_10 k_MM_noArea ⟨by decide, by decide⟩ rfl ?_
    refine zz_if_eq (tgt := 18) C d_MM_turn_13 (by decide) (fun h13 => ?_) (fun h13 => ?_)
    · refine zz_iload_n C d_MM_turn_18 rfl ?_
      refine zz_if_ne (tgt := 34) C d_MM_turn_19 (by decide) (fun h19 => ?_) (fun h19 => ?_)
      · refine zz_iload_n C d_MM_turn_34 rfl ?_
        refine zz_iconst (x := 2) C d_MM_turn_35 rfl ?_
        refine zz_icmp_ge (tgt := 43) C d_MM_turn_36 (by decide) (fun h36 => ?_) (fun h36 => ?_)
        · refine zz_aload_n C d_MM_turn_43 rfl ?_
          refine zz_iload_n C d_MM_turn_44 rfl ?_
          refine zz_iload_n C d_MM_turn_45 rfl ?_
          refine mc_Vi C (mw_0 Nat.zero_lt_one) rfl s_MM_79 (c_MM_stepWith I (m_idle_thr h5)) rfl rfl d_MM_turn_46 k_MM_stepWith ⟨by decide, by decide⟩ rfl ?_
          refine zz_istore_n C d_MM_turn_49 (by decide) ?_
          refine zz_iload_n C d_MM_turn_50 rfl ?_
          refine zz_iconst (x := 1) C d_MM_turn_51 rfl ?_
          refine zz_icmp_le (tgt := 62) C d_MM_turn_52 (by decide) (fun h52 => ?_) (fun h52 => ?_)
          · exact absurd h52 (m_21 h36)
          · refine zz_iload_n C d_MM_turn_55 rfl ?_
            refine zz_if_ge (tgt := 62) C d_MM_turn_56 (by decide) (fun h56 => ?_) (fun h56 => ?_)
            · refine zz_aload_n C d_MM_turn_62 rfl ?_
              refine zz_get C (ci := 4) (N := 16) 11 rfl zi_MM (by decide) fl_MM_45 (mw_0 Nat.zero_lt_one) rfl d_MM_turn_63 ?_
              refine zz_iload_n C d_MM_turn_66 rfl ?_
              refine zz_iald C (t0 := 0) rfl (mw_11 Nat.zero_lt_one) (m_idle_thr h5) d_MM_turn_67 ?_
              refine zz_bipush (x := 12) C d_MM_turn_68 rfl ?_
              refine zz_icmp_ne (tgt := 76) C d_MM_turn_70 (by decide) (fun h70 => ?_) (fun h70 => ?_)
              · refine zz_aload_n C d_MM_turn_76 rfl ?_
                refine zz_iload_n C d_MM_turn_77 rfl ?_
                refine zz_iload_n C d_MM_turn_78 rfl ?_
                refine zz_iload_n C d_MM_turn_79 rfl ?_
                refine zz_if_ge (tgt := 87) C d_MM_turn_80 (by decide) (fun h80 => ?_) (fun h80 => ?_)
                · refine zz_aload_n C d_MM_turn_87 rfl ?_
                  refine zz_get C (ci := 4) (N := 16) 13 rfl zi_MM (by decide) fl_MM_51 (mw_0 Nat.zero_lt_one) rfl d_MM_turn_88 ?_
                  refine zz_iload_n C d_MM_turn_91 rfl ?_
                  refine zz_bipush (x := 12) C d_MM_turn_92 rfl ?_
                  refine zz_imul C d_MM_turn_94 ?_
                  refine zz_iload_n C d_MM_turn_95 rfl ?_
                  refine zz_iadd C d_MM_turn_96 ?_
                  refine zz_iald C (t0 := 0) rfl (mw_13 Nat.zero_lt_one) (m_ix (m_idle_thr h5) (z_nle (m_stepWith_o I (m_idle_thr h5)) h80)) d_MM_turn_97 ?_
                  refine zz_iconst (x := 0) C d_MM_turn_98 rfl ?_
                  refine mc_Vi C (mw_0 Nat.zero_lt_one) rfl s_MM_64 (c_MM_step (m_idle_thr h5) (m_len_in (σ := σ) I (z_vlt (m_idle_thr h5)) h70)) rfl rfl d_MM_turn_99 k_MM_step ⟨by decide, by decide⟩ rfl ?_
                  exact mr_i C hr rfl d_MM_turn_102 (by simp only [mf_turn, mf_turn2, mf_turn3, if_pos h5, if_pos h13, if_neg h19, if_pos h36, if_neg h52, if_pos h56, if_neg h70, if_pos h80] <;> simp [mf_turn, mf_turn2, mf_turn3, z_at]) (by simp only [mf_turn, mf_turn2, mf_turn3, if_pos h5, if_pos h13, if_neg h19, if_pos h36, if_neg h52, if_pos h56, if_neg h70, if_pos h80] <;> simp [mf_turn, mf_turn2, mf_turn3, z_at])
                · exact absurd h56 h80
              · refine zz_bipush (x := -2) C d_MM_turn_73 rfl ?_
                exact mr_i C hr rfl d_MM_turn_75 (by simp only [mf_turn, mf_turn2, mf_turn3, if_pos h5, if_pos h13, if_neg h19, if_pos h36, if_neg h52, if_pos h56, if_pos h70] <;> simp [mf_turn, mf_turn2, mf_turn3, z_at]) (by simp only [mf_turn, mf_turn2, mf_turn3, if_pos h5, if_pos h13, if_neg h19, if_pos h36, if_neg h52, if_pos h56, if_pos h70] <;> simp [mf_turn, mf_turn2, mf_turn3, z_at])
            · refine zz_bipush (x := -4) C d_MM_turn_59 rfl ?_
              exact mr_i C hr rfl d_MM_turn_61 (by simp only [mf_turn, mf_turn2, mf_turn3, if_pos h5, if_pos h13, if_neg h19, if_pos h36, if_neg h52, if_neg h56] <;> simp [mf_turn, mf_turn2, mf_turn3, z_at]) (by simp only [mf_turn, mf_turn2, mf_turn3, if_pos h5, if_pos h13, if_neg h19, if_pos h36, if_neg h52, if_neg h56] <;> simp [mf_turn, mf_turn2, mf_turn3, z_at])
        · refine zz_iconst (x := -1) C d_MM_turn_39 rfl ?_
          refine zz_goto (tgt := 49) C d_MM_turn_40 (by decide) ?_
          refine zz_istore_n C d_MM_turn_49 (by decide) ?_
          refine zz_iload_n C d_MM_turn_50 rfl ?_
          refine zz_iconst (x := 1) C d_MM_turn_51 rfl ?_
          refine zz_icmp_le (tgt := 62) C d_MM_turn_52 (by decide) (fun h52 => ?_) (fun h52 => ?_)
          · refine zz_aload_n C d_MM_turn_62 rfl ?_
            refine zz_get C (ci := 4) (N := 16) 11 rfl zi_MM (by decide) fl_MM_45 (mw_0 Nat.zero_lt_one) rfl d_MM_turn_63 ?_
            refine zz_iload_n C d_MM_turn_66 rfl ?_
            refine zz_iald C (t0 := 0) rfl (mw_11 Nat.zero_lt_one) (m_idle_thr h5) d_MM_turn_67 ?_
            refine zz_bipush (x := 12) C d_MM_turn_68 rfl ?_
            refine zz_icmp_ne (tgt := 76) C d_MM_turn_70 (by decide) (fun h70 => ?_) (fun h70 => ?_)
            · refine zz_aload_n C d_MM_turn_76 rfl ?_
              refine zz_iload_n C d_MM_turn_77 rfl ?_
              refine zz_iload_n C d_MM_turn_78 rfl ?_
              refine zz_iload_n C d_MM_turn_79 rfl ?_
              refine zz_if_ge (tgt := 87) C d_MM_turn_80 (by decide) (fun h80 => ?_) (fun h80 => ?_)
              · exact absurd h80 (by decide)
              · refine zz_iconst (x := -1) C d_MM_turn_83 rfl ?_
                refine zz_goto (tgt := 98) C d_MM_turn_84 (by decide) ?_
                refine zz_iconst (x := 0) C d_MM_turn_98 rfl ?_
                refine mc_Vi C (mw_0 Nat.zero_lt_one) rfl s_MM_64 (c_MM_step (m_idle_thr h5) (m_len_in (σ := σ) I (z_vlt (m_idle_thr h5)) h70)) rfl rfl d_MM_turn_99 k_MM_step ⟨by decide, by decide⟩ rfl ?_
                exact mr_i C hr rfl d_MM_turn_102 (by simp only [mf_turn, mf_turn2, mf_turn3, if_pos h5, if_pos h13, if_neg h19, if_neg h36, if_pos h52, if_neg h70, if_neg h80] <;> simp [mf_turn, mf_turn2, mf_turn3, z_at]) (by simp only [mf_turn, mf_turn2, mf_turn3, if_pos h5, if_pos h13, if_neg h19, if_neg h36, if_pos h52, if_neg h70, if_neg h80] <;> simp [mf_turn, mf_turn2, mf_turn3, z_at])
            · refine zz_bipush (x := -2) C d_MM_turn_73 rfl ?_
              exact mr_i C hr rfl d_MM_turn_75 (by simp only [mf_turn, mf_turn2, mf_turn3, if_pos h5, if_pos h13, if_neg h19, if_neg h36, if_pos h52, if_pos h70] <;> simp [mf_turn, mf_turn2, mf_turn3, z_at]) (by simp only [mf_turn, mf_turn2, mf_turn3, if_pos h5, if_pos h13, if_neg h19, if_neg h36, if_pos h52, if_pos h70] <;> simp [mf_turn, mf_turn2, mf_turn3, z_at])
          · exact absurd (m_12 h36) h52
      · refine zz_aload_n C d_MM_turn_22 rfl ?_
        refine zz_get C (ci := 4) (N := 16) 10 rfl zi_MM (by decide) fl_MM_42 (mw_0 Nat.zero_lt_one) rfl d_MM_turn_23 ?_
        refine zz_iload_n C d_MM_turn_26 rfl ?_
        refine zz_zald C (t0 := 1) rfl (mw_10 Nat.zero_lt_one) (m_idle_thr h5) d_MM_turn_27 ?_
        refine zz_if_eq (tgt := 34) C d_MM_turn_28 (by decide) (fun h28 => ?_) (fun h28 => ?_)
        · refine zz_iload_n C d_MM_turn_34 rfl ?_
          refine zz_iconst (x := 2) C d_MM_turn_35 rfl ?_
          refine zz_icmp_ge (tgt := 43) C d_MM_turn_36 (by decide) (fun h36 => ?_) (fun h36 => ?_)
          · refine zz_aload_n C d_MM_turn_43 rfl ?_
            refine zz_iload_n C d_MM_turn_44 rfl ?_
            refine zz_iload_n C d_MM_turn_45 rfl ?_
            refine mc_Vi C (mw_0 Nat.zero_lt_one) rfl s_MM_79 (c_MM_stepWith I (m_idle_thr h5)) rfl rfl d_MM_turn_46 k_MM_stepWith ⟨by decide, by decide⟩ rfl ?_
            refine zz_istore_n C d_MM_turn_49 (by decide) ?_
            refine zz_iload_n C d_MM_turn_50 rfl ?_
            refine zz_iconst (x := 1) C d_MM_turn_51 rfl ?_
            refine zz_icmp_le (tgt := 62) C d_MM_turn_52 (by decide) (fun h52 => ?_) (fun h52 => ?_)
            · exact absurd h52 (m_21 h36)
            · refine zz_iload_n C d_MM_turn_55 rfl ?_
              refine zz_if_ge (tgt := 62) C d_MM_turn_56 (by decide) (fun h56 => ?_) (fun h56 => ?_)
              · refine zz_aload_n C d_MM_turn_62 rfl ?_
                refine zz_get C (ci := 4) (N := 16) 11 rfl zi_MM (by decide) fl_MM_45 (mw_0 Nat.zero_lt_one) rfl d_MM_turn_63 ?_
                refine zz_iload_n C d_MM_turn_66 rfl ?_
                refine zz_iald C (t0 := 0) rfl (mw_11 Nat.zero_lt_one) (m_idle_thr h5) d_MM_turn_67 ?_
                refine zz_bipush (x := 12) C d_MM_turn_68 rfl ?_
                refine zz_icmp_ne (tgt := 76) C d_MM_turn_70 (by decide) (fun h70 => ?_) (fun h70 => ?_)
                · refine zz_aload_n C d_MM_turn_76 rfl ?_
                  refine zz_iload_n C d_MM_turn_77 rfl ?_
                  refine zz_iload_n C d_MM_turn_78 rfl ?_
                  refine zz_iload_n C d_MM_turn_79 rfl ?_
                  refine zz_if_ge (tgt := 87) C d_MM_turn_80 (by decide) (fun h80 => ?_) (fun h80 => ?_)
                  · refine zz_aload_n C d_MM_turn_87 rfl ?_
                    refine zz_get C (ci := 4) (N := 16) 13 rfl zi_MM (by decide) fl_MM_51 (mw_0 Nat.zero_lt_one) rfl d_MM_turn_88 ?_
                    refine zz_iload_n C d_MM_turn_91 rfl ?_
                    refine zz_bipush (x := 12) C d_MM_turn_92 rfl ?_
                    refine zz_imul C d_MM_turn_94 ?_
                    refine zz_iload_n C d_MM_turn_95 rfl ?_
                    refine zz_iadd C d_MM_turn_96 ?_
                    refine zz_iald C (t0 := 0) rfl (mw_13 Nat.zero_lt_one) (m_ix (m_idle_thr h5) (z_nle (m_stepWith_o I (m_idle_thr h5)) h80)) d_MM_turn_97 ?_
                    refine zz_iconst (x := 0) C d_MM_turn_98 rfl ?_
                    refine mc_Vi C (mw_0 Nat.zero_lt_one) rfl s_MM_64 (c_MM_step (m_idle_thr h5) (m_len_in (σ := σ) I (z_vlt (m_idle_thr h5)) h70)) rfl rfl d_MM_turn_99 k_MM_step ⟨by decide, by decide⟩ rfl ?_
                    exact mr_i C hr rfl d_MM_turn_102 (by simp only [mf_turn, mf_turn2, mf_turn3, if_pos h5, if_pos h13, if_pos h19, if_pos h28, if_pos h36, if_neg h52, if_pos h56, if_neg h70, if_pos h80] <;> simp [mf_turn, mf_turn2, mf_turn3, z_at]) (by simp only [mf_turn, mf_turn2, mf_turn3, if_pos h5, if_pos h13, if_pos h19, if_pos h28, if_pos h36, if_neg h52, if_pos h56, if_neg h70, if_pos h80] <;> simp [mf_turn, mf_turn2, mf_turn3, z_at])
                  · exact absurd h56 h80
                · refine zz_bipush (x := -2) C d_MM_turn_73 rfl ?_
                  exact mr_i C hr rfl d_MM_turn_75 (by simp only [mf_turn, mf_turn2, mf_turn3, if_pos h5, if_pos h13, if_pos h19, if_pos h28, if_pos h36, if_neg h52, if_pos h56, if_pos h70] <;> simp [mf_turn, mf_turn2, mf_turn3, z_at]) (by simp only [mf_turn, mf_turn2, mf_turn3, if_pos h5, if_pos h13, if_pos h19, if_pos h28, if_pos h36, if_neg h52, if_pos h56, if_pos h70] <;> simp [mf_turn, mf_turn2, mf_turn3, z_at])
              · refine zz_bipush (x := -4) C d_MM_turn_59 rfl ?_
                exact mr_i C hr rfl d_MM_turn_61 (by simp only [mf_turn, mf_turn2, mf_turn3, if_pos h5, if_pos h13, if_pos h19, if_pos h28, if_pos h36, if_neg h52, if_neg h56] <;> simp [mf_turn, mf_turn2, mf_turn3, z_at]) (by simp only [mf_turn, mf_turn2, mf_turn3, if_pos h5, if_pos h13, if_pos h19, if_pos h28, if_pos h36, if_neg h52, if_neg h56] <;> simp [mf_turn, mf_turn2, mf_turn3, z_at])
          · refine zz_iconst (x := -1) C d_MM_turn_39 rfl ?_
            refine zz_goto (tgt := 49) C d_MM_turn_40 (by decide) ?_
            refine zz_istore_n C d_MM_turn_49 (by decide) ?_
            refine zz_iload_n C d_MM_turn_50 rfl ?_
            refine zz_iconst (x := 1) C d_MM_turn_51 rfl ?_
            refine zz_icmp_le (tgt := 62) C d_MM_turn_52 (by decide) (fun h52 => ?_) (fun h52 => ?_)
            · refine zz_aload_n C d_MM_turn_62 rfl ?_
              refine zz_get C (ci := 4) (N := 16) 11 rfl zi_MM (by decide) fl_MM_45 (mw_0 Nat.zero_lt_one) rfl d_MM_turn_63 ?_
              refine zz_iload_n C d_MM_turn_66 rfl ?_
              refine zz_iald C (t0 := 0) rfl (mw_11 Nat.zero_lt_one) (m_idle_thr h5) d_MM_turn_67 ?_
              refine zz_bipush (x := 12) C d_MM_turn_68 rfl ?_
              refine zz_icmp_ne (tgt := 76) C d_MM_turn_70 (by decide) (fun h70 => ?_) (fun h70 => ?_)
              · refine zz_aload_n C d_MM_turn_76 rfl ?_
                refine zz_iload_n C d_MM_turn_77 rfl ?_
                refine zz_iload_n C d_MM_turn_78 rfl ?_
                refine zz_iload_n C d_MM_turn_79 rfl ?_
                refine zz_if_ge (tgt := 87) C d_MM_turn_80 (by decide) (fun h80 => ?_) (fun h80 => ?_)
                · exact absurd h80 (by decide)
                · refine zz_iconst (x := -1) C d_MM_turn_83 rfl ?_
                  refine zz_goto (tgt := 98) C d_MM_turn_84 (by decide) ?_
                  refine zz_iconst (x := 0) C d_MM_turn_98 rfl ?_
                  refine mc_Vi C (mw_0 Nat.zero_lt_one) rfl s_MM_64 (c_MM_step (m_idle_thr h5) (m_len_in (σ := σ) I (z_vlt (m_idle_thr h5)) h70)) rfl rfl d_MM_turn_99 k_MM_step ⟨by decide, by decide⟩ rfl ?_
                  exact mr_i C hr rfl d_MM_turn_102 (by simp only [mf_turn, mf_turn2, mf_turn3, if_pos h5, if_pos h13, if_pos h19, if_pos h28, if_neg h36, if_pos h52, if_neg h70, if_neg h80] <;> simp [mf_turn, mf_turn2, mf_turn3, z_at]) (by simp only [mf_turn, mf_turn2, mf_turn3, if_pos h5, if_pos h13, if_pos h19, if_pos h28, if_neg h36, if_pos h52, if_neg h70, if_neg h80] <;> simp [mf_turn, mf_turn2, mf_turn3, z_at])
              · refine zz_bipush (x := -2) C d_MM_turn_73 rfl ?_
                exact mr_i C hr rfl d_MM_turn_75 (by simp only [mf_turn, mf_turn2, mf_turn3, if_pos h5, if_pos h13, if_pos h19, if_pos h28, if_neg h36, if_pos h52, if_pos h70] <;> simp [mf_turn, mf_turn2, mf_turn3, z_at]) (by simp only [mf_turn, mf_turn2, mf_turn3, if_pos h5, if_pos h13, if_pos h19, if_pos h28, if_neg h36, if_pos h52, if_pos h70] <;> simp [mf_turn, mf_turn2, mf_turn3, z_at])
            · exact absurd (m_12 h36) h52
        · refine zz_bipush (x := -5) C d_MM_turn_31 rfl ?_
          exact mr_i C hr rfl d_MM_turn_33 (by simp only [mf_turn, mf_turn2, mf_turn3, if_pos h5, if_pos h13, if_pos h19, if_neg h28] <;> simp [mf_turn, mf_turn2, mf_turn3, z_at]) (by simp only [mf_turn, mf_turn2, mf_turn3, if_pos h5, if_pos h13, if_pos h19, if_neg h28] <;> simp [mf_turn, mf_turn2, mf_turn3, z_at])
    · refine zz_iconst (x := -1) C d_MM_turn_16 rfl ?_
      exact mr_i C hr rfl d_MM_turn_17 (by simp only [mf_turn, mf_turn2, mf_turn3, if_pos h5, if_neg h13] <;> simp [mf_turn, mf_turn2, mf_turn3, z_at]) (by simp only [mf_turn, mf_turn2, mf_turn3, if_pos h5, if_neg h13] <;> simp [mf_turn, mf_turn2, mf_turn3, z_at])
set_option maxHeartbeats 400000 in
set_option maxRecDepth 100000 in
theorem c_MM_empty {l : Launch} {D : va_G} {dA : Nat → ClassId} {lo n : Nat} {σ : zS} {z : Int32} (hz : vp_in z 10) : mM l y_MM_empty b_MM_empty 3 none 0 D dA lo n [.ref (ma0 lo 0), .int z] σ none (mf_empty σ z) := by
  refine zM_of (lv0 := [(0, .ref (ma0 lo 0)), (1, .int z)]) (by decide) rfl rfl rfl ?_
  intro p e s m below meth c C hr hnm hsz
  have C : zC p s m ([.ref (ma0 lo 0), .int z] : List Value).toArray meth c b_MM_empty 3 R_MM D dA := C
  generalize hT : mf_em z 40 0 σ = T
  have loop : ∀ (k i : Nat) (iv : Int32) (σ1 : zS), iv = nI i → i + k = 40 → mf_em z k i σ1 = T → mZ p l e 0 s m ([.ref (ma0 lo 0), .int z] : List Value).toArray below meth c D dA lo 3 n none (mf_empty σ z) (σ1) 2 [(0, .ref (ma0 lo 0)), (1, .int z), (2, .int iv)] [] := by
    intro k
    induction k with
    | zero =>
      intro i iv σ1 hiv hik hres
      have hres : σ1 = T := hres
      refine zz_iload_n C d_MM_empty_2 rfl ?_
      refine zz_bipush (x := 40) C d_MM_empty_3 rfl ?_
      refine zz_icmp_ge (tgt := 31) C d_MM_empty_5 (by decide) (fun h5 => ?_) (fun h5 => ?_)
      · refine zz_aload_n C d_MM_empty_31 rfl ?_
        refine zz_get C (ci := 4) (N := 16) 4 rfl zi_MM (by decide) fl_MM_23 (mw_0 Nat.zero_lt_one) rfl d_MM_empty_32 ?_
        refine zz_iload_n C d_MM_empty_35 rfl ?_
        refine zz_iconst (x := -1) C d_MM_empty_36 rfl ?_
        refine ms_4 C Nat.zero_lt_one hz d_MM_empty_37 ?_
        exact mr_v C hr d_MM_empty_38 (by rw [hres, ← hT]; rfl)
      · exact absurd (z_ge (N := 40) hiv rfl (by omega) (by omega)) h5
    | succ k ih =>
      intro i iv σ1 hiv hik hres
      unfold mf_em at hres
      have hix : iv.toNatClampNeg = i := z_ixI hiv (by omega)
      refine zz_iload_n C d_MM_empty_2 rfl ?_
      refine zz_bipush (x := 40) C d_MM_empty_3 rfl ?_
      refine zz_icmp_ge (tgt := 31) C d_MM_empty_5 (by decide) (fun h5 => ?_) (fun h5 => ?_)
      · exact absurd h5 (z_nge hiv rfl (show i < 40 by omega) (by decide))
      · refine zz_aload_n C d_MM_empty_8 rfl ?_
        refine zz_get C (ci := 4) (N := 16) 5 rfl zi_MM (by decide) fl_MM_26 (mw_0 Nat.zero_lt_one) rfl d_MM_empty_9 ?_
        refine zz_iload_n C d_MM_empty_12 rfl ?_
        refine zz_iald C (t0 := 0) rfl (mw_5 Nat.zero_lt_one) (z_vinI hiv (by omega) (by decide)) d_MM_empty_13 ?_
        refine zz_iload_n C d_MM_empty_14 rfl ?_
        refine zz_icmp_ne (tgt := 25) C d_MM_empty_15 (by decide) (fun h15 => ?_) (fun h15 => ?_)
        · refine zz_iinc (d' := 1) C d_MM_empty_25 rfl rfl (by decide) ?_
          refine zz_goto (tgt := 2) C d_MM_empty_28 (by decide) ?_
          refine zz_lv [0, 1, 2] rfl ?_
          rw [hix] at h15
          exact ih (i + 1) _ _ (z_sI hiv) (by omega) (by rw [← hres, if_neg h15])
        · refine zz_aload_n C d_MM_empty_18 rfl ?_
          refine zz_get C (ci := 4) (N := 16) 5 rfl zi_MM (by decide) fl_MM_26 (mw_0 Nat.zero_lt_one) rfl d_MM_empty_19 ?_
          refine zz_iload_n C d_MM_empty_22 rfl ?_
          refine zz_iconst (x := -1) C d_MM_empty_23 rfl ?_
          refine ms_5 C Nat.zero_lt_one (z_vinI hiv (by omega) (by decide)) d_MM_empty_24 ?_
          refine zz_iinc (d' := 1) C d_MM_empty_25 rfl rfl (by decide) ?_
          refine zz_goto (tgt := 2) C d_MM_empty_28 (by decide) ?_
          refine zz_lv [0, 1, 2] rfl ?_
          rw [hix] at h15
          rw [hix]
          exact ih (i + 1) _ _ (z_sI hiv) (by omega) (by rw [← hres, if_pos h15])
  refine zz_iconst (x := 0) C d_MM_empty_0 rfl ?_
  refine zz_istore_n C d_MM_empty_1 (by decide) ?_
  refine zz_lv [0, 1, 2] rfl ?_
  exact loop 40 0 _ _ nI_0.symm rfl hT
set_option maxHeartbeats 400000 in
set_option maxRecDepth 100000 in
theorem c_MM_put {l : Launch} {D : va_G} {dA : Nat → ClassId} {lo n : Nat} {σ : zS} {t o f g : Int32} (I : mI σ) : mM l y_MM_put b_MM_put 5 (some .int) 3 D dA lo n [.ref (ma0 lo 0), .int t, .int o, .int f, .int g] σ (some (.int ((mf_put σ t o f g).1))) ((mf_put σ t o f g).2) := by
  refine zM_of (lv0 := [(0, .ref (ma0 lo 0)), (1, .int t), (2, .int o), (3, .int f), (4, .int g)]) (by decide) rfl rfl rfl ?_
  intro p e s m below meth c C hr hnm hsz
  have C : zC p s m ([.ref (ma0 lo 0), .int t, .int o, .int f, .int g] : List Value).toArray meth c b_MM_put 5 R_MM D dA := C
  refine zz_aload_n C d_MM_put_0 rfl ?_
  refine zz_iload_n C d_MM_put_1 rfl ?_
  refine mc_Vi C (mw_0 Nat.zero_lt_one) rfl s_MM_72 c_MM_idle rfl rfl d_MM_put_2 k_MM_idle ⟨by decide, by decide⟩ rfl ?_
  refine zz_if_ne (tgt := 40) C d_MM_put_5 (by decide) (fun h5 => ?_) (fun h5 => ?_)
  · refine zz_iconst (x := -1) C d_MM_put_40 rfl ?_
    exact mr_i C hr rfl d_MM_put_41 (by simp only [mf_put, mf_put2, if_neg h5] <;> simp [mf_put, mf_put2, z_at]) (by simp only [mf_put, mf_put2, if_neg h5] <;> simp [mf_put, mf_put2, z_at])
  · refine zz_aload_n C d_MM_put_8 rfl ?_
    refine zz_iload_n C d_MM_put_9 rfl ?_
    refine mc_Vi C (mw_0 Nat.zero_lt_one) rfl s_MM_102 c_MM_noObject rfl rfl d_MM_put_10 k_MM_noObject ⟨by decide, by decide⟩ rfl ?_
    refine zz_if_ne (tgt := 40) C d_MM_put_13 (by decide) (fun h13 => ?_) (fun h13 => ?_)
    · refine zz_iconst (x := -1) C d_MM_put_40 rfl ?_
      exact mr_i C hr rfl d_MM_put_41 (by simp only [mf_put, mf_put2, if_pos h5, if_neg h13] <;> simp [mf_put, mf_put2, z_at]) (by simp only [mf_put, mf_put2, if_pos h5, if_neg h13] <;> simp [mf_put, mf_put2, z_at])
    · refine zz_iload_n C d_MM_put_16 rfl ?_
      refine zz_if_lt (tgt := 40) C d_MM_put_17 (by decide) (fun h17 => ?_) (fun h17 => ?_)
      · refine zz_iconst (x := -1) C d_MM_put_40 rfl ?_
        exact mr_i C hr rfl d_MM_put_41 (by simp only [mf_put, mf_put2, if_pos h5, if_pos h13, if_pos h17] <;> simp [mf_put, mf_put2, z_at]) (by simp only [mf_put, mf_put2, if_pos h5, if_pos h13, if_pos h17] <;> simp [mf_put, mf_put2, z_at])
      · refine zz_iload_n C d_MM_put_20 rfl ?_
        refine zz_iconst (x := 3) C d_MM_put_21 rfl ?_
        refine zz_icmp_gt (tgt := 40) C d_MM_put_22 (by decide) (fun h22 => ?_) (fun h22 => ?_)
        · refine zz_iconst (x := -1) C d_MM_put_40 rfl ?_
          exact mr_i C hr rfl d_MM_put_41 (by simp only [mf_put, mf_put2, if_pos h5, if_pos h13, if_neg h17, if_pos h22] <;> simp [mf_put, mf_put2, z_at]) (by simp only [mf_put, mf_put2, if_pos h5, if_pos h13, if_neg h17, if_pos h22] <;> simp [mf_put, mf_put2, z_at])
        · refine zz_iload C d_MM_put_25 rfl ?_
          refine zz_iconst (x := -1) C d_MM_put_27 rfl ?_
          refine zz_icmp_eq (tgt := 42) C d_MM_put_28 (by decide) (fun h28 => ?_) (fun h28 => ?_)
          · refine zz_iload_n C d_MM_put_42 rfl ?_
            refine zz_aload_n C d_MM_put_43 rfl ?_
            refine zz_get C (ci := 4) (N := 16) 6 rfl zi_MM (by decide) fl_MM_29 (mw_0 Nat.zero_lt_one) rfl d_MM_put_44 ?_
            refine zz_iload_n C d_MM_put_47 rfl ?_
            refine zz_iald C (t0 := 0) rfl (mw_6 Nat.zero_lt_one) (m_obj h13) d_MM_put_48 ?_
            refine zz_icmp_lt (tgt := 54) C d_MM_put_49 (by decide) (fun h49 => ?_) (fun h49 => ?_)
            · refine zz_aload_n C d_MM_put_54 rfl ?_
              refine zz_iload_n C d_MM_put_55 rfl ?_
              refine zz_iload_n C d_MM_put_56 rfl ?_
              refine mc_Vi C (mw_0 Nat.zero_lt_one) rfl s_MM_105 (c_MM_sees I (m_idle_thr h5) (m_obj h13)) rfl rfl d_MM_put_57 k_MM_sees ⟨by decide, by decide⟩ rfl ?_
              refine zz_if_eq (tgt := 78) C d_MM_put_60 (by decide) (fun h60 => ?_) (fun h60 => ?_)
              · refine zz_bipush (x := -4) C d_MM_put_78 rfl ?_
                exact mr_i C hr rfl d_MM_put_80 (by simp only [mf_put, mf_put2, if_pos h5, if_pos h13, if_neg h17, if_neg h22, if_pos h28, if_pos h49, if_pos h60] <;> simp [mf_put, mf_put2, z_at]) (by simp only [mf_put, mf_put2, if_pos h5, if_pos h13, if_neg h17, if_neg h22, if_pos h28, if_pos h49, if_pos h60] <;> simp [mf_put, mf_put2, z_at])
              · refine zz_iload C d_MM_put_63 rfl ?_
                refine zz_if_lt (tgt := 81) C d_MM_put_65 (by decide) (fun h65 => ?_) (fun h65 => ?_)
                · refine zz_iload C d_MM_put_81 rfl ?_
                  refine zz_if_lt (tgt := 104) C d_MM_put_83 (by decide) (fun h83 => ?_) (fun h83 => ?_)
                  · refine zz_aload_n C d_MM_put_104 rfl ?_
                    refine zz_get C (ci := 4) (N := 16) 7 rfl zi_MM (by decide) fl_MM_32 (mw_0 Nat.zero_lt_one) rfl d_MM_put_105 ?_
                    refine zz_iload_n C d_MM_put_108 rfl ?_
                    refine zz_iconst (x := 4) C d_MM_put_109 rfl ?_
                    refine zz_imul C d_MM_put_110 ?_
                    refine zz_iload_n C d_MM_put_111 rfl ?_
                    refine zz_iadd C d_MM_put_112 ?_
                    refine zz_iload C d_MM_put_113 rfl ?_
                    refine ms_7 C Nat.zero_lt_one (m_ix4 (m_obj h13) (z_vin2 h17 h22 rfl)) d_MM_put_115 ?_
                    refine zz_iconst (x := 0) C d_MM_put_116 rfl ?_
                    exact mr_i C hr rfl d_MM_put_117 (by simp only [mf_put, mf_put2, if_pos h5, if_pos h13, if_neg h17, if_neg h22, if_pos h28, if_pos h49, if_neg h60, if_pos h65, if_pos h83] <;> simp [mf_put, mf_put2, z_at]) (by simp only [mf_put, mf_put2, if_pos h5, if_pos h13, if_neg h17, if_neg h22, if_pos h28, if_pos h49, if_neg h60, if_pos h65, if_pos h83] <;> simp [mf_put, mf_put2, z_at])
                  · exact absurd h65 h83
                · refine zz_aload_n C d_MM_put_68 rfl ?_
                  refine zz_iload_n C d_MM_put_69 rfl ?_
                  refine zz_iload C d_MM_put_70 rfl ?_
                  refine mc_Vi C (mw_0 Nat.zero_lt_one) rfl s_MM_105 (c_MM_sees I (m_idle_thr h5) (m_gin (σ := σ) h65 (Or.inl h28))) rfl rfl d_MM_put_72 k_MM_sees ⟨by decide, by decide⟩ rfl ?_
                  refine zz_if_ne (tgt := 81) C d_MM_put_75 (by decide) (fun h75 => ?_) (fun h75 => ?_)
                  · refine zz_iload C d_MM_put_81 rfl ?_
                    refine zz_if_lt (tgt := 104) C d_MM_put_83 (by decide) (fun h83 => ?_) (fun h83 => ?_)
                    · exact absurd h83 h65
                    · refine zz_aload_n C d_MM_put_86 rfl ?_
                      refine zz_aload_n C d_MM_put_87 rfl ?_
                      refine zz_get C (ci := 4) (N := 16) 5 rfl zi_MM (by decide) fl_MM_26 (mw_0 Nat.zero_lt_one) rfl d_MM_put_88 ?_
                      refine zz_iload_n C d_MM_put_91 rfl ?_
                      refine zz_iald C (t0 := 0) rfl (mw_5 Nat.zero_lt_one) (m_obj h13) d_MM_put_92 ?_
                      refine zz_iload C d_MM_put_93 rfl ?_
                      refine mc_Vi C (mw_0 Nat.zero_lt_one) rfl s_MM_108 (c_MM_mayPoint I (I.2.2.1 _ (z_vlt (m_obj h13))) (m_gin (σ := σ) h83 (Or.inl h28))) rfl rfl d_MM_put_95 k_MM_mayPoint ⟨by decide, by decide⟩ rfl ?_
                      refine zz_if_ne (tgt := 104) C d_MM_put_98 (by decide) (fun h98 => ?_) (fun h98 => ?_)
                      · refine zz_aload_n C d_MM_put_104 rfl ?_
                        refine zz_get C (ci := 4) (N := 16) 7 rfl zi_MM (by decide) fl_MM_32 (mw_0 Nat.zero_lt_one) rfl d_MM_put_105 ?_
                        refine zz_iload_n C d_MM_put_108 rfl ?_
                        refine zz_iconst (x := 4) C d_MM_put_109 rfl ?_
                        refine zz_imul C d_MM_put_110 ?_
                        refine zz_iload_n C d_MM_put_111 rfl ?_
                        refine zz_iadd C d_MM_put_112 ?_
                        refine zz_iload C d_MM_put_113 rfl ?_
                        refine ms_7 C Nat.zero_lt_one (m_ix4 (m_obj h13) (z_vin2 h17 h22 rfl)) d_MM_put_115 ?_
                        refine zz_iconst (x := 0) C d_MM_put_116 rfl ?_
                        exact mr_i C hr rfl d_MM_put_117 (by simp only [mf_put, mf_put2, if_pos h5, if_pos h13, if_neg h17, if_neg h22, if_pos h28, if_pos h49, if_neg h60, if_neg h65, if_neg h75, if_neg h83, if_neg h98] <;> simp [mf_put, mf_put2, z_at]) (by simp only [mf_put, mf_put2, if_pos h5, if_pos h13, if_neg h17, if_neg h22, if_pos h28, if_pos h49, if_neg h60, if_neg h65, if_neg h75, if_neg h83, if_neg h98] <;> simp [mf_put, mf_put2, z_at])
                      · refine zz_bipush (x := -5) C d_MM_put_101 rfl ?_
                        exact mr_i C hr rfl d_MM_put_103 (by simp only [mf_put, mf_put2, if_pos h5, if_pos h13, if_neg h17, if_neg h22, if_pos h28, if_pos h49, if_neg h60, if_neg h65, if_neg h75, if_neg h83, if_pos h98] <;> simp [mf_put, mf_put2, z_at]) (by simp only [mf_put, mf_put2, if_pos h5, if_pos h13, if_neg h17, if_neg h22, if_pos h28, if_pos h49, if_neg h60, if_neg h65, if_neg h75, if_neg h83, if_pos h98] <;> simp [mf_put, mf_put2, z_at])
                  · refine zz_bipush (x := -4) C d_MM_put_78 rfl ?_
                    exact mr_i C hr rfl d_MM_put_80 (by simp only [mf_put, mf_put2, if_pos h5, if_pos h13, if_neg h17, if_neg h22, if_pos h28, if_pos h49, if_neg h60, if_neg h65, if_pos h75] <;> simp [mf_put, mf_put2, z_at]) (by simp only [mf_put, mf_put2, if_pos h5, if_pos h13, if_neg h17, if_neg h22, if_pos h28, if_pos h49, if_neg h60, if_neg h65, if_pos h75] <;> simp [mf_put, mf_put2, z_at])
            · refine zz_iconst (x := -1) C d_MM_put_52 rfl ?_
              exact mr_i C hr rfl d_MM_put_53 (by simp only [mf_put, mf_put2, if_pos h5, if_pos h13, if_neg h17, if_neg h22, if_pos h28, if_neg h49] <;> simp [mf_put, mf_put2, z_at]) (by simp only [mf_put, mf_put2, if_pos h5, if_pos h13, if_neg h17, if_neg h22, if_pos h28, if_neg h49] <;> simp [mf_put, mf_put2, z_at])
          · refine zz_aload_n C d_MM_put_31 rfl ?_
            refine zz_iload C d_MM_put_32 rfl ?_
            refine mc_Vi C (mw_0 Nat.zero_lt_one) rfl s_MM_102 c_MM_noObject rfl rfl d_MM_put_34 k_MM_noObject ⟨by decide, by decide⟩ rfl ?_
            refine zz_if_eq (tgt := 42) C d_MM_put_37 (by decide) (fun h37 => ?_) (fun h37 => ?_)
            · refine zz_iload_n C d_MM_put_42 rfl ?_
              refine zz_aload_n C d_MM_put_43 rfl ?_
              refine zz_get C (ci := 4) (N := 16) 6 rfl zi_MM (by decide) fl_MM_29 (mw_0 Nat.zero_lt_one) rfl d_MM_put_44 ?_
              refine zz_iload_n C d_MM_put_47 rfl ?_
              refine zz_iald C (t0 := 0) rfl (mw_6 Nat.zero_lt_one) (m_obj h13) d_MM_put_48 ?_
              refine zz_icmp_lt (tgt := 54) C d_MM_put_49 (by decide) (fun h49 => ?_) (fun h49 => ?_)
              · refine zz_aload_n C d_MM_put_54 rfl ?_
                refine zz_iload_n C d_MM_put_55 rfl ?_
                refine zz_iload_n C d_MM_put_56 rfl ?_
                refine mc_Vi C (mw_0 Nat.zero_lt_one) rfl s_MM_105 (c_MM_sees I (m_idle_thr h5) (m_obj h13)) rfl rfl d_MM_put_57 k_MM_sees ⟨by decide, by decide⟩ rfl ?_
                refine zz_if_eq (tgt := 78) C d_MM_put_60 (by decide) (fun h60 => ?_) (fun h60 => ?_)
                · refine zz_bipush (x := -4) C d_MM_put_78 rfl ?_
                  exact mr_i C hr rfl d_MM_put_80 (by simp only [mf_put, mf_put2, if_pos h5, if_pos h13, if_neg h17, if_neg h22, if_neg h28, if_pos h37, if_pos h49, if_pos h60] <;> simp [mf_put, mf_put2, z_at]) (by simp only [mf_put, mf_put2, if_pos h5, if_pos h13, if_neg h17, if_neg h22, if_neg h28, if_pos h37, if_pos h49, if_pos h60] <;> simp [mf_put, mf_put2, z_at])
                · refine zz_iload C d_MM_put_63 rfl ?_
                  refine zz_if_lt (tgt := 81) C d_MM_put_65 (by decide) (fun h65 => ?_) (fun h65 => ?_)
                  · refine zz_iload C d_MM_put_81 rfl ?_
                    refine zz_if_lt (tgt := 104) C d_MM_put_83 (by decide) (fun h83 => ?_) (fun h83 => ?_)
                    · refine zz_aload_n C d_MM_put_104 rfl ?_
                      refine zz_get C (ci := 4) (N := 16) 7 rfl zi_MM (by decide) fl_MM_32 (mw_0 Nat.zero_lt_one) rfl d_MM_put_105 ?_
                      refine zz_iload_n C d_MM_put_108 rfl ?_
                      refine zz_iconst (x := 4) C d_MM_put_109 rfl ?_
                      refine zz_imul C d_MM_put_110 ?_
                      refine zz_iload_n C d_MM_put_111 rfl ?_
                      refine zz_iadd C d_MM_put_112 ?_
                      refine zz_iload C d_MM_put_113 rfl ?_
                      refine ms_7 C Nat.zero_lt_one (m_ix4 (m_obj h13) (z_vin2 h17 h22 rfl)) d_MM_put_115 ?_
                      refine zz_iconst (x := 0) C d_MM_put_116 rfl ?_
                      exact mr_i C hr rfl d_MM_put_117 (by simp only [mf_put, mf_put2, if_pos h5, if_pos h13, if_neg h17, if_neg h22, if_neg h28, if_pos h37, if_pos h49, if_neg h60, if_pos h65, if_pos h83] <;> simp [mf_put, mf_put2, z_at]) (by simp only [mf_put, mf_put2, if_pos h5, if_pos h13, if_neg h17, if_neg h22, if_neg h28, if_pos h37, if_pos h49, if_neg h60, if_pos h65, if_pos h83] <;> simp [mf_put, mf_put2, z_at])
                    · exact absurd h65 h83
                  · refine zz_aload_n C d_MM_put_68 rfl ?_
                    refine zz_iload_n C d_MM_put_69 rfl ?_
                    refine zz_iload C d_MM_put_70 rfl ?_
                    refine mc_Vi C (mw_0 Nat.zero_lt_one) rfl s_MM_105 (c_MM_sees I (m_idle_thr h5) (m_gin (σ := σ) h65 (Or.inr h37))) rfl rfl d_MM_put_72 k_MM_sees ⟨by decide, by decide⟩ rfl ?_
                    refine zz_if_ne (tgt := 81) C d_MM_put_75 (by decide) (fun h75 => ?_) (fun h75 => ?_)
                    · refine zz_iload C d_MM_put_81 rfl ?_
                      refine zz_if_lt (tgt := 104) C d_MM_put_83 (by decide) (fun h83 => ?_) (fun h83 => ?_)
                      · exact absurd h83 h65
                      · refine zz_aload_n C d_MM_put_86 rfl ?_
                        refine zz_aload_n C d_MM_put_87 rfl ?_
                        refine zz_get C (ci := 4) (N := 16) 5 rfl zi_MM (by decide) fl_MM_26 (mw_0 Nat.zero_lt_one) rfl d_MM_put_88 ?_
                        refine zz_iload_n C d_MM_put_91 rfl ?_
                        refine zz_iald C (t0 := 0) rfl (mw_5 Nat.zero_lt_one) (m_obj h13) d_MM_put_92 ?_
                        refine zz_iload C d_MM_put_93 rfl ?_
                        refine mc_Vi C (mw_0 Nat.zero_lt_one) rfl s_MM_108 (c_MM_mayPoint I (I.2.2.1 _ (z_vlt (m_obj h13))) (m_gin (σ := σ) h83 (Or.inr h37))) rfl rfl d_MM_put_95 k_MM_mayPoint ⟨by decide, by decide⟩ rfl ?_
                        refine zz_if_ne (tgt := 104) C d_MM_put_98 (by decide) (fun h98 => ?_) (fun h98 => ?_)
                        · refine zz_aload_n C d_MM_put_104 rfl ?_
                          refine zz_get C (ci := 4) (N := 16) 7 rfl zi_MM (by decide) fl_MM_32 (mw_0 Nat.zero_lt_one) rfl d_MM_put_105 ?_
                          refine zz_iload_n C d_MM_put_108 rfl ?_
                          refine zz_iconst (x := 4) C d_MM_put_109 rfl ?_
                          refine zz_imul C d_MM_put_110 ?_
                          refine zz_iload_n C d_MM_put_111 rfl ?_
                          refine zz_iadd C d_MM_put_112 ?_
                          refine zz_iload C d_MM_put_113 rfl ?_
                          refine ms_7 C Nat.zero_lt_one (m_ix4 (m_obj h13) (z_vin2 h17 h22 rfl)) d_MM_put_115 ?_
                          refine zz_iconst (x := 0) C d_MM_put_116 rfl ?_
                          exact mr_i C hr rfl d_MM_put_117 (by simp only [mf_put, mf_put2, if_pos h5, if_pos h13, if_neg h17, if_neg h22, if_neg h28, if_pos h37, if_pos h49, if_neg h60, if_neg h65, if_neg h75, if_neg h83, if_neg h98] <;> simp [mf_put, mf_put2, z_at]) (by simp only [mf_put, mf_put2, if_pos h5, if_pos h13, if_neg h17, if_neg h22, if_neg h28, if_pos h37, if_pos h49, if_neg h60, if_neg h65, if_neg h75, if_neg h83, if_neg h98] <;> simp [mf_put, mf_put2, z_at])
                        · refine zz_bipush (x := -5) C d_MM_put_101 rfl ?_
                          exact mr_i C hr rfl d_MM_put_103 (by simp only [mf_put, mf_put2, if_pos h5, if_pos h13, if_neg h17, if_neg h22, if_neg h28, if_pos h37, if_pos h49, if_neg h60, if_neg h65, if_neg h75, if_neg h83, if_pos h98] <;> simp [mf_put, mf_put2, z_at]) (by simp only [mf_put, mf_put2, if_pos h5, if_pos h13, if_neg h17, if_neg h22, if_neg h28, if_pos h37, if_pos h49, if_neg h60, if_neg h65, if_neg h75, if_neg h83, if_pos h98] <;> simp [mf_put, mf_put2, z_at])
                    · refine zz_bipush (x := -4) C d_MM_put_78 rfl ?_
                      exact mr_i C hr rfl d_MM_put_80 (by simp only [mf_put, mf_put2, if_pos h5, if_pos h13, if_neg h17, if_neg h22, if_neg h28, if_pos h37, if_pos h49, if_neg h60, if_neg h65, if_pos h75] <;> simp [mf_put, mf_put2, z_at]) (by simp only [mf_put, mf_put2, if_pos h5, if_pos h13, if_neg h17, if_neg h22, if_neg h28, if_pos h37, if_pos h49, if_neg h60, if_neg h65, if_pos h75] <;> simp [mf_put, mf_put2, z_at])
              · refine zz_iconst (x := -1) C d_MM_put_52 rfl ?_
                exact mr_i C hr rfl d_MM_put_53 (by simp only [mf_put, mf_put2, if_pos h5, if_pos h13, if_neg h17, if_neg h22, if_neg h28, if_pos h37, if_neg h49] <;> simp [mf_put, mf_put2, z_at]) (by simp only [mf_put, mf_put2, if_pos h5, if_pos h13, if_neg h17, if_neg h22, if_neg h28, if_pos h37, if_neg h49] <;> simp [mf_put, mf_put2, z_at])
            · refine zz_iconst (x := -1) C d_MM_put_40 rfl ?_
              exact mr_i C hr rfl d_MM_put_41 (by simp only [mf_put, mf_put2, if_pos h5, if_pos h13, if_neg h17, if_neg h22, if_neg h28, if_neg h37] <;> simp [mf_put, mf_put2, z_at]) (by simp only [mf_put, mf_put2, if_pos h5, if_pos h13, if_neg h17, if_neg h22, if_neg h28, if_neg h37] <;> simp [mf_put, mf_put2, z_at])
set_option maxHeartbeats 400000 in
set_option maxRecDepth 100000 in
theorem c_MM_get {l : Launch} {D : va_G} {dA : Nat → ClassId} {lo n : Nat} {σ : zS} {t o f : Int32} (I : mI σ) : mM l y_MM_get b_MM_get 5 (some .int) 3 D dA lo n [.ref (ma0 lo 0), .int t, .int o, .int f] σ (some (.int (mf_get σ t o f))) σ := by
  refine zM_of (lv0 := [(0, .ref (ma0 lo 0)), (1, .int t), (2, .int o), (3, .int f)]) (by decide) rfl rfl rfl ?_
  intro p e s m below meth c C hr hnm hsz
  have C : zC p s m ([.ref (ma0 lo 0), .int t, .int o, .int f] : List Value).toArray meth c b_MM_get 5 R_MM D dA := C
  refine zz_aload_n C d_MM_get_0 rfl ?_
  refine zz_iload_n C d_MM_get_1 rfl ?_
  refine mc_Vi C (mw_0 Nat.zero_lt_one) rfl s_MM_72 c_MM_idle rfl rfl d_MM_get_2 k_MM_idle ⟨by decide, by decide⟩ rfl ?_
  refine zz_if_ne (tgt := 30) C d_MM_get_5 (by decide) (fun h5 => ?_) (fun h5 => ?_)
  · refine zz_iconst (x := -1) C d_MM_get_30 rfl ?_
    exact mr_i C hr rfl d_MM_get_31 (by simp only [mf_get, if_neg h5] <;> simp [mf_get, z_at]) rfl
  · refine zz_aload_n C d_MM_get_8 rfl ?_
    refine zz_iload_n C d_MM_get_9 rfl ?_
    refine mc_Vi C (mw_0 Nat.zero_lt_one) rfl s_MM_102 c_MM_noObject rfl rfl d_MM_get_10 k_MM_noObject ⟨by decide, by decide⟩ rfl ?_
    refine zz_if_ne (tgt := 30) C d_MM_get_13 (by decide) (fun h13 => ?_) (fun h13 => ?_)
    · refine zz_iconst (x := -1) C d_MM_get_30 rfl ?_
      exact mr_i C hr rfl d_MM_get_31 (by simp only [mf_get, if_pos h5, if_neg h13] <;> simp [mf_get, z_at]) rfl
    · refine zz_iload_n C d_MM_get_16 rfl ?_
      refine zz_if_lt (tgt := 30) C d_MM_get_17 (by decide) (fun h17 => ?_) (fun h17 => ?_)
      · refine zz_iconst (x := -1) C d_MM_get_30 rfl ?_
        exact mr_i C hr rfl d_MM_get_31 (by simp only [mf_get, if_pos h5, if_pos h13, if_pos h17] <;> simp [mf_get, z_at]) rfl
      · refine zz_iload_n C d_MM_get_20 rfl ?_
        refine zz_aload_n C d_MM_get_21 rfl ?_
        refine zz_get C (ci := 4) (N := 16) 6 rfl zi_MM (by decide) fl_MM_29 (mw_0 Nat.zero_lt_one) rfl d_MM_get_22 ?_
        refine zz_iload_n C d_MM_get_25 rfl ?_
        refine zz_iald C (t0 := 0) rfl (mw_6 Nat.zero_lt_one) (m_obj h13) d_MM_get_26 ?_
        refine zz_icmp_lt (tgt := 32) C d_MM_get_27 (by decide) (fun h27 => ?_) (fun h27 => ?_)
        · refine zz_aload_n C d_MM_get_32 rfl ?_
          refine zz_iload_n C d_MM_get_33 rfl ?_
          refine zz_iload_n C d_MM_get_34 rfl ?_
          refine mc_Vi C (mw_0 Nat.zero_lt_one) rfl s_MM_105 (c_MM_sees I (m_idle_thr h5) (m_obj h13)) rfl rfl d_MM_get_35 k_MM_sees ⟨by decide, by decide⟩ rfl ?_
          refine zz_if_ne (tgt := 44) C d_MM_get_38 (by decide) (fun h38 => ?_) (fun h38 => ?_)
          · refine zz_aload_n C d_MM_get_44 rfl ?_
            refine zz_get C (ci := 4) (N := 16) 7 rfl zi_MM (by decide) fl_MM_32 (mw_0 Nat.zero_lt_one) rfl d_MM_get_45 ?_
            refine zz_iload_n C d_MM_get_48 rfl ?_
            refine zz_iconst (x := 4) C d_MM_get_49 rfl ?_
            refine zz_imul C d_MM_get_50 ?_
            refine zz_iload_n C d_MM_get_51 rfl ?_
            refine zz_iadd C d_MM_get_52 ?_
            refine zz_iald C (t0 := 0) rfl (mw_7 Nat.zero_lt_one) (m_ix4 (m_obj h13) (m_fw I (m_obj h13) h17 h27)) d_MM_get_53 ?_
            refine zz_istore C d_MM_get_54 (by decide) ?_
            refine zz_iload C d_MM_get_56 rfl ?_
            refine zz_if_ge (tgt := 66) C d_MM_get_58 (by decide) (fun h58 => ?_) (fun h58 => ?_)
            · refine zz_aload_n C d_MM_get_66 rfl ?_
              refine zz_iload_n C d_MM_get_67 rfl ?_
              refine zz_iload C d_MM_get_68 rfl ?_
              refine mc_Vi C (mw_0 Nat.zero_lt_one) rfl s_MM_105 (c_MM_sees I (m_idle_thr h5) (z_nle (I.2.2.2.2.1 _ (z_vlt (m_ix4 (m_obj h13) (m_fw I (m_obj h13) h17 h27)))) h58)) rfl rfl d_MM_get_70 k_MM_sees ⟨by decide, by decide⟩ rfl ?_
              refine zz_if_eq (tgt := 81) C d_MM_get_73 (by decide) (fun h73 => ?_) (fun h73 => ?_)
              · refine zz_bipush (x := -4) C d_MM_get_81 rfl ?_
                exact mr_i C hr rfl d_MM_get_83 (by simp only [mf_get, if_pos h5, if_pos h13, if_neg h17, if_pos h27, if_neg h38, if_pos h58, if_pos h73] <;> simp [mf_get, z_at]) rfl
              · refine zz_iload C d_MM_get_76 rfl ?_
                refine zz_goto (tgt := 83) C d_MM_get_78 (by decide) ?_
                exact mr_i C hr rfl d_MM_get_83 (by simp only [mf_get, if_pos h5, if_pos h13, if_neg h17, if_pos h27, if_neg h38, if_pos h58, if_neg h73] <;> simp [mf_get, z_at]) rfl
            · refine zz_bipush (x := -6) C d_MM_get_61 rfl ?_
              refine zz_goto (tgt := 83) C d_MM_get_63 (by decide) ?_
              exact mr_i C hr rfl d_MM_get_83 (by simp only [mf_get, if_pos h5, if_pos h13, if_neg h17, if_pos h27, if_neg h38, if_neg h58] <;> simp [mf_get, z_at]) rfl
          · refine zz_bipush (x := -4) C d_MM_get_41 rfl ?_
            exact mr_i C hr rfl d_MM_get_43 (by simp only [mf_get, if_pos h5, if_pos h13, if_neg h17, if_pos h27, if_pos h38] <;> simp [mf_get, z_at]) rfl
        · refine zz_iconst (x := -1) C d_MM_get_30 rfl ?_
          exact mr_i C hr rfl d_MM_get_31 (by simp only [mf_get, if_pos h5, if_pos h13, if_neg h17, if_neg h27] <;> simp [mf_get, z_at]) rfl
set_option maxHeartbeats 400000 in
set_option maxRecDepth 100000 in
theorem c_MM_hang {l : Launch} {D : va_G} {dA : Nat → ClassId} {lo n : Nat} {σ : zS} {t z o : Int32} (I : mI σ) : mM l y_MM_hang b_MM_hang 4 (some .int) 3 D dA lo n [.ref (ma0 lo 0), .int t, .int z, .int o] σ (some (.int ((mf_hang σ t z o).1))) ((mf_hang σ t z o).2) := by
  refine zM_of (lv0 := [(0, .ref (ma0 lo 0)), (1, .int t), (2, .int z), (3, .int o)]) (by decide) rfl rfl rfl ?_
  intro p e s m below meth c C hr hnm hsz
  have C : zC p s m ([.ref (ma0 lo 0), .int t, .int z, .int o] : List Value).toArray meth c b_MM_hang 4 R_MM D dA := C
  refine zz_aload_n C d_MM_hang_0 rfl ?_
  refine zz_iload_n C d_MM_hang_1 rfl ?_
  refine mc_Vi C (mw_0 Nat.zero_lt_one) rfl s_MM_72 c_MM_idle rfl rfl d_MM_hang_2 k_MM_idle ⟨by decide, by decide⟩ rfl ?_
  refine zz_if_ne (tgt := 29) C d_MM_hang_5 (by decide) (fun h5 => ?_) (fun h5 => ?_)
  · refine zz_iconst (x := -1) C d_MM_hang_29 rfl ?_
    exact mr_i C hr rfl d_MM_hang_30 (by simp only [mf_hang, mf_hang2, if_neg h5] <;> simp [mf_hang, mf_hang2, z_at]) (by simp only [mf_hang, mf_hang2, if_neg h5] <;> simp [mf_hang, mf_hang2, z_at])
  · refine zz_aload_n C d_MM_hang_8 rfl ?_
    refine zz_iload_n C d_MM_hang_9 rfl ?_
    refine mc_Vi C (mw_0 Nat.zero_lt_one) rfl s_MM_76 c_MM_noScope rfl rfl d_MM_hang_10 k_MM_noScope ⟨by decide, by decide⟩ rfl ?_
    refine zz_if_ne (tgt := 29) C d_MM_hang_13 (by decide) (fun h13 => ?_) (fun h13 => ?_)
    · refine zz_iconst (x := -1) C d_MM_hang_29 rfl ?_
      exact mr_i C hr rfl d_MM_hang_30 (by simp only [mf_hang, mf_hang2, if_pos h5, if_neg h13] <;> simp [mf_hang, mf_hang2, z_at]) (by simp only [mf_hang, mf_hang2, if_pos h5, if_neg h13] <;> simp [mf_hang, mf_hang2, z_at])
    · refine zz_iload_n C d_MM_hang_16 rfl ?_
      refine zz_iconst (x := -1) C d_MM_hang_17 rfl ?_
      refine zz_icmp_eq (tgt := 31) C d_MM_hang_18 (by decide) (fun h18 => ?_) (fun h18 => ?_)
      · refine zz_aload_n C d_MM_hang_31 rfl ?_
        refine zz_iload_n C d_MM_hang_32 rfl ?_
        refine zz_iload_n C d_MM_hang_33 rfl ?_
        refine mc_Vi C (mw_0 Nat.zero_lt_one) rfl s_MM_79 (c_MM_stepWith I (m_idle_thr h5)) rfl rfl d_MM_hang_34 k_MM_stepWith ⟨by decide, by decide⟩ rfl ?_
        refine zz_if_lt (tgt := 53) C d_MM_hang_37 (by decide) (fun h37 => ?_) (fun h37 => ?_)
        · refine zz_bipush (x := -4) C d_MM_hang_53 rfl ?_
          exact mr_i C hr rfl d_MM_hang_55 (by simp only [mf_hang, mf_hang2, if_pos h5, if_pos h13, if_pos h18, if_pos h37] <;> simp [mf_hang, mf_hang2, z_at]) (by simp only [mf_hang, mf_hang2, if_pos h5, if_pos h13, if_pos h18, if_pos h37] <;> simp [mf_hang, mf_hang2, z_at])
        · refine zz_iload_n C d_MM_hang_40 rfl ?_
          refine zz_if_lt (tgt := 56) C d_MM_hang_41 (by decide) (fun h41 => ?_) (fun h41 => ?_)
          · refine zz_iload_n C d_MM_hang_56 rfl ?_
            refine zz_if_lt (tgt := 73) C d_MM_hang_57 (by decide) (fun h57 => ?_) (fun h57 => ?_)
            · refine zz_aload_n C d_MM_hang_73 rfl ?_
              refine zz_get C (ci := 4) (N := 16) 4 rfl zi_MM (by decide) fl_MM_23 (mw_0 Nat.zero_lt_one) rfl d_MM_hang_74 ?_
              refine zz_iload_n C d_MM_hang_77 rfl ?_
              refine zz_iload_n C d_MM_hang_78 rfl ?_
              refine ms_4 C Nat.zero_lt_one (m_scope_in I h13) d_MM_hang_79 ?_
              refine zz_iconst (x := 0) C d_MM_hang_80 rfl ?_
              exact mr_i C hr rfl d_MM_hang_81 (by simp only [mf_hang, mf_hang2, if_pos h5, if_pos h13, if_pos h18, if_neg h37, if_pos h41, if_pos h57] <;> simp [mf_hang, mf_hang2, z_at]) (by simp only [mf_hang, mf_hang2, if_pos h5, if_pos h13, if_pos h18, if_neg h37, if_pos h41, if_pos h57] <;> simp [mf_hang, mf_hang2, z_at])
            · exact absurd h41 h57
          · refine zz_aload_n C d_MM_hang_44 rfl ?_
            refine zz_iload_n C d_MM_hang_45 rfl ?_
            refine zz_iload_n C d_MM_hang_46 rfl ?_
            refine mc_Vi C (mw_0 Nat.zero_lt_one) rfl s_MM_105 (c_MM_sees I (m_idle_thr h5) (m_gin (σ := σ) h41 (Or.inl h18))) rfl rfl d_MM_hang_47 k_MM_sees ⟨by decide, by decide⟩ rfl ?_
            refine zz_if_ne (tgt := 56) C d_MM_hang_50 (by decide) (fun h50 => ?_) (fun h50 => ?_)
            · refine zz_iload_n C d_MM_hang_56 rfl ?_
              refine zz_if_lt (tgt := 73) C d_MM_hang_57 (by decide) (fun h57 => ?_) (fun h57 => ?_)
              · exact absurd h57 h41
              · refine zz_aload_n C d_MM_hang_60 rfl ?_
                refine zz_get C (ci := 4) (N := 16) 5 rfl zi_MM (by decide) fl_MM_26 (mw_0 Nat.zero_lt_one) rfl d_MM_hang_61 ?_
                refine zz_iload_n C d_MM_hang_64 rfl ?_
                refine zz_iald C (t0 := 0) rfl (mw_5 Nat.zero_lt_one) (m_gin (σ := σ) h57 (Or.inl h18)) d_MM_hang_65 ?_
                refine zz_iload_n C d_MM_hang_66 rfl ?_
                refine zz_icmp_eq (tgt := 73) C d_MM_hang_67 (by decide) (fun h67 => ?_) (fun h67 => ?_)
                · refine zz_aload_n C d_MM_hang_73 rfl ?_
                  refine zz_get C (ci := 4) (N := 16) 4 rfl zi_MM (by decide) fl_MM_23 (mw_0 Nat.zero_lt_one) rfl d_MM_hang_74 ?_
                  refine zz_iload_n C d_MM_hang_77 rfl ?_
                  refine zz_iload_n C d_MM_hang_78 rfl ?_
                  refine ms_4 C Nat.zero_lt_one (m_scope_in I h13) d_MM_hang_79 ?_
                  refine zz_iconst (x := 0) C d_MM_hang_80 rfl ?_
                  exact mr_i C hr rfl d_MM_hang_81 (by simp only [mf_hang, mf_hang2, if_pos h5, if_pos h13, if_pos h18, if_neg h37, if_neg h41, if_neg h50, if_neg h57, if_pos h67] <;> simp [mf_hang, mf_hang2, z_at]) (by simp only [mf_hang, mf_hang2, if_pos h5, if_pos h13, if_pos h18, if_neg h37, if_neg h41, if_neg h50, if_neg h57, if_pos h67] <;> simp [mf_hang, mf_hang2, z_at])
                · refine zz_bipush (x := -5) C d_MM_hang_70 rfl ?_
                  exact mr_i C hr rfl d_MM_hang_72 (by simp only [mf_hang, mf_hang2, if_pos h5, if_pos h13, if_pos h18, if_neg h37, if_neg h41, if_neg h50, if_neg h57, if_neg h67] <;> simp [mf_hang, mf_hang2, z_at]) (by simp only [mf_hang, mf_hang2, if_pos h5, if_pos h13, if_pos h18, if_neg h37, if_neg h41, if_neg h50, if_neg h57, if_neg h67] <;> simp [mf_hang, mf_hang2, z_at])
            · refine zz_bipush (x := -4) C d_MM_hang_53 rfl ?_
              exact mr_i C hr rfl d_MM_hang_55 (by simp only [mf_hang, mf_hang2, if_pos h5, if_pos h13, if_pos h18, if_neg h37, if_neg h41, if_pos h50] <;> simp [mf_hang, mf_hang2, z_at]) (by simp only [mf_hang, mf_hang2, if_pos h5, if_pos h13, if_pos h18, if_neg h37, if_neg h41, if_pos h50] <;> simp [mf_hang, mf_hang2, z_at])
      · refine zz_aload_n C d_MM_hang_21 rfl ?_
        refine zz_iload_n C d_MM_hang_22 rfl ?_
        refine mc_Vi C (mw_0 Nat.zero_lt_one) rfl s_MM_102 c_MM_noObject rfl rfl d_MM_hang_23 k_MM_noObject ⟨by decide, by decide⟩ rfl ?_
        refine zz_if_eq (tgt := 31) C d_MM_hang_26 (by decide) (fun h26 => ?_) (fun h26 => ?_)
        · refine zz_aload_n C d_MM_hang_31 rfl ?_
          refine zz_iload_n C d_MM_hang_32 rfl ?_
          refine zz_iload_n C d_MM_hang_33 rfl ?_
          refine mc_Vi C (mw_0 Nat.zero_lt_one) rfl s_MM_79 (c_MM_stepWith I (m_idle_thr h5)) rfl rfl d_MM_hang_34 k_MM_stepWith ⟨by decide, by decide⟩ rfl ?_
          refine zz_if_lt (tgt := 53) C d_MM_hang_37 (by decide) (fun h37 => ?_) (fun h37 => ?_)
          · refine zz_bipush (x := -4) C d_MM_hang_53 rfl ?_
            exact mr_i C hr rfl d_MM_hang_55 (by simp only [mf_hang, mf_hang2, if_pos h5, if_pos h13, if_neg h18, if_pos h26, if_pos h37] <;> simp [mf_hang, mf_hang2, z_at]) (by simp only [mf_hang, mf_hang2, if_pos h5, if_pos h13, if_neg h18, if_pos h26, if_pos h37] <;> simp [mf_hang, mf_hang2, z_at])
          · refine zz_iload_n C d_MM_hang_40 rfl ?_
            refine zz_if_lt (tgt := 56) C d_MM_hang_41 (by decide) (fun h41 => ?_) (fun h41 => ?_)
            · refine zz_iload_n C d_MM_hang_56 rfl ?_
              refine zz_if_lt (tgt := 73) C d_MM_hang_57 (by decide) (fun h57 => ?_) (fun h57 => ?_)
              · refine zz_aload_n C d_MM_hang_73 rfl ?_
                refine zz_get C (ci := 4) (N := 16) 4 rfl zi_MM (by decide) fl_MM_23 (mw_0 Nat.zero_lt_one) rfl d_MM_hang_74 ?_
                refine zz_iload_n C d_MM_hang_77 rfl ?_
                refine zz_iload_n C d_MM_hang_78 rfl ?_
                refine ms_4 C Nat.zero_lt_one (m_scope_in I h13) d_MM_hang_79 ?_
                refine zz_iconst (x := 0) C d_MM_hang_80 rfl ?_
                exact mr_i C hr rfl d_MM_hang_81 (by simp only [mf_hang, mf_hang2, if_pos h5, if_pos h13, if_neg h18, if_pos h26, if_neg h37, if_pos h41, if_pos h57] <;> simp [mf_hang, mf_hang2, z_at]) (by simp only [mf_hang, mf_hang2, if_pos h5, if_pos h13, if_neg h18, if_pos h26, if_neg h37, if_pos h41, if_pos h57] <;> simp [mf_hang, mf_hang2, z_at])
              · exact absurd h41 h57
            · refine zz_aload_n C d_MM_hang_44 rfl ?_
              refine zz_iload_n C d_MM_hang_45 rfl ?_
              refine zz_iload_n C d_MM_hang_46 rfl ?_
              refine mc_Vi C (mw_0 Nat.zero_lt_one) rfl s_MM_105 (c_MM_sees I (m_idle_thr h5) (m_gin (σ := σ) h41 (Or.inr h26))) rfl rfl d_MM_hang_47 k_MM_sees ⟨by decide, by decide⟩ rfl ?_
              refine zz_if_ne (tgt := 56) C d_MM_hang_50 (by decide) (fun h50 => ?_) (fun h50 => ?_)
              · refine zz_iload_n C d_MM_hang_56 rfl ?_
                refine zz_if_lt (tgt := 73) C d_MM_hang_57 (by decide) (fun h57 => ?_) (fun h57 => ?_)
                · exact absurd h57 h41
                · refine zz_aload_n C d_MM_hang_60 rfl ?_
                  refine zz_get C (ci := 4) (N := 16) 5 rfl zi_MM (by decide) fl_MM_26 (mw_0 Nat.zero_lt_one) rfl d_MM_hang_61 ?_
                  refine zz_iload_n C d_MM_hang_64 rfl ?_
                  refine zz_iald C (t0 := 0) rfl (mw_5 Nat.zero_lt_one) (m_gin (σ := σ) h57 (Or.inr h26)) d_MM_hang_65 ?_
                  refine zz_iload_n C d_MM_hang_66 rfl ?_
                  refine zz_icmp_eq (tgt := 73) C d_MM_hang_67 (by decide) (fun h67 => ?_) (fun h67 => ?_)
                  · refine zz_aload_n C d_MM_hang_73 rfl ?_
                    refine zz_get C (ci := 4) (N := 16) 4 rfl zi_MM (by decide) fl_MM_23 (mw_0 Nat.zero_lt_one) rfl d_MM_hang_74 ?_
                    refine zz_iload_n C d_MM_hang_77 rfl ?_
                    refine zz_iload_n C d_MM_hang_78 rfl ?_
                    refine ms_4 C Nat.zero_lt_one (m_scope_in I h13) d_MM_hang_79 ?_
                    refine zz_iconst (x := 0) C d_MM_hang_80 rfl ?_
                    exact mr_i C hr rfl d_MM_hang_81 (by simp only [mf_hang, mf_hang2, if_pos h5, if_pos h13, if_neg h18, if_pos h26, if_neg h37, if_neg h41, if_neg h50, if_neg h57, if_pos h67] <;> simp [mf_hang, mf_hang2, z_at]) (by simp only [mf_hang, mf_hang2, if_pos h5, if_pos h13, if_neg h18, if_pos h26, if_neg h37, if_neg h41, if_neg h50, if_neg h57, if_pos h67] <;> simp [mf_hang, mf_hang2, z_at])
                  · refine zz_bipush (x := -5) C d_MM_hang_70 rfl ?_
                    exact mr_i C hr rfl d_MM_hang_72 (by simp only [mf_hang, mf_hang2, if_pos h5, if_pos h13, if_neg h18, if_pos h26, if_neg h37, if_neg h41, if_neg h50, if_neg h57, if_neg h67] <;> simp [mf_hang, mf_hang2, z_at]) (by simp only [mf_hang, mf_hang2, if_pos h5, if_pos h13, if_neg h18, if_pos h26, if_neg h37, if_neg h41, if_neg h50, if_neg h57, if_neg h67] <;> simp [mf_hang, mf_hang2, z_at])
              · refine zz_bipush (x := -4) C d_MM_hang_53 rfl ?_
                exact mr_i C hr rfl d_MM_hang_55 (by simp only [mf_hang, mf_hang2, if_pos h5, if_pos h13, if_neg h18, if_pos h26, if_neg h37, if_neg h41, if_pos h50] <;> simp [mf_hang, mf_hang2, z_at]) (by simp only [mf_hang, mf_hang2, if_pos h5, if_pos h13, if_neg h18, if_pos h26, if_neg h37, if_neg h41, if_pos h50] <;> simp [mf_hang, mf_hang2, z_at])
        · refine zz_iconst (x := -1) C d_MM_hang_29 rfl ?_
          exact mr_i C hr rfl d_MM_hang_30 (by simp only [mf_hang, mf_hang2, if_pos h5, if_pos h13, if_neg h18, if_neg h26] <;> simp [mf_hang, mf_hang2, z_at]) (by simp only [mf_hang, mf_hang2, if_pos h5, if_pos h13, if_neg h18, if_neg h26] <;> simp [mf_hang, mf_hang2, z_at])
set_option maxHeartbeats 400000 in
set_option maxRecDepth 100000 in
theorem c_MM_portal {l : Launch} {D : va_G} {dA : Nat → ClassId} {lo n : Nat} {σ : zS} {t z : Int32} (I : mI σ) : mM l y_MM_portal b_MM_portal 3 (some .int) 2 D dA lo n [.ref (ma0 lo 0), .int t, .int z] σ (some (.int (mf_portal σ t z))) σ := by
  refine zM_of (lv0 := [(0, .ref (ma0 lo 0)), (1, .int t), (2, .int z)]) (by decide) rfl rfl rfl ?_
  intro p e s m below meth c C hr hnm hsz
  have C : zC p s m ([.ref (ma0 lo 0), .int t, .int z] : List Value).toArray meth c b_MM_portal 3 R_MM D dA := C
  refine zz_aload_n C d_MM_portal_0 rfl ?_
  refine zz_iload_n C d_MM_portal_1 rfl ?_
  refine mc_Vi C (mw_0 Nat.zero_lt_one) rfl s_MM_72 c_MM_idle rfl rfl d_MM_portal_2 k_MM_idle ⟨by decide, by decide⟩ rfl ?_
  refine zz_if_ne (tgt := 16) C d_MM_portal_5 (by decide) (fun h5 => ?_) (fun h5 => ?_)
  · refine zz_iconst (x := -1) C d_MM_portal_16 rfl ?_
    exact mr_i C hr rfl d_MM_portal_17 (by simp only [mf_portal, if_neg h5] <;> simp [mf_portal, z_at]) rfl
  · refine zz_aload_n C d_MM_portal_8 rfl ?_
    refine zz_iload_n C d_MM_portal_9 rfl ?_
    refine mc_Vi C (mw_0 Nat.zero_lt_one) rfl s_MM_76 c_MM_noScope rfl rfl d_MM_portal_10 k_MM_noScope ⟨by decide, by decide⟩ rfl ?_
    refine zz_if_eq (tgt := 18) C d_MM_portal_13 (by decide) (fun h13 => ?_) (fun h13 => ?_)
    · refine zz_aload_n C d_MM_portal_18 rfl ?_
      refine zz_iload_n C d_MM_portal_19 rfl ?_
      refine zz_iload_n C d_MM_portal_20 rfl ?_
      refine mc_Vi C (mw_0 Nat.zero_lt_one) rfl s_MM_79 (c_MM_stepWith I (m_idle_thr h5)) rfl rfl d_MM_portal_21 k_MM_stepWith ⟨by decide, by decide⟩ rfl ?_
      refine zz_if_ge (tgt := 30) C d_MM_portal_24 (by decide) (fun h24 => ?_) (fun h24 => ?_)
      · refine zz_aload_n C d_MM_portal_30 rfl ?_
        refine zz_get C (ci := 4) (N := 16) 4 rfl zi_MM (by decide) fl_MM_23 (mw_0 Nat.zero_lt_one) rfl d_MM_portal_31 ?_
        refine zz_iload_n C d_MM_portal_34 rfl ?_
        refine zz_iald C (t0 := 0) rfl (mw_4 Nat.zero_lt_one) (m_scope_in I h13) d_MM_portal_35 ?_
        refine zz_if_ge (tgt := 44) C d_MM_portal_36 (by decide) (fun h36 => ?_) (fun h36 => ?_)
        · refine zz_aload_n C d_MM_portal_44 rfl ?_
          refine zz_get C (ci := 4) (N := 16) 4 rfl zi_MM (by decide) fl_MM_23 (mw_0 Nat.zero_lt_one) rfl d_MM_portal_45 ?_
          refine zz_iload_n C d_MM_portal_48 rfl ?_
          refine zz_iald C (t0 := 0) rfl (mw_4 Nat.zero_lt_one) (m_scope_in I h13) d_MM_portal_49 ?_
          exact mr_i C hr rfl d_MM_portal_50 (by simp only [mf_portal, if_pos h5, if_pos h13, if_pos h24, if_pos h36] <;> simp [mf_portal, z_at]) rfl
        · refine zz_bipush (x := -6) C d_MM_portal_39 rfl ?_
          refine zz_goto (tgt := 50) C d_MM_portal_41 (by decide) ?_
          exact mr_i C hr rfl d_MM_portal_50 (by simp only [mf_portal, if_pos h5, if_pos h13, if_pos h24, if_neg h36] <;> simp [mf_portal, z_at]) rfl
      · refine zz_bipush (x := -4) C d_MM_portal_27 rfl ?_
        exact mr_i C hr rfl d_MM_portal_29 (by simp only [mf_portal, if_pos h5, if_pos h13, if_neg h24] <;> simp [mf_portal, z_at]) rfl
    · refine zz_iconst (x := -1) C d_MM_portal_16 rfl ?_
      exact mr_i C hr rfl d_MM_portal_17 (by simp only [mf_portal, if_pos h5, if_neg h13] <;> simp [mf_portal, z_at]) rfl
set_option maxHeartbeats 400000 in
set_option maxRecDepth 100000 in
theorem c_MM_assign {l : Launch} {D : va_G} {dA : Nat → ClassId} {lo n : Nat} {σ : zS} {t k o : Int32} (I : mI σ) : mM l y_MM_assign b_MM_assign 4 (some .int) 3 D dA lo n [.ref (ma0 lo 0), .int t, .int k, .int o] σ (some (.int ((mf_assign σ t k o).1))) ((mf_assign σ t k o).2) := by
  refine zM_of (lv0 := [(0, .ref (ma0 lo 0)), (1, .int t), (2, .int k), (3, .int o)]) (by decide) rfl rfl rfl ?_
  intro p e s m below meth c C hr hnm hsz
  have C : zC p s m ([.ref (ma0 lo 0), .int t, .int k, .int o] : List Value).toArray meth c b_MM_assign 4 R_MM D dA := C
  refine zz_aload_n C d_MM_assign_0 rfl ?_
  refine zz_iload_n C d_MM_assign_1 rfl ?_
  refine mc_Vi C (mw_0 Nat.zero_lt_one) rfl s_MM_72 c_MM_idle rfl rfl d_MM_assign_2 k_MM_idle ⟨by decide, by decide⟩ rfl ?_
  refine zz_if_ne (tgt := 30) C d_MM_assign_5 (by decide) (fun h5 => ?_) (fun h5 => ?_)
  · refine zz_iconst (x := -1) C d_MM_assign_30 rfl ?_
    exact mr_i C hr rfl d_MM_assign_31 (by simp only [mf_assign, mf_assign2, if_neg h5] <;> simp [mf_assign, mf_assign2, z_at]) (by simp only [mf_assign, mf_assign2, if_neg h5] <;> simp [mf_assign, mf_assign2, z_at])
  · refine zz_iload_n C d_MM_assign_8 rfl ?_
    refine zz_if_lt (tgt := 30) C d_MM_assign_9 (by decide) (fun h9 => ?_) (fun h9 => ?_)
    · refine zz_iconst (x := -1) C d_MM_assign_30 rfl ?_
      exact mr_i C hr rfl d_MM_assign_31 (by simp only [mf_assign, mf_assign2, if_pos h5, if_pos h9] <;> simp [mf_assign, mf_assign2, z_at]) (by simp only [mf_assign, mf_assign2, if_pos h5, if_pos h9] <;> simp [mf_assign, mf_assign2, z_at])
    · refine zz_iload_n C d_MM_assign_12 rfl ?_
      refine zz_iconst (x := 3) C d_MM_assign_13 rfl ?_
      refine zz_icmp_gt (tgt := 30) C d_MM_assign_14 (by decide) (fun h14 => ?_) (fun h14 => ?_)
      · refine zz_iconst (x := -1) C d_MM_assign_30 rfl ?_
        exact mr_i C hr rfl d_MM_assign_31 (by simp only [mf_assign, mf_assign2, if_pos h5, if_neg h9, if_pos h14] <;> simp [mf_assign, mf_assign2, z_at]) (by simp only [mf_assign, mf_assign2, if_pos h5, if_neg h9, if_pos h14] <;> simp [mf_assign, mf_assign2, z_at])
      · refine zz_iload_n C d_MM_assign_17 rfl ?_
        refine zz_iconst (x := -1) C d_MM_assign_18 rfl ?_
        refine zz_icmp_eq (tgt := 32) C d_MM_assign_19 (by decide) (fun h19 => ?_) (fun h19 => ?_)
        · refine zz_iload_n C d_MM_assign_32 rfl ?_
          refine zz_if_lt (tgt := 48) C d_MM_assign_33 (by decide) (fun h33 => ?_) (fun h33 => ?_)
          · refine zz_iload_n C d_MM_assign_48 rfl ?_
            refine zz_if_lt (tgt := 65) C d_MM_assign_49 (by decide) (fun h49 => ?_) (fun h49 => ?_)
            · refine zz_aload_n C d_MM_assign_65 rfl ?_
              refine zz_get C (ci := 4) (N := 16) 15 rfl zi_MM (by decide) fl_MM_57 (mw_0 Nat.zero_lt_one) rfl d_MM_assign_66 ?_
              refine zz_iload_n C d_MM_assign_69 rfl ?_
              refine zz_iload_n C d_MM_assign_70 rfl ?_
              refine ms_15 C Nat.zero_lt_one (z_vin2 h9 h14 rfl) d_MM_assign_71 ?_
              refine zz_iconst (x := 0) C d_MM_assign_72 rfl ?_
              exact mr_i C hr rfl d_MM_assign_73 (by simp only [mf_assign, mf_assign2, if_pos h5, if_neg h9, if_neg h14, if_pos h19, if_pos h33, if_pos h49] <;> simp [mf_assign, mf_assign2, z_at]) (by simp only [mf_assign, mf_assign2, if_pos h5, if_neg h9, if_neg h14, if_pos h19, if_pos h33, if_pos h49] <;> simp [mf_assign, mf_assign2, z_at])
            · exact absurd h33 h49
          · refine zz_aload_n C d_MM_assign_36 rfl ?_
            refine zz_iload_n C d_MM_assign_37 rfl ?_
            refine zz_iload_n C d_MM_assign_38 rfl ?_
            refine mc_Vi C (mw_0 Nat.zero_lt_one) rfl s_MM_105 (c_MM_sees I (m_idle_thr h5) (m_gin (σ := σ) h33 (Or.inl h19))) rfl rfl d_MM_assign_39 k_MM_sees ⟨by decide, by decide⟩ rfl ?_
            refine zz_if_ne (tgt := 48) C d_MM_assign_42 (by decide) (fun h42 => ?_) (fun h42 => ?_)
            · refine zz_iload_n C d_MM_assign_48 rfl ?_
              refine zz_if_lt (tgt := 65) C d_MM_assign_49 (by decide) (fun h49 => ?_) (fun h49 => ?_)
              · exact absurd h49 h33
              · refine zz_aload_n C d_MM_assign_52 rfl ?_
                refine zz_get C (ci := 4) (N := 16) 5 rfl zi_MM (by decide) fl_MM_26 (mw_0 Nat.zero_lt_one) rfl d_MM_assign_53 ?_
                refine zz_iload_n C d_MM_assign_56 rfl ?_
                refine zz_iald C (t0 := 0) rfl (mw_5 Nat.zero_lt_one) (m_gin (σ := σ) h49 (Or.inl h19)) d_MM_assign_57 ?_
                refine zz_iconst (x := 1) C d_MM_assign_58 rfl ?_
                refine zz_icmp_le (tgt := 65) C d_MM_assign_59 (by decide) (fun h59 => ?_) (fun h59 => ?_)
                · refine zz_aload_n C d_MM_assign_65 rfl ?_
                  refine zz_get C (ci := 4) (N := 16) 15 rfl zi_MM (by decide) fl_MM_57 (mw_0 Nat.zero_lt_one) rfl d_MM_assign_66 ?_
                  refine zz_iload_n C d_MM_assign_69 rfl ?_
                  refine zz_iload_n C d_MM_assign_70 rfl ?_
                  refine ms_15 C Nat.zero_lt_one (z_vin2 h9 h14 rfl) d_MM_assign_71 ?_
                  refine zz_iconst (x := 0) C d_MM_assign_72 rfl ?_
                  exact mr_i C hr rfl d_MM_assign_73 (by simp only [mf_assign, mf_assign2, if_pos h5, if_neg h9, if_neg h14, if_pos h19, if_neg h33, if_neg h42, if_neg h49, if_pos h59] <;> simp [mf_assign, mf_assign2, z_at]) (by simp only [mf_assign, mf_assign2, if_pos h5, if_neg h9, if_neg h14, if_pos h19, if_neg h33, if_neg h42, if_neg h49, if_pos h59] <;> simp [mf_assign, mf_assign2, z_at])
                · refine zz_bipush (x := -5) C d_MM_assign_62 rfl ?_
                  exact mr_i C hr rfl d_MM_assign_64 (by simp only [mf_assign, mf_assign2, if_pos h5, if_neg h9, if_neg h14, if_pos h19, if_neg h33, if_neg h42, if_neg h49, if_neg h59] <;> simp [mf_assign, mf_assign2, z_at]) (by simp only [mf_assign, mf_assign2, if_pos h5, if_neg h9, if_neg h14, if_pos h19, if_neg h33, if_neg h42, if_neg h49, if_neg h59] <;> simp [mf_assign, mf_assign2, z_at])
            · refine zz_bipush (x := -4) C d_MM_assign_45 rfl ?_
              exact mr_i C hr rfl d_MM_assign_47 (by simp only [mf_assign, mf_assign2, if_pos h5, if_neg h9, if_neg h14, if_pos h19, if_neg h33, if_pos h42] <;> simp [mf_assign, mf_assign2, z_at]) (by simp only [mf_assign, mf_assign2, if_pos h5, if_neg h9, if_neg h14, if_pos h19, if_neg h33, if_pos h42] <;> simp [mf_assign, mf_assign2, z_at])
        · refine zz_aload_n C d_MM_assign_22 rfl ?_
          refine zz_iload_n C d_MM_assign_23 rfl ?_
          refine mc_Vi C (mw_0 Nat.zero_lt_one) rfl s_MM_102 c_MM_noObject rfl rfl d_MM_assign_24 k_MM_noObject ⟨by decide, by decide⟩ rfl ?_
          refine zz_if_eq (tgt := 32) C d_MM_assign_27 (by decide) (fun h27 => ?_) (fun h27 => ?_)
          · refine zz_iload_n C d_MM_assign_32 rfl ?_
            refine zz_if_lt (tgt := 48) C d_MM_assign_33 (by decide) (fun h33 => ?_) (fun h33 => ?_)
            · refine zz_iload_n C d_MM_assign_48 rfl ?_
              refine zz_if_lt (tgt := 65) C d_MM_assign_49 (by decide) (fun h49 => ?_) (fun h49 => ?_)
              · refine zz_aload_n C d_MM_assign_65 rfl ?_
                refine zz_get C (ci := 4) (N := 16) 15 rfl zi_MM (by decide) fl_MM_57 (mw_0 Nat.zero_lt_one) rfl d_MM_assign_66 ?_
                refine zz_iload_n C d_MM_assign_69 rfl ?_
                refine zz_iload_n C d_MM_assign_70 rfl ?_
                refine ms_15 C Nat.zero_lt_one (z_vin2 h9 h14 rfl) d_MM_assign_71 ?_
                refine zz_iconst (x := 0) C d_MM_assign_72 rfl ?_
                exact mr_i C hr rfl d_MM_assign_73 (by simp only [mf_assign, mf_assign2, if_pos h5, if_neg h9, if_neg h14, if_neg h19, if_pos h27, if_pos h33, if_pos h49] <;> simp [mf_assign, mf_assign2, z_at]) (by simp only [mf_assign, mf_assign2, if_pos h5, if_neg h9, if_neg h14, if_neg h19, if_pos h27, if_pos h33, if_pos h49] <;> simp [mf_assign, mf_assign2, z_at])
              · exact absurd h33 h49
            · refine zz_aload_n C d_MM_assign_36 rfl ?_
              refine zz_iload_n C d_MM_assign_37 rfl ?_
              refine zz_iload_n C d_MM_assign_38 rfl ?_
              refine mc_Vi C (mw_0 Nat.zero_lt_one) rfl s_MM_105 (c_MM_sees I (m_idle_thr h5) (m_gin (σ := σ) h33 (Or.inr h27))) rfl rfl d_MM_assign_39 k_MM_sees ⟨by decide, by decide⟩ rfl ?_
              refine zz_if_ne (tgt := 48) C d_MM_assign_42 (by decide) (fun h42 => ?_) (fun h42 => ?_)
              · refine zz_iload_n C d_MM_assign_48 rfl ?_
                refine zz_if_lt (tgt := 65) C d_MM_assign_49 (by decide) (fun h49 => ?_) (fun h49 => ?_)
                · exact absurd h49 h33
                · refine zz_aload_n C d_MM_assign_52 rfl ?_
                  refine zz_get C (ci := 4) (N := 16) 5 rfl zi_MM (by decide) fl_MM_26 (mw_0 Nat.zero_lt_one) rfl d_MM_assign_53 ?_
                  refine zz_iload_n C d_MM_assign_56 rfl ?_
                  refine zz_iald C (t0 := 0) rfl (mw_5 Nat.zero_lt_one) (m_gin (σ := σ) h49 (Or.inr h27)) d_MM_assign_57 ?_
                  refine zz_iconst (x := 1) C d_MM_assign_58 rfl ?_
                  refine zz_icmp_le (tgt := 65) C d_MM_assign_59 (by decide) (fun h59 => ?_) (fun h59 => ?_)
                  · refine zz_aload_n C d_MM_assign_65 rfl ?_
                    refine zz_get C (ci := 4) (N := 16) 15 rfl zi_MM (by decide) fl_MM_57 (mw_0 Nat.zero_lt_one) rfl d_MM_assign_66 ?_
                    refine zz_iload_n C d_MM_assign_69 rfl ?_
                    refine zz_iload_n C d_MM_assign_70 rfl ?_
                    refine ms_15 C Nat.zero_lt_one (z_vin2 h9 h14 rfl) d_MM_assign_71 ?_
                    refine zz_iconst (x := 0) C d_MM_assign_72 rfl ?_
                    exact mr_i C hr rfl d_MM_assign_73 (by simp only [mf_assign, mf_assign2, if_pos h5, if_neg h9, if_neg h14, if_neg h19, if_pos h27, if_neg h33, if_neg h42, if_neg h49, if_pos h59] <;> simp [mf_assign, mf_assign2, z_at]) (by simp only [mf_assign, mf_assign2, if_pos h5, if_neg h9, if_neg h14, if_neg h19, if_pos h27, if_neg h33, if_neg h42, if_neg h49, if_pos h59] <;> simp [mf_assign, mf_assign2, z_at])
                  · refine zz_bipush (x := -5) C d_MM_assign_62 rfl ?_
                    exact mr_i C hr rfl d_MM_assign_64 (by simp only [mf_assign, mf_assign2, if_pos h5, if_neg h9, if_neg h14, if_neg h19, if_pos h27, if_neg h33, if_neg h42, if_neg h49, if_neg h59] <;> simp [mf_assign, mf_assign2, z_at]) (by simp only [mf_assign, mf_assign2, if_pos h5, if_neg h9, if_neg h14, if_neg h19, if_pos h27, if_neg h33, if_neg h42, if_neg h49, if_neg h59] <;> simp [mf_assign, mf_assign2, z_at])
              · refine zz_bipush (x := -4) C d_MM_assign_45 rfl ?_
                exact mr_i C hr rfl d_MM_assign_47 (by simp only [mf_assign, mf_assign2, if_pos h5, if_neg h9, if_neg h14, if_neg h19, if_pos h27, if_neg h33, if_pos h42] <;> simp [mf_assign, mf_assign2, z_at]) (by simp only [mf_assign, mf_assign2, if_pos h5, if_neg h9, if_neg h14, if_neg h19, if_pos h27, if_neg h33, if_pos h42] <;> simp [mf_assign, mf_assign2, z_at])
          · refine zz_iconst (x := -1) C d_MM_assign_30 rfl ?_
            exact mr_i C hr rfl d_MM_assign_31 (by simp only [mf_assign, mf_assign2, if_pos h5, if_neg h9, if_neg h14, if_neg h19, if_neg h27] <;> simp [mf_assign, mf_assign2, z_at]) (by simp only [mf_assign, mf_assign2, if_pos h5, if_neg h9, if_neg h14, if_neg h19, if_neg h27] <;> simp [mf_assign, mf_assign2, z_at])
set_option maxHeartbeats 400000 in
set_option maxRecDepth 100000 in
theorem c_MM_areaOf {l : Launch} {D : va_G} {dA : Nat → ClassId} {lo n : Nat} {σ : zS} {o : Int32} : mM l y_MM_areaOf b_MM_areaOf 2 (some .int) 1 D dA lo n [.ref (ma0 lo 0), .int o] σ (some (.int (mf_areaOf σ o))) σ := by
  refine zM_of (lv0 := [(0, .ref (ma0 lo 0)), (1, .int o)]) (by decide) rfl rfl rfl ?_
  intro p e s m below meth c C hr hnm hsz
  have C : zC p s m ([.ref (ma0 lo 0), .int o] : List Value).toArray meth c b_MM_areaOf 2 R_MM D dA := C
  refine zz_aload_n C d_MM_areaOf_0 rfl ?_
  refine zz_iload_n C d_MM_areaOf_1 rfl ?_
  refine mc_Vi C (mw_0 Nat.zero_lt_one) rfl s_MM_102 c_MM_noObject rfl rfl d_MM_areaOf_2 k_MM_noObject ⟨by decide, by decide⟩ rfl ?_
  refine zz_if_eq (tgt := 12) C d_MM_areaOf_5 (by decide) (fun h5 => ?_) (fun h5 => ?_)
  · refine zz_aload_n C d_MM_areaOf_12 rfl ?_
    refine zz_get C (ci := 4) (N := 16) 5 rfl zi_MM (by decide) fl_MM_26 (mw_0 Nat.zero_lt_one) rfl d_MM_areaOf_13 ?_
    refine zz_iload_n C d_MM_areaOf_16 rfl ?_
    refine zz_iald C (t0 := 0) rfl (mw_5 Nat.zero_lt_one) (m_obj h5) d_MM_areaOf_17 ?_
    exact mr_i C hr rfl d_MM_areaOf_18 (by simp only [mf_areaOf, if_pos h5] <;> simp [mf_areaOf, z_at]) rfl
  · refine zz_iconst (x := -1) C d_MM_areaOf_8 rfl ?_
    refine zz_goto (tgt := 18) C d_MM_areaOf_9 (by decide) ?_
    exact mr_i C hr rfl d_MM_areaOf_18 (by simp only [mf_areaOf, if_neg h5] <;> simp [mf_areaOf, z_at]) rfl
set_option maxHeartbeats 400000 in
set_option maxRecDepth 100000 in
theorem c_MM_room {l : Launch} {D : va_G} {dA : Nat → ClassId} {lo n : Nat} {σ : zS} {a : Int32} (I : mI σ) : mM l y_MM_room b_MM_room 2 (some .int) 1 D dA lo n [.ref (ma0 lo 0), .int a] σ (some (.int (mf_room σ a))) σ := by
  refine zM_of (lv0 := [(0, .ref (ma0 lo 0)), (1, .int a)]) (by decide) rfl rfl rfl ?_
  intro p e s m below meth c C hr hnm hsz
  have C : zC p s m ([.ref (ma0 lo 0), .int a] : List Value).toArray meth c b_MM_room 2 R_MM D dA := C
  refine zz_aload_n C d_MM_room_0 rfl ?_
  refine zz_iload_n C d_MM_room_1 rfl ?_
  refine mc_Vi C (mw_0 Nat.zero_lt_one) rfl s_MM_85 c_MM_noArea rfl rfl d_MM_room_2 k_MM_noArea ⟨by decide, by decide⟩ rfl ?_
  refine zz_if_eq (tgt := 12) C d_MM_room_5 (by decide) (fun h5 => ?_) (fun h5 => ?_)
  · refine zz_aload_n C d_MM_room_12 rfl ?_
    refine zz_get C (ci := 4) (N := 16) 1 rfl zi_MM (by decide) fl_MM_13 (mw_0 Nat.zero_lt_one) rfl d_MM_room_13 ?_
    refine zz_iload_n C d_MM_room_16 rfl ?_
    refine zz_iald C (t0 := 0) rfl (mw_1 Nat.zero_lt_one) (m_area_in I h5) d_MM_room_17 ?_
    refine zz_aload_n C d_MM_room_18 rfl ?_
    refine zz_iload_n C d_MM_room_19 rfl ?_
    refine mc_Vi C (mw_0 Nat.zero_lt_one) rfl s_MM_95 c_MM_used rfl rfl d_MM_room_20 k_MM_used ⟨by decide, by decide⟩ rfl ?_
    refine zz_isub C d_MM_room_23 ?_
    exact mr_i C hr rfl d_MM_room_24 (by simp only [mf_room, if_pos h5] <;> simp [mf_room, z_at]) rfl
  · refine zz_iconst (x := -1) C d_MM_room_8 rfl ?_
    refine zz_goto (tgt := 24) C d_MM_room_9 (by decide) ?_
    exact mr_i C hr rfl d_MM_room_24 (by simp only [mf_room, if_neg h5] <;> simp [mf_room, z_at]) rfl
set_option maxHeartbeats 400000 in
set_option maxRecDepth 100000 in
theorem c_MM_parent {l : Launch} {D : va_G} {dA : Nat → ClassId} {lo n : Nat} {σ : zS} {z : Int32} (I : mI σ) : mM l y_MM_parent b_MM_parent 2 (some .int) 1 D dA lo n [.ref (ma0 lo 0), .int z] σ (some (.int (mf_parent σ z))) σ := by
  refine zM_of (lv0 := [(0, .ref (ma0 lo 0)), (1, .int z)]) (by decide) rfl rfl rfl ?_
  intro p e s m below meth c C hr hnm hsz
  have C : zC p s m ([.ref (ma0 lo 0), .int z] : List Value).toArray meth c b_MM_parent 2 R_MM D dA := C
  refine zz_aload_n C d_MM_parent_0 rfl ?_
  refine zz_iload_n C d_MM_parent_1 rfl ?_
  refine mc_Vi C (mw_0 Nat.zero_lt_one) rfl s_MM_76 c_MM_noScope rfl rfl d_MM_parent_2 k_MM_noScope ⟨by decide, by decide⟩ rfl ?_
  refine zz_if_eq (tgt := 12) C d_MM_parent_5 (by decide) (fun h5 => ?_) (fun h5 => ?_)
  · refine zz_aload_n C d_MM_parent_12 rfl ?_
    refine zz_get C (ci := 4) (N := 16) 2 rfl zi_MM (by decide) fl_MM_17 (mw_0 Nat.zero_lt_one) rfl d_MM_parent_13 ?_
    refine zz_iload_n C d_MM_parent_16 rfl ?_
    refine zz_iald C (t0 := 0) rfl (mw_2 Nat.zero_lt_one) (m_scope_in I h5) d_MM_parent_17 ?_
    refine zz_if_ne (tgt := 26) C d_MM_parent_18 (by decide) (fun h18 => ?_) (fun h18 => ?_)
    · refine zz_aload_n C d_MM_parent_26 rfl ?_
      refine zz_get C (ci := 4) (N := 16) 3 rfl zi_MM (by decide) fl_MM_20 (mw_0 Nat.zero_lt_one) rfl d_MM_parent_27 ?_
      refine zz_iload_n C d_MM_parent_30 rfl ?_
      refine zz_iald C (t0 := 0) rfl (mw_3 Nat.zero_lt_one) (m_scope_in I h5) d_MM_parent_31 ?_
      exact mr_i C hr rfl d_MM_parent_32 (by simp only [mf_parent, if_pos h5, if_neg h18] <;> simp [mf_parent, z_at]) rfl
    · refine zz_bipush (x := -6) C d_MM_parent_21 rfl ?_
      refine zz_goto (tgt := 32) C d_MM_parent_23 (by decide) ?_
      exact mr_i C hr rfl d_MM_parent_32 (by simp only [mf_parent, if_pos h5, if_pos h18] <;> simp [mf_parent, z_at]) rfl
  · refine zz_iconst (x := -1) C d_MM_parent_8 rfl ?_
    refine zz_goto (tgt := 32) C d_MM_parent_9 (by decide) ?_
    exact mr_i C hr rfl d_MM_parent_32 (by simp only [mf_parent, if_neg h5] <;> simp [mf_parent, z_at]) rfl
set_option maxHeartbeats 400000 in
set_option maxRecDepth 100000 in
theorem c_MM_entries {l : Launch} {D : va_G} {dA : Nat → ClassId} {lo n : Nat} {σ : zS} {z : Int32} (I : mI σ) : mM l y_MM_entries b_MM_entries 2 (some .int) 1 D dA lo n [.ref (ma0 lo 0), .int z] σ (some (.int (mf_entries σ z))) σ := by
  refine zM_of (lv0 := [(0, .ref (ma0 lo 0)), (1, .int z)]) (by decide) rfl rfl rfl ?_
  intro p e s m below meth c C hr hnm hsz
  have C : zC p s m ([.ref (ma0 lo 0), .int z] : List Value).toArray meth c b_MM_entries 2 R_MM D dA := C
  refine zz_aload_n C d_MM_entries_0 rfl ?_
  refine zz_iload_n C d_MM_entries_1 rfl ?_
  refine mc_Vi C (mw_0 Nat.zero_lt_one) rfl s_MM_76 c_MM_noScope rfl rfl d_MM_entries_2 k_MM_noScope ⟨by decide, by decide⟩ rfl ?_
  refine zz_if_eq (tgt := 12) C d_MM_entries_5 (by decide) (fun h5 => ?_) (fun h5 => ?_)
  · refine zz_aload_n C d_MM_entries_12 rfl ?_
    refine zz_get C (ci := 4) (N := 16) 2 rfl zi_MM (by decide) fl_MM_17 (mw_0 Nat.zero_lt_one) rfl d_MM_entries_13 ?_
    refine zz_iload_n C d_MM_entries_16 rfl ?_
    refine zz_iald C (t0 := 0) rfl (mw_2 Nat.zero_lt_one) (m_scope_in I h5) d_MM_entries_17 ?_
    exact mr_i C hr rfl d_MM_entries_18 (by simp only [mf_entries, if_pos h5] <;> simp [mf_entries, z_at]) rfl
  · refine zz_iconst (x := -1) C d_MM_entries_8 rfl ?_
    refine zz_goto (tgt := 18) C d_MM_entries_9 (by decide) ?_
    exact mr_i C hr rfl d_MM_entries_18 (by simp only [mf_entries, if_neg h5] <;> simp [mf_entries, z_at]) rfl
set_option maxHeartbeats 400000 in
set_option maxRecDepth 100000 in
theorem c_MM_view {l : Launch} {D : va_G} {dA : Nat → ClassId} {lo n : Nat} {σ : zS} {t i : Int32} (I : mI σ) : mM l y_MM_view b_MM_view 4 (some .int) 1 D dA lo n [.ref (ma0 lo 0), .int t, .int i] σ (some (.int (mf_view σ t i))) σ := by
  refine zM_of (lv0 := [(0, .ref (ma0 lo 0)), (1, .int t), (2, .int i)]) (by decide) rfl rfl rfl ?_
  intro p e s m below meth c C hr hnm hsz
  have C : zC p s m ([.ref (ma0 lo 0), .int t, .int i] : List Value).toArray meth c b_MM_view 4 R_MM D dA := C
  refine zz_aload_n C d_MM_view_0 rfl ?_
  refine zz_iload_n C d_MM_view_1 rfl ?_
  refine mc_Vi C (mw_0 Nat.zero_lt_one) rfl s_MM_72 c_MM_idle rfl rfl d_MM_view_2 k_MM_idle ⟨by decide, by decide⟩ rfl ?_
  refine zz_if_ne (tgt := 18) C d_MM_view_5 (by decide) (fun h5 => ?_) (fun h5 => ?_)
  · refine zz_iconst (x := -1) C d_MM_view_18 rfl ?_
    exact mr_i C hr rfl d_MM_view_19 (by simp only [mf_view, if_neg h5] <;> simp [mf_view, z_at]) rfl
  · refine zz_iload_n C d_MM_view_8 rfl ?_
    refine zz_if_lt (tgt := 18) C d_MM_view_9 (by decide) (fun h9 => ?_) (fun h9 => ?_)
    · refine zz_iconst (x := -1) C d_MM_view_18 rfl ?_
      exact mr_i C hr rfl d_MM_view_19 (by simp only [mf_view, if_pos h5, if_pos h9] <;> simp [mf_view, z_at]) rfl
    · refine zz_iload_n C d_MM_view_12 rfl ?_
      refine zz_bipush (x := 11) C d_MM_view_13 rfl ?_
      refine zz_icmp_le (tgt := 20) C d_MM_view_15 (by decide) (fun h15 => ?_) (fun h15 => ?_)
      · refine zz_aload_n C d_MM_view_20 rfl ?_
        refine zz_iload_n C d_MM_view_21 rfl ?_
        refine zz_iload_n C d_MM_view_22 rfl ?_
        refine mc_Vi C (mw_0 Nat.zero_lt_one) rfl s_MM_68 (c_MM_viewed I (m_idle_thr h5) h9) rfl rfl d_MM_view_23 k_MM_viewed ⟨by decide, by decide⟩ rfl ?_
        refine zz_istore_n C d_MM_view_26 (by decide) ?_
        refine zz_iload_n C d_MM_view_27 rfl ?_
        refine zz_if_ge (tgt := 35) C d_MM_view_28 (by decide) (fun h28 => ?_) (fun h28 => ?_)
        · refine zz_aload_n C d_MM_view_35 rfl ?_
          refine zz_get C (ci := 4) (N := 16) 12 rfl zi_MM (by decide) fl_MM_48 (mw_0 Nat.zero_lt_one) rfl d_MM_view_36 ?_
          refine zz_iload_n C d_MM_view_39 rfl ?_
          refine zz_bipush (x := 12) C d_MM_view_40 rfl ?_
          refine zz_imul C d_MM_view_42 ?_
          refine zz_iload_n C d_MM_view_43 rfl ?_
          refine zz_iadd C d_MM_view_44 ?_
          refine zz_iald C (t0 := 0) rfl (mw_12 Nat.zero_lt_one) (m_ix (m_idle_thr h5) (z_nle (m_viewed_o I (m_idle_thr h5)) h28)) d_MM_view_45 ?_
          exact mr_i C hr rfl d_MM_view_46 (by simp only [mf_view, if_pos h5, if_neg h9, if_pos h15, if_pos h28] <;> simp [mf_view, z_at]) rfl
        · refine zz_iconst (x := -1) C d_MM_view_31 rfl ?_
          refine zz_goto (tgt := 46) C d_MM_view_32 (by decide) ?_
          exact mr_i C hr rfl d_MM_view_46 (by simp only [mf_view, if_pos h5, if_neg h9, if_pos h15, if_neg h28] <;> simp [mf_view, z_at]) rfl
      · refine zz_iconst (x := -1) C d_MM_view_18 rfl ?_
        exact mr_i C hr rfl d_MM_view_19 (by simp only [mf_view, if_pos h5, if_neg h9, if_neg h15] <;> simp [mf_view, z_at]) rfl
end
section
theorem m_em_at {z : Int32} {f i' j' : Nat} (h5 : f ≠ 5) : ∀ (k i : Nat) (σ : zS), mf_em z k i σ f i' j' = σ f i' j' := by
  intro k
  induction k with
  | zero => intro i σ; rfl
  | succ k ih =>
    intro i σ
    unfold mf_em
    rw [ih]
    split
    · simp [z_at, h5]
    · rfl
theorem m_empty_11 {σ : zS} {z : Int32} {i j : Nat} : mf_empty σ z 11 i j = σ 11 i j := by
  unfold mf_empty
  simp only [z_at]
  simp
  exact m_em_at (by decide) 40 0 σ
theorem m_d4 {iv : Int32} {i : Nat} (hiv : iv = nI i) (h : i < 2 ^ 31) : iv / 4 = nI (i / 4) := by
  rw [hiv]
  exact pk_div h (by decide) (by decide)
theorem m_r4 {iv : Int32} {i : Nat} (hiv : iv = nI i) (h : i < 2 ^ 31) : iv - iv / 4 * 4 = nI (i % 4) := by
  rw [hiv]
  exact pk_rem h (by decide) (by decide)
theorem m_I8 {σ : zS} {j : Nat} {v : Int32} (I : mI σ) : mI (z_up σ 8 0 j v) := I
theorem m_keeps_I {σ : zS} {o : Int32} (I : mI σ) : mI (mf_keeps σ o).2 := by
  unfold mf_keeps
  split
  · exact I
  · split
    · split
      · exact m_I8 I
      · exact I
    · exact I
set_option maxHeartbeats 400000 in
set_option maxRecDepth 100000 in
theorem c_MM_leave {l : Launch} {D : va_G} {dA : Nat → ClassId} {lo n : Nat} {σ : zS} {t : Int32} (I : mI σ) : mM l y_MM_leave b_MM_leave 3 (some .int) 1 D dA lo n [.ref (ma0 lo 0), .int t] σ (some (.int ((mf_leave σ t).1))) ((mf_leave σ t).2) := by
  refine zM_of (lv0 := [(0, .ref (ma0 lo 0)), (1, .int t)]) (by decide) rfl rfl rfl ?_
  intro p e s m below meth c C hr hnm hsz
  have C : zC p s m ([.ref (ma0 lo 0), .int t] : List Value).toArray meth c b_MM_leave 3 R_MM D dA := C
  refine zz_aload_n C d_MM_leave_0 rfl ?_
  refine zz_iload_n C d_MM_leave_1 rfl ?_
  refine mc_Vi C (mw_0 Nat.zero_lt_one) rfl s_MM_72 c_MM_idle rfl rfl d_MM_leave_2 k_MM_idle ⟨by decide, by decide⟩ rfl ?_
  refine zz_if_eq (tgt := 10) C d_MM_leave_5 (by decide) (fun h5 => ?_) (fun h5 => ?_)
  · refine zz_aload_n C d_MM_leave_10 rfl ?_
    refine zz_get C (ci := 4) (N := 16) 11 rfl zi_MM (by decide) fl_MM_45 (mw_0 Nat.zero_lt_one) rfl d_MM_leave_11 ?_
    refine zz_iload_n C d_MM_leave_14 rfl ?_
    refine zz_dup2 C d_MM_leave_15 rfl rfl ?_
    refine zz_iald C (t0 := 0) rfl (mw_11 Nat.zero_lt_one) (m_idle_thr h5) d_MM_leave_16 ?_
    refine zz_iconst (x := 1) C d_MM_leave_17 rfl ?_
    refine zz_isub C d_MM_leave_18 ?_
    refine ms_11 C Nat.zero_lt_one (m_idle_thr h5) d_MM_leave_19 ?_
    refine zz_iload_n C d_MM_leave_20 rfl ?_
    refine zz_bipush (x := 12) C d_MM_leave_21 rfl ?_
    refine zz_imul C d_MM_leave_23 ?_
    refine zz_aload_n C d_MM_leave_24 rfl ?_
    refine zz_get C (ci := 4) (N := 16) 11 rfl zi_MM (by decide) fl_MM_45 (mw_0 Nat.zero_lt_one) rfl d_MM_leave_25 ?_
    refine zz_iload_n C d_MM_leave_28 rfl ?_
    refine zz_iald C (t0 := 0) rfl (mw_11 Nat.zero_lt_one) (m_idle_thr h5) d_MM_leave_29 ?_
    refine zz_iadd C d_MM_leave_30 ?_
    refine zz_istore_n C d_MM_leave_31 (by decide) ?_
    refine zz_aload_n C d_MM_leave_32 rfl ?_
    refine zz_get C (ci := 4) (N := 16) 11 rfl zi_MM (by decide) fl_MM_45 (mw_0 Nat.zero_lt_one) rfl d_MM_leave_33 ?_
    refine zz_iload_n C d_MM_leave_36 rfl ?_
    refine zz_iald C (t0 := 0) rfl (mw_11 Nat.zero_lt_one) (m_idle_thr h5) d_MM_leave_37 ?_
    rw [z_at, if_pos ⟨rfl, rfl, rfl⟩]
    refine zz_if_ne (tgt := 48) C d_MM_leave_38 (by decide) (fun h38 => ?_) (fun h38 => ?_)
    · refine zz_aload_n C d_MM_leave_48 rfl ?_
      refine zz_get C (ci := 4) (N := 16) 14 rfl zi_MM (by decide) fl_MM_54 (mw_0 Nat.zero_lt_one) rfl d_MM_leave_49 ?_
      refine zz_iload_n C d_MM_leave_52 rfl ?_
      refine zz_zald C (t0 := 1) rfl (mw_14 Nat.zero_lt_one) (m_ix (m_idle_thr h5) (m_top_in I (z_vlt (m_idle_thr h5)) (m_idle_len I h5))) d_MM_leave_53 ?_
      refine zz_if_eq (tgt := 96) C d_MM_leave_54 (by decide) (fun h54 => ?_) (fun h54 => ?_)
      · refine zz_aload_n C d_MM_leave_96 rfl ?_
        refine zz_get C (ci := 4) (N := 16) 11 rfl zi_MM (by decide) fl_MM_45 (mw_0 Nat.zero_lt_one) rfl d_MM_leave_97 ?_
        refine zz_iload_n C d_MM_leave_100 rfl ?_
        refine zz_iald C (t0 := 0) rfl (mw_11 Nat.zero_lt_one) (m_idle_thr h5) d_MM_leave_101 ?_
        have h54 : σ 14 0 (z_ix (mf_lvK σ t)) = 0 := h54
        exact mr_i C hr rfl d_MM_leave_102 (by simp only [mf_leave, if_pos h5, if_neg h38, if_pos h54] <;> simp [z_at, m_empty_11]) (by simp only [mf_leave, if_pos h5, if_neg h38, if_pos h54] <;> simp [mf_lvA, mf_lvB, mf_lvZ, mf_lvK, z_at, h38])
      · refine zz_aload_n C d_MM_leave_57 rfl ?_
        refine zz_get C (ci := 4) (N := 16) 2 rfl zi_MM (by decide) fl_MM_17 (mw_0 Nat.zero_lt_one) rfl d_MM_leave_58 ?_
        refine zz_aload_n C d_MM_leave_61 rfl ?_
        refine zz_get C (ci := 4) (N := 16) 12 rfl zi_MM (by decide) fl_MM_48 (mw_0 Nat.zero_lt_one) rfl d_MM_leave_62 ?_
        refine zz_iload_n C d_MM_leave_65 rfl ?_
        refine zz_iald C (t0 := 0) rfl (mw_12 Nat.zero_lt_one) (m_ix (m_idle_thr h5) (m_top_in I (z_vlt (m_idle_thr h5)) (m_idle_len I h5))) d_MM_leave_66 ?_
        refine zz_dup2 C d_MM_leave_67 rfl rfl ?_
        refine zz_iald C (t0 := 0) rfl (mw_2 Nat.zero_lt_one) (I.2.2.2.2.2.2.1 _ (z_vlt (m_ix (m_idle_thr h5) (m_top_in I (z_vlt (m_idle_thr h5)) (m_idle_len I h5))))) d_MM_leave_68 ?_
        refine zz_iconst (x := 1) C d_MM_leave_69 rfl ?_
        refine zz_isub C d_MM_leave_70 ?_
        refine ms_2 C Nat.zero_lt_one (I.2.2.2.2.2.2.1 _ (z_vlt (m_ix (m_idle_thr h5) (m_top_in I (z_vlt (m_idle_thr h5)) (m_idle_len I h5))))) d_MM_leave_71 ?_
        refine zz_aload_n C d_MM_leave_72 rfl ?_
        refine zz_get C (ci := 4) (N := 16) 2 rfl zi_MM (by decide) fl_MM_17 (mw_0 Nat.zero_lt_one) rfl d_MM_leave_73 ?_
        refine zz_aload_n C d_MM_leave_76 rfl ?_
        refine zz_get C (ci := 4) (N := 16) 12 rfl zi_MM (by decide) fl_MM_48 (mw_0 Nat.zero_lt_one) rfl d_MM_leave_77 ?_
        refine zz_iload_n C d_MM_leave_80 rfl ?_
        refine zz_iald C (t0 := 0) rfl (mw_12 Nat.zero_lt_one) (m_ix (m_idle_thr h5) (m_top_in I (z_vlt (m_idle_thr h5)) (m_idle_len I h5))) d_MM_leave_81 ?_
        refine zz_iald C (t0 := 0) rfl (mw_2 Nat.zero_lt_one) (I.2.2.2.2.2.2.1 _ (z_vlt (m_ix (m_idle_thr h5) (m_top_in I (z_vlt (m_idle_thr h5)) (m_idle_len I h5))))) d_MM_leave_82 ?_
        refine zz_if_ne (tgt := 96) C d_MM_leave_83 (by decide) (fun h83 => ?_) (fun h83 => ?_)
        · refine zz_aload_n C d_MM_leave_96 rfl ?_
          refine zz_get C (ci := 4) (N := 16) 11 rfl zi_MM (by decide) fl_MM_45 (mw_0 Nat.zero_lt_one) rfl d_MM_leave_97 ?_
          refine zz_iload_n C d_MM_leave_100 rfl ?_
          refine zz_iald C (t0 := 0) rfl (mw_11 Nat.zero_lt_one) (m_idle_thr h5) d_MM_leave_101 ?_
          have h54 : ¬ σ 14 0 (z_ix (mf_lvK σ t)) = 0 := h54
          rw [z_at, if_pos ⟨rfl, rfl, rfl⟩] at h83
          have h83 : ¬ σ 2 0 (z_ix (mf_lvZ σ t)) - 1 = 0 := h83
          exact mr_i C hr rfl d_MM_leave_102 (by simp only [mf_leave, if_pos h5, if_neg h38, if_neg h54, if_neg h83] <;> simp [z_at, m_empty_11]) (by simp only [mf_leave, if_pos h5, if_neg h38, if_neg h54, if_neg h83] <;> simp [mf_lvA, mf_lvB, mf_lvZ, mf_lvK, z_at, h38])
        · refine zz_aload_n C d_MM_leave_86 rfl ?_
          refine zz_aload_n C d_MM_leave_87 rfl ?_
          refine zz_get C (ci := 4) (N := 16) 12 rfl zi_MM (by decide) fl_MM_48 (mw_0 Nat.zero_lt_one) rfl d_MM_leave_88 ?_
          refine zz_iload_n C d_MM_leave_91 rfl ?_
          refine zz_iald C (t0 := 0) rfl (mw_12 Nat.zero_lt_one) (m_ix (m_idle_thr h5) (m_top_in I (z_vlt (m_idle_thr h5)) (m_idle_len I h5))) d_MM_leave_92 ?_
          refine mc_Vv C (mw_0 Nat.zero_lt_one) rfl s_MM_88 (c_MM_empty (I.2.2.2.2.2.2.1 _ (z_vlt (m_ix (m_idle_thr h5) (m_top_in I (z_vlt (m_idle_thr h5)) (m_idle_len I h5)))))) rfl rfl d_MM_leave_93 k_MM_empty ⟨by decide, by decide⟩ rfl ?_
          refine zz_aload_n C d_MM_leave_96 rfl ?_
          refine zz_get C (ci := 4) (N := 16) 11 rfl zi_MM (by decide) fl_MM_45 (mw_0 Nat.zero_lt_one) rfl d_MM_leave_97 ?_
          refine zz_iload_n C d_MM_leave_100 rfl ?_
          refine zz_iald C (t0 := 0) rfl (mw_11 Nat.zero_lt_one) (m_idle_thr h5) d_MM_leave_101 ?_
          have h54 : ¬ σ 14 0 (z_ix (mf_lvK σ t)) = 0 := h54
          rw [z_at, if_pos ⟨rfl, rfl, rfl⟩] at h83
          have h83 : σ 2 0 (z_ix (mf_lvZ σ t)) - 1 = 0 := h83
          exact mr_i C hr rfl d_MM_leave_102 (by simp only [mf_leave, if_pos h5, if_neg h38, if_neg h54, if_pos h83] <;> simp [z_at, m_empty_11]) (by simp only [mf_leave, if_pos h5, if_neg h38, if_neg h54, if_pos h83] <;> simp [mf_lvA, mf_lvB, mf_lvZ, mf_lvK, z_at, h38])
    · refine zz_aload_n C d_MM_leave_41 rfl ?_
      refine zz_get C (ci := 4) (N := 16) 9 rfl zi_MM (by decide) fl_MM_39 (mw_0 Nat.zero_lt_one) rfl d_MM_leave_42 ?_
      refine zz_iload_n C d_MM_leave_45 rfl ?_
      refine zz_iconst (x := 0) C d_MM_leave_46 rfl ?_
      refine ms_9 C Nat.zero_lt_one (m_idle_thr h5) d_MM_leave_47 ?_
      refine zz_aload_n C d_MM_leave_48 rfl ?_
      refine zz_get C (ci := 4) (N := 16) 14 rfl zi_MM (by decide) fl_MM_54 (mw_0 Nat.zero_lt_one) rfl d_MM_leave_49 ?_
      refine zz_iload_n C d_MM_leave_52 rfl ?_
      refine zz_zald C (t0 := 1) rfl (mw_14 Nat.zero_lt_one) (m_ix (m_idle_thr h5) (m_top_in I (z_vlt (m_idle_thr h5)) (m_idle_len I h5))) d_MM_leave_53 ?_
      refine zz_if_eq (tgt := 96) C d_MM_leave_54 (by decide) (fun h54 => ?_) (fun h54 => ?_)
      · refine zz_aload_n C d_MM_leave_96 rfl ?_
        refine zz_get C (ci := 4) (N := 16) 11 rfl zi_MM (by decide) fl_MM_45 (mw_0 Nat.zero_lt_one) rfl d_MM_leave_97 ?_
        refine zz_iload_n C d_MM_leave_100 rfl ?_
        refine zz_iald C (t0 := 0) rfl (mw_11 Nat.zero_lt_one) (m_idle_thr h5) d_MM_leave_101 ?_
        have h54 : σ 14 0 (z_ix (mf_lvK σ t)) = 0 := h54
        exact mr_i C hr rfl d_MM_leave_102 (by simp only [mf_leave, if_pos h5, if_pos h38, if_pos h54] <;> simp [z_at, m_empty_11]) (by simp only [mf_leave, if_pos h5, if_pos h38, if_pos h54] <;> simp [mf_lvA, mf_lvB, mf_lvZ, mf_lvK, z_at, h38])
      · refine zz_aload_n C d_MM_leave_57 rfl ?_
        refine zz_get C (ci := 4) (N := 16) 2 rfl zi_MM (by decide) fl_MM_17 (mw_0 Nat.zero_lt_one) rfl d_MM_leave_58 ?_
        refine zz_aload_n C d_MM_leave_61 rfl ?_
        refine zz_get C (ci := 4) (N := 16) 12 rfl zi_MM (by decide) fl_MM_48 (mw_0 Nat.zero_lt_one) rfl d_MM_leave_62 ?_
        refine zz_iload_n C d_MM_leave_65 rfl ?_
        refine zz_iald C (t0 := 0) rfl (mw_12 Nat.zero_lt_one) (m_ix (m_idle_thr h5) (m_top_in I (z_vlt (m_idle_thr h5)) (m_idle_len I h5))) d_MM_leave_66 ?_
        refine zz_dup2 C d_MM_leave_67 rfl rfl ?_
        refine zz_iald C (t0 := 0) rfl (mw_2 Nat.zero_lt_one) (I.2.2.2.2.2.2.1 _ (z_vlt (m_ix (m_idle_thr h5) (m_top_in I (z_vlt (m_idle_thr h5)) (m_idle_len I h5))))) d_MM_leave_68 ?_
        refine zz_iconst (x := 1) C d_MM_leave_69 rfl ?_
        refine zz_isub C d_MM_leave_70 ?_
        refine ms_2 C Nat.zero_lt_one (I.2.2.2.2.2.2.1 _ (z_vlt (m_ix (m_idle_thr h5) (m_top_in I (z_vlt (m_idle_thr h5)) (m_idle_len I h5))))) d_MM_leave_71 ?_
        refine zz_aload_n C d_MM_leave_72 rfl ?_
        refine zz_get C (ci := 4) (N := 16) 2 rfl zi_MM (by decide) fl_MM_17 (mw_0 Nat.zero_lt_one) rfl d_MM_leave_73 ?_
        refine zz_aload_n C d_MM_leave_76 rfl ?_
        refine zz_get C (ci := 4) (N := 16) 12 rfl zi_MM (by decide) fl_MM_48 (mw_0 Nat.zero_lt_one) rfl d_MM_leave_77 ?_
        refine zz_iload_n C d_MM_leave_80 rfl ?_
        refine zz_iald C (t0 := 0) rfl (mw_12 Nat.zero_lt_one) (m_ix (m_idle_thr h5) (m_top_in I (z_vlt (m_idle_thr h5)) (m_idle_len I h5))) d_MM_leave_81 ?_
        refine zz_iald C (t0 := 0) rfl (mw_2 Nat.zero_lt_one) (I.2.2.2.2.2.2.1 _ (z_vlt (m_ix (m_idle_thr h5) (m_top_in I (z_vlt (m_idle_thr h5)) (m_idle_len I h5))))) d_MM_leave_82 ?_
        refine zz_if_ne (tgt := 96) C d_MM_leave_83 (by decide) (fun h83 => ?_) (fun h83 => ?_)
        · refine zz_aload_n C d_MM_leave_96 rfl ?_
          refine zz_get C (ci := 4) (N := 16) 11 rfl zi_MM (by decide) fl_MM_45 (mw_0 Nat.zero_lt_one) rfl d_MM_leave_97 ?_
          refine zz_iload_n C d_MM_leave_100 rfl ?_
          refine zz_iald C (t0 := 0) rfl (mw_11 Nat.zero_lt_one) (m_idle_thr h5) d_MM_leave_101 ?_
          have h54 : ¬ σ 14 0 (z_ix (mf_lvK σ t)) = 0 := h54
          rw [z_at, if_pos ⟨rfl, rfl, rfl⟩] at h83
          have h83 : ¬ σ 2 0 (z_ix (mf_lvZ σ t)) - 1 = 0 := h83
          exact mr_i C hr rfl d_MM_leave_102 (by simp only [mf_leave, if_pos h5, if_pos h38, if_neg h54, if_neg h83] <;> simp [z_at, m_empty_11]) (by simp only [mf_leave, if_pos h5, if_pos h38, if_neg h54, if_neg h83] <;> simp [mf_lvA, mf_lvB, mf_lvZ, mf_lvK, z_at, h38])
        · refine zz_aload_n C d_MM_leave_86 rfl ?_
          refine zz_aload_n C d_MM_leave_87 rfl ?_
          refine zz_get C (ci := 4) (N := 16) 12 rfl zi_MM (by decide) fl_MM_48 (mw_0 Nat.zero_lt_one) rfl d_MM_leave_88 ?_
          refine zz_iload_n C d_MM_leave_91 rfl ?_
          refine zz_iald C (t0 := 0) rfl (mw_12 Nat.zero_lt_one) (m_ix (m_idle_thr h5) (m_top_in I (z_vlt (m_idle_thr h5)) (m_idle_len I h5))) d_MM_leave_92 ?_
          refine mc_Vv C (mw_0 Nat.zero_lt_one) rfl s_MM_88 (c_MM_empty (I.2.2.2.2.2.2.1 _ (z_vlt (m_ix (m_idle_thr h5) (m_top_in I (z_vlt (m_idle_thr h5)) (m_idle_len I h5)))))) rfl rfl d_MM_leave_93 k_MM_empty ⟨by decide, by decide⟩ rfl ?_
          refine zz_aload_n C d_MM_leave_96 rfl ?_
          refine zz_get C (ci := 4) (N := 16) 11 rfl zi_MM (by decide) fl_MM_45 (mw_0 Nat.zero_lt_one) rfl d_MM_leave_97 ?_
          refine zz_iload_n C d_MM_leave_100 rfl ?_
          refine zz_iald C (t0 := 0) rfl (mw_11 Nat.zero_lt_one) (m_idle_thr h5) d_MM_leave_101 ?_
          have h54 : ¬ σ 14 0 (z_ix (mf_lvK σ t)) = 0 := h54
          rw [z_at, if_pos ⟨rfl, rfl, rfl⟩] at h83
          have h83 : σ 2 0 (z_ix (mf_lvZ σ t)) - 1 = 0 := h83
          exact mr_i C hr rfl d_MM_leave_102 (by simp only [mf_leave, if_pos h5, if_pos h38, if_neg h54, if_pos h83] <;> simp [z_at, m_empty_11]) (by simp only [mf_leave, if_pos h5, if_pos h38, if_neg h54, if_pos h83] <;> simp [mf_lvA, mf_lvB, mf_lvZ, mf_lvK, z_at, h38])
  · refine zz_iconst (x := -1) C d_MM_leave_8 rfl ?_
    exact mr_i C hr rfl d_MM_leave_9 (by simp only [mf_leave, mf_lvK, mf_lvA, mf_lvZ, mf_lvB, m_empty_11, if_neg h5] <;> simp [mf_leave, mf_lvK, mf_lvA, mf_lvZ, mf_lvB, m_empty_11, z_at]) (by simp only [mf_leave, mf_lvK, mf_lvA, mf_lvZ, mf_lvB, m_empty_11, if_neg h5] <;> simp [mf_leave, mf_lvK, mf_lvA, mf_lvZ, mf_lvB, m_empty_11, z_at])
set_option maxHeartbeats 400000 in
set_option maxRecDepth 100000 in
theorem c_MM_make {l : Launch} {D : va_G} {dA : Nat → ClassId} {lo n : Nat} {σ : zS} {t f : Int32} {r : Int32} {τ : zS} (I : mI σ) (hR : mf_make σ t f = (r, τ)) : mM l y_MM_make b_MM_make 6 (some .int) 1 D dA lo n [.ref (ma0 lo 0), .int t, .int f] σ (some (.int (r))) τ := by
  refine zM_of (lv0 := [(0, .ref (ma0 lo 0)), (1, .int t), (2, .int f)]) (by decide) rfl rfl rfl ?_
  intro p e s m below meth c C hr hnm hsz
  have C : zC p s m ([.ref (ma0 lo 0), .int t, .int f] : List Value).toArray meth c b_MM_make 6 R_MM D dA := C
  refine zz_aload_n C d_MM_make_0 rfl ?_
  refine zz_iload_n C d_MM_make_1 rfl ?_
  refine mc_Vi C (mw_0 Nat.zero_lt_one) rfl s_MM_72 c_MM_idle rfl rfl d_MM_make_2 k_MM_idle ⟨by decide, by decide⟩ rfl ?_
  refine zz_if_ne (tgt := 17) C d_MM_make_5 (by decide) (fun h5 => ?_) (fun h5 => ?_)
  · refine zz_iconst (x := -1) C d_MM_make_17 rfl ?_
    simp only [mf_make, if_neg h5, Prod.mk.injEq] at hR
    exact mr_i C hr rfl d_MM_make_18 hR.1 hR.2
  · refine zz_iload_n C d_MM_make_8 rfl ?_
    refine zz_if_lt (tgt := 17) C d_MM_make_9 (by decide) (fun h9 => ?_) (fun h9 => ?_)
    · refine zz_iconst (x := -1) C d_MM_make_17 rfl ?_
      simp only [mf_make, if_pos h5, if_pos h9, Prod.mk.injEq] at hR
      exact mr_i C hr rfl d_MM_make_18 hR.1 hR.2
    · refine zz_iload_n C d_MM_make_12 rfl ?_
      refine zz_iconst (x := 4) C d_MM_make_13 rfl ?_
      refine zz_icmp_le (tgt := 19) C d_MM_make_14 (by decide) (fun h14 => ?_) (fun h14 => ?_)
      · refine zz_aload_n C d_MM_make_19 rfl ?_
        refine zz_iload_n C d_MM_make_20 rfl ?_
        refine mc_Vi C (mw_0 Nat.zero_lt_one) rfl s_MM_92 (c_MM_current (m_idle_thr h5) (m_top_in I (z_vlt (m_idle_thr h5)) (m_idle_len I h5))) rfl rfl d_MM_make_21 k_MM_current ⟨by decide, by decide⟩ rfl ?_
        refine zz_istore_n C d_MM_make_24 (by decide) ?_
        refine zz_iconst (x := 0) C d_MM_make_25 rfl ?_
        refine zz_istore C d_MM_make_26 (by decide) ?_
        simp only [mf_make, if_pos h5, if_neg h9, if_pos h14] at hR
        have hcu : vp_in (mf_current σ t) 10 := by
          unfold mf_current
          rw [m_ct]
          exact I.2.2.2.2.2.2.1 _ (z_vlt (m_ix (m_idle_thr h5) (m_top_in I (z_vlt (m_idle_thr h5)) (m_idle_len I h5))))
        have fin : ∀ ov : Int32, ov = mf_free σ → vp_in ov 40 → mZ p l e 1 s m ([.ref (ma0 lo 0), .int t, .int f] : List Value).toArray below meth c D dA lo 6 n (some (.int (r))) (τ) (σ) 51 [(0, .ref (ma0 lo 0)), (1, .int t), (2, .int f), (3, .int (mf_current σ t)), (4, .int ov)] [] := by
          intro ov hov hv
          have hne : ¬ ov = 40 := fun q => by rw [q] at hv; exact absurd hv (by unfold vp_in; decide)
          rw [← hov, if_neg hne] at hR
          have loop2 : ∀ (T : zS), mf_ff ov 4 0 (z_up (z_up σ 5 0 (z_ix ov) (mf_current σ t)) 6 0 (z_ix ov) f) = T → ov = r → T = τ → ∀ (k i : Nat) (iv : Int32) (σ1 : zS), iv = nI i → i + k = 4 → mf_ff ov k i σ1 = T → mZ p l e 1 s m ([.ref (ma0 lo 0), .int t, .int f] : List Value).toArray below meth c D dA lo 6 n (some (.int (r))) (τ) (σ1) 98 [(0, .ref (ma0 lo 0)), (4, .int ov), (5, .int iv)] [] := by
            intro T hT hr1 hT2 k
            induction k with
            | zero =>
              intro i iv σ1 hiv hik hres
              have hres : σ1 = T := hres
              refine zz_iload C d_MM_make_98 rfl ?_
              refine zz_iconst (x := 4) C d_MM_make_100 rfl ?_
              refine zz_icmp_ge (tgt := 123) C d_MM_make_101 (by decide) (fun h101 => ?_) (fun h101 => ?_)
              · refine zz_iload C d_MM_make_123 rfl ?_
                exact mr_i C hr rfl d_MM_make_125 hr1 (by rw [hres]; exact hT2)
              · exact absurd (z_ge (N := 4) hiv rfl (by omega) (by omega)) h101
            | succ k ih =>
              intro i iv σ1 hiv hik hres
              unfold mf_ff at hres
              refine zz_iload C d_MM_make_98 rfl ?_
              refine zz_iconst (x := 4) C d_MM_make_100 rfl ?_
              refine zz_icmp_ge (tgt := 123) C d_MM_make_101 (by decide) (fun h101 => ?_) (fun h101 => ?_)
              · exact absurd h101 (z_nge hiv rfl (show i < 4 by omega) (by decide))
              · refine zz_aload_n C d_MM_make_104 rfl ?_
                refine zz_get C (ci := 4) (N := 16) 7 rfl zi_MM (by decide) fl_MM_32 (mw_0 Nat.zero_lt_one) rfl d_MM_make_105 ?_
                refine zz_iload C d_MM_make_108 rfl ?_
                refine zz_iconst (x := 4) C d_MM_make_110 rfl ?_
                refine zz_imul C d_MM_make_111 ?_
                refine zz_iload C d_MM_make_112 rfl ?_
                refine zz_iadd C d_MM_make_114 ?_
                refine zz_iconst (x := -1) C d_MM_make_115 rfl ?_
                refine ms_7 C Nat.zero_lt_one (m_ix4 hv (z_vinI hiv (by omega) (by decide))) d_MM_make_116 ?_
                refine zz_iinc (d' := 1) C d_MM_make_117 rfl rfl (by decide) ?_
                refine zz_goto (tgt := 98) C d_MM_make_120 (by decide) ?_
                refine zz_lv [0, 4, 5] rfl ?_
                exact ih (i + 1) _ _ (z_sI hiv) (by omega) (by rw [hiv]; exact hres)
          refine zz_iload C d_MM_make_51 rfl ?_
          refine zz_bipush (x := 40) C d_MM_make_53 rfl ?_
          refine zz_icmp_eq (tgt := 76) C d_MM_make_55 (by decide) (fun h55 => ?_) (fun h55 => ?_)
          · exact absurd h55 hne
          · refine zz_aload_n C d_MM_make_58 rfl ?_
            refine zz_iload_n C d_MM_make_59 rfl ?_
            refine mc_Vi C (mw_0 Nat.zero_lt_one) rfl s_MM_95 c_MM_used rfl rfl d_MM_make_60 k_MM_used ⟨by decide, by decide⟩ rfl ?_
            refine zz_iconst (x := 1) C d_MM_make_63 rfl ?_
            refine zz_iadd C d_MM_make_64 ?_
            refine zz_iload_n C d_MM_make_65 rfl ?_
            refine zz_iadd C d_MM_make_66 ?_
            refine zz_aload_n C d_MM_make_67 rfl ?_
            refine zz_get C (ci := 4) (N := 16) 1 rfl zi_MM (by decide) fl_MM_13 (mw_0 Nat.zero_lt_one) rfl d_MM_make_68 ?_
            refine zz_iload_n C d_MM_make_71 rfl ?_
            refine zz_iald C (t0 := 0) rfl (mw_1 Nat.zero_lt_one) hcu d_MM_make_72 ?_
            refine zz_icmp_le (tgt := 79) C d_MM_make_73 (by decide) (fun h73 => ?_) (fun h73 => ?_)
            · refine zz_aload_n C d_MM_make_79 rfl ?_
              refine zz_get C (ci := 4) (N := 16) 5 rfl zi_MM (by decide) fl_MM_26 (mw_0 Nat.zero_lt_one) rfl d_MM_make_80 ?_
              refine zz_iload C d_MM_make_83 rfl ?_
              refine zz_iload_n C d_MM_make_85 rfl ?_
              refine ms_5 C Nat.zero_lt_one hv d_MM_make_86 ?_
              refine zz_aload_n C d_MM_make_87 rfl ?_
              refine zz_get C (ci := 4) (N := 16) 6 rfl zi_MM (by decide) fl_MM_29 (mw_0 Nat.zero_lt_one) rfl d_MM_make_88 ?_
              refine zz_iload C d_MM_make_91 rfl ?_
              refine zz_iload_n C d_MM_make_93 rfl ?_
              refine ms_6 C Nat.zero_lt_one hv d_MM_make_94 ?_
              refine zz_iconst (x := 0) C d_MM_make_95 rfl ?_
              refine zz_istore C d_MM_make_96 (by decide) ?_
              simp only [if_pos h73, Prod.mk.injEq] at hR
              refine zz_lv [0, 4, 5] rfl ?_
              exact loop2 _ rfl hR.1 hR.2 4 0 _ _ nI_0.symm rfl rfl
            · refine zz_bipush (x := -2) C d_MM_make_76 rfl ?_
              simp only [if_neg h73, Prod.mk.injEq] at hR
              exact mr_i C hr rfl d_MM_make_78 hR.1 hR.2
        have loop1 : ∀ (k i : Nat) (iv : Int32), iv = nI i → i + k = 40 → mf_fr σ k i = mf_free σ → mZ p l e 1 s m ([.ref (ma0 lo 0), .int t, .int f] : List Value).toArray below meth c D dA lo 6 n (some (.int (r))) (τ) (σ) 28 [(0, .ref (ma0 lo 0)), (1, .int t), (2, .int f), (3, .int (mf_current σ t)), (4, .int iv)] [] := by
          intro k
          induction k with
          | zero =>
            intro i iv hiv hik hres
            obtain rfl : i = 40 := by omega
            have hf : mf_free σ = 40 := hres.symm
            simp only [if_pos hf, Prod.mk.injEq] at hR
            refine zz_iload C d_MM_make_28 rfl ?_
            refine zz_bipush (x := 40) C d_MM_make_30 rfl ?_
            refine zz_icmp_ge (tgt := 51) C d_MM_make_32 (by decide) (fun h32 => ?_) (fun h32 => ?_)
            · refine zz_iload C d_MM_make_51 rfl ?_
              refine zz_bipush (x := 40) C d_MM_make_53 rfl ?_
              refine zz_icmp_eq (tgt := 76) C d_MM_make_55 (by decide) (fun h55 => ?_) (fun h55 => ?_)
              · refine zz_bipush (x := -2) C d_MM_make_76 rfl ?_
                exact mr_i C hr rfl d_MM_make_78 hR.1 hR.2
              · exact absurd hiv h55
            · exact absurd (z_ge (N := 40) hiv rfl (by omega) (by omega)) h32
          | succ k ih =>
            intro i iv hiv hik hres
            unfold mf_fr at hres
            have hix : iv.toNatClampNeg = i := z_ixI hiv (by omega)
            refine zz_iload C d_MM_make_28 rfl ?_
            refine zz_bipush (x := 40) C d_MM_make_30 rfl ?_
            refine zz_icmp_ge (tgt := 51) C d_MM_make_32 (by decide) (fun h32 => ?_) (fun h32 => ?_)
            · exact absurd h32 (z_nge hiv rfl (show i < 40 by omega) (by decide))
            · refine zz_aload_n C d_MM_make_35 rfl ?_
              refine zz_get C (ci := 4) (N := 16) 5 rfl zi_MM (by decide) fl_MM_26 (mw_0 Nat.zero_lt_one) rfl d_MM_make_36 ?_
              refine zz_iload C d_MM_make_39 rfl ?_
              refine zz_iald C (t0 := 0) rfl (mw_5 Nat.zero_lt_one) (z_vinI hiv (by omega) (by decide)) d_MM_make_41 ?_
              refine zz_if_lt (tgt := 51) C d_MM_make_42 (by decide) (fun h42 => ?_) (fun h42 => ?_)
              · rw [hix] at h42
                rw [if_pos h42, ← hiv] at hres
                refine zz_lv [0, 1, 2, 3, 4] rfl ?_
                exact fin iv hres (z_vinI hiv (by omega) (by decide))
              · refine zz_iinc (d' := 1) C d_MM_make_45 rfl rfl (by decide) ?_
                refine zz_goto (tgt := 28) C d_MM_make_48 (by decide) ?_
                rw [hix] at h42
                rw [if_neg h42] at hres
                refine zz_lv [0, 1, 2, 3, 4] rfl ?_
                exact ih (i + 1) _ (z_sI hiv) (by omega) hres
        refine zz_lv [0, 1, 2, 3, 4] rfl ?_
        exact loop1 40 0 _ nI_0.symm rfl rfl
      · refine zz_iconst (x := -1) C d_MM_make_17 rfl ?_
        simp only [mf_make, if_pos h5, if_neg h9, if_neg h14, Prod.mk.injEq] at hR
        exact mr_i C hr rfl d_MM_make_18 hR.1 hR.2
set_option maxHeartbeats 400000 in
set_option maxRecDepth 100000 in
theorem c_MM_keeps {l : Launch} {D : va_G} {dA : Nat → ClassId} {lo n : Nat} {σ : zS} {o : Int32} (ho : z_o 40 o) : mM l y_MM_keeps b_MM_keeps 2 (some .boolean) 0 D dA lo n [.ref (ma0 lo 0), .int o] σ (some (.int ((mf_keeps σ o).1))) ((mf_keeps σ o).2) := by
  refine zM_of (lv0 := [(0, .ref (ma0 lo 0)), (1, .int o)]) (by decide) rfl rfl rfl ?_
  intro p e s m below meth c C hr hnm hsz
  have C : zC p s m ([.ref (ma0 lo 0), .int o] : List Value).toArray meth c b_MM_keeps 2 R_MM D dA := C
  refine zz_iload_n C d_MM_keeps_0 rfl ?_
  refine zz_if_lt (tgt := 22) C d_MM_keeps_1 (by decide) (fun h1 => ?_) (fun h1 => ?_)
  · refine zz_iconst (x := 0) C d_MM_keeps_22 rfl ?_
    exact mr_i C hr rfl d_MM_keeps_23 (by simp only [mf_keeps, if_pos h1] <;> simp [mf_keeps, z_at]) (by simp only [mf_keeps, if_pos h1] <;> simp [mf_keeps, z_at])
  · refine zz_aload_n C d_MM_keeps_4 rfl ?_
    refine zz_get C (ci := 4) (N := 16) 5 rfl zi_MM (by decide) fl_MM_26 (mw_0 Nat.zero_lt_one) rfl d_MM_keeps_5 ?_
    refine zz_iload_n C d_MM_keeps_8 rfl ?_
    refine zz_iald C (t0 := 0) rfl (mw_5 Nat.zero_lt_one) (z_nlt ho h1) d_MM_keeps_9 ?_
    refine zz_if_ne (tgt := 22) C d_MM_keeps_10 (by decide) (fun h10 => ?_) (fun h10 => ?_)
    · refine zz_iconst (x := 0) C d_MM_keeps_22 rfl ?_
      exact mr_i C hr rfl d_MM_keeps_23 (by simp only [mf_keeps, if_neg h1, if_neg h10] <;> simp [mf_keeps, z_at]) (by simp only [mf_keeps, if_neg h1, if_neg h10] <;> simp [mf_keeps, z_at])
    · refine zz_aload_n C d_MM_keeps_13 rfl ?_
      refine zz_get C (ci := 4) (N := 16) 8 rfl zi_MM (by decide) fl_MM_35 (mw_0 Nat.zero_lt_one) rfl d_MM_keeps_14 ?_
      refine zz_iload_n C d_MM_keeps_17 rfl ?_
      refine zz_zald C (t0 := 1) rfl (mw_8 Nat.zero_lt_one) (z_nlt ho h1) d_MM_keeps_18 ?_
      refine zz_if_eq (tgt := 24) C d_MM_keeps_19 (by decide) (fun h19 => ?_) (fun h19 => ?_)
      · refine zz_aload_n C d_MM_keeps_24 rfl ?_
        refine zz_get C (ci := 4) (N := 16) 8 rfl zi_MM (by decide) fl_MM_35 (mw_0 Nat.zero_lt_one) rfl d_MM_keeps_25 ?_
        refine zz_iload_n C d_MM_keeps_28 rfl ?_
        refine zz_iconst (x := 1) C d_MM_keeps_29 rfl ?_
        refine ms_8 C Nat.zero_lt_one (z_nlt ho h1) d_MM_keeps_30 ?_
        refine zz_iconst (x := 1) C d_MM_keeps_31 rfl ?_
        exact mr_i C hr rfl d_MM_keeps_32 (by simp only [mf_keeps, if_neg h1, if_pos h10, if_pos h19] <;> simp [mf_keeps, z_at]) (by simp only [mf_keeps, if_neg h1, if_pos h10, if_pos h19] <;> simp [mf_keeps, z_at])
      · refine zz_iconst (x := 0) C d_MM_keeps_22 rfl ?_
        exact mr_i C hr rfl d_MM_keeps_23 (by simp only [mf_keeps, if_neg h1, if_pos h10, if_neg h19] <;> simp [mf_keeps, z_at]) (by simp only [mf_keeps, if_neg h1, if_pos h10, if_neg h19] <;> simp [mf_keeps, z_at])
set_option maxHeartbeats 400000 in
set_option maxRecDepth 100000 in
theorem c_MM_keep {l : Launch} {D : va_G} {dA : Nat → ClassId} {lo n : Nat} {σ : zS} {r : Int32} {τ : zS} (I : mI σ) (hT : mf_l3 41 (1, mf_l0 40 0 σ) = τ) (hr2 : mf_kc τ 40 0 0 = r) : mM l y_MM_keep b_MM_keep 7 (some .int) 1 D dA lo n [.ref (ma0 lo 0)] σ (some (.int (r))) τ := by
  refine zM_of (lv0 := [(0, .ref (ma0 lo 0))]) (by decide) rfl rfl rfl ?_
  intro p e s m below meth c C hr hnm hsz
  have C : zC p s m ([.ref (ma0 lo 0)] : List Value).toArray meth c b_MM_keep 7 R_MM D dA := C
  have loopD : ∀ (k i : Nat) (q iv : Int32), iv = nI i → i + k = 40 → mf_kc τ k i q = r → mZ p l e 1 s m ([.ref (ma0 lo 0)] : List Value).toArray below meth c D dA lo 7 n (some (.int (r))) (τ) (τ) 173 [(0, .ref (ma0 lo 0)), (1, .int q), (3, .int iv)] [] := by
    intro k
    induction k with
    | zero =>
      intro i q iv hiv hik hres
      refine zz_iload_n C d_MM_keep_173 rfl ?_
      refine zz_bipush (x := 40) C d_MM_keep_174 rfl ?_
      refine zz_icmp_ge (tgt := 197) C d_MM_keep_176 (by decide) (fun h176 => ?_) (fun h176 => ?_)
      · refine zz_iload_n C d_MM_keep_197 rfl ?_
        exact mr_i C hr rfl d_MM_keep_198 hres rfl
      · exact absurd (z_ge (N := 40) hiv rfl (by omega) (by omega)) h176
    | succ k ih =>
      intro i q iv hiv hik hres
      unfold mf_kc at hres
      have hix : iv.toNatClampNeg = i := z_ixI hiv (by omega)
      refine zz_iload_n C d_MM_keep_173 rfl ?_
      refine zz_bipush (x := 40) C d_MM_keep_174 rfl ?_
      refine zz_icmp_ge (tgt := 197) C d_MM_keep_176 (by decide) (fun h176 => ?_) (fun h176 => ?_)
      · exact absurd h176 (z_nge hiv rfl (show i < 40 by omega) (by decide))
      · refine zz_aload_n C d_MM_keep_179 rfl ?_
        refine zz_get C (ci := 4) (N := 16) 8 rfl zi_MM (by decide) fl_MM_35 (mw_0 Nat.zero_lt_one) rfl d_MM_keep_180 ?_
        refine zz_iload_n C d_MM_keep_183 rfl ?_
        refine zz_zald C (t0 := 1) rfl (mw_8 Nat.zero_lt_one) (z_vinI hiv (by omega) (by decide)) d_MM_keep_184 ?_
        refine zz_if_eq (tgt := 191) C d_MM_keep_185 (by decide) (fun h185 => ?_) (fun h185 => ?_)
        · refine zz_iinc (d' := 1) C d_MM_keep_191 rfl rfl (by decide) ?_
          refine zz_goto (tgt := 173) C d_MM_keep_194 (by decide) ?_
          refine zz_lv [0, 1, 3] rfl ?_
          rw [hix] at h185
          exact ih (i + 1) _ _ (z_sI hiv) (by omega) (by rw [← hres, if_pos h185])
        · refine zz_iinc (d' := 1) C d_MM_keep_188 rfl rfl (by decide) ?_
          refine zz_iinc (d' := 1) C d_MM_keep_191 rfl rfl (by decide) ?_
          refine zz_goto (tgt := 173) C d_MM_keep_194 (by decide) ?_
          refine zz_lv [0, 1, 3] rfl ?_
          rw [hix] at h185
          exact ih (i + 1) _ _ (z_sI hiv) (by omega) (by rw [← hres, if_neg h185])
  have loopB : ∀ (k i : Nat) (q iv : Int32) (σ1 : zS), iv = nI i → i + k = 41 → mI σ1 → mf_l3 k (q, σ1) = τ → mZ p l e 1 s m ([.ref (ma0 lo 0)] : List Value).toArray below meth c D dA lo 7 n (some (.int (r))) (τ) (σ1) 27 [(0, .ref (ma0 lo 0)), (1, .int 0), (2, .int q), (3, .int iv)] [] := by
    intro k
    induction k with
    | zero =>
      intro i q iv σ1 hiv hik I1 hres
      obtain rfl : σ1 = τ := hres
      refine zz_iload_n C d_MM_keep_27 rfl ?_
      refine zz_bipush (x := 41) C d_MM_keep_28 rfl ?_
      refine zz_icmp_ge (tgt := 171) C d_MM_keep_30 (by decide) (fun h30 => ?_) (fun h30 => ?_)
      · refine zz_iconst (x := 0) C d_MM_keep_171 rfl ?_
        refine zz_istore_n C d_MM_keep_172 (by decide) ?_
        refine zz_lv [0, 1, 3] rfl ?_
        exact loopD 40 0 _ _ nI_0.symm rfl hr2
      · exact absurd (z_ge (N := 41) hiv rfl (by omega) (by omega)) h30
    | succ k ih =>
      intro i q iv σ1 hiv hik I1 hres
      unfold mf_l3 at hres
      dsimp only at hres
      have loopC : ∀ (T : Int32 × zS), mf_l3 k T = τ → ∀ (k3 i3 : Nat) (q3 iv3 : Int32) (σ3 : zS), iv3 = nI i3 → i3 + k3 = 160 → mI σ3 → mf_l2 k3 i3 (q3, σ3) = T → mZ p l e 1 s m ([.ref (ma0 lo 0)] : List Value).toArray below meth c D dA lo 7 n (some (.int (r))) (τ) (σ3) 73 [(0, .ref (ma0 lo 0)), (1, .int 0), (2, .int q3), (3, .int iv), (4, .int iv3)] [] := by
        intro T hT k3
        induction k3 with
        | zero =>
          intro i3 q3 iv3 σ3 hiv3 hik3 I3 hres3
          obtain rfl : (q3, σ3) = T := hres3
          refine zz_iload C d_MM_keep_73 rfl ?_
          refine zz_sipush (x := 160) C d_MM_keep_75 rfl ?_
          refine zz_icmp_ge (tgt := 165) C d_MM_keep_78 (by decide) (fun h78 => ?_) (fun h78 => ?_)
          · refine zz_iinc (d' := 1) C d_MM_keep_165 rfl rfl (by decide) ?_
            refine zz_goto (tgt := 27) C d_MM_keep_168 (by decide) ?_
            refine zz_lv [0, 1, 2, 3] rfl ?_
            exact ih (i + 1) _ _ _ (z_sI hiv) (by omega) I3 hT
          · exact absurd (z_ge (N := 160) hiv3 rfl (by omega) (by omega)) h78
        | succ k3 ih3 =>
          intro i3 q3 iv3 σ3 hiv3 hik3 I3 hres3
          unfold mf_l2 mf_l2s at hres3
          dsimp only at hres3
          have hix3 : iv3.toNatClampNeg = i3 := z_ixI hiv3 (by omega)
          have hd4 : (nI (i3 / 4)).toNatClampNeg = i3 / 4 := nI_clamp (by omega)
          refine zz_iload C d_MM_keep_73 rfl ?_
          refine zz_sipush (x := 160) C d_MM_keep_75 rfl ?_
          refine zz_icmp_ge (tgt := 165) C d_MM_keep_78 (by decide) (fun h78 => ?_) (fun h78 => ?_)
          · exact absurd h78 (z_nge hiv3 rfl (show i3 < 160 by omega) (by decide))
          · refine zz_iload C d_MM_keep_81 rfl ?_
            refine zz_iconst (x := 4) C d_MM_keep_83 rfl ?_
            refine zz_idiv C d_MM_keep_84 (by decide) ?_
            rw [m_d4 hiv3 (by omega)]
            refine zz_istore C d_MM_keep_85 (by decide) ?_
            refine zz_aload_n C d_MM_keep_87 rfl ?_
            refine zz_get C (ci := 4) (N := 16) 5 rfl zi_MM (by decide) fl_MM_26 (mw_0 Nat.zero_lt_one) rfl d_MM_keep_88 ?_
            refine zz_iload C d_MM_keep_91 rfl ?_
            refine zz_iald C (t0 := 0) rfl (mw_5 Nat.zero_lt_one) (z_vinI rfl (by omega) (by decide)) d_MM_keep_93 ?_
            refine zz_if_gt (tgt := 117) C d_MM_keep_94 (by decide) (fun h94 => ?_) (fun h94 => ?_)
            · refine zz_iconst (x := 1) C d_MM_keep_117 rfl ?_
              refine zz_goto (tgt := 122) C d_MM_keep_118 (by decide) ?_
              refine zz_istore C d_MM_keep_122 (by decide) ?_
              refine zz_iload C d_MM_keep_124 rfl ?_
              refine zz_if_eq (tgt := 159) C d_MM_keep_126 (by decide) (fun h126 => ?_) (fun h126 => ?_)
              · exact absurd h126 (by decide)
              · refine zz_iload C d_MM_keep_129 rfl ?_
                refine zz_iconst (x := 4) C d_MM_keep_131 rfl ?_
                refine zz_irem C d_MM_keep_132 (by decide) ?_
                rw [m_r4 hiv3 (by omega)]
                refine zz_aload_n C d_MM_keep_133 rfl ?_
                refine zz_get C (ci := 4) (N := 16) 6 rfl zi_MM (by decide) fl_MM_29 (mw_0 Nat.zero_lt_one) rfl d_MM_keep_134 ?_
                refine zz_iload C d_MM_keep_137 rfl ?_
                refine zz_iald C (t0 := 0) rfl (mw_6 Nat.zero_lt_one) (z_vinI rfl (by omega) (by decide)) d_MM_keep_139 ?_
                refine zz_icmp_ge (tgt := 159) C d_MM_keep_140 (by decide) (fun h140 => ?_) (fun h140 => ?_)
                · refine zz_iinc (d' := 1) C d_MM_keep_159 rfl rfl (by decide) ?_
                  refine zz_goto (tgt := 73) C d_MM_keep_162 (by decide) ?_
                  refine zz_lv [0, 1, 2, 3, 4] rfl ?_
                  rw [hd4] at h94
                  rw [hd4] at h140
                  rw [if_pos h94, if_pos h140] at hres3
                  exact ih3 (i3 + 1) _ _ _ (z_sI hiv3) (by omega) I3 hres3
                · refine zz_aload_n C d_MM_keep_143 rfl ?_
                  refine zz_aload_n C d_MM_keep_144 rfl ?_
                  refine zz_get C (ci := 4) (N := 16) 7 rfl zi_MM (by decide) fl_MM_32 (mw_0 Nat.zero_lt_one) rfl d_MM_keep_145 ?_
                  refine zz_iload C d_MM_keep_148 rfl ?_
                  refine zz_iald C (t0 := 0) rfl (mw_7 Nat.zero_lt_one) (z_vinI hiv3 (by omega) (by decide)) d_MM_keep_150 ?_
                  refine mc_Vi C (mw_0 Nat.zero_lt_one) rfl s_MM_111 (c_MM_keeps (by rw [hix3]; exact I3.2.2.2.2.1 _ (by omega))) rfl rfl d_MM_keep_151 k_MM_keeps ⟨by decide, by decide⟩ rfl ?_
                  refine zz_if_eq (tgt := 159) C d_MM_keep_154 (by decide) (fun h154 => ?_) (fun h154 => ?_)
                  · refine zz_iinc (d' := 1) C d_MM_keep_159 rfl rfl (by decide) ?_
                    refine zz_goto (tgt := 73) C d_MM_keep_162 (by decide) ?_
                    refine zz_lv [0, 1, 2, 3, 4] rfl ?_
                    rw [hd4] at h94
                    rw [hd4] at h140
                    rw [if_pos h94, if_neg h140] at hres3
                    rw [hix3] at h154 ⊢
                    unfold mf_ks at hres3
                    dsimp only at hres3
                    rw [if_pos h154] at hres3
                    exact ih3 (i3 + 1) _ _ _ (z_sI hiv3) (by omega) (m_keeps_I I3) hres3
                  · refine zz_iconst (x := 1) C d_MM_keep_157 rfl ?_
                    refine zz_istore_n C d_MM_keep_158 (by decide) ?_
                    refine zz_iinc (d' := 1) C d_MM_keep_159 rfl rfl (by decide) ?_
                    refine zz_goto (tgt := 73) C d_MM_keep_162 (by decide) ?_
                    refine zz_lv [0, 1, 2, 3, 4] rfl ?_
                    rw [hd4] at h94
                    rw [hd4] at h140
                    rw [if_pos h94, if_neg h140] at hres3
                    rw [hix3] at h154 ⊢
                    unfold mf_ks at hres3
                    dsimp only at hres3
                    rw [if_neg h154] at hres3
                    exact ih3 (i3 + 1) _ _ _ (z_sI hiv3) (by omega) (m_keeps_I I3) hres3
            · refine zz_aload_n C d_MM_keep_97 rfl ?_
              refine zz_get C (ci := 4) (N := 16) 5 rfl zi_MM (by decide) fl_MM_26 (mw_0 Nat.zero_lt_one) rfl d_MM_keep_98 ?_
              refine zz_iload C d_MM_keep_101 rfl ?_
              refine zz_iald C (t0 := 0) rfl (mw_5 Nat.zero_lt_one) (z_vinI rfl (by omega) (by decide)) d_MM_keep_103 ?_
              refine zz_if_ne (tgt := 121) C d_MM_keep_104 (by decide) (fun h104 => ?_) (fun h104 => ?_)
              · refine zz_iconst (x := 0) C d_MM_keep_121 rfl ?_
                refine zz_istore C d_MM_keep_122 (by decide) ?_
                refine zz_iload C d_MM_keep_124 rfl ?_
                refine zz_if_eq (tgt := 159) C d_MM_keep_126 (by decide) (fun h126 => ?_) (fun h126 => ?_)
                · refine zz_iinc (d' := 1) C d_MM_keep_159 rfl rfl (by decide) ?_
                  refine zz_goto (tgt := 73) C d_MM_keep_162 (by decide) ?_
                  refine zz_lv [0, 1, 2, 3, 4] rfl ?_
                  rw [hd4] at h94 h104
                  rw [if_neg h94, if_neg h104] at hres3
                  exact ih3 (i3 + 1) _ _ _ (z_sI hiv3) (by omega) I3 hres3
                · exact absurd rfl h126
              · refine zz_aload_n C d_MM_keep_107 rfl ?_
                refine zz_get C (ci := 4) (N := 16) 8 rfl zi_MM (by decide) fl_MM_35 (mw_0 Nat.zero_lt_one) rfl d_MM_keep_108 ?_
                refine zz_iload C d_MM_keep_111 rfl ?_
                refine zz_zald C (t0 := 1) rfl (mw_8 Nat.zero_lt_one) (z_vinI rfl (by omega) (by decide)) d_MM_keep_113 ?_
                refine zz_if_eq (tgt := 121) C d_MM_keep_114 (by decide) (fun h114 => ?_) (fun h114 => ?_)
                · refine zz_iconst (x := 0) C d_MM_keep_121 rfl ?_
                  refine zz_istore C d_MM_keep_122 (by decide) ?_
                  refine zz_iload C d_MM_keep_124 rfl ?_
                  refine zz_if_eq (tgt := 159) C d_MM_keep_126 (by decide) (fun h126 => ?_) (fun h126 => ?_)
                  · refine zz_iinc (d' := 1) C d_MM_keep_159 rfl rfl (by decide) ?_
                    refine zz_goto (tgt := 73) C d_MM_keep_162 (by decide) ?_
                    refine zz_lv [0, 1, 2, 3, 4] rfl ?_
                    rw [hd4] at h94 h104 h114
                    rw [if_neg h94, if_pos h104, if_pos h114] at hres3
                    exact ih3 (i3 + 1) _ _ _ (z_sI hiv3) (by omega) I3 hres3
                  · exact absurd rfl h126
                · refine zz_iconst (x := 1) C d_MM_keep_117 rfl ?_
                  refine zz_goto (tgt := 122) C d_MM_keep_118 (by decide) ?_
                  refine zz_istore C d_MM_keep_122 (by decide) ?_
                  refine zz_iload C d_MM_keep_124 rfl ?_
                  refine zz_if_eq (tgt := 159) C d_MM_keep_126 (by decide) (fun h126 => ?_) (fun h126 => ?_)
                  · exact absurd h126 (by decide)
                  · refine zz_iload C d_MM_keep_129 rfl ?_
                    refine zz_iconst (x := 4) C d_MM_keep_131 rfl ?_
                    refine zz_irem C d_MM_keep_132 (by decide) ?_
                    rw [m_r4 hiv3 (by omega)]
                    refine zz_aload_n C d_MM_keep_133 rfl ?_
                    refine zz_get C (ci := 4) (N := 16) 6 rfl zi_MM (by decide) fl_MM_29 (mw_0 Nat.zero_lt_one) rfl d_MM_keep_134 ?_
                    refine zz_iload C d_MM_keep_137 rfl ?_
                    refine zz_iald C (t0 := 0) rfl (mw_6 Nat.zero_lt_one) (z_vinI rfl (by omega) (by decide)) d_MM_keep_139 ?_
                    refine zz_icmp_ge (tgt := 159) C d_MM_keep_140 (by decide) (fun h140 => ?_) (fun h140 => ?_)
                    · refine zz_iinc (d' := 1) C d_MM_keep_159 rfl rfl (by decide) ?_
                      refine zz_goto (tgt := 73) C d_MM_keep_162 (by decide) ?_
                      refine zz_lv [0, 1, 2, 3, 4] rfl ?_
                      rw [hd4] at h94 h104 h114
                      rw [hd4] at h140
                      rw [if_neg h94, if_pos h104, if_neg h114, if_pos h140] at hres3
                      exact ih3 (i3 + 1) _ _ _ (z_sI hiv3) (by omega) I3 hres3
                    · refine zz_aload_n C d_MM_keep_143 rfl ?_
                      refine zz_aload_n C d_MM_keep_144 rfl ?_
                      refine zz_get C (ci := 4) (N := 16) 7 rfl zi_MM (by decide) fl_MM_32 (mw_0 Nat.zero_lt_one) rfl d_MM_keep_145 ?_
                      refine zz_iload C d_MM_keep_148 rfl ?_
                      refine zz_iald C (t0 := 0) rfl (mw_7 Nat.zero_lt_one) (z_vinI hiv3 (by omega) (by decide)) d_MM_keep_150 ?_
                      refine mc_Vi C (mw_0 Nat.zero_lt_one) rfl s_MM_111 (c_MM_keeps (by rw [hix3]; exact I3.2.2.2.2.1 _ (by omega))) rfl rfl d_MM_keep_151 k_MM_keeps ⟨by decide, by decide⟩ rfl ?_
                      refine zz_if_eq (tgt := 159) C d_MM_keep_154 (by decide) (fun h154 => ?_) (fun h154 => ?_)
                      · refine zz_iinc (d' := 1) C d_MM_keep_159 rfl rfl (by decide) ?_
                        refine zz_goto (tgt := 73) C d_MM_keep_162 (by decide) ?_
                        refine zz_lv [0, 1, 2, 3, 4] rfl ?_
                        rw [hd4] at h94 h104 h114
                        rw [hd4] at h140
                        rw [if_neg h94, if_pos h104, if_neg h114, if_neg h140] at hres3
                        rw [hix3] at h154 ⊢
                        unfold mf_ks at hres3
                        dsimp only at hres3
                        rw [if_pos h154] at hres3
                        exact ih3 (i3 + 1) _ _ _ (z_sI hiv3) (by omega) (m_keeps_I I3) hres3
                      · refine zz_iconst (x := 1) C d_MM_keep_157 rfl ?_
                        refine zz_istore_n C d_MM_keep_158 (by decide) ?_
                        refine zz_iinc (d' := 1) C d_MM_keep_159 rfl rfl (by decide) ?_
                        refine zz_goto (tgt := 73) C d_MM_keep_162 (by decide) ?_
                        refine zz_lv [0, 1, 2, 3, 4] rfl ?_
                        rw [hd4] at h94 h104 h114
                        rw [hd4] at h140
                        rw [if_neg h94, if_pos h104, if_neg h114, if_neg h140] at hres3
                        rw [hix3] at h154 ⊢
                        unfold mf_ks at hres3
                        dsimp only at hres3
                        rw [if_neg h154] at hres3
                        exact ih3 (i3 + 1) _ _ _ (z_sI hiv3) (by omega) (m_keeps_I I3) hres3
      have loopA : ∀ (T : Int32 × zS), mf_l3 k (mf_l2 160 0 T) = τ → ∀ (k2 i2 : Nat) (q2 iv2 : Int32) (σ2 : zS), iv2 = nI i2 → i2 + k2 = 4 → mI σ2 → mf_l1 k2 i2 (q2, σ2) = T → mZ p l e 1 s m ([.ref (ma0 lo 0)] : List Value).toArray below meth c D dA lo 7 n (some (.int (r))) (τ) (σ2) 42 [(0, .ref (ma0 lo 0)), (1, .int 0), (2, .int q2), (3, .int iv), (4, .int iv2)] [] := by
        intro T hT k2
        induction k2 with
        | zero =>
          intro i2 q2 iv2 σ2 hiv2 hik2 I2 hres2
          obtain rfl : (q2, σ2) = T := hres2
          refine zz_iload C d_MM_keep_42 rfl ?_
          refine zz_iconst (x := 4) C d_MM_keep_44 rfl ?_
          refine zz_icmp_ge (tgt := 70) C d_MM_keep_45 (by decide) (fun h45 => ?_) (fun h45 => ?_)
          · refine zz_iconst (x := 0) C d_MM_keep_70 rfl ?_
            refine zz_istore C d_MM_keep_71 (by decide) ?_
            refine zz_lv [0, 1, 2, 3, 4] rfl ?_
            exact loopC _ hT 160 0 _ _ _ nI_0.symm rfl I2 rfl
          · exact absurd (z_ge (N := 4) hiv2 rfl (by omega) (by omega)) h45
        | succ k2 ih2 =>
          intro i2 q2 iv2 σ2 hiv2 hik2 I2 hres2
          unfold mf_l1 mf_ks at hres2
          dsimp only at hres2
          have hix2 : iv2.toNatClampNeg = i2 := z_ixI hiv2 (by omega)
          refine zz_iload C d_MM_keep_42 rfl ?_
          refine zz_iconst (x := 4) C d_MM_keep_44 rfl ?_
          refine zz_icmp_ge (tgt := 70) C d_MM_keep_45 (by decide) (fun h45 => ?_) (fun h45 => ?_)
          · exact absurd h45 (z_nge hiv2 rfl (show i2 < 4 by omega) (by decide))
          · refine zz_aload_n C d_MM_keep_48 rfl ?_
            refine zz_aload_n C d_MM_keep_49 rfl ?_
            refine zz_get C (ci := 4) (N := 16) 15 rfl zi_MM (by decide) fl_MM_57 (mw_0 Nat.zero_lt_one) rfl d_MM_keep_50 ?_
            refine zz_iload C d_MM_keep_53 rfl ?_
            refine zz_iald C (t0 := 0) rfl (mw_15 Nat.zero_lt_one) (z_vinI hiv2 (by omega) (by decide)) d_MM_keep_55 ?_
            refine mc_Vi C (mw_0 Nat.zero_lt_one) rfl s_MM_111 (c_MM_keeps (by rw [hix2]; exact I2.2.2.2.2.2.2.2.2.1 _ (by omega))) rfl rfl d_MM_keep_56 k_MM_keeps ⟨by decide, by decide⟩ rfl ?_
            refine zz_if_eq (tgt := 64) C d_MM_keep_59 (by decide) (fun h59 => ?_) (fun h59 => ?_)
            · refine zz_iinc (d' := 1) C d_MM_keep_64 rfl rfl (by decide) ?_
              refine zz_goto (tgt := 42) C d_MM_keep_67 (by decide) ?_
              refine zz_lv [0, 1, 2, 3, 4] rfl ?_
              rw [hix2] at h59 ⊢
              rw [if_pos h59] at hres2
              exact ih2 (i2 + 1) _ _ _ (z_sI hiv2) (by omega) (m_keeps_I I2) hres2
            · refine zz_iconst (x := 1) C d_MM_keep_62 rfl ?_
              refine zz_istore_n C d_MM_keep_63 (by decide) ?_
              refine zz_iinc (d' := 1) C d_MM_keep_64 rfl rfl (by decide) ?_
              refine zz_goto (tgt := 42) C d_MM_keep_67 (by decide) ?_
              refine zz_lv [0, 1, 2, 3, 4] rfl ?_
              rw [hix2] at h59 ⊢
              rw [if_neg h59] at hres2
              exact ih2 (i2 + 1) _ _ _ (z_sI hiv2) (by omega) (m_keeps_I I2) hres2
      refine zz_iload_n C d_MM_keep_27 rfl ?_
      refine zz_bipush (x := 41) C d_MM_keep_28 rfl ?_
      refine zz_icmp_ge (tgt := 171) C d_MM_keep_30 (by decide) (fun h30 => ?_) (fun h30 => ?_)
      · exact absurd h30 (z_nge hiv rfl (show i < 41 by omega) (by decide))
      · refine zz_iload_n C d_MM_keep_33 rfl ?_
        refine zz_if_eq (tgt := 171) C d_MM_keep_34 (by decide) (fun h34 => ?_) (fun h34 => ?_)
        · refine zz_iconst (x := 0) C d_MM_keep_171 rfl ?_
          refine zz_istore_n C d_MM_keep_172 (by decide) ?_
          rw [if_pos h34] at hres
          subst hres
          refine zz_lv [0, 1, 3] rfl ?_
          exact loopD 40 0 _ _ nI_0.symm rfl hr2
        · refine zz_iconst (x := 0) C d_MM_keep_37 rfl ?_
          refine zz_istore_n C d_MM_keep_38 (by decide) ?_
          refine zz_iconst (x := 0) C d_MM_keep_39 rfl ?_
          refine zz_istore C d_MM_keep_40 (by decide) ?_
          rw [if_neg h34] at hres
          refine zz_lv [0, 1, 2, 3, 4] rfl ?_
          exact loopA _ hres 4 0 _ _ _ nI_0.symm rfl I1 rfl
  have loop0 : ∀ (k i : Nat) (iv : Int32) (σ1 : zS), iv = nI i → i + k = 40 → mI σ1 → mf_l3 41 (1, mf_l0 k i σ1) = τ → mZ p l e 1 s m ([.ref (ma0 lo 0)] : List Value).toArray below meth c D dA lo 7 n (some (.int (r))) (τ) (σ1) 4 [(0, .ref (ma0 lo 0)), (1, .int 0), (2, .int iv)] [] := by
    intro k
    induction k with
    | zero =>
      intro i iv σ1 hiv hik I1 hres
      refine zz_iload_n C d_MM_keep_4 rfl ?_
      refine zz_bipush (x := 40) C d_MM_keep_5 rfl ?_
      refine zz_icmp_ge (tgt := 23) C d_MM_keep_7 (by decide) (fun h7 => ?_) (fun h7 => ?_)
      · refine zz_iconst (x := 1) C d_MM_keep_23 rfl ?_
        refine zz_istore_n C d_MM_keep_24 (by decide) ?_
        refine zz_iconst (x := 0) C d_MM_keep_25 rfl ?_
        refine zz_istore_n C d_MM_keep_26 (by decide) ?_
        refine zz_lv [0, 1, 2, 3] rfl ?_
        exact loopB 41 0 _ _ _ nI_0.symm rfl I1 hres
      · exact absurd (z_ge (N := 40) hiv rfl (by omega) (by omega)) h7
    | succ k ih =>
      intro i iv σ1 hiv hik I1 hres
      unfold mf_l0 at hres
      have hix : iv.toNatClampNeg = i := z_ixI hiv (by omega)
      refine zz_iload_n C d_MM_keep_4 rfl ?_
      refine zz_bipush (x := 40) C d_MM_keep_5 rfl ?_
      refine zz_icmp_ge (tgt := 23) C d_MM_keep_7 (by decide) (fun h7 => ?_) (fun h7 => ?_)
      · exact absurd h7 (z_nge hiv rfl (show i < 40 by omega) (by decide))
      · refine zz_aload_n C d_MM_keep_10 rfl ?_
        refine zz_get C (ci := 4) (N := 16) 8 rfl zi_MM (by decide) fl_MM_35 (mw_0 Nat.zero_lt_one) rfl d_MM_keep_11 ?_
        refine zz_iload_n C d_MM_keep_14 rfl ?_
        refine zz_iconst (x := 0) C d_MM_keep_15 rfl ?_
        refine ms_8 C Nat.zero_lt_one (z_vinI hiv (by omega) (by decide)) d_MM_keep_16 ?_
        refine zz_iinc (d' := 1) C d_MM_keep_17 rfl rfl (by decide) ?_
        refine zz_goto (tgt := 4) C d_MM_keep_20 (by decide) ?_
        refine zz_lv [0, 1, 2] rfl ?_
        rw [hix]
        exact ih (i + 1) _ _ (z_sI hiv) (by omega) (m_I8 I1) hres
  refine zz_iconst (x := 0) C d_MM_keep_0 rfl ?_
  refine zz_istore_n C d_MM_keep_1 (by decide) ?_
  refine zz_iconst (x := 0) C d_MM_keep_2 rfl ?_
  refine zz_istore_n C d_MM_keep_3 (by decide) ?_
  refine zz_lv [0, 1, 2] rfl ?_
  exact loop0 40 0 _ _ nI_0.symm rfl I hT
end
section
theorem m_w4 {w : Int32} (h : ¬ w ≤ 3) (h2 : ¬ 8 ≤ w) : vp_in (w - 4) 4 := by
  have h0 : ¬ w < 0 := by
    rw [Int32.le_iff_toInt_le] at h
    rw [Int32.lt_iff_toInt_lt, Int32.toInt_zero]
    have e1 : (3 : Int32).toInt = 3 := rfl
    omega
  obtain ⟨j, hj, rfl⟩ := nI_of h0
  have h3 : ¬ j ≤ 3 := fun q => h (nI_le q (by decide))
  have h4 : ¬ 8 ≤ j := fun q => h2 (nI_le q hj)
  rw [show (4 : Int32) = nI 4 from rfl, pk_sub (by omega)]
  exact vp_in_nI (by omega) (by decide)
set_option maxHeartbeats 400000 in
set_option maxRecDepth 100000 in
theorem c_MM_collect {l : Launch} {D : va_G} {dA : Nat → ClassId} {lo n : Nat} {σ : zS} {r : Int32} {κ τ : zS} (I : mI σ) (hT : mf_l3 41 (1, mf_l0 40 0 σ) = κ) (hR : mf_cl 40 0 (0, κ) = (r, τ)) : mM l y_MM_collect b_MM_collect 3 (some .int) 2 D dA lo n [.ref (ma0 lo 0)] σ (some (.int (r))) τ := by
  refine zM_of (lv0 := [(0, .ref (ma0 lo 0))]) (by decide) rfl rfl rfl ?_
  intro p e s m below meth c C hr hnm hsz
  have C : zC p s m ([.ref (ma0 lo 0)] : List Value).toArray meth c b_MM_collect 3 R_MM D dA := C
  have loop : ∀ (k i : Nat) (q iv : Int32) (σ1 : zS), iv = nI i → i + k = 40 → mf_cl k i (q, σ1) = (r, τ) → mZ p l e 2 s m ([.ref (ma0 lo 0)] : List Value).toArray below meth c D dA lo 3 n (some (.int (r))) (τ) (σ1) 9 [(0, .ref (ma0 lo 0)), (1, .int q), (2, .int iv)] [] := by
    intro k
    induction k with
    | zero =>
      intro i q iv σ1 hiv hik hres
      have hres : (q, σ1) = (r, τ) := hres
      simp only [Prod.mk.injEq] at hres
      refine zz_iload_n C d_MM_collect_9 rfl ?_
      refine zz_bipush (x := 40) C d_MM_collect_10 rfl ?_
      refine zz_icmp_ge (tgt := 52) C d_MM_collect_12 (by decide) (fun h12 => ?_) (fun h12 => ?_)
      · refine zz_iload_n C d_MM_collect_52 rfl ?_
        exact mr_i C hr rfl d_MM_collect_53 hres.1 hres.2
      · exact absurd (z_ge (N := 40) hiv rfl (by omega) (by omega)) h12
    | succ k ih =>
      intro i q iv σ1 hiv hik hres
      unfold mf_cl at hres
      dsimp only at hres
      have hix : iv.toNatClampNeg = i := z_ixI hiv (by omega)
      refine zz_iload_n C d_MM_collect_9 rfl ?_
      refine zz_bipush (x := 40) C d_MM_collect_10 rfl ?_
      refine zz_icmp_ge (tgt := 52) C d_MM_collect_12 (by decide) (fun h12 => ?_) (fun h12 => ?_)
      · exact absurd h12 (z_nge hiv rfl (show i < 40 by omega) (by decide))
      · refine zz_aload_n C d_MM_collect_15 rfl ?_
        refine zz_get C (ci := 4) (N := 16) 5 rfl zi_MM (by decide) fl_MM_26 (mw_0 Nat.zero_lt_one) rfl d_MM_collect_16 ?_
        refine zz_iload_n C d_MM_collect_19 rfl ?_
        refine zz_iald C (t0 := 0) rfl (mw_5 Nat.zero_lt_one) (z_vinI hiv (by omega) (by decide)) d_MM_collect_20 ?_
        refine zz_if_ne (tgt := 46) C d_MM_collect_21 (by decide) (fun h21 => ?_) (fun h21 => ?_)
        · refine zz_iinc (d' := 1) C d_MM_collect_46 rfl rfl (by decide) ?_
          refine zz_goto (tgt := 9) C d_MM_collect_49 (by decide) ?_
          refine zz_lv [0, 1, 2] rfl ?_
          rw [hix] at h21
          rw [if_neg h21] at hres
          exact ih (i + 1) _ _ _ (z_sI hiv) (by omega) hres
        · refine zz_aload_n C d_MM_collect_24 rfl ?_
          refine zz_get C (ci := 4) (N := 16) 8 rfl zi_MM (by decide) fl_MM_35 (mw_0 Nat.zero_lt_one) rfl d_MM_collect_25 ?_
          refine zz_iload_n C d_MM_collect_28 rfl ?_
          refine zz_zald C (t0 := 1) rfl (mw_8 Nat.zero_lt_one) (z_vinI hiv (by omega) (by decide)) d_MM_collect_29 ?_
          refine zz_if_eq (tgt := 36) C d_MM_collect_30 (by decide) (fun h30 => ?_) (fun h30 => ?_)
          · refine zz_aload_n C d_MM_collect_36 rfl ?_
            refine zz_get C (ci := 4) (N := 16) 5 rfl zi_MM (by decide) fl_MM_26 (mw_0 Nat.zero_lt_one) rfl d_MM_collect_37 ?_
            refine zz_iload_n C d_MM_collect_40 rfl ?_
            refine zz_iconst (x := -1) C d_MM_collect_41 rfl ?_
            refine ms_5 C Nat.zero_lt_one (z_vinI hiv (by omega) (by decide)) d_MM_collect_42 ?_
            refine zz_iinc (d' := 1) C d_MM_collect_43 rfl rfl (by decide) ?_
            refine zz_iinc (d' := 1) C d_MM_collect_46 rfl rfl (by decide) ?_
            refine zz_goto (tgt := 9) C d_MM_collect_49 (by decide) ?_
            refine zz_lv [0, 1, 2] rfl ?_
            rw [hix] at h21 h30
            rw [if_pos h21, if_pos h30] at hres
            rw [hix]
            exact ih (i + 1) _ _ _ (z_sI hiv) (by omega) hres
          · refine zz_goto (tgt := 46) C d_MM_collect_33 (by decide) ?_
            refine zz_iinc (d' := 1) C d_MM_collect_46 rfl rfl (by decide) ?_
            refine zz_goto (tgt := 9) C d_MM_collect_49 (by decide) ?_
            refine zz_lv [0, 1, 2] rfl ?_
            rw [hix] at h21 h30
            rw [if_pos h21, if_neg h30] at hres
            exact ih (i + 1) _ _ _ (z_sI hiv) (by omega) hres
  refine zz_iconst (x := 0) C d_MM_collect_0 rfl ?_
  refine zz_istore_n C d_MM_collect_1 (by decide) ?_
  refine zz_aload_n C d_MM_collect_2 rfl ?_
  refine mc_Vi C (mw_0 Nat.zero_lt_one) rfl s_MM_114 (c_MM_keep I hT rfl) rfl rfl d_MM_collect_3 k_MM_keep ⟨by decide, by decide⟩ rfl ?_
  refine zz_pop C d_MM_collect_6 rfl ?_
  refine zz_iconst (x := 0) C d_MM_collect_7 rfl ?_
  refine zz_istore_n C d_MM_collect_8 (by decide) ?_
  refine zz_lv [0, 1, 2] rfl ?_
  exact loop 40 0 _ _ _ nI_0.symm rfl hR
set_option maxHeartbeats 400000 in
set_option maxRecDepth 100000 in
theorem c_MM_count {l : Launch} {D : va_G} {dA : Nat → ClassId} {lo n : Nat} {σ : zS} {w : Int32} {r : Int32} {τ : zS} (I : mI σ) (hR : mf_count σ w = (r, τ)) : mM l y_MM_count b_MM_count 4 (some .int) 2 D dA lo n [.ref (ma0 lo 0), .int w] σ (some (.int (r))) τ := by
  refine zM_of (lv0 := [(0, .ref (ma0 lo 0)), (1, .int w)]) (by decide) rfl rfl rfl ?_
  intro p e s m below meth c C hr hnm hsz
  have C : zC p s m ([.ref (ma0 lo 0), .int w] : List Value).toArray meth c b_MM_count 4 R_MM D dA := C
  by_cases g0 : w = 0
  · subst g0
    simp only [mf_count, if_true, Prod.mk.injEq] at hR
    obtain ⟨hR1, hR2⟩ := hR
    have loop : ∀ (k i : Nat) (q iv : Int32), iv = nI i → i + k = 40 → mf_no σ k i q = r → mZ p l e 2 s m ([.ref (ma0 lo 0), .int 0] : List Value).toArray below meth c D dA lo 4 n (some (.int (r))) (τ) (σ) 8 [(0, .ref (ma0 lo 0)), (1, .int 0), (2, .int q), (3, .int iv)] [] := by
      intro k
      induction k with
      | zero =>
        intro i q iv hiv hik hres
        refine zz_iload_n C d_MM_count_8 rfl ?_
        refine zz_bipush (x := 40) C d_MM_count_9 rfl ?_
        refine zz_icmp_ge (tgt := 32) C d_MM_count_11 (by decide) (fun h11 => ?_) (fun h11 => ?_)
        · refine zz_iload_n C d_MM_count_32 rfl ?_
          refine zz_iconst (x := 2) C d_MM_count_33 rfl ?_
          refine zz_icmp_ne (tgt := 62) C d_MM_count_34 (by decide) (fun h34 => ?_) (fun h34 => ?_)
          · refine zz_iload_n C d_MM_count_62 rfl ?_
            refine zz_if_eq (tgt := 71) C d_MM_count_63 (by decide) (fun h63 => ?_) (fun h63 => ?_)
            · refine zz_iload_n C d_MM_count_71 rfl ?_
              exact mr_i C hr rfl d_MM_count_72 hres hR2
            · exact absurd rfl h63
          · exact absurd h34 (by decide)
        · exact absurd (z_ge (N := 40) hiv rfl (by omega) (by omega)) h11
      | succ k ih =>
        intro i q iv hiv hik hres
        unfold mf_no at hres
        have hix : iv.toNatClampNeg = i := z_ixI hiv (by omega)
        refine zz_iload_n C d_MM_count_8 rfl ?_
        refine zz_bipush (x := 40) C d_MM_count_9 rfl ?_
        refine zz_icmp_ge (tgt := 32) C d_MM_count_11 (by decide) (fun h11 => ?_) (fun h11 => ?_)
        · exact absurd h11 (z_nge hiv rfl (show i < 40 by omega) (by decide))
        · refine zz_aload_n C d_MM_count_14 rfl ?_
          refine zz_get C (ci := 4) (N := 16) 5 rfl zi_MM (by decide) fl_MM_26 (mw_0 Nat.zero_lt_one) rfl d_MM_count_15 ?_
          refine zz_iload_n C d_MM_count_18 rfl ?_
          refine zz_iald C (t0 := 0) rfl (mw_5 Nat.zero_lt_one) (z_vinI hiv (by omega) (by decide)) d_MM_count_19 ?_
          refine zz_if_lt (tgt := 26) C d_MM_count_20 (by decide) (fun h20 => ?_) (fun h20 => ?_)
          · refine zz_iinc (d' := 1) C d_MM_count_26 rfl rfl (by decide) ?_
            refine zz_goto (tgt := 8) C d_MM_count_29 (by decide) ?_
            refine zz_lv [0, 1, 2, 3] rfl ?_
            rw [hix] at h20
            exact ih (i + 1) _ _ (z_sI hiv) (by omega) (by rw [← hres, if_pos h20])
          · refine zz_iinc (d' := 1) C d_MM_count_23 rfl rfl (by decide) ?_
            refine zz_iinc (d' := 1) C d_MM_count_26 rfl rfl (by decide) ?_
            refine zz_goto (tgt := 8) C d_MM_count_29 (by decide) ?_
            refine zz_lv [0, 1, 2, 3] rfl ?_
            rw [hix] at h20
            exact ih (i + 1) _ _ (z_sI hiv) (by omega) (by rw [← hres, if_neg h20])
    refine zz_iconst (x := 0) C d_MM_count_0 rfl ?_
    refine zz_istore_n C d_MM_count_1 (by decide) ?_
    refine zz_iload_n C d_MM_count_2 rfl ?_
    refine zz_if_ne (tgt := 32) C d_MM_count_3 (by decide) (fun h3 => ?_) (fun h3 => ?_)
    · exact absurd rfl h3
    · refine zz_iconst (x := 0) C d_MM_count_6 rfl ?_
      refine zz_istore_n C d_MM_count_7 (by decide) ?_
      refine zz_lv [0, 1, 2, 3] rfl ?_
      exact loop 40 0 _ _ nI_0.symm rfl hR1
  by_cases g2 : w = 2
  · subst g2
    simp only [mf_count, if_neg g0, if_true, Prod.mk.injEq] at hR
    obtain ⟨hR1, hR2⟩ := hR
    have loop : ∀ (k i : Nat) (q iv : Int32), iv = nI i → i + k = 4 → mf_nb σ k i q = r → mZ p l e 2 s m ([.ref (ma0 lo 0), .int 2] : List Value).toArray below meth c D dA lo 4 n (some (.int (r))) (τ) (σ) 39 [(0, .ref (ma0 lo 0)), (1, .int 2), (2, .int q), (3, .int iv)] [] := by
      intro k
      induction k with
      | zero =>
        intro i q iv hiv hik hres
        refine zz_iload_n C d_MM_count_39 rfl ?_
        refine zz_iconst (x := 4) C d_MM_count_40 rfl ?_
        refine zz_icmp_ge (tgt := 62) C d_MM_count_41 (by decide) (fun h41 => ?_) (fun h41 => ?_)
        · refine zz_iload_n C d_MM_count_62 rfl ?_
          refine zz_if_eq (tgt := 71) C d_MM_count_63 (by decide) (fun h63 => ?_) (fun h63 => ?_)
          · exact absurd h63 g0
          · refine zz_iload_n C d_MM_count_66 rfl ?_
            refine zz_iconst (x := 2) C d_MM_count_67 rfl ?_
            refine zz_icmp_ne (tgt := 73) C d_MM_count_68 (by decide) (fun h68 => ?_) (fun h68 => ?_)
            · exact absurd rfl h68
            · refine zz_iload_n C d_MM_count_71 rfl ?_
              exact mr_i C hr rfl d_MM_count_72 hres hR2
        · exact absurd (z_ge (N := 4) hiv rfl (by omega) (by omega)) h41
      | succ k ih =>
        intro i q iv hiv hik hres
        unfold mf_nb at hres
        have hix : iv.toNatClampNeg = i := z_ixI hiv (by omega)
        refine zz_iload_n C d_MM_count_39 rfl ?_
        refine zz_iconst (x := 4) C d_MM_count_40 rfl ?_
        refine zz_icmp_ge (tgt := 62) C d_MM_count_41 (by decide) (fun h41 => ?_) (fun h41 => ?_)
        · exact absurd h41 (z_nge hiv rfl (show i < 4 by omega) (by decide))
        · refine zz_aload_n C d_MM_count_44 rfl ?_
          refine zz_get C (ci := 4) (N := 16) 9 rfl zi_MM (by decide) fl_MM_39 (mw_0 Nat.zero_lt_one) rfl d_MM_count_45 ?_
          refine zz_iload_n C d_MM_count_48 rfl ?_
          refine zz_zald C (t0 := 1) rfl (mw_9 Nat.zero_lt_one) (z_vinI hiv (by omega) (by decide)) d_MM_count_49 ?_
          refine zz_if_eq (tgt := 56) C d_MM_count_50 (by decide) (fun h50 => ?_) (fun h50 => ?_)
          · refine zz_iinc (d' := 1) C d_MM_count_56 rfl rfl (by decide) ?_
            refine zz_goto (tgt := 39) C d_MM_count_59 (by decide) ?_
            refine zz_lv [0, 1, 2, 3] rfl ?_
            rw [hix] at h50
            exact ih (i + 1) _ _ (z_sI hiv) (by omega) (by rw [← hres, if_pos h50])
          · refine zz_iinc (d' := 1) C d_MM_count_53 rfl rfl (by decide) ?_
            refine zz_iinc (d' := 1) C d_MM_count_56 rfl rfl (by decide) ?_
            refine zz_goto (tgt := 39) C d_MM_count_59 (by decide) ?_
            refine zz_lv [0, 1, 2, 3] rfl ?_
            rw [hix] at h50
            exact ih (i + 1) _ _ (z_sI hiv) (by omega) (by rw [← hres, if_neg h50])
    refine zz_iconst (x := 0) C d_MM_count_0 rfl ?_
    refine zz_istore_n C d_MM_count_1 (by decide) ?_
    refine zz_iload_n C d_MM_count_2 rfl ?_
    refine zz_if_ne (tgt := 32) C d_MM_count_3 (by decide) (fun h3 => ?_) (fun h3 => ?_)
    · refine zz_iload_n C d_MM_count_32 rfl ?_
      refine zz_iconst (x := 2) C d_MM_count_33 rfl ?_
      refine zz_icmp_ne (tgt := 62) C d_MM_count_34 (by decide) (fun h34 => ?_) (fun h34 => ?_)
      · exact absurd rfl h34
      · refine zz_iconst (x := 0) C d_MM_count_37 rfl ?_
        refine zz_istore_n C d_MM_count_38 (by decide) ?_
        refine zz_lv [0, 1, 2, 3] rfl ?_
        exact loop 4 0 _ _ nI_0.symm rfl hR1
    · exact absurd h3 g0
  refine zz_iconst (x := 0) C d_MM_count_0 rfl ?_
  refine zz_istore_n C d_MM_count_1 (by decide) ?_
  refine zz_iload_n C d_MM_count_2 rfl ?_
  refine zz_if_ne (tgt := 32) C d_MM_count_3 (by decide) (fun h3 => ?_) (fun h3 => ?_)
  · refine zz_iload_n C d_MM_count_32 rfl ?_
    refine zz_iconst (x := 2) C d_MM_count_33 rfl ?_
    refine zz_icmp_ne (tgt := 62) C d_MM_count_34 (by decide) (fun h34 => ?_) (fun h34 => ?_)
    · refine zz_iload_n C d_MM_count_62 rfl ?_
      refine zz_if_eq (tgt := 71) C d_MM_count_63 (by decide) (fun h63 => ?_) (fun h63 => ?_)
      · exact absurd h63 g0
      · refine zz_iload_n C d_MM_count_66 rfl ?_
        refine zz_iconst (x := 2) C d_MM_count_67 rfl ?_
        refine zz_icmp_ne (tgt := 73) C d_MM_count_68 (by decide) (fun h68 => ?_) (fun h68 => ?_)
        · refine zz_iload_n C d_MM_count_73 rfl ?_
          refine zz_iconst (x := 1) C d_MM_count_74 rfl ?_
          refine zz_icmp_ne (tgt := 83) C d_MM_count_75 (by decide) (fun h75 => ?_) (fun h75 => ?_)
          · refine zz_iload_n C d_MM_count_83 rfl ?_
            refine zz_iconst (x := 3) C d_MM_count_84 rfl ?_
            refine zz_icmp_ne (tgt := 93) C d_MM_count_85 (by decide) (fun h85 => ?_) (fun h85 => ?_)
            · refine zz_iload_n C d_MM_count_93 rfl ?_
              refine zz_iconst (x := 3) C d_MM_count_94 rfl ?_
              refine zz_icmp_le (tgt := 131) C d_MM_count_95 (by decide) (fun h95 => ?_) (fun h95 => ?_)
              · refine zz_iconst (x := -1) C d_MM_count_131 rfl ?_
                simp only [mf_count, if_neg g0, if_neg g2, if_neg h75, if_neg h85, if_pos h95, Prod.mk.injEq] at hR
                exact mr_i C hr rfl d_MM_count_132 hR.1 hR.2
              · refine zz_iload_n C d_MM_count_98 rfl ?_
                refine zz_bipush (x := 8) C d_MM_count_99 rfl ?_
                refine zz_icmp_ge (tgt := 131) C d_MM_count_101 (by decide) (fun h101 => ?_) (fun h101 => ?_)
                · refine zz_iconst (x := -1) C d_MM_count_131 rfl ?_
                  simp only [mf_count, if_neg g0, if_neg g2, if_neg h75, if_neg h85, if_neg h95, if_pos h101, Prod.mk.injEq] at hR
                  exact mr_i C hr rfl d_MM_count_132 hR.1 hR.2
                · refine zz_aload_n C d_MM_count_104 rfl ?_
                  refine zz_get C (ci := 4) (N := 16) 15 rfl zi_MM (by decide) fl_MM_57 (mw_0 Nat.zero_lt_one) rfl d_MM_count_105 ?_
                  refine zz_iload_n C d_MM_count_108 rfl ?_
                  refine zz_iconst (x := 4) C d_MM_count_109 rfl ?_
                  refine zz_isub C d_MM_count_110 ?_
                  refine zz_iald C (t0 := 0) rfl (mw_15 Nat.zero_lt_one) (m_w4 h95 h101) d_MM_count_111 ?_
                  refine zz_if_ge (tgt := 120) C d_MM_count_112 (by decide) (fun h112 => ?_) (fun h112 => ?_)
                  · refine zz_aload_n C d_MM_count_120 rfl ?_
                    refine zz_get C (ci := 4) (N := 16) 15 rfl zi_MM (by decide) fl_MM_57 (mw_0 Nat.zero_lt_one) rfl d_MM_count_121 ?_
                    refine zz_iload_n C d_MM_count_124 rfl ?_
                    refine zz_iconst (x := 4) C d_MM_count_125 rfl ?_
                    refine zz_isub C d_MM_count_126 ?_
                    refine zz_iald C (t0 := 0) rfl (mw_15 Nat.zero_lt_one) (m_w4 h95 h101) d_MM_count_127 ?_
                    refine zz_goto (tgt := 132) C d_MM_count_128 (by decide) ?_
                    simp only [mf_count, if_neg g0, if_neg g2, if_neg h75, if_neg h85, if_neg h95, if_neg h101, if_pos h112, Prod.mk.injEq] at hR
                    exact mr_i C hr rfl d_MM_count_132 hR.1 hR.2
                  · refine zz_bipush (x := -6) C d_MM_count_115 rfl ?_
                    refine zz_goto (tgt := 132) C d_MM_count_117 (by decide) ?_
                    simp only [mf_count, if_neg g0, if_neg g2, if_neg h75, if_neg h85, if_neg h95, if_neg h101, if_neg h112, Prod.mk.injEq] at hR
                    exact mr_i C hr rfl d_MM_count_132 hR.1 hR.2
            · simp only [mf_count, if_neg g0, if_neg g2, if_neg h75, if_pos h85, mf_keep, mf_keepS, Prod.mk.injEq] at hR
              obtain ⟨hR1, hR2⟩ := hR
              rw [hR2] at hR1
              refine zz_aload_n C d_MM_count_88 rfl ?_
              refine mc_Vi C (mw_0 Nat.zero_lt_one) rfl s_MM_114 (c_MM_keep I hR2 hR1) rfl rfl d_MM_count_89 k_MM_keep ⟨by decide, by decide⟩ rfl ?_
              exact mr_i C hr rfl d_MM_count_92 rfl rfl
          · refine zz_aload_n C d_MM_count_78 rfl ?_
            refine zz_get C (ci := 4) (N := 16) 0 rfl zi_MM (by decide) fl_MM_7 (mw_0 Nat.zero_lt_one) rfl d_MM_count_79 ?_
            simp only [mf_count, if_neg g0, if_neg g2, if_pos h75, Prod.mk.injEq] at hR
            exact mr_i C hr rfl d_MM_count_82 hR.1 hR.2
        · exact absurd h68 g2
    · exact absurd h34 g2
  · exact absurd h3 g0
end
section
section ZN
variable {p : Program} {l : Launch} {e : Env} {R : Room} {s : State} {m : MethodId} {args : Array Value} {below : List Frame} {meth : Method} {c : Code} {cc : ByteArray} {nL : Nat} {own : String} {D : va_G} {dA : Nat → ClassId} {A : Nat → Prop} {Q : State → Prop} {w : zW} {n kc ks pc : Nat} {lv : zL} {st : List Value}
theorem zz_newB (C : zC p s m args meth c cc nL own D dA) {Cn : String} {T : u_T} {N ci index : Nat} {fs : List Value} (hc : classes[ci]? = some (Cn, T, N)) (hin : ∀ w ∈ u_ws Cn T N, w ∈ zT) (ty0 : Nat → FieldType) (hty : ∀ k, k < N → parseFieldDescriptor (T k).2.2.1 = some (ty0 k)) (hcl : Cond.classLink own index Cn ∈ zT ∧ Cond.instantiable Cn N ∈ zT ∧ Cond.initialized Cn ∈ zT) (hfs : ∀ j, j < N → defaultValue (ty0 j) = vp_V fs j) (hcells : kc + 1 ≤ R.cells) (hslots : ks + N ≤ R.slots) (hd : decode cc pc = .ok (.new index, 3)) (k : zz p l e R s m args below meth c D A nL Q (va_up w n (some (.inr (ci, fs)))) (n + 1) (kc + 1) (ks + N) (pc + 3) lv (.ref n :: st)) : zz p l e R s m args below meth c D A nL Q w n kc ks pc lv st := by
  intro H locs ls hn hP hS hL
  have hK : va_K D classes (zTy dA) s := C.2.2.2.2.2.1.1
  have hts := C.2.2.2.2.1
  have hKn := hK.1 ci _ hc
  refine W.newcK C.1 C.2.1 C.2.2.2.1 (hts _ hcl.1) (hts _ hcl.2.1) (hts _ hcl.2.2) rfl hd hcells hslots hKn.2.1 hn fun H1 kC hkC e1 z1 o1 => ?_
  exact k H1 locs ls z1 (hP.push hn ⟨_, hc, (u_born ty0 hts hin hKn hkC e1 hty).to hfs⟩ o1) ⟨Nat.le_trans hS.1 (by omega), fun x h1 h2 => (o1 x (by have := hS.1; omega)).trans (hS.2.1 x h1 h2), hS.2.2⟩ hL
end ZN
theorem za_int : Cond.arrayClass .int ∈ zT := zt_of (i := 46) (by decide +kernel) rfl
theorem za_bool : Cond.arrayClass .boolean ∈ zT := zt_of (i := 90) (by decide +kernel) rfl
theorem zc_obj : Cond.code objectInit ⟨#[0xb1]⟩ 1 none ∈ zT := zt_of (i := 14) rfl rfl
theorem zo_SM : Cond.methodLink R_SM 1 objectInit ∈ zT ∧ Cond.instanceMethod objectInit ∈ zT ∧ Cond.code objectInit ⟨#[0xb1]⟩ 1 none ∈ zT := ⟨zt_of (i := 12) (by decide +kernel) rfl, zt_of (i := 13) (by decide +kernel) rfl, zc_obj⟩
theorem zo_Ar : Cond.methodLink R_Ar 3 objectInit ∈ zT ∧ Cond.instanceMethod objectInit ∈ zT ∧ Cond.code objectInit ⟨#[0xb1]⟩ 1 none ∈ zT := ⟨zt_of (i := 25) (by decide +kernel) rfl, zt_of (i := 13) (by decide +kernel) rfl, zc_obj⟩
theorem zo_Ce : Cond.methodLink R_Ce 3 objectInit ∈ zT ∧ Cond.instanceMethod objectInit ∈ zT ∧ Cond.code objectInit ⟨#[0xb1]⟩ 1 none ∈ zT := ⟨zt_of (i := 51) (by decide +kernel) rfl, zt_of (i := 13) (by decide +kernel) rfl, zc_obj⟩
theorem zo_Ro : Cond.methodLink R_Ro 3 objectInit ∈ zT ∧ Cond.instanceMethod objectInit ∈ zT ∧ Cond.code objectInit ⟨#[0xb1]⟩ 1 none ∈ zT := ⟨zt_of (i := 72) (by decide +kernel) rfl, zt_of (i := 13) (by decide +kernel) rfl, zc_obj⟩
theorem zo_MM : Cond.methodLink R_MM 1 objectInit ∈ zT ∧ Cond.instanceMethod objectInit ∈ zT ∧ Cond.code objectInit ⟨#[0xb1]⟩ 1 none ∈ zT := ⟨zt_of (i := 336) (by decide +kernel) rfl, zt_of (i := 13) (by decide +kernel) rfl, zc_obj⟩
theorem zc_Ar : Cond.classLink R_SM 9 R_Ar ∈ zT ∧ Cond.instantiable R_Ar 5 ∈ zT ∧ Cond.initialized R_Ar ∈ zT := ⟨zt_of (i := 15) (by decide +kernel) rfl, zt_of (i := 21) (by decide +kernel) rfl, zt_of (i := 2) (by decide +kernel) rfl⟩
theorem zc_Ce : Cond.classLink R_SM 15 R_Ce ∈ zT ∧ Cond.instantiable R_Ce 4 ∈ zT ∧ Cond.initialized R_Ce ∈ zT := ⟨zt_of (i := 17) (by decide +kernel) rfl, zt_of (i := 47) (by decide +kernel) rfl, zt_of (i := 3) (by decide +kernel) rfl⟩
theorem zc_Ro : Cond.classLink R_SM 21 R_Ro ∈ zT ∧ Cond.instantiable R_Ro 5 ∈ zT ∧ Cond.initialized R_Ro ∈ zT := ⟨zt_of (i := 19) (by decide +kernel) rfl, zt_of (i := 68) (by decide +kernel) rfl, zt_of (i := 4) (by decide +kernel) rfl⟩
theorem zm_min : (Cond.methodLink R_SM 173 Lib.Math.min.name ∈ zT ∧ Cond.static Lib.Math.min.name ∈ zT ∧ Cond.initialized "java/lang/Math" ∈ zT) := ⟨zt_of (i := 94) (by decide +kernel) rfl, zt_of (i := 95) (by decide +kernel) rfl, zt_of (i := 5) (by decide +kernel) rfl⟩
theorem zm_max : (Cond.methodLink R_SM 179 Lib.Math.max.name ∈ zT ∧ Cond.static Lib.Math.max.name ∈ zT ∧ Cond.initialized "java/lang/Math" ∈ zT) := ⟨zt_of (i := 97) (by decide +kernel) rfl, zt_of (i := 98) (by decide +kernel) rfl, zt_of (i := 5) (by decide +kernel) rfl⟩
theorem zm_minc : Cond.code Lib.Math.min.name Lib.Math.min.code 2 (some .int) ∈ zT := zt_of (i := 96) rfl rfl
theorem zm_maxc : Cond.code Lib.Math.max.name Lib.Math.max.code 2 (some .int) ∈ zT := zt_of (i := 99) rfl rfl
set_option maxHeartbeats 400000 in
set_option maxRecDepth 100000 in
theorem c_SM_clampBaseSize {l : Launch} {D : va_G} {dA : Nat → ClassId} {lo n : Nat} {σ : zS} {x : Int32} : xM l y_SM_clampBaseSize b_SM_clampBaseSize 1 (some .int) 1 D dA lo n [.int x] σ (some (.int (xf_clampBaseSize x))) σ := by
  refine zM_of (lv0 := [(0, .int x)]) (by decide) rfl rfl rfl ?_
  intro p e s m below meth c C hr hnm hsz
  have C : zC p s m _ meth c b_SM_clampBaseSize 1 R_SM D dA := C
  refine zz_iconst (x := 4) C d_SM_clampBaseSize_0 rfl ?_
  refine zz_bipush (x := 60) C d_SM_clampBaseSize_1 rfl ?_
  refine zz_iload_n C d_SM_clampBaseSize_3 rfl ?_
  refine zz_mmin C zm_min zm_minc (by decide) (by decide) (Nat.le_refl _) (Nat.le_refl _) d_SM_clampBaseSize_4 ?_
  refine zz_mmax C zm_max zm_maxc (by decide) (by decide) (Nat.le_refl _) (Nat.le_refl _) d_SM_clampBaseSize_7 ?_
  exact xr_i C hr rfl d_SM_clampBaseSize_10 rfl rfl
set_option maxHeartbeats 400000 in
set_option maxRecDepth 100000 in
theorem c_Ar_init {l : Launch} {D : va_G} {dA : Nat → ClassId} {A : Nat → Prop} {a n : Nat} {w : zW} (ha : w a = some (.inr (0, [.int 0, .int 0, .int 0, .int 0, .int 0]))) (hA : A a) : zM l y_Ar_init b_Ar_init 1 none (zR 1) D dA A [.ref a] w n none (va_up w a (some (.inr (0, [.int 0, .int 0, .int 0, .int 0, .int (-1)])))) n 0 0 := by
  refine zM_of (lv0 := [(0, .ref a)]) (by decide) rfl rfl rfl ?_
  intro p e s m below meth c C hr hnm hsz
  have C : zC p s m _ meth c b_Ar_init 1 R_Ar D dA := C
  refine zz_aload_n C d_Ar_init_0 rfl ?_
  refine zz_objInit C zo_Ar d_Ar_init_1 (by decide) (by decide) ?_
  refine zz_aload_n C d_Ar_init_4 rfl ?_
  refine zz_iconst (x := 0) C d_Ar_init_5 rfl ?_
  refine zz_put C (ci := 0) (N := 5) 3 rfl zi_Ar t_Ar t_Ar_ok n_Ar (by decide) fl_Ar_9 rfl rfl rfl rfl (Nat.le_of_ble_eq_true rfl) ha hA d_Ar_init_6 ?_
  refine zz_aload_n C d_Ar_init_9 rfl ?_
  refine zz_iconst (x := -1) C d_Ar_init_10 rfl ?_
  refine zz_put C (ci := 0) (N := 5) 4 rfl zi_Ar t_Ar t_Ar_ok n_Ar (by decide) fl_Ar_15 rfl rfl rfl rfl (Nat.le_of_ble_eq_true rfl) (va_up_self _ _ _) hA d_Ar_init_11 ?_
  exact zz_vret C hr d_Ar_init_14 (Nat.le_refl _) (Nat.le_refl _) rfl (fun q e h => by rw [bx_uu]; exact h)
def zRm (K cells slots : Nat) : Room := { frames := K, cells := cells, slots := slots, locals := 40 * K }
set_option maxHeartbeats 400000 in
set_option maxRecDepth 100000 in
theorem c_Ce_init {l : Launch} {D : va_G} {dA : Nat → ClassId} {A : Nat → Prop} {a n : Nat} {w : zW} (ha : w a = some (.inr (1, [.null, .int 0, .int 0, .int 0]))) (hA : A a) (hne : a ≠ n) : zM l y_Ce_init b_Ce_init 1 none (zRm 1 1 4) D dA A [.ref a] w n none (va_up (va_up w n (some (.inl (dA 0, 4, .inl (fun _ => 0))))) a (some (.inr (1, [.ref n, .int (-1), .int 0, .int 0])))) (n + 1) 1 4 := by
  refine zM_of (lv0 := [(0, .ref a)]) (by decide) rfl rfl rfl ?_
  intro p e s m below meth c C hr hnm hsz
  have C : zC p s m _ meth c b_Ce_init 1 R_Ce D dA := C
  refine zz_aload_n C d_Ce_init_0 rfl ?_
  refine zz_objInit C zo_Ce d_Ce_init_1 (by decide) (by decide) ?_
  refine zz_aload_n C d_Ce_init_4 rfl ?_
  refine zz_iconst (x := 4) C d_Ce_init_5 rfl ?_
  refine zz_newa (atype := .int) (ty := .int) (t0 := 0) (a0 := (4, .inl (fun _ => 0))) C rfl rfl za_int (fun _ _ => rfl) (fun _ => rfl) (by decide) rfl (by decide) (by decide) (by decide) d_Ce_init_6 ?_
  refine zz_putF C (ci := 1) (N := 4) 0 rfl zi_Ce t_Ce t_Ce_ok n_Ce (by decide) fl_Ce_9 rfl hnm rfl rfl rfl rfl (Nat.le_of_ble_eq_true rfl) ((va_up_ne _ _ hne).trans ha) hA d_Ce_init_8 ?_
  refine zz_aload_n C d_Ce_init_11 rfl ?_
  refine zz_iconst (x := -1) C d_Ce_init_12 rfl ?_
  refine zz_put C (ci := 1) (N := 4) 1 rfl zi_Ce t_Ce t_Ce_ok n_Ce (by decide) fl_Ce_15 rfl rfl rfl rfl (Nat.le_of_ble_eq_true rfl) (va_up_self _ _ _) hA d_Ce_init_13 ?_
  exact zz_vret C hr d_Ce_init_16 (Nat.le_refl _) (Nat.le_refl _) rfl (fun q e h => by rw [bx_uu]; exact h)
set_option maxHeartbeats 400000 in
set_option maxRecDepth 100000 in
theorem c_Ro_init {l : Launch} {D : va_G} {dA : Nat → ClassId} {A : Nat → Prop} {a n : Nat} {w : zW} (ha : w a = some (.inr (2, [.null, .null, .null, .int 0, .int 0]))) (hA : A a) (hne : a < n) : zM l y_Ro_init b_Ro_init 1 none (zRm 1 3 36) D dA A [.ref a] w n none (va_up (va_up (va_up (va_up w n (some (.inl (dA 0, 12, .inl (fun _ => 0))))) (n + 1) (some (.inl (dA 0, 12, .inl (fun _ => 0))))) (n + 2) (some (.inl (dA 1, 12, .inl (fun _ => 0))))) a (some (.inr (2, [.ref n, .ref (n + 1), .ref (n + 2), .int 0, .int 0])))) (n + 3) 3 36 := by
  refine zM_of (lv0 := [(0, .ref a)]) (by decide) rfl rfl rfl ?_
  intro p e s m below meth c C hr hnm hsz
  have C : zC p s m _ meth c b_Ro_init 1 R_Ro D dA := C
  refine zz_aload_n C d_Ro_init_0 rfl ?_
  refine zz_objInit C zo_Ro d_Ro_init_1 (by decide) (by decide) ?_
  refine zz_aload_n C d_Ro_init_4 rfl ?_
  refine zz_bipush (x := 12) C d_Ro_init_5 rfl ?_
  refine zz_newa (atype := .int) (ty := .int) (t0 := 0) (a0 := (12, .inl (fun _ => 0))) C rfl rfl za_int (fun _ _ => rfl) (fun _ => rfl) (by decide) rfl (by decide) (by decide) (by decide) d_Ro_init_7 ?_
  refine zz_putF C (ci := 2) (N := 5) 0 rfl zi_Ro t_Ro t_Ro_ok n_Ro (by decide) fl_Ro_9 rfl hnm rfl rfl rfl rfl (Nat.le_of_ble_eq_true rfl) ((va_up_ne _ _ (by omega)).trans ha) hA d_Ro_init_9 ?_
  refine zz_aload_n C d_Ro_init_12 rfl ?_
  refine zz_bipush (x := 12) C d_Ro_init_13 rfl ?_
  refine zz_newa (atype := .int) (ty := .int) (t0 := 0) (a0 := (12, .inl (fun _ => 0))) C rfl rfl za_int (fun _ _ => rfl) (fun _ => rfl) (by decide) rfl (by decide) (by decide) (by decide) d_Ro_init_15 ?_
  refine zz_putF C (ci := 2) (N := 5) 1 rfl zi_Ro t_Ro t_Ro_ok n_Ro (by decide) fl_Ro_15 rfl hnm rfl rfl rfl rfl (Nat.le_of_ble_eq_true rfl) ((va_up_ne _ _ (by omega)).trans (va_up_self _ _ _)) hA d_Ro_init_17 ?_
  refine zz_aload_n C d_Ro_init_20 rfl ?_
  refine zz_bipush (x := 12) C d_Ro_init_21 rfl ?_
  refine zz_newa (atype := .boolean) (ty := .boolean) (t0 := 1) (a0 := (12, .inl (fun _ => 0))) C rfl rfl za_bool (fun _ _ => rfl) (fun _ => rfl) (by decide) rfl (by decide) (by decide) (by decide) d_Ro_init_23 ?_
  refine zz_putF C (ci := 2) (N := 5) 2 rfl zi_Ro t_Ro t_Ro_ok n_Ro (by decide) fl_Ro_18 rfl hnm rfl rfl rfl rfl (Nat.le_of_ble_eq_true rfl) ((va_up_ne _ _ (by omega)).trans (va_up_self _ _ _)) hA d_Ro_init_25 ?_
  refine zz_vret C hr d_Ro_init_28 (by decide) (by decide) rfl (fun q e h => ?_)
  rw [← h]
  unfold va_up
  (repeat' split) <;> first | rfl | (exfalso; omega)
end
