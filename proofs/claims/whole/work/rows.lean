section
-- ===== PART A: goes FIRST, ahead of the names: the tables' words, and 'selects' of the private methods out of them =====
/-- a private method of a class that the tables say can be made, by its rows of tables_1 -/
def lw_okq (q : MethodName × Nat) : Prop := (q.1.cls ≠ "java/lang/invoke/MethodHandle" ∧ q.1.cls ≠ "java/lang/invoke/VarHandle") ∧ Cond.instantiable q.1.cls q.2 ∈ tables_1 ∧ Cond.privateMethod q.1 ∈ tables_1 ∧ Cond.instanceMethod q.1 ∈ tables_1
theorem lw_p0 : lw_okq (⟨"MemberOracle$World", "addType", "(IIZ)I"⟩, 10) := ⟨⟨by decide +kernel, by decide +kernel⟩, List.mem_of_getElem? (i := 15) (by decide +kernel), List.mem_of_getElem? (i := 118) (by decide +kernel), List.mem_of_getElem? (i := 119) (by decide +kernel)⟩
theorem lw_p1 : lw_okq (⟨"MemberOracle", "findField", "(III)I"⟩, 4) := ⟨⟨by decide +kernel, by decide +kernel⟩, List.mem_of_getElem? (i := 7) (by decide +kernel), List.mem_of_getElem? (i := 214) (by decide +kernel), List.mem_of_getElem? (i := 215) (by decide +kernel)⟩
theorem lw_p2 : lw_okq (⟨"MemberOracle$World", "nextToSearch", "(II)I"⟩, 10) := ⟨⟨by decide +kernel, by decide +kernel⟩, List.mem_of_getElem? (i := 15) (by decide +kernel), List.mem_of_getElem? (i := 231) (by decide +kernel), List.mem_of_getElem? (i := 232) (by decide +kernel)⟩
theorem lw_p3 : lw_okq (⟨"MemberOracle", "admitted", "(LMemberOracle$Members;III)I"⟩, 4) := ⟨⟨by decide +kernel, by decide +kernel⟩, List.mem_of_getElem? (i := 7) (by decide +kernel), List.mem_of_getElem? (i := 235) (by decide +kernel), List.mem_of_getElem? (i := 236) (by decide +kernel)⟩
theorem lw_p4 : lw_okq (⟨"MemberOracle", "mayUseMember", "(III)Z"⟩, 4) := ⟨⟨by decide +kernel, by decide +kernel⟩, List.mem_of_getElem? (i := 7) (by decide +kernel), List.mem_of_getElem? (i := 243) (by decide +kernel), List.mem_of_getElem? (i := 244) (by decide +kernel)⟩
theorem lw_p5 : lw_okq (⟨"MemberOracle", "resolveMethod", "(ZIII)I"⟩, 4) := ⟨⟨by decide +kernel, by decide +kernel⟩, List.mem_of_getElem? (i := 7) (by decide +kernel), List.mem_of_getElem? (i := 255) (by decide +kernel), List.mem_of_getElem? (i := 256) (by decide +kernel)⟩
theorem lw_p6 : lw_okq (⟨"MemberOracle", "bestOfInterfaces", "(II)I"⟩, 4) := ⟨⟨by decide +kernel, by decide +kernel⟩, List.mem_of_getElem? (i := 7) (by decide +kernel), List.mem_of_getElem? (i := 267) (by decide +kernel), List.mem_of_getElem? (i := 268) (by decide +kernel)⟩
theorem lw_p7 : lw_okq (⟨"MemberOracle", "maximalSet", "(II)I"⟩, 4) := ⟨⟨by decide +kernel, by decide +kernel⟩, List.mem_of_getElem? (i := 7) (by decide +kernel), List.mem_of_getElem? (i := 271) (by decide +kernel), List.mem_of_getElem? (i := 272) (by decide +kernel)⟩
theorem lw_p8 : lw_okq (⟨"MemberOracle", "interfaceMethods", "(II)I"⟩, 4) := ⟨⟨by decide +kernel, by decide +kernel⟩, List.mem_of_getElem? (i := 7) (by decide +kernel), List.mem_of_getElem? (i := 275) (by decide +kernel), List.mem_of_getElem? (i := 276) (by decide +kernel)⟩
theorem lw_p9 : lw_okq (⟨"MemberOracle", "isReceiver", "(IIII)Z"⟩, 4) := ⟨⟨by decide +kernel, by decide +kernel⟩, List.mem_of_getElem? (i := 7) (by decide +kernel), List.mem_of_getElem? (i := 320) (by decide +kernel), List.mem_of_getElem? (i := 321) (by decide +kernel)⟩
theorem lw_p10 : lw_okq (⟨"MemberOracle", "invokeVirtual", "(IIII)I"⟩, 4) := ⟨⟨by decide +kernel, by decide +kernel⟩, List.mem_of_getElem? (i := 7) (by decide +kernel), List.mem_of_getElem? (i := 325) (by decide +kernel), List.mem_of_getElem? (i := 326) (by decide +kernel)⟩
theorem lw_p11 : lw_okq (⟨"MemberOracle", "select", "(III)I"⟩, 4) := ⟨⟨by decide +kernel, by decide +kernel⟩, List.mem_of_getElem? (i := 7) (by decide +kernel), List.mem_of_getElem? (i := 329) (by decide +kernel), List.mem_of_getElem? (i := 330) (by decide +kernel)⟩
theorem lw_p12 : lw_okq (⟨"MemberOracle", "canOverride", "(III)Z"⟩, 4) := ⟨⟨by decide +kernel, by decide +kernel⟩, List.mem_of_getElem? (i := 7) (by decide +kernel), List.mem_of_getElem? (i := 333) (by decide +kernel), List.mem_of_getElem? (i := 334) (by decide +kernel)⟩
theorem lw_p13 : lw_okq (⟨"MemberOracle", "overridesOneOf", "(III)Z"⟩, 4) := ⟨⟨by decide +kernel, by decide +kernel⟩, List.mem_of_getElem? (i := 7) (by decide +kernel), List.mem_of_getElem? (i := 345) (by decide +kernel), List.mem_of_getElem? (i := 346) (by decide +kernel)⟩
theorem lw_p14 : lw_okq (⟨"MemberOracle", "overridesAtOnce", "(III)Z"⟩, 4) := ⟨⟨by decide +kernel, by decide +kernel⟩, List.mem_of_getElem? (i := 7) (by decide +kernel), List.mem_of_getElem? (i := 349) (by decide +kernel), List.mem_of_getElem? (i := 350) (by decide +kernel)⟩
theorem lw_p15 : lw_okq (⟨"MemberOracle", "runnable", "(II)I"⟩, 4) := ⟨⟨by decide +kernel, by decide +kernel⟩, List.mem_of_getElem? (i := 7) (by decide +kernel), List.mem_of_getElem? (i := 353) (by decide +kernel), List.mem_of_getElem? (i := 354) (by decide +kernel)⟩
def lw_privs_1 : List (MethodName × Nat) := [(⟨"MemberOracle$World", "addType", "(IIZ)I"⟩, 10), (⟨"MemberOracle", "findField", "(III)I"⟩, 4), (⟨"MemberOracle$World", "nextToSearch", "(II)I"⟩, 10), (⟨"MemberOracle", "admitted", "(LMemberOracle$Members;III)I"⟩, 4), (⟨"MemberOracle", "mayUseMember", "(III)Z"⟩, 4), (⟨"MemberOracle", "resolveMethod", "(ZIII)I"⟩, 4), (⟨"MemberOracle", "bestOfInterfaces", "(II)I"⟩, 4), (⟨"MemberOracle", "maximalSet", "(II)I"⟩, 4), (⟨"MemberOracle", "interfaceMethods", "(II)I"⟩, 4), (⟨"MemberOracle", "isReceiver", "(IIII)Z"⟩, 4), (⟨"MemberOracle", "invokeVirtual", "(IIII)I"⟩, 4), (⟨"MemberOracle", "select", "(III)I"⟩, 4), (⟨"MemberOracle", "canOverride", "(III)Z"⟩, 4), (⟨"MemberOracle", "overridesOneOf", "(III)Z"⟩, 4), (⟨"MemberOracle", "overridesAtOnce", "(III)Z"⟩, 4), (⟨"MemberOracle", "runnable", "(II)I"⟩, 4)]
theorem lw_r1 : ∀ q ∈ lw_privs_1, lw_okq q := List.forall_mem_cons.mpr ⟨lw_p0, List.forall_mem_cons.mpr ⟨lw_p1, List.forall_mem_cons.mpr ⟨lw_p2, List.forall_mem_cons.mpr ⟨lw_p3, List.forall_mem_cons.mpr ⟨lw_p4, List.forall_mem_cons.mpr ⟨lw_p5, List.forall_mem_cons.mpr ⟨lw_p6, List.forall_mem_cons.mpr ⟨lw_p7, List.forall_mem_cons.mpr ⟨lw_p8, List.forall_mem_cons.mpr ⟨lw_p9, List.forall_mem_cons.mpr ⟨lw_p10, List.forall_mem_cons.mpr ⟨lw_p11, List.forall_mem_cons.mpr ⟨lw_p12, List.forall_mem_cons.mpr ⟨lw_p13, List.forall_mem_cons.mpr ⟨lw_p14, List.forall_mem_cons.mpr ⟨lw_p15, fun _ h => absurd h List.not_mem_nil⟩⟩⟩⟩⟩⟩⟩⟩⟩⟩⟩⟩⟩⟩⟩⟩
theorem lw_p16 : lw_okq (⟨"MemberOracle", "invokeInterface", "(IIII)I"⟩, 4) := ⟨⟨by decide +kernel, by decide +kernel⟩, List.mem_of_getElem? (i := 7) (by decide +kernel), List.mem_of_getElem? (i := 357) (by decide +kernel), List.mem_of_getElem? (i := 358) (by decide +kernel)⟩
theorem lw_p17 : lw_okq (⟨"MemberOracle", "invokeSpecial", "(III)I"⟩, 4) := ⟨⟨by decide +kernel, by decide +kernel⟩, List.mem_of_getElem? (i := 7) (by decide +kernel), List.mem_of_getElem? (i := 361) (by decide +kernel), List.mem_of_getElem? (i := 362) (by decide +kernel)⟩
theorem lw_p18 : lw_okq (⟨"MemberOracle", "invokeStatic", "(III)I"⟩, 4) := ⟨⟨by decide +kernel, by decide +kernel⟩, List.mem_of_getElem? (i := 7) (by decide +kernel), List.mem_of_getElem? (i := 369) (by decide +kernel), List.mem_of_getElem? (i := 370) (by decide +kernel)⟩
theorem lw_p19 : lw_okq (⟨"MemberOracleModel", "there", "(I)Z"⟩, 15) := ⟨⟨by decide +kernel, by decide +kernel⟩, List.mem_of_getElem? (i := 398) (by decide +kernel), List.mem_of_getElem? (i := 458) (by decide +kernel), List.mem_of_getElem? (i := 459) (by decide +kernel)⟩
theorem lw_p20 : lw_okq (⟨"MemberOracleModel", "tell", "(IZ)I"⟩, 15) := ⟨⟨by decide +kernel, by decide +kernel⟩, List.mem_of_getElem? (i := 398) (by decide +kernel), List.mem_of_getElem? (i := 462) (by decide +kernel), List.mem_of_getElem? (i := 463) (by decide +kernel)⟩
theorem lw_p21 : lw_okq (⟨"MemberOracleModel", "closeAbove", "()V"⟩, 15) := ⟨⟨by decide +kernel, by decide +kernel⟩, List.mem_of_getElem? (i := 398) (by decide +kernel), List.mem_of_getElem? (i := 494) (by decide +kernel), List.mem_of_getElem? (i := 495) (by decide +kernel)⟩
theorem lw_p22 : lw_okq (⟨"MemberOracleModel", "resolved", "(IIII)I"⟩, 15) := ⟨⟨by decide +kernel, by decide +kernel⟩, List.mem_of_getElem? (i := 398) (by decide +kernel), List.mem_of_getElem? (i := 498) (by decide +kernel), List.mem_of_getElem? (i := 499) (by decide +kernel)⟩
theorem lw_p23 : lw_okq (⟨"MemberOracleModel", "usableType", "(II)Z"⟩, 15) := ⟨⟨by decide +kernel, by decide +kernel⟩, List.mem_of_getElem? (i := 398) (by decide +kernel), List.mem_of_getElem? (i := 502) (by decide +kernel), List.mem_of_getElem? (i := 503) (by decide +kernel)⟩
theorem lw_p24 : lw_okq (⟨"MemberOracleModel", "findField", "(II)I"⟩, 15) := ⟨⟨by decide +kernel, by decide +kernel⟩, List.mem_of_getElem? (i := 398) (by decide +kernel), List.mem_of_getElem? (i := 506) (by decide +kernel), List.mem_of_getElem? (i := 507) (by decide +kernel)⟩
theorem lw_p25 : lw_okq (⟨"MemberOracleModel", "usable", "(III)Z"⟩, 15) := ⟨⟨by decide +kernel, by decide +kernel⟩, List.mem_of_getElem? (i := 398) (by decide +kernel), List.mem_of_getElem? (i := 510) (by decide +kernel), List.mem_of_getElem? (i := 511) (by decide +kernel)⟩
theorem lw_p26 : lw_okq (⟨"MemberOracleModel", "is", "(II)Z"⟩, 15) := ⟨⟨by decide +kernel, by decide +kernel⟩, List.mem_of_getElem? (i := 398) (by decide +kernel), List.mem_of_getElem? (i := 514) (by decide +kernel), List.mem_of_getElem? (i := 515) (by decide +kernel)⟩
theorem lw_p27 : lw_okq (⟨"MemberOracleModel", "findMethod", "(III)I"⟩, 15) := ⟨⟨by decide +kernel, by decide +kernel⟩, List.mem_of_getElem? (i := 398) (by decide +kernel), List.mem_of_getElem? (i := 518) (by decide +kernel), List.mem_of_getElem? (i := 519) (by decide +kernel)⟩
theorem lw_p28 : lw_okq (⟨"MemberOracleModel", "has", "(II)Z"⟩, 15) := ⟨⟨by decide +kernel, by decide +kernel⟩, List.mem_of_getElem? (i := 398) (by decide +kernel), List.mem_of_getElem? (i := 522) (by decide +kernel), List.mem_of_getElem? (i := 523) (by decide +kernel)⟩
theorem lw_p29 : lw_okq (⟨"MemberOracleModel", "findAbove", "(II)I"⟩, 15) := ⟨⟨by decide +kernel, by decide +kernel⟩, List.mem_of_getElem? (i := 398) (by decide +kernel), List.mem_of_getElem? (i := 526) (by decide +kernel), List.mem_of_getElem? (i := 527) (by decide +kernel)⟩
theorem lw_p30 : lw_okq (⟨"MemberOracleModel", "maximals", "(II)I"⟩, 15) := ⟨⟨by decide +kernel, by decide +kernel⟩, List.mem_of_getElem? (i := 398) (by decide +kernel), List.mem_of_getElem? (i := 530) (by decide +kernel), List.mem_of_getElem? (i := 531) (by decide +kernel)⟩
theorem lw_p31 : lw_okq (⟨"MemberOracleModel", "candidates", "(II)I"⟩, 15) := ⟨⟨by decide +kernel, by decide +kernel⟩, List.mem_of_getElem? (i := 398) (by decide +kernel), List.mem_of_getElem? (i := 534) (by decide +kernel), List.mem_of_getElem? (i := 535) (by decide +kernel)⟩
def lw_privs_2 : List (MethodName × Nat) := [(⟨"MemberOracle", "invokeInterface", "(IIII)I"⟩, 4), (⟨"MemberOracle", "invokeSpecial", "(III)I"⟩, 4), (⟨"MemberOracle", "invokeStatic", "(III)I"⟩, 4), (⟨"MemberOracleModel", "there", "(I)Z"⟩, 15), (⟨"MemberOracleModel", "tell", "(IZ)I"⟩, 15), (⟨"MemberOracleModel", "closeAbove", "()V"⟩, 15), (⟨"MemberOracleModel", "resolved", "(IIII)I"⟩, 15), (⟨"MemberOracleModel", "usableType", "(II)Z"⟩, 15), (⟨"MemberOracleModel", "findField", "(II)I"⟩, 15), (⟨"MemberOracleModel", "usable", "(III)Z"⟩, 15), (⟨"MemberOracleModel", "is", "(II)Z"⟩, 15), (⟨"MemberOracleModel", "findMethod", "(III)I"⟩, 15), (⟨"MemberOracleModel", "has", "(II)Z"⟩, 15), (⟨"MemberOracleModel", "findAbove", "(II)I"⟩, 15), (⟨"MemberOracleModel", "maximals", "(II)I"⟩, 15), (⟨"MemberOracleModel", "candidates", "(II)I"⟩, 15)]
theorem lw_r2 : ∀ q ∈ lw_privs_2, lw_okq q := List.forall_mem_cons.mpr ⟨lw_p16, List.forall_mem_cons.mpr ⟨lw_p17, List.forall_mem_cons.mpr ⟨lw_p18, List.forall_mem_cons.mpr ⟨lw_p19, List.forall_mem_cons.mpr ⟨lw_p20, List.forall_mem_cons.mpr ⟨lw_p21, List.forall_mem_cons.mpr ⟨lw_p22, List.forall_mem_cons.mpr ⟨lw_p23, List.forall_mem_cons.mpr ⟨lw_p24, List.forall_mem_cons.mpr ⟨lw_p25, List.forall_mem_cons.mpr ⟨lw_p26, List.forall_mem_cons.mpr ⟨lw_p27, List.forall_mem_cons.mpr ⟨lw_p28, List.forall_mem_cons.mpr ⟨lw_p29, List.forall_mem_cons.mpr ⟨lw_p30, List.forall_mem_cons.mpr ⟨lw_p31, fun _ h => absurd h List.not_mem_nil⟩⟩⟩⟩⟩⟩⟩⟩⟩⟩⟩⟩⟩⟩⟩⟩
theorem lw_p32 : lw_okq (⟨"MemberOracleModel", "isStatic", "(II)Z"⟩, 15) := ⟨⟨by decide +kernel, by decide +kernel⟩, List.mem_of_getElem? (i := 398) (by decide +kernel), List.mem_of_getElem? (i := 538) (by decide +kernel), List.mem_of_getElem? (i := 539) (by decide +kernel)⟩
theorem lw_p33 : lw_okq (⟨"MemberOracleModel", "isPrivate", "(II)Z"⟩, 15) := ⟨⟨by decide +kernel, by decide +kernel⟩, List.mem_of_getElem? (i := 398) (by decide +kernel), List.mem_of_getElem? (i := 542) (by decide +kernel), List.mem_of_getElem? (i := 543) (by decide +kernel)⟩
theorem lw_p34 : lw_okq (⟨"MemberOracleModel", "only", "(II)I"⟩, 15) := ⟨⟨by decide +kernel, by decide +kernel⟩, List.mem_of_getElem? (i := 398) (by decide +kernel), List.mem_of_getElem? (i := 546) (by decide +kernel), List.mem_of_getElem? (i := 547) (by decide +kernel)⟩
theorem lw_p35 : lw_okq (⟨"MemberOracleModel", "isAbstract", "(II)Z"⟩, 15) := ⟨⟨by decide +kernel, by decide +kernel⟩, List.mem_of_getElem? (i := 398) (by decide +kernel), List.mem_of_getElem? (i := 550) (by decide +kernel), List.mem_of_getElem? (i := 551) (by decide +kernel)⟩
theorem lw_p36 : lw_okq (⟨"MemberOracleModel", "special", "(III)I"⟩, 15) := ⟨⟨by decide +kernel, by decide +kernel⟩, List.mem_of_getElem? (i := 398) (by decide +kernel), List.mem_of_getElem? (i := 566) (by decide +kernel), List.mem_of_getElem? (i := 567) (by decide +kernel)⟩
theorem lw_p37 : lw_okq (⟨"MemberOracleModel", "withCode", "(II)I"⟩, 15) := ⟨⟨by decide +kernel, by decide +kernel⟩, List.mem_of_getElem? (i := 398) (by decide +kernel), List.mem_of_getElem? (i := 570) (by decide +kernel), List.mem_of_getElem? (i := 571) (by decide +kernel)⟩
theorem lw_p38 : lw_okq (⟨"MemberOracleModel", "coded", "(II)I"⟩, 15) := ⟨⟨by decide +kernel, by decide +kernel⟩, List.mem_of_getElem? (i := 398) (by decide +kernel), List.mem_of_getElem? (i := 574) (by decide +kernel), List.mem_of_getElem? (i := 575) (by decide +kernel)⟩
theorem lw_p39 : lw_okq (⟨"MemberOracleModel", "selected", "(III)I"⟩, 15) := ⟨⟨by decide +kernel, by decide +kernel⟩, List.mem_of_getElem? (i := 398) (by decide +kernel), List.mem_of_getElem? (i := 578) (by decide +kernel), List.mem_of_getElem? (i := 579) (by decide +kernel)⟩
theorem lw_p40 : lw_okq (⟨"MemberOracleModel", "fillCan", "(I)V"⟩, 15) := ⟨⟨by decide +kernel, by decide +kernel⟩, List.mem_of_getElem? (i := 398) (by decide +kernel), List.mem_of_getElem? (i := 582) (by decide +kernel), List.mem_of_getElem? (i := 583) (by decide +kernel)⟩
theorem lw_p41 : lw_okq (⟨"MemberOracleModel", "overriding", "(III)Z"⟩, 15) := ⟨⟨by decide +kernel, by decide +kernel⟩, List.mem_of_getElem? (i := 398) (by decide +kernel), List.mem_of_getElem? (i := 586) (by decide +kernel), List.mem_of_getElem? (i := 587) (by decide +kernel)⟩
def lw_privs_3 : List (MethodName × Nat) := [(⟨"MemberOracleModel", "isStatic", "(II)Z"⟩, 15), (⟨"MemberOracleModel", "isPrivate", "(II)Z"⟩, 15), (⟨"MemberOracleModel", "only", "(II)I"⟩, 15), (⟨"MemberOracleModel", "isAbstract", "(II)Z"⟩, 15), (⟨"MemberOracleModel", "special", "(III)I"⟩, 15), (⟨"MemberOracleModel", "withCode", "(II)I"⟩, 15), (⟨"MemberOracleModel", "coded", "(II)I"⟩, 15), (⟨"MemberOracleModel", "selected", "(III)I"⟩, 15), (⟨"MemberOracleModel", "fillCan", "(I)V"⟩, 15), (⟨"MemberOracleModel", "overriding", "(III)Z"⟩, 15)]
theorem lw_r3 : ∀ q ∈ lw_privs_3, lw_okq q := List.forall_mem_cons.mpr ⟨lw_p32, List.forall_mem_cons.mpr ⟨lw_p33, List.forall_mem_cons.mpr ⟨lw_p34, List.forall_mem_cons.mpr ⟨lw_p35, List.forall_mem_cons.mpr ⟨lw_p36, List.forall_mem_cons.mpr ⟨lw_p37, List.forall_mem_cons.mpr ⟨lw_p38, List.forall_mem_cons.mpr ⟨lw_p39, List.forall_mem_cons.mpr ⟨lw_p40, List.forall_mem_cons.mpr ⟨lw_p41, fun _ h => absurd h List.not_mem_nil⟩⟩⟩⟩⟩⟩⟩⟩⟩⟩
def lw_privs : List (MethodName × Nat) := lw_privs_1 ++ (lw_privs_2 ++ (lw_privs_3))
def lw_tbl : List Cond := k2_sels lw_privs ++ tables_1
theorem lw_privs_ok : ∀ q ∈ lw_privs, lw_okq q := by
  show ∀ q ∈ lw_privs_1 ++ (lw_privs_2 ++ (lw_privs_3)), lw_okq q
  exact List.forall_mem_append.mpr ⟨lw_r1, List.forall_mem_append.mpr ⟨lw_r2, lw_r3⟩⟩
end
section
def R_W : String := "MemberOracle$World"
def F_W : u_T := fun k => match k with
  | 0 => ("MemberOracle$World", "superclasses", "[I", true)
  | 1 => ("MemberOracle$World", "packages", "[I", true)
  | 2 => ("MemberOracle$World", "hosts", "[I", true)
  | 3 => ("MemberOracle$World", "directCounts", "[I", true)
  | 4 => ("MemberOracle$World", "directs", "[I", true)
  | 5 => ("MemberOracle$World", "families", "[I", true)
  | 6 => ("MemberOracle$World", "publicSet", "I", false)
  | 7 => ("MemberOracle$World", "finalSet", "I", false)
  | 8 => ("MemberOracle$World", "interfaceSet", "I", false)
  | _ => ("MemberOracle$World", "count", "I", false)
def t_W : Nat → FieldType := fun k => match k with
  | 0 => (.array .int)
  | 1 => (.array .int)
  | 2 => (.array .int)
  | 3 => (.array .int)
  | 4 => (.array .int)
  | 5 => (.array .int)
  | 6 => .int
  | 7 => .int
  | 8 => .int
  | _ => .int
theorem n_W : ∀ a, a < 10 → ∀ b, b < 10 → a ≠ b → (F_W a).2.1 ≠ (F_W b).2.1 := by decide +kernel
theorem t_W_ok : ∀ k, k < 10 → parseFieldDescriptor (F_W k).2.2.1 = some (t_W k) := by decide +kernel
def R_M : String := "MemberOracle$Members"
def F_M : u_T := fun k => match k with
  | 0 => ("MemberOracle$Members", "ownerSets", "[I", true)
  | 1 => ("MemberOracle$Members", "staticSets", "[I", true)
  | 2 => ("MemberOracle$Members", "abstractSets", "[I", true)
  | 3 => ("MemberOracle$Members", "privateSets", "[I", true)
  | _ => ("MemberOracle$Members", "accesses", "[I", true)
def t_M : Nat → FieldType := fun k => match k with
  | 0 => (.array .int)
  | 1 => (.array .int)
  | 2 => (.array .int)
  | 3 => (.array .int)
  | _ => (.array .int)
theorem n_M : ∀ a, a < 5 → ∀ b, b < 5 → a ≠ b → (F_M a).2.1 ≠ (F_M b).2.1 := by decide +kernel
theorem t_M_ok : ∀ k, k < 5 → parseFieldDescriptor (F_M k).2.2.1 = some (t_M k) := by decide +kernel
def R_O : String := "MemberOracle"
def F_O : u_T := fun k => match k with
  | 0 => ("MemberOracle", "world", "LMemberOracle$World;", true)
  | 1 => ("MemberOracle", "fields", "LMemberOracle$Members;", true)
  | 2 => ("MemberOracle", "methods", "LMemberOracle$Members;", true)
  | _ => ("MemberOracle", "lastChoices", "I", false)
def t_O : Nat → FieldType := fun k => match k with
  | 0 => .object "MemberOracle$World"
  | 1 => .object "MemberOracle$Members"
  | 2 => .object "MemberOracle$Members"
  | _ => .int
theorem n_O : ∀ a, a < 4 → ∀ b, b < 4 → a ≠ b → (F_O a).2.1 ≠ (F_O b).2.1 := by decide +kernel
theorem t_O_ok : ∀ k, k < 4 → parseFieldDescriptor (F_O k).2.2.1 = some (t_O k) := by decide +kernel
def R_R : String := "MemberOracleModel"
def F_R : u_T := fun k => match k with
  | 0 => ("MemberOracleModel", "types", "I", false)
  | 1 => ("MemberOracleModel", "isInterface", "[Z", true)
  | 2 => ("MemberOracleModel", "isPublic", "[Z", true)
  | 3 => ("MemberOracleModel", "isFinal", "[Z", true)
  | 4 => ("MemberOracleModel", "pack", "[I", true)
  | 5 => ("MemberOracleModel", "parent", "[I", true)
  | 6 => ("MemberOracleModel", "host", "[I", true)
  | 7 => ("MemberOracleModel", "direct", "[I", true)
  | 8 => ("MemberOracleModel", "directs", "[I", true)
  | 9 => ("MemberOracleModel", "fields", "[I", true)
  | 10 => ("MemberOracleModel", "methods", "[I", true)
  | 11 => ("MemberOracleModel", "above", "[I", true)
  | 12 => ("MemberOracleModel", "can", "[Z", true)
  | 13 => ("MemberOracleModel", "stack", "[I", true)
  | _ => ("MemberOracleModel", "choices", "I", false)
def t_R : Nat → FieldType := fun k => match k with
  | 0 => .int
  | 1 => (.array .boolean)
  | 2 => (.array .boolean)
  | 3 => (.array .boolean)
  | 4 => (.array .int)
  | 5 => (.array .int)
  | 6 => (.array .int)
  | 7 => (.array .int)
  | 8 => (.array .int)
  | 9 => (.array .int)
  | 10 => (.array .int)
  | 11 => (.array .int)
  | 12 => (.array .boolean)
  | 13 => (.array .int)
  | _ => .int
theorem n_R : ∀ a, a < 15 → ∀ b, b < 15 → a ≠ b → (F_R a).2.1 ≠ (F_R b).2.1 := by decide +kernel
theorem t_R_ok : ∀ k, k < 15 → parseFieldDescriptor (F_R k).2.2.1 = some (t_R k) := by decide +kernel
def R_J : String := "java/lang/Integer"
abbrev classes : List vw_C := [(R_W, F_W, 10), (R_M, F_M, 5), (R_O, F_O, 4), (R_R, F_R, 15)]
abbrev b_O_init : ByteArray := prog_1_method_1_code
def y_O_init : MethodName := ⟨R_O, "<init>", "()V"⟩
abbrev b_W_init : ByteArray := prog_3_method_1_code
def y_W_init : MethodName := ⟨R_W, "<init>", "()V"⟩
abbrev b_M_init : ByteArray := prog_2_method_1_code
def y_M_init : MethodName := ⟨R_M, "<init>", "()V"⟩
abbrev b_O_tellClass : ByteArray := prog_1_method_2_code
def y_O_tellClass : MethodName := ⟨R_O, "tellClass", "(IIZZ)I"⟩
abbrev b_O_isPackage : ByteArray := prog_1_method_18_code
def y_O_isPackage : MethodName := ⟨R_O, "isPackage", "(I)Z"⟩
abbrev b_W_mayBeExtended : ByteArray := prog_3_method_6_code
def y_W_mayBeExtended : MethodName := ⟨R_W, "mayBeExtended", "(I)Z"⟩
abbrev b_W_isClass : ByteArray := prog_3_method_5_code
def y_W_isClass : MethodName := ⟨R_W, "isClass", "(I)Z"⟩
abbrev b_W_has : ByteArray := prog_3_method_2_code
def y_W_has : MethodName := ⟨R_W, "has", "(I)Z"⟩
abbrev b_O_holds : ByteArray := prog_1_method_39_code
def y_O_holds : MethodName := ⟨R_O, "holds", "(II)Z"⟩
abbrev b_W_isFull : ByteArray := prog_3_method_3_code
def y_W_isFull : MethodName := ⟨R_W, "isFull", "()Z"⟩
abbrev b_W_addClass : ByteArray := prog_3_method_7_code
def y_W_addClass : MethodName := ⟨R_W, "addClass", "(IIZZ)I"⟩
abbrev b_W_addType : ByteArray := prog_3_method_9_code
def y_W_addType : MethodName := ⟨R_W, "addType", "(IIZ)I"⟩
abbrev b_O_tellInterface : ByteArray := prog_1_method_3_code
def y_O_tellInterface : MethodName := ⟨R_O, "tellInterface", "(IZ)I"⟩
abbrev b_W_addInterface : ByteArray := prog_3_method_8_code
def y_W_addInterface : MethodName := ⟨R_W, "addInterface", "(IZ)I"⟩
abbrev b_O_implement : ByteArray := prog_1_method_4_code
def y_O_implement : MethodName := ⟨R_O, "implement", "(II)I"⟩
abbrev b_W_isInterface : ByteArray := prog_3_method_4_code
def y_W_isInterface : MethodName := ⟨R_W, "isInterface", "(I)Z"⟩
abbrev b_W_hasDirect : ByteArray := prog_3_method_11_code
def y_W_hasDirect : MethodName := ⟨R_W, "hasDirect", "(II)Z"⟩
abbrev b_W_directAt : ByteArray := prog_3_method_13_code
def y_W_directAt : MethodName := ⟨R_W, "directAt", "(II)I"⟩
abbrev b_W_directCount : ByteArray := prog_3_method_12_code
def y_W_directCount : MethodName := ⟨R_W, "directCount", "(I)I"⟩
abbrev b_W_addDirect : ByteArray := prog_3_method_10_code
def y_W_addDirect : MethodName := ⟨R_W, "addDirect", "(II)I"⟩
abbrev b_O_nest : ByteArray := prog_1_method_5_code
def y_O_nest : MethodName := ⟨R_O, "nest", "(II)I"⟩
abbrev b_W_samePackage : ByteArray := prog_3_method_20_code
def y_W_samePackage : MethodName := ⟨R_W, "samePackage", "(II)Z"⟩
abbrev b_W_hostOf : ByteArray := prog_3_method_16_code
def y_W_hostOf : MethodName := ⟨R_W, "hostOf", "(I)I"⟩
abbrev b_W_hostsAnother : ByteArray := prog_3_method_18_code
def y_W_hostsAnother : MethodName := ⟨R_W, "hostsAnother", "(I)Z"⟩
abbrev b_W_setHost : ByteArray := prog_3_method_17_code
def y_W_setHost : MethodName := ⟨R_W, "setHost", "(II)V"⟩
abbrev b_O_field : ByteArray := prog_1_method_6_code
def y_O_field : MethodName := ⟨R_O, "field", "(IIIZ)I"⟩
abbrev b_O_isName : ByteArray := prog_1_method_19_code
def y_O_isName : MethodName := ⟨R_O, "isName", "(I)Z"⟩
abbrev b_O_isAccess : ByteArray := prog_1_method_20_code
def y_O_isAccess : MethodName := ⟨R_O, "isAccess", "(I)Z"⟩
abbrev b_M_put : ByteArray := prog_2_method_2_code
def y_M_put : MethodName := ⟨R_M, "put", "(IIII)V"⟩
abbrev b_M_drop : ByteArray := prog_2_method_3_code
def y_M_drop : MethodName := ⟨R_M, "drop", "(II)V"⟩
abbrev b_O_method : ByteArray := prog_1_method_7_code
def y_O_method : MethodName := ⟨R_O, "method", "(IIII)I"⟩
abbrev b_O_isForm : ByteArray := prog_1_method_21_code
def y_O_isForm : MethodName := ⟨R_O, "isForm", "(I)Z"⟩
abbrev b_O_untell : ByteArray := prog_1_method_8_code
def y_O_untell : MethodName := ⟨R_O, "untell", "(III)I"⟩
abbrev b_M_has : ByteArray := prog_2_method_4_code
def y_M_has : MethodName := ⟨R_M, "has", "(II)Z"⟩
abbrev b_O_resolve : ByteArray := prog_1_method_9_code
def y_O_resolve : MethodName := ⟨R_O, "resolve", "(IIII)I"⟩
abbrev b_O_findField : ByteArray := prog_1_method_23_code
def y_O_findField : MethodName := ⟨R_O, "findField", "(III)I"⟩
abbrev b_W_mayUseType : ByteArray := prog_3_method_21_code
def y_W_mayUseType : MethodName := ⟨R_W, "mayUseType", "(II)Z"⟩
abbrev b_M_owners : ByteArray := prog_2_method_7_code
def y_M_owners : MethodName := ⟨R_M, "owners", "(I)I"⟩
abbrev b_W_search : ByteArray := prog_3_method_27_code
def y_W_search : MethodName := ⟨R_W, "search", "(II)I"⟩
abbrev b_W_nextToSearch : ByteArray := prog_3_method_28_code
def y_W_nextToSearch : MethodName := ⟨R_W, "nextToSearch", "(II)I"⟩
abbrev b_O_admitted : ByteArray := prog_1_method_25_code
def y_O_admitted : MethodName := ⟨R_O, "admitted", "(LMemberOracle$Members;III)I"⟩
abbrev b_M_accessOf : ByteArray := prog_2_method_6_code
def y_M_accessOf : MethodName := ⟨R_M, "accessOf", "(II)I"⟩
abbrev b_O_mayUseMember : ByteArray := prog_1_method_26_code
def y_O_mayUseMember : MethodName := ⟨R_O, "mayUseMember", "(III)Z"⟩
abbrev b_W_isKindOf : ByteArray := prog_3_method_22_code
def y_W_isKindOf : MethodName := ⟨R_W, "isKindOf", "(II)Z"⟩
abbrev b_W_sameHost : ByteArray := prog_3_method_19_code
def y_W_sameHost : MethodName := ⟨R_W, "sameHost", "(II)Z"⟩
abbrev b_O_resolveMethod : ByteArray := prog_1_method_24_code
def y_O_resolveMethod : MethodName := ⟨R_O, "resolveMethod", "(ZIII)I"⟩
abbrev b_W_chain : ByteArray := prog_3_method_26_code
def y_W_chain : MethodName := ⟨R_W, "chain", "(I)I"⟩
abbrev b_O_greatestOf : ByteArray := prog_1_method_41_code
def y_O_greatestOf : MethodName := ⟨R_O, "greatestOf", "(I)I"⟩
abbrev b_O_bestOfInterfaces : ByteArray := prog_1_method_29_code
def y_O_bestOfInterfaces : MethodName := ⟨R_O, "bestOfInterfaces", "(II)I"⟩
abbrev b_O_maximalSet : ByteArray := prog_1_method_28_code
def y_O_maximalSet : MethodName := ⟨R_O, "maximalSet", "(II)I"⟩
abbrev b_O_interfaceMethods : ByteArray := prog_1_method_27_code
def y_O_interfaceMethods : MethodName := ⟨R_O, "interfaceMethods", "(II)I"⟩
abbrev b_W_supertypes : ByteArray := prog_3_method_23_code
def y_W_supertypes : MethodName := ⟨R_W, "supertypes", "(I)I"⟩
abbrev b_W_interfaces : ByteArray := prog_3_method_25_code
def y_W_interfaces : MethodName := ⟨R_W, "interfaces", "()I"⟩
abbrev b_M_inheritable : ByteArray := prog_2_method_10_code
def y_M_inheritable : MethodName := ⟨R_M, "inheritable", "(I)I"⟩
abbrev b_M_abstracts : ByteArray := prog_2_method_8_code
def y_M_abstracts : MethodName := ⟨R_M, "abstracts", "(I)I"⟩
abbrev b_J_bitCount : ByteArray := prog_6_method_49_code
def y_J_bitCount : MethodName := ⟨R_J, "bitCount", "(I)I"⟩
abbrev b_O_leastOf : ByteArray := prog_1_method_40_code
def y_O_leastOf : MethodName := ⟨R_O, "leastOf", "(I)I"⟩
abbrev b_O_choices : ByteArray := prog_1_method_10_code
def y_O_choices : MethodName := ⟨R_O, "choices", "()I"⟩
abbrev b_O_use : ByteArray := prog_1_method_11_code
def y_O_use : MethodName := ⟨R_O, "use", "(IIIZ)I"⟩
abbrev b_M_isStatic : ByteArray := prog_2_method_5_code
def y_M_isStatic : MethodName := ⟨R_M, "isStatic", "(II)Z"⟩
abbrev b_O_invoke : ByteArray := prog_1_method_12_code
def y_O_invoke : MethodName := ⟨R_O, "invoke", "(IIIII)I"⟩
abbrev b_O_isReceiver : ByteArray := prog_1_method_22_code
def y_O_isReceiver : MethodName := ⟨R_O, "isReceiver", "(IIII)Z"⟩
abbrev b_O_invokeVirtual : ByteArray := prog_1_method_35_code
def y_O_invokeVirtual : MethodName := ⟨R_O, "invokeVirtual", "(IIII)I"⟩
abbrev b_O_select : ByteArray := prog_1_method_33_code
def y_O_select : MethodName := ⟨R_O, "select", "(III)I"⟩
abbrev b_O_canOverride : ByteArray := prog_1_method_30_code
def y_O_canOverride : MethodName := ⟨R_O, "canOverride", "(III)Z"⟩
abbrev b_M_instances : ByteArray := prog_2_method_9_code
def y_M_instances : MethodName := ⟨R_M, "instances", "(I)I"⟩
abbrev b_W_kindsOf : ByteArray := prog_3_method_24_code
def y_W_kindsOf : MethodName := ⟨R_W, "kindsOf", "(I)I"⟩
abbrev b_O_overridesOneOf : ByteArray := prog_1_method_31_code
def y_O_overridesOneOf : MethodName := ⟨R_O, "overridesOneOf", "(III)Z"⟩
abbrev b_O_overridesAtOnce : ByteArray := prog_1_method_32_code
def y_O_overridesAtOnce : MethodName := ⟨R_O, "overridesAtOnce", "(III)Z"⟩
abbrev b_O_runnable : ByteArray := prog_1_method_34_code
def y_O_runnable : MethodName := ⟨R_O, "runnable", "(II)I"⟩
abbrev b_O_invokeInterface : ByteArray := prog_1_method_36_code
def y_O_invokeInterface : MethodName := ⟨R_O, "invokeInterface", "(IIII)I"⟩
abbrev b_O_invokeSpecial : ByteArray := prog_1_method_37_code
def y_O_invokeSpecial : MethodName := ⟨R_O, "invokeSpecial", "(III)I"⟩
abbrev b_W_superclassOf : ByteArray := prog_3_method_14_code
def y_W_superclassOf : MethodName := ⟨R_W, "superclassOf", "(I)I"⟩
abbrev b_O_invokeStatic : ByteArray := prog_1_method_38_code
def y_O_invokeStatic : MethodName := ⟨R_O, "invokeStatic", "(III)I"⟩
abbrev b_O_isA : ByteArray := prog_1_method_13_code
def y_O_isA : MethodName := ⟨R_O, "isA", "(II)Z"⟩
abbrev b_O_mates : ByteArray := prog_1_method_14_code
def y_O_mates : MethodName := ⟨R_O, "mates", "(II)Z"⟩
abbrev b_O_overrides : ByteArray := prog_1_method_15_code
def y_O_overrides : MethodName := ⟨R_O, "overrides", "(III)Z"⟩
abbrev b_O_maximal : ByteArray := prog_1_method_16_code
def y_O_maximal : MethodName := ⟨R_O, "maximal", "(II)I"⟩
abbrev b_O_type : ByteArray := prog_1_method_17_code
def y_O_type : MethodName := ⟨R_O, "type", "(II)I"⟩
abbrev b_W_packageOf : ByteArray := prog_3_method_15_code
def y_W_packageOf : MethodName := ⟨R_W, "packageOf", "(I)I"⟩
abbrev b_R_init : ByteArray := prog_5_method_1_code
def y_R_init : MethodName := ⟨R_R, "<init>", "()V"⟩
abbrev b_R_tellClass : ByteArray := prog_5_method_5_code
def y_R_tellClass : MethodName := ⟨R_R, "tellClass", "(IIZZ)I"⟩
abbrev b_R_in : ByteArray := prog_5_method_2_code
def y_R_in : MethodName := ⟨R_R, "in", "(III)Z"⟩
abbrev b_R_there : ByteArray := prog_5_method_3_code
def y_R_there : MethodName := ⟨R_R, "there", "(I)Z"⟩
abbrev b_R_tell : ByteArray := prog_5_method_4_code
def y_R_tell : MethodName := ⟨R_R, "tell", "(IZ)I"⟩
abbrev b_R_tellInterface : ByteArray := prog_5_method_6_code
def y_R_tellInterface : MethodName := ⟨R_R, "tellInterface", "(IZ)I"⟩
abbrev b_R_implement : ByteArray := prog_5_method_7_code
def y_R_implement : MethodName := ⟨R_R, "implement", "(II)I"⟩
abbrev b_R_nest : ByteArray := prog_5_method_8_code
def y_R_nest : MethodName := ⟨R_R, "nest", "(II)I"⟩
abbrev b_R_field : ByteArray := prog_5_method_9_code
def y_R_field : MethodName := ⟨R_R, "field", "(IIIZ)I"⟩
abbrev b_R_method : ByteArray := prog_5_method_10_code
def y_R_method : MethodName := ⟨R_R, "method", "(IIII)I"⟩
abbrev b_R_untell : ByteArray := prog_5_method_11_code
def y_R_untell : MethodName := ⟨R_R, "untell", "(III)I"⟩
abbrev b_R_resolve : ByteArray := prog_5_method_27_code
def y_R_resolve : MethodName := ⟨R_R, "resolve", "(IIII)I"⟩
abbrev b_R_closeAbove : ByteArray := prog_5_method_12_code
def y_R_closeAbove : MethodName := ⟨R_R, "closeAbove", "()V"⟩
abbrev b_R_resolved : ByteArray := prog_5_method_26_code
def y_R_resolved : MethodName := ⟨R_R, "resolved", "(IIII)I"⟩
abbrev b_R_usableType : ByteArray := prog_5_method_14_code
def y_R_usableType : MethodName := ⟨R_R, "usableType", "(II)Z"⟩
abbrev b_R_findField : ByteArray := prog_5_method_23_code
def y_R_findField : MethodName := ⟨R_R, "findField", "(II)I"⟩
abbrev b_R_usable : ByteArray := prog_5_method_15_code
def y_R_usable : MethodName := ⟨R_R, "usable", "(III)Z"⟩
abbrev b_R_is : ByteArray := prog_5_method_13_code
def y_R_is : MethodName := ⟨R_R, "is", "(II)Z"⟩
abbrev b_R_findMethod : ByteArray := prog_5_method_25_code
def y_R_findMethod : MethodName := ⟨R_R, "findMethod", "(III)I"⟩
abbrev b_R_has : ByteArray := prog_5_method_16_code
def y_R_has : MethodName := ⟨R_R, "has", "(II)Z"⟩
abbrev b_R_findAbove : ByteArray := prog_5_method_24_code
def y_R_findAbove : MethodName := ⟨R_R, "findAbove", "(II)I"⟩
abbrev b_R_maximals : ByteArray := prog_5_method_21_code
def y_R_maximals : MethodName := ⟨R_R, "maximals", "(II)I"⟩
abbrev b_R_candidates : ByteArray := prog_5_method_20_code
def y_R_candidates : MethodName := ⟨R_R, "candidates", "(II)I"⟩
abbrev b_R_isStatic : ByteArray := prog_5_method_17_code
def y_R_isStatic : MethodName := ⟨R_R, "isStatic", "(II)Z"⟩
abbrev b_R_isPrivate : ByteArray := prog_5_method_19_code
def y_R_isPrivate : MethodName := ⟨R_R, "isPrivate", "(II)Z"⟩
abbrev b_R_only : ByteArray := prog_5_method_22_code
def y_R_only : MethodName := ⟨R_R, "only", "(II)I"⟩
abbrev b_R_isAbstract : ByteArray := prog_5_method_18_code
def y_R_isAbstract : MethodName := ⟨R_R, "isAbstract", "(II)Z"⟩
abbrev b_R_choices : ByteArray := prog_5_method_28_code
def y_R_choices : MethodName := ⟨R_R, "choices", "()I"⟩
abbrev b_R_use : ByteArray := prog_5_method_29_code
def y_R_use : MethodName := ⟨R_R, "use", "(IIIZ)I"⟩
abbrev b_R_invoke : ByteArray := prog_5_method_36_code
def y_R_invoke : MethodName := ⟨R_R, "invoke", "(IIIII)I"⟩
abbrev b_R_special : ByteArray := prog_5_method_35_code
def y_R_special : MethodName := ⟨R_R, "special", "(III)I"⟩
abbrev b_R_withCode : ByteArray := prog_5_method_34_code
def y_R_withCode : MethodName := ⟨R_R, "withCode", "(II)I"⟩
abbrev b_R_coded : ByteArray := prog_5_method_33_code
def y_R_coded : MethodName := ⟨R_R, "coded", "(II)I"⟩
abbrev b_R_selected : ByteArray := prog_5_method_32_code
def y_R_selected : MethodName := ⟨R_R, "selected", "(III)I"⟩
abbrev b_R_fillCan : ByteArray := prog_5_method_30_code
def y_R_fillCan : MethodName := ⟨R_R, "fillCan", "(I)V"⟩
abbrev b_R_overriding : ByteArray := prog_5_method_31_code
def y_R_overriding : MethodName := ⟨R_R, "overriding", "(III)Z"⟩
abbrev b_R_isA : ByteArray := prog_5_method_37_code
def y_R_isA : MethodName := ⟨R_R, "isA", "(II)Z"⟩
abbrev b_R_mates : ByteArray := prog_5_method_38_code
def y_R_mates : MethodName := ⟨R_R, "mates", "(II)Z"⟩
abbrev b_R_overrides : ByteArray := prog_5_method_39_code
def y_R_overrides : MethodName := ⟨R_R, "overrides", "(III)Z"⟩
abbrev b_R_maximal : ByteArray := prog_5_method_40_code
def y_R_maximal : MethodName := ⟨R_R, "maximal", "(II)I"⟩
abbrev b_R_type : ByteArray := prog_5_method_41_code
def y_R_type : MethodName := ⟨R_R, "type", "(II)I"⟩
end
section
/-! MY WORLDS: the words that hold for every method, the state of the class, its pictures in the heap -/
def nx_is : Cond → Bool
  | .methodLinkNest .. => true
  | .fieldLinkNest .. => true
  | _ => false
/-- the words that every method takes along: all of lw_tbl but those of nest mates -/
def lw_g : List Cond := lw_tbl.filter (fun w => !nx_is w && (k2_isCode w || goodWord w))
theorem lw_g_in {w : Cond} (h : w ∈ lw_g) : w ∈ lw_tbl := (List.mem_filter.mp h).1
theorem gd_all : ∀ w ∈ lw_g, (w.onTables && w.keeps) = true ∨ ∃ ty, w = .arrayClass ty := by
  intro w hw
  have h := (List.mem_filter.mp hw).2
  cases w <;> first | exact Or.inl rfl | exact Or.inr ⟨_, rfl⟩ | exact good_of_word (by simpa [nx_is, k2_isCode] using h) | (simp [nx_is, k2_isCode] at h)
theorem gd_N {y : MethodName} {b : ByteArray} {n : Nat} {r : Option FieldType} (hc : Cond.code y b n r ∈ lw_g) : GoodIn lw_g (Cond.code y b n r :: lw_g) := by
  intro w hw
  have h : w ∈ lw_g := by
    rcases List.mem_cons.mp hw with rfl | q
    · exact hc
    · exact q
  exact ⟨h, gd_all w h⟩
theorem gd_app {ws : List Cond} {y : MethodName} {b : ByteArray} {n : Nat} {r : Option FieldType} (hc : Cond.code y b n r ∈ lw_g) (h : ∀ w ∈ ws, w ∈ lw_g) : GoodIn lw_g (ws ++ (Cond.code y b n r :: lw_g)) := by
  intro w hw
  rcases List.mem_append.mp hw with q | q
  · exact ⟨h w q, gd_all w (h w q)⟩
  · exact gd_N hc w q
theorem gd_V {own C : String} {idx : Nat} {y : MethodName} {b : ByteArray} {n : Nat} {r : Option FieldType} (hc : Cond.code y b n r ∈ lw_g) (h : ∀ w ∈ ([.methodLink own idx y, .instanceMethod y, .selects C y y, .initialized C] : List Cond), w ∈ lw_g) : GoodIn lw_g (wsV own idx C y (Cond.code y b n r :: lw_g)) := gd_app hc h
theorem gd_S {own : String} {idx : Nat} {y : MethodName} {b : ByteArray} {n : Nat} {r : Option FieldType} (hc : Cond.code y b n r ∈ lw_g) (h : ∀ w ∈ ([.methodLink own idx y, .static y, .initialized own] : List Cond), w ∈ lw_g) : GoodIn lw_g (wsS own idx y (Cond.code y b n r :: lw_g)) := gd_app hc h
theorem tl_of {args : Array Value} {s : State} {c : Cond} (h : ∀ w ∈ (c :: lw_g), w.before args s = true) : ∀ w ∈ lw_g, w.before args s = true := fun w hw => h w (List.mem_cons_of_mem _ hw)
/-- the nest mates' words, which travel with the state -/
def NX (U : State) : Prop := ∀ w, w ∈ lw_tbl → nx_is w = true → va_Nw w U
theorem NX.warm {s U : State} (hW : s.WarmedH U.vm) (h : NX s) : NX U := by
  intro w hw hn
  have h1 := h w hw hn
  cases w <;> first | exact va_Nw.warmM hW h1 | exact va_Nw.warmF hW h1 | cases hn
theorem NX.same {s U : State} (e : s.vm = U.vm) (h : NX s) : NX U := by
  intro w hw hn
  have h1 := h w hw hn
  cases w <;> first | exact va_Nw.same rfl e h1 | cases hn
abbrev WS : Type := (Nat → Nat → Int32) × (Nat → Int32)
abbrev MS : Type := Nat → Nat → Int32
abbrev ES : Type := WS × MS × MS
def wW (ka : Nat → ClassId) (qa : Nat → Nat) (w : WS) : va_W := [(qa 0, .inr (0, [.ref (qa 1), .ref (qa 2), .ref (qa 3), .ref (qa 4), .ref (qa 5), .ref (qa 6), .int (w.2 0), .int (w.2 1), .int (w.2 2), .int (w.2 3)])), (qa 1, .inl (ka 0, 13, .inl (w.1 0))), (qa 2, .inl (ka 1, 13, .inl (w.1 1))), (qa 3, .inl (ka 2, 13, .inl (w.1 2))), (qa 4, .inl (ka 3, 13, .inl (w.1 3))), (qa 5, .inl (ka 4, 52, .inl (w.1 4))), (qa 6, .inl (ka 5, 13, .inl (w.1 5)))]
def tW (ka : Nat → ClassId) : List (ClassId × FieldType) := [(ka 0, .int), (ka 1, .int), (ka 2, .int), (ka 3, .int), (ka 4, .int), (ka 5, .int)]
def wM (ka : Nat → ClassId) (qa : Nat → Nat) (m : MS) : va_W := [(qa 0, .inr (1, [.ref (qa 1), .ref (qa 2), .ref (qa 3), .ref (qa 4), .ref (qa 5)])), (qa 1, .inl (ka 0, 4, .inl (m 0))), (qa 2, .inl (ka 1, 4, .inl (m 1))), (qa 3, .inl (ka 2, 4, .inl (m 2))), (qa 4, .inl (ka 3, 4, .inl (m 3))), (qa 5, .inl (ka 4, 52, .inl (m 4)))]
def tM (ka : Nat → ClassId) : List (ClassId × FieldType) := [(ka 0, .int), (ka 1, .int), (ka 2, .int), (ka 3, .int), (ka 4, .int)]
def wO (h0 : Nat) (kw kf km : Nat → ClassId) (qw qf qm : Nat → Nat) (v : ES) (lc : Int32) : va_W := (h0, .inr (2, [.ref (qw 0), .ref (qf 0), .ref (qm 0), .int lc])) :: (wW kw qw v.1 ++ (wM kf qf v.2.1 ++ wM km qm v.2.2))
def tO (kw kf km : Nat → ClassId) : List (ClassId × FieldType) := tW kw ++ (tM kf ++ tM km)
abbrev ro_P (dC : Nat → ClassId) (dI : Nat → Nat → Nat) (ws : va_W) (tys : List (ClassId × FieldType)) (sz : Nat) (av : List Value) : Array Value → State → Prop := va_Pc av (fun U => U.heap.size = sz ∧ va_P (dC, dI) classes ws U.heap ∧ va_K (dC, dI) classes tys U ∧ NX U)
abbrev ro_Q (sz : Nat) (F : Int32) : Array Value → State → Outcome → State → Prop := va_Qi (fun (r : Int32) (_ : Unit) => r = F) (fun _ _ => True) (fun z => sz ≤ z)
abbrev mu_P (dC : Nat → ClassId) (dI : Nat → Nat → Nat) (ws : va_W) (tys : List (ClassId × FieldType)) (sz : Nat) (av : List Value) : Array Value → State → Prop := va_Pc av (fun U => U.heap.size = sz ∧ va_P (dC, dI) classes ws U.heap ∧ va_K (dC, dI) classes tys U ∧ NX U ∧ va_D (fun _ => True) ws)
abbrev mu_Q {T : Type} (pic : T → va_W) (dC : Nat → ClassId) (dI : Nat → Nat → Nat) (F : Int32) (G : T) (A : Nat → Prop) : Array Value → State → Outcome → State → Prop := va_Qi (fun (r : Int32) (S : T) => r = F ∧ S = G) (fun S t => va_P (dC, dI) classes (pic S) t.heap) A
abbrev mu_Qv {T : Type} (pic : T → va_W) (dC : Nat → ClassId) (dI : Nat → Nat → Nat) (G : T) (A : Nat → Prop) : Array Value → State → Outcome → State → Prop := va_Qv (fun (S : T) => S = G) (fun S t => va_P (dC, dI) classes (pic S) t.heap) A
theorem fb_ro {dC : Nat → ClassId} {dI : Nat → Nat → Nat} {ws : va_W} {tys : List (ClassId × FieldType)} {sz : Nat} {av : List Value} : FrameBlind (ro_P dC dI ws tys sz av) := by
  intro a U g mk q
  obtain ⟨q0, q1, qP, qK, qN⟩ := q
  exact ⟨q0, q1, qP, va_K.moved (u := U) (U := U.calling g mk a) (Vm.Alike.refl U.vm) qK, NX.same (s := U) (U := U.calling g mk a) rfl qN⟩
theorem fb_mu {dC : Nat → ClassId} {dI : Nat → Nat → Nat} {ws : va_W} {tys : List (ClassId × FieldType)} {sz : Nat} {av : List Value} : FrameBlind (mu_P dC dI ws tys sz av) := by
  intro a U g mk q
  obtain ⟨q0, q1, qP, qK, qN, qD⟩ := q
  exact ⟨q0, q1, qP, va_K.moved (u := U) (U := U.calling g mk a) (Vm.Alike.refl U.vm) qK, NX.same (s := U) (U := U.calling g mk a) rfl qN, qD⟩
theorem kp_P {D : va_G} {cl : List vw_C} {ws : va_W} {H H1 : Heap} (hP : va_P D cl ws H) (hk : ∀ q : Nat, q < H.size → ¬ (H.size ≤ q) → H1[q]? = H[q]?) : va_P D cl ws H1 := hP.kept (fun k q h => hk _ (hP k q h).lt (Nat.not_le.mpr (hP k q h).lt))
theorem ad_D {A : Nat → Prop} {ws ws' : va_W} (h : va_D A ws) (e : ws.map Prod.fst = ws'.map Prod.fst) : va_D A ws' := by
  have key : ∀ (k : Nat) (q : Nat × va_E), ws'[k]? = some q → ∃ p, ws[k]? = some p ∧ p.1 = q.1 := by
    intro k q hq
    have h1 : (ws'.map Prod.fst)[k]? = some q.1 := by rw [List.getElem?_map, hq]; rfl
    rw [← e, List.getElem?_map] at h1
    cases hp : ws[k]? with
    | none => rw [hp] at h1; cases h1
    | some p => rw [hp] at h1; exact ⟨p, rfl, Option.some.inj h1⟩
  refine ⟨fun i j p q hi hj he => ?_, fun k q hq => ?_⟩
  · obtain ⟨p', h1, h2⟩ := key i p hi
    obtain ⟨q', h3, h4⟩ := key j q hj
    exact h.1 i j p' q' h1 h3 (by rw [h2, h4, he])
  · obtain ⟨p', h1, h2⟩ := key k q hq
    rw [← h2]; exact h.2 k p' h1
theorem of_p1 : Int32.ofInt 1 = (1 : Int32) := by decide +kernel
theorem of_m1 : Int32.ofInt (-1) = (-1 : Int32) := by decide +kernel
theorem ne_ti {x y : Int32} {z : Int} (c : ¬ x = y) (hy : y.toInt = z) : x.toInt ≠ z := fun h => c (Int32.toInt_inj.mp (h.trans hy.symm))
def vl_f {α : Type} (l : List α) (d : α) (i : Nat) : α := l.getD i d
def w0 : WS := (fun _ _ => 0, fun _ => 0)
def m0 : MS := fun _ _ => 0
def v0 : ES := (w0, m0, m0)
def nW (h0 : Nat) : va_W := [(h0, .inr (0, [.null, .null, .null, .null, .null, .null, .int 0, .int 0, .int 0, .int 0]))]
def nM (h0 : Nat) : va_W := [(h0, .inr (1, [.null, .null, .null, .null, .null]))]
def nO (h0 : Nat) : va_W := [(h0, .inr (2, [.null, .null, .null, .int 0]))]
end
section
def w_O_init : List Cond := .code y_O_init b_O_init 1 none :: lw_g
set_option maxRecDepth 20000 in
theorem kc_O_init : Cond.code y_O_init b_O_init 1 none ∈ lw_g := List.mem_filter.mpr ⟨List.mem_of_getElem? (i := 52) rfl, rfl⟩
set_option maxRecDepth 20000 in
theorem kc_objInit : Cond.code objectInit ⟨#[0xb1]⟩ 1 none ∈ lw_g := List.mem_filter.mpr ⟨List.mem_of_getElem? (i := 55) rfl, rfl⟩
def w_W_init : List Cond := .code y_W_init b_W_init 1 none :: lw_g
set_option maxRecDepth 20000 in
theorem kc_W_init : Cond.code y_W_init b_W_init 1 none ∈ lw_g := List.mem_filter.mpr ⟨List.mem_of_getElem? (i := 60) rfl, rfl⟩
def w_M_init : List Cond := .code y_M_init b_M_init 1 none :: lw_g
set_option maxRecDepth 20000 in
theorem kc_M_init : Cond.code y_M_init b_M_init 1 none ∈ lw_g := List.mem_filter.mpr ⟨List.mem_of_getElem? (i := 98) rfl, rfl⟩
def w_O_tellClass : List Cond := .code y_O_tellClass b_O_tellClass 5 (some .int) :: lw_g
set_option maxRecDepth 20000 in
theorem kc_O_tellClass : Cond.code y_O_tellClass b_O_tellClass 5 (some .int) ∈ lw_g := List.mem_filter.mpr ⟨List.mem_of_getElem? (i := 132) rfl, rfl⟩
def w_O_isPackage : List Cond := .code y_O_isPackage b_O_isPackage 1 (some .boolean) :: lw_g
set_option maxRecDepth 20000 in
theorem kc_O_isPackage : Cond.code y_O_isPackage b_O_isPackage 1 (some .boolean) ∈ lw_g := List.mem_filter.mpr ⟨List.mem_of_getElem? (i := 135) rfl, rfl⟩
def w_W_mayBeExtended : List Cond := .code y_W_mayBeExtended b_W_mayBeExtended 2 (some .boolean) :: lw_g
set_option maxRecDepth 20000 in
theorem kc_W_mayBeExtended : Cond.code y_W_mayBeExtended b_W_mayBeExtended 2 (some .boolean) ∈ lw_g := List.mem_filter.mpr ⟨List.mem_of_getElem? (i := 139) rfl, rfl⟩
def w_W_isClass : List Cond := .code y_W_isClass b_W_isClass 2 (some .boolean) :: lw_g
set_option maxRecDepth 20000 in
theorem kc_W_isClass : Cond.code y_W_isClass b_W_isClass 2 (some .boolean) ∈ lw_g := List.mem_filter.mpr ⟨List.mem_of_getElem? (i := 143) rfl, rfl⟩
def w_W_has : List Cond := .code y_W_has b_W_has 2 (some .boolean) :: lw_g
set_option maxRecDepth 20000 in
theorem kc_W_has : Cond.code y_W_has b_W_has 2 (some .boolean) ∈ lw_g := List.mem_filter.mpr ⟨List.mem_of_getElem? (i := 147) rfl, rfl⟩
def w_O_holds : List Cond := .code y_O_holds b_O_holds 2 (some .boolean) :: lw_g
set_option maxRecDepth 20000 in
theorem kc_O_holds : Cond.code y_O_holds b_O_holds 2 (some .boolean) ∈ lw_g := List.mem_filter.mpr ⟨List.mem_of_getElem? (i := 150) rfl, rfl⟩
def w_W_isFull : List Cond := .code y_W_isFull b_W_isFull 1 (some .boolean) :: lw_g
set_option maxRecDepth 20000 in
theorem kc_W_isFull : Cond.code y_W_isFull b_W_isFull 1 (some .boolean) ∈ lw_g := List.mem_filter.mpr ⟨List.mem_of_getElem? (i := 154) rfl, rfl⟩
def w_W_addClass : List Cond := .code y_W_addClass b_W_addClass 6 (some .int) :: lw_g
set_option maxRecDepth 20000 in
theorem kc_W_addClass : Cond.code y_W_addClass b_W_addClass 6 (some .int) ∈ lw_g := List.mem_filter.mpr ⟨List.mem_of_getElem? (i := 158) rfl, rfl⟩
def w_W_addType : List Cond := .code y_W_addType b_W_addType 4 (some .int) :: lw_g
set_option maxRecDepth 20000 in
theorem kc_W_addType : Cond.code y_W_addType b_W_addType 4 (some .int) ∈ lw_g := List.mem_filter.mpr ⟨List.mem_of_getElem? (i := 162) rfl, rfl⟩
def w_O_tellInterface : List Cond := .code y_O_tellInterface b_O_tellInterface 3 (some .int) :: lw_g
set_option maxRecDepth 20000 in
theorem kc_O_tellInterface : Cond.code y_O_tellInterface b_O_tellInterface 3 (some .int) ∈ lw_g := List.mem_filter.mpr ⟨List.mem_of_getElem? (i := 166) rfl, rfl⟩
def w_W_addInterface : List Cond := .code y_W_addInterface b_W_addInterface 4 (some .int) :: lw_g
set_option maxRecDepth 20000 in
theorem kc_W_addInterface : Cond.code y_W_addInterface b_W_addInterface 4 (some .int) ∈ lw_g := List.mem_filter.mpr ⟨List.mem_of_getElem? (i := 170) rfl, rfl⟩
def w_O_implement : List Cond := .code y_O_implement b_O_implement 3 (some .int) :: lw_g
set_option maxRecDepth 20000 in
theorem kc_O_implement : Cond.code y_O_implement b_O_implement 3 (some .int) ∈ lw_g := List.mem_filter.mpr ⟨List.mem_of_getElem? (i := 174) rfl, rfl⟩
def w_W_isInterface : List Cond := .code y_W_isInterface b_W_isInterface 2 (some .boolean) :: lw_g
set_option maxRecDepth 20000 in
theorem kc_W_isInterface : Cond.code y_W_isInterface b_W_isInterface 2 (some .boolean) ∈ lw_g := List.mem_filter.mpr ⟨List.mem_of_getElem? (i := 179) rfl, rfl⟩
def w_W_hasDirect : List Cond := .code y_W_hasDirect b_W_hasDirect 4 (some .boolean) :: lw_g
set_option maxRecDepth 20000 in
theorem kc_W_hasDirect : Cond.code y_W_hasDirect b_W_hasDirect 4 (some .boolean) ∈ lw_g := List.mem_filter.mpr ⟨List.mem_of_getElem? (i := 183) rfl, rfl⟩
def w_W_directAt : List Cond := .code y_W_directAt b_W_directAt 3 (some .int) :: lw_g
set_option maxRecDepth 20000 in
theorem kc_W_directAt : Cond.code y_W_directAt b_W_directAt 3 (some .int) ∈ lw_g := List.mem_filter.mpr ⟨List.mem_of_getElem? (i := 187) rfl, rfl⟩
def w_W_directCount : List Cond := .code y_W_directCount b_W_directCount 2 (some .int) :: lw_g
set_option maxRecDepth 20000 in
theorem kc_W_directCount : Cond.code y_W_directCount b_W_directCount 2 (some .int) ∈ lw_g := List.mem_filter.mpr ⟨List.mem_of_getElem? (i := 191) rfl, rfl⟩
def w_W_addDirect : List Cond := .code y_W_addDirect b_W_addDirect 4 (some .int) :: lw_g
set_option maxRecDepth 20000 in
theorem kc_W_addDirect : Cond.code y_W_addDirect b_W_addDirect 4 (some .int) ∈ lw_g := List.mem_filter.mpr ⟨List.mem_of_getElem? (i := 195) rfl, rfl⟩
def w_O_nest : List Cond := .code y_O_nest b_O_nest 3 (some .int) :: lw_g
set_option maxRecDepth 20000 in
theorem kc_O_nest : Cond.code y_O_nest b_O_nest 3 (some .int) ∈ lw_g := List.mem_filter.mpr ⟨List.mem_of_getElem? (i := 199) rfl, rfl⟩
def w_W_samePackage : List Cond := .code y_W_samePackage b_W_samePackage 3 (some .boolean) :: lw_g
set_option maxRecDepth 20000 in
theorem kc_W_samePackage : Cond.code y_W_samePackage b_W_samePackage 3 (some .boolean) ∈ lw_g := List.mem_filter.mpr ⟨List.mem_of_getElem? (i := 203) rfl, rfl⟩
def w_W_hostOf : List Cond := .code y_W_hostOf b_W_hostOf 2 (some .int) :: lw_g
set_option maxRecDepth 20000 in
theorem kc_W_hostOf : Cond.code y_W_hostOf b_W_hostOf 2 (some .int) ∈ lw_g := List.mem_filter.mpr ⟨List.mem_of_getElem? (i := 207) rfl, rfl⟩
def w_W_hostsAnother : List Cond := .code y_W_hostsAnother b_W_hostsAnother 3 (some .boolean) :: lw_g
set_option maxRecDepth 20000 in
theorem kc_W_hostsAnother : Cond.code y_W_hostsAnother b_W_hostsAnother 3 (some .boolean) ∈ lw_g := List.mem_filter.mpr ⟨List.mem_of_getElem? (i := 211) rfl, rfl⟩
def w_W_setHost : List Cond := .code y_W_setHost b_W_setHost 3 none :: lw_g
set_option maxRecDepth 20000 in
theorem kc_W_setHost : Cond.code y_W_setHost b_W_setHost 3 none ∈ lw_g := List.mem_filter.mpr ⟨List.mem_of_getElem? (i := 215) rfl, rfl⟩
def w_O_field : List Cond := .code y_O_field b_O_field 5 (some .int) :: lw_g
set_option maxRecDepth 20000 in
theorem kc_O_field : Cond.code y_O_field b_O_field 5 (some .int) ∈ lw_g := List.mem_filter.mpr ⟨List.mem_of_getElem? (i := 219) rfl, rfl⟩
def w_O_isName : List Cond := .code y_O_isName b_O_isName 1 (some .boolean) :: lw_g
set_option maxRecDepth 20000 in
theorem kc_O_isName : Cond.code y_O_isName b_O_isName 1 (some .boolean) ∈ lw_g := List.mem_filter.mpr ⟨List.mem_of_getElem? (i := 222) rfl, rfl⟩
def w_O_isAccess : List Cond := .code y_O_isAccess b_O_isAccess 1 (some .boolean) :: lw_g
set_option maxRecDepth 20000 in
theorem kc_O_isAccess : Cond.code y_O_isAccess b_O_isAccess 1 (some .boolean) ∈ lw_g := List.mem_filter.mpr ⟨List.mem_of_getElem? (i := 225) rfl, rfl⟩
def w_M_put : List Cond := .code y_M_put b_M_put 6 none :: lw_g
set_option maxRecDepth 20000 in
theorem kc_M_put : Cond.code y_M_put b_M_put 6 none ∈ lw_g := List.mem_filter.mpr ⟨List.mem_of_getElem? (i := 229) rfl, rfl⟩
def w_M_drop : List Cond := .code y_M_drop b_M_drop 4 none :: lw_g
set_option maxRecDepth 20000 in
theorem kc_M_drop : Cond.code y_M_drop b_M_drop 4 none ∈ lw_g := List.mem_filter.mpr ⟨List.mem_of_getElem? (i := 233) rfl, rfl⟩
def w_O_method : List Cond := .code y_O_method b_O_method 5 (some .int) :: lw_g
set_option maxRecDepth 20000 in
theorem kc_O_method : Cond.code y_O_method b_O_method 5 (some .int) ∈ lw_g := List.mem_filter.mpr ⟨List.mem_of_getElem? (i := 237) rfl, rfl⟩
def w_O_isForm : List Cond := .code y_O_isForm b_O_isForm 1 (some .boolean) :: lw_g
set_option maxRecDepth 20000 in
theorem kc_O_isForm : Cond.code y_O_isForm b_O_isForm 1 (some .boolean) ∈ lw_g := List.mem_filter.mpr ⟨List.mem_of_getElem? (i := 240) rfl, rfl⟩
def w_O_untell : List Cond := .code y_O_untell b_O_untell 5 (some .int) :: lw_g
set_option maxRecDepth 20000 in
theorem kc_O_untell : Cond.code y_O_untell b_O_untell 5 (some .int) ∈ lw_g := List.mem_filter.mpr ⟨List.mem_of_getElem? (i := 244) rfl, rfl⟩
def w_M_has : List Cond := .code y_M_has b_M_has 3 (some .boolean) :: lw_g
set_option maxRecDepth 20000 in
theorem kc_M_has : Cond.code y_M_has b_M_has 3 (some .boolean) ∈ lw_g := List.mem_filter.mpr ⟨List.mem_of_getElem? (i := 248) rfl, rfl⟩
def w_O_resolve : List Cond := .code y_O_resolve b_O_resolve 6 (some .int) :: lw_g
set_option maxRecDepth 20000 in
theorem kc_O_resolve : Cond.code y_O_resolve b_O_resolve 6 (some .int) ∈ lw_g := List.mem_filter.mpr ⟨List.mem_of_getElem? (i := 254) rfl, rfl⟩
def w_O_findField : List Cond := .code y_O_findField b_O_findField 5 (some .int) :: lw_g
set_option maxRecDepth 20000 in
theorem kc_O_findField : Cond.code y_O_findField b_O_findField 5 (some .int) ∈ lw_g := List.mem_filter.mpr ⟨List.mem_of_getElem? (i := 258) rfl, rfl⟩
def w_W_mayUseType : List Cond := .code y_W_mayUseType b_W_mayUseType 3 (some .boolean) :: lw_g
set_option maxRecDepth 20000 in
theorem kc_W_mayUseType : Cond.code y_W_mayUseType b_W_mayUseType 3 (some .boolean) ∈ lw_g := List.mem_filter.mpr ⟨List.mem_of_getElem? (i := 262) rfl, rfl⟩
def w_M_owners : List Cond := .code y_M_owners b_M_owners 2 (some .int) :: lw_g
set_option maxRecDepth 20000 in
theorem kc_M_owners : Cond.code y_M_owners b_M_owners 2 (some .int) ∈ lw_g := List.mem_filter.mpr ⟨List.mem_of_getElem? (i := 267) rfl, rfl⟩
def w_W_search : List Cond := .code y_W_search b_W_search 5 (some .int) :: lw_g
set_option maxRecDepth 20000 in
theorem kc_W_search : Cond.code y_W_search b_W_search 5 (some .int) ∈ lw_g := List.mem_filter.mpr ⟨List.mem_of_getElem? (i := 271) rfl, rfl⟩
def w_W_nextToSearch : List Cond := .code y_W_nextToSearch b_W_nextToSearch 5 (some .int) :: lw_g
set_option maxRecDepth 20000 in
theorem kc_W_nextToSearch : Cond.code y_W_nextToSearch b_W_nextToSearch 5 (some .int) ∈ lw_g := List.mem_filter.mpr ⟨List.mem_of_getElem? (i := 275) rfl, rfl⟩
def w_O_admitted : List Cond := .code y_O_admitted b_O_admitted 5 (some .int) :: lw_g
set_option maxRecDepth 20000 in
theorem kc_O_admitted : Cond.code y_O_admitted b_O_admitted 5 (some .int) ∈ lw_g := List.mem_filter.mpr ⟨List.mem_of_getElem? (i := 279) rfl, rfl⟩
def w_M_accessOf : List Cond := .code y_M_accessOf b_M_accessOf 3 (some .int) :: lw_g
set_option maxRecDepth 20000 in
theorem kc_M_accessOf : Cond.code y_M_accessOf b_M_accessOf 3 (some .int) ∈ lw_g := List.mem_filter.mpr ⟨List.mem_of_getElem? (i := 283) rfl, rfl⟩
def w_O_mayUseMember : List Cond := .code y_O_mayUseMember b_O_mayUseMember 4 (some .boolean) :: lw_g
set_option maxRecDepth 20000 in
theorem kc_O_mayUseMember : Cond.code y_O_mayUseMember b_O_mayUseMember 4 (some .boolean) ∈ lw_g := List.mem_filter.mpr ⟨List.mem_of_getElem? (i := 287) rfl, rfl⟩
def w_W_isKindOf : List Cond := .code y_W_isKindOf b_W_isKindOf 3 (some .boolean) :: lw_g
set_option maxRecDepth 20000 in
theorem kc_W_isKindOf : Cond.code y_W_isKindOf b_W_isKindOf 3 (some .boolean) ∈ lw_g := List.mem_filter.mpr ⟨List.mem_of_getElem? (i := 291) rfl, rfl⟩
def w_W_sameHost : List Cond := .code y_W_sameHost b_W_sameHost 3 (some .boolean) :: lw_g
set_option maxRecDepth 20000 in
theorem kc_W_sameHost : Cond.code y_W_sameHost b_W_sameHost 3 (some .boolean) ∈ lw_g := List.mem_filter.mpr ⟨List.mem_of_getElem? (i := 295) rfl, rfl⟩
def w_O_resolveMethod : List Cond := .code y_O_resolveMethod b_O_resolveMethod 7 (some .int) :: lw_g
set_option maxRecDepth 20000 in
theorem kc_O_resolveMethod : Cond.code y_O_resolveMethod b_O_resolveMethod 7 (some .int) ∈ lw_g := List.mem_filter.mpr ⟨List.mem_of_getElem? (i := 299) rfl, rfl⟩
def w_W_chain : List Cond := .code y_W_chain b_W_chain 2 (some .int) :: lw_g
set_option maxRecDepth 20000 in
theorem kc_W_chain : Cond.code y_W_chain b_W_chain 2 (some .int) ∈ lw_g := List.mem_filter.mpr ⟨List.mem_of_getElem? (i := 303) rfl, rfl⟩
def w_O_greatestOf : List Cond := .code y_O_greatestOf b_O_greatestOf 2 (some .int) :: lw_g
set_option maxRecDepth 20000 in
theorem kc_O_greatestOf : Cond.code y_O_greatestOf b_O_greatestOf 2 (some .int) ∈ lw_g := List.mem_filter.mpr ⟨List.mem_of_getElem? (i := 306) rfl, rfl⟩
def w_O_bestOfInterfaces : List Cond := .code y_O_bestOfInterfaces b_O_bestOfInterfaces 4 (some .int) :: lw_g
set_option maxRecDepth 20000 in
theorem kc_O_bestOfInterfaces : Cond.code y_O_bestOfInterfaces b_O_bestOfInterfaces 4 (some .int) ∈ lw_g := List.mem_filter.mpr ⟨List.mem_of_getElem? (i := 311) rfl, rfl⟩
def w_O_maximalSet : List Cond := .code y_O_maximalSet b_O_maximalSet 6 (some .int) :: lw_g
set_option maxRecDepth 20000 in
theorem kc_O_maximalSet : Cond.code y_O_maximalSet b_O_maximalSet 6 (some .int) ∈ lw_g := List.mem_filter.mpr ⟨List.mem_of_getElem? (i := 315) rfl, rfl⟩
def w_O_interfaceMethods : List Cond := .code y_O_interfaceMethods b_O_interfaceMethods 3 (some .int) :: lw_g
set_option maxRecDepth 20000 in
theorem kc_O_interfaceMethods : Cond.code y_O_interfaceMethods b_O_interfaceMethods 3 (some .int) ∈ lw_g := List.mem_filter.mpr ⟨List.mem_of_getElem? (i := 319) rfl, rfl⟩
def w_W_supertypes : List Cond := .code y_W_supertypes b_W_supertypes 2 (some .int) :: lw_g
set_option maxRecDepth 20000 in
theorem kc_W_supertypes : Cond.code y_W_supertypes b_W_supertypes 2 (some .int) ∈ lw_g := List.mem_filter.mpr ⟨List.mem_of_getElem? (i := 323) rfl, rfl⟩
def w_W_interfaces : List Cond := .code y_W_interfaces b_W_interfaces 1 (some .int) :: lw_g
set_option maxRecDepth 20000 in
theorem kc_W_interfaces : Cond.code y_W_interfaces b_W_interfaces 1 (some .int) ∈ lw_g := List.mem_filter.mpr ⟨List.mem_of_getElem? (i := 327) rfl, rfl⟩
def w_M_inheritable : List Cond := .code y_M_inheritable b_M_inheritable 2 (some .int) :: lw_g
set_option maxRecDepth 20000 in
theorem kc_M_inheritable : Cond.code y_M_inheritable b_M_inheritable 2 (some .int) ∈ lw_g := List.mem_filter.mpr ⟨List.mem_of_getElem? (i := 331) rfl, rfl⟩
def w_M_abstracts : List Cond := .code y_M_abstracts b_M_abstracts 2 (some .int) :: lw_g
set_option maxRecDepth 20000 in
theorem kc_M_abstracts : Cond.code y_M_abstracts b_M_abstracts 2 (some .int) ∈ lw_g := List.mem_filter.mpr ⟨List.mem_of_getElem? (i := 335) rfl, rfl⟩
def w_J_bitCount : List Cond := .code y_J_bitCount b_J_bitCount 1 (some .int) :: lw_g
set_option maxRecDepth 20000 in
theorem kc_J_bitCount : Cond.code y_J_bitCount b_J_bitCount 1 (some .int) ∈ lw_g := List.mem_filter.mpr ⟨List.mem_of_getElem? (i := 338) rfl, rfl⟩
def w_O_leastOf : List Cond := .code y_O_leastOf b_O_leastOf 2 (some .int) :: lw_g
set_option maxRecDepth 20000 in
theorem kc_O_leastOf : Cond.code y_O_leastOf b_O_leastOf 2 (some .int) ∈ lw_g := List.mem_filter.mpr ⟨List.mem_of_getElem? (i := 344) rfl, rfl⟩
def w_O_choices : List Cond := .code y_O_choices b_O_choices 1 (some .int) :: lw_g
set_option maxRecDepth 20000 in
theorem kc_O_choices : Cond.code y_O_choices b_O_choices 1 (some .int) ∈ lw_g := List.mem_filter.mpr ⟨List.mem_of_getElem? (i := 348) rfl, rfl⟩
def w_O_use : List Cond := .code y_O_use b_O_use 6 (some .int) :: lw_g
set_option maxRecDepth 20000 in
theorem kc_O_use : Cond.code y_O_use b_O_use 6 (some .int) ∈ lw_g := List.mem_filter.mpr ⟨List.mem_of_getElem? (i := 352) rfl, rfl⟩
def w_M_isStatic : List Cond := .code y_M_isStatic b_M_isStatic 3 (some .boolean) :: lw_g
set_option maxRecDepth 20000 in
theorem kc_M_isStatic : Cond.code y_M_isStatic b_M_isStatic 3 (some .boolean) ∈ lw_g := List.mem_filter.mpr ⟨List.mem_of_getElem? (i := 356) rfl, rfl⟩
def w_O_invoke : List Cond := .code y_O_invoke b_O_invoke 6 (some .int) :: lw_g
set_option maxRecDepth 20000 in
theorem kc_O_invoke : Cond.code y_O_invoke b_O_invoke 6 (some .int) ∈ lw_g := List.mem_filter.mpr ⟨List.mem_of_getElem? (i := 360) rfl, rfl⟩
def w_O_isReceiver : List Cond := .code y_O_isReceiver b_O_isReceiver 5 (some .boolean) :: lw_g
set_option maxRecDepth 20000 in
theorem kc_O_isReceiver : Cond.code y_O_isReceiver b_O_isReceiver 5 (some .boolean) ∈ lw_g := List.mem_filter.mpr ⟨List.mem_of_getElem? (i := 364) rfl, rfl⟩
def w_O_invokeVirtual : List Cond := .code y_O_invokeVirtual b_O_invokeVirtual 6 (some .int) :: lw_g
set_option maxRecDepth 20000 in
theorem kc_O_invokeVirtual : Cond.code y_O_invokeVirtual b_O_invokeVirtual 6 (some .int) ∈ lw_g := List.mem_filter.mpr ⟨List.mem_of_getElem? (i := 369) rfl, rfl⟩
def w_O_select : List Cond := .code y_O_select b_O_select 6 (some .int) :: lw_g
set_option maxRecDepth 20000 in
theorem kc_O_select : Cond.code y_O_select b_O_select 6 (some .int) ∈ lw_g := List.mem_filter.mpr ⟨List.mem_of_getElem? (i := 373) rfl, rfl⟩
def w_O_canOverride : List Cond := .code y_O_canOverride b_O_canOverride 8 (some .boolean) :: lw_g
set_option maxRecDepth 20000 in
theorem kc_O_canOverride : Cond.code y_O_canOverride b_O_canOverride 8 (some .boolean) ∈ lw_g := List.mem_filter.mpr ⟨List.mem_of_getElem? (i := 377) rfl, rfl⟩
def w_M_instances : List Cond := .code y_M_instances b_M_instances 2 (some .int) :: lw_g
set_option maxRecDepth 20000 in
theorem kc_M_instances : Cond.code y_M_instances b_M_instances 2 (some .int) ∈ lw_g := List.mem_filter.mpr ⟨List.mem_of_getElem? (i := 381) rfl, rfl⟩
def w_W_kindsOf : List Cond := .code y_W_kindsOf b_W_kindsOf 4 (some .int) :: lw_g
set_option maxRecDepth 20000 in
theorem kc_W_kindsOf : Cond.code y_W_kindsOf b_W_kindsOf 4 (some .int) ∈ lw_g := List.mem_filter.mpr ⟨List.mem_of_getElem? (i := 385) rfl, rfl⟩
def w_O_overridesOneOf : List Cond := .code y_O_overridesOneOf b_O_overridesOneOf 5 (some .boolean) :: lw_g
set_option maxRecDepth 20000 in
theorem kc_O_overridesOneOf : Cond.code y_O_overridesOneOf b_O_overridesOneOf 5 (some .boolean) ∈ lw_g := List.mem_filter.mpr ⟨List.mem_of_getElem? (i := 389) rfl, rfl⟩
def w_O_overridesAtOnce : List Cond := .code y_O_overridesAtOnce b_O_overridesAtOnce 4 (some .boolean) :: lw_g
set_option maxRecDepth 20000 in
theorem kc_O_overridesAtOnce : Cond.code y_O_overridesAtOnce b_O_overridesAtOnce 4 (some .boolean) ∈ lw_g := List.mem_filter.mpr ⟨List.mem_of_getElem? (i := 393) rfl, rfl⟩
def w_O_runnable : List Cond := .code y_O_runnable b_O_runnable 3 (some .int) :: lw_g
set_option maxRecDepth 20000 in
theorem kc_O_runnable : Cond.code y_O_runnable b_O_runnable 3 (some .int) ∈ lw_g := List.mem_filter.mpr ⟨List.mem_of_getElem? (i := 397) rfl, rfl⟩
def w_O_invokeInterface : List Cond := .code y_O_invokeInterface b_O_invokeInterface 8 (some .int) :: lw_g
set_option maxRecDepth 20000 in
theorem kc_O_invokeInterface : Cond.code y_O_invokeInterface b_O_invokeInterface 8 (some .int) ∈ lw_g := List.mem_filter.mpr ⟨List.mem_of_getElem? (i := 401) rfl, rfl⟩
def w_O_invokeSpecial : List Cond := .code y_O_invokeSpecial b_O_invokeSpecial 8 (some .int) :: lw_g
set_option maxRecDepth 20000 in
theorem kc_O_invokeSpecial : Cond.code y_O_invokeSpecial b_O_invokeSpecial 8 (some .int) ∈ lw_g := List.mem_filter.mpr ⟨List.mem_of_getElem? (i := 405) rfl, rfl⟩
def w_W_superclassOf : List Cond := .code y_W_superclassOf b_W_superclassOf 2 (some .int) :: lw_g
set_option maxRecDepth 20000 in
theorem kc_W_superclassOf : Cond.code y_W_superclassOf b_W_superclassOf 2 (some .int) ∈ lw_g := List.mem_filter.mpr ⟨List.mem_of_getElem? (i := 409) rfl, rfl⟩
def w_O_invokeStatic : List Cond := .code y_O_invokeStatic b_O_invokeStatic 5 (some .int) :: lw_g
set_option maxRecDepth 20000 in
theorem kc_O_invokeStatic : Cond.code y_O_invokeStatic b_O_invokeStatic 5 (some .int) ∈ lw_g := List.mem_filter.mpr ⟨List.mem_of_getElem? (i := 413) rfl, rfl⟩
def w_O_isA : List Cond := .code y_O_isA b_O_isA 3 (some .boolean) :: lw_g
set_option maxRecDepth 20000 in
theorem kc_O_isA : Cond.code y_O_isA b_O_isA 3 (some .boolean) ∈ lw_g := List.mem_filter.mpr ⟨List.mem_of_getElem? (i := 417) rfl, rfl⟩
def w_O_mates : List Cond := .code y_O_mates b_O_mates 3 (some .boolean) :: lw_g
set_option maxRecDepth 20000 in
theorem kc_O_mates : Cond.code y_O_mates b_O_mates 3 (some .boolean) ∈ lw_g := List.mem_filter.mpr ⟨List.mem_of_getElem? (i := 421) rfl, rfl⟩
def w_O_overrides : List Cond := .code y_O_overrides b_O_overrides 4 (some .boolean) :: lw_g
set_option maxRecDepth 20000 in
theorem kc_O_overrides : Cond.code y_O_overrides b_O_overrides 4 (some .boolean) ∈ lw_g := List.mem_filter.mpr ⟨List.mem_of_getElem? (i := 425) rfl, rfl⟩
def w_O_maximal : List Cond := .code y_O_maximal b_O_maximal 3 (some .int) :: lw_g
set_option maxRecDepth 20000 in
theorem kc_O_maximal : Cond.code y_O_maximal b_O_maximal 3 (some .int) ∈ lw_g := List.mem_filter.mpr ⟨List.mem_of_getElem? (i := 429) rfl, rfl⟩
def w_O_type : List Cond := .code y_O_type b_O_type 3 (some .int) :: lw_g
set_option maxRecDepth 20000 in
theorem kc_O_type : Cond.code y_O_type b_O_type 3 (some .int) ∈ lw_g := List.mem_filter.mpr ⟨List.mem_of_getElem? (i := 433) rfl, rfl⟩
def w_W_packageOf : List Cond := .code y_W_packageOf b_W_packageOf 2 (some .int) :: lw_g
set_option maxRecDepth 20000 in
theorem kc_W_packageOf : Cond.code y_W_packageOf b_W_packageOf 2 (some .int) ∈ lw_g := List.mem_filter.mpr ⟨List.mem_of_getElem? (i := 437) rfl, rfl⟩
def w_R_init : List Cond := .code y_R_init b_R_init 2 none :: lw_g
set_option maxRecDepth 20000 in
theorem kc_R_init : Cond.code y_R_init b_R_init 2 none ∈ lw_g := List.mem_filter.mpr ⟨List.mem_of_getElem? (i := 443) rfl, rfl⟩
def w_R_tellClass : List Cond := .code y_R_tellClass b_R_tellClass 6 (some .int) :: lw_g
set_option maxRecDepth 20000 in
theorem kc_R_tellClass : Cond.code y_R_tellClass b_R_tellClass 6 (some .int) ∈ lw_g := List.mem_filter.mpr ⟨List.mem_of_getElem? (i := 495) rfl, rfl⟩
def w_R_in : List Cond := .code y_R_in b_R_in 3 (some .boolean) :: lw_g
set_option maxRecDepth 20000 in
theorem kc_R_in : Cond.code y_R_in b_R_in 3 (some .boolean) ∈ lw_g := List.mem_filter.mpr ⟨List.mem_of_getElem? (i := 498) rfl, rfl⟩
def w_R_there : List Cond := .code y_R_there b_R_there 2 (some .boolean) :: lw_g
set_option maxRecDepth 20000 in
theorem kc_R_there : Cond.code y_R_there b_R_there 2 (some .boolean) ∈ lw_g := List.mem_filter.mpr ⟨List.mem_of_getElem? (i := 502) rfl, rfl⟩
def w_R_tell : List Cond := .code y_R_tell b_R_tell 3 (some .int) :: lw_g
set_option maxRecDepth 20000 in
theorem kc_R_tell : Cond.code y_R_tell b_R_tell 3 (some .int) ∈ lw_g := List.mem_filter.mpr ⟨List.mem_of_getElem? (i := 506) rfl, rfl⟩
def w_R_tellInterface : List Cond := .code y_R_tellInterface b_R_tellInterface 4 (some .int) :: lw_g
set_option maxRecDepth 20000 in
theorem kc_R_tellInterface : Cond.code y_R_tellInterface b_R_tellInterface 4 (some .int) ∈ lw_g := List.mem_filter.mpr ⟨List.mem_of_getElem? (i := 510) rfl, rfl⟩
def w_R_implement : List Cond := .code y_R_implement b_R_implement 4 (some .int) :: lw_g
set_option maxRecDepth 20000 in
theorem kc_R_implement : Cond.code y_R_implement b_R_implement 4 (some .int) ∈ lw_g := List.mem_filter.mpr ⟨List.mem_of_getElem? (i := 514) rfl, rfl⟩
def w_R_nest : List Cond := .code y_R_nest b_R_nest 4 (some .int) :: lw_g
set_option maxRecDepth 20000 in
theorem kc_R_nest : Cond.code y_R_nest b_R_nest 4 (some .int) ∈ lw_g := List.mem_filter.mpr ⟨List.mem_of_getElem? (i := 518) rfl, rfl⟩
def w_R_field : List Cond := .code y_R_field b_R_field 5 (some .int) :: lw_g
set_option maxRecDepth 20000 in
theorem kc_R_field : Cond.code y_R_field b_R_field 5 (some .int) ∈ lw_g := List.mem_filter.mpr ⟨List.mem_of_getElem? (i := 522) rfl, rfl⟩
def w_R_method : List Cond := .code y_R_method b_R_method 5 (some .int) :: lw_g
set_option maxRecDepth 20000 in
theorem kc_R_method : Cond.code y_R_method b_R_method 5 (some .int) ∈ lw_g := List.mem_filter.mpr ⟨List.mem_of_getElem? (i := 526) rfl, rfl⟩
def w_R_untell : List Cond := .code y_R_untell b_R_untell 5 (some .int) :: lw_g
set_option maxRecDepth 20000 in
theorem kc_R_untell : Cond.code y_R_untell b_R_untell 5 (some .int) ∈ lw_g := List.mem_filter.mpr ⟨List.mem_of_getElem? (i := 530) rfl, rfl⟩
def w_R_resolve : List Cond := .code y_R_resolve b_R_resolve 5 (some .int) :: lw_g
set_option maxRecDepth 20000 in
theorem kc_R_resolve : Cond.code y_R_resolve b_R_resolve 5 (some .int) ∈ lw_g := List.mem_filter.mpr ⟨List.mem_of_getElem? (i := 534) rfl, rfl⟩
def w_R_closeAbove : List Cond := .code y_R_closeAbove b_R_closeAbove 3 none :: lw_g
set_option maxRecDepth 20000 in
theorem kc_R_closeAbove : Cond.code y_R_closeAbove b_R_closeAbove 3 none ∈ lw_g := List.mem_filter.mpr ⟨List.mem_of_getElem? (i := 538) rfl, rfl⟩
def w_R_resolved : List Cond := .code y_R_resolved b_R_resolved 6 (some .int) :: lw_g
set_option maxRecDepth 20000 in
theorem kc_R_resolved : Cond.code y_R_resolved b_R_resolved 6 (some .int) ∈ lw_g := List.mem_filter.mpr ⟨List.mem_of_getElem? (i := 542) rfl, rfl⟩
def w_R_usableType : List Cond := .code y_R_usableType b_R_usableType 3 (some .boolean) :: lw_g
set_option maxRecDepth 20000 in
theorem kc_R_usableType : Cond.code y_R_usableType b_R_usableType 3 (some .boolean) ∈ lw_g := List.mem_filter.mpr ⟨List.mem_of_getElem? (i := 546) rfl, rfl⟩
def w_R_findField : List Cond := .code y_R_findField b_R_findField 7 (some .int) :: lw_g
set_option maxRecDepth 20000 in
theorem kc_R_findField : Cond.code y_R_findField b_R_findField 7 (some .int) ∈ lw_g := List.mem_filter.mpr ⟨List.mem_of_getElem? (i := 550) rfl, rfl⟩
def w_R_usable : List Cond := .code y_R_usable b_R_usable 5 (some .boolean) :: lw_g
set_option maxRecDepth 20000 in
theorem kc_R_usable : Cond.code y_R_usable b_R_usable 5 (some .boolean) ∈ lw_g := List.mem_filter.mpr ⟨List.mem_of_getElem? (i := 554) rfl, rfl⟩
def w_R_is : List Cond := .code y_R_is b_R_is 3 (some .boolean) :: lw_g
set_option maxRecDepth 20000 in
theorem kc_R_is : Cond.code y_R_is b_R_is 3 (some .boolean) ∈ lw_g := List.mem_filter.mpr ⟨List.mem_of_getElem? (i := 558) rfl, rfl⟩
def w_R_findMethod : List Cond := .code y_R_findMethod b_R_findMethod 5 (some .int) :: lw_g
set_option maxRecDepth 20000 in
theorem kc_R_findMethod : Cond.code y_R_findMethod b_R_findMethod 5 (some .int) ∈ lw_g := List.mem_filter.mpr ⟨List.mem_of_getElem? (i := 562) rfl, rfl⟩
def w_R_has : List Cond := .code y_R_has b_R_has 3 (some .boolean) :: lw_g
set_option maxRecDepth 20000 in
theorem kc_R_has : Cond.code y_R_has b_R_has 3 (some .boolean) ∈ lw_g := List.mem_filter.mpr ⟨List.mem_of_getElem? (i := 566) rfl, rfl⟩
def w_R_findAbove : List Cond := .code y_R_findAbove b_R_findAbove 7 (some .int) :: lw_g
set_option maxRecDepth 20000 in
theorem kc_R_findAbove : Cond.code y_R_findAbove b_R_findAbove 7 (some .int) ∈ lw_g := List.mem_filter.mpr ⟨List.mem_of_getElem? (i := 570) rfl, rfl⟩
def w_R_maximals : List Cond := .code y_R_maximals b_R_maximals 7 (some .int) :: lw_g
set_option maxRecDepth 20000 in
theorem kc_R_maximals : Cond.code y_R_maximals b_R_maximals 7 (some .int) ∈ lw_g := List.mem_filter.mpr ⟨List.mem_of_getElem? (i := 574) rfl, rfl⟩
def w_R_candidates : List Cond := .code y_R_candidates b_R_candidates 5 (some .int) :: lw_g
set_option maxRecDepth 20000 in
theorem kc_R_candidates : Cond.code y_R_candidates b_R_candidates 5 (some .int) ∈ lw_g := List.mem_filter.mpr ⟨List.mem_of_getElem? (i := 578) rfl, rfl⟩
def w_R_isStatic : List Cond := .code y_R_isStatic b_R_isStatic 3 (some .boolean) :: lw_g
set_option maxRecDepth 20000 in
theorem kc_R_isStatic : Cond.code y_R_isStatic b_R_isStatic 3 (some .boolean) ∈ lw_g := List.mem_filter.mpr ⟨List.mem_of_getElem? (i := 582) rfl, rfl⟩
def w_R_isPrivate : List Cond := .code y_R_isPrivate b_R_isPrivate 3 (some .boolean) :: lw_g
set_option maxRecDepth 20000 in
theorem kc_R_isPrivate : Cond.code y_R_isPrivate b_R_isPrivate 3 (some .boolean) ∈ lw_g := List.mem_filter.mpr ⟨List.mem_of_getElem? (i := 586) rfl, rfl⟩
def w_R_only : List Cond := .code y_R_only b_R_only 6 (some .int) :: lw_g
set_option maxRecDepth 20000 in
theorem kc_R_only : Cond.code y_R_only b_R_only 6 (some .int) ∈ lw_g := List.mem_filter.mpr ⟨List.mem_of_getElem? (i := 590) rfl, rfl⟩
def w_R_isAbstract : List Cond := .code y_R_isAbstract b_R_isAbstract 3 (some .boolean) :: lw_g
set_option maxRecDepth 20000 in
theorem kc_R_isAbstract : Cond.code y_R_isAbstract b_R_isAbstract 3 (some .boolean) ∈ lw_g := List.mem_filter.mpr ⟨List.mem_of_getElem? (i := 594) rfl, rfl⟩
def w_R_choices : List Cond := .code y_R_choices b_R_choices 1 (some .int) :: lw_g
set_option maxRecDepth 20000 in
theorem kc_R_choices : Cond.code y_R_choices b_R_choices 1 (some .int) ∈ lw_g := List.mem_filter.mpr ⟨List.mem_of_getElem? (i := 598) rfl, rfl⟩
def w_R_use : List Cond := .code y_R_use b_R_use 7 (some .int) :: lw_g
set_option maxRecDepth 20000 in
theorem kc_R_use : Cond.code y_R_use b_R_use 7 (some .int) ∈ lw_g := List.mem_filter.mpr ⟨List.mem_of_getElem? (i := 602) rfl, rfl⟩
def w_R_invoke : List Cond := .code y_R_invoke b_R_invoke 9 (some .int) :: lw_g
set_option maxRecDepth 20000 in
theorem kc_R_invoke : Cond.code y_R_invoke b_R_invoke 9 (some .int) ∈ lw_g := List.mem_filter.mpr ⟨List.mem_of_getElem? (i := 606) rfl, rfl⟩
def w_R_special : List Cond := .code y_R_special b_R_special 6 (some .int) :: lw_g
set_option maxRecDepth 20000 in
theorem kc_R_special : Cond.code y_R_special b_R_special 6 (some .int) ∈ lw_g := List.mem_filter.mpr ⟨List.mem_of_getElem? (i := 610) rfl, rfl⟩
def w_R_withCode : List Cond := .code y_R_withCode b_R_withCode 3 (some .int) :: lw_g
set_option maxRecDepth 20000 in
theorem kc_R_withCode : Cond.code y_R_withCode b_R_withCode 3 (some .int) ∈ lw_g := List.mem_filter.mpr ⟨List.mem_of_getElem? (i := 614) rfl, rfl⟩
def w_R_coded : List Cond := .code y_R_coded b_R_coded 4 (some .int) :: lw_g
set_option maxRecDepth 20000 in
theorem kc_R_coded : Cond.code y_R_coded b_R_coded 4 (some .int) ∈ lw_g := List.mem_filter.mpr ⟨List.mem_of_getElem? (i := 618) rfl, rfl⟩
def w_R_selected : List Cond := .code y_R_selected b_R_selected 5 (some .int) :: lw_g
set_option maxRecDepth 20000 in
theorem kc_R_selected : Cond.code y_R_selected b_R_selected 5 (some .int) ∈ lw_g := List.mem_filter.mpr ⟨List.mem_of_getElem? (i := 622) rfl, rfl⟩
def w_R_fillCan : List Cond := .code y_R_fillCan b_R_fillCan 4 none :: lw_g
set_option maxRecDepth 20000 in
theorem kc_R_fillCan : Cond.code y_R_fillCan b_R_fillCan 4 none ∈ lw_g := List.mem_filter.mpr ⟨List.mem_of_getElem? (i := 626) rfl, rfl⟩
def w_R_overriding : List Cond := .code y_R_overriding b_R_overriding 6 (some .boolean) :: lw_g
set_option maxRecDepth 20000 in
theorem kc_R_overriding : Cond.code y_R_overriding b_R_overriding 6 (some .boolean) ∈ lw_g := List.mem_filter.mpr ⟨List.mem_of_getElem? (i := 630) rfl, rfl⟩
def w_R_isA : List Cond := .code y_R_isA b_R_isA 3 (some .boolean) :: lw_g
set_option maxRecDepth 20000 in
theorem kc_R_isA : Cond.code y_R_isA b_R_isA 3 (some .boolean) ∈ lw_g := List.mem_filter.mpr ⟨List.mem_of_getElem? (i := 634) rfl, rfl⟩
def w_R_mates : List Cond := .code y_R_mates b_R_mates 3 (some .boolean) :: lw_g
set_option maxRecDepth 20000 in
theorem kc_R_mates : Cond.code y_R_mates b_R_mates 3 (some .boolean) ∈ lw_g := List.mem_filter.mpr ⟨List.mem_of_getElem? (i := 638) rfl, rfl⟩
def w_R_overrides : List Cond := .code y_R_overrides b_R_overrides 4 (some .boolean) :: lw_g
set_option maxRecDepth 20000 in
theorem kc_R_overrides : Cond.code y_R_overrides b_R_overrides 4 (some .boolean) ∈ lw_g := List.mem_filter.mpr ⟨List.mem_of_getElem? (i := 642) rfl, rfl⟩
def w_R_maximal : List Cond := .code y_R_maximal b_R_maximal 3 (some .int) :: lw_g
set_option maxRecDepth 20000 in
theorem kc_R_maximal : Cond.code y_R_maximal b_R_maximal 3 (some .int) ∈ lw_g := List.mem_filter.mpr ⟨List.mem_of_getElem? (i := 646) rfl, rfl⟩
def w_R_type : List Cond := .code y_R_type b_R_type 5 (some .int) :: lw_g
set_option maxRecDepth 20000 in
theorem kc_R_type : Cond.code y_R_type b_R_type 5 (some .int) ∈ lw_g := List.mem_filter.mpr ⟨List.mem_of_getElem? (i := 650) rfl, rfl⟩
theorem i_W : ∀ w ∈ u_ws R_W F_W 10, w ∈ lw_g := by decide +kernel
theorem i_M : ∀ w ∈ u_ws R_M F_M 5, w ∈ lw_g := by decide +kernel
theorem i_O : ∀ w ∈ u_ws R_O F_O 4, w ∈ lw_g := by decide +kernel
theorem i_R : ∀ w ∈ u_ws R_R F_R 15, w ∈ lw_g := by decide +kernel
theorem k_0 : Cond.constant R_J 265 1431655765 ∈ lw_g := by decide +kernel
theorem k_1 : Cond.constant R_J 266 858993459 ∈ lw_g := by decide +kernel
theorem k_2 : Cond.constant R_J 267 252645135 ∈ lw_g := by decide +kernel
theorem k_3 : Cond.fieldLink R_W 40 "MemberOracle$World" "count" "I" ∈ lw_g := by decide +kernel
theorem k_4 : Cond.fieldLink R_W 37 "MemberOracle$World" "interfaceSet" "I" ∈ lw_g := by decide +kernel
theorem k_5 : Cond.methodLinkNest R_W 47 y_O_holds R_O ∈ lw_tbl := by decide +kernel
theorem k_6 : Cond.initialized R_O ∈ lw_g := by decide +kernel
theorem k_7 : Cond.static y_O_holds ∈ lw_g := by decide +kernel
theorem k_8 : Cond.fieldLink R_W 34 "MemberOracle$World" "finalSet" "I" ∈ lw_g := by decide +kernel
theorem k_9 : Cond.fieldLink R_W 21 "MemberOracle$World" "directCounts" "[I" ∈ lw_g := by decide +kernel
theorem k_10 : Cond.fieldLink R_W 24 "MemberOracle$World" "directs" "[I" ∈ lw_g := by decide +kernel
theorem k_11 : Cond.fieldLink R_W 9 "MemberOracle$World" "superclasses" "[I" ∈ lw_g := by decide +kernel
theorem k_12 : Cond.fieldLink R_W 15 "MemberOracle$World" "packages" "[I" ∈ lw_g := by decide +kernel
theorem k_13 : Cond.fieldLink R_W 18 "MemberOracle$World" "hosts" "[I" ∈ lw_g := by decide +kernel
theorem k_14 : Cond.fieldLink R_W 27 "MemberOracle$World" "families" "[I" ∈ lw_g := by decide +kernel
theorem k_15 : Cond.fieldLink R_W 30 "MemberOracle$World" "publicSet" "I" ∈ lw_g := by decide +kernel
theorem k_16 : Cond.fieldLink R_M 9 "MemberOracle$Members" "ownerSets" "[I" ∈ lw_g := by decide +kernel
theorem k_17 : Cond.fieldLink R_M 18 "MemberOracle$Members" "abstractSets" "[I" ∈ lw_g := by decide +kernel
theorem k_18 : Cond.fieldLink R_M 15 "MemberOracle$Members" "staticSets" "[I" ∈ lw_g := by decide +kernel
theorem k_19 : Cond.fieldLink R_M 21 "MemberOracle$Members" "privateSets" "[I" ∈ lw_g := by decide +kernel
theorem k_20 : Cond.methodLinkNest R_M 31 y_O_holds R_O ∈ lw_tbl := by decide +kernel
theorem k_21 : Cond.fieldLink R_M 24 "MemberOracle$Members" "accesses" "[I" ∈ lw_g := by decide +kernel
theorem k_22 : Cond.fieldLink R_O 10 "MemberOracle" "world" "LMemberOracle$World;" ∈ lw_g := by decide +kernel
theorem k_23 : Cond.fieldLink R_O 23 "MemberOracle" "methods" "LMemberOracle$Members;" ∈ lw_g := by decide +kernel
theorem k_24 : Cond.methodLink R_O 158 y_J_bitCount ∈ lw_g := by decide +kernel
theorem k_25 : Cond.initialized R_J ∈ lw_g := by decide +kernel
theorem k_26 : Cond.static y_J_bitCount ∈ lw_g := by decide +kernel
theorem k_27 : Cond.fieldLink R_O 19 "MemberOracle" "fields" "LMemberOracle$Members;" ∈ lw_g := by decide +kernel
theorem k_28 : Cond.fieldLink R_O 26 "MemberOracle" "lastChoices" "I" ∈ lw_g := by decide +kernel
theorem k_29 : Cond.methodLink R_W 3 objectInit ∈ lw_g := by decide +kernel
theorem k_30 : Cond.instanceMethod objectInit ∈ lw_g := by decide +kernel
theorem k_31 : Cond.arrayClass .int ∈ lw_g := by decide +kernel
theorem k_32 : Cond.methodLink R_M 3 objectInit ∈ lw_g := by decide +kernel
theorem k_33 : Cond.methodLink R_O 1 objectInit ∈ lw_g := by decide +kernel
theorem k_34 : Cond.classLink R_O 7 R_W ∈ lw_g := by decide +kernel
theorem k_35 : Cond.instantiable R_W 10 ∈ lw_g := by decide +kernel
theorem k_36 : Cond.initialized R_W ∈ lw_g := by decide +kernel
theorem k_37 : Cond.methodLink R_O 9 y_W_init ∈ lw_g := by decide +kernel
theorem k_38 : Cond.instanceMethod y_W_init ∈ lw_g := by decide +kernel
theorem k_39 : Cond.classLink R_O 16 R_M ∈ lw_g := by decide +kernel
theorem k_40 : Cond.instantiable R_M 5 ∈ lw_g := by decide +kernel
theorem k_41 : Cond.initialized R_M ∈ lw_g := by decide +kernel
theorem k_42 : Cond.methodLink R_O 18 y_M_init ∈ lw_g := by decide +kernel
theorem k_43 : Cond.instanceMethod y_M_init ∈ lw_g := by decide +kernel
theorem k_g0 : GoodIn lw_g (wsS R_O 200 y_O_holds w_O_holds) := gd_S kc_O_holds (by decide +kernel)
theorem k_g1 : GoodIn lw_g (wsV R_W 43 R_W y_W_has w_W_has) := gd_V kc_W_has (by decide +kernel)
theorem k_g2 : GoodIn lw_g w_O_holds := gd_N kc_O_holds
theorem k_g3 : GoodIn lw_g (wsV R_W 51 R_W y_W_isClass w_W_isClass) := gd_V kc_W_isClass (by decide +kernel)
theorem k_g4 : GoodIn lw_g (wsV R_W 62 R_W y_W_samePackage w_W_samePackage) := gd_V kc_W_samePackage (by decide +kernel)
theorem k_g5 : GoodIn lw_g (wsV R_W 58 R_W y_W_directAt w_W_directAt) := gd_V kc_W_directAt (by decide +kernel)
theorem k_g6 : GoodIn lw_g (wsV R_W 65 R_W y_W_nextToSearch w_W_nextToSearch) := gd_V kc_W_nextToSearch (by decide +kernel)
theorem k_g7 : GoodIn lw_g (wsV R_W 54 R_W y_W_addType w_W_addType) := gd_V kc_W_addType (by decide +kernel)
theorem k_g8 : GoodIn lw_g (wsV R_M 27 R_M y_M_drop w_M_drop) := gd_V kc_M_drop (by decide +kernel)
theorem k_g9 : GoodIn lw_g (wsV R_O 155 R_W y_W_supertypes w_W_supertypes) := gd_V kc_W_supertypes (by decide +kernel)
theorem k_g10 : GoodIn lw_g (wsV R_O 193 R_W y_W_interfaces w_W_interfaces) := gd_V kc_W_interfaces (by decide +kernel)
theorem k_g11 : GoodIn lw_g (wsV R_O 197 R_M y_M_inheritable w_M_inheritable) := gd_V kc_M_inheritable (by decide +kernel)
theorem k_g12 : GoodIn lw_g (wsV R_O 181 R_O y_O_interfaceMethods w_O_interfaceMethods) := gd_V kc_O_interfaceMethods (by decide +kernel)
theorem k_g13 : GoodIn lw_g (wsV R_O 143 R_O y_O_maximalSet w_O_maximalSet) := gd_V kc_O_maximalSet (by decide +kernel)
theorem k_g14 : GoodIn lw_g (wsV R_O 203 R_M y_M_abstracts w_M_abstracts) := gd_V kc_M_abstracts (by decide +kernel)
theorem k_g15 : GoodIn lw_g w_J_bitCount := gd_N kc_J_bitCount
theorem k_g16 : GoodIn lw_g (wsS R_O 184 y_O_leastOf w_O_leastOf) := gd_S kc_O_leastOf (by decide +kernel)
theorem k_g17 : GoodIn lw_g (wsV R_O 187 R_M y_M_accessOf w_M_accessOf) := gd_V kc_M_accessOf (by decide +kernel)
theorem k_g18 : GoodIn lw_g (wsV R_O 67 R_W y_W_samePackage w_W_samePackage) := gd_V kc_W_samePackage (by decide +kernel)
theorem k_g19 : GoodIn lw_g (wsV R_O 215 R_O y_O_overridesAtOnce w_O_overridesAtOnce) := gd_V kc_O_overridesAtOnce (by decide +kernel)
theorem k_g20 : GoodIn lw_g (wsV R_O 206 R_M y_M_instances w_M_instances) := gd_V kc_M_instances (by decide +kernel)
theorem k_g21 : GoodIn lw_g (wsV R_O 172 R_W y_W_chain w_W_chain) := gd_V kc_W_chain (by decide +kernel)
theorem k_g22 : GoodIn lw_g (wsV R_O 209 R_W y_W_kindsOf w_W_kindsOf) := gd_V kc_W_kindsOf (by decide +kernel)
theorem k_g23 : GoodIn lw_g (wsV R_O 212 R_O y_O_overridesOneOf w_O_overridesOneOf) := gd_V kc_O_overridesOneOf (by decide +kernel)
theorem k_g24 : GoodIn lw_g (wsV R_O 178 R_O y_O_bestOfInterfaces w_O_bestOfInterfaces) := gd_V kc_O_bestOfInterfaces (by decide +kernel)
theorem k_g25 : GoodIn lw_g (wsV R_O 139 R_O y_O_canOverride w_O_canOverride) := gd_V kc_O_canOverride (by decide +kernel)
theorem k_g26 : GoodIn lw_g (wsV R_O 130 R_W y_W_isKindOf w_W_isKindOf) := gd_V kc_W_isKindOf (by decide +kernel)
theorem k_g27 : GoodIn lw_g (wsV R_O 133 R_W y_W_sameHost w_W_sameHost) := gd_V kc_W_sameHost (by decide +kernel)
theorem k_g28 : GoodIn lw_g (wsV R_O 190 R_O y_O_mayUseMember w_O_mayUseMember) := gd_V kc_O_mayUseMember (by decide +kernel)
theorem k_g29 : GoodIn lw_g (wsV R_O 163 R_W y_W_mayUseType w_W_mayUseType) := gd_V kc_W_mayUseType (by decide +kernel)
theorem k_g30 : GoodIn lw_g (wsV R_O 166 R_M y_M_owners w_M_owners) := gd_V kc_M_owners (by decide +kernel)
theorem k_g31 : GoodIn lw_g (wsV R_O 169 R_W y_W_search w_W_search) := gd_V kc_W_search (by decide +kernel)
theorem k_g32 : GoodIn lw_g (wsV R_O 136 R_W y_W_isClass w_W_isClass) := gd_V kc_W_isClass (by decide +kernel)
theorem k_g33 : GoodIn lw_g (wsV R_O 52 R_W y_W_isInterface w_W_isInterface) := gd_V kc_W_isInterface (by decide +kernel)
theorem k_g34 : GoodIn lw_g (wsS R_O 175 y_O_greatestOf w_O_greatestOf) := gd_S kc_O_greatestOf (by decide +kernel)
theorem k_g35 : GoodIn lw_g (wsV R_O 102 R_O y_O_admitted w_O_admitted) := gd_V kc_O_admitted (by decide +kernel)
theorem k_g36 : GoodIn lw_g (wsV R_O 106 R_O y_O_resolveMethod w_O_resolveMethod) := gd_V kc_O_resolveMethod (by decide +kernel)
theorem k_g37 : GoodIn lw_g (wsV R_O 110 R_M y_M_isStatic w_M_isStatic) := gd_V kc_M_isStatic (by decide +kernel)
theorem k_g38 : GoodIn lw_g (wsV R_O 218 R_O y_O_select w_O_select) := gd_V kc_O_select (by decide +kernel)
theorem k_g39 : GoodIn lw_g (wsV R_O 221 R_O y_O_runnable w_O_runnable) := gd_V kc_O_runnable (by decide +kernel)
theorem k_g40 : GoodIn lw_g (wsV R_O 146 R_W y_W_superclassOf w_W_superclassOf) := gd_V kc_W_superclassOf (by decide +kernel)
theorem k_g41 : GoodIn lw_g (wsV R_O 49 R_W y_W_has w_W_has) := gd_V kc_W_has (by decide +kernel)
theorem k_g42 : GoodIn lw_g (wsS R_O 80 y_O_isName w_O_isName) := gd_S kc_O_isName (by decide +kernel)
theorem k_g43 : GoodIn lw_g (wsV R_O 149 R_W y_W_packageOf w_W_packageOf) := gd_V kc_W_packageOf (by decide +kernel)
theorem k_g44 : GoodIn lw_g (wsV R_O 70 R_W y_W_hostOf w_W_hostOf) := gd_V kc_W_hostOf (by decide +kernel)
theorem k_g45 : GoodIn lw_g (wsV R_O 59 R_W y_W_directCount w_W_directCount) := gd_V kc_W_directCount (by decide +kernel)
theorem k_g46 : GoodIn lw_g (wsV R_O 152 R_W y_W_directAt w_W_directAt) := gd_V kc_W_directAt (by decide +kernel)
theorem k_g47 : GoodIn lw_g (wsV R_O 98 R_O y_O_findField w_O_findField) := gd_V kc_O_findField (by decide +kernel)
theorem k_g48 : GoodIn lw_g (wsV R_O 113 R_O y_O_isReceiver w_O_isReceiver) := gd_V kc_O_isReceiver (by decide +kernel)
theorem k_g49 : GoodIn lw_g (wsV R_O 117 R_O y_O_invokeVirtual w_O_invokeVirtual) := gd_V kc_O_invokeVirtual (by decide +kernel)
theorem k_g50 : GoodIn lw_g (wsV R_O 121 R_O y_O_invokeInterface w_O_invokeInterface) := gd_V kc_O_invokeInterface (by decide +kernel)
theorem k_g51 : GoodIn lw_g (wsV R_O 124 R_O y_O_invokeSpecial w_O_invokeSpecial) := gd_V kc_O_invokeSpecial (by decide +kernel)
theorem k_g52 : GoodIn lw_g (wsV R_O 127 R_O y_O_invokeStatic w_O_invokeStatic) := gd_V kc_O_invokeStatic (by decide +kernel)
theorem k_g53 : GoodIn lw_g (wsS R_O 30 y_O_isPackage w_O_isPackage) := gd_S kc_O_isPackage (by decide +kernel)
theorem k_g54 : GoodIn lw_g (wsV R_O 37 R_W y_W_isFull w_W_isFull) := gd_V kc_W_isFull (by decide +kernel)
theorem k_g55 : GoodIn lw_g (wsV R_O 41 R_W y_W_addClass w_W_addClass) := gd_V kc_W_addClass (by decide +kernel)
theorem k_g56 : GoodIn lw_g (wsV R_O 34 R_W y_W_mayBeExtended w_W_mayBeExtended) := gd_V kc_W_mayBeExtended (by decide +kernel)
theorem k_g57 : GoodIn lw_g (wsV R_O 45 R_W y_W_addInterface w_W_addInterface) := gd_V kc_W_addInterface (by decide +kernel)
theorem k_g58 : GoodIn lw_g (wsV R_O 55 R_W y_W_hasDirect w_W_hasDirect) := gd_V kc_W_hasDirect (by decide +kernel)
theorem k_g59 : GoodIn lw_g (wsV R_O 63 R_W y_W_addDirect w_W_addDirect) := gd_V kc_W_addDirect (by decide +kernel)
theorem k_g60 : GoodIn lw_g (wsV R_O 73 R_W y_W_hostsAnother w_W_hostsAnother) := gd_V kc_W_hostsAnother (by decide +kernel)
theorem k_g61 : GoodIn lw_g (wsV R_O 76 R_W y_W_setHost w_W_setHost) := gd_V kc_W_setHost (by decide +kernel)
theorem k_g62 : GoodIn lw_g (wsS R_O 83 y_O_isAccess w_O_isAccess) := gd_S kc_O_isAccess (by decide +kernel)
theorem k_g63 : GoodIn lw_g (wsV R_O 86 R_M y_M_put w_M_put) := gd_V kc_M_put (by decide +kernel)
theorem k_g64 : GoodIn lw_g (wsS R_O 90 y_O_isForm w_O_isForm) := gd_S kc_O_isForm (by decide +kernel)
theorem k_g65 : GoodIn lw_g (wsV R_O 93 R_M y_M_has w_M_has) := gd_V kc_M_has (by decide +kernel)
theorem k_g66 : GoodIn lw_g (wsV R_O 95 R_M y_M_drop w_M_drop) := gd_V kc_M_drop (by decide +kernel)
theorem k_g67 : GoodIn lw_g w_W_init := gd_N kc_W_init
theorem k_g68 : GoodIn lw_g w_M_init := gd_N kc_M_init
end
section
theorem d_J_bitCount_0 : decode b_J_bitCount 0 = .ok (.iload_n 0, 1) := by decide +kernel
theorem d_J_bitCount_1 : decode b_J_bitCount 1 = .ok (.iload_n 0, 1) := by decide +kernel
theorem d_J_bitCount_2 : decode b_J_bitCount 2 = .ok (.iconst 1, 1) := by decide +kernel
theorem d_J_bitCount_3 : decode b_J_bitCount 3 = .ok (.iushr, 1) := by decide +kernel
theorem d_J_bitCount_4 : decode b_J_bitCount 4 = .ok (.ldc_w 265, 3) := by decide +kernel
theorem d_J_bitCount_7 : decode b_J_bitCount 7 = .ok (.iand, 1) := by decide +kernel
theorem d_J_bitCount_8 : decode b_J_bitCount 8 = .ok (.isub, 1) := by decide +kernel
theorem d_J_bitCount_9 : decode b_J_bitCount 9 = .ok (.istore_n 0, 1) := by decide +kernel
theorem d_J_bitCount_10 : decode b_J_bitCount 10 = .ok (.iload_n 0, 1) := by decide +kernel
theorem d_J_bitCount_11 : decode b_J_bitCount 11 = .ok (.ldc_w 266, 3) := by decide +kernel
theorem d_J_bitCount_14 : decode b_J_bitCount 14 = .ok (.iand, 1) := by decide +kernel
theorem d_J_bitCount_15 : decode b_J_bitCount 15 = .ok (.iload_n 0, 1) := by decide +kernel
theorem d_J_bitCount_16 : decode b_J_bitCount 16 = .ok (.iconst 2, 1) := by decide +kernel
theorem d_J_bitCount_17 : decode b_J_bitCount 17 = .ok (.iushr, 1) := by decide +kernel
theorem d_J_bitCount_18 : decode b_J_bitCount 18 = .ok (.ldc_w 266, 3) := by decide +kernel
theorem d_J_bitCount_21 : decode b_J_bitCount 21 = .ok (.iand, 1) := by decide +kernel
theorem d_J_bitCount_22 : decode b_J_bitCount 22 = .ok (.iadd, 1) := by decide +kernel
theorem d_J_bitCount_23 : decode b_J_bitCount 23 = .ok (.istore_n 0, 1) := by decide +kernel
theorem d_J_bitCount_24 : decode b_J_bitCount 24 = .ok (.iload_n 0, 1) := by decide +kernel
theorem d_J_bitCount_25 : decode b_J_bitCount 25 = .ok (.iload_n 0, 1) := by decide +kernel
theorem d_J_bitCount_26 : decode b_J_bitCount 26 = .ok (.iconst 4, 1) := by decide +kernel
theorem d_J_bitCount_27 : decode b_J_bitCount 27 = .ok (.iushr, 1) := by decide +kernel
theorem d_J_bitCount_28 : decode b_J_bitCount 28 = .ok (.iadd, 1) := by decide +kernel
theorem d_J_bitCount_29 : decode b_J_bitCount 29 = .ok (.ldc_w 267, 3) := by decide +kernel
theorem d_J_bitCount_32 : decode b_J_bitCount 32 = .ok (.iand, 1) := by decide +kernel
theorem d_J_bitCount_33 : decode b_J_bitCount 33 = .ok (.istore_n 0, 1) := by decide +kernel
theorem d_J_bitCount_34 : decode b_J_bitCount 34 = .ok (.iload_n 0, 1) := by decide +kernel
theorem d_J_bitCount_35 : decode b_J_bitCount 35 = .ok (.iload_n 0, 1) := by decide +kernel
theorem d_J_bitCount_36 : decode b_J_bitCount 36 = .ok (.bipush 8, 2) := by decide +kernel
theorem d_J_bitCount_38 : decode b_J_bitCount 38 = .ok (.iushr, 1) := by decide +kernel
theorem d_J_bitCount_39 : decode b_J_bitCount 39 = .ok (.iadd, 1) := by decide +kernel
theorem d_J_bitCount_40 : decode b_J_bitCount 40 = .ok (.istore_n 0, 1) := by decide +kernel
theorem d_J_bitCount_41 : decode b_J_bitCount 41 = .ok (.iload_n 0, 1) := by decide +kernel
theorem d_J_bitCount_42 : decode b_J_bitCount 42 = .ok (.iload_n 0, 1) := by decide +kernel
theorem d_J_bitCount_43 : decode b_J_bitCount 43 = .ok (.bipush 16, 2) := by decide +kernel
theorem d_J_bitCount_45 : decode b_J_bitCount 45 = .ok (.iushr, 1) := by decide +kernel
theorem d_J_bitCount_46 : decode b_J_bitCount 46 = .ok (.iadd, 1) := by decide +kernel
theorem d_J_bitCount_47 : decode b_J_bitCount 47 = .ok (.istore_n 0, 1) := by decide +kernel
theorem d_J_bitCount_48 : decode b_J_bitCount 48 = .ok (.iload_n 0, 1) := by decide +kernel
theorem d_J_bitCount_49 : decode b_J_bitCount 49 = .ok (.bipush 63, 2) := by decide +kernel
theorem d_J_bitCount_51 : decode b_J_bitCount 51 = .ok (.iand, 1) := by decide +kernel
theorem d_J_bitCount_52 : decode b_J_bitCount 52 = .ok (.ireturn, 1) := by decide +kernel
end
section
theorem d_M_init_0 : decode b_M_init 0 = .ok (.aload_n 0, 1) := by decide +kernel
theorem d_M_init_1 : decode b_M_init 1 = .ok (.invokespecial 3, 3) := by decide +kernel
theorem d_M_init_4 : decode b_M_init 4 = .ok (.aload_n 0, 1) := by decide +kernel
theorem d_M_init_5 : decode b_M_init 5 = .ok (.iconst 4, 1) := by decide +kernel
theorem d_M_init_6 : decode b_M_init 6 = .ok (.newarray .int, 2) := by decide +kernel
theorem d_M_init_8 : decode b_M_init 8 = .ok (.putfield 9, 3) := by decide +kernel
theorem d_M_init_11 : decode b_M_init 11 = .ok (.aload_n 0, 1) := by decide +kernel
theorem d_M_init_12 : decode b_M_init 12 = .ok (.iconst 4, 1) := by decide +kernel
theorem d_M_init_13 : decode b_M_init 13 = .ok (.newarray .int, 2) := by decide +kernel
theorem d_M_init_15 : decode b_M_init 15 = .ok (.putfield 15, 3) := by decide +kernel
theorem d_M_init_18 : decode b_M_init 18 = .ok (.aload_n 0, 1) := by decide +kernel
theorem d_M_init_19 : decode b_M_init 19 = .ok (.iconst 4, 1) := by decide +kernel
theorem d_M_init_20 : decode b_M_init 20 = .ok (.newarray .int, 2) := by decide +kernel
theorem d_M_init_22 : decode b_M_init 22 = .ok (.putfield 18, 3) := by decide +kernel
theorem d_M_init_25 : decode b_M_init 25 = .ok (.aload_n 0, 1) := by decide +kernel
theorem d_M_init_26 : decode b_M_init 26 = .ok (.iconst 4, 1) := by decide +kernel
theorem d_M_init_27 : decode b_M_init 27 = .ok (.newarray .int, 2) := by decide +kernel
theorem d_M_init_29 : decode b_M_init 29 = .ok (.putfield 21, 3) := by decide +kernel
theorem d_M_init_32 : decode b_M_init 32 = .ok (.aload_n 0, 1) := by decide +kernel
theorem d_M_init_33 : decode b_M_init 33 = .ok (.bipush 52, 2) := by decide +kernel
theorem d_M_init_35 : decode b_M_init 35 = .ok (.newarray .int, 2) := by decide +kernel
theorem d_M_init_37 : decode b_M_init 37 = .ok (.putfield 24, 3) := by decide +kernel
theorem d_M_init_40 : decode b_M_init 40 = .ok (.return_, 1) := by decide +kernel
theorem d_M_put_0 : decode b_M_put 0 = .ok (.aload_n 0, 1) := by decide +kernel
theorem d_M_put_1 : decode b_M_put 1 = .ok (.iload_n 1, 1) := by decide +kernel
theorem d_M_put_2 : decode b_M_put 2 = .ok (.iload_n 2, 1) := by decide +kernel
theorem d_M_put_3 : decode b_M_put 3 = .ok (.invokevirtual 27, 3) := by decide +kernel
theorem d_M_put_6 : decode b_M_put 6 = .ok (.iconst 1, 1) := by decide +kernel
theorem d_M_put_7 : decode b_M_put 7 = .ok (.iload_n 1, 1) := by decide +kernel
theorem d_M_put_8 : decode b_M_put 8 = .ok (.ishl, 1) := by decide +kernel
theorem d_M_put_9 : decode b_M_put 9 = .ok (.istore 5, 2) := by decide +kernel
theorem d_M_put_11 : decode b_M_put 11 = .ok (.aload_n 0, 1) := by decide +kernel
theorem d_M_put_12 : decode b_M_put 12 = .ok (.getfield 9, 3) := by decide +kernel
theorem d_M_put_15 : decode b_M_put 15 = .ok (.iload_n 2, 1) := by decide +kernel
theorem d_M_put_16 : decode b_M_put 16 = .ok (.dup2, 1) := by decide +kernel
theorem d_M_put_17 : decode b_M_put 17 = .ok (.iaload, 1) := by decide +kernel
theorem d_M_put_18 : decode b_M_put 18 = .ok (.iload 5, 2) := by decide +kernel
theorem d_M_put_20 : decode b_M_put 20 = .ok (.ior, 1) := by decide +kernel
theorem d_M_put_21 : decode b_M_put 21 = .ok (.iastore, 1) := by decide +kernel
theorem d_M_put_22 : decode b_M_put 22 = .ok (.iload 4, 2) := by decide +kernel
theorem d_M_put_24 : decode b_M_put 24 = .ok (.iconst 1, 1) := by decide +kernel
theorem d_M_put_25 : decode b_M_put 25 = .ok (.if_icmp .ne 14, 3) := by decide +kernel
theorem d_M_put_28 : decode b_M_put 28 = .ok (.aload_n 0, 1) := by decide +kernel
theorem d_M_put_29 : decode b_M_put 29 = .ok (.getfield 15, 3) := by decide +kernel
theorem d_M_put_32 : decode b_M_put 32 = .ok (.iload_n 2, 1) := by decide +kernel
theorem d_M_put_33 : decode b_M_put 33 = .ok (.dup2, 1) := by decide +kernel
theorem d_M_put_34 : decode b_M_put 34 = .ok (.iaload, 1) := by decide +kernel
theorem d_M_put_35 : decode b_M_put 35 = .ok (.iload 5, 2) := by decide +kernel
theorem d_M_put_37 : decode b_M_put 37 = .ok (.ior, 1) := by decide +kernel
theorem d_M_put_38 : decode b_M_put 38 = .ok (.iastore, 1) := by decide +kernel
theorem d_M_put_39 : decode b_M_put 39 = .ok (.iload 4, 2) := by decide +kernel
theorem d_M_put_41 : decode b_M_put 41 = .ok (.iconst 2, 1) := by decide +kernel
theorem d_M_put_42 : decode b_M_put 42 = .ok (.if_icmp .ne 14, 3) := by decide +kernel
theorem d_M_put_45 : decode b_M_put 45 = .ok (.aload_n 0, 1) := by decide +kernel
theorem d_M_put_46 : decode b_M_put 46 = .ok (.getfield 18, 3) := by decide +kernel
theorem d_M_put_49 : decode b_M_put 49 = .ok (.iload_n 2, 1) := by decide +kernel
theorem d_M_put_50 : decode b_M_put 50 = .ok (.dup2, 1) := by decide +kernel
theorem d_M_put_51 : decode b_M_put 51 = .ok (.iaload, 1) := by decide +kernel
theorem d_M_put_52 : decode b_M_put 52 = .ok (.iload 5, 2) := by decide +kernel
theorem d_M_put_54 : decode b_M_put 54 = .ok (.ior, 1) := by decide +kernel
theorem d_M_put_55 : decode b_M_put 55 = .ok (.iastore, 1) := by decide +kernel
theorem d_M_put_56 : decode b_M_put 56 = .ok (.iload_n 3, 1) := by decide +kernel
theorem d_M_put_57 : decode b_M_put 57 = .ok (.ifCond .ne 14, 3) := by decide +kernel
theorem d_M_put_60 : decode b_M_put 60 = .ok (.aload_n 0, 1) := by decide +kernel
theorem d_M_put_61 : decode b_M_put 61 = .ok (.getfield 21, 3) := by decide +kernel
theorem d_M_put_64 : decode b_M_put 64 = .ok (.iload_n 2, 1) := by decide +kernel
theorem d_M_put_65 : decode b_M_put 65 = .ok (.dup2, 1) := by decide +kernel
theorem d_M_put_66 : decode b_M_put 66 = .ok (.iaload, 1) := by decide +kernel
theorem d_M_put_67 : decode b_M_put 67 = .ok (.iload 5, 2) := by decide +kernel
theorem d_M_put_69 : decode b_M_put 69 = .ok (.ior, 1) := by decide +kernel
theorem d_M_put_70 : decode b_M_put 70 = .ok (.iastore, 1) := by decide +kernel
theorem d_M_put_71 : decode b_M_put 71 = .ok (.aload_n 0, 1) := by decide +kernel
theorem d_M_put_72 : decode b_M_put 72 = .ok (.getfield 24, 3) := by decide +kernel
theorem d_M_put_75 : decode b_M_put 75 = .ok (.iload_n 1, 1) := by decide +kernel
theorem d_M_put_76 : decode b_M_put 76 = .ok (.iconst 4, 1) := by decide +kernel
theorem d_M_put_77 : decode b_M_put 77 = .ok (.imul, 1) := by decide +kernel
theorem d_M_put_78 : decode b_M_put 78 = .ok (.iload_n 2, 1) := by decide +kernel
theorem d_M_put_79 : decode b_M_put 79 = .ok (.iadd, 1) := by decide +kernel
theorem d_M_put_80 : decode b_M_put 80 = .ok (.iload_n 3, 1) := by decide +kernel
theorem d_M_put_81 : decode b_M_put 81 = .ok (.iastore, 1) := by decide +kernel
theorem d_M_put_82 : decode b_M_put 82 = .ok (.return_, 1) := by decide +kernel
theorem d_M_drop_0 : decode b_M_drop 0 = .ok (.iconst 1, 1) := by decide +kernel
theorem d_M_drop_1 : decode b_M_drop 1 = .ok (.iload_n 1, 1) := by decide +kernel
theorem d_M_drop_2 : decode b_M_drop 2 = .ok (.ishl, 1) := by decide +kernel
theorem d_M_drop_3 : decode b_M_drop 3 = .ok (.iconst (-1), 1) := by decide +kernel
theorem d_M_drop_4 : decode b_M_drop 4 = .ok (.ixor, 1) := by decide +kernel
theorem d_M_drop_5 : decode b_M_drop 5 = .ok (.istore_n 3, 1) := by decide +kernel
theorem d_M_drop_6 : decode b_M_drop 6 = .ok (.aload_n 0, 1) := by decide +kernel
theorem d_M_drop_7 : decode b_M_drop 7 = .ok (.getfield 9, 3) := by decide +kernel
theorem d_M_drop_10 : decode b_M_drop 10 = .ok (.iload_n 2, 1) := by decide +kernel
theorem d_M_drop_11 : decode b_M_drop 11 = .ok (.dup2, 1) := by decide +kernel
theorem d_M_drop_12 : decode b_M_drop 12 = .ok (.iaload, 1) := by decide +kernel
theorem d_M_drop_13 : decode b_M_drop 13 = .ok (.iload_n 3, 1) := by decide +kernel
theorem d_M_drop_14 : decode b_M_drop 14 = .ok (.iand, 1) := by decide +kernel
theorem d_M_drop_15 : decode b_M_drop 15 = .ok (.iastore, 1) := by decide +kernel
theorem d_M_drop_16 : decode b_M_drop 16 = .ok (.aload_n 0, 1) := by decide +kernel
theorem d_M_drop_17 : decode b_M_drop 17 = .ok (.getfield 15, 3) := by decide +kernel
theorem d_M_drop_20 : decode b_M_drop 20 = .ok (.iload_n 2, 1) := by decide +kernel
theorem d_M_drop_21 : decode b_M_drop 21 = .ok (.dup2, 1) := by decide +kernel
theorem d_M_drop_22 : decode b_M_drop 22 = .ok (.iaload, 1) := by decide +kernel
theorem d_M_drop_23 : decode b_M_drop 23 = .ok (.iload_n 3, 1) := by decide +kernel
theorem d_M_drop_24 : decode b_M_drop 24 = .ok (.iand, 1) := by decide +kernel
theorem d_M_drop_25 : decode b_M_drop 25 = .ok (.iastore, 1) := by decide +kernel
theorem d_M_drop_26 : decode b_M_drop 26 = .ok (.aload_n 0, 1) := by decide +kernel
theorem d_M_drop_27 : decode b_M_drop 27 = .ok (.getfield 18, 3) := by decide +kernel
theorem d_M_drop_30 : decode b_M_drop 30 = .ok (.iload_n 2, 1) := by decide +kernel
theorem d_M_drop_31 : decode b_M_drop 31 = .ok (.dup2, 1) := by decide +kernel
theorem d_M_drop_32 : decode b_M_drop 32 = .ok (.iaload, 1) := by decide +kernel
theorem d_M_drop_33 : decode b_M_drop 33 = .ok (.iload_n 3, 1) := by decide +kernel
theorem d_M_drop_34 : decode b_M_drop 34 = .ok (.iand, 1) := by decide +kernel
theorem d_M_drop_35 : decode b_M_drop 35 = .ok (.iastore, 1) := by decide +kernel
theorem d_M_drop_36 : decode b_M_drop 36 = .ok (.aload_n 0, 1) := by decide +kernel
theorem d_M_drop_37 : decode b_M_drop 37 = .ok (.getfield 21, 3) := by decide +kernel
theorem d_M_drop_40 : decode b_M_drop 40 = .ok (.iload_n 2, 1) := by decide +kernel
theorem d_M_drop_41 : decode b_M_drop 41 = .ok (.dup2, 1) := by decide +kernel
theorem d_M_drop_42 : decode b_M_drop 42 = .ok (.iaload, 1) := by decide +kernel
theorem d_M_drop_43 : decode b_M_drop 43 = .ok (.iload_n 3, 1) := by decide +kernel
theorem d_M_drop_44 : decode b_M_drop 44 = .ok (.iand, 1) := by decide +kernel
theorem d_M_drop_45 : decode b_M_drop 45 = .ok (.iastore, 1) := by decide +kernel
theorem d_M_drop_46 : decode b_M_drop 46 = .ok (.return_, 1) := by decide +kernel
theorem d_M_has_0 : decode b_M_has 0 = .ok (.aload_n 0, 1) := by decide +kernel
theorem d_M_has_1 : decode b_M_has 1 = .ok (.getfield 9, 3) := by decide +kernel
theorem d_M_has_4 : decode b_M_has 4 = .ok (.iload_n 2, 1) := by decide +kernel
theorem d_M_has_5 : decode b_M_has 5 = .ok (.iaload, 1) := by decide +kernel
theorem d_M_has_6 : decode b_M_has 6 = .ok (.iload_n 1, 1) := by decide +kernel
theorem d_M_has_7 : decode b_M_has 7 = .ok (.invokestatic 31, 3) := by decide +kernel
theorem d_M_has_10 : decode b_M_has 10 = .ok (.ireturn, 1) := by decide +kernel
theorem d_M_isStatic_0 : decode b_M_isStatic 0 = .ok (.aload_n 0, 1) := by decide +kernel
theorem d_M_isStatic_1 : decode b_M_isStatic 1 = .ok (.getfield 15, 3) := by decide +kernel
theorem d_M_isStatic_4 : decode b_M_isStatic 4 = .ok (.iload_n 2, 1) := by decide +kernel
theorem d_M_isStatic_5 : decode b_M_isStatic 5 = .ok (.iaload, 1) := by decide +kernel
theorem d_M_isStatic_6 : decode b_M_isStatic 6 = .ok (.iload_n 1, 1) := by decide +kernel
theorem d_M_isStatic_7 : decode b_M_isStatic 7 = .ok (.invokestatic 31, 3) := by decide +kernel
theorem d_M_isStatic_10 : decode b_M_isStatic 10 = .ok (.ireturn, 1) := by decide +kernel
theorem d_M_accessOf_0 : decode b_M_accessOf 0 = .ok (.aload_n 0, 1) := by decide +kernel
theorem d_M_accessOf_1 : decode b_M_accessOf 1 = .ok (.getfield 24, 3) := by decide +kernel
theorem d_M_accessOf_4 : decode b_M_accessOf 4 = .ok (.iload_n 1, 1) := by decide +kernel
theorem d_M_accessOf_5 : decode b_M_accessOf 5 = .ok (.iconst 4, 1) := by decide +kernel
theorem d_M_accessOf_6 : decode b_M_accessOf 6 = .ok (.imul, 1) := by decide +kernel
theorem d_M_accessOf_7 : decode b_M_accessOf 7 = .ok (.iload_n 2, 1) := by decide +kernel
theorem d_M_accessOf_8 : decode b_M_accessOf 8 = .ok (.iadd, 1) := by decide +kernel
theorem d_M_accessOf_9 : decode b_M_accessOf 9 = .ok (.iaload, 1) := by decide +kernel
theorem d_M_accessOf_10 : decode b_M_accessOf 10 = .ok (.ireturn, 1) := by decide +kernel
theorem d_M_owners_0 : decode b_M_owners 0 = .ok (.aload_n 0, 1) := by decide +kernel
theorem d_M_owners_1 : decode b_M_owners 1 = .ok (.getfield 9, 3) := by decide +kernel
theorem d_M_owners_4 : decode b_M_owners 4 = .ok (.iload_n 1, 1) := by decide +kernel
theorem d_M_owners_5 : decode b_M_owners 5 = .ok (.iaload, 1) := by decide +kernel
theorem d_M_owners_6 : decode b_M_owners 6 = .ok (.ireturn, 1) := by decide +kernel
theorem d_M_abstracts_0 : decode b_M_abstracts 0 = .ok (.aload_n 0, 1) := by decide +kernel
theorem d_M_abstracts_1 : decode b_M_abstracts 1 = .ok (.getfield 18, 3) := by decide +kernel
theorem d_M_abstracts_4 : decode b_M_abstracts 4 = .ok (.iload_n 1, 1) := by decide +kernel
theorem d_M_abstracts_5 : decode b_M_abstracts 5 = .ok (.iaload, 1) := by decide +kernel
theorem d_M_abstracts_6 : decode b_M_abstracts 6 = .ok (.ireturn, 1) := by decide +kernel
theorem d_M_instances_0 : decode b_M_instances 0 = .ok (.aload_n 0, 1) := by decide +kernel
theorem d_M_instances_1 : decode b_M_instances 1 = .ok (.getfield 9, 3) := by decide +kernel
theorem d_M_instances_4 : decode b_M_instances 4 = .ok (.iload_n 1, 1) := by decide +kernel
theorem d_M_instances_5 : decode b_M_instances 5 = .ok (.iaload, 1) := by decide +kernel
theorem d_M_instances_6 : decode b_M_instances 6 = .ok (.aload_n 0, 1) := by decide +kernel
theorem d_M_instances_7 : decode b_M_instances 7 = .ok (.getfield 15, 3) := by decide +kernel
theorem d_M_instances_10 : decode b_M_instances 10 = .ok (.iload_n 1, 1) := by decide +kernel
theorem d_M_instances_11 : decode b_M_instances 11 = .ok (.iaload, 1) := by decide +kernel
theorem d_M_instances_12 : decode b_M_instances 12 = .ok (.iconst (-1), 1) := by decide +kernel
theorem d_M_instances_13 : decode b_M_instances 13 = .ok (.ixor, 1) := by decide +kernel
theorem d_M_instances_14 : decode b_M_instances 14 = .ok (.iand, 1) := by decide +kernel
theorem d_M_instances_15 : decode b_M_instances 15 = .ok (.ireturn, 1) := by decide +kernel
theorem d_M_inheritable_0 : decode b_M_inheritable 0 = .ok (.aload_n 0, 1) := by decide +kernel
theorem d_M_inheritable_1 : decode b_M_inheritable 1 = .ok (.getfield 9, 3) := by decide +kernel
theorem d_M_inheritable_4 : decode b_M_inheritable 4 = .ok (.iload_n 1, 1) := by decide +kernel
theorem d_M_inheritable_5 : decode b_M_inheritable 5 = .ok (.iaload, 1) := by decide +kernel
theorem d_M_inheritable_6 : decode b_M_inheritable 6 = .ok (.aload_n 0, 1) := by decide +kernel
theorem d_M_inheritable_7 : decode b_M_inheritable 7 = .ok (.getfield 15, 3) := by decide +kernel
theorem d_M_inheritable_10 : decode b_M_inheritable 10 = .ok (.iload_n 1, 1) := by decide +kernel
theorem d_M_inheritable_11 : decode b_M_inheritable 11 = .ok (.iaload, 1) := by decide +kernel
theorem d_M_inheritable_12 : decode b_M_inheritable 12 = .ok (.iconst (-1), 1) := by decide +kernel
theorem d_M_inheritable_13 : decode b_M_inheritable 13 = .ok (.ixor, 1) := by decide +kernel
theorem d_M_inheritable_14 : decode b_M_inheritable 14 = .ok (.iand, 1) := by decide +kernel
theorem d_M_inheritable_15 : decode b_M_inheritable 15 = .ok (.aload_n 0, 1) := by decide +kernel
theorem d_M_inheritable_16 : decode b_M_inheritable 16 = .ok (.getfield 21, 3) := by decide +kernel
theorem d_M_inheritable_19 : decode b_M_inheritable 19 = .ok (.iload_n 1, 1) := by decide +kernel
theorem d_M_inheritable_20 : decode b_M_inheritable 20 = .ok (.iaload, 1) := by decide +kernel
theorem d_M_inheritable_21 : decode b_M_inheritable 21 = .ok (.iconst (-1), 1) := by decide +kernel
theorem d_M_inheritable_22 : decode b_M_inheritable 22 = .ok (.ixor, 1) := by decide +kernel
theorem d_M_inheritable_23 : decode b_M_inheritable 23 = .ok (.iand, 1) := by decide +kernel
theorem d_M_inheritable_24 : decode b_M_inheritable 24 = .ok (.ireturn, 1) := by decide +kernel
end
section
theorem d_O_init_0 : decode b_O_init 0 = .ok (.aload_n 0, 1) := by decide +kernel
theorem d_O_init_1 : decode b_O_init 1 = .ok (.invokespecial 1, 3) := by decide +kernel
theorem d_O_init_4 : decode b_O_init 4 = .ok (.aload_n 0, 1) := by decide +kernel
theorem d_O_init_5 : decode b_O_init 5 = .ok (.new 7, 3) := by decide +kernel
theorem d_O_init_8 : decode b_O_init 8 = .ok (.dup, 1) := by decide +kernel
theorem d_O_init_9 : decode b_O_init 9 = .ok (.invokespecial 9, 3) := by decide +kernel
theorem d_O_init_12 : decode b_O_init 12 = .ok (.putfield 10, 3) := by decide +kernel
theorem d_O_init_15 : decode b_O_init 15 = .ok (.aload_n 0, 1) := by decide +kernel
theorem d_O_init_16 : decode b_O_init 16 = .ok (.new 16, 3) := by decide +kernel
theorem d_O_init_19 : decode b_O_init 19 = .ok (.dup, 1) := by decide +kernel
theorem d_O_init_20 : decode b_O_init 20 = .ok (.invokespecial 18, 3) := by decide +kernel
theorem d_O_init_23 : decode b_O_init 23 = .ok (.putfield 19, 3) := by decide +kernel
theorem d_O_init_26 : decode b_O_init 26 = .ok (.aload_n 0, 1) := by decide +kernel
theorem d_O_init_27 : decode b_O_init 27 = .ok (.new 16, 3) := by decide +kernel
theorem d_O_init_30 : decode b_O_init 30 = .ok (.dup, 1) := by decide +kernel
theorem d_O_init_31 : decode b_O_init 31 = .ok (.invokespecial 18, 3) := by decide +kernel
theorem d_O_init_34 : decode b_O_init 34 = .ok (.putfield 23, 3) := by decide +kernel
theorem d_O_init_37 : decode b_O_init 37 = .ok (.aload_n 0, 1) := by decide +kernel
theorem d_O_init_38 : decode b_O_init 38 = .ok (.iconst 0, 1) := by decide +kernel
theorem d_O_init_39 : decode b_O_init 39 = .ok (.putfield 26, 3) := by decide +kernel
theorem d_O_init_42 : decode b_O_init 42 = .ok (.return_, 1) := by decide +kernel
theorem d_O_tellClass_0 : decode b_O_tellClass 0 = .ok (.iload_n 2, 1) := by decide +kernel
theorem d_O_tellClass_1 : decode b_O_tellClass 1 = .ok (.invokestatic 30, 3) := by decide +kernel
theorem d_O_tellClass_4 : decode b_O_tellClass 4 = .ok (.ifCond .ne 5, 3) := by decide +kernel
theorem d_O_tellClass_7 : decode b_O_tellClass 7 = .ok (.iconst (-1), 1) := by decide +kernel
theorem d_O_tellClass_8 : decode b_O_tellClass 8 = .ok (.ireturn, 1) := by decide +kernel
theorem d_O_tellClass_9 : decode b_O_tellClass 9 = .ok (.iload_n 1, 1) := by decide +kernel
theorem d_O_tellClass_10 : decode b_O_tellClass 10 = .ok (.ifCond .eq 16, 3) := by decide +kernel
theorem d_O_tellClass_13 : decode b_O_tellClass 13 = .ok (.aload_n 0, 1) := by decide +kernel
theorem d_O_tellClass_14 : decode b_O_tellClass 14 = .ok (.getfield 10, 3) := by decide +kernel
theorem d_O_tellClass_17 : decode b_O_tellClass 17 = .ok (.iload_n 1, 1) := by decide +kernel
theorem d_O_tellClass_18 : decode b_O_tellClass 18 = .ok (.invokevirtual 34, 3) := by decide +kernel
theorem d_O_tellClass_21 : decode b_O_tellClass 21 = .ok (.ifCond .ne 5, 3) := by decide +kernel
theorem d_O_tellClass_24 : decode b_O_tellClass 24 = .ok (.iconst (-1), 1) := by decide +kernel
theorem d_O_tellClass_25 : decode b_O_tellClass 25 = .ok (.ireturn, 1) := by decide +kernel
theorem d_O_tellClass_26 : decode b_O_tellClass 26 = .ok (.aload_n 0, 1) := by decide +kernel
theorem d_O_tellClass_27 : decode b_O_tellClass 27 = .ok (.getfield 10, 3) := by decide +kernel
theorem d_O_tellClass_30 : decode b_O_tellClass 30 = .ok (.invokevirtual 37, 3) := by decide +kernel
theorem d_O_tellClass_33 : decode b_O_tellClass 33 = .ok (.ifCond .eq 6, 3) := by decide +kernel
theorem d_O_tellClass_36 : decode b_O_tellClass 36 = .ok (.bipush (-2), 2) := by decide +kernel
theorem d_O_tellClass_38 : decode b_O_tellClass 38 = .ok (.ireturn, 1) := by decide +kernel
theorem d_O_tellClass_39 : decode b_O_tellClass 39 = .ok (.aload_n 0, 1) := by decide +kernel
theorem d_O_tellClass_40 : decode b_O_tellClass 40 = .ok (.getfield 10, 3) := by decide +kernel
theorem d_O_tellClass_43 : decode b_O_tellClass 43 = .ok (.iload_n 1, 1) := by decide +kernel
theorem d_O_tellClass_44 : decode b_O_tellClass 44 = .ok (.iload_n 2, 1) := by decide +kernel
theorem d_O_tellClass_45 : decode b_O_tellClass 45 = .ok (.iload_n 3, 1) := by decide +kernel
theorem d_O_tellClass_46 : decode b_O_tellClass 46 = .ok (.iload 4, 2) := by decide +kernel
theorem d_O_tellClass_48 : decode b_O_tellClass 48 = .ok (.invokevirtual 41, 3) := by decide +kernel
theorem d_O_tellClass_51 : decode b_O_tellClass 51 = .ok (.ireturn, 1) := by decide +kernel
theorem d_O_tellInterface_0 : decode b_O_tellInterface 0 = .ok (.iload_n 1, 1) := by decide +kernel
theorem d_O_tellInterface_1 : decode b_O_tellInterface 1 = .ok (.invokestatic 30, 3) := by decide +kernel
theorem d_O_tellInterface_4 : decode b_O_tellInterface 4 = .ok (.ifCond .ne 5, 3) := by decide +kernel
theorem d_O_tellInterface_7 : decode b_O_tellInterface 7 = .ok (.iconst (-1), 1) := by decide +kernel
theorem d_O_tellInterface_8 : decode b_O_tellInterface 8 = .ok (.ireturn, 1) := by decide +kernel
theorem d_O_tellInterface_9 : decode b_O_tellInterface 9 = .ok (.aload_n 0, 1) := by decide +kernel
theorem d_O_tellInterface_10 : decode b_O_tellInterface 10 = .ok (.getfield 10, 3) := by decide +kernel
theorem d_O_tellInterface_13 : decode b_O_tellInterface 13 = .ok (.invokevirtual 37, 3) := by decide +kernel
theorem d_O_tellInterface_16 : decode b_O_tellInterface 16 = .ok (.ifCond .eq 6, 3) := by decide +kernel
theorem d_O_tellInterface_19 : decode b_O_tellInterface 19 = .ok (.bipush (-2), 2) := by decide +kernel
theorem d_O_tellInterface_21 : decode b_O_tellInterface 21 = .ok (.ireturn, 1) := by decide +kernel
theorem d_O_tellInterface_22 : decode b_O_tellInterface 22 = .ok (.aload_n 0, 1) := by decide +kernel
theorem d_O_tellInterface_23 : decode b_O_tellInterface 23 = .ok (.getfield 10, 3) := by decide +kernel
theorem d_O_tellInterface_26 : decode b_O_tellInterface 26 = .ok (.iload_n 1, 1) := by decide +kernel
theorem d_O_tellInterface_27 : decode b_O_tellInterface 27 = .ok (.iload_n 2, 1) := by decide +kernel
theorem d_O_tellInterface_28 : decode b_O_tellInterface 28 = .ok (.invokevirtual 45, 3) := by decide +kernel
theorem d_O_tellInterface_31 : decode b_O_tellInterface 31 = .ok (.ireturn, 1) := by decide +kernel
theorem d_O_implement_0 : decode b_O_implement 0 = .ok (.aload_n 0, 1) := by decide +kernel
theorem d_O_implement_1 : decode b_O_implement 1 = .ok (.getfield 10, 3) := by decide +kernel
theorem d_O_implement_4 : decode b_O_implement 4 = .ok (.iload_n 1, 1) := by decide +kernel
theorem d_O_implement_5 : decode b_O_implement 5 = .ok (.invokevirtual 49, 3) := by decide +kernel
theorem d_O_implement_8 : decode b_O_implement 8 = .ok (.ifCond .eq 19, 3) := by decide +kernel
theorem d_O_implement_11 : decode b_O_implement 11 = .ok (.aload_n 0, 1) := by decide +kernel
theorem d_O_implement_12 : decode b_O_implement 12 = .ok (.getfield 10, 3) := by decide +kernel
theorem d_O_implement_15 : decode b_O_implement 15 = .ok (.iload_n 2, 1) := by decide +kernel
theorem d_O_implement_16 : decode b_O_implement 16 = .ok (.invokevirtual 52, 3) := by decide +kernel
theorem d_O_implement_19 : decode b_O_implement 19 = .ok (.ifCond .eq 8, 3) := by decide +kernel
theorem d_O_implement_22 : decode b_O_implement 22 = .ok (.iload_n 2, 1) := by decide +kernel
theorem d_O_implement_23 : decode b_O_implement 23 = .ok (.iload_n 1, 1) := by decide +kernel
theorem d_O_implement_24 : decode b_O_implement 24 = .ok (.if_icmp .lt 5, 3) := by decide +kernel
theorem d_O_implement_27 : decode b_O_implement 27 = .ok (.iconst (-1), 1) := by decide +kernel
theorem d_O_implement_28 : decode b_O_implement 28 = .ok (.ireturn, 1) := by decide +kernel
theorem d_O_implement_29 : decode b_O_implement 29 = .ok (.aload_n 0, 1) := by decide +kernel
theorem d_O_implement_30 : decode b_O_implement 30 = .ok (.getfield 10, 3) := by decide +kernel
theorem d_O_implement_33 : decode b_O_implement 33 = .ok (.iload_n 1, 1) := by decide +kernel
theorem d_O_implement_34 : decode b_O_implement 34 = .ok (.iload_n 2, 1) := by decide +kernel
theorem d_O_implement_35 : decode b_O_implement 35 = .ok (.invokevirtual 55, 3) := by decide +kernel
theorem d_O_implement_38 : decode b_O_implement 38 = .ok (.ifCond .eq 5, 3) := by decide +kernel
theorem d_O_implement_41 : decode b_O_implement 41 = .ok (.iconst (-1), 1) := by decide +kernel
theorem d_O_implement_42 : decode b_O_implement 42 = .ok (.ireturn, 1) := by decide +kernel
theorem d_O_implement_43 : decode b_O_implement 43 = .ok (.aload_n 0, 1) := by decide +kernel
theorem d_O_implement_44 : decode b_O_implement 44 = .ok (.getfield 10, 3) := by decide +kernel
theorem d_O_implement_47 : decode b_O_implement 47 = .ok (.iload_n 1, 1) := by decide +kernel
theorem d_O_implement_48 : decode b_O_implement 48 = .ok (.invokevirtual 59, 3) := by decide +kernel
theorem d_O_implement_51 : decode b_O_implement 51 = .ok (.iconst 4, 1) := by decide +kernel
theorem d_O_implement_52 : decode b_O_implement 52 = .ok (.if_icmp .lt 6, 3) := by decide +kernel
theorem d_O_implement_55 : decode b_O_implement 55 = .ok (.bipush (-2), 2) := by decide +kernel
theorem d_O_implement_57 : decode b_O_implement 57 = .ok (.ireturn, 1) := by decide +kernel
theorem d_O_implement_58 : decode b_O_implement 58 = .ok (.aload_n 0, 1) := by decide +kernel
theorem d_O_implement_59 : decode b_O_implement 59 = .ok (.getfield 10, 3) := by decide +kernel
theorem d_O_implement_62 : decode b_O_implement 62 = .ok (.iload_n 1, 1) := by decide +kernel
theorem d_O_implement_63 : decode b_O_implement 63 = .ok (.iload_n 2, 1) := by decide +kernel
theorem d_O_implement_64 : decode b_O_implement 64 = .ok (.invokevirtual 63, 3) := by decide +kernel
theorem d_O_implement_67 : decode b_O_implement 67 = .ok (.ireturn, 1) := by decide +kernel
theorem d_O_nest_0 : decode b_O_nest 0 = .ok (.aload_n 0, 1) := by decide +kernel
theorem d_O_nest_1 : decode b_O_nest 1 = .ok (.getfield 10, 3) := by decide +kernel
theorem d_O_nest_4 : decode b_O_nest 4 = .ok (.iload_n 1, 1) := by decide +kernel
theorem d_O_nest_5 : decode b_O_nest 5 = .ok (.invokevirtual 49, 3) := by decide +kernel
theorem d_O_nest_8 : decode b_O_nest 8 = .ok (.ifCond .eq 19, 3) := by decide +kernel
theorem d_O_nest_11 : decode b_O_nest 11 = .ok (.aload_n 0, 1) := by decide +kernel
theorem d_O_nest_12 : decode b_O_nest 12 = .ok (.getfield 10, 3) := by decide +kernel
theorem d_O_nest_15 : decode b_O_nest 15 = .ok (.iload_n 2, 1) := by decide +kernel
theorem d_O_nest_16 : decode b_O_nest 16 = .ok (.invokevirtual 49, 3) := by decide +kernel
theorem d_O_nest_19 : decode b_O_nest 19 = .ok (.ifCond .eq 8, 3) := by decide +kernel
theorem d_O_nest_22 : decode b_O_nest 22 = .ok (.iload_n 2, 1) := by decide +kernel
theorem d_O_nest_23 : decode b_O_nest 23 = .ok (.iload_n 1, 1) := by decide +kernel
theorem d_O_nest_24 : decode b_O_nest 24 = .ok (.if_icmp .le 5, 3) := by decide +kernel
theorem d_O_nest_27 : decode b_O_nest 27 = .ok (.iconst (-1), 1) := by decide +kernel
theorem d_O_nest_28 : decode b_O_nest 28 = .ok (.ireturn, 1) := by decide +kernel
theorem d_O_nest_29 : decode b_O_nest 29 = .ok (.aload_n 0, 1) := by decide +kernel
theorem d_O_nest_30 : decode b_O_nest 30 = .ok (.getfield 10, 3) := by decide +kernel
theorem d_O_nest_33 : decode b_O_nest 33 = .ok (.iload_n 1, 1) := by decide +kernel
theorem d_O_nest_34 : decode b_O_nest 34 = .ok (.iload_n 2, 1) := by decide +kernel
theorem d_O_nest_35 : decode b_O_nest 35 = .ok (.invokevirtual 67, 3) := by decide +kernel
theorem d_O_nest_38 : decode b_O_nest 38 = .ok (.ifCond .eq 26, 3) := by decide +kernel
theorem d_O_nest_41 : decode b_O_nest 41 = .ok (.aload_n 0, 1) := by decide +kernel
theorem d_O_nest_42 : decode b_O_nest 42 = .ok (.getfield 10, 3) := by decide +kernel
theorem d_O_nest_45 : decode b_O_nest 45 = .ok (.iload_n 2, 1) := by decide +kernel
theorem d_O_nest_46 : decode b_O_nest 46 = .ok (.invokevirtual 70, 3) := by decide +kernel
theorem d_O_nest_49 : decode b_O_nest 49 = .ok (.iload_n 2, 1) := by decide +kernel
theorem d_O_nest_50 : decode b_O_nest 50 = .ok (.if_icmp .ne 14, 3) := by decide +kernel
theorem d_O_nest_53 : decode b_O_nest 53 = .ok (.aload_n 0, 1) := by decide +kernel
theorem d_O_nest_54 : decode b_O_nest 54 = .ok (.getfield 10, 3) := by decide +kernel
theorem d_O_nest_57 : decode b_O_nest 57 = .ok (.iload_n 1, 1) := by decide +kernel
theorem d_O_nest_58 : decode b_O_nest 58 = .ok (.invokevirtual 73, 3) := by decide +kernel
theorem d_O_nest_61 : decode b_O_nest 61 = .ok (.ifCond .eq 5, 3) := by decide +kernel
theorem d_O_nest_64 : decode b_O_nest 64 = .ok (.iconst (-1), 1) := by decide +kernel
theorem d_O_nest_65 : decode b_O_nest 65 = .ok (.ireturn, 1) := by decide +kernel
theorem d_O_nest_66 : decode b_O_nest 66 = .ok (.aload_n 0, 1) := by decide +kernel
theorem d_O_nest_67 : decode b_O_nest 67 = .ok (.getfield 10, 3) := by decide +kernel
theorem d_O_nest_70 : decode b_O_nest 70 = .ok (.iload_n 1, 1) := by decide +kernel
theorem d_O_nest_71 : decode b_O_nest 71 = .ok (.iload_n 2, 1) := by decide +kernel
theorem d_O_nest_72 : decode b_O_nest 72 = .ok (.invokevirtual 76, 3) := by decide +kernel
theorem d_O_nest_75 : decode b_O_nest 75 = .ok (.iconst 0, 1) := by decide +kernel
theorem d_O_nest_76 : decode b_O_nest 76 = .ok (.ireturn, 1) := by decide +kernel
theorem d_O_field_0 : decode b_O_field 0 = .ok (.aload_n 0, 1) := by decide +kernel
theorem d_O_field_1 : decode b_O_field 1 = .ok (.getfield 10, 3) := by decide +kernel
theorem d_O_field_4 : decode b_O_field 4 = .ok (.iload_n 1, 1) := by decide +kernel
theorem d_O_field_5 : decode b_O_field 5 = .ok (.invokevirtual 49, 3) := by decide +kernel
theorem d_O_field_8 : decode b_O_field 8 = .ok (.ifCond .eq 17, 3) := by decide +kernel
theorem d_O_field_11 : decode b_O_field 11 = .ok (.iload_n 2, 1) := by decide +kernel
theorem d_O_field_12 : decode b_O_field 12 = .ok (.invokestatic 80, 3) := by decide +kernel
theorem d_O_field_15 : decode b_O_field 15 = .ok (.ifCond .eq 10, 3) := by decide +kernel
theorem d_O_field_18 : decode b_O_field 18 = .ok (.iload_n 3, 1) := by decide +kernel
theorem d_O_field_19 : decode b_O_field 19 = .ok (.invokestatic 83, 3) := by decide +kernel
theorem d_O_field_22 : decode b_O_field 22 = .ok (.ifCond .ne 5, 3) := by decide +kernel
theorem d_O_field_25 : decode b_O_field 25 = .ok (.iconst (-1), 1) := by decide +kernel
theorem d_O_field_26 : decode b_O_field 26 = .ok (.ireturn, 1) := by decide +kernel
theorem d_O_field_27 : decode b_O_field 27 = .ok (.aload_n 0, 1) := by decide +kernel
theorem d_O_field_28 : decode b_O_field 28 = .ok (.getfield 10, 3) := by decide +kernel
theorem d_O_field_31 : decode b_O_field 31 = .ok (.iload_n 1, 1) := by decide +kernel
theorem d_O_field_32 : decode b_O_field 32 = .ok (.invokevirtual 52, 3) := by decide +kernel
theorem d_O_field_35 : decode b_O_field 35 = .ok (.ifCond .eq 15, 3) := by decide +kernel
theorem d_O_field_38 : decode b_O_field 38 = .ok (.iload_n 3, 1) := by decide +kernel
theorem d_O_field_39 : decode b_O_field 39 = .ok (.iconst 3, 1) := by decide +kernel
theorem d_O_field_40 : decode b_O_field 40 = .ok (.if_icmp .ne 8, 3) := by decide +kernel
theorem d_O_field_43 : decode b_O_field 43 = .ok (.iload 4, 2) := by decide +kernel
theorem d_O_field_45 : decode b_O_field 45 = .ok (.ifCond .ne 5, 3) := by decide +kernel
theorem d_O_field_48 : decode b_O_field 48 = .ok (.iconst (-1), 1) := by decide +kernel
theorem d_O_field_49 : decode b_O_field 49 = .ok (.ireturn, 1) := by decide +kernel
theorem d_O_field_50 : decode b_O_field 50 = .ok (.aload_n 0, 1) := by decide +kernel
theorem d_O_field_51 : decode b_O_field 51 = .ok (.getfield 19, 3) := by decide +kernel
theorem d_O_field_54 : decode b_O_field 54 = .ok (.iload_n 1, 1) := by decide +kernel
theorem d_O_field_55 : decode b_O_field 55 = .ok (.iload_n 2, 1) := by decide +kernel
theorem d_O_field_56 : decode b_O_field 56 = .ok (.iload_n 3, 1) := by decide +kernel
theorem d_O_field_57 : decode b_O_field 57 = .ok (.iload 4, 2) := by decide +kernel
theorem d_O_field_59 : decode b_O_field 59 = .ok (.ifCond .eq 7, 3) := by decide +kernel
theorem d_O_field_62 : decode b_O_field 62 = .ok (.iconst 1, 1) := by decide +kernel
theorem d_O_field_63 : decode b_O_field 63 = .ok (.goto 4, 3) := by decide +kernel
theorem d_O_field_66 : decode b_O_field 66 = .ok (.iconst 0, 1) := by decide +kernel
theorem d_O_field_67 : decode b_O_field 67 = .ok (.invokevirtual 86, 3) := by decide +kernel
theorem d_O_field_70 : decode b_O_field 70 = .ok (.iconst 0, 1) := by decide +kernel
theorem d_O_field_71 : decode b_O_field 71 = .ok (.ireturn, 1) := by decide +kernel
theorem d_O_method_0 : decode b_O_method 0 = .ok (.aload_n 0, 1) := by decide +kernel
theorem d_O_method_1 : decode b_O_method 1 = .ok (.getfield 10, 3) := by decide +kernel
theorem d_O_method_4 : decode b_O_method 4 = .ok (.iload_n 1, 1) := by decide +kernel
theorem d_O_method_5 : decode b_O_method 5 = .ok (.invokevirtual 49, 3) := by decide +kernel
theorem d_O_method_8 : decode b_O_method 8 = .ok (.ifCond .eq 25, 3) := by decide +kernel
theorem d_O_method_11 : decode b_O_method 11 = .ok (.iload_n 2, 1) := by decide +kernel
theorem d_O_method_12 : decode b_O_method 12 = .ok (.invokestatic 80, 3) := by decide +kernel
theorem d_O_method_15 : decode b_O_method 15 = .ok (.ifCond .eq 18, 3) := by decide +kernel
theorem d_O_method_18 : decode b_O_method 18 = .ok (.iload_n 3, 1) := by decide +kernel
theorem d_O_method_19 : decode b_O_method 19 = .ok (.invokestatic 83, 3) := by decide +kernel
theorem d_O_method_22 : decode b_O_method 22 = .ok (.ifCond .eq 11, 3) := by decide +kernel
theorem d_O_method_25 : decode b_O_method 25 = .ok (.iload 4, 2) := by decide +kernel
theorem d_O_method_27 : decode b_O_method 27 = .ok (.invokestatic 90, 3) := by decide +kernel
theorem d_O_method_30 : decode b_O_method 30 = .ok (.ifCond .ne 5, 3) := by decide +kernel
theorem d_O_method_33 : decode b_O_method 33 = .ok (.iconst (-1), 1) := by decide +kernel
theorem d_O_method_34 : decode b_O_method 34 = .ok (.ireturn, 1) := by decide +kernel
theorem d_O_method_35 : decode b_O_method 35 = .ok (.aload_n 0, 1) := by decide +kernel
theorem d_O_method_36 : decode b_O_method 36 = .ok (.getfield 10, 3) := by decide +kernel
theorem d_O_method_39 : decode b_O_method 39 = .ok (.iload_n 1, 1) := by decide +kernel
theorem d_O_method_40 : decode b_O_method 40 = .ok (.invokevirtual 52, 3) := by decide +kernel
theorem d_O_method_43 : decode b_O_method 43 = .ok (.ifCond .eq 14, 3) := by decide +kernel
theorem d_O_method_46 : decode b_O_method 46 = .ok (.iload_n 3, 1) := by decide +kernel
theorem d_O_method_47 : decode b_O_method 47 = .ok (.iconst 3, 1) := by decide +kernel
theorem d_O_method_48 : decode b_O_method 48 = .ok (.if_icmp .eq 9, 3) := by decide +kernel
theorem d_O_method_51 : decode b_O_method 51 = .ok (.iload_n 3, 1) := by decide +kernel
theorem d_O_method_52 : decode b_O_method 52 = .ok (.ifCond .eq 5, 3) := by decide +kernel
theorem d_O_method_55 : decode b_O_method 55 = .ok (.iconst (-1), 1) := by decide +kernel
theorem d_O_method_56 : decode b_O_method 56 = .ok (.ireturn, 1) := by decide +kernel
theorem d_O_method_57 : decode b_O_method 57 = .ok (.iload 4, 2) := by decide +kernel
theorem d_O_method_59 : decode b_O_method 59 = .ok (.iconst 2, 1) := by decide +kernel
theorem d_O_method_60 : decode b_O_method 60 = .ok (.if_icmp .ne 9, 3) := by decide +kernel
theorem d_O_method_63 : decode b_O_method 63 = .ok (.iload_n 3, 1) := by decide +kernel
theorem d_O_method_64 : decode b_O_method 64 = .ok (.ifCond .ne 5, 3) := by decide +kernel
theorem d_O_method_67 : decode b_O_method 67 = .ok (.iconst (-1), 1) := by decide +kernel
theorem d_O_method_68 : decode b_O_method 68 = .ok (.ireturn, 1) := by decide +kernel
theorem d_O_method_69 : decode b_O_method 69 = .ok (.aload_n 0, 1) := by decide +kernel
theorem d_O_method_70 : decode b_O_method 70 = .ok (.getfield 23, 3) := by decide +kernel
theorem d_O_method_73 : decode b_O_method 73 = .ok (.iload_n 1, 1) := by decide +kernel
theorem d_O_method_74 : decode b_O_method 74 = .ok (.iload_n 2, 1) := by decide +kernel
theorem d_O_method_75 : decode b_O_method 75 = .ok (.iload_n 3, 1) := by decide +kernel
theorem d_O_method_76 : decode b_O_method 76 = .ok (.iload 4, 2) := by decide +kernel
theorem d_O_method_78 : decode b_O_method 78 = .ok (.invokevirtual 86, 3) := by decide +kernel
theorem d_O_method_81 : decode b_O_method 81 = .ok (.iconst 0, 1) := by decide +kernel
theorem d_O_method_82 : decode b_O_method 82 = .ok (.ireturn, 1) := by decide +kernel
theorem d_O_untell_0 : decode b_O_untell 0 = .ok (.aload_n 0, 1) := by decide +kernel
theorem d_O_untell_1 : decode b_O_untell 1 = .ok (.getfield 10, 3) := by decide +kernel
theorem d_O_untell_4 : decode b_O_untell 4 = .ok (.iload_n 1, 1) := by decide +kernel
theorem d_O_untell_5 : decode b_O_untell 5 = .ok (.invokevirtual 49, 3) := by decide +kernel
theorem d_O_untell_8 : decode b_O_untell 8 = .ok (.ifCond .eq 10, 3) := by decide +kernel
theorem d_O_untell_11 : decode b_O_untell 11 = .ok (.iload_n 3, 1) := by decide +kernel
theorem d_O_untell_12 : decode b_O_untell 12 = .ok (.invokestatic 80, 3) := by decide +kernel
theorem d_O_untell_15 : decode b_O_untell 15 = .ok (.ifCond .ne 5, 3) := by decide +kernel
theorem d_O_untell_18 : decode b_O_untell 18 = .ok (.iconst (-1), 1) := by decide +kernel
theorem d_O_untell_19 : decode b_O_untell 19 = .ok (.ireturn, 1) := by decide +kernel
theorem d_O_untell_20 : decode b_O_untell 20 = .ok (.iload_n 2, 1) := by decide +kernel
theorem d_O_untell_21 : decode b_O_untell 21 = .ok (.ifCond .eq 10, 3) := by decide +kernel
theorem d_O_untell_24 : decode b_O_untell 24 = .ok (.iload_n 2, 1) := by decide +kernel
theorem d_O_untell_25 : decode b_O_untell 25 = .ok (.iconst 1, 1) := by decide +kernel
theorem d_O_untell_26 : decode b_O_untell 26 = .ok (.if_icmp .eq 5, 3) := by decide +kernel
theorem d_O_untell_29 : decode b_O_untell 29 = .ok (.iconst (-1), 1) := by decide +kernel
theorem d_O_untell_30 : decode b_O_untell 30 = .ok (.ireturn, 1) := by decide +kernel
theorem d_O_untell_31 : decode b_O_untell 31 = .ok (.iload_n 2, 1) := by decide +kernel
theorem d_O_untell_32 : decode b_O_untell 32 = .ok (.ifCond .ne 10, 3) := by decide +kernel
theorem d_O_untell_35 : decode b_O_untell 35 = .ok (.aload_n 0, 1) := by decide +kernel
theorem d_O_untell_36 : decode b_O_untell 36 = .ok (.getfield 19, 3) := by decide +kernel
theorem d_O_untell_39 : decode b_O_untell 39 = .ok (.goto 7, 3) := by decide +kernel
theorem d_O_untell_42 : decode b_O_untell 42 = .ok (.aload_n 0, 1) := by decide +kernel
theorem d_O_untell_43 : decode b_O_untell 43 = .ok (.getfield 23, 3) := by decide +kernel
theorem d_O_untell_46 : decode b_O_untell 46 = .ok (.astore 4, 2) := by decide +kernel
theorem d_O_untell_48 : decode b_O_untell 48 = .ok (.aload 4, 2) := by decide +kernel
theorem d_O_untell_50 : decode b_O_untell 50 = .ok (.iload_n 1, 1) := by decide +kernel
theorem d_O_untell_51 : decode b_O_untell 51 = .ok (.iload_n 3, 1) := by decide +kernel
theorem d_O_untell_52 : decode b_O_untell 52 = .ok (.invokevirtual 93, 3) := by decide +kernel
theorem d_O_untell_55 : decode b_O_untell 55 = .ok (.ifCond .ne 5, 3) := by decide +kernel
theorem d_O_untell_58 : decode b_O_untell 58 = .ok (.iconst (-1), 1) := by decide +kernel
theorem d_O_untell_59 : decode b_O_untell 59 = .ok (.ireturn, 1) := by decide +kernel
theorem d_O_untell_60 : decode b_O_untell 60 = .ok (.aload 4, 2) := by decide +kernel
theorem d_O_untell_62 : decode b_O_untell 62 = .ok (.iload_n 1, 1) := by decide +kernel
theorem d_O_untell_63 : decode b_O_untell 63 = .ok (.iload_n 3, 1) := by decide +kernel
theorem d_O_untell_64 : decode b_O_untell 64 = .ok (.invokevirtual 95, 3) := by decide +kernel
theorem d_O_untell_67 : decode b_O_untell 67 = .ok (.iconst 0, 1) := by decide +kernel
theorem d_O_untell_68 : decode b_O_untell 68 = .ok (.ireturn, 1) := by decide +kernel
theorem d_O_resolve_0 : decode b_O_resolve 0 = .ok (.aload_n 0, 1) := by decide +kernel
theorem d_O_resolve_1 : decode b_O_resolve 1 = .ok (.getfield 10, 3) := by decide +kernel
theorem d_O_resolve_4 : decode b_O_resolve 4 = .ok (.iload_n 2, 1) := by decide +kernel
theorem d_O_resolve_5 : decode b_O_resolve 5 = .ok (.invokevirtual 49, 3) := by decide +kernel
theorem d_O_resolve_8 : decode b_O_resolve 8 = .ok (.ifCond .eq 22, 3) := by decide +kernel
theorem d_O_resolve_11 : decode b_O_resolve 11 = .ok (.aload_n 0, 1) := by decide +kernel
theorem d_O_resolve_12 : decode b_O_resolve 12 = .ok (.getfield 10, 3) := by decide +kernel
theorem d_O_resolve_15 : decode b_O_resolve 15 = .ok (.iload_n 3, 1) := by decide +kernel
theorem d_O_resolve_16 : decode b_O_resolve 16 = .ok (.invokevirtual 49, 3) := by decide +kernel
theorem d_O_resolve_19 : decode b_O_resolve 19 = .ok (.ifCond .eq 11, 3) := by decide +kernel
theorem d_O_resolve_22 : decode b_O_resolve 22 = .ok (.iload 4, 2) := by decide +kernel
theorem d_O_resolve_24 : decode b_O_resolve 24 = .ok (.invokestatic 80, 3) := by decide +kernel
theorem d_O_resolve_27 : decode b_O_resolve 27 = .ok (.ifCond .ne 5, 3) := by decide +kernel
theorem d_O_resolve_30 : decode b_O_resolve 30 = .ok (.iconst (-1), 1) := by decide +kernel
theorem d_O_resolve_31 : decode b_O_resolve 31 = .ok (.ireturn, 1) := by decide +kernel
theorem d_O_resolve_32 : decode b_O_resolve 32 = .ok (.iload_n 1, 1) := by decide +kernel
theorem d_O_resolve_33 : decode b_O_resolve 33 = .ok (.tableswitch 85 0 2 #[27, 65, 75], 27) := by decide +kernel
theorem d_O_resolve_60 : decode b_O_resolve 60 = .ok (.aload_n 0, 1) := by decide +kernel
theorem d_O_resolve_61 : decode b_O_resolve 61 = .ok (.iload_n 2, 1) := by decide +kernel
theorem d_O_resolve_62 : decode b_O_resolve 62 = .ok (.iload_n 3, 1) := by decide +kernel
theorem d_O_resolve_63 : decode b_O_resolve 63 = .ok (.iload 4, 2) := by decide +kernel
theorem d_O_resolve_65 : decode b_O_resolve 65 = .ok (.invokevirtual 98, 3) := by decide +kernel
theorem d_O_resolve_68 : decode b_O_resolve 68 = .ok (.istore 5, 2) := by decide +kernel
theorem d_O_resolve_70 : decode b_O_resolve 70 = .ok (.aload_n 0, 1) := by decide +kernel
theorem d_O_resolve_71 : decode b_O_resolve 71 = .ok (.iload 5, 2) := by decide +kernel
theorem d_O_resolve_73 : decode b_O_resolve 73 = .ok (.ifCond .le 7, 3) := by decide +kernel
theorem d_O_resolve_76 : decode b_O_resolve 76 = .ok (.iconst 1, 1) := by decide +kernel
theorem d_O_resolve_77 : decode b_O_resolve 77 = .ok (.goto 4, 3) := by decide +kernel
theorem d_O_resolve_80 : decode b_O_resolve 80 = .ok (.iconst 0, 1) := by decide +kernel
theorem d_O_resolve_81 : decode b_O_resolve 81 = .ok (.putfield 26, 3) := by decide +kernel
theorem d_O_resolve_84 : decode b_O_resolve 84 = .ok (.aload_n 0, 1) := by decide +kernel
theorem d_O_resolve_85 : decode b_O_resolve 85 = .ok (.aload_n 0, 1) := by decide +kernel
theorem d_O_resolve_86 : decode b_O_resolve 86 = .ok (.getfield 19, 3) := by decide +kernel
theorem d_O_resolve_89 : decode b_O_resolve 89 = .ok (.iload 5, 2) := by decide +kernel
theorem d_O_resolve_91 : decode b_O_resolve 91 = .ok (.iload 4, 2) := by decide +kernel
theorem d_O_resolve_93 : decode b_O_resolve 93 = .ok (.iload_n 2, 1) := by decide +kernel
theorem d_O_resolve_94 : decode b_O_resolve 94 = .ok (.invokevirtual 102, 3) := by decide +kernel
theorem d_O_resolve_97 : decode b_O_resolve 97 = .ok (.ireturn, 1) := by decide +kernel
theorem d_O_resolve_98 : decode b_O_resolve 98 = .ok (.aload_n 0, 1) := by decide +kernel
theorem d_O_resolve_99 : decode b_O_resolve 99 = .ok (.iconst 0, 1) := by decide +kernel
theorem d_O_resolve_100 : decode b_O_resolve 100 = .ok (.iload_n 2, 1) := by decide +kernel
theorem d_O_resolve_101 : decode b_O_resolve 101 = .ok (.iload_n 3, 1) := by decide +kernel
theorem d_O_resolve_102 : decode b_O_resolve 102 = .ok (.iload 4, 2) := by decide +kernel
theorem d_O_resolve_104 : decode b_O_resolve 104 = .ok (.invokevirtual 106, 3) := by decide +kernel
theorem d_O_resolve_107 : decode b_O_resolve 107 = .ok (.ireturn, 1) := by decide +kernel
theorem d_O_resolve_108 : decode b_O_resolve 108 = .ok (.aload_n 0, 1) := by decide +kernel
theorem d_O_resolve_109 : decode b_O_resolve 109 = .ok (.iconst 1, 1) := by decide +kernel
theorem d_O_resolve_110 : decode b_O_resolve 110 = .ok (.iload_n 2, 1) := by decide +kernel
theorem d_O_resolve_111 : decode b_O_resolve 111 = .ok (.iload_n 3, 1) := by decide +kernel
theorem d_O_resolve_112 : decode b_O_resolve 112 = .ok (.iload 4, 2) := by decide +kernel
theorem d_O_resolve_114 : decode b_O_resolve 114 = .ok (.invokevirtual 106, 3) := by decide +kernel
theorem d_O_resolve_117 : decode b_O_resolve 117 = .ok (.ireturn, 1) := by decide +kernel
theorem d_O_resolve_118 : decode b_O_resolve 118 = .ok (.iconst (-1), 1) := by decide +kernel
theorem d_O_resolve_119 : decode b_O_resolve 119 = .ok (.ireturn, 1) := by decide +kernel
theorem d_O_choices_0 : decode b_O_choices 0 = .ok (.aload_n 0, 1) := by decide +kernel
theorem d_O_choices_1 : decode b_O_choices 1 = .ok (.getfield 26, 3) := by decide +kernel
theorem d_O_choices_4 : decode b_O_choices 4 = .ok (.ireturn, 1) := by decide +kernel
theorem d_O_use_0 : decode b_O_use 0 = .ok (.aload_n 0, 1) := by decide +kernel
theorem d_O_use_1 : decode b_O_use 1 = .ok (.getfield 10, 3) := by decide +kernel
theorem d_O_use_4 : decode b_O_use 4 = .ok (.iload_n 1, 1) := by decide +kernel
theorem d_O_use_5 : decode b_O_use 5 = .ok (.invokevirtual 49, 3) := by decide +kernel
theorem d_O_use_8 : decode b_O_use 8 = .ok (.ifCond .eq 21, 3) := by decide +kernel
theorem d_O_use_11 : decode b_O_use 11 = .ok (.aload_n 0, 1) := by decide +kernel
theorem d_O_use_12 : decode b_O_use 12 = .ok (.getfield 10, 3) := by decide +kernel
theorem d_O_use_15 : decode b_O_use 15 = .ok (.iload_n 2, 1) := by decide +kernel
theorem d_O_use_16 : decode b_O_use 16 = .ok (.invokevirtual 49, 3) := by decide +kernel
theorem d_O_use_19 : decode b_O_use 19 = .ok (.ifCond .eq 10, 3) := by decide +kernel
theorem d_O_use_22 : decode b_O_use 22 = .ok (.iload_n 3, 1) := by decide +kernel
theorem d_O_use_23 : decode b_O_use 23 = .ok (.invokestatic 80, 3) := by decide +kernel
theorem d_O_use_26 : decode b_O_use 26 = .ok (.ifCond .ne 5, 3) := by decide +kernel
theorem d_O_use_29 : decode b_O_use 29 = .ok (.iconst (-1), 1) := by decide +kernel
theorem d_O_use_30 : decode b_O_use 30 = .ok (.ireturn, 1) := by decide +kernel
theorem d_O_use_31 : decode b_O_use 31 = .ok (.aload_n 0, 1) := by decide +kernel
theorem d_O_use_32 : decode b_O_use 32 = .ok (.aload_n 0, 1) := by decide +kernel
theorem d_O_use_33 : decode b_O_use 33 = .ok (.getfield 19, 3) := by decide +kernel
theorem d_O_use_36 : decode b_O_use 36 = .ok (.aload_n 0, 1) := by decide +kernel
theorem d_O_use_37 : decode b_O_use 37 = .ok (.iload_n 1, 1) := by decide +kernel
theorem d_O_use_38 : decode b_O_use 38 = .ok (.iload_n 2, 1) := by decide +kernel
theorem d_O_use_39 : decode b_O_use 39 = .ok (.iload_n 3, 1) := by decide +kernel
theorem d_O_use_40 : decode b_O_use 40 = .ok (.invokevirtual 98, 3) := by decide +kernel
theorem d_O_use_43 : decode b_O_use 43 = .ok (.iload_n 3, 1) := by decide +kernel
theorem d_O_use_44 : decode b_O_use 44 = .ok (.iload_n 1, 1) := by decide +kernel
theorem d_O_use_45 : decode b_O_use 45 = .ok (.invokevirtual 102, 3) := by decide +kernel
theorem d_O_use_48 : decode b_O_use 48 = .ok (.istore 5, 2) := by decide +kernel
theorem d_O_use_50 : decode b_O_use 50 = .ok (.iload 5, 2) := by decide +kernel
theorem d_O_use_52 : decode b_O_use 52 = .ok (.ifCond .le 21, 3) := by decide +kernel
theorem d_O_use_55 : decode b_O_use 55 = .ok (.aload_n 0, 1) := by decide +kernel
theorem d_O_use_56 : decode b_O_use 56 = .ok (.getfield 19, 3) := by decide +kernel
theorem d_O_use_59 : decode b_O_use 59 = .ok (.iload 5, 2) := by decide +kernel
theorem d_O_use_61 : decode b_O_use 61 = .ok (.iload_n 3, 1) := by decide +kernel
theorem d_O_use_62 : decode b_O_use 62 = .ok (.invokevirtual 110, 3) := by decide +kernel
theorem d_O_use_65 : decode b_O_use 65 = .ok (.iload 4, 2) := by decide +kernel
theorem d_O_use_67 : decode b_O_use 67 = .ok (.if_icmp .eq 6, 3) := by decide +kernel
theorem d_O_use_70 : decode b_O_use 70 = .ok (.bipush (-6), 2) := by decide +kernel
theorem d_O_use_72 : decode b_O_use 72 = .ok (.ireturn, 1) := by decide +kernel
theorem d_O_use_73 : decode b_O_use 73 = .ok (.iload 5, 2) := by decide +kernel
theorem d_O_use_75 : decode b_O_use 75 = .ok (.ireturn, 1) := by decide +kernel
theorem d_O_invoke_0 : decode b_O_invoke 0 = .ok (.aload_n 0, 1) := by decide +kernel
theorem d_O_invoke_1 : decode b_O_invoke 1 = .ok (.getfield 10, 3) := by decide +kernel
theorem d_O_invoke_4 : decode b_O_invoke 4 = .ok (.iload_n 2, 1) := by decide +kernel
theorem d_O_invoke_5 : decode b_O_invoke 5 = .ok (.invokevirtual 49, 3) := by decide +kernel
theorem d_O_invoke_8 : decode b_O_invoke 8 = .ok (.ifCond .eq 22, 3) := by decide +kernel
theorem d_O_invoke_11 : decode b_O_invoke 11 = .ok (.aload_n 0, 1) := by decide +kernel
theorem d_O_invoke_12 : decode b_O_invoke 12 = .ok (.getfield 10, 3) := by decide +kernel
theorem d_O_invoke_15 : decode b_O_invoke 15 = .ok (.iload_n 3, 1) := by decide +kernel
theorem d_O_invoke_16 : decode b_O_invoke 16 = .ok (.invokevirtual 49, 3) := by decide +kernel
theorem d_O_invoke_19 : decode b_O_invoke 19 = .ok (.ifCond .eq 11, 3) := by decide +kernel
theorem d_O_invoke_22 : decode b_O_invoke 22 = .ok (.iload 4, 2) := by decide +kernel
theorem d_O_invoke_24 : decode b_O_invoke 24 = .ok (.invokestatic 80, 3) := by decide +kernel
theorem d_O_invoke_27 : decode b_O_invoke 27 = .ok (.ifCond .ne 5, 3) := by decide +kernel
theorem d_O_invoke_30 : decode b_O_invoke 30 = .ok (.iconst (-1), 1) := by decide +kernel
theorem d_O_invoke_31 : decode b_O_invoke 31 = .ok (.ireturn, 1) := by decide +kernel
theorem d_O_invoke_32 : decode b_O_invoke 32 = .ok (.aload_n 0, 1) := by decide +kernel
theorem d_O_invoke_33 : decode b_O_invoke 33 = .ok (.iload_n 1, 1) := by decide +kernel
theorem d_O_invoke_34 : decode b_O_invoke 34 = .ok (.iload_n 2, 1) := by decide +kernel
theorem d_O_invoke_35 : decode b_O_invoke 35 = .ok (.iload_n 3, 1) := by decide +kernel
theorem d_O_invoke_36 : decode b_O_invoke 36 = .ok (.iload 5, 2) := by decide +kernel
theorem d_O_invoke_38 : decode b_O_invoke 38 = .ok (.invokevirtual 113, 3) := by decide +kernel
theorem d_O_invoke_41 : decode b_O_invoke 41 = .ok (.ifCond .ne 5, 3) := by decide +kernel
theorem d_O_invoke_44 : decode b_O_invoke 44 = .ok (.iconst (-1), 1) := by decide +kernel
theorem d_O_invoke_45 : decode b_O_invoke 45 = .ok (.ireturn, 1) := by decide +kernel
theorem d_O_invoke_46 : decode b_O_invoke 46 = .ok (.iload_n 1, 1) := by decide +kernel
theorem d_O_invoke_47 : decode b_O_invoke 47 = .ok (.tableswitch 56 0 2 #[25, 36, 47], 25) := by decide +kernel
theorem d_O_invoke_72 : decode b_O_invoke 72 = .ok (.aload_n 0, 1) := by decide +kernel
theorem d_O_invoke_73 : decode b_O_invoke 73 = .ok (.iload_n 2, 1) := by decide +kernel
theorem d_O_invoke_74 : decode b_O_invoke 74 = .ok (.iload_n 3, 1) := by decide +kernel
theorem d_O_invoke_75 : decode b_O_invoke 75 = .ok (.iload 4, 2) := by decide +kernel
theorem d_O_invoke_77 : decode b_O_invoke 77 = .ok (.iload 5, 2) := by decide +kernel
theorem d_O_invoke_79 : decode b_O_invoke 79 = .ok (.invokevirtual 117, 3) := by decide +kernel
theorem d_O_invoke_82 : decode b_O_invoke 82 = .ok (.ireturn, 1) := by decide +kernel
theorem d_O_invoke_83 : decode b_O_invoke 83 = .ok (.aload_n 0, 1) := by decide +kernel
theorem d_O_invoke_84 : decode b_O_invoke 84 = .ok (.iload_n 2, 1) := by decide +kernel
theorem d_O_invoke_85 : decode b_O_invoke 85 = .ok (.iload_n 3, 1) := by decide +kernel
theorem d_O_invoke_86 : decode b_O_invoke 86 = .ok (.iload 4, 2) := by decide +kernel
theorem d_O_invoke_88 : decode b_O_invoke 88 = .ok (.iload 5, 2) := by decide +kernel
theorem d_O_invoke_90 : decode b_O_invoke 90 = .ok (.invokevirtual 121, 3) := by decide +kernel
theorem d_O_invoke_93 : decode b_O_invoke 93 = .ok (.ireturn, 1) := by decide +kernel
theorem d_O_invoke_94 : decode b_O_invoke 94 = .ok (.aload_n 0, 1) := by decide +kernel
theorem d_O_invoke_95 : decode b_O_invoke 95 = .ok (.iload_n 2, 1) := by decide +kernel
theorem d_O_invoke_96 : decode b_O_invoke 96 = .ok (.iload_n 3, 1) := by decide +kernel
theorem d_O_invoke_97 : decode b_O_invoke 97 = .ok (.iload 4, 2) := by decide +kernel
theorem d_O_invoke_99 : decode b_O_invoke 99 = .ok (.invokevirtual 124, 3) := by decide +kernel
theorem d_O_invoke_102 : decode b_O_invoke 102 = .ok (.ireturn, 1) := by decide +kernel
theorem d_O_invoke_103 : decode b_O_invoke 103 = .ok (.aload_n 0, 1) := by decide +kernel
theorem d_O_invoke_104 : decode b_O_invoke 104 = .ok (.iload_n 2, 1) := by decide +kernel
theorem d_O_invoke_105 : decode b_O_invoke 105 = .ok (.iload_n 3, 1) := by decide +kernel
theorem d_O_invoke_106 : decode b_O_invoke 106 = .ok (.iload 4, 2) := by decide +kernel
theorem d_O_invoke_108 : decode b_O_invoke 108 = .ok (.invokevirtual 127, 3) := by decide +kernel
theorem d_O_invoke_111 : decode b_O_invoke 111 = .ok (.ireturn, 1) := by decide +kernel
theorem d_O_isA_0 : decode b_O_isA 0 = .ok (.aload_n 0, 1) := by decide +kernel
theorem d_O_isA_1 : decode b_O_isA 1 = .ok (.getfield 10, 3) := by decide +kernel
theorem d_O_isA_4 : decode b_O_isA 4 = .ok (.iload_n 1, 1) := by decide +kernel
theorem d_O_isA_5 : decode b_O_isA 5 = .ok (.invokevirtual 49, 3) := by decide +kernel
theorem d_O_isA_8 : decode b_O_isA 8 = .ok (.ifCond .eq 30, 3) := by decide +kernel
theorem d_O_isA_11 : decode b_O_isA 11 = .ok (.aload_n 0, 1) := by decide +kernel
theorem d_O_isA_12 : decode b_O_isA 12 = .ok (.getfield 10, 3) := by decide +kernel
end
section
theorem d_O_isA_15 : decode b_O_isA 15 = .ok (.iload_n 2, 1) := by decide +kernel
theorem d_O_isA_16 : decode b_O_isA 16 = .ok (.invokevirtual 49, 3) := by decide +kernel
theorem d_O_isA_19 : decode b_O_isA 19 = .ok (.ifCond .eq 19, 3) := by decide +kernel
theorem d_O_isA_22 : decode b_O_isA 22 = .ok (.aload_n 0, 1) := by decide +kernel
theorem d_O_isA_23 : decode b_O_isA 23 = .ok (.getfield 10, 3) := by decide +kernel
theorem d_O_isA_26 : decode b_O_isA 26 = .ok (.iload_n 1, 1) := by decide +kernel
theorem d_O_isA_27 : decode b_O_isA 27 = .ok (.iload_n 2, 1) := by decide +kernel
theorem d_O_isA_28 : decode b_O_isA 28 = .ok (.invokevirtual 130, 3) := by decide +kernel
theorem d_O_isA_31 : decode b_O_isA 31 = .ok (.ifCond .eq 7, 3) := by decide +kernel
theorem d_O_isA_34 : decode b_O_isA 34 = .ok (.iconst 1, 1) := by decide +kernel
theorem d_O_isA_35 : decode b_O_isA 35 = .ok (.goto 4, 3) := by decide +kernel
theorem d_O_isA_38 : decode b_O_isA 38 = .ok (.iconst 0, 1) := by decide +kernel
theorem d_O_isA_39 : decode b_O_isA 39 = .ok (.ireturn, 1) := by decide +kernel
theorem d_O_mates_0 : decode b_O_mates 0 = .ok (.aload_n 0, 1) := by decide +kernel
theorem d_O_mates_1 : decode b_O_mates 1 = .ok (.getfield 10, 3) := by decide +kernel
theorem d_O_mates_4 : decode b_O_mates 4 = .ok (.iload_n 1, 1) := by decide +kernel
theorem d_O_mates_5 : decode b_O_mates 5 = .ok (.invokevirtual 49, 3) := by decide +kernel
theorem d_O_mates_8 : decode b_O_mates 8 = .ok (.ifCond .eq 30, 3) := by decide +kernel
theorem d_O_mates_11 : decode b_O_mates 11 = .ok (.aload_n 0, 1) := by decide +kernel
theorem d_O_mates_12 : decode b_O_mates 12 = .ok (.getfield 10, 3) := by decide +kernel
theorem d_O_mates_15 : decode b_O_mates 15 = .ok (.iload_n 2, 1) := by decide +kernel
theorem d_O_mates_16 : decode b_O_mates 16 = .ok (.invokevirtual 49, 3) := by decide +kernel
theorem d_O_mates_19 : decode b_O_mates 19 = .ok (.ifCond .eq 19, 3) := by decide +kernel
theorem d_O_mates_22 : decode b_O_mates 22 = .ok (.aload_n 0, 1) := by decide +kernel
theorem d_O_mates_23 : decode b_O_mates 23 = .ok (.getfield 10, 3) := by decide +kernel
theorem d_O_mates_26 : decode b_O_mates 26 = .ok (.iload_n 1, 1) := by decide +kernel
theorem d_O_mates_27 : decode b_O_mates 27 = .ok (.iload_n 2, 1) := by decide +kernel
theorem d_O_mates_28 : decode b_O_mates 28 = .ok (.invokevirtual 133, 3) := by decide +kernel
theorem d_O_mates_31 : decode b_O_mates 31 = .ok (.ifCond .eq 7, 3) := by decide +kernel
theorem d_O_mates_34 : decode b_O_mates 34 = .ok (.iconst 1, 1) := by decide +kernel
theorem d_O_mates_35 : decode b_O_mates 35 = .ok (.goto 4, 3) := by decide +kernel
theorem d_O_mates_38 : decode b_O_mates 38 = .ok (.iconst 0, 1) := by decide +kernel
theorem d_O_mates_39 : decode b_O_mates 39 = .ok (.ireturn, 1) := by decide +kernel
theorem d_O_overrides_0 : decode b_O_overrides 0 = .ok (.aload_n 0, 1) := by decide +kernel
theorem d_O_overrides_1 : decode b_O_overrides 1 = .ok (.getfield 10, 3) := by decide +kernel
theorem d_O_overrides_4 : decode b_O_overrides 4 = .ok (.iload_n 1, 1) := by decide +kernel
theorem d_O_overrides_5 : decode b_O_overrides 5 = .ok (.invokevirtual 136, 3) := by decide +kernel
theorem d_O_overrides_8 : decode b_O_overrides 8 = .ok (.ifCond .eq 35, 3) := by decide +kernel
theorem d_O_overrides_11 : decode b_O_overrides 11 = .ok (.aload_n 0, 1) := by decide +kernel
theorem d_O_overrides_12 : decode b_O_overrides 12 = .ok (.getfield 10, 3) := by decide +kernel
theorem d_O_overrides_15 : decode b_O_overrides 15 = .ok (.iload_n 2, 1) := by decide +kernel
theorem d_O_overrides_16 : decode b_O_overrides 16 = .ok (.invokevirtual 49, 3) := by decide +kernel
theorem d_O_overrides_19 : decode b_O_overrides 19 = .ok (.ifCond .eq 24, 3) := by decide +kernel
theorem d_O_overrides_22 : decode b_O_overrides 22 = .ok (.iload_n 3, 1) := by decide +kernel
theorem d_O_overrides_23 : decode b_O_overrides 23 = .ok (.invokestatic 80, 3) := by decide +kernel
theorem d_O_overrides_26 : decode b_O_overrides 26 = .ok (.ifCond .eq 17, 3) := by decide +kernel
theorem d_O_overrides_29 : decode b_O_overrides 29 = .ok (.aload_n 0, 1) := by decide +kernel
theorem d_O_overrides_30 : decode b_O_overrides 30 = .ok (.iload_n 1, 1) := by decide +kernel
theorem d_O_overrides_31 : decode b_O_overrides 31 = .ok (.iload_n 2, 1) := by decide +kernel
theorem d_O_overrides_32 : decode b_O_overrides 32 = .ok (.iload_n 3, 1) := by decide +kernel
theorem d_O_overrides_33 : decode b_O_overrides 33 = .ok (.invokevirtual 139, 3) := by decide +kernel
theorem d_O_overrides_36 : decode b_O_overrides 36 = .ok (.ifCond .eq 7, 3) := by decide +kernel
theorem d_O_overrides_39 : decode b_O_overrides 39 = .ok (.iconst 1, 1) := by decide +kernel
theorem d_O_overrides_40 : decode b_O_overrides 40 = .ok (.goto 4, 3) := by decide +kernel
theorem d_O_overrides_43 : decode b_O_overrides 43 = .ok (.iconst 0, 1) := by decide +kernel
theorem d_O_overrides_44 : decode b_O_overrides 44 = .ok (.ireturn, 1) := by decide +kernel
theorem d_O_maximal_0 : decode b_O_maximal 0 = .ok (.aload_n 0, 1) := by decide +kernel
theorem d_O_maximal_1 : decode b_O_maximal 1 = .ok (.getfield 10, 3) := by decide +kernel
theorem d_O_maximal_4 : decode b_O_maximal 4 = .ok (.iload_n 1, 1) := by decide +kernel
theorem d_O_maximal_5 : decode b_O_maximal 5 = .ok (.invokevirtual 49, 3) := by decide +kernel
theorem d_O_maximal_8 : decode b_O_maximal 8 = .ok (.ifCond .eq 10, 3) := by decide +kernel
theorem d_O_maximal_11 : decode b_O_maximal 11 = .ok (.iload_n 2, 1) := by decide +kernel
theorem d_O_maximal_12 : decode b_O_maximal 12 = .ok (.invokestatic 80, 3) := by decide +kernel
theorem d_O_maximal_15 : decode b_O_maximal 15 = .ok (.ifCond .ne 5, 3) := by decide +kernel
theorem d_O_maximal_18 : decode b_O_maximal 18 = .ok (.iconst (-1), 1) := by decide +kernel
theorem d_O_maximal_19 : decode b_O_maximal 19 = .ok (.ireturn, 1) := by decide +kernel
theorem d_O_maximal_20 : decode b_O_maximal 20 = .ok (.aload_n 0, 1) := by decide +kernel
theorem d_O_maximal_21 : decode b_O_maximal 21 = .ok (.iload_n 1, 1) := by decide +kernel
theorem d_O_maximal_22 : decode b_O_maximal 22 = .ok (.iload_n 2, 1) := by decide +kernel
theorem d_O_maximal_23 : decode b_O_maximal 23 = .ok (.invokevirtual 143, 3) := by decide +kernel
theorem d_O_maximal_26 : decode b_O_maximal 26 = .ok (.ireturn, 1) := by decide +kernel
theorem d_O_type_0 : decode b_O_type 0 = .ok (.aload_n 0, 1) := by decide +kernel
theorem d_O_type_1 : decode b_O_type 1 = .ok (.getfield 10, 3) := by decide +kernel
theorem d_O_type_4 : decode b_O_type 4 = .ok (.iload_n 1, 1) := by decide +kernel
theorem d_O_type_5 : decode b_O_type 5 = .ok (.invokevirtual 49, 3) := by decide +kernel
theorem d_O_type_8 : decode b_O_type 8 = .ok (.ifCond .ne 5, 3) := by decide +kernel
theorem d_O_type_11 : decode b_O_type 11 = .ok (.iconst (-1), 1) := by decide +kernel
theorem d_O_type_12 : decode b_O_type 12 = .ok (.ireturn, 1) := by decide +kernel
theorem d_O_type_13 : decode b_O_type 13 = .ok (.iload_n 2, 1) := by decide +kernel
theorem d_O_type_14 : decode b_O_type 14 = .ok (.tableswitch 131 0 9 #[54, 63, 72, 81, 90, 90, 90, 90, 102, 114], 54) := by decide +kernel
theorem d_O_type_68 : decode b_O_type 68 = .ok (.aload_n 0, 1) := by decide +kernel
theorem d_O_type_69 : decode b_O_type 69 = .ok (.getfield 10, 3) := by decide +kernel
theorem d_O_type_72 : decode b_O_type 72 = .ok (.iload_n 1, 1) := by decide +kernel
theorem d_O_type_73 : decode b_O_type 73 = .ok (.invokevirtual 146, 3) := by decide +kernel
theorem d_O_type_76 : decode b_O_type 76 = .ok (.ireturn, 1) := by decide +kernel
theorem d_O_type_77 : decode b_O_type 77 = .ok (.aload_n 0, 1) := by decide +kernel
theorem d_O_type_78 : decode b_O_type 78 = .ok (.getfield 10, 3) := by decide +kernel
theorem d_O_type_81 : decode b_O_type 81 = .ok (.iload_n 1, 1) := by decide +kernel
theorem d_O_type_82 : decode b_O_type 82 = .ok (.invokevirtual 149, 3) := by decide +kernel
theorem d_O_type_85 : decode b_O_type 85 = .ok (.ireturn, 1) := by decide +kernel
theorem d_O_type_86 : decode b_O_type 86 = .ok (.aload_n 0, 1) := by decide +kernel
theorem d_O_type_87 : decode b_O_type 87 = .ok (.getfield 10, 3) := by decide +kernel
theorem d_O_type_90 : decode b_O_type 90 = .ok (.iload_n 1, 1) := by decide +kernel
theorem d_O_type_91 : decode b_O_type 91 = .ok (.invokevirtual 70, 3) := by decide +kernel
theorem d_O_type_94 : decode b_O_type 94 = .ok (.ireturn, 1) := by decide +kernel
theorem d_O_type_95 : decode b_O_type 95 = .ok (.aload_n 0, 1) := by decide +kernel
theorem d_O_type_96 : decode b_O_type 96 = .ok (.getfield 10, 3) := by decide +kernel
theorem d_O_type_99 : decode b_O_type 99 = .ok (.iload_n 1, 1) := by decide +kernel
theorem d_O_type_100 : decode b_O_type 100 = .ok (.invokevirtual 59, 3) := by decide +kernel
theorem d_O_type_103 : decode b_O_type 103 = .ok (.ireturn, 1) := by decide +kernel
theorem d_O_type_104 : decode b_O_type 104 = .ok (.aload_n 0, 1) := by decide +kernel
theorem d_O_type_105 : decode b_O_type 105 = .ok (.getfield 10, 3) := by decide +kernel
theorem d_O_type_108 : decode b_O_type 108 = .ok (.iload_n 1, 1) := by decide +kernel
theorem d_O_type_109 : decode b_O_type 109 = .ok (.iload_n 2, 1) := by decide +kernel
theorem d_O_type_110 : decode b_O_type 110 = .ok (.iconst 4, 1) := by decide +kernel
theorem d_O_type_111 : decode b_O_type 111 = .ok (.isub, 1) := by decide +kernel
theorem d_O_type_112 : decode b_O_type 112 = .ok (.invokevirtual 152, 3) := by decide +kernel
theorem d_O_type_115 : decode b_O_type 115 = .ok (.ireturn, 1) := by decide +kernel
theorem d_O_type_116 : decode b_O_type 116 = .ok (.aload_n 0, 1) := by decide +kernel
theorem d_O_type_117 : decode b_O_type 117 = .ok (.getfield 10, 3) := by decide +kernel
theorem d_O_type_120 : decode b_O_type 120 = .ok (.iload_n 1, 1) := by decide +kernel
theorem d_O_type_121 : decode b_O_type 121 = .ok (.invokevirtual 155, 3) := by decide +kernel
theorem d_O_type_124 : decode b_O_type 124 = .ok (.invokestatic 158, 3) := by decide +kernel
theorem d_O_type_127 : decode b_O_type 127 = .ok (.ireturn, 1) := by decide +kernel
theorem d_O_type_128 : decode b_O_type 128 = .ok (.aload_n 0, 1) := by decide +kernel
theorem d_O_type_129 : decode b_O_type 129 = .ok (.getfield 10, 3) := by decide +kernel
theorem d_O_type_132 : decode b_O_type 132 = .ok (.iload_n 1, 1) := by decide +kernel
theorem d_O_type_133 : decode b_O_type 133 = .ok (.invokevirtual 52, 3) := by decide +kernel
theorem d_O_type_136 : decode b_O_type 136 = .ok (.ifCond .eq 7, 3) := by decide +kernel
theorem d_O_type_139 : decode b_O_type 139 = .ok (.iconst 1, 1) := by decide +kernel
theorem d_O_type_140 : decode b_O_type 140 = .ok (.goto 4, 3) := by decide +kernel
theorem d_O_type_143 : decode b_O_type 143 = .ok (.iconst 0, 1) := by decide +kernel
theorem d_O_type_144 : decode b_O_type 144 = .ok (.ireturn, 1) := by decide +kernel
theorem d_O_type_145 : decode b_O_type 145 = .ok (.iconst (-1), 1) := by decide +kernel
theorem d_O_type_146 : decode b_O_type 146 = .ok (.ireturn, 1) := by decide +kernel
theorem d_O_isPackage_0 : decode b_O_isPackage 0 = .ok (.iload_n 0, 1) := by decide +kernel
theorem d_O_isPackage_1 : decode b_O_isPackage 1 = .ok (.ifCond .lt 12, 3) := by decide +kernel
theorem d_O_isPackage_4 : decode b_O_isPackage 4 = .ok (.iload_n 0, 1) := by decide +kernel
theorem d_O_isPackage_5 : decode b_O_isPackage 5 = .ok (.iconst 3, 1) := by decide +kernel
theorem d_O_isPackage_6 : decode b_O_isPackage 6 = .ok (.if_icmp .ge 7, 3) := by decide +kernel
theorem d_O_isPackage_9 : decode b_O_isPackage 9 = .ok (.iconst 1, 1) := by decide +kernel
theorem d_O_isPackage_10 : decode b_O_isPackage 10 = .ok (.goto 4, 3) := by decide +kernel
theorem d_O_isPackage_13 : decode b_O_isPackage 13 = .ok (.iconst 0, 1) := by decide +kernel
theorem d_O_isPackage_14 : decode b_O_isPackage 14 = .ok (.ireturn, 1) := by decide +kernel
theorem d_O_isName_0 : decode b_O_isName 0 = .ok (.iload_n 0, 1) := by decide +kernel
theorem d_O_isName_1 : decode b_O_isName 1 = .ok (.ifCond .lt 12, 3) := by decide +kernel
theorem d_O_isName_4 : decode b_O_isName 4 = .ok (.iload_n 0, 1) := by decide +kernel
theorem d_O_isName_5 : decode b_O_isName 5 = .ok (.iconst 4, 1) := by decide +kernel
theorem d_O_isName_6 : decode b_O_isName 6 = .ok (.if_icmp .ge 7, 3) := by decide +kernel
theorem d_O_isName_9 : decode b_O_isName 9 = .ok (.iconst 1, 1) := by decide +kernel
theorem d_O_isName_10 : decode b_O_isName 10 = .ok (.goto 4, 3) := by decide +kernel
theorem d_O_isName_13 : decode b_O_isName 13 = .ok (.iconst 0, 1) := by decide +kernel
theorem d_O_isName_14 : decode b_O_isName 14 = .ok (.ireturn, 1) := by decide +kernel
theorem d_O_isAccess_0 : decode b_O_isAccess 0 = .ok (.iload_n 0, 1) := by decide +kernel
theorem d_O_isAccess_1 : decode b_O_isAccess 1 = .ok (.ifCond .lt 12, 3) := by decide +kernel
theorem d_O_isAccess_4 : decode b_O_isAccess 4 = .ok (.iload_n 0, 1) := by decide +kernel
theorem d_O_isAccess_5 : decode b_O_isAccess 5 = .ok (.iconst 3, 1) := by decide +kernel
theorem d_O_isAccess_6 : decode b_O_isAccess 6 = .ok (.if_icmp .gt 7, 3) := by decide +kernel
theorem d_O_isAccess_9 : decode b_O_isAccess 9 = .ok (.iconst 1, 1) := by decide +kernel
theorem d_O_isAccess_10 : decode b_O_isAccess 10 = .ok (.goto 4, 3) := by decide +kernel
theorem d_O_isAccess_13 : decode b_O_isAccess 13 = .ok (.iconst 0, 1) := by decide +kernel
theorem d_O_isAccess_14 : decode b_O_isAccess 14 = .ok (.ireturn, 1) := by decide +kernel
theorem d_O_isForm_0 : decode b_O_isForm 0 = .ok (.iload_n 0, 1) := by decide +kernel
theorem d_O_isForm_1 : decode b_O_isForm 1 = .ok (.ifCond .lt 12, 3) := by decide +kernel
theorem d_O_isForm_4 : decode b_O_isForm 4 = .ok (.iload_n 0, 1) := by decide +kernel
theorem d_O_isForm_5 : decode b_O_isForm 5 = .ok (.iconst 2, 1) := by decide +kernel
theorem d_O_isForm_6 : decode b_O_isForm 6 = .ok (.if_icmp .gt 7, 3) := by decide +kernel
theorem d_O_isForm_9 : decode b_O_isForm 9 = .ok (.iconst 1, 1) := by decide +kernel
theorem d_O_isForm_10 : decode b_O_isForm 10 = .ok (.goto 4, 3) := by decide +kernel
theorem d_O_isForm_13 : decode b_O_isForm 13 = .ok (.iconst 0, 1) := by decide +kernel
theorem d_O_isForm_14 : decode b_O_isForm 14 = .ok (.ireturn, 1) := by decide +kernel
theorem d_O_isReceiver_0 : decode b_O_isReceiver 0 = .ok (.iload_n 1, 1) := by decide +kernel
theorem d_O_isReceiver_1 : decode b_O_isReceiver 1 = .ok (.tableswitch 106 0 3 #[31, 62, 72, 95], 31) := by decide +kernel
theorem d_O_isReceiver_32 : decode b_O_isReceiver 32 = .ok (.aload_n 0, 1) := by decide +kernel
theorem d_O_isReceiver_33 : decode b_O_isReceiver 33 = .ok (.getfield 10, 3) := by decide +kernel
theorem d_O_isReceiver_36 : decode b_O_isReceiver 36 = .ok (.iload 4, 2) := by decide +kernel
theorem d_O_isReceiver_38 : decode b_O_isReceiver 38 = .ok (.invokevirtual 136, 3) := by decide +kernel
theorem d_O_isReceiver_41 : decode b_O_isReceiver 41 = .ok (.ifCond .eq 20, 3) := by decide +kernel
theorem d_O_isReceiver_44 : decode b_O_isReceiver 44 = .ok (.aload_n 0, 1) := by decide +kernel
theorem d_O_isReceiver_45 : decode b_O_isReceiver 45 = .ok (.getfield 10, 3) := by decide +kernel
theorem d_O_isReceiver_48 : decode b_O_isReceiver 48 = .ok (.iload 4, 2) := by decide +kernel
theorem d_O_isReceiver_50 : decode b_O_isReceiver 50 = .ok (.iload_n 2, 1) := by decide +kernel
theorem d_O_isReceiver_51 : decode b_O_isReceiver 51 = .ok (.invokevirtual 130, 3) := by decide +kernel
theorem d_O_isReceiver_54 : decode b_O_isReceiver 54 = .ok (.ifCond .eq 7, 3) := by decide +kernel
theorem d_O_isReceiver_57 : decode b_O_isReceiver 57 = .ok (.iconst 1, 1) := by decide +kernel
theorem d_O_isReceiver_58 : decode b_O_isReceiver 58 = .ok (.goto 4, 3) := by decide +kernel
theorem d_O_isReceiver_61 : decode b_O_isReceiver 61 = .ok (.iconst 0, 1) := by decide +kernel
theorem d_O_isReceiver_62 : decode b_O_isReceiver 62 = .ok (.ireturn, 1) := by decide +kernel
theorem d_O_isReceiver_63 : decode b_O_isReceiver 63 = .ok (.aload_n 0, 1) := by decide +kernel
theorem d_O_isReceiver_64 : decode b_O_isReceiver 64 = .ok (.getfield 10, 3) := by decide +kernel
theorem d_O_isReceiver_67 : decode b_O_isReceiver 67 = .ok (.iload 4, 2) := by decide +kernel
theorem d_O_isReceiver_69 : decode b_O_isReceiver 69 = .ok (.invokevirtual 136, 3) := by decide +kernel
theorem d_O_isReceiver_72 : decode b_O_isReceiver 72 = .ok (.ireturn, 1) := by decide +kernel
theorem d_O_isReceiver_73 : decode b_O_isReceiver 73 = .ok (.iload 4, 2) := by decide +kernel
theorem d_O_isReceiver_75 : decode b_O_isReceiver 75 = .ok (.ifCond .ne 19, 3) := by decide +kernel
theorem d_O_isReceiver_78 : decode b_O_isReceiver 78 = .ok (.aload_n 0, 1) := by decide +kernel
theorem d_O_isReceiver_79 : decode b_O_isReceiver 79 = .ok (.getfield 10, 3) := by decide +kernel
theorem d_O_isReceiver_82 : decode b_O_isReceiver 82 = .ok (.iload_n 3, 1) := by decide +kernel
theorem d_O_isReceiver_83 : decode b_O_isReceiver 83 = .ok (.iload_n 2, 1) := by decide +kernel
theorem d_O_isReceiver_84 : decode b_O_isReceiver 84 = .ok (.invokevirtual 130, 3) := by decide +kernel
theorem d_O_isReceiver_87 : decode b_O_isReceiver 87 = .ok (.ifCond .eq 7, 3) := by decide +kernel
theorem d_O_isReceiver_90 : decode b_O_isReceiver 90 = .ok (.iconst 1, 1) := by decide +kernel
theorem d_O_isReceiver_91 : decode b_O_isReceiver 91 = .ok (.goto 4, 3) := by decide +kernel
theorem d_O_isReceiver_94 : decode b_O_isReceiver 94 = .ok (.iconst 0, 1) := by decide +kernel
theorem d_O_isReceiver_95 : decode b_O_isReceiver 95 = .ok (.ireturn, 1) := by decide +kernel
theorem d_O_isReceiver_96 : decode b_O_isReceiver 96 = .ok (.iload 4, 2) := by decide +kernel
theorem d_O_isReceiver_98 : decode b_O_isReceiver 98 = .ok (.ifCond .ne 7, 3) := by decide +kernel
theorem d_O_isReceiver_101 : decode b_O_isReceiver 101 = .ok (.iconst 1, 1) := by decide +kernel
theorem d_O_isReceiver_102 : decode b_O_isReceiver 102 = .ok (.goto 4, 3) := by decide +kernel
theorem d_O_isReceiver_105 : decode b_O_isReceiver 105 = .ok (.iconst 0, 1) := by decide +kernel
theorem d_O_isReceiver_106 : decode b_O_isReceiver 106 = .ok (.ireturn, 1) := by decide +kernel
theorem d_O_isReceiver_107 : decode b_O_isReceiver 107 = .ok (.iconst 0, 1) := by decide +kernel
theorem d_O_isReceiver_108 : decode b_O_isReceiver 108 = .ok (.ireturn, 1) := by decide +kernel
theorem d_O_findField_0 : decode b_O_findField 0 = .ok (.aload_n 0, 1) := by decide +kernel
theorem d_O_findField_1 : decode b_O_findField 1 = .ok (.getfield 10, 3) := by decide +kernel
theorem d_O_findField_4 : decode b_O_findField 4 = .ok (.iload_n 2, 1) := by decide +kernel
theorem d_O_findField_5 : decode b_O_findField 5 = .ok (.iload_n 1, 1) := by decide +kernel
theorem d_O_findField_6 : decode b_O_findField 6 = .ok (.invokevirtual 163, 3) := by decide +kernel
theorem d_O_findField_9 : decode b_O_findField 9 = .ok (.ifCond .ne 6, 3) := by decide +kernel
theorem d_O_findField_12 : decode b_O_findField 12 = .ok (.bipush (-5), 2) := by decide +kernel
theorem d_O_findField_14 : decode b_O_findField 14 = .ok (.ireturn, 1) := by decide +kernel
theorem d_O_findField_15 : decode b_O_findField 15 = .ok (.aload_n 0, 1) := by decide +kernel
theorem d_O_findField_16 : decode b_O_findField 16 = .ok (.getfield 10, 3) := by decide +kernel
theorem d_O_findField_19 : decode b_O_findField 19 = .ok (.iload_n 2, 1) := by decide +kernel
theorem d_O_findField_20 : decode b_O_findField 20 = .ok (.aload_n 0, 1) := by decide +kernel
theorem d_O_findField_21 : decode b_O_findField 21 = .ok (.getfield 19, 3) := by decide +kernel
theorem d_O_findField_24 : decode b_O_findField 24 = .ok (.iload_n 3, 1) := by decide +kernel
theorem d_O_findField_25 : decode b_O_findField 25 = .ok (.invokevirtual 166, 3) := by decide +kernel
theorem d_O_findField_28 : decode b_O_findField 28 = .ok (.invokevirtual 169, 3) := by decide +kernel
theorem d_O_findField_31 : decode b_O_findField 31 = .ok (.istore 4, 2) := by decide +kernel
theorem d_O_findField_33 : decode b_O_findField 33 = .ok (.iload 4, 2) := by decide +kernel
theorem d_O_findField_35 : decode b_O_findField 35 = .ok (.ifCond .ne 8, 3) := by decide +kernel
theorem d_O_findField_38 : decode b_O_findField 38 = .ok (.bipush (-3), 2) := by decide +kernel
theorem d_O_findField_40 : decode b_O_findField 40 = .ok (.goto 5, 3) := by decide +kernel
theorem d_O_findField_43 : decode b_O_findField 43 = .ok (.iload 4, 2) := by decide +kernel
theorem d_O_findField_45 : decode b_O_findField 45 = .ok (.ireturn, 1) := by decide +kernel
theorem d_O_resolveMethod_0 : decode b_O_resolveMethod 0 = .ok (.aload_n 0, 1) := by decide +kernel
theorem d_O_resolveMethod_1 : decode b_O_resolveMethod 1 = .ok (.iconst 0, 1) := by decide +kernel
theorem d_O_resolveMethod_2 : decode b_O_resolveMethod 2 = .ok (.putfield 26, 3) := by decide +kernel
theorem d_O_resolveMethod_5 : decode b_O_resolveMethod 5 = .ok (.aload_n 0, 1) := by decide +kernel
theorem d_O_resolveMethod_6 : decode b_O_resolveMethod 6 = .ok (.getfield 10, 3) := by decide +kernel
theorem d_O_resolveMethod_9 : decode b_O_resolveMethod 9 = .ok (.iload_n 3, 1) := by decide +kernel
theorem d_O_resolveMethod_10 : decode b_O_resolveMethod 10 = .ok (.iload_n 2, 1) := by decide +kernel
theorem d_O_resolveMethod_11 : decode b_O_resolveMethod 11 = .ok (.invokevirtual 163, 3) := by decide +kernel
theorem d_O_resolveMethod_14 : decode b_O_resolveMethod 14 = .ok (.ifCond .ne 6, 3) := by decide +kernel
theorem d_O_resolveMethod_17 : decode b_O_resolveMethod 17 = .ok (.bipush (-5), 2) := by decide +kernel
theorem d_O_resolveMethod_19 : decode b_O_resolveMethod 19 = .ok (.ireturn, 1) := by decide +kernel
theorem d_O_resolveMethod_20 : decode b_O_resolveMethod 20 = .ok (.aload_n 0, 1) := by decide +kernel
theorem d_O_resolveMethod_21 : decode b_O_resolveMethod 21 = .ok (.getfield 10, 3) := by decide +kernel
theorem d_O_resolveMethod_24 : decode b_O_resolveMethod 24 = .ok (.iload_n 3, 1) := by decide +kernel
theorem d_O_resolveMethod_25 : decode b_O_resolveMethod 25 = .ok (.invokevirtual 52, 3) := by decide +kernel
theorem d_O_resolveMethod_28 : decode b_O_resolveMethod 28 = .ok (.iload_n 1, 1) := by decide +kernel
theorem d_O_resolveMethod_29 : decode b_O_resolveMethod 29 = .ok (.if_icmp .eq 6, 3) := by decide +kernel
theorem d_O_resolveMethod_32 : decode b_O_resolveMethod 32 = .ok (.bipush (-6), 2) := by decide +kernel
theorem d_O_resolveMethod_34 : decode b_O_resolveMethod 34 = .ok (.ireturn, 1) := by decide +kernel
theorem d_O_resolveMethod_35 : decode b_O_resolveMethod 35 = .ok (.aload_n 0, 1) := by decide +kernel
theorem d_O_resolveMethod_36 : decode b_O_resolveMethod 36 = .ok (.getfield 10, 3) := by decide +kernel
theorem d_O_resolveMethod_39 : decode b_O_resolveMethod 39 = .ok (.iload_n 3, 1) := by decide +kernel
theorem d_O_resolveMethod_40 : decode b_O_resolveMethod 40 = .ok (.invokevirtual 172, 3) := by decide +kernel
theorem d_O_resolveMethod_43 : decode b_O_resolveMethod 43 = .ok (.aload_n 0, 1) := by decide +kernel
theorem d_O_resolveMethod_44 : decode b_O_resolveMethod 44 = .ok (.getfield 23, 3) := by decide +kernel
theorem d_O_resolveMethod_47 : decode b_O_resolveMethod 47 = .ok (.iload 4, 2) := by decide +kernel
theorem d_O_resolveMethod_49 : decode b_O_resolveMethod 49 = .ok (.invokevirtual 166, 3) := by decide +kernel
theorem d_O_resolveMethod_52 : decode b_O_resolveMethod 52 = .ok (.iand, 1) := by decide +kernel
theorem d_O_resolveMethod_53 : decode b_O_resolveMethod 53 = .ok (.invokestatic 175, 3) := by decide +kernel
theorem d_O_resolveMethod_56 : decode b_O_resolveMethod 56 = .ok (.istore 5, 2) := by decide +kernel
theorem d_O_resolveMethod_58 : decode b_O_resolveMethod 58 = .ok (.iload 5, 2) := by decide +kernel
theorem d_O_resolveMethod_60 : decode b_O_resolveMethod 60 = .ok (.ifCond .ne 12, 3) := by decide +kernel
theorem d_O_resolveMethod_63 : decode b_O_resolveMethod 63 = .ok (.aload_n 0, 1) := by decide +kernel
theorem d_O_resolveMethod_64 : decode b_O_resolveMethod 64 = .ok (.iload_n 3, 1) := by decide +kernel
theorem d_O_resolveMethod_65 : decode b_O_resolveMethod 65 = .ok (.iload 4, 2) := by decide +kernel
theorem d_O_resolveMethod_67 : decode b_O_resolveMethod 67 = .ok (.invokevirtual 178, 3) := by decide +kernel
theorem d_O_resolveMethod_70 : decode b_O_resolveMethod 70 = .ok (.istore 5, 2) := by decide +kernel
theorem d_O_resolveMethod_72 : decode b_O_resolveMethod 72 = .ok (.iload 5, 2) := by decide +kernel
theorem d_O_resolveMethod_74 : decode b_O_resolveMethod 74 = .ok (.ifCond .le 22, 3) := by decide +kernel
theorem d_O_resolveMethod_77 : decode b_O_resolveMethod 77 = .ok (.aload_n 0, 1) := by decide +kernel
theorem d_O_resolveMethod_78 : decode b_O_resolveMethod 78 = .ok (.iconst 1, 1) := by decide +kernel
theorem d_O_resolveMethod_79 : decode b_O_resolveMethod 79 = .ok (.putfield 26, 3) := by decide +kernel
theorem d_O_resolveMethod_82 : decode b_O_resolveMethod 82 = .ok (.aload_n 0, 1) := by decide +kernel
theorem d_O_resolveMethod_83 : decode b_O_resolveMethod 83 = .ok (.aload_n 0, 1) := by decide +kernel
theorem d_O_resolveMethod_84 : decode b_O_resolveMethod 84 = .ok (.getfield 23, 3) := by decide +kernel
theorem d_O_resolveMethod_87 : decode b_O_resolveMethod 87 = .ok (.iload 5, 2) := by decide +kernel
theorem d_O_resolveMethod_89 : decode b_O_resolveMethod 89 = .ok (.iload 4, 2) := by decide +kernel
theorem d_O_resolveMethod_91 : decode b_O_resolveMethod 91 = .ok (.iload_n 2, 1) := by decide +kernel
theorem d_O_resolveMethod_92 : decode b_O_resolveMethod 92 = .ok (.invokevirtual 102, 3) := by decide +kernel
theorem d_O_resolveMethod_95 : decode b_O_resolveMethod 95 = .ok (.ireturn, 1) := by decide +kernel
theorem d_O_resolveMethod_96 : decode b_O_resolveMethod 96 = .ok (.aload_n 0, 1) := by decide +kernel
theorem d_O_resolveMethod_97 : decode b_O_resolveMethod 97 = .ok (.iload_n 3, 1) := by decide +kernel
theorem d_O_resolveMethod_98 : decode b_O_resolveMethod 98 = .ok (.iload 4, 2) := by decide +kernel
theorem d_O_resolveMethod_100 : decode b_O_resolveMethod 100 = .ok (.invokevirtual 181, 3) := by decide +kernel
theorem d_O_resolveMethod_103 : decode b_O_resolveMethod 103 = .ok (.istore 6, 2) := by decide +kernel
theorem d_O_resolveMethod_105 : decode b_O_resolveMethod 105 = .ok (.aload_n 0, 1) := by decide +kernel
theorem d_O_resolveMethod_106 : decode b_O_resolveMethod 106 = .ok (.iload 6, 2) := by decide +kernel
theorem d_O_resolveMethod_108 : decode b_O_resolveMethod 108 = .ok (.invokestatic 158, 3) := by decide +kernel
theorem d_O_resolveMethod_111 : decode b_O_resolveMethod 111 = .ok (.putfield 26, 3) := by decide +kernel
theorem d_O_resolveMethod_114 : decode b_O_resolveMethod 114 = .ok (.iload 6, 2) := by decide +kernel
theorem d_O_resolveMethod_116 : decode b_O_resolveMethod 116 = .ok (.ifCond .ne 8, 3) := by decide +kernel
theorem d_O_resolveMethod_119 : decode b_O_resolveMethod 119 = .ok (.bipush (-4), 2) := by decide +kernel
theorem d_O_resolveMethod_121 : decode b_O_resolveMethod 121 = .ok (.goto 8, 3) := by decide +kernel
theorem d_O_resolveMethod_124 : decode b_O_resolveMethod 124 = .ok (.iload 6, 2) := by decide +kernel
theorem d_O_resolveMethod_126 : decode b_O_resolveMethod 126 = .ok (.invokestatic 184, 3) := by decide +kernel
theorem d_O_resolveMethod_129 : decode b_O_resolveMethod 129 = .ok (.ireturn, 1) := by decide +kernel
theorem d_O_admitted_0 : decode b_O_admitted 0 = .ok (.iload_n 2, 1) := by decide +kernel
theorem d_O_admitted_1 : decode b_O_admitted 1 = .ok (.ifCond .gt 5, 3) := by decide +kernel
theorem d_O_admitted_4 : decode b_O_admitted 4 = .ok (.iload_n 2, 1) := by decide +kernel
theorem d_O_admitted_5 : decode b_O_admitted 5 = .ok (.ireturn, 1) := by decide +kernel
theorem d_O_admitted_6 : decode b_O_admitted 6 = .ok (.aload_n 0, 1) := by decide +kernel
theorem d_O_admitted_7 : decode b_O_admitted 7 = .ok (.iload_n 2, 1) := by decide +kernel
theorem d_O_admitted_8 : decode b_O_admitted 8 = .ok (.aload_n 1, 1) := by decide +kernel
theorem d_O_admitted_9 : decode b_O_admitted 9 = .ok (.iload_n 2, 1) := by decide +kernel
theorem d_O_admitted_10 : decode b_O_admitted 10 = .ok (.iload_n 3, 1) := by decide +kernel
theorem d_O_admitted_11 : decode b_O_admitted 11 = .ok (.invokevirtual 187, 3) := by decide +kernel
theorem d_O_admitted_14 : decode b_O_admitted 14 = .ok (.iload 4, 2) := by decide +kernel
theorem d_O_admitted_16 : decode b_O_admitted 16 = .ok (.invokevirtual 190, 3) := by decide +kernel
theorem d_O_admitted_19 : decode b_O_admitted 19 = .ok (.ifCond .eq 7, 3) := by decide +kernel
theorem d_O_admitted_22 : decode b_O_admitted 22 = .ok (.iload_n 2, 1) := by decide +kernel
theorem d_O_admitted_23 : decode b_O_admitted 23 = .ok (.goto 5, 3) := by decide +kernel
theorem d_O_admitted_26 : decode b_O_admitted 26 = .ok (.bipush (-5), 2) := by decide +kernel
theorem d_O_admitted_28 : decode b_O_admitted 28 = .ok (.ireturn, 1) := by decide +kernel
theorem d_O_mayUseMember_0 : decode b_O_mayUseMember 0 = .ok (.iload_n 2, 1) := by decide +kernel
theorem d_O_mayUseMember_1 : decode b_O_mayUseMember 1 = .ok (.tableswitch 69 1 3 #[59, 29, 27], 27) := by decide +kernel
theorem d_O_mayUseMember_28 : decode b_O_mayUseMember 28 = .ok (.iconst 1, 1) := by decide +kernel
theorem d_O_mayUseMember_29 : decode b_O_mayUseMember 29 = .ok (.ireturn, 1) := by decide +kernel
theorem d_O_mayUseMember_30 : decode b_O_mayUseMember 30 = .ok (.aload_n 0, 1) := by decide +kernel
theorem d_O_mayUseMember_31 : decode b_O_mayUseMember 31 = .ok (.getfield 10, 3) := by decide +kernel
theorem d_O_mayUseMember_34 : decode b_O_mayUseMember 34 = .ok (.iload_n 1, 1) := by decide +kernel
theorem d_O_mayUseMember_35 : decode b_O_mayUseMember 35 = .ok (.iload_n 3, 1) := by decide +kernel
theorem d_O_mayUseMember_36 : decode b_O_mayUseMember 36 = .ok (.invokevirtual 67, 3) := by decide +kernel
theorem d_O_mayUseMember_39 : decode b_O_mayUseMember 39 = .ok (.ifCond .ne 15, 3) := by decide +kernel
theorem d_O_mayUseMember_42 : decode b_O_mayUseMember 42 = .ok (.aload_n 0, 1) := by decide +kernel
theorem d_O_mayUseMember_43 : decode b_O_mayUseMember 43 = .ok (.getfield 10, 3) := by decide +kernel
theorem d_O_mayUseMember_46 : decode b_O_mayUseMember 46 = .ok (.iload_n 3, 1) := by decide +kernel
theorem d_O_mayUseMember_47 : decode b_O_mayUseMember 47 = .ok (.iload_n 1, 1) := by decide +kernel
theorem d_O_mayUseMember_48 : decode b_O_mayUseMember 48 = .ok (.invokevirtual 130, 3) := by decide +kernel
theorem d_O_mayUseMember_51 : decode b_O_mayUseMember 51 = .ok (.ifCond .eq 7, 3) := by decide +kernel
theorem d_O_mayUseMember_54 : decode b_O_mayUseMember 54 = .ok (.iconst 1, 1) := by decide +kernel
theorem d_O_mayUseMember_55 : decode b_O_mayUseMember 55 = .ok (.goto 4, 3) := by decide +kernel
theorem d_O_mayUseMember_58 : decode b_O_mayUseMember 58 = .ok (.iconst 0, 1) := by decide +kernel
theorem d_O_mayUseMember_59 : decode b_O_mayUseMember 59 = .ok (.ireturn, 1) := by decide +kernel
theorem d_O_mayUseMember_60 : decode b_O_mayUseMember 60 = .ok (.aload_n 0, 1) := by decide +kernel
theorem d_O_mayUseMember_61 : decode b_O_mayUseMember 61 = .ok (.getfield 10, 3) := by decide +kernel
theorem d_O_mayUseMember_64 : decode b_O_mayUseMember 64 = .ok (.iload_n 1, 1) := by decide +kernel
theorem d_O_mayUseMember_65 : decode b_O_mayUseMember 65 = .ok (.iload_n 3, 1) := by decide +kernel
theorem d_O_mayUseMember_66 : decode b_O_mayUseMember 66 = .ok (.invokevirtual 67, 3) := by decide +kernel
theorem d_O_mayUseMember_69 : decode b_O_mayUseMember 69 = .ok (.ireturn, 1) := by decide +kernel
theorem d_O_mayUseMember_70 : decode b_O_mayUseMember 70 = .ok (.aload_n 0, 1) := by decide +kernel
theorem d_O_mayUseMember_71 : decode b_O_mayUseMember 71 = .ok (.getfield 10, 3) := by decide +kernel
theorem d_O_mayUseMember_74 : decode b_O_mayUseMember 74 = .ok (.iload_n 1, 1) := by decide +kernel
theorem d_O_mayUseMember_75 : decode b_O_mayUseMember 75 = .ok (.iload_n 3, 1) := by decide +kernel
theorem d_O_mayUseMember_76 : decode b_O_mayUseMember 76 = .ok (.invokevirtual 133, 3) := by decide +kernel
theorem d_O_mayUseMember_79 : decode b_O_mayUseMember 79 = .ok (.ireturn, 1) := by decide +kernel
theorem d_O_interfaceMethods_0 : decode b_O_interfaceMethods 0 = .ok (.aload_n 0, 1) := by decide +kernel
theorem d_O_interfaceMethods_1 : decode b_O_interfaceMethods 1 = .ok (.getfield 10, 3) := by decide +kernel
theorem d_O_interfaceMethods_4 : decode b_O_interfaceMethods 4 = .ok (.iload_n 1, 1) := by decide +kernel
theorem d_O_interfaceMethods_5 : decode b_O_interfaceMethods 5 = .ok (.invokevirtual 155, 3) := by decide +kernel
theorem d_O_interfaceMethods_8 : decode b_O_interfaceMethods 8 = .ok (.aload_n 0, 1) := by decide +kernel
theorem d_O_interfaceMethods_9 : decode b_O_interfaceMethods 9 = .ok (.getfield 10, 3) := by decide +kernel
theorem d_O_interfaceMethods_12 : decode b_O_interfaceMethods 12 = .ok (.invokevirtual 193, 3) := by decide +kernel
theorem d_O_interfaceMethods_15 : decode b_O_interfaceMethods 15 = .ok (.iand, 1) := by decide +kernel
theorem d_O_interfaceMethods_16 : decode b_O_interfaceMethods 16 = .ok (.aload_n 0, 1) := by decide +kernel
theorem d_O_interfaceMethods_17 : decode b_O_interfaceMethods 17 = .ok (.getfield 23, 3) := by decide +kernel
theorem d_O_interfaceMethods_20 : decode b_O_interfaceMethods 20 = .ok (.iload_n 2, 1) := by decide +kernel
theorem d_O_interfaceMethods_21 : decode b_O_interfaceMethods 21 = .ok (.invokevirtual 197, 3) := by decide +kernel
theorem d_O_interfaceMethods_24 : decode b_O_interfaceMethods 24 = .ok (.iand, 1) := by decide +kernel
theorem d_O_interfaceMethods_25 : decode b_O_interfaceMethods 25 = .ok (.ireturn, 1) := by decide +kernel
theorem d_O_maximalSet_0 : decode b_O_maximalSet 0 = .ok (.aload_n 0, 1) := by decide +kernel
theorem d_O_maximalSet_1 : decode b_O_maximalSet 1 = .ok (.iload_n 1, 1) := by decide +kernel
theorem d_O_maximalSet_2 : decode b_O_maximalSet 2 = .ok (.iload_n 2, 1) := by decide +kernel
theorem d_O_maximalSet_3 : decode b_O_maximalSet 3 = .ok (.invokevirtual 181, 3) := by decide +kernel
theorem d_O_maximalSet_6 : decode b_O_maximalSet 6 = .ok (.istore_n 3, 1) := by decide +kernel
theorem d_O_maximalSet_7 : decode b_O_maximalSet 7 = .ok (.iload_n 3, 1) := by decide +kernel
theorem d_O_maximalSet_8 : decode b_O_maximalSet 8 = .ok (.istore 4, 2) := by decide +kernel
theorem d_O_maximalSet_10 : decode b_O_maximalSet 10 = .ok (.iconst 1, 1) := by decide +kernel
theorem d_O_maximalSet_11 : decode b_O_maximalSet 11 = .ok (.istore 5, 2) := by decide +kernel
theorem d_O_maximalSet_13 : decode b_O_maximalSet 13 = .ok (.iload 5, 2) := by decide +kernel
theorem d_O_maximalSet_15 : decode b_O_maximalSet 15 = .ok (.bipush 12, 2) := by decide +kernel
theorem d_O_maximalSet_17 : decode b_O_maximalSet 17 = .ok (.if_icmp .gt 34, 3) := by decide +kernel
theorem d_O_maximalSet_20 : decode b_O_maximalSet 20 = .ok (.iload_n 3, 1) := by decide +kernel
theorem d_O_maximalSet_21 : decode b_O_maximalSet 21 = .ok (.iload 5, 2) := by decide +kernel
theorem d_O_maximalSet_23 : decode b_O_maximalSet 23 = .ok (.invokestatic 200, 3) := by decide +kernel
theorem d_O_maximalSet_26 : decode b_O_maximalSet 26 = .ok (.ifCond .eq 19, 3) := by decide +kernel
theorem d_O_maximalSet_29 : decode b_O_maximalSet 29 = .ok (.iload 4, 2) := by decide +kernel
theorem d_O_maximalSet_31 : decode b_O_maximalSet 31 = .ok (.aload_n 0, 1) := by decide +kernel
theorem d_O_maximalSet_32 : decode b_O_maximalSet 32 = .ok (.getfield 10, 3) := by decide +kernel
theorem d_O_maximalSet_35 : decode b_O_maximalSet 35 = .ok (.iload 5, 2) := by decide +kernel
theorem d_O_maximalSet_37 : decode b_O_maximalSet 37 = .ok (.invokevirtual 155, 3) := by decide +kernel
theorem d_O_maximalSet_40 : decode b_O_maximalSet 40 = .ok (.iconst (-1), 1) := by decide +kernel
theorem d_O_maximalSet_41 : decode b_O_maximalSet 41 = .ok (.ixor, 1) := by decide +kernel
theorem d_O_maximalSet_42 : decode b_O_maximalSet 42 = .ok (.iand, 1) := by decide +kernel
theorem d_O_maximalSet_43 : decode b_O_maximalSet 43 = .ok (.istore 4, 2) := by decide +kernel
theorem d_O_maximalSet_45 : decode b_O_maximalSet 45 = .ok (.iinc 5 1, 3) := by decide +kernel
theorem d_O_maximalSet_48 : decode b_O_maximalSet 48 = .ok (.goto (-35), 3) := by decide +kernel
theorem d_O_maximalSet_51 : decode b_O_maximalSet 51 = .ok (.iload 4, 2) := by decide +kernel
theorem d_O_maximalSet_53 : decode b_O_maximalSet 53 = .ok (.ireturn, 1) := by decide +kernel
theorem d_O_bestOfInterfaces_0 : decode b_O_bestOfInterfaces 0 = .ok (.aload_n 0, 1) := by decide +kernel
theorem d_O_bestOfInterfaces_1 : decode b_O_bestOfInterfaces 1 = .ok (.iload_n 1, 1) := by decide +kernel
theorem d_O_bestOfInterfaces_2 : decode b_O_bestOfInterfaces 2 = .ok (.iload_n 2, 1) := by decide +kernel
theorem d_O_bestOfInterfaces_3 : decode b_O_bestOfInterfaces 3 = .ok (.invokevirtual 143, 3) := by decide +kernel
theorem d_O_bestOfInterfaces_6 : decode b_O_bestOfInterfaces 6 = .ok (.aload_n 0, 1) := by decide +kernel
theorem d_O_bestOfInterfaces_7 : decode b_O_bestOfInterfaces 7 = .ok (.getfield 23, 3) := by decide +kernel
theorem d_O_bestOfInterfaces_10 : decode b_O_bestOfInterfaces 10 = .ok (.iload_n 2, 1) := by decide +kernel
theorem d_O_bestOfInterfaces_11 : decode b_O_bestOfInterfaces 11 = .ok (.invokevirtual 203, 3) := by decide +kernel
theorem d_O_bestOfInterfaces_14 : decode b_O_bestOfInterfaces 14 = .ok (.iconst (-1), 1) := by decide +kernel
theorem d_O_bestOfInterfaces_15 : decode b_O_bestOfInterfaces 15 = .ok (.ixor, 1) := by decide +kernel
theorem d_O_bestOfInterfaces_16 : decode b_O_bestOfInterfaces 16 = .ok (.iand, 1) := by decide +kernel
theorem d_O_bestOfInterfaces_17 : decode b_O_bestOfInterfaces 17 = .ok (.istore_n 3, 1) := by decide +kernel
theorem d_O_bestOfInterfaces_18 : decode b_O_bestOfInterfaces 18 = .ok (.iload_n 3, 1) := by decide +kernel
theorem d_O_bestOfInterfaces_19 : decode b_O_bestOfInterfaces 19 = .ok (.invokestatic 158, 3) := by decide +kernel
theorem d_O_bestOfInterfaces_22 : decode b_O_bestOfInterfaces 22 = .ok (.lookupswitch 34 #[(0, 26), (1, 29)], 26) := by decide +kernel
theorem d_O_bestOfInterfaces_48 : decode b_O_bestOfInterfaces 48 = .ok (.bipush (-7), 2) := by decide +kernel
theorem d_O_bestOfInterfaces_50 : decode b_O_bestOfInterfaces 50 = .ok (.ireturn, 1) := by decide +kernel
theorem d_O_bestOfInterfaces_51 : decode b_O_bestOfInterfaces 51 = .ok (.iload_n 3, 1) := by decide +kernel
theorem d_O_bestOfInterfaces_52 : decode b_O_bestOfInterfaces 52 = .ok (.invokestatic 184, 3) := by decide +kernel
theorem d_O_bestOfInterfaces_55 : decode b_O_bestOfInterfaces 55 = .ok (.ireturn, 1) := by decide +kernel
theorem d_O_bestOfInterfaces_56 : decode b_O_bestOfInterfaces 56 = .ok (.bipush (-6), 2) := by decide +kernel
theorem d_O_bestOfInterfaces_58 : decode b_O_bestOfInterfaces 58 = .ok (.ireturn, 1) := by decide +kernel
theorem d_O_canOverride_0 : decode b_O_canOverride 0 = .ok (.aload_n 0, 1) := by decide +kernel
theorem d_O_canOverride_1 : decode b_O_canOverride 1 = .ok (.getfield 23, 3) := by decide +kernel
theorem d_O_canOverride_4 : decode b_O_canOverride 4 = .ok (.iload_n 3, 1) := by decide +kernel
theorem d_O_canOverride_5 : decode b_O_canOverride 5 = .ok (.invokevirtual 206, 3) := by decide +kernel
theorem d_O_canOverride_8 : decode b_O_canOverride 8 = .ok (.istore 4, 2) := by decide +kernel
theorem d_O_canOverride_10 : decode b_O_canOverride 10 = .ok (.iload 4, 2) := by decide +kernel
theorem d_O_canOverride_12 : decode b_O_canOverride 12 = .ok (.iload_n 2, 1) := by decide +kernel
theorem d_O_canOverride_13 : decode b_O_canOverride 13 = .ok (.invokestatic 200, 3) := by decide +kernel
theorem d_O_canOverride_16 : decode b_O_canOverride 16 = .ok (.ifCond .ne 5, 3) := by decide +kernel
theorem d_O_canOverride_19 : decode b_O_canOverride 19 = .ok (.iconst 0, 1) := by decide +kernel
theorem d_O_canOverride_20 : decode b_O_canOverride 20 = .ok (.ireturn, 1) := by decide +kernel
theorem d_O_canOverride_21 : decode b_O_canOverride 21 = .ok (.aload_n 0, 1) := by decide +kernel
theorem d_O_canOverride_22 : decode b_O_canOverride 22 = .ok (.getfield 10, 3) := by decide +kernel
theorem d_O_canOverride_25 : decode b_O_canOverride 25 = .ok (.iload_n 1, 1) := by decide +kernel
end
section
theorem d_O_canOverride_26 : decode b_O_canOverride 26 = .ok (.invokevirtual 172, 3) := by decide +kernel
theorem d_O_canOverride_29 : decode b_O_canOverride 29 = .ok (.aload_n 0, 1) := by decide +kernel
theorem d_O_canOverride_30 : decode b_O_canOverride 30 = .ok (.getfield 10, 3) := by decide +kernel
theorem d_O_canOverride_33 : decode b_O_canOverride 33 = .ok (.iload_n 2, 1) := by decide +kernel
theorem d_O_canOverride_34 : decode b_O_canOverride 34 = .ok (.invokevirtual 209, 3) := by decide +kernel
theorem d_O_canOverride_37 : decode b_O_canOverride 37 = .ok (.iand, 1) := by decide +kernel
theorem d_O_canOverride_38 : decode b_O_canOverride 38 = .ok (.iload 4, 2) := by decide +kernel
theorem d_O_canOverride_40 : decode b_O_canOverride 40 = .ok (.iand, 1) := by decide +kernel
theorem d_O_canOverride_41 : decode b_O_canOverride 41 = .ok (.istore 5, 2) := by decide +kernel
theorem d_O_canOverride_43 : decode b_O_canOverride 43 = .ok (.iconst 1, 1) := by decide +kernel
theorem d_O_canOverride_44 : decode b_O_canOverride 44 = .ok (.iload_n 2, 1) := by decide +kernel
theorem d_O_canOverride_45 : decode b_O_canOverride 45 = .ok (.ishl, 1) := by decide +kernel
theorem d_O_canOverride_46 : decode b_O_canOverride 46 = .ok (.istore 6, 2) := by decide +kernel
theorem d_O_canOverride_48 : decode b_O_canOverride 48 = .ok (.iload_n 2, 1) := by decide +kernel
theorem d_O_canOverride_49 : decode b_O_canOverride 49 = .ok (.iconst 1, 1) := by decide +kernel
theorem d_O_canOverride_50 : decode b_O_canOverride 50 = .ok (.iadd, 1) := by decide +kernel
theorem d_O_canOverride_51 : decode b_O_canOverride 51 = .ok (.istore 7, 2) := by decide +kernel
theorem d_O_canOverride_53 : decode b_O_canOverride 53 = .ok (.iload 7, 2) := by decide +kernel
theorem d_O_canOverride_55 : decode b_O_canOverride 55 = .ok (.iload_n 1, 1) := by decide +kernel
theorem d_O_canOverride_56 : decode b_O_canOverride 56 = .ok (.if_icmp .gt 40, 3) := by decide +kernel
theorem d_O_canOverride_59 : decode b_O_canOverride 59 = .ok (.iload 5, 2) := by decide +kernel
theorem d_O_canOverride_61 : decode b_O_canOverride 61 = .ok (.iload 7, 2) := by decide +kernel
theorem d_O_canOverride_63 : decode b_O_canOverride 63 = .ok (.invokestatic 200, 3) := by decide +kernel
theorem d_O_canOverride_66 : decode b_O_canOverride 66 = .ok (.ifCond .eq 24, 3) := by decide +kernel
theorem d_O_canOverride_69 : decode b_O_canOverride 69 = .ok (.aload_n 0, 1) := by decide +kernel
theorem d_O_canOverride_70 : decode b_O_canOverride 70 = .ok (.iload 7, 2) := by decide +kernel
theorem d_O_canOverride_72 : decode b_O_canOverride 72 = .ok (.iload 6, 2) := by decide +kernel
theorem d_O_canOverride_74 : decode b_O_canOverride 74 = .ok (.iload_n 3, 1) := by decide +kernel
theorem d_O_canOverride_75 : decode b_O_canOverride 75 = .ok (.invokevirtual 212, 3) := by decide +kernel
theorem d_O_canOverride_78 : decode b_O_canOverride 78 = .ok (.ifCond .eq 12, 3) := by decide +kernel
theorem d_O_canOverride_81 : decode b_O_canOverride 81 = .ok (.iload 6, 2) := by decide +kernel
theorem d_O_canOverride_83 : decode b_O_canOverride 83 = .ok (.iconst 1, 1) := by decide +kernel
theorem d_O_canOverride_84 : decode b_O_canOverride 84 = .ok (.iload 7, 2) := by decide +kernel
theorem d_O_canOverride_86 : decode b_O_canOverride 86 = .ok (.ishl, 1) := by decide +kernel
theorem d_O_canOverride_87 : decode b_O_canOverride 87 = .ok (.ior, 1) := by decide +kernel
theorem d_O_canOverride_88 : decode b_O_canOverride 88 = .ok (.istore 6, 2) := by decide +kernel
theorem d_O_canOverride_90 : decode b_O_canOverride 90 = .ok (.iinc 7 1, 3) := by decide +kernel
theorem d_O_canOverride_93 : decode b_O_canOverride 93 = .ok (.goto (-40), 3) := by decide +kernel
theorem d_O_canOverride_96 : decode b_O_canOverride 96 = .ok (.iload 6, 2) := by decide +kernel
theorem d_O_canOverride_98 : decode b_O_canOverride 98 = .ok (.iload_n 1, 1) := by decide +kernel
theorem d_O_canOverride_99 : decode b_O_canOverride 99 = .ok (.invokestatic 200, 3) := by decide +kernel
theorem d_O_canOverride_102 : decode b_O_canOverride 102 = .ok (.ireturn, 1) := by decide +kernel
theorem d_O_overridesOneOf_0 : decode b_O_overridesOneOf 0 = .ok (.iconst 1, 1) := by decide +kernel
theorem d_O_overridesOneOf_1 : decode b_O_overridesOneOf 1 = .ok (.istore 4, 2) := by decide +kernel
theorem d_O_overridesOneOf_3 : decode b_O_overridesOneOf 3 = .ok (.iload 4, 2) := by decide +kernel
theorem d_O_overridesOneOf_5 : decode b_O_overridesOneOf 5 = .ok (.iload_n 1, 1) := by decide +kernel
theorem d_O_overridesOneOf_6 : decode b_O_overridesOneOf 6 = .ok (.if_icmp .ge 31, 3) := by decide +kernel
theorem d_O_overridesOneOf_9 : decode b_O_overridesOneOf 9 = .ok (.iload_n 2, 1) := by decide +kernel
theorem d_O_overridesOneOf_10 : decode b_O_overridesOneOf 10 = .ok (.iload 4, 2) := by decide +kernel
theorem d_O_overridesOneOf_12 : decode b_O_overridesOneOf 12 = .ok (.invokestatic 200, 3) := by decide +kernel
theorem d_O_overridesOneOf_15 : decode b_O_overridesOneOf 15 = .ok (.ifCond .eq 16, 3) := by decide +kernel
theorem d_O_overridesOneOf_18 : decode b_O_overridesOneOf 18 = .ok (.aload_n 0, 1) := by decide +kernel
theorem d_O_overridesOneOf_19 : decode b_O_overridesOneOf 19 = .ok (.iload_n 1, 1) := by decide +kernel
theorem d_O_overridesOneOf_20 : decode b_O_overridesOneOf 20 = .ok (.iload 4, 2) := by decide +kernel
theorem d_O_overridesOneOf_22 : decode b_O_overridesOneOf 22 = .ok (.iload_n 3, 1) := by decide +kernel
theorem d_O_overridesOneOf_23 : decode b_O_overridesOneOf 23 = .ok (.invokevirtual 215, 3) := by decide +kernel
theorem d_O_overridesOneOf_26 : decode b_O_overridesOneOf 26 = .ok (.ifCond .eq 5, 3) := by decide +kernel
theorem d_O_overridesOneOf_29 : decode b_O_overridesOneOf 29 = .ok (.iconst 1, 1) := by decide +kernel
theorem d_O_overridesOneOf_30 : decode b_O_overridesOneOf 30 = .ok (.ireturn, 1) := by decide +kernel
theorem d_O_overridesOneOf_31 : decode b_O_overridesOneOf 31 = .ok (.iinc 4 1, 3) := by decide +kernel
theorem d_O_overridesOneOf_34 : decode b_O_overridesOneOf 34 = .ok (.goto (-31), 3) := by decide +kernel
theorem d_O_overridesOneOf_37 : decode b_O_overridesOneOf 37 = .ok (.iconst 0, 1) := by decide +kernel
theorem d_O_overridesOneOf_38 : decode b_O_overridesOneOf 38 = .ok (.ireturn, 1) := by decide +kernel
theorem d_O_overridesAtOnce_0 : decode b_O_overridesAtOnce 0 = .ok (.aload_n 0, 1) := by decide +kernel
theorem d_O_overridesAtOnce_1 : decode b_O_overridesAtOnce 1 = .ok (.getfield 23, 3) := by decide +kernel
theorem d_O_overridesAtOnce_4 : decode b_O_overridesAtOnce 4 = .ok (.iload_n 1, 1) := by decide +kernel
theorem d_O_overridesAtOnce_5 : decode b_O_overridesAtOnce 5 = .ok (.iload_n 3, 1) := by decide +kernel
theorem d_O_overridesAtOnce_6 : decode b_O_overridesAtOnce 6 = .ok (.invokevirtual 187, 3) := by decide +kernel
theorem d_O_overridesAtOnce_9 : decode b_O_overridesAtOnce 9 = .ok (.ifCond .ne 5, 3) := by decide +kernel
theorem d_O_overridesAtOnce_12 : decode b_O_overridesAtOnce 12 = .ok (.iconst 0, 1) := by decide +kernel
theorem d_O_overridesAtOnce_13 : decode b_O_overridesAtOnce 13 = .ok (.ireturn, 1) := by decide +kernel
theorem d_O_overridesAtOnce_14 : decode b_O_overridesAtOnce 14 = .ok (.aload_n 0, 1) := by decide +kernel
theorem d_O_overridesAtOnce_15 : decode b_O_overridesAtOnce 15 = .ok (.getfield 23, 3) := by decide +kernel
theorem d_O_overridesAtOnce_18 : decode b_O_overridesAtOnce 18 = .ok (.iload_n 2, 1) := by decide +kernel
theorem d_O_overridesAtOnce_19 : decode b_O_overridesAtOnce 19 = .ok (.iload_n 3, 1) := by decide +kernel
theorem d_O_overridesAtOnce_20 : decode b_O_overridesAtOnce 20 = .ok (.invokevirtual 187, 3) := by decide +kernel
theorem d_O_overridesAtOnce_23 : decode b_O_overridesAtOnce 23 = .ok (.tableswitch 37 1 3 #[27, 25, 25], 25) := by decide +kernel
theorem d_O_overridesAtOnce_48 : decode b_O_overridesAtOnce 48 = .ok (.iconst 1, 1) := by decide +kernel
theorem d_O_overridesAtOnce_49 : decode b_O_overridesAtOnce 49 = .ok (.ireturn, 1) := by decide +kernel
theorem d_O_overridesAtOnce_50 : decode b_O_overridesAtOnce 50 = .ok (.aload_n 0, 1) := by decide +kernel
theorem d_O_overridesAtOnce_51 : decode b_O_overridesAtOnce 51 = .ok (.getfield 10, 3) := by decide +kernel
theorem d_O_overridesAtOnce_54 : decode b_O_overridesAtOnce 54 = .ok (.iload_n 1, 1) := by decide +kernel
theorem d_O_overridesAtOnce_55 : decode b_O_overridesAtOnce 55 = .ok (.iload_n 2, 1) := by decide +kernel
theorem d_O_overridesAtOnce_56 : decode b_O_overridesAtOnce 56 = .ok (.invokevirtual 67, 3) := by decide +kernel
theorem d_O_overridesAtOnce_59 : decode b_O_overridesAtOnce 59 = .ok (.ireturn, 1) := by decide +kernel
theorem d_O_overridesAtOnce_60 : decode b_O_overridesAtOnce 60 = .ok (.iconst 0, 1) := by decide +kernel
theorem d_O_overridesAtOnce_61 : decode b_O_overridesAtOnce 61 = .ok (.ireturn, 1) := by decide +kernel
theorem d_O_select_0 : decode b_O_select 0 = .ok (.aload_n 0, 1) := by decide +kernel
theorem d_O_select_1 : decode b_O_select 1 = .ok (.getfield 23, 3) := by decide +kernel
theorem d_O_select_4 : decode b_O_select 4 = .ok (.iload_n 2, 1) := by decide +kernel
theorem d_O_select_5 : decode b_O_select 5 = .ok (.iload_n 3, 1) := by decide +kernel
theorem d_O_select_6 : decode b_O_select 6 = .ok (.invokevirtual 187, 3) := by decide +kernel
theorem d_O_select_9 : decode b_O_select 9 = .ok (.ifCond .ne 5, 3) := by decide +kernel
theorem d_O_select_12 : decode b_O_select 12 = .ok (.iload_n 2, 1) := by decide +kernel
theorem d_O_select_13 : decode b_O_select 13 = .ok (.ireturn, 1) := by decide +kernel
theorem d_O_select_14 : decode b_O_select 14 = .ok (.aload_n 0, 1) := by decide +kernel
theorem d_O_select_15 : decode b_O_select 15 = .ok (.getfield 10, 3) := by decide +kernel
theorem d_O_select_18 : decode b_O_select 18 = .ok (.iload_n 1, 1) := by decide +kernel
theorem d_O_select_19 : decode b_O_select 19 = .ok (.invokevirtual 172, 3) := by decide +kernel
theorem d_O_select_22 : decode b_O_select 22 = .ok (.istore 4, 2) := by decide +kernel
theorem d_O_select_24 : decode b_O_select 24 = .ok (.iload_n 1, 1) := by decide +kernel
theorem d_O_select_25 : decode b_O_select 25 = .ok (.istore 5, 2) := by decide +kernel
theorem d_O_select_27 : decode b_O_select 27 = .ok (.iload 5, 2) := by decide +kernel
theorem d_O_select_29 : decode b_O_select 29 = .ok (.iconst 1, 1) := by decide +kernel
theorem d_O_select_30 : decode b_O_select 30 = .ok (.if_icmp .lt 33, 3) := by decide +kernel
theorem d_O_select_33 : decode b_O_select 33 = .ok (.iload 4, 2) := by decide +kernel
theorem d_O_select_35 : decode b_O_select 35 = .ok (.iload 5, 2) := by decide +kernel
theorem d_O_select_37 : decode b_O_select 37 = .ok (.invokestatic 200, 3) := by decide +kernel
theorem d_O_select_40 : decode b_O_select 40 = .ok (.ifCond .eq 17, 3) := by decide +kernel
theorem d_O_select_43 : decode b_O_select 43 = .ok (.aload_n 0, 1) := by decide +kernel
theorem d_O_select_44 : decode b_O_select 44 = .ok (.iload 5, 2) := by decide +kernel
theorem d_O_select_46 : decode b_O_select 46 = .ok (.iload_n 2, 1) := by decide +kernel
theorem d_O_select_47 : decode b_O_select 47 = .ok (.iload_n 3, 1) := by decide +kernel
theorem d_O_select_48 : decode b_O_select 48 = .ok (.invokevirtual 139, 3) := by decide +kernel
theorem d_O_select_51 : decode b_O_select 51 = .ok (.ifCond .eq 6, 3) := by decide +kernel
theorem d_O_select_54 : decode b_O_select 54 = .ok (.iload 5, 2) := by decide +kernel
theorem d_O_select_56 : decode b_O_select 56 = .ok (.ireturn, 1) := by decide +kernel
theorem d_O_select_57 : decode b_O_select 57 = .ok (.iinc 5 (-1), 3) := by decide +kernel
theorem d_O_select_60 : decode b_O_select 60 = .ok (.goto (-33), 3) := by decide +kernel
theorem d_O_select_63 : decode b_O_select 63 = .ok (.aload_n 0, 1) := by decide +kernel
theorem d_O_select_64 : decode b_O_select 64 = .ok (.iload_n 1, 1) := by decide +kernel
theorem d_O_select_65 : decode b_O_select 65 = .ok (.iload_n 3, 1) := by decide +kernel
theorem d_O_select_66 : decode b_O_select 66 = .ok (.invokevirtual 178, 3) := by decide +kernel
theorem d_O_select_69 : decode b_O_select 69 = .ok (.ireturn, 1) := by decide +kernel
theorem d_O_runnable_0 : decode b_O_runnable 0 = .ok (.iload_n 1, 1) := by decide +kernel
theorem d_O_runnable_1 : decode b_O_runnable 1 = .ok (.ifCond .le 21, 3) := by decide +kernel
theorem d_O_runnable_4 : decode b_O_runnable 4 = .ok (.aload_n 0, 1) := by decide +kernel
theorem d_O_runnable_5 : decode b_O_runnable 5 = .ok (.getfield 23, 3) := by decide +kernel
theorem d_O_runnable_8 : decode b_O_runnable 8 = .ok (.iload_n 2, 1) := by decide +kernel
theorem d_O_runnable_9 : decode b_O_runnable 9 = .ok (.invokevirtual 203, 3) := by decide +kernel
theorem d_O_runnable_12 : decode b_O_runnable 12 = .ok (.iload_n 1, 1) := by decide +kernel
theorem d_O_runnable_13 : decode b_O_runnable 13 = .ok (.invokestatic 200, 3) := by decide +kernel
theorem d_O_runnable_16 : decode b_O_runnable 16 = .ok (.ifCond .eq 6, 3) := by decide +kernel
theorem d_O_runnable_19 : decode b_O_runnable 19 = .ok (.bipush (-7), 2) := by decide +kernel
theorem d_O_runnable_21 : decode b_O_runnable 21 = .ok (.ireturn, 1) := by decide +kernel
theorem d_O_runnable_22 : decode b_O_runnable 22 = .ok (.iload_n 1, 1) := by decide +kernel
theorem d_O_runnable_23 : decode b_O_runnable 23 = .ok (.ireturn, 1) := by decide +kernel
theorem d_O_invokeVirtual_0 : decode b_O_invokeVirtual 0 = .ok (.aload_n 0, 1) := by decide +kernel
theorem d_O_invokeVirtual_1 : decode b_O_invokeVirtual 1 = .ok (.iconst 0, 1) := by decide +kernel
theorem d_O_invokeVirtual_2 : decode b_O_invokeVirtual 2 = .ok (.iload_n 2, 1) := by decide +kernel
theorem d_O_invokeVirtual_3 : decode b_O_invokeVirtual 3 = .ok (.iload_n 1, 1) := by decide +kernel
theorem d_O_invokeVirtual_4 : decode b_O_invokeVirtual 4 = .ok (.iload_n 3, 1) := by decide +kernel
theorem d_O_invokeVirtual_5 : decode b_O_invokeVirtual 5 = .ok (.invokevirtual 106, 3) := by decide +kernel
theorem d_O_invokeVirtual_8 : decode b_O_invokeVirtual 8 = .ok (.istore 5, 2) := by decide +kernel
theorem d_O_invokeVirtual_10 : decode b_O_invokeVirtual 10 = .ok (.iload 5, 2) := by decide +kernel
theorem d_O_invokeVirtual_12 : decode b_O_invokeVirtual 12 = .ok (.ifCond .gt 6, 3) := by decide +kernel
theorem d_O_invokeVirtual_15 : decode b_O_invokeVirtual 15 = .ok (.iload 5, 2) := by decide +kernel
theorem d_O_invokeVirtual_17 : decode b_O_invokeVirtual 17 = .ok (.ireturn, 1) := by decide +kernel
theorem d_O_invokeVirtual_18 : decode b_O_invokeVirtual 18 = .ok (.aload_n 0, 1) := by decide +kernel
theorem d_O_invokeVirtual_19 : decode b_O_invokeVirtual 19 = .ok (.getfield 23, 3) := by decide +kernel
theorem d_O_invokeVirtual_22 : decode b_O_invokeVirtual 22 = .ok (.iload 5, 2) := by decide +kernel
theorem d_O_invokeVirtual_24 : decode b_O_invokeVirtual 24 = .ok (.iload_n 3, 1) := by decide +kernel
theorem d_O_invokeVirtual_25 : decode b_O_invokeVirtual 25 = .ok (.invokevirtual 110, 3) := by decide +kernel
theorem d_O_invokeVirtual_28 : decode b_O_invokeVirtual 28 = .ok (.ifCond .eq 6, 3) := by decide +kernel
theorem d_O_invokeVirtual_31 : decode b_O_invokeVirtual 31 = .ok (.bipush (-6), 2) := by decide +kernel
theorem d_O_invokeVirtual_33 : decode b_O_invokeVirtual 33 = .ok (.ireturn, 1) := by decide +kernel
theorem d_O_invokeVirtual_34 : decode b_O_invokeVirtual 34 = .ok (.aload_n 0, 1) := by decide +kernel
theorem d_O_invokeVirtual_35 : decode b_O_invokeVirtual 35 = .ok (.aload_n 0, 1) := by decide +kernel
theorem d_O_invokeVirtual_36 : decode b_O_invokeVirtual 36 = .ok (.iload 4, 2) := by decide +kernel
theorem d_O_invokeVirtual_38 : decode b_O_invokeVirtual 38 = .ok (.iload 5, 2) := by decide +kernel
theorem d_O_invokeVirtual_40 : decode b_O_invokeVirtual 40 = .ok (.iload_n 3, 1) := by decide +kernel
theorem d_O_invokeVirtual_41 : decode b_O_invokeVirtual 41 = .ok (.invokevirtual 218, 3) := by decide +kernel
theorem d_O_invokeVirtual_44 : decode b_O_invokeVirtual 44 = .ok (.iload_n 3, 1) := by decide +kernel
theorem d_O_invokeVirtual_45 : decode b_O_invokeVirtual 45 = .ok (.invokevirtual 221, 3) := by decide +kernel
theorem d_O_invokeVirtual_48 : decode b_O_invokeVirtual 48 = .ok (.ireturn, 1) := by decide +kernel
theorem d_O_invokeInterface_0 : decode b_O_invokeInterface 0 = .ok (.aload_n 0, 1) := by decide +kernel
theorem d_O_invokeInterface_1 : decode b_O_invokeInterface 1 = .ok (.iconst 1, 1) := by decide +kernel
theorem d_O_invokeInterface_2 : decode b_O_invokeInterface 2 = .ok (.iload_n 2, 1) := by decide +kernel
theorem d_O_invokeInterface_3 : decode b_O_invokeInterface 3 = .ok (.iload_n 1, 1) := by decide +kernel
theorem d_O_invokeInterface_4 : decode b_O_invokeInterface 4 = .ok (.iload_n 3, 1) := by decide +kernel
theorem d_O_invokeInterface_5 : decode b_O_invokeInterface 5 = .ok (.invokevirtual 106, 3) := by decide +kernel
theorem d_O_invokeInterface_8 : decode b_O_invokeInterface 8 = .ok (.istore 5, 2) := by decide +kernel
theorem d_O_invokeInterface_10 : decode b_O_invokeInterface 10 = .ok (.iload 5, 2) := by decide +kernel
theorem d_O_invokeInterface_12 : decode b_O_invokeInterface 12 = .ok (.ifCond .gt 6, 3) := by decide +kernel
theorem d_O_invokeInterface_15 : decode b_O_invokeInterface 15 = .ok (.iload 5, 2) := by decide +kernel
theorem d_O_invokeInterface_17 : decode b_O_invokeInterface 17 = .ok (.ireturn, 1) := by decide +kernel
theorem d_O_invokeInterface_18 : decode b_O_invokeInterface 18 = .ok (.aload_n 0, 1) := by decide +kernel
theorem d_O_invokeInterface_19 : decode b_O_invokeInterface 19 = .ok (.getfield 23, 3) := by decide +kernel
theorem d_O_invokeInterface_22 : decode b_O_invokeInterface 22 = .ok (.iload 5, 2) := by decide +kernel
theorem d_O_invokeInterface_24 : decode b_O_invokeInterface 24 = .ok (.iload_n 3, 1) := by decide +kernel
theorem d_O_invokeInterface_25 : decode b_O_invokeInterface 25 = .ok (.invokevirtual 110, 3) := by decide +kernel
theorem d_O_invokeInterface_28 : decode b_O_invokeInterface 28 = .ok (.ifCond .ne 17, 3) := by decide +kernel
theorem d_O_invokeInterface_31 : decode b_O_invokeInterface 31 = .ok (.aload_n 0, 1) := by decide +kernel
theorem d_O_invokeInterface_32 : decode b_O_invokeInterface 32 = .ok (.getfield 10, 3) := by decide +kernel
theorem d_O_invokeInterface_35 : decode b_O_invokeInterface 35 = .ok (.iload 4, 2) := by decide +kernel
theorem d_O_invokeInterface_37 : decode b_O_invokeInterface 37 = .ok (.iload 5, 2) := by decide +kernel
theorem d_O_invokeInterface_39 : decode b_O_invokeInterface 39 = .ok (.invokevirtual 130, 3) := by decide +kernel
theorem d_O_invokeInterface_42 : decode b_O_invokeInterface 42 = .ok (.ifCond .ne 6, 3) := by decide +kernel
theorem d_O_invokeInterface_45 : decode b_O_invokeInterface 45 = .ok (.bipush (-6), 2) := by decide +kernel
theorem d_O_invokeInterface_47 : decode b_O_invokeInterface 47 = .ok (.ireturn, 1) := by decide +kernel
theorem d_O_invokeInterface_48 : decode b_O_invokeInterface 48 = .ok (.aload_n 0, 1) := by decide +kernel
theorem d_O_invokeInterface_49 : decode b_O_invokeInterface 49 = .ok (.iload 4, 2) := by decide +kernel
theorem d_O_invokeInterface_51 : decode b_O_invokeInterface 51 = .ok (.iload 5, 2) := by decide +kernel
theorem d_O_invokeInterface_53 : decode b_O_invokeInterface 53 = .ok (.iload_n 3, 1) := by decide +kernel
theorem d_O_invokeInterface_54 : decode b_O_invokeInterface 54 = .ok (.invokevirtual 218, 3) := by decide +kernel
theorem d_O_invokeInterface_57 : decode b_O_invokeInterface 57 = .ok (.istore 6, 2) := by decide +kernel
theorem d_O_invokeInterface_59 : decode b_O_invokeInterface 59 = .ok (.iload 6, 2) := by decide +kernel
theorem d_O_invokeInterface_61 : decode b_O_invokeInterface 61 = .ok (.ifCond .gt 6, 3) := by decide +kernel
theorem d_O_invokeInterface_64 : decode b_O_invokeInterface 64 = .ok (.iload 6, 2) := by decide +kernel
theorem d_O_invokeInterface_66 : decode b_O_invokeInterface 66 = .ok (.ireturn, 1) := by decide +kernel
theorem d_O_invokeInterface_67 : decode b_O_invokeInterface 67 = .ok (.aload_n 0, 1) := by decide +kernel
theorem d_O_invokeInterface_68 : decode b_O_invokeInterface 68 = .ok (.getfield 23, 3) := by decide +kernel
theorem d_O_invokeInterface_71 : decode b_O_invokeInterface 71 = .ok (.iload 6, 2) := by decide +kernel
theorem d_O_invokeInterface_73 : decode b_O_invokeInterface 73 = .ok (.iload_n 3, 1) := by decide +kernel
theorem d_O_invokeInterface_74 : decode b_O_invokeInterface 74 = .ok (.invokevirtual 187, 3) := by decide +kernel
theorem d_O_invokeInterface_77 : decode b_O_invokeInterface 77 = .ok (.istore 7, 2) := by decide +kernel
theorem d_O_invokeInterface_79 : decode b_O_invokeInterface 79 = .ok (.iload 7, 2) := by decide +kernel
theorem d_O_invokeInterface_81 : decode b_O_invokeInterface 81 = .ok (.iconst 3, 1) := by decide +kernel
theorem d_O_invokeInterface_82 : decode b_O_invokeInterface 82 = .ok (.if_icmp .eq 11, 3) := by decide +kernel
theorem d_O_invokeInterface_85 : decode b_O_invokeInterface 85 = .ok (.iload 7, 2) := by decide +kernel
theorem d_O_invokeInterface_87 : decode b_O_invokeInterface 87 = .ok (.ifCond .eq 6, 3) := by decide +kernel
theorem d_O_invokeInterface_90 : decode b_O_invokeInterface 90 = .ok (.bipush (-5), 2) := by decide +kernel
theorem d_O_invokeInterface_92 : decode b_O_invokeInterface 92 = .ok (.ireturn, 1) := by decide +kernel
theorem d_O_invokeInterface_93 : decode b_O_invokeInterface 93 = .ok (.aload_n 0, 1) := by decide +kernel
theorem d_O_invokeInterface_94 : decode b_O_invokeInterface 94 = .ok (.iload 6, 2) := by decide +kernel
theorem d_O_invokeInterface_96 : decode b_O_invokeInterface 96 = .ok (.iload_n 3, 1) := by decide +kernel
theorem d_O_invokeInterface_97 : decode b_O_invokeInterface 97 = .ok (.invokevirtual 221, 3) := by decide +kernel
theorem d_O_invokeInterface_100 : decode b_O_invokeInterface 100 = .ok (.ireturn, 1) := by decide +kernel
theorem d_O_invokeSpecial_0 : decode b_O_invokeSpecial 0 = .ok (.aload_n 0, 1) := by decide +kernel
theorem d_O_invokeSpecial_1 : decode b_O_invokeSpecial 1 = .ok (.aload_n 0, 1) := by decide +kernel
theorem d_O_invokeSpecial_2 : decode b_O_invokeSpecial 2 = .ok (.getfield 10, 3) := by decide +kernel
theorem d_O_invokeSpecial_5 : decode b_O_invokeSpecial 5 = .ok (.iload_n 1, 1) := by decide +kernel
theorem d_O_invokeSpecial_6 : decode b_O_invokeSpecial 6 = .ok (.invokevirtual 52, 3) := by decide +kernel
theorem d_O_invokeSpecial_9 : decode b_O_invokeSpecial 9 = .ok (.iload_n 2, 1) := by decide +kernel
theorem d_O_invokeSpecial_10 : decode b_O_invokeSpecial 10 = .ok (.iload_n 1, 1) := by decide +kernel
theorem d_O_invokeSpecial_11 : decode b_O_invokeSpecial 11 = .ok (.iload_n 3, 1) := by decide +kernel
theorem d_O_invokeSpecial_12 : decode b_O_invokeSpecial 12 = .ok (.invokevirtual 106, 3) := by decide +kernel
theorem d_O_invokeSpecial_15 : decode b_O_invokeSpecial 15 = .ok (.istore 4, 2) := by decide +kernel
theorem d_O_invokeSpecial_17 : decode b_O_invokeSpecial 17 = .ok (.iload 4, 2) := by decide +kernel
theorem d_O_invokeSpecial_19 : decode b_O_invokeSpecial 19 = .ok (.ifCond .gt 6, 3) := by decide +kernel
theorem d_O_invokeSpecial_22 : decode b_O_invokeSpecial 22 = .ok (.iload 4, 2) := by decide +kernel
theorem d_O_invokeSpecial_24 : decode b_O_invokeSpecial 24 = .ok (.ireturn, 1) := by decide +kernel
theorem d_O_invokeSpecial_25 : decode b_O_invokeSpecial 25 = .ok (.aload_n 0, 1) := by decide +kernel
theorem d_O_invokeSpecial_26 : decode b_O_invokeSpecial 26 = .ok (.getfield 23, 3) := by decide +kernel
theorem d_O_invokeSpecial_29 : decode b_O_invokeSpecial 29 = .ok (.iload 4, 2) := by decide +kernel
theorem d_O_invokeSpecial_31 : decode b_O_invokeSpecial 31 = .ok (.iload_n 3, 1) := by decide +kernel
theorem d_O_invokeSpecial_32 : decode b_O_invokeSpecial 32 = .ok (.invokevirtual 110, 3) := by decide +kernel
theorem d_O_invokeSpecial_35 : decode b_O_invokeSpecial 35 = .ok (.ifCond .eq 6, 3) := by decide +kernel
theorem d_O_invokeSpecial_38 : decode b_O_invokeSpecial 38 = .ok (.bipush (-6), 2) := by decide +kernel
theorem d_O_invokeSpecial_40 : decode b_O_invokeSpecial 40 = .ok (.ireturn, 1) := by decide +kernel
theorem d_O_invokeSpecial_41 : decode b_O_invokeSpecial 41 = .ok (.aload_n 0, 1) := by decide +kernel
theorem d_O_invokeSpecial_42 : decode b_O_invokeSpecial 42 = .ok (.getfield 10, 3) := by decide +kernel
theorem d_O_invokeSpecial_45 : decode b_O_invokeSpecial 45 = .ok (.iload_n 1, 1) := by decide +kernel
theorem d_O_invokeSpecial_46 : decode b_O_invokeSpecial 46 = .ok (.invokevirtual 136, 3) := by decide +kernel
theorem d_O_invokeSpecial_49 : decode b_O_invokeSpecial 49 = .ok (.ifCond .eq 12, 3) := by decide +kernel
theorem d_O_invokeSpecial_52 : decode b_O_invokeSpecial 52 = .ok (.iload_n 1, 1) := by decide +kernel
theorem d_O_invokeSpecial_53 : decode b_O_invokeSpecial 53 = .ok (.iload_n 2, 1) := by decide +kernel
theorem d_O_invokeSpecial_54 : decode b_O_invokeSpecial 54 = .ok (.if_icmp .eq 7, 3) := by decide +kernel
theorem d_O_invokeSpecial_57 : decode b_O_invokeSpecial 57 = .ok (.iconst 1, 1) := by decide +kernel
theorem d_O_invokeSpecial_58 : decode b_O_invokeSpecial 58 = .ok (.goto 4, 3) := by decide +kernel
theorem d_O_invokeSpecial_61 : decode b_O_invokeSpecial 61 = .ok (.iconst 0, 1) := by decide +kernel
theorem d_O_invokeSpecial_62 : decode b_O_invokeSpecial 62 = .ok (.istore 5, 2) := by decide +kernel
theorem d_O_invokeSpecial_64 : decode b_O_invokeSpecial 64 = .ok (.iload 5, 2) := by decide +kernel
theorem d_O_invokeSpecial_66 : decode b_O_invokeSpecial 66 = .ok (.ifCond .eq 14, 3) := by decide +kernel
theorem d_O_invokeSpecial_69 : decode b_O_invokeSpecial 69 = .ok (.aload_n 0, 1) := by decide +kernel
theorem d_O_invokeSpecial_70 : decode b_O_invokeSpecial 70 = .ok (.getfield 10, 3) := by decide +kernel
theorem d_O_invokeSpecial_73 : decode b_O_invokeSpecial 73 = .ok (.iload_n 2, 1) := by decide +kernel
theorem d_O_invokeSpecial_74 : decode b_O_invokeSpecial 74 = .ok (.invokevirtual 146, 3) := by decide +kernel
theorem d_O_invokeSpecial_77 : decode b_O_invokeSpecial 77 = .ok (.goto 4, 3) := by decide +kernel
theorem d_O_invokeSpecial_80 : decode b_O_invokeSpecial 80 = .ok (.iload_n 1, 1) := by decide +kernel
theorem d_O_invokeSpecial_81 : decode b_O_invokeSpecial 81 = .ok (.istore 6, 2) := by decide +kernel
theorem d_O_invokeSpecial_83 : decode b_O_invokeSpecial 83 = .ok (.aload_n 0, 1) := by decide +kernel
theorem d_O_invokeSpecial_84 : decode b_O_invokeSpecial 84 = .ok (.getfield 10, 3) := by decide +kernel
theorem d_O_invokeSpecial_87 : decode b_O_invokeSpecial 87 = .ok (.iload 6, 2) := by decide +kernel
theorem d_O_invokeSpecial_89 : decode b_O_invokeSpecial 89 = .ok (.invokevirtual 172, 3) := by decide +kernel
theorem d_O_invokeSpecial_92 : decode b_O_invokeSpecial 92 = .ok (.aload_n 0, 1) := by decide +kernel
theorem d_O_invokeSpecial_93 : decode b_O_invokeSpecial 93 = .ok (.getfield 23, 3) := by decide +kernel
theorem d_O_invokeSpecial_96 : decode b_O_invokeSpecial 96 = .ok (.iload_n 3, 1) := by decide +kernel
theorem d_O_invokeSpecial_97 : decode b_O_invokeSpecial 97 = .ok (.invokevirtual 206, 3) := by decide +kernel
theorem d_O_invokeSpecial_100 : decode b_O_invokeSpecial 100 = .ok (.iand, 1) := by decide +kernel
theorem d_O_invokeSpecial_101 : decode b_O_invokeSpecial 101 = .ok (.invokestatic 175, 3) := by decide +kernel
theorem d_O_invokeSpecial_104 : decode b_O_invokeSpecial 104 = .ok (.istore 7, 2) := by decide +kernel
theorem d_O_invokeSpecial_106 : decode b_O_invokeSpecial 106 = .ok (.iload 7, 2) := by decide +kernel
theorem d_O_invokeSpecial_108 : decode b_O_invokeSpecial 108 = .ok (.ifCond .ne 12, 3) := by decide +kernel
theorem d_O_invokeSpecial_111 : decode b_O_invokeSpecial 111 = .ok (.aload_n 0, 1) := by decide +kernel
theorem d_O_invokeSpecial_112 : decode b_O_invokeSpecial 112 = .ok (.iload 6, 2) := by decide +kernel
theorem d_O_invokeSpecial_114 : decode b_O_invokeSpecial 114 = .ok (.iload_n 3, 1) := by decide +kernel
theorem d_O_invokeSpecial_115 : decode b_O_invokeSpecial 115 = .ok (.invokevirtual 178, 3) := by decide +kernel
theorem d_O_invokeSpecial_118 : decode b_O_invokeSpecial 118 = .ok (.istore 7, 2) := by decide +kernel
theorem d_O_invokeSpecial_120 : decode b_O_invokeSpecial 120 = .ok (.aload_n 0, 1) := by decide +kernel
theorem d_O_invokeSpecial_121 : decode b_O_invokeSpecial 121 = .ok (.iload 7, 2) := by decide +kernel
theorem d_O_invokeSpecial_123 : decode b_O_invokeSpecial 123 = .ok (.iload_n 3, 1) := by decide +kernel
theorem d_O_invokeSpecial_124 : decode b_O_invokeSpecial 124 = .ok (.invokevirtual 221, 3) := by decide +kernel
theorem d_O_invokeSpecial_127 : decode b_O_invokeSpecial 127 = .ok (.ireturn, 1) := by decide +kernel
theorem d_O_invokeStatic_0 : decode b_O_invokeStatic 0 = .ok (.aload_n 0, 1) := by decide +kernel
theorem d_O_invokeStatic_1 : decode b_O_invokeStatic 1 = .ok (.aload_n 0, 1) := by decide +kernel
theorem d_O_invokeStatic_2 : decode b_O_invokeStatic 2 = .ok (.getfield 10, 3) := by decide +kernel
theorem d_O_invokeStatic_5 : decode b_O_invokeStatic 5 = .ok (.iload_n 1, 1) := by decide +kernel
theorem d_O_invokeStatic_6 : decode b_O_invokeStatic 6 = .ok (.invokevirtual 52, 3) := by decide +kernel
theorem d_O_invokeStatic_9 : decode b_O_invokeStatic 9 = .ok (.iload_n 2, 1) := by decide +kernel
theorem d_O_invokeStatic_10 : decode b_O_invokeStatic 10 = .ok (.iload_n 1, 1) := by decide +kernel
theorem d_O_invokeStatic_11 : decode b_O_invokeStatic 11 = .ok (.iload_n 3, 1) := by decide +kernel
theorem d_O_invokeStatic_12 : decode b_O_invokeStatic 12 = .ok (.invokevirtual 106, 3) := by decide +kernel
theorem d_O_invokeStatic_15 : decode b_O_invokeStatic 15 = .ok (.istore 4, 2) := by decide +kernel
theorem d_O_invokeStatic_17 : decode b_O_invokeStatic 17 = .ok (.iload 4, 2) := by decide +kernel
theorem d_O_invokeStatic_19 : decode b_O_invokeStatic 19 = .ok (.ifCond .le 19, 3) := by decide +kernel
theorem d_O_invokeStatic_22 : decode b_O_invokeStatic 22 = .ok (.aload_n 0, 1) := by decide +kernel
theorem d_O_invokeStatic_23 : decode b_O_invokeStatic 23 = .ok (.getfield 23, 3) := by decide +kernel
theorem d_O_invokeStatic_26 : decode b_O_invokeStatic 26 = .ok (.iload 4, 2) := by decide +kernel
theorem d_O_invokeStatic_28 : decode b_O_invokeStatic 28 = .ok (.iload_n 3, 1) := by decide +kernel
theorem d_O_invokeStatic_29 : decode b_O_invokeStatic 29 = .ok (.invokevirtual 110, 3) := by decide +kernel
theorem d_O_invokeStatic_32 : decode b_O_invokeStatic 32 = .ok (.ifCond .ne 6, 3) := by decide +kernel
theorem d_O_invokeStatic_35 : decode b_O_invokeStatic 35 = .ok (.bipush (-6), 2) := by decide +kernel
theorem d_O_invokeStatic_37 : decode b_O_invokeStatic 37 = .ok (.ireturn, 1) := by decide +kernel
theorem d_O_invokeStatic_38 : decode b_O_invokeStatic 38 = .ok (.iload 4, 2) := by decide +kernel
theorem d_O_invokeStatic_40 : decode b_O_invokeStatic 40 = .ok (.ireturn, 1) := by decide +kernel
theorem d_O_holds_0 : decode b_O_holds 0 = .ok (.iload_n 0, 1) := by decide +kernel
theorem d_O_holds_1 : decode b_O_holds 1 = .ok (.iconst 1, 1) := by decide +kernel
theorem d_O_holds_2 : decode b_O_holds 2 = .ok (.iload_n 1, 1) := by decide +kernel
theorem d_O_holds_3 : decode b_O_holds 3 = .ok (.ishl, 1) := by decide +kernel
theorem d_O_holds_4 : decode b_O_holds 4 = .ok (.iand, 1) := by decide +kernel
theorem d_O_holds_5 : decode b_O_holds 5 = .ok (.ifCond .eq 7, 3) := by decide +kernel
theorem d_O_holds_8 : decode b_O_holds 8 = .ok (.iconst 1, 1) := by decide +kernel
theorem d_O_holds_9 : decode b_O_holds 9 = .ok (.goto 4, 3) := by decide +kernel
theorem d_O_holds_12 : decode b_O_holds 12 = .ok (.iconst 0, 1) := by decide +kernel
theorem d_O_holds_13 : decode b_O_holds 13 = .ok (.ireturn, 1) := by decide +kernel
theorem d_O_leastOf_0 : decode b_O_leastOf 0 = .ok (.iconst 1, 1) := by decide +kernel
theorem d_O_leastOf_1 : decode b_O_leastOf 1 = .ok (.istore_n 1, 1) := by decide +kernel
theorem d_O_leastOf_2 : decode b_O_leastOf 2 = .ok (.iload_n 1, 1) := by decide +kernel
theorem d_O_leastOf_3 : decode b_O_leastOf 3 = .ok (.bipush 12, 2) := by decide +kernel
theorem d_O_leastOf_5 : decode b_O_leastOf 5 = .ok (.if_icmp .gt 19, 3) := by decide +kernel
theorem d_O_leastOf_8 : decode b_O_leastOf 8 = .ok (.iload_n 0, 1) := by decide +kernel
theorem d_O_leastOf_9 : decode b_O_leastOf 9 = .ok (.iload_n 1, 1) := by decide +kernel
theorem d_O_leastOf_10 : decode b_O_leastOf 10 = .ok (.invokestatic 200, 3) := by decide +kernel
theorem d_O_leastOf_13 : decode b_O_leastOf 13 = .ok (.ifCond .eq 5, 3) := by decide +kernel
theorem d_O_leastOf_16 : decode b_O_leastOf 16 = .ok (.iload_n 1, 1) := by decide +kernel
theorem d_O_leastOf_17 : decode b_O_leastOf 17 = .ok (.ireturn, 1) := by decide +kernel
theorem d_O_leastOf_18 : decode b_O_leastOf 18 = .ok (.iinc 1 1, 3) := by decide +kernel
theorem d_O_leastOf_21 : decode b_O_leastOf 21 = .ok (.goto (-19), 3) := by decide +kernel
theorem d_O_leastOf_24 : decode b_O_leastOf 24 = .ok (.iconst 0, 1) := by decide +kernel
theorem d_O_leastOf_25 : decode b_O_leastOf 25 = .ok (.ireturn, 1) := by decide +kernel
theorem d_O_greatestOf_0 : decode b_O_greatestOf 0 = .ok (.bipush 12, 2) := by decide +kernel
theorem d_O_greatestOf_2 : decode b_O_greatestOf 2 = .ok (.istore_n 1, 1) := by decide +kernel
theorem d_O_greatestOf_3 : decode b_O_greatestOf 3 = .ok (.iload_n 1, 1) := by decide +kernel
theorem d_O_greatestOf_4 : decode b_O_greatestOf 4 = .ok (.iconst 1, 1) := by decide +kernel
theorem d_O_greatestOf_5 : decode b_O_greatestOf 5 = .ok (.if_icmp .lt 19, 3) := by decide +kernel
theorem d_O_greatestOf_8 : decode b_O_greatestOf 8 = .ok (.iload_n 0, 1) := by decide +kernel
theorem d_O_greatestOf_9 : decode b_O_greatestOf 9 = .ok (.iload_n 1, 1) := by decide +kernel
theorem d_O_greatestOf_10 : decode b_O_greatestOf 10 = .ok (.invokestatic 200, 3) := by decide +kernel
theorem d_O_greatestOf_13 : decode b_O_greatestOf 13 = .ok (.ifCond .eq 5, 3) := by decide +kernel
theorem d_O_greatestOf_16 : decode b_O_greatestOf 16 = .ok (.iload_n 1, 1) := by decide +kernel
theorem d_O_greatestOf_17 : decode b_O_greatestOf 17 = .ok (.ireturn, 1) := by decide +kernel
theorem d_O_greatestOf_18 : decode b_O_greatestOf 18 = .ok (.iinc 1 (-1), 3) := by decide +kernel
theorem d_O_greatestOf_21 : decode b_O_greatestOf 21 = .ok (.goto (-18), 3) := by decide +kernel
theorem d_O_greatestOf_24 : decode b_O_greatestOf 24 = .ok (.iconst 0, 1) := by decide +kernel
theorem d_O_greatestOf_25 : decode b_O_greatestOf 25 = .ok (.ireturn, 1) := by decide +kernel
end
section
theorem d_W_init_0 : decode b_W_init 0 = .ok (.aload_n 0, 1) := by decide +kernel
theorem d_W_init_1 : decode b_W_init 1 = .ok (.invokespecial 3, 3) := by decide +kernel
theorem d_W_init_4 : decode b_W_init 4 = .ok (.aload_n 0, 1) := by decide +kernel
theorem d_W_init_5 : decode b_W_init 5 = .ok (.bipush 13, 2) := by decide +kernel
theorem d_W_init_7 : decode b_W_init 7 = .ok (.newarray .int, 2) := by decide +kernel
theorem d_W_init_9 : decode b_W_init 9 = .ok (.putfield 9, 3) := by decide +kernel
theorem d_W_init_12 : decode b_W_init 12 = .ok (.aload_n 0, 1) := by decide +kernel
theorem d_W_init_13 : decode b_W_init 13 = .ok (.bipush 13, 2) := by decide +kernel
theorem d_W_init_15 : decode b_W_init 15 = .ok (.newarray .int, 2) := by decide +kernel
theorem d_W_init_17 : decode b_W_init 17 = .ok (.putfield 15, 3) := by decide +kernel
theorem d_W_init_20 : decode b_W_init 20 = .ok (.aload_n 0, 1) := by decide +kernel
theorem d_W_init_21 : decode b_W_init 21 = .ok (.bipush 13, 2) := by decide +kernel
theorem d_W_init_23 : decode b_W_init 23 = .ok (.newarray .int, 2) := by decide +kernel
theorem d_W_init_25 : decode b_W_init 25 = .ok (.putfield 18, 3) := by decide +kernel
theorem d_W_init_28 : decode b_W_init 28 = .ok (.aload_n 0, 1) := by decide +kernel
theorem d_W_init_29 : decode b_W_init 29 = .ok (.bipush 13, 2) := by decide +kernel
theorem d_W_init_31 : decode b_W_init 31 = .ok (.newarray .int, 2) := by decide +kernel
theorem d_W_init_33 : decode b_W_init 33 = .ok (.putfield 21, 3) := by decide +kernel
theorem d_W_init_36 : decode b_W_init 36 = .ok (.aload_n 0, 1) := by decide +kernel
theorem d_W_init_37 : decode b_W_init 37 = .ok (.bipush 52, 2) := by decide +kernel
theorem d_W_init_39 : decode b_W_init 39 = .ok (.newarray .int, 2) := by decide +kernel
theorem d_W_init_41 : decode b_W_init 41 = .ok (.putfield 24, 3) := by decide +kernel
theorem d_W_init_44 : decode b_W_init 44 = .ok (.aload_n 0, 1) := by decide +kernel
theorem d_W_init_45 : decode b_W_init 45 = .ok (.bipush 13, 2) := by decide +kernel
theorem d_W_init_47 : decode b_W_init 47 = .ok (.newarray .int, 2) := by decide +kernel
theorem d_W_init_49 : decode b_W_init 49 = .ok (.putfield 27, 3) := by decide +kernel
theorem d_W_init_52 : decode b_W_init 52 = .ok (.aload_n 0, 1) := by decide +kernel
theorem d_W_init_53 : decode b_W_init 53 = .ok (.iconst 0, 1) := by decide +kernel
theorem d_W_init_54 : decode b_W_init 54 = .ok (.putfield 30, 3) := by decide +kernel
theorem d_W_init_57 : decode b_W_init 57 = .ok (.aload_n 0, 1) := by decide +kernel
theorem d_W_init_58 : decode b_W_init 58 = .ok (.iconst 0, 1) := by decide +kernel
theorem d_W_init_59 : decode b_W_init 59 = .ok (.putfield 34, 3) := by decide +kernel
theorem d_W_init_62 : decode b_W_init 62 = .ok (.aload_n 0, 1) := by decide +kernel
theorem d_W_init_63 : decode b_W_init 63 = .ok (.iconst 0, 1) := by decide +kernel
theorem d_W_init_64 : decode b_W_init 64 = .ok (.putfield 37, 3) := by decide +kernel
theorem d_W_init_67 : decode b_W_init 67 = .ok (.aload_n 0, 1) := by decide +kernel
theorem d_W_init_68 : decode b_W_init 68 = .ok (.iconst 0, 1) := by decide +kernel
theorem d_W_init_69 : decode b_W_init 69 = .ok (.putfield 40, 3) := by decide +kernel
theorem d_W_init_72 : decode b_W_init 72 = .ok (.return_, 1) := by decide +kernel
theorem d_W_has_0 : decode b_W_has 0 = .ok (.iload_n 1, 1) := by decide +kernel
theorem d_W_has_1 : decode b_W_has 1 = .ok (.iconst 1, 1) := by decide +kernel
theorem d_W_has_2 : decode b_W_has 2 = .ok (.if_icmp .lt 15, 3) := by decide +kernel
theorem d_W_has_5 : decode b_W_has 5 = .ok (.iload_n 1, 1) := by decide +kernel
theorem d_W_has_6 : decode b_W_has 6 = .ok (.aload_n 0, 1) := by decide +kernel
theorem d_W_has_7 : decode b_W_has 7 = .ok (.getfield 40, 3) := by decide +kernel
theorem d_W_has_10 : decode b_W_has 10 = .ok (.if_icmp .gt 7, 3) := by decide +kernel
theorem d_W_has_13 : decode b_W_has 13 = .ok (.iconst 1, 1) := by decide +kernel
theorem d_W_has_14 : decode b_W_has 14 = .ok (.goto 4, 3) := by decide +kernel
theorem d_W_has_17 : decode b_W_has 17 = .ok (.iconst 0, 1) := by decide +kernel
theorem d_W_has_18 : decode b_W_has 18 = .ok (.ireturn, 1) := by decide +kernel
theorem d_W_isFull_0 : decode b_W_isFull 0 = .ok (.aload_n 0, 1) := by decide +kernel
theorem d_W_isFull_1 : decode b_W_isFull 1 = .ok (.getfield 40, 3) := by decide +kernel
theorem d_W_isFull_4 : decode b_W_isFull 4 = .ok (.bipush 12, 2) := by decide +kernel
theorem d_W_isFull_6 : decode b_W_isFull 6 = .ok (.if_icmp .lt 7, 3) := by decide +kernel
theorem d_W_isFull_9 : decode b_W_isFull 9 = .ok (.iconst 1, 1) := by decide +kernel
theorem d_W_isFull_10 : decode b_W_isFull 10 = .ok (.goto 4, 3) := by decide +kernel
theorem d_W_isFull_13 : decode b_W_isFull 13 = .ok (.iconst 0, 1) := by decide +kernel
theorem d_W_isFull_14 : decode b_W_isFull 14 = .ok (.ireturn, 1) := by decide +kernel
theorem d_W_isInterface_0 : decode b_W_isInterface 0 = .ok (.aload_n 0, 1) := by decide +kernel
theorem d_W_isInterface_1 : decode b_W_isInterface 1 = .ok (.iload_n 1, 1) := by decide +kernel
theorem d_W_isInterface_2 : decode b_W_isInterface 2 = .ok (.invokevirtual 43, 3) := by decide +kernel
theorem d_W_isInterface_5 : decode b_W_isInterface 5 = .ok (.ifCond .eq 18, 3) := by decide +kernel
theorem d_W_isInterface_8 : decode b_W_isInterface 8 = .ok (.aload_n 0, 1) := by decide +kernel
theorem d_W_isInterface_9 : decode b_W_isInterface 9 = .ok (.getfield 37, 3) := by decide +kernel
theorem d_W_isInterface_12 : decode b_W_isInterface 12 = .ok (.iload_n 1, 1) := by decide +kernel
theorem d_W_isInterface_13 : decode b_W_isInterface 13 = .ok (.invokestatic 47, 3) := by decide +kernel
theorem d_W_isInterface_16 : decode b_W_isInterface 16 = .ok (.ifCond .eq 7, 3) := by decide +kernel
theorem d_W_isInterface_19 : decode b_W_isInterface 19 = .ok (.iconst 1, 1) := by decide +kernel
theorem d_W_isInterface_20 : decode b_W_isInterface 20 = .ok (.goto 4, 3) := by decide +kernel
theorem d_W_isInterface_23 : decode b_W_isInterface 23 = .ok (.iconst 0, 1) := by decide +kernel
theorem d_W_isInterface_24 : decode b_W_isInterface 24 = .ok (.ireturn, 1) := by decide +kernel
theorem d_W_isClass_0 : decode b_W_isClass 0 = .ok (.aload_n 0, 1) := by decide +kernel
theorem d_W_isClass_1 : decode b_W_isClass 1 = .ok (.iload_n 1, 1) := by decide +kernel
theorem d_W_isClass_2 : decode b_W_isClass 2 = .ok (.invokevirtual 43, 3) := by decide +kernel
theorem d_W_isClass_5 : decode b_W_isClass 5 = .ok (.ifCond .eq 18, 3) := by decide +kernel
theorem d_W_isClass_8 : decode b_W_isClass 8 = .ok (.aload_n 0, 1) := by decide +kernel
theorem d_W_isClass_9 : decode b_W_isClass 9 = .ok (.getfield 37, 3) := by decide +kernel
theorem d_W_isClass_12 : decode b_W_isClass 12 = .ok (.iload_n 1, 1) := by decide +kernel
theorem d_W_isClass_13 : decode b_W_isClass 13 = .ok (.invokestatic 47, 3) := by decide +kernel
theorem d_W_isClass_16 : decode b_W_isClass 16 = .ok (.ifCond .ne 7, 3) := by decide +kernel
theorem d_W_isClass_19 : decode b_W_isClass 19 = .ok (.iconst 1, 1) := by decide +kernel
theorem d_W_isClass_20 : decode b_W_isClass 20 = .ok (.goto 4, 3) := by decide +kernel
theorem d_W_isClass_23 : decode b_W_isClass 23 = .ok (.iconst 0, 1) := by decide +kernel
theorem d_W_isClass_24 : decode b_W_isClass 24 = .ok (.ireturn, 1) := by decide +kernel
theorem d_W_mayBeExtended_0 : decode b_W_mayBeExtended 0 = .ok (.aload_n 0, 1) := by decide +kernel
theorem d_W_mayBeExtended_1 : decode b_W_mayBeExtended 1 = .ok (.iload_n 1, 1) := by decide +kernel
theorem d_W_mayBeExtended_2 : decode b_W_mayBeExtended 2 = .ok (.invokevirtual 51, 3) := by decide +kernel
theorem d_W_mayBeExtended_5 : decode b_W_mayBeExtended 5 = .ok (.ifCond .eq 18, 3) := by decide +kernel
theorem d_W_mayBeExtended_8 : decode b_W_mayBeExtended 8 = .ok (.aload_n 0, 1) := by decide +kernel
theorem d_W_mayBeExtended_9 : decode b_W_mayBeExtended 9 = .ok (.getfield 34, 3) := by decide +kernel
theorem d_W_mayBeExtended_12 : decode b_W_mayBeExtended 12 = .ok (.iload_n 1, 1) := by decide +kernel
theorem d_W_mayBeExtended_13 : decode b_W_mayBeExtended 13 = .ok (.invokestatic 47, 3) := by decide +kernel
theorem d_W_mayBeExtended_16 : decode b_W_mayBeExtended 16 = .ok (.ifCond .ne 7, 3) := by decide +kernel
theorem d_W_mayBeExtended_19 : decode b_W_mayBeExtended 19 = .ok (.iconst 1, 1) := by decide +kernel
theorem d_W_mayBeExtended_20 : decode b_W_mayBeExtended 20 = .ok (.goto 4, 3) := by decide +kernel
theorem d_W_mayBeExtended_23 : decode b_W_mayBeExtended 23 = .ok (.iconst 0, 1) := by decide +kernel
theorem d_W_mayBeExtended_24 : decode b_W_mayBeExtended 24 = .ok (.ireturn, 1) := by decide +kernel
theorem d_W_addClass_0 : decode b_W_addClass 0 = .ok (.aload_n 0, 1) := by decide +kernel
theorem d_W_addClass_1 : decode b_W_addClass 1 = .ok (.iload_n 1, 1) := by decide +kernel
theorem d_W_addClass_2 : decode b_W_addClass 2 = .ok (.iload_n 2, 1) := by decide +kernel
theorem d_W_addClass_3 : decode b_W_addClass 3 = .ok (.iload_n 3, 1) := by decide +kernel
theorem d_W_addClass_4 : decode b_W_addClass 4 = .ok (.invokevirtual 54, 3) := by decide +kernel
theorem d_W_addClass_7 : decode b_W_addClass 7 = .ok (.istore 5, 2) := by decide +kernel
theorem d_W_addClass_9 : decode b_W_addClass 9 = .ok (.iload 4, 2) := by decide +kernel
theorem d_W_addClass_11 : decode b_W_addClass 11 = .ok (.ifCond .eq 16, 3) := by decide +kernel
theorem d_W_addClass_14 : decode b_W_addClass 14 = .ok (.aload_n 0, 1) := by decide +kernel
theorem d_W_addClass_15 : decode b_W_addClass 15 = .ok (.dup, 1) := by decide +kernel
theorem d_W_addClass_16 : decode b_W_addClass 16 = .ok (.getfield 34, 3) := by decide +kernel
theorem d_W_addClass_19 : decode b_W_addClass 19 = .ok (.iconst 1, 1) := by decide +kernel
theorem d_W_addClass_20 : decode b_W_addClass 20 = .ok (.iload 5, 2) := by decide +kernel
theorem d_W_addClass_22 : decode b_W_addClass 22 = .ok (.ishl, 1) := by decide +kernel
theorem d_W_addClass_23 : decode b_W_addClass 23 = .ok (.ior, 1) := by decide +kernel
theorem d_W_addClass_24 : decode b_W_addClass 24 = .ok (.putfield 34, 3) := by decide +kernel
theorem d_W_addClass_27 : decode b_W_addClass 27 = .ok (.iload 5, 2) := by decide +kernel
theorem d_W_addClass_29 : decode b_W_addClass 29 = .ok (.ireturn, 1) := by decide +kernel
theorem d_W_addInterface_0 : decode b_W_addInterface 0 = .ok (.aload_n 0, 1) := by decide +kernel
theorem d_W_addInterface_1 : decode b_W_addInterface 1 = .ok (.iconst 0, 1) := by decide +kernel
theorem d_W_addInterface_2 : decode b_W_addInterface 2 = .ok (.iload_n 1, 1) := by decide +kernel
theorem d_W_addInterface_3 : decode b_W_addInterface 3 = .ok (.iload_n 2, 1) := by decide +kernel
theorem d_W_addInterface_4 : decode b_W_addInterface 4 = .ok (.invokevirtual 54, 3) := by decide +kernel
theorem d_W_addInterface_7 : decode b_W_addInterface 7 = .ok (.istore_n 3, 1) := by decide +kernel
theorem d_W_addInterface_8 : decode b_W_addInterface 8 = .ok (.aload_n 0, 1) := by decide +kernel
theorem d_W_addInterface_9 : decode b_W_addInterface 9 = .ok (.dup, 1) := by decide +kernel
theorem d_W_addInterface_10 : decode b_W_addInterface 10 = .ok (.getfield 37, 3) := by decide +kernel
theorem d_W_addInterface_13 : decode b_W_addInterface 13 = .ok (.iconst 1, 1) := by decide +kernel
theorem d_W_addInterface_14 : decode b_W_addInterface 14 = .ok (.iload_n 3, 1) := by decide +kernel
theorem d_W_addInterface_15 : decode b_W_addInterface 15 = .ok (.ishl, 1) := by decide +kernel
theorem d_W_addInterface_16 : decode b_W_addInterface 16 = .ok (.ior, 1) := by decide +kernel
theorem d_W_addInterface_17 : decode b_W_addInterface 17 = .ok (.putfield 37, 3) := by decide +kernel
theorem d_W_addInterface_20 : decode b_W_addInterface 20 = .ok (.iload_n 3, 1) := by decide +kernel
theorem d_W_addInterface_21 : decode b_W_addInterface 21 = .ok (.ireturn, 1) := by decide +kernel
theorem d_W_addType_0 : decode b_W_addType 0 = .ok (.aload_n 0, 1) := by decide +kernel
theorem d_W_addType_1 : decode b_W_addType 1 = .ok (.dup, 1) := by decide +kernel
theorem d_W_addType_2 : decode b_W_addType 2 = .ok (.getfield 40, 3) := by decide +kernel
theorem d_W_addType_5 : decode b_W_addType 5 = .ok (.iconst 1, 1) := by decide +kernel
theorem d_W_addType_6 : decode b_W_addType 6 = .ok (.iadd, 1) := by decide +kernel
theorem d_W_addType_7 : decode b_W_addType 7 = .ok (.putfield 40, 3) := by decide +kernel
theorem d_W_addType_10 : decode b_W_addType 10 = .ok (.aload_n 0, 1) := by decide +kernel
theorem d_W_addType_11 : decode b_W_addType 11 = .ok (.getfield 9, 3) := by decide +kernel
theorem d_W_addType_14 : decode b_W_addType 14 = .ok (.aload_n 0, 1) := by decide +kernel
theorem d_W_addType_15 : decode b_W_addType 15 = .ok (.getfield 40, 3) := by decide +kernel
theorem d_W_addType_18 : decode b_W_addType 18 = .ok (.iload_n 1, 1) := by decide +kernel
theorem d_W_addType_19 : decode b_W_addType 19 = .ok (.iastore, 1) := by decide +kernel
theorem d_W_addType_20 : decode b_W_addType 20 = .ok (.aload_n 0, 1) := by decide +kernel
theorem d_W_addType_21 : decode b_W_addType 21 = .ok (.getfield 15, 3) := by decide +kernel
theorem d_W_addType_24 : decode b_W_addType 24 = .ok (.aload_n 0, 1) := by decide +kernel
theorem d_W_addType_25 : decode b_W_addType 25 = .ok (.getfield 40, 3) := by decide +kernel
theorem d_W_addType_28 : decode b_W_addType 28 = .ok (.iload_n 2, 1) := by decide +kernel
theorem d_W_addType_29 : decode b_W_addType 29 = .ok (.iastore, 1) := by decide +kernel
theorem d_W_addType_30 : decode b_W_addType 30 = .ok (.aload_n 0, 1) := by decide +kernel
theorem d_W_addType_31 : decode b_W_addType 31 = .ok (.getfield 18, 3) := by decide +kernel
theorem d_W_addType_34 : decode b_W_addType 34 = .ok (.aload_n 0, 1) := by decide +kernel
theorem d_W_addType_35 : decode b_W_addType 35 = .ok (.getfield 40, 3) := by decide +kernel
theorem d_W_addType_38 : decode b_W_addType 38 = .ok (.aload_n 0, 1) := by decide +kernel
theorem d_W_addType_39 : decode b_W_addType 39 = .ok (.getfield 40, 3) := by decide +kernel
theorem d_W_addType_42 : decode b_W_addType 42 = .ok (.iastore, 1) := by decide +kernel
theorem d_W_addType_43 : decode b_W_addType 43 = .ok (.aload_n 0, 1) := by decide +kernel
theorem d_W_addType_44 : decode b_W_addType 44 = .ok (.getfield 27, 3) := by decide +kernel
theorem d_W_addType_47 : decode b_W_addType 47 = .ok (.aload_n 0, 1) := by decide +kernel
theorem d_W_addType_48 : decode b_W_addType 48 = .ok (.getfield 40, 3) := by decide +kernel
theorem d_W_addType_51 : decode b_W_addType 51 = .ok (.aload_n 0, 1) := by decide +kernel
theorem d_W_addType_52 : decode b_W_addType 52 = .ok (.getfield 27, 3) := by decide +kernel
theorem d_W_addType_55 : decode b_W_addType 55 = .ok (.iload_n 1, 1) := by decide +kernel
theorem d_W_addType_56 : decode b_W_addType 56 = .ok (.iaload, 1) := by decide +kernel
theorem d_W_addType_57 : decode b_W_addType 57 = .ok (.iconst 1, 1) := by decide +kernel
theorem d_W_addType_58 : decode b_W_addType 58 = .ok (.aload_n 0, 1) := by decide +kernel
theorem d_W_addType_59 : decode b_W_addType 59 = .ok (.getfield 40, 3) := by decide +kernel
theorem d_W_addType_62 : decode b_W_addType 62 = .ok (.ishl, 1) := by decide +kernel
theorem d_W_addType_63 : decode b_W_addType 63 = .ok (.ior, 1) := by decide +kernel
theorem d_W_addType_64 : decode b_W_addType 64 = .ok (.iastore, 1) := by decide +kernel
theorem d_W_addType_65 : decode b_W_addType 65 = .ok (.iload_n 3, 1) := by decide +kernel
theorem d_W_addType_66 : decode b_W_addType 66 = .ok (.ifCond .eq 18, 3) := by decide +kernel
theorem d_W_addType_69 : decode b_W_addType 69 = .ok (.aload_n 0, 1) := by decide +kernel
theorem d_W_addType_70 : decode b_W_addType 70 = .ok (.dup, 1) := by decide +kernel
theorem d_W_addType_71 : decode b_W_addType 71 = .ok (.getfield 30, 3) := by decide +kernel
theorem d_W_addType_74 : decode b_W_addType 74 = .ok (.iconst 1, 1) := by decide +kernel
theorem d_W_addType_75 : decode b_W_addType 75 = .ok (.aload_n 0, 1) := by decide +kernel
theorem d_W_addType_76 : decode b_W_addType 76 = .ok (.getfield 40, 3) := by decide +kernel
theorem d_W_addType_79 : decode b_W_addType 79 = .ok (.ishl, 1) := by decide +kernel
theorem d_W_addType_80 : decode b_W_addType 80 = .ok (.ior, 1) := by decide +kernel
theorem d_W_addType_81 : decode b_W_addType 81 = .ok (.putfield 30, 3) := by decide +kernel
theorem d_W_addType_84 : decode b_W_addType 84 = .ok (.aload_n 0, 1) := by decide +kernel
theorem d_W_addType_85 : decode b_W_addType 85 = .ok (.getfield 40, 3) := by decide +kernel
theorem d_W_addType_88 : decode b_W_addType 88 = .ok (.ireturn, 1) := by decide +kernel
theorem d_W_addDirect_0 : decode b_W_addDirect 0 = .ok (.aload_n 0, 1) := by decide +kernel
theorem d_W_addDirect_1 : decode b_W_addDirect 1 = .ok (.getfield 24, 3) := by decide +kernel
theorem d_W_addDirect_4 : decode b_W_addDirect 4 = .ok (.iload_n 1, 1) := by decide +kernel
theorem d_W_addDirect_5 : decode b_W_addDirect 5 = .ok (.iconst 4, 1) := by decide +kernel
theorem d_W_addDirect_6 : decode b_W_addDirect 6 = .ok (.imul, 1) := by decide +kernel
theorem d_W_addDirect_7 : decode b_W_addDirect 7 = .ok (.aload_n 0, 1) := by decide +kernel
theorem d_W_addDirect_8 : decode b_W_addDirect 8 = .ok (.getfield 21, 3) := by decide +kernel
theorem d_W_addDirect_11 : decode b_W_addDirect 11 = .ok (.iload_n 1, 1) := by decide +kernel
theorem d_W_addDirect_12 : decode b_W_addDirect 12 = .ok (.iaload, 1) := by decide +kernel
theorem d_W_addDirect_13 : decode b_W_addDirect 13 = .ok (.iadd, 1) := by decide +kernel
theorem d_W_addDirect_14 : decode b_W_addDirect 14 = .ok (.iload_n 2, 1) := by decide +kernel
theorem d_W_addDirect_15 : decode b_W_addDirect 15 = .ok (.iastore, 1) := by decide +kernel
theorem d_W_addDirect_16 : decode b_W_addDirect 16 = .ok (.aload_n 0, 1) := by decide +kernel
theorem d_W_addDirect_17 : decode b_W_addDirect 17 = .ok (.getfield 21, 3) := by decide +kernel
theorem d_W_addDirect_20 : decode b_W_addDirect 20 = .ok (.iload_n 1, 1) := by decide +kernel
theorem d_W_addDirect_21 : decode b_W_addDirect 21 = .ok (.dup2, 1) := by decide +kernel
theorem d_W_addDirect_22 : decode b_W_addDirect 22 = .ok (.iaload, 1) := by decide +kernel
theorem d_W_addDirect_23 : decode b_W_addDirect 23 = .ok (.iconst 1, 1) := by decide +kernel
theorem d_W_addDirect_24 : decode b_W_addDirect 24 = .ok (.iadd, 1) := by decide +kernel
theorem d_W_addDirect_25 : decode b_W_addDirect 25 = .ok (.iastore, 1) := by decide +kernel
theorem d_W_addDirect_26 : decode b_W_addDirect 26 = .ok (.iload_n 1, 1) := by decide +kernel
theorem d_W_addDirect_27 : decode b_W_addDirect 27 = .ok (.istore_n 3, 1) := by decide +kernel
theorem d_W_addDirect_28 : decode b_W_addDirect 28 = .ok (.iload_n 3, 1) := by decide +kernel
theorem d_W_addDirect_29 : decode b_W_addDirect 29 = .ok (.aload_n 0, 1) := by decide +kernel
theorem d_W_addDirect_30 : decode b_W_addDirect 30 = .ok (.getfield 40, 3) := by decide +kernel
theorem d_W_addDirect_33 : decode b_W_addDirect 33 = .ok (.if_icmp .gt 37, 3) := by decide +kernel
theorem d_W_addDirect_36 : decode b_W_addDirect 36 = .ok (.aload_n 0, 1) := by decide +kernel
theorem d_W_addDirect_37 : decode b_W_addDirect 37 = .ok (.getfield 27, 3) := by decide +kernel
theorem d_W_addDirect_40 : decode b_W_addDirect 40 = .ok (.iload_n 3, 1) := by decide +kernel
theorem d_W_addDirect_41 : decode b_W_addDirect 41 = .ok (.iaload, 1) := by decide +kernel
theorem d_W_addDirect_42 : decode b_W_addDirect 42 = .ok (.iload_n 1, 1) := by decide +kernel
theorem d_W_addDirect_43 : decode b_W_addDirect 43 = .ok (.invokestatic 47, 3) := by decide +kernel
theorem d_W_addDirect_46 : decode b_W_addDirect 46 = .ok (.ifCond .eq 18, 3) := by decide +kernel
theorem d_W_addDirect_49 : decode b_W_addDirect 49 = .ok (.aload_n 0, 1) := by decide +kernel
theorem d_W_addDirect_50 : decode b_W_addDirect 50 = .ok (.getfield 27, 3) := by decide +kernel
theorem d_W_addDirect_53 : decode b_W_addDirect 53 = .ok (.iload_n 3, 1) := by decide +kernel
theorem d_W_addDirect_54 : decode b_W_addDirect 54 = .ok (.dup2, 1) := by decide +kernel
theorem d_W_addDirect_55 : decode b_W_addDirect 55 = .ok (.iaload, 1) := by decide +kernel
theorem d_W_addDirect_56 : decode b_W_addDirect 56 = .ok (.aload_n 0, 1) := by decide +kernel
theorem d_W_addDirect_57 : decode b_W_addDirect 57 = .ok (.getfield 27, 3) := by decide +kernel
theorem d_W_addDirect_60 : decode b_W_addDirect 60 = .ok (.iload_n 2, 1) := by decide +kernel
theorem d_W_addDirect_61 : decode b_W_addDirect 61 = .ok (.iaload, 1) := by decide +kernel
theorem d_W_addDirect_62 : decode b_W_addDirect 62 = .ok (.ior, 1) := by decide +kernel
theorem d_W_addDirect_63 : decode b_W_addDirect 63 = .ok (.iastore, 1) := by decide +kernel
theorem d_W_addDirect_64 : decode b_W_addDirect 64 = .ok (.iinc 3 1, 3) := by decide +kernel
theorem d_W_addDirect_67 : decode b_W_addDirect 67 = .ok (.goto (-39), 3) := by decide +kernel
theorem d_W_addDirect_70 : decode b_W_addDirect 70 = .ok (.aload_n 0, 1) := by decide +kernel
theorem d_W_addDirect_71 : decode b_W_addDirect 71 = .ok (.getfield 21, 3) := by decide +kernel
theorem d_W_addDirect_74 : decode b_W_addDirect 74 = .ok (.iload_n 1, 1) := by decide +kernel
theorem d_W_addDirect_75 : decode b_W_addDirect 75 = .ok (.iaload, 1) := by decide +kernel
theorem d_W_addDirect_76 : decode b_W_addDirect 76 = .ok (.ireturn, 1) := by decide +kernel
theorem d_W_hasDirect_0 : decode b_W_hasDirect 0 = .ok (.iconst 0, 1) := by decide +kernel
theorem d_W_hasDirect_1 : decode b_W_hasDirect 1 = .ok (.istore_n 3, 1) := by decide +kernel
theorem d_W_hasDirect_2 : decode b_W_hasDirect 2 = .ok (.iload_n 3, 1) := by decide +kernel
theorem d_W_hasDirect_3 : decode b_W_hasDirect 3 = .ok (.aload_n 0, 1) := by decide +kernel
theorem d_W_hasDirect_4 : decode b_W_hasDirect 4 = .ok (.getfield 21, 3) := by decide +kernel
theorem d_W_hasDirect_7 : decode b_W_hasDirect 7 = .ok (.iload_n 1, 1) := by decide +kernel
theorem d_W_hasDirect_8 : decode b_W_hasDirect 8 = .ok (.iaload, 1) := by decide +kernel
theorem d_W_hasDirect_9 : decode b_W_hasDirect 9 = .ok (.if_icmp .ge 21, 3) := by decide +kernel
theorem d_W_hasDirect_12 : decode b_W_hasDirect 12 = .ok (.aload_n 0, 1) := by decide +kernel
theorem d_W_hasDirect_13 : decode b_W_hasDirect 13 = .ok (.iload_n 1, 1) := by decide +kernel
theorem d_W_hasDirect_14 : decode b_W_hasDirect 14 = .ok (.iload_n 3, 1) := by decide +kernel
theorem d_W_hasDirect_15 : decode b_W_hasDirect 15 = .ok (.invokevirtual 58, 3) := by decide +kernel
theorem d_W_hasDirect_18 : decode b_W_hasDirect 18 = .ok (.iload_n 2, 1) := by decide +kernel
theorem d_W_hasDirect_19 : decode b_W_hasDirect 19 = .ok (.if_icmp .ne 5, 3) := by decide +kernel
theorem d_W_hasDirect_22 : decode b_W_hasDirect 22 = .ok (.iconst 1, 1) := by decide +kernel
theorem d_W_hasDirect_23 : decode b_W_hasDirect 23 = .ok (.ireturn, 1) := by decide +kernel
theorem d_W_hasDirect_24 : decode b_W_hasDirect 24 = .ok (.iinc 3 1, 3) := by decide +kernel
theorem d_W_hasDirect_27 : decode b_W_hasDirect 27 = .ok (.goto (-25), 3) := by decide +kernel
theorem d_W_hasDirect_30 : decode b_W_hasDirect 30 = .ok (.iconst 0, 1) := by decide +kernel
theorem d_W_hasDirect_31 : decode b_W_hasDirect 31 = .ok (.ireturn, 1) := by decide +kernel
theorem d_W_directCount_0 : decode b_W_directCount 0 = .ok (.aload_n 0, 1) := by decide +kernel
theorem d_W_directCount_1 : decode b_W_directCount 1 = .ok (.getfield 21, 3) := by decide +kernel
theorem d_W_directCount_4 : decode b_W_directCount 4 = .ok (.iload_n 1, 1) := by decide +kernel
theorem d_W_directCount_5 : decode b_W_directCount 5 = .ok (.iaload, 1) := by decide +kernel
theorem d_W_directCount_6 : decode b_W_directCount 6 = .ok (.ireturn, 1) := by decide +kernel
theorem d_W_directAt_0 : decode b_W_directAt 0 = .ok (.aload_n 0, 1) := by decide +kernel
theorem d_W_directAt_1 : decode b_W_directAt 1 = .ok (.getfield 24, 3) := by decide +kernel
theorem d_W_directAt_4 : decode b_W_directAt 4 = .ok (.iload_n 1, 1) := by decide +kernel
theorem d_W_directAt_5 : decode b_W_directAt 5 = .ok (.iconst 4, 1) := by decide +kernel
theorem d_W_directAt_6 : decode b_W_directAt 6 = .ok (.imul, 1) := by decide +kernel
theorem d_W_directAt_7 : decode b_W_directAt 7 = .ok (.iload_n 2, 1) := by decide +kernel
theorem d_W_directAt_8 : decode b_W_directAt 8 = .ok (.iadd, 1) := by decide +kernel
theorem d_W_directAt_9 : decode b_W_directAt 9 = .ok (.iaload, 1) := by decide +kernel
theorem d_W_directAt_10 : decode b_W_directAt 10 = .ok (.ireturn, 1) := by decide +kernel
theorem d_W_superclassOf_0 : decode b_W_superclassOf 0 = .ok (.aload_n 0, 1) := by decide +kernel
theorem d_W_superclassOf_1 : decode b_W_superclassOf 1 = .ok (.getfield 9, 3) := by decide +kernel
theorem d_W_superclassOf_4 : decode b_W_superclassOf 4 = .ok (.iload_n 1, 1) := by decide +kernel
theorem d_W_superclassOf_5 : decode b_W_superclassOf 5 = .ok (.iaload, 1) := by decide +kernel
theorem d_W_superclassOf_6 : decode b_W_superclassOf 6 = .ok (.ireturn, 1) := by decide +kernel
theorem d_W_packageOf_0 : decode b_W_packageOf 0 = .ok (.aload_n 0, 1) := by decide +kernel
theorem d_W_packageOf_1 : decode b_W_packageOf 1 = .ok (.getfield 15, 3) := by decide +kernel
theorem d_W_packageOf_4 : decode b_W_packageOf 4 = .ok (.iload_n 1, 1) := by decide +kernel
theorem d_W_packageOf_5 : decode b_W_packageOf 5 = .ok (.iaload, 1) := by decide +kernel
theorem d_W_packageOf_6 : decode b_W_packageOf 6 = .ok (.ireturn, 1) := by decide +kernel
theorem d_W_hostOf_0 : decode b_W_hostOf 0 = .ok (.aload_n 0, 1) := by decide +kernel
theorem d_W_hostOf_1 : decode b_W_hostOf 1 = .ok (.getfield 18, 3) := by decide +kernel
theorem d_W_hostOf_4 : decode b_W_hostOf 4 = .ok (.iload_n 1, 1) := by decide +kernel
theorem d_W_hostOf_5 : decode b_W_hostOf 5 = .ok (.iaload, 1) := by decide +kernel
theorem d_W_hostOf_6 : decode b_W_hostOf 6 = .ok (.ireturn, 1) := by decide +kernel
theorem d_W_setHost_0 : decode b_W_setHost 0 = .ok (.aload_n 0, 1) := by decide +kernel
theorem d_W_setHost_1 : decode b_W_setHost 1 = .ok (.getfield 18, 3) := by decide +kernel
theorem d_W_setHost_4 : decode b_W_setHost 4 = .ok (.iload_n 1, 1) := by decide +kernel
theorem d_W_setHost_5 : decode b_W_setHost 5 = .ok (.iload_n 2, 1) := by decide +kernel
theorem d_W_setHost_6 : decode b_W_setHost 6 = .ok (.iastore, 1) := by decide +kernel
theorem d_W_setHost_7 : decode b_W_setHost 7 = .ok (.return_, 1) := by decide +kernel
theorem d_W_hostsAnother_0 : decode b_W_hostsAnother 0 = .ok (.iconst 1, 1) := by decide +kernel
theorem d_W_hostsAnother_1 : decode b_W_hostsAnother 1 = .ok (.istore_n 2, 1) := by decide +kernel
theorem d_W_hostsAnother_2 : decode b_W_hostsAnother 2 = .ok (.iload_n 2, 1) := by decide +kernel
theorem d_W_hostsAnother_3 : decode b_W_hostsAnother 3 = .ok (.aload_n 0, 1) := by decide +kernel
theorem d_W_hostsAnother_4 : decode b_W_hostsAnother 4 = .ok (.getfield 40, 3) := by decide +kernel
theorem d_W_hostsAnother_7 : decode b_W_hostsAnother 7 = .ok (.if_icmp .gt 26, 3) := by decide +kernel
theorem d_W_hostsAnother_10 : decode b_W_hostsAnother 10 = .ok (.iload_n 2, 1) := by decide +kernel
theorem d_W_hostsAnother_11 : decode b_W_hostsAnother 11 = .ok (.iload_n 1, 1) := by decide +kernel
theorem d_W_hostsAnother_12 : decode b_W_hostsAnother 12 = .ok (.if_icmp .eq 15, 3) := by decide +kernel
theorem d_W_hostsAnother_15 : decode b_W_hostsAnother 15 = .ok (.aload_n 0, 1) := by decide +kernel
theorem d_W_hostsAnother_16 : decode b_W_hostsAnother 16 = .ok (.getfield 18, 3) := by decide +kernel
theorem d_W_hostsAnother_19 : decode b_W_hostsAnother 19 = .ok (.iload_n 2, 1) := by decide +kernel
theorem d_W_hostsAnother_20 : decode b_W_hostsAnother 20 = .ok (.iaload, 1) := by decide +kernel
theorem d_W_hostsAnother_21 : decode b_W_hostsAnother 21 = .ok (.iload_n 1, 1) := by decide +kernel
theorem d_W_hostsAnother_22 : decode b_W_hostsAnother 22 = .ok (.if_icmp .ne 5, 3) := by decide +kernel
theorem d_W_hostsAnother_25 : decode b_W_hostsAnother 25 = .ok (.iconst 1, 1) := by decide +kernel
theorem d_W_hostsAnother_26 : decode b_W_hostsAnother 26 = .ok (.ireturn, 1) := by decide +kernel
theorem d_W_hostsAnother_27 : decode b_W_hostsAnother 27 = .ok (.iinc 2 1, 3) := by decide +kernel
theorem d_W_hostsAnother_30 : decode b_W_hostsAnother 30 = .ok (.goto (-28), 3) := by decide +kernel
theorem d_W_hostsAnother_33 : decode b_W_hostsAnother 33 = .ok (.iconst 0, 1) := by decide +kernel
theorem d_W_hostsAnother_34 : decode b_W_hostsAnother 34 = .ok (.ireturn, 1) := by decide +kernel
theorem d_W_sameHost_0 : decode b_W_sameHost 0 = .ok (.aload_n 0, 1) := by decide +kernel
theorem d_W_sameHost_1 : decode b_W_sameHost 1 = .ok (.getfield 18, 3) := by decide +kernel
theorem d_W_sameHost_4 : decode b_W_sameHost 4 = .ok (.iload_n 1, 1) := by decide +kernel
theorem d_W_sameHost_5 : decode b_W_sameHost 5 = .ok (.iaload, 1) := by decide +kernel
theorem d_W_sameHost_6 : decode b_W_sameHost 6 = .ok (.aload_n 0, 1) := by decide +kernel
theorem d_W_sameHost_7 : decode b_W_sameHost 7 = .ok (.getfield 18, 3) := by decide +kernel
theorem d_W_sameHost_10 : decode b_W_sameHost 10 = .ok (.iload_n 2, 1) := by decide +kernel
theorem d_W_sameHost_11 : decode b_W_sameHost 11 = .ok (.iaload, 1) := by decide +kernel
theorem d_W_sameHost_12 : decode b_W_sameHost 12 = .ok (.if_icmp .ne 7, 3) := by decide +kernel
theorem d_W_sameHost_15 : decode b_W_sameHost 15 = .ok (.iconst 1, 1) := by decide +kernel
theorem d_W_sameHost_16 : decode b_W_sameHost 16 = .ok (.goto 4, 3) := by decide +kernel
theorem d_W_sameHost_19 : decode b_W_sameHost 19 = .ok (.iconst 0, 1) := by decide +kernel
theorem d_W_sameHost_20 : decode b_W_sameHost 20 = .ok (.ireturn, 1) := by decide +kernel
theorem d_W_samePackage_0 : decode b_W_samePackage 0 = .ok (.aload_n 0, 1) := by decide +kernel
theorem d_W_samePackage_1 : decode b_W_samePackage 1 = .ok (.getfield 15, 3) := by decide +kernel
theorem d_W_samePackage_4 : decode b_W_samePackage 4 = .ok (.iload_n 1, 1) := by decide +kernel
theorem d_W_samePackage_5 : decode b_W_samePackage 5 = .ok (.iaload, 1) := by decide +kernel
theorem d_W_samePackage_6 : decode b_W_samePackage 6 = .ok (.aload_n 0, 1) := by decide +kernel
theorem d_W_samePackage_7 : decode b_W_samePackage 7 = .ok (.getfield 15, 3) := by decide +kernel
theorem d_W_samePackage_10 : decode b_W_samePackage 10 = .ok (.iload_n 2, 1) := by decide +kernel
theorem d_W_samePackage_11 : decode b_W_samePackage 11 = .ok (.iaload, 1) := by decide +kernel
theorem d_W_samePackage_12 : decode b_W_samePackage 12 = .ok (.if_icmp .ne 7, 3) := by decide +kernel
theorem d_W_samePackage_15 : decode b_W_samePackage 15 = .ok (.iconst 1, 1) := by decide +kernel
theorem d_W_samePackage_16 : decode b_W_samePackage 16 = .ok (.goto 4, 3) := by decide +kernel
theorem d_W_samePackage_19 : decode b_W_samePackage 19 = .ok (.iconst 0, 1) := by decide +kernel
theorem d_W_samePackage_20 : decode b_W_samePackage 20 = .ok (.ireturn, 1) := by decide +kernel
theorem d_W_mayUseType_0 : decode b_W_mayUseType 0 = .ok (.aload_n 0, 1) := by decide +kernel
theorem d_W_mayUseType_1 : decode b_W_mayUseType 1 = .ok (.getfield 30, 3) := by decide +kernel
theorem d_W_mayUseType_4 : decode b_W_mayUseType 4 = .ok (.iload_n 1, 1) := by decide +kernel
theorem d_W_mayUseType_5 : decode b_W_mayUseType 5 = .ok (.invokestatic 47, 3) := by decide +kernel
theorem d_W_mayUseType_8 : decode b_W_mayUseType 8 = .ok (.ifCond .ne 12, 3) := by decide +kernel
theorem d_W_mayUseType_11 : decode b_W_mayUseType 11 = .ok (.aload_n 0, 1) := by decide +kernel
theorem d_W_mayUseType_12 : decode b_W_mayUseType 12 = .ok (.iload_n 1, 1) := by decide +kernel
theorem d_W_mayUseType_13 : decode b_W_mayUseType 13 = .ok (.iload_n 2, 1) := by decide +kernel
theorem d_W_mayUseType_14 : decode b_W_mayUseType 14 = .ok (.invokevirtual 62, 3) := by decide +kernel
theorem d_W_mayUseType_17 : decode b_W_mayUseType 17 = .ok (.ifCond .eq 7, 3) := by decide +kernel
theorem d_W_mayUseType_20 : decode b_W_mayUseType 20 = .ok (.iconst 1, 1) := by decide +kernel
theorem d_W_mayUseType_21 : decode b_W_mayUseType 21 = .ok (.goto 4, 3) := by decide +kernel
theorem d_W_mayUseType_24 : decode b_W_mayUseType 24 = .ok (.iconst 0, 1) := by decide +kernel
theorem d_W_mayUseType_25 : decode b_W_mayUseType 25 = .ok (.ireturn, 1) := by decide +kernel
theorem d_W_isKindOf_0 : decode b_W_isKindOf 0 = .ok (.aload_n 0, 1) := by decide +kernel
theorem d_W_isKindOf_1 : decode b_W_isKindOf 1 = .ok (.getfield 27, 3) := by decide +kernel
theorem d_W_isKindOf_4 : decode b_W_isKindOf 4 = .ok (.iload_n 1, 1) := by decide +kernel
theorem d_W_isKindOf_5 : decode b_W_isKindOf 5 = .ok (.iaload, 1) := by decide +kernel
theorem d_W_isKindOf_6 : decode b_W_isKindOf 6 = .ok (.iload_n 2, 1) := by decide +kernel
theorem d_W_isKindOf_7 : decode b_W_isKindOf 7 = .ok (.invokestatic 47, 3) := by decide +kernel
theorem d_W_isKindOf_10 : decode b_W_isKindOf 10 = .ok (.ireturn, 1) := by decide +kernel
theorem d_W_supertypes_0 : decode b_W_supertypes 0 = .ok (.aload_n 0, 1) := by decide +kernel
theorem d_W_supertypes_1 : decode b_W_supertypes 1 = .ok (.getfield 27, 3) := by decide +kernel
theorem d_W_supertypes_4 : decode b_W_supertypes 4 = .ok (.iload_n 1, 1) := by decide +kernel
theorem d_W_supertypes_5 : decode b_W_supertypes 5 = .ok (.iaload, 1) := by decide +kernel
theorem d_W_supertypes_6 : decode b_W_supertypes 6 = .ok (.iconst 1, 1) := by decide +kernel
theorem d_W_supertypes_7 : decode b_W_supertypes 7 = .ok (.iload_n 1, 1) := by decide +kernel
theorem d_W_supertypes_8 : decode b_W_supertypes 8 = .ok (.ishl, 1) := by decide +kernel
theorem d_W_supertypes_9 : decode b_W_supertypes 9 = .ok (.iconst (-1), 1) := by decide +kernel
theorem d_W_supertypes_10 : decode b_W_supertypes 10 = .ok (.ixor, 1) := by decide +kernel
theorem d_W_supertypes_11 : decode b_W_supertypes 11 = .ok (.iand, 1) := by decide +kernel
theorem d_W_supertypes_12 : decode b_W_supertypes 12 = .ok (.ireturn, 1) := by decide +kernel
theorem d_W_kindsOf_0 : decode b_W_kindsOf 0 = .ok (.iconst 0, 1) := by decide +kernel
theorem d_W_kindsOf_1 : decode b_W_kindsOf 1 = .ok (.istore_n 2, 1) := by decide +kernel
theorem d_W_kindsOf_2 : decode b_W_kindsOf 2 = .ok (.iload_n 1, 1) := by decide +kernel
theorem d_W_kindsOf_3 : decode b_W_kindsOf 3 = .ok (.istore_n 3, 1) := by decide +kernel
theorem d_W_kindsOf_4 : decode b_W_kindsOf 4 = .ok (.iload_n 3, 1) := by decide +kernel
theorem d_W_kindsOf_5 : decode b_W_kindsOf 5 = .ok (.aload_n 0, 1) := by decide +kernel
theorem d_W_kindsOf_6 : decode b_W_kindsOf 6 = .ok (.getfield 40, 3) := by decide +kernel
theorem d_W_kindsOf_9 : decode b_W_kindsOf 9 = .ok (.if_icmp .gt 28, 3) := by decide +kernel
theorem d_W_kindsOf_12 : decode b_W_kindsOf 12 = .ok (.aload_n 0, 1) := by decide +kernel
theorem d_W_kindsOf_13 : decode b_W_kindsOf 13 = .ok (.getfield 27, 3) := by decide +kernel
theorem d_W_kindsOf_16 : decode b_W_kindsOf 16 = .ok (.iload_n 3, 1) := by decide +kernel
theorem d_W_kindsOf_17 : decode b_W_kindsOf 17 = .ok (.iaload, 1) := by decide +kernel
theorem d_W_kindsOf_18 : decode b_W_kindsOf 18 = .ok (.iload_n 1, 1) := by decide +kernel
theorem d_W_kindsOf_19 : decode b_W_kindsOf 19 = .ok (.invokestatic 47, 3) := by decide +kernel
theorem d_W_kindsOf_22 : decode b_W_kindsOf 22 = .ok (.ifCond .eq 9, 3) := by decide +kernel
theorem d_W_kindsOf_25 : decode b_W_kindsOf 25 = .ok (.iload_n 2, 1) := by decide +kernel
theorem d_W_kindsOf_26 : decode b_W_kindsOf 26 = .ok (.iconst 1, 1) := by decide +kernel
theorem d_W_kindsOf_27 : decode b_W_kindsOf 27 = .ok (.iload_n 3, 1) := by decide +kernel
theorem d_W_kindsOf_28 : decode b_W_kindsOf 28 = .ok (.ishl, 1) := by decide +kernel
theorem d_W_kindsOf_29 : decode b_W_kindsOf 29 = .ok (.ior, 1) := by decide +kernel
theorem d_W_kindsOf_30 : decode b_W_kindsOf 30 = .ok (.istore_n 2, 1) := by decide +kernel
theorem d_W_kindsOf_31 : decode b_W_kindsOf 31 = .ok (.iinc 3 1, 3) := by decide +kernel
theorem d_W_kindsOf_34 : decode b_W_kindsOf 34 = .ok (.goto (-30), 3) := by decide +kernel
theorem d_W_kindsOf_37 : decode b_W_kindsOf 37 = .ok (.iload_n 2, 1) := by decide +kernel
theorem d_W_kindsOf_38 : decode b_W_kindsOf 38 = .ok (.ireturn, 1) := by decide +kernel
theorem d_W_interfaces_0 : decode b_W_interfaces 0 = .ok (.aload_n 0, 1) := by decide +kernel
theorem d_W_interfaces_1 : decode b_W_interfaces 1 = .ok (.getfield 37, 3) := by decide +kernel
theorem d_W_interfaces_4 : decode b_W_interfaces 4 = .ok (.ireturn, 1) := by decide +kernel
theorem d_W_chain_0 : decode b_W_chain 0 = .ok (.aload_n 0, 1) := by decide +kernel
theorem d_W_chain_1 : decode b_W_chain 1 = .ok (.getfield 27, 3) := by decide +kernel
theorem d_W_chain_4 : decode b_W_chain 4 = .ok (.iload_n 1, 1) := by decide +kernel
theorem d_W_chain_5 : decode b_W_chain 5 = .ok (.iaload, 1) := by decide +kernel
theorem d_W_chain_6 : decode b_W_chain 6 = .ok (.aload_n 0, 1) := by decide +kernel
theorem d_W_chain_7 : decode b_W_chain 7 = .ok (.getfield 37, 3) := by decide +kernel
theorem d_W_chain_10 : decode b_W_chain 10 = .ok (.iconst (-1), 1) := by decide +kernel
theorem d_W_chain_11 : decode b_W_chain 11 = .ok (.ixor, 1) := by decide +kernel
theorem d_W_chain_12 : decode b_W_chain 12 = .ok (.iand, 1) := by decide +kernel
theorem d_W_chain_13 : decode b_W_chain 13 = .ok (.iconst 1, 1) := by decide +kernel
theorem d_W_chain_14 : decode b_W_chain 14 = .ok (.iload_n 1, 1) := by decide +kernel
theorem d_W_chain_15 : decode b_W_chain 15 = .ok (.ishl, 1) := by decide +kernel
theorem d_W_chain_16 : decode b_W_chain 16 = .ok (.ior, 1) := by decide +kernel
theorem d_W_chain_17 : decode b_W_chain 17 = .ok (.ireturn, 1) := by decide +kernel
theorem d_W_search_0 : decode b_W_search 0 = .ok (.iload_n 1, 1) := by decide +kernel
theorem d_W_search_1 : decode b_W_search 1 = .ok (.istore_n 3, 1) := by decide +kernel
theorem d_W_search_2 : decode b_W_search 2 = .ok (.iconst 0, 1) := by decide +kernel
theorem d_W_search_3 : decode b_W_search 3 = .ok (.istore 4, 2) := by decide +kernel
theorem d_W_search_5 : decode b_W_search 5 = .ok (.iload 4, 2) := by decide +kernel
theorem d_W_search_7 : decode b_W_search 7 = .ok (.bipush 12, 2) := by decide +kernel
theorem d_W_search_9 : decode b_W_search 9 = .ok (.if_icmp .ge 37, 3) := by decide +kernel
theorem d_W_search_12 : decode b_W_search 12 = .ok (.aload_n 0, 1) := by decide +kernel
theorem d_W_search_13 : decode b_W_search 13 = .ok (.getfield 27, 3) := by decide +kernel
end
section
theorem d_W_search_16 : decode b_W_search 16 = .ok (.iload_n 3, 1) := by decide +kernel
theorem d_W_search_17 : decode b_W_search 17 = .ok (.iaload, 1) := by decide +kernel
theorem d_W_search_18 : decode b_W_search 18 = .ok (.iload_n 2, 1) := by decide +kernel
theorem d_W_search_19 : decode b_W_search 19 = .ok (.iand, 1) := by decide +kernel
theorem d_W_search_20 : decode b_W_search 20 = .ok (.ifCond .eq 26, 3) := by decide +kernel
theorem d_W_search_23 : decode b_W_search 23 = .ok (.iload_n 2, 1) := by decide +kernel
theorem d_W_search_24 : decode b_W_search 24 = .ok (.iload_n 3, 1) := by decide +kernel
theorem d_W_search_25 : decode b_W_search 25 = .ok (.invokestatic 47, 3) := by decide +kernel
theorem d_W_search_28 : decode b_W_search 28 = .ok (.ifCond .eq 5, 3) := by decide +kernel
theorem d_W_search_31 : decode b_W_search 31 = .ok (.iload_n 3, 1) := by decide +kernel
theorem d_W_search_32 : decode b_W_search 32 = .ok (.ireturn, 1) := by decide +kernel
theorem d_W_search_33 : decode b_W_search 33 = .ok (.aload_n 0, 1) := by decide +kernel
theorem d_W_search_34 : decode b_W_search 34 = .ok (.iload_n 3, 1) := by decide +kernel
theorem d_W_search_35 : decode b_W_search 35 = .ok (.iload_n 2, 1) := by decide +kernel
theorem d_W_search_36 : decode b_W_search 36 = .ok (.invokevirtual 65, 3) := by decide +kernel
theorem d_W_search_39 : decode b_W_search 39 = .ok (.istore_n 3, 1) := by decide +kernel
theorem d_W_search_40 : decode b_W_search 40 = .ok (.iinc 4 1, 3) := by decide +kernel
theorem d_W_search_43 : decode b_W_search 43 = .ok (.goto (-38), 3) := by decide +kernel
theorem d_W_search_46 : decode b_W_search 46 = .ok (.iconst 0, 1) := by decide +kernel
theorem d_W_search_47 : decode b_W_search 47 = .ok (.ireturn, 1) := by decide +kernel
theorem d_W_nextToSearch_0 : decode b_W_nextToSearch 0 = .ok (.iconst 0, 1) := by decide +kernel
theorem d_W_nextToSearch_1 : decode b_W_nextToSearch 1 = .ok (.istore_n 3, 1) := by decide +kernel
theorem d_W_nextToSearch_2 : decode b_W_nextToSearch 2 = .ok (.iload_n 3, 1) := by decide +kernel
theorem d_W_nextToSearch_3 : decode b_W_nextToSearch 3 = .ok (.aload_n 0, 1) := by decide +kernel
theorem d_W_nextToSearch_4 : decode b_W_nextToSearch 4 = .ok (.getfield 21, 3) := by decide +kernel
theorem d_W_nextToSearch_7 : decode b_W_nextToSearch 7 = .ok (.iload_n 1, 1) := by decide +kernel
theorem d_W_nextToSearch_8 : decode b_W_nextToSearch 8 = .ok (.iaload, 1) := by decide +kernel
theorem d_W_nextToSearch_9 : decode b_W_nextToSearch 9 = .ok (.if_icmp .ge 32, 3) := by decide +kernel
theorem d_W_nextToSearch_12 : decode b_W_nextToSearch 12 = .ok (.aload_n 0, 1) := by decide +kernel
theorem d_W_nextToSearch_13 : decode b_W_nextToSearch 13 = .ok (.iload_n 1, 1) := by decide +kernel
theorem d_W_nextToSearch_14 : decode b_W_nextToSearch 14 = .ok (.iload_n 3, 1) := by decide +kernel
theorem d_W_nextToSearch_15 : decode b_W_nextToSearch 15 = .ok (.invokevirtual 58, 3) := by decide +kernel
theorem d_W_nextToSearch_18 : decode b_W_nextToSearch 18 = .ok (.istore 4, 2) := by decide +kernel
theorem d_W_nextToSearch_20 : decode b_W_nextToSearch 20 = .ok (.aload_n 0, 1) := by decide +kernel
theorem d_W_nextToSearch_21 : decode b_W_nextToSearch 21 = .ok (.getfield 27, 3) := by decide +kernel
theorem d_W_nextToSearch_24 : decode b_W_nextToSearch 24 = .ok (.iload 4, 2) := by decide +kernel
theorem d_W_nextToSearch_26 : decode b_W_nextToSearch 26 = .ok (.iaload, 1) := by decide +kernel
theorem d_W_nextToSearch_27 : decode b_W_nextToSearch 27 = .ok (.iload_n 2, 1) := by decide +kernel
theorem d_W_nextToSearch_28 : decode b_W_nextToSearch 28 = .ok (.iand, 1) := by decide +kernel
theorem d_W_nextToSearch_29 : decode b_W_nextToSearch 29 = .ok (.ifCond .eq 6, 3) := by decide +kernel
theorem d_W_nextToSearch_32 : decode b_W_nextToSearch 32 = .ok (.iload 4, 2) := by decide +kernel
theorem d_W_nextToSearch_34 : decode b_W_nextToSearch 34 = .ok (.ireturn, 1) := by decide +kernel
theorem d_W_nextToSearch_35 : decode b_W_nextToSearch 35 = .ok (.iinc 3 1, 3) := by decide +kernel
theorem d_W_nextToSearch_38 : decode b_W_nextToSearch 38 = .ok (.goto (-36), 3) := by decide +kernel
theorem d_W_nextToSearch_41 : decode b_W_nextToSearch 41 = .ok (.aload_n 0, 1) := by decide +kernel
theorem d_W_nextToSearch_42 : decode b_W_nextToSearch 42 = .ok (.getfield 9, 3) := by decide +kernel
theorem d_W_nextToSearch_45 : decode b_W_nextToSearch 45 = .ok (.iload_n 1, 1) := by decide +kernel
theorem d_W_nextToSearch_46 : decode b_W_nextToSearch 46 = .ok (.iaload, 1) := by decide +kernel
theorem d_W_nextToSearch_47 : decode b_W_nextToSearch 47 = .ok (.ireturn, 1) := by decide +kernel
end
section
def mk6 (a0 a1 a2 a3 a4 a5 : Nat → Int32) : Nat → Nat → Int32 := fun k => match k with
  | 0 => a0
  | 1 => a1
  | 2 => a2
  | 3 => a3
  | 4 => a4
  | _ => a5
def mk5 (a0 a1 a2 a3 a4 : Nat → Int32) : Nat → Nat → Int32 := fun k => match k with
  | 0 => a0
  | 1 => a1
  | 2 => a2
  | 3 => a3
  | _ => a4
def mk4 (b0 b1 b2 b3 : Int32) : Nat → Int32 := fun k => match k with
  | 0 => b0
  | 1 => b1
  | 2 => b2
  | _ => b3
theorem wW_mk {D : va_G} {cl : List vw_C} {ka : Nat → ClassId} {qa : Nat → Nat} {H : Heap} {a0 a1 a2 a3 a4 a5 : Nat → Int32} {b0 b1 b2 b3 : Int32} (h : va_P D cl [(qa 0, .inr (0, [.ref (qa 1), .ref (qa 2), .ref (qa 3), .ref (qa 4), .ref (qa 5), .ref (qa 6), .int b0, .int b1, .int b2, .int b3])), (qa 1, .inl (ka 0, 13, .inl a0)), (qa 2, .inl (ka 1, 13, .inl a1)), (qa 3, .inl (ka 2, 13, .inl a2)), (qa 4, .inl (ka 3, 13, .inl a3)), (qa 5, .inl (ka 4, 52, .inl a4)), (qa 6, .inl (ka 5, 13, .inl a5))] H) : va_P D cl (wW ka qa (mk6 a0 a1 a2 a3 a4 a5, mk4 b0 b1 b2 b3)) H := h
theorem wW_mkD {A : Nat → Prop} {ka : Nat → ClassId} {qa : Nat → Nat} {a0 a1 a2 a3 a4 a5 : Nat → Int32} {b0 b1 b2 b3 : Int32} (h : va_D A [(qa 0, .inr (0, [.ref (qa 1), .ref (qa 2), .ref (qa 3), .ref (qa 4), .ref (qa 5), .ref (qa 6), .int b0, .int b1, .int b2, .int b3])), (qa 1, .inl (ka 0, 13, .inl a0)), (qa 2, .inl (ka 1, 13, .inl a1)), (qa 3, .inl (ka 2, 13, .inl a2)), (qa 4, .inl (ka 3, 13, .inl a3)), (qa 5, .inl (ka 4, 52, .inl a4)), (qa 6, .inl (ka 5, 13, .inl a5))]) : va_D A (wW ka qa (mk6 a0 a1 a2 a3 a4 a5, mk4 b0 b1 b2 b3)) := h
theorem wM_mk {D : va_G} {cl : List vw_C} {ka : Nat → ClassId} {qa : Nat → Nat} {H : Heap} {a0 a1 a2 a3 a4 : Nat → Int32} (h : va_P D cl [(qa 0, .inr (1, [.ref (qa 1), .ref (qa 2), .ref (qa 3), .ref (qa 4), .ref (qa 5)])), (qa 1, .inl (ka 0, 4, .inl a0)), (qa 2, .inl (ka 1, 4, .inl a1)), (qa 3, .inl (ka 2, 4, .inl a2)), (qa 4, .inl (ka 3, 4, .inl a3)), (qa 5, .inl (ka 4, 52, .inl a4))] H) : va_P D cl (wM ka qa (mk5 a0 a1 a2 a3 a4)) H := h
theorem wM_mkD {A : Nat → Prop} {ka : Nat → ClassId} {qa : Nat → Nat} {a0 a1 a2 a3 a4 : Nat → Int32} (h : va_D A [(qa 0, .inr (1, [.ref (qa 1), .ref (qa 2), .ref (qa 3), .ref (qa 4), .ref (qa 5)])), (qa 1, .inl (ka 0, 4, .inl a0)), (qa 2, .inl (ka 1, 4, .inl a1)), (qa 3, .inl (ka 2, 4, .inl a2)), (qa 4, .inl (ka 3, 4, .inl a3)), (qa 5, .inl (ka 4, 52, .inl a4))]) : va_D A (wM ka qa (mk5 a0 a1 a2 a3 a4)) := h
def f_O_isPackage (p1 : Int32) : Int32 := (if p1 < (0 : Int32) then (0 : Int32) else (if (3 : Int32) ≤ p1 then (0 : Int32) else (1 : Int32)))
theorem z_O_isPackage {p1 : Int32} : narrow .boolean (.int (f_O_isPackage p1)) = .int (f_O_isPackage p1) := by
  unfold f_O_isPackage
  (repeat' split) <;> first | rfl | exact z_O_holds | exact z_W_samePackage | exact z_W_sameHost | exact z_W_isClass
def f_O_isName (p1 : Int32) : Int32 := (if p1 < (0 : Int32) then (0 : Int32) else (if (4 : Int32) ≤ p1 then (0 : Int32) else (1 : Int32)))
theorem z_O_isName {p1 : Int32} : narrow .boolean (.int (f_O_isName p1)) = .int (f_O_isName p1) := by
  unfold f_O_isName
  (repeat' split) <;> first | rfl | exact z_O_holds | exact z_W_samePackage | exact z_W_sameHost | exact z_W_isClass
def f_O_isAccess (p1 : Int32) : Int32 := (if p1 < (0 : Int32) then (0 : Int32) else (if (3 : Int32) < p1 then (0 : Int32) else (1 : Int32)))
theorem z_O_isAccess {p1 : Int32} : narrow .boolean (.int (f_O_isAccess p1)) = .int (f_O_isAccess p1) := by
  unfold f_O_isAccess
  (repeat' split) <;> first | rfl | exact z_O_holds | exact z_W_samePackage | exact z_W_sameHost | exact z_W_isClass
def f_O_isForm (p1 : Int32) : Int32 := (if p1 < (0 : Int32) then (0 : Int32) else (if (2 : Int32) < p1 then (0 : Int32) else (1 : Int32)))
theorem z_O_isForm {p1 : Int32} : narrow .boolean (.int (f_O_isForm p1)) = .int (f_O_isForm p1) := by
  unfold f_O_isForm
  (repeat' split) <;> first | rfl | exact z_O_holds | exact z_W_samePackage | exact z_W_sameHost | exact z_W_isClass
def f_O_holds (p1 p2 : Int32) : Int32 := (if (p1 &&& ((1 : Int32) <<< (p2 &&& (31 : Int32)))) = (0 : Int32) then (0 : Int32) else (1 : Int32))
theorem z_O_holds {p1 p2 : Int32} : narrow .boolean (.int (f_O_holds p1 p2)) = .int (f_O_holds p1 p2) := by
  unfold f_O_holds
  (repeat' split) <;> first | rfl | exact z_O_holds | exact z_W_samePackage | exact z_W_sameHost | exact z_W_isClass
def lr_O_leastOf (p1 : Int32) : Nat → Int32 → Int32
  | 0, _ => 0
  | n + 1, x1 => (if (12 : Int32) < x1 then (0 : Int32) else (if (f_O_holds p1 x1) = (0 : Int32) then (lr_O_leastOf p1 n (x1 + (1 : Int32))) else x1))
theorem lr_O_leastOf_s {p1 : Int32} (n : Nat) (x1 : Int32) : lr_O_leastOf p1 (n + 1) x1 = (if (12 : Int32) < x1 then (0 : Int32) else (if (f_O_holds p1 x1) = (0 : Int32) then (lr_O_leastOf p1 n (x1 + (1 : Int32))) else x1)) := rfl
def f_O_leastOf (p1 : Int32) : Int32 := (lr_O_leastOf p1 14 (1 : Int32))
def lr_O_greatestOf (p1 : Int32) : Nat → Int32 → Int32
  | 0, _ => 0
  | n + 1, x1 => (if x1 < (1 : Int32) then (0 : Int32) else (if (f_O_holds p1 x1) = (0 : Int32) then (lr_O_greatestOf p1 n (x1 + (-1 : Int32))) else x1))
theorem lr_O_greatestOf_s {p1 : Int32} (n : Nat) (x1 : Int32) : lr_O_greatestOf p1 (n + 1) x1 = (if x1 < (1 : Int32) then (0 : Int32) else (if (f_O_holds p1 x1) = (0 : Int32) then (lr_O_greatestOf p1 n (x1 + (-1 : Int32))) else x1)) := rfl
def f_O_greatestOf (p1 : Int32) : Int32 := (lr_O_greatestOf p1 14 (12 : Int32))
def f_J_bitCount (p1 : Int32) : Int32 := ((((((((p1 - (((p1.toUInt32 >>> ((1 : Int32).toUInt32 &&& Int32.toUInt32 31)).toInt32) &&& (1431655765 : Int32))) &&& (858993459 : Int32)) + ((((p1 - (((p1.toUInt32 >>> ((1 : Int32).toUInt32 &&& Int32.toUInt32 31)).toInt32) &&& (1431655765 : Int32))).toUInt32 >>> ((2 : Int32).toUInt32 &&& Int32.toUInt32 31)).toInt32) &&& (858993459 : Int32))) + (((((p1 - (((p1.toUInt32 >>> ((1 : Int32).toUInt32 &&& Int32.toUInt32 31)).toInt32) &&& (1431655765 : Int32))) &&& (858993459 : Int32)) + ((((p1 - (((p1.toUInt32 >>> ((1 : Int32).toUInt32 &&& Int32.toUInt32 31)).toInt32) &&& (1431655765 : Int32))).toUInt32 >>> ((2 : Int32).toUInt32 &&& Int32.toUInt32 31)).toInt32) &&& (858993459 : Int32))).toUInt32 >>> ((4 : Int32).toUInt32 &&& Int32.toUInt32 31)).toInt32)) &&& (252645135 : Int32)) + (((((((p1 - (((p1.toUInt32 >>> ((1 : Int32).toUInt32 &&& Int32.toUInt32 31)).toInt32) &&& (1431655765 : Int32))) &&& (858993459 : Int32)) + ((((p1 - (((p1.toUInt32 >>> ((1 : Int32).toUInt32 &&& Int32.toUInt32 31)).toInt32) &&& (1431655765 : Int32))).toUInt32 >>> ((2 : Int32).toUInt32 &&& Int32.toUInt32 31)).toInt32) &&& (858993459 : Int32))) + (((((p1 - (((p1.toUInt32 >>> ((1 : Int32).toUInt32 &&& Int32.toUInt32 31)).toInt32) &&& (1431655765 : Int32))) &&& (858993459 : Int32)) + ((((p1 - (((p1.toUInt32 >>> ((1 : Int32).toUInt32 &&& Int32.toUInt32 31)).toInt32) &&& (1431655765 : Int32))).toUInt32 >>> ((2 : Int32).toUInt32 &&& Int32.toUInt32 31)).toInt32) &&& (858993459 : Int32))).toUInt32 >>> ((4 : Int32).toUInt32 &&& Int32.toUInt32 31)).toInt32)) &&& (252645135 : Int32)).toUInt32 >>> ((8 : Int32).toUInt32 &&& Int32.toUInt32 31)).toInt32)) + ((((((((p1 - (((p1.toUInt32 >>> ((1 : Int32).toUInt32 &&& Int32.toUInt32 31)).toInt32) &&& (1431655765 : Int32))) &&& (858993459 : Int32)) + ((((p1 - (((p1.toUInt32 >>> ((1 : Int32).toUInt32 &&& Int32.toUInt32 31)).toInt32) &&& (1431655765 : Int32))).toUInt32 >>> ((2 : Int32).toUInt32 &&& Int32.toUInt32 31)).toInt32) &&& (858993459 : Int32))) + (((((p1 - (((p1.toUInt32 >>> ((1 : Int32).toUInt32 &&& Int32.toUInt32 31)).toInt32) &&& (1431655765 : Int32))) &&& (858993459 : Int32)) + ((((p1 - (((p1.toUInt32 >>> ((1 : Int32).toUInt32 &&& Int32.toUInt32 31)).toInt32) &&& (1431655765 : Int32))).toUInt32 >>> ((2 : Int32).toUInt32 &&& Int32.toUInt32 31)).toInt32) &&& (858993459 : Int32))).toUInt32 >>> ((4 : Int32).toUInt32 &&& Int32.toUInt32 31)).toInt32)) &&& (252645135 : Int32)) + (((((((p1 - (((p1.toUInt32 >>> ((1 : Int32).toUInt32 &&& Int32.toUInt32 31)).toInt32) &&& (1431655765 : Int32))) &&& (858993459 : Int32)) + ((((p1 - (((p1.toUInt32 >>> ((1 : Int32).toUInt32 &&& Int32.toUInt32 31)).toInt32) &&& (1431655765 : Int32))).toUInt32 >>> ((2 : Int32).toUInt32 &&& Int32.toUInt32 31)).toInt32) &&& (858993459 : Int32))) + (((((p1 - (((p1.toUInt32 >>> ((1 : Int32).toUInt32 &&& Int32.toUInt32 31)).toInt32) &&& (1431655765 : Int32))) &&& (858993459 : Int32)) + ((((p1 - (((p1.toUInt32 >>> ((1 : Int32).toUInt32 &&& Int32.toUInt32 31)).toInt32) &&& (1431655765 : Int32))).toUInt32 >>> ((2 : Int32).toUInt32 &&& Int32.toUInt32 31)).toInt32) &&& (858993459 : Int32))).toUInt32 >>> ((4 : Int32).toUInt32 &&& Int32.toUInt32 31)).toInt32)) &&& (252645135 : Int32)).toUInt32 >>> ((8 : Int32).toUInt32 &&& Int32.toUInt32 31)).toInt32)).toUInt32 >>> ((16 : Int32).toUInt32 &&& Int32.toUInt32 31)).toInt32)) &&& (63 : Int32))
def f_W_has (w : WS) (p1 : Int32) : Int32 := (if p1 < (1 : Int32) then (0 : Int32) else (if (w.2 3) < p1 then (0 : Int32) else (1 : Int32)))
theorem z_W_has {w : WS} {p1 : Int32} : narrow .boolean (.int (f_W_has w p1)) = .int (f_W_has w p1) := by
  unfold f_W_has
  (repeat' split) <;> first | rfl | exact z_O_holds | exact z_W_samePackage | exact z_W_sameHost | exact z_W_isClass
def f_W_isFull (w : WS) : Int32 := (if (w.2 3) < (12 : Int32) then (0 : Int32) else (1 : Int32))
theorem z_W_isFull {w : WS} : narrow .boolean (.int (f_W_isFull w)) = .int (f_W_isFull w) := by
  unfold f_W_isFull
  (repeat' split) <;> first | rfl | exact z_O_holds | exact z_W_samePackage | exact z_W_sameHost | exact z_W_isClass
def f_W_isInterface (w : WS) (p1 : Int32) : Int32 := (if (f_W_has w p1) = (0 : Int32) then (0 : Int32) else (if (f_O_holds (w.2 2) p1) = (0 : Int32) then (0 : Int32) else (1 : Int32)))
theorem z_W_isInterface {w : WS} {p1 : Int32} : narrow .boolean (.int (f_W_isInterface w p1)) = .int (f_W_isInterface w p1) := by
  unfold f_W_isInterface
  (repeat' split) <;> first | rfl | exact z_O_holds | exact z_W_samePackage | exact z_W_sameHost | exact z_W_isClass
def f_W_isClass (w : WS) (p1 : Int32) : Int32 := (if (f_W_has w p1) = (0 : Int32) then (0 : Int32) else (if (f_O_holds (w.2 2) p1) = (0 : Int32) then (1 : Int32) else (0 : Int32)))
theorem z_W_isClass {w : WS} {p1 : Int32} : narrow .boolean (.int (f_W_isClass w p1)) = .int (f_W_isClass w p1) := by
  unfold f_W_isClass
  (repeat' split) <;> first | rfl | exact z_O_holds | exact z_W_samePackage | exact z_W_sameHost | exact z_W_isClass
def f_W_mayBeExtended (w : WS) (p1 : Int32) : Int32 := (if (f_W_isClass w p1) = (0 : Int32) then (0 : Int32) else (if (f_O_holds (w.2 1) p1) = (0 : Int32) then (1 : Int32) else (0 : Int32)))
theorem z_W_mayBeExtended {w : WS} {p1 : Int32} : narrow .boolean (.int (f_W_mayBeExtended w p1)) = .int (f_W_mayBeExtended w p1) := by
  unfold f_W_mayBeExtended
  (repeat' split) <;> first | rfl | exact z_O_holds | exact z_W_samePackage | exact z_W_sameHost | exact z_W_isClass
def f_W_directCount (w : WS) (p1 : Int32) : Int32 := ((w.1 3) p1.toNatClampNeg)
def f_W_directAt (w : WS) (p1 p2 : Int32) : Int32 := ((w.1 4) ((p1 * (4 : Int32)) + p2).toNatClampNeg)
def f_W_superclassOf (w : WS) (p1 : Int32) : Int32 := ((w.1 0) p1.toNatClampNeg)
def f_W_packageOf (w : WS) (p1 : Int32) : Int32 := ((w.1 1) p1.toNatClampNeg)
def f_W_hostOf (w : WS) (p1 : Int32) : Int32 := ((w.1 2) p1.toNatClampNeg)
def f_W_interfaces (w : WS) : Int32 := (w.2 2)
def f_W_isKindOf (w : WS) (p1 p2 : Int32) : Int32 := (f_O_holds ((w.1 5) p1.toNatClampNeg) p2)
theorem z_W_isKindOf {w : WS} {p1 p2 : Int32} : narrow .boolean (.int (f_W_isKindOf w p1 p2)) = .int (f_W_isKindOf w p1 p2) := by
  unfold f_W_isKindOf
  exact z_O_holds
def f_W_supertypes (w : WS) (p1 : Int32) : Int32 := (((w.1 5) p1.toNatClampNeg) &&& (((1 : Int32) <<< (p1 &&& (31 : Int32))) ^^^ (-1 : Int32)))
def f_W_chain (w : WS) (p1 : Int32) : Int32 := ((((w.1 5) p1.toNatClampNeg) &&& ((w.2 2) ^^^ (-1 : Int32))) ||| ((1 : Int32) <<< (p1 &&& (31 : Int32))))
def f_W_sameHost (w : WS) (p1 p2 : Int32) : Int32 := (if ((w.1 2) p1.toNatClampNeg) = ((w.1 2) p2.toNatClampNeg) then (1 : Int32) else (0 : Int32))
theorem z_W_sameHost {w : WS} {p1 p2 : Int32} : narrow .boolean (.int (f_W_sameHost w p1 p2)) = .int (f_W_sameHost w p1 p2) := by
  unfold f_W_sameHost
  (repeat' split) <;> first | rfl | exact z_O_holds | exact z_W_samePackage | exact z_W_sameHost | exact z_W_isClass
def f_W_samePackage (w : WS) (p1 p2 : Int32) : Int32 := (if ((w.1 1) p1.toNatClampNeg) = ((w.1 1) p2.toNatClampNeg) then (1 : Int32) else (0 : Int32))
theorem z_W_samePackage {w : WS} {p1 p2 : Int32} : narrow .boolean (.int (f_W_samePackage w p1 p2)) = .int (f_W_samePackage w p1 p2) := by
  unfold f_W_samePackage
  (repeat' split) <;> first | rfl | exact z_O_holds | exact z_W_samePackage | exact z_W_sameHost | exact z_W_isClass
def f_W_mayUseType (w : WS) (p1 p2 : Int32) : Int32 := (if (f_O_holds (w.2 0) p1) = (0 : Int32) then (if (f_W_samePackage w p1 p2) = (0 : Int32) then (0 : Int32) else (1 : Int32)) else (1 : Int32))
theorem z_W_mayUseType {w : WS} {p1 p2 : Int32} : narrow .boolean (.int (f_W_mayUseType w p1 p2)) = .int (f_W_mayUseType w p1 p2) := by
  unfold f_W_mayUseType
  (repeat' split) <;> first | rfl | exact z_O_holds | exact z_W_samePackage | exact z_W_sameHost | exact z_W_isClass
def lr_W_hasDirect (w : WS) (p1 p2 : Int32) : Nat → Int32 → Int32
  | 0, _ => 0
  | n + 1, x3 => (if ((w.1 3) p1.toNatClampNeg) ≤ x3 then (0 : Int32) else (if (f_W_directAt w p1 x3) = p2 then (1 : Int32) else (lr_W_hasDirect w p1 p2 n (x3 + (1 : Int32)))))
theorem lr_W_hasDirect_s {w : WS} {p1 p2 : Int32} (n : Nat) (x3 : Int32) : lr_W_hasDirect w p1 p2 (n + 1) x3 = (if ((w.1 3) p1.toNatClampNeg) ≤ x3 then (0 : Int32) else (if (f_W_directAt w p1 x3) = p2 then (1 : Int32) else (lr_W_hasDirect w p1 p2 n (x3 + (1 : Int32))))) := rfl
def f_W_hasDirect (w : WS) (p1 p2 : Int32) : Int32 := (lr_W_hasDirect w p1 p2 14 (0 : Int32))
def lr_W_hostsAnother (w : WS) (p1 : Int32) : Nat → Int32 → Int32
  | 0, _ => 0
  | n + 1, x2 => (if (w.2 3) < x2 then (0 : Int32) else (if x2 = p1 then (lr_W_hostsAnother w p1 n (x2 + (1 : Int32))) else (if ((w.1 2) x2.toNatClampNeg) = p1 then (1 : Int32) else (lr_W_hostsAnother w p1 n (x2 + (1 : Int32))))))
theorem lr_W_hostsAnother_s {w : WS} {p1 : Int32} (n : Nat) (x2 : Int32) : lr_W_hostsAnother w p1 (n + 1) x2 = (if (w.2 3) < x2 then (0 : Int32) else (if x2 = p1 then (lr_W_hostsAnother w p1 n (x2 + (1 : Int32))) else (if ((w.1 2) x2.toNatClampNeg) = p1 then (1 : Int32) else (lr_W_hostsAnother w p1 n (x2 + (1 : Int32)))))) := rfl
def f_W_hostsAnother (w : WS) (p1 : Int32) : Int32 := (lr_W_hostsAnother w p1 14 (1 : Int32))
def lr_W_kindsOf (w : WS) (p1 : Int32) : Nat → Int32 → Int32 → Int32
  | 0, _, _ => 0
  | n + 1, x2, x3 => (if (w.2 3) < x3 then x2 else (if (f_O_holds ((w.1 5) x3.toNatClampNeg) p1) = (0 : Int32) then (lr_W_kindsOf w p1 n x2 (x3 + (1 : Int32))) else (lr_W_kindsOf w p1 n (x2 ||| ((1 : Int32) <<< (x3 &&& (31 : Int32)))) (x3 + (1 : Int32)))))
theorem lr_W_kindsOf_s {w : WS} {p1 : Int32} (n : Nat) (x2 : Int32) (x3 : Int32) : lr_W_kindsOf w p1 (n + 1) x2 x3 = (if (w.2 3) < x3 then x2 else (if (f_O_holds ((w.1 5) x3.toNatClampNeg) p1) = (0 : Int32) then (lr_W_kindsOf w p1 n x2 (x3 + (1 : Int32))) else (lr_W_kindsOf w p1 n (x2 ||| ((1 : Int32) <<< (x3 &&& (31 : Int32)))) (x3 + (1 : Int32))))) := rfl
def f_W_kindsOf (w : WS) (p1 : Int32) : Int32 := (lr_W_kindsOf w p1 14 (0 : Int32) p1)
def lr_W_nextToSearch (w : WS) (p1 p2 : Int32) : Nat → Int32 → Int32
  | 0, _ => 0
  | n + 1, x3 => (if ((w.1 3) p1.toNatClampNeg) ≤ x3 then ((w.1 0) p1.toNatClampNeg) else (if (((w.1 5) (f_W_directAt w p1 x3).toNatClampNeg) &&& p2) = (0 : Int32) then (lr_W_nextToSearch w p1 p2 n (x3 + (1 : Int32))) else (f_W_directAt w p1 x3)))
theorem lr_W_nextToSearch_s {w : WS} {p1 p2 : Int32} (n : Nat) (x3 : Int32) : lr_W_nextToSearch w p1 p2 (n + 1) x3 = (if ((w.1 3) p1.toNatClampNeg) ≤ x3 then ((w.1 0) p1.toNatClampNeg) else (if (((w.1 5) (f_W_directAt w p1 x3).toNatClampNeg) &&& p2) = (0 : Int32) then (lr_W_nextToSearch w p1 p2 n (x3 + (1 : Int32))) else (f_W_directAt w p1 x3))) := rfl
def f_W_nextToSearch (w : WS) (p1 p2 : Int32) : Int32 := (lr_W_nextToSearch w p1 p2 14 (0 : Int32))
def lr_W_search (w : WS) (p1 p2 : Int32) : Nat → Int32 → Int32 → Int32
  | 0, _, _ => 0
  | n + 1, x3, x4 => (if (12 : Int32) ≤ x4 then (0 : Int32) else (if (((w.1 5) x3.toNatClampNeg) &&& p2) = (0 : Int32) then (0 : Int32) else (if (f_O_holds p2 x3) = (0 : Int32) then (lr_W_search w p1 p2 n (f_W_nextToSearch w x3 p2) (x4 + (1 : Int32))) else x3)))
theorem lr_W_search_s {w : WS} {p1 p2 : Int32} (n : Nat) (x3 : Int32) (x4 : Int32) : lr_W_search w p1 p2 (n + 1) x3 x4 = (if (12 : Int32) ≤ x4 then (0 : Int32) else (if (((w.1 5) x3.toNatClampNeg) &&& p2) = (0 : Int32) then (0 : Int32) else (if (f_O_holds p2 x3) = (0 : Int32) then (lr_W_search w p1 p2 n (f_W_nextToSearch w x3 p2) (x4 + (1 : Int32))) else x3))) := rfl
def f_W_search (w : WS) (p1 p2 : Int32) : Int32 := (lr_W_search w p1 p2 14 p1 (0 : Int32))
def s_W_setHost (w : WS) (p1 p2 : Int32) : WS := (mk6 (w.1 0) (w.1 1) (upd (w.1 2) p1.toNatClampNeg p2) (w.1 3) (w.1 4) (w.1 5), mk4 (w.2 0) (w.2 1) (w.2 2) (w.2 3))
def f_W_addType (w : WS) (p1 p2 p3 : Int32) : Int32 := (if p3 = (0 : Int32) then ((w.2 3) + (1 : Int32)) else ((w.2 3) + (1 : Int32)))
def s_W_addType (w : WS) (p1 p2 p3 : Int32) : WS := (if p3 = (0 : Int32) then (mk6 (upd (w.1 0) ((w.2 3) + (1 : Int32)).toNatClampNeg p1) (upd (w.1 1) ((w.2 3) + (1 : Int32)).toNatClampNeg p2) (upd (w.1 2) ((w.2 3) + (1 : Int32)).toNatClampNeg ((w.2 3) + (1 : Int32))) (w.1 3) (w.1 4) (upd (w.1 5) ((w.2 3) + (1 : Int32)).toNatClampNeg (((w.1 5) p1.toNatClampNeg) ||| ((1 : Int32) <<< (((w.2 3) + (1 : Int32)) &&& (31 : Int32))))), mk4 (w.2 0) (w.2 1) (w.2 2) ((w.2 3) + (1 : Int32))) else (mk6 (upd (w.1 0) ((w.2 3) + (1 : Int32)).toNatClampNeg p1) (upd (w.1 1) ((w.2 3) + (1 : Int32)).toNatClampNeg p2) (upd (w.1 2) ((w.2 3) + (1 : Int32)).toNatClampNeg ((w.2 3) + (1 : Int32))) (w.1 3) (w.1 4) (upd (w.1 5) ((w.2 3) + (1 : Int32)).toNatClampNeg (((w.1 5) p1.toNatClampNeg) ||| ((1 : Int32) <<< (((w.2 3) + (1 : Int32)) &&& (31 : Int32))))), mk4 ((w.2 0) ||| ((1 : Int32) <<< (((w.2 3) + (1 : Int32)) &&& (31 : Int32)))) (w.2 1) (w.2 2) ((w.2 3) + (1 : Int32))))
def f_W_addClass (w : WS) (p1 p2 p3 p4 : Int32) : Int32 := (if p4 = (0 : Int32) then (f_W_addType w p1 p2 p3) else (f_W_addType w p1 p2 p3))
def s_W_addClass (w : WS) (p1 p2 p3 p4 : Int32) : WS := (if p4 = (0 : Int32) then (s_W_addType w p1 p2 p3) else (mk6 ((s_W_addType w p1 p2 p3).1 0) ((s_W_addType w p1 p2 p3).1 1) ((s_W_addType w p1 p2 p3).1 2) ((s_W_addType w p1 p2 p3).1 3) ((s_W_addType w p1 p2 p3).1 4) ((s_W_addType w p1 p2 p3).1 5), mk4 ((s_W_addType w p1 p2 p3).2 0) (((s_W_addType w p1 p2 p3).2 1) ||| ((1 : Int32) <<< ((f_W_addType w p1 p2 p3) &&& (31 : Int32)))) ((s_W_addType w p1 p2 p3).2 2) ((s_W_addType w p1 p2 p3).2 3)))
def f_W_addInterface (w : WS) (p1 p2 : Int32) : Int32 := (f_W_addType w (0 : Int32) p1 p2)
def s_W_addInterface (w : WS) (p1 p2 : Int32) : WS := (mk6 ((s_W_addType w (0 : Int32) p1 p2).1 0) ((s_W_addType w (0 : Int32) p1 p2).1 1) ((s_W_addType w (0 : Int32) p1 p2).1 2) ((s_W_addType w (0 : Int32) p1 p2).1 3) ((s_W_addType w (0 : Int32) p1 p2).1 4) ((s_W_addType w (0 : Int32) p1 p2).1 5), mk4 ((s_W_addType w (0 : Int32) p1 p2).2 0) ((s_W_addType w (0 : Int32) p1 p2).2 1) (((s_W_addType w (0 : Int32) p1 p2).2 2) ||| ((1 : Int32) <<< ((f_W_addType w (0 : Int32) p1 p2) &&& (31 : Int32)))) ((s_W_addType w (0 : Int32) p1 p2).2 3))
def lr_W_addDirect (p1 p2 : Int32) : Nat → Int32 → WS → Int32
  | 0, _, _ => 0
  | n + 1, x3, S => (if (S.2 3) < x3 then ((S.1 3) p1.toNatClampNeg) else (if (f_O_holds ((S.1 5) x3.toNatClampNeg) p1) = (0 : Int32) then (lr_W_addDirect p1 p2 n (x3 + (1 : Int32)) S) else (lr_W_addDirect p1 p2 n (x3 + (1 : Int32)) (mk6 (S.1 0) (S.1 1) (S.1 2) (S.1 3) (S.1 4) (upd (S.1 5) x3.toNatClampNeg (((S.1 5) x3.toNatClampNeg) ||| ((S.1 5) p2.toNatClampNeg))), mk4 (S.2 0) (S.2 1) (S.2 2) (S.2 3)))))
theorem lr_W_addDirect_s {p1 p2 : Int32} (n : Nat) (x3 : Int32) (S : WS) : lr_W_addDirect p1 p2 (n + 1) x3 S = (if (S.2 3) < x3 then ((S.1 3) p1.toNatClampNeg) else (if (f_O_holds ((S.1 5) x3.toNatClampNeg) p1) = (0 : Int32) then (lr_W_addDirect p1 p2 n (x3 + (1 : Int32)) S) else (lr_W_addDirect p1 p2 n (x3 + (1 : Int32)) (mk6 (S.1 0) (S.1 1) (S.1 2) (S.1 3) (S.1 4) (upd (S.1 5) x3.toNatClampNeg (((S.1 5) x3.toNatClampNeg) ||| ((S.1 5) p2.toNatClampNeg))), mk4 (S.2 0) (S.2 1) (S.2 2) (S.2 3))))) := rfl
def ls_W_addDirect (p1 p2 : Int32) : Nat → Int32 → WS → WS
  | 0, _, S => S
  | n + 1, x3, S => (if (S.2 3) < x3 then S else (if (f_O_holds ((S.1 5) x3.toNatClampNeg) p1) = (0 : Int32) then (ls_W_addDirect p1 p2 n (x3 + (1 : Int32)) S) else (ls_W_addDirect p1 p2 n (x3 + (1 : Int32)) (mk6 (S.1 0) (S.1 1) (S.1 2) (S.1 3) (S.1 4) (upd (S.1 5) x3.toNatClampNeg (((S.1 5) x3.toNatClampNeg) ||| ((S.1 5) p2.toNatClampNeg))), mk4 (S.2 0) (S.2 1) (S.2 2) (S.2 3)))))
theorem ls_W_addDirect_s {p1 p2 : Int32} (n : Nat) (x3 : Int32) (S : WS) : ls_W_addDirect p1 p2 (n + 1) x3 S = (if (S.2 3) < x3 then S else (if (f_O_holds ((S.1 5) x3.toNatClampNeg) p1) = (0 : Int32) then (ls_W_addDirect p1 p2 n (x3 + (1 : Int32)) S) else (ls_W_addDirect p1 p2 n (x3 + (1 : Int32)) (mk6 (S.1 0) (S.1 1) (S.1 2) (S.1 3) (S.1 4) (upd (S.1 5) x3.toNatClampNeg (((S.1 5) x3.toNatClampNeg) ||| ((S.1 5) p2.toNatClampNeg))), mk4 (S.2 0) (S.2 1) (S.2 2) (S.2 3))))) := rfl
def f_W_addDirect (w : WS) (p1 p2 : Int32) : Int32 := (lr_W_addDirect p1 p2 14 p1 (mk6 (w.1 0) (w.1 1) (w.1 2) (upd (w.1 3) p1.toNatClampNeg (((w.1 3) p1.toNatClampNeg) + (1 : Int32))) (upd (w.1 4) ((p1 * (4 : Int32)) + ((w.1 3) p1.toNatClampNeg)).toNatClampNeg p2) (w.1 5), mk4 (w.2 0) (w.2 1) (w.2 2) (w.2 3)))
def s_W_addDirect (w : WS) (p1 p2 : Int32) : WS := (ls_W_addDirect p1 p2 14 p1 (mk6 (w.1 0) (w.1 1) (w.1 2) (upd (w.1 3) p1.toNatClampNeg (((w.1 3) p1.toNatClampNeg) + (1 : Int32))) (upd (w.1 4) ((p1 * (4 : Int32)) + ((w.1 3) p1.toNatClampNeg)).toNatClampNeg p2) (w.1 5), mk4 (w.2 0) (w.2 1) (w.2 2) (w.2 3)))
def f_M_owners (mm : MS) (p1 : Int32) : Int32 := ((mm 0) p1.toNatClampNeg)
def f_M_abstracts (mm : MS) (p1 : Int32) : Int32 := ((mm 2) p1.toNatClampNeg)
def f_M_instances (mm : MS) (p1 : Int32) : Int32 := (((mm 0) p1.toNatClampNeg) &&& (((mm 1) p1.toNatClampNeg) ^^^ (-1 : Int32)))
def f_M_inheritable (mm : MS) (p1 : Int32) : Int32 := ((((mm 0) p1.toNatClampNeg) &&& (((mm 1) p1.toNatClampNeg) ^^^ (-1 : Int32))) &&& (((mm 3) p1.toNatClampNeg) ^^^ (-1 : Int32)))
def f_M_has (mm : MS) (p1 p2 : Int32) : Int32 := (f_O_holds ((mm 0) p2.toNatClampNeg) p1)
theorem z_M_has {mm : MS} {p1 p2 : Int32} : narrow .boolean (.int (f_M_has mm p1 p2)) = .int (f_M_has mm p1 p2) := by
  unfold f_M_has
  exact z_O_holds
def f_M_isStatic (mm : MS) (p1 p2 : Int32) : Int32 := (f_O_holds ((mm 1) p2.toNatClampNeg) p1)
theorem z_M_isStatic {mm : MS} {p1 p2 : Int32} : narrow .boolean (.int (f_M_isStatic mm p1 p2)) = .int (f_M_isStatic mm p1 p2) := by
  unfold f_M_isStatic
  exact z_O_holds
def f_M_accessOf (mm : MS) (p1 p2 : Int32) : Int32 := ((mm 4) ((p1 * (4 : Int32)) + p2).toNatClampNeg)
def s_M_drop (mm : MS) (p1 p2 : Int32) : MS := (mk5 (upd (mm 0) p2.toNatClampNeg (((mm 0) p2.toNatClampNeg) &&& (((1 : Int32) <<< (p1 &&& (31 : Int32))) ^^^ (-1 : Int32)))) (upd (mm 1) p2.toNatClampNeg (((mm 1) p2.toNatClampNeg) &&& (((1 : Int32) <<< (p1 &&& (31 : Int32))) ^^^ (-1 : Int32)))) (upd (mm 2) p2.toNatClampNeg (((mm 2) p2.toNatClampNeg) &&& (((1 : Int32) <<< (p1 &&& (31 : Int32))) ^^^ (-1 : Int32)))) (upd (mm 3) p2.toNatClampNeg (((mm 3) p2.toNatClampNeg) &&& (((1 : Int32) <<< (p1 &&& (31 : Int32))) ^^^ (-1 : Int32)))) (mm 4))
def s_M_put (mm : MS) (p1 p2 p3 p4 : Int32) : MS := (if p4 = (1 : Int32) then (if p4 = (2 : Int32) then (if p3 = (0 : Int32) then (mk5 (upd ((s_M_drop mm p1 p2) 0) p2.toNatClampNeg ((((s_M_drop mm p1 p2) 0) p2.toNatClampNeg) ||| ((1 : Int32) <<< (p1 &&& (31 : Int32))))) (upd ((s_M_drop mm p1 p2) 1) p2.toNatClampNeg ((((s_M_drop mm p1 p2) 1) p2.toNatClampNeg) ||| ((1 : Int32) <<< (p1 &&& (31 : Int32))))) (upd ((s_M_drop mm p1 p2) 2) p2.toNatClampNeg ((((s_M_drop mm p1 p2) 2) p2.toNatClampNeg) ||| ((1 : Int32) <<< (p1 &&& (31 : Int32))))) (upd ((s_M_drop mm p1 p2) 3) p2.toNatClampNeg ((((s_M_drop mm p1 p2) 3) p2.toNatClampNeg) ||| ((1 : Int32) <<< (p1 &&& (31 : Int32))))) (upd ((s_M_drop mm p1 p2) 4) ((p1 * (4 : Int32)) + p2).toNatClampNeg p3)) else (mk5 (upd ((s_M_drop mm p1 p2) 0) p2.toNatClampNeg ((((s_M_drop mm p1 p2) 0) p2.toNatClampNeg) ||| ((1 : Int32) <<< (p1 &&& (31 : Int32))))) (upd ((s_M_drop mm p1 p2) 1) p2.toNatClampNeg ((((s_M_drop mm p1 p2) 1) p2.toNatClampNeg) ||| ((1 : Int32) <<< (p1 &&& (31 : Int32))))) (upd ((s_M_drop mm p1 p2) 2) p2.toNatClampNeg ((((s_M_drop mm p1 p2) 2) p2.toNatClampNeg) ||| ((1 : Int32) <<< (p1 &&& (31 : Int32))))) ((s_M_drop mm p1 p2) 3) (upd ((s_M_drop mm p1 p2) 4) ((p1 * (4 : Int32)) + p2).toNatClampNeg p3))) else (if p3 = (0 : Int32) then (mk5 (upd ((s_M_drop mm p1 p2) 0) p2.toNatClampNeg ((((s_M_drop mm p1 p2) 0) p2.toNatClampNeg) ||| ((1 : Int32) <<< (p1 &&& (31 : Int32))))) (upd ((s_M_drop mm p1 p2) 1) p2.toNatClampNeg ((((s_M_drop mm p1 p2) 1) p2.toNatClampNeg) ||| ((1 : Int32) <<< (p1 &&& (31 : Int32))))) ((s_M_drop mm p1 p2) 2) (upd ((s_M_drop mm p1 p2) 3) p2.toNatClampNeg ((((s_M_drop mm p1 p2) 3) p2.toNatClampNeg) ||| ((1 : Int32) <<< (p1 &&& (31 : Int32))))) (upd ((s_M_drop mm p1 p2) 4) ((p1 * (4 : Int32)) + p2).toNatClampNeg p3)) else (mk5 (upd ((s_M_drop mm p1 p2) 0) p2.toNatClampNeg ((((s_M_drop mm p1 p2) 0) p2.toNatClampNeg) ||| ((1 : Int32) <<< (p1 &&& (31 : Int32))))) (upd ((s_M_drop mm p1 p2) 1) p2.toNatClampNeg ((((s_M_drop mm p1 p2) 1) p2.toNatClampNeg) ||| ((1 : Int32) <<< (p1 &&& (31 : Int32))))) ((s_M_drop mm p1 p2) 2) ((s_M_drop mm p1 p2) 3) (upd ((s_M_drop mm p1 p2) 4) ((p1 * (4 : Int32)) + p2).toNatClampNeg p3)))) else (if p4 = (2 : Int32) then (if p3 = (0 : Int32) then (mk5 (upd ((s_M_drop mm p1 p2) 0) p2.toNatClampNeg ((((s_M_drop mm p1 p2) 0) p2.toNatClampNeg) ||| ((1 : Int32) <<< (p1 &&& (31 : Int32))))) ((s_M_drop mm p1 p2) 1) (upd ((s_M_drop mm p1 p2) 2) p2.toNatClampNeg ((((s_M_drop mm p1 p2) 2) p2.toNatClampNeg) ||| ((1 : Int32) <<< (p1 &&& (31 : Int32))))) (upd ((s_M_drop mm p1 p2) 3) p2.toNatClampNeg ((((s_M_drop mm p1 p2) 3) p2.toNatClampNeg) ||| ((1 : Int32) <<< (p1 &&& (31 : Int32))))) (upd ((s_M_drop mm p1 p2) 4) ((p1 * (4 : Int32)) + p2).toNatClampNeg p3)) else (mk5 (upd ((s_M_drop mm p1 p2) 0) p2.toNatClampNeg ((((s_M_drop mm p1 p2) 0) p2.toNatClampNeg) ||| ((1 : Int32) <<< (p1 &&& (31 : Int32))))) ((s_M_drop mm p1 p2) 1) (upd ((s_M_drop mm p1 p2) 2) p2.toNatClampNeg ((((s_M_drop mm p1 p2) 2) p2.toNatClampNeg) ||| ((1 : Int32) <<< (p1 &&& (31 : Int32))))) ((s_M_drop mm p1 p2) 3) (upd ((s_M_drop mm p1 p2) 4) ((p1 * (4 : Int32)) + p2).toNatClampNeg p3))) else (if p3 = (0 : Int32) then (mk5 (upd ((s_M_drop mm p1 p2) 0) p2.toNatClampNeg ((((s_M_drop mm p1 p2) 0) p2.toNatClampNeg) ||| ((1 : Int32) <<< (p1 &&& (31 : Int32))))) ((s_M_drop mm p1 p2) 1) ((s_M_drop mm p1 p2) 2) (upd ((s_M_drop mm p1 p2) 3) p2.toNatClampNeg ((((s_M_drop mm p1 p2) 3) p2.toNatClampNeg) ||| ((1 : Int32) <<< (p1 &&& (31 : Int32))))) (upd ((s_M_drop mm p1 p2) 4) ((p1 * (4 : Int32)) + p2).toNatClampNeg p3)) else (mk5 (upd ((s_M_drop mm p1 p2) 0) p2.toNatClampNeg ((((s_M_drop mm p1 p2) 0) p2.toNatClampNeg) ||| ((1 : Int32) <<< (p1 &&& (31 : Int32))))) ((s_M_drop mm p1 p2) 1) ((s_M_drop mm p1 p2) 2) ((s_M_drop mm p1 p2) 3) (upd ((s_M_drop mm p1 p2) 4) ((p1 * (4 : Int32)) + p2).toNatClampNeg p3)))))
def f_O_interfaceMethods (v : ES) (p1 p2 : Int32) : Int32 := (((f_W_supertypes v.1 p1) &&& (f_W_interfaces v.1)) &&& (f_M_inheritable v.2.2 p2))
def lr_O_maximalSet (v : ES) (p1 p2 : Int32) : Nat → Int32 → Int32 → Int32
  | 0, _, _ => 0
  | n + 1, x4, x5 => (if (12 : Int32) < x5 then x4 else (if (f_O_holds (f_O_interfaceMethods v p1 p2) x5) = (0 : Int32) then (lr_O_maximalSet v p1 p2 n x4 (x5 + (1 : Int32))) else (lr_O_maximalSet v p1 p2 n (x4 &&& ((f_W_supertypes v.1 x5) ^^^ (-1 : Int32))) (x5 + (1 : Int32)))))
theorem lr_O_maximalSet_s {v : ES} {p1 p2 : Int32} (n : Nat) (x4 : Int32) (x5 : Int32) : lr_O_maximalSet v p1 p2 (n + 1) x4 x5 = (if (12 : Int32) < x5 then x4 else (if (f_O_holds (f_O_interfaceMethods v p1 p2) x5) = (0 : Int32) then (lr_O_maximalSet v p1 p2 n x4 (x5 + (1 : Int32))) else (lr_O_maximalSet v p1 p2 n (x4 &&& ((f_W_supertypes v.1 x5) ^^^ (-1 : Int32))) (x5 + (1 : Int32))))) := rfl
def f_O_maximalSet (v : ES) (p1 p2 : Int32) : Int32 := (lr_O_maximalSet v p1 p2 14 (f_O_interfaceMethods v p1 p2) (1 : Int32))
def f_O_bestOfInterfaces (v : ES) (p1 p2 : Int32) : Int32 := (if (f_J_bitCount ((f_O_maximalSet v p1 p2) &&& ((f_M_abstracts v.2.2 p2) ^^^ (-1 : Int32)))) = (0 : Int32) then (-7 : Int32) else (if (f_J_bitCount ((f_O_maximalSet v p1 p2) &&& ((f_M_abstracts v.2.2 p2) ^^^ (-1 : Int32)))) = (1 : Int32) then (f_O_leastOf ((f_O_maximalSet v p1 p2) &&& ((f_M_abstracts v.2.2 p2) ^^^ (-1 : Int32)))) else (-6 : Int32)))
def f_O_overridesAtOnce (v : ES) (p1 p2 p3 : Int32) : Int32 := (if (f_M_accessOf v.2.2 p1 p3) = (0 : Int32) then (0 : Int32) else (if (f_M_accessOf v.2.2 p2 p3) = (1 : Int32) then (f_W_samePackage v.1 p1 p2) else (if (f_M_accessOf v.2.2 p2 p3) = (2 : Int32) then (1 : Int32) else (if (f_M_accessOf v.2.2 p2 p3) = (3 : Int32) then (1 : Int32) else (0 : Int32)))))
theorem z_O_overridesAtOnce {v : ES} {p1 p2 p3 : Int32} : narrow .boolean (.int (f_O_overridesAtOnce v p1 p2 p3)) = .int (f_O_overridesAtOnce v p1 p2 p3) := by
  unfold f_O_overridesAtOnce
  (repeat' split) <;> first | rfl | exact z_O_holds | exact z_W_samePackage | exact z_W_sameHost | exact z_W_isClass
def lr_O_overridesOneOf (v : ES) (p1 p2 p3 : Int32) : Nat → Int32 → Int32
  | 0, _ => 0
  | n + 1, x4 => (if p1 ≤ x4 then (0 : Int32) else (if (f_O_holds p2 x4) = (0 : Int32) then (lr_O_overridesOneOf v p1 p2 p3 n (x4 + (1 : Int32))) else (if (f_O_overridesAtOnce v p1 x4 p3) = (0 : Int32) then (lr_O_overridesOneOf v p1 p2 p3 n (x4 + (1 : Int32))) else (1 : Int32))))
theorem lr_O_overridesOneOf_s {v : ES} {p1 p2 p3 : Int32} (n : Nat) (x4 : Int32) : lr_O_overridesOneOf v p1 p2 p3 (n + 1) x4 = (if p1 ≤ x4 then (0 : Int32) else (if (f_O_holds p2 x4) = (0 : Int32) then (lr_O_overridesOneOf v p1 p2 p3 n (x4 + (1 : Int32))) else (if (f_O_overridesAtOnce v p1 x4 p3) = (0 : Int32) then (lr_O_overridesOneOf v p1 p2 p3 n (x4 + (1 : Int32))) else (1 : Int32)))) := rfl
def f_O_overridesOneOf (v : ES) (p1 p2 p3 : Int32) : Int32 := (lr_O_overridesOneOf v p1 p2 p3 14 (1 : Int32))
def lr_O_canOverride (v : ES) (p1 p2 p3 : Int32) : Nat → Int32 → Int32 → Int32
  | 0, _, _ => 0
  | n + 1, x6, x7 => (if p1 < x7 then (f_O_holds x6 p1) else (if (f_O_holds (((f_W_chain v.1 p1) &&& (f_W_kindsOf v.1 p2)) &&& (f_M_instances v.2.2 p3)) x7) = (0 : Int32) then (lr_O_canOverride v p1 p2 p3 n x6 (x7 + (1 : Int32))) else (if (f_O_overridesOneOf v x7 x6 p3) = (0 : Int32) then (lr_O_canOverride v p1 p2 p3 n x6 (x7 + (1 : Int32))) else (lr_O_canOverride v p1 p2 p3 n (x6 ||| ((1 : Int32) <<< (x7 &&& (31 : Int32)))) (x7 + (1 : Int32))))))
theorem lr_O_canOverride_s {v : ES} {p1 p2 p3 : Int32} (n : Nat) (x6 : Int32) (x7 : Int32) : lr_O_canOverride v p1 p2 p3 (n + 1) x6 x7 = (if p1 < x7 then (f_O_holds x6 p1) else (if (f_O_holds (((f_W_chain v.1 p1) &&& (f_W_kindsOf v.1 p2)) &&& (f_M_instances v.2.2 p3)) x7) = (0 : Int32) then (lr_O_canOverride v p1 p2 p3 n x6 (x7 + (1 : Int32))) else (if (f_O_overridesOneOf v x7 x6 p3) = (0 : Int32) then (lr_O_canOverride v p1 p2 p3 n x6 (x7 + (1 : Int32))) else (lr_O_canOverride v p1 p2 p3 n (x6 ||| ((1 : Int32) <<< (x7 &&& (31 : Int32)))) (x7 + (1 : Int32)))))) := rfl
def f_O_canOverride (v : ES) (p1 p2 p3 : Int32) : Int32 := (if (f_O_holds (f_M_instances v.2.2 p3) p2) = (0 : Int32) then (0 : Int32) else (lr_O_canOverride v p1 p2 p3 14 ((1 : Int32) <<< (p2 &&& (31 : Int32))) (p2 + (1 : Int32))))
def lr_O_select (v : ES) (p1 p2 p3 : Int32) : Nat → Int32 → Int32
  | 0, _ => 0
  | n + 1, x5 => (if x5 < (1 : Int32) then (f_O_bestOfInterfaces v p1 p3) else (if (f_O_holds (f_W_chain v.1 p1) x5) = (0 : Int32) then (lr_O_select v p1 p2 p3 n (x5 + (-1 : Int32))) else (if (f_O_canOverride v x5 p2 p3) = (0 : Int32) then (lr_O_select v p1 p2 p3 n (x5 + (-1 : Int32))) else x5)))
theorem lr_O_select_s {v : ES} {p1 p2 p3 : Int32} (n : Nat) (x5 : Int32) : lr_O_select v p1 p2 p3 (n + 1) x5 = (if x5 < (1 : Int32) then (f_O_bestOfInterfaces v p1 p3) else (if (f_O_holds (f_W_chain v.1 p1) x5) = (0 : Int32) then (lr_O_select v p1 p2 p3 n (x5 + (-1 : Int32))) else (if (f_O_canOverride v x5 p2 p3) = (0 : Int32) then (lr_O_select v p1 p2 p3 n (x5 + (-1 : Int32))) else x5))) := rfl
def f_O_select (v : ES) (p1 p2 p3 : Int32) : Int32 := (if (f_M_accessOf v.2.2 p2 p3) = (0 : Int32) then p2 else (lr_O_select v p1 p2 p3 14 p1))
def f_O_runnable (v : ES) (p1 p2 : Int32) : Int32 := (if p1 ≤ (0 : Int32) then p1 else (if (f_O_holds (f_M_abstracts v.2.2 p2) p1) = (0 : Int32) then p1 else (-7 : Int32)))
def f_O_mayUseMember (v : ES) (p1 p2 p3 : Int32) : Int32 := (if p2 = (1 : Int32) then (f_W_samePackage v.1 p1 p3) else (if p2 = (2 : Int32) then (if (f_W_samePackage v.1 p1 p3) = (0 : Int32) then (if (f_W_isKindOf v.1 p3 p1) = (0 : Int32) then (0 : Int32) else (1 : Int32)) else (1 : Int32)) else (if p2 = (3 : Int32) then (1 : Int32) else (f_W_sameHost v.1 p1 p3))))
theorem z_O_mayUseMember {v : ES} {p1 p2 p3 : Int32} : narrow .boolean (.int (f_O_mayUseMember v p1 p2 p3)) = .int (f_O_mayUseMember v p1 p2 p3) := by
  unfold f_O_mayUseMember
  (repeat' split) <;> first | rfl | exact z_W_samePackage | exact z_W_sameHost
def f_O_admitted_f (v : ES) (p2 p3 p4 : Int32) : Int32 := (if (0 : Int32) < p2 then (if (f_O_mayUseMember v p2 (f_M_accessOf v.2.1 p2 p3) p4) = (0 : Int32) then (-5 : Int32) else p2) else p2)
def f_O_admitted_m (v : ES) (p2 p3 p4 : Int32) : Int32 := (if (0 : Int32) < p2 then (if (f_O_mayUseMember v p2 (f_M_accessOf v.2.2 p2 p3) p4) = (0 : Int32) then (-5 : Int32) else p2) else p2)
def f_O_findField (v : ES) (p1 p2 p3 : Int32) : Int32 := (if (f_W_mayUseType v.1 p2 p1) = (0 : Int32) then (-5 : Int32) else (if (f_W_search v.1 p2 (f_M_owners v.2.1 p3)) = (0 : Int32) then (-3 : Int32) else (f_W_search v.1 p2 (f_M_owners v.2.1 p3))))
def f_O_isReceiver (v : ES) (p1 p2 p3 p4 : Int32) : Int32 := (if p1 = (0 : Int32) then (if (f_W_isClass v.1 p4) = (0 : Int32) then (0 : Int32) else (if (f_W_isKindOf v.1 p4 p2) = (0 : Int32) then (0 : Int32) else (1 : Int32))) else (if p1 = (1 : Int32) then (f_W_isClass v.1 p4) else (if p1 = (2 : Int32) then (if p4 = (0 : Int32) then (if (f_W_isKindOf v.1 p3 p2) = (0 : Int32) then (0 : Int32) else (1 : Int32)) else (0 : Int32)) else (if p1 = (3 : Int32) then (if p4 = (0 : Int32) then (1 : Int32) else (0 : Int32)) else (0 : Int32)))))
theorem z_O_isReceiver {v : ES} {p1 p2 p3 p4 : Int32} : narrow .boolean (.int (f_O_isReceiver v p1 p2 p3 p4)) = .int (f_O_isReceiver v p1 p2 p3 p4) := by
  unfold f_O_isReceiver
  (repeat' split) <;> first | rfl | exact z_W_isClass
def f_O_resolveMethod (v : ES) (p1 p2 p3 p4 : Int32) : Int32 := (if (f_W_mayUseType v.1 p3 p2) = (0 : Int32) then (-5 : Int32) else (if (f_W_isInterface v.1 p3) = p1 then (if (f_O_greatestOf ((f_W_chain v.1 p3) &&& (f_M_owners v.2.2 p4))) = (0 : Int32) then (if (f_O_bestOfInterfaces v p3 p4) ≤ (0 : Int32) then (if (f_O_interfaceMethods v p3 p4) = (0 : Int32) then (-4 : Int32) else (f_O_leastOf (f_O_interfaceMethods v p3 p4))) else (f_O_admitted_m v (f_O_bestOfInterfaces v p3 p4) p4 p2)) else (if (f_O_greatestOf ((f_W_chain v.1 p3) &&& (f_M_owners v.2.2 p4))) ≤ (0 : Int32) then (if (f_O_interfaceMethods v p3 p4) = (0 : Int32) then (-4 : Int32) else (f_O_leastOf (f_O_interfaceMethods v p3 p4))) else (f_O_admitted_m v (f_O_greatestOf ((f_W_chain v.1 p3) &&& (f_M_owners v.2.2 p4))) p4 p2))) else (-6 : Int32)))
def s_O_resolveMethod (v : ES) (p1 p2 p3 p4 : Int32) : Int32 := (if (f_W_mayUseType v.1 p3 p2) = (0 : Int32) then (0 : Int32) else (if (f_W_isInterface v.1 p3) = p1 then (if (f_O_greatestOf ((f_W_chain v.1 p3) &&& (f_M_owners v.2.2 p4))) = (0 : Int32) then (if (f_O_bestOfInterfaces v p3 p4) ≤ (0 : Int32) then (if (f_O_interfaceMethods v p3 p4) = (0 : Int32) then (f_J_bitCount (f_O_interfaceMethods v p3 p4)) else (f_J_bitCount (f_O_interfaceMethods v p3 p4))) else (1 : Int32)) else (if (f_O_greatestOf ((f_W_chain v.1 p3) &&& (f_M_owners v.2.2 p4))) ≤ (0 : Int32) then (if (f_O_interfaceMethods v p3 p4) = (0 : Int32) then (f_J_bitCount (f_O_interfaceMethods v p3 p4)) else (f_J_bitCount (f_O_interfaceMethods v p3 p4))) else (1 : Int32))) else (0 : Int32)))
def f_O_invokeVirtual (v : ES) (p1 p2 p3 p4 : Int32) : Int32 := (if (0 : Int32) < (f_O_resolveMethod v (0 : Int32) p2 p1 p3) then (if (f_M_isStatic v.2.2 (f_O_resolveMethod v (0 : Int32) p2 p1 p3) p3) = (0 : Int32) then (f_O_runnable v (f_O_select v p4 (f_O_resolveMethod v (0 : Int32) p2 p1 p3) p3) p3) else (-6 : Int32)) else (f_O_resolveMethod v (0 : Int32) p2 p1 p3))
def s_O_invokeVirtual (v : ES) (p1 p2 p3 p4 : Int32) : Int32 := (if (0 : Int32) < (f_O_resolveMethod v (0 : Int32) p2 p1 p3) then (if (f_M_isStatic v.2.2 (f_O_resolveMethod v (0 : Int32) p2 p1 p3) p3) = (0 : Int32) then (s_O_resolveMethod v (0 : Int32) p2 p1 p3) else (s_O_resolveMethod v (0 : Int32) p2 p1 p3)) else (s_O_resolveMethod v (0 : Int32) p2 p1 p3))
def f_O_invokeInterface (v : ES) (p1 p2 p3 p4 : Int32) : Int32 := (if (0 : Int32) < (f_O_resolveMethod v (1 : Int32) p2 p1 p3) then (if (f_M_isStatic v.2.2 (f_O_resolveMethod v (1 : Int32) p2 p1 p3) p3) = (0 : Int32) then (if (f_W_isKindOf v.1 p4 (f_O_resolveMethod v (1 : Int32) p2 p1 p3)) = (0 : Int32) then (-6 : Int32) else (if (0 : Int32) < (f_O_select v p4 (f_O_resolveMethod v (1 : Int32) p2 p1 p3) p3) then (if (f_M_accessOf v.2.2 (f_O_select v p4 (f_O_resolveMethod v (1 : Int32) p2 p1 p3) p3) p3) = (3 : Int32) then (f_O_runnable v (f_O_select v p4 (f_O_resolveMethod v (1 : Int32) p2 p1 p3) p3) p3) else (if (f_M_accessOf v.2.2 (f_O_select v p4 (f_O_resolveMethod v (1 : Int32) p2 p1 p3) p3) p3) = (0 : Int32) then (f_O_runnable v (f_O_select v p4 (f_O_resolveMethod v (1 : Int32) p2 p1 p3) p3) p3) else (-5 : Int32))) else (f_O_select v p4 (f_O_resolveMethod v (1 : Int32) p2 p1 p3) p3))) else (-6 : Int32)) else (f_O_resolveMethod v (1 : Int32) p2 p1 p3))
def s_O_invokeInterface (v : ES) (p1 p2 p3 p4 : Int32) : Int32 := (if (0 : Int32) < (f_O_resolveMethod v (1 : Int32) p2 p1 p3) then (if (f_M_isStatic v.2.2 (f_O_resolveMethod v (1 : Int32) p2 p1 p3) p3) = (0 : Int32) then (if (f_W_isKindOf v.1 p4 (f_O_resolveMethod v (1 : Int32) p2 p1 p3)) = (0 : Int32) then (s_O_resolveMethod v (1 : Int32) p2 p1 p3) else (if (0 : Int32) < (f_O_select v p4 (f_O_resolveMethod v (1 : Int32) p2 p1 p3) p3) then (if (f_M_accessOf v.2.2 (f_O_select v p4 (f_O_resolveMethod v (1 : Int32) p2 p1 p3) p3) p3) = (3 : Int32) then (s_O_resolveMethod v (1 : Int32) p2 p1 p3) else (if (f_M_accessOf v.2.2 (f_O_select v p4 (f_O_resolveMethod v (1 : Int32) p2 p1 p3) p3) p3) = (0 : Int32) then (s_O_resolveMethod v (1 : Int32) p2 p1 p3) else (s_O_resolveMethod v (1 : Int32) p2 p1 p3))) else (s_O_resolveMethod v (1 : Int32) p2 p1 p3))) else (s_O_resolveMethod v (1 : Int32) p2 p1 p3)) else (s_O_resolveMethod v (1 : Int32) p2 p1 p3))
def f_O_invokeSpecial (v : ES) (p1 p2 p3 : Int32) : Int32 := (if (0 : Int32) < (f_O_resolveMethod v (f_W_isInterface v.1 p1) p2 p1 p3) then (if (f_M_isStatic v.2.2 (f_O_resolveMethod v (f_W_isInterface v.1 p1) p2 p1 p3) p3) = (0 : Int32) then (if (f_W_isClass v.1 p1) = (0 : Int32) then (if (0 : Int32) = (0 : Int32) then (if (f_O_greatestOf ((f_W_chain v.1 p1) &&& (f_M_instances v.2.2 p3))) = (0 : Int32) then (f_O_runnable v (f_O_bestOfInterfaces v p1 p3) p3) else (f_O_runnable v (f_O_greatestOf ((f_W_chain v.1 p1) &&& (f_M_instances v.2.2 p3))) p3)) else (if (f_O_greatestOf ((f_W_chain v.1 (f_W_superclassOf v.1 p2)) &&& (f_M_instances v.2.2 p3))) = (0 : Int32) then (f_O_runnable v (f_O_bestOfInterfaces v (f_W_superclassOf v.1 p2) p3) p3) else (f_O_runnable v (f_O_greatestOf ((f_W_chain v.1 (f_W_superclassOf v.1 p2)) &&& (f_M_instances v.2.2 p3))) p3))) else (if p1 = p2 then (if (0 : Int32) = (0 : Int32) then (if (f_O_greatestOf ((f_W_chain v.1 p1) &&& (f_M_instances v.2.2 p3))) = (0 : Int32) then (f_O_runnable v (f_O_bestOfInterfaces v p1 p3) p3) else (f_O_runnable v (f_O_greatestOf ((f_W_chain v.1 p1) &&& (f_M_instances v.2.2 p3))) p3)) else (if (f_O_greatestOf ((f_W_chain v.1 (f_W_superclassOf v.1 p2)) &&& (f_M_instances v.2.2 p3))) = (0 : Int32) then (f_O_runnable v (f_O_bestOfInterfaces v (f_W_superclassOf v.1 p2) p3) p3) else (f_O_runnable v (f_O_greatestOf ((f_W_chain v.1 (f_W_superclassOf v.1 p2)) &&& (f_M_instances v.2.2 p3))) p3))) else (if (1 : Int32) = (0 : Int32) then (if (f_O_greatestOf ((f_W_chain v.1 p1) &&& (f_M_instances v.2.2 p3))) = (0 : Int32) then (f_O_runnable v (f_O_bestOfInterfaces v p1 p3) p3) else (f_O_runnable v (f_O_greatestOf ((f_W_chain v.1 p1) &&& (f_M_instances v.2.2 p3))) p3)) else (if (f_O_greatestOf ((f_W_chain v.1 (f_W_superclassOf v.1 p2)) &&& (f_M_instances v.2.2 p3))) = (0 : Int32) then (f_O_runnable v (f_O_bestOfInterfaces v (f_W_superclassOf v.1 p2) p3) p3) else (f_O_runnable v (f_O_greatestOf ((f_W_chain v.1 (f_W_superclassOf v.1 p2)) &&& (f_M_instances v.2.2 p3))) p3))))) else (-6 : Int32)) else (f_O_resolveMethod v (f_W_isInterface v.1 p1) p2 p1 p3))
def s_O_invokeSpecial (v : ES) (p1 p2 p3 : Int32) : Int32 := (if (0 : Int32) < (f_O_resolveMethod v (f_W_isInterface v.1 p1) p2 p1 p3) then (if (f_M_isStatic v.2.2 (f_O_resolveMethod v (f_W_isInterface v.1 p1) p2 p1 p3) p3) = (0 : Int32) then (if (f_W_isClass v.1 p1) = (0 : Int32) then (if (0 : Int32) = (0 : Int32) then (if (f_O_greatestOf ((f_W_chain v.1 p1) &&& (f_M_instances v.2.2 p3))) = (0 : Int32) then (s_O_resolveMethod v (f_W_isInterface v.1 p1) p2 p1 p3) else (s_O_resolveMethod v (f_W_isInterface v.1 p1) p2 p1 p3)) else (if (f_O_greatestOf ((f_W_chain v.1 (f_W_superclassOf v.1 p2)) &&& (f_M_instances v.2.2 p3))) = (0 : Int32) then (s_O_resolveMethod v (f_W_isInterface v.1 p1) p2 p1 p3) else (s_O_resolveMethod v (f_W_isInterface v.1 p1) p2 p1 p3))) else (if p1 = p2 then (if (0 : Int32) = (0 : Int32) then (if (f_O_greatestOf ((f_W_chain v.1 p1) &&& (f_M_instances v.2.2 p3))) = (0 : Int32) then (s_O_resolveMethod v (f_W_isInterface v.1 p1) p2 p1 p3) else (s_O_resolveMethod v (f_W_isInterface v.1 p1) p2 p1 p3)) else (if (f_O_greatestOf ((f_W_chain v.1 (f_W_superclassOf v.1 p2)) &&& (f_M_instances v.2.2 p3))) = (0 : Int32) then (s_O_resolveMethod v (f_W_isInterface v.1 p1) p2 p1 p3) else (s_O_resolveMethod v (f_W_isInterface v.1 p1) p2 p1 p3))) else (if (1 : Int32) = (0 : Int32) then (if (f_O_greatestOf ((f_W_chain v.1 p1) &&& (f_M_instances v.2.2 p3))) = (0 : Int32) then (s_O_resolveMethod v (f_W_isInterface v.1 p1) p2 p1 p3) else (s_O_resolveMethod v (f_W_isInterface v.1 p1) p2 p1 p3)) else (if (f_O_greatestOf ((f_W_chain v.1 (f_W_superclassOf v.1 p2)) &&& (f_M_instances v.2.2 p3))) = (0 : Int32) then (s_O_resolveMethod v (f_W_isInterface v.1 p1) p2 p1 p3) else (s_O_resolveMethod v (f_W_isInterface v.1 p1) p2 p1 p3))))) else (s_O_resolveMethod v (f_W_isInterface v.1 p1) p2 p1 p3)) else (s_O_resolveMethod v (f_W_isInterface v.1 p1) p2 p1 p3))
def f_O_invokeStatic (v : ES) (p1 p2 p3 : Int32) : Int32 := (if (f_O_resolveMethod v (f_W_isInterface v.1 p1) p2 p1 p3) ≤ (0 : Int32) then (f_O_resolveMethod v (f_W_isInterface v.1 p1) p2 p1 p3) else (if (f_M_isStatic v.2.2 (f_O_resolveMethod v (f_W_isInterface v.1 p1) p2 p1 p3) p3) = (0 : Int32) then (-6 : Int32) else (f_O_resolveMethod v (f_W_isInterface v.1 p1) p2 p1 p3)))
def s_O_invokeStatic (v : ES) (p1 p2 p3 : Int32) : Int32 := (if (f_O_resolveMethod v (f_W_isInterface v.1 p1) p2 p1 p3) ≤ (0 : Int32) then (s_O_resolveMethod v (f_W_isInterface v.1 p1) p2 p1 p3) else (if (f_M_isStatic v.2.2 (f_O_resolveMethod v (f_W_isInterface v.1 p1) p2 p1 p3) p3) = (0 : Int32) then (s_O_resolveMethod v (f_W_isInterface v.1 p1) p2 p1 p3) else (s_O_resolveMethod v (f_W_isInterface v.1 p1) p2 p1 p3)))
def f_O_choices (v : ES) (lc : Int32) : Int32 := lc
def f_O_isA (v : ES) (p1 p2 : Int32) : Int32 := (if (f_W_has v.1 p1) = (0 : Int32) then (0 : Int32) else (if (f_W_has v.1 p2) = (0 : Int32) then (0 : Int32) else (if (f_W_isKindOf v.1 p1 p2) = (0 : Int32) then (0 : Int32) else (1 : Int32))))
theorem z_O_isA {v : ES} {p1 p2 : Int32} : narrow .boolean (.int (f_O_isA v p1 p2)) = .int (f_O_isA v p1 p2) := by
  unfold f_O_isA
  (repeat' split) <;> first | rfl | exact z_O_holds | exact z_W_samePackage | exact z_W_sameHost | exact z_W_isClass
def f_O_mates (v : ES) (p1 p2 : Int32) : Int32 := (if (f_W_has v.1 p1) = (0 : Int32) then (0 : Int32) else (if (f_W_has v.1 p2) = (0 : Int32) then (0 : Int32) else (if (f_W_sameHost v.1 p1 p2) = (0 : Int32) then (0 : Int32) else (1 : Int32))))
theorem z_O_mates {v : ES} {p1 p2 : Int32} : narrow .boolean (.int (f_O_mates v p1 p2)) = .int (f_O_mates v p1 p2) := by
  unfold f_O_mates
  (repeat' split) <;> first | rfl | exact z_O_holds | exact z_W_samePackage | exact z_W_sameHost | exact z_W_isClass
def f_O_overrides (v : ES) (p1 p2 p3 : Int32) : Int32 := (if (f_W_isClass v.1 p1) = (0 : Int32) then (0 : Int32) else (if (f_W_has v.1 p2) = (0 : Int32) then (0 : Int32) else (if (f_O_isName p3) = (0 : Int32) then (0 : Int32) else (if (f_O_canOverride v p1 p2 p3) = (0 : Int32) then (0 : Int32) else (1 : Int32)))))
theorem z_O_overrides {v : ES} {p1 p2 p3 : Int32} : narrow .boolean (.int (f_O_overrides v p1 p2 p3)) = .int (f_O_overrides v p1 p2 p3) := by
  unfold f_O_overrides
  (repeat' split) <;> first | rfl | exact z_O_holds | exact z_W_samePackage | exact z_W_sameHost | exact z_W_isClass
def f_O_maximal (v : ES) (p1 p2 : Int32) : Int32 := (if (f_W_has v.1 p1) = (0 : Int32) then (-1 : Int32) else (if (f_O_isName p2) = (0 : Int32) then (-1 : Int32) else (f_O_maximalSet v p1 p2)))
def f_O_type (v : ES) (p1 p2 : Int32) : Int32 := (if (f_W_has v.1 p1) = (0 : Int32) then (-1 : Int32) else (if p2 = (0 : Int32) then (f_W_superclassOf v.1 p1) else (if p2 = (1 : Int32) then (f_W_packageOf v.1 p1) else (if p2 = (2 : Int32) then (f_W_hostOf v.1 p1) else (if p2 = (3 : Int32) then (f_W_directCount v.1 p1) else (if p2 = (4 : Int32) then (f_W_directAt v.1 p1 (p2 - (4 : Int32))) else (if p2 = (5 : Int32) then (f_W_directAt v.1 p1 (p2 - (4 : Int32))) else (if p2 = (6 : Int32) then (f_W_directAt v.1 p1 (p2 - (4 : Int32))) else (if p2 = (7 : Int32) then (f_W_directAt v.1 p1 (p2 - (4 : Int32))) else (if p2 = (8 : Int32) then (f_J_bitCount (f_W_supertypes v.1 p1)) else (if p2 = (9 : Int32) then (if (f_W_isInterface v.1 p1) = (0 : Int32) then (0 : Int32) else (1 : Int32)) else (-1 : Int32))))))))))))
def f_O_use (v : ES) (p1 p2 p3 p4 : Int32) : Int32 := (if (f_W_has v.1 p1) = (0 : Int32) then (-1 : Int32) else (if (f_W_has v.1 p2) = (0 : Int32) then (-1 : Int32) else (if (f_O_isName p3) = (0 : Int32) then (-1 : Int32) else (if (f_O_admitted_f v (f_O_findField v p1 p2 p3) p3 p1) ≤ (0 : Int32) then (f_O_admitted_f v (f_O_findField v p1 p2 p3) p3 p1) else (if (f_M_isStatic v.2.1 (f_O_admitted_f v (f_O_findField v p1 p2 p3) p3 p1) p3) = p4 then (f_O_admitted_f v (f_O_findField v p1 p2 p3) p3 p1) else (-6 : Int32))))))
def f_O_resolve (v : ES) (lc : Int32) (p1 p2 p3 p4 : Int32) : Int32 := (if (f_W_has v.1 p2) = (0 : Int32) then (-1 : Int32) else (if (f_W_has v.1 p3) = (0 : Int32) then (-1 : Int32) else (if (f_O_isName p4) = (0 : Int32) then (-1 : Int32) else (if p1 = (0 : Int32) then (if (f_O_findField v p2 p3 p4) ≤ (0 : Int32) then (f_O_admitted_f v (f_O_findField v p2 p3 p4) p4 p2) else (f_O_admitted_f v (f_O_findField v p2 p3 p4) p4 p2)) else (if p1 = (1 : Int32) then (f_O_resolveMethod v (0 : Int32) p2 p3 p4) else (if p1 = (2 : Int32) then (f_O_resolveMethod v (1 : Int32) p2 p3 p4) else (-1 : Int32)))))))
def s_O_resolve (v : ES) (lc : Int32) (p1 p2 p3 p4 : Int32) : Int32 := (if (f_W_has v.1 p2) = (0 : Int32) then lc else (if (f_W_has v.1 p3) = (0 : Int32) then lc else (if (f_O_isName p4) = (0 : Int32) then lc else (if p1 = (0 : Int32) then (if (f_O_findField v p2 p3 p4) ≤ (0 : Int32) then (0 : Int32) else (1 : Int32)) else (if p1 = (1 : Int32) then (s_O_resolveMethod v (0 : Int32) p2 p3 p4) else (if p1 = (2 : Int32) then (s_O_resolveMethod v (1 : Int32) p2 p3 p4) else lc))))))
def f_O_invoke (v : ES) (lc : Int32) (p1 p2 p3 p4 p5 : Int32) : Int32 := (if (f_W_has v.1 p2) = (0 : Int32) then (-1 : Int32) else (if (f_W_has v.1 p3) = (0 : Int32) then (-1 : Int32) else (if (f_O_isName p4) = (0 : Int32) then (-1 : Int32) else (if (f_O_isReceiver v p1 p2 p3 p5) = (0 : Int32) then (-1 : Int32) else (if p1 = (0 : Int32) then (f_O_invokeVirtual v p2 p3 p4 p5) else (if p1 = (1 : Int32) then (f_O_invokeInterface v p2 p3 p4 p5) else (if p1 = (2 : Int32) then (f_O_invokeSpecial v p2 p3 p4) else (f_O_invokeStatic v p2 p3 p4))))))))
def s_O_invoke (v : ES) (lc : Int32) (p1 p2 p3 p4 p5 : Int32) : Int32 := (if (f_W_has v.1 p2) = (0 : Int32) then lc else (if (f_W_has v.1 p3) = (0 : Int32) then lc else (if (f_O_isName p4) = (0 : Int32) then lc else (if (f_O_isReceiver v p1 p2 p3 p5) = (0 : Int32) then lc else (if p1 = (0 : Int32) then (s_O_invokeVirtual v p2 p3 p4 p5) else (if p1 = (1 : Int32) then (s_O_invokeInterface v p2 p3 p4 p5) else (if p1 = (2 : Int32) then (s_O_invokeSpecial v p2 p3 p4) else (s_O_invokeStatic v p2 p3 p4))))))))
def f_O_tellClass (v : ES) (p1 p2 p3 p4 : Int32) : Int32 := (if (f_O_isPackage p2) = (0 : Int32) then (-1 : Int32) else (if p1 = (0 : Int32) then (if (f_W_isFull v.1) = (0 : Int32) then (f_W_addClass v.1 p1 p2 p3 p4) else (-2 : Int32)) else (if (f_W_mayBeExtended v.1 p1) = (0 : Int32) then (-1 : Int32) else (if (f_W_isFull v.1) = (0 : Int32) then (f_W_addClass v.1 p1 p2 p3 p4) else (-2 : Int32)))))
def s_O_tellClass (v : ES) (p1 p2 p3 p4 : Int32) : ES := (if (f_O_isPackage p2) = (0 : Int32) then v else (if p1 = (0 : Int32) then (if (f_W_isFull v.1) = (0 : Int32) then ((s_W_addClass v.1 p1 p2 p3 p4), v.2.1, v.2.2) else v) else (if (f_W_mayBeExtended v.1 p1) = (0 : Int32) then v else (if (f_W_isFull v.1) = (0 : Int32) then ((s_W_addClass v.1 p1 p2 p3 p4), v.2.1, v.2.2) else v))))
def f_O_tellInterface (v : ES) (p1 p2 : Int32) : Int32 := (if (f_O_isPackage p1) = (0 : Int32) then (-1 : Int32) else (if (f_W_isFull v.1) = (0 : Int32) then (f_W_addInterface v.1 p1 p2) else (-2 : Int32)))
def s_O_tellInterface (v : ES) (p1 p2 : Int32) : ES := (if (f_O_isPackage p1) = (0 : Int32) then v else (if (f_W_isFull v.1) = (0 : Int32) then ((s_W_addInterface v.1 p1 p2), v.2.1, v.2.2) else v))
def f_O_implement (v : ES) (p1 p2 : Int32) : Int32 := (if (f_W_has v.1 p1) = (0 : Int32) then (-1 : Int32) else (if (f_W_isInterface v.1 p2) = (0 : Int32) then (-1 : Int32) else (if p2 < p1 then (if (f_W_hasDirect v.1 p1 p2) = (0 : Int32) then (if (f_W_directCount v.1 p1) < (4 : Int32) then (f_W_addDirect v.1 p1 p2) else (-2 : Int32)) else (-1 : Int32)) else (-1 : Int32))))
def s_O_implement (v : ES) (p1 p2 : Int32) : ES := (if (f_W_has v.1 p1) = (0 : Int32) then v else (if (f_W_isInterface v.1 p2) = (0 : Int32) then v else (if p2 < p1 then (if (f_W_hasDirect v.1 p1 p2) = (0 : Int32) then (if (f_W_directCount v.1 p1) < (4 : Int32) then ((s_W_addDirect v.1 p1 p2), v.2.1, v.2.2) else v) else v) else v)))
def f_O_nest (v : ES) (p1 p2 : Int32) : Int32 := (if (f_W_has v.1 p1) = (0 : Int32) then (-1 : Int32) else (if (f_W_has v.1 p2) = (0 : Int32) then (-1 : Int32) else (if p2 ≤ p1 then (if (f_W_samePackage v.1 p1 p2) = (0 : Int32) then (-1 : Int32) else (if (f_W_hostOf v.1 p2) = p2 then (if (f_W_hostsAnother v.1 p1) = (0 : Int32) then (0 : Int32) else (-1 : Int32)) else (-1 : Int32))) else (-1 : Int32))))
def s_O_nest (v : ES) (p1 p2 : Int32) : ES := (if (f_W_has v.1 p1) = (0 : Int32) then v else (if (f_W_has v.1 p2) = (0 : Int32) then v else (if p2 ≤ p1 then (if (f_W_samePackage v.1 p1 p2) = (0 : Int32) then v else (if (f_W_hostOf v.1 p2) = p2 then (if (f_W_hostsAnother v.1 p1) = (0 : Int32) then ((s_W_setHost v.1 p1 p2), v.2.1, v.2.2) else v) else v)) else v)))
def f_O_field (v : ES) (p1 p2 p3 p4 : Int32) : Int32 := (if (f_W_has v.1 p1) = (0 : Int32) then (-1 : Int32) else (if (f_O_isName p2) = (0 : Int32) then (-1 : Int32) else (if (f_O_isAccess p3) = (0 : Int32) then (-1 : Int32) else (if (f_W_isInterface v.1 p1) = (0 : Int32) then (if p4 = (0 : Int32) then (0 : Int32) else (0 : Int32)) else (if p3 = (3 : Int32) then (if p4 = (0 : Int32) then (-1 : Int32) else (if p4 = (0 : Int32) then (0 : Int32) else (0 : Int32))) else (-1 : Int32))))))
def s_O_field (v : ES) (p1 p2 p3 p4 : Int32) : ES := (if (f_W_has v.1 p1) = (0 : Int32) then v else (if (f_O_isName p2) = (0 : Int32) then v else (if (f_O_isAccess p3) = (0 : Int32) then v else (if (f_W_isInterface v.1 p1) = (0 : Int32) then (if p4 = (0 : Int32) then (v.1, (s_M_put v.2.1 p1 p2 p3 (0 : Int32)), v.2.2) else (v.1, (s_M_put v.2.1 p1 p2 p3 (1 : Int32)), v.2.2)) else (if p3 = (3 : Int32) then (if p4 = (0 : Int32) then v else (if p4 = (0 : Int32) then (v.1, (s_M_put v.2.1 p1 p2 p3 (0 : Int32)), v.2.2) else (v.1, (s_M_put v.2.1 p1 p2 p3 (1 : Int32)), v.2.2))) else v)))))
def f_O_method (v : ES) (p1 p2 p3 p4 : Int32) : Int32 := (if (f_W_has v.1 p1) = (0 : Int32) then (-1 : Int32) else (if (f_O_isName p2) = (0 : Int32) then (-1 : Int32) else (if (f_O_isAccess p3) = (0 : Int32) then (-1 : Int32) else (if (f_O_isForm p4) = (0 : Int32) then (-1 : Int32) else (if (f_W_isInterface v.1 p1) = (0 : Int32) then (if p4 = (2 : Int32) then (if p3 = (0 : Int32) then (-1 : Int32) else (0 : Int32)) else (0 : Int32)) else (if p3 = (3 : Int32) then (if p4 = (2 : Int32) then (if p3 = (0 : Int32) then (-1 : Int32) else (0 : Int32)) else (0 : Int32)) else (if p3 = (0 : Int32) then (if p4 = (2 : Int32) then (if p3 = (0 : Int32) then (-1 : Int32) else (0 : Int32)) else (0 : Int32)) else (-1 : Int32))))))))
def s_O_method (v : ES) (p1 p2 p3 p4 : Int32) : ES := (if (f_W_has v.1 p1) = (0 : Int32) then v else (if (f_O_isName p2) = (0 : Int32) then v else (if (f_O_isAccess p3) = (0 : Int32) then v else (if (f_O_isForm p4) = (0 : Int32) then v else (if (f_W_isInterface v.1 p1) = (0 : Int32) then (if p4 = (2 : Int32) then (if p3 = (0 : Int32) then v else (v.1, v.2.1, (s_M_put v.2.2 p1 p2 p3 p4))) else (v.1, v.2.1, (s_M_put v.2.2 p1 p2 p3 p4))) else (if p3 = (3 : Int32) then (if p4 = (2 : Int32) then (if p3 = (0 : Int32) then v else (v.1, v.2.1, (s_M_put v.2.2 p1 p2 p3 p4))) else (v.1, v.2.1, (s_M_put v.2.2 p1 p2 p3 p4))) else (if p3 = (0 : Int32) then (if p4 = (2 : Int32) then (if p3 = (0 : Int32) then v else (v.1, v.2.1, (s_M_put v.2.2 p1 p2 p3 p4))) else (v.1, v.2.1, (s_M_put v.2.2 p1 p2 p3 p4))) else v)))))))
def f_O_untell (v : ES) (p1 p2 p3 : Int32) : Int32 := (if (f_W_has v.1 p1) = (0 : Int32) then (-1 : Int32) else (if (f_O_isName p3) = (0 : Int32) then (-1 : Int32) else (if p2 = (0 : Int32) then (if p2 = (0 : Int32) then (if (f_M_has v.2.1 p1 p3) = (0 : Int32) then (-1 : Int32) else (0 : Int32)) else (if (f_M_has v.2.2 p1 p3) = (0 : Int32) then (-1 : Int32) else (0 : Int32))) else (if p2 = (1 : Int32) then (if p2 = (0 : Int32) then (if (f_M_has v.2.1 p1 p3) = (0 : Int32) then (-1 : Int32) else (0 : Int32)) else (if (f_M_has v.2.2 p1 p3) = (0 : Int32) then (-1 : Int32) else (0 : Int32))) else (-1 : Int32)))))
def s_O_untell (v : ES) (p1 p2 p3 : Int32) : ES := (if (f_W_has v.1 p1) = (0 : Int32) then v else (if (f_O_isName p3) = (0 : Int32) then v else (if p2 = (0 : Int32) then (if p2 = (0 : Int32) then (if (f_M_has v.2.1 p1 p3) = (0 : Int32) then v else (v.1, (s_M_drop v.2.1 p1 p3), v.2.2)) else (if (f_M_has v.2.2 p1 p3) = (0 : Int32) then v else (v.1, v.2.1, (s_M_drop v.2.2 p1 p3)))) else (if p2 = (1 : Int32) then (if p2 = (0 : Int32) then (if (f_M_has v.2.1 p1 p3) = (0 : Int32) then v else (v.1, (s_M_drop v.2.1 p1 p3), v.2.2)) else (if (f_M_has v.2.2 p1 p3) = (0 : Int32) then v else (v.1, v.2.1, (s_M_drop v.2.2 p1 p3)))) else v))))
end
section
theorem hp_at {D : va_G} {cl : List vw_C} {ws : va_W} {t : State} {H : Heap} (ht : t.heap = H) (h : va_P D cl ws H) : va_P D cl ws t.heap := by rw [ht]; exact h
theorem hp_to {D : va_G} {cl : List vw_C} {ws : va_W} {t : State} {H : Heap} (ht : t.heap = H) (h : va_P D cl ws t.heap) : va_P D cl ws H := by rw [← ht]; exact h
/-! ranges: what a number that was looked at may index -/
theorem in_k {x : Int32} {n : Nat} (h : vp_in x n) : x = nI x.toNatClampNeg := by
  obtain ⟨j, hj, rfl⟩ := nI_of (fun q => h (Or.inl q))
  rw [nI_clamp hj]
theorem in_lt {x : Int32} {n : Nat} (h : vp_in x n) : x.toNatClampNeg < n := Nat.not_le.mp fun q => h (Or.inr q)
theorem in_k1 {x : Int32} {n : Nat} (h : vp_in x n) : x + (1 : Int32) = nI (x.toNatClampNeg + 1) := by
  rw [← nI_1, ← in_k h]
theorem in_0 : vp_in (0 : Int32) 13 := by rw [vp_in_iff]; decide +kernel
theorem in_et {x : Int32} {k : Nat} (et : x = nI k) (h : k ≤ 12) : vp_in x 13 := by rw [et]; exact vp_in_nI (by omega) (by decide)
theorem et_i {x : Int32} {k : Nat} (et : x = nI k) (h : k ≤ 13) : x.toInt = k := by rw [et]; exact nI_toInt (by omega)
theorem le12 {x : Int32} {k : Nat} (et : x = nI k) (h2 : k ≤ 13) (c : ¬ (12 : Int32) < x) : k ≤ 12 := by
  have h := et_i et h2
  have h3 : (12 : Int32).toInt = 12 := by decide +kernel
  rw [Int32.lt_iff_toInt_lt] at c; omega
theorem lt12 {x : Int32} {k : Nat} (et : x = nI k) (h2 : k ≤ 13) (c : ¬ (12 : Int32) ≤ x) : k ≤ 12 := by
  have h := et_i et h2
  have h3 : (12 : Int32).toInt = 12 := by decide +kernel
  rw [Int32.le_iff_toInt_le] at c; omega
theorem lePar {x y : Int32} {k : Nat} (et : x = nI k) (h2 : k ≤ 13) (c : ¬ y < x) (hp : vp_in y 13) : k ≤ 12 := by
  have h := et_i et h2
  have h3 := vp_in_iff.mp hp
  rw [Int32.lt_iff_toInt_lt] at c; omega
theorem ltPar {x y : Int32} {k : Nat} (et : x = nI k) (h2 : k ≤ 13) (c : ¬ y ≤ x) (hp : vp_in y 13) : k ≤ 12 := by
  have h := et_i et h2
  have h3 := vp_in_iff.mp hp
  rw [Int32.le_iff_toInt_le] at c; omega
/-- the world's numbers stay in their bounds -/
def WF (w : WS) : Prop := (0 ≤ (w.2 3).toInt ∧ (w.2 3).toInt ≤ 12) ∧ (∀ i, i < 13 → vp_in (w.1 0 i) 13) ∧ (∀ i, i < 52 → vp_in (w.1 4 i) 13) ∧ (∀ i, i < 13 → 0 ≤ (w.1 3 i).toInt ∧ (w.1 3 i).toInt ≤ 4)
theorem leCnt {w : WS} {x : Int32} {k : Nat} (hw : WF w) (et : x = nI k) (h2 : k ≤ 13) (c : ¬ (w.2 3) < x) : k ≤ 12 := by
  have h := et_i et h2
  have h3 := hw.1
  rw [Int32.lt_iff_toInt_lt] at c; omega
theorem ltDc {w : WS} {x y : Int32} {k : Nat} (hw : WF w) (et : x = nI k) (h2 : k ≤ 13) (c : ¬ ((w.1 3) y.toNatClampNeg) ≤ x) (hp : vp_in y 13) : k < 4 := by
  have h := et_i et h2
  have h3 := hw.2.2.2 _ (in_lt hp)
  rw [Int32.le_iff_toInt_le] at c; omega
theorem ix4 {a b : Nat} : (nI a * (4 : Int32)) + nI b = nI (a * 4 + b) := by
  rw [show (4 : Int32) = nI 4 from rfl, pk_mul, nI_add]
theorem in_dc {x y : Int32} {k : Nat} (hp : vp_in y 13) (et : x = nI k) (h : k < 4) : vp_in ((y * (4 : Int32)) + x) 52 := by
  rw [in_k hp, et, ix4]
  have := in_lt hp
  exact vp_in_nI (by omega) (by decide)
theorem in_52 {x y : Int32} (hp : vp_in y 13) (hx : vp_in x 4) : vp_in ((y * (4 : Int32)) + x) 52 := in_dc hp (in_k hx) (in_lt hx)
theorem one_i : (1 : Int32).toInt = 1 := by decide +kernel
theorem in_has {w : WS} {x : Int32} (hw : WF w) (c : ¬ (f_W_has w x) = (0 : Int32)) : vp_in x 13 := by
  unfold f_W_has at c
  have h3 := hw.1
  have h4 := one_i
  by_cases h1 : x < (1 : Int32)
  · rw [if_pos h1] at c; exact absurd rfl c
  · rw [if_neg h1] at c
    by_cases h2 : (w.2 3) < x
    · rw [if_pos h2] at c; exact absurd rfl c
    · rw [Int32.lt_iff_toInt_lt] at h1 h2
      rw [vp_in_iff]; omega
theorem has_of_cls {w : WS} {x : Int32} (c : ¬ (f_W_isClass w x) = (0 : Int32)) : ¬ (f_W_has w x) = (0 : Int32) := by
  intro h
  unfold f_W_isClass at c
  rw [if_pos h] at c; exact c rfl
theorem has_of_ifc {w : WS} {x : Int32} (c : ¬ (f_W_isInterface w x) = (0 : Int32)) : ¬ (f_W_has w x) = (0 : Int32) := by
  intro h
  unfold f_W_isInterface at c
  rw [if_pos h] at c; exact c rfl
theorem in_cls {w : WS} {x : Int32} (hw : WF w) (c : ¬ (f_W_isClass w x) = (0 : Int32)) : vp_in x 13 := in_has hw (has_of_cls c)
theorem in_ifc {w : WS} {x : Int32} (hw : WF w) (c : ¬ (f_W_isInterface w x) = (0 : Int32)) : vp_in x 13 := in_has hw (has_of_ifc c)
theorem in_name {x : Int32} (c : ¬ (f_O_isName x) = (0 : Int32)) : vp_in x 4 := by
  unfold f_O_isName at c
  have h4 : (4 : Int32).toInt = 4 := by decide +kernel
  have h0 : (0 : Int32).toInt = 0 := by decide +kernel
  by_cases h1 : x < (0 : Int32)
  · rw [if_pos h1] at c; exact absurd rfl c
  · rw [if_neg h1] at c
    by_cases h2 : (4 : Int32) ≤ x
    · rw [if_pos h2] at c; exact absurd rfl c
    · rw [Int32.lt_iff_toInt_lt] at h1
      rw [Int32.le_iff_toInt_le] at h2
      rw [vp_in_iff]; omega
theorem wf_dir {w : WS} {x y : Int32} (hw : WF w) (h : vp_in ((x * (4 : Int32)) + y) 52) : vp_in (f_W_directAt w x y) 13 := by
  unfold f_W_directAt
  exact hw.2.2.1 _ (in_lt h)
theorem in_nextL {w : WS} {x y : Int32} (hw : WF w) (hx : vp_in x 13) : ∀ (n k : Nat), 14 ≤ k + n → k ≤ 13 → vp_in (lr_W_nextToSearch w x y n (nI k)) 13 := by
  intro n
  induction n with
  | zero => intro k h1 h2; exfalso; omega
  | succ n ih =>
    intro k h1 h2
    rw [lr_W_nextToSearch_s]
    by_cases c1 : ((w.1 3) x.toNatClampNeg) ≤ nI k
    · rw [if_pos c1]; exact hw.2.1 _ (in_lt hx)
    · rw [if_neg c1]
      have hk := ltDc hw (rfl : nI k = nI k) h2 c1 hx
      split
      · rw [nI_1]; exact ih (k + 1) (by omega) (by omega)
      · exact wf_dir hw (in_dc hx rfl hk)
theorem in_next {w : WS} {x y : Int32} (hw : WF w) (hx : vp_in x 13) : vp_in (f_W_nextToSearch w x y) 13 := by
  unfold f_W_nextToSearch
  exact in_nextL hw hx 14 0 (by omega) (by omega)
theorem dn_k {x : Int32} {k : Nat} (et : x = nI k) (h2 : k ≤ 12) (c : ¬ x < (1 : Int32)) : 1 ≤ k := by
  have h := et_i et (by omega)
  have h4 := one_i
  rw [Int32.lt_iff_toInt_lt] at c; omega
theorem dn_et {x : Int32} {k : Nat} (et : x = nI k) (h2 : k ≤ 12) (c : ¬ x < (1 : Int32)) : x + (-1 : Int32) = nI (k - 1) := by
  have h := dn_k et h2 c
  obtain ⟨j, rfl⟩ : ∃ j, k = j + 1 := ⟨k - 1, by omega⟩
  rw [et]; exact pk_m1 j
theorem dn_h1 {x : Int32} {k n : Nat} (et : x = nI k) (h2 : k ≤ 12) (h1 : k + 1 ≤ n + 1) (c : ¬ x < (1 : Int32)) : k - 1 + 1 ≤ n := by
  have h := dn_k et h2 c
  omega
theorem in_greatL {x : Int32} : ∀ (n k : Nat), k + 1 ≤ n → k ≤ 12 → vp_in (lr_O_greatestOf x n (nI k)) 13 := by
  intro n
  induction n with
  | zero => intro k h1 h2; exfalso; omega
  | succ n ih =>
    intro k h1 h2
    rw [lr_O_greatestOf_s]
    by_cases c1 : nI k < (1 : Int32)
    · rw [if_pos c1]; exact in_0
    · rw [if_neg c1]
      split
      · rw [dn_et rfl h2 c1]; exact ih (k - 1) (dn_h1 rfl h2 h1 c1) (by omega)
      · exact in_et rfl h2
theorem in_great {x : Int32} : vp_in (f_O_greatestOf x) 13 := in_greatL 14 12 (by omega) (by omega)
theorem in_leastL {x : Int32} : ∀ (n k : Nat), 14 ≤ k + n → k ≤ 13 → vp_in (lr_O_leastOf x n (nI k)) 13 := by
  intro n
  induction n with
  | zero => intro k h1 h2; exfalso; omega
  | succ n ih =>
    intro k h1 h2
    rw [lr_O_leastOf_s]
    by_cases c1 : (12 : Int32) < nI k
    · rw [if_pos c1]; exact in_0
    · rw [if_neg c1]
      have hk := le12 rfl h2 c1
      split
      · rw [nI_1]; exact ih (k + 1) (by omega) (by omega)
      · exact in_et rfl hk
theorem in_least {x : Int32} : vp_in (f_O_leastOf x) 13 := in_leastL 14 1 (by omega) (by omega)
theorem no_neg {x : Int32} {p : Prop} (h : (0 : Int32) < x) (e : x.toInt ≤ 0) : p := by
  have h0 : (0 : Int32).toInt = 0 := by decide +kernel
  rw [Int32.lt_iff_toInt_lt] at h; omega
theorem in_best {v : ES} {x y : Int32} (h : (0 : Int32) < f_O_bestOfInterfaces v x y) : vp_in (f_O_bestOfInterfaces v x y) 13 := by
  revert h
  unfold f_O_bestOfInterfaces
  split
  · intro h; exact no_neg h (by decide +kernel)
  · split
    · intro _; exact in_least
    · intro h; exact no_neg h (by decide +kernel)
theorem in_adm {v : ES} {x y z : Int32} (hx : (0 : Int32) < x → vp_in x 13) (h : (0 : Int32) < f_O_admitted_m v x y z) : vp_in (f_O_admitted_m v x y z) 13 := by
  revert h
  unfold f_O_admitted_m
  split
  · rename_i h1
    split
    · intro h; exact no_neg h (by decide +kernel)
    · intro _; exact hx h1
  · intro h; exact hx h
theorem in_res {v : ES} {a b c d : Int32} (h : (0 : Int32) < f_O_resolveMethod v a b c d) : vp_in (f_O_resolveMethod v a b c d) 13 := by
  revert h
  unfold f_O_resolveMethod
  split
  · intro h; exact no_neg h (by decide +kernel)
  · split
    · split
      · split
        · split
          · intro h; exact no_neg h (by decide +kernel)
          · intro _; exact in_least
        · intro h; exact in_adm in_best h
      · split
        · split
          · intro h; exact no_neg h (by decide +kernel)
          · intro _; exact in_least
        · intro h; exact in_adm (fun _ => in_great) h
    · intro h; exact no_neg h (by decide +kernel)
theorem in_selL {v : ES} {a b d : Int32} : ∀ (n k : Nat), k + 1 ≤ n → k ≤ 12 → (0 : Int32) < lr_O_select v a b d n (nI k) → vp_in (lr_O_select v a b d n (nI k)) 13 := by
  intro n
  induction n with
  | zero => intro k h1 h2; exfalso; omega
  | succ n ih =>
    intro k h1 h2
    rw [lr_O_select_s]
    by_cases c1 : nI k < (1 : Int32)
    · rw [if_pos c1]; exact in_best
    · rw [if_neg c1]
      have h3 := ih (k - 1) (dn_h1 rfl h2 h1 c1) (by omega)
      rw [dn_et rfl h2 c1]
      split
      · exact h3
      · split
        · exact h3
        · intro _; exact in_et rfl h2
theorem in_sel {v : ES} {a b d : Int32} (ha : vp_in a 13) (hb : vp_in b 13) (h : (0 : Int32) < f_O_select v a b d) : vp_in (f_O_select v a b d) 13 := by
  revert h
  unfold f_O_select
  split
  · intro _; exact hb
  · intro h
    rw [in_k ha] at h ⊢
    exact in_selL 14 _ (by have := in_lt ha; omega) (by have := in_lt ha; omega) h
theorem wf_sup {w : WS} {x : Int32} (hw : WF w) (hx : vp_in x 13) : vp_in (f_W_superclassOf w x) 13 := hw.2.1 _ (in_lt hx)
theorem in_ext {w : WS} {x : Int32} (hw : WF w) (c : ¬ (f_W_mayBeExtended w x) = (0 : Int32)) : vp_in x 13 := by
  refine in_cls hw (fun h => ?_)
  unfold f_W_mayBeExtended at c
  rw [if_pos h] at c; exact c rfl
theorem in_full {w : WS} (hw : WF w) (c : (f_W_isFull w) = (0 : Int32)) : vp_in ((w.2 3) + (1 : Int32)) 13 := by
  have h3 := hw.1
  unfold f_W_isFull at c
  have h4 : (12 : Int32).toInt = 12 := by decide +kernel
  by_cases h1 : (w.2 3) < (12 : Int32)
  · rw [Int32.lt_iff_toInt_lt] at h1
    obtain ⟨j, hj, e⟩ := vp_in_of (x := w.2 3) (n := 12) (vp_in_iff.mpr (by omega)) (by decide)
    rw [e, nI_1]; exact vp_in_nI (by omega) (by decide)
  · rw [if_neg h1] at c; exact absurd c (by decide +kernel)
theorem in_dcf {w : WS} {x : Int32} (hw : WF w) (hx : vp_in x 13) (c : ¬ (4 : Int32) ≤ (f_W_directCount w x)) : vp_in ((x * (4 : Int32)) + ((w.1 3) x.toNatClampNeg)) 52 := by
  have h3 := hw.2.2.2 _ (in_lt hx)
  unfold f_W_directCount at c
  have h4 : (4 : Int32).toInt = 4 := by decide +kernel
  rw [Int32.le_iff_toInt_le] at c
  obtain ⟨j, hj, e⟩ := vp_in_of (x := (w.1 3) x.toNatClampNeg) (n := 4) (vp_in_iff.mpr (by omega)) (by decide)
  exact in_dc hx e hj
theorem in4_4 {x : Int32} (c : x = (4 : Int32)) : vp_in (x - (4 : Int32)) 4 := by rw [c, vp_in_iff]; decide +kernel
theorem in4_5 {x : Int32} (c : x = (5 : Int32)) : vp_in (x - (4 : Int32)) 4 := by rw [c, vp_in_iff]; decide +kernel
theorem in4_6 {x : Int32} (c : x = (6 : Int32)) : vp_in (x - (4 : Int32)) 4 := by rw [c, vp_in_iff]; decide +kernel
theorem in4_7 {x : Int32} (c : x = (7 : Int32)) : vp_in (x - (4 : Int32)) 4 := by rw [c, vp_in_iff]; decide +kernel
theorem in_eq0 {x : Int32} (c : x = (0 : Int32)) : vp_in x 13 := by rw [c]; exact in_0
theorem in_searchL {w : WS} {a b : Int32} (hw : WF w) : ∀ (n : Nat) (x y : Int32), vp_in x 13 → vp_in (lr_W_search w a b n x y) 13 := by
  intro n
  induction n with
  | zero => intro x y _; exact in_0
  | succ n ih =>
    intro x y hx
    rw [lr_W_search_s]
    split
    · exact in_0
    · split
      · exact in_0
      · split
        · exact ih _ _ (in_next hw hx)
        · exact hx
theorem in_search {w : WS} {a b : Int32} (hw : WF w) (ha : vp_in a 13) : vp_in (f_W_search w a b) 13 := in_searchL hw 14 a 0 ha
theorem in_ff {v : ES} {a b c : Int32} (hw : WF v.1) (hb : vp_in b 13) (h : (0 : Int32) < f_O_findField v a b c) : vp_in (f_O_findField v a b c) 13 := by
  revert h
  unfold f_O_findField
  split
  · intro h; exact no_neg h (by decide +kernel)
  · split
    · intro h; exact no_neg h (by decide +kernel)
    · intro _; exact in_search hw hb
theorem in_rcv {v : ES} {a b c d : Int32} (hw : WF v.1) (h : ¬ (f_O_isReceiver v a b c d) = (0 : Int32)) (e : a = (0 : Int32) ∨ a = (1 : Int32)) : vp_in d 13 := by
  unfold f_O_isReceiver at h
  rcases e with e | e
  · rw [if_pos e] at h
    by_cases c1 : (f_W_isClass v.1 d) = (0 : Int32)
    · rw [if_pos c1] at h; exact absurd rfl h
    · exact in_cls hw c1
  · rw [if_neg (by rw [e]; decide), if_pos e] at h
    exact in_cls hw h
end
section
set_option maxHeartbeats 4000000 in
set_option maxRecDepth 100000 in
theorem c_O_isPackage (l : Launch) (dC : Nat → ClassId) (dI : Nat → Nat → Nat)  (sz : Nat) (p1 : Int32)  : Met l y_O_isPackage w_O_isPackage ({ frames := 0, cells := 0, slots := 0, locals := 0 } : Room) (ro_P dC dI ([] : va_W) [] sz [.int p1]) (ro_Q sz (f_O_isPackage p1)) 0 0 (fun z => sz ≤ z) := by
  refine Met.ofW (cc := b_O_isPackage) (maxL := 1) (ret := (some .boolean)) (by decide) rfl ?_
  intro p e s m args below meth c s₁ B hml hv
  obtain ⟨rfl, hsz, hP, hK, hN⟩ := hv
  have hx := B.exec
  have hb := B.bytes
  have hr := B.returns
  have hts := tl_of (atoms_spec (ws := w_O_isPackage) B.pre)
  have hown : s.vm.findClass R_O = some m.cls := findClass_of_methodNamed B.named
  have hlocks := B.notSynchronized
  subst hsz
  have hA : ∀ z : Nat, s.heap.size ≤ z → (fun z : Nat => s.heap.size ≤ z) z := fun _ h => h
  have hS : va_S (fun z : Nat => s.heap.size ≤ z) s.heap s.heap [] := va_S.rf
  have hl := lv_entry ([.int p1]) (n := 1) (Nat.le_of_ble_eq_true rfl)
  rw [lg_entry_eq]
  generalize (lg_sl ([.int p1]) ++ List.replicate (1 - (lg_sl ([.int p1])).length) Slot.unset).toArray = ls at hl ⊢
  have hl : lv_has ls 1 [(0, .int p1)] := hl
  refine lv_iload_n hx hb d_O_isPackage_0 rfl (lv_at hl 0 rfl) ?_
  refine lv_if_lt (tgt := 13) hx hb d_O_isPackage_1 (by decide) (fun c_1 => ?_) (fun c_1 => ?_)
  · have c_1 : p1 < (0 : Int32) := c_1
    refine lv_iconst (v := (0 : Int32)) hx hb d_O_isPackage_13 (by decide +kernel) ?_
    exact W.zret (v := (0 : Int32)) hx hb hr (by decide +kernel) (fun t ht hW => ⟨⟨(0 : Int32), (), rfl, by unfold f_O_isPackage; rw [if_pos c_1], trivial⟩, hS.F ht⟩) hS.2.2 d_O_isPackage_14
  · have c_1 : ¬ (p1 < (0 : Int32)) := c_1
    refine lv_iload_n hx hb d_O_isPackage_4 rfl (lv_at hl 0 rfl) ?_
    refine lv_iconst (v := (3 : Int32)) hx hb d_O_isPackage_5 (by decide +kernel) ?_
    refine lv_icmp_ge (tgt := 13) hx hb d_O_isPackage_6 (by decide) (fun c_2 => ?_) (fun c_2 => ?_)
    · have c_2 : (3 : Int32) ≤ p1 := c_2
      refine lv_iconst (v := (0 : Int32)) hx hb d_O_isPackage_13 (by decide +kernel) ?_
      exact W.zret (v := (0 : Int32)) hx hb hr (by decide +kernel) (fun t ht hW => ⟨⟨(0 : Int32), (), rfl, by unfold f_O_isPackage; rw [if_neg c_1, if_pos c_2], trivial⟩, hS.F ht⟩) hS.2.2 d_O_isPackage_14
    · have c_2 : ¬ ((3 : Int32) ≤ p1) := c_2
      refine lv_iconst (v := (1 : Int32)) hx hb d_O_isPackage_9 (by decide +kernel) ?_
      refine lv_goto (tgt := 14) hx hb d_O_isPackage_10 (by decide) ?_
      exact W.zret (v := (1 : Int32)) hx hb hr (by decide +kernel) (fun t ht hW => ⟨⟨(1 : Int32), (), rfl, by unfold f_O_isPackage; rw [if_neg c_1, if_neg c_2], trivial⟩, hS.F ht⟩) hS.2.2 d_O_isPackage_14
set_option maxHeartbeats 4000000 in
set_option maxRecDepth 100000 in
theorem c_O_isName (l : Launch) (dC : Nat → ClassId) (dI : Nat → Nat → Nat)  (sz : Nat) (p1 : Int32)  : Met l y_O_isName w_O_isName ({ frames := 0, cells := 0, slots := 0, locals := 0 } : Room) (ro_P dC dI ([] : va_W) [] sz [.int p1]) (ro_Q sz (f_O_isName p1)) 0 0 (fun z => sz ≤ z) := by
  refine Met.ofW (cc := b_O_isName) (maxL := 1) (ret := (some .boolean)) (by decide) rfl ?_
  intro p e s m args below meth c s₁ B hml hv
  obtain ⟨rfl, hsz, hP, hK, hN⟩ := hv
  have hx := B.exec
  have hb := B.bytes
  have hr := B.returns
  have hts := tl_of (atoms_spec (ws := w_O_isName) B.pre)
  have hown : s.vm.findClass R_O = some m.cls := findClass_of_methodNamed B.named
  have hlocks := B.notSynchronized
  subst hsz
  have hA : ∀ z : Nat, s.heap.size ≤ z → (fun z : Nat => s.heap.size ≤ z) z := fun _ h => h
  have hS : va_S (fun z : Nat => s.heap.size ≤ z) s.heap s.heap [] := va_S.rf
  have hl := lv_entry ([.int p1]) (n := 1) (Nat.le_of_ble_eq_true rfl)
  rw [lg_entry_eq]
  generalize (lg_sl ([.int p1]) ++ List.replicate (1 - (lg_sl ([.int p1])).length) Slot.unset).toArray = ls at hl ⊢
  have hl : lv_has ls 1 [(0, .int p1)] := hl
  refine lv_iload_n hx hb d_O_isName_0 rfl (lv_at hl 0 rfl) ?_
  refine lv_if_lt (tgt := 13) hx hb d_O_isName_1 (by decide) (fun c_1 => ?_) (fun c_1 => ?_)
  · have c_1 : p1 < (0 : Int32) := c_1
    refine lv_iconst (v := (0 : Int32)) hx hb d_O_isName_13 (by decide +kernel) ?_
    exact W.zret (v := (0 : Int32)) hx hb hr (by decide +kernel) (fun t ht hW => ⟨⟨(0 : Int32), (), rfl, by unfold f_O_isName; rw [if_pos c_1], trivial⟩, hS.F ht⟩) hS.2.2 d_O_isName_14
  · have c_1 : ¬ (p1 < (0 : Int32)) := c_1
    refine lv_iload_n hx hb d_O_isName_4 rfl (lv_at hl 0 rfl) ?_
    refine lv_iconst (v := (4 : Int32)) hx hb d_O_isName_5 (by decide +kernel) ?_
    refine lv_icmp_ge (tgt := 13) hx hb d_O_isName_6 (by decide) (fun c_2 => ?_) (fun c_2 => ?_)
    · have c_2 : (4 : Int32) ≤ p1 := c_2
      refine lv_iconst (v := (0 : Int32)) hx hb d_O_isName_13 (by decide +kernel) ?_
      exact W.zret (v := (0 : Int32)) hx hb hr (by decide +kernel) (fun t ht hW => ⟨⟨(0 : Int32), (), rfl, by unfold f_O_isName; rw [if_neg c_1, if_pos c_2], trivial⟩, hS.F ht⟩) hS.2.2 d_O_isName_14
    · have c_2 : ¬ ((4 : Int32) ≤ p1) := c_2
      refine lv_iconst (v := (1 : Int32)) hx hb d_O_isName_9 (by decide +kernel) ?_
      refine lv_goto (tgt := 14) hx hb d_O_isName_10 (by decide) ?_
      exact W.zret (v := (1 : Int32)) hx hb hr (by decide +kernel) (fun t ht hW => ⟨⟨(1 : Int32), (), rfl, by unfold f_O_isName; rw [if_neg c_1, if_neg c_2], trivial⟩, hS.F ht⟩) hS.2.2 d_O_isName_14
set_option maxHeartbeats 4000000 in
set_option maxRecDepth 100000 in
theorem c_O_isAccess (l : Launch) (dC : Nat → ClassId) (dI : Nat → Nat → Nat)  (sz : Nat) (p1 : Int32)  : Met l y_O_isAccess w_O_isAccess ({ frames := 0, cells := 0, slots := 0, locals := 0 } : Room) (ro_P dC dI ([] : va_W) [] sz [.int p1]) (ro_Q sz (f_O_isAccess p1)) 0 0 (fun z => sz ≤ z) := by
  refine Met.ofW (cc := b_O_isAccess) (maxL := 1) (ret := (some .boolean)) (by decide) rfl ?_
  intro p e s m args below meth c s₁ B hml hv
  obtain ⟨rfl, hsz, hP, hK, hN⟩ := hv
  have hx := B.exec
  have hb := B.bytes
  have hr := B.returns
  have hts := tl_of (atoms_spec (ws := w_O_isAccess) B.pre)
  have hown : s.vm.findClass R_O = some m.cls := findClass_of_methodNamed B.named
  have hlocks := B.notSynchronized
  subst hsz
  have hA : ∀ z : Nat, s.heap.size ≤ z → (fun z : Nat => s.heap.size ≤ z) z := fun _ h => h
  have hS : va_S (fun z : Nat => s.heap.size ≤ z) s.heap s.heap [] := va_S.rf
  have hl := lv_entry ([.int p1]) (n := 1) (Nat.le_of_ble_eq_true rfl)
  rw [lg_entry_eq]
  generalize (lg_sl ([.int p1]) ++ List.replicate (1 - (lg_sl ([.int p1])).length) Slot.unset).toArray = ls at hl ⊢
  have hl : lv_has ls 1 [(0, .int p1)] := hl
  refine lv_iload_n hx hb d_O_isAccess_0 rfl (lv_at hl 0 rfl) ?_
  refine lv_if_lt (tgt := 13) hx hb d_O_isAccess_1 (by decide) (fun c_1 => ?_) (fun c_1 => ?_)
  · have c_1 : p1 < (0 : Int32) := c_1
    refine lv_iconst (v := (0 : Int32)) hx hb d_O_isAccess_13 (by decide +kernel) ?_
    exact W.zret (v := (0 : Int32)) hx hb hr (by decide +kernel) (fun t ht hW => ⟨⟨(0 : Int32), (), rfl, by unfold f_O_isAccess; rw [if_pos c_1], trivial⟩, hS.F ht⟩) hS.2.2 d_O_isAccess_14
  · have c_1 : ¬ (p1 < (0 : Int32)) := c_1
    refine lv_iload_n hx hb d_O_isAccess_4 rfl (lv_at hl 0 rfl) ?_
    refine lv_iconst (v := (3 : Int32)) hx hb d_O_isAccess_5 (by decide +kernel) ?_
    refine lv_icmp_gt (tgt := 13) hx hb d_O_isAccess_6 (by decide) (fun c_2 => ?_) (fun c_2 => ?_)
    · have c_2 : (3 : Int32) < p1 := c_2
      refine lv_iconst (v := (0 : Int32)) hx hb d_O_isAccess_13 (by decide +kernel) ?_
      exact W.zret (v := (0 : Int32)) hx hb hr (by decide +kernel) (fun t ht hW => ⟨⟨(0 : Int32), (), rfl, by unfold f_O_isAccess; rw [if_neg c_1, if_pos c_2], trivial⟩, hS.F ht⟩) hS.2.2 d_O_isAccess_14
    · have c_2 : ¬ ((3 : Int32) < p1) := c_2
      refine lv_iconst (v := (1 : Int32)) hx hb d_O_isAccess_9 (by decide +kernel) ?_
      refine lv_goto (tgt := 14) hx hb d_O_isAccess_10 (by decide) ?_
      exact W.zret (v := (1 : Int32)) hx hb hr (by decide +kernel) (fun t ht hW => ⟨⟨(1 : Int32), (), rfl, by unfold f_O_isAccess; rw [if_neg c_1, if_neg c_2], trivial⟩, hS.F ht⟩) hS.2.2 d_O_isAccess_14
set_option maxHeartbeats 4000000 in
set_option maxRecDepth 100000 in
theorem c_O_isForm (l : Launch) (dC : Nat → ClassId) (dI : Nat → Nat → Nat)  (sz : Nat) (p1 : Int32)  : Met l y_O_isForm w_O_isForm ({ frames := 0, cells := 0, slots := 0, locals := 0 } : Room) (ro_P dC dI ([] : va_W) [] sz [.int p1]) (ro_Q sz (f_O_isForm p1)) 0 0 (fun z => sz ≤ z) := by
  refine Met.ofW (cc := b_O_isForm) (maxL := 1) (ret := (some .boolean)) (by decide) rfl ?_
  intro p e s m args below meth c s₁ B hml hv
  obtain ⟨rfl, hsz, hP, hK, hN⟩ := hv
  have hx := B.exec
  have hb := B.bytes
  have hr := B.returns
  have hts := tl_of (atoms_spec (ws := w_O_isForm) B.pre)
  have hown : s.vm.findClass R_O = some m.cls := findClass_of_methodNamed B.named
  have hlocks := B.notSynchronized
  subst hsz
  have hA : ∀ z : Nat, s.heap.size ≤ z → (fun z : Nat => s.heap.size ≤ z) z := fun _ h => h
  have hS : va_S (fun z : Nat => s.heap.size ≤ z) s.heap s.heap [] := va_S.rf
  have hl := lv_entry ([.int p1]) (n := 1) (Nat.le_of_ble_eq_true rfl)
  rw [lg_entry_eq]
  generalize (lg_sl ([.int p1]) ++ List.replicate (1 - (lg_sl ([.int p1])).length) Slot.unset).toArray = ls at hl ⊢
  have hl : lv_has ls 1 [(0, .int p1)] := hl
  refine lv_iload_n hx hb d_O_isForm_0 rfl (lv_at hl 0 rfl) ?_
  refine lv_if_lt (tgt := 13) hx hb d_O_isForm_1 (by decide) (fun c_1 => ?_) (fun c_1 => ?_)
  · have c_1 : p1 < (0 : Int32) := c_1
    refine lv_iconst (v := (0 : Int32)) hx hb d_O_isForm_13 (by decide +kernel) ?_
    exact W.zret (v := (0 : Int32)) hx hb hr (by decide +kernel) (fun t ht hW => ⟨⟨(0 : Int32), (), rfl, by unfold f_O_isForm; rw [if_pos c_1], trivial⟩, hS.F ht⟩) hS.2.2 d_O_isForm_14
  · have c_1 : ¬ (p1 < (0 : Int32)) := c_1
    refine lv_iload_n hx hb d_O_isForm_4 rfl (lv_at hl 0 rfl) ?_
    refine lv_iconst (v := (2 : Int32)) hx hb d_O_isForm_5 (by decide +kernel) ?_
    refine lv_icmp_gt (tgt := 13) hx hb d_O_isForm_6 (by decide) (fun c_2 => ?_) (fun c_2 => ?_)
    · have c_2 : (2 : Int32) < p1 := c_2
      refine lv_iconst (v := (0 : Int32)) hx hb d_O_isForm_13 (by decide +kernel) ?_
      exact W.zret (v := (0 : Int32)) hx hb hr (by decide +kernel) (fun t ht hW => ⟨⟨(0 : Int32), (), rfl, by unfold f_O_isForm; rw [if_neg c_1, if_pos c_2], trivial⟩, hS.F ht⟩) hS.2.2 d_O_isForm_14
    · have c_2 : ¬ ((2 : Int32) < p1) := c_2
      refine lv_iconst (v := (1 : Int32)) hx hb d_O_isForm_9 (by decide +kernel) ?_
      refine lv_goto (tgt := 14) hx hb d_O_isForm_10 (by decide) ?_
      exact W.zret (v := (1 : Int32)) hx hb hr (by decide +kernel) (fun t ht hW => ⟨⟨(1 : Int32), (), rfl, by unfold f_O_isForm; rw [if_neg c_1, if_neg c_2], trivial⟩, hS.F ht⟩) hS.2.2 d_O_isForm_14
set_option maxHeartbeats 4000000 in
set_option maxRecDepth 100000 in
theorem c_O_holds (l : Launch) (dC : Nat → ClassId) (dI : Nat → Nat → Nat)  (sz : Nat) (p1 p2 : Int32)  : Met l y_O_holds w_O_holds ({ frames := 0, cells := 0, slots := 0, locals := 0 } : Room) (ro_P dC dI ([] : va_W) [] sz [.int p1, .int p2]) (ro_Q sz (f_O_holds p1 p2)) 0 0 (fun z => sz ≤ z) := by
  refine Met.ofW (cc := b_O_holds) (maxL := 2) (ret := (some .boolean)) (by decide) rfl ?_
  intro p e s m args below meth c s₁ B hml hv
  obtain ⟨rfl, hsz, hP, hK, hN⟩ := hv
  have hx := B.exec
  have hb := B.bytes
  have hr := B.returns
  have hts := tl_of (atoms_spec (ws := w_O_holds) B.pre)
  have hown : s.vm.findClass R_O = some m.cls := findClass_of_methodNamed B.named
  have hlocks := B.notSynchronized
  subst hsz
  have hA : ∀ z : Nat, s.heap.size ≤ z → (fun z : Nat => s.heap.size ≤ z) z := fun _ h => h
  have hS : va_S (fun z : Nat => s.heap.size ≤ z) s.heap s.heap [] := va_S.rf
  have hl := lv_entry ([.int p1, .int p2]) (n := 2) (Nat.le_of_ble_eq_true rfl)
  rw [lg_entry_eq]
  generalize (lg_sl ([.int p1, .int p2]) ++ List.replicate (2 - (lg_sl ([.int p1, .int p2])).length) Slot.unset).toArray = ls at hl ⊢
  have hl : lv_has ls 2 [(0, .int p1), (1, .int p2)] := hl
  refine lv_iload_n hx hb d_O_holds_0 rfl (lv_at hl 0 rfl) ?_
  refine lv_iconst (v := (1 : Int32)) hx hb d_O_holds_1 (by decide +kernel) ?_
  refine lv_iload_n hx hb d_O_holds_2 rfl (lv_at hl 1 rfl) ?_
  refine lv_ishl hx hb d_O_holds_3 ?_
  refine lv_iand hx hb d_O_holds_4 ?_
  refine lv_if_eq (tgt := 12) hx hb d_O_holds_5 (by decide) (fun c_1 => ?_) (fun c_1 => ?_)
  · have c_1 : (p1 &&& ((1 : Int32) <<< (p2 &&& (31 : Int32)))) = (0 : Int32) := c_1
    refine lv_iconst (v := (0 : Int32)) hx hb d_O_holds_12 (by decide +kernel) ?_
    exact W.zret (v := (0 : Int32)) hx hb hr (by decide +kernel) (fun t ht hW => ⟨⟨(0 : Int32), (), rfl, by unfold f_O_holds; rw [if_pos c_1], trivial⟩, hS.F ht⟩) hS.2.2 d_O_holds_13
  · have c_1 : ¬ ((p1 &&& ((1 : Int32) <<< (p2 &&& (31 : Int32)))) = (0 : Int32)) := c_1
    refine lv_iconst (v := (1 : Int32)) hx hb d_O_holds_8 (by decide +kernel) ?_
    refine lv_goto (tgt := 13) hx hb d_O_holds_9 (by decide) ?_
    exact W.zret (v := (1 : Int32)) hx hb hr (by decide +kernel) (fun t ht hW => ⟨⟨(1 : Int32), (), rfl, by unfold f_O_holds; rw [if_neg c_1], trivial⟩, hS.F ht⟩) hS.2.2 d_O_holds_13
set_option maxHeartbeats 4000000 in
set_option maxRecDepth 100000 in
theorem c_O_leastOf (l : Launch) (dC : Nat → ClassId) (dI : Nat → Nat → Nat)  (sz : Nat) (p1 : Int32)  : Met l y_O_leastOf w_O_leastOf ({ frames := 1, cells := 0, slots := 0, locals := 21 } : Room) (ro_P dC dI ([] : va_W) [] sz [.int p1]) (ro_Q sz (f_O_leastOf p1)) 0 0 (fun z => sz ≤ z) := by
  refine Met.ofW (cc := b_O_leastOf) (maxL := 2) (ret := (some .int)) (by decide) rfl ?_
  intro p e s m args below meth c s₁ B hml hv
  obtain ⟨rfl, hsz, hP, hK, hN⟩ := hv
  have hx := B.exec
  have hb := B.bytes
  have hr := B.returns
  have hts := tl_of (atoms_spec (ws := w_O_leastOf) B.pre)
  have hown : s.vm.findClass R_O = some m.cls := findClass_of_methodNamed B.named
  have hlocks := B.notSynchronized
  subst hsz
  have hA : ∀ z : Nat, s.heap.size ≤ z → (fun z : Nat => s.heap.size ≤ z) z := fun _ h => h
  have hS : va_S (fun z : Nat => s.heap.size ≤ z) s.heap s.heap [] := va_S.rf
  have hl := lv_entry ([.int p1]) (n := 2) (Nat.le_of_ble_eq_true rfl)
  rw [lg_entry_eq]
  generalize (lg_sl ([.int p1]) ++ List.replicate (2 - (lg_sl ([.int p1])).length) Slot.unset).toArray = ls at hl ⊢
  have hl : lv_has ls 2 [(0, .int p1)] := hl
  refine lv_iconst (v := (1 : Int32)) hx hb d_O_leastOf_0 (by decide +kernel) ?_
  refine lv_istore_n (lv' := [(1, .int (1 : Int32)), (0, .int p1)]) hx hb d_O_leastOf_1 rfl hl (by decide) rfl (fun ls hl => ?_)
  have LOOP : ∀ (n k : Nat) (x1 : Int32) (H : Heap) (locs : List Loc) (ls : Array Slot), x1 = nI k → 14 ≤ k + n → k ≤ 13 → lr_O_leastOf p1 n x1 = (f_O_leastOf p1) → va_P (dC, dI) classes ([] : va_W) H → va_S (fun z : Nat => s.heap.size ≤ z) s.heap H locs → lv_has ls 2 [(1, .int x1), (0, .int p1)] → W p l e (headSpec w_O_leastOf ({ frames := 1, cells := 0, slots := 0, locals := 21 } : Room)).room s m ([.int p1] : List Value).toArray below meth c H locs 0 0 (MQ below (ro_Q s.heap.size (f_O_leastOf p1)) ([.int p1] : List Value).toArray s 0 0 (fun z => s.heap.size ≤ z)) (F0 m 2 ls []) := by
    intro n
    induction n with
    | zero =>
      intro k x1 H locs ls et h1 h2
      exfalso; omega
    | succ n ih =>
      intro k x1 H locs ls et h1 h2 hF hP hS hl
      refine lv_iload_n hx hb d_O_leastOf_2 rfl (lv_at hl 0 rfl) ?_
      refine lv_bipush (v := (12 : Int32)) hx hb d_O_leastOf_3 (by decide +kernel) ?_
      refine lv_icmp_gt (tgt := 24) hx hb d_O_leastOf_5 (by decide) (fun c_1 => ?_) (fun c_1 => ?_)
      · have c_1 : (12 : Int32) < x1 := c_1
        refine lv_iconst (v := (0 : Int32)) hx hb d_O_leastOf_24 (by decide +kernel) ?_
        exact W.iret (v := (0 : Int32)) hx hb hr (fun t ht hW => ⟨⟨(0 : Int32), (), rfl, by rw [← hF, lr_O_leastOf_s, if_pos c_1], trivial⟩, hS.F ht⟩) hS.2.2 d_O_leastOf_25
      · have c_1 : ¬ ((12 : Int32) < x1) := c_1
        refine lv_iload_n hx hb d_O_leastOf_8 rfl (lv_at hl 1 rfl) ?_
        refine lv_iload_n hx hb d_O_leastOf_9 rfl (lv_at hl 0 rfl) ?_
        refine va_calli (va_runS (As := [.int p1, .int x1]) (rest := []) ⟨hx, hb, hml, hown, hts⟩ (c_O_holds l dC dI  H.size   p1 x1) (cwS 2 hts k_g0 rfl rfl rfl (by decide +kernel) ⟨Nat.le_of_ble_eq_true rfl, Nat.le_of_ble_eq_true rfl⟩) ⟨fb_ro, fun U hU hW => ⟨rfl, by rw [hU], by rw [hU]; exact hP.sub (ws' := ([] : va_W)) [] rfl, va_K.moved hW.alike (hK.sub (tys' := []) [] rfl), NX.warm hW hN⟩⟩ rfl rfl hl.1 rfl (lv_room (Nat.le_of_ble_eq_true rfl)) d_O_leastOf_10 ⟨Nat.zero_le _, Nat.zero_le _⟩) hS (fun z h1 h2 => absurd h1 (Nat.not_lt.mpr h2)) (fun z h => hA z (Nat.le_trans hS.1 h)) (fun r u t H1 locs ht hvm hpo hB hz1 hk1 hS => ?_)
        subst hpo
        have hP := kp_P hP hk1
        generalize H1 = H at hP hS ⊢
        refine lv_if_eq (tgt := 18) hx hb d_O_leastOf_13 (by decide) (fun c_2 => ?_) (fun c_2 => ?_)
        · have c_2 : (f_O_holds p1 x1) = (0 : Int32) := c_2
          refine lv_iinc (v := (x1 + (1 : Int32))) (lv' := [(1, .int (x1 + (1 : Int32))), (0, .int p1)]) hx hb d_O_leastOf_18 hl (k := 0) rfl (by rw [of_p1]) (by decide) rfl (fun ls hl => ?_)
          refine lv_goto (tgt := 2) hx hb d_O_leastOf_21 (by decide) ?_
          exact ih (k + 1) (x1 + (1 : Int32)) _ _ _ (by rw [et]; exact nI_1 k) (by omega) (by first | exact Nat.succ_le_succ (le12 et h2 (by with_reducible assumption)) | exact Nat.succ_le_succ (lt12 et h2 (by with_reducible assumption)) | exact Nat.succ_le_succ (leCnt hw et h2 (by with_reducible assumption)) | exact Nat.succ_le_succ (Nat.le_trans (Nat.le_of_lt (ltDc hw et h2 (by with_reducible assumption) (by with_reducible assumption))) (by decide)) | exact Nat.succ_le_succ (lePar et h2 (by with_reducible assumption) (by with_reducible assumption)) | exact Nat.succ_le_succ (ltPar et h2 (by with_reducible assumption) (by with_reducible assumption))) (by rw [← hF, lr_O_leastOf_s, if_neg c_1, if_pos c_2]) hP hS (lv_sub hl [0, 1] rfl)
        · have c_2 : ¬ ((f_O_holds p1 x1) = (0 : Int32)) := c_2
          refine lv_iload_n hx hb d_O_leastOf_16 rfl (lv_at hl 0 rfl) ?_
          exact W.iret (v := x1) hx hb hr (fun t ht hW => ⟨⟨x1, (), rfl, by rw [← hF, lr_O_leastOf_s, if_neg c_1, if_neg c_2], trivial⟩, hS.F ht⟩) hS.2.2 d_O_leastOf_17
  exact LOOP 14 1 (1 : Int32) _ _ _ (rfl) (by omega) (by omega) (rfl) hP hS (lv_sub hl [0, 1] rfl)
set_option maxHeartbeats 4000000 in
set_option maxRecDepth 100000 in
theorem c_O_greatestOf (l : Launch) (dC : Nat → ClassId) (dI : Nat → Nat → Nat)  (sz : Nat) (p1 : Int32)  : Met l y_O_greatestOf w_O_greatestOf ({ frames := 1, cells := 0, slots := 0, locals := 21 } : Room) (ro_P dC dI ([] : va_W) [] sz [.int p1]) (ro_Q sz (f_O_greatestOf p1)) 0 0 (fun z => sz ≤ z) := by
  refine Met.ofW (cc := b_O_greatestOf) (maxL := 2) (ret := (some .int)) (by decide) rfl ?_
  intro p e s m args below meth c s₁ B hml hv
  obtain ⟨rfl, hsz, hP, hK, hN⟩ := hv
  have hx := B.exec
  have hb := B.bytes
  have hr := B.returns
  have hts := tl_of (atoms_spec (ws := w_O_greatestOf) B.pre)
  have hown : s.vm.findClass R_O = some m.cls := findClass_of_methodNamed B.named
  have hlocks := B.notSynchronized
  subst hsz
  have hA : ∀ z : Nat, s.heap.size ≤ z → (fun z : Nat => s.heap.size ≤ z) z := fun _ h => h
  have hS : va_S (fun z : Nat => s.heap.size ≤ z) s.heap s.heap [] := va_S.rf
  have hl := lv_entry ([.int p1]) (n := 2) (Nat.le_of_ble_eq_true rfl)
  rw [lg_entry_eq]
  generalize (lg_sl ([.int p1]) ++ List.replicate (2 - (lg_sl ([.int p1])).length) Slot.unset).toArray = ls at hl ⊢
  have hl : lv_has ls 2 [(0, .int p1)] := hl
  refine lv_bipush (v := (12 : Int32)) hx hb d_O_greatestOf_0 (by decide +kernel) ?_
  refine lv_istore_n (lv' := [(1, .int (12 : Int32)), (0, .int p1)]) hx hb d_O_greatestOf_2 rfl hl (by decide) rfl (fun ls hl => ?_)
  have LOOP : ∀ (n k : Nat) (x1 : Int32) (H : Heap) (locs : List Loc) (ls : Array Slot), x1 = nI k → k + 1 ≤ n → k ≤ 12 → lr_O_greatestOf p1 n x1 = (f_O_greatestOf p1) → va_P (dC, dI) classes ([] : va_W) H → va_S (fun z : Nat => s.heap.size ≤ z) s.heap H locs → lv_has ls 2 [(1, .int x1), (0, .int p1)] → W p l e (headSpec w_O_greatestOf ({ frames := 1, cells := 0, slots := 0, locals := 21 } : Room)).room s m ([.int p1] : List Value).toArray below meth c H locs 0 0 (MQ below (ro_Q s.heap.size (f_O_greatestOf p1)) ([.int p1] : List Value).toArray s 0 0 (fun z => s.heap.size ≤ z)) (F0 m 3 ls []) := by
    intro n
    induction n with
    | zero =>
      intro k x1 H locs ls et h1 h2
      exfalso; omega
    | succ n ih =>
      intro k x1 H locs ls et h1 h2 hF hP hS hl
      refine lv_iload_n hx hb d_O_greatestOf_3 rfl (lv_at hl 0 rfl) ?_
      refine lv_iconst (v := (1 : Int32)) hx hb d_O_greatestOf_4 (by decide +kernel) ?_
      refine lv_icmp_lt (tgt := 24) hx hb d_O_greatestOf_5 (by decide) (fun c_1 => ?_) (fun c_1 => ?_)
      · have c_1 : x1 < (1 : Int32) := c_1
        refine lv_iconst (v := (0 : Int32)) hx hb d_O_greatestOf_24 (by decide +kernel) ?_
        exact W.iret (v := (0 : Int32)) hx hb hr (fun t ht hW => ⟨⟨(0 : Int32), (), rfl, by rw [← hF, lr_O_greatestOf_s, if_pos c_1], trivial⟩, hS.F ht⟩) hS.2.2 d_O_greatestOf_25
      · have c_1 : ¬ (x1 < (1 : Int32)) := c_1
        refine lv_iload_n hx hb d_O_greatestOf_8 rfl (lv_at hl 1 rfl) ?_
        refine lv_iload_n hx hb d_O_greatestOf_9 rfl (lv_at hl 0 rfl) ?_
        refine va_calli (va_runS (As := [.int p1, .int x1]) (rest := []) ⟨hx, hb, hml, hown, hts⟩ (c_O_holds l dC dI  H.size   p1 x1) (cwS 2 hts k_g0 rfl rfl rfl (by decide +kernel) ⟨Nat.le_of_ble_eq_true rfl, Nat.le_of_ble_eq_true rfl⟩) ⟨fb_ro, fun U hU hW => ⟨rfl, by rw [hU], by rw [hU]; exact hP.sub (ws' := ([] : va_W)) [] rfl, va_K.moved hW.alike (hK.sub (tys' := []) [] rfl), NX.warm hW hN⟩⟩ rfl rfl hl.1 rfl (lv_room (Nat.le_of_ble_eq_true rfl)) d_O_greatestOf_10 ⟨Nat.zero_le _, Nat.zero_le _⟩) hS (fun z h1 h2 => absurd h1 (Nat.not_lt.mpr h2)) (fun z h => hA z (Nat.le_trans hS.1 h)) (fun r u t H1 locs ht hvm hpo hB hz1 hk1 hS => ?_)
        subst hpo
        have hP := kp_P hP hk1
        generalize H1 = H at hP hS ⊢
        refine lv_if_eq (tgt := 18) hx hb d_O_greatestOf_13 (by decide) (fun c_2 => ?_) (fun c_2 => ?_)
        · have c_2 : (f_O_holds p1 x1) = (0 : Int32) := c_2
          refine lv_iinc (v := (x1 + (-1 : Int32))) (lv' := [(1, .int (x1 + (-1 : Int32))), (0, .int p1)]) hx hb d_O_greatestOf_18 hl (k := 0) rfl (by rw [of_m1]) (by decide) rfl (fun ls hl => ?_)
          refine lv_goto (tgt := 3) hx hb d_O_greatestOf_21 (by decide) ?_
          exact ih (k - 1) (x1 + (-1 : Int32)) _ _ _ (dn_et et h2 (by assumption)) (dn_h1 et h2 h1 (by assumption)) (by omega) (by rw [← hF, lr_O_greatestOf_s, if_neg c_1, if_pos c_2]) hP hS (lv_sub hl [0, 1] rfl)
        · have c_2 : ¬ ((f_O_holds p1 x1) = (0 : Int32)) := c_2
          refine lv_iload_n hx hb d_O_greatestOf_16 rfl (lv_at hl 0 rfl) ?_
          exact W.iret (v := x1) hx hb hr (fun t ht hW => ⟨⟨x1, (), rfl, by rw [← hF, lr_O_greatestOf_s, if_neg c_1, if_neg c_2], trivial⟩, hS.F ht⟩) hS.2.2 d_O_greatestOf_17
  exact LOOP 14 12 (12 : Int32) _ _ _ (rfl) (by omega) (by omega) (rfl) hP hS (lv_sub hl [0, 1] rfl)
set_option maxHeartbeats 4000000 in
set_option maxRecDepth 100000 in
theorem c_J_bitCount (l : Launch) (dC : Nat → ClassId) (dI : Nat → Nat → Nat)  (sz : Nat) (p1 : Int32)  : Met l y_J_bitCount w_J_bitCount ({ frames := 0, cells := 0, slots := 0, locals := 0 } : Room) (ro_P dC dI ([] : va_W) [] sz [.int p1]) (ro_Q sz (f_J_bitCount p1)) 0 0 (fun z => sz ≤ z) := by
  refine Met.ofW (cc := b_J_bitCount) (maxL := 1) (ret := (some .int)) (by decide) rfl ?_
  intro p e s m args below meth c s₁ B hml hv
  obtain ⟨rfl, hsz, hP, hK, hN⟩ := hv
  have hx := B.exec
  have hb := B.bytes
  have hr := B.returns
  have hts := tl_of (atoms_spec (ws := w_J_bitCount) B.pre)
  have hown : s.vm.findClass R_J = some m.cls := findClass_of_methodNamed B.named
  have hlocks := B.notSynchronized
  subst hsz
  have hA : ∀ z : Nat, s.heap.size ≤ z → (fun z : Nat => s.heap.size ≤ z) z := fun _ h => h
  have hS : va_S (fun z : Nat => s.heap.size ≤ z) s.heap s.heap [] := va_S.rf
  have hl := lv_entry ([.int p1]) (n := 1) (Nat.le_of_ble_eq_true rfl)
  rw [lg_entry_eq]
  generalize (lg_sl ([.int p1]) ++ List.replicate (1 - (lg_sl ([.int p1])).length) Slot.unset).toArray = ls at hl ⊢
  have hl : lv_has ls 1 [(0, .int p1)] := hl
  refine lv_iload_n hx hb d_J_bitCount_0 rfl (lv_at hl 0 rfl) ?_
  refine lv_iload_n hx hb d_J_bitCount_1 rfl (lv_at hl 0 rfl) ?_
  refine lv_iconst (v := (1 : Int32)) hx hb d_J_bitCount_2 (by decide +kernel) ?_
  refine lv_iushr (v := (p1.toUInt32 >>> ((1 : Int32).toUInt32 &&& Int32.toUInt32 31)).toInt32) hx hb d_J_bitCount_3 rfl ?_
  refine lv_ldcw (v := (1431655765 : Int32)) hx hb hown (hts _ k_0) d_J_bitCount_4 ?_
  refine lv_iand hx hb d_J_bitCount_7 ?_
  refine lv_isub hx hb d_J_bitCount_8 ?_
  refine lv_istore_n (lv' := [(0, .int (p1 - (((p1.toUInt32 >>> ((1 : Int32).toUInt32 &&& Int32.toUInt32 31)).toInt32) &&& (1431655765 : Int32))))]) hx hb d_J_bitCount_9 rfl hl (by decide) rfl (fun ls hl => ?_)
  refine lv_iload_n hx hb d_J_bitCount_10 rfl (lv_at hl 0 rfl) ?_
  refine lv_ldcw (v := (858993459 : Int32)) hx hb hown (hts _ k_1) d_J_bitCount_11 ?_
  refine lv_iand hx hb d_J_bitCount_14 ?_
  refine lv_iload_n hx hb d_J_bitCount_15 rfl (lv_at hl 0 rfl) ?_
  refine lv_iconst (v := (2 : Int32)) hx hb d_J_bitCount_16 (by decide +kernel) ?_
  refine lv_iushr (v := ((p1 - (((p1.toUInt32 >>> ((1 : Int32).toUInt32 &&& Int32.toUInt32 31)).toInt32) &&& (1431655765 : Int32))).toUInt32 >>> ((2 : Int32).toUInt32 &&& Int32.toUInt32 31)).toInt32) hx hb d_J_bitCount_17 rfl ?_
  refine lv_ldcw (v := (858993459 : Int32)) hx hb hown (hts _ k_1) d_J_bitCount_18 ?_
  refine lv_iand hx hb d_J_bitCount_21 ?_
  refine lv_iadd hx hb d_J_bitCount_22 ?_
  refine lv_istore_n (lv' := [(0, .int (((p1 - (((p1.toUInt32 >>> ((1 : Int32).toUInt32 &&& Int32.toUInt32 31)).toInt32) &&& (1431655765 : Int32))) &&& (858993459 : Int32)) + ((((p1 - (((p1.toUInt32 >>> ((1 : Int32).toUInt32 &&& Int32.toUInt32 31)).toInt32) &&& (1431655765 : Int32))).toUInt32 >>> ((2 : Int32).toUInt32 &&& Int32.toUInt32 31)).toInt32) &&& (858993459 : Int32))))]) hx hb d_J_bitCount_23 rfl hl (by decide) rfl (fun ls hl => ?_)
  refine lv_iload_n hx hb d_J_bitCount_24 rfl (lv_at hl 0 rfl) ?_
  refine lv_iload_n hx hb d_J_bitCount_25 rfl (lv_at hl 0 rfl) ?_
  refine lv_iconst (v := (4 : Int32)) hx hb d_J_bitCount_26 (by decide +kernel) ?_
  refine lv_iushr (v := ((((p1 - (((p1.toUInt32 >>> ((1 : Int32).toUInt32 &&& Int32.toUInt32 31)).toInt32) &&& (1431655765 : Int32))) &&& (858993459 : Int32)) + ((((p1 - (((p1.toUInt32 >>> ((1 : Int32).toUInt32 &&& Int32.toUInt32 31)).toInt32) &&& (1431655765 : Int32))).toUInt32 >>> ((2 : Int32).toUInt32 &&& Int32.toUInt32 31)).toInt32) &&& (858993459 : Int32))).toUInt32 >>> ((4 : Int32).toUInt32 &&& Int32.toUInt32 31)).toInt32) hx hb d_J_bitCount_27 rfl ?_
  refine lv_iadd hx hb d_J_bitCount_28 ?_
  refine lv_ldcw (v := (252645135 : Int32)) hx hb hown (hts _ k_2) d_J_bitCount_29 ?_
  refine lv_iand hx hb d_J_bitCount_32 ?_
  refine lv_istore_n (lv' := [(0, .int (((((p1 - (((p1.toUInt32 >>> ((1 : Int32).toUInt32 &&& Int32.toUInt32 31)).toInt32) &&& (1431655765 : Int32))) &&& (858993459 : Int32)) + ((((p1 - (((p1.toUInt32 >>> ((1 : Int32).toUInt32 &&& Int32.toUInt32 31)).toInt32) &&& (1431655765 : Int32))).toUInt32 >>> ((2 : Int32).toUInt32 &&& Int32.toUInt32 31)).toInt32) &&& (858993459 : Int32))) + (((((p1 - (((p1.toUInt32 >>> ((1 : Int32).toUInt32 &&& Int32.toUInt32 31)).toInt32) &&& (1431655765 : Int32))) &&& (858993459 : Int32)) + ((((p1 - (((p1.toUInt32 >>> ((1 : Int32).toUInt32 &&& Int32.toUInt32 31)).toInt32) &&& (1431655765 : Int32))).toUInt32 >>> ((2 : Int32).toUInt32 &&& Int32.toUInt32 31)).toInt32) &&& (858993459 : Int32))).toUInt32 >>> ((4 : Int32).toUInt32 &&& Int32.toUInt32 31)).toInt32)) &&& (252645135 : Int32)))]) hx hb d_J_bitCount_33 rfl hl (by decide) rfl (fun ls hl => ?_)
  refine lv_iload_n hx hb d_J_bitCount_34 rfl (lv_at hl 0 rfl) ?_
  refine lv_iload_n hx hb d_J_bitCount_35 rfl (lv_at hl 0 rfl) ?_
  refine lv_bipush (v := (8 : Int32)) hx hb d_J_bitCount_36 (by decide +kernel) ?_
  refine lv_iushr (v := ((((((p1 - (((p1.toUInt32 >>> ((1 : Int32).toUInt32 &&& Int32.toUInt32 31)).toInt32) &&& (1431655765 : Int32))) &&& (858993459 : Int32)) + ((((p1 - (((p1.toUInt32 >>> ((1 : Int32).toUInt32 &&& Int32.toUInt32 31)).toInt32) &&& (1431655765 : Int32))).toUInt32 >>> ((2 : Int32).toUInt32 &&& Int32.toUInt32 31)).toInt32) &&& (858993459 : Int32))) + (((((p1 - (((p1.toUInt32 >>> ((1 : Int32).toUInt32 &&& Int32.toUInt32 31)).toInt32) &&& (1431655765 : Int32))) &&& (858993459 : Int32)) + ((((p1 - (((p1.toUInt32 >>> ((1 : Int32).toUInt32 &&& Int32.toUInt32 31)).toInt32) &&& (1431655765 : Int32))).toUInt32 >>> ((2 : Int32).toUInt32 &&& Int32.toUInt32 31)).toInt32) &&& (858993459 : Int32))).toUInt32 >>> ((4 : Int32).toUInt32 &&& Int32.toUInt32 31)).toInt32)) &&& (252645135 : Int32)).toUInt32 >>> ((8 : Int32).toUInt32 &&& Int32.toUInt32 31)).toInt32) hx hb d_J_bitCount_38 rfl ?_
  refine lv_iadd hx hb d_J_bitCount_39 ?_
  refine lv_istore_n (lv' := [(0, .int ((((((p1 - (((p1.toUInt32 >>> ((1 : Int32).toUInt32 &&& Int32.toUInt32 31)).toInt32) &&& (1431655765 : Int32))) &&& (858993459 : Int32)) + ((((p1 - (((p1.toUInt32 >>> ((1 : Int32).toUInt32 &&& Int32.toUInt32 31)).toInt32) &&& (1431655765 : Int32))).toUInt32 >>> ((2 : Int32).toUInt32 &&& Int32.toUInt32 31)).toInt32) &&& (858993459 : Int32))) + (((((p1 - (((p1.toUInt32 >>> ((1 : Int32).toUInt32 &&& Int32.toUInt32 31)).toInt32) &&& (1431655765 : Int32))) &&& (858993459 : Int32)) + ((((p1 - (((p1.toUInt32 >>> ((1 : Int32).toUInt32 &&& Int32.toUInt32 31)).toInt32) &&& (1431655765 : Int32))).toUInt32 >>> ((2 : Int32).toUInt32 &&& Int32.toUInt32 31)).toInt32) &&& (858993459 : Int32))).toUInt32 >>> ((4 : Int32).toUInt32 &&& Int32.toUInt32 31)).toInt32)) &&& (252645135 : Int32)) + (((((((p1 - (((p1.toUInt32 >>> ((1 : Int32).toUInt32 &&& Int32.toUInt32 31)).toInt32) &&& (1431655765 : Int32))) &&& (858993459 : Int32)) + ((((p1 - (((p1.toUInt32 >>> ((1 : Int32).toUInt32 &&& Int32.toUInt32 31)).toInt32) &&& (1431655765 : Int32))).toUInt32 >>> ((2 : Int32).toUInt32 &&& Int32.toUInt32 31)).toInt32) &&& (858993459 : Int32))) + (((((p1 - (((p1.toUInt32 >>> ((1 : Int32).toUInt32 &&& Int32.toUInt32 31)).toInt32) &&& (1431655765 : Int32))) &&& (858993459 : Int32)) + ((((p1 - (((p1.toUInt32 >>> ((1 : Int32).toUInt32 &&& Int32.toUInt32 31)).toInt32) &&& (1431655765 : Int32))).toUInt32 >>> ((2 : Int32).toUInt32 &&& Int32.toUInt32 31)).toInt32) &&& (858993459 : Int32))).toUInt32 >>> ((4 : Int32).toUInt32 &&& Int32.toUInt32 31)).toInt32)) &&& (252645135 : Int32)).toUInt32 >>> ((8 : Int32).toUInt32 &&& Int32.toUInt32 31)).toInt32)))]) hx hb d_J_bitCount_40 rfl hl (by decide) rfl (fun ls hl => ?_)
  refine lv_iload_n hx hb d_J_bitCount_41 rfl (lv_at hl 0 rfl) ?_
  refine lv_iload_n hx hb d_J_bitCount_42 rfl (lv_at hl 0 rfl) ?_
  refine lv_bipush (v := (16 : Int32)) hx hb d_J_bitCount_43 (by decide +kernel) ?_
  refine lv_iushr (v := (((((((p1 - (((p1.toUInt32 >>> ((1 : Int32).toUInt32 &&& Int32.toUInt32 31)).toInt32) &&& (1431655765 : Int32))) &&& (858993459 : Int32)) + ((((p1 - (((p1.toUInt32 >>> ((1 : Int32).toUInt32 &&& Int32.toUInt32 31)).toInt32) &&& (1431655765 : Int32))).toUInt32 >>> ((2 : Int32).toUInt32 &&& Int32.toUInt32 31)).toInt32) &&& (858993459 : Int32))) + (((((p1 - (((p1.toUInt32 >>> ((1 : Int32).toUInt32 &&& Int32.toUInt32 31)).toInt32) &&& (1431655765 : Int32))) &&& (858993459 : Int32)) + ((((p1 - (((p1.toUInt32 >>> ((1 : Int32).toUInt32 &&& Int32.toUInt32 31)).toInt32) &&& (1431655765 : Int32))).toUInt32 >>> ((2 : Int32).toUInt32 &&& Int32.toUInt32 31)).toInt32) &&& (858993459 : Int32))).toUInt32 >>> ((4 : Int32).toUInt32 &&& Int32.toUInt32 31)).toInt32)) &&& (252645135 : Int32)) + (((((((p1 - (((p1.toUInt32 >>> ((1 : Int32).toUInt32 &&& Int32.toUInt32 31)).toInt32) &&& (1431655765 : Int32))) &&& (858993459 : Int32)) + ((((p1 - (((p1.toUInt32 >>> ((1 : Int32).toUInt32 &&& Int32.toUInt32 31)).toInt32) &&& (1431655765 : Int32))).toUInt32 >>> ((2 : Int32).toUInt32 &&& Int32.toUInt32 31)).toInt32) &&& (858993459 : Int32))) + (((((p1 - (((p1.toUInt32 >>> ((1 : Int32).toUInt32 &&& Int32.toUInt32 31)).toInt32) &&& (1431655765 : Int32))) &&& (858993459 : Int32)) + ((((p1 - (((p1.toUInt32 >>> ((1 : Int32).toUInt32 &&& Int32.toUInt32 31)).toInt32) &&& (1431655765 : Int32))).toUInt32 >>> ((2 : Int32).toUInt32 &&& Int32.toUInt32 31)).toInt32) &&& (858993459 : Int32))).toUInt32 >>> ((4 : Int32).toUInt32 &&& Int32.toUInt32 31)).toInt32)) &&& (252645135 : Int32)).toUInt32 >>> ((8 : Int32).toUInt32 &&& Int32.toUInt32 31)).toInt32)).toUInt32 >>> ((16 : Int32).toUInt32 &&& Int32.toUInt32 31)).toInt32) hx hb d_J_bitCount_45 rfl ?_
  refine lv_iadd hx hb d_J_bitCount_46 ?_
  refine lv_istore_n (lv' := [(0, .int (((((((p1 - (((p1.toUInt32 >>> ((1 : Int32).toUInt32 &&& Int32.toUInt32 31)).toInt32) &&& (1431655765 : Int32))) &&& (858993459 : Int32)) + ((((p1 - (((p1.toUInt32 >>> ((1 : Int32).toUInt32 &&& Int32.toUInt32 31)).toInt32) &&& (1431655765 : Int32))).toUInt32 >>> ((2 : Int32).toUInt32 &&& Int32.toUInt32 31)).toInt32) &&& (858993459 : Int32))) + (((((p1 - (((p1.toUInt32 >>> ((1 : Int32).toUInt32 &&& Int32.toUInt32 31)).toInt32) &&& (1431655765 : Int32))) &&& (858993459 : Int32)) + ((((p1 - (((p1.toUInt32 >>> ((1 : Int32).toUInt32 &&& Int32.toUInt32 31)).toInt32) &&& (1431655765 : Int32))).toUInt32 >>> ((2 : Int32).toUInt32 &&& Int32.toUInt32 31)).toInt32) &&& (858993459 : Int32))).toUInt32 >>> ((4 : Int32).toUInt32 &&& Int32.toUInt32 31)).toInt32)) &&& (252645135 : Int32)) + (((((((p1 - (((p1.toUInt32 >>> ((1 : Int32).toUInt32 &&& Int32.toUInt32 31)).toInt32) &&& (1431655765 : Int32))) &&& (858993459 : Int32)) + ((((p1 - (((p1.toUInt32 >>> ((1 : Int32).toUInt32 &&& Int32.toUInt32 31)).toInt32) &&& (1431655765 : Int32))).toUInt32 >>> ((2 : Int32).toUInt32 &&& Int32.toUInt32 31)).toInt32) &&& (858993459 : Int32))) + (((((p1 - (((p1.toUInt32 >>> ((1 : Int32).toUInt32 &&& Int32.toUInt32 31)).toInt32) &&& (1431655765 : Int32))) &&& (858993459 : Int32)) + ((((p1 - (((p1.toUInt32 >>> ((1 : Int32).toUInt32 &&& Int32.toUInt32 31)).toInt32) &&& (1431655765 : Int32))).toUInt32 >>> ((2 : Int32).toUInt32 &&& Int32.toUInt32 31)).toInt32) &&& (858993459 : Int32))).toUInt32 >>> ((4 : Int32).toUInt32 &&& Int32.toUInt32 31)).toInt32)) &&& (252645135 : Int32)).toUInt32 >>> ((8 : Int32).toUInt32 &&& Int32.toUInt32 31)).toInt32)) + ((((((((p1 - (((p1.toUInt32 >>> ((1 : Int32).toUInt32 &&& Int32.toUInt32 31)).toInt32) &&& (1431655765 : Int32))) &&& (858993459 : Int32)) + ((((p1 - (((p1.toUInt32 >>> ((1 : Int32).toUInt32 &&& Int32.toUInt32 31)).toInt32) &&& (1431655765 : Int32))).toUInt32 >>> ((2 : Int32).toUInt32 &&& Int32.toUInt32 31)).toInt32) &&& (858993459 : Int32))) + (((((p1 - (((p1.toUInt32 >>> ((1 : Int32).toUInt32 &&& Int32.toUInt32 31)).toInt32) &&& (1431655765 : Int32))) &&& (858993459 : Int32)) + ((((p1 - (((p1.toUInt32 >>> ((1 : Int32).toUInt32 &&& Int32.toUInt32 31)).toInt32) &&& (1431655765 : Int32))).toUInt32 >>> ((2 : Int32).toUInt32 &&& Int32.toUInt32 31)).toInt32) &&& (858993459 : Int32))).toUInt32 >>> ((4 : Int32).toUInt32 &&& Int32.toUInt32 31)).toInt32)) &&& (252645135 : Int32)) + (((((((p1 - (((p1.toUInt32 >>> ((1 : Int32).toUInt32 &&& Int32.toUInt32 31)).toInt32) &&& (1431655765 : Int32))) &&& (858993459 : Int32)) + ((((p1 - (((p1.toUInt32 >>> ((1 : Int32).toUInt32 &&& Int32.toUInt32 31)).toInt32) &&& (1431655765 : Int32))).toUInt32 >>> ((2 : Int32).toUInt32 &&& Int32.toUInt32 31)).toInt32) &&& (858993459 : Int32))) + (((((p1 - (((p1.toUInt32 >>> ((1 : Int32).toUInt32 &&& Int32.toUInt32 31)).toInt32) &&& (1431655765 : Int32))) &&& (858993459 : Int32)) + ((((p1 - (((p1.toUInt32 >>> ((1 : Int32).toUInt32 &&& Int32.toUInt32 31)).toInt32) &&& (1431655765 : Int32))).toUInt32 >>> ((2 : Int32).toUInt32 &&& Int32.toUInt32 31)).toInt32) &&& (858993459 : Int32))).toUInt32 >>> ((4 : Int32).toUInt32 &&& Int32.toUInt32 31)).toInt32)) &&& (252645135 : Int32)).toUInt32 >>> ((8 : Int32).toUInt32 &&& Int32.toUInt32 31)).toInt32)).toUInt32 >>> ((16 : Int32).toUInt32 &&& Int32.toUInt32 31)).toInt32)))]) hx hb d_J_bitCount_47 rfl hl (by decide) rfl (fun ls hl => ?_)
  refine lv_iload_n hx hb d_J_bitCount_48 rfl (lv_at hl 0 rfl) ?_
  refine lv_bipush (v := (63 : Int32)) hx hb d_J_bitCount_49 (by decide +kernel) ?_
  refine lv_iand hx hb d_J_bitCount_51 ?_
  exact W.iret (v := ((((((((p1 - (((p1.toUInt32 >>> ((1 : Int32).toUInt32 &&& Int32.toUInt32 31)).toInt32) &&& (1431655765 : Int32))) &&& (858993459 : Int32)) + ((((p1 - (((p1.toUInt32 >>> ((1 : Int32).toUInt32 &&& Int32.toUInt32 31)).toInt32) &&& (1431655765 : Int32))).toUInt32 >>> ((2 : Int32).toUInt32 &&& Int32.toUInt32 31)).toInt32) &&& (858993459 : Int32))) + (((((p1 - (((p1.toUInt32 >>> ((1 : Int32).toUInt32 &&& Int32.toUInt32 31)).toInt32) &&& (1431655765 : Int32))) &&& (858993459 : Int32)) + ((((p1 - (((p1.toUInt32 >>> ((1 : Int32).toUInt32 &&& Int32.toUInt32 31)).toInt32) &&& (1431655765 : Int32))).toUInt32 >>> ((2 : Int32).toUInt32 &&& Int32.toUInt32 31)).toInt32) &&& (858993459 : Int32))).toUInt32 >>> ((4 : Int32).toUInt32 &&& Int32.toUInt32 31)).toInt32)) &&& (252645135 : Int32)) + (((((((p1 - (((p1.toUInt32 >>> ((1 : Int32).toUInt32 &&& Int32.toUInt32 31)).toInt32) &&& (1431655765 : Int32))) &&& (858993459 : Int32)) + ((((p1 - (((p1.toUInt32 >>> ((1 : Int32).toUInt32 &&& Int32.toUInt32 31)).toInt32) &&& (1431655765 : Int32))).toUInt32 >>> ((2 : Int32).toUInt32 &&& Int32.toUInt32 31)).toInt32) &&& (858993459 : Int32))) + (((((p1 - (((p1.toUInt32 >>> ((1 : Int32).toUInt32 &&& Int32.toUInt32 31)).toInt32) &&& (1431655765 : Int32))) &&& (858993459 : Int32)) + ((((p1 - (((p1.toUInt32 >>> ((1 : Int32).toUInt32 &&& Int32.toUInt32 31)).toInt32) &&& (1431655765 : Int32))).toUInt32 >>> ((2 : Int32).toUInt32 &&& Int32.toUInt32 31)).toInt32) &&& (858993459 : Int32))).toUInt32 >>> ((4 : Int32).toUInt32 &&& Int32.toUInt32 31)).toInt32)) &&& (252645135 : Int32)).toUInt32 >>> ((8 : Int32).toUInt32 &&& Int32.toUInt32 31)).toInt32)) + ((((((((p1 - (((p1.toUInt32 >>> ((1 : Int32).toUInt32 &&& Int32.toUInt32 31)).toInt32) &&& (1431655765 : Int32))) &&& (858993459 : Int32)) + ((((p1 - (((p1.toUInt32 >>> ((1 : Int32).toUInt32 &&& Int32.toUInt32 31)).toInt32) &&& (1431655765 : Int32))).toUInt32 >>> ((2 : Int32).toUInt32 &&& Int32.toUInt32 31)).toInt32) &&& (858993459 : Int32))) + (((((p1 - (((p1.toUInt32 >>> ((1 : Int32).toUInt32 &&& Int32.toUInt32 31)).toInt32) &&& (1431655765 : Int32))) &&& (858993459 : Int32)) + ((((p1 - (((p1.toUInt32 >>> ((1 : Int32).toUInt32 &&& Int32.toUInt32 31)).toInt32) &&& (1431655765 : Int32))).toUInt32 >>> ((2 : Int32).toUInt32 &&& Int32.toUInt32 31)).toInt32) &&& (858993459 : Int32))).toUInt32 >>> ((4 : Int32).toUInt32 &&& Int32.toUInt32 31)).toInt32)) &&& (252645135 : Int32)) + (((((((p1 - (((p1.toUInt32 >>> ((1 : Int32).toUInt32 &&& Int32.toUInt32 31)).toInt32) &&& (1431655765 : Int32))) &&& (858993459 : Int32)) + ((((p1 - (((p1.toUInt32 >>> ((1 : Int32).toUInt32 &&& Int32.toUInt32 31)).toInt32) &&& (1431655765 : Int32))).toUInt32 >>> ((2 : Int32).toUInt32 &&& Int32.toUInt32 31)).toInt32) &&& (858993459 : Int32))) + (((((p1 - (((p1.toUInt32 >>> ((1 : Int32).toUInt32 &&& Int32.toUInt32 31)).toInt32) &&& (1431655765 : Int32))) &&& (858993459 : Int32)) + ((((p1 - (((p1.toUInt32 >>> ((1 : Int32).toUInt32 &&& Int32.toUInt32 31)).toInt32) &&& (1431655765 : Int32))).toUInt32 >>> ((2 : Int32).toUInt32 &&& Int32.toUInt32 31)).toInt32) &&& (858993459 : Int32))).toUInt32 >>> ((4 : Int32).toUInt32 &&& Int32.toUInt32 31)).toInt32)) &&& (252645135 : Int32)).toUInt32 >>> ((8 : Int32).toUInt32 &&& Int32.toUInt32 31)).toInt32)).toUInt32 >>> ((16 : Int32).toUInt32 &&& Int32.toUInt32 31)).toInt32)) &&& (63 : Int32))) hx hb hr (fun t ht hW => ⟨⟨((((((((p1 - (((p1.toUInt32 >>> ((1 : Int32).toUInt32 &&& Int32.toUInt32 31)).toInt32) &&& (1431655765 : Int32))) &&& (858993459 : Int32)) + ((((p1 - (((p1.toUInt32 >>> ((1 : Int32).toUInt32 &&& Int32.toUInt32 31)).toInt32) &&& (1431655765 : Int32))).toUInt32 >>> ((2 : Int32).toUInt32 &&& Int32.toUInt32 31)).toInt32) &&& (858993459 : Int32))) + (((((p1 - (((p1.toUInt32 >>> ((1 : Int32).toUInt32 &&& Int32.toUInt32 31)).toInt32) &&& (1431655765 : Int32))) &&& (858993459 : Int32)) + ((((p1 - (((p1.toUInt32 >>> ((1 : Int32).toUInt32 &&& Int32.toUInt32 31)).toInt32) &&& (1431655765 : Int32))).toUInt32 >>> ((2 : Int32).toUInt32 &&& Int32.toUInt32 31)).toInt32) &&& (858993459 : Int32))).toUInt32 >>> ((4 : Int32).toUInt32 &&& Int32.toUInt32 31)).toInt32)) &&& (252645135 : Int32)) + (((((((p1 - (((p1.toUInt32 >>> ((1 : Int32).toUInt32 &&& Int32.toUInt32 31)).toInt32) &&& (1431655765 : Int32))) &&& (858993459 : Int32)) + ((((p1 - (((p1.toUInt32 >>> ((1 : Int32).toUInt32 &&& Int32.toUInt32 31)).toInt32) &&& (1431655765 : Int32))).toUInt32 >>> ((2 : Int32).toUInt32 &&& Int32.toUInt32 31)).toInt32) &&& (858993459 : Int32))) + (((((p1 - (((p1.toUInt32 >>> ((1 : Int32).toUInt32 &&& Int32.toUInt32 31)).toInt32) &&& (1431655765 : Int32))) &&& (858993459 : Int32)) + ((((p1 - (((p1.toUInt32 >>> ((1 : Int32).toUInt32 &&& Int32.toUInt32 31)).toInt32) &&& (1431655765 : Int32))).toUInt32 >>> ((2 : Int32).toUInt32 &&& Int32.toUInt32 31)).toInt32) &&& (858993459 : Int32))).toUInt32 >>> ((4 : Int32).toUInt32 &&& Int32.toUInt32 31)).toInt32)) &&& (252645135 : Int32)).toUInt32 >>> ((8 : Int32).toUInt32 &&& Int32.toUInt32 31)).toInt32)) + ((((((((p1 - (((p1.toUInt32 >>> ((1 : Int32).toUInt32 &&& Int32.toUInt32 31)).toInt32) &&& (1431655765 : Int32))) &&& (858993459 : Int32)) + ((((p1 - (((p1.toUInt32 >>> ((1 : Int32).toUInt32 &&& Int32.toUInt32 31)).toInt32) &&& (1431655765 : Int32))).toUInt32 >>> ((2 : Int32).toUInt32 &&& Int32.toUInt32 31)).toInt32) &&& (858993459 : Int32))) + (((((p1 - (((p1.toUInt32 >>> ((1 : Int32).toUInt32 &&& Int32.toUInt32 31)).toInt32) &&& (1431655765 : Int32))) &&& (858993459 : Int32)) + ((((p1 - (((p1.toUInt32 >>> ((1 : Int32).toUInt32 &&& Int32.toUInt32 31)).toInt32) &&& (1431655765 : Int32))).toUInt32 >>> ((2 : Int32).toUInt32 &&& Int32.toUInt32 31)).toInt32) &&& (858993459 : Int32))).toUInt32 >>> ((4 : Int32).toUInt32 &&& Int32.toUInt32 31)).toInt32)) &&& (252645135 : Int32)) + (((((((p1 - (((p1.toUInt32 >>> ((1 : Int32).toUInt32 &&& Int32.toUInt32 31)).toInt32) &&& (1431655765 : Int32))) &&& (858993459 : Int32)) + ((((p1 - (((p1.toUInt32 >>> ((1 : Int32).toUInt32 &&& Int32.toUInt32 31)).toInt32) &&& (1431655765 : Int32))).toUInt32 >>> ((2 : Int32).toUInt32 &&& Int32.toUInt32 31)).toInt32) &&& (858993459 : Int32))) + (((((p1 - (((p1.toUInt32 >>> ((1 : Int32).toUInt32 &&& Int32.toUInt32 31)).toInt32) &&& (1431655765 : Int32))) &&& (858993459 : Int32)) + ((((p1 - (((p1.toUInt32 >>> ((1 : Int32).toUInt32 &&& Int32.toUInt32 31)).toInt32) &&& (1431655765 : Int32))).toUInt32 >>> ((2 : Int32).toUInt32 &&& Int32.toUInt32 31)).toInt32) &&& (858993459 : Int32))).toUInt32 >>> ((4 : Int32).toUInt32 &&& Int32.toUInt32 31)).toInt32)) &&& (252645135 : Int32)).toUInt32 >>> ((8 : Int32).toUInt32 &&& Int32.toUInt32 31)).toInt32)).toUInt32 >>> ((16 : Int32).toUInt32 &&& Int32.toUInt32 31)).toInt32)) &&& (63 : Int32)), (), rfl, rfl, trivial⟩, hS.F ht⟩) hS.2.2 d_J_bitCount_52
end
section
set_option maxHeartbeats 4000000 in
set_option maxRecDepth 100000 in
theorem c_W_has (l : Launch) (dC : Nat → ClassId) (dI : Nat → Nat → Nat) (ka : Nat → ClassId) (qa : Nat → Nat) (sz : Nat) (w : WS) (p1 : Int32)  : Met l y_W_has w_W_has ({ frames := 0, cells := 0, slots := 0, locals := 0 } : Room) (ro_P dC dI (wW ka qa w) (tW ka) sz [.ref (qa 0), .int p1]) (ro_Q sz (f_W_has w p1)) 0 0 (fun z => sz ≤ z) := by
  refine Met.ofW (cc := b_W_has) (maxL := 2) (ret := (some .boolean)) (by decide) rfl ?_
  intro p e s m args below meth c s₁ B hml hv
  obtain ⟨rfl, hsz, hP, hK, hN⟩ := hv
  have hx := B.exec
  have hb := B.bytes
  have hr := B.returns
  have hts := tl_of (atoms_spec (ws := w_W_has) B.pre)
  have hown : s.vm.findClass R_W = some m.cls := findClass_of_methodNamed B.named
  have hlocks := B.notSynchronized
  subst hsz
  have hA : ∀ z : Nat, s.heap.size ≤ z → (fun z : Nat => s.heap.size ≤ z) z := fun _ h => h
  have hS : va_S (fun z : Nat => s.heap.size ≤ z) s.heap s.heap [] := va_S.rf
  have hl := lv_entry ([.ref (qa 0), .int p1]) (n := 2) (Nat.le_of_ble_eq_true rfl)
  rw [lg_entry_eq]
  generalize (lg_sl ([.ref (qa 0), .int p1]) ++ List.replicate (2 - (lg_sl ([.ref (qa 0), .int p1])).length) Slot.unset).toArray = ls at hl ⊢
  have hl : lv_has ls 2 [(0, .ref (qa 0)), (1, .int p1)] := hl
  refine lv_iload_n hx hb d_W_has_0 rfl (lv_at hl 1 rfl) ?_
  refine lv_iconst (v := (1 : Int32)) hx hb d_W_has_1 (by decide +kernel) ?_
  refine lv_icmp_lt (tgt := 17) hx hb d_W_has_2 (by decide) (fun c_1 => ?_) (fun c_1 => ?_)
  · have c_1 : p1 < (1 : Int32) := c_1
    refine lv_iconst (v := (0 : Int32)) hx hb d_W_has_17 (by decide +kernel) ?_
    exact W.zret (v := (0 : Int32)) hx hb hr (by decide +kernel) (fun t ht hW => ⟨⟨(0 : Int32), (), rfl, by unfold f_W_has; rw [if_pos c_1], trivial⟩, hS.F ht⟩) hS.2.2 d_W_has_18
  · have c_1 : ¬ (p1 < (1 : Int32)) := c_1
    refine lv_iload_n hx hb d_W_has_5 rfl (lv_at hl 1 rfl) ?_
    refine lv_aload_n hx hb d_W_has_6 rfl (lv_at hl 0 rfl) ?_
    refine va_get (D := (dC, dI)) (ci := 0) (v := .int (w.2 3)) (C := R_W) (T := F_W) (N := 10) hx hb hts i_W hown hK hP 0 rfl rfl 9 (by decide) (hts _ k_3) (fun _ h9 => h9) rfl d_W_has_7 ?_
    refine lv_icmp_gt (tgt := 17) hx hb d_W_has_10 (by decide) (fun c_2 => ?_) (fun c_2 => ?_)
    · have c_2 : (w.2 3) < p1 := c_2
      refine lv_iconst (v := (0 : Int32)) hx hb d_W_has_17 (by decide +kernel) ?_
      exact W.zret (v := (0 : Int32)) hx hb hr (by decide +kernel) (fun t ht hW => ⟨⟨(0 : Int32), (), rfl, by unfold f_W_has; rw [if_neg c_1, if_pos c_2], trivial⟩, hS.F ht⟩) hS.2.2 d_W_has_18
    · have c_2 : ¬ ((w.2 3) < p1) := c_2
      refine lv_iconst (v := (1 : Int32)) hx hb d_W_has_13 (by decide +kernel) ?_
      refine lv_goto (tgt := 18) hx hb d_W_has_14 (by decide) ?_
      exact W.zret (v := (1 : Int32)) hx hb hr (by decide +kernel) (fun t ht hW => ⟨⟨(1 : Int32), (), rfl, by unfold f_W_has; rw [if_neg c_1, if_neg c_2], trivial⟩, hS.F ht⟩) hS.2.2 d_W_has_18
set_option maxHeartbeats 4000000 in
set_option maxRecDepth 100000 in
theorem c_W_isFull (l : Launch) (dC : Nat → ClassId) (dI : Nat → Nat → Nat) (ka : Nat → ClassId) (qa : Nat → Nat) (sz : Nat) (w : WS)  : Met l y_W_isFull w_W_isFull ({ frames := 0, cells := 0, slots := 0, locals := 0 } : Room) (ro_P dC dI (wW ka qa w) (tW ka) sz [.ref (qa 0)]) (ro_Q sz (f_W_isFull w)) 0 0 (fun z => sz ≤ z) := by
  refine Met.ofW (cc := b_W_isFull) (maxL := 1) (ret := (some .boolean)) (by decide) rfl ?_
  intro p e s m args below meth c s₁ B hml hv
  obtain ⟨rfl, hsz, hP, hK, hN⟩ := hv
  have hx := B.exec
  have hb := B.bytes
  have hr := B.returns
  have hts := tl_of (atoms_spec (ws := w_W_isFull) B.pre)
  have hown : s.vm.findClass R_W = some m.cls := findClass_of_methodNamed B.named
  have hlocks := B.notSynchronized
  subst hsz
  have hA : ∀ z : Nat, s.heap.size ≤ z → (fun z : Nat => s.heap.size ≤ z) z := fun _ h => h
  have hS : va_S (fun z : Nat => s.heap.size ≤ z) s.heap s.heap [] := va_S.rf
  have hl := lv_entry ([.ref (qa 0)]) (n := 1) (Nat.le_of_ble_eq_true rfl)
  rw [lg_entry_eq]
  generalize (lg_sl ([.ref (qa 0)]) ++ List.replicate (1 - (lg_sl ([.ref (qa 0)])).length) Slot.unset).toArray = ls at hl ⊢
  have hl : lv_has ls 1 [(0, .ref (qa 0))] := hl
  refine lv_aload_n hx hb d_W_isFull_0 rfl (lv_at hl 0 rfl) ?_
  refine va_get (D := (dC, dI)) (ci := 0) (v := .int (w.2 3)) (C := R_W) (T := F_W) (N := 10) hx hb hts i_W hown hK hP 0 rfl rfl 9 (by decide) (hts _ k_3) (fun _ h9 => h9) rfl d_W_isFull_1 ?_
  refine lv_bipush (v := (12 : Int32)) hx hb d_W_isFull_4 (by decide +kernel) ?_
  refine lv_icmp_lt (tgt := 13) hx hb d_W_isFull_6 (by decide) (fun c_1 => ?_) (fun c_1 => ?_)
  · have c_1 : (w.2 3) < (12 : Int32) := c_1
    refine lv_iconst (v := (0 : Int32)) hx hb d_W_isFull_13 (by decide +kernel) ?_
    exact W.zret (v := (0 : Int32)) hx hb hr (by decide +kernel) (fun t ht hW => ⟨⟨(0 : Int32), (), rfl, by unfold f_W_isFull; rw [if_pos c_1], trivial⟩, hS.F ht⟩) hS.2.2 d_W_isFull_14
  · have c_1 : ¬ ((w.2 3) < (12 : Int32)) := c_1
    refine lv_iconst (v := (1 : Int32)) hx hb d_W_isFull_9 (by decide +kernel) ?_
    refine lv_goto (tgt := 14) hx hb d_W_isFull_10 (by decide) ?_
    exact W.zret (v := (1 : Int32)) hx hb hr (by decide +kernel) (fun t ht hW => ⟨⟨(1 : Int32), (), rfl, by unfold f_W_isFull; rw [if_neg c_1], trivial⟩, hS.F ht⟩) hS.2.2 d_W_isFull_14
set_option maxHeartbeats 4000000 in
set_option maxRecDepth 100000 in
theorem c_W_isInterface (l : Launch) (dC : Nat → ClassId) (dI : Nat → Nat → Nat) (ka : Nat → ClassId) (qa : Nat → Nat) (sz : Nat) (w : WS) (p1 : Int32)  : Met l y_W_isInterface w_W_isInterface ({ frames := 1, cells := 0, slots := 0, locals := 21 } : Room) (ro_P dC dI (wW ka qa w) (tW ka) sz [.ref (qa 0), .int p1]) (ro_Q sz (f_W_isInterface w p1)) 0 0 (fun z => sz ≤ z) := by
  refine Met.ofW (cc := b_W_isInterface) (maxL := 2) (ret := (some .boolean)) (by decide) rfl ?_
  intro p e s m args below meth c s₁ B hml hv
  obtain ⟨rfl, hsz, hP, hK, hN⟩ := hv
  have hx := B.exec
  have hb := B.bytes
  have hr := B.returns
  have hts := tl_of (atoms_spec (ws := w_W_isInterface) B.pre)
  have hown : s.vm.findClass R_W = some m.cls := findClass_of_methodNamed B.named
  have hlocks := B.notSynchronized
  subst hsz
  have hA : ∀ z : Nat, s.heap.size ≤ z → (fun z : Nat => s.heap.size ≤ z) z := fun _ h => h
  have hS : va_S (fun z : Nat => s.heap.size ≤ z) s.heap s.heap [] := va_S.rf
  have hl := lv_entry ([.ref (qa 0), .int p1]) (n := 2) (Nat.le_of_ble_eq_true rfl)
  rw [lg_entry_eq]
  generalize (lg_sl ([.ref (qa 0), .int p1]) ++ List.replicate (2 - (lg_sl ([.ref (qa 0), .int p1])).length) Slot.unset).toArray = ls at hl ⊢
  have hl : lv_has ls 2 [(0, .ref (qa 0)), (1, .int p1)] := hl
  refine lv_aload_n hx hb d_W_isInterface_0 rfl (lv_at hl 0 rfl) ?_
  refine lv_iload_n hx hb d_W_isInterface_1 rfl (lv_at hl 1 rfl) ?_
  refine va_calli (va_runV (As := [.int p1]) (rest := []) ⟨hx, hb, hml, hown, hts⟩ (c_W_has l dC dI ka qa s.heap.size w  p1) (cwV 1 hts k_g1 rfl rfl rfl (by decide +kernel) ⟨Nat.le_of_ble_eq_true rfl, Nat.le_of_ble_eq_true rfl⟩) ⟨fb_ro, va_recv hK hP (ci := 0) (q0 := 0) rfl rfl, fun U hU hW => ⟨rfl, by rw [hU], by rw [hU]; exact hP.sub (ws' := (wW ka qa w)) [0, 1, 2, 3, 4, 5, 6] rfl, va_K.moved hW.alike (hK.sub (tys' := (tW ka)) [0, 1, 2, 3, 4, 5] rfl), NX.warm hW hN⟩⟩ rfl rfl hl.1 rfl (lv_room (Nat.le_of_ble_eq_true rfl)) d_W_isInterface_2 ⟨Nat.zero_le _, Nat.zero_le _⟩) hS (fun z h1 h2 => absurd h1 (Nat.not_lt.mpr h2)) (fun z h => hA z (Nat.le_trans hS.1 h)) (fun r u t H1 locs ht hvm hpo hB hz1 hk1 hS => ?_)
  subst hpo
  have hP := kp_P hP hk1
  generalize H1 = H at hP hS ⊢
  refine lv_if_eq (tgt := 23) hx hb d_W_isInterface_5 (by decide) (fun c_1 => ?_) (fun c_1 => ?_)
  · have c_1 : (f_W_has w p1) = (0 : Int32) := c_1
    refine lv_iconst (v := (0 : Int32)) hx hb d_W_isInterface_23 (by decide +kernel) ?_
    exact W.zret (v := (0 : Int32)) hx hb hr (by decide +kernel) (fun t ht hW => ⟨⟨(0 : Int32), (), rfl, by unfold f_W_isInterface; rw [if_pos c_1], trivial⟩, hS.F ht⟩) hS.2.2 d_W_isInterface_24
  · have c_1 : ¬ ((f_W_has w p1) = (0 : Int32)) := c_1
    refine lv_aload_n hx hb d_W_isInterface_8 rfl (lv_at hl 0 rfl) ?_
    refine va_get (D := (dC, dI)) (ci := 0) (v := .int (w.2 2)) (C := R_W) (T := F_W) (N := 10) hx hb hts i_W hown hK hP 0 rfl rfl 8 (by decide) (hts _ k_4) (fun _ h9 => h9) rfl d_W_isInterface_9 ?_
    refine lv_iload_n hx hb d_W_isInterface_12 rfl (lv_at hl 1 rfl) ?_
    refine va_calli (va_runSN (As := [.int (w.2 2), .int p1]) (rest := []) ⟨hx, hb, hml, hown, hts⟩ (c_O_holds l dC dI  H.size   (w.2 2) p1) ⟨va_cnB 2 hts k_g2 rfl rfl rfl (hN _ k_5 rfl) (hts _ k_6) (by decide +kernel) ⟨Nat.le_of_ble_eq_true rfl, Nat.le_of_ble_eq_true rfl⟩, hts _ k_7, trivial⟩ ⟨fb_ro, fun U hU hW => ⟨rfl, by rw [hU], by rw [hU]; exact hP.sub (ws' := ([] : va_W)) [] rfl, va_K.moved hW.alike (hK.sub (tys' := []) [] rfl), NX.warm hW hN⟩⟩ rfl rfl hl.1 rfl (lv_room (Nat.le_of_ble_eq_true rfl)) d_W_isInterface_13 ⟨Nat.zero_le _, Nat.zero_le _⟩) hS (fun z h1 h2 => absurd h1 (Nat.not_lt.mpr h2)) (fun z h => hA z (Nat.le_trans hS.1 h)) (fun r u t H1 locs ht hvm hpo hB hz1 hk1 hS => ?_)
    subst hpo
    have hP := kp_P hP hk1
    generalize H1 = H at hP hS ⊢
    refine lv_if_eq (tgt := 23) hx hb d_W_isInterface_16 (by decide) (fun c_2 => ?_) (fun c_2 => ?_)
    · have c_2 : (f_O_holds (w.2 2) p1) = (0 : Int32) := c_2
      refine lv_iconst (v := (0 : Int32)) hx hb d_W_isInterface_23 (by decide +kernel) ?_
      exact W.zret (v := (0 : Int32)) hx hb hr (by decide +kernel) (fun t ht hW => ⟨⟨(0 : Int32), (), rfl, by unfold f_W_isInterface; rw [if_neg c_1, if_pos c_2], trivial⟩, hS.F ht⟩) hS.2.2 d_W_isInterface_24
    · have c_2 : ¬ ((f_O_holds (w.2 2) p1) = (0 : Int32)) := c_2
      refine lv_iconst (v := (1 : Int32)) hx hb d_W_isInterface_19 (by decide +kernel) ?_
      refine lv_goto (tgt := 24) hx hb d_W_isInterface_20 (by decide) ?_
      exact W.zret (v := (1 : Int32)) hx hb hr (by decide +kernel) (fun t ht hW => ⟨⟨(1 : Int32), (), rfl, by unfold f_W_isInterface; rw [if_neg c_1, if_neg c_2], trivial⟩, hS.F ht⟩) hS.2.2 d_W_isInterface_24
set_option maxHeartbeats 4000000 in
set_option maxRecDepth 100000 in
theorem c_W_isClass (l : Launch) (dC : Nat → ClassId) (dI : Nat → Nat → Nat) (ka : Nat → ClassId) (qa : Nat → Nat) (sz : Nat) (w : WS) (p1 : Int32)  : Met l y_W_isClass w_W_isClass ({ frames := 1, cells := 0, slots := 0, locals := 21 } : Room) (ro_P dC dI (wW ka qa w) (tW ka) sz [.ref (qa 0), .int p1]) (ro_Q sz (f_W_isClass w p1)) 0 0 (fun z => sz ≤ z) := by
  refine Met.ofW (cc := b_W_isClass) (maxL := 2) (ret := (some .boolean)) (by decide) rfl ?_
  intro p e s m args below meth c s₁ B hml hv
  obtain ⟨rfl, hsz, hP, hK, hN⟩ := hv
  have hx := B.exec
  have hb := B.bytes
  have hr := B.returns
  have hts := tl_of (atoms_spec (ws := w_W_isClass) B.pre)
  have hown : s.vm.findClass R_W = some m.cls := findClass_of_methodNamed B.named
  have hlocks := B.notSynchronized
  subst hsz
  have hA : ∀ z : Nat, s.heap.size ≤ z → (fun z : Nat => s.heap.size ≤ z) z := fun _ h => h
  have hS : va_S (fun z : Nat => s.heap.size ≤ z) s.heap s.heap [] := va_S.rf
  have hl := lv_entry ([.ref (qa 0), .int p1]) (n := 2) (Nat.le_of_ble_eq_true rfl)
  rw [lg_entry_eq]
  generalize (lg_sl ([.ref (qa 0), .int p1]) ++ List.replicate (2 - (lg_sl ([.ref (qa 0), .int p1])).length) Slot.unset).toArray = ls at hl ⊢
  have hl : lv_has ls 2 [(0, .ref (qa 0)), (1, .int p1)] := hl
  refine lv_aload_n hx hb d_W_isClass_0 rfl (lv_at hl 0 rfl) ?_
  refine lv_iload_n hx hb d_W_isClass_1 rfl (lv_at hl 1 rfl) ?_
  refine va_calli (va_runV (As := [.int p1]) (rest := []) ⟨hx, hb, hml, hown, hts⟩ (c_W_has l dC dI ka qa s.heap.size w  p1) (cwV 1 hts k_g1 rfl rfl rfl (by decide +kernel) ⟨Nat.le_of_ble_eq_true rfl, Nat.le_of_ble_eq_true rfl⟩) ⟨fb_ro, va_recv hK hP (ci := 0) (q0 := 0) rfl rfl, fun U hU hW => ⟨rfl, by rw [hU], by rw [hU]; exact hP.sub (ws' := (wW ka qa w)) [0, 1, 2, 3, 4, 5, 6] rfl, va_K.moved hW.alike (hK.sub (tys' := (tW ka)) [0, 1, 2, 3, 4, 5] rfl), NX.warm hW hN⟩⟩ rfl rfl hl.1 rfl (lv_room (Nat.le_of_ble_eq_true rfl)) d_W_isClass_2 ⟨Nat.zero_le _, Nat.zero_le _⟩) hS (fun z h1 h2 => absurd h1 (Nat.not_lt.mpr h2)) (fun z h => hA z (Nat.le_trans hS.1 h)) (fun r u t H1 locs ht hvm hpo hB hz1 hk1 hS => ?_)
  subst hpo
  have hP := kp_P hP hk1
  generalize H1 = H at hP hS ⊢
  refine lv_if_eq (tgt := 23) hx hb d_W_isClass_5 (by decide) (fun c_1 => ?_) (fun c_1 => ?_)
  · have c_1 : (f_W_has w p1) = (0 : Int32) := c_1
    refine lv_iconst (v := (0 : Int32)) hx hb d_W_isClass_23 (by decide +kernel) ?_
    exact W.zret (v := (0 : Int32)) hx hb hr (by decide +kernel) (fun t ht hW => ⟨⟨(0 : Int32), (), rfl, by unfold f_W_isClass; rw [if_pos c_1], trivial⟩, hS.F ht⟩) hS.2.2 d_W_isClass_24
  · have c_1 : ¬ ((f_W_has w p1) = (0 : Int32)) := c_1
    refine lv_aload_n hx hb d_W_isClass_8 rfl (lv_at hl 0 rfl) ?_
    refine va_get (D := (dC, dI)) (ci := 0) (v := .int (w.2 2)) (C := R_W) (T := F_W) (N := 10) hx hb hts i_W hown hK hP 0 rfl rfl 8 (by decide) (hts _ k_4) (fun _ h9 => h9) rfl d_W_isClass_9 ?_
    refine lv_iload_n hx hb d_W_isClass_12 rfl (lv_at hl 1 rfl) ?_
    refine va_calli (va_runSN (As := [.int (w.2 2), .int p1]) (rest := []) ⟨hx, hb, hml, hown, hts⟩ (c_O_holds l dC dI  H.size   (w.2 2) p1) ⟨va_cnB 2 hts k_g2 rfl rfl rfl (hN _ k_5 rfl) (hts _ k_6) (by decide +kernel) ⟨Nat.le_of_ble_eq_true rfl, Nat.le_of_ble_eq_true rfl⟩, hts _ k_7, trivial⟩ ⟨fb_ro, fun U hU hW => ⟨rfl, by rw [hU], by rw [hU]; exact hP.sub (ws' := ([] : va_W)) [] rfl, va_K.moved hW.alike (hK.sub (tys' := []) [] rfl), NX.warm hW hN⟩⟩ rfl rfl hl.1 rfl (lv_room (Nat.le_of_ble_eq_true rfl)) d_W_isClass_13 ⟨Nat.zero_le _, Nat.zero_le _⟩) hS (fun z h1 h2 => absurd h1 (Nat.not_lt.mpr h2)) (fun z h => hA z (Nat.le_trans hS.1 h)) (fun r u t H1 locs ht hvm hpo hB hz1 hk1 hS => ?_)
    subst hpo
    have hP := kp_P hP hk1
    generalize H1 = H at hP hS ⊢
    refine lv_if_ne (tgt := 23) hx hb d_W_isClass_16 (by decide) (fun c_2 => ?_) (fun c_2 => ?_)
    · have c_2 : ¬ ((f_O_holds (w.2 2) p1) = (0 : Int32)) := c_2
      refine lv_iconst (v := (0 : Int32)) hx hb d_W_isClass_23 (by decide +kernel) ?_
      exact W.zret (v := (0 : Int32)) hx hb hr (by decide +kernel) (fun t ht hW => ⟨⟨(0 : Int32), (), rfl, by unfold f_W_isClass; rw [if_neg c_1, if_neg c_2], trivial⟩, hS.F ht⟩) hS.2.2 d_W_isClass_24
    · have c_2 : (f_O_holds (w.2 2) p1) = (0 : Int32) := c_2
      refine lv_iconst (v := (1 : Int32)) hx hb d_W_isClass_19 (by decide +kernel) ?_
      refine lv_goto (tgt := 24) hx hb d_W_isClass_20 (by decide) ?_
      exact W.zret (v := (1 : Int32)) hx hb hr (by decide +kernel) (fun t ht hW => ⟨⟨(1 : Int32), (), rfl, by unfold f_W_isClass; rw [if_neg c_1, if_pos c_2], trivial⟩, hS.F ht⟩) hS.2.2 d_W_isClass_24
set_option maxHeartbeats 4000000 in
set_option maxRecDepth 100000 in
theorem c_W_mayBeExtended (l : Launch) (dC : Nat → ClassId) (dI : Nat → Nat → Nat) (ka : Nat → ClassId) (qa : Nat → Nat) (sz : Nat) (w : WS) (p1 : Int32)  : Met l y_W_mayBeExtended w_W_mayBeExtended ({ frames := 2, cells := 0, slots := 0, locals := 42 } : Room) (ro_P dC dI (wW ka qa w) (tW ka) sz [.ref (qa 0), .int p1]) (ro_Q sz (f_W_mayBeExtended w p1)) 0 0 (fun z => sz ≤ z) := by
  refine Met.ofW (cc := b_W_mayBeExtended) (maxL := 2) (ret := (some .boolean)) (by decide) rfl ?_
  intro p e s m args below meth c s₁ B hml hv
  obtain ⟨rfl, hsz, hP, hK, hN⟩ := hv
  have hx := B.exec
  have hb := B.bytes
  have hr := B.returns
  have hts := tl_of (atoms_spec (ws := w_W_mayBeExtended) B.pre)
  have hown : s.vm.findClass R_W = some m.cls := findClass_of_methodNamed B.named
  have hlocks := B.notSynchronized
  subst hsz
  have hA : ∀ z : Nat, s.heap.size ≤ z → (fun z : Nat => s.heap.size ≤ z) z := fun _ h => h
  have hS : va_S (fun z : Nat => s.heap.size ≤ z) s.heap s.heap [] := va_S.rf
  have hl := lv_entry ([.ref (qa 0), .int p1]) (n := 2) (Nat.le_of_ble_eq_true rfl)
  rw [lg_entry_eq]
  generalize (lg_sl ([.ref (qa 0), .int p1]) ++ List.replicate (2 - (lg_sl ([.ref (qa 0), .int p1])).length) Slot.unset).toArray = ls at hl ⊢
  have hl : lv_has ls 2 [(0, .ref (qa 0)), (1, .int p1)] := hl
  refine lv_aload_n hx hb d_W_mayBeExtended_0 rfl (lv_at hl 0 rfl) ?_
  refine lv_iload_n hx hb d_W_mayBeExtended_1 rfl (lv_at hl 1 rfl) ?_
  refine va_calli (va_runV (As := [.int p1]) (rest := []) ⟨hx, hb, hml, hown, hts⟩ (c_W_isClass l dC dI ka qa s.heap.size w  p1) (cwV 1 hts k_g3 rfl rfl rfl (by decide +kernel) ⟨Nat.le_of_ble_eq_true rfl, Nat.le_of_ble_eq_true rfl⟩) ⟨fb_ro, va_recv hK hP (ci := 0) (q0 := 0) rfl rfl, fun U hU hW => ⟨rfl, by rw [hU], by rw [hU]; exact hP.sub (ws' := (wW ka qa w)) [0, 1, 2, 3, 4, 5, 6] rfl, va_K.moved hW.alike (hK.sub (tys' := (tW ka)) [0, 1, 2, 3, 4, 5] rfl), NX.warm hW hN⟩⟩ rfl rfl hl.1 rfl (lv_room (Nat.le_of_ble_eq_true rfl)) d_W_mayBeExtended_2 ⟨Nat.zero_le _, Nat.zero_le _⟩) hS (fun z h1 h2 => absurd h1 (Nat.not_lt.mpr h2)) (fun z h => hA z (Nat.le_trans hS.1 h)) (fun r u t H1 locs ht hvm hpo hB hz1 hk1 hS => ?_)
  subst hpo
  have hP := kp_P hP hk1
  generalize H1 = H at hP hS ⊢
  refine lv_if_eq (tgt := 23) hx hb d_W_mayBeExtended_5 (by decide) (fun c_1 => ?_) (fun c_1 => ?_)
  · have c_1 : (f_W_isClass w p1) = (0 : Int32) := c_1
    refine lv_iconst (v := (0 : Int32)) hx hb d_W_mayBeExtended_23 (by decide +kernel) ?_
    exact W.zret (v := (0 : Int32)) hx hb hr (by decide +kernel) (fun t ht hW => ⟨⟨(0 : Int32), (), rfl, by unfold f_W_mayBeExtended; rw [if_pos c_1], trivial⟩, hS.F ht⟩) hS.2.2 d_W_mayBeExtended_24
  · have c_1 : ¬ ((f_W_isClass w p1) = (0 : Int32)) := c_1
    refine lv_aload_n hx hb d_W_mayBeExtended_8 rfl (lv_at hl 0 rfl) ?_
    refine va_get (D := (dC, dI)) (ci := 0) (v := .int (w.2 1)) (C := R_W) (T := F_W) (N := 10) hx hb hts i_W hown hK hP 0 rfl rfl 7 (by decide) (hts _ k_8) (fun _ h9 => h9) rfl d_W_mayBeExtended_9 ?_
    refine lv_iload_n hx hb d_W_mayBeExtended_12 rfl (lv_at hl 1 rfl) ?_
    refine va_calli (va_runSN (As := [.int (w.2 1), .int p1]) (rest := []) ⟨hx, hb, hml, hown, hts⟩ (c_O_holds l dC dI  H.size   (w.2 1) p1) ⟨va_cnB 2 hts k_g2 rfl rfl rfl (hN _ k_5 rfl) (hts _ k_6) (by decide +kernel) ⟨Nat.le_of_ble_eq_true rfl, Nat.le_of_ble_eq_true rfl⟩, hts _ k_7, trivial⟩ ⟨fb_ro, fun U hU hW => ⟨rfl, by rw [hU], by rw [hU]; exact hP.sub (ws' := ([] : va_W)) [] rfl, va_K.moved hW.alike (hK.sub (tys' := []) [] rfl), NX.warm hW hN⟩⟩ rfl rfl hl.1 rfl (lv_room (Nat.le_of_ble_eq_true rfl)) d_W_mayBeExtended_13 ⟨Nat.zero_le _, Nat.zero_le _⟩) hS (fun z h1 h2 => absurd h1 (Nat.not_lt.mpr h2)) (fun z h => hA z (Nat.le_trans hS.1 h)) (fun r u t H1 locs ht hvm hpo hB hz1 hk1 hS => ?_)
    subst hpo
    have hP := kp_P hP hk1
    generalize H1 = H at hP hS ⊢
    refine lv_if_ne (tgt := 23) hx hb d_W_mayBeExtended_16 (by decide) (fun c_2 => ?_) (fun c_2 => ?_)
    · have c_2 : ¬ ((f_O_holds (w.2 1) p1) = (0 : Int32)) := c_2
      refine lv_iconst (v := (0 : Int32)) hx hb d_W_mayBeExtended_23 (by decide +kernel) ?_
      exact W.zret (v := (0 : Int32)) hx hb hr (by decide +kernel) (fun t ht hW => ⟨⟨(0 : Int32), (), rfl, by unfold f_W_mayBeExtended; rw [if_neg c_1, if_neg c_2], trivial⟩, hS.F ht⟩) hS.2.2 d_W_mayBeExtended_24
    · have c_2 : (f_O_holds (w.2 1) p1) = (0 : Int32) := c_2
      refine lv_iconst (v := (1 : Int32)) hx hb d_W_mayBeExtended_19 (by decide +kernel) ?_
      refine lv_goto (tgt := 24) hx hb d_W_mayBeExtended_20 (by decide) ?_
      exact W.zret (v := (1 : Int32)) hx hb hr (by decide +kernel) (fun t ht hW => ⟨⟨(1 : Int32), (), rfl, by unfold f_W_mayBeExtended; rw [if_neg c_1, if_pos c_2], trivial⟩, hS.F ht⟩) hS.2.2 d_W_mayBeExtended_24
set_option maxHeartbeats 4000000 in
set_option maxRecDepth 100000 in
theorem c_W_directCount (l : Launch) (dC : Nat → ClassId) (dI : Nat → Nat → Nat) (ka : Nat → ClassId) (qa : Nat → Nat) (sz : Nat) (w : WS) (p1 : Int32) (hp1 : vp_in p1 13) : Met l y_W_directCount w_W_directCount ({ frames := 0, cells := 0, slots := 0, locals := 0 } : Room) (ro_P dC dI (wW ka qa w) (tW ka) sz [.ref (qa 0), .int p1]) (ro_Q sz (f_W_directCount w p1)) 0 0 (fun z => sz ≤ z) := by
  refine Met.ofW (cc := b_W_directCount) (maxL := 2) (ret := (some .int)) (by decide) rfl ?_
  intro p e s m args below meth c s₁ B hml hv
  obtain ⟨rfl, hsz, hP, hK, hN⟩ := hv
  have hx := B.exec
  have hb := B.bytes
  have hr := B.returns
  have hts := tl_of (atoms_spec (ws := w_W_directCount) B.pre)
  have hown : s.vm.findClass R_W = some m.cls := findClass_of_methodNamed B.named
  have hlocks := B.notSynchronized
  subst hsz
  have hA : ∀ z : Nat, s.heap.size ≤ z → (fun z : Nat => s.heap.size ≤ z) z := fun _ h => h
  have hS : va_S (fun z : Nat => s.heap.size ≤ z) s.heap s.heap [] := va_S.rf
  have hl := lv_entry ([.ref (qa 0), .int p1]) (n := 2) (Nat.le_of_ble_eq_true rfl)
  rw [lg_entry_eq]
  generalize (lg_sl ([.ref (qa 0), .int p1]) ++ List.replicate (2 - (lg_sl ([.ref (qa 0), .int p1])).length) Slot.unset).toArray = ls at hl ⊢
  have hl : lv_has ls 2 [(0, .ref (qa 0)), (1, .int p1)] := hl
  refine lv_aload_n hx hb d_W_directCount_0 rfl (lv_at hl 0 rfl) ?_
  refine va_get (D := (dC, dI)) (ci := 0) (v := .ref (qa 4)) (C := R_W) (T := F_W) (N := 10) hx hb hts i_W hown hK hP 0 rfl rfl 3 (by decide) (hts _ k_9) (fun _ h9 => h9) rfl d_W_directCount_1 ?_
  refine lv_iload_n hx hb d_W_directCount_4 rfl (lv_at hl 1 rfl) ?_
  have hi_1 : vp_in p1 13 := by first | with_reducible assumption | exact in_has hw (by with_reducible assumption) | exact in_cls hw (by with_reducible assumption) | exact in_ifc hw (by with_reducible assumption) | exact in_ext hw (by with_reducible assumption) | exact in_eq0 (by with_reducible assumption) | exact hfd (by with_reducible assumption) | exact in_rcv hw (by with_reducible assumption) (Or.inl (by with_reducible assumption)) | exact in_rcv hw (by with_reducible assumption) (Or.inr (by with_reducible assumption))
  refine va_iald (D := (dC, dI)) (f := (w.1 3)) hx hb hK hP 4 3 rfl rfl hi_1 d_W_directCount_5 ?_
  exact W.iret (v := ((w.1 3) p1.toNatClampNeg)) hx hb hr (fun t ht hW => ⟨⟨((w.1 3) p1.toNatClampNeg), (), rfl, rfl, trivial⟩, hS.F ht⟩) hS.2.2 d_W_directCount_6
set_option maxHeartbeats 4000000 in
set_option maxRecDepth 100000 in
theorem c_W_directAt (l : Launch) (dC : Nat → ClassId) (dI : Nat → Nat → Nat) (ka : Nat → ClassId) (qa : Nat → Nat) (sz : Nat) (w : WS) (p1 p2 : Int32) (hp : vp_in ((p1 * (4 : Int32)) + p2) 52) : Met l y_W_directAt w_W_directAt ({ frames := 0, cells := 0, slots := 0, locals := 0 } : Room) (ro_P dC dI (wW ka qa w) (tW ka) sz [.ref (qa 0), .int p1, .int p2]) (ro_Q sz (f_W_directAt w p1 p2)) 0 0 (fun z => sz ≤ z) := by
  refine Met.ofW (cc := b_W_directAt) (maxL := 3) (ret := (some .int)) (by decide) rfl ?_
  intro p e s m args below meth c s₁ B hml hv
  obtain ⟨rfl, hsz, hP, hK, hN⟩ := hv
  have hx := B.exec
  have hb := B.bytes
  have hr := B.returns
  have hts := tl_of (atoms_spec (ws := w_W_directAt) B.pre)
  have hown : s.vm.findClass R_W = some m.cls := findClass_of_methodNamed B.named
  have hlocks := B.notSynchronized
  subst hsz
  have hA : ∀ z : Nat, s.heap.size ≤ z → (fun z : Nat => s.heap.size ≤ z) z := fun _ h => h
  have hS : va_S (fun z : Nat => s.heap.size ≤ z) s.heap s.heap [] := va_S.rf
  have hl := lv_entry ([.ref (qa 0), .int p1, .int p2]) (n := 3) (Nat.le_of_ble_eq_true rfl)
  rw [lg_entry_eq]
  generalize (lg_sl ([.ref (qa 0), .int p1, .int p2]) ++ List.replicate (3 - (lg_sl ([.ref (qa 0), .int p1, .int p2])).length) Slot.unset).toArray = ls at hl ⊢
  have hl : lv_has ls 3 [(0, .ref (qa 0)), (1, .int p1), (2, .int p2)] := hl
  refine lv_aload_n hx hb d_W_directAt_0 rfl (lv_at hl 0 rfl) ?_
  refine va_get (D := (dC, dI)) (ci := 0) (v := .ref (qa 5)) (C := R_W) (T := F_W) (N := 10) hx hb hts i_W hown hK hP 0 rfl rfl 4 (by decide) (hts _ k_10) (fun _ h9 => h9) rfl d_W_directAt_1 ?_
  refine lv_iload_n hx hb d_W_directAt_4 rfl (lv_at hl 1 rfl) ?_
  refine lv_iconst (v := (4 : Int32)) hx hb d_W_directAt_5 (by decide +kernel) ?_
  refine lv_imul hx hb d_W_directAt_6 ?_
  refine lv_iload_n hx hb d_W_directAt_7 rfl (lv_at hl 2 rfl) ?_
  refine lv_iadd hx hb d_W_directAt_8 ?_
  have hi_1 : vp_in ((p1 * (4 : Int32)) + p2) 52 := by first | with_reducible assumption | exact in_52 (by first | with_reducible assumption | exact in_has hw (by with_reducible assumption) | exact in_cls hw (by with_reducible assumption) | exact in_ifc hw (by with_reducible assumption) | exact in_ext hw (by with_reducible assumption) | exact in_eq0 (by with_reducible assumption) | exact hfd (by with_reducible assumption) | exact in_rcv hw (by with_reducible assumption) (Or.inl (by with_reducible assumption)) | exact in_rcv hw (by with_reducible assumption) (Or.inr (by with_reducible assumption))) (by first | with_reducible assumption | exact in_name (by with_reducible assumption) | exact in4_4 (by with_reducible assumption) | exact in4_5 (by with_reducible assumption) | exact in4_6 (by with_reducible assumption) | exact in4_7 (by with_reducible assumption))
  refine va_iald (D := (dC, dI)) (f := (w.1 4)) hx hb hK hP 5 4 rfl rfl hi_1 d_W_directAt_9 ?_
  exact W.iret (v := ((w.1 4) ((p1 * (4 : Int32)) + p2).toNatClampNeg)) hx hb hr (fun t ht hW => ⟨⟨((w.1 4) ((p1 * (4 : Int32)) + p2).toNatClampNeg), (), rfl, rfl, trivial⟩, hS.F ht⟩) hS.2.2 d_W_directAt_10
set_option maxHeartbeats 4000000 in
set_option maxRecDepth 100000 in
theorem c_W_superclassOf (l : Launch) (dC : Nat → ClassId) (dI : Nat → Nat → Nat) (ka : Nat → ClassId) (qa : Nat → Nat) (sz : Nat) (w : WS) (p1 : Int32) (hp1 : vp_in p1 13) : Met l y_W_superclassOf w_W_superclassOf ({ frames := 0, cells := 0, slots := 0, locals := 0 } : Room) (ro_P dC dI (wW ka qa w) (tW ka) sz [.ref (qa 0), .int p1]) (ro_Q sz (f_W_superclassOf w p1)) 0 0 (fun z => sz ≤ z) := by
  refine Met.ofW (cc := b_W_superclassOf) (maxL := 2) (ret := (some .int)) (by decide) rfl ?_
  intro p e s m args below meth c s₁ B hml hv
  obtain ⟨rfl, hsz, hP, hK, hN⟩ := hv
  have hx := B.exec
  have hb := B.bytes
  have hr := B.returns
  have hts := tl_of (atoms_spec (ws := w_W_superclassOf) B.pre)
  have hown : s.vm.findClass R_W = some m.cls := findClass_of_methodNamed B.named
  have hlocks := B.notSynchronized
  subst hsz
  have hA : ∀ z : Nat, s.heap.size ≤ z → (fun z : Nat => s.heap.size ≤ z) z := fun _ h => h
  have hS : va_S (fun z : Nat => s.heap.size ≤ z) s.heap s.heap [] := va_S.rf
  have hl := lv_entry ([.ref (qa 0), .int p1]) (n := 2) (Nat.le_of_ble_eq_true rfl)
  rw [lg_entry_eq]
  generalize (lg_sl ([.ref (qa 0), .int p1]) ++ List.replicate (2 - (lg_sl ([.ref (qa 0), .int p1])).length) Slot.unset).toArray = ls at hl ⊢
  have hl : lv_has ls 2 [(0, .ref (qa 0)), (1, .int p1)] := hl
  refine lv_aload_n hx hb d_W_superclassOf_0 rfl (lv_at hl 0 rfl) ?_
  refine va_get (D := (dC, dI)) (ci := 0) (v := .ref (qa 1)) (C := R_W) (T := F_W) (N := 10) hx hb hts i_W hown hK hP 0 rfl rfl 0 (by decide) (hts _ k_11) (fun _ h9 => h9) rfl d_W_superclassOf_1 ?_
  refine lv_iload_n hx hb d_W_superclassOf_4 rfl (lv_at hl 1 rfl) ?_
  have hi_1 : vp_in p1 13 := by first | with_reducible assumption | exact in_has hw (by with_reducible assumption) | exact in_cls hw (by with_reducible assumption) | exact in_ifc hw (by with_reducible assumption) | exact in_ext hw (by with_reducible assumption) | exact in_eq0 (by with_reducible assumption) | exact hfd (by with_reducible assumption) | exact in_rcv hw (by with_reducible assumption) (Or.inl (by with_reducible assumption)) | exact in_rcv hw (by with_reducible assumption) (Or.inr (by with_reducible assumption))
  refine va_iald (D := (dC, dI)) (f := (w.1 0)) hx hb hK hP 1 0 rfl rfl hi_1 d_W_superclassOf_5 ?_
  exact W.iret (v := ((w.1 0) p1.toNatClampNeg)) hx hb hr (fun t ht hW => ⟨⟨((w.1 0) p1.toNatClampNeg), (), rfl, rfl, trivial⟩, hS.F ht⟩) hS.2.2 d_W_superclassOf_6
set_option maxHeartbeats 4000000 in
set_option maxRecDepth 100000 in
theorem c_W_packageOf (l : Launch) (dC : Nat → ClassId) (dI : Nat → Nat → Nat) (ka : Nat → ClassId) (qa : Nat → Nat) (sz : Nat) (w : WS) (p1 : Int32) (hp1 : vp_in p1 13) : Met l y_W_packageOf w_W_packageOf ({ frames := 0, cells := 0, slots := 0, locals := 0 } : Room) (ro_P dC dI (wW ka qa w) (tW ka) sz [.ref (qa 0), .int p1]) (ro_Q sz (f_W_packageOf w p1)) 0 0 (fun z => sz ≤ z) := by
  refine Met.ofW (cc := b_W_packageOf) (maxL := 2) (ret := (some .int)) (by decide) rfl ?_
  intro p e s m args below meth c s₁ B hml hv
  obtain ⟨rfl, hsz, hP, hK, hN⟩ := hv
  have hx := B.exec
  have hb := B.bytes
  have hr := B.returns
  have hts := tl_of (atoms_spec (ws := w_W_packageOf) B.pre)
  have hown : s.vm.findClass R_W = some m.cls := findClass_of_methodNamed B.named
  have hlocks := B.notSynchronized
  subst hsz
  have hA : ∀ z : Nat, s.heap.size ≤ z → (fun z : Nat => s.heap.size ≤ z) z := fun _ h => h
  have hS : va_S (fun z : Nat => s.heap.size ≤ z) s.heap s.heap [] := va_S.rf
  have hl := lv_entry ([.ref (qa 0), .int p1]) (n := 2) (Nat.le_of_ble_eq_true rfl)
  rw [lg_entry_eq]
  generalize (lg_sl ([.ref (qa 0), .int p1]) ++ List.replicate (2 - (lg_sl ([.ref (qa 0), .int p1])).length) Slot.unset).toArray = ls at hl ⊢
  have hl : lv_has ls 2 [(0, .ref (qa 0)), (1, .int p1)] := hl
  refine lv_aload_n hx hb d_W_packageOf_0 rfl (lv_at hl 0 rfl) ?_
  refine va_get (D := (dC, dI)) (ci := 0) (v := .ref (qa 2)) (C := R_W) (T := F_W) (N := 10) hx hb hts i_W hown hK hP 0 rfl rfl 1 (by decide) (hts _ k_12) (fun _ h9 => h9) rfl d_W_packageOf_1 ?_
  refine lv_iload_n hx hb d_W_packageOf_4 rfl (lv_at hl 1 rfl) ?_
  have hi_1 : vp_in p1 13 := by first | with_reducible assumption | exact in_has hw (by with_reducible assumption) | exact in_cls hw (by with_reducible assumption) | exact in_ifc hw (by with_reducible assumption) | exact in_ext hw (by with_reducible assumption) | exact in_eq0 (by with_reducible assumption) | exact hfd (by with_reducible assumption) | exact in_rcv hw (by with_reducible assumption) (Or.inl (by with_reducible assumption)) | exact in_rcv hw (by with_reducible assumption) (Or.inr (by with_reducible assumption))
  refine va_iald (D := (dC, dI)) (f := (w.1 1)) hx hb hK hP 2 1 rfl rfl hi_1 d_W_packageOf_5 ?_
  exact W.iret (v := ((w.1 1) p1.toNatClampNeg)) hx hb hr (fun t ht hW => ⟨⟨((w.1 1) p1.toNatClampNeg), (), rfl, rfl, trivial⟩, hS.F ht⟩) hS.2.2 d_W_packageOf_6
set_option maxHeartbeats 4000000 in
set_option maxRecDepth 100000 in
theorem c_W_hostOf (l : Launch) (dC : Nat → ClassId) (dI : Nat → Nat → Nat) (ka : Nat → ClassId) (qa : Nat → Nat) (sz : Nat) (w : WS) (p1 : Int32) (hp1 : vp_in p1 13) : Met l y_W_hostOf w_W_hostOf ({ frames := 0, cells := 0, slots := 0, locals := 0 } : Room) (ro_P dC dI (wW ka qa w) (tW ka) sz [.ref (qa 0), .int p1]) (ro_Q sz (f_W_hostOf w p1)) 0 0 (fun z => sz ≤ z) := by
  refine Met.ofW (cc := b_W_hostOf) (maxL := 2) (ret := (some .int)) (by decide) rfl ?_
  intro p e s m args below meth c s₁ B hml hv
  obtain ⟨rfl, hsz, hP, hK, hN⟩ := hv
  have hx := B.exec
  have hb := B.bytes
  have hr := B.returns
  have hts := tl_of (atoms_spec (ws := w_W_hostOf) B.pre)
  have hown : s.vm.findClass R_W = some m.cls := findClass_of_methodNamed B.named
  have hlocks := B.notSynchronized
  subst hsz
  have hA : ∀ z : Nat, s.heap.size ≤ z → (fun z : Nat => s.heap.size ≤ z) z := fun _ h => h
  have hS : va_S (fun z : Nat => s.heap.size ≤ z) s.heap s.heap [] := va_S.rf
  have hl := lv_entry ([.ref (qa 0), .int p1]) (n := 2) (Nat.le_of_ble_eq_true rfl)
  rw [lg_entry_eq]
  generalize (lg_sl ([.ref (qa 0), .int p1]) ++ List.replicate (2 - (lg_sl ([.ref (qa 0), .int p1])).length) Slot.unset).toArray = ls at hl ⊢
  have hl : lv_has ls 2 [(0, .ref (qa 0)), (1, .int p1)] := hl
  refine lv_aload_n hx hb d_W_hostOf_0 rfl (lv_at hl 0 rfl) ?_
  refine va_get (D := (dC, dI)) (ci := 0) (v := .ref (qa 3)) (C := R_W) (T := F_W) (N := 10) hx hb hts i_W hown hK hP 0 rfl rfl 2 (by decide) (hts _ k_13) (fun _ h9 => h9) rfl d_W_hostOf_1 ?_
  refine lv_iload_n hx hb d_W_hostOf_4 rfl (lv_at hl 1 rfl) ?_
  have hi_1 : vp_in p1 13 := by first | with_reducible assumption | exact in_has hw (by with_reducible assumption) | exact in_cls hw (by with_reducible assumption) | exact in_ifc hw (by with_reducible assumption) | exact in_ext hw (by with_reducible assumption) | exact in_eq0 (by with_reducible assumption) | exact hfd (by with_reducible assumption) | exact in_rcv hw (by with_reducible assumption) (Or.inl (by with_reducible assumption)) | exact in_rcv hw (by with_reducible assumption) (Or.inr (by with_reducible assumption))
  refine va_iald (D := (dC, dI)) (f := (w.1 2)) hx hb hK hP 3 2 rfl rfl hi_1 d_W_hostOf_5 ?_
  exact W.iret (v := ((w.1 2) p1.toNatClampNeg)) hx hb hr (fun t ht hW => ⟨⟨((w.1 2) p1.toNatClampNeg), (), rfl, rfl, trivial⟩, hS.F ht⟩) hS.2.2 d_W_hostOf_6
set_option maxHeartbeats 4000000 in
set_option maxRecDepth 100000 in
theorem c_W_interfaces (l : Launch) (dC : Nat → ClassId) (dI : Nat → Nat → Nat) (ka : Nat → ClassId) (qa : Nat → Nat) (sz : Nat) (w : WS)  : Met l y_W_interfaces w_W_interfaces ({ frames := 0, cells := 0, slots := 0, locals := 0 } : Room) (ro_P dC dI (wW ka qa w) (tW ka) sz [.ref (qa 0)]) (ro_Q sz (f_W_interfaces w)) 0 0 (fun z => sz ≤ z) := by
  refine Met.ofW (cc := b_W_interfaces) (maxL := 1) (ret := (some .int)) (by decide) rfl ?_
  intro p e s m args below meth c s₁ B hml hv
  obtain ⟨rfl, hsz, hP, hK, hN⟩ := hv
  have hx := B.exec
  have hb := B.bytes
  have hr := B.returns
  have hts := tl_of (atoms_spec (ws := w_W_interfaces) B.pre)
  have hown : s.vm.findClass R_W = some m.cls := findClass_of_methodNamed B.named
  have hlocks := B.notSynchronized
  subst hsz
  have hA : ∀ z : Nat, s.heap.size ≤ z → (fun z : Nat => s.heap.size ≤ z) z := fun _ h => h
  have hS : va_S (fun z : Nat => s.heap.size ≤ z) s.heap s.heap [] := va_S.rf
  have hl := lv_entry ([.ref (qa 0)]) (n := 1) (Nat.le_of_ble_eq_true rfl)
  rw [lg_entry_eq]
  generalize (lg_sl ([.ref (qa 0)]) ++ List.replicate (1 - (lg_sl ([.ref (qa 0)])).length) Slot.unset).toArray = ls at hl ⊢
  have hl : lv_has ls 1 [(0, .ref (qa 0))] := hl
  refine lv_aload_n hx hb d_W_interfaces_0 rfl (lv_at hl 0 rfl) ?_
  refine va_get (D := (dC, dI)) (ci := 0) (v := .int (w.2 2)) (C := R_W) (T := F_W) (N := 10) hx hb hts i_W hown hK hP 0 rfl rfl 8 (by decide) (hts _ k_4) (fun _ h9 => h9) rfl d_W_interfaces_1 ?_
  exact W.iret (v := (w.2 2)) hx hb hr (fun t ht hW => ⟨⟨(w.2 2), (), rfl, rfl, trivial⟩, hS.F ht⟩) hS.2.2 d_W_interfaces_4
set_option maxHeartbeats 4000000 in
set_option maxRecDepth 100000 in
theorem c_W_isKindOf (l : Launch) (dC : Nat → ClassId) (dI : Nat → Nat → Nat) (ka : Nat → ClassId) (qa : Nat → Nat) (sz : Nat) (w : WS) (p1 p2 : Int32) (hp1 : vp_in p1 13) : Met l y_W_isKindOf w_W_isKindOf ({ frames := 1, cells := 0, slots := 0, locals := 21 } : Room) (ro_P dC dI (wW ka qa w) (tW ka) sz [.ref (qa 0), .int p1, .int p2]) (ro_Q sz (f_W_isKindOf w p1 p2)) 0 0 (fun z => sz ≤ z) := by
  refine Met.ofW (cc := b_W_isKindOf) (maxL := 3) (ret := (some .boolean)) (by decide) rfl ?_
  intro p e s m args below meth c s₁ B hml hv
  obtain ⟨rfl, hsz, hP, hK, hN⟩ := hv
  have hx := B.exec
  have hb := B.bytes
  have hr := B.returns
  have hts := tl_of (atoms_spec (ws := w_W_isKindOf) B.pre)
  have hown : s.vm.findClass R_W = some m.cls := findClass_of_methodNamed B.named
  have hlocks := B.notSynchronized
  subst hsz
  have hA : ∀ z : Nat, s.heap.size ≤ z → (fun z : Nat => s.heap.size ≤ z) z := fun _ h => h
  have hS : va_S (fun z : Nat => s.heap.size ≤ z) s.heap s.heap [] := va_S.rf
  have hl := lv_entry ([.ref (qa 0), .int p1, .int p2]) (n := 3) (Nat.le_of_ble_eq_true rfl)
  rw [lg_entry_eq]
  generalize (lg_sl ([.ref (qa 0), .int p1, .int p2]) ++ List.replicate (3 - (lg_sl ([.ref (qa 0), .int p1, .int p2])).length) Slot.unset).toArray = ls at hl ⊢
  have hl : lv_has ls 3 [(0, .ref (qa 0)), (1, .int p1), (2, .int p2)] := hl
  refine lv_aload_n hx hb d_W_isKindOf_0 rfl (lv_at hl 0 rfl) ?_
  refine va_get (D := (dC, dI)) (ci := 0) (v := .ref (qa 6)) (C := R_W) (T := F_W) (N := 10) hx hb hts i_W hown hK hP 0 rfl rfl 5 (by decide) (hts _ k_14) (fun _ h9 => h9) rfl d_W_isKindOf_1 ?_
  refine lv_iload_n hx hb d_W_isKindOf_4 rfl (lv_at hl 1 rfl) ?_
  have hi_1 : vp_in p1 13 := by first | with_reducible assumption | exact in_has hw (by with_reducible assumption) | exact in_cls hw (by with_reducible assumption) | exact in_ifc hw (by with_reducible assumption) | exact in_ext hw (by with_reducible assumption) | exact in_eq0 (by with_reducible assumption) | exact hfd (by with_reducible assumption) | exact in_rcv hw (by with_reducible assumption) (Or.inl (by with_reducible assumption)) | exact in_rcv hw (by with_reducible assumption) (Or.inr (by with_reducible assumption))
  refine va_iald (D := (dC, dI)) (f := (w.1 5)) hx hb hK hP 6 5 rfl rfl hi_1 d_W_isKindOf_5 ?_
  refine lv_iload_n hx hb d_W_isKindOf_6 rfl (lv_at hl 2 rfl) ?_
  refine va_calli (va_runSN (As := [.int ((w.1 5) p1.toNatClampNeg), .int p2]) (rest := []) ⟨hx, hb, hml, hown, hts⟩ (c_O_holds l dC dI  s.heap.size   ((w.1 5) p1.toNatClampNeg) p2) ⟨va_cnB 2 hts k_g2 rfl rfl rfl (hN _ k_5 rfl) (hts _ k_6) (by decide +kernel) ⟨Nat.le_of_ble_eq_true rfl, Nat.le_of_ble_eq_true rfl⟩, hts _ k_7, trivial⟩ ⟨fb_ro, fun U hU hW => ⟨rfl, by rw [hU], by rw [hU]; exact hP.sub (ws' := ([] : va_W)) [] rfl, va_K.moved hW.alike (hK.sub (tys' := []) [] rfl), NX.warm hW hN⟩⟩ rfl rfl hl.1 rfl (lv_room (Nat.le_of_ble_eq_true rfl)) d_W_isKindOf_7 ⟨Nat.zero_le _, Nat.zero_le _⟩) hS (fun z h1 h2 => absurd h1 (Nat.not_lt.mpr h2)) (fun z h => hA z (Nat.le_trans hS.1 h)) (fun r u t H1 locs ht hvm hpo hB hz1 hk1 hS => ?_)
  subst hpo
  have hP := kp_P hP hk1
  generalize H1 = H at hP hS ⊢
  exact W.zret (v := (f_O_holds ((w.1 5) p1.toNatClampNeg) p2)) hx hb hr (z_O_holds) (fun t ht hW => ⟨⟨(f_O_holds ((w.1 5) p1.toNatClampNeg) p2), (), rfl, rfl, trivial⟩, hS.F ht⟩) hS.2.2 d_W_isKindOf_10
set_option maxHeartbeats 4000000 in
set_option maxRecDepth 100000 in
theorem c_W_supertypes (l : Launch) (dC : Nat → ClassId) (dI : Nat → Nat → Nat) (ka : Nat → ClassId) (qa : Nat → Nat) (sz : Nat) (w : WS) (p1 : Int32) (hp1 : vp_in p1 13) : Met l y_W_supertypes w_W_supertypes ({ frames := 0, cells := 0, slots := 0, locals := 0 } : Room) (ro_P dC dI (wW ka qa w) (tW ka) sz [.ref (qa 0), .int p1]) (ro_Q sz (f_W_supertypes w p1)) 0 0 (fun z => sz ≤ z) := by
  refine Met.ofW (cc := b_W_supertypes) (maxL := 2) (ret := (some .int)) (by decide) rfl ?_
  intro p e s m args below meth c s₁ B hml hv
  obtain ⟨rfl, hsz, hP, hK, hN⟩ := hv
  have hx := B.exec
  have hb := B.bytes
  have hr := B.returns
  have hts := tl_of (atoms_spec (ws := w_W_supertypes) B.pre)
  have hown : s.vm.findClass R_W = some m.cls := findClass_of_methodNamed B.named
  have hlocks := B.notSynchronized
  subst hsz
  have hA : ∀ z : Nat, s.heap.size ≤ z → (fun z : Nat => s.heap.size ≤ z) z := fun _ h => h
  have hS : va_S (fun z : Nat => s.heap.size ≤ z) s.heap s.heap [] := va_S.rf
  have hl := lv_entry ([.ref (qa 0), .int p1]) (n := 2) (Nat.le_of_ble_eq_true rfl)
  rw [lg_entry_eq]
  generalize (lg_sl ([.ref (qa 0), .int p1]) ++ List.replicate (2 - (lg_sl ([.ref (qa 0), .int p1])).length) Slot.unset).toArray = ls at hl ⊢
  have hl : lv_has ls 2 [(0, .ref (qa 0)), (1, .int p1)] := hl
  refine lv_aload_n hx hb d_W_supertypes_0 rfl (lv_at hl 0 rfl) ?_
  refine va_get (D := (dC, dI)) (ci := 0) (v := .ref (qa 6)) (C := R_W) (T := F_W) (N := 10) hx hb hts i_W hown hK hP 0 rfl rfl 5 (by decide) (hts _ k_14) (fun _ h9 => h9) rfl d_W_supertypes_1 ?_
  refine lv_iload_n hx hb d_W_supertypes_4 rfl (lv_at hl 1 rfl) ?_
  have hi_1 : vp_in p1 13 := by first | with_reducible assumption | exact in_has hw (by with_reducible assumption) | exact in_cls hw (by with_reducible assumption) | exact in_ifc hw (by with_reducible assumption) | exact in_ext hw (by with_reducible assumption) | exact in_eq0 (by with_reducible assumption) | exact hfd (by with_reducible assumption) | exact in_rcv hw (by with_reducible assumption) (Or.inl (by with_reducible assumption)) | exact in_rcv hw (by with_reducible assumption) (Or.inr (by with_reducible assumption))
  refine va_iald (D := (dC, dI)) (f := (w.1 5)) hx hb hK hP 6 5 rfl rfl hi_1 d_W_supertypes_5 ?_
  refine lv_iconst (v := (1 : Int32)) hx hb d_W_supertypes_6 (by decide +kernel) ?_
  refine lv_iload_n hx hb d_W_supertypes_7 rfl (lv_at hl 1 rfl) ?_
  refine lv_ishl hx hb d_W_supertypes_8 ?_
  refine lv_iconst (v := (-1 : Int32)) hx hb d_W_supertypes_9 (by decide +kernel) ?_
  refine lv_ixor hx hb d_W_supertypes_10 ?_
  refine lv_iand hx hb d_W_supertypes_11 ?_
  exact W.iret (v := (((w.1 5) p1.toNatClampNeg) &&& (((1 : Int32) <<< (p1 &&& (31 : Int32))) ^^^ (-1 : Int32)))) hx hb hr (fun t ht hW => ⟨⟨(((w.1 5) p1.toNatClampNeg) &&& (((1 : Int32) <<< (p1 &&& (31 : Int32))) ^^^ (-1 : Int32))), (), rfl, rfl, trivial⟩, hS.F ht⟩) hS.2.2 d_W_supertypes_12
set_option maxHeartbeats 4000000 in
set_option maxRecDepth 100000 in
theorem c_W_chain (l : Launch) (dC : Nat → ClassId) (dI : Nat → Nat → Nat) (ka : Nat → ClassId) (qa : Nat → Nat) (sz : Nat) (w : WS) (p1 : Int32) (hp1 : vp_in p1 13) : Met l y_W_chain w_W_chain ({ frames := 0, cells := 0, slots := 0, locals := 0 } : Room) (ro_P dC dI (wW ka qa w) (tW ka) sz [.ref (qa 0), .int p1]) (ro_Q sz (f_W_chain w p1)) 0 0 (fun z => sz ≤ z) := by
  refine Met.ofW (cc := b_W_chain) (maxL := 2) (ret := (some .int)) (by decide) rfl ?_
  intro p e s m args below meth c s₁ B hml hv
  obtain ⟨rfl, hsz, hP, hK, hN⟩ := hv
  have hx := B.exec
  have hb := B.bytes
  have hr := B.returns
  have hts := tl_of (atoms_spec (ws := w_W_chain) B.pre)
  have hown : s.vm.findClass R_W = some m.cls := findClass_of_methodNamed B.named
  have hlocks := B.notSynchronized
  subst hsz
  have hA : ∀ z : Nat, s.heap.size ≤ z → (fun z : Nat => s.heap.size ≤ z) z := fun _ h => h
  have hS : va_S (fun z : Nat => s.heap.size ≤ z) s.heap s.heap [] := va_S.rf
  have hl := lv_entry ([.ref (qa 0), .int p1]) (n := 2) (Nat.le_of_ble_eq_true rfl)
  rw [lg_entry_eq]
  generalize (lg_sl ([.ref (qa 0), .int p1]) ++ List.replicate (2 - (lg_sl ([.ref (qa 0), .int p1])).length) Slot.unset).toArray = ls at hl ⊢
  have hl : lv_has ls 2 [(0, .ref (qa 0)), (1, .int p1)] := hl
  refine lv_aload_n hx hb d_W_chain_0 rfl (lv_at hl 0 rfl) ?_
  refine va_get (D := (dC, dI)) (ci := 0) (v := .ref (qa 6)) (C := R_W) (T := F_W) (N := 10) hx hb hts i_W hown hK hP 0 rfl rfl 5 (by decide) (hts _ k_14) (fun _ h9 => h9) rfl d_W_chain_1 ?_
  refine lv_iload_n hx hb d_W_chain_4 rfl (lv_at hl 1 rfl) ?_
  have hi_1 : vp_in p1 13 := by first | with_reducible assumption | exact in_has hw (by with_reducible assumption) | exact in_cls hw (by with_reducible assumption) | exact in_ifc hw (by with_reducible assumption) | exact in_ext hw (by with_reducible assumption) | exact in_eq0 (by with_reducible assumption) | exact hfd (by with_reducible assumption) | exact in_rcv hw (by with_reducible assumption) (Or.inl (by with_reducible assumption)) | exact in_rcv hw (by with_reducible assumption) (Or.inr (by with_reducible assumption))
  refine va_iald (D := (dC, dI)) (f := (w.1 5)) hx hb hK hP 6 5 rfl rfl hi_1 d_W_chain_5 ?_
  refine lv_aload_n hx hb d_W_chain_6 rfl (lv_at hl 0 rfl) ?_
  refine va_get (D := (dC, dI)) (ci := 0) (v := .int (w.2 2)) (C := R_W) (T := F_W) (N := 10) hx hb hts i_W hown hK hP 0 rfl rfl 8 (by decide) (hts _ k_4) (fun _ h9 => h9) rfl d_W_chain_7 ?_
  refine lv_iconst (v := (-1 : Int32)) hx hb d_W_chain_10 (by decide +kernel) ?_
  refine lv_ixor hx hb d_W_chain_11 ?_
  refine lv_iand hx hb d_W_chain_12 ?_
  refine lv_iconst (v := (1 : Int32)) hx hb d_W_chain_13 (by decide +kernel) ?_
  refine lv_iload_n hx hb d_W_chain_14 rfl (lv_at hl 1 rfl) ?_
  refine lv_ishl hx hb d_W_chain_15 ?_
  refine lv_ior hx hb d_W_chain_16 ?_
  exact W.iret (v := ((((w.1 5) p1.toNatClampNeg) &&& ((w.2 2) ^^^ (-1 : Int32))) ||| ((1 : Int32) <<< (p1 &&& (31 : Int32))))) hx hb hr (fun t ht hW => ⟨⟨((((w.1 5) p1.toNatClampNeg) &&& ((w.2 2) ^^^ (-1 : Int32))) ||| ((1 : Int32) <<< (p1 &&& (31 : Int32)))), (), rfl, rfl, trivial⟩, hS.F ht⟩) hS.2.2 d_W_chain_17
set_option maxHeartbeats 4000000 in
set_option maxRecDepth 100000 in
theorem c_W_sameHost (l : Launch) (dC : Nat → ClassId) (dI : Nat → Nat → Nat) (ka : Nat → ClassId) (qa : Nat → Nat) (sz : Nat) (w : WS) (p1 p2 : Int32) (hp1 : vp_in p1 13) (hp2 : vp_in p2 13) : Met l y_W_sameHost w_W_sameHost ({ frames := 0, cells := 0, slots := 0, locals := 0 } : Room) (ro_P dC dI (wW ka qa w) (tW ka) sz [.ref (qa 0), .int p1, .int p2]) (ro_Q sz (f_W_sameHost w p1 p2)) 0 0 (fun z => sz ≤ z) := by
  refine Met.ofW (cc := b_W_sameHost) (maxL := 3) (ret := (some .boolean)) (by decide) rfl ?_
  intro p e s m args below meth c s₁ B hml hv
  obtain ⟨rfl, hsz, hP, hK, hN⟩ := hv
  have hx := B.exec
  have hb := B.bytes
  have hr := B.returns
  have hts := tl_of (atoms_spec (ws := w_W_sameHost) B.pre)
  have hown : s.vm.findClass R_W = some m.cls := findClass_of_methodNamed B.named
  have hlocks := B.notSynchronized
  subst hsz
  have hA : ∀ z : Nat, s.heap.size ≤ z → (fun z : Nat => s.heap.size ≤ z) z := fun _ h => h
  have hS : va_S (fun z : Nat => s.heap.size ≤ z) s.heap s.heap [] := va_S.rf
  have hl := lv_entry ([.ref (qa 0), .int p1, .int p2]) (n := 3) (Nat.le_of_ble_eq_true rfl)
  rw [lg_entry_eq]
  generalize (lg_sl ([.ref (qa 0), .int p1, .int p2]) ++ List.replicate (3 - (lg_sl ([.ref (qa 0), .int p1, .int p2])).length) Slot.unset).toArray = ls at hl ⊢
  have hl : lv_has ls 3 [(0, .ref (qa 0)), (1, .int p1), (2, .int p2)] := hl
  refine lv_aload_n hx hb d_W_sameHost_0 rfl (lv_at hl 0 rfl) ?_
  refine va_get (D := (dC, dI)) (ci := 0) (v := .ref (qa 3)) (C := R_W) (T := F_W) (N := 10) hx hb hts i_W hown hK hP 0 rfl rfl 2 (by decide) (hts _ k_13) (fun _ h9 => h9) rfl d_W_sameHost_1 ?_
  refine lv_iload_n hx hb d_W_sameHost_4 rfl (lv_at hl 1 rfl) ?_
  have hi_1 : vp_in p1 13 := by first | with_reducible assumption | exact in_has hw (by with_reducible assumption) | exact in_cls hw (by with_reducible assumption) | exact in_ifc hw (by with_reducible assumption) | exact in_ext hw (by with_reducible assumption) | exact in_eq0 (by with_reducible assumption) | exact hfd (by with_reducible assumption) | exact in_rcv hw (by with_reducible assumption) (Or.inl (by with_reducible assumption)) | exact in_rcv hw (by with_reducible assumption) (Or.inr (by with_reducible assumption))
  refine va_iald (D := (dC, dI)) (f := (w.1 2)) hx hb hK hP 3 2 rfl rfl hi_1 d_W_sameHost_5 ?_
  refine lv_aload_n hx hb d_W_sameHost_6 rfl (lv_at hl 0 rfl) ?_
  refine va_get (D := (dC, dI)) (ci := 0) (v := .ref (qa 3)) (C := R_W) (T := F_W) (N := 10) hx hb hts i_W hown hK hP 0 rfl rfl 2 (by decide) (hts _ k_13) (fun _ h9 => h9) rfl d_W_sameHost_7 ?_
  refine lv_iload_n hx hb d_W_sameHost_10 rfl (lv_at hl 2 rfl) ?_
  have hi_2 : vp_in p2 13 := by first | with_reducible assumption | exact in_has hw (by with_reducible assumption) | exact in_cls hw (by with_reducible assumption) | exact in_ifc hw (by with_reducible assumption) | exact in_ext hw (by with_reducible assumption) | exact in_eq0 (by with_reducible assumption) | exact hfd (by with_reducible assumption) | exact in_rcv hw (by with_reducible assumption) (Or.inl (by with_reducible assumption)) | exact in_rcv hw (by with_reducible assumption) (Or.inr (by with_reducible assumption))
  refine va_iald (D := (dC, dI)) (f := (w.1 2)) hx hb hK hP 3 2 rfl rfl hi_2 d_W_sameHost_11 ?_
  refine lv_icmp_ne (tgt := 19) hx hb d_W_sameHost_12 (by decide) (fun c_3 => ?_) (fun c_3 => ?_)
  · have c_3 : ¬ (((w.1 2) p1.toNatClampNeg) = ((w.1 2) p2.toNatClampNeg)) := c_3
    refine lv_iconst (v := (0 : Int32)) hx hb d_W_sameHost_19 (by decide +kernel) ?_
    exact W.zret (v := (0 : Int32)) hx hb hr (by decide +kernel) (fun t ht hW => ⟨⟨(0 : Int32), (), rfl, by unfold f_W_sameHost; rw [if_neg c_3], trivial⟩, hS.F ht⟩) hS.2.2 d_W_sameHost_20
  · have c_3 : ((w.1 2) p1.toNatClampNeg) = ((w.1 2) p2.toNatClampNeg) := c_3
    refine lv_iconst (v := (1 : Int32)) hx hb d_W_sameHost_15 (by decide +kernel) ?_
    refine lv_goto (tgt := 20) hx hb d_W_sameHost_16 (by decide) ?_
    exact W.zret (v := (1 : Int32)) hx hb hr (by decide +kernel) (fun t ht hW => ⟨⟨(1 : Int32), (), rfl, by unfold f_W_sameHost; rw [if_pos c_3], trivial⟩, hS.F ht⟩) hS.2.2 d_W_sameHost_20
set_option maxHeartbeats 4000000 in
set_option maxRecDepth 100000 in
theorem c_W_samePackage (l : Launch) (dC : Nat → ClassId) (dI : Nat → Nat → Nat) (ka : Nat → ClassId) (qa : Nat → Nat) (sz : Nat) (w : WS) (p1 p2 : Int32) (hp1 : vp_in p1 13) (hp2 : vp_in p2 13) : Met l y_W_samePackage w_W_samePackage ({ frames := 0, cells := 0, slots := 0, locals := 0 } : Room) (ro_P dC dI (wW ka qa w) (tW ka) sz [.ref (qa 0), .int p1, .int p2]) (ro_Q sz (f_W_samePackage w p1 p2)) 0 0 (fun z => sz ≤ z) := by
  refine Met.ofW (cc := b_W_samePackage) (maxL := 3) (ret := (some .boolean)) (by decide) rfl ?_
  intro p e s m args below meth c s₁ B hml hv
  obtain ⟨rfl, hsz, hP, hK, hN⟩ := hv
  have hx := B.exec
  have hb := B.bytes
  have hr := B.returns
  have hts := tl_of (atoms_spec (ws := w_W_samePackage) B.pre)
  have hown : s.vm.findClass R_W = some m.cls := findClass_of_methodNamed B.named
  have hlocks := B.notSynchronized
  subst hsz
  have hA : ∀ z : Nat, s.heap.size ≤ z → (fun z : Nat => s.heap.size ≤ z) z := fun _ h => h
  have hS : va_S (fun z : Nat => s.heap.size ≤ z) s.heap s.heap [] := va_S.rf
  have hl := lv_entry ([.ref (qa 0), .int p1, .int p2]) (n := 3) (Nat.le_of_ble_eq_true rfl)
  rw [lg_entry_eq]
  generalize (lg_sl ([.ref (qa 0), .int p1, .int p2]) ++ List.replicate (3 - (lg_sl ([.ref (qa 0), .int p1, .int p2])).length) Slot.unset).toArray = ls at hl ⊢
  have hl : lv_has ls 3 [(0, .ref (qa 0)), (1, .int p1), (2, .int p2)] := hl
  refine lv_aload_n hx hb d_W_samePackage_0 rfl (lv_at hl 0 rfl) ?_
  refine va_get (D := (dC, dI)) (ci := 0) (v := .ref (qa 2)) (C := R_W) (T := F_W) (N := 10) hx hb hts i_W hown hK hP 0 rfl rfl 1 (by decide) (hts _ k_12) (fun _ h9 => h9) rfl d_W_samePackage_1 ?_
  refine lv_iload_n hx hb d_W_samePackage_4 rfl (lv_at hl 1 rfl) ?_
  have hi_1 : vp_in p1 13 := by first | with_reducible assumption | exact in_has hw (by with_reducible assumption) | exact in_cls hw (by with_reducible assumption) | exact in_ifc hw (by with_reducible assumption) | exact in_ext hw (by with_reducible assumption) | exact in_eq0 (by with_reducible assumption) | exact hfd (by with_reducible assumption) | exact in_rcv hw (by with_reducible assumption) (Or.inl (by with_reducible assumption)) | exact in_rcv hw (by with_reducible assumption) (Or.inr (by with_reducible assumption))
  refine va_iald (D := (dC, dI)) (f := (w.1 1)) hx hb hK hP 2 1 rfl rfl hi_1 d_W_samePackage_5 ?_
  refine lv_aload_n hx hb d_W_samePackage_6 rfl (lv_at hl 0 rfl) ?_
  refine va_get (D := (dC, dI)) (ci := 0) (v := .ref (qa 2)) (C := R_W) (T := F_W) (N := 10) hx hb hts i_W hown hK hP 0 rfl rfl 1 (by decide) (hts _ k_12) (fun _ h9 => h9) rfl d_W_samePackage_7 ?_
  refine lv_iload_n hx hb d_W_samePackage_10 rfl (lv_at hl 2 rfl) ?_
  have hi_2 : vp_in p2 13 := by first | with_reducible assumption | exact in_has hw (by with_reducible assumption) | exact in_cls hw (by with_reducible assumption) | exact in_ifc hw (by with_reducible assumption) | exact in_ext hw (by with_reducible assumption) | exact in_eq0 (by with_reducible assumption) | exact hfd (by with_reducible assumption) | exact in_rcv hw (by with_reducible assumption) (Or.inl (by with_reducible assumption)) | exact in_rcv hw (by with_reducible assumption) (Or.inr (by with_reducible assumption))
  refine va_iald (D := (dC, dI)) (f := (w.1 1)) hx hb hK hP 2 1 rfl rfl hi_2 d_W_samePackage_11 ?_
  refine lv_icmp_ne (tgt := 19) hx hb d_W_samePackage_12 (by decide) (fun c_3 => ?_) (fun c_3 => ?_)
  · have c_3 : ¬ (((w.1 1) p1.toNatClampNeg) = ((w.1 1) p2.toNatClampNeg)) := c_3
    refine lv_iconst (v := (0 : Int32)) hx hb d_W_samePackage_19 (by decide +kernel) ?_
    exact W.zret (v := (0 : Int32)) hx hb hr (by decide +kernel) (fun t ht hW => ⟨⟨(0 : Int32), (), rfl, by unfold f_W_samePackage; rw [if_neg c_3], trivial⟩, hS.F ht⟩) hS.2.2 d_W_samePackage_20
  · have c_3 : ((w.1 1) p1.toNatClampNeg) = ((w.1 1) p2.toNatClampNeg) := c_3
    refine lv_iconst (v := (1 : Int32)) hx hb d_W_samePackage_15 (by decide +kernel) ?_
    refine lv_goto (tgt := 20) hx hb d_W_samePackage_16 (by decide) ?_
    exact W.zret (v := (1 : Int32)) hx hb hr (by decide +kernel) (fun t ht hW => ⟨⟨(1 : Int32), (), rfl, by unfold f_W_samePackage; rw [if_pos c_3], trivial⟩, hS.F ht⟩) hS.2.2 d_W_samePackage_20
set_option maxHeartbeats 4000000 in
set_option maxRecDepth 100000 in
theorem c_W_mayUseType (l : Launch) (dC : Nat → ClassId) (dI : Nat → Nat → Nat) (ka : Nat → ClassId) (qa : Nat → Nat) (sz : Nat) (w : WS) (p1 p2 : Int32) (hp1 : vp_in p1 13) (hp2 : vp_in p2 13) : Met l y_W_mayUseType w_W_mayUseType ({ frames := 1, cells := 0, slots := 0, locals := 22 } : Room) (ro_P dC dI (wW ka qa w) (tW ka) sz [.ref (qa 0), .int p1, .int p2]) (ro_Q sz (f_W_mayUseType w p1 p2)) 0 0 (fun z => sz ≤ z) := by
  refine Met.ofW (cc := b_W_mayUseType) (maxL := 3) (ret := (some .boolean)) (by decide) rfl ?_
  intro p e s m args below meth c s₁ B hml hv
  obtain ⟨rfl, hsz, hP, hK, hN⟩ := hv
  have hx := B.exec
  have hb := B.bytes
  have hr := B.returns
  have hts := tl_of (atoms_spec (ws := w_W_mayUseType) B.pre)
  have hown : s.vm.findClass R_W = some m.cls := findClass_of_methodNamed B.named
  have hlocks := B.notSynchronized
  subst hsz
  have hA : ∀ z : Nat, s.heap.size ≤ z → (fun z : Nat => s.heap.size ≤ z) z := fun _ h => h
  have hS : va_S (fun z : Nat => s.heap.size ≤ z) s.heap s.heap [] := va_S.rf
  have hl := lv_entry ([.ref (qa 0), .int p1, .int p2]) (n := 3) (Nat.le_of_ble_eq_true rfl)
  rw [lg_entry_eq]
  generalize (lg_sl ([.ref (qa 0), .int p1, .int p2]) ++ List.replicate (3 - (lg_sl ([.ref (qa 0), .int p1, .int p2])).length) Slot.unset).toArray = ls at hl ⊢
  have hl : lv_has ls 3 [(0, .ref (qa 0)), (1, .int p1), (2, .int p2)] := hl
  refine lv_aload_n hx hb d_W_mayUseType_0 rfl (lv_at hl 0 rfl) ?_
  refine va_get (D := (dC, dI)) (ci := 0) (v := .int (w.2 0)) (C := R_W) (T := F_W) (N := 10) hx hb hts i_W hown hK hP 0 rfl rfl 6 (by decide) (hts _ k_15) (fun _ h9 => h9) rfl d_W_mayUseType_1 ?_
  refine lv_iload_n hx hb d_W_mayUseType_4 rfl (lv_at hl 1 rfl) ?_
  refine va_calli (va_runSN (As := [.int (w.2 0), .int p1]) (rest := []) ⟨hx, hb, hml, hown, hts⟩ (c_O_holds l dC dI  s.heap.size   (w.2 0) p1) ⟨va_cnB 2 hts k_g2 rfl rfl rfl (hN _ k_5 rfl) (hts _ k_6) (by decide +kernel) ⟨Nat.le_of_ble_eq_true rfl, Nat.le_of_ble_eq_true rfl⟩, hts _ k_7, trivial⟩ ⟨fb_ro, fun U hU hW => ⟨rfl, by rw [hU], by rw [hU]; exact hP.sub (ws' := ([] : va_W)) [] rfl, va_K.moved hW.alike (hK.sub (tys' := []) [] rfl), NX.warm hW hN⟩⟩ rfl rfl hl.1 rfl (lv_room (Nat.le_of_ble_eq_true rfl)) d_W_mayUseType_5 ⟨Nat.zero_le _, Nat.zero_le _⟩) hS (fun z h1 h2 => absurd h1 (Nat.not_lt.mpr h2)) (fun z h => hA z (Nat.le_trans hS.1 h)) (fun r u t H1 locs ht hvm hpo hB hz1 hk1 hS => ?_)
  subst hpo
  have hP := kp_P hP hk1
  generalize H1 = H at hP hS ⊢
  refine lv_if_ne (tgt := 20) hx hb d_W_mayUseType_8 (by decide) (fun c_1 => ?_) (fun c_1 => ?_)
  · have c_1 : ¬ ((f_O_holds (w.2 0) p1) = (0 : Int32)) := c_1
    refine lv_iconst (v := (1 : Int32)) hx hb d_W_mayUseType_20 (by decide +kernel) ?_
    refine lv_goto (tgt := 25) hx hb d_W_mayUseType_21 (by decide) ?_
    exact W.zret (v := (1 : Int32)) hx hb hr (by decide +kernel) (fun t ht hW => ⟨⟨(1 : Int32), (), rfl, by unfold f_W_mayUseType; rw [if_neg c_1], trivial⟩, hS.F ht⟩) hS.2.2 d_W_mayUseType_25
  · have c_1 : (f_O_holds (w.2 0) p1) = (0 : Int32) := c_1
    refine lv_aload_n hx hb d_W_mayUseType_11 rfl (lv_at hl 0 rfl) ?_
    refine lv_iload_n hx hb d_W_mayUseType_12 rfl (lv_at hl 1 rfl) ?_
    refine lv_iload_n hx hb d_W_mayUseType_13 rfl (lv_at hl 2 rfl) ?_
    have hq_2 : vp_in p1 13 := by first | with_reducible assumption | exact in_has hw (by with_reducible assumption) | exact in_cls hw (by with_reducible assumption) | exact in_ifc hw (by with_reducible assumption) | exact in_ext hw (by with_reducible assumption) | exact in_eq0 (by with_reducible assumption) | exact hfd (by with_reducible assumption) | exact in_rcv hw (by with_reducible assumption) (Or.inl (by with_reducible assumption)) | exact in_rcv hw (by with_reducible assumption) (Or.inr (by with_reducible assumption))
    have hq_3 : vp_in p2 13 := by first | with_reducible assumption | exact in_has hw (by with_reducible assumption) | exact in_cls hw (by with_reducible assumption) | exact in_ifc hw (by with_reducible assumption) | exact in_ext hw (by with_reducible assumption) | exact in_eq0 (by with_reducible assumption) | exact hfd (by with_reducible assumption) | exact in_rcv hw (by with_reducible assumption) (Or.inl (by with_reducible assumption)) | exact in_rcv hw (by with_reducible assumption) (Or.inr (by with_reducible assumption))
    refine va_calli (va_runV (As := [.int p1, .int p2]) (rest := []) ⟨hx, hb, hml, hown, hts⟩ (c_W_samePackage l dC dI ka qa H.size w  p1 p2 hq_2 hq_3) (cwV 2 hts k_g4 rfl rfl rfl (by decide +kernel) ⟨Nat.le_of_ble_eq_true rfl, Nat.le_of_ble_eq_true rfl⟩) ⟨fb_ro, va_recv hK hP (ci := 0) (q0 := 0) rfl rfl, fun U hU hW => ⟨rfl, by rw [hU], by rw [hU]; exact hP.sub (ws' := (wW ka qa w)) [0, 1, 2, 3, 4, 5, 6] rfl, va_K.moved hW.alike (hK.sub (tys' := (tW ka)) [0, 1, 2, 3, 4, 5] rfl), NX.warm hW hN⟩⟩ rfl rfl hl.1 rfl (lv_room (Nat.le_of_ble_eq_true rfl)) d_W_mayUseType_14 ⟨Nat.zero_le _, Nat.zero_le _⟩) hS (fun z h1 h2 => absurd h1 (Nat.not_lt.mpr h2)) (fun z h => hA z (Nat.le_trans hS.1 h)) (fun r u t H1 locs ht hvm hpo hB hz1 hk1 hS => ?_)
    subst hpo
    have hP := kp_P hP hk1
    generalize H1 = H at hP hS ⊢
    refine lv_if_eq (tgt := 24) hx hb d_W_mayUseType_17 (by decide) (fun c_4 => ?_) (fun c_4 => ?_)
    · have c_4 : (f_W_samePackage w p1 p2) = (0 : Int32) := c_4
      refine lv_iconst (v := (0 : Int32)) hx hb d_W_mayUseType_24 (by decide +kernel) ?_
      exact W.zret (v := (0 : Int32)) hx hb hr (by decide +kernel) (fun t ht hW => ⟨⟨(0 : Int32), (), rfl, by unfold f_W_mayUseType; rw [if_pos c_1, if_pos c_4], trivial⟩, hS.F ht⟩) hS.2.2 d_W_mayUseType_25
    · have c_4 : ¬ ((f_W_samePackage w p1 p2) = (0 : Int32)) := c_4
      refine lv_iconst (v := (1 : Int32)) hx hb d_W_mayUseType_20 (by decide +kernel) ?_
      refine lv_goto (tgt := 25) hx hb d_W_mayUseType_21 (by decide) ?_
      exact W.zret (v := (1 : Int32)) hx hb hr (by decide +kernel) (fun t ht hW => ⟨⟨(1 : Int32), (), rfl, by unfold f_W_mayUseType; rw [if_pos c_1, if_neg c_4], trivial⟩, hS.F ht⟩) hS.2.2 d_W_mayUseType_25
set_option maxHeartbeats 4000000 in
set_option maxRecDepth 100000 in
theorem c_W_hasDirect (l : Launch) (dC : Nat → ClassId) (dI : Nat → Nat → Nat) (ka : Nat → ClassId) (qa : Nat → Nat) (sz : Nat) (w : WS) (p1 p2 : Int32) (hw : WF w) (hp1 : vp_in p1 13) : Met l y_W_hasDirect w_W_hasDirect ({ frames := 1, cells := 0, slots := 0, locals := 22 } : Room) (ro_P dC dI (wW ka qa w) (tW ka) sz [.ref (qa 0), .int p1, .int p2]) (ro_Q sz (f_W_hasDirect w p1 p2)) 0 0 (fun z => sz ≤ z) := by
  refine Met.ofW (cc := b_W_hasDirect) (maxL := 4) (ret := (some .boolean)) (by decide) rfl ?_
  intro p e s m args below meth c s₁ B hml hv
  obtain ⟨rfl, hsz, hP, hK, hN⟩ := hv
  have hx := B.exec
  have hb := B.bytes
  have hr := B.returns
  have hts := tl_of (atoms_spec (ws := w_W_hasDirect) B.pre)
  have hown : s.vm.findClass R_W = some m.cls := findClass_of_methodNamed B.named
  have hlocks := B.notSynchronized
  subst hsz
  have hA : ∀ z : Nat, s.heap.size ≤ z → (fun z : Nat => s.heap.size ≤ z) z := fun _ h => h
  have hS : va_S (fun z : Nat => s.heap.size ≤ z) s.heap s.heap [] := va_S.rf
  have hl := lv_entry ([.ref (qa 0), .int p1, .int p2]) (n := 4) (Nat.le_of_ble_eq_true rfl)
  rw [lg_entry_eq]
  generalize (lg_sl ([.ref (qa 0), .int p1, .int p2]) ++ List.replicate (4 - (lg_sl ([.ref (qa 0), .int p1, .int p2])).length) Slot.unset).toArray = ls at hl ⊢
  have hl : lv_has ls 4 [(0, .ref (qa 0)), (1, .int p1), (2, .int p2)] := hl
  refine lv_iconst (v := (0 : Int32)) hx hb d_W_hasDirect_0 (by decide +kernel) ?_
  refine lv_istore_n (lv' := [(3, .int (0 : Int32)), (0, .ref (qa 0)), (1, .int p1), (2, .int p2)]) hx hb d_W_hasDirect_1 rfl hl (by decide) rfl (fun ls hl => ?_)
  have LOOP : ∀ (n k : Nat) (x3 : Int32) (H : Heap) (locs : List Loc) (ls : Array Slot), x3 = nI k → 14 ≤ k + n → k ≤ 13 → lr_W_hasDirect w p1 p2 n x3 = (f_W_hasDirect w p1 p2) → va_P (dC, dI) classes (wW ka qa w) H → va_S (fun z : Nat => s.heap.size ≤ z) s.heap H locs → lv_has ls 4 [(3, .int x3), (0, .ref (qa 0)), (1, .int p1), (2, .int p2)] → W p l e (headSpec w_W_hasDirect ({ frames := 1, cells := 0, slots := 0, locals := 22 } : Room)).room s m ([.ref (qa 0), .int p1, .int p2] : List Value).toArray below meth c H locs 0 0 (MQ below (ro_Q s.heap.size (f_W_hasDirect w p1 p2)) ([.ref (qa 0), .int p1, .int p2] : List Value).toArray s 0 0 (fun z => s.heap.size ≤ z)) (F0 m 2 ls []) := by
    intro n
    induction n with
    | zero =>
      intro k x3 H locs ls et h1 h2
      exfalso; omega
    | succ n ih =>
      intro k x3 H locs ls et h1 h2 hF hP hS hl
      refine lv_iload_n hx hb d_W_hasDirect_2 rfl (lv_at hl 0 rfl) ?_
      refine lv_aload_n hx hb d_W_hasDirect_3 rfl (lv_at hl 1 rfl) ?_
      refine va_get (D := (dC, dI)) (ci := 0) (v := .ref (qa 4)) (C := R_W) (T := F_W) (N := 10) hx hb hts i_W hown hK hP 0 rfl rfl 3 (by decide) (hts _ k_9) (fun _ h9 => h9) rfl d_W_hasDirect_4 ?_
      refine lv_iload_n hx hb d_W_hasDirect_7 rfl (lv_at hl 2 rfl) ?_
      have hi_1 : vp_in p1 13 := by first | with_reducible assumption | exact in_has hw (by with_reducible assumption) | exact in_cls hw (by with_reducible assumption) | exact in_ifc hw (by with_reducible assumption) | exact in_ext hw (by with_reducible assumption) | exact in_eq0 (by with_reducible assumption) | exact hfd (by with_reducible assumption) | exact in_rcv hw (by with_reducible assumption) (Or.inl (by with_reducible assumption)) | exact in_rcv hw (by with_reducible assumption) (Or.inr (by with_reducible assumption))
      refine va_iald (D := (dC, dI)) (f := (w.1 3)) hx hb hK hP 4 3 rfl rfl hi_1 d_W_hasDirect_8 ?_
      refine lv_icmp_ge (tgt := 30) hx hb d_W_hasDirect_9 (by decide) (fun c_2 => ?_) (fun c_2 => ?_)
      · have c_2 : ((w.1 3) p1.toNatClampNeg) ≤ x3 := c_2
        refine lv_iconst (v := (0 : Int32)) hx hb d_W_hasDirect_30 (by decide +kernel) ?_
        exact W.zret (v := (0 : Int32)) hx hb hr (by decide +kernel) (fun t ht hW => ⟨⟨(0 : Int32), (), rfl, by rw [← hF, lr_W_hasDirect_s, if_pos c_2], trivial⟩, hS.F ht⟩) hS.2.2 d_W_hasDirect_31
      · have c_2 : ¬ (((w.1 3) p1.toNatClampNeg) ≤ x3) := c_2
        refine lv_aload_n hx hb d_W_hasDirect_12 rfl (lv_at hl 1 rfl) ?_
        refine lv_iload_n hx hb d_W_hasDirect_13 rfl (lv_at hl 2 rfl) ?_
        refine lv_iload_n hx hb d_W_hasDirect_14 rfl (lv_at hl 0 rfl) ?_
        have hq_3 : vp_in ((p1 * (4 : Int32)) + x3) 52 := by first | with_reducible assumption | exact in_dc (by with_reducible assumption) et (ltDc hw et h2 (by with_reducible assumption) (by with_reducible assumption))
        refine va_calli (va_runV (As := [.int p1, .int x3]) (rest := []) ⟨hx, hb, hml, hown, hts⟩ (c_W_directAt l dC dI ka qa H.size w  p1 x3 hq_3) (cwV 2 hts k_g5 rfl rfl rfl (by decide +kernel) ⟨Nat.le_of_ble_eq_true rfl, Nat.le_of_ble_eq_true rfl⟩) ⟨fb_ro, va_recv hK hP (ci := 0) (q0 := 0) rfl rfl, fun U hU hW => ⟨rfl, by rw [hU], by rw [hU]; exact hP.sub (ws' := (wW ka qa w)) [0, 1, 2, 3, 4, 5, 6] rfl, va_K.moved hW.alike (hK.sub (tys' := (tW ka)) [0, 1, 2, 3, 4, 5] rfl), NX.warm hW hN⟩⟩ rfl rfl hl.1 rfl (lv_room (Nat.le_of_ble_eq_true rfl)) d_W_hasDirect_15 ⟨Nat.zero_le _, Nat.zero_le _⟩) hS (fun z h1 h2 => absurd h1 (Nat.not_lt.mpr h2)) (fun z h => hA z (Nat.le_trans hS.1 h)) (fun r u t H1 locs ht hvm hpo hB hz1 hk1 hS => ?_)
        subst hpo
        have hP := kp_P hP hk1
        generalize H1 = H at hP hS ⊢
        refine lv_iload_n hx hb d_W_hasDirect_18 rfl (lv_at hl 3 rfl) ?_
        refine lv_icmp_ne (tgt := 24) hx hb d_W_hasDirect_19 (by decide) (fun c_4 => ?_) (fun c_4 => ?_)
        · have c_4 : ¬ ((f_W_directAt w p1 x3) = p2) := c_4
          refine lv_iinc (v := (x3 + (1 : Int32))) (lv' := [(3, .int (x3 + (1 : Int32))), (0, .ref (qa 0)), (1, .int p1), (2, .int p2)]) hx hb d_W_hasDirect_24 hl (k := 0) rfl (by rw [of_p1]) (by decide) rfl (fun ls hl => ?_)
          refine lv_goto (tgt := 2) hx hb d_W_hasDirect_27 (by decide) ?_
          exact ih (k + 1) (x3 + (1 : Int32)) _ _ _ (by rw [et]; exact nI_1 k) (by omega) (by first | exact Nat.succ_le_succ (le12 et h2 (by with_reducible assumption)) | exact Nat.succ_le_succ (lt12 et h2 (by with_reducible assumption)) | exact Nat.succ_le_succ (leCnt hw et h2 (by with_reducible assumption)) | exact Nat.succ_le_succ (Nat.le_trans (Nat.le_of_lt (ltDc hw et h2 (by with_reducible assumption) (by with_reducible assumption))) (by decide)) | exact Nat.succ_le_succ (lePar et h2 (by with_reducible assumption) (by with_reducible assumption)) | exact Nat.succ_le_succ (ltPar et h2 (by with_reducible assumption) (by with_reducible assumption))) (by rw [← hF, lr_W_hasDirect_s, if_neg c_2, if_neg c_4]) hP hS (lv_sub hl [0, 1, 2, 3] rfl)
        · have c_4 : (f_W_directAt w p1 x3) = p2 := c_4
          refine lv_iconst (v := (1 : Int32)) hx hb d_W_hasDirect_22 (by decide +kernel) ?_
          exact W.zret (v := (1 : Int32)) hx hb hr (by decide +kernel) (fun t ht hW => ⟨⟨(1 : Int32), (), rfl, by rw [← hF, lr_W_hasDirect_s, if_neg c_2, if_pos c_4], trivial⟩, hS.F ht⟩) hS.2.2 d_W_hasDirect_23
  exact LOOP 14 0 (0 : Int32) _ _ _ (rfl) (by omega) (by omega) (rfl) hP hS (lv_sub hl [0, 1, 2, 3] rfl)
set_option maxHeartbeats 4000000 in
set_option maxRecDepth 100000 in
theorem c_W_hostsAnother (l : Launch) (dC : Nat → ClassId) (dI : Nat → Nat → Nat) (ka : Nat → ClassId) (qa : Nat → Nat) (sz : Nat) (w : WS) (p1 : Int32) (hw : WF w) : Met l y_W_hostsAnother w_W_hostsAnother ({ frames := 0, cells := 0, slots := 0, locals := 0 } : Room) (ro_P dC dI (wW ka qa w) (tW ka) sz [.ref (qa 0), .int p1]) (ro_Q sz (f_W_hostsAnother w p1)) 0 0 (fun z => sz ≤ z) := by
  refine Met.ofW (cc := b_W_hostsAnother) (maxL := 3) (ret := (some .boolean)) (by decide) rfl ?_
  intro p e s m args below meth c s₁ B hml hv
  obtain ⟨rfl, hsz, hP, hK, hN⟩ := hv
  have hx := B.exec
  have hb := B.bytes
  have hr := B.returns
  have hts := tl_of (atoms_spec (ws := w_W_hostsAnother) B.pre)
  have hown : s.vm.findClass R_W = some m.cls := findClass_of_methodNamed B.named
  have hlocks := B.notSynchronized
  subst hsz
  have hA : ∀ z : Nat, s.heap.size ≤ z → (fun z : Nat => s.heap.size ≤ z) z := fun _ h => h
  have hS : va_S (fun z : Nat => s.heap.size ≤ z) s.heap s.heap [] := va_S.rf
  have hl := lv_entry ([.ref (qa 0), .int p1]) (n := 3) (Nat.le_of_ble_eq_true rfl)
  rw [lg_entry_eq]
  generalize (lg_sl ([.ref (qa 0), .int p1]) ++ List.replicate (3 - (lg_sl ([.ref (qa 0), .int p1])).length) Slot.unset).toArray = ls at hl ⊢
  have hl : lv_has ls 3 [(0, .ref (qa 0)), (1, .int p1)] := hl
  refine lv_iconst (v := (1 : Int32)) hx hb d_W_hostsAnother_0 (by decide +kernel) ?_
  refine lv_istore_n (lv' := [(2, .int (1 : Int32)), (0, .ref (qa 0)), (1, .int p1)]) hx hb d_W_hostsAnother_1 rfl hl (by decide) rfl (fun ls hl => ?_)
  have LOOP : ∀ (n k : Nat) (x2 : Int32) (H : Heap) (locs : List Loc) (ls : Array Slot), x2 = nI k → 14 ≤ k + n → k ≤ 13 → lr_W_hostsAnother w p1 n x2 = (f_W_hostsAnother w p1) → va_P (dC, dI) classes (wW ka qa w) H → va_S (fun z : Nat => s.heap.size ≤ z) s.heap H locs → lv_has ls 3 [(2, .int x2), (0, .ref (qa 0)), (1, .int p1)] → W p l e (headSpec w_W_hostsAnother ({ frames := 0, cells := 0, slots := 0, locals := 0 } : Room)).room s m ([.ref (qa 0), .int p1] : List Value).toArray below meth c H locs 0 0 (MQ below (ro_Q s.heap.size (f_W_hostsAnother w p1)) ([.ref (qa 0), .int p1] : List Value).toArray s 0 0 (fun z => s.heap.size ≤ z)) (F0 m 2 ls []) := by
    intro n
    induction n with
    | zero =>
      intro k x2 H locs ls et h1 h2
      exfalso; omega
    | succ n ih =>
      intro k x2 H locs ls et h1 h2 hF hP hS hl
      refine lv_iload_n hx hb d_W_hostsAnother_2 rfl (lv_at hl 0 rfl) ?_
      refine lv_aload_n hx hb d_W_hostsAnother_3 rfl (lv_at hl 1 rfl) ?_
      refine va_get (D := (dC, dI)) (ci := 0) (v := .int (w.2 3)) (C := R_W) (T := F_W) (N := 10) hx hb hts i_W hown hK hP 0 rfl rfl 9 (by decide) (hts _ k_3) (fun _ h9 => h9) rfl d_W_hostsAnother_4 ?_
      refine lv_icmp_gt (tgt := 33) hx hb d_W_hostsAnother_7 (by decide) (fun c_1 => ?_) (fun c_1 => ?_)
      · have c_1 : (w.2 3) < x2 := c_1
        refine lv_iconst (v := (0 : Int32)) hx hb d_W_hostsAnother_33 (by decide +kernel) ?_
        exact W.zret (v := (0 : Int32)) hx hb hr (by decide +kernel) (fun t ht hW => ⟨⟨(0 : Int32), (), rfl, by rw [← hF, lr_W_hostsAnother_s, if_pos c_1], trivial⟩, hS.F ht⟩) hS.2.2 d_W_hostsAnother_34
      · have c_1 : ¬ ((w.2 3) < x2) := c_1
        refine lv_iload_n hx hb d_W_hostsAnother_10 rfl (lv_at hl 0 rfl) ?_
        refine lv_iload_n hx hb d_W_hostsAnother_11 rfl (lv_at hl 2 rfl) ?_
        refine lv_icmp_eq (tgt := 27) hx hb d_W_hostsAnother_12 (by decide) (fun c_2 => ?_) (fun c_2 => ?_)
        · have c_2 : x2 = p1 := c_2
          refine lv_iinc (v := (x2 + (1 : Int32))) (lv' := [(2, .int (x2 + (1 : Int32))), (0, .ref (qa 0)), (1, .int p1)]) hx hb d_W_hostsAnother_27 hl (k := 0) rfl (by rw [of_p1]) (by decide) rfl (fun ls hl => ?_)
          refine lv_goto (tgt := 2) hx hb d_W_hostsAnother_30 (by decide) ?_
          exact ih (k + 1) (x2 + (1 : Int32)) _ _ _ (by rw [et]; exact nI_1 k) (by omega) (by first | exact Nat.succ_le_succ (le12 et h2 (by with_reducible assumption)) | exact Nat.succ_le_succ (lt12 et h2 (by with_reducible assumption)) | exact Nat.succ_le_succ (leCnt hw et h2 (by with_reducible assumption)) | exact Nat.succ_le_succ (Nat.le_trans (Nat.le_of_lt (ltDc hw et h2 (by with_reducible assumption) (by with_reducible assumption))) (by decide)) | exact Nat.succ_le_succ (lePar et h2 (by with_reducible assumption) (by with_reducible assumption)) | exact Nat.succ_le_succ (ltPar et h2 (by with_reducible assumption) (by with_reducible assumption))) (by rw [← hF, lr_W_hostsAnother_s, if_neg c_1, if_pos c_2]) hP hS (lv_sub hl [0, 1, 2] rfl)
        · have c_2 : ¬ (x2 = p1) := c_2
          refine lv_aload_n hx hb d_W_hostsAnother_15 rfl (lv_at hl 1 rfl) ?_
          refine va_get (D := (dC, dI)) (ci := 0) (v := .ref (qa 3)) (C := R_W) (T := F_W) (N := 10) hx hb hts i_W hown hK hP 0 rfl rfl 2 (by decide) (hts _ k_13) (fun _ h9 => h9) rfl d_W_hostsAnother_16 ?_
          refine lv_iload_n hx hb d_W_hostsAnother_19 rfl (lv_at hl 0 rfl) ?_
          have hi_3 : vp_in x2 13 := by first | with_reducible assumption | exact in_et et (le12 et h2 (by with_reducible assumption)) | exact in_et et (lt12 et h2 (by with_reducible assumption)) | exact in_et et (leCnt hw et h2 (by with_reducible assumption)) | exact in_et et (lePar et h2 (by with_reducible assumption) (by with_reducible assumption)) | exact in_et et (ltPar et h2 (by with_reducible assumption) (by with_reducible assumption)) | exact in_et et h2
          refine va_iald (D := (dC, dI)) (f := (w.1 2)) hx hb hK hP 3 2 rfl rfl hi_3 d_W_hostsAnother_20 ?_
          refine lv_iload_n hx hb d_W_hostsAnother_21 rfl (lv_at hl 2 rfl) ?_
          refine lv_icmp_ne (tgt := 27) hx hb d_W_hostsAnother_22 (by decide) (fun c_4 => ?_) (fun c_4 => ?_)
          · have c_4 : ¬ (((w.1 2) x2.toNatClampNeg) = p1) := c_4
            refine lv_iinc (v := (x2 + (1 : Int32))) (lv' := [(2, .int (x2 + (1 : Int32))), (0, .ref (qa 0)), (1, .int p1)]) hx hb d_W_hostsAnother_27 hl (k := 0) rfl (by rw [of_p1]) (by decide) rfl (fun ls hl => ?_)
            refine lv_goto (tgt := 2) hx hb d_W_hostsAnother_30 (by decide) ?_
            exact ih (k + 1) (x2 + (1 : Int32)) _ _ _ (by rw [et]; exact nI_1 k) (by omega) (by first | exact Nat.succ_le_succ (le12 et h2 (by with_reducible assumption)) | exact Nat.succ_le_succ (lt12 et h2 (by with_reducible assumption)) | exact Nat.succ_le_succ (leCnt hw et h2 (by with_reducible assumption)) | exact Nat.succ_le_succ (Nat.le_trans (Nat.le_of_lt (ltDc hw et h2 (by with_reducible assumption) (by with_reducible assumption))) (by decide)) | exact Nat.succ_le_succ (lePar et h2 (by with_reducible assumption) (by with_reducible assumption)) | exact Nat.succ_le_succ (ltPar et h2 (by with_reducible assumption) (by with_reducible assumption))) (by rw [← hF, lr_W_hostsAnother_s, if_neg c_1, if_neg c_2, if_neg c_4]) hP hS (lv_sub hl [0, 1, 2] rfl)
          · have c_4 : ((w.1 2) x2.toNatClampNeg) = p1 := c_4
            refine lv_iconst (v := (1 : Int32)) hx hb d_W_hostsAnother_25 (by decide +kernel) ?_
            exact W.zret (v := (1 : Int32)) hx hb hr (by decide +kernel) (fun t ht hW => ⟨⟨(1 : Int32), (), rfl, by rw [← hF, lr_W_hostsAnother_s, if_neg c_1, if_neg c_2, if_pos c_4], trivial⟩, hS.F ht⟩) hS.2.2 d_W_hostsAnother_26
  exact LOOP 14 1 (1 : Int32) _ _ _ (rfl) (by omega) (by omega) (rfl) hP hS (lv_sub hl [0, 1, 2] rfl)
set_option maxHeartbeats 4000000 in
set_option maxRecDepth 100000 in
theorem c_W_kindsOf (l : Launch) (dC : Nat → ClassId) (dI : Nat → Nat → Nat) (ka : Nat → ClassId) (qa : Nat → Nat) (sz : Nat) (w : WS) (p1 : Int32) (hw : WF w) (hp1 : vp_in p1 13) : Met l y_W_kindsOf w_W_kindsOf ({ frames := 1, cells := 0, slots := 0, locals := 21 } : Room) (ro_P dC dI (wW ka qa w) (tW ka) sz [.ref (qa 0), .int p1]) (ro_Q sz (f_W_kindsOf w p1)) 0 0 (fun z => sz ≤ z) := by
  refine Met.ofW (cc := b_W_kindsOf) (maxL := 4) (ret := (some .int)) (by decide) rfl ?_
  intro p e s m args below meth c s₁ B hml hv
  obtain ⟨rfl, hsz, hP, hK, hN⟩ := hv
  have hx := B.exec
  have hb := B.bytes
  have hr := B.returns
  have hts := tl_of (atoms_spec (ws := w_W_kindsOf) B.pre)
  have hown : s.vm.findClass R_W = some m.cls := findClass_of_methodNamed B.named
  have hlocks := B.notSynchronized
  subst hsz
  have hA : ∀ z : Nat, s.heap.size ≤ z → (fun z : Nat => s.heap.size ≤ z) z := fun _ h => h
  have hS : va_S (fun z : Nat => s.heap.size ≤ z) s.heap s.heap [] := va_S.rf
  have hl := lv_entry ([.ref (qa 0), .int p1]) (n := 4) (Nat.le_of_ble_eq_true rfl)
  rw [lg_entry_eq]
  generalize (lg_sl ([.ref (qa 0), .int p1]) ++ List.replicate (4 - (lg_sl ([.ref (qa 0), .int p1])).length) Slot.unset).toArray = ls at hl ⊢
  have hl : lv_has ls 4 [(0, .ref (qa 0)), (1, .int p1)] := hl
  refine lv_iconst (v := (0 : Int32)) hx hb d_W_kindsOf_0 (by decide +kernel) ?_
  refine lv_istore_n (lv' := [(2, .int (0 : Int32)), (0, .ref (qa 0)), (1, .int p1)]) hx hb d_W_kindsOf_1 rfl hl (by decide) rfl (fun ls hl => ?_)
  refine lv_iload_n hx hb d_W_kindsOf_2 rfl (lv_at hl 2 rfl) ?_
  refine lv_istore_n (lv' := [(3, .int p1), (2, .int (0 : Int32)), (0, .ref (qa 0)), (1, .int p1)]) hx hb d_W_kindsOf_3 rfl hl (by decide) rfl (fun ls hl => ?_)
  have LOOP : ∀ (n k : Nat) (x2 : Int32) (x3 : Int32) (H : Heap) (locs : List Loc) (ls : Array Slot), x3 = nI k → 14 ≤ k + n → k ≤ 13 → lr_W_kindsOf w p1 n x2 x3 = (f_W_kindsOf w p1) → va_P (dC, dI) classes (wW ka qa w) H → va_S (fun z : Nat => s.heap.size ≤ z) s.heap H locs → lv_has ls 4 [(2, .int x2), (3, .int x3), (0, .ref (qa 0)), (1, .int p1)] → W p l e (headSpec w_W_kindsOf ({ frames := 1, cells := 0, slots := 0, locals := 21 } : Room)).room s m ([.ref (qa 0), .int p1] : List Value).toArray below meth c H locs 0 0 (MQ below (ro_Q s.heap.size (f_W_kindsOf w p1)) ([.ref (qa 0), .int p1] : List Value).toArray s 0 0 (fun z => s.heap.size ≤ z)) (F0 m 4 ls []) := by
    intro n
    induction n with
    | zero =>
      intro k x2 x3 H locs ls et h1 h2
      exfalso; omega
    | succ n ih =>
      intro k x2 x3 H locs ls et h1 h2 hF hP hS hl
      refine lv_iload_n hx hb d_W_kindsOf_4 rfl (lv_at hl 1 rfl) ?_
      refine lv_aload_n hx hb d_W_kindsOf_5 rfl (lv_at hl 2 rfl) ?_
      refine va_get (D := (dC, dI)) (ci := 0) (v := .int (w.2 3)) (C := R_W) (T := F_W) (N := 10) hx hb hts i_W hown hK hP 0 rfl rfl 9 (by decide) (hts _ k_3) (fun _ h9 => h9) rfl d_W_kindsOf_6 ?_
      refine lv_icmp_gt (tgt := 37) hx hb d_W_kindsOf_9 (by decide) (fun c_1 => ?_) (fun c_1 => ?_)
      · have c_1 : (w.2 3) < x3 := c_1
        refine lv_iload_n hx hb d_W_kindsOf_37 rfl (lv_at hl 0 rfl) ?_
        exact W.iret (v := x2) hx hb hr (fun t ht hW => ⟨⟨x2, (), rfl, by rw [← hF, lr_W_kindsOf_s, if_pos c_1], trivial⟩, hS.F ht⟩) hS.2.2 d_W_kindsOf_38
      · have c_1 : ¬ ((w.2 3) < x3) := c_1
        refine lv_aload_n hx hb d_W_kindsOf_12 rfl (lv_at hl 2 rfl) ?_
        refine va_get (D := (dC, dI)) (ci := 0) (v := .ref (qa 6)) (C := R_W) (T := F_W) (N := 10) hx hb hts i_W hown hK hP 0 rfl rfl 5 (by decide) (hts _ k_14) (fun _ h9 => h9) rfl d_W_kindsOf_13 ?_
        refine lv_iload_n hx hb d_W_kindsOf_16 rfl (lv_at hl 1 rfl) ?_
        have hi_2 : vp_in x3 13 := by first | with_reducible assumption | exact in_et et (le12 et h2 (by with_reducible assumption)) | exact in_et et (lt12 et h2 (by with_reducible assumption)) | exact in_et et (leCnt hw et h2 (by with_reducible assumption)) | exact in_et et (lePar et h2 (by with_reducible assumption) (by with_reducible assumption)) | exact in_et et (ltPar et h2 (by with_reducible assumption) (by with_reducible assumption)) | exact in_et et h2
        refine va_iald (D := (dC, dI)) (f := (w.1 5)) hx hb hK hP 6 5 rfl rfl hi_2 d_W_kindsOf_17 ?_
        refine lv_iload_n hx hb d_W_kindsOf_18 rfl (lv_at hl 3 rfl) ?_
        refine va_calli (va_runSN (As := [.int ((w.1 5) x3.toNatClampNeg), .int p1]) (rest := []) ⟨hx, hb, hml, hown, hts⟩ (c_O_holds l dC dI  H.size   ((w.1 5) x3.toNatClampNeg) p1) ⟨va_cnB 2 hts k_g2 rfl rfl rfl (hN _ k_5 rfl) (hts _ k_6) (by decide +kernel) ⟨Nat.le_of_ble_eq_true rfl, Nat.le_of_ble_eq_true rfl⟩, hts _ k_7, trivial⟩ ⟨fb_ro, fun U hU hW => ⟨rfl, by rw [hU], by rw [hU]; exact hP.sub (ws' := ([] : va_W)) [] rfl, va_K.moved hW.alike (hK.sub (tys' := []) [] rfl), NX.warm hW hN⟩⟩ rfl rfl hl.1 rfl (lv_room (Nat.le_of_ble_eq_true rfl)) d_W_kindsOf_19 ⟨Nat.zero_le _, Nat.zero_le _⟩) hS (fun z h1 h2 => absurd h1 (Nat.not_lt.mpr h2)) (fun z h => hA z (Nat.le_trans hS.1 h)) (fun r u t H1 locs ht hvm hpo hB hz1 hk1 hS => ?_)
        subst hpo
        have hP := kp_P hP hk1
        generalize H1 = H at hP hS ⊢
        refine lv_if_eq (tgt := 31) hx hb d_W_kindsOf_22 (by decide) (fun c_3 => ?_) (fun c_3 => ?_)
        · have c_3 : (f_O_holds ((w.1 5) x3.toNatClampNeg) p1) = (0 : Int32) := c_3
          refine lv_iinc (v := (x3 + (1 : Int32))) (lv' := [(3, .int (x3 + (1 : Int32))), (2, .int x2), (0, .ref (qa 0)), (1, .int p1)]) hx hb d_W_kindsOf_31 hl (k := 1) rfl (by rw [of_p1]) (by decide) rfl (fun ls hl => ?_)
          refine lv_goto (tgt := 4) hx hb d_W_kindsOf_34 (by decide) ?_
          exact ih (k + 1) x2 (x3 + (1 : Int32)) _ _ _ (by rw [et]; exact nI_1 k) (by omega) (by first | exact Nat.succ_le_succ (le12 et h2 (by with_reducible assumption)) | exact Nat.succ_le_succ (lt12 et h2 (by with_reducible assumption)) | exact Nat.succ_le_succ (leCnt hw et h2 (by with_reducible assumption)) | exact Nat.succ_le_succ (Nat.le_trans (Nat.le_of_lt (ltDc hw et h2 (by with_reducible assumption) (by with_reducible assumption))) (by decide)) | exact Nat.succ_le_succ (lePar et h2 (by with_reducible assumption) (by with_reducible assumption)) | exact Nat.succ_le_succ (ltPar et h2 (by with_reducible assumption) (by with_reducible assumption))) (by rw [← hF, lr_W_kindsOf_s, if_neg c_1, if_pos c_3]) hP hS (lv_sub hl [1, 0, 2, 3] rfl)
        · have c_3 : ¬ ((f_O_holds ((w.1 5) x3.toNatClampNeg) p1) = (0 : Int32)) := c_3
          refine lv_iload_n hx hb d_W_kindsOf_25 rfl (lv_at hl 0 rfl) ?_
          refine lv_iconst (v := (1 : Int32)) hx hb d_W_kindsOf_26 (by decide +kernel) ?_
          refine lv_iload_n hx hb d_W_kindsOf_27 rfl (lv_at hl 1 rfl) ?_
          refine lv_ishl hx hb d_W_kindsOf_28 ?_
          refine lv_ior hx hb d_W_kindsOf_29 ?_
          refine lv_istore_n (lv' := [(2, .int (x2 ||| ((1 : Int32) <<< (x3 &&& (31 : Int32))))), (3, .int x3), (0, .ref (qa 0)), (1, .int p1)]) hx hb d_W_kindsOf_30 rfl hl (by decide) rfl (fun ls hl => ?_)
          refine lv_iinc (v := (x3 + (1 : Int32))) (lv' := [(3, .int (x3 + (1 : Int32))), (2, .int (x2 ||| ((1 : Int32) <<< (x3 &&& (31 : Int32))))), (0, .ref (qa 0)), (1, .int p1)]) hx hb d_W_kindsOf_31 hl (k := 1) rfl (by rw [of_p1]) (by decide) rfl (fun ls hl => ?_)
          refine lv_goto (tgt := 4) hx hb d_W_kindsOf_34 (by decide) ?_
          exact ih (k + 1) (x2 ||| ((1 : Int32) <<< (x3 &&& (31 : Int32)))) (x3 + (1 : Int32)) _ _ _ (by rw [et]; exact nI_1 k) (by omega) (by first | exact Nat.succ_le_succ (le12 et h2 (by with_reducible assumption)) | exact Nat.succ_le_succ (lt12 et h2 (by with_reducible assumption)) | exact Nat.succ_le_succ (leCnt hw et h2 (by with_reducible assumption)) | exact Nat.succ_le_succ (Nat.le_trans (Nat.le_of_lt (ltDc hw et h2 (by with_reducible assumption) (by with_reducible assumption))) (by decide)) | exact Nat.succ_le_succ (lePar et h2 (by with_reducible assumption) (by with_reducible assumption)) | exact Nat.succ_le_succ (ltPar et h2 (by with_reducible assumption) (by with_reducible assumption))) (by rw [← hF, lr_W_kindsOf_s, if_neg c_1, if_neg c_3]) hP hS (lv_sub hl [1, 0, 2, 3] rfl)
  exact LOOP 14 p1.toNatClampNeg (0 : Int32) p1 _ _ _ (in_k hp1) (by omega) (Nat.le_of_lt (in_lt hp1)) (rfl) hP hS (lv_sub hl [1, 0, 2, 3] rfl)
set_option maxHeartbeats 4000000 in
set_option maxRecDepth 100000 in
theorem c_W_nextToSearch (l : Launch) (dC : Nat → ClassId) (dI : Nat → Nat → Nat) (ka : Nat → ClassId) (qa : Nat → Nat) (sz : Nat) (w : WS) (p1 p2 : Int32) (hw : WF w) (hp1 : vp_in p1 13) : Met l y_W_nextToSearch w_W_nextToSearch ({ frames := 1, cells := 0, slots := 0, locals := 22 } : Room) (ro_P dC dI (wW ka qa w) (tW ka) sz [.ref (qa 0), .int p1, .int p2]) (ro_Q sz (f_W_nextToSearch w p1 p2)) 0 0 (fun z => sz ≤ z) := by
  refine Met.ofW (cc := b_W_nextToSearch) (maxL := 5) (ret := (some .int)) (by decide) rfl ?_
  intro p e s m args below meth c s₁ B hml hv
  obtain ⟨rfl, hsz, hP, hK, hN⟩ := hv
  have hx := B.exec
  have hb := B.bytes
  have hr := B.returns
  have hts := tl_of (atoms_spec (ws := w_W_nextToSearch) B.pre)
  have hown : s.vm.findClass R_W = some m.cls := findClass_of_methodNamed B.named
  have hlocks := B.notSynchronized
  subst hsz
  have hA : ∀ z : Nat, s.heap.size ≤ z → (fun z : Nat => s.heap.size ≤ z) z := fun _ h => h
  have hS : va_S (fun z : Nat => s.heap.size ≤ z) s.heap s.heap [] := va_S.rf
  have hl := lv_entry ([.ref (qa 0), .int p1, .int p2]) (n := 5) (Nat.le_of_ble_eq_true rfl)
  rw [lg_entry_eq]
  generalize (lg_sl ([.ref (qa 0), .int p1, .int p2]) ++ List.replicate (5 - (lg_sl ([.ref (qa 0), .int p1, .int p2])).length) Slot.unset).toArray = ls at hl ⊢
  have hl : lv_has ls 5 [(0, .ref (qa 0)), (1, .int p1), (2, .int p2)] := hl
  refine lv_iconst (v := (0 : Int32)) hx hb d_W_nextToSearch_0 (by decide +kernel) ?_
  refine lv_istore_n (lv' := [(3, .int (0 : Int32)), (0, .ref (qa 0)), (1, .int p1), (2, .int p2)]) hx hb d_W_nextToSearch_1 rfl hl (by decide) rfl (fun ls hl => ?_)
  have LOOP : ∀ (n k : Nat) (x3 : Int32) (H : Heap) (locs : List Loc) (ls : Array Slot), x3 = nI k → 14 ≤ k + n → k ≤ 13 → lr_W_nextToSearch w p1 p2 n x3 = (f_W_nextToSearch w p1 p2) → va_P (dC, dI) classes (wW ka qa w) H → va_S (fun z : Nat => s.heap.size ≤ z) s.heap H locs → lv_has ls 5 [(3, .int x3), (0, .ref (qa 0)), (1, .int p1), (2, .int p2)] → W p l e (headSpec w_W_nextToSearch ({ frames := 1, cells := 0, slots := 0, locals := 22 } : Room)).room s m ([.ref (qa 0), .int p1, .int p2] : List Value).toArray below meth c H locs 0 0 (MQ below (ro_Q s.heap.size (f_W_nextToSearch w p1 p2)) ([.ref (qa 0), .int p1, .int p2] : List Value).toArray s 0 0 (fun z => s.heap.size ≤ z)) (F0 m 2 ls []) := by
    intro n
    induction n with
    | zero =>
      intro k x3 H locs ls et h1 h2
      exfalso; omega
    | succ n ih =>
      intro k x3 H locs ls et h1 h2 hF hP hS hl
      refine lv_iload_n hx hb d_W_nextToSearch_2 rfl (lv_at hl 0 rfl) ?_
      refine lv_aload_n hx hb d_W_nextToSearch_3 rfl (lv_at hl 1 rfl) ?_
      refine va_get (D := (dC, dI)) (ci := 0) (v := .ref (qa 4)) (C := R_W) (T := F_W) (N := 10) hx hb hts i_W hown hK hP 0 rfl rfl 3 (by decide) (hts _ k_9) (fun _ h9 => h9) rfl d_W_nextToSearch_4 ?_
      refine lv_iload_n hx hb d_W_nextToSearch_7 rfl (lv_at hl 2 rfl) ?_
      have hi_1 : vp_in p1 13 := by first | with_reducible assumption | exact in_has hw (by with_reducible assumption) | exact in_cls hw (by with_reducible assumption) | exact in_ifc hw (by with_reducible assumption) | exact in_ext hw (by with_reducible assumption) | exact in_eq0 (by with_reducible assumption) | exact hfd (by with_reducible assumption) | exact in_rcv hw (by with_reducible assumption) (Or.inl (by with_reducible assumption)) | exact in_rcv hw (by with_reducible assumption) (Or.inr (by with_reducible assumption))
      refine va_iald (D := (dC, dI)) (f := (w.1 3)) hx hb hK hP 4 3 rfl rfl hi_1 d_W_nextToSearch_8 ?_
      refine lv_icmp_ge (tgt := 41) hx hb d_W_nextToSearch_9 (by decide) (fun c_2 => ?_) (fun c_2 => ?_)
      · have c_2 : ((w.1 3) p1.toNatClampNeg) ≤ x3 := c_2
        refine lv_aload_n hx hb d_W_nextToSearch_41 rfl (lv_at hl 1 rfl) ?_
        refine va_get (D := (dC, dI)) (ci := 0) (v := .ref (qa 1)) (C := R_W) (T := F_W) (N := 10) hx hb hts i_W hown hK hP 0 rfl rfl 0 (by decide) (hts _ k_11) (fun _ h9 => h9) rfl d_W_nextToSearch_42 ?_
        refine lv_iload_n hx hb d_W_nextToSearch_45 rfl (lv_at hl 2 rfl) ?_
        have hi_3 : vp_in p1 13 := by assumption
        refine va_iald (D := (dC, dI)) (f := (w.1 0)) hx hb hK hP 1 0 rfl rfl hi_3 d_W_nextToSearch_46 ?_
        exact W.iret (v := ((w.1 0) p1.toNatClampNeg)) hx hb hr (fun t ht hW => ⟨⟨((w.1 0) p1.toNatClampNeg), (), rfl, by rw [← hF, lr_W_nextToSearch_s, if_pos c_2], trivial⟩, hS.F ht⟩) hS.2.2 d_W_nextToSearch_47
      · have c_2 : ¬ (((w.1 3) p1.toNatClampNeg) ≤ x3) := c_2
        refine lv_aload_n hx hb d_W_nextToSearch_12 rfl (lv_at hl 1 rfl) ?_
        refine lv_iload_n hx hb d_W_nextToSearch_13 rfl (lv_at hl 2 rfl) ?_
        refine lv_iload_n hx hb d_W_nextToSearch_14 rfl (lv_at hl 0 rfl) ?_
        have hq_4 : vp_in ((p1 * (4 : Int32)) + x3) 52 := by first | with_reducible assumption | exact in_dc (by with_reducible assumption) et (ltDc hw et h2 (by with_reducible assumption) (by with_reducible assumption))
        refine va_calli (va_runV (As := [.int p1, .int x3]) (rest := []) ⟨hx, hb, hml, hown, hts⟩ (c_W_directAt l dC dI ka qa H.size w  p1 x3 hq_4) (cwV 2 hts k_g5 rfl rfl rfl (by decide +kernel) ⟨Nat.le_of_ble_eq_true rfl, Nat.le_of_ble_eq_true rfl⟩) ⟨fb_ro, va_recv hK hP (ci := 0) (q0 := 0) rfl rfl, fun U hU hW => ⟨rfl, by rw [hU], by rw [hU]; exact hP.sub (ws' := (wW ka qa w)) [0, 1, 2, 3, 4, 5, 6] rfl, va_K.moved hW.alike (hK.sub (tys' := (tW ka)) [0, 1, 2, 3, 4, 5] rfl), NX.warm hW hN⟩⟩ rfl rfl hl.1 rfl (lv_room (Nat.le_of_ble_eq_true rfl)) d_W_nextToSearch_15 ⟨Nat.zero_le _, Nat.zero_le _⟩) hS (fun z h1 h2 => absurd h1 (Nat.not_lt.mpr h2)) (fun z h => hA z (Nat.le_trans hS.1 h)) (fun r u t H1 locs ht hvm hpo hB hz1 hk1 hS => ?_)
        subst hpo
        have hP := kp_P hP hk1
        generalize H1 = H at hP hS ⊢
        refine lv_istore (lv' := [(4, .int (f_W_directAt w p1 x3)), (3, .int x3), (0, .ref (qa 0)), (1, .int p1), (2, .int p2)]) hx hb d_W_nextToSearch_18 hl (by decide) rfl (fun ls hl => ?_)
        refine lv_aload_n hx hb d_W_nextToSearch_20 rfl (lv_at hl 2 rfl) ?_
        refine va_get (D := (dC, dI)) (ci := 0) (v := .ref (qa 6)) (C := R_W) (T := F_W) (N := 10) hx hb hts i_W hown hK hP 0 rfl rfl 5 (by decide) (hts _ k_14) (fun _ h9 => h9) rfl d_W_nextToSearch_21 ?_
        refine lv_iload hx hb d_W_nextToSearch_24 (lv_at hl 0 rfl) ?_
        have hi_5 : vp_in (f_W_directAt w p1 x3) 13 := by exact wf_dir hw (by assumption)
        refine va_iald (D := (dC, dI)) (f := (w.1 5)) hx hb hK hP 6 5 rfl rfl hi_5 d_W_nextToSearch_26 ?_
        refine lv_iload_n hx hb d_W_nextToSearch_27 rfl (lv_at hl 4 rfl) ?_
        refine lv_iand hx hb d_W_nextToSearch_28 ?_
        refine lv_if_eq (tgt := 35) hx hb d_W_nextToSearch_29 (by decide) (fun c_6 => ?_) (fun c_6 => ?_)
        · have c_6 : (((w.1 5) (f_W_directAt w p1 x3).toNatClampNeg) &&& p2) = (0 : Int32) := c_6
          refine lv_iinc (v := (x3 + (1 : Int32))) (lv' := [(3, .int (x3 + (1 : Int32))), (4, .int (f_W_directAt w p1 x3)), (0, .ref (qa 0)), (1, .int p1), (2, .int p2)]) hx hb d_W_nextToSearch_35 hl (k := 1) rfl (by rw [of_p1]) (by decide) rfl (fun ls hl => ?_)
          refine lv_goto (tgt := 2) hx hb d_W_nextToSearch_38 (by decide) ?_
          exact ih (k + 1) (x3 + (1 : Int32)) _ _ _ (by rw [et]; exact nI_1 k) (by omega) (by first | exact Nat.succ_le_succ (le12 et h2 (by with_reducible assumption)) | exact Nat.succ_le_succ (lt12 et h2 (by with_reducible assumption)) | exact Nat.succ_le_succ (leCnt hw et h2 (by with_reducible assumption)) | exact Nat.succ_le_succ (Nat.le_trans (Nat.le_of_lt (ltDc hw et h2 (by with_reducible assumption) (by with_reducible assumption))) (by decide)) | exact Nat.succ_le_succ (lePar et h2 (by with_reducible assumption) (by with_reducible assumption)) | exact Nat.succ_le_succ (ltPar et h2 (by with_reducible assumption) (by with_reducible assumption))) (by rw [← hF, lr_W_nextToSearch_s, if_neg c_2, if_pos c_6]) hP hS (lv_sub hl [0, 2, 3, 4] rfl)
        · have c_6 : ¬ ((((w.1 5) (f_W_directAt w p1 x3).toNatClampNeg) &&& p2) = (0 : Int32)) := c_6
          refine lv_iload hx hb d_W_nextToSearch_32 (lv_at hl 0 rfl) ?_
          exact W.iret (v := (f_W_directAt w p1 x3)) hx hb hr (fun t ht hW => ⟨⟨(f_W_directAt w p1 x3), (), rfl, by rw [← hF, lr_W_nextToSearch_s, if_neg c_2, if_neg c_6], trivial⟩, hS.F ht⟩) hS.2.2 d_W_nextToSearch_34
  exact LOOP 14 0 (0 : Int32) _ _ _ (rfl) (by omega) (by omega) (rfl) hP hS (lv_sub hl [0, 1, 2, 3] rfl)
set_option maxHeartbeats 4000000 in
set_option maxRecDepth 100000 in
theorem c_W_search (l : Launch) (dC : Nat → ClassId) (dI : Nat → Nat → Nat) (ka : Nat → ClassId) (qa : Nat → Nat) (sz : Nat) (w : WS) (p1 p2 : Int32) (hw : WF w) (hp1 : vp_in p1 13) : Met l y_W_search w_W_search ({ frames := 2, cells := 0, slots := 0, locals := 46 } : Room) (ro_P dC dI (wW ka qa w) (tW ka) sz [.ref (qa 0), .int p1, .int p2]) (ro_Q sz (f_W_search w p1 p2)) 0 0 (fun z => sz ≤ z) := by
  refine Met.ofW (cc := b_W_search) (maxL := 5) (ret := (some .int)) (by decide) rfl ?_
  intro p e s m args below meth c s₁ B hml hv
  obtain ⟨rfl, hsz, hP, hK, hN⟩ := hv
  have hx := B.exec
  have hb := B.bytes
  have hr := B.returns
  have hts := tl_of (atoms_spec (ws := w_W_search) B.pre)
  have hown : s.vm.findClass R_W = some m.cls := findClass_of_methodNamed B.named
  have hlocks := B.notSynchronized
  subst hsz
  have hA : ∀ z : Nat, s.heap.size ≤ z → (fun z : Nat => s.heap.size ≤ z) z := fun _ h => h
  have hS : va_S (fun z : Nat => s.heap.size ≤ z) s.heap s.heap [] := va_S.rf
  have hl := lv_entry ([.ref (qa 0), .int p1, .int p2]) (n := 5) (Nat.le_of_ble_eq_true rfl)
  rw [lg_entry_eq]
  generalize (lg_sl ([.ref (qa 0), .int p1, .int p2]) ++ List.replicate (5 - (lg_sl ([.ref (qa 0), .int p1, .int p2])).length) Slot.unset).toArray = ls at hl ⊢
  have hl : lv_has ls 5 [(0, .ref (qa 0)), (1, .int p1), (2, .int p2)] := hl
  refine lv_iload_n hx hb d_W_search_0 rfl (lv_at hl 1 rfl) ?_
  refine lv_istore_n (lv' := [(3, .int p1), (0, .ref (qa 0)), (1, .int p1), (2, .int p2)]) hx hb d_W_search_1 rfl hl (by decide) rfl (fun ls hl => ?_)
  refine lv_iconst (v := (0 : Int32)) hx hb d_W_search_2 (by decide +kernel) ?_
  refine lv_istore (lv' := [(4, .int (0 : Int32)), (3, .int p1), (0, .ref (qa 0)), (1, .int p1), (2, .int p2)]) hx hb d_W_search_3 hl (by decide) rfl (fun ls hl => ?_)
  have LOOP : ∀ (n k : Nat) (x3 : Int32) (x4 : Int32) (H : Heap) (locs : List Loc) (ls : Array Slot), x4 = nI k → 14 ≤ k + n → k ≤ 13 → vp_in x3 13 → lr_W_search w p1 p2 n x3 x4 = (f_W_search w p1 p2) → va_P (dC, dI) classes (wW ka qa w) H → va_S (fun z : Nat => s.heap.size ≤ z) s.heap H locs → lv_has ls 5 [(3, .int x3), (4, .int x4), (0, .ref (qa 0)), (1, .int p1), (2, .int p2)] → W p l e (headSpec w_W_search ({ frames := 2, cells := 0, slots := 0, locals := 46 } : Room)).room s m ([.ref (qa 0), .int p1, .int p2] : List Value).toArray below meth c H locs 0 0 (MQ below (ro_Q s.heap.size (f_W_search w p1 p2)) ([.ref (qa 0), .int p1, .int p2] : List Value).toArray s 0 0 (fun z => s.heap.size ≤ z)) (F0 m 5 ls []) := by
    intro n
    induction n with
    | zero =>
      intro k x3 x4 H locs ls et h1 h2 ha
      exfalso; omega
    | succ n ih =>
      intro k x3 x4 H locs ls et h1 h2 ha hF hP hS hl
      refine lv_iload hx hb d_W_search_5 (lv_at hl 1 rfl) ?_
      refine lv_bipush (v := (12 : Int32)) hx hb d_W_search_7 (by decide +kernel) ?_
      refine lv_icmp_ge (tgt := 46) hx hb d_W_search_9 (by decide) (fun c_1 => ?_) (fun c_1 => ?_)
      · have c_1 : (12 : Int32) ≤ x4 := c_1
        refine lv_iconst (v := (0 : Int32)) hx hb d_W_search_46 (by decide +kernel) ?_
        exact W.iret (v := (0 : Int32)) hx hb hr (fun t ht hW => ⟨⟨(0 : Int32), (), rfl, by rw [← hF, lr_W_search_s, if_pos c_1], trivial⟩, hS.F ht⟩) hS.2.2 d_W_search_47
      · have c_1 : ¬ ((12 : Int32) ≤ x4) := c_1
        refine lv_aload_n hx hb d_W_search_12 rfl (lv_at hl 2 rfl) ?_
        refine va_get (D := (dC, dI)) (ci := 0) (v := .ref (qa 6)) (C := R_W) (T := F_W) (N := 10) hx hb hts i_W hown hK hP 0 rfl rfl 5 (by decide) (hts _ k_14) (fun _ h9 => h9) rfl d_W_search_13 ?_
        refine lv_iload_n hx hb d_W_search_16 rfl (lv_at hl 0 rfl) ?_
        have hi_2 : vp_in x3 13 := by exact ha
        refine va_iald (D := (dC, dI)) (f := (w.1 5)) hx hb hK hP 6 5 rfl rfl hi_2 d_W_search_17 ?_
        refine lv_iload_n hx hb d_W_search_18 rfl (lv_at hl 4 rfl) ?_
        refine lv_iand hx hb d_W_search_19 ?_
        refine lv_if_eq (tgt := 46) hx hb d_W_search_20 (by decide) (fun c_3 => ?_) (fun c_3 => ?_)
        · have c_3 : (((w.1 5) x3.toNatClampNeg) &&& p2) = (0 : Int32) := c_3
          refine lv_iconst (v := (0 : Int32)) hx hb d_W_search_46 (by decide +kernel) ?_
          exact W.iret (v := (0 : Int32)) hx hb hr (fun t ht hW => ⟨⟨(0 : Int32), (), rfl, by rw [← hF, lr_W_search_s, if_neg c_1, if_pos c_3], trivial⟩, hS.F ht⟩) hS.2.2 d_W_search_47
        · have c_3 : ¬ ((((w.1 5) x3.toNatClampNeg) &&& p2) = (0 : Int32)) := c_3
          refine lv_iload_n hx hb d_W_search_23 rfl (lv_at hl 4 rfl) ?_
          refine lv_iload_n hx hb d_W_search_24 rfl (lv_at hl 0 rfl) ?_
          refine va_calli (va_runSN (As := [.int p2, .int x3]) (rest := []) ⟨hx, hb, hml, hown, hts⟩ (c_O_holds l dC dI  H.size   p2 x3) ⟨va_cnB 2 hts k_g2 rfl rfl rfl (hN _ k_5 rfl) (hts _ k_6) (by decide +kernel) ⟨Nat.le_of_ble_eq_true rfl, Nat.le_of_ble_eq_true rfl⟩, hts _ k_7, trivial⟩ ⟨fb_ro, fun U hU hW => ⟨rfl, by rw [hU], by rw [hU]; exact hP.sub (ws' := ([] : va_W)) [] rfl, va_K.moved hW.alike (hK.sub (tys' := []) [] rfl), NX.warm hW hN⟩⟩ rfl rfl hl.1 rfl (lv_room (Nat.le_of_ble_eq_true rfl)) d_W_search_25 ⟨Nat.zero_le _, Nat.zero_le _⟩) hS (fun z h1 h2 => absurd h1 (Nat.not_lt.mpr h2)) (fun z h => hA z (Nat.le_trans hS.1 h)) (fun r u t H1 locs ht hvm hpo hB hz1 hk1 hS => ?_)
          subst hpo
          have hP := kp_P hP hk1
          generalize H1 = H at hP hS ⊢
          refine lv_if_eq (tgt := 33) hx hb d_W_search_28 (by decide) (fun c_4 => ?_) (fun c_4 => ?_)
          · have c_4 : (f_O_holds p2 x3) = (0 : Int32) := c_4
            refine lv_aload_n hx hb d_W_search_33 rfl (lv_at hl 2 rfl) ?_
            refine lv_iload_n hx hb d_W_search_34 rfl (lv_at hl 0 rfl) ?_
            refine lv_iload_n hx hb d_W_search_35 rfl (lv_at hl 4 rfl) ?_
            have hq_5 : WF w := by first | with_reducible assumption | exact hw
            have hq_6 : vp_in x3 13 := by exact ha
            refine va_calli (va_runV (As := [.int x3, .int p2]) (rest := []) ⟨hx, hb, hml, hown, hts⟩ (c_W_nextToSearch l dC dI ka qa H.size w  x3 p2 hq_5 hq_6) (cwV 2 hts k_g6 rfl rfl rfl (by decide +kernel) ⟨Nat.le_of_ble_eq_true rfl, Nat.le_of_ble_eq_true rfl⟩) ⟨fb_ro, va_recv hK hP (ci := 0) (q0 := 0) rfl rfl, fun U hU hW => ⟨rfl, by rw [hU], by rw [hU]; exact hP.sub (ws' := (wW ka qa w)) [0, 1, 2, 3, 4, 5, 6] rfl, va_K.moved hW.alike (hK.sub (tys' := (tW ka)) [0, 1, 2, 3, 4, 5] rfl), NX.warm hW hN⟩⟩ rfl rfl hl.1 rfl (lv_room (Nat.le_of_ble_eq_true rfl)) d_W_search_36 ⟨Nat.zero_le _, Nat.zero_le _⟩) hS (fun z h1 h2 => absurd h1 (Nat.not_lt.mpr h2)) (fun z h => hA z (Nat.le_trans hS.1 h)) (fun r u t H1 locs ht hvm hpo hB hz1 hk1 hS => ?_)
            subst hpo
            have hP := kp_P hP hk1
            generalize H1 = H at hP hS ⊢
            refine lv_istore_n (lv' := [(3, .int (f_W_nextToSearch w x3 p2)), (4, .int x4), (0, .ref (qa 0)), (1, .int p1), (2, .int p2)]) hx hb d_W_search_39 rfl hl (by decide) rfl (fun ls hl => ?_)
            refine lv_iinc (v := (x4 + (1 : Int32))) (lv' := [(4, .int (x4 + (1 : Int32))), (3, .int (f_W_nextToSearch w x3 p2)), (0, .ref (qa 0)), (1, .int p1), (2, .int p2)]) hx hb d_W_search_40 hl (k := 1) rfl (by rw [of_p1]) (by decide) rfl (fun ls hl => ?_)
            refine lv_goto (tgt := 5) hx hb d_W_search_43 (by decide) ?_
            exact ih (k + 1) (f_W_nextToSearch w x3 p2) (x4 + (1 : Int32)) _ _ _ (by rw [et]; exact nI_1 k) (by omega) (by first | exact Nat.succ_le_succ (le12 et h2 (by with_reducible assumption)) | exact Nat.succ_le_succ (lt12 et h2 (by with_reducible assumption)) | exact Nat.succ_le_succ (leCnt hw et h2 (by with_reducible assumption)) | exact Nat.succ_le_succ (Nat.le_trans (Nat.le_of_lt (ltDc hw et h2 (by with_reducible assumption) (by with_reducible assumption))) (by decide)) | exact Nat.succ_le_succ (lePar et h2 (by with_reducible assumption) (by with_reducible assumption)) | exact Nat.succ_le_succ (ltPar et h2 (by with_reducible assumption) (by with_reducible assumption))) (in_next hw ha) (by rw [← hF, lr_W_search_s, if_neg c_1, if_neg c_3, if_pos c_4]) hP hS (lv_sub hl [1, 0, 2, 3, 4] rfl)
          · have c_4 : ¬ ((f_O_holds p2 x3) = (0 : Int32)) := c_4
            refine lv_iload_n hx hb d_W_search_31 rfl (lv_at hl 0 rfl) ?_
            exact W.iret (v := x3) hx hb hr (fun t ht hW => ⟨⟨x3, (), rfl, by rw [← hF, lr_W_search_s, if_neg c_1, if_neg c_3, if_neg c_4], trivial⟩, hS.F ht⟩) hS.2.2 d_W_search_32
  exact LOOP 14 0 p1 (0 : Int32) _ _ _ (rfl) (by omega) (by omega) (hp1) (rfl) hP hS (lv_sub hl [1, 0, 2, 3, 4] rfl)
end
section
set_option maxHeartbeats 4000000 in
set_option maxRecDepth 100000 in
theorem c_W_setHost (l : Launch) (dC : Nat → ClassId) (dI : Nat → Nat → Nat) (ka : Nat → ClassId) (qa : Nat → Nat) (sz : Nat) (w : WS) (p1 p2 : Int32) (hp1 : vp_in p1 13) : Met l y_W_setHost w_W_setHost ({ frames := 0, cells := 0, slots := 0, locals := 0 } : Room) (mu_P dC dI (wW ka qa w) (tW ka) sz [.ref (qa 0), .int p1, .int p2]) (mu_Qv (fun (S9 : WS) => (wW ka qa S9)) dC dI (s_W_setHost w p1 p2) (va_A (wW ka qa w) sz)) 0 0 (va_A (wW ka qa w) sz) := by
  refine Met.ofW (cc := b_W_setHost) (maxL := 3) (ret := none) (by decide) rfl ?_
  intro p e s m args below meth c s₁ B hml hv
  obtain ⟨rfl, hsz, hP, hK, hN, hD0⟩ := hv
  have hx := B.exec
  have hb := B.bytes
  have hr := B.returns
  have hts := tl_of (atoms_spec (ws := w_W_setHost) B.pre)
  have hown : s.vm.findClass R_W = some m.cls := findClass_of_methodNamed B.named
  have hlocks := B.notSynchronized
  subst hsz
  have hD := hD0.self (sz := s.heap.size)
  generalize hAe : va_A (wW ka qa w) s.heap.size = A at hD ⊢
  have hA : ∀ q : Nat, s.heap.size ≤ q → A q := fun q h => by rw [← hAe]; exact Or.inr h
  have hS : va_S A s.heap s.heap [] := va_S.rf
  have hl := lv_entry ([.ref (qa 0), .int p1, .int p2]) (n := 3) (Nat.le_of_ble_eq_true rfl)
  rw [lg_entry_eq]
  generalize (lg_sl ([.ref (qa 0), .int p1, .int p2]) ++ List.replicate (3 - (lg_sl ([.ref (qa 0), .int p1, .int p2])).length) Slot.unset).toArray = ls at hl ⊢
  have hl : lv_has ls 3 [(0, .ref (qa 0)), (1, .int p1), (2, .int p2)] := hl
  refine lv_aload_n hx hb d_W_setHost_0 rfl (lv_at hl 0 rfl) ?_
  refine va_get (D := (dC, dI)) (ci := 0) (v := .ref (qa 3)) (C := R_W) (T := F_W) (N := 10) hx hb hts i_W hown hK hP 0 rfl rfl 2 (by decide) (hts _ k_13) (fun _ h9 => h9) rfl d_W_setHost_1 ?_
  refine lv_iload_n hx hb d_W_setHost_4 rfl (lv_at hl 1 rfl) ?_
  refine lv_iload_n hx hb d_W_setHost_5 rfl (lv_at hl 2 rfl) ?_
  have hi_1 : vp_in p1 13 := by first | with_reducible assumption | exact in_has hw (by with_reducible assumption) | exact in_cls hw (by with_reducible assumption) | exact in_ifc hw (by with_reducible assumption) | exact in_ext hw (by with_reducible assumption) | exact in_eq0 (by with_reducible assumption) | exact hfd (by with_reducible assumption) | exact in_rcv hw (by with_reducible assumption) (Or.inl (by with_reducible assumption)) | exact in_rcv hw (by with_reducible assumption) (Or.inr (by with_reducible assumption))
  refine va_iast (D := (dC, dI)) (f := (w.1 2)) hx hb hK hP hD hS 3 2 rfl rfl hi_1 d_W_setHost_6 (fun H locs hP hD hS => ?_)
  have hP : va_P (dC, dI) classes ([(qa 0, .inr (0, [.ref (qa 1), .ref (qa 2), .ref (qa 3), .ref (qa 4), .ref (qa 5), .ref (qa 6), .int (w.2 0), .int (w.2 1), .int (w.2 2), .int (w.2 3)])), (qa 1, .inl (ka 0, 13, .inl (w.1 0))), (qa 2, .inl (ka 1, 13, .inl (w.1 1))), (qa 3, .inl (ka 2, 13, .inl (upd (w.1 2) p1.toNatClampNeg p2))), (qa 4, .inl (ka 3, 13, .inl (w.1 3))), (qa 5, .inl (ka 4, 52, .inl (w.1 4))), (qa 6, .inl (ka 5, 13, .inl (w.1 5)))] : va_W) H := hP
  have hD : va_D A ([(qa 0, .inr (0, [.ref (qa 1), .ref (qa 2), .ref (qa 3), .ref (qa 4), .ref (qa 5), .ref (qa 6), .int (w.2 0), .int (w.2 1), .int (w.2 2), .int (w.2 3)])), (qa 1, .inl (ka 0, 13, .inl (w.1 0))), (qa 2, .inl (ka 1, 13, .inl (w.1 1))), (qa 3, .inl (ka 2, 13, .inl (upd (w.1 2) p1.toNatClampNeg p2))), (qa 4, .inl (ka 3, 13, .inl (w.1 3))), (qa 5, .inl (ka 4, 52, .inl (w.1 4))), (qa 6, .inl (ka 5, 13, .inl (w.1 5)))] : va_W) := hD
  have hP := wW_mk hP
  have hD := wW_mkD hD
  have hP9 : va_P (dC, dI) classes (wW ka qa (mk6 (w.1 0) (w.1 1) (upd (w.1 2) p1.toNatClampNeg p2) (w.1 3) (w.1 4) (w.1 5), mk4 (w.2 0) (w.2 1) (w.2 2) (w.2 3))) H := hP
  exact W.vret hx hb hr (fun t ht hW => ⟨⟨(mk6 (w.1 0) (w.1 1) (upd (w.1 2) p1.toNatClampNeg p2) (w.1 3) (w.1 4) (w.1 5), mk4 (w.2 0) (w.2 1) (w.2 2) (w.2 3)), rfl, (rfl), hp_at ht hP9⟩, hS.F ht⟩) hS.2.2 d_W_setHost_7
set_option maxHeartbeats 4000000 in
set_option maxRecDepth 100000 in
theorem c_W_addType (l : Launch) (dC : Nat → ClassId) (dI : Nat → Nat → Nat) (ka : Nat → ClassId) (qa : Nat → Nat) (sz : Nat) (w : WS) (p1 p2 p3 : Int32) (hp1 : vp_in p1 13) (hc : vp_in ((w.2 3) + (1 : Int32)) 13) : Met l y_W_addType w_W_addType ({ frames := 0, cells := 0, slots := 0, locals := 0 } : Room) (mu_P dC dI (wW ka qa w) (tW ka) sz [.ref (qa 0), .int p1, .int p2, .int p3]) (mu_Q (fun (S9 : WS) => (wW ka qa S9)) dC dI (f_W_addType w p1 p2 p3) (s_W_addType w p1 p2 p3) (va_A (wW ka qa w) sz)) 0 0 (va_A (wW ka qa w) sz) := by
  refine Met.ofW (cc := b_W_addType) (maxL := 4) (ret := (some .int)) (by decide) rfl ?_
  intro p e s m args below meth c s₁ B hml hv
  obtain ⟨rfl, hsz, hP, hK, hN, hD0⟩ := hv
  have hx := B.exec
  have hb := B.bytes
  have hr := B.returns
  have hts := tl_of (atoms_spec (ws := w_W_addType) B.pre)
  have hown : s.vm.findClass R_W = some m.cls := findClass_of_methodNamed B.named
  have hlocks := B.notSynchronized
  subst hsz
  have hD := hD0.self (sz := s.heap.size)
  generalize hAe : va_A (wW ka qa w) s.heap.size = A at hD ⊢
  have hA : ∀ q : Nat, s.heap.size ≤ q → A q := fun q h => by rw [← hAe]; exact Or.inr h
  have hS : va_S A s.heap s.heap [] := va_S.rf
  have hl := lv_entry ([.ref (qa 0), .int p1, .int p2, .int p3]) (n := 4) (Nat.le_of_ble_eq_true rfl)
  rw [lg_entry_eq]
  generalize (lg_sl ([.ref (qa 0), .int p1, .int p2, .int p3]) ++ List.replicate (4 - (lg_sl ([.ref (qa 0), .int p1, .int p2, .int p3])).length) Slot.unset).toArray = ls at hl ⊢
  have hl : lv_has ls 4 [(0, .ref (qa 0)), (1, .int p1), (2, .int p2), (3, .int p3)] := hl
  refine lv_aload_n hx hb d_W_addType_0 rfl (lv_at hl 0 rfl) ?_
  refine lv_dup hx hb d_W_addType_1 rfl ?_
  refine va_get (D := (dC, dI)) (ci := 0) (v := .int (w.2 3)) (C := R_W) (T := F_W) (N := 10) hx hb hts i_W hown hK hP 0 rfl rfl 9 (by decide) (hts _ k_3) (fun _ h9 => h9) rfl d_W_addType_2 ?_
  refine lv_iconst (v := (1 : Int32)) hx hb d_W_addType_5 (by decide +kernel) ?_
  refine lv_iadd hx hb d_W_addType_6 ?_
  refine va_put (D := (dC, dI)) (ci := 0) (v := .int ((w.2 3) + (1 : Int32))) (ty := .int) (C := R_W) (T := F_W) (N := 10) hx hb hts i_W t_W t_W_ok n_W hown hK hP hD hS 0 rfl rfl 9 (by decide) (hts _ k_3) (fun _ h9 => h9) rfl (by decide +kernel) rfl rfl (Nat.le_of_ble_eq_true rfl) d_W_addType_7 (fun H locs hP hD hS => ?_)
  have hP : va_P (dC, dI) classes ([(qa 0, .inr (0, [.ref (qa 1), .ref (qa 2), .ref (qa 3), .ref (qa 4), .ref (qa 5), .ref (qa 6), .int (w.2 0), .int (w.2 1), .int (w.2 2), .int ((w.2 3) + (1 : Int32))])), (qa 1, .inl (ka 0, 13, .inl (w.1 0))), (qa 2, .inl (ka 1, 13, .inl (w.1 1))), (qa 3, .inl (ka 2, 13, .inl (w.1 2))), (qa 4, .inl (ka 3, 13, .inl (w.1 3))), (qa 5, .inl (ka 4, 52, .inl (w.1 4))), (qa 6, .inl (ka 5, 13, .inl (w.1 5)))] : va_W) H := hP
  have hD : va_D A ([(qa 0, .inr (0, [.ref (qa 1), .ref (qa 2), .ref (qa 3), .ref (qa 4), .ref (qa 5), .ref (qa 6), .int (w.2 0), .int (w.2 1), .int (w.2 2), .int ((w.2 3) + (1 : Int32))])), (qa 1, .inl (ka 0, 13, .inl (w.1 0))), (qa 2, .inl (ka 1, 13, .inl (w.1 1))), (qa 3, .inl (ka 2, 13, .inl (w.1 2))), (qa 4, .inl (ka 3, 13, .inl (w.1 3))), (qa 5, .inl (ka 4, 52, .inl (w.1 4))), (qa 6, .inl (ka 5, 13, .inl (w.1 5)))] : va_W) := hD
  refine lv_aload_n hx hb d_W_addType_10 rfl (lv_at hl 0 rfl) ?_
  refine va_get (D := (dC, dI)) (ci := 0) (v := .ref (qa 1)) (C := R_W) (T := F_W) (N := 10) hx hb hts i_W hown hK hP 0 rfl rfl 0 (by decide) (hts _ k_11) (fun _ h9 => h9) rfl d_W_addType_11 ?_
  refine lv_aload_n hx hb d_W_addType_14 rfl (lv_at hl 0 rfl) ?_
  refine va_get (D := (dC, dI)) (ci := 0) (v := .int ((w.2 3) + (1 : Int32))) (C := R_W) (T := F_W) (N := 10) hx hb hts i_W hown hK hP 0 rfl rfl 9 (by decide) (hts _ k_3) (fun _ h9 => h9) rfl d_W_addType_15 ?_
  refine lv_iload_n hx hb d_W_addType_18 rfl (lv_at hl 1 rfl) ?_
  have hi_1 : vp_in ((w.2 3) + (1 : Int32)) 13 := by first | with_reducible assumption | exact in_has hw (by with_reducible assumption) | exact in_cls hw (by with_reducible assumption) | exact in_ifc hw (by with_reducible assumption) | exact in_ext hw (by with_reducible assumption) | exact in_eq0 (by with_reducible assumption) | exact hfd (by with_reducible assumption) | exact in_rcv hw (by with_reducible assumption) (Or.inl (by with_reducible assumption)) | exact in_rcv hw (by with_reducible assumption) (Or.inr (by with_reducible assumption))
  refine va_iast (D := (dC, dI)) (f := (w.1 0)) hx hb hK hP hD hS 1 0 rfl rfl hi_1 d_W_addType_19 (fun H locs hP hD hS => ?_)
  have hP : va_P (dC, dI) classes ([(qa 0, .inr (0, [.ref (qa 1), .ref (qa 2), .ref (qa 3), .ref (qa 4), .ref (qa 5), .ref (qa 6), .int (w.2 0), .int (w.2 1), .int (w.2 2), .int ((w.2 3) + (1 : Int32))])), (qa 1, .inl (ka 0, 13, .inl (upd (w.1 0) ((w.2 3) + (1 : Int32)).toNatClampNeg p1))), (qa 2, .inl (ka 1, 13, .inl (w.1 1))), (qa 3, .inl (ka 2, 13, .inl (w.1 2))), (qa 4, .inl (ka 3, 13, .inl (w.1 3))), (qa 5, .inl (ka 4, 52, .inl (w.1 4))), (qa 6, .inl (ka 5, 13, .inl (w.1 5)))] : va_W) H := hP
  have hD : va_D A ([(qa 0, .inr (0, [.ref (qa 1), .ref (qa 2), .ref (qa 3), .ref (qa 4), .ref (qa 5), .ref (qa 6), .int (w.2 0), .int (w.2 1), .int (w.2 2), .int ((w.2 3) + (1 : Int32))])), (qa 1, .inl (ka 0, 13, .inl (upd (w.1 0) ((w.2 3) + (1 : Int32)).toNatClampNeg p1))), (qa 2, .inl (ka 1, 13, .inl (w.1 1))), (qa 3, .inl (ka 2, 13, .inl (w.1 2))), (qa 4, .inl (ka 3, 13, .inl (w.1 3))), (qa 5, .inl (ka 4, 52, .inl (w.1 4))), (qa 6, .inl (ka 5, 13, .inl (w.1 5)))] : va_W) := hD
  refine lv_aload_n hx hb d_W_addType_20 rfl (lv_at hl 0 rfl) ?_
  refine va_get (D := (dC, dI)) (ci := 0) (v := .ref (qa 2)) (C := R_W) (T := F_W) (N := 10) hx hb hts i_W hown hK hP 0 rfl rfl 1 (by decide) (hts _ k_12) (fun _ h9 => h9) rfl d_W_addType_21 ?_
  refine lv_aload_n hx hb d_W_addType_24 rfl (lv_at hl 0 rfl) ?_
  refine va_get (D := (dC, dI)) (ci := 0) (v := .int ((w.2 3) + (1 : Int32))) (C := R_W) (T := F_W) (N := 10) hx hb hts i_W hown hK hP 0 rfl rfl 9 (by decide) (hts _ k_3) (fun _ h9 => h9) rfl d_W_addType_25 ?_
  refine lv_iload_n hx hb d_W_addType_28 rfl (lv_at hl 2 rfl) ?_
  have hi_2 : vp_in ((w.2 3) + (1 : Int32)) 13 := by first | with_reducible assumption | exact in_has hw (by with_reducible assumption) | exact in_cls hw (by with_reducible assumption) | exact in_ifc hw (by with_reducible assumption) | exact in_ext hw (by with_reducible assumption) | exact in_eq0 (by with_reducible assumption) | exact hfd (by with_reducible assumption) | exact in_rcv hw (by with_reducible assumption) (Or.inl (by with_reducible assumption)) | exact in_rcv hw (by with_reducible assumption) (Or.inr (by with_reducible assumption))
  refine va_iast (D := (dC, dI)) (f := (w.1 1)) hx hb hK hP hD hS 2 1 rfl rfl hi_2 d_W_addType_29 (fun H locs hP hD hS => ?_)
  have hP : va_P (dC, dI) classes ([(qa 0, .inr (0, [.ref (qa 1), .ref (qa 2), .ref (qa 3), .ref (qa 4), .ref (qa 5), .ref (qa 6), .int (w.2 0), .int (w.2 1), .int (w.2 2), .int ((w.2 3) + (1 : Int32))])), (qa 1, .inl (ka 0, 13, .inl (upd (w.1 0) ((w.2 3) + (1 : Int32)).toNatClampNeg p1))), (qa 2, .inl (ka 1, 13, .inl (upd (w.1 1) ((w.2 3) + (1 : Int32)).toNatClampNeg p2))), (qa 3, .inl (ka 2, 13, .inl (w.1 2))), (qa 4, .inl (ka 3, 13, .inl (w.1 3))), (qa 5, .inl (ka 4, 52, .inl (w.1 4))), (qa 6, .inl (ka 5, 13, .inl (w.1 5)))] : va_W) H := hP
  have hD : va_D A ([(qa 0, .inr (0, [.ref (qa 1), .ref (qa 2), .ref (qa 3), .ref (qa 4), .ref (qa 5), .ref (qa 6), .int (w.2 0), .int (w.2 1), .int (w.2 2), .int ((w.2 3) + (1 : Int32))])), (qa 1, .inl (ka 0, 13, .inl (upd (w.1 0) ((w.2 3) + (1 : Int32)).toNatClampNeg p1))), (qa 2, .inl (ka 1, 13, .inl (upd (w.1 1) ((w.2 3) + (1 : Int32)).toNatClampNeg p2))), (qa 3, .inl (ka 2, 13, .inl (w.1 2))), (qa 4, .inl (ka 3, 13, .inl (w.1 3))), (qa 5, .inl (ka 4, 52, .inl (w.1 4))), (qa 6, .inl (ka 5, 13, .inl (w.1 5)))] : va_W) := hD
  refine lv_aload_n hx hb d_W_addType_30 rfl (lv_at hl 0 rfl) ?_
  refine va_get (D := (dC, dI)) (ci := 0) (v := .ref (qa 3)) (C := R_W) (T := F_W) (N := 10) hx hb hts i_W hown hK hP 0 rfl rfl 2 (by decide) (hts _ k_13) (fun _ h9 => h9) rfl d_W_addType_31 ?_
  refine lv_aload_n hx hb d_W_addType_34 rfl (lv_at hl 0 rfl) ?_
  refine va_get (D := (dC, dI)) (ci := 0) (v := .int ((w.2 3) + (1 : Int32))) (C := R_W) (T := F_W) (N := 10) hx hb hts i_W hown hK hP 0 rfl rfl 9 (by decide) (hts _ k_3) (fun _ h9 => h9) rfl d_W_addType_35 ?_
  refine lv_aload_n hx hb d_W_addType_38 rfl (lv_at hl 0 rfl) ?_
  refine va_get (D := (dC, dI)) (ci := 0) (v := .int ((w.2 3) + (1 : Int32))) (C := R_W) (T := F_W) (N := 10) hx hb hts i_W hown hK hP 0 rfl rfl 9 (by decide) (hts _ k_3) (fun _ h9 => h9) rfl d_W_addType_39 ?_
  have hi_3 : vp_in ((w.2 3) + (1 : Int32)) 13 := by first | with_reducible assumption | exact in_has hw (by with_reducible assumption) | exact in_cls hw (by with_reducible assumption) | exact in_ifc hw (by with_reducible assumption) | exact in_ext hw (by with_reducible assumption) | exact in_eq0 (by with_reducible assumption) | exact hfd (by with_reducible assumption) | exact in_rcv hw (by with_reducible assumption) (Or.inl (by with_reducible assumption)) | exact in_rcv hw (by with_reducible assumption) (Or.inr (by with_reducible assumption))
  refine va_iast (D := (dC, dI)) (f := (w.1 2)) hx hb hK hP hD hS 3 2 rfl rfl hi_3 d_W_addType_42 (fun H locs hP hD hS => ?_)
  have hP : va_P (dC, dI) classes ([(qa 0, .inr (0, [.ref (qa 1), .ref (qa 2), .ref (qa 3), .ref (qa 4), .ref (qa 5), .ref (qa 6), .int (w.2 0), .int (w.2 1), .int (w.2 2), .int ((w.2 3) + (1 : Int32))])), (qa 1, .inl (ka 0, 13, .inl (upd (w.1 0) ((w.2 3) + (1 : Int32)).toNatClampNeg p1))), (qa 2, .inl (ka 1, 13, .inl (upd (w.1 1) ((w.2 3) + (1 : Int32)).toNatClampNeg p2))), (qa 3, .inl (ka 2, 13, .inl (upd (w.1 2) ((w.2 3) + (1 : Int32)).toNatClampNeg ((w.2 3) + (1 : Int32))))), (qa 4, .inl (ka 3, 13, .inl (w.1 3))), (qa 5, .inl (ka 4, 52, .inl (w.1 4))), (qa 6, .inl (ka 5, 13, .inl (w.1 5)))] : va_W) H := hP
  have hD : va_D A ([(qa 0, .inr (0, [.ref (qa 1), .ref (qa 2), .ref (qa 3), .ref (qa 4), .ref (qa 5), .ref (qa 6), .int (w.2 0), .int (w.2 1), .int (w.2 2), .int ((w.2 3) + (1 : Int32))])), (qa 1, .inl (ka 0, 13, .inl (upd (w.1 0) ((w.2 3) + (1 : Int32)).toNatClampNeg p1))), (qa 2, .inl (ka 1, 13, .inl (upd (w.1 1) ((w.2 3) + (1 : Int32)).toNatClampNeg p2))), (qa 3, .inl (ka 2, 13, .inl (upd (w.1 2) ((w.2 3) + (1 : Int32)).toNatClampNeg ((w.2 3) + (1 : Int32))))), (qa 4, .inl (ka 3, 13, .inl (w.1 3))), (qa 5, .inl (ka 4, 52, .inl (w.1 4))), (qa 6, .inl (ka 5, 13, .inl (w.1 5)))] : va_W) := hD
  refine lv_aload_n hx hb d_W_addType_43 rfl (lv_at hl 0 rfl) ?_
  refine va_get (D := (dC, dI)) (ci := 0) (v := .ref (qa 6)) (C := R_W) (T := F_W) (N := 10) hx hb hts i_W hown hK hP 0 rfl rfl 5 (by decide) (hts _ k_14) (fun _ h9 => h9) rfl d_W_addType_44 ?_
  refine lv_aload_n hx hb d_W_addType_47 rfl (lv_at hl 0 rfl) ?_
  refine va_get (D := (dC, dI)) (ci := 0) (v := .int ((w.2 3) + (1 : Int32))) (C := R_W) (T := F_W) (N := 10) hx hb hts i_W hown hK hP 0 rfl rfl 9 (by decide) (hts _ k_3) (fun _ h9 => h9) rfl d_W_addType_48 ?_
  refine lv_aload_n hx hb d_W_addType_51 rfl (lv_at hl 0 rfl) ?_
  refine va_get (D := (dC, dI)) (ci := 0) (v := .ref (qa 6)) (C := R_W) (T := F_W) (N := 10) hx hb hts i_W hown hK hP 0 rfl rfl 5 (by decide) (hts _ k_14) (fun _ h9 => h9) rfl d_W_addType_52 ?_
  refine lv_iload_n hx hb d_W_addType_55 rfl (lv_at hl 1 rfl) ?_
  have hi_4 : vp_in p1 13 := by first | with_reducible assumption | exact in_has hw (by with_reducible assumption) | exact in_cls hw (by with_reducible assumption) | exact in_ifc hw (by with_reducible assumption) | exact in_ext hw (by with_reducible assumption) | exact in_eq0 (by with_reducible assumption) | exact hfd (by with_reducible assumption) | exact in_rcv hw (by with_reducible assumption) (Or.inl (by with_reducible assumption)) | exact in_rcv hw (by with_reducible assumption) (Or.inr (by with_reducible assumption))
  refine va_iald (D := (dC, dI)) (f := (w.1 5)) hx hb hK hP 6 5 rfl rfl hi_4 d_W_addType_56 ?_
  refine lv_iconst (v := (1 : Int32)) hx hb d_W_addType_57 (by decide +kernel) ?_
  refine lv_aload_n hx hb d_W_addType_58 rfl (lv_at hl 0 rfl) ?_
  refine va_get (D := (dC, dI)) (ci := 0) (v := .int ((w.2 3) + (1 : Int32))) (C := R_W) (T := F_W) (N := 10) hx hb hts i_W hown hK hP 0 rfl rfl 9 (by decide) (hts _ k_3) (fun _ h9 => h9) rfl d_W_addType_59 ?_
  refine lv_ishl hx hb d_W_addType_62 ?_
  refine lv_ior hx hb d_W_addType_63 ?_
  have hi_5 : vp_in ((w.2 3) + (1 : Int32)) 13 := by first | with_reducible assumption | exact in_has hw (by with_reducible assumption) | exact in_cls hw (by with_reducible assumption) | exact in_ifc hw (by with_reducible assumption) | exact in_ext hw (by with_reducible assumption) | exact in_eq0 (by with_reducible assumption) | exact hfd (by with_reducible assumption) | exact in_rcv hw (by with_reducible assumption) (Or.inl (by with_reducible assumption)) | exact in_rcv hw (by with_reducible assumption) (Or.inr (by with_reducible assumption))
  refine va_iast (D := (dC, dI)) (f := (w.1 5)) hx hb hK hP hD hS 6 5 rfl rfl hi_5 d_W_addType_64 (fun H locs hP hD hS => ?_)
  have hP : va_P (dC, dI) classes ([(qa 0, .inr (0, [.ref (qa 1), .ref (qa 2), .ref (qa 3), .ref (qa 4), .ref (qa 5), .ref (qa 6), .int (w.2 0), .int (w.2 1), .int (w.2 2), .int ((w.2 3) + (1 : Int32))])), (qa 1, .inl (ka 0, 13, .inl (upd (w.1 0) ((w.2 3) + (1 : Int32)).toNatClampNeg p1))), (qa 2, .inl (ka 1, 13, .inl (upd (w.1 1) ((w.2 3) + (1 : Int32)).toNatClampNeg p2))), (qa 3, .inl (ka 2, 13, .inl (upd (w.1 2) ((w.2 3) + (1 : Int32)).toNatClampNeg ((w.2 3) + (1 : Int32))))), (qa 4, .inl (ka 3, 13, .inl (w.1 3))), (qa 5, .inl (ka 4, 52, .inl (w.1 4))), (qa 6, .inl (ka 5, 13, .inl (upd (w.1 5) ((w.2 3) + (1 : Int32)).toNatClampNeg (((w.1 5) p1.toNatClampNeg) ||| ((1 : Int32) <<< (((w.2 3) + (1 : Int32)) &&& (31 : Int32)))))))] : va_W) H := hP
  have hD : va_D A ([(qa 0, .inr (0, [.ref (qa 1), .ref (qa 2), .ref (qa 3), .ref (qa 4), .ref (qa 5), .ref (qa 6), .int (w.2 0), .int (w.2 1), .int (w.2 2), .int ((w.2 3) + (1 : Int32))])), (qa 1, .inl (ka 0, 13, .inl (upd (w.1 0) ((w.2 3) + (1 : Int32)).toNatClampNeg p1))), (qa 2, .inl (ka 1, 13, .inl (upd (w.1 1) ((w.2 3) + (1 : Int32)).toNatClampNeg p2))), (qa 3, .inl (ka 2, 13, .inl (upd (w.1 2) ((w.2 3) + (1 : Int32)).toNatClampNeg ((w.2 3) + (1 : Int32))))), (qa 4, .inl (ka 3, 13, .inl (w.1 3))), (qa 5, .inl (ka 4, 52, .inl (w.1 4))), (qa 6, .inl (ka 5, 13, .inl (upd (w.1 5) ((w.2 3) + (1 : Int32)).toNatClampNeg (((w.1 5) p1.toNatClampNeg) ||| ((1 : Int32) <<< (((w.2 3) + (1 : Int32)) &&& (31 : Int32)))))))] : va_W) := hD
  refine lv_iload_n hx hb d_W_addType_65 rfl (lv_at hl 3 rfl) ?_
  refine lv_if_eq (tgt := 84) hx hb d_W_addType_66 (by decide) (fun c_6 => ?_) (fun c_6 => ?_)
  · have c_6 : p3 = (0 : Int32) := c_6
    refine lv_aload_n hx hb d_W_addType_84 rfl (lv_at hl 0 rfl) ?_
    refine va_get (D := (dC, dI)) (ci := 0) (v := .int ((w.2 3) + (1 : Int32))) (C := R_W) (T := F_W) (N := 10) hx hb hts i_W hown hK hP 0 rfl rfl 9 (by decide) (hts _ k_3) (fun _ h9 => h9) rfl d_W_addType_85 ?_
    have hP := wW_mk hP
    have hD := wW_mkD hD
    have hP9 : va_P (dC, dI) classes (wW ka qa (mk6 (upd (w.1 0) ((w.2 3) + (1 : Int32)).toNatClampNeg p1) (upd (w.1 1) ((w.2 3) + (1 : Int32)).toNatClampNeg p2) (upd (w.1 2) ((w.2 3) + (1 : Int32)).toNatClampNeg ((w.2 3) + (1 : Int32))) (w.1 3) (w.1 4) (upd (w.1 5) ((w.2 3) + (1 : Int32)).toNatClampNeg (((w.1 5) p1.toNatClampNeg) ||| ((1 : Int32) <<< (((w.2 3) + (1 : Int32)) &&& (31 : Int32))))), mk4 (w.2 0) (w.2 1) (w.2 2) ((w.2 3) + (1 : Int32)))) H := hP
    exact W.iret (v := ((w.2 3) + (1 : Int32))) hx hb hr (fun t ht hW => ⟨⟨((w.2 3) + (1 : Int32)), (mk6 (upd (w.1 0) ((w.2 3) + (1 : Int32)).toNatClampNeg p1) (upd (w.1 1) ((w.2 3) + (1 : Int32)).toNatClampNeg p2) (upd (w.1 2) ((w.2 3) + (1 : Int32)).toNatClampNeg ((w.2 3) + (1 : Int32))) (w.1 3) (w.1 4) (upd (w.1 5) ((w.2 3) + (1 : Int32)).toNatClampNeg (((w.1 5) p1.toNatClampNeg) ||| ((1 : Int32) <<< (((w.2 3) + (1 : Int32)) &&& (31 : Int32))))), mk4 (w.2 0) (w.2 1) (w.2 2) ((w.2 3) + (1 : Int32))), rfl, ⟨by unfold f_W_addType; rw [if_pos c_6], by unfold s_W_addType; rw [if_pos c_6]⟩, hp_at ht hP9⟩, hS.F ht⟩) hS.2.2 d_W_addType_88
  · have c_6 : ¬ (p3 = (0 : Int32)) := c_6
    refine lv_aload_n hx hb d_W_addType_69 rfl (lv_at hl 0 rfl) ?_
    refine lv_dup hx hb d_W_addType_70 rfl ?_
    refine va_get (D := (dC, dI)) (ci := 0) (v := .int (w.2 0)) (C := R_W) (T := F_W) (N := 10) hx hb hts i_W hown hK hP 0 rfl rfl 6 (by decide) (hts _ k_15) (fun _ h9 => h9) rfl d_W_addType_71 ?_
    refine lv_iconst (v := (1 : Int32)) hx hb d_W_addType_74 (by decide +kernel) ?_
    refine lv_aload_n hx hb d_W_addType_75 rfl (lv_at hl 0 rfl) ?_
    refine va_get (D := (dC, dI)) (ci := 0) (v := .int ((w.2 3) + (1 : Int32))) (C := R_W) (T := F_W) (N := 10) hx hb hts i_W hown hK hP 0 rfl rfl 9 (by decide) (hts _ k_3) (fun _ h9 => h9) rfl d_W_addType_76 ?_
    refine lv_ishl hx hb d_W_addType_79 ?_
    refine lv_ior hx hb d_W_addType_80 ?_
    refine va_put (D := (dC, dI)) (ci := 0) (v := .int ((w.2 0) ||| ((1 : Int32) <<< (((w.2 3) + (1 : Int32)) &&& (31 : Int32))))) (ty := .int) (C := R_W) (T := F_W) (N := 10) hx hb hts i_W t_W t_W_ok n_W hown hK hP hD hS 0 rfl rfl 6 (by decide) (hts _ k_15) (fun _ h9 => h9) rfl (by decide +kernel) rfl rfl (Nat.le_of_ble_eq_true rfl) d_W_addType_81 (fun H locs hP hD hS => ?_)
    have hP : va_P (dC, dI) classes ([(qa 0, .inr (0, [.ref (qa 1), .ref (qa 2), .ref (qa 3), .ref (qa 4), .ref (qa 5), .ref (qa 6), .int ((w.2 0) ||| ((1 : Int32) <<< (((w.2 3) + (1 : Int32)) &&& (31 : Int32)))), .int (w.2 1), .int (w.2 2), .int ((w.2 3) + (1 : Int32))])), (qa 1, .inl (ka 0, 13, .inl (upd (w.1 0) ((w.2 3) + (1 : Int32)).toNatClampNeg p1))), (qa 2, .inl (ka 1, 13, .inl (upd (w.1 1) ((w.2 3) + (1 : Int32)).toNatClampNeg p2))), (qa 3, .inl (ka 2, 13, .inl (upd (w.1 2) ((w.2 3) + (1 : Int32)).toNatClampNeg ((w.2 3) + (1 : Int32))))), (qa 4, .inl (ka 3, 13, .inl (w.1 3))), (qa 5, .inl (ka 4, 52, .inl (w.1 4))), (qa 6, .inl (ka 5, 13, .inl (upd (w.1 5) ((w.2 3) + (1 : Int32)).toNatClampNeg (((w.1 5) p1.toNatClampNeg) ||| ((1 : Int32) <<< (((w.2 3) + (1 : Int32)) &&& (31 : Int32)))))))] : va_W) H := hP
    have hD : va_D A ([(qa 0, .inr (0, [.ref (qa 1), .ref (qa 2), .ref (qa 3), .ref (qa 4), .ref (qa 5), .ref (qa 6), .int ((w.2 0) ||| ((1 : Int32) <<< (((w.2 3) + (1 : Int32)) &&& (31 : Int32)))), .int (w.2 1), .int (w.2 2), .int ((w.2 3) + (1 : Int32))])), (qa 1, .inl (ka 0, 13, .inl (upd (w.1 0) ((w.2 3) + (1 : Int32)).toNatClampNeg p1))), (qa 2, .inl (ka 1, 13, .inl (upd (w.1 1) ((w.2 3) + (1 : Int32)).toNatClampNeg p2))), (qa 3, .inl (ka 2, 13, .inl (upd (w.1 2) ((w.2 3) + (1 : Int32)).toNatClampNeg ((w.2 3) + (1 : Int32))))), (qa 4, .inl (ka 3, 13, .inl (w.1 3))), (qa 5, .inl (ka 4, 52, .inl (w.1 4))), (qa 6, .inl (ka 5, 13, .inl (upd (w.1 5) ((w.2 3) + (1 : Int32)).toNatClampNeg (((w.1 5) p1.toNatClampNeg) ||| ((1 : Int32) <<< (((w.2 3) + (1 : Int32)) &&& (31 : Int32)))))))] : va_W) := hD
    refine lv_aload_n hx hb d_W_addType_84 rfl (lv_at hl 0 rfl) ?_
    refine va_get (D := (dC, dI)) (ci := 0) (v := .int ((w.2 3) + (1 : Int32))) (C := R_W) (T := F_W) (N := 10) hx hb hts i_W hown hK hP 0 rfl rfl 9 (by decide) (hts _ k_3) (fun _ h9 => h9) rfl d_W_addType_85 ?_
    have hP := wW_mk hP
    have hD := wW_mkD hD
    have hP9 : va_P (dC, dI) classes (wW ka qa (mk6 (upd (w.1 0) ((w.2 3) + (1 : Int32)).toNatClampNeg p1) (upd (w.1 1) ((w.2 3) + (1 : Int32)).toNatClampNeg p2) (upd (w.1 2) ((w.2 3) + (1 : Int32)).toNatClampNeg ((w.2 3) + (1 : Int32))) (w.1 3) (w.1 4) (upd (w.1 5) ((w.2 3) + (1 : Int32)).toNatClampNeg (((w.1 5) p1.toNatClampNeg) ||| ((1 : Int32) <<< (((w.2 3) + (1 : Int32)) &&& (31 : Int32))))), mk4 ((w.2 0) ||| ((1 : Int32) <<< (((w.2 3) + (1 : Int32)) &&& (31 : Int32)))) (w.2 1) (w.2 2) ((w.2 3) + (1 : Int32)))) H := hP
    exact W.iret (v := ((w.2 3) + (1 : Int32))) hx hb hr (fun t ht hW => ⟨⟨((w.2 3) + (1 : Int32)), (mk6 (upd (w.1 0) ((w.2 3) + (1 : Int32)).toNatClampNeg p1) (upd (w.1 1) ((w.2 3) + (1 : Int32)).toNatClampNeg p2) (upd (w.1 2) ((w.2 3) + (1 : Int32)).toNatClampNeg ((w.2 3) + (1 : Int32))) (w.1 3) (w.1 4) (upd (w.1 5) ((w.2 3) + (1 : Int32)).toNatClampNeg (((w.1 5) p1.toNatClampNeg) ||| ((1 : Int32) <<< (((w.2 3) + (1 : Int32)) &&& (31 : Int32))))), mk4 ((w.2 0) ||| ((1 : Int32) <<< (((w.2 3) + (1 : Int32)) &&& (31 : Int32)))) (w.2 1) (w.2 2) ((w.2 3) + (1 : Int32))), rfl, ⟨by unfold f_W_addType; rw [if_neg c_6], by unfold s_W_addType; rw [if_neg c_6]⟩, hp_at ht hP9⟩, hS.F ht⟩) hS.2.2 d_W_addType_88
set_option maxHeartbeats 4000000 in
set_option maxRecDepth 100000 in
theorem c_W_addClass (l : Launch) (dC : Nat → ClassId) (dI : Nat → Nat → Nat) (ka : Nat → ClassId) (qa : Nat → Nat) (sz : Nat) (w : WS) (p1 p2 p3 p4 : Int32) (hp1 : vp_in p1 13) (hc : vp_in ((w.2 3) + (1 : Int32)) 13) : Met l y_W_addClass w_W_addClass ({ frames := 1, cells := 0, slots := 0, locals := 23 } : Room) (mu_P dC dI (wW ka qa w) (tW ka) sz [.ref (qa 0), .int p1, .int p2, .int p3, .int p4]) (mu_Q (fun (S9 : WS) => (wW ka qa S9)) dC dI (f_W_addClass w p1 p2 p3 p4) (s_W_addClass w p1 p2 p3 p4) (va_A (wW ka qa w) sz)) 0 0 (va_A (wW ka qa w) sz) := by
  refine Met.ofW (cc := b_W_addClass) (maxL := 6) (ret := (some .int)) (by decide) rfl ?_
  intro p e s m args below meth c s₁ B hml hv
  obtain ⟨rfl, hsz, hP, hK, hN, hD0⟩ := hv
  have hx := B.exec
  have hb := B.bytes
  have hr := B.returns
  have hts := tl_of (atoms_spec (ws := w_W_addClass) B.pre)
  have hown : s.vm.findClass R_W = some m.cls := findClass_of_methodNamed B.named
  have hlocks := B.notSynchronized
  subst hsz
  have hD := hD0.self (sz := s.heap.size)
  generalize hAe : va_A (wW ka qa w) s.heap.size = A at hD ⊢
  have hA : ∀ q : Nat, s.heap.size ≤ q → A q := fun q h => by rw [← hAe]; exact Or.inr h
  have hS : va_S A s.heap s.heap [] := va_S.rf
  have hl := lv_entry ([.ref (qa 0), .int p1, .int p2, .int p3, .int p4]) (n := 6) (Nat.le_of_ble_eq_true rfl)
  rw [lg_entry_eq]
  generalize (lg_sl ([.ref (qa 0), .int p1, .int p2, .int p3, .int p4]) ++ List.replicate (6 - (lg_sl ([.ref (qa 0), .int p1, .int p2, .int p3, .int p4])).length) Slot.unset).toArray = ls at hl ⊢
  have hl : lv_has ls 6 [(0, .ref (qa 0)), (1, .int p1), (2, .int p2), (3, .int p3), (4, .int p4)] := hl
  refine lv_aload_n hx hb d_W_addClass_0 rfl (lv_at hl 0 rfl) ?_
  refine lv_iload_n hx hb d_W_addClass_1 rfl (lv_at hl 1 rfl) ?_
  refine lv_iload_n hx hb d_W_addClass_2 rfl (lv_at hl 2 rfl) ?_
  refine lv_iload_n hx hb d_W_addClass_3 rfl (lv_at hl 3 rfl) ?_
  have hq_1 : vp_in p1 13 := by first | with_reducible assumption | exact in_has hw (by with_reducible assumption) | exact in_cls hw (by with_reducible assumption) | exact in_ifc hw (by with_reducible assumption) | exact in_ext hw (by with_reducible assumption) | exact in_eq0 (by with_reducible assumption) | exact hfd (by with_reducible assumption) | exact in_rcv hw (by with_reducible assumption) (Or.inl (by with_reducible assumption)) | exact in_rcv hw (by with_reducible assumption) (Or.inr (by with_reducible assumption))
  have hq_2 : vp_in ((w.2 3) + (1 : Int32)) 13 := by first | with_reducible assumption | exact in_full hw (by with_reducible assumption)
  have hPc := hP.sub (ws' := (wW ka qa w)) [0, 1, 2, 3, 4, 5, 6] rfl
  have hDc := hD.sub (ws' := (wW ka qa w)) [0, 1, 2, 3, 4, 5, 6] (by decide) rfl
  have hFc := va_free (wc := (wW ka qa w)) hD hS hA [0, 1, 2, 3, 4, 5, 6] rfl
  refine va_calli (va_runV (As := [.int p1, .int p2, .int p3]) (rest := []) ⟨hx, hb, hml, hown, hts⟩ (c_W_addType l dC dI ka qa s.heap.size w  p1 p2 p3 hq_1 hq_2) (cwV 3 hts k_g7 rfl rfl rfl (by decide +kernel) ⟨Nat.le_of_ble_eq_true rfl, Nat.le_of_ble_eq_true rfl⟩) ⟨fb_mu, va_recv hK hP (ci := 0) (q0 := 0) rfl rfl, fun U hU hW => ⟨rfl, by rw [hU], by rw [hU]; exact hPc, va_K.moved hW.alike (hK.sub (tys' := (tW ka)) [0, 1, 2, 3, 4, 5] rfl), NX.warm hW hN, hDc.weaken (fun _ _ _ _ => trivial)⟩⟩ rfl rfl hl.1 rfl (lv_room (Nat.le_of_ble_eq_true rfl)) d_W_addClass_4 ⟨Nat.zero_le _, Nat.zero_le _⟩) hS (fun q _ h => hFc q h) hFc (fun r u t H1 locs ht hvm hpo hB hz1 hk1 hS => ?_)
  obtain ⟨rfl, rfl⟩ := hpo
  have hB : va_P (dC, dI) classes (wW ka qa (s_W_addType w p1 p2 p3)) H1 := hp_to ht hB
  obtain ⟨hP, hD⟩ := va_join (wr := ([] : va_W)) (w1 := (wW ka qa (s_W_addType w p1 p2 p3))) hP hD [0, 1, 2, 3, 4, 5, 6] [] rfl rfl (by decide) (by decide) hk1 hFc hB (ad_D hDc.self rfl)
  have hP := hP.sub (ws' := (wW ka qa (s_W_addType w p1 p2 p3))) [0, 1, 2, 3, 4, 5, 6] rfl
  have hD := hD.sub (ws' := (wW ka qa (s_W_addType w p1 p2 p3))) [0, 1, 2, 3, 4, 5, 6] (by decide) rfl
  generalize hS_3 : (s_W_addType w p1 p2 p3) = S_3 at hP hD
  generalize H1 = H at hP hS ⊢
  refine lv_istore (lv' := [(5, .int (f_W_addType w p1 p2 p3)), (0, .ref (qa 0)), (1, .int p1), (2, .int p2), (3, .int p3), (4, .int p4)]) hx hb d_W_addClass_7 hl (by decide) rfl (fun ls hl => ?_)
  refine lv_iload hx hb d_W_addClass_9 (lv_at hl 5 rfl) ?_
  refine lv_if_eq (tgt := 27) hx hb d_W_addClass_11 (by decide) (fun c_4 => ?_) (fun c_4 => ?_)
  · have c_4 : p4 = (0 : Int32) := c_4
    refine lv_iload hx hb d_W_addClass_27 (lv_at hl 0 rfl) ?_
    have hP9 : va_P (dC, dI) classes (wW ka qa S_3) H := hP
    exact W.iret (v := (f_W_addType w p1 p2 p3)) hx hb hr (fun t ht hW => ⟨⟨(f_W_addType w p1 p2 p3), S_3, rfl, ⟨by subst hS_3; unfold f_W_addClass; rw [if_pos c_4], by subst hS_3; unfold s_W_addClass; rw [if_pos c_4]⟩, hp_at ht hP9⟩, hS.F ht⟩) hS.2.2 d_W_addClass_29
  · have c_4 : ¬ (p4 = (0 : Int32)) := c_4
    refine lv_aload_n hx hb d_W_addClass_14 rfl (lv_at hl 1 rfl) ?_
    refine lv_dup hx hb d_W_addClass_15 rfl ?_
    refine va_get (D := (dC, dI)) (ci := 0) (v := .int (S_3.2 1)) (C := R_W) (T := F_W) (N := 10) hx hb hts i_W hown hK hP 0 rfl rfl 7 (by decide) (hts _ k_8) (fun _ h9 => h9) rfl d_W_addClass_16 ?_
    refine lv_iconst (v := (1 : Int32)) hx hb d_W_addClass_19 (by decide +kernel) ?_
    refine lv_iload hx hb d_W_addClass_20 (lv_at hl 0 rfl) ?_
    refine lv_ishl hx hb d_W_addClass_22 ?_
    refine lv_ior hx hb d_W_addClass_23 ?_
    refine va_put (D := (dC, dI)) (ci := 0) (v := .int ((S_3.2 1) ||| ((1 : Int32) <<< ((f_W_addType w p1 p2 p3) &&& (31 : Int32))))) (ty := .int) (C := R_W) (T := F_W) (N := 10) hx hb hts i_W t_W t_W_ok n_W hown hK hP hD hS 0 rfl rfl 7 (by decide) (hts _ k_8) (fun _ h9 => h9) rfl (by decide +kernel) rfl rfl (Nat.le_of_ble_eq_true rfl) d_W_addClass_24 (fun H locs hP hD hS => ?_)
    have hP : va_P (dC, dI) classes ([(qa 0, .inr (0, [.ref (qa 1), .ref (qa 2), .ref (qa 3), .ref (qa 4), .ref (qa 5), .ref (qa 6), .int (S_3.2 0), .int ((S_3.2 1) ||| ((1 : Int32) <<< ((f_W_addType w p1 p2 p3) &&& (31 : Int32)))), .int (S_3.2 2), .int (S_3.2 3)])), (qa 1, .inl (ka 0, 13, .inl (S_3.1 0))), (qa 2, .inl (ka 1, 13, .inl (S_3.1 1))), (qa 3, .inl (ka 2, 13, .inl (S_3.1 2))), (qa 4, .inl (ka 3, 13, .inl (S_3.1 3))), (qa 5, .inl (ka 4, 52, .inl (S_3.1 4))), (qa 6, .inl (ka 5, 13, .inl (S_3.1 5)))] : va_W) H := hP
    have hD : va_D A ([(qa 0, .inr (0, [.ref (qa 1), .ref (qa 2), .ref (qa 3), .ref (qa 4), .ref (qa 5), .ref (qa 6), .int (S_3.2 0), .int ((S_3.2 1) ||| ((1 : Int32) <<< ((f_W_addType w p1 p2 p3) &&& (31 : Int32)))), .int (S_3.2 2), .int (S_3.2 3)])), (qa 1, .inl (ka 0, 13, .inl (S_3.1 0))), (qa 2, .inl (ka 1, 13, .inl (S_3.1 1))), (qa 3, .inl (ka 2, 13, .inl (S_3.1 2))), (qa 4, .inl (ka 3, 13, .inl (S_3.1 3))), (qa 5, .inl (ka 4, 52, .inl (S_3.1 4))), (qa 6, .inl (ka 5, 13, .inl (S_3.1 5)))] : va_W) := hD
    refine lv_iload hx hb d_W_addClass_27 (lv_at hl 0 rfl) ?_
    have hP := wW_mk hP
    have hD := wW_mkD hD
    have hP9 : va_P (dC, dI) classes (wW ka qa (mk6 (S_3.1 0) (S_3.1 1) (S_3.1 2) (S_3.1 3) (S_3.1 4) (S_3.1 5), mk4 (S_3.2 0) ((S_3.2 1) ||| ((1 : Int32) <<< ((f_W_addType w p1 p2 p3) &&& (31 : Int32)))) (S_3.2 2) (S_3.2 3))) H := hP
    exact W.iret (v := (f_W_addType w p1 p2 p3)) hx hb hr (fun t ht hW => ⟨⟨(f_W_addType w p1 p2 p3), (mk6 (S_3.1 0) (S_3.1 1) (S_3.1 2) (S_3.1 3) (S_3.1 4) (S_3.1 5), mk4 (S_3.2 0) ((S_3.2 1) ||| ((1 : Int32) <<< ((f_W_addType w p1 p2 p3) &&& (31 : Int32)))) (S_3.2 2) (S_3.2 3)), rfl, ⟨by subst hS_3; unfold f_W_addClass; rw [if_neg c_4], by subst hS_3; unfold s_W_addClass; rw [if_neg c_4]⟩, hp_at ht hP9⟩, hS.F ht⟩) hS.2.2 d_W_addClass_29
set_option maxHeartbeats 4000000 in
set_option maxRecDepth 100000 in
theorem c_W_addInterface (l : Launch) (dC : Nat → ClassId) (dI : Nat → Nat → Nat) (ka : Nat → ClassId) (qa : Nat → Nat) (sz : Nat) (w : WS) (p1 p2 : Int32) (hc : vp_in ((w.2 3) + (1 : Int32)) 13) : Met l y_W_addInterface w_W_addInterface ({ frames := 1, cells := 0, slots := 0, locals := 23 } : Room) (mu_P dC dI (wW ka qa w) (tW ka) sz [.ref (qa 0), .int p1, .int p2]) (mu_Q (fun (S9 : WS) => (wW ka qa S9)) dC dI (f_W_addInterface w p1 p2) (s_W_addInterface w p1 p2) (va_A (wW ka qa w) sz)) 0 0 (va_A (wW ka qa w) sz) := by
  refine Met.ofW (cc := b_W_addInterface) (maxL := 4) (ret := (some .int)) (by decide) rfl ?_
  intro p e s m args below meth c s₁ B hml hv
  obtain ⟨rfl, hsz, hP, hK, hN, hD0⟩ := hv
  have hx := B.exec
  have hb := B.bytes
  have hr := B.returns
  have hts := tl_of (atoms_spec (ws := w_W_addInterface) B.pre)
  have hown : s.vm.findClass R_W = some m.cls := findClass_of_methodNamed B.named
  have hlocks := B.notSynchronized
  subst hsz
  have hD := hD0.self (sz := s.heap.size)
  generalize hAe : va_A (wW ka qa w) s.heap.size = A at hD ⊢
  have hA : ∀ q : Nat, s.heap.size ≤ q → A q := fun q h => by rw [← hAe]; exact Or.inr h
  have hS : va_S A s.heap s.heap [] := va_S.rf
  have hl := lv_entry ([.ref (qa 0), .int p1, .int p2]) (n := 4) (Nat.le_of_ble_eq_true rfl)
  rw [lg_entry_eq]
  generalize (lg_sl ([.ref (qa 0), .int p1, .int p2]) ++ List.replicate (4 - (lg_sl ([.ref (qa 0), .int p1, .int p2])).length) Slot.unset).toArray = ls at hl ⊢
  have hl : lv_has ls 4 [(0, .ref (qa 0)), (1, .int p1), (2, .int p2)] := hl
  refine lv_aload_n hx hb d_W_addInterface_0 rfl (lv_at hl 0 rfl) ?_
  refine lv_iconst (v := (0 : Int32)) hx hb d_W_addInterface_1 (by decide +kernel) ?_
  refine lv_iload_n hx hb d_W_addInterface_2 rfl (lv_at hl 1 rfl) ?_
  refine lv_iload_n hx hb d_W_addInterface_3 rfl (lv_at hl 2 rfl) ?_
  have hq_1 : vp_in (0 : Int32) 13 := by exact in_0
  have hq_2 : vp_in ((w.2 3) + (1 : Int32)) 13 := by first | with_reducible assumption | exact in_full hw (by with_reducible assumption)
  have hPc := hP.sub (ws' := (wW ka qa w)) [0, 1, 2, 3, 4, 5, 6] rfl
  have hDc := hD.sub (ws' := (wW ka qa w)) [0, 1, 2, 3, 4, 5, 6] (by decide) rfl
  have hFc := va_free (wc := (wW ka qa w)) hD hS hA [0, 1, 2, 3, 4, 5, 6] rfl
  refine va_calli (va_runV (As := [.int (0 : Int32), .int p1, .int p2]) (rest := []) ⟨hx, hb, hml, hown, hts⟩ (c_W_addType l dC dI ka qa s.heap.size w  (0 : Int32) p1 p2 hq_1 hq_2) (cwV 3 hts k_g7 rfl rfl rfl (by decide +kernel) ⟨Nat.le_of_ble_eq_true rfl, Nat.le_of_ble_eq_true rfl⟩) ⟨fb_mu, va_recv hK hP (ci := 0) (q0 := 0) rfl rfl, fun U hU hW => ⟨rfl, by rw [hU], by rw [hU]; exact hPc, va_K.moved hW.alike (hK.sub (tys' := (tW ka)) [0, 1, 2, 3, 4, 5] rfl), NX.warm hW hN, hDc.weaken (fun _ _ _ _ => trivial)⟩⟩ rfl rfl hl.1 rfl (lv_room (Nat.le_of_ble_eq_true rfl)) d_W_addInterface_4 ⟨Nat.zero_le _, Nat.zero_le _⟩) hS (fun q _ h => hFc q h) hFc (fun r u t H1 locs ht hvm hpo hB hz1 hk1 hS => ?_)
  obtain ⟨rfl, rfl⟩ := hpo
  have hB : va_P (dC, dI) classes (wW ka qa (s_W_addType w (0 : Int32) p1 p2)) H1 := hp_to ht hB
  obtain ⟨hP, hD⟩ := va_join (wr := ([] : va_W)) (w1 := (wW ka qa (s_W_addType w (0 : Int32) p1 p2))) hP hD [0, 1, 2, 3, 4, 5, 6] [] rfl rfl (by decide) (by decide) hk1 hFc hB (ad_D hDc.self rfl)
  have hP := hP.sub (ws' := (wW ka qa (s_W_addType w (0 : Int32) p1 p2))) [0, 1, 2, 3, 4, 5, 6] rfl
  have hD := hD.sub (ws' := (wW ka qa (s_W_addType w (0 : Int32) p1 p2))) [0, 1, 2, 3, 4, 5, 6] (by decide) rfl
  generalize hS_3 : (s_W_addType w (0 : Int32) p1 p2) = S_3 at hP hD
  generalize H1 = H at hP hS ⊢
  refine lv_istore_n (lv' := [(3, .int (f_W_addType w (0 : Int32) p1 p2)), (0, .ref (qa 0)), (1, .int p1), (2, .int p2)]) hx hb d_W_addInterface_7 rfl hl (by decide) rfl (fun ls hl => ?_)
  refine lv_aload_n hx hb d_W_addInterface_8 rfl (lv_at hl 1 rfl) ?_
  refine lv_dup hx hb d_W_addInterface_9 rfl ?_
  refine va_get (D := (dC, dI)) (ci := 0) (v := .int (S_3.2 2)) (C := R_W) (T := F_W) (N := 10) hx hb hts i_W hown hK hP 0 rfl rfl 8 (by decide) (hts _ k_4) (fun _ h9 => h9) rfl d_W_addInterface_10 ?_
  refine lv_iconst (v := (1 : Int32)) hx hb d_W_addInterface_13 (by decide +kernel) ?_
  refine lv_iload_n hx hb d_W_addInterface_14 rfl (lv_at hl 0 rfl) ?_
  refine lv_ishl hx hb d_W_addInterface_15 ?_
  refine lv_ior hx hb d_W_addInterface_16 ?_
  refine va_put (D := (dC, dI)) (ci := 0) (v := .int ((S_3.2 2) ||| ((1 : Int32) <<< ((f_W_addType w (0 : Int32) p1 p2) &&& (31 : Int32))))) (ty := .int) (C := R_W) (T := F_W) (N := 10) hx hb hts i_W t_W t_W_ok n_W hown hK hP hD hS 0 rfl rfl 8 (by decide) (hts _ k_4) (fun _ h9 => h9) rfl (by decide +kernel) rfl rfl (Nat.le_of_ble_eq_true rfl) d_W_addInterface_17 (fun H locs hP hD hS => ?_)
  have hP : va_P (dC, dI) classes ([(qa 0, .inr (0, [.ref (qa 1), .ref (qa 2), .ref (qa 3), .ref (qa 4), .ref (qa 5), .ref (qa 6), .int (S_3.2 0), .int (S_3.2 1), .int ((S_3.2 2) ||| ((1 : Int32) <<< ((f_W_addType w (0 : Int32) p1 p2) &&& (31 : Int32)))), .int (S_3.2 3)])), (qa 1, .inl (ka 0, 13, .inl (S_3.1 0))), (qa 2, .inl (ka 1, 13, .inl (S_3.1 1))), (qa 3, .inl (ka 2, 13, .inl (S_3.1 2))), (qa 4, .inl (ka 3, 13, .inl (S_3.1 3))), (qa 5, .inl (ka 4, 52, .inl (S_3.1 4))), (qa 6, .inl (ka 5, 13, .inl (S_3.1 5)))] : va_W) H := hP
  have hD : va_D A ([(qa 0, .inr (0, [.ref (qa 1), .ref (qa 2), .ref (qa 3), .ref (qa 4), .ref (qa 5), .ref (qa 6), .int (S_3.2 0), .int (S_3.2 1), .int ((S_3.2 2) ||| ((1 : Int32) <<< ((f_W_addType w (0 : Int32) p1 p2) &&& (31 : Int32)))), .int (S_3.2 3)])), (qa 1, .inl (ka 0, 13, .inl (S_3.1 0))), (qa 2, .inl (ka 1, 13, .inl (S_3.1 1))), (qa 3, .inl (ka 2, 13, .inl (S_3.1 2))), (qa 4, .inl (ka 3, 13, .inl (S_3.1 3))), (qa 5, .inl (ka 4, 52, .inl (S_3.1 4))), (qa 6, .inl (ka 5, 13, .inl (S_3.1 5)))] : va_W) := hD
  refine lv_iload_n hx hb d_W_addInterface_20 rfl (lv_at hl 0 rfl) ?_
  have hP := wW_mk hP
  have hD := wW_mkD hD
  have hP9 : va_P (dC, dI) classes (wW ka qa (mk6 (S_3.1 0) (S_3.1 1) (S_3.1 2) (S_3.1 3) (S_3.1 4) (S_3.1 5), mk4 (S_3.2 0) (S_3.2 1) ((S_3.2 2) ||| ((1 : Int32) <<< ((f_W_addType w (0 : Int32) p1 p2) &&& (31 : Int32)))) (S_3.2 3))) H := hP
  exact W.iret (v := (f_W_addType w (0 : Int32) p1 p2)) hx hb hr (fun t ht hW => ⟨⟨(f_W_addType w (0 : Int32) p1 p2), (mk6 (S_3.1 0) (S_3.1 1) (S_3.1 2) (S_3.1 3) (S_3.1 4) (S_3.1 5), mk4 (S_3.2 0) (S_3.2 1) ((S_3.2 2) ||| ((1 : Int32) <<< ((f_W_addType w (0 : Int32) p1 p2) &&& (31 : Int32)))) (S_3.2 3)), rfl, ⟨by subst hS_3; rfl, by subst hS_3; rfl⟩, hp_at ht hP9⟩, hS.F ht⟩) hS.2.2 d_W_addInterface_21
set_option maxHeartbeats 4000000 in
set_option maxRecDepth 100000 in
theorem c_W_addDirect (l : Launch) (dC : Nat → ClassId) (dI : Nat → Nat → Nat) (ka : Nat → ClassId) (qa : Nat → Nat) (sz : Nat) (w : WS) (p1 p2 : Int32) (hw : WF w) (hp1 : vp_in p1 13) (hp2 : vp_in p2 13) (hd : vp_in ((p1 * (4 : Int32)) + ((w.1 3) p1.toNatClampNeg)) 52) : Met l y_W_addDirect w_W_addDirect ({ frames := 1, cells := 0, slots := 0, locals := 21 } : Room) (mu_P dC dI (wW ka qa w) (tW ka) sz [.ref (qa 0), .int p1, .int p2]) (mu_Q (fun (S9 : WS) => (wW ka qa S9)) dC dI (f_W_addDirect w p1 p2) (s_W_addDirect w p1 p2) (va_A (wW ka qa w) sz)) 0 0 (va_A (wW ka qa w) sz) := by
  refine Met.ofW (cc := b_W_addDirect) (maxL := 4) (ret := (some .int)) (by decide) rfl ?_
  intro p e s m args below meth c s₁ B hml hv
  obtain ⟨rfl, hsz, hP, hK, hN, hD0⟩ := hv
  have hx := B.exec
  have hb := B.bytes
  have hr := B.returns
  have hts := tl_of (atoms_spec (ws := w_W_addDirect) B.pre)
  have hown : s.vm.findClass R_W = some m.cls := findClass_of_methodNamed B.named
  have hlocks := B.notSynchronized
  subst hsz
  have hD := hD0.self (sz := s.heap.size)
  generalize hAe : va_A (wW ka qa w) s.heap.size = A at hD ⊢
  have hA : ∀ q : Nat, s.heap.size ≤ q → A q := fun q h => by rw [← hAe]; exact Or.inr h
  have hS : va_S A s.heap s.heap [] := va_S.rf
  have hl := lv_entry ([.ref (qa 0), .int p1, .int p2]) (n := 4) (Nat.le_of_ble_eq_true rfl)
  rw [lg_entry_eq]
  generalize (lg_sl ([.ref (qa 0), .int p1, .int p2]) ++ List.replicate (4 - (lg_sl ([.ref (qa 0), .int p1, .int p2])).length) Slot.unset).toArray = ls at hl ⊢
  have hl : lv_has ls 4 [(0, .ref (qa 0)), (1, .int p1), (2, .int p2)] := hl
  refine lv_aload_n hx hb d_W_addDirect_0 rfl (lv_at hl 0 rfl) ?_
  refine va_get (D := (dC, dI)) (ci := 0) (v := .ref (qa 5)) (C := R_W) (T := F_W) (N := 10) hx hb hts i_W hown hK hP 0 rfl rfl 4 (by decide) (hts _ k_10) (fun _ h9 => h9) rfl d_W_addDirect_1 ?_
  refine lv_iload_n hx hb d_W_addDirect_4 rfl (lv_at hl 1 rfl) ?_
  refine lv_iconst (v := (4 : Int32)) hx hb d_W_addDirect_5 (by decide +kernel) ?_
  refine lv_imul hx hb d_W_addDirect_6 ?_
  refine lv_aload_n hx hb d_W_addDirect_7 rfl (lv_at hl 0 rfl) ?_
  refine va_get (D := (dC, dI)) (ci := 0) (v := .ref (qa 4)) (C := R_W) (T := F_W) (N := 10) hx hb hts i_W hown hK hP 0 rfl rfl 3 (by decide) (hts _ k_9) (fun _ h9 => h9) rfl d_W_addDirect_8 ?_
  refine lv_iload_n hx hb d_W_addDirect_11 rfl (lv_at hl 1 rfl) ?_
  have hi_1 : vp_in p1 13 := by first | with_reducible assumption | exact in_has hw (by with_reducible assumption) | exact in_cls hw (by with_reducible assumption) | exact in_ifc hw (by with_reducible assumption) | exact in_ext hw (by with_reducible assumption) | exact in_eq0 (by with_reducible assumption) | exact hfd (by with_reducible assumption) | exact in_rcv hw (by with_reducible assumption) (Or.inl (by with_reducible assumption)) | exact in_rcv hw (by with_reducible assumption) (Or.inr (by with_reducible assumption))
  refine va_iald (D := (dC, dI)) (f := (w.1 3)) hx hb hK hP 4 3 rfl rfl hi_1 d_W_addDirect_12 ?_
  refine lv_iadd hx hb d_W_addDirect_13 ?_
  refine lv_iload_n hx hb d_W_addDirect_14 rfl (lv_at hl 2 rfl) ?_
  have hi_2 : vp_in ((p1 * (4 : Int32)) + ((w.1 3) p1.toNatClampNeg)) 52 := by first | with_reducible assumption | exact in_52 (by first | with_reducible assumption | exact in_has hw (by with_reducible assumption) | exact in_cls hw (by with_reducible assumption) | exact in_ifc hw (by with_reducible assumption) | exact in_ext hw (by with_reducible assumption) | exact in_eq0 (by with_reducible assumption) | exact hfd (by with_reducible assumption) | exact in_rcv hw (by with_reducible assumption) (Or.inl (by with_reducible assumption)) | exact in_rcv hw (by with_reducible assumption) (Or.inr (by with_reducible assumption))) (by first | with_reducible assumption | exact in_name (by with_reducible assumption) | exact in4_4 (by with_reducible assumption) | exact in4_5 (by with_reducible assumption) | exact in4_6 (by with_reducible assumption) | exact in4_7 (by with_reducible assumption))
  refine va_iast (D := (dC, dI)) (f := (w.1 4)) hx hb hK hP hD hS 5 4 rfl rfl hi_2 d_W_addDirect_15 (fun H locs hP hD hS => ?_)
  have hP : va_P (dC, dI) classes ([(qa 0, .inr (0, [.ref (qa 1), .ref (qa 2), .ref (qa 3), .ref (qa 4), .ref (qa 5), .ref (qa 6), .int (w.2 0), .int (w.2 1), .int (w.2 2), .int (w.2 3)])), (qa 1, .inl (ka 0, 13, .inl (w.1 0))), (qa 2, .inl (ka 1, 13, .inl (w.1 1))), (qa 3, .inl (ka 2, 13, .inl (w.1 2))), (qa 4, .inl (ka 3, 13, .inl (w.1 3))), (qa 5, .inl (ka 4, 52, .inl (upd (w.1 4) ((p1 * (4 : Int32)) + ((w.1 3) p1.toNatClampNeg)).toNatClampNeg p2))), (qa 6, .inl (ka 5, 13, .inl (w.1 5)))] : va_W) H := hP
  have hD : va_D A ([(qa 0, .inr (0, [.ref (qa 1), .ref (qa 2), .ref (qa 3), .ref (qa 4), .ref (qa 5), .ref (qa 6), .int (w.2 0), .int (w.2 1), .int (w.2 2), .int (w.2 3)])), (qa 1, .inl (ka 0, 13, .inl (w.1 0))), (qa 2, .inl (ka 1, 13, .inl (w.1 1))), (qa 3, .inl (ka 2, 13, .inl (w.1 2))), (qa 4, .inl (ka 3, 13, .inl (w.1 3))), (qa 5, .inl (ka 4, 52, .inl (upd (w.1 4) ((p1 * (4 : Int32)) + ((w.1 3) p1.toNatClampNeg)).toNatClampNeg p2))), (qa 6, .inl (ka 5, 13, .inl (w.1 5)))] : va_W) := hD
  refine lv_aload_n hx hb d_W_addDirect_16 rfl (lv_at hl 0 rfl) ?_
  refine va_get (D := (dC, dI)) (ci := 0) (v := .ref (qa 4)) (C := R_W) (T := F_W) (N := 10) hx hb hts i_W hown hK hP 0 rfl rfl 3 (by decide) (hts _ k_9) (fun _ h9 => h9) rfl d_W_addDirect_17 ?_
  refine lv_iload_n hx hb d_W_addDirect_20 rfl (lv_at hl 1 rfl) ?_
  refine lv_dup2_11 hx hb d_W_addDirect_21 rfl rfl ?_
  have hi_3 : vp_in p1 13 := by first | with_reducible assumption | exact in_has hw (by with_reducible assumption) | exact in_cls hw (by with_reducible assumption) | exact in_ifc hw (by with_reducible assumption) | exact in_ext hw (by with_reducible assumption) | exact in_eq0 (by with_reducible assumption) | exact hfd (by with_reducible assumption) | exact in_rcv hw (by with_reducible assumption) (Or.inl (by with_reducible assumption)) | exact in_rcv hw (by with_reducible assumption) (Or.inr (by with_reducible assumption))
  refine va_iald (D := (dC, dI)) (f := (w.1 3)) hx hb hK hP 4 3 rfl rfl hi_3 d_W_addDirect_22 ?_
  refine lv_iconst (v := (1 : Int32)) hx hb d_W_addDirect_23 (by decide +kernel) ?_
  refine lv_iadd hx hb d_W_addDirect_24 ?_
  have hi_4 : vp_in p1 13 := by first | with_reducible assumption | exact in_has hw (by with_reducible assumption) | exact in_cls hw (by with_reducible assumption) | exact in_ifc hw (by with_reducible assumption) | exact in_ext hw (by with_reducible assumption) | exact in_eq0 (by with_reducible assumption) | exact hfd (by with_reducible assumption) | exact in_rcv hw (by with_reducible assumption) (Or.inl (by with_reducible assumption)) | exact in_rcv hw (by with_reducible assumption) (Or.inr (by with_reducible assumption))
  refine va_iast (D := (dC, dI)) (f := (w.1 3)) hx hb hK hP hD hS 4 3 rfl rfl hi_4 d_W_addDirect_25 (fun H locs hP hD hS => ?_)
  have hP : va_P (dC, dI) classes ([(qa 0, .inr (0, [.ref (qa 1), .ref (qa 2), .ref (qa 3), .ref (qa 4), .ref (qa 5), .ref (qa 6), .int (w.2 0), .int (w.2 1), .int (w.2 2), .int (w.2 3)])), (qa 1, .inl (ka 0, 13, .inl (w.1 0))), (qa 2, .inl (ka 1, 13, .inl (w.1 1))), (qa 3, .inl (ka 2, 13, .inl (w.1 2))), (qa 4, .inl (ka 3, 13, .inl (upd (w.1 3) p1.toNatClampNeg (((w.1 3) p1.toNatClampNeg) + (1 : Int32))))), (qa 5, .inl (ka 4, 52, .inl (upd (w.1 4) ((p1 * (4 : Int32)) + ((w.1 3) p1.toNatClampNeg)).toNatClampNeg p2))), (qa 6, .inl (ka 5, 13, .inl (w.1 5)))] : va_W) H := hP
  have hD : va_D A ([(qa 0, .inr (0, [.ref (qa 1), .ref (qa 2), .ref (qa 3), .ref (qa 4), .ref (qa 5), .ref (qa 6), .int (w.2 0), .int (w.2 1), .int (w.2 2), .int (w.2 3)])), (qa 1, .inl (ka 0, 13, .inl (w.1 0))), (qa 2, .inl (ka 1, 13, .inl (w.1 1))), (qa 3, .inl (ka 2, 13, .inl (w.1 2))), (qa 4, .inl (ka 3, 13, .inl (upd (w.1 3) p1.toNatClampNeg (((w.1 3) p1.toNatClampNeg) + (1 : Int32))))), (qa 5, .inl (ka 4, 52, .inl (upd (w.1 4) ((p1 * (4 : Int32)) + ((w.1 3) p1.toNatClampNeg)).toNatClampNeg p2))), (qa 6, .inl (ka 5, 13, .inl (w.1 5)))] : va_W) := hD
  refine lv_iload_n hx hb d_W_addDirect_26 rfl (lv_at hl 1 rfl) ?_
  refine lv_istore_n (lv' := [(3, .int p1), (0, .ref (qa 0)), (1, .int p1), (2, .int p2)]) hx hb d_W_addDirect_27 rfl hl (by decide) rfl (fun ls hl => ?_)
  have LOOP : ∀ (n k : Nat) (x3 : Int32) (S : WS) (H : Heap) (locs : List Loc) (ls : Array Slot), x3 = nI k → 14 ≤ k + n → k ≤ 13 → S.2 3 = w.2 3 → lr_W_addDirect p1 p2 n x3 S = (f_W_addDirect w p1 p2) → ls_W_addDirect p1 p2 n x3 S = (s_W_addDirect w p1 p2) → va_P (dC, dI) classes (wW ka qa S) H → va_D A (wW ka qa S) → va_S A s.heap H locs → lv_has ls 4 [(3, .int x3), (0, .ref (qa 0)), (1, .int p1), (2, .int p2)] → W p l e (headSpec w_W_addDirect ({ frames := 1, cells := 0, slots := 0, locals := 21 } : Room)).room s m ([.ref (qa 0), .int p1, .int p2] : List Value).toArray below meth c H locs 0 0 (MQ below (mu_Q (fun (S9 : WS) => (wW ka qa S9)) dC dI (f_W_addDirect w p1 p2) (s_W_addDirect w p1 p2) (A)) ([.ref (qa 0), .int p1, .int p2] : List Value).toArray s 0 0 A) (F0 m 28 ls []) := by
    intro n
    induction n with
    | zero =>
      intro k x3 S H locs ls et h1 h2 hs
      exfalso; omega
    | succ n ih =>
      intro k x3 S H locs ls et h1 h2 hs hF hG hP hD hS hl
      refine lv_iload_n hx hb d_W_addDirect_28 rfl (lv_at hl 0 rfl) ?_
      refine lv_aload_n hx hb d_W_addDirect_29 rfl (lv_at hl 1 rfl) ?_
      refine va_get (D := (dC, dI)) (ci := 0) (v := .int (S.2 3)) (C := R_W) (T := F_W) (N := 10) hx hb hts i_W hown hK hP 0 rfl rfl 9 (by decide) (hts _ k_3) (fun _ h9 => h9) rfl d_W_addDirect_30 ?_
      refine lv_icmp_gt (tgt := 70) hx hb d_W_addDirect_33 (by decide) (fun c_5 => ?_) (fun c_5 => ?_)
      · have c_5 : (S.2 3) < x3 := c_5
        refine lv_aload_n hx hb d_W_addDirect_70 rfl (lv_at hl 1 rfl) ?_
        refine va_get (D := (dC, dI)) (ci := 0) (v := .ref (qa 4)) (C := R_W) (T := F_W) (N := 10) hx hb hts i_W hown hK hP 0 rfl rfl 3 (by decide) (hts _ k_9) (fun _ h9 => h9) rfl d_W_addDirect_71 ?_
        refine lv_iload_n hx hb d_W_addDirect_74 rfl (lv_at hl 2 rfl) ?_
        have hi_6 : vp_in p1 13 := by first | with_reducible assumption | exact in_has hw (by with_reducible assumption) | exact in_cls hw (by with_reducible assumption) | exact in_ifc hw (by with_reducible assumption) | exact in_ext hw (by with_reducible assumption) | exact in_eq0 (by with_reducible assumption) | exact hfd (by with_reducible assumption) | exact in_rcv hw (by with_reducible assumption) (Or.inl (by with_reducible assumption)) | exact in_rcv hw (by with_reducible assumption) (Or.inr (by with_reducible assumption))
        refine va_iald (D := (dC, dI)) (f := (S.1 3)) hx hb hK hP 4 3 rfl rfl hi_6 d_W_addDirect_75 ?_
        have hP9 : va_P (dC, dI) classes (wW ka qa S) H := hP
        exact W.iret (v := ((S.1 3) p1.toNatClampNeg)) hx hb hr (fun t ht hW => ⟨⟨((S.1 3) p1.toNatClampNeg), S, rfl, ⟨by rw [← hF, lr_W_addDirect_s, if_pos c_5], by rw [← hG, ls_W_addDirect_s, if_pos c_5]⟩, hp_at ht hP9⟩, hS.F ht⟩) hS.2.2 d_W_addDirect_76
      · have c_5 : ¬ ((S.2 3) < x3) := c_5
        refine lv_aload_n hx hb d_W_addDirect_36 rfl (lv_at hl 1 rfl) ?_
        refine va_get (D := (dC, dI)) (ci := 0) (v := .ref (qa 6)) (C := R_W) (T := F_W) (N := 10) hx hb hts i_W hown hK hP 0 rfl rfl 5 (by decide) (hts _ k_14) (fun _ h9 => h9) rfl d_W_addDirect_37 ?_
        refine lv_iload_n hx hb d_W_addDirect_40 rfl (lv_at hl 0 rfl) ?_
        have hi_7 : vp_in x3 13 := by exact in_et et (leCnt hw et h2 (by rw [← hs]; assumption))
        refine va_iald (D := (dC, dI)) (f := (S.1 5)) hx hb hK hP 6 5 rfl rfl hi_7 d_W_addDirect_41 ?_
        refine lv_iload_n hx hb d_W_addDirect_42 rfl (lv_at hl 2 rfl) ?_
        refine va_calli (va_runSN (As := [.int ((S.1 5) x3.toNatClampNeg), .int p1]) (rest := []) ⟨hx, hb, hml, hown, hts⟩ (c_O_holds l dC dI  H.size   ((S.1 5) x3.toNatClampNeg) p1) ⟨va_cnB 2 hts k_g2 rfl rfl rfl (hN _ k_5 rfl) (hts _ k_6) (by decide +kernel) ⟨Nat.le_of_ble_eq_true rfl, Nat.le_of_ble_eq_true rfl⟩, hts _ k_7, trivial⟩ ⟨fb_ro, fun U hU hW => ⟨rfl, by rw [hU], by rw [hU]; exact hP.sub (ws' := ([] : va_W)) [] rfl, va_K.moved hW.alike (hK.sub (tys' := []) [] rfl), NX.warm hW hN⟩⟩ rfl rfl hl.1 rfl (lv_room (Nat.le_of_ble_eq_true rfl)) d_W_addDirect_43 ⟨Nat.zero_le _, Nat.zero_le _⟩) hS (fun z h1 h2 => absurd h1 (Nat.not_lt.mpr h2)) (fun z h => hA z (Nat.le_trans hS.1 h)) (fun r u t H1 locs ht hvm hpo hB hz1 hk1 hS => ?_)
        subst hpo
        have hP := kp_P hP hk1
        generalize H1 = H at hP hS ⊢
        refine lv_if_eq (tgt := 64) hx hb d_W_addDirect_46 (by decide) (fun c_8 => ?_) (fun c_8 => ?_)
        · have c_8 : (f_O_holds ((S.1 5) x3.toNatClampNeg) p1) = (0 : Int32) := c_8
          refine lv_iinc (v := (x3 + (1 : Int32))) (lv' := [(3, .int (x3 + (1 : Int32))), (0, .ref (qa 0)), (1, .int p1), (2, .int p2)]) hx hb d_W_addDirect_64 hl (k := 0) rfl (by rw [of_p1]) (by decide) rfl (fun ls hl => ?_)
          refine lv_goto (tgt := 28) hx hb d_W_addDirect_67 (by decide) ?_
          have hP : va_P (dC, dI) classes (wW ka qa S) H := hP
          have hD : va_D A (wW ka qa S) := hD
          exact ih (k + 1) (x3 + (1 : Int32)) S _ _ _ (by rw [et]; exact nI_1 k) (by omega) (Nat.succ_le_succ (leCnt hw et h2 (by rw [← hs]; assumption))) (hs) (by rw [← hF, lr_W_addDirect_s, if_neg c_5, if_pos c_8]) (by rw [← hG, ls_W_addDirect_s, if_neg c_5, if_pos c_8]) hP hD hS (lv_sub hl [0, 1, 2, 3] rfl)
        · have c_8 : ¬ ((f_O_holds ((S.1 5) x3.toNatClampNeg) p1) = (0 : Int32)) := c_8
          refine lv_aload_n hx hb d_W_addDirect_49 rfl (lv_at hl 1 rfl) ?_
          refine va_get (D := (dC, dI)) (ci := 0) (v := .ref (qa 6)) (C := R_W) (T := F_W) (N := 10) hx hb hts i_W hown hK hP 0 rfl rfl 5 (by decide) (hts _ k_14) (fun _ h9 => h9) rfl d_W_addDirect_50 ?_
          refine lv_iload_n hx hb d_W_addDirect_53 rfl (lv_at hl 0 rfl) ?_
          refine lv_dup2_11 hx hb d_W_addDirect_54 rfl rfl ?_
          have hi_9 : vp_in x3 13 := by exact in_et et (leCnt hw et h2 (by rw [← hs]; assumption))
          refine va_iald (D := (dC, dI)) (f := (S.1 5)) hx hb hK hP 6 5 rfl rfl hi_9 d_W_addDirect_55 ?_
          refine lv_aload_n hx hb d_W_addDirect_56 rfl (lv_at hl 1 rfl) ?_
          refine va_get (D := (dC, dI)) (ci := 0) (v := .ref (qa 6)) (C := R_W) (T := F_W) (N := 10) hx hb hts i_W hown hK hP 0 rfl rfl 5 (by decide) (hts _ k_14) (fun _ h9 => h9) rfl d_W_addDirect_57 ?_
          refine lv_iload_n hx hb d_W_addDirect_60 rfl (lv_at hl 3 rfl) ?_
          have hi_10 : vp_in p2 13 := by first | with_reducible assumption | exact in_has hw (by with_reducible assumption) | exact in_cls hw (by with_reducible assumption) | exact in_ifc hw (by with_reducible assumption) | exact in_ext hw (by with_reducible assumption) | exact in_eq0 (by with_reducible assumption) | exact hfd (by with_reducible assumption) | exact in_rcv hw (by with_reducible assumption) (Or.inl (by with_reducible assumption)) | exact in_rcv hw (by with_reducible assumption) (Or.inr (by with_reducible assumption))
          refine va_iald (D := (dC, dI)) (f := (S.1 5)) hx hb hK hP 6 5 rfl rfl hi_10 d_W_addDirect_61 ?_
          refine lv_ior hx hb d_W_addDirect_62 ?_
          have hi_11 : vp_in x3 13 := by exact in_et et (leCnt hw et h2 (by rw [← hs]; assumption))
          refine va_iast (D := (dC, dI)) (f := (S.1 5)) hx hb hK hP hD hS 6 5 rfl rfl hi_11 d_W_addDirect_63 (fun H locs hP hD hS => ?_)
          have hP : va_P (dC, dI) classes ([(qa 0, .inr (0, [.ref (qa 1), .ref (qa 2), .ref (qa 3), .ref (qa 4), .ref (qa 5), .ref (qa 6), .int (S.2 0), .int (S.2 1), .int (S.2 2), .int (S.2 3)])), (qa 1, .inl (ka 0, 13, .inl (S.1 0))), (qa 2, .inl (ka 1, 13, .inl (S.1 1))), (qa 3, .inl (ka 2, 13, .inl (S.1 2))), (qa 4, .inl (ka 3, 13, .inl (S.1 3))), (qa 5, .inl (ka 4, 52, .inl (S.1 4))), (qa 6, .inl (ka 5, 13, .inl (upd (S.1 5) x3.toNatClampNeg (((S.1 5) x3.toNatClampNeg) ||| ((S.1 5) p2.toNatClampNeg)))))] : va_W) H := hP
          have hD : va_D A ([(qa 0, .inr (0, [.ref (qa 1), .ref (qa 2), .ref (qa 3), .ref (qa 4), .ref (qa 5), .ref (qa 6), .int (S.2 0), .int (S.2 1), .int (S.2 2), .int (S.2 3)])), (qa 1, .inl (ka 0, 13, .inl (S.1 0))), (qa 2, .inl (ka 1, 13, .inl (S.1 1))), (qa 3, .inl (ka 2, 13, .inl (S.1 2))), (qa 4, .inl (ka 3, 13, .inl (S.1 3))), (qa 5, .inl (ka 4, 52, .inl (S.1 4))), (qa 6, .inl (ka 5, 13, .inl (upd (S.1 5) x3.toNatClampNeg (((S.1 5) x3.toNatClampNeg) ||| ((S.1 5) p2.toNatClampNeg)))))] : va_W) := hD
          refine lv_iinc (v := (x3 + (1 : Int32))) (lv' := [(3, .int (x3 + (1 : Int32))), (0, .ref (qa 0)), (1, .int p1), (2, .int p2)]) hx hb d_W_addDirect_64 hl (k := 0) rfl (by rw [of_p1]) (by decide) rfl (fun ls hl => ?_)
          refine lv_goto (tgt := 28) hx hb d_W_addDirect_67 (by decide) ?_
          have hP := wW_mk hP
          have hD := wW_mkD hD
          have hP : va_P (dC, dI) classes (wW ka qa (mk6 (S.1 0) (S.1 1) (S.1 2) (S.1 3) (S.1 4) (upd (S.1 5) x3.toNatClampNeg (((S.1 5) x3.toNatClampNeg) ||| ((S.1 5) p2.toNatClampNeg))), mk4 (S.2 0) (S.2 1) (S.2 2) (S.2 3))) H := hP
          have hD : va_D A (wW ka qa (mk6 (S.1 0) (S.1 1) (S.1 2) (S.1 3) (S.1 4) (upd (S.1 5) x3.toNatClampNeg (((S.1 5) x3.toNatClampNeg) ||| ((S.1 5) p2.toNatClampNeg))), mk4 (S.2 0) (S.2 1) (S.2 2) (S.2 3))) := hD
          exact ih (k + 1) (x3 + (1 : Int32)) (mk6 (S.1 0) (S.1 1) (S.1 2) (S.1 3) (S.1 4) (upd (S.1 5) x3.toNatClampNeg (((S.1 5) x3.toNatClampNeg) ||| ((S.1 5) p2.toNatClampNeg))), mk4 (S.2 0) (S.2 1) (S.2 2) (S.2 3)) _ _ _ (by rw [et]; exact nI_1 k) (by omega) (Nat.succ_le_succ (leCnt hw et h2 (by rw [← hs]; assumption))) (hs) (by rw [← hF, lr_W_addDirect_s, if_neg c_5, if_neg c_8]) (by rw [← hG, ls_W_addDirect_s, if_neg c_5, if_neg c_8]) hP hD hS (lv_sub hl [0, 1, 2, 3] rfl)
  have hP := wW_mk hP
  have hD := wW_mkD hD
  have hP : va_P (dC, dI) classes (wW ka qa (mk6 (w.1 0) (w.1 1) (w.1 2) (upd (w.1 3) p1.toNatClampNeg (((w.1 3) p1.toNatClampNeg) + (1 : Int32))) (upd (w.1 4) ((p1 * (4 : Int32)) + ((w.1 3) p1.toNatClampNeg)).toNatClampNeg p2) (w.1 5), mk4 (w.2 0) (w.2 1) (w.2 2) (w.2 3))) H := hP
  have hD : va_D A (wW ka qa (mk6 (w.1 0) (w.1 1) (w.1 2) (upd (w.1 3) p1.toNatClampNeg (((w.1 3) p1.toNatClampNeg) + (1 : Int32))) (upd (w.1 4) ((p1 * (4 : Int32)) + ((w.1 3) p1.toNatClampNeg)).toNatClampNeg p2) (w.1 5), mk4 (w.2 0) (w.2 1) (w.2 2) (w.2 3))) := hD
  exact LOOP 14 p1.toNatClampNeg p1 (mk6 (w.1 0) (w.1 1) (w.1 2) (upd (w.1 3) p1.toNatClampNeg (((w.1 3) p1.toNatClampNeg) + (1 : Int32))) (upd (w.1 4) ((p1 * (4 : Int32)) + ((w.1 3) p1.toNatClampNeg)).toNatClampNeg p2) (w.1 5), mk4 (w.2 0) (w.2 1) (w.2 2) (w.2 3)) _ _ _ (in_k hp1) (by omega) (Nat.le_of_lt (in_lt hp1)) (rfl) (rfl) (rfl) hP hD hS (lv_sub hl [0, 1, 2, 3] rfl)
end
section
set_option maxHeartbeats 4000000 in
set_option maxRecDepth 100000 in
theorem c_M_owners (l : Launch) (dC : Nat → ClassId) (dI : Nat → Nat → Nat) (ka : Nat → ClassId) (qa : Nat → Nat) (sz : Nat) (mm : MS) (p1 : Int32) (hp1 : vp_in p1 4) : Met l y_M_owners w_M_owners ({ frames := 0, cells := 0, slots := 0, locals := 0 } : Room) (ro_P dC dI (wM ka qa mm) (tM ka) sz [.ref (qa 0), .int p1]) (ro_Q sz (f_M_owners mm p1)) 0 0 (fun z => sz ≤ z) := by
  refine Met.ofW (cc := b_M_owners) (maxL := 2) (ret := (some .int)) (by decide) rfl ?_
  intro p e s m args below meth c s₁ B hml hv
  obtain ⟨rfl, hsz, hP, hK, hN⟩ := hv
  have hx := B.exec
  have hb := B.bytes
  have hr := B.returns
  have hts := tl_of (atoms_spec (ws := w_M_owners) B.pre)
  have hown : s.vm.findClass R_M = some m.cls := findClass_of_methodNamed B.named
  have hlocks := B.notSynchronized
  subst hsz
  have hA : ∀ z : Nat, s.heap.size ≤ z → (fun z : Nat => s.heap.size ≤ z) z := fun _ h => h
  have hS : va_S (fun z : Nat => s.heap.size ≤ z) s.heap s.heap [] := va_S.rf
  have hl := lv_entry ([.ref (qa 0), .int p1]) (n := 2) (Nat.le_of_ble_eq_true rfl)
  rw [lg_entry_eq]
  generalize (lg_sl ([.ref (qa 0), .int p1]) ++ List.replicate (2 - (lg_sl ([.ref (qa 0), .int p1])).length) Slot.unset).toArray = ls at hl ⊢
  have hl : lv_has ls 2 [(0, .ref (qa 0)), (1, .int p1)] := hl
  refine lv_aload_n hx hb d_M_owners_0 rfl (lv_at hl 0 rfl) ?_
  refine va_get (D := (dC, dI)) (ci := 1) (v := .ref (qa 1)) (C := R_M) (T := F_M) (N := 5) hx hb hts i_M hown hK hP 0 rfl rfl 0 (by decide) (hts _ k_16) (fun _ h9 => h9) rfl d_M_owners_1 ?_
  refine lv_iload_n hx hb d_M_owners_4 rfl (lv_at hl 1 rfl) ?_
  have hi_1 : vp_in p1 4 := by first | with_reducible assumption | exact in_name (by with_reducible assumption) | exact in4_4 (by with_reducible assumption) | exact in4_5 (by with_reducible assumption) | exact in4_6 (by with_reducible assumption) | exact in4_7 (by with_reducible assumption)
  refine va_iald (D := (dC, dI)) (f := (mm 0)) hx hb hK hP 1 0 rfl rfl hi_1 d_M_owners_5 ?_
  exact W.iret (v := ((mm 0) p1.toNatClampNeg)) hx hb hr (fun t ht hW => ⟨⟨((mm 0) p1.toNatClampNeg), (), rfl, rfl, trivial⟩, hS.F ht⟩) hS.2.2 d_M_owners_6
set_option maxHeartbeats 4000000 in
set_option maxRecDepth 100000 in
theorem c_M_abstracts (l : Launch) (dC : Nat → ClassId) (dI : Nat → Nat → Nat) (ka : Nat → ClassId) (qa : Nat → Nat) (sz : Nat) (mm : MS) (p1 : Int32) (hp1 : vp_in p1 4) : Met l y_M_abstracts w_M_abstracts ({ frames := 0, cells := 0, slots := 0, locals := 0 } : Room) (ro_P dC dI (wM ka qa mm) (tM ka) sz [.ref (qa 0), .int p1]) (ro_Q sz (f_M_abstracts mm p1)) 0 0 (fun z => sz ≤ z) := by
  refine Met.ofW (cc := b_M_abstracts) (maxL := 2) (ret := (some .int)) (by decide) rfl ?_
  intro p e s m args below meth c s₁ B hml hv
  obtain ⟨rfl, hsz, hP, hK, hN⟩ := hv
  have hx := B.exec
  have hb := B.bytes
  have hr := B.returns
  have hts := tl_of (atoms_spec (ws := w_M_abstracts) B.pre)
  have hown : s.vm.findClass R_M = some m.cls := findClass_of_methodNamed B.named
  have hlocks := B.notSynchronized
  subst hsz
  have hA : ∀ z : Nat, s.heap.size ≤ z → (fun z : Nat => s.heap.size ≤ z) z := fun _ h => h
  have hS : va_S (fun z : Nat => s.heap.size ≤ z) s.heap s.heap [] := va_S.rf
  have hl := lv_entry ([.ref (qa 0), .int p1]) (n := 2) (Nat.le_of_ble_eq_true rfl)
  rw [lg_entry_eq]
  generalize (lg_sl ([.ref (qa 0), .int p1]) ++ List.replicate (2 - (lg_sl ([.ref (qa 0), .int p1])).length) Slot.unset).toArray = ls at hl ⊢
  have hl : lv_has ls 2 [(0, .ref (qa 0)), (1, .int p1)] := hl
  refine lv_aload_n hx hb d_M_abstracts_0 rfl (lv_at hl 0 rfl) ?_
  refine va_get (D := (dC, dI)) (ci := 1) (v := .ref (qa 3)) (C := R_M) (T := F_M) (N := 5) hx hb hts i_M hown hK hP 0 rfl rfl 2 (by decide) (hts _ k_17) (fun _ h9 => h9) rfl d_M_abstracts_1 ?_
  refine lv_iload_n hx hb d_M_abstracts_4 rfl (lv_at hl 1 rfl) ?_
  have hi_1 : vp_in p1 4 := by first | with_reducible assumption | exact in_name (by with_reducible assumption) | exact in4_4 (by with_reducible assumption) | exact in4_5 (by with_reducible assumption) | exact in4_6 (by with_reducible assumption) | exact in4_7 (by with_reducible assumption)
  refine va_iald (D := (dC, dI)) (f := (mm 2)) hx hb hK hP 3 2 rfl rfl hi_1 d_M_abstracts_5 ?_
  exact W.iret (v := ((mm 2) p1.toNatClampNeg)) hx hb hr (fun t ht hW => ⟨⟨((mm 2) p1.toNatClampNeg), (), rfl, rfl, trivial⟩, hS.F ht⟩) hS.2.2 d_M_abstracts_6
set_option maxHeartbeats 4000000 in
set_option maxRecDepth 100000 in
theorem c_M_instances (l : Launch) (dC : Nat → ClassId) (dI : Nat → Nat → Nat) (ka : Nat → ClassId) (qa : Nat → Nat) (sz : Nat) (mm : MS) (p1 : Int32) (hp1 : vp_in p1 4) : Met l y_M_instances w_M_instances ({ frames := 0, cells := 0, slots := 0, locals := 0 } : Room) (ro_P dC dI (wM ka qa mm) (tM ka) sz [.ref (qa 0), .int p1]) (ro_Q sz (f_M_instances mm p1)) 0 0 (fun z => sz ≤ z) := by
  refine Met.ofW (cc := b_M_instances) (maxL := 2) (ret := (some .int)) (by decide) rfl ?_
  intro p e s m args below meth c s₁ B hml hv
  obtain ⟨rfl, hsz, hP, hK, hN⟩ := hv
  have hx := B.exec
  have hb := B.bytes
  have hr := B.returns
  have hts := tl_of (atoms_spec (ws := w_M_instances) B.pre)
  have hown : s.vm.findClass R_M = some m.cls := findClass_of_methodNamed B.named
  have hlocks := B.notSynchronized
  subst hsz
  have hA : ∀ z : Nat, s.heap.size ≤ z → (fun z : Nat => s.heap.size ≤ z) z := fun _ h => h
  have hS : va_S (fun z : Nat => s.heap.size ≤ z) s.heap s.heap [] := va_S.rf
  have hl := lv_entry ([.ref (qa 0), .int p1]) (n := 2) (Nat.le_of_ble_eq_true rfl)
  rw [lg_entry_eq]
  generalize (lg_sl ([.ref (qa 0), .int p1]) ++ List.replicate (2 - (lg_sl ([.ref (qa 0), .int p1])).length) Slot.unset).toArray = ls at hl ⊢
  have hl : lv_has ls 2 [(0, .ref (qa 0)), (1, .int p1)] := hl
  refine lv_aload_n hx hb d_M_instances_0 rfl (lv_at hl 0 rfl) ?_
  refine va_get (D := (dC, dI)) (ci := 1) (v := .ref (qa 1)) (C := R_M) (T := F_M) (N := 5) hx hb hts i_M hown hK hP 0 rfl rfl 0 (by decide) (hts _ k_16) (fun _ h9 => h9) rfl d_M_instances_1 ?_
  refine lv_iload_n hx hb d_M_instances_4 rfl (lv_at hl 1 rfl) ?_
  have hi_1 : vp_in p1 4 := by first | with_reducible assumption | exact in_name (by with_reducible assumption) | exact in4_4 (by with_reducible assumption) | exact in4_5 (by with_reducible assumption) | exact in4_6 (by with_reducible assumption) | exact in4_7 (by with_reducible assumption)
  refine va_iald (D := (dC, dI)) (f := (mm 0)) hx hb hK hP 1 0 rfl rfl hi_1 d_M_instances_5 ?_
  refine lv_aload_n hx hb d_M_instances_6 rfl (lv_at hl 0 rfl) ?_
  refine va_get (D := (dC, dI)) (ci := 1) (v := .ref (qa 2)) (C := R_M) (T := F_M) (N := 5) hx hb hts i_M hown hK hP 0 rfl rfl 1 (by decide) (hts _ k_18) (fun _ h9 => h9) rfl d_M_instances_7 ?_
  refine lv_iload_n hx hb d_M_instances_10 rfl (lv_at hl 1 rfl) ?_
  have hi_2 : vp_in p1 4 := by first | with_reducible assumption | exact in_name (by with_reducible assumption) | exact in4_4 (by with_reducible assumption) | exact in4_5 (by with_reducible assumption) | exact in4_6 (by with_reducible assumption) | exact in4_7 (by with_reducible assumption)
  refine va_iald (D := (dC, dI)) (f := (mm 1)) hx hb hK hP 2 1 rfl rfl hi_2 d_M_instances_11 ?_
  refine lv_iconst (v := (-1 : Int32)) hx hb d_M_instances_12 (by decide +kernel) ?_
  refine lv_ixor hx hb d_M_instances_13 ?_
  refine lv_iand hx hb d_M_instances_14 ?_
  exact W.iret (v := (((mm 0) p1.toNatClampNeg) &&& (((mm 1) p1.toNatClampNeg) ^^^ (-1 : Int32)))) hx hb hr (fun t ht hW => ⟨⟨(((mm 0) p1.toNatClampNeg) &&& (((mm 1) p1.toNatClampNeg) ^^^ (-1 : Int32))), (), rfl, rfl, trivial⟩, hS.F ht⟩) hS.2.2 d_M_instances_15
set_option maxHeartbeats 4000000 in
set_option maxRecDepth 100000 in
theorem c_M_inheritable (l : Launch) (dC : Nat → ClassId) (dI : Nat → Nat → Nat) (ka : Nat → ClassId) (qa : Nat → Nat) (sz : Nat) (mm : MS) (p1 : Int32) (hp1 : vp_in p1 4) : Met l y_M_inheritable w_M_inheritable ({ frames := 0, cells := 0, slots := 0, locals := 0 } : Room) (ro_P dC dI (wM ka qa mm) (tM ka) sz [.ref (qa 0), .int p1]) (ro_Q sz (f_M_inheritable mm p1)) 0 0 (fun z => sz ≤ z) := by
  refine Met.ofW (cc := b_M_inheritable) (maxL := 2) (ret := (some .int)) (by decide) rfl ?_
  intro p e s m args below meth c s₁ B hml hv
  obtain ⟨rfl, hsz, hP, hK, hN⟩ := hv
  have hx := B.exec
  have hb := B.bytes
  have hr := B.returns
  have hts := tl_of (atoms_spec (ws := w_M_inheritable) B.pre)
  have hown : s.vm.findClass R_M = some m.cls := findClass_of_methodNamed B.named
  have hlocks := B.notSynchronized
  subst hsz
  have hA : ∀ z : Nat, s.heap.size ≤ z → (fun z : Nat => s.heap.size ≤ z) z := fun _ h => h
  have hS : va_S (fun z : Nat => s.heap.size ≤ z) s.heap s.heap [] := va_S.rf
  have hl := lv_entry ([.ref (qa 0), .int p1]) (n := 2) (Nat.le_of_ble_eq_true rfl)
  rw [lg_entry_eq]
  generalize (lg_sl ([.ref (qa 0), .int p1]) ++ List.replicate (2 - (lg_sl ([.ref (qa 0), .int p1])).length) Slot.unset).toArray = ls at hl ⊢
  have hl : lv_has ls 2 [(0, .ref (qa 0)), (1, .int p1)] := hl
  refine lv_aload_n hx hb d_M_inheritable_0 rfl (lv_at hl 0 rfl) ?_
  refine va_get (D := (dC, dI)) (ci := 1) (v := .ref (qa 1)) (C := R_M) (T := F_M) (N := 5) hx hb hts i_M hown hK hP 0 rfl rfl 0 (by decide) (hts _ k_16) (fun _ h9 => h9) rfl d_M_inheritable_1 ?_
  refine lv_iload_n hx hb d_M_inheritable_4 rfl (lv_at hl 1 rfl) ?_
  have hi_1 : vp_in p1 4 := by first | with_reducible assumption | exact in_name (by with_reducible assumption) | exact in4_4 (by with_reducible assumption) | exact in4_5 (by with_reducible assumption) | exact in4_6 (by with_reducible assumption) | exact in4_7 (by with_reducible assumption)
  refine va_iald (D := (dC, dI)) (f := (mm 0)) hx hb hK hP 1 0 rfl rfl hi_1 d_M_inheritable_5 ?_
  refine lv_aload_n hx hb d_M_inheritable_6 rfl (lv_at hl 0 rfl) ?_
  refine va_get (D := (dC, dI)) (ci := 1) (v := .ref (qa 2)) (C := R_M) (T := F_M) (N := 5) hx hb hts i_M hown hK hP 0 rfl rfl 1 (by decide) (hts _ k_18) (fun _ h9 => h9) rfl d_M_inheritable_7 ?_
  refine lv_iload_n hx hb d_M_inheritable_10 rfl (lv_at hl 1 rfl) ?_
  have hi_2 : vp_in p1 4 := by first | with_reducible assumption | exact in_name (by with_reducible assumption) | exact in4_4 (by with_reducible assumption) | exact in4_5 (by with_reducible assumption) | exact in4_6 (by with_reducible assumption) | exact in4_7 (by with_reducible assumption)
  refine va_iald (D := (dC, dI)) (f := (mm 1)) hx hb hK hP 2 1 rfl rfl hi_2 d_M_inheritable_11 ?_
  refine lv_iconst (v := (-1 : Int32)) hx hb d_M_inheritable_12 (by decide +kernel) ?_
  refine lv_ixor hx hb d_M_inheritable_13 ?_
  refine lv_iand hx hb d_M_inheritable_14 ?_
  refine lv_aload_n hx hb d_M_inheritable_15 rfl (lv_at hl 0 rfl) ?_
  refine va_get (D := (dC, dI)) (ci := 1) (v := .ref (qa 4)) (C := R_M) (T := F_M) (N := 5) hx hb hts i_M hown hK hP 0 rfl rfl 3 (by decide) (hts _ k_19) (fun _ h9 => h9) rfl d_M_inheritable_16 ?_
  refine lv_iload_n hx hb d_M_inheritable_19 rfl (lv_at hl 1 rfl) ?_
  have hi_3 : vp_in p1 4 := by first | with_reducible assumption | exact in_name (by with_reducible assumption) | exact in4_4 (by with_reducible assumption) | exact in4_5 (by with_reducible assumption) | exact in4_6 (by with_reducible assumption) | exact in4_7 (by with_reducible assumption)
  refine va_iald (D := (dC, dI)) (f := (mm 3)) hx hb hK hP 4 3 rfl rfl hi_3 d_M_inheritable_20 ?_
  refine lv_iconst (v := (-1 : Int32)) hx hb d_M_inheritable_21 (by decide +kernel) ?_
  refine lv_ixor hx hb d_M_inheritable_22 ?_
  refine lv_iand hx hb d_M_inheritable_23 ?_
  exact W.iret (v := ((((mm 0) p1.toNatClampNeg) &&& (((mm 1) p1.toNatClampNeg) ^^^ (-1 : Int32))) &&& (((mm 3) p1.toNatClampNeg) ^^^ (-1 : Int32)))) hx hb hr (fun t ht hW => ⟨⟨((((mm 0) p1.toNatClampNeg) &&& (((mm 1) p1.toNatClampNeg) ^^^ (-1 : Int32))) &&& (((mm 3) p1.toNatClampNeg) ^^^ (-1 : Int32))), (), rfl, rfl, trivial⟩, hS.F ht⟩) hS.2.2 d_M_inheritable_24
set_option maxHeartbeats 4000000 in
set_option maxRecDepth 100000 in
theorem c_M_has (l : Launch) (dC : Nat → ClassId) (dI : Nat → Nat → Nat) (ka : Nat → ClassId) (qa : Nat → Nat) (sz : Nat) (mm : MS) (p1 p2 : Int32) (hp2 : vp_in p2 4) : Met l y_M_has w_M_has ({ frames := 1, cells := 0, slots := 0, locals := 21 } : Room) (ro_P dC dI (wM ka qa mm) (tM ka) sz [.ref (qa 0), .int p1, .int p2]) (ro_Q sz (f_M_has mm p1 p2)) 0 0 (fun z => sz ≤ z) := by
  refine Met.ofW (cc := b_M_has) (maxL := 3) (ret := (some .boolean)) (by decide) rfl ?_
  intro p e s m args below meth c s₁ B hml hv
  obtain ⟨rfl, hsz, hP, hK, hN⟩ := hv
  have hx := B.exec
  have hb := B.bytes
  have hr := B.returns
  have hts := tl_of (atoms_spec (ws := w_M_has) B.pre)
  have hown : s.vm.findClass R_M = some m.cls := findClass_of_methodNamed B.named
  have hlocks := B.notSynchronized
  subst hsz
  have hA : ∀ z : Nat, s.heap.size ≤ z → (fun z : Nat => s.heap.size ≤ z) z := fun _ h => h
  have hS : va_S (fun z : Nat => s.heap.size ≤ z) s.heap s.heap [] := va_S.rf
  have hl := lv_entry ([.ref (qa 0), .int p1, .int p2]) (n := 3) (Nat.le_of_ble_eq_true rfl)
  rw [lg_entry_eq]
  generalize (lg_sl ([.ref (qa 0), .int p1, .int p2]) ++ List.replicate (3 - (lg_sl ([.ref (qa 0), .int p1, .int p2])).length) Slot.unset).toArray = ls at hl ⊢
  have hl : lv_has ls 3 [(0, .ref (qa 0)), (1, .int p1), (2, .int p2)] := hl
  refine lv_aload_n hx hb d_M_has_0 rfl (lv_at hl 0 rfl) ?_
  refine va_get (D := (dC, dI)) (ci := 1) (v := .ref (qa 1)) (C := R_M) (T := F_M) (N := 5) hx hb hts i_M hown hK hP 0 rfl rfl 0 (by decide) (hts _ k_16) (fun _ h9 => h9) rfl d_M_has_1 ?_
  refine lv_iload_n hx hb d_M_has_4 rfl (lv_at hl 2 rfl) ?_
  have hi_1 : vp_in p2 4 := by first | with_reducible assumption | exact in_name (by with_reducible assumption) | exact in4_4 (by with_reducible assumption) | exact in4_5 (by with_reducible assumption) | exact in4_6 (by with_reducible assumption) | exact in4_7 (by with_reducible assumption)
  refine va_iald (D := (dC, dI)) (f := (mm 0)) hx hb hK hP 1 0 rfl rfl hi_1 d_M_has_5 ?_
  refine lv_iload_n hx hb d_M_has_6 rfl (lv_at hl 1 rfl) ?_
  refine va_calli (va_runSN (As := [.int ((mm 0) p2.toNatClampNeg), .int p1]) (rest := []) ⟨hx, hb, hml, hown, hts⟩ (c_O_holds l dC dI  s.heap.size   ((mm 0) p2.toNatClampNeg) p1) ⟨va_cnB 2 hts k_g2 rfl rfl rfl (hN _ k_20 rfl) (hts _ k_6) (by decide +kernel) ⟨Nat.le_of_ble_eq_true rfl, Nat.le_of_ble_eq_true rfl⟩, hts _ k_7, trivial⟩ ⟨fb_ro, fun U hU hW => ⟨rfl, by rw [hU], by rw [hU]; exact hP.sub (ws' := ([] : va_W)) [] rfl, va_K.moved hW.alike (hK.sub (tys' := []) [] rfl), NX.warm hW hN⟩⟩ rfl rfl hl.1 rfl (lv_room (Nat.le_of_ble_eq_true rfl)) d_M_has_7 ⟨Nat.zero_le _, Nat.zero_le _⟩) hS (fun z h1 h2 => absurd h1 (Nat.not_lt.mpr h2)) (fun z h => hA z (Nat.le_trans hS.1 h)) (fun r u t H1 locs ht hvm hpo hB hz1 hk1 hS => ?_)
  subst hpo
  have hP := kp_P hP hk1
  generalize H1 = H at hP hS ⊢
  exact W.zret (v := (f_O_holds ((mm 0) p2.toNatClampNeg) p1)) hx hb hr (z_O_holds) (fun t ht hW => ⟨⟨(f_O_holds ((mm 0) p2.toNatClampNeg) p1), (), rfl, rfl, trivial⟩, hS.F ht⟩) hS.2.2 d_M_has_10
set_option maxHeartbeats 4000000 in
set_option maxRecDepth 100000 in
theorem c_M_isStatic (l : Launch) (dC : Nat → ClassId) (dI : Nat → Nat → Nat) (ka : Nat → ClassId) (qa : Nat → Nat) (sz : Nat) (mm : MS) (p1 p2 : Int32) (hp2 : vp_in p2 4) : Met l y_M_isStatic w_M_isStatic ({ frames := 1, cells := 0, slots := 0, locals := 21 } : Room) (ro_P dC dI (wM ka qa mm) (tM ka) sz [.ref (qa 0), .int p1, .int p2]) (ro_Q sz (f_M_isStatic mm p1 p2)) 0 0 (fun z => sz ≤ z) := by
  refine Met.ofW (cc := b_M_isStatic) (maxL := 3) (ret := (some .boolean)) (by decide) rfl ?_
  intro p e s m args below meth c s₁ B hml hv
  obtain ⟨rfl, hsz, hP, hK, hN⟩ := hv
  have hx := B.exec
  have hb := B.bytes
  have hr := B.returns
  have hts := tl_of (atoms_spec (ws := w_M_isStatic) B.pre)
  have hown : s.vm.findClass R_M = some m.cls := findClass_of_methodNamed B.named
  have hlocks := B.notSynchronized
  subst hsz
  have hA : ∀ z : Nat, s.heap.size ≤ z → (fun z : Nat => s.heap.size ≤ z) z := fun _ h => h
  have hS : va_S (fun z : Nat => s.heap.size ≤ z) s.heap s.heap [] := va_S.rf
  have hl := lv_entry ([.ref (qa 0), .int p1, .int p2]) (n := 3) (Nat.le_of_ble_eq_true rfl)
  rw [lg_entry_eq]
  generalize (lg_sl ([.ref (qa 0), .int p1, .int p2]) ++ List.replicate (3 - (lg_sl ([.ref (qa 0), .int p1, .int p2])).length) Slot.unset).toArray = ls at hl ⊢
  have hl : lv_has ls 3 [(0, .ref (qa 0)), (1, .int p1), (2, .int p2)] := hl
  refine lv_aload_n hx hb d_M_isStatic_0 rfl (lv_at hl 0 rfl) ?_
  refine va_get (D := (dC, dI)) (ci := 1) (v := .ref (qa 2)) (C := R_M) (T := F_M) (N := 5) hx hb hts i_M hown hK hP 0 rfl rfl 1 (by decide) (hts _ k_18) (fun _ h9 => h9) rfl d_M_isStatic_1 ?_
  refine lv_iload_n hx hb d_M_isStatic_4 rfl (lv_at hl 2 rfl) ?_
  have hi_1 : vp_in p2 4 := by first | with_reducible assumption | exact in_name (by with_reducible assumption) | exact in4_4 (by with_reducible assumption) | exact in4_5 (by with_reducible assumption) | exact in4_6 (by with_reducible assumption) | exact in4_7 (by with_reducible assumption)
  refine va_iald (D := (dC, dI)) (f := (mm 1)) hx hb hK hP 2 1 rfl rfl hi_1 d_M_isStatic_5 ?_
  refine lv_iload_n hx hb d_M_isStatic_6 rfl (lv_at hl 1 rfl) ?_
  refine va_calli (va_runSN (As := [.int ((mm 1) p2.toNatClampNeg), .int p1]) (rest := []) ⟨hx, hb, hml, hown, hts⟩ (c_O_holds l dC dI  s.heap.size   ((mm 1) p2.toNatClampNeg) p1) ⟨va_cnB 2 hts k_g2 rfl rfl rfl (hN _ k_20 rfl) (hts _ k_6) (by decide +kernel) ⟨Nat.le_of_ble_eq_true rfl, Nat.le_of_ble_eq_true rfl⟩, hts _ k_7, trivial⟩ ⟨fb_ro, fun U hU hW => ⟨rfl, by rw [hU], by rw [hU]; exact hP.sub (ws' := ([] : va_W)) [] rfl, va_K.moved hW.alike (hK.sub (tys' := []) [] rfl), NX.warm hW hN⟩⟩ rfl rfl hl.1 rfl (lv_room (Nat.le_of_ble_eq_true rfl)) d_M_isStatic_7 ⟨Nat.zero_le _, Nat.zero_le _⟩) hS (fun z h1 h2 => absurd h1 (Nat.not_lt.mpr h2)) (fun z h => hA z (Nat.le_trans hS.1 h)) (fun r u t H1 locs ht hvm hpo hB hz1 hk1 hS => ?_)
  subst hpo
  have hP := kp_P hP hk1
  generalize H1 = H at hP hS ⊢
  exact W.zret (v := (f_O_holds ((mm 1) p2.toNatClampNeg) p1)) hx hb hr (z_O_holds) (fun t ht hW => ⟨⟨(f_O_holds ((mm 1) p2.toNatClampNeg) p1), (), rfl, rfl, trivial⟩, hS.F ht⟩) hS.2.2 d_M_isStatic_10
set_option maxHeartbeats 4000000 in
set_option maxRecDepth 100000 in
theorem c_M_accessOf (l : Launch) (dC : Nat → ClassId) (dI : Nat → Nat → Nat) (ka : Nat → ClassId) (qa : Nat → Nat) (sz : Nat) (mm : MS) (p1 p2 : Int32) (hp : vp_in ((p1 * (4 : Int32)) + p2) 52) : Met l y_M_accessOf w_M_accessOf ({ frames := 0, cells := 0, slots := 0, locals := 0 } : Room) (ro_P dC dI (wM ka qa mm) (tM ka) sz [.ref (qa 0), .int p1, .int p2]) (ro_Q sz (f_M_accessOf mm p1 p2)) 0 0 (fun z => sz ≤ z) := by
  refine Met.ofW (cc := b_M_accessOf) (maxL := 3) (ret := (some .int)) (by decide) rfl ?_
  intro p e s m args below meth c s₁ B hml hv
  obtain ⟨rfl, hsz, hP, hK, hN⟩ := hv
  have hx := B.exec
  have hb := B.bytes
  have hr := B.returns
  have hts := tl_of (atoms_spec (ws := w_M_accessOf) B.pre)
  have hown : s.vm.findClass R_M = some m.cls := findClass_of_methodNamed B.named
  have hlocks := B.notSynchronized
  subst hsz
  have hA : ∀ z : Nat, s.heap.size ≤ z → (fun z : Nat => s.heap.size ≤ z) z := fun _ h => h
  have hS : va_S (fun z : Nat => s.heap.size ≤ z) s.heap s.heap [] := va_S.rf
  have hl := lv_entry ([.ref (qa 0), .int p1, .int p2]) (n := 3) (Nat.le_of_ble_eq_true rfl)
  rw [lg_entry_eq]
  generalize (lg_sl ([.ref (qa 0), .int p1, .int p2]) ++ List.replicate (3 - (lg_sl ([.ref (qa 0), .int p1, .int p2])).length) Slot.unset).toArray = ls at hl ⊢
  have hl : lv_has ls 3 [(0, .ref (qa 0)), (1, .int p1), (2, .int p2)] := hl
  refine lv_aload_n hx hb d_M_accessOf_0 rfl (lv_at hl 0 rfl) ?_
  refine va_get (D := (dC, dI)) (ci := 1) (v := .ref (qa 5)) (C := R_M) (T := F_M) (N := 5) hx hb hts i_M hown hK hP 0 rfl rfl 4 (by decide) (hts _ k_21) (fun _ h9 => h9) rfl d_M_accessOf_1 ?_
  refine lv_iload_n hx hb d_M_accessOf_4 rfl (lv_at hl 1 rfl) ?_
  refine lv_iconst (v := (4 : Int32)) hx hb d_M_accessOf_5 (by decide +kernel) ?_
  refine lv_imul hx hb d_M_accessOf_6 ?_
  refine lv_iload_n hx hb d_M_accessOf_7 rfl (lv_at hl 2 rfl) ?_
  refine lv_iadd hx hb d_M_accessOf_8 ?_
  have hi_1 : vp_in ((p1 * (4 : Int32)) + p2) 52 := by first | with_reducible assumption | exact in_52 (by first | with_reducible assumption | exact in_has hw (by with_reducible assumption) | exact in_cls hw (by with_reducible assumption) | exact in_ifc hw (by with_reducible assumption) | exact in_ext hw (by with_reducible assumption) | exact in_eq0 (by with_reducible assumption) | exact hfd (by with_reducible assumption) | exact in_rcv hw (by with_reducible assumption) (Or.inl (by with_reducible assumption)) | exact in_rcv hw (by with_reducible assumption) (Or.inr (by with_reducible assumption))) (by first | with_reducible assumption | exact in_name (by with_reducible assumption) | exact in4_4 (by with_reducible assumption) | exact in4_5 (by with_reducible assumption) | exact in4_6 (by with_reducible assumption) | exact in4_7 (by with_reducible assumption))
  refine va_iald (D := (dC, dI)) (f := (mm 4)) hx hb hK hP 5 4 rfl rfl hi_1 d_M_accessOf_9 ?_
  exact W.iret (v := ((mm 4) ((p1 * (4 : Int32)) + p2).toNatClampNeg)) hx hb hr (fun t ht hW => ⟨⟨((mm 4) ((p1 * (4 : Int32)) + p2).toNatClampNeg), (), rfl, rfl, trivial⟩, hS.F ht⟩) hS.2.2 d_M_accessOf_10
set_option maxHeartbeats 4000000 in
set_option maxRecDepth 100000 in
theorem c_M_drop (l : Launch) (dC : Nat → ClassId) (dI : Nat → Nat → Nat) (ka : Nat → ClassId) (qa : Nat → Nat) (sz : Nat) (mm : MS) (p1 p2 : Int32) (hp2 : vp_in p2 4) : Met l y_M_drop w_M_drop ({ frames := 0, cells := 0, slots := 0, locals := 0 } : Room) (mu_P dC dI (wM ka qa mm) (tM ka) sz [.ref (qa 0), .int p1, .int p2]) (mu_Qv (fun (S9 : MS) => (wM ka qa S9)) dC dI (s_M_drop mm p1 p2) (va_A (wM ka qa mm) sz)) 0 0 (va_A (wM ka qa mm) sz) := by
  refine Met.ofW (cc := b_M_drop) (maxL := 4) (ret := none) (by decide) rfl ?_
  intro p e s m args below meth c s₁ B hml hv
  obtain ⟨rfl, hsz, hP, hK, hN, hD0⟩ := hv
  have hx := B.exec
  have hb := B.bytes
  have hr := B.returns
  have hts := tl_of (atoms_spec (ws := w_M_drop) B.pre)
  have hown : s.vm.findClass R_M = some m.cls := findClass_of_methodNamed B.named
  have hlocks := B.notSynchronized
  subst hsz
  have hD := hD0.self (sz := s.heap.size)
  generalize hAe : va_A (wM ka qa mm) s.heap.size = A at hD ⊢
  have hA : ∀ q : Nat, s.heap.size ≤ q → A q := fun q h => by rw [← hAe]; exact Or.inr h
  have hS : va_S A s.heap s.heap [] := va_S.rf
  have hl := lv_entry ([.ref (qa 0), .int p1, .int p2]) (n := 4) (Nat.le_of_ble_eq_true rfl)
  rw [lg_entry_eq]
  generalize (lg_sl ([.ref (qa 0), .int p1, .int p2]) ++ List.replicate (4 - (lg_sl ([.ref (qa 0), .int p1, .int p2])).length) Slot.unset).toArray = ls at hl ⊢
  have hl : lv_has ls 4 [(0, .ref (qa 0)), (1, .int p1), (2, .int p2)] := hl
  refine lv_iconst (v := (1 : Int32)) hx hb d_M_drop_0 (by decide +kernel) ?_
  refine lv_iload_n hx hb d_M_drop_1 rfl (lv_at hl 1 rfl) ?_
  refine lv_ishl hx hb d_M_drop_2 ?_
  refine lv_iconst (v := (-1 : Int32)) hx hb d_M_drop_3 (by decide +kernel) ?_
  refine lv_ixor hx hb d_M_drop_4 ?_
  refine lv_istore_n (lv' := [(3, .int (((1 : Int32) <<< (p1 &&& (31 : Int32))) ^^^ (-1 : Int32))), (0, .ref (qa 0)), (1, .int p1), (2, .int p2)]) hx hb d_M_drop_5 rfl hl (by decide) rfl (fun ls hl => ?_)
  refine lv_aload_n hx hb d_M_drop_6 rfl (lv_at hl 1 rfl) ?_
  refine va_get (D := (dC, dI)) (ci := 1) (v := .ref (qa 1)) (C := R_M) (T := F_M) (N := 5) hx hb hts i_M hown hK hP 0 rfl rfl 0 (by decide) (hts _ k_16) (fun _ h9 => h9) rfl d_M_drop_7 ?_
  refine lv_iload_n hx hb d_M_drop_10 rfl (lv_at hl 3 rfl) ?_
  refine lv_dup2_11 hx hb d_M_drop_11 rfl rfl ?_
  have hi_1 : vp_in p2 4 := by first | with_reducible assumption | exact in_name (by with_reducible assumption) | exact in4_4 (by with_reducible assumption) | exact in4_5 (by with_reducible assumption) | exact in4_6 (by with_reducible assumption) | exact in4_7 (by with_reducible assumption)
  refine va_iald (D := (dC, dI)) (f := (mm 0)) hx hb hK hP 1 0 rfl rfl hi_1 d_M_drop_12 ?_
  refine lv_iload_n hx hb d_M_drop_13 rfl (lv_at hl 0 rfl) ?_
  refine lv_iand hx hb d_M_drop_14 ?_
  have hi_2 : vp_in p2 4 := by first | with_reducible assumption | exact in_name (by with_reducible assumption) | exact in4_4 (by with_reducible assumption) | exact in4_5 (by with_reducible assumption) | exact in4_6 (by with_reducible assumption) | exact in4_7 (by with_reducible assumption)
  refine va_iast (D := (dC, dI)) (f := (mm 0)) hx hb hK hP hD hS 1 0 rfl rfl hi_2 d_M_drop_15 (fun H locs hP hD hS => ?_)
  have hP : va_P (dC, dI) classes ([(qa 0, .inr (1, [.ref (qa 1), .ref (qa 2), .ref (qa 3), .ref (qa 4), .ref (qa 5)])), (qa 1, .inl (ka 0, 4, .inl (upd (mm 0) p2.toNatClampNeg (((mm 0) p2.toNatClampNeg) &&& (((1 : Int32) <<< (p1 &&& (31 : Int32))) ^^^ (-1 : Int32)))))), (qa 2, .inl (ka 1, 4, .inl (mm 1))), (qa 3, .inl (ka 2, 4, .inl (mm 2))), (qa 4, .inl (ka 3, 4, .inl (mm 3))), (qa 5, .inl (ka 4, 52, .inl (mm 4)))] : va_W) H := hP
  have hD : va_D A ([(qa 0, .inr (1, [.ref (qa 1), .ref (qa 2), .ref (qa 3), .ref (qa 4), .ref (qa 5)])), (qa 1, .inl (ka 0, 4, .inl (upd (mm 0) p2.toNatClampNeg (((mm 0) p2.toNatClampNeg) &&& (((1 : Int32) <<< (p1 &&& (31 : Int32))) ^^^ (-1 : Int32)))))), (qa 2, .inl (ka 1, 4, .inl (mm 1))), (qa 3, .inl (ka 2, 4, .inl (mm 2))), (qa 4, .inl (ka 3, 4, .inl (mm 3))), (qa 5, .inl (ka 4, 52, .inl (mm 4)))] : va_W) := hD
  refine lv_aload_n hx hb d_M_drop_16 rfl (lv_at hl 1 rfl) ?_
  refine va_get (D := (dC, dI)) (ci := 1) (v := .ref (qa 2)) (C := R_M) (T := F_M) (N := 5) hx hb hts i_M hown hK hP 0 rfl rfl 1 (by decide) (hts _ k_18) (fun _ h9 => h9) rfl d_M_drop_17 ?_
  refine lv_iload_n hx hb d_M_drop_20 rfl (lv_at hl 3 rfl) ?_
  refine lv_dup2_11 hx hb d_M_drop_21 rfl rfl ?_
  have hi_3 : vp_in p2 4 := by first | with_reducible assumption | exact in_name (by with_reducible assumption) | exact in4_4 (by with_reducible assumption) | exact in4_5 (by with_reducible assumption) | exact in4_6 (by with_reducible assumption) | exact in4_7 (by with_reducible assumption)
  refine va_iald (D := (dC, dI)) (f := (mm 1)) hx hb hK hP 2 1 rfl rfl hi_3 d_M_drop_22 ?_
  refine lv_iload_n hx hb d_M_drop_23 rfl (lv_at hl 0 rfl) ?_
  refine lv_iand hx hb d_M_drop_24 ?_
  have hi_4 : vp_in p2 4 := by first | with_reducible assumption | exact in_name (by with_reducible assumption) | exact in4_4 (by with_reducible assumption) | exact in4_5 (by with_reducible assumption) | exact in4_6 (by with_reducible assumption) | exact in4_7 (by with_reducible assumption)
  refine va_iast (D := (dC, dI)) (f := (mm 1)) hx hb hK hP hD hS 2 1 rfl rfl hi_4 d_M_drop_25 (fun H locs hP hD hS => ?_)
  have hP : va_P (dC, dI) classes ([(qa 0, .inr (1, [.ref (qa 1), .ref (qa 2), .ref (qa 3), .ref (qa 4), .ref (qa 5)])), (qa 1, .inl (ka 0, 4, .inl (upd (mm 0) p2.toNatClampNeg (((mm 0) p2.toNatClampNeg) &&& (((1 : Int32) <<< (p1 &&& (31 : Int32))) ^^^ (-1 : Int32)))))), (qa 2, .inl (ka 1, 4, .inl (upd (mm 1) p2.toNatClampNeg (((mm 1) p2.toNatClampNeg) &&& (((1 : Int32) <<< (p1 &&& (31 : Int32))) ^^^ (-1 : Int32)))))), (qa 3, .inl (ka 2, 4, .inl (mm 2))), (qa 4, .inl (ka 3, 4, .inl (mm 3))), (qa 5, .inl (ka 4, 52, .inl (mm 4)))] : va_W) H := hP
  have hD : va_D A ([(qa 0, .inr (1, [.ref (qa 1), .ref (qa 2), .ref (qa 3), .ref (qa 4), .ref (qa 5)])), (qa 1, .inl (ka 0, 4, .inl (upd (mm 0) p2.toNatClampNeg (((mm 0) p2.toNatClampNeg) &&& (((1 : Int32) <<< (p1 &&& (31 : Int32))) ^^^ (-1 : Int32)))))), (qa 2, .inl (ka 1, 4, .inl (upd (mm 1) p2.toNatClampNeg (((mm 1) p2.toNatClampNeg) &&& (((1 : Int32) <<< (p1 &&& (31 : Int32))) ^^^ (-1 : Int32)))))), (qa 3, .inl (ka 2, 4, .inl (mm 2))), (qa 4, .inl (ka 3, 4, .inl (mm 3))), (qa 5, .inl (ka 4, 52, .inl (mm 4)))] : va_W) := hD
  refine lv_aload_n hx hb d_M_drop_26 rfl (lv_at hl 1 rfl) ?_
  refine va_get (D := (dC, dI)) (ci := 1) (v := .ref (qa 3)) (C := R_M) (T := F_M) (N := 5) hx hb hts i_M hown hK hP 0 rfl rfl 2 (by decide) (hts _ k_17) (fun _ h9 => h9) rfl d_M_drop_27 ?_
  refine lv_iload_n hx hb d_M_drop_30 rfl (lv_at hl 3 rfl) ?_
  refine lv_dup2_11 hx hb d_M_drop_31 rfl rfl ?_
  have hi_5 : vp_in p2 4 := by first | with_reducible assumption | exact in_name (by with_reducible assumption) | exact in4_4 (by with_reducible assumption) | exact in4_5 (by with_reducible assumption) | exact in4_6 (by with_reducible assumption) | exact in4_7 (by with_reducible assumption)
  refine va_iald (D := (dC, dI)) (f := (mm 2)) hx hb hK hP 3 2 rfl rfl hi_5 d_M_drop_32 ?_
  refine lv_iload_n hx hb d_M_drop_33 rfl (lv_at hl 0 rfl) ?_
  refine lv_iand hx hb d_M_drop_34 ?_
  have hi_6 : vp_in p2 4 := by first | with_reducible assumption | exact in_name (by with_reducible assumption) | exact in4_4 (by with_reducible assumption) | exact in4_5 (by with_reducible assumption) | exact in4_6 (by with_reducible assumption) | exact in4_7 (by with_reducible assumption)
  refine va_iast (D := (dC, dI)) (f := (mm 2)) hx hb hK hP hD hS 3 2 rfl rfl hi_6 d_M_drop_35 (fun H locs hP hD hS => ?_)
  have hP : va_P (dC, dI) classes ([(qa 0, .inr (1, [.ref (qa 1), .ref (qa 2), .ref (qa 3), .ref (qa 4), .ref (qa 5)])), (qa 1, .inl (ka 0, 4, .inl (upd (mm 0) p2.toNatClampNeg (((mm 0) p2.toNatClampNeg) &&& (((1 : Int32) <<< (p1 &&& (31 : Int32))) ^^^ (-1 : Int32)))))), (qa 2, .inl (ka 1, 4, .inl (upd (mm 1) p2.toNatClampNeg (((mm 1) p2.toNatClampNeg) &&& (((1 : Int32) <<< (p1 &&& (31 : Int32))) ^^^ (-1 : Int32)))))), (qa 3, .inl (ka 2, 4, .inl (upd (mm 2) p2.toNatClampNeg (((mm 2) p2.toNatClampNeg) &&& (((1 : Int32) <<< (p1 &&& (31 : Int32))) ^^^ (-1 : Int32)))))), (qa 4, .inl (ka 3, 4, .inl (mm 3))), (qa 5, .inl (ka 4, 52, .inl (mm 4)))] : va_W) H := hP
  have hD : va_D A ([(qa 0, .inr (1, [.ref (qa 1), .ref (qa 2), .ref (qa 3), .ref (qa 4), .ref (qa 5)])), (qa 1, .inl (ka 0, 4, .inl (upd (mm 0) p2.toNatClampNeg (((mm 0) p2.toNatClampNeg) &&& (((1 : Int32) <<< (p1 &&& (31 : Int32))) ^^^ (-1 : Int32)))))), (qa 2, .inl (ka 1, 4, .inl (upd (mm 1) p2.toNatClampNeg (((mm 1) p2.toNatClampNeg) &&& (((1 : Int32) <<< (p1 &&& (31 : Int32))) ^^^ (-1 : Int32)))))), (qa 3, .inl (ka 2, 4, .inl (upd (mm 2) p2.toNatClampNeg (((mm 2) p2.toNatClampNeg) &&& (((1 : Int32) <<< (p1 &&& (31 : Int32))) ^^^ (-1 : Int32)))))), (qa 4, .inl (ka 3, 4, .inl (mm 3))), (qa 5, .inl (ka 4, 52, .inl (mm 4)))] : va_W) := hD
  refine lv_aload_n hx hb d_M_drop_36 rfl (lv_at hl 1 rfl) ?_
  refine va_get (D := (dC, dI)) (ci := 1) (v := .ref (qa 4)) (C := R_M) (T := F_M) (N := 5) hx hb hts i_M hown hK hP 0 rfl rfl 3 (by decide) (hts _ k_19) (fun _ h9 => h9) rfl d_M_drop_37 ?_
  refine lv_iload_n hx hb d_M_drop_40 rfl (lv_at hl 3 rfl) ?_
  refine lv_dup2_11 hx hb d_M_drop_41 rfl rfl ?_
  have hi_7 : vp_in p2 4 := by first | with_reducible assumption | exact in_name (by with_reducible assumption) | exact in4_4 (by with_reducible assumption) | exact in4_5 (by with_reducible assumption) | exact in4_6 (by with_reducible assumption) | exact in4_7 (by with_reducible assumption)
  refine va_iald (D := (dC, dI)) (f := (mm 3)) hx hb hK hP 4 3 rfl rfl hi_7 d_M_drop_42 ?_
  refine lv_iload_n hx hb d_M_drop_43 rfl (lv_at hl 0 rfl) ?_
  refine lv_iand hx hb d_M_drop_44 ?_
  have hi_8 : vp_in p2 4 := by first | with_reducible assumption | exact in_name (by with_reducible assumption) | exact in4_4 (by with_reducible assumption) | exact in4_5 (by with_reducible assumption) | exact in4_6 (by with_reducible assumption) | exact in4_7 (by with_reducible assumption)
  refine va_iast (D := (dC, dI)) (f := (mm 3)) hx hb hK hP hD hS 4 3 rfl rfl hi_8 d_M_drop_45 (fun H locs hP hD hS => ?_)
  have hP : va_P (dC, dI) classes ([(qa 0, .inr (1, [.ref (qa 1), .ref (qa 2), .ref (qa 3), .ref (qa 4), .ref (qa 5)])), (qa 1, .inl (ka 0, 4, .inl (upd (mm 0) p2.toNatClampNeg (((mm 0) p2.toNatClampNeg) &&& (((1 : Int32) <<< (p1 &&& (31 : Int32))) ^^^ (-1 : Int32)))))), (qa 2, .inl (ka 1, 4, .inl (upd (mm 1) p2.toNatClampNeg (((mm 1) p2.toNatClampNeg) &&& (((1 : Int32) <<< (p1 &&& (31 : Int32))) ^^^ (-1 : Int32)))))), (qa 3, .inl (ka 2, 4, .inl (upd (mm 2) p2.toNatClampNeg (((mm 2) p2.toNatClampNeg) &&& (((1 : Int32) <<< (p1 &&& (31 : Int32))) ^^^ (-1 : Int32)))))), (qa 4, .inl (ka 3, 4, .inl (upd (mm 3) p2.toNatClampNeg (((mm 3) p2.toNatClampNeg) &&& (((1 : Int32) <<< (p1 &&& (31 : Int32))) ^^^ (-1 : Int32)))))), (qa 5, .inl (ka 4, 52, .inl (mm 4)))] : va_W) H := hP
  have hD : va_D A ([(qa 0, .inr (1, [.ref (qa 1), .ref (qa 2), .ref (qa 3), .ref (qa 4), .ref (qa 5)])), (qa 1, .inl (ka 0, 4, .inl (upd (mm 0) p2.toNatClampNeg (((mm 0) p2.toNatClampNeg) &&& (((1 : Int32) <<< (p1 &&& (31 : Int32))) ^^^ (-1 : Int32)))))), (qa 2, .inl (ka 1, 4, .inl (upd (mm 1) p2.toNatClampNeg (((mm 1) p2.toNatClampNeg) &&& (((1 : Int32) <<< (p1 &&& (31 : Int32))) ^^^ (-1 : Int32)))))), (qa 3, .inl (ka 2, 4, .inl (upd (mm 2) p2.toNatClampNeg (((mm 2) p2.toNatClampNeg) &&& (((1 : Int32) <<< (p1 &&& (31 : Int32))) ^^^ (-1 : Int32)))))), (qa 4, .inl (ka 3, 4, .inl (upd (mm 3) p2.toNatClampNeg (((mm 3) p2.toNatClampNeg) &&& (((1 : Int32) <<< (p1 &&& (31 : Int32))) ^^^ (-1 : Int32)))))), (qa 5, .inl (ka 4, 52, .inl (mm 4)))] : va_W) := hD
  have hP := wM_mk hP
  have hD := wM_mkD hD
  have hP9 : va_P (dC, dI) classes (wM ka qa (mk5 (upd (mm 0) p2.toNatClampNeg (((mm 0) p2.toNatClampNeg) &&& (((1 : Int32) <<< (p1 &&& (31 : Int32))) ^^^ (-1 : Int32)))) (upd (mm 1) p2.toNatClampNeg (((mm 1) p2.toNatClampNeg) &&& (((1 : Int32) <<< (p1 &&& (31 : Int32))) ^^^ (-1 : Int32)))) (upd (mm 2) p2.toNatClampNeg (((mm 2) p2.toNatClampNeg) &&& (((1 : Int32) <<< (p1 &&& (31 : Int32))) ^^^ (-1 : Int32)))) (upd (mm 3) p2.toNatClampNeg (((mm 3) p2.toNatClampNeg) &&& (((1 : Int32) <<< (p1 &&& (31 : Int32))) ^^^ (-1 : Int32)))) (mm 4))) H := hP
  exact W.vret hx hb hr (fun t ht hW => ⟨⟨(mk5 (upd (mm 0) p2.toNatClampNeg (((mm 0) p2.toNatClampNeg) &&& (((1 : Int32) <<< (p1 &&& (31 : Int32))) ^^^ (-1 : Int32)))) (upd (mm 1) p2.toNatClampNeg (((mm 1) p2.toNatClampNeg) &&& (((1 : Int32) <<< (p1 &&& (31 : Int32))) ^^^ (-1 : Int32)))) (upd (mm 2) p2.toNatClampNeg (((mm 2) p2.toNatClampNeg) &&& (((1 : Int32) <<< (p1 &&& (31 : Int32))) ^^^ (-1 : Int32)))) (upd (mm 3) p2.toNatClampNeg (((mm 3) p2.toNatClampNeg) &&& (((1 : Int32) <<< (p1 &&& (31 : Int32))) ^^^ (-1 : Int32)))) (mm 4)), rfl, (rfl), hp_at ht hP9⟩, hS.F ht⟩) hS.2.2 d_M_drop_46
set_option maxHeartbeats 4000000 in
set_option maxRecDepth 100000 in
theorem c_M_put (l : Launch) (dC : Nat → ClassId) (dI : Nat → Nat → Nat) (ka : Nat → ClassId) (qa : Nat → Nat) (sz : Nat) (mm : MS) (p1 p2 p3 p4 : Int32) (hp1 : vp_in p1 13) (hp2 : vp_in p2 4) : Met l y_M_put w_M_put ({ frames := 1, cells := 0, slots := 0, locals := 23 } : Room) (mu_P dC dI (wM ka qa mm) (tM ka) sz [.ref (qa 0), .int p1, .int p2, .int p3, .int p4]) (mu_Qv (fun (S9 : MS) => (wM ka qa S9)) dC dI (s_M_put mm p1 p2 p3 p4) (va_A (wM ka qa mm) sz)) 0 0 (va_A (wM ka qa mm) sz) := by
  refine Met.ofW (cc := b_M_put) (maxL := 6) (ret := none) (by decide) rfl ?_
  intro p e s m args below meth c s₁ B hml hv
  obtain ⟨rfl, hsz, hP, hK, hN, hD0⟩ := hv
  have hx := B.exec
  have hb := B.bytes
  have hr := B.returns
  have hts := tl_of (atoms_spec (ws := w_M_put) B.pre)
  have hown : s.vm.findClass R_M = some m.cls := findClass_of_methodNamed B.named
  have hlocks := B.notSynchronized
  subst hsz
  have hD := hD0.self (sz := s.heap.size)
  generalize hAe : va_A (wM ka qa mm) s.heap.size = A at hD ⊢
  have hA : ∀ q : Nat, s.heap.size ≤ q → A q := fun q h => by rw [← hAe]; exact Or.inr h
  have hS : va_S A s.heap s.heap [] := va_S.rf
  have hl := lv_entry ([.ref (qa 0), .int p1, .int p2, .int p3, .int p4]) (n := 6) (Nat.le_of_ble_eq_true rfl)
  rw [lg_entry_eq]
  generalize (lg_sl ([.ref (qa 0), .int p1, .int p2, .int p3, .int p4]) ++ List.replicate (6 - (lg_sl ([.ref (qa 0), .int p1, .int p2, .int p3, .int p4])).length) Slot.unset).toArray = ls at hl ⊢
  have hl : lv_has ls 6 [(0, .ref (qa 0)), (1, .int p1), (2, .int p2), (3, .int p3), (4, .int p4)] := hl
  refine lv_aload_n hx hb d_M_put_0 rfl (lv_at hl 0 rfl) ?_
  refine lv_iload_n hx hb d_M_put_1 rfl (lv_at hl 1 rfl) ?_
  refine lv_iload_n hx hb d_M_put_2 rfl (lv_at hl 2 rfl) ?_
  have hq_1 : vp_in p2 4 := by first | with_reducible assumption | exact in_name (by with_reducible assumption) | exact in4_4 (by with_reducible assumption) | exact in4_5 (by with_reducible assumption) | exact in4_6 (by with_reducible assumption) | exact in4_7 (by with_reducible assumption)
  have hPc := hP.sub (ws' := (wM ka qa mm)) [0, 1, 2, 3, 4, 5] rfl
  have hDc := hD.sub (ws' := (wM ka qa mm)) [0, 1, 2, 3, 4, 5] (by decide) rfl
  have hFc := va_free (wc := (wM ka qa mm)) hD hS hA [0, 1, 2, 3, 4, 5] rfl
  refine va_callv (va_runV (As := [.int p1, .int p2]) (rest := []) ⟨hx, hb, hml, hown, hts⟩ (c_M_drop l dC dI ka qa s.heap.size mm  p1 p2 hq_1) (cwV 2 hts k_g8 rfl rfl rfl (by decide +kernel) ⟨Nat.le_of_ble_eq_true rfl, Nat.le_of_ble_eq_true rfl⟩) ⟨fb_mu, va_recv hK hP (ci := 1) (q0 := 0) rfl rfl, fun U hU hW => ⟨rfl, by rw [hU], by rw [hU]; exact hPc, va_K.moved hW.alike (hK.sub (tys' := (tM ka)) [0, 1, 2, 3, 4] rfl), NX.warm hW hN, hDc.weaken (fun _ _ _ _ => trivial)⟩⟩ rfl rfl hl.1 rfl (lv_room (Nat.le_of_ble_eq_true rfl)) d_M_put_3 ⟨Nat.zero_le _, Nat.zero_le _⟩) hS (fun q _ h => hFc q h) hFc (fun u t H1 locs ht hvm hpo hB hz1 hk1 hS => ?_)
  subst hpo
  have hB : va_P (dC, dI) classes (wM ka qa (s_M_drop mm p1 p2)) H1 := hp_to ht hB
  obtain ⟨hP, hD⟩ := va_join (wr := ([] : va_W)) (w1 := (wM ka qa (s_M_drop mm p1 p2))) hP hD [0, 1, 2, 3, 4, 5] [] rfl rfl (by decide) (by decide) hk1 hFc hB (ad_D hDc.self rfl)
  have hP := hP.sub (ws' := (wM ka qa (s_M_drop mm p1 p2))) [0, 1, 2, 3, 4, 5] rfl
  have hD := hD.sub (ws' := (wM ka qa (s_M_drop mm p1 p2))) [0, 1, 2, 3, 4, 5] (by decide) rfl
  generalize hS_2 : (s_M_drop mm p1 p2) = S_2 at hP hD
  generalize H1 = H at hP hS ⊢
  refine lv_iconst (v := (1 : Int32)) hx hb d_M_put_6 (by decide +kernel) ?_
  refine lv_iload_n hx hb d_M_put_7 rfl (lv_at hl 1 rfl) ?_
  refine lv_ishl hx hb d_M_put_8 ?_
  refine lv_istore (lv' := [(5, .int ((1 : Int32) <<< (p1 &&& (31 : Int32)))), (0, .ref (qa 0)), (1, .int p1), (2, .int p2), (3, .int p3), (4, .int p4)]) hx hb d_M_put_9 hl (by decide) rfl (fun ls hl => ?_)
  refine lv_aload_n hx hb d_M_put_11 rfl (lv_at hl 1 rfl) ?_
  refine va_get (D := (dC, dI)) (ci := 1) (v := .ref (qa 1)) (C := R_M) (T := F_M) (N := 5) hx hb hts i_M hown hK hP 0 rfl rfl 0 (by decide) (hts _ k_16) (fun _ h9 => h9) rfl d_M_put_12 ?_
  refine lv_iload_n hx hb d_M_put_15 rfl (lv_at hl 3 rfl) ?_
  refine lv_dup2_11 hx hb d_M_put_16 rfl rfl ?_
  have hi_3 : vp_in p2 4 := by first | with_reducible assumption | exact in_name (by with_reducible assumption) | exact in4_4 (by with_reducible assumption) | exact in4_5 (by with_reducible assumption) | exact in4_6 (by with_reducible assumption) | exact in4_7 (by with_reducible assumption)
  refine va_iald (D := (dC, dI)) (f := (S_2 0)) hx hb hK hP 1 0 rfl rfl hi_3 d_M_put_17 ?_
  refine lv_iload hx hb d_M_put_18 (lv_at hl 0 rfl) ?_
  refine lv_ior hx hb d_M_put_20 ?_
  have hi_4 : vp_in p2 4 := by first | with_reducible assumption | exact in_name (by with_reducible assumption) | exact in4_4 (by with_reducible assumption) | exact in4_5 (by with_reducible assumption) | exact in4_6 (by with_reducible assumption) | exact in4_7 (by with_reducible assumption)
  refine va_iast (D := (dC, dI)) (f := (S_2 0)) hx hb hK hP hD hS 1 0 rfl rfl hi_4 d_M_put_21 (fun H locs hP hD hS => ?_)
  have hP : va_P (dC, dI) classes ([(qa 0, .inr (1, [.ref (qa 1), .ref (qa 2), .ref (qa 3), .ref (qa 4), .ref (qa 5)])), (qa 1, .inl (ka 0, 4, .inl (upd (S_2 0) p2.toNatClampNeg (((S_2 0) p2.toNatClampNeg) ||| ((1 : Int32) <<< (p1 &&& (31 : Int32))))))), (qa 2, .inl (ka 1, 4, .inl (S_2 1))), (qa 3, .inl (ka 2, 4, .inl (S_2 2))), (qa 4, .inl (ka 3, 4, .inl (S_2 3))), (qa 5, .inl (ka 4, 52, .inl (S_2 4)))] : va_W) H := hP
  have hD : va_D A ([(qa 0, .inr (1, [.ref (qa 1), .ref (qa 2), .ref (qa 3), .ref (qa 4), .ref (qa 5)])), (qa 1, .inl (ka 0, 4, .inl (upd (S_2 0) p2.toNatClampNeg (((S_2 0) p2.toNatClampNeg) ||| ((1 : Int32) <<< (p1 &&& (31 : Int32))))))), (qa 2, .inl (ka 1, 4, .inl (S_2 1))), (qa 3, .inl (ka 2, 4, .inl (S_2 2))), (qa 4, .inl (ka 3, 4, .inl (S_2 3))), (qa 5, .inl (ka 4, 52, .inl (S_2 4)))] : va_W) := hD
  refine lv_iload hx hb d_M_put_22 (lv_at hl 5 rfl) ?_
  refine lv_iconst (v := (1 : Int32)) hx hb d_M_put_24 (by decide +kernel) ?_
  refine lv_icmp_ne (tgt := 39) hx hb d_M_put_25 (by decide) (fun c_5 => ?_) (fun c_5 => ?_)
  · have c_5 : ¬ (p4 = (1 : Int32)) := c_5
    refine lv_iload hx hb d_M_put_39 (lv_at hl 5 rfl) ?_
    refine lv_iconst (v := (2 : Int32)) hx hb d_M_put_41 (by decide +kernel) ?_
    refine lv_icmp_ne (tgt := 56) hx hb d_M_put_42 (by decide) (fun c_6 => ?_) (fun c_6 => ?_)
    · have c_6 : ¬ (p4 = (2 : Int32)) := c_6
      refine lv_iload_n hx hb d_M_put_56 rfl (lv_at hl 4 rfl) ?_
      refine lv_if_ne (tgt := 71) hx hb d_M_put_57 (by decide) (fun c_7 => ?_) (fun c_7 => ?_)
      · have c_7 : ¬ (p3 = (0 : Int32)) := c_7
        refine lv_aload_n hx hb d_M_put_71 rfl (lv_at hl 1 rfl) ?_
        refine va_get (D := (dC, dI)) (ci := 1) (v := .ref (qa 5)) (C := R_M) (T := F_M) (N := 5) hx hb hts i_M hown hK hP 0 rfl rfl 4 (by decide) (hts _ k_21) (fun _ h9 => h9) rfl d_M_put_72 ?_
        refine lv_iload_n hx hb d_M_put_75 rfl (lv_at hl 2 rfl) ?_
        refine lv_iconst (v := (4 : Int32)) hx hb d_M_put_76 (by decide +kernel) ?_
        refine lv_imul hx hb d_M_put_77 ?_
        refine lv_iload_n hx hb d_M_put_78 rfl (lv_at hl 3 rfl) ?_
        refine lv_iadd hx hb d_M_put_79 ?_
        refine lv_iload_n hx hb d_M_put_80 rfl (lv_at hl 4 rfl) ?_
        have hi_8 : vp_in ((p1 * (4 : Int32)) + p2) 52 := by first | with_reducible assumption | exact in_52 (by first | with_reducible assumption | exact in_has hw (by with_reducible assumption) | exact in_cls hw (by with_reducible assumption) | exact in_ifc hw (by with_reducible assumption) | exact in_ext hw (by with_reducible assumption) | exact in_eq0 (by with_reducible assumption) | exact hfd (by with_reducible assumption) | exact in_rcv hw (by with_reducible assumption) (Or.inl (by with_reducible assumption)) | exact in_rcv hw (by with_reducible assumption) (Or.inr (by with_reducible assumption))) (by first | with_reducible assumption | exact in_name (by with_reducible assumption) | exact in4_4 (by with_reducible assumption) | exact in4_5 (by with_reducible assumption) | exact in4_6 (by with_reducible assumption) | exact in4_7 (by with_reducible assumption))
        refine va_iast (D := (dC, dI)) (f := (S_2 4)) hx hb hK hP hD hS 5 4 rfl rfl hi_8 d_M_put_81 (fun H locs hP hD hS => ?_)
        have hP : va_P (dC, dI) classes ([(qa 0, .inr (1, [.ref (qa 1), .ref (qa 2), .ref (qa 3), .ref (qa 4), .ref (qa 5)])), (qa 1, .inl (ka 0, 4, .inl (upd (S_2 0) p2.toNatClampNeg (((S_2 0) p2.toNatClampNeg) ||| ((1 : Int32) <<< (p1 &&& (31 : Int32))))))), (qa 2, .inl (ka 1, 4, .inl (S_2 1))), (qa 3, .inl (ka 2, 4, .inl (S_2 2))), (qa 4, .inl (ka 3, 4, .inl (S_2 3))), (qa 5, .inl (ka 4, 52, .inl (upd (S_2 4) ((p1 * (4 : Int32)) + p2).toNatClampNeg p3)))] : va_W) H := hP
        have hD : va_D A ([(qa 0, .inr (1, [.ref (qa 1), .ref (qa 2), .ref (qa 3), .ref (qa 4), .ref (qa 5)])), (qa 1, .inl (ka 0, 4, .inl (upd (S_2 0) p2.toNatClampNeg (((S_2 0) p2.toNatClampNeg) ||| ((1 : Int32) <<< (p1 &&& (31 : Int32))))))), (qa 2, .inl (ka 1, 4, .inl (S_2 1))), (qa 3, .inl (ka 2, 4, .inl (S_2 2))), (qa 4, .inl (ka 3, 4, .inl (S_2 3))), (qa 5, .inl (ka 4, 52, .inl (upd (S_2 4) ((p1 * (4 : Int32)) + p2).toNatClampNeg p3)))] : va_W) := hD
        have hP := wM_mk hP
        have hD := wM_mkD hD
        have hP9 : va_P (dC, dI) classes (wM ka qa (mk5 (upd (S_2 0) p2.toNatClampNeg (((S_2 0) p2.toNatClampNeg) ||| ((1 : Int32) <<< (p1 &&& (31 : Int32))))) (S_2 1) (S_2 2) (S_2 3) (upd (S_2 4) ((p1 * (4 : Int32)) + p2).toNatClampNeg p3))) H := hP
        exact W.vret hx hb hr (fun t ht hW => ⟨⟨(mk5 (upd (S_2 0) p2.toNatClampNeg (((S_2 0) p2.toNatClampNeg) ||| ((1 : Int32) <<< (p1 &&& (31 : Int32))))) (S_2 1) (S_2 2) (S_2 3) (upd (S_2 4) ((p1 * (4 : Int32)) + p2).toNatClampNeg p3)), rfl, (by subst hS_2; unfold s_M_put; rw [if_neg c_5, if_neg c_6, if_neg c_7]), hp_at ht hP9⟩, hS.F ht⟩) hS.2.2 d_M_put_82
      · have c_7 : p3 = (0 : Int32) := c_7
        refine lv_aload_n hx hb d_M_put_60 rfl (lv_at hl 1 rfl) ?_
        refine va_get (D := (dC, dI)) (ci := 1) (v := .ref (qa 4)) (C := R_M) (T := F_M) (N := 5) hx hb hts i_M hown hK hP 0 rfl rfl 3 (by decide) (hts _ k_19) (fun _ h9 => h9) rfl d_M_put_61 ?_
        refine lv_iload_n hx hb d_M_put_64 rfl (lv_at hl 3 rfl) ?_
        refine lv_dup2_11 hx hb d_M_put_65 rfl rfl ?_
        have hi_9 : vp_in p2 4 := by first | with_reducible assumption | exact in_name (by with_reducible assumption) | exact in4_4 (by with_reducible assumption) | exact in4_5 (by with_reducible assumption) | exact in4_6 (by with_reducible assumption) | exact in4_7 (by with_reducible assumption)
        refine va_iald (D := (dC, dI)) (f := (S_2 3)) hx hb hK hP 4 3 rfl rfl hi_9 d_M_put_66 ?_
        refine lv_iload hx hb d_M_put_67 (lv_at hl 0 rfl) ?_
        refine lv_ior hx hb d_M_put_69 ?_
        have hi_10 : vp_in p2 4 := by first | with_reducible assumption | exact in_name (by with_reducible assumption) | exact in4_4 (by with_reducible assumption) | exact in4_5 (by with_reducible assumption) | exact in4_6 (by with_reducible assumption) | exact in4_7 (by with_reducible assumption)
        refine va_iast (D := (dC, dI)) (f := (S_2 3)) hx hb hK hP hD hS 4 3 rfl rfl hi_10 d_M_put_70 (fun H locs hP hD hS => ?_)
        have hP : va_P (dC, dI) classes ([(qa 0, .inr (1, [.ref (qa 1), .ref (qa 2), .ref (qa 3), .ref (qa 4), .ref (qa 5)])), (qa 1, .inl (ka 0, 4, .inl (upd (S_2 0) p2.toNatClampNeg (((S_2 0) p2.toNatClampNeg) ||| ((1 : Int32) <<< (p1 &&& (31 : Int32))))))), (qa 2, .inl (ka 1, 4, .inl (S_2 1))), (qa 3, .inl (ka 2, 4, .inl (S_2 2))), (qa 4, .inl (ka 3, 4, .inl (upd (S_2 3) p2.toNatClampNeg (((S_2 3) p2.toNatClampNeg) ||| ((1 : Int32) <<< (p1 &&& (31 : Int32))))))), (qa 5, .inl (ka 4, 52, .inl (S_2 4)))] : va_W) H := hP
        have hD : va_D A ([(qa 0, .inr (1, [.ref (qa 1), .ref (qa 2), .ref (qa 3), .ref (qa 4), .ref (qa 5)])), (qa 1, .inl (ka 0, 4, .inl (upd (S_2 0) p2.toNatClampNeg (((S_2 0) p2.toNatClampNeg) ||| ((1 : Int32) <<< (p1 &&& (31 : Int32))))))), (qa 2, .inl (ka 1, 4, .inl (S_2 1))), (qa 3, .inl (ka 2, 4, .inl (S_2 2))), (qa 4, .inl (ka 3, 4, .inl (upd (S_2 3) p2.toNatClampNeg (((S_2 3) p2.toNatClampNeg) ||| ((1 : Int32) <<< (p1 &&& (31 : Int32))))))), (qa 5, .inl (ka 4, 52, .inl (S_2 4)))] : va_W) := hD
        refine lv_aload_n hx hb d_M_put_71 rfl (lv_at hl 1 rfl) ?_
        refine va_get (D := (dC, dI)) (ci := 1) (v := .ref (qa 5)) (C := R_M) (T := F_M) (N := 5) hx hb hts i_M hown hK hP 0 rfl rfl 4 (by decide) (hts _ k_21) (fun _ h9 => h9) rfl d_M_put_72 ?_
        refine lv_iload_n hx hb d_M_put_75 rfl (lv_at hl 2 rfl) ?_
        refine lv_iconst (v := (4 : Int32)) hx hb d_M_put_76 (by decide +kernel) ?_
        refine lv_imul hx hb d_M_put_77 ?_
        refine lv_iload_n hx hb d_M_put_78 rfl (lv_at hl 3 rfl) ?_
        refine lv_iadd hx hb d_M_put_79 ?_
        refine lv_iload_n hx hb d_M_put_80 rfl (lv_at hl 4 rfl) ?_
        have hi_11 : vp_in ((p1 * (4 : Int32)) + p2) 52 := by first | with_reducible assumption | exact in_52 (by first | with_reducible assumption | exact in_has hw (by with_reducible assumption) | exact in_cls hw (by with_reducible assumption) | exact in_ifc hw (by with_reducible assumption) | exact in_ext hw (by with_reducible assumption) | exact in_eq0 (by with_reducible assumption) | exact hfd (by with_reducible assumption) | exact in_rcv hw (by with_reducible assumption) (Or.inl (by with_reducible assumption)) | exact in_rcv hw (by with_reducible assumption) (Or.inr (by with_reducible assumption))) (by first | with_reducible assumption | exact in_name (by with_reducible assumption) | exact in4_4 (by with_reducible assumption) | exact in4_5 (by with_reducible assumption) | exact in4_6 (by with_reducible assumption) | exact in4_7 (by with_reducible assumption))
        refine va_iast (D := (dC, dI)) (f := (S_2 4)) hx hb hK hP hD hS 5 4 rfl rfl hi_11 d_M_put_81 (fun H locs hP hD hS => ?_)
        have hP : va_P (dC, dI) classes ([(qa 0, .inr (1, [.ref (qa 1), .ref (qa 2), .ref (qa 3), .ref (qa 4), .ref (qa 5)])), (qa 1, .inl (ka 0, 4, .inl (upd (S_2 0) p2.toNatClampNeg (((S_2 0) p2.toNatClampNeg) ||| ((1 : Int32) <<< (p1 &&& (31 : Int32))))))), (qa 2, .inl (ka 1, 4, .inl (S_2 1))), (qa 3, .inl (ka 2, 4, .inl (S_2 2))), (qa 4, .inl (ka 3, 4, .inl (upd (S_2 3) p2.toNatClampNeg (((S_2 3) p2.toNatClampNeg) ||| ((1 : Int32) <<< (p1 &&& (31 : Int32))))))), (qa 5, .inl (ka 4, 52, .inl (upd (S_2 4) ((p1 * (4 : Int32)) + p2).toNatClampNeg p3)))] : va_W) H := hP
        have hD : va_D A ([(qa 0, .inr (1, [.ref (qa 1), .ref (qa 2), .ref (qa 3), .ref (qa 4), .ref (qa 5)])), (qa 1, .inl (ka 0, 4, .inl (upd (S_2 0) p2.toNatClampNeg (((S_2 0) p2.toNatClampNeg) ||| ((1 : Int32) <<< (p1 &&& (31 : Int32))))))), (qa 2, .inl (ka 1, 4, .inl (S_2 1))), (qa 3, .inl (ka 2, 4, .inl (S_2 2))), (qa 4, .inl (ka 3, 4, .inl (upd (S_2 3) p2.toNatClampNeg (((S_2 3) p2.toNatClampNeg) ||| ((1 : Int32) <<< (p1 &&& (31 : Int32))))))), (qa 5, .inl (ka 4, 52, .inl (upd (S_2 4) ((p1 * (4 : Int32)) + p2).toNatClampNeg p3)))] : va_W) := hD
        have hP := wM_mk hP
        have hD := wM_mkD hD
        have hP9 : va_P (dC, dI) classes (wM ka qa (mk5 (upd (S_2 0) p2.toNatClampNeg (((S_2 0) p2.toNatClampNeg) ||| ((1 : Int32) <<< (p1 &&& (31 : Int32))))) (S_2 1) (S_2 2) (upd (S_2 3) p2.toNatClampNeg (((S_2 3) p2.toNatClampNeg) ||| ((1 : Int32) <<< (p1 &&& (31 : Int32))))) (upd (S_2 4) ((p1 * (4 : Int32)) + p2).toNatClampNeg p3))) H := hP
        exact W.vret hx hb hr (fun t ht hW => ⟨⟨(mk5 (upd (S_2 0) p2.toNatClampNeg (((S_2 0) p2.toNatClampNeg) ||| ((1 : Int32) <<< (p1 &&& (31 : Int32))))) (S_2 1) (S_2 2) (upd (S_2 3) p2.toNatClampNeg (((S_2 3) p2.toNatClampNeg) ||| ((1 : Int32) <<< (p1 &&& (31 : Int32))))) (upd (S_2 4) ((p1 * (4 : Int32)) + p2).toNatClampNeg p3)), rfl, (by subst hS_2; unfold s_M_put; rw [if_neg c_5, if_neg c_6, if_pos c_7]), hp_at ht hP9⟩, hS.F ht⟩) hS.2.2 d_M_put_82
    · have c_6 : p4 = (2 : Int32) := c_6
      refine lv_aload_n hx hb d_M_put_45 rfl (lv_at hl 1 rfl) ?_
      refine va_get (D := (dC, dI)) (ci := 1) (v := .ref (qa 3)) (C := R_M) (T := F_M) (N := 5) hx hb hts i_M hown hK hP 0 rfl rfl 2 (by decide) (hts _ k_17) (fun _ h9 => h9) rfl d_M_put_46 ?_
      refine lv_iload_n hx hb d_M_put_49 rfl (lv_at hl 3 rfl) ?_
      refine lv_dup2_11 hx hb d_M_put_50 rfl rfl ?_
      have hi_12 : vp_in p2 4 := by first | with_reducible assumption | exact in_name (by with_reducible assumption) | exact in4_4 (by with_reducible assumption) | exact in4_5 (by with_reducible assumption) | exact in4_6 (by with_reducible assumption) | exact in4_7 (by with_reducible assumption)
      refine va_iald (D := (dC, dI)) (f := (S_2 2)) hx hb hK hP 3 2 rfl rfl hi_12 d_M_put_51 ?_
      refine lv_iload hx hb d_M_put_52 (lv_at hl 0 rfl) ?_
      refine lv_ior hx hb d_M_put_54 ?_
      have hi_13 : vp_in p2 4 := by first | with_reducible assumption | exact in_name (by with_reducible assumption) | exact in4_4 (by with_reducible assumption) | exact in4_5 (by with_reducible assumption) | exact in4_6 (by with_reducible assumption) | exact in4_7 (by with_reducible assumption)
      refine va_iast (D := (dC, dI)) (f := (S_2 2)) hx hb hK hP hD hS 3 2 rfl rfl hi_13 d_M_put_55 (fun H locs hP hD hS => ?_)
      have hP : va_P (dC, dI) classes ([(qa 0, .inr (1, [.ref (qa 1), .ref (qa 2), .ref (qa 3), .ref (qa 4), .ref (qa 5)])), (qa 1, .inl (ka 0, 4, .inl (upd (S_2 0) p2.toNatClampNeg (((S_2 0) p2.toNatClampNeg) ||| ((1 : Int32) <<< (p1 &&& (31 : Int32))))))), (qa 2, .inl (ka 1, 4, .inl (S_2 1))), (qa 3, .inl (ka 2, 4, .inl (upd (S_2 2) p2.toNatClampNeg (((S_2 2) p2.toNatClampNeg) ||| ((1 : Int32) <<< (p1 &&& (31 : Int32))))))), (qa 4, .inl (ka 3, 4, .inl (S_2 3))), (qa 5, .inl (ka 4, 52, .inl (S_2 4)))] : va_W) H := hP
      have hD : va_D A ([(qa 0, .inr (1, [.ref (qa 1), .ref (qa 2), .ref (qa 3), .ref (qa 4), .ref (qa 5)])), (qa 1, .inl (ka 0, 4, .inl (upd (S_2 0) p2.toNatClampNeg (((S_2 0) p2.toNatClampNeg) ||| ((1 : Int32) <<< (p1 &&& (31 : Int32))))))), (qa 2, .inl (ka 1, 4, .inl (S_2 1))), (qa 3, .inl (ka 2, 4, .inl (upd (S_2 2) p2.toNatClampNeg (((S_2 2) p2.toNatClampNeg) ||| ((1 : Int32) <<< (p1 &&& (31 : Int32))))))), (qa 4, .inl (ka 3, 4, .inl (S_2 3))), (qa 5, .inl (ka 4, 52, .inl (S_2 4)))] : va_W) := hD
      refine lv_iload_n hx hb d_M_put_56 rfl (lv_at hl 4 rfl) ?_
      refine lv_if_ne (tgt := 71) hx hb d_M_put_57 (by decide) (fun c_14 => ?_) (fun c_14 => ?_)
      · have c_14 : ¬ (p3 = (0 : Int32)) := c_14
        refine lv_aload_n hx hb d_M_put_71 rfl (lv_at hl 1 rfl) ?_
        refine va_get (D := (dC, dI)) (ci := 1) (v := .ref (qa 5)) (C := R_M) (T := F_M) (N := 5) hx hb hts i_M hown hK hP 0 rfl rfl 4 (by decide) (hts _ k_21) (fun _ h9 => h9) rfl d_M_put_72 ?_
        refine lv_iload_n hx hb d_M_put_75 rfl (lv_at hl 2 rfl) ?_
        refine lv_iconst (v := (4 : Int32)) hx hb d_M_put_76 (by decide +kernel) ?_
        refine lv_imul hx hb d_M_put_77 ?_
        refine lv_iload_n hx hb d_M_put_78 rfl (lv_at hl 3 rfl) ?_
        refine lv_iadd hx hb d_M_put_79 ?_
        refine lv_iload_n hx hb d_M_put_80 rfl (lv_at hl 4 rfl) ?_
        have hi_15 : vp_in ((p1 * (4 : Int32)) + p2) 52 := by first | with_reducible assumption | exact in_52 (by first | with_reducible assumption | exact in_has hw (by with_reducible assumption) | exact in_cls hw (by with_reducible assumption) | exact in_ifc hw (by with_reducible assumption) | exact in_ext hw (by with_reducible assumption) | exact in_eq0 (by with_reducible assumption) | exact hfd (by with_reducible assumption) | exact in_rcv hw (by with_reducible assumption) (Or.inl (by with_reducible assumption)) | exact in_rcv hw (by with_reducible assumption) (Or.inr (by with_reducible assumption))) (by first | with_reducible assumption | exact in_name (by with_reducible assumption) | exact in4_4 (by with_reducible assumption) | exact in4_5 (by with_reducible assumption) | exact in4_6 (by with_reducible assumption) | exact in4_7 (by with_reducible assumption))
        refine va_iast (D := (dC, dI)) (f := (S_2 4)) hx hb hK hP hD hS 5 4 rfl rfl hi_15 d_M_put_81 (fun H locs hP hD hS => ?_)
        have hP : va_P (dC, dI) classes ([(qa 0, .inr (1, [.ref (qa 1), .ref (qa 2), .ref (qa 3), .ref (qa 4), .ref (qa 5)])), (qa 1, .inl (ka 0, 4, .inl (upd (S_2 0) p2.toNatClampNeg (((S_2 0) p2.toNatClampNeg) ||| ((1 : Int32) <<< (p1 &&& (31 : Int32))))))), (qa 2, .inl (ka 1, 4, .inl (S_2 1))), (qa 3, .inl (ka 2, 4, .inl (upd (S_2 2) p2.toNatClampNeg (((S_2 2) p2.toNatClampNeg) ||| ((1 : Int32) <<< (p1 &&& (31 : Int32))))))), (qa 4, .inl (ka 3, 4, .inl (S_2 3))), (qa 5, .inl (ka 4, 52, .inl (upd (S_2 4) ((p1 * (4 : Int32)) + p2).toNatClampNeg p3)))] : va_W) H := hP
        have hD : va_D A ([(qa 0, .inr (1, [.ref (qa 1), .ref (qa 2), .ref (qa 3), .ref (qa 4), .ref (qa 5)])), (qa 1, .inl (ka 0, 4, .inl (upd (S_2 0) p2.toNatClampNeg (((S_2 0) p2.toNatClampNeg) ||| ((1 : Int32) <<< (p1 &&& (31 : Int32))))))), (qa 2, .inl (ka 1, 4, .inl (S_2 1))), (qa 3, .inl (ka 2, 4, .inl (upd (S_2 2) p2.toNatClampNeg (((S_2 2) p2.toNatClampNeg) ||| ((1 : Int32) <<< (p1 &&& (31 : Int32))))))), (qa 4, .inl (ka 3, 4, .inl (S_2 3))), (qa 5, .inl (ka 4, 52, .inl (upd (S_2 4) ((p1 * (4 : Int32)) + p2).toNatClampNeg p3)))] : va_W) := hD
        have hP := wM_mk hP
        have hD := wM_mkD hD
        have hP9 : va_P (dC, dI) classes (wM ka qa (mk5 (upd (S_2 0) p2.toNatClampNeg (((S_2 0) p2.toNatClampNeg) ||| ((1 : Int32) <<< (p1 &&& (31 : Int32))))) (S_2 1) (upd (S_2 2) p2.toNatClampNeg (((S_2 2) p2.toNatClampNeg) ||| ((1 : Int32) <<< (p1 &&& (31 : Int32))))) (S_2 3) (upd (S_2 4) ((p1 * (4 : Int32)) + p2).toNatClampNeg p3))) H := hP
        exact W.vret hx hb hr (fun t ht hW => ⟨⟨(mk5 (upd (S_2 0) p2.toNatClampNeg (((S_2 0) p2.toNatClampNeg) ||| ((1 : Int32) <<< (p1 &&& (31 : Int32))))) (S_2 1) (upd (S_2 2) p2.toNatClampNeg (((S_2 2) p2.toNatClampNeg) ||| ((1 : Int32) <<< (p1 &&& (31 : Int32))))) (S_2 3) (upd (S_2 4) ((p1 * (4 : Int32)) + p2).toNatClampNeg p3)), rfl, (by subst hS_2; unfold s_M_put; rw [if_neg c_5, if_pos c_6, if_neg c_14]), hp_at ht hP9⟩, hS.F ht⟩) hS.2.2 d_M_put_82
      · have c_14 : p3 = (0 : Int32) := c_14
        refine lv_aload_n hx hb d_M_put_60 rfl (lv_at hl 1 rfl) ?_
        refine va_get (D := (dC, dI)) (ci := 1) (v := .ref (qa 4)) (C := R_M) (T := F_M) (N := 5) hx hb hts i_M hown hK hP 0 rfl rfl 3 (by decide) (hts _ k_19) (fun _ h9 => h9) rfl d_M_put_61 ?_
        refine lv_iload_n hx hb d_M_put_64 rfl (lv_at hl 3 rfl) ?_
        refine lv_dup2_11 hx hb d_M_put_65 rfl rfl ?_
        have hi_16 : vp_in p2 4 := by first | with_reducible assumption | exact in_name (by with_reducible assumption) | exact in4_4 (by with_reducible assumption) | exact in4_5 (by with_reducible assumption) | exact in4_6 (by with_reducible assumption) | exact in4_7 (by with_reducible assumption)
        refine va_iald (D := (dC, dI)) (f := (S_2 3)) hx hb hK hP 4 3 rfl rfl hi_16 d_M_put_66 ?_
        refine lv_iload hx hb d_M_put_67 (lv_at hl 0 rfl) ?_
        refine lv_ior hx hb d_M_put_69 ?_
        have hi_17 : vp_in p2 4 := by first | with_reducible assumption | exact in_name (by with_reducible assumption) | exact in4_4 (by with_reducible assumption) | exact in4_5 (by with_reducible assumption) | exact in4_6 (by with_reducible assumption) | exact in4_7 (by with_reducible assumption)
        refine va_iast (D := (dC, dI)) (f := (S_2 3)) hx hb hK hP hD hS 4 3 rfl rfl hi_17 d_M_put_70 (fun H locs hP hD hS => ?_)
        have hP : va_P (dC, dI) classes ([(qa 0, .inr (1, [.ref (qa 1), .ref (qa 2), .ref (qa 3), .ref (qa 4), .ref (qa 5)])), (qa 1, .inl (ka 0, 4, .inl (upd (S_2 0) p2.toNatClampNeg (((S_2 0) p2.toNatClampNeg) ||| ((1 : Int32) <<< (p1 &&& (31 : Int32))))))), (qa 2, .inl (ka 1, 4, .inl (S_2 1))), (qa 3, .inl (ka 2, 4, .inl (upd (S_2 2) p2.toNatClampNeg (((S_2 2) p2.toNatClampNeg) ||| ((1 : Int32) <<< (p1 &&& (31 : Int32))))))), (qa 4, .inl (ka 3, 4, .inl (upd (S_2 3) p2.toNatClampNeg (((S_2 3) p2.toNatClampNeg) ||| ((1 : Int32) <<< (p1 &&& (31 : Int32))))))), (qa 5, .inl (ka 4, 52, .inl (S_2 4)))] : va_W) H := hP
        have hD : va_D A ([(qa 0, .inr (1, [.ref (qa 1), .ref (qa 2), .ref (qa 3), .ref (qa 4), .ref (qa 5)])), (qa 1, .inl (ka 0, 4, .inl (upd (S_2 0) p2.toNatClampNeg (((S_2 0) p2.toNatClampNeg) ||| ((1 : Int32) <<< (p1 &&& (31 : Int32))))))), (qa 2, .inl (ka 1, 4, .inl (S_2 1))), (qa 3, .inl (ka 2, 4, .inl (upd (S_2 2) p2.toNatClampNeg (((S_2 2) p2.toNatClampNeg) ||| ((1 : Int32) <<< (p1 &&& (31 : Int32))))))), (qa 4, .inl (ka 3, 4, .inl (upd (S_2 3) p2.toNatClampNeg (((S_2 3) p2.toNatClampNeg) ||| ((1 : Int32) <<< (p1 &&& (31 : Int32))))))), (qa 5, .inl (ka 4, 52, .inl (S_2 4)))] : va_W) := hD
        refine lv_aload_n hx hb d_M_put_71 rfl (lv_at hl 1 rfl) ?_
        refine va_get (D := (dC, dI)) (ci := 1) (v := .ref (qa 5)) (C := R_M) (T := F_M) (N := 5) hx hb hts i_M hown hK hP 0 rfl rfl 4 (by decide) (hts _ k_21) (fun _ h9 => h9) rfl d_M_put_72 ?_
        refine lv_iload_n hx hb d_M_put_75 rfl (lv_at hl 2 rfl) ?_
        refine lv_iconst (v := (4 : Int32)) hx hb d_M_put_76 (by decide +kernel) ?_
        refine lv_imul hx hb d_M_put_77 ?_
        refine lv_iload_n hx hb d_M_put_78 rfl (lv_at hl 3 rfl) ?_
        refine lv_iadd hx hb d_M_put_79 ?_
        refine lv_iload_n hx hb d_M_put_80 rfl (lv_at hl 4 rfl) ?_
        have hi_18 : vp_in ((p1 * (4 : Int32)) + p2) 52 := by first | with_reducible assumption | exact in_52 (by first | with_reducible assumption | exact in_has hw (by with_reducible assumption) | exact in_cls hw (by with_reducible assumption) | exact in_ifc hw (by with_reducible assumption) | exact in_ext hw (by with_reducible assumption) | exact in_eq0 (by with_reducible assumption) | exact hfd (by with_reducible assumption) | exact in_rcv hw (by with_reducible assumption) (Or.inl (by with_reducible assumption)) | exact in_rcv hw (by with_reducible assumption) (Or.inr (by with_reducible assumption))) (by first | with_reducible assumption | exact in_name (by with_reducible assumption) | exact in4_4 (by with_reducible assumption) | exact in4_5 (by with_reducible assumption) | exact in4_6 (by with_reducible assumption) | exact in4_7 (by with_reducible assumption))
        refine va_iast (D := (dC, dI)) (f := (S_2 4)) hx hb hK hP hD hS 5 4 rfl rfl hi_18 d_M_put_81 (fun H locs hP hD hS => ?_)
        have hP : va_P (dC, dI) classes ([(qa 0, .inr (1, [.ref (qa 1), .ref (qa 2), .ref (qa 3), .ref (qa 4), .ref (qa 5)])), (qa 1, .inl (ka 0, 4, .inl (upd (S_2 0) p2.toNatClampNeg (((S_2 0) p2.toNatClampNeg) ||| ((1 : Int32) <<< (p1 &&& (31 : Int32))))))), (qa 2, .inl (ka 1, 4, .inl (S_2 1))), (qa 3, .inl (ka 2, 4, .inl (upd (S_2 2) p2.toNatClampNeg (((S_2 2) p2.toNatClampNeg) ||| ((1 : Int32) <<< (p1 &&& (31 : Int32))))))), (qa 4, .inl (ka 3, 4, .inl (upd (S_2 3) p2.toNatClampNeg (((S_2 3) p2.toNatClampNeg) ||| ((1 : Int32) <<< (p1 &&& (31 : Int32))))))), (qa 5, .inl (ka 4, 52, .inl (upd (S_2 4) ((p1 * (4 : Int32)) + p2).toNatClampNeg p3)))] : va_W) H := hP
        have hD : va_D A ([(qa 0, .inr (1, [.ref (qa 1), .ref (qa 2), .ref (qa 3), .ref (qa 4), .ref (qa 5)])), (qa 1, .inl (ka 0, 4, .inl (upd (S_2 0) p2.toNatClampNeg (((S_2 0) p2.toNatClampNeg) ||| ((1 : Int32) <<< (p1 &&& (31 : Int32))))))), (qa 2, .inl (ka 1, 4, .inl (S_2 1))), (qa 3, .inl (ka 2, 4, .inl (upd (S_2 2) p2.toNatClampNeg (((S_2 2) p2.toNatClampNeg) ||| ((1 : Int32) <<< (p1 &&& (31 : Int32))))))), (qa 4, .inl (ka 3, 4, .inl (upd (S_2 3) p2.toNatClampNeg (((S_2 3) p2.toNatClampNeg) ||| ((1 : Int32) <<< (p1 &&& (31 : Int32))))))), (qa 5, .inl (ka 4, 52, .inl (upd (S_2 4) ((p1 * (4 : Int32)) + p2).toNatClampNeg p3)))] : va_W) := hD
        have hP := wM_mk hP
        have hD := wM_mkD hD
        have hP9 : va_P (dC, dI) classes (wM ka qa (mk5 (upd (S_2 0) p2.toNatClampNeg (((S_2 0) p2.toNatClampNeg) ||| ((1 : Int32) <<< (p1 &&& (31 : Int32))))) (S_2 1) (upd (S_2 2) p2.toNatClampNeg (((S_2 2) p2.toNatClampNeg) ||| ((1 : Int32) <<< (p1 &&& (31 : Int32))))) (upd (S_2 3) p2.toNatClampNeg (((S_2 3) p2.toNatClampNeg) ||| ((1 : Int32) <<< (p1 &&& (31 : Int32))))) (upd (S_2 4) ((p1 * (4 : Int32)) + p2).toNatClampNeg p3))) H := hP
        exact W.vret hx hb hr (fun t ht hW => ⟨⟨(mk5 (upd (S_2 0) p2.toNatClampNeg (((S_2 0) p2.toNatClampNeg) ||| ((1 : Int32) <<< (p1 &&& (31 : Int32))))) (S_2 1) (upd (S_2 2) p2.toNatClampNeg (((S_2 2) p2.toNatClampNeg) ||| ((1 : Int32) <<< (p1 &&& (31 : Int32))))) (upd (S_2 3) p2.toNatClampNeg (((S_2 3) p2.toNatClampNeg) ||| ((1 : Int32) <<< (p1 &&& (31 : Int32))))) (upd (S_2 4) ((p1 * (4 : Int32)) + p2).toNatClampNeg p3)), rfl, (by subst hS_2; unfold s_M_put; rw [if_neg c_5, if_pos c_6, if_pos c_14]), hp_at ht hP9⟩, hS.F ht⟩) hS.2.2 d_M_put_82
  · have c_5 : p4 = (1 : Int32) := c_5
    refine lv_aload_n hx hb d_M_put_28 rfl (lv_at hl 1 rfl) ?_
    refine va_get (D := (dC, dI)) (ci := 1) (v := .ref (qa 2)) (C := R_M) (T := F_M) (N := 5) hx hb hts i_M hown hK hP 0 rfl rfl 1 (by decide) (hts _ k_18) (fun _ h9 => h9) rfl d_M_put_29 ?_
    refine lv_iload_n hx hb d_M_put_32 rfl (lv_at hl 3 rfl) ?_
    refine lv_dup2_11 hx hb d_M_put_33 rfl rfl ?_
    have hi_19 : vp_in p2 4 := by first | with_reducible assumption | exact in_name (by with_reducible assumption) | exact in4_4 (by with_reducible assumption) | exact in4_5 (by with_reducible assumption) | exact in4_6 (by with_reducible assumption) | exact in4_7 (by with_reducible assumption)
    refine va_iald (D := (dC, dI)) (f := (S_2 1)) hx hb hK hP 2 1 rfl rfl hi_19 d_M_put_34 ?_
    refine lv_iload hx hb d_M_put_35 (lv_at hl 0 rfl) ?_
    refine lv_ior hx hb d_M_put_37 ?_
    have hi_20 : vp_in p2 4 := by first | with_reducible assumption | exact in_name (by with_reducible assumption) | exact in4_4 (by with_reducible assumption) | exact in4_5 (by with_reducible assumption) | exact in4_6 (by with_reducible assumption) | exact in4_7 (by with_reducible assumption)
    refine va_iast (D := (dC, dI)) (f := (S_2 1)) hx hb hK hP hD hS 2 1 rfl rfl hi_20 d_M_put_38 (fun H locs hP hD hS => ?_)
    have hP : va_P (dC, dI) classes ([(qa 0, .inr (1, [.ref (qa 1), .ref (qa 2), .ref (qa 3), .ref (qa 4), .ref (qa 5)])), (qa 1, .inl (ka 0, 4, .inl (upd (S_2 0) p2.toNatClampNeg (((S_2 0) p2.toNatClampNeg) ||| ((1 : Int32) <<< (p1 &&& (31 : Int32))))))), (qa 2, .inl (ka 1, 4, .inl (upd (S_2 1) p2.toNatClampNeg (((S_2 1) p2.toNatClampNeg) ||| ((1 : Int32) <<< (p1 &&& (31 : Int32))))))), (qa 3, .inl (ka 2, 4, .inl (S_2 2))), (qa 4, .inl (ka 3, 4, .inl (S_2 3))), (qa 5, .inl (ka 4, 52, .inl (S_2 4)))] : va_W) H := hP
    have hD : va_D A ([(qa 0, .inr (1, [.ref (qa 1), .ref (qa 2), .ref (qa 3), .ref (qa 4), .ref (qa 5)])), (qa 1, .inl (ka 0, 4, .inl (upd (S_2 0) p2.toNatClampNeg (((S_2 0) p2.toNatClampNeg) ||| ((1 : Int32) <<< (p1 &&& (31 : Int32))))))), (qa 2, .inl (ka 1, 4, .inl (upd (S_2 1) p2.toNatClampNeg (((S_2 1) p2.toNatClampNeg) ||| ((1 : Int32) <<< (p1 &&& (31 : Int32))))))), (qa 3, .inl (ka 2, 4, .inl (S_2 2))), (qa 4, .inl (ka 3, 4, .inl (S_2 3))), (qa 5, .inl (ka 4, 52, .inl (S_2 4)))] : va_W) := hD
    refine lv_iload hx hb d_M_put_39 (lv_at hl 5 rfl) ?_
    refine lv_iconst (v := (2 : Int32)) hx hb d_M_put_41 (by decide +kernel) ?_
    refine lv_icmp_ne (tgt := 56) hx hb d_M_put_42 (by decide) (fun c_21 => ?_) (fun c_21 => ?_)
    · have c_21 : ¬ (p4 = (2 : Int32)) := c_21
      refine lv_iload_n hx hb d_M_put_56 rfl (lv_at hl 4 rfl) ?_
      refine lv_if_ne (tgt := 71) hx hb d_M_put_57 (by decide) (fun c_22 => ?_) (fun c_22 => ?_)
      · have c_22 : ¬ (p3 = (0 : Int32)) := c_22
        refine lv_aload_n hx hb d_M_put_71 rfl (lv_at hl 1 rfl) ?_
        refine va_get (D := (dC, dI)) (ci := 1) (v := .ref (qa 5)) (C := R_M) (T := F_M) (N := 5) hx hb hts i_M hown hK hP 0 rfl rfl 4 (by decide) (hts _ k_21) (fun _ h9 => h9) rfl d_M_put_72 ?_
        refine lv_iload_n hx hb d_M_put_75 rfl (lv_at hl 2 rfl) ?_
        refine lv_iconst (v := (4 : Int32)) hx hb d_M_put_76 (by decide +kernel) ?_
        refine lv_imul hx hb d_M_put_77 ?_
        refine lv_iload_n hx hb d_M_put_78 rfl (lv_at hl 3 rfl) ?_
        refine lv_iadd hx hb d_M_put_79 ?_
        refine lv_iload_n hx hb d_M_put_80 rfl (lv_at hl 4 rfl) ?_
        have hi_23 : vp_in ((p1 * (4 : Int32)) + p2) 52 := by first | with_reducible assumption | exact in_52 (by first | with_reducible assumption | exact in_has hw (by with_reducible assumption) | exact in_cls hw (by with_reducible assumption) | exact in_ifc hw (by with_reducible assumption) | exact in_ext hw (by with_reducible assumption) | exact in_eq0 (by with_reducible assumption) | exact hfd (by with_reducible assumption) | exact in_rcv hw (by with_reducible assumption) (Or.inl (by with_reducible assumption)) | exact in_rcv hw (by with_reducible assumption) (Or.inr (by with_reducible assumption))) (by first | with_reducible assumption | exact in_name (by with_reducible assumption) | exact in4_4 (by with_reducible assumption) | exact in4_5 (by with_reducible assumption) | exact in4_6 (by with_reducible assumption) | exact in4_7 (by with_reducible assumption))
        refine va_iast (D := (dC, dI)) (f := (S_2 4)) hx hb hK hP hD hS 5 4 rfl rfl hi_23 d_M_put_81 (fun H locs hP hD hS => ?_)
        have hP : va_P (dC, dI) classes ([(qa 0, .inr (1, [.ref (qa 1), .ref (qa 2), .ref (qa 3), .ref (qa 4), .ref (qa 5)])), (qa 1, .inl (ka 0, 4, .inl (upd (S_2 0) p2.toNatClampNeg (((S_2 0) p2.toNatClampNeg) ||| ((1 : Int32) <<< (p1 &&& (31 : Int32))))))), (qa 2, .inl (ka 1, 4, .inl (upd (S_2 1) p2.toNatClampNeg (((S_2 1) p2.toNatClampNeg) ||| ((1 : Int32) <<< (p1 &&& (31 : Int32))))))), (qa 3, .inl (ka 2, 4, .inl (S_2 2))), (qa 4, .inl (ka 3, 4, .inl (S_2 3))), (qa 5, .inl (ka 4, 52, .inl (upd (S_2 4) ((p1 * (4 : Int32)) + p2).toNatClampNeg p3)))] : va_W) H := hP
        have hD : va_D A ([(qa 0, .inr (1, [.ref (qa 1), .ref (qa 2), .ref (qa 3), .ref (qa 4), .ref (qa 5)])), (qa 1, .inl (ka 0, 4, .inl (upd (S_2 0) p2.toNatClampNeg (((S_2 0) p2.toNatClampNeg) ||| ((1 : Int32) <<< (p1 &&& (31 : Int32))))))), (qa 2, .inl (ka 1, 4, .inl (upd (S_2 1) p2.toNatClampNeg (((S_2 1) p2.toNatClampNeg) ||| ((1 : Int32) <<< (p1 &&& (31 : Int32))))))), (qa 3, .inl (ka 2, 4, .inl (S_2 2))), (qa 4, .inl (ka 3, 4, .inl (S_2 3))), (qa 5, .inl (ka 4, 52, .inl (upd (S_2 4) ((p1 * (4 : Int32)) + p2).toNatClampNeg p3)))] : va_W) := hD
        have hP := wM_mk hP
        have hD := wM_mkD hD
        have hP9 : va_P (dC, dI) classes (wM ka qa (mk5 (upd (S_2 0) p2.toNatClampNeg (((S_2 0) p2.toNatClampNeg) ||| ((1 : Int32) <<< (p1 &&& (31 : Int32))))) (upd (S_2 1) p2.toNatClampNeg (((S_2 1) p2.toNatClampNeg) ||| ((1 : Int32) <<< (p1 &&& (31 : Int32))))) (S_2 2) (S_2 3) (upd (S_2 4) ((p1 * (4 : Int32)) + p2).toNatClampNeg p3))) H := hP
        exact W.vret hx hb hr (fun t ht hW => ⟨⟨(mk5 (upd (S_2 0) p2.toNatClampNeg (((S_2 0) p2.toNatClampNeg) ||| ((1 : Int32) <<< (p1 &&& (31 : Int32))))) (upd (S_2 1) p2.toNatClampNeg (((S_2 1) p2.toNatClampNeg) ||| ((1 : Int32) <<< (p1 &&& (31 : Int32))))) (S_2 2) (S_2 3) (upd (S_2 4) ((p1 * (4 : Int32)) + p2).toNatClampNeg p3)), rfl, (by subst hS_2; unfold s_M_put; rw [if_pos c_5, if_neg c_21, if_neg c_22]), hp_at ht hP9⟩, hS.F ht⟩) hS.2.2 d_M_put_82
      · have c_22 : p3 = (0 : Int32) := c_22
        refine lv_aload_n hx hb d_M_put_60 rfl (lv_at hl 1 rfl) ?_
        refine va_get (D := (dC, dI)) (ci := 1) (v := .ref (qa 4)) (C := R_M) (T := F_M) (N := 5) hx hb hts i_M hown hK hP 0 rfl rfl 3 (by decide) (hts _ k_19) (fun _ h9 => h9) rfl d_M_put_61 ?_
        refine lv_iload_n hx hb d_M_put_64 rfl (lv_at hl 3 rfl) ?_
        refine lv_dup2_11 hx hb d_M_put_65 rfl rfl ?_
        have hi_24 : vp_in p2 4 := by first | with_reducible assumption | exact in_name (by with_reducible assumption) | exact in4_4 (by with_reducible assumption) | exact in4_5 (by with_reducible assumption) | exact in4_6 (by with_reducible assumption) | exact in4_7 (by with_reducible assumption)
        refine va_iald (D := (dC, dI)) (f := (S_2 3)) hx hb hK hP 4 3 rfl rfl hi_24 d_M_put_66 ?_
        refine lv_iload hx hb d_M_put_67 (lv_at hl 0 rfl) ?_
        refine lv_ior hx hb d_M_put_69 ?_
        have hi_25 : vp_in p2 4 := by first | with_reducible assumption | exact in_name (by with_reducible assumption) | exact in4_4 (by with_reducible assumption) | exact in4_5 (by with_reducible assumption) | exact in4_6 (by with_reducible assumption) | exact in4_7 (by with_reducible assumption)
        refine va_iast (D := (dC, dI)) (f := (S_2 3)) hx hb hK hP hD hS 4 3 rfl rfl hi_25 d_M_put_70 (fun H locs hP hD hS => ?_)
        have hP : va_P (dC, dI) classes ([(qa 0, .inr (1, [.ref (qa 1), .ref (qa 2), .ref (qa 3), .ref (qa 4), .ref (qa 5)])), (qa 1, .inl (ka 0, 4, .inl (upd (S_2 0) p2.toNatClampNeg (((S_2 0) p2.toNatClampNeg) ||| ((1 : Int32) <<< (p1 &&& (31 : Int32))))))), (qa 2, .inl (ka 1, 4, .inl (upd (S_2 1) p2.toNatClampNeg (((S_2 1) p2.toNatClampNeg) ||| ((1 : Int32) <<< (p1 &&& (31 : Int32))))))), (qa 3, .inl (ka 2, 4, .inl (S_2 2))), (qa 4, .inl (ka 3, 4, .inl (upd (S_2 3) p2.toNatClampNeg (((S_2 3) p2.toNatClampNeg) ||| ((1 : Int32) <<< (p1 &&& (31 : Int32))))))), (qa 5, .inl (ka 4, 52, .inl (S_2 4)))] : va_W) H := hP
        have hD : va_D A ([(qa 0, .inr (1, [.ref (qa 1), .ref (qa 2), .ref (qa 3), .ref (qa 4), .ref (qa 5)])), (qa 1, .inl (ka 0, 4, .inl (upd (S_2 0) p2.toNatClampNeg (((S_2 0) p2.toNatClampNeg) ||| ((1 : Int32) <<< (p1 &&& (31 : Int32))))))), (qa 2, .inl (ka 1, 4, .inl (upd (S_2 1) p2.toNatClampNeg (((S_2 1) p2.toNatClampNeg) ||| ((1 : Int32) <<< (p1 &&& (31 : Int32))))))), (qa 3, .inl (ka 2, 4, .inl (S_2 2))), (qa 4, .inl (ka 3, 4, .inl (upd (S_2 3) p2.toNatClampNeg (((S_2 3) p2.toNatClampNeg) ||| ((1 : Int32) <<< (p1 &&& (31 : Int32))))))), (qa 5, .inl (ka 4, 52, .inl (S_2 4)))] : va_W) := hD
        refine lv_aload_n hx hb d_M_put_71 rfl (lv_at hl 1 rfl) ?_
        refine va_get (D := (dC, dI)) (ci := 1) (v := .ref (qa 5)) (C := R_M) (T := F_M) (N := 5) hx hb hts i_M hown hK hP 0 rfl rfl 4 (by decide) (hts _ k_21) (fun _ h9 => h9) rfl d_M_put_72 ?_
        refine lv_iload_n hx hb d_M_put_75 rfl (lv_at hl 2 rfl) ?_
        refine lv_iconst (v := (4 : Int32)) hx hb d_M_put_76 (by decide +kernel) ?_
        refine lv_imul hx hb d_M_put_77 ?_
        refine lv_iload_n hx hb d_M_put_78 rfl (lv_at hl 3 rfl) ?_
        refine lv_iadd hx hb d_M_put_79 ?_
        refine lv_iload_n hx hb d_M_put_80 rfl (lv_at hl 4 rfl) ?_
        have hi_26 : vp_in ((p1 * (4 : Int32)) + p2) 52 := by first | with_reducible assumption | exact in_52 (by first | with_reducible assumption | exact in_has hw (by with_reducible assumption) | exact in_cls hw (by with_reducible assumption) | exact in_ifc hw (by with_reducible assumption) | exact in_ext hw (by with_reducible assumption) | exact in_eq0 (by with_reducible assumption) | exact hfd (by with_reducible assumption) | exact in_rcv hw (by with_reducible assumption) (Or.inl (by with_reducible assumption)) | exact in_rcv hw (by with_reducible assumption) (Or.inr (by with_reducible assumption))) (by first | with_reducible assumption | exact in_name (by with_reducible assumption) | exact in4_4 (by with_reducible assumption) | exact in4_5 (by with_reducible assumption) | exact in4_6 (by with_reducible assumption) | exact in4_7 (by with_reducible assumption))
        refine va_iast (D := (dC, dI)) (f := (S_2 4)) hx hb hK hP hD hS 5 4 rfl rfl hi_26 d_M_put_81 (fun H locs hP hD hS => ?_)
        have hP : va_P (dC, dI) classes ([(qa 0, .inr (1, [.ref (qa 1), .ref (qa 2), .ref (qa 3), .ref (qa 4), .ref (qa 5)])), (qa 1, .inl (ka 0, 4, .inl (upd (S_2 0) p2.toNatClampNeg (((S_2 0) p2.toNatClampNeg) ||| ((1 : Int32) <<< (p1 &&& (31 : Int32))))))), (qa 2, .inl (ka 1, 4, .inl (upd (S_2 1) p2.toNatClampNeg (((S_2 1) p2.toNatClampNeg) ||| ((1 : Int32) <<< (p1 &&& (31 : Int32))))))), (qa 3, .inl (ka 2, 4, .inl (S_2 2))), (qa 4, .inl (ka 3, 4, .inl (upd (S_2 3) p2.toNatClampNeg (((S_2 3) p2.toNatClampNeg) ||| ((1 : Int32) <<< (p1 &&& (31 : Int32))))))), (qa 5, .inl (ka 4, 52, .inl (upd (S_2 4) ((p1 * (4 : Int32)) + p2).toNatClampNeg p3)))] : va_W) H := hP
        have hD : va_D A ([(qa 0, .inr (1, [.ref (qa 1), .ref (qa 2), .ref (qa 3), .ref (qa 4), .ref (qa 5)])), (qa 1, .inl (ka 0, 4, .inl (upd (S_2 0) p2.toNatClampNeg (((S_2 0) p2.toNatClampNeg) ||| ((1 : Int32) <<< (p1 &&& (31 : Int32))))))), (qa 2, .inl (ka 1, 4, .inl (upd (S_2 1) p2.toNatClampNeg (((S_2 1) p2.toNatClampNeg) ||| ((1 : Int32) <<< (p1 &&& (31 : Int32))))))), (qa 3, .inl (ka 2, 4, .inl (S_2 2))), (qa 4, .inl (ka 3, 4, .inl (upd (S_2 3) p2.toNatClampNeg (((S_2 3) p2.toNatClampNeg) ||| ((1 : Int32) <<< (p1 &&& (31 : Int32))))))), (qa 5, .inl (ka 4, 52, .inl (upd (S_2 4) ((p1 * (4 : Int32)) + p2).toNatClampNeg p3)))] : va_W) := hD
        have hP := wM_mk hP
        have hD := wM_mkD hD
        have hP9 : va_P (dC, dI) classes (wM ka qa (mk5 (upd (S_2 0) p2.toNatClampNeg (((S_2 0) p2.toNatClampNeg) ||| ((1 : Int32) <<< (p1 &&& (31 : Int32))))) (upd (S_2 1) p2.toNatClampNeg (((S_2 1) p2.toNatClampNeg) ||| ((1 : Int32) <<< (p1 &&& (31 : Int32))))) (S_2 2) (upd (S_2 3) p2.toNatClampNeg (((S_2 3) p2.toNatClampNeg) ||| ((1 : Int32) <<< (p1 &&& (31 : Int32))))) (upd (S_2 4) ((p1 * (4 : Int32)) + p2).toNatClampNeg p3))) H := hP
        exact W.vret hx hb hr (fun t ht hW => ⟨⟨(mk5 (upd (S_2 0) p2.toNatClampNeg (((S_2 0) p2.toNatClampNeg) ||| ((1 : Int32) <<< (p1 &&& (31 : Int32))))) (upd (S_2 1) p2.toNatClampNeg (((S_2 1) p2.toNatClampNeg) ||| ((1 : Int32) <<< (p1 &&& (31 : Int32))))) (S_2 2) (upd (S_2 3) p2.toNatClampNeg (((S_2 3) p2.toNatClampNeg) ||| ((1 : Int32) <<< (p1 &&& (31 : Int32))))) (upd (S_2 4) ((p1 * (4 : Int32)) + p2).toNatClampNeg p3)), rfl, (by subst hS_2; unfold s_M_put; rw [if_pos c_5, if_neg c_21, if_pos c_22]), hp_at ht hP9⟩, hS.F ht⟩) hS.2.2 d_M_put_82
    · have c_21 : p4 = (2 : Int32) := c_21
      refine lv_aload_n hx hb d_M_put_45 rfl (lv_at hl 1 rfl) ?_
      refine va_get (D := (dC, dI)) (ci := 1) (v := .ref (qa 3)) (C := R_M) (T := F_M) (N := 5) hx hb hts i_M hown hK hP 0 rfl rfl 2 (by decide) (hts _ k_17) (fun _ h9 => h9) rfl d_M_put_46 ?_
      refine lv_iload_n hx hb d_M_put_49 rfl (lv_at hl 3 rfl) ?_
      refine lv_dup2_11 hx hb d_M_put_50 rfl rfl ?_
      have hi_27 : vp_in p2 4 := by first | with_reducible assumption | exact in_name (by with_reducible assumption) | exact in4_4 (by with_reducible assumption) | exact in4_5 (by with_reducible assumption) | exact in4_6 (by with_reducible assumption) | exact in4_7 (by with_reducible assumption)
      refine va_iald (D := (dC, dI)) (f := (S_2 2)) hx hb hK hP 3 2 rfl rfl hi_27 d_M_put_51 ?_
      refine lv_iload hx hb d_M_put_52 (lv_at hl 0 rfl) ?_
      refine lv_ior hx hb d_M_put_54 ?_
      have hi_28 : vp_in p2 4 := by first | with_reducible assumption | exact in_name (by with_reducible assumption) | exact in4_4 (by with_reducible assumption) | exact in4_5 (by with_reducible assumption) | exact in4_6 (by with_reducible assumption) | exact in4_7 (by with_reducible assumption)
      refine va_iast (D := (dC, dI)) (f := (S_2 2)) hx hb hK hP hD hS 3 2 rfl rfl hi_28 d_M_put_55 (fun H locs hP hD hS => ?_)
      have hP : va_P (dC, dI) classes ([(qa 0, .inr (1, [.ref (qa 1), .ref (qa 2), .ref (qa 3), .ref (qa 4), .ref (qa 5)])), (qa 1, .inl (ka 0, 4, .inl (upd (S_2 0) p2.toNatClampNeg (((S_2 0) p2.toNatClampNeg) ||| ((1 : Int32) <<< (p1 &&& (31 : Int32))))))), (qa 2, .inl (ka 1, 4, .inl (upd (S_2 1) p2.toNatClampNeg (((S_2 1) p2.toNatClampNeg) ||| ((1 : Int32) <<< (p1 &&& (31 : Int32))))))), (qa 3, .inl (ka 2, 4, .inl (upd (S_2 2) p2.toNatClampNeg (((S_2 2) p2.toNatClampNeg) ||| ((1 : Int32) <<< (p1 &&& (31 : Int32))))))), (qa 4, .inl (ka 3, 4, .inl (S_2 3))), (qa 5, .inl (ka 4, 52, .inl (S_2 4)))] : va_W) H := hP
      have hD : va_D A ([(qa 0, .inr (1, [.ref (qa 1), .ref (qa 2), .ref (qa 3), .ref (qa 4), .ref (qa 5)])), (qa 1, .inl (ka 0, 4, .inl (upd (S_2 0) p2.toNatClampNeg (((S_2 0) p2.toNatClampNeg) ||| ((1 : Int32) <<< (p1 &&& (31 : Int32))))))), (qa 2, .inl (ka 1, 4, .inl (upd (S_2 1) p2.toNatClampNeg (((S_2 1) p2.toNatClampNeg) ||| ((1 : Int32) <<< (p1 &&& (31 : Int32))))))), (qa 3, .inl (ka 2, 4, .inl (upd (S_2 2) p2.toNatClampNeg (((S_2 2) p2.toNatClampNeg) ||| ((1 : Int32) <<< (p1 &&& (31 : Int32))))))), (qa 4, .inl (ka 3, 4, .inl (S_2 3))), (qa 5, .inl (ka 4, 52, .inl (S_2 4)))] : va_W) := hD
      refine lv_iload_n hx hb d_M_put_56 rfl (lv_at hl 4 rfl) ?_
      refine lv_if_ne (tgt := 71) hx hb d_M_put_57 (by decide) (fun c_29 => ?_) (fun c_29 => ?_)
      · have c_29 : ¬ (p3 = (0 : Int32)) := c_29
        refine lv_aload_n hx hb d_M_put_71 rfl (lv_at hl 1 rfl) ?_
        refine va_get (D := (dC, dI)) (ci := 1) (v := .ref (qa 5)) (C := R_M) (T := F_M) (N := 5) hx hb hts i_M hown hK hP 0 rfl rfl 4 (by decide) (hts _ k_21) (fun _ h9 => h9) rfl d_M_put_72 ?_
        refine lv_iload_n hx hb d_M_put_75 rfl (lv_at hl 2 rfl) ?_
        refine lv_iconst (v := (4 : Int32)) hx hb d_M_put_76 (by decide +kernel) ?_
        refine lv_imul hx hb d_M_put_77 ?_
        refine lv_iload_n hx hb d_M_put_78 rfl (lv_at hl 3 rfl) ?_
        refine lv_iadd hx hb d_M_put_79 ?_
        refine lv_iload_n hx hb d_M_put_80 rfl (lv_at hl 4 rfl) ?_
        have hi_30 : vp_in ((p1 * (4 : Int32)) + p2) 52 := by first | with_reducible assumption | exact in_52 (by first | with_reducible assumption | exact in_has hw (by with_reducible assumption) | exact in_cls hw (by with_reducible assumption) | exact in_ifc hw (by with_reducible assumption) | exact in_ext hw (by with_reducible assumption) | exact in_eq0 (by with_reducible assumption) | exact hfd (by with_reducible assumption) | exact in_rcv hw (by with_reducible assumption) (Or.inl (by with_reducible assumption)) | exact in_rcv hw (by with_reducible assumption) (Or.inr (by with_reducible assumption))) (by first | with_reducible assumption | exact in_name (by with_reducible assumption) | exact in4_4 (by with_reducible assumption) | exact in4_5 (by with_reducible assumption) | exact in4_6 (by with_reducible assumption) | exact in4_7 (by with_reducible assumption))
        refine va_iast (D := (dC, dI)) (f := (S_2 4)) hx hb hK hP hD hS 5 4 rfl rfl hi_30 d_M_put_81 (fun H locs hP hD hS => ?_)
        have hP : va_P (dC, dI) classes ([(qa 0, .inr (1, [.ref (qa 1), .ref (qa 2), .ref (qa 3), .ref (qa 4), .ref (qa 5)])), (qa 1, .inl (ka 0, 4, .inl (upd (S_2 0) p2.toNatClampNeg (((S_2 0) p2.toNatClampNeg) ||| ((1 : Int32) <<< (p1 &&& (31 : Int32))))))), (qa 2, .inl (ka 1, 4, .inl (upd (S_2 1) p2.toNatClampNeg (((S_2 1) p2.toNatClampNeg) ||| ((1 : Int32) <<< (p1 &&& (31 : Int32))))))), (qa 3, .inl (ka 2, 4, .inl (upd (S_2 2) p2.toNatClampNeg (((S_2 2) p2.toNatClampNeg) ||| ((1 : Int32) <<< (p1 &&& (31 : Int32))))))), (qa 4, .inl (ka 3, 4, .inl (S_2 3))), (qa 5, .inl (ka 4, 52, .inl (upd (S_2 4) ((p1 * (4 : Int32)) + p2).toNatClampNeg p3)))] : va_W) H := hP
        have hD : va_D A ([(qa 0, .inr (1, [.ref (qa 1), .ref (qa 2), .ref (qa 3), .ref (qa 4), .ref (qa 5)])), (qa 1, .inl (ka 0, 4, .inl (upd (S_2 0) p2.toNatClampNeg (((S_2 0) p2.toNatClampNeg) ||| ((1 : Int32) <<< (p1 &&& (31 : Int32))))))), (qa 2, .inl (ka 1, 4, .inl (upd (S_2 1) p2.toNatClampNeg (((S_2 1) p2.toNatClampNeg) ||| ((1 : Int32) <<< (p1 &&& (31 : Int32))))))), (qa 3, .inl (ka 2, 4, .inl (upd (S_2 2) p2.toNatClampNeg (((S_2 2) p2.toNatClampNeg) ||| ((1 : Int32) <<< (p1 &&& (31 : Int32))))))), (qa 4, .inl (ka 3, 4, .inl (S_2 3))), (qa 5, .inl (ka 4, 52, .inl (upd (S_2 4) ((p1 * (4 : Int32)) + p2).toNatClampNeg p3)))] : va_W) := hD
        have hP := wM_mk hP
        have hD := wM_mkD hD
        have hP9 : va_P (dC, dI) classes (wM ka qa (mk5 (upd (S_2 0) p2.toNatClampNeg (((S_2 0) p2.toNatClampNeg) ||| ((1 : Int32) <<< (p1 &&& (31 : Int32))))) (upd (S_2 1) p2.toNatClampNeg (((S_2 1) p2.toNatClampNeg) ||| ((1 : Int32) <<< (p1 &&& (31 : Int32))))) (upd (S_2 2) p2.toNatClampNeg (((S_2 2) p2.toNatClampNeg) ||| ((1 : Int32) <<< (p1 &&& (31 : Int32))))) (S_2 3) (upd (S_2 4) ((p1 * (4 : Int32)) + p2).toNatClampNeg p3))) H := hP
        exact W.vret hx hb hr (fun t ht hW => ⟨⟨(mk5 (upd (S_2 0) p2.toNatClampNeg (((S_2 0) p2.toNatClampNeg) ||| ((1 : Int32) <<< (p1 &&& (31 : Int32))))) (upd (S_2 1) p2.toNatClampNeg (((S_2 1) p2.toNatClampNeg) ||| ((1 : Int32) <<< (p1 &&& (31 : Int32))))) (upd (S_2 2) p2.toNatClampNeg (((S_2 2) p2.toNatClampNeg) ||| ((1 : Int32) <<< (p1 &&& (31 : Int32))))) (S_2 3) (upd (S_2 4) ((p1 * (4 : Int32)) + p2).toNatClampNeg p3)), rfl, (by subst hS_2; unfold s_M_put; rw [if_pos c_5, if_pos c_21, if_neg c_29]), hp_at ht hP9⟩, hS.F ht⟩) hS.2.2 d_M_put_82
      · have c_29 : p3 = (0 : Int32) := c_29
        refine lv_aload_n hx hb d_M_put_60 rfl (lv_at hl 1 rfl) ?_
        refine va_get (D := (dC, dI)) (ci := 1) (v := .ref (qa 4)) (C := R_M) (T := F_M) (N := 5) hx hb hts i_M hown hK hP 0 rfl rfl 3 (by decide) (hts _ k_19) (fun _ h9 => h9) rfl d_M_put_61 ?_
        refine lv_iload_n hx hb d_M_put_64 rfl (lv_at hl 3 rfl) ?_
        refine lv_dup2_11 hx hb d_M_put_65 rfl rfl ?_
        have hi_31 : vp_in p2 4 := by first | with_reducible assumption | exact in_name (by with_reducible assumption) | exact in4_4 (by with_reducible assumption) | exact in4_5 (by with_reducible assumption) | exact in4_6 (by with_reducible assumption) | exact in4_7 (by with_reducible assumption)
        refine va_iald (D := (dC, dI)) (f := (S_2 3)) hx hb hK hP 4 3 rfl rfl hi_31 d_M_put_66 ?_
        refine lv_iload hx hb d_M_put_67 (lv_at hl 0 rfl) ?_
        refine lv_ior hx hb d_M_put_69 ?_
        have hi_32 : vp_in p2 4 := by first | with_reducible assumption | exact in_name (by with_reducible assumption) | exact in4_4 (by with_reducible assumption) | exact in4_5 (by with_reducible assumption) | exact in4_6 (by with_reducible assumption) | exact in4_7 (by with_reducible assumption)
        refine va_iast (D := (dC, dI)) (f := (S_2 3)) hx hb hK hP hD hS 4 3 rfl rfl hi_32 d_M_put_70 (fun H locs hP hD hS => ?_)
        have hP : va_P (dC, dI) classes ([(qa 0, .inr (1, [.ref (qa 1), .ref (qa 2), .ref (qa 3), .ref (qa 4), .ref (qa 5)])), (qa 1, .inl (ka 0, 4, .inl (upd (S_2 0) p2.toNatClampNeg (((S_2 0) p2.toNatClampNeg) ||| ((1 : Int32) <<< (p1 &&& (31 : Int32))))))), (qa 2, .inl (ka 1, 4, .inl (upd (S_2 1) p2.toNatClampNeg (((S_2 1) p2.toNatClampNeg) ||| ((1 : Int32) <<< (p1 &&& (31 : Int32))))))), (qa 3, .inl (ka 2, 4, .inl (upd (S_2 2) p2.toNatClampNeg (((S_2 2) p2.toNatClampNeg) ||| ((1 : Int32) <<< (p1 &&& (31 : Int32))))))), (qa 4, .inl (ka 3, 4, .inl (upd (S_2 3) p2.toNatClampNeg (((S_2 3) p2.toNatClampNeg) ||| ((1 : Int32) <<< (p1 &&& (31 : Int32))))))), (qa 5, .inl (ka 4, 52, .inl (S_2 4)))] : va_W) H := hP
        have hD : va_D A ([(qa 0, .inr (1, [.ref (qa 1), .ref (qa 2), .ref (qa 3), .ref (qa 4), .ref (qa 5)])), (qa 1, .inl (ka 0, 4, .inl (upd (S_2 0) p2.toNatClampNeg (((S_2 0) p2.toNatClampNeg) ||| ((1 : Int32) <<< (p1 &&& (31 : Int32))))))), (qa 2, .inl (ka 1, 4, .inl (upd (S_2 1) p2.toNatClampNeg (((S_2 1) p2.toNatClampNeg) ||| ((1 : Int32) <<< (p1 &&& (31 : Int32))))))), (qa 3, .inl (ka 2, 4, .inl (upd (S_2 2) p2.toNatClampNeg (((S_2 2) p2.toNatClampNeg) ||| ((1 : Int32) <<< (p1 &&& (31 : Int32))))))), (qa 4, .inl (ka 3, 4, .inl (upd (S_2 3) p2.toNatClampNeg (((S_2 3) p2.toNatClampNeg) ||| ((1 : Int32) <<< (p1 &&& (31 : Int32))))))), (qa 5, .inl (ka 4, 52, .inl (S_2 4)))] : va_W) := hD
        refine lv_aload_n hx hb d_M_put_71 rfl (lv_at hl 1 rfl) ?_
        refine va_get (D := (dC, dI)) (ci := 1) (v := .ref (qa 5)) (C := R_M) (T := F_M) (N := 5) hx hb hts i_M hown hK hP 0 rfl rfl 4 (by decide) (hts _ k_21) (fun _ h9 => h9) rfl d_M_put_72 ?_
        refine lv_iload_n hx hb d_M_put_75 rfl (lv_at hl 2 rfl) ?_
        refine lv_iconst (v := (4 : Int32)) hx hb d_M_put_76 (by decide +kernel) ?_
        refine lv_imul hx hb d_M_put_77 ?_
        refine lv_iload_n hx hb d_M_put_78 rfl (lv_at hl 3 rfl) ?_
        refine lv_iadd hx hb d_M_put_79 ?_
        refine lv_iload_n hx hb d_M_put_80 rfl (lv_at hl 4 rfl) ?_
        have hi_33 : vp_in ((p1 * (4 : Int32)) + p2) 52 := by first | with_reducible assumption | exact in_52 (by first | with_reducible assumption | exact in_has hw (by with_reducible assumption) | exact in_cls hw (by with_reducible assumption) | exact in_ifc hw (by with_reducible assumption) | exact in_ext hw (by with_reducible assumption) | exact in_eq0 (by with_reducible assumption) | exact hfd (by with_reducible assumption) | exact in_rcv hw (by with_reducible assumption) (Or.inl (by with_reducible assumption)) | exact in_rcv hw (by with_reducible assumption) (Or.inr (by with_reducible assumption))) (by first | with_reducible assumption | exact in_name (by with_reducible assumption) | exact in4_4 (by with_reducible assumption) | exact in4_5 (by with_reducible assumption) | exact in4_6 (by with_reducible assumption) | exact in4_7 (by with_reducible assumption))
        refine va_iast (D := (dC, dI)) (f := (S_2 4)) hx hb hK hP hD hS 5 4 rfl rfl hi_33 d_M_put_81 (fun H locs hP hD hS => ?_)
        have hP : va_P (dC, dI) classes ([(qa 0, .inr (1, [.ref (qa 1), .ref (qa 2), .ref (qa 3), .ref (qa 4), .ref (qa 5)])), (qa 1, .inl (ka 0, 4, .inl (upd (S_2 0) p2.toNatClampNeg (((S_2 0) p2.toNatClampNeg) ||| ((1 : Int32) <<< (p1 &&& (31 : Int32))))))), (qa 2, .inl (ka 1, 4, .inl (upd (S_2 1) p2.toNatClampNeg (((S_2 1) p2.toNatClampNeg) ||| ((1 : Int32) <<< (p1 &&& (31 : Int32))))))), (qa 3, .inl (ka 2, 4, .inl (upd (S_2 2) p2.toNatClampNeg (((S_2 2) p2.toNatClampNeg) ||| ((1 : Int32) <<< (p1 &&& (31 : Int32))))))), (qa 4, .inl (ka 3, 4, .inl (upd (S_2 3) p2.toNatClampNeg (((S_2 3) p2.toNatClampNeg) ||| ((1 : Int32) <<< (p1 &&& (31 : Int32))))))), (qa 5, .inl (ka 4, 52, .inl (upd (S_2 4) ((p1 * (4 : Int32)) + p2).toNatClampNeg p3)))] : va_W) H := hP
        have hD : va_D A ([(qa 0, .inr (1, [.ref (qa 1), .ref (qa 2), .ref (qa 3), .ref (qa 4), .ref (qa 5)])), (qa 1, .inl (ka 0, 4, .inl (upd (S_2 0) p2.toNatClampNeg (((S_2 0) p2.toNatClampNeg) ||| ((1 : Int32) <<< (p1 &&& (31 : Int32))))))), (qa 2, .inl (ka 1, 4, .inl (upd (S_2 1) p2.toNatClampNeg (((S_2 1) p2.toNatClampNeg) ||| ((1 : Int32) <<< (p1 &&& (31 : Int32))))))), (qa 3, .inl (ka 2, 4, .inl (upd (S_2 2) p2.toNatClampNeg (((S_2 2) p2.toNatClampNeg) ||| ((1 : Int32) <<< (p1 &&& (31 : Int32))))))), (qa 4, .inl (ka 3, 4, .inl (upd (S_2 3) p2.toNatClampNeg (((S_2 3) p2.toNatClampNeg) ||| ((1 : Int32) <<< (p1 &&& (31 : Int32))))))), (qa 5, .inl (ka 4, 52, .inl (upd (S_2 4) ((p1 * (4 : Int32)) + p2).toNatClampNeg p3)))] : va_W) := hD
        have hP := wM_mk hP
        have hD := wM_mkD hD
        have hP9 : va_P (dC, dI) classes (wM ka qa (mk5 (upd (S_2 0) p2.toNatClampNeg (((S_2 0) p2.toNatClampNeg) ||| ((1 : Int32) <<< (p1 &&& (31 : Int32))))) (upd (S_2 1) p2.toNatClampNeg (((S_2 1) p2.toNatClampNeg) ||| ((1 : Int32) <<< (p1 &&& (31 : Int32))))) (upd (S_2 2) p2.toNatClampNeg (((S_2 2) p2.toNatClampNeg) ||| ((1 : Int32) <<< (p1 &&& (31 : Int32))))) (upd (S_2 3) p2.toNatClampNeg (((S_2 3) p2.toNatClampNeg) ||| ((1 : Int32) <<< (p1 &&& (31 : Int32))))) (upd (S_2 4) ((p1 * (4 : Int32)) + p2).toNatClampNeg p3))) H := hP
        exact W.vret hx hb hr (fun t ht hW => ⟨⟨(mk5 (upd (S_2 0) p2.toNatClampNeg (((S_2 0) p2.toNatClampNeg) ||| ((1 : Int32) <<< (p1 &&& (31 : Int32))))) (upd (S_2 1) p2.toNatClampNeg (((S_2 1) p2.toNatClampNeg) ||| ((1 : Int32) <<< (p1 &&& (31 : Int32))))) (upd (S_2 2) p2.toNatClampNeg (((S_2 2) p2.toNatClampNeg) ||| ((1 : Int32) <<< (p1 &&& (31 : Int32))))) (upd (S_2 3) p2.toNatClampNeg (((S_2 3) p2.toNatClampNeg) ||| ((1 : Int32) <<< (p1 &&& (31 : Int32))))) (upd (S_2 4) ((p1 * (4 : Int32)) + p2).toNatClampNeg p3)), rfl, (by subst hS_2; unfold s_M_put; rw [if_pos c_5, if_pos c_21, if_pos c_29]), hp_at ht hP9⟩, hS.F ht⟩) hS.2.2 d_M_put_82
end
section
set_option maxHeartbeats 4000000 in
set_option maxRecDepth 100000 in
theorem c_O_interfaceMethods (l : Launch) (dC : Nat → ClassId) (dI : Nat → Nat → Nat) (h0 : Nat) (kw kf km : Nat → ClassId) (qw qf qm : Nat → Nat) (sz : Nat) (v : ES) (lc : Int32) (p1 p2 : Int32) (hp1 : vp_in p1 13) (hp2 : vp_in p2 4) : Met l y_O_interfaceMethods w_O_interfaceMethods ({ frames := 1, cells := 0, slots := 0, locals := 21 } : Room) (ro_P dC dI (wO h0 kw kf km qw qf qm v lc) (tO kw kf km) sz [.ref h0, .int p1, .int p2]) (ro_Q sz (f_O_interfaceMethods v p1 p2)) 0 0 (fun z => sz ≤ z) := by
  refine Met.ofW (cc := b_O_interfaceMethods) (maxL := 3) (ret := (some .int)) (by decide) rfl ?_
  intro p e s m args below meth c s₁ B hml hv
  obtain ⟨rfl, hsz, hP, hK, hN⟩ := hv
  have hx := B.exec
  have hb := B.bytes
  have hr := B.returns
  have hts := tl_of (atoms_spec (ws := w_O_interfaceMethods) B.pre)
  have hown : s.vm.findClass R_O = some m.cls := findClass_of_methodNamed B.named
  have hlocks := B.notSynchronized
  subst hsz
  have hA : ∀ z : Nat, s.heap.size ≤ z → (fun z : Nat => s.heap.size ≤ z) z := fun _ h => h
  have hS : va_S (fun z : Nat => s.heap.size ≤ z) s.heap s.heap [] := va_S.rf
  have hl := lv_entry ([.ref h0, .int p1, .int p2]) (n := 3) (Nat.le_of_ble_eq_true rfl)
  rw [lg_entry_eq]
  generalize (lg_sl ([.ref h0, .int p1, .int p2]) ++ List.replicate (3 - (lg_sl ([.ref h0, .int p1, .int p2])).length) Slot.unset).toArray = ls at hl ⊢
  have hl : lv_has ls 3 [(0, .ref h0), (1, .int p1), (2, .int p2)] := hl
  refine lv_aload_n hx hb d_O_interfaceMethods_0 rfl (lv_at hl 0 rfl) ?_
  refine va_get (D := (dC, dI)) (ci := 2) (v := .ref (qw 0)) (C := R_O) (T := F_O) (N := 4) hx hb hts i_O hown hK hP 0 rfl rfl 0 (by decide) (hts _ k_22) (fun _ h9 => h9) rfl d_O_interfaceMethods_1 ?_
  refine lv_iload_n hx hb d_O_interfaceMethods_4 rfl (lv_at hl 1 rfl) ?_
  have hq_1 : vp_in p1 13 := by first | with_reducible assumption | exact in_has hw (by with_reducible assumption) | exact in_cls hw (by with_reducible assumption) | exact in_ifc hw (by with_reducible assumption) | exact in_ext hw (by with_reducible assumption) | exact in_eq0 (by with_reducible assumption) | exact hfd (by with_reducible assumption) | exact in_rcv hw (by with_reducible assumption) (Or.inl (by with_reducible assumption)) | exact in_rcv hw (by with_reducible assumption) (Or.inr (by with_reducible assumption))
  refine va_calli (va_runV (As := [.int p1]) (rest := []) ⟨hx, hb, hml, hown, hts⟩ (c_W_supertypes l dC dI kw qw s.heap.size v.1  p1 hq_1) (cwV 1 hts k_g9 rfl rfl rfl (by decide +kernel) ⟨Nat.le_of_ble_eq_true rfl, Nat.le_of_ble_eq_true rfl⟩) ⟨fb_ro, va_recv hK hP (ci := 0) (q0 := 1) rfl rfl, fun U hU hW => ⟨rfl, by rw [hU], by rw [hU]; exact hP.sub (ws' := (wW kw qw v.1)) [1, 2, 3, 4, 5, 6, 7] rfl, va_K.moved hW.alike (hK.sub (tys' := (tW kw)) [0, 1, 2, 3, 4, 5] rfl), NX.warm hW hN⟩⟩ rfl rfl hl.1 rfl (lv_room (Nat.le_of_ble_eq_true rfl)) d_O_interfaceMethods_5 ⟨Nat.zero_le _, Nat.zero_le _⟩) hS (fun z h1 h2 => absurd h1 (Nat.not_lt.mpr h2)) (fun z h => hA z (Nat.le_trans hS.1 h)) (fun r u t H1 locs ht hvm hpo hB hz1 hk1 hS => ?_)
  subst hpo
  have hP := kp_P hP hk1
  generalize H1 = H at hP hS ⊢
  refine lv_aload_n hx hb d_O_interfaceMethods_8 rfl (lv_at hl 0 rfl) ?_
  refine va_get (D := (dC, dI)) (ci := 2) (v := .ref (qw 0)) (C := R_O) (T := F_O) (N := 4) hx hb hts i_O hown hK hP 0 rfl rfl 0 (by decide) (hts _ k_22) (fun _ h9 => h9) rfl d_O_interfaceMethods_9 ?_
  refine va_calli (va_runV (As := []) (rest := [.int (f_W_supertypes v.1 p1)]) ⟨hx, hb, hml, hown, hts⟩ (c_W_interfaces l dC dI kw qw H.size v.1  ) (cwV 0 hts k_g10 rfl rfl rfl (by decide +kernel) ⟨Nat.le_of_ble_eq_true rfl, Nat.le_of_ble_eq_true rfl⟩) ⟨fb_ro, va_recv hK hP (ci := 0) (q0 := 1) rfl rfl, fun U hU hW => ⟨rfl, by rw [hU], by rw [hU]; exact hP.sub (ws' := (wW kw qw v.1)) [1, 2, 3, 4, 5, 6, 7] rfl, va_K.moved hW.alike (hK.sub (tys' := (tW kw)) [0, 1, 2, 3, 4, 5] rfl), NX.warm hW hN⟩⟩ rfl rfl hl.1 rfl (lv_room (Nat.le_of_ble_eq_true rfl)) d_O_interfaceMethods_12 ⟨Nat.zero_le _, Nat.zero_le _⟩) hS (fun z h1 h2 => absurd h1 (Nat.not_lt.mpr h2)) (fun z h => hA z (Nat.le_trans hS.1 h)) (fun r u t H1 locs ht hvm hpo hB hz1 hk1 hS => ?_)
  subst hpo
  have hP := kp_P hP hk1
  generalize H1 = H at hP hS ⊢
  refine lv_iand hx hb d_O_interfaceMethods_15 ?_
  refine lv_aload_n hx hb d_O_interfaceMethods_16 rfl (lv_at hl 0 rfl) ?_
  refine va_get (D := (dC, dI)) (ci := 2) (v := .ref (qm 0)) (C := R_O) (T := F_O) (N := 4) hx hb hts i_O hown hK hP 0 rfl rfl 2 (by decide) (hts _ k_23) (fun _ h9 => h9) rfl d_O_interfaceMethods_17 ?_
  refine lv_iload_n hx hb d_O_interfaceMethods_20 rfl (lv_at hl 2 rfl) ?_
  have hq_2 : vp_in p2 4 := by first | with_reducible assumption | exact in_name (by with_reducible assumption) | exact in4_4 (by with_reducible assumption) | exact in4_5 (by with_reducible assumption) | exact in4_6 (by with_reducible assumption) | exact in4_7 (by with_reducible assumption)
  refine va_calli (va_runV (As := [.int p2]) (rest := [.int ((f_W_supertypes v.1 p1) &&& (f_W_interfaces v.1))]) ⟨hx, hb, hml, hown, hts⟩ (c_M_inheritable l dC dI km qm H.size v.2.2  p2 hq_2) (cwV 1 hts k_g11 rfl rfl rfl (by decide +kernel) ⟨Nat.le_of_ble_eq_true rfl, Nat.le_of_ble_eq_true rfl⟩) ⟨fb_ro, va_recv hK hP (ci := 1) (q0 := 14) rfl rfl, fun U hU hW => ⟨rfl, by rw [hU], by rw [hU]; exact hP.sub (ws' := (wM km qm v.2.2)) [14, 15, 16, 17, 18, 19] rfl, va_K.moved hW.alike (hK.sub (tys' := (tM km)) [11, 12, 13, 14, 15] rfl), NX.warm hW hN⟩⟩ rfl rfl hl.1 rfl (lv_room (Nat.le_of_ble_eq_true rfl)) d_O_interfaceMethods_21 ⟨Nat.zero_le _, Nat.zero_le _⟩) hS (fun z h1 h2 => absurd h1 (Nat.not_lt.mpr h2)) (fun z h => hA z (Nat.le_trans hS.1 h)) (fun r u t H1 locs ht hvm hpo hB hz1 hk1 hS => ?_)
  subst hpo
  have hP := kp_P hP hk1
  generalize H1 = H at hP hS ⊢
  refine lv_iand hx hb d_O_interfaceMethods_24 ?_
  exact W.iret (v := (((f_W_supertypes v.1 p1) &&& (f_W_interfaces v.1)) &&& (f_M_inheritable v.2.2 p2))) hx hb hr (fun t ht hW => ⟨⟨(((f_W_supertypes v.1 p1) &&& (f_W_interfaces v.1)) &&& (f_M_inheritable v.2.2 p2)), (), rfl, rfl, trivial⟩, hS.F ht⟩) hS.2.2 d_O_interfaceMethods_25
end
section
set_option maxHeartbeats 4000000 in
set_option maxRecDepth 100000 in
theorem c_O_maximalSet (l : Launch) (dC : Nat → ClassId) (dI : Nat → Nat → Nat) (h0 : Nat) (kw kf km : Nat → ClassId) (qw qf qm : Nat → Nat) (sz : Nat) (v : ES) (lc : Int32) (p1 p2 : Int32) (hp1 : vp_in p1 13) (hp2 : vp_in p2 4) : Met l y_O_maximalSet w_O_maximalSet ({ frames := 2, cells := 0, slots := 0, locals := 43 } : Room) (ro_P dC dI (wO h0 kw kf km qw qf qm v lc) (tO kw kf km) sz [.ref h0, .int p1, .int p2]) (ro_Q sz (f_O_maximalSet v p1 p2)) 0 0 (fun z => sz ≤ z) := by
  refine Met.ofW (cc := b_O_maximalSet) (maxL := 6) (ret := (some .int)) (by decide) rfl ?_
  intro p e s m args below meth c s₁ B hml hv
  obtain ⟨rfl, hsz, hP, hK, hN⟩ := hv
  have hx := B.exec
  have hb := B.bytes
  have hr := B.returns
  have hts := tl_of (atoms_spec (ws := w_O_maximalSet) B.pre)
  have hown : s.vm.findClass R_O = some m.cls := findClass_of_methodNamed B.named
  have hlocks := B.notSynchronized
  subst hsz
  have hA : ∀ z : Nat, s.heap.size ≤ z → (fun z : Nat => s.heap.size ≤ z) z := fun _ h => h
  have hS : va_S (fun z : Nat => s.heap.size ≤ z) s.heap s.heap [] := va_S.rf
  have hl := lv_entry ([.ref h0, .int p1, .int p2]) (n := 6) (Nat.le_of_ble_eq_true rfl)
  rw [lg_entry_eq]
  generalize (lg_sl ([.ref h0, .int p1, .int p2]) ++ List.replicate (6 - (lg_sl ([.ref h0, .int p1, .int p2])).length) Slot.unset).toArray = ls at hl ⊢
  have hl : lv_has ls 6 [(0, .ref h0), (1, .int p1), (2, .int p2)] := hl
  refine lv_aload_n hx hb d_O_maximalSet_0 rfl (lv_at hl 0 rfl) ?_
  refine lv_iload_n hx hb d_O_maximalSet_1 rfl (lv_at hl 1 rfl) ?_
  refine lv_iload_n hx hb d_O_maximalSet_2 rfl (lv_at hl 2 rfl) ?_
  have hq_1 : vp_in p1 13 := by first | with_reducible assumption | exact in_has hw (by with_reducible assumption) | exact in_cls hw (by with_reducible assumption) | exact in_ifc hw (by with_reducible assumption) | exact in_ext hw (by with_reducible assumption) | exact in_eq0 (by with_reducible assumption) | exact hfd (by with_reducible assumption) | exact in_rcv hw (by with_reducible assumption) (Or.inl (by with_reducible assumption)) | exact in_rcv hw (by with_reducible assumption) (Or.inr (by with_reducible assumption))
  have hq_2 : vp_in p2 4 := by first | with_reducible assumption | exact in_name (by with_reducible assumption) | exact in4_4 (by with_reducible assumption) | exact in4_5 (by with_reducible assumption) | exact in4_6 (by with_reducible assumption) | exact in4_7 (by with_reducible assumption)
  refine va_calli (va_runV (As := [.int p1, .int p2]) (rest := []) ⟨hx, hb, hml, hown, hts⟩ (c_O_interfaceMethods l dC dI h0 kw kf km qw qf qm s.heap.size v lc p1 p2 hq_1 hq_2) (cwV 2 hts k_g12 rfl rfl rfl (by decide +kernel) ⟨Nat.le_of_ble_eq_true rfl, Nat.le_of_ble_eq_true rfl⟩) ⟨fb_ro, va_recv hK hP (ci := 2) (q0 := 0) rfl rfl, fun U hU hW => ⟨rfl, by rw [hU], by rw [hU]; exact hP.sub (ws' := (wO h0 kw kf km qw qf qm v lc)) [0, 1, 2, 3, 4, 5, 6, 7, 8, 9, 10, 11, 12, 13, 14, 15, 16, 17, 18, 19] rfl, va_K.moved hW.alike (hK.sub (tys' := (tO kw kf km)) [0, 1, 2, 3, 4, 5, 6, 7, 8, 9, 10, 11, 12, 13, 14, 15] rfl), NX.warm hW hN⟩⟩ rfl rfl hl.1 rfl (lv_room (Nat.le_of_ble_eq_true rfl)) d_O_maximalSet_3 ⟨Nat.zero_le _, Nat.zero_le _⟩) hS (fun z h1 h2 => absurd h1 (Nat.not_lt.mpr h2)) (fun z h => hA z (Nat.le_trans hS.1 h)) (fun r u t H1 locs ht hvm hpo hB hz1 hk1 hS => ?_)
  subst hpo
  have hP := kp_P hP hk1
  generalize H1 = H at hP hS ⊢
  refine lv_istore_n (lv' := [(3, .int (f_O_interfaceMethods v p1 p2)), (0, .ref h0), (1, .int p1), (2, .int p2)]) hx hb d_O_maximalSet_6 rfl hl (by decide) rfl (fun ls hl => ?_)
  refine lv_iload_n hx hb d_O_maximalSet_7 rfl (lv_at hl 0 rfl) ?_
  refine lv_istore (lv' := [(4, .int (f_O_interfaceMethods v p1 p2)), (3, .int (f_O_interfaceMethods v p1 p2)), (0, .ref h0), (1, .int p1), (2, .int p2)]) hx hb d_O_maximalSet_8 hl (by decide) rfl (fun ls hl => ?_)
  refine lv_iconst (v := (1 : Int32)) hx hb d_O_maximalSet_10 (by decide +kernel) ?_
  refine lv_istore (lv' := [(5, .int (1 : Int32)), (4, .int (f_O_interfaceMethods v p1 p2)), (3, .int (f_O_interfaceMethods v p1 p2)), (0, .ref h0), (1, .int p1), (2, .int p2)]) hx hb d_O_maximalSet_11 hl (by decide) rfl (fun ls hl => ?_)
  have LOOP : ∀ (n k : Nat) (x4 : Int32) (x5 : Int32) (H : Heap) (locs : List Loc) (ls : Array Slot), x5 = nI k → 14 ≤ k + n → k ≤ 13 → lr_O_maximalSet v p1 p2 n x4 x5 = (f_O_maximalSet v p1 p2) → va_P (dC, dI) classes (wO h0 kw kf km qw qf qm v lc) H → va_S (fun z : Nat => s.heap.size ≤ z) s.heap H locs → lv_has ls 6 [(4, .int x4), (5, .int x5), (3, .int (f_O_interfaceMethods v p1 p2)), (0, .ref h0), (1, .int p1), (2, .int p2)] → W p l e (headSpec w_O_maximalSet ({ frames := 2, cells := 0, slots := 0, locals := 43 } : Room)).room s m ([.ref h0, .int p1, .int p2] : List Value).toArray below meth c H locs 0 0 (MQ below (ro_Q s.heap.size (f_O_maximalSet v p1 p2)) ([.ref h0, .int p1, .int p2] : List Value).toArray s 0 0 (fun z => s.heap.size ≤ z)) (F0 m 13 ls []) := by
    intro n
    induction n with
    | zero =>
      intro k x4 x5 H locs ls et h1 h2
      exfalso; omega
    | succ n ih =>
      intro k x4 x5 H locs ls et h1 h2 hF hP hS hl
      refine lv_iload hx hb d_O_maximalSet_13 (lv_at hl 1 rfl) ?_
      refine lv_bipush (v := (12 : Int32)) hx hb d_O_maximalSet_15 (by decide +kernel) ?_
      refine lv_icmp_gt (tgt := 51) hx hb d_O_maximalSet_17 (by decide) (fun c_3 => ?_) (fun c_3 => ?_)
      · have c_3 : (12 : Int32) < x5 := c_3
        refine lv_iload hx hb d_O_maximalSet_51 (lv_at hl 0 rfl) ?_
        exact W.iret (v := x4) hx hb hr (fun t ht hW => ⟨⟨x4, (), rfl, by rw [← hF, lr_O_maximalSet_s, if_pos c_3], trivial⟩, hS.F ht⟩) hS.2.2 d_O_maximalSet_53
      · have c_3 : ¬ ((12 : Int32) < x5) := c_3
        refine lv_iload_n hx hb d_O_maximalSet_20 rfl (lv_at hl 2 rfl) ?_
        refine lv_iload hx hb d_O_maximalSet_21 (lv_at hl 1 rfl) ?_
        refine va_calli (va_runS (As := [.int (f_O_interfaceMethods v p1 p2), .int x5]) (rest := []) ⟨hx, hb, hml, hown, hts⟩ (c_O_holds l dC dI  H.size   (f_O_interfaceMethods v p1 p2) x5) (cwS 2 hts k_g0 rfl rfl rfl (by decide +kernel) ⟨Nat.le_of_ble_eq_true rfl, Nat.le_of_ble_eq_true rfl⟩) ⟨fb_ro, fun U hU hW => ⟨rfl, by rw [hU], by rw [hU]; exact hP.sub (ws' := ([] : va_W)) [] rfl, va_K.moved hW.alike (hK.sub (tys' := []) [] rfl), NX.warm hW hN⟩⟩ rfl rfl hl.1 rfl (lv_room (Nat.le_of_ble_eq_true rfl)) d_O_maximalSet_23 ⟨Nat.zero_le _, Nat.zero_le _⟩) hS (fun z h1 h2 => absurd h1 (Nat.not_lt.mpr h2)) (fun z h => hA z (Nat.le_trans hS.1 h)) (fun r u t H1 locs ht hvm hpo hB hz1 hk1 hS => ?_)
        subst hpo
        have hP := kp_P hP hk1
        generalize H1 = H at hP hS ⊢
        refine lv_if_eq (tgt := 45) hx hb d_O_maximalSet_26 (by decide) (fun c_4 => ?_) (fun c_4 => ?_)
        · have c_4 : (f_O_holds (f_O_interfaceMethods v p1 p2) x5) = (0 : Int32) := c_4
          refine lv_iinc (v := (x5 + (1 : Int32))) (lv' := [(5, .int (x5 + (1 : Int32))), (4, .int x4), (3, .int (f_O_interfaceMethods v p1 p2)), (0, .ref h0), (1, .int p1), (2, .int p2)]) hx hb d_O_maximalSet_45 hl (k := 1) rfl (by rw [of_p1]) (by decide) rfl (fun ls hl => ?_)
          refine lv_goto (tgt := 13) hx hb d_O_maximalSet_48 (by decide) ?_
          exact ih (k + 1) x4 (x5 + (1 : Int32)) _ _ _ (by rw [et]; exact nI_1 k) (by omega) (by first | exact Nat.succ_le_succ (le12 et h2 (by with_reducible assumption)) | exact Nat.succ_le_succ (lt12 et h2 (by with_reducible assumption)) | exact Nat.succ_le_succ (leCnt hw et h2 (by with_reducible assumption)) | exact Nat.succ_le_succ (Nat.le_trans (Nat.le_of_lt (ltDc hw et h2 (by with_reducible assumption) (by with_reducible assumption))) (by decide)) | exact Nat.succ_le_succ (lePar et h2 (by with_reducible assumption) (by with_reducible assumption)) | exact Nat.succ_le_succ (ltPar et h2 (by with_reducible assumption) (by with_reducible assumption))) (by rw [← hF, lr_O_maximalSet_s, if_neg c_3, if_pos c_4]) hP hS (lv_sub hl [1, 0, 2, 3, 4, 5] rfl)
        · have c_4 : ¬ ((f_O_holds (f_O_interfaceMethods v p1 p2) x5) = (0 : Int32)) := c_4
          refine lv_iload hx hb d_O_maximalSet_29 (lv_at hl 0 rfl) ?_
          refine lv_aload_n hx hb d_O_maximalSet_31 rfl (lv_at hl 3 rfl) ?_
          refine va_get (D := (dC, dI)) (ci := 2) (v := .ref (qw 0)) (C := R_O) (T := F_O) (N := 4) hx hb hts i_O hown hK hP 0 rfl rfl 0 (by decide) (hts _ k_22) (fun _ h9 => h9) rfl d_O_maximalSet_32 ?_
          refine lv_iload hx hb d_O_maximalSet_35 (lv_at hl 1 rfl) ?_
          have hq_5 : vp_in x5 13 := by first | with_reducible assumption | exact in_et et (le12 et h2 (by with_reducible assumption)) | exact in_et et (lt12 et h2 (by with_reducible assumption)) | exact in_et et (leCnt hw et h2 (by with_reducible assumption)) | exact in_et et (lePar et h2 (by with_reducible assumption) (by with_reducible assumption)) | exact in_et et (ltPar et h2 (by with_reducible assumption) (by with_reducible assumption)) | exact in_et et h2
          refine va_calli (va_runV (As := [.int x5]) (rest := [.int x4]) ⟨hx, hb, hml, hown, hts⟩ (c_W_supertypes l dC dI kw qw H.size v.1  x5 hq_5) (cwV 1 hts k_g9 rfl rfl rfl (by decide +kernel) ⟨Nat.le_of_ble_eq_true rfl, Nat.le_of_ble_eq_true rfl⟩) ⟨fb_ro, va_recv hK hP (ci := 0) (q0 := 1) rfl rfl, fun U hU hW => ⟨rfl, by rw [hU], by rw [hU]; exact hP.sub (ws' := (wW kw qw v.1)) [1, 2, 3, 4, 5, 6, 7] rfl, va_K.moved hW.alike (hK.sub (tys' := (tW kw)) [0, 1, 2, 3, 4, 5] rfl), NX.warm hW hN⟩⟩ rfl rfl hl.1 rfl (lv_room (Nat.le_of_ble_eq_true rfl)) d_O_maximalSet_37 ⟨Nat.zero_le _, Nat.zero_le _⟩) hS (fun z h1 h2 => absurd h1 (Nat.not_lt.mpr h2)) (fun z h => hA z (Nat.le_trans hS.1 h)) (fun r u t H1 locs ht hvm hpo hB hz1 hk1 hS => ?_)
          subst hpo
          have hP := kp_P hP hk1
          generalize H1 = H at hP hS ⊢
          refine lv_iconst (v := (-1 : Int32)) hx hb d_O_maximalSet_40 (by decide +kernel) ?_
          refine lv_ixor hx hb d_O_maximalSet_41 ?_
          refine lv_iand hx hb d_O_maximalSet_42 ?_
          refine lv_istore (lv' := [(4, .int (x4 &&& ((f_W_supertypes v.1 x5) ^^^ (-1 : Int32)))), (5, .int x5), (3, .int (f_O_interfaceMethods v p1 p2)), (0, .ref h0), (1, .int p1), (2, .int p2)]) hx hb d_O_maximalSet_43 hl (by decide) rfl (fun ls hl => ?_)
          refine lv_iinc (v := (x5 + (1 : Int32))) (lv' := [(5, .int (x5 + (1 : Int32))), (4, .int (x4 &&& ((f_W_supertypes v.1 x5) ^^^ (-1 : Int32)))), (3, .int (f_O_interfaceMethods v p1 p2)), (0, .ref h0), (1, .int p1), (2, .int p2)]) hx hb d_O_maximalSet_45 hl (k := 1) rfl (by rw [of_p1]) (by decide) rfl (fun ls hl => ?_)
          refine lv_goto (tgt := 13) hx hb d_O_maximalSet_48 (by decide) ?_
          exact ih (k + 1) (x4 &&& ((f_W_supertypes v.1 x5) ^^^ (-1 : Int32))) (x5 + (1 : Int32)) _ _ _ (by rw [et]; exact nI_1 k) (by omega) (by first | exact Nat.succ_le_succ (le12 et h2 (by with_reducible assumption)) | exact Nat.succ_le_succ (lt12 et h2 (by with_reducible assumption)) | exact Nat.succ_le_succ (leCnt hw et h2 (by with_reducible assumption)) | exact Nat.succ_le_succ (Nat.le_trans (Nat.le_of_lt (ltDc hw et h2 (by with_reducible assumption) (by with_reducible assumption))) (by decide)) | exact Nat.succ_le_succ (lePar et h2 (by with_reducible assumption) (by with_reducible assumption)) | exact Nat.succ_le_succ (ltPar et h2 (by with_reducible assumption) (by with_reducible assumption))) (by rw [← hF, lr_O_maximalSet_s, if_neg c_3, if_neg c_4]) hP hS (lv_sub hl [1, 0, 2, 3, 4, 5] rfl)
  exact LOOP 14 1 (f_O_interfaceMethods v p1 p2) (1 : Int32) _ _ _ (rfl) (by omega) (by omega) (rfl) hP hS (lv_sub hl [1, 0, 2, 3, 4, 5] rfl)
end
section
set_option maxHeartbeats 4000000 in
set_option maxRecDepth 100000 in
theorem c_O_bestOfInterfaces (l : Launch) (dC : Nat → ClassId) (dI : Nat → Nat → Nat) (h0 : Nat) (kw kf km : Nat → ClassId) (qw qf qm : Nat → Nat) (sz : Nat) (v : ES) (lc : Int32) (p1 p2 : Int32) (hp1 : vp_in p1 13) (hp2 : vp_in p2 4) : Met l y_O_bestOfInterfaces w_O_bestOfInterfaces ({ frames := 3, cells := 0, slots := 0, locals := 68 } : Room) (ro_P dC dI (wO h0 kw kf km qw qf qm v lc) (tO kw kf km) sz [.ref h0, .int p1, .int p2]) (ro_Q sz (f_O_bestOfInterfaces v p1 p2)) 0 0 (fun z => sz ≤ z) := by
  refine Met.ofW (cc := b_O_bestOfInterfaces) (maxL := 4) (ret := (some .int)) (by decide) rfl ?_
  intro p e s m args below meth c s₁ B hml hv
  obtain ⟨rfl, hsz, hP, hK, hN⟩ := hv
  have hx := B.exec
  have hb := B.bytes
  have hr := B.returns
  have hts := tl_of (atoms_spec (ws := w_O_bestOfInterfaces) B.pre)
  have hown : s.vm.findClass R_O = some m.cls := findClass_of_methodNamed B.named
  have hlocks := B.notSynchronized
  subst hsz
  have hA : ∀ z : Nat, s.heap.size ≤ z → (fun z : Nat => s.heap.size ≤ z) z := fun _ h => h
  have hS : va_S (fun z : Nat => s.heap.size ≤ z) s.heap s.heap [] := va_S.rf
  have hl := lv_entry ([.ref h0, .int p1, .int p2]) (n := 4) (Nat.le_of_ble_eq_true rfl)
  rw [lg_entry_eq]
  generalize (lg_sl ([.ref h0, .int p1, .int p2]) ++ List.replicate (4 - (lg_sl ([.ref h0, .int p1, .int p2])).length) Slot.unset).toArray = ls at hl ⊢
  have hl : lv_has ls 4 [(0, .ref h0), (1, .int p1), (2, .int p2)] := hl
  refine lv_aload_n hx hb d_O_bestOfInterfaces_0 rfl (lv_at hl 0 rfl) ?_
  refine lv_iload_n hx hb d_O_bestOfInterfaces_1 rfl (lv_at hl 1 rfl) ?_
  refine lv_iload_n hx hb d_O_bestOfInterfaces_2 rfl (lv_at hl 2 rfl) ?_
  have hq_1 : vp_in p1 13 := by first | with_reducible assumption | exact in_has hw (by with_reducible assumption) | exact in_cls hw (by with_reducible assumption) | exact in_ifc hw (by with_reducible assumption) | exact in_ext hw (by with_reducible assumption) | exact in_eq0 (by with_reducible assumption) | exact hfd (by with_reducible assumption) | exact in_rcv hw (by with_reducible assumption) (Or.inl (by with_reducible assumption)) | exact in_rcv hw (by with_reducible assumption) (Or.inr (by with_reducible assumption))
  have hq_2 : vp_in p2 4 := by first | with_reducible assumption | exact in_name (by with_reducible assumption) | exact in4_4 (by with_reducible assumption) | exact in4_5 (by with_reducible assumption) | exact in4_6 (by with_reducible assumption) | exact in4_7 (by with_reducible assumption)
  refine va_calli (va_runV (As := [.int p1, .int p2]) (rest := []) ⟨hx, hb, hml, hown, hts⟩ (c_O_maximalSet l dC dI h0 kw kf km qw qf qm s.heap.size v lc p1 p2 hq_1 hq_2) (cwV 2 hts k_g13 rfl rfl rfl (by decide +kernel) ⟨Nat.le_of_ble_eq_true rfl, Nat.le_of_ble_eq_true rfl⟩) ⟨fb_ro, va_recv hK hP (ci := 2) (q0 := 0) rfl rfl, fun U hU hW => ⟨rfl, by rw [hU], by rw [hU]; exact hP.sub (ws' := (wO h0 kw kf km qw qf qm v lc)) [0, 1, 2, 3, 4, 5, 6, 7, 8, 9, 10, 11, 12, 13, 14, 15, 16, 17, 18, 19] rfl, va_K.moved hW.alike (hK.sub (tys' := (tO kw kf km)) [0, 1, 2, 3, 4, 5, 6, 7, 8, 9, 10, 11, 12, 13, 14, 15] rfl), NX.warm hW hN⟩⟩ rfl rfl hl.1 rfl (lv_room (Nat.le_of_ble_eq_true rfl)) d_O_bestOfInterfaces_3 ⟨Nat.zero_le _, Nat.zero_le _⟩) hS (fun z h1 h2 => absurd h1 (Nat.not_lt.mpr h2)) (fun z h => hA z (Nat.le_trans hS.1 h)) (fun r u t H1 locs ht hvm hpo hB hz1 hk1 hS => ?_)
  subst hpo
  have hP := kp_P hP hk1
  generalize H1 = H at hP hS ⊢
  refine lv_aload_n hx hb d_O_bestOfInterfaces_6 rfl (lv_at hl 0 rfl) ?_
  refine va_get (D := (dC, dI)) (ci := 2) (v := .ref (qm 0)) (C := R_O) (T := F_O) (N := 4) hx hb hts i_O hown hK hP 0 rfl rfl 2 (by decide) (hts _ k_23) (fun _ h9 => h9) rfl d_O_bestOfInterfaces_7 ?_
  refine lv_iload_n hx hb d_O_bestOfInterfaces_10 rfl (lv_at hl 2 rfl) ?_
  have hq_3 : vp_in p2 4 := by first | with_reducible assumption | exact in_name (by with_reducible assumption) | exact in4_4 (by with_reducible assumption) | exact in4_5 (by with_reducible assumption) | exact in4_6 (by with_reducible assumption) | exact in4_7 (by with_reducible assumption)
  refine va_calli (va_runV (As := [.int p2]) (rest := [.int (f_O_maximalSet v p1 p2)]) ⟨hx, hb, hml, hown, hts⟩ (c_M_abstracts l dC dI km qm H.size v.2.2  p2 hq_3) (cwV 1 hts k_g14 rfl rfl rfl (by decide +kernel) ⟨Nat.le_of_ble_eq_true rfl, Nat.le_of_ble_eq_true rfl⟩) ⟨fb_ro, va_recv hK hP (ci := 1) (q0 := 14) rfl rfl, fun U hU hW => ⟨rfl, by rw [hU], by rw [hU]; exact hP.sub (ws' := (wM km qm v.2.2)) [14, 15, 16, 17, 18, 19] rfl, va_K.moved hW.alike (hK.sub (tys' := (tM km)) [11, 12, 13, 14, 15] rfl), NX.warm hW hN⟩⟩ rfl rfl hl.1 rfl (lv_room (Nat.le_of_ble_eq_true rfl)) d_O_bestOfInterfaces_11 ⟨Nat.zero_le _, Nat.zero_le _⟩) hS (fun z h1 h2 => absurd h1 (Nat.not_lt.mpr h2)) (fun z h => hA z (Nat.le_trans hS.1 h)) (fun r u t H1 locs ht hvm hpo hB hz1 hk1 hS => ?_)
  subst hpo
  have hP := kp_P hP hk1
  generalize H1 = H at hP hS ⊢
  refine lv_iconst (v := (-1 : Int32)) hx hb d_O_bestOfInterfaces_14 (by decide +kernel) ?_
  refine lv_ixor hx hb d_O_bestOfInterfaces_15 ?_
  refine lv_iand hx hb d_O_bestOfInterfaces_16 ?_
  refine lv_istore_n (lv' := [(3, .int ((f_O_maximalSet v p1 p2) &&& ((f_M_abstracts v.2.2 p2) ^^^ (-1 : Int32)))), (0, .ref h0), (1, .int p1), (2, .int p2)]) hx hb d_O_bestOfInterfaces_17 rfl hl (by decide) rfl (fun ls hl => ?_)
  refine lv_iload_n hx hb d_O_bestOfInterfaces_18 rfl (lv_at hl 0 rfl) ?_
  refine va_calli (va_runS (As := [.int ((f_O_maximalSet v p1 p2) &&& ((f_M_abstracts v.2.2 p2) ^^^ (-1 : Int32)))]) (rest := []) ⟨hx, hb, hml, hown, hts⟩ (c_J_bitCount l dC dI  H.size   ((f_O_maximalSet v p1 p2) &&& ((f_M_abstracts v.2.2 p2) ^^^ (-1 : Int32)))) ⟨callB_of 1 hts k_g15 rfl rfl rfl (hts _ k_25) (hts _ k_24) (by decide +kernel) ⟨Nat.le_of_ble_eq_true rfl, Nat.le_of_ble_eq_true rfl⟩, hts _ k_26⟩ ⟨fb_ro, fun U hU hW => ⟨rfl, by rw [hU], by rw [hU]; exact hP.sub (ws' := ([] : va_W)) [] rfl, va_K.moved hW.alike (hK.sub (tys' := []) [] rfl), NX.warm hW hN⟩⟩ rfl rfl hl.1 rfl (lv_room (Nat.le_of_ble_eq_true rfl)) d_O_bestOfInterfaces_19 ⟨Nat.zero_le _, Nat.zero_le _⟩) hS (fun z h1 h2 => absurd h1 (Nat.not_lt.mpr h2)) (fun z h => hA z (Nat.le_trans hS.1 h)) (fun r u t H1 locs ht hvm hpo hB hz1 hk1 hS => ?_)
  subst hpo
  have hP := kp_P hP hk1
  generalize H1 = H at hP hS ⊢
  by_cases c_4 : (f_J_bitCount ((f_O_maximalSet v p1 p2) &&& ((f_M_abstracts v.2.2 p2) ^^^ (-1 : Int32)))) = (0 : Int32)
  · refine lv_lookup (tgt := 48) (off := 26) hx hb d_O_bestOfInterfaces_22 (by decide) (by rw [c_4]; rfl) (by decide) ?_
    refine lv_bipush (v := (-7 : Int32)) hx hb d_O_bestOfInterfaces_48 (by decide +kernel) ?_
    exact W.iret (v := (-7 : Int32)) hx hb hr (fun t ht hW => ⟨⟨(-7 : Int32), (), rfl, by unfold f_O_bestOfInterfaces; rw [if_pos c_4], trivial⟩, hS.F ht⟩) hS.2.2 d_O_bestOfInterfaces_50
  · skip
    by_cases c_5 : (f_J_bitCount ((f_O_maximalSet v p1 p2) &&& ((f_M_abstracts v.2.2 p2) ^^^ (-1 : Int32)))) = (1 : Int32)
    · refine lv_lookup (tgt := 51) (off := 29) hx hb d_O_bestOfInterfaces_22 (by decide) (by rw [c_5]; rfl) (by decide) ?_
      refine lv_iload_n hx hb d_O_bestOfInterfaces_51 rfl (lv_at hl 0 rfl) ?_
      refine va_calli (va_runS (As := [.int ((f_O_maximalSet v p1 p2) &&& ((f_M_abstracts v.2.2 p2) ^^^ (-1 : Int32)))]) (rest := []) ⟨hx, hb, hml, hown, hts⟩ (c_O_leastOf l dC dI  H.size   ((f_O_maximalSet v p1 p2) &&& ((f_M_abstracts v.2.2 p2) ^^^ (-1 : Int32)))) (cwS 1 hts k_g16 rfl rfl rfl (by decide +kernel) ⟨Nat.le_of_ble_eq_true rfl, Nat.le_of_ble_eq_true rfl⟩) ⟨fb_ro, fun U hU hW => ⟨rfl, by rw [hU], by rw [hU]; exact hP.sub (ws' := ([] : va_W)) [] rfl, va_K.moved hW.alike (hK.sub (tys' := []) [] rfl), NX.warm hW hN⟩⟩ rfl rfl hl.1 rfl (lv_room (Nat.le_of_ble_eq_true rfl)) d_O_bestOfInterfaces_52 ⟨Nat.zero_le _, Nat.zero_le _⟩) hS (fun z h1 h2 => absurd h1 (Nat.not_lt.mpr h2)) (fun z h => hA z (Nat.le_trans hS.1 h)) (fun r u t H1 locs ht hvm hpo hB hz1 hk1 hS => ?_)
      subst hpo
      have hP := kp_P hP hk1
      generalize H1 = H at hP hS ⊢
      exact W.iret (v := (f_O_leastOf ((f_O_maximalSet v p1 p2) &&& ((f_M_abstracts v.2.2 p2) ^^^ (-1 : Int32))))) hx hb hr (fun t ht hW => ⟨⟨(f_O_leastOf ((f_O_maximalSet v p1 p2) &&& ((f_M_abstracts v.2.2 p2) ^^^ (-1 : Int32)))), (), rfl, by unfold f_O_bestOfInterfaces; rw [if_neg c_4, if_pos c_5], trivial⟩, hS.F ht⟩) hS.2.2 d_O_bestOfInterfaces_55
    · skip
      refine lv_lookup (tgt := 56) (off := 34) hx hb d_O_bestOfInterfaces_22 (by decide) (by have z0 := ne_ti (z := 0) c_4 rfl; have z1 := ne_ti (z := 1) c_5 rfl; revert z0 z1; generalize ((f_J_bitCount ((f_O_maximalSet v p1 p2) &&& ((f_M_abstracts v.2.2 p2) ^^^ (-1 : Int32))))).toInt = zz; intro z0 z1; simp [Op.lookupswitch.offset, Ne.symm z0, Ne.symm z1]) (by decide) ?_
      refine lv_bipush (v := (-6 : Int32)) hx hb d_O_bestOfInterfaces_56 (by decide +kernel) ?_
      exact W.iret (v := (-6 : Int32)) hx hb hr (fun t ht hW => ⟨⟨(-6 : Int32), (), rfl, by unfold f_O_bestOfInterfaces; rw [if_neg c_4, if_neg c_5], trivial⟩, hS.F ht⟩) hS.2.2 d_O_bestOfInterfaces_58
end
section
set_option maxHeartbeats 4000000 in
set_option maxRecDepth 100000 in
theorem c_O_overridesAtOnce (l : Launch) (dC : Nat → ClassId) (dI : Nat → Nat → Nat) (h0 : Nat) (kw kf km : Nat → ClassId) (qw qf qm : Nat → Nat) (sz : Nat) (v : ES) (lc : Int32) (p1 p2 p3 : Int32) (hp1 : vp_in p1 13) (hp2 : vp_in p2 13) (hp3 : vp_in p3 4) : Met l y_O_overridesAtOnce w_O_overridesAtOnce ({ frames := 1, cells := 0, slots := 0, locals := 22 } : Room) (ro_P dC dI (wO h0 kw kf km qw qf qm v lc) (tO kw kf km) sz [.ref h0, .int p1, .int p2, .int p3]) (ro_Q sz (f_O_overridesAtOnce v p1 p2 p3)) 0 0 (fun z => sz ≤ z) := by
  refine Met.ofW (cc := b_O_overridesAtOnce) (maxL := 4) (ret := (some .boolean)) (by decide) rfl ?_
  intro p e s m args below meth c s₁ B hml hv
  obtain ⟨rfl, hsz, hP, hK, hN⟩ := hv
  have hx := B.exec
  have hb := B.bytes
  have hr := B.returns
  have hts := tl_of (atoms_spec (ws := w_O_overridesAtOnce) B.pre)
  have hown : s.vm.findClass R_O = some m.cls := findClass_of_methodNamed B.named
  have hlocks := B.notSynchronized
  subst hsz
  have hA : ∀ z : Nat, s.heap.size ≤ z → (fun z : Nat => s.heap.size ≤ z) z := fun _ h => h
  have hS : va_S (fun z : Nat => s.heap.size ≤ z) s.heap s.heap [] := va_S.rf
  have hl := lv_entry ([.ref h0, .int p1, .int p2, .int p3]) (n := 4) (Nat.le_of_ble_eq_true rfl)
  rw [lg_entry_eq]
  generalize (lg_sl ([.ref h0, .int p1, .int p2, .int p3]) ++ List.replicate (4 - (lg_sl ([.ref h0, .int p1, .int p2, .int p3])).length) Slot.unset).toArray = ls at hl ⊢
  have hl : lv_has ls 4 [(0, .ref h0), (1, .int p1), (2, .int p2), (3, .int p3)] := hl
  refine lv_aload_n hx hb d_O_overridesAtOnce_0 rfl (lv_at hl 0 rfl) ?_
  refine va_get (D := (dC, dI)) (ci := 2) (v := .ref (qm 0)) (C := R_O) (T := F_O) (N := 4) hx hb hts i_O hown hK hP 0 rfl rfl 2 (by decide) (hts _ k_23) (fun _ h9 => h9) rfl d_O_overridesAtOnce_1 ?_
  refine lv_iload_n hx hb d_O_overridesAtOnce_4 rfl (lv_at hl 1 rfl) ?_
  refine lv_iload_n hx hb d_O_overridesAtOnce_5 rfl (lv_at hl 3 rfl) ?_
  have hq_1 : vp_in ((p1 * (4 : Int32)) + p3) 52 := by first | with_reducible assumption | exact in_52 (by first | with_reducible assumption | exact in_has hw (by with_reducible assumption) | exact in_cls hw (by with_reducible assumption) | exact in_ifc hw (by with_reducible assumption) | exact in_ext hw (by with_reducible assumption) | exact in_eq0 (by with_reducible assumption) | exact hfd (by with_reducible assumption) | exact in_rcv hw (by with_reducible assumption) (Or.inl (by with_reducible assumption)) | exact in_rcv hw (by with_reducible assumption) (Or.inr (by with_reducible assumption))) (by first | with_reducible assumption | exact in_name (by with_reducible assumption) | exact in4_4 (by with_reducible assumption) | exact in4_5 (by with_reducible assumption) | exact in4_6 (by with_reducible assumption) | exact in4_7 (by with_reducible assumption))
  refine va_calli (va_runV (As := [.int p1, .int p3]) (rest := []) ⟨hx, hb, hml, hown, hts⟩ (c_M_accessOf l dC dI km qm s.heap.size v.2.2  p1 p3 hq_1) (cwV 2 hts k_g17 rfl rfl rfl (by decide +kernel) ⟨Nat.le_of_ble_eq_true rfl, Nat.le_of_ble_eq_true rfl⟩) ⟨fb_ro, va_recv hK hP (ci := 1) (q0 := 14) rfl rfl, fun U hU hW => ⟨rfl, by rw [hU], by rw [hU]; exact hP.sub (ws' := (wM km qm v.2.2)) [14, 15, 16, 17, 18, 19] rfl, va_K.moved hW.alike (hK.sub (tys' := (tM km)) [11, 12, 13, 14, 15] rfl), NX.warm hW hN⟩⟩ rfl rfl hl.1 rfl (lv_room (Nat.le_of_ble_eq_true rfl)) d_O_overridesAtOnce_6 ⟨Nat.zero_le _, Nat.zero_le _⟩) hS (fun z h1 h2 => absurd h1 (Nat.not_lt.mpr h2)) (fun z h => hA z (Nat.le_trans hS.1 h)) (fun r u t H1 locs ht hvm hpo hB hz1 hk1 hS => ?_)
  subst hpo
  have hP := kp_P hP hk1
  generalize H1 = H at hP hS ⊢
  refine lv_if_ne (tgt := 14) hx hb d_O_overridesAtOnce_9 (by decide) (fun c_2 => ?_) (fun c_2 => ?_)
  · have c_2 : ¬ ((f_M_accessOf v.2.2 p1 p3) = (0 : Int32)) := c_2
    refine lv_aload_n hx hb d_O_overridesAtOnce_14 rfl (lv_at hl 0 rfl) ?_
    refine va_get (D := (dC, dI)) (ci := 2) (v := .ref (qm 0)) (C := R_O) (T := F_O) (N := 4) hx hb hts i_O hown hK hP 0 rfl rfl 2 (by decide) (hts _ k_23) (fun _ h9 => h9) rfl d_O_overridesAtOnce_15 ?_
    refine lv_iload_n hx hb d_O_overridesAtOnce_18 rfl (lv_at hl 2 rfl) ?_
    refine lv_iload_n hx hb d_O_overridesAtOnce_19 rfl (lv_at hl 3 rfl) ?_
    have hq_3 : vp_in ((p2 * (4 : Int32)) + p3) 52 := by first | with_reducible assumption | exact in_52 (by first | with_reducible assumption | exact in_has hw (by with_reducible assumption) | exact in_cls hw (by with_reducible assumption) | exact in_ifc hw (by with_reducible assumption) | exact in_ext hw (by with_reducible assumption) | exact in_eq0 (by with_reducible assumption) | exact hfd (by with_reducible assumption) | exact in_rcv hw (by with_reducible assumption) (Or.inl (by with_reducible assumption)) | exact in_rcv hw (by with_reducible assumption) (Or.inr (by with_reducible assumption))) (by first | with_reducible assumption | exact in_name (by with_reducible assumption) | exact in4_4 (by with_reducible assumption) | exact in4_5 (by with_reducible assumption) | exact in4_6 (by with_reducible assumption) | exact in4_7 (by with_reducible assumption))
    refine va_calli (va_runV (As := [.int p2, .int p3]) (rest := []) ⟨hx, hb, hml, hown, hts⟩ (c_M_accessOf l dC dI km qm H.size v.2.2  p2 p3 hq_3) (cwV 2 hts k_g17 rfl rfl rfl (by decide +kernel) ⟨Nat.le_of_ble_eq_true rfl, Nat.le_of_ble_eq_true rfl⟩) ⟨fb_ro, va_recv hK hP (ci := 1) (q0 := 14) rfl rfl, fun U hU hW => ⟨rfl, by rw [hU], by rw [hU]; exact hP.sub (ws' := (wM km qm v.2.2)) [14, 15, 16, 17, 18, 19] rfl, va_K.moved hW.alike (hK.sub (tys' := (tM km)) [11, 12, 13, 14, 15] rfl), NX.warm hW hN⟩⟩ rfl rfl hl.1 rfl (lv_room (Nat.le_of_ble_eq_true rfl)) d_O_overridesAtOnce_20 ⟨Nat.zero_le _, Nat.zero_le _⟩) hS (fun z h1 h2 => absurd h1 (Nat.not_lt.mpr h2)) (fun z h => hA z (Nat.le_trans hS.1 h)) (fun r u t H1 locs ht hvm hpo hB hz1 hk1 hS => ?_)
    subst hpo
    have hP := kp_P hP hk1
    generalize H1 = H at hP hS ⊢
    by_cases c_4 : (f_M_accessOf v.2.2 p2 p3) = (1 : Int32)
    · refine lv_tableIn (tgt := 50) (off := 27) hx hb d_O_overridesAtOnce_23 (by rw [c_4]; decide +kernel) (by rw [c_4]; decide +kernel) (by rw [c_4]; rfl) (by decide) ?_
      refine lv_aload_n hx hb d_O_overridesAtOnce_50 rfl (lv_at hl 0 rfl) ?_
      refine va_get (D := (dC, dI)) (ci := 2) (v := .ref (qw 0)) (C := R_O) (T := F_O) (N := 4) hx hb hts i_O hown hK hP 0 rfl rfl 0 (by decide) (hts _ k_22) (fun _ h9 => h9) rfl d_O_overridesAtOnce_51 ?_
      refine lv_iload_n hx hb d_O_overridesAtOnce_54 rfl (lv_at hl 1 rfl) ?_
      refine lv_iload_n hx hb d_O_overridesAtOnce_55 rfl (lv_at hl 2 rfl) ?_
      have hq_5 : vp_in p1 13 := by first | with_reducible assumption | exact in_has hw (by with_reducible assumption) | exact in_cls hw (by with_reducible assumption) | exact in_ifc hw (by with_reducible assumption) | exact in_ext hw (by with_reducible assumption) | exact in_eq0 (by with_reducible assumption) | exact hfd (by with_reducible assumption) | exact in_rcv hw (by with_reducible assumption) (Or.inl (by with_reducible assumption)) | exact in_rcv hw (by with_reducible assumption) (Or.inr (by with_reducible assumption))
      have hq_6 : vp_in p2 13 := by first | with_reducible assumption | exact in_has hw (by with_reducible assumption) | exact in_cls hw (by with_reducible assumption) | exact in_ifc hw (by with_reducible assumption) | exact in_ext hw (by with_reducible assumption) | exact in_eq0 (by with_reducible assumption) | exact hfd (by with_reducible assumption) | exact in_rcv hw (by with_reducible assumption) (Or.inl (by with_reducible assumption)) | exact in_rcv hw (by with_reducible assumption) (Or.inr (by with_reducible assumption))
      refine va_calli (va_runV (As := [.int p1, .int p2]) (rest := []) ⟨hx, hb, hml, hown, hts⟩ (c_W_samePackage l dC dI kw qw H.size v.1  p1 p2 hq_5 hq_6) (cwV 2 hts k_g18 rfl rfl rfl (by decide +kernel) ⟨Nat.le_of_ble_eq_true rfl, Nat.le_of_ble_eq_true rfl⟩) ⟨fb_ro, va_recv hK hP (ci := 0) (q0 := 1) rfl rfl, fun U hU hW => ⟨rfl, by rw [hU], by rw [hU]; exact hP.sub (ws' := (wW kw qw v.1)) [1, 2, 3, 4, 5, 6, 7] rfl, va_K.moved hW.alike (hK.sub (tys' := (tW kw)) [0, 1, 2, 3, 4, 5] rfl), NX.warm hW hN⟩⟩ rfl rfl hl.1 rfl (lv_room (Nat.le_of_ble_eq_true rfl)) d_O_overridesAtOnce_56 ⟨Nat.zero_le _, Nat.zero_le _⟩) hS (fun z h1 h2 => absurd h1 (Nat.not_lt.mpr h2)) (fun z h => hA z (Nat.le_trans hS.1 h)) (fun r u t H1 locs ht hvm hpo hB hz1 hk1 hS => ?_)
      subst hpo
      have hP := kp_P hP hk1
      generalize H1 = H at hP hS ⊢
      exact W.zret (v := (f_W_samePackage v.1 p1 p2)) hx hb hr (z_W_samePackage) (fun t ht hW => ⟨⟨(f_W_samePackage v.1 p1 p2), (), rfl, by unfold f_O_overridesAtOnce; rw [if_neg c_2, if_pos c_4], trivial⟩, hS.F ht⟩) hS.2.2 d_O_overridesAtOnce_59
    · skip
      by_cases c_7 : (f_M_accessOf v.2.2 p2 p3) = (2 : Int32)
      · refine lv_tableIn (tgt := 48) (off := 25) hx hb d_O_overridesAtOnce_23 (by rw [c_7]; decide +kernel) (by rw [c_7]; decide +kernel) (by rw [c_7]; rfl) (by decide) ?_
        refine lv_iconst (v := (1 : Int32)) hx hb d_O_overridesAtOnce_48 (by decide +kernel) ?_
        exact W.zret (v := (1 : Int32)) hx hb hr (by decide +kernel) (fun t ht hW => ⟨⟨(1 : Int32), (), rfl, by unfold f_O_overridesAtOnce; rw [if_neg c_2, if_neg c_4, if_pos c_7], trivial⟩, hS.F ht⟩) hS.2.2 d_O_overridesAtOnce_49
      · skip
        by_cases c_8 : (f_M_accessOf v.2.2 p2 p3) = (3 : Int32)
        · refine lv_tableIn (tgt := 48) (off := 25) hx hb d_O_overridesAtOnce_23 (by rw [c_8]; decide +kernel) (by rw [c_8]; decide +kernel) (by rw [c_8]; rfl) (by decide) ?_
          refine lv_iconst (v := (1 : Int32)) hx hb d_O_overridesAtOnce_48 (by decide +kernel) ?_
          exact W.zret (v := (1 : Int32)) hx hb hr (by decide +kernel) (fun t ht hW => ⟨⟨(1 : Int32), (), rfl, by unfold f_O_overridesAtOnce; rw [if_neg c_2, if_neg c_4, if_neg c_7, if_pos c_8], trivial⟩, hS.F ht⟩) hS.2.2 d_O_overridesAtOnce_49
        · skip
          refine lv_tableOut (tgt := 60) hx hb d_O_overridesAtOnce_23 (by have z0 := ne_ti (z := 1) c_4 rfl; have z1 := ne_ti (z := 2) c_7 rfl; have z2 := ne_ti (z := 3) c_8 rfl; omega) (by decide) ?_
          refine lv_iconst (v := (0 : Int32)) hx hb d_O_overridesAtOnce_60 (by decide +kernel) ?_
          exact W.zret (v := (0 : Int32)) hx hb hr (by decide +kernel) (fun t ht hW => ⟨⟨(0 : Int32), (), rfl, by unfold f_O_overridesAtOnce; rw [if_neg c_2, if_neg c_4, if_neg c_7, if_neg c_8], trivial⟩, hS.F ht⟩) hS.2.2 d_O_overridesAtOnce_61
  · have c_2 : (f_M_accessOf v.2.2 p1 p3) = (0 : Int32) := c_2
    refine lv_iconst (v := (0 : Int32)) hx hb d_O_overridesAtOnce_12 (by decide +kernel) ?_
    exact W.zret (v := (0 : Int32)) hx hb hr (by decide +kernel) (fun t ht hW => ⟨⟨(0 : Int32), (), rfl, by unfold f_O_overridesAtOnce; rw [if_pos c_2], trivial⟩, hS.F ht⟩) hS.2.2 d_O_overridesAtOnce_13
end
section
set_option maxHeartbeats 4000000 in
set_option maxRecDepth 100000 in
theorem c_O_overridesOneOf (l : Launch) (dC : Nat → ClassId) (dI : Nat → Nat → Nat) (h0 : Nat) (kw kf km : Nat → ClassId) (qw qf qm : Nat → Nat) (sz : Nat) (v : ES) (lc : Int32) (p1 p2 p3 : Int32) (hp1 : vp_in p1 13) (hp3 : vp_in p3 4) : Met l y_O_overridesOneOf w_O_overridesOneOf ({ frames := 2, cells := 0, slots := 0, locals := 45 } : Room) (ro_P dC dI (wO h0 kw kf km qw qf qm v lc) (tO kw kf km) sz [.ref h0, .int p1, .int p2, .int p3]) (ro_Q sz (f_O_overridesOneOf v p1 p2 p3)) 0 0 (fun z => sz ≤ z) := by
  refine Met.ofW (cc := b_O_overridesOneOf) (maxL := 5) (ret := (some .boolean)) (by decide) rfl ?_
  intro p e s m args below meth c s₁ B hml hv
  obtain ⟨rfl, hsz, hP, hK, hN⟩ := hv
  have hx := B.exec
  have hb := B.bytes
  have hr := B.returns
  have hts := tl_of (atoms_spec (ws := w_O_overridesOneOf) B.pre)
  have hown : s.vm.findClass R_O = some m.cls := findClass_of_methodNamed B.named
  have hlocks := B.notSynchronized
  subst hsz
  have hA : ∀ z : Nat, s.heap.size ≤ z → (fun z : Nat => s.heap.size ≤ z) z := fun _ h => h
  have hS : va_S (fun z : Nat => s.heap.size ≤ z) s.heap s.heap [] := va_S.rf
  have hl := lv_entry ([.ref h0, .int p1, .int p2, .int p3]) (n := 5) (Nat.le_of_ble_eq_true rfl)
  rw [lg_entry_eq]
  generalize (lg_sl ([.ref h0, .int p1, .int p2, .int p3]) ++ List.replicate (5 - (lg_sl ([.ref h0, .int p1, .int p2, .int p3])).length) Slot.unset).toArray = ls at hl ⊢
  have hl : lv_has ls 5 [(0, .ref h0), (1, .int p1), (2, .int p2), (3, .int p3)] := hl
  refine lv_iconst (v := (1 : Int32)) hx hb d_O_overridesOneOf_0 (by decide +kernel) ?_
  refine lv_istore (lv' := [(4, .int (1 : Int32)), (0, .ref h0), (1, .int p1), (2, .int p2), (3, .int p3)]) hx hb d_O_overridesOneOf_1 hl (by decide) rfl (fun ls hl => ?_)
  have LOOP : ∀ (n k : Nat) (x4 : Int32) (H : Heap) (locs : List Loc) (ls : Array Slot), x4 = nI k → 14 ≤ k + n → k ≤ 13 → lr_O_overridesOneOf v p1 p2 p3 n x4 = (f_O_overridesOneOf v p1 p2 p3) → va_P (dC, dI) classes (wO h0 kw kf km qw qf qm v lc) H → va_S (fun z : Nat => s.heap.size ≤ z) s.heap H locs → lv_has ls 5 [(4, .int x4), (0, .ref h0), (1, .int p1), (2, .int p2), (3, .int p3)] → W p l e (headSpec w_O_overridesOneOf ({ frames := 2, cells := 0, slots := 0, locals := 45 } : Room)).room s m ([.ref h0, .int p1, .int p2, .int p3] : List Value).toArray below meth c H locs 0 0 (MQ below (ro_Q s.heap.size (f_O_overridesOneOf v p1 p2 p3)) ([.ref h0, .int p1, .int p2, .int p3] : List Value).toArray s 0 0 (fun z => s.heap.size ≤ z)) (F0 m 3 ls []) := by
    intro n
    induction n with
    | zero =>
      intro k x4 H locs ls et h1 h2
      exfalso; omega
    | succ n ih =>
      intro k x4 H locs ls et h1 h2 hF hP hS hl
      refine lv_iload hx hb d_O_overridesOneOf_3 (lv_at hl 0 rfl) ?_
      refine lv_iload_n hx hb d_O_overridesOneOf_5 rfl (lv_at hl 2 rfl) ?_
      refine lv_icmp_ge (tgt := 37) hx hb d_O_overridesOneOf_6 (by decide) (fun c_1 => ?_) (fun c_1 => ?_)
      · have c_1 : p1 ≤ x4 := c_1
        refine lv_iconst (v := (0 : Int32)) hx hb d_O_overridesOneOf_37 (by decide +kernel) ?_
        exact W.zret (v := (0 : Int32)) hx hb hr (by decide +kernel) (fun t ht hW => ⟨⟨(0 : Int32), (), rfl, by rw [← hF, lr_O_overridesOneOf_s, if_pos c_1], trivial⟩, hS.F ht⟩) hS.2.2 d_O_overridesOneOf_38
      · have c_1 : ¬ (p1 ≤ x4) := c_1
        refine lv_iload_n hx hb d_O_overridesOneOf_9 rfl (lv_at hl 3 rfl) ?_
        refine lv_iload hx hb d_O_overridesOneOf_10 (lv_at hl 0 rfl) ?_
        refine va_calli (va_runS (As := [.int p2, .int x4]) (rest := []) ⟨hx, hb, hml, hown, hts⟩ (c_O_holds l dC dI  H.size   p2 x4) (cwS 2 hts k_g0 rfl rfl rfl (by decide +kernel) ⟨Nat.le_of_ble_eq_true rfl, Nat.le_of_ble_eq_true rfl⟩) ⟨fb_ro, fun U hU hW => ⟨rfl, by rw [hU], by rw [hU]; exact hP.sub (ws' := ([] : va_W)) [] rfl, va_K.moved hW.alike (hK.sub (tys' := []) [] rfl), NX.warm hW hN⟩⟩ rfl rfl hl.1 rfl (lv_room (Nat.le_of_ble_eq_true rfl)) d_O_overridesOneOf_12 ⟨Nat.zero_le _, Nat.zero_le _⟩) hS (fun z h1 h2 => absurd h1 (Nat.not_lt.mpr h2)) (fun z h => hA z (Nat.le_trans hS.1 h)) (fun r u t H1 locs ht hvm hpo hB hz1 hk1 hS => ?_)
        subst hpo
        have hP := kp_P hP hk1
        generalize H1 = H at hP hS ⊢
        refine lv_if_eq (tgt := 31) hx hb d_O_overridesOneOf_15 (by decide) (fun c_2 => ?_) (fun c_2 => ?_)
        · have c_2 : (f_O_holds p2 x4) = (0 : Int32) := c_2
          refine lv_iinc (v := (x4 + (1 : Int32))) (lv' := [(4, .int (x4 + (1 : Int32))), (0, .ref h0), (1, .int p1), (2, .int p2), (3, .int p3)]) hx hb d_O_overridesOneOf_31 hl (k := 0) rfl (by rw [of_p1]) (by decide) rfl (fun ls hl => ?_)
          refine lv_goto (tgt := 3) hx hb d_O_overridesOneOf_34 (by decide) ?_
          exact ih (k + 1) (x4 + (1 : Int32)) _ _ _ (by rw [et]; exact nI_1 k) (by omega) (by first | exact Nat.succ_le_succ (le12 et h2 (by with_reducible assumption)) | exact Nat.succ_le_succ (lt12 et h2 (by with_reducible assumption)) | exact Nat.succ_le_succ (leCnt hw et h2 (by with_reducible assumption)) | exact Nat.succ_le_succ (Nat.le_trans (Nat.le_of_lt (ltDc hw et h2 (by with_reducible assumption) (by with_reducible assumption))) (by decide)) | exact Nat.succ_le_succ (lePar et h2 (by with_reducible assumption) (by with_reducible assumption)) | exact Nat.succ_le_succ (ltPar et h2 (by with_reducible assumption) (by with_reducible assumption))) (by rw [← hF, lr_O_overridesOneOf_s, if_neg c_1, if_pos c_2]) hP hS (lv_sub hl [0, 1, 2, 3, 4] rfl)
        · have c_2 : ¬ ((f_O_holds p2 x4) = (0 : Int32)) := c_2
          refine lv_aload_n hx hb d_O_overridesOneOf_18 rfl (lv_at hl 1 rfl) ?_
          refine lv_iload_n hx hb d_O_overridesOneOf_19 rfl (lv_at hl 2 rfl) ?_
          refine lv_iload hx hb d_O_overridesOneOf_20 (lv_at hl 0 rfl) ?_
          refine lv_iload_n hx hb d_O_overridesOneOf_22 rfl (lv_at hl 4 rfl) ?_
          have hq_3 : vp_in p1 13 := by first | with_reducible assumption | exact in_has hw (by with_reducible assumption) | exact in_cls hw (by with_reducible assumption) | exact in_ifc hw (by with_reducible assumption) | exact in_ext hw (by with_reducible assumption) | exact in_eq0 (by with_reducible assumption) | exact hfd (by with_reducible assumption) | exact in_rcv hw (by with_reducible assumption) (Or.inl (by with_reducible assumption)) | exact in_rcv hw (by with_reducible assumption) (Or.inr (by with_reducible assumption))
          have hq_4 : vp_in x4 13 := by first | with_reducible assumption | exact in_et et (le12 et h2 (by with_reducible assumption)) | exact in_et et (lt12 et h2 (by with_reducible assumption)) | exact in_et et (leCnt hw et h2 (by with_reducible assumption)) | exact in_et et (lePar et h2 (by with_reducible assumption) (by with_reducible assumption)) | exact in_et et (ltPar et h2 (by with_reducible assumption) (by with_reducible assumption)) | exact in_et et h2
          have hq_5 : vp_in p3 4 := by first | with_reducible assumption | exact in_name (by with_reducible assumption) | exact in4_4 (by with_reducible assumption) | exact in4_5 (by with_reducible assumption) | exact in4_6 (by with_reducible assumption) | exact in4_7 (by with_reducible assumption)
          refine va_calli (va_runV (As := [.int p1, .int x4, .int p3]) (rest := []) ⟨hx, hb, hml, hown, hts⟩ (c_O_overridesAtOnce l dC dI h0 kw kf km qw qf qm H.size v lc p1 x4 p3 hq_3 hq_4 hq_5) (cwV 3 hts k_g19 rfl rfl rfl (by decide +kernel) ⟨Nat.le_of_ble_eq_true rfl, Nat.le_of_ble_eq_true rfl⟩) ⟨fb_ro, va_recv hK hP (ci := 2) (q0 := 0) rfl rfl, fun U hU hW => ⟨rfl, by rw [hU], by rw [hU]; exact hP.sub (ws' := (wO h0 kw kf km qw qf qm v lc)) [0, 1, 2, 3, 4, 5, 6, 7, 8, 9, 10, 11, 12, 13, 14, 15, 16, 17, 18, 19] rfl, va_K.moved hW.alike (hK.sub (tys' := (tO kw kf km)) [0, 1, 2, 3, 4, 5, 6, 7, 8, 9, 10, 11, 12, 13, 14, 15] rfl), NX.warm hW hN⟩⟩ rfl rfl hl.1 rfl (lv_room (Nat.le_of_ble_eq_true rfl)) d_O_overridesOneOf_23 ⟨Nat.zero_le _, Nat.zero_le _⟩) hS (fun z h1 h2 => absurd h1 (Nat.not_lt.mpr h2)) (fun z h => hA z (Nat.le_trans hS.1 h)) (fun r u t H1 locs ht hvm hpo hB hz1 hk1 hS => ?_)
          subst hpo
          have hP := kp_P hP hk1
          generalize H1 = H at hP hS ⊢
          refine lv_if_eq (tgt := 31) hx hb d_O_overridesOneOf_26 (by decide) (fun c_6 => ?_) (fun c_6 => ?_)
          · have c_6 : (f_O_overridesAtOnce v p1 x4 p3) = (0 : Int32) := c_6
            refine lv_iinc (v := (x4 + (1 : Int32))) (lv' := [(4, .int (x4 + (1 : Int32))), (0, .ref h0), (1, .int p1), (2, .int p2), (3, .int p3)]) hx hb d_O_overridesOneOf_31 hl (k := 0) rfl (by rw [of_p1]) (by decide) rfl (fun ls hl => ?_)
            refine lv_goto (tgt := 3) hx hb d_O_overridesOneOf_34 (by decide) ?_
            exact ih (k + 1) (x4 + (1 : Int32)) _ _ _ (by rw [et]; exact nI_1 k) (by omega) (by first | exact Nat.succ_le_succ (le12 et h2 (by with_reducible assumption)) | exact Nat.succ_le_succ (lt12 et h2 (by with_reducible assumption)) | exact Nat.succ_le_succ (leCnt hw et h2 (by with_reducible assumption)) | exact Nat.succ_le_succ (Nat.le_trans (Nat.le_of_lt (ltDc hw et h2 (by with_reducible assumption) (by with_reducible assumption))) (by decide)) | exact Nat.succ_le_succ (lePar et h2 (by with_reducible assumption) (by with_reducible assumption)) | exact Nat.succ_le_succ (ltPar et h2 (by with_reducible assumption) (by with_reducible assumption))) (by rw [← hF, lr_O_overridesOneOf_s, if_neg c_1, if_neg c_2, if_pos c_6]) hP hS (lv_sub hl [0, 1, 2, 3, 4] rfl)
          · have c_6 : ¬ ((f_O_overridesAtOnce v p1 x4 p3) = (0 : Int32)) := c_6
            refine lv_iconst (v := (1 : Int32)) hx hb d_O_overridesOneOf_29 (by decide +kernel) ?_
            exact W.zret (v := (1 : Int32)) hx hb hr (by decide +kernel) (fun t ht hW => ⟨⟨(1 : Int32), (), rfl, by rw [← hF, lr_O_overridesOneOf_s, if_neg c_1, if_neg c_2, if_neg c_6], trivial⟩, hS.F ht⟩) hS.2.2 d_O_overridesOneOf_30
  exact LOOP 14 1 (1 : Int32) _ _ _ (rfl) (by omega) (by omega) (rfl) hP hS (lv_sub hl [0, 1, 2, 3, 4] rfl)
end
section
set_option maxHeartbeats 4000000 in
set_option maxRecDepth 100000 in
theorem c_O_canOverride (l : Launch) (dC : Nat → ClassId) (dI : Nat → Nat → Nat) (h0 : Nat) (kw kf km : Nat → ClassId) (qw qf qm : Nat → Nat) (sz : Nat) (v : ES) (lc : Int32) (p1 p2 p3 : Int32) (hw : WF v.1) (hp1 : vp_in p1 13) (hp2 : vp_in p2 13) (hp3 : vp_in p3 4) : Met l y_O_canOverride w_O_canOverride ({ frames := 3, cells := 0, slots := 0, locals := 69 } : Room) (ro_P dC dI (wO h0 kw kf km qw qf qm v lc) (tO kw kf km) sz [.ref h0, .int p1, .int p2, .int p3]) (ro_Q sz (f_O_canOverride v p1 p2 p3)) 0 0 (fun z => sz ≤ z) := by
  refine Met.ofW (cc := b_O_canOverride) (maxL := 8) (ret := (some .boolean)) (by decide) rfl ?_
  intro p e s m args below meth c s₁ B hml hv
  obtain ⟨rfl, hsz, hP, hK, hN⟩ := hv
  have hx := B.exec
  have hb := B.bytes
  have hr := B.returns
  have hts := tl_of (atoms_spec (ws := w_O_canOverride) B.pre)
  have hown : s.vm.findClass R_O = some m.cls := findClass_of_methodNamed B.named
  have hlocks := B.notSynchronized
  subst hsz
  have hA : ∀ z : Nat, s.heap.size ≤ z → (fun z : Nat => s.heap.size ≤ z) z := fun _ h => h
  have hS : va_S (fun z : Nat => s.heap.size ≤ z) s.heap s.heap [] := va_S.rf
  have hl := lv_entry ([.ref h0, .int p1, .int p2, .int p3]) (n := 8) (Nat.le_of_ble_eq_true rfl)
  rw [lg_entry_eq]
  generalize (lg_sl ([.ref h0, .int p1, .int p2, .int p3]) ++ List.replicate (8 - (lg_sl ([.ref h0, .int p1, .int p2, .int p3])).length) Slot.unset).toArray = ls at hl ⊢
  have hl : lv_has ls 8 [(0, .ref h0), (1, .int p1), (2, .int p2), (3, .int p3)] := hl
  refine lv_aload_n hx hb d_O_canOverride_0 rfl (lv_at hl 0 rfl) ?_
  refine va_get (D := (dC, dI)) (ci := 2) (v := .ref (qm 0)) (C := R_O) (T := F_O) (N := 4) hx hb hts i_O hown hK hP 0 rfl rfl 2 (by decide) (hts _ k_23) (fun _ h9 => h9) rfl d_O_canOverride_1 ?_
  refine lv_iload_n hx hb d_O_canOverride_4 rfl (lv_at hl 3 rfl) ?_
  have hq_1 : vp_in p3 4 := by first | with_reducible assumption | exact in_name (by with_reducible assumption) | exact in4_4 (by with_reducible assumption) | exact in4_5 (by with_reducible assumption) | exact in4_6 (by with_reducible assumption) | exact in4_7 (by with_reducible assumption)
  refine va_calli (va_runV (As := [.int p3]) (rest := []) ⟨hx, hb, hml, hown, hts⟩ (c_M_instances l dC dI km qm s.heap.size v.2.2  p3 hq_1) (cwV 1 hts k_g20 rfl rfl rfl (by decide +kernel) ⟨Nat.le_of_ble_eq_true rfl, Nat.le_of_ble_eq_true rfl⟩) ⟨fb_ro, va_recv hK hP (ci := 1) (q0 := 14) rfl rfl, fun U hU hW => ⟨rfl, by rw [hU], by rw [hU]; exact hP.sub (ws' := (wM km qm v.2.2)) [14, 15, 16, 17, 18, 19] rfl, va_K.moved hW.alike (hK.sub (tys' := (tM km)) [11, 12, 13, 14, 15] rfl), NX.warm hW hN⟩⟩ rfl rfl hl.1 rfl (lv_room (Nat.le_of_ble_eq_true rfl)) d_O_canOverride_5 ⟨Nat.zero_le _, Nat.zero_le _⟩) hS (fun z h1 h2 => absurd h1 (Nat.not_lt.mpr h2)) (fun z h => hA z (Nat.le_trans hS.1 h)) (fun r u t H1 locs ht hvm hpo hB hz1 hk1 hS => ?_)
  subst hpo
  have hP := kp_P hP hk1
  generalize H1 = H at hP hS ⊢
  refine lv_istore (lv' := [(4, .int (f_M_instances v.2.2 p3)), (0, .ref h0), (1, .int p1), (2, .int p2), (3, .int p3)]) hx hb d_O_canOverride_8 hl (by decide) rfl (fun ls hl => ?_)
  refine lv_iload hx hb d_O_canOverride_10 (lv_at hl 0 rfl) ?_
  refine lv_iload_n hx hb d_O_canOverride_12 rfl (lv_at hl 3 rfl) ?_
  refine va_calli (va_runS (As := [.int (f_M_instances v.2.2 p3), .int p2]) (rest := []) ⟨hx, hb, hml, hown, hts⟩ (c_O_holds l dC dI  H.size   (f_M_instances v.2.2 p3) p2) (cwS 2 hts k_g0 rfl rfl rfl (by decide +kernel) ⟨Nat.le_of_ble_eq_true rfl, Nat.le_of_ble_eq_true rfl⟩) ⟨fb_ro, fun U hU hW => ⟨rfl, by rw [hU], by rw [hU]; exact hP.sub (ws' := ([] : va_W)) [] rfl, va_K.moved hW.alike (hK.sub (tys' := []) [] rfl), NX.warm hW hN⟩⟩ rfl rfl hl.1 rfl (lv_room (Nat.le_of_ble_eq_true rfl)) d_O_canOverride_13 ⟨Nat.zero_le _, Nat.zero_le _⟩) hS (fun z h1 h2 => absurd h1 (Nat.not_lt.mpr h2)) (fun z h => hA z (Nat.le_trans hS.1 h)) (fun r u t H1 locs ht hvm hpo hB hz1 hk1 hS => ?_)
  subst hpo
  have hP := kp_P hP hk1
  generalize H1 = H at hP hS ⊢
  refine lv_if_ne (tgt := 21) hx hb d_O_canOverride_16 (by decide) (fun c_2 => ?_) (fun c_2 => ?_)
  · have c_2 : ¬ ((f_O_holds (f_M_instances v.2.2 p3) p2) = (0 : Int32)) := c_2
    refine lv_aload_n hx hb d_O_canOverride_21 rfl (lv_at hl 1 rfl) ?_
    refine va_get (D := (dC, dI)) (ci := 2) (v := .ref (qw 0)) (C := R_O) (T := F_O) (N := 4) hx hb hts i_O hown hK hP 0 rfl rfl 0 (by decide) (hts _ k_22) (fun _ h9 => h9) rfl d_O_canOverride_22 ?_
    refine lv_iload_n hx hb d_O_canOverride_25 rfl (lv_at hl 2 rfl) ?_
    have hq_3 : vp_in p1 13 := by first | with_reducible assumption | exact in_has hw (by with_reducible assumption) | exact in_cls hw (by with_reducible assumption) | exact in_ifc hw (by with_reducible assumption) | exact in_ext hw (by with_reducible assumption) | exact in_eq0 (by with_reducible assumption) | exact hfd (by with_reducible assumption) | exact in_rcv hw (by with_reducible assumption) (Or.inl (by with_reducible assumption)) | exact in_rcv hw (by with_reducible assumption) (Or.inr (by with_reducible assumption))
    refine va_calli (va_runV (As := [.int p1]) (rest := []) ⟨hx, hb, hml, hown, hts⟩ (c_W_chain l dC dI kw qw H.size v.1  p1 hq_3) (cwV 1 hts k_g21 rfl rfl rfl (by decide +kernel) ⟨Nat.le_of_ble_eq_true rfl, Nat.le_of_ble_eq_true rfl⟩) ⟨fb_ro, va_recv hK hP (ci := 0) (q0 := 1) rfl rfl, fun U hU hW => ⟨rfl, by rw [hU], by rw [hU]; exact hP.sub (ws' := (wW kw qw v.1)) [1, 2, 3, 4, 5, 6, 7] rfl, va_K.moved hW.alike (hK.sub (tys' := (tW kw)) [0, 1, 2, 3, 4, 5] rfl), NX.warm hW hN⟩⟩ rfl rfl hl.1 rfl (lv_room (Nat.le_of_ble_eq_true rfl)) d_O_canOverride_26 ⟨Nat.zero_le _, Nat.zero_le _⟩) hS (fun z h1 h2 => absurd h1 (Nat.not_lt.mpr h2)) (fun z h => hA z (Nat.le_trans hS.1 h)) (fun r u t H1 locs ht hvm hpo hB hz1 hk1 hS => ?_)
    subst hpo
    have hP := kp_P hP hk1
    generalize H1 = H at hP hS ⊢
    refine lv_aload_n hx hb d_O_canOverride_29 rfl (lv_at hl 1 rfl) ?_
    refine va_get (D := (dC, dI)) (ci := 2) (v := .ref (qw 0)) (C := R_O) (T := F_O) (N := 4) hx hb hts i_O hown hK hP 0 rfl rfl 0 (by decide) (hts _ k_22) (fun _ h9 => h9) rfl d_O_canOverride_30 ?_
    refine lv_iload_n hx hb d_O_canOverride_33 rfl (lv_at hl 3 rfl) ?_
    have hq_4 : WF v.1 := by first | with_reducible assumption | exact hw
    have hq_5 : vp_in p2 13 := by first | with_reducible assumption | exact in_has hw (by with_reducible assumption) | exact in_cls hw (by with_reducible assumption) | exact in_ifc hw (by with_reducible assumption) | exact in_ext hw (by with_reducible assumption) | exact in_eq0 (by with_reducible assumption) | exact hfd (by with_reducible assumption) | exact in_rcv hw (by with_reducible assumption) (Or.inl (by with_reducible assumption)) | exact in_rcv hw (by with_reducible assumption) (Or.inr (by with_reducible assumption))
    refine va_calli (va_runV (As := [.int p2]) (rest := [.int (f_W_chain v.1 p1)]) ⟨hx, hb, hml, hown, hts⟩ (c_W_kindsOf l dC dI kw qw H.size v.1  p2 hq_4 hq_5) (cwV 1 hts k_g22 rfl rfl rfl (by decide +kernel) ⟨Nat.le_of_ble_eq_true rfl, Nat.le_of_ble_eq_true rfl⟩) ⟨fb_ro, va_recv hK hP (ci := 0) (q0 := 1) rfl rfl, fun U hU hW => ⟨rfl, by rw [hU], by rw [hU]; exact hP.sub (ws' := (wW kw qw v.1)) [1, 2, 3, 4, 5, 6, 7] rfl, va_K.moved hW.alike (hK.sub (tys' := (tW kw)) [0, 1, 2, 3, 4, 5] rfl), NX.warm hW hN⟩⟩ rfl rfl hl.1 rfl (lv_room (Nat.le_of_ble_eq_true rfl)) d_O_canOverride_34 ⟨Nat.zero_le _, Nat.zero_le _⟩) hS (fun z h1 h2 => absurd h1 (Nat.not_lt.mpr h2)) (fun z h => hA z (Nat.le_trans hS.1 h)) (fun r u t H1 locs ht hvm hpo hB hz1 hk1 hS => ?_)
    subst hpo
    have hP := kp_P hP hk1
    generalize H1 = H at hP hS ⊢
    refine lv_iand hx hb d_O_canOverride_37 ?_
    refine lv_iload hx hb d_O_canOverride_38 (lv_at hl 0 rfl) ?_
    refine lv_iand hx hb d_O_canOverride_40 ?_
    refine lv_istore (lv' := [(5, .int (((f_W_chain v.1 p1) &&& (f_W_kindsOf v.1 p2)) &&& (f_M_instances v.2.2 p3))), (4, .int (f_M_instances v.2.2 p3)), (0, .ref h0), (1, .int p1), (2, .int p2), (3, .int p3)]) hx hb d_O_canOverride_41 hl (by decide) rfl (fun ls hl => ?_)
    refine lv_iconst (v := (1 : Int32)) hx hb d_O_canOverride_43 (by decide +kernel) ?_
    refine lv_iload_n hx hb d_O_canOverride_44 rfl (lv_at hl 4 rfl) ?_
    refine lv_ishl hx hb d_O_canOverride_45 ?_
    refine lv_istore (lv' := [(6, .int ((1 : Int32) <<< (p2 &&& (31 : Int32)))), (5, .int (((f_W_chain v.1 p1) &&& (f_W_kindsOf v.1 p2)) &&& (f_M_instances v.2.2 p3))), (4, .int (f_M_instances v.2.2 p3)), (0, .ref h0), (1, .int p1), (2, .int p2), (3, .int p3)]) hx hb d_O_canOverride_46 hl (by decide) rfl (fun ls hl => ?_)
    refine lv_iload_n hx hb d_O_canOverride_48 rfl (lv_at hl 5 rfl) ?_
    refine lv_iconst (v := (1 : Int32)) hx hb d_O_canOverride_49 (by decide +kernel) ?_
    refine lv_iadd hx hb d_O_canOverride_50 ?_
    refine lv_istore (lv' := [(7, .int (p2 + (1 : Int32))), (6, .int ((1 : Int32) <<< (p2 &&& (31 : Int32)))), (5, .int (((f_W_chain v.1 p1) &&& (f_W_kindsOf v.1 p2)) &&& (f_M_instances v.2.2 p3))), (4, .int (f_M_instances v.2.2 p3)), (0, .ref h0), (1, .int p1), (2, .int p2), (3, .int p3)]) hx hb d_O_canOverride_51 hl (by decide) rfl (fun ls hl => ?_)
    have LOOP : ∀ (n k : Nat) (x6 : Int32) (x7 : Int32) (H : Heap) (locs : List Loc) (ls : Array Slot), x7 = nI k → 14 ≤ k + n → k ≤ 13 → lr_O_canOverride v p1 p2 p3 n x6 x7 = (f_O_canOverride v p1 p2 p3) → va_P (dC, dI) classes (wO h0 kw kf km qw qf qm v lc) H → va_S (fun z : Nat => s.heap.size ≤ z) s.heap H locs → lv_has ls 8 [(6, .int x6), (7, .int x7), (5, .int (((f_W_chain v.1 p1) &&& (f_W_kindsOf v.1 p2)) &&& (f_M_instances v.2.2 p3))), (4, .int (f_M_instances v.2.2 p3)), (0, .ref h0), (1, .int p1), (2, .int p2), (3, .int p3)] → W p l e (headSpec w_O_canOverride ({ frames := 3, cells := 0, slots := 0, locals := 69 } : Room)).room s m ([.ref h0, .int p1, .int p2, .int p3] : List Value).toArray below meth c H locs 0 0 (MQ below (ro_Q s.heap.size (f_O_canOverride v p1 p2 p3)) ([.ref h0, .int p1, .int p2, .int p3] : List Value).toArray s 0 0 (fun z => s.heap.size ≤ z)) (F0 m 53 ls []) := by
      intro n
      induction n with
      | zero =>
        intro k x6 x7 H locs ls et h1 h2
        exfalso; omega
      | succ n ih =>
        intro k x6 x7 H locs ls et h1 h2 hF hP hS hl
        refine lv_iload hx hb d_O_canOverride_53 (lv_at hl 1 rfl) ?_
        refine lv_iload_n hx hb d_O_canOverride_55 rfl (lv_at hl 5 rfl) ?_
        refine lv_icmp_gt (tgt := 96) hx hb d_O_canOverride_56 (by decide) (fun c_6 => ?_) (fun c_6 => ?_)
        · have c_6 : p1 < x7 := c_6
          refine lv_iload hx hb d_O_canOverride_96 (lv_at hl 0 rfl) ?_
          refine lv_iload_n hx hb d_O_canOverride_98 rfl (lv_at hl 5 rfl) ?_
          refine va_calli (va_runS (As := [.int x6, .int p1]) (rest := []) ⟨hx, hb, hml, hown, hts⟩ (c_O_holds l dC dI  H.size   x6 p1) (cwS 2 hts k_g0 rfl rfl rfl (by decide +kernel) ⟨Nat.le_of_ble_eq_true rfl, Nat.le_of_ble_eq_true rfl⟩) ⟨fb_ro, fun U hU hW => ⟨rfl, by rw [hU], by rw [hU]; exact hP.sub (ws' := ([] : va_W)) [] rfl, va_K.moved hW.alike (hK.sub (tys' := []) [] rfl), NX.warm hW hN⟩⟩ rfl rfl hl.1 rfl (lv_room (Nat.le_of_ble_eq_true rfl)) d_O_canOverride_99 ⟨Nat.zero_le _, Nat.zero_le _⟩) hS (fun z h1 h2 => absurd h1 (Nat.not_lt.mpr h2)) (fun z h => hA z (Nat.le_trans hS.1 h)) (fun r u t H1 locs ht hvm hpo hB hz1 hk1 hS => ?_)
          subst hpo
          have hP := kp_P hP hk1
          generalize H1 = H at hP hS ⊢
          exact W.zret (v := (f_O_holds x6 p1)) hx hb hr (z_O_holds) (fun t ht hW => ⟨⟨(f_O_holds x6 p1), (), rfl, by rw [← hF, lr_O_canOverride_s, if_pos c_6], trivial⟩, hS.F ht⟩) hS.2.2 d_O_canOverride_102
        · have c_6 : ¬ (p1 < x7) := c_6
          refine lv_iload hx hb d_O_canOverride_59 (lv_at hl 2 rfl) ?_
          refine lv_iload hx hb d_O_canOverride_61 (lv_at hl 1 rfl) ?_
          refine va_calli (va_runS (As := [.int (((f_W_chain v.1 p1) &&& (f_W_kindsOf v.1 p2)) &&& (f_M_instances v.2.2 p3)), .int x7]) (rest := []) ⟨hx, hb, hml, hown, hts⟩ (c_O_holds l dC dI  H.size   (((f_W_chain v.1 p1) &&& (f_W_kindsOf v.1 p2)) &&& (f_M_instances v.2.2 p3)) x7) (cwS 2 hts k_g0 rfl rfl rfl (by decide +kernel) ⟨Nat.le_of_ble_eq_true rfl, Nat.le_of_ble_eq_true rfl⟩) ⟨fb_ro, fun U hU hW => ⟨rfl, by rw [hU], by rw [hU]; exact hP.sub (ws' := ([] : va_W)) [] rfl, va_K.moved hW.alike (hK.sub (tys' := []) [] rfl), NX.warm hW hN⟩⟩ rfl rfl hl.1 rfl (lv_room (Nat.le_of_ble_eq_true rfl)) d_O_canOverride_63 ⟨Nat.zero_le _, Nat.zero_le _⟩) hS (fun z h1 h2 => absurd h1 (Nat.not_lt.mpr h2)) (fun z h => hA z (Nat.le_trans hS.1 h)) (fun r u t H1 locs ht hvm hpo hB hz1 hk1 hS => ?_)
          subst hpo
          have hP := kp_P hP hk1
          generalize H1 = H at hP hS ⊢
          refine lv_if_eq (tgt := 90) hx hb d_O_canOverride_66 (by decide) (fun c_7 => ?_) (fun c_7 => ?_)
          · have c_7 : (f_O_holds (((f_W_chain v.1 p1) &&& (f_W_kindsOf v.1 p2)) &&& (f_M_instances v.2.2 p3)) x7) = (0 : Int32) := c_7
            refine lv_iinc (v := (x7 + (1 : Int32))) (lv' := [(7, .int (x7 + (1 : Int32))), (6, .int x6), (5, .int (((f_W_chain v.1 p1) &&& (f_W_kindsOf v.1 p2)) &&& (f_M_instances v.2.2 p3))), (4, .int (f_M_instances v.2.2 p3)), (0, .ref h0), (1, .int p1), (2, .int p2), (3, .int p3)]) hx hb d_O_canOverride_90 hl (k := 1) rfl (by rw [of_p1]) (by decide) rfl (fun ls hl => ?_)
            refine lv_goto (tgt := 53) hx hb d_O_canOverride_93 (by decide) ?_
            exact ih (k + 1) x6 (x7 + (1 : Int32)) _ _ _ (by rw [et]; exact nI_1 k) (by omega) (by first | exact Nat.succ_le_succ (le12 et h2 (by with_reducible assumption)) | exact Nat.succ_le_succ (lt12 et h2 (by with_reducible assumption)) | exact Nat.succ_le_succ (leCnt hw et h2 (by with_reducible assumption)) | exact Nat.succ_le_succ (Nat.le_trans (Nat.le_of_lt (ltDc hw et h2 (by with_reducible assumption) (by with_reducible assumption))) (by decide)) | exact Nat.succ_le_succ (lePar et h2 (by with_reducible assumption) (by with_reducible assumption)) | exact Nat.succ_le_succ (ltPar et h2 (by with_reducible assumption) (by with_reducible assumption))) (by rw [← hF, lr_O_canOverride_s, if_neg c_6, if_pos c_7]) hP hS (lv_sub hl [1, 0, 2, 3, 4, 5, 6, 7] rfl)
          · have c_7 : ¬ ((f_O_holds (((f_W_chain v.1 p1) &&& (f_W_kindsOf v.1 p2)) &&& (f_M_instances v.2.2 p3)) x7) = (0 : Int32)) := c_7
            refine lv_aload_n hx hb d_O_canOverride_69 rfl (lv_at hl 4 rfl) ?_
            refine lv_iload hx hb d_O_canOverride_70 (lv_at hl 1 rfl) ?_
            refine lv_iload hx hb d_O_canOverride_72 (lv_at hl 0 rfl) ?_
            refine lv_iload_n hx hb d_O_canOverride_74 rfl (lv_at hl 7 rfl) ?_
            have hq_8 : vp_in x7 13 := by first | with_reducible assumption | exact in_et et (le12 et h2 (by with_reducible assumption)) | exact in_et et (lt12 et h2 (by with_reducible assumption)) | exact in_et et (leCnt hw et h2 (by with_reducible assumption)) | exact in_et et (lePar et h2 (by with_reducible assumption) (by with_reducible assumption)) | exact in_et et (ltPar et h2 (by with_reducible assumption) (by with_reducible assumption)) | exact in_et et h2
            have hq_9 : vp_in p3 4 := by first | with_reducible assumption | exact in_name (by with_reducible assumption) | exact in4_4 (by with_reducible assumption) | exact in4_5 (by with_reducible assumption) | exact in4_6 (by with_reducible assumption) | exact in4_7 (by with_reducible assumption)
            refine va_calli (va_runV (As := [.int x7, .int x6, .int p3]) (rest := []) ⟨hx, hb, hml, hown, hts⟩ (c_O_overridesOneOf l dC dI h0 kw kf km qw qf qm H.size v lc x7 x6 p3 hq_8 hq_9) (cwV 3 hts k_g23 rfl rfl rfl (by decide +kernel) ⟨Nat.le_of_ble_eq_true rfl, Nat.le_of_ble_eq_true rfl⟩) ⟨fb_ro, va_recv hK hP (ci := 2) (q0 := 0) rfl rfl, fun U hU hW => ⟨rfl, by rw [hU], by rw [hU]; exact hP.sub (ws' := (wO h0 kw kf km qw qf qm v lc)) [0, 1, 2, 3, 4, 5, 6, 7, 8, 9, 10, 11, 12, 13, 14, 15, 16, 17, 18, 19] rfl, va_K.moved hW.alike (hK.sub (tys' := (tO kw kf km)) [0, 1, 2, 3, 4, 5, 6, 7, 8, 9, 10, 11, 12, 13, 14, 15] rfl), NX.warm hW hN⟩⟩ rfl rfl hl.1 rfl (lv_room (Nat.le_of_ble_eq_true rfl)) d_O_canOverride_75 ⟨Nat.zero_le _, Nat.zero_le _⟩) hS (fun z h1 h2 => absurd h1 (Nat.not_lt.mpr h2)) (fun z h => hA z (Nat.le_trans hS.1 h)) (fun r u t H1 locs ht hvm hpo hB hz1 hk1 hS => ?_)
            subst hpo
            have hP := kp_P hP hk1
            generalize H1 = H at hP hS ⊢
            refine lv_if_eq (tgt := 90) hx hb d_O_canOverride_78 (by decide) (fun c_10 => ?_) (fun c_10 => ?_)
            · have c_10 : (f_O_overridesOneOf v x7 x6 p3) = (0 : Int32) := c_10
              refine lv_iinc (v := (x7 + (1 : Int32))) (lv' := [(7, .int (x7 + (1 : Int32))), (6, .int x6), (5, .int (((f_W_chain v.1 p1) &&& (f_W_kindsOf v.1 p2)) &&& (f_M_instances v.2.2 p3))), (4, .int (f_M_instances v.2.2 p3)), (0, .ref h0), (1, .int p1), (2, .int p2), (3, .int p3)]) hx hb d_O_canOverride_90 hl (k := 1) rfl (by rw [of_p1]) (by decide) rfl (fun ls hl => ?_)
              refine lv_goto (tgt := 53) hx hb d_O_canOverride_93 (by decide) ?_
              exact ih (k + 1) x6 (x7 + (1 : Int32)) _ _ _ (by rw [et]; exact nI_1 k) (by omega) (by first | exact Nat.succ_le_succ (le12 et h2 (by with_reducible assumption)) | exact Nat.succ_le_succ (lt12 et h2 (by with_reducible assumption)) | exact Nat.succ_le_succ (leCnt hw et h2 (by with_reducible assumption)) | exact Nat.succ_le_succ (Nat.le_trans (Nat.le_of_lt (ltDc hw et h2 (by with_reducible assumption) (by with_reducible assumption))) (by decide)) | exact Nat.succ_le_succ (lePar et h2 (by with_reducible assumption) (by with_reducible assumption)) | exact Nat.succ_le_succ (ltPar et h2 (by with_reducible assumption) (by with_reducible assumption))) (by rw [← hF, lr_O_canOverride_s, if_neg c_6, if_neg c_7, if_pos c_10]) hP hS (lv_sub hl [1, 0, 2, 3, 4, 5, 6, 7] rfl)
            · have c_10 : ¬ ((f_O_overridesOneOf v x7 x6 p3) = (0 : Int32)) := c_10
              refine lv_iload hx hb d_O_canOverride_81 (lv_at hl 0 rfl) ?_
              refine lv_iconst (v := (1 : Int32)) hx hb d_O_canOverride_83 (by decide +kernel) ?_
              refine lv_iload hx hb d_O_canOverride_84 (lv_at hl 1 rfl) ?_
              refine lv_ishl hx hb d_O_canOverride_86 ?_
              refine lv_ior hx hb d_O_canOverride_87 ?_
              refine lv_istore (lv' := [(6, .int (x6 ||| ((1 : Int32) <<< (x7 &&& (31 : Int32))))), (7, .int x7), (5, .int (((f_W_chain v.1 p1) &&& (f_W_kindsOf v.1 p2)) &&& (f_M_instances v.2.2 p3))), (4, .int (f_M_instances v.2.2 p3)), (0, .ref h0), (1, .int p1), (2, .int p2), (3, .int p3)]) hx hb d_O_canOverride_88 hl (by decide) rfl (fun ls hl => ?_)
              refine lv_iinc (v := (x7 + (1 : Int32))) (lv' := [(7, .int (x7 + (1 : Int32))), (6, .int (x6 ||| ((1 : Int32) <<< (x7 &&& (31 : Int32))))), (5, .int (((f_W_chain v.1 p1) &&& (f_W_kindsOf v.1 p2)) &&& (f_M_instances v.2.2 p3))), (4, .int (f_M_instances v.2.2 p3)), (0, .ref h0), (1, .int p1), (2, .int p2), (3, .int p3)]) hx hb d_O_canOverride_90 hl (k := 1) rfl (by rw [of_p1]) (by decide) rfl (fun ls hl => ?_)
              refine lv_goto (tgt := 53) hx hb d_O_canOverride_93 (by decide) ?_
              exact ih (k + 1) (x6 ||| ((1 : Int32) <<< (x7 &&& (31 : Int32)))) (x7 + (1 : Int32)) _ _ _ (by rw [et]; exact nI_1 k) (by omega) (by first | exact Nat.succ_le_succ (le12 et h2 (by with_reducible assumption)) | exact Nat.succ_le_succ (lt12 et h2 (by with_reducible assumption)) | exact Nat.succ_le_succ (leCnt hw et h2 (by with_reducible assumption)) | exact Nat.succ_le_succ (Nat.le_trans (Nat.le_of_lt (ltDc hw et h2 (by with_reducible assumption) (by with_reducible assumption))) (by decide)) | exact Nat.succ_le_succ (lePar et h2 (by with_reducible assumption) (by with_reducible assumption)) | exact Nat.succ_le_succ (ltPar et h2 (by with_reducible assumption) (by with_reducible assumption))) (by rw [← hF, lr_O_canOverride_s, if_neg c_6, if_neg c_7, if_neg c_10]) hP hS (lv_sub hl [1, 0, 2, 3, 4, 5, 6, 7] rfl)
    exact LOOP 14 (p2.toNatClampNeg + 1) ((1 : Int32) <<< (p2 &&& (31 : Int32))) (p2 + (1 : Int32)) _ _ _ (in_k1 hp2) (by omega) (in_lt hp2) (by unfold f_O_canOverride; rw [if_neg c_2]) hP hS (lv_sub hl [1, 0, 2, 3, 4, 5, 6, 7] rfl)
  · have c_2 : (f_O_holds (f_M_instances v.2.2 p3) p2) = (0 : Int32) := c_2
    refine lv_iconst (v := (0 : Int32)) hx hb d_O_canOverride_19 (by decide +kernel) ?_
    exact W.zret (v := (0 : Int32)) hx hb hr (by decide +kernel) (fun t ht hW => ⟨⟨(0 : Int32), (), rfl, by unfold f_O_canOverride; rw [if_pos c_2], trivial⟩, hS.F ht⟩) hS.2.2 d_O_canOverride_20
end
section
set_option maxHeartbeats 4000000 in
set_option maxRecDepth 100000 in
theorem c_O_select (l : Launch) (dC : Nat → ClassId) (dI : Nat → Nat → Nat) (h0 : Nat) (kw kf km : Nat → ClassId) (qw qf qm : Nat → Nat) (sz : Nat) (v : ES) (lc : Int32) (p1 p2 p3 : Int32) (hw : WF v.1) (hp1 : vp_in p1 13) (hp2 : vp_in p2 13) (hp3 : vp_in p3 4) : Met l y_O_select w_O_select ({ frames := 4, cells := 0, slots := 0, locals := 96 } : Room) (ro_P dC dI (wO h0 kw kf km qw qf qm v lc) (tO kw kf km) sz [.ref h0, .int p1, .int p2, .int p3]) (ro_Q sz (f_O_select v p1 p2 p3)) 0 0 (fun z => sz ≤ z) := by
  refine Met.ofW (cc := b_O_select) (maxL := 6) (ret := (some .int)) (by decide) rfl ?_
  intro p e s m args below meth c s₁ B hml hv
  obtain ⟨rfl, hsz, hP, hK, hN⟩ := hv
  have hx := B.exec
  have hb := B.bytes
  have hr := B.returns
  have hts := tl_of (atoms_spec (ws := w_O_select) B.pre)
  have hown : s.vm.findClass R_O = some m.cls := findClass_of_methodNamed B.named
  have hlocks := B.notSynchronized
  subst hsz
  have hA : ∀ z : Nat, s.heap.size ≤ z → (fun z : Nat => s.heap.size ≤ z) z := fun _ h => h
  have hS : va_S (fun z : Nat => s.heap.size ≤ z) s.heap s.heap [] := va_S.rf
  have hl := lv_entry ([.ref h0, .int p1, .int p2, .int p3]) (n := 6) (Nat.le_of_ble_eq_true rfl)
  rw [lg_entry_eq]
  generalize (lg_sl ([.ref h0, .int p1, .int p2, .int p3]) ++ List.replicate (6 - (lg_sl ([.ref h0, .int p1, .int p2, .int p3])).length) Slot.unset).toArray = ls at hl ⊢
  have hl : lv_has ls 6 [(0, .ref h0), (1, .int p1), (2, .int p2), (3, .int p3)] := hl
  refine lv_aload_n hx hb d_O_select_0 rfl (lv_at hl 0 rfl) ?_
  refine va_get (D := (dC, dI)) (ci := 2) (v := .ref (qm 0)) (C := R_O) (T := F_O) (N := 4) hx hb hts i_O hown hK hP 0 rfl rfl 2 (by decide) (hts _ k_23) (fun _ h9 => h9) rfl d_O_select_1 ?_
  refine lv_iload_n hx hb d_O_select_4 rfl (lv_at hl 2 rfl) ?_
  refine lv_iload_n hx hb d_O_select_5 rfl (lv_at hl 3 rfl) ?_
  have hq_1 : vp_in ((p2 * (4 : Int32)) + p3) 52 := by first | with_reducible assumption | exact in_52 (by first | with_reducible assumption | exact in_has hw (by with_reducible assumption) | exact in_cls hw (by with_reducible assumption) | exact in_ifc hw (by with_reducible assumption) | exact in_ext hw (by with_reducible assumption) | exact in_eq0 (by with_reducible assumption) | exact hfd (by with_reducible assumption) | exact in_rcv hw (by with_reducible assumption) (Or.inl (by with_reducible assumption)) | exact in_rcv hw (by with_reducible assumption) (Or.inr (by with_reducible assumption))) (by first | with_reducible assumption | exact in_name (by with_reducible assumption) | exact in4_4 (by with_reducible assumption) | exact in4_5 (by with_reducible assumption) | exact in4_6 (by with_reducible assumption) | exact in4_7 (by with_reducible assumption))
  refine va_calli (va_runV (As := [.int p2, .int p3]) (rest := []) ⟨hx, hb, hml, hown, hts⟩ (c_M_accessOf l dC dI km qm s.heap.size v.2.2  p2 p3 hq_1) (cwV 2 hts k_g17 rfl rfl rfl (by decide +kernel) ⟨Nat.le_of_ble_eq_true rfl, Nat.le_of_ble_eq_true rfl⟩) ⟨fb_ro, va_recv hK hP (ci := 1) (q0 := 14) rfl rfl, fun U hU hW => ⟨rfl, by rw [hU], by rw [hU]; exact hP.sub (ws' := (wM km qm v.2.2)) [14, 15, 16, 17, 18, 19] rfl, va_K.moved hW.alike (hK.sub (tys' := (tM km)) [11, 12, 13, 14, 15] rfl), NX.warm hW hN⟩⟩ rfl rfl hl.1 rfl (lv_room (Nat.le_of_ble_eq_true rfl)) d_O_select_6 ⟨Nat.zero_le _, Nat.zero_le _⟩) hS (fun z h1 h2 => absurd h1 (Nat.not_lt.mpr h2)) (fun z h => hA z (Nat.le_trans hS.1 h)) (fun r u t H1 locs ht hvm hpo hB hz1 hk1 hS => ?_)
  subst hpo
  have hP := kp_P hP hk1
  generalize H1 = H at hP hS ⊢
  refine lv_if_ne (tgt := 14) hx hb d_O_select_9 (by decide) (fun c_2 => ?_) (fun c_2 => ?_)
  · have c_2 : ¬ ((f_M_accessOf v.2.2 p2 p3) = (0 : Int32)) := c_2
    refine lv_aload_n hx hb d_O_select_14 rfl (lv_at hl 0 rfl) ?_
    refine va_get (D := (dC, dI)) (ci := 2) (v := .ref (qw 0)) (C := R_O) (T := F_O) (N := 4) hx hb hts i_O hown hK hP 0 rfl rfl 0 (by decide) (hts _ k_22) (fun _ h9 => h9) rfl d_O_select_15 ?_
    refine lv_iload_n hx hb d_O_select_18 rfl (lv_at hl 1 rfl) ?_
    have hq_3 : vp_in p1 13 := by first | with_reducible assumption | exact in_has hw (by with_reducible assumption) | exact in_cls hw (by with_reducible assumption) | exact in_ifc hw (by with_reducible assumption) | exact in_ext hw (by with_reducible assumption) | exact in_eq0 (by with_reducible assumption) | exact hfd (by with_reducible assumption) | exact in_rcv hw (by with_reducible assumption) (Or.inl (by with_reducible assumption)) | exact in_rcv hw (by with_reducible assumption) (Or.inr (by with_reducible assumption))
    refine va_calli (va_runV (As := [.int p1]) (rest := []) ⟨hx, hb, hml, hown, hts⟩ (c_W_chain l dC dI kw qw H.size v.1  p1 hq_3) (cwV 1 hts k_g21 rfl rfl rfl (by decide +kernel) ⟨Nat.le_of_ble_eq_true rfl, Nat.le_of_ble_eq_true rfl⟩) ⟨fb_ro, va_recv hK hP (ci := 0) (q0 := 1) rfl rfl, fun U hU hW => ⟨rfl, by rw [hU], by rw [hU]; exact hP.sub (ws' := (wW kw qw v.1)) [1, 2, 3, 4, 5, 6, 7] rfl, va_K.moved hW.alike (hK.sub (tys' := (tW kw)) [0, 1, 2, 3, 4, 5] rfl), NX.warm hW hN⟩⟩ rfl rfl hl.1 rfl (lv_room (Nat.le_of_ble_eq_true rfl)) d_O_select_19 ⟨Nat.zero_le _, Nat.zero_le _⟩) hS (fun z h1 h2 => absurd h1 (Nat.not_lt.mpr h2)) (fun z h => hA z (Nat.le_trans hS.1 h)) (fun r u t H1 locs ht hvm hpo hB hz1 hk1 hS => ?_)
    subst hpo
    have hP := kp_P hP hk1
    generalize H1 = H at hP hS ⊢
    refine lv_istore (lv' := [(4, .int (f_W_chain v.1 p1)), (0, .ref h0), (1, .int p1), (2, .int p2), (3, .int p3)]) hx hb d_O_select_22 hl (by decide) rfl (fun ls hl => ?_)
    refine lv_iload_n hx hb d_O_select_24 rfl (lv_at hl 2 rfl) ?_
    refine lv_istore (lv' := [(5, .int p1), (4, .int (f_W_chain v.1 p1)), (0, .ref h0), (1, .int p1), (2, .int p2), (3, .int p3)]) hx hb d_O_select_25 hl (by decide) rfl (fun ls hl => ?_)
    have LOOP : ∀ (n k : Nat) (x5 : Int32) (H : Heap) (locs : List Loc) (ls : Array Slot), x5 = nI k → k + 1 ≤ n → k ≤ 12 → lr_O_select v p1 p2 p3 n x5 = (f_O_select v p1 p2 p3) → va_P (dC, dI) classes (wO h0 kw kf km qw qf qm v lc) H → va_S (fun z : Nat => s.heap.size ≤ z) s.heap H locs → lv_has ls 6 [(5, .int x5), (4, .int (f_W_chain v.1 p1)), (0, .ref h0), (1, .int p1), (2, .int p2), (3, .int p3)] → W p l e (headSpec w_O_select ({ frames := 4, cells := 0, slots := 0, locals := 96 } : Room)).room s m ([.ref h0, .int p1, .int p2, .int p3] : List Value).toArray below meth c H locs 0 0 (MQ below (ro_Q s.heap.size (f_O_select v p1 p2 p3)) ([.ref h0, .int p1, .int p2, .int p3] : List Value).toArray s 0 0 (fun z => s.heap.size ≤ z)) (F0 m 27 ls []) := by
      intro n
      induction n with
      | zero =>
        intro k x5 H locs ls et h1 h2
        exfalso; omega
      | succ n ih =>
        intro k x5 H locs ls et h1 h2 hF hP hS hl
        refine lv_iload hx hb d_O_select_27 (lv_at hl 0 rfl) ?_
        refine lv_iconst (v := (1 : Int32)) hx hb d_O_select_29 (by decide +kernel) ?_
        refine lv_icmp_lt (tgt := 63) hx hb d_O_select_30 (by decide) (fun c_4 => ?_) (fun c_4 => ?_)
        · have c_4 : x5 < (1 : Int32) := c_4
          refine lv_aload_n hx hb d_O_select_63 rfl (lv_at hl 2 rfl) ?_
          refine lv_iload_n hx hb d_O_select_64 rfl (lv_at hl 3 rfl) ?_
          refine lv_iload_n hx hb d_O_select_65 rfl (lv_at hl 5 rfl) ?_
          have hq_5 : vp_in p1 13 := by first | with_reducible assumption | exact in_has hw (by with_reducible assumption) | exact in_cls hw (by with_reducible assumption) | exact in_ifc hw (by with_reducible assumption) | exact in_ext hw (by with_reducible assumption) | exact in_eq0 (by with_reducible assumption) | exact hfd (by with_reducible assumption) | exact in_rcv hw (by with_reducible assumption) (Or.inl (by with_reducible assumption)) | exact in_rcv hw (by with_reducible assumption) (Or.inr (by with_reducible assumption))
          have hq_6 : vp_in p3 4 := by first | with_reducible assumption | exact in_name (by with_reducible assumption) | exact in4_4 (by with_reducible assumption) | exact in4_5 (by with_reducible assumption) | exact in4_6 (by with_reducible assumption) | exact in4_7 (by with_reducible assumption)
          refine va_calli (va_runV (As := [.int p1, .int p3]) (rest := []) ⟨hx, hb, hml, hown, hts⟩ (c_O_bestOfInterfaces l dC dI h0 kw kf km qw qf qm H.size v lc p1 p3 hq_5 hq_6) (cwV 2 hts k_g24 rfl rfl rfl (by decide +kernel) ⟨Nat.le_of_ble_eq_true rfl, Nat.le_of_ble_eq_true rfl⟩) ⟨fb_ro, va_recv hK hP (ci := 2) (q0 := 0) rfl rfl, fun U hU hW => ⟨rfl, by rw [hU], by rw [hU]; exact hP.sub (ws' := (wO h0 kw kf km qw qf qm v lc)) [0, 1, 2, 3, 4, 5, 6, 7, 8, 9, 10, 11, 12, 13, 14, 15, 16, 17, 18, 19] rfl, va_K.moved hW.alike (hK.sub (tys' := (tO kw kf km)) [0, 1, 2, 3, 4, 5, 6, 7, 8, 9, 10, 11, 12, 13, 14, 15] rfl), NX.warm hW hN⟩⟩ rfl rfl hl.1 rfl (lv_room (Nat.le_of_ble_eq_true rfl)) d_O_select_66 ⟨Nat.zero_le _, Nat.zero_le _⟩) hS (fun z h1 h2 => absurd h1 (Nat.not_lt.mpr h2)) (fun z h => hA z (Nat.le_trans hS.1 h)) (fun r u t H1 locs ht hvm hpo hB hz1 hk1 hS => ?_)
          subst hpo
          have hP := kp_P hP hk1
          generalize H1 = H at hP hS ⊢
          exact W.iret (v := (f_O_bestOfInterfaces v p1 p3)) hx hb hr (fun t ht hW => ⟨⟨(f_O_bestOfInterfaces v p1 p3), (), rfl, by rw [← hF, lr_O_select_s, if_pos c_4], trivial⟩, hS.F ht⟩) hS.2.2 d_O_select_69
        · have c_4 : ¬ (x5 < (1 : Int32)) := c_4
          refine lv_iload hx hb d_O_select_33 (lv_at hl 1 rfl) ?_
          refine lv_iload hx hb d_O_select_35 (lv_at hl 0 rfl) ?_
          refine va_calli (va_runS (As := [.int (f_W_chain v.1 p1), .int x5]) (rest := []) ⟨hx, hb, hml, hown, hts⟩ (c_O_holds l dC dI  H.size   (f_W_chain v.1 p1) x5) (cwS 2 hts k_g0 rfl rfl rfl (by decide +kernel) ⟨Nat.le_of_ble_eq_true rfl, Nat.le_of_ble_eq_true rfl⟩) ⟨fb_ro, fun U hU hW => ⟨rfl, by rw [hU], by rw [hU]; exact hP.sub (ws' := ([] : va_W)) [] rfl, va_K.moved hW.alike (hK.sub (tys' := []) [] rfl), NX.warm hW hN⟩⟩ rfl rfl hl.1 rfl (lv_room (Nat.le_of_ble_eq_true rfl)) d_O_select_37 ⟨Nat.zero_le _, Nat.zero_le _⟩) hS (fun z h1 h2 => absurd h1 (Nat.not_lt.mpr h2)) (fun z h => hA z (Nat.le_trans hS.1 h)) (fun r u t H1 locs ht hvm hpo hB hz1 hk1 hS => ?_)
          subst hpo
          have hP := kp_P hP hk1
          generalize H1 = H at hP hS ⊢
          refine lv_if_eq (tgt := 57) hx hb d_O_select_40 (by decide) (fun c_7 => ?_) (fun c_7 => ?_)
          · have c_7 : (f_O_holds (f_W_chain v.1 p1) x5) = (0 : Int32) := c_7
            refine lv_iinc (v := (x5 + (-1 : Int32))) (lv' := [(5, .int (x5 + (-1 : Int32))), (4, .int (f_W_chain v.1 p1)), (0, .ref h0), (1, .int p1), (2, .int p2), (3, .int p3)]) hx hb d_O_select_57 hl (k := 0) rfl (by rw [of_m1]) (by decide) rfl (fun ls hl => ?_)
            refine lv_goto (tgt := 27) hx hb d_O_select_60 (by decide) ?_
            exact ih (k - 1) (x5 + (-1 : Int32)) _ _ _ (dn_et et h2 (by assumption)) (dn_h1 et h2 h1 (by assumption)) (by omega) (by rw [← hF, lr_O_select_s, if_neg c_4, if_pos c_7]) hP hS (lv_sub hl [0, 1, 2, 3, 4, 5] rfl)
          · have c_7 : ¬ ((f_O_holds (f_W_chain v.1 p1) x5) = (0 : Int32)) := c_7
            refine lv_aload_n hx hb d_O_select_43 rfl (lv_at hl 2 rfl) ?_
            refine lv_iload hx hb d_O_select_44 (lv_at hl 0 rfl) ?_
            refine lv_iload_n hx hb d_O_select_46 rfl (lv_at hl 4 rfl) ?_
            refine lv_iload_n hx hb d_O_select_47 rfl (lv_at hl 5 rfl) ?_
            have hq_8 : WF v.1 := by first | with_reducible assumption | exact hw
            have hq_9 : vp_in x5 13 := by first | with_reducible assumption | exact in_et et (le12 et h2 (by with_reducible assumption)) | exact in_et et (lt12 et h2 (by with_reducible assumption)) | exact in_et et (leCnt hw et h2 (by with_reducible assumption)) | exact in_et et (lePar et h2 (by with_reducible assumption) (by with_reducible assumption)) | exact in_et et (ltPar et h2 (by with_reducible assumption) (by with_reducible assumption)) | exact in_et et h2
            have hq_10 : vp_in p2 13 := by first | with_reducible assumption | exact in_has hw (by with_reducible assumption) | exact in_cls hw (by with_reducible assumption) | exact in_ifc hw (by with_reducible assumption) | exact in_ext hw (by with_reducible assumption) | exact in_eq0 (by with_reducible assumption) | exact hfd (by with_reducible assumption) | exact in_rcv hw (by with_reducible assumption) (Or.inl (by with_reducible assumption)) | exact in_rcv hw (by with_reducible assumption) (Or.inr (by with_reducible assumption))
            have hq_11 : vp_in p3 4 := by first | with_reducible assumption | exact in_name (by with_reducible assumption) | exact in4_4 (by with_reducible assumption) | exact in4_5 (by with_reducible assumption) | exact in4_6 (by with_reducible assumption) | exact in4_7 (by with_reducible assumption)
            refine va_calli (va_runV (As := [.int x5, .int p2, .int p3]) (rest := []) ⟨hx, hb, hml, hown, hts⟩ (c_O_canOverride l dC dI h0 kw kf km qw qf qm H.size v lc x5 p2 p3 hq_8 hq_9 hq_10 hq_11) (cwV 3 hts k_g25 rfl rfl rfl (by decide +kernel) ⟨Nat.le_of_ble_eq_true rfl, Nat.le_of_ble_eq_true rfl⟩) ⟨fb_ro, va_recv hK hP (ci := 2) (q0 := 0) rfl rfl, fun U hU hW => ⟨rfl, by rw [hU], by rw [hU]; exact hP.sub (ws' := (wO h0 kw kf km qw qf qm v lc)) [0, 1, 2, 3, 4, 5, 6, 7, 8, 9, 10, 11, 12, 13, 14, 15, 16, 17, 18, 19] rfl, va_K.moved hW.alike (hK.sub (tys' := (tO kw kf km)) [0, 1, 2, 3, 4, 5, 6, 7, 8, 9, 10, 11, 12, 13, 14, 15] rfl), NX.warm hW hN⟩⟩ rfl rfl hl.1 rfl (lv_room (Nat.le_of_ble_eq_true rfl)) d_O_select_48 ⟨Nat.zero_le _, Nat.zero_le _⟩) hS (fun z h1 h2 => absurd h1 (Nat.not_lt.mpr h2)) (fun z h => hA z (Nat.le_trans hS.1 h)) (fun r u t H1 locs ht hvm hpo hB hz1 hk1 hS => ?_)
            subst hpo
            have hP := kp_P hP hk1
            generalize H1 = H at hP hS ⊢
            refine lv_if_eq (tgt := 57) hx hb d_O_select_51 (by decide) (fun c_12 => ?_) (fun c_12 => ?_)
            · have c_12 : (f_O_canOverride v x5 p2 p3) = (0 : Int32) := c_12
              refine lv_iinc (v := (x5 + (-1 : Int32))) (lv' := [(5, .int (x5 + (-1 : Int32))), (4, .int (f_W_chain v.1 p1)), (0, .ref h0), (1, .int p1), (2, .int p2), (3, .int p3)]) hx hb d_O_select_57 hl (k := 0) rfl (by rw [of_m1]) (by decide) rfl (fun ls hl => ?_)
              refine lv_goto (tgt := 27) hx hb d_O_select_60 (by decide) ?_
              exact ih (k - 1) (x5 + (-1 : Int32)) _ _ _ (dn_et et h2 (by assumption)) (dn_h1 et h2 h1 (by assumption)) (by omega) (by rw [← hF, lr_O_select_s, if_neg c_4, if_neg c_7, if_pos c_12]) hP hS (lv_sub hl [0, 1, 2, 3, 4, 5] rfl)
            · have c_12 : ¬ ((f_O_canOverride v x5 p2 p3) = (0 : Int32)) := c_12
              refine lv_iload hx hb d_O_select_54 (lv_at hl 0 rfl) ?_
              exact W.iret (v := x5) hx hb hr (fun t ht hW => ⟨⟨x5, (), rfl, by rw [← hF, lr_O_select_s, if_neg c_4, if_neg c_7, if_neg c_12], trivial⟩, hS.F ht⟩) hS.2.2 d_O_select_56
    exact LOOP 14 p1.toNatClampNeg p1 _ _ _ (in_k hp1) (by have := in_lt hp1; omega) (Nat.le_of_lt_succ (in_lt hp1)) (by unfold f_O_select; rw [if_neg c_2]) hP hS (lv_sub hl [0, 1, 2, 3, 4, 5] rfl)
  · have c_2 : (f_M_accessOf v.2.2 p2 p3) = (0 : Int32) := c_2
    refine lv_iload_n hx hb d_O_select_12 rfl (lv_at hl 2 rfl) ?_
    exact W.iret (v := p2) hx hb hr (fun t ht hW => ⟨⟨p2, (), rfl, by unfold f_O_select; rw [if_pos c_2], trivial⟩, hS.F ht⟩) hS.2.2 d_O_select_13
end
section
set_option maxHeartbeats 4000000 in
set_option maxRecDepth 100000 in
theorem c_O_runnable (l : Launch) (dC : Nat → ClassId) (dI : Nat → Nat → Nat) (h0 : Nat) (kw kf km : Nat → ClassId) (qw qf qm : Nat → Nat) (sz : Nat) (v : ES) (lc : Int32) (p1 p2 : Int32) (hp2 : vp_in p2 4) : Met l y_O_runnable w_O_runnable ({ frames := 1, cells := 0, slots := 0, locals := 21 } : Room) (ro_P dC dI (wO h0 kw kf km qw qf qm v lc) (tO kw kf km) sz [.ref h0, .int p1, .int p2]) (ro_Q sz (f_O_runnable v p1 p2)) 0 0 (fun z => sz ≤ z) := by
  refine Met.ofW (cc := b_O_runnable) (maxL := 3) (ret := (some .int)) (by decide) rfl ?_
  intro p e s m args below meth c s₁ B hml hv
  obtain ⟨rfl, hsz, hP, hK, hN⟩ := hv
  have hx := B.exec
  have hb := B.bytes
  have hr := B.returns
  have hts := tl_of (atoms_spec (ws := w_O_runnable) B.pre)
  have hown : s.vm.findClass R_O = some m.cls := findClass_of_methodNamed B.named
  have hlocks := B.notSynchronized
  subst hsz
  have hA : ∀ z : Nat, s.heap.size ≤ z → (fun z : Nat => s.heap.size ≤ z) z := fun _ h => h
  have hS : va_S (fun z : Nat => s.heap.size ≤ z) s.heap s.heap [] := va_S.rf
  have hl := lv_entry ([.ref h0, .int p1, .int p2]) (n := 3) (Nat.le_of_ble_eq_true rfl)
  rw [lg_entry_eq]
  generalize (lg_sl ([.ref h0, .int p1, .int p2]) ++ List.replicate (3 - (lg_sl ([.ref h0, .int p1, .int p2])).length) Slot.unset).toArray = ls at hl ⊢
  have hl : lv_has ls 3 [(0, .ref h0), (1, .int p1), (2, .int p2)] := hl
  refine lv_iload_n hx hb d_O_runnable_0 rfl (lv_at hl 1 rfl) ?_
  refine lv_if_le (tgt := 22) hx hb d_O_runnable_1 (by decide) (fun c_1 => ?_) (fun c_1 => ?_)
  · have c_1 : p1 ≤ (0 : Int32) := c_1
    refine lv_iload_n hx hb d_O_runnable_22 rfl (lv_at hl 1 rfl) ?_
    exact W.iret (v := p1) hx hb hr (fun t ht hW => ⟨⟨p1, (), rfl, by unfold f_O_runnable; rw [if_pos c_1], trivial⟩, hS.F ht⟩) hS.2.2 d_O_runnable_23
  · have c_1 : ¬ (p1 ≤ (0 : Int32)) := c_1
    refine lv_aload_n hx hb d_O_runnable_4 rfl (lv_at hl 0 rfl) ?_
    refine va_get (D := (dC, dI)) (ci := 2) (v := .ref (qm 0)) (C := R_O) (T := F_O) (N := 4) hx hb hts i_O hown hK hP 0 rfl rfl 2 (by decide) (hts _ k_23) (fun _ h9 => h9) rfl d_O_runnable_5 ?_
    refine lv_iload_n hx hb d_O_runnable_8 rfl (lv_at hl 2 rfl) ?_
    have hq_2 : vp_in p2 4 := by first | with_reducible assumption | exact in_name (by with_reducible assumption) | exact in4_4 (by with_reducible assumption) | exact in4_5 (by with_reducible assumption) | exact in4_6 (by with_reducible assumption) | exact in4_7 (by with_reducible assumption)
    refine va_calli (va_runV (As := [.int p2]) (rest := []) ⟨hx, hb, hml, hown, hts⟩ (c_M_abstracts l dC dI km qm s.heap.size v.2.2  p2 hq_2) (cwV 1 hts k_g14 rfl rfl rfl (by decide +kernel) ⟨Nat.le_of_ble_eq_true rfl, Nat.le_of_ble_eq_true rfl⟩) ⟨fb_ro, va_recv hK hP (ci := 1) (q0 := 14) rfl rfl, fun U hU hW => ⟨rfl, by rw [hU], by rw [hU]; exact hP.sub (ws' := (wM km qm v.2.2)) [14, 15, 16, 17, 18, 19] rfl, va_K.moved hW.alike (hK.sub (tys' := (tM km)) [11, 12, 13, 14, 15] rfl), NX.warm hW hN⟩⟩ rfl rfl hl.1 rfl (lv_room (Nat.le_of_ble_eq_true rfl)) d_O_runnable_9 ⟨Nat.zero_le _, Nat.zero_le _⟩) hS (fun z h1 h2 => absurd h1 (Nat.not_lt.mpr h2)) (fun z h => hA z (Nat.le_trans hS.1 h)) (fun r u t H1 locs ht hvm hpo hB hz1 hk1 hS => ?_)
    subst hpo
    have hP := kp_P hP hk1
    generalize H1 = H at hP hS ⊢
    refine lv_iload_n hx hb d_O_runnable_12 rfl (lv_at hl 1 rfl) ?_
    refine va_calli (va_runS (As := [.int (f_M_abstracts v.2.2 p2), .int p1]) (rest := []) ⟨hx, hb, hml, hown, hts⟩ (c_O_holds l dC dI  H.size   (f_M_abstracts v.2.2 p2) p1) (cwS 2 hts k_g0 rfl rfl rfl (by decide +kernel) ⟨Nat.le_of_ble_eq_true rfl, Nat.le_of_ble_eq_true rfl⟩) ⟨fb_ro, fun U hU hW => ⟨rfl, by rw [hU], by rw [hU]; exact hP.sub (ws' := ([] : va_W)) [] rfl, va_K.moved hW.alike (hK.sub (tys' := []) [] rfl), NX.warm hW hN⟩⟩ rfl rfl hl.1 rfl (lv_room (Nat.le_of_ble_eq_true rfl)) d_O_runnable_13 ⟨Nat.zero_le _, Nat.zero_le _⟩) hS (fun z h1 h2 => absurd h1 (Nat.not_lt.mpr h2)) (fun z h => hA z (Nat.le_trans hS.1 h)) (fun r u t H1 locs ht hvm hpo hB hz1 hk1 hS => ?_)
    subst hpo
    have hP := kp_P hP hk1
    generalize H1 = H at hP hS ⊢
    refine lv_if_eq (tgt := 22) hx hb d_O_runnable_16 (by decide) (fun c_3 => ?_) (fun c_3 => ?_)
    · have c_3 : (f_O_holds (f_M_abstracts v.2.2 p2) p1) = (0 : Int32) := c_3
      refine lv_iload_n hx hb d_O_runnable_22 rfl (lv_at hl 1 rfl) ?_
      exact W.iret (v := p1) hx hb hr (fun t ht hW => ⟨⟨p1, (), rfl, by unfold f_O_runnable; rw [if_neg c_1, if_pos c_3], trivial⟩, hS.F ht⟩) hS.2.2 d_O_runnable_23
    · have c_3 : ¬ ((f_O_holds (f_M_abstracts v.2.2 p2) p1) = (0 : Int32)) := c_3
      refine lv_bipush (v := (-7 : Int32)) hx hb d_O_runnable_19 (by decide +kernel) ?_
      exact W.iret (v := (-7 : Int32)) hx hb hr (fun t ht hW => ⟨⟨(-7 : Int32), (), rfl, by unfold f_O_runnable; rw [if_neg c_1, if_neg c_3], trivial⟩, hS.F ht⟩) hS.2.2 d_O_runnable_21
end
section
set_option maxHeartbeats 4000000 in
set_option maxRecDepth 100000 in
theorem c_O_mayUseMember (l : Launch) (dC : Nat → ClassId) (dI : Nat → Nat → Nat) (h0 : Nat) (kw kf km : Nat → ClassId) (qw qf qm : Nat → Nat) (sz : Nat) (v : ES) (lc : Int32) (p1 p2 p3 : Int32) (hp1 : vp_in p1 13) (hp3 : vp_in p3 13) : Met l y_O_mayUseMember w_O_mayUseMember ({ frames := 2, cells := 0, slots := 0, locals := 43 } : Room) (ro_P dC dI (wO h0 kw kf km qw qf qm v lc) (tO kw kf km) sz [.ref h0, .int p1, .int p2, .int p3]) (ro_Q sz (f_O_mayUseMember v p1 p2 p3)) 0 0 (fun z => sz ≤ z) := by
  refine Met.ofW (cc := b_O_mayUseMember) (maxL := 4) (ret := (some .boolean)) (by decide) rfl ?_
  intro p e s m args below meth c s₁ B hml hv
  obtain ⟨rfl, hsz, hP, hK, hN⟩ := hv
  have hx := B.exec
  have hb := B.bytes
  have hr := B.returns
  have hts := tl_of (atoms_spec (ws := w_O_mayUseMember) B.pre)
  have hown : s.vm.findClass R_O = some m.cls := findClass_of_methodNamed B.named
  have hlocks := B.notSynchronized
  subst hsz
  have hA : ∀ z : Nat, s.heap.size ≤ z → (fun z : Nat => s.heap.size ≤ z) z := fun _ h => h
  have hS : va_S (fun z : Nat => s.heap.size ≤ z) s.heap s.heap [] := va_S.rf
  have hl := lv_entry ([.ref h0, .int p1, .int p2, .int p3]) (n := 4) (Nat.le_of_ble_eq_true rfl)
  rw [lg_entry_eq]
  generalize (lg_sl ([.ref h0, .int p1, .int p2, .int p3]) ++ List.replicate (4 - (lg_sl ([.ref h0, .int p1, .int p2, .int p3])).length) Slot.unset).toArray = ls at hl ⊢
  have hl : lv_has ls 4 [(0, .ref h0), (1, .int p1), (2, .int p2), (3, .int p3)] := hl
  refine lv_iload_n hx hb d_O_mayUseMember_0 rfl (lv_at hl 2 rfl) ?_
  by_cases c_1 : p2 = (1 : Int32)
  · refine lv_tableIn (tgt := 60) (off := 59) hx hb d_O_mayUseMember_1 (by rw [c_1]; decide +kernel) (by rw [c_1]; decide +kernel) (by rw [c_1]; rfl) (by decide) ?_
    refine lv_aload_n hx hb d_O_mayUseMember_60 rfl (lv_at hl 0 rfl) ?_
    refine va_get (D := (dC, dI)) (ci := 2) (v := .ref (qw 0)) (C := R_O) (T := F_O) (N := 4) hx hb hts i_O hown hK hP 0 rfl rfl 0 (by decide) (hts _ k_22) (fun _ h9 => h9) rfl d_O_mayUseMember_61 ?_
    refine lv_iload_n hx hb d_O_mayUseMember_64 rfl (lv_at hl 1 rfl) ?_
    refine lv_iload_n hx hb d_O_mayUseMember_65 rfl (lv_at hl 3 rfl) ?_
    have hq_2 : vp_in p1 13 := by first | with_reducible assumption | exact in_has hw (by with_reducible assumption) | exact in_cls hw (by with_reducible assumption) | exact in_ifc hw (by with_reducible assumption) | exact in_ext hw (by with_reducible assumption) | exact in_eq0 (by with_reducible assumption) | exact hfd (by with_reducible assumption) | exact in_rcv hw (by with_reducible assumption) (Or.inl (by with_reducible assumption)) | exact in_rcv hw (by with_reducible assumption) (Or.inr (by with_reducible assumption))
    have hq_3 : vp_in p3 13 := by first | with_reducible assumption | exact in_has hw (by with_reducible assumption) | exact in_cls hw (by with_reducible assumption) | exact in_ifc hw (by with_reducible assumption) | exact in_ext hw (by with_reducible assumption) | exact in_eq0 (by with_reducible assumption) | exact hfd (by with_reducible assumption) | exact in_rcv hw (by with_reducible assumption) (Or.inl (by with_reducible assumption)) | exact in_rcv hw (by with_reducible assumption) (Or.inr (by with_reducible assumption))
    refine va_calli (va_runV (As := [.int p1, .int p3]) (rest := []) ⟨hx, hb, hml, hown, hts⟩ (c_W_samePackage l dC dI kw qw s.heap.size v.1  p1 p3 hq_2 hq_3) (cwV 2 hts k_g18 rfl rfl rfl (by decide +kernel) ⟨Nat.le_of_ble_eq_true rfl, Nat.le_of_ble_eq_true rfl⟩) ⟨fb_ro, va_recv hK hP (ci := 0) (q0 := 1) rfl rfl, fun U hU hW => ⟨rfl, by rw [hU], by rw [hU]; exact hP.sub (ws' := (wW kw qw v.1)) [1, 2, 3, 4, 5, 6, 7] rfl, va_K.moved hW.alike (hK.sub (tys' := (tW kw)) [0, 1, 2, 3, 4, 5] rfl), NX.warm hW hN⟩⟩ rfl rfl hl.1 rfl (lv_room (Nat.le_of_ble_eq_true rfl)) d_O_mayUseMember_66 ⟨Nat.zero_le _, Nat.zero_le _⟩) hS (fun z h1 h2 => absurd h1 (Nat.not_lt.mpr h2)) (fun z h => hA z (Nat.le_trans hS.1 h)) (fun r u t H1 locs ht hvm hpo hB hz1 hk1 hS => ?_)
    subst hpo
    have hP := kp_P hP hk1
    generalize H1 = H at hP hS ⊢
    exact W.zret (v := (f_W_samePackage v.1 p1 p3)) hx hb hr (z_W_samePackage) (fun t ht hW => ⟨⟨(f_W_samePackage v.1 p1 p3), (), rfl, by unfold f_O_mayUseMember; rw [if_pos c_1], trivial⟩, hS.F ht⟩) hS.2.2 d_O_mayUseMember_69
  · skip
    by_cases c_4 : p2 = (2 : Int32)
    · refine lv_tableIn (tgt := 30) (off := 29) hx hb d_O_mayUseMember_1 (by rw [c_4]; decide +kernel) (by rw [c_4]; decide +kernel) (by rw [c_4]; rfl) (by decide) ?_
      refine lv_aload_n hx hb d_O_mayUseMember_30 rfl (lv_at hl 0 rfl) ?_
      refine va_get (D := (dC, dI)) (ci := 2) (v := .ref (qw 0)) (C := R_O) (T := F_O) (N := 4) hx hb hts i_O hown hK hP 0 rfl rfl 0 (by decide) (hts _ k_22) (fun _ h9 => h9) rfl d_O_mayUseMember_31 ?_
      refine lv_iload_n hx hb d_O_mayUseMember_34 rfl (lv_at hl 1 rfl) ?_
      refine lv_iload_n hx hb d_O_mayUseMember_35 rfl (lv_at hl 3 rfl) ?_
      have hq_5 : vp_in p1 13 := by first | with_reducible assumption | exact in_has hw (by with_reducible assumption) | exact in_cls hw (by with_reducible assumption) | exact in_ifc hw (by with_reducible assumption) | exact in_ext hw (by with_reducible assumption) | exact in_eq0 (by with_reducible assumption) | exact hfd (by with_reducible assumption) | exact in_rcv hw (by with_reducible assumption) (Or.inl (by with_reducible assumption)) | exact in_rcv hw (by with_reducible assumption) (Or.inr (by with_reducible assumption))
      have hq_6 : vp_in p3 13 := by first | with_reducible assumption | exact in_has hw (by with_reducible assumption) | exact in_cls hw (by with_reducible assumption) | exact in_ifc hw (by with_reducible assumption) | exact in_ext hw (by with_reducible assumption) | exact in_eq0 (by with_reducible assumption) | exact hfd (by with_reducible assumption) | exact in_rcv hw (by with_reducible assumption) (Or.inl (by with_reducible assumption)) | exact in_rcv hw (by with_reducible assumption) (Or.inr (by with_reducible assumption))
      refine va_calli (va_runV (As := [.int p1, .int p3]) (rest := []) ⟨hx, hb, hml, hown, hts⟩ (c_W_samePackage l dC dI kw qw s.heap.size v.1  p1 p3 hq_5 hq_6) (cwV 2 hts k_g18 rfl rfl rfl (by decide +kernel) ⟨Nat.le_of_ble_eq_true rfl, Nat.le_of_ble_eq_true rfl⟩) ⟨fb_ro, va_recv hK hP (ci := 0) (q0 := 1) rfl rfl, fun U hU hW => ⟨rfl, by rw [hU], by rw [hU]; exact hP.sub (ws' := (wW kw qw v.1)) [1, 2, 3, 4, 5, 6, 7] rfl, va_K.moved hW.alike (hK.sub (tys' := (tW kw)) [0, 1, 2, 3, 4, 5] rfl), NX.warm hW hN⟩⟩ rfl rfl hl.1 rfl (lv_room (Nat.le_of_ble_eq_true rfl)) d_O_mayUseMember_36 ⟨Nat.zero_le _, Nat.zero_le _⟩) hS (fun z h1 h2 => absurd h1 (Nat.not_lt.mpr h2)) (fun z h => hA z (Nat.le_trans hS.1 h)) (fun r u t H1 locs ht hvm hpo hB hz1 hk1 hS => ?_)
      subst hpo
      have hP := kp_P hP hk1
      generalize H1 = H at hP hS ⊢
      refine lv_if_ne (tgt := 54) hx hb d_O_mayUseMember_39 (by decide) (fun c_7 => ?_) (fun c_7 => ?_)
      · have c_7 : ¬ ((f_W_samePackage v.1 p1 p3) = (0 : Int32)) := c_7
        refine lv_iconst (v := (1 : Int32)) hx hb d_O_mayUseMember_54 (by decide +kernel) ?_
        refine lv_goto (tgt := 59) hx hb d_O_mayUseMember_55 (by decide) ?_
        exact W.zret (v := (1 : Int32)) hx hb hr (by decide +kernel) (fun t ht hW => ⟨⟨(1 : Int32), (), rfl, by unfold f_O_mayUseMember; rw [if_neg c_1, if_pos c_4, if_neg c_7], trivial⟩, hS.F ht⟩) hS.2.2 d_O_mayUseMember_59
      · have c_7 : (f_W_samePackage v.1 p1 p3) = (0 : Int32) := c_7
        refine lv_aload_n hx hb d_O_mayUseMember_42 rfl (lv_at hl 0 rfl) ?_
        refine va_get (D := (dC, dI)) (ci := 2) (v := .ref (qw 0)) (C := R_O) (T := F_O) (N := 4) hx hb hts i_O hown hK hP 0 rfl rfl 0 (by decide) (hts _ k_22) (fun _ h9 => h9) rfl d_O_mayUseMember_43 ?_
        refine lv_iload_n hx hb d_O_mayUseMember_46 rfl (lv_at hl 3 rfl) ?_
        refine lv_iload_n hx hb d_O_mayUseMember_47 rfl (lv_at hl 1 rfl) ?_
        have hq_8 : vp_in p3 13 := by first | with_reducible assumption | exact in_has hw (by with_reducible assumption) | exact in_cls hw (by with_reducible assumption) | exact in_ifc hw (by with_reducible assumption) | exact in_ext hw (by with_reducible assumption) | exact in_eq0 (by with_reducible assumption) | exact hfd (by with_reducible assumption) | exact in_rcv hw (by with_reducible assumption) (Or.inl (by with_reducible assumption)) | exact in_rcv hw (by with_reducible assumption) (Or.inr (by with_reducible assumption))
        refine va_calli (va_runV (As := [.int p3, .int p1]) (rest := []) ⟨hx, hb, hml, hown, hts⟩ (c_W_isKindOf l dC dI kw qw H.size v.1  p3 p1 hq_8) (cwV 2 hts k_g26 rfl rfl rfl (by decide +kernel) ⟨Nat.le_of_ble_eq_true rfl, Nat.le_of_ble_eq_true rfl⟩) ⟨fb_ro, va_recv hK hP (ci := 0) (q0 := 1) rfl rfl, fun U hU hW => ⟨rfl, by rw [hU], by rw [hU]; exact hP.sub (ws' := (wW kw qw v.1)) [1, 2, 3, 4, 5, 6, 7] rfl, va_K.moved hW.alike (hK.sub (tys' := (tW kw)) [0, 1, 2, 3, 4, 5] rfl), NX.warm hW hN⟩⟩ rfl rfl hl.1 rfl (lv_room (Nat.le_of_ble_eq_true rfl)) d_O_mayUseMember_48 ⟨Nat.zero_le _, Nat.zero_le _⟩) hS (fun z h1 h2 => absurd h1 (Nat.not_lt.mpr h2)) (fun z h => hA z (Nat.le_trans hS.1 h)) (fun r u t H1 locs ht hvm hpo hB hz1 hk1 hS => ?_)
        subst hpo
        have hP := kp_P hP hk1
        generalize H1 = H at hP hS ⊢
        refine lv_if_eq (tgt := 58) hx hb d_O_mayUseMember_51 (by decide) (fun c_9 => ?_) (fun c_9 => ?_)
        · have c_9 : (f_W_isKindOf v.1 p3 p1) = (0 : Int32) := c_9
          refine lv_iconst (v := (0 : Int32)) hx hb d_O_mayUseMember_58 (by decide +kernel) ?_
          exact W.zret (v := (0 : Int32)) hx hb hr (by decide +kernel) (fun t ht hW => ⟨⟨(0 : Int32), (), rfl, by unfold f_O_mayUseMember; rw [if_neg c_1, if_pos c_4, if_pos c_7, if_pos c_9], trivial⟩, hS.F ht⟩) hS.2.2 d_O_mayUseMember_59
        · have c_9 : ¬ ((f_W_isKindOf v.1 p3 p1) = (0 : Int32)) := c_9
          refine lv_iconst (v := (1 : Int32)) hx hb d_O_mayUseMember_54 (by decide +kernel) ?_
          refine lv_goto (tgt := 59) hx hb d_O_mayUseMember_55 (by decide) ?_
          exact W.zret (v := (1 : Int32)) hx hb hr (by decide +kernel) (fun t ht hW => ⟨⟨(1 : Int32), (), rfl, by unfold f_O_mayUseMember; rw [if_neg c_1, if_pos c_4, if_pos c_7, if_neg c_9], trivial⟩, hS.F ht⟩) hS.2.2 d_O_mayUseMember_59
    · skip
      by_cases c_10 : p2 = (3 : Int32)
      · refine lv_tableIn (tgt := 28) (off := 27) hx hb d_O_mayUseMember_1 (by rw [c_10]; decide +kernel) (by rw [c_10]; decide +kernel) (by rw [c_10]; rfl) (by decide) ?_
        refine lv_iconst (v := (1 : Int32)) hx hb d_O_mayUseMember_28 (by decide +kernel) ?_
        exact W.zret (v := (1 : Int32)) hx hb hr (by decide +kernel) (fun t ht hW => ⟨⟨(1 : Int32), (), rfl, by unfold f_O_mayUseMember; rw [if_neg c_1, if_neg c_4, if_pos c_10], trivial⟩, hS.F ht⟩) hS.2.2 d_O_mayUseMember_29
      · skip
        refine lv_tableOut (tgt := 70) hx hb d_O_mayUseMember_1 (by have z0 := ne_ti (z := 1) c_1 rfl; have z1 := ne_ti (z := 2) c_4 rfl; have z2 := ne_ti (z := 3) c_10 rfl; omega) (by decide) ?_
        refine lv_aload_n hx hb d_O_mayUseMember_70 rfl (lv_at hl 0 rfl) ?_
        refine va_get (D := (dC, dI)) (ci := 2) (v := .ref (qw 0)) (C := R_O) (T := F_O) (N := 4) hx hb hts i_O hown hK hP 0 rfl rfl 0 (by decide) (hts _ k_22) (fun _ h9 => h9) rfl d_O_mayUseMember_71 ?_
        refine lv_iload_n hx hb d_O_mayUseMember_74 rfl (lv_at hl 1 rfl) ?_
        refine lv_iload_n hx hb d_O_mayUseMember_75 rfl (lv_at hl 3 rfl) ?_
        have hq_11 : vp_in p1 13 := by first | with_reducible assumption | exact in_has hw (by with_reducible assumption) | exact in_cls hw (by with_reducible assumption) | exact in_ifc hw (by with_reducible assumption) | exact in_ext hw (by with_reducible assumption) | exact in_eq0 (by with_reducible assumption) | exact hfd (by with_reducible assumption) | exact in_rcv hw (by with_reducible assumption) (Or.inl (by with_reducible assumption)) | exact in_rcv hw (by with_reducible assumption) (Or.inr (by with_reducible assumption))
        have hq_12 : vp_in p3 13 := by first | with_reducible assumption | exact in_has hw (by with_reducible assumption) | exact in_cls hw (by with_reducible assumption) | exact in_ifc hw (by with_reducible assumption) | exact in_ext hw (by with_reducible assumption) | exact in_eq0 (by with_reducible assumption) | exact hfd (by with_reducible assumption) | exact in_rcv hw (by with_reducible assumption) (Or.inl (by with_reducible assumption)) | exact in_rcv hw (by with_reducible assumption) (Or.inr (by with_reducible assumption))
        refine va_calli (va_runV (As := [.int p1, .int p3]) (rest := []) ⟨hx, hb, hml, hown, hts⟩ (c_W_sameHost l dC dI kw qw s.heap.size v.1  p1 p3 hq_11 hq_12) (cwV 2 hts k_g27 rfl rfl rfl (by decide +kernel) ⟨Nat.le_of_ble_eq_true rfl, Nat.le_of_ble_eq_true rfl⟩) ⟨fb_ro, va_recv hK hP (ci := 0) (q0 := 1) rfl rfl, fun U hU hW => ⟨rfl, by rw [hU], by rw [hU]; exact hP.sub (ws' := (wW kw qw v.1)) [1, 2, 3, 4, 5, 6, 7] rfl, va_K.moved hW.alike (hK.sub (tys' := (tW kw)) [0, 1, 2, 3, 4, 5] rfl), NX.warm hW hN⟩⟩ rfl rfl hl.1 rfl (lv_room (Nat.le_of_ble_eq_true rfl)) d_O_mayUseMember_76 ⟨Nat.zero_le _, Nat.zero_le _⟩) hS (fun z h1 h2 => absurd h1 (Nat.not_lt.mpr h2)) (fun z h => hA z (Nat.le_trans hS.1 h)) (fun r u t H1 locs ht hvm hpo hB hz1 hk1 hS => ?_)
        subst hpo
        have hP := kp_P hP hk1
        generalize H1 = H at hP hS ⊢
        exact W.zret (v := (f_W_sameHost v.1 p1 p3)) hx hb hr (z_W_sameHost) (fun t ht hW => ⟨⟨(f_W_sameHost v.1 p1 p3), (), rfl, by unfold f_O_mayUseMember; rw [if_neg c_1, if_neg c_4, if_neg c_10], trivial⟩, hS.F ht⟩) hS.2.2 d_O_mayUseMember_79
end
section
set_option maxHeartbeats 4000000 in
set_option maxRecDepth 100000 in
theorem c_O_admitted_f (l : Launch) (dC : Nat → ClassId) (dI : Nat → Nat → Nat) (h0 : Nat) (kw kf km : Nat → ClassId) (qw qf qm : Nat → Nat) (sz : Nat) (v : ES) (lc : Int32) (p2 p3 p4 : Int32) (hfd : (0 : Int32) < p2 → vp_in p2 13) (hp3 : vp_in p3 4) (hp4 : vp_in p4 13) : Met l y_O_admitted w_O_admitted ({ frames := 3, cells := 0, slots := 0, locals := 66 } : Room) (ro_P dC dI (wO h0 kw kf km qw qf qm v lc) (tO kw kf km) sz [.ref h0, .ref (qf 0), .int p2, .int p3, .int p4]) (ro_Q sz (f_O_admitted_f v p2 p3 p4)) 0 0 (fun z => sz ≤ z) := by
  refine Met.ofW (cc := b_O_admitted) (maxL := 5) (ret := (some .int)) (by decide) rfl ?_
  intro p e s m args below meth c s₁ B hml hv
  obtain ⟨rfl, hsz, hP, hK, hN⟩ := hv
  have hx := B.exec
  have hb := B.bytes
  have hr := B.returns
  have hts := tl_of (atoms_spec (ws := w_O_admitted) B.pre)
  have hown : s.vm.findClass R_O = some m.cls := findClass_of_methodNamed B.named
  have hlocks := B.notSynchronized
  subst hsz
  have hA : ∀ z : Nat, s.heap.size ≤ z → (fun z : Nat => s.heap.size ≤ z) z := fun _ h => h
  have hS : va_S (fun z : Nat => s.heap.size ≤ z) s.heap s.heap [] := va_S.rf
  have hl := lv_entry ([.ref h0, .ref (qf 0), .int p2, .int p3, .int p4]) (n := 5) (Nat.le_of_ble_eq_true rfl)
  rw [lg_entry_eq]
  generalize (lg_sl ([.ref h0, .ref (qf 0), .int p2, .int p3, .int p4]) ++ List.replicate (5 - (lg_sl ([.ref h0, .ref (qf 0), .int p2, .int p3, .int p4])).length) Slot.unset).toArray = ls at hl ⊢
  have hl : lv_has ls 5 [(0, .ref h0), (1, .ref (qf 0)), (2, .int p2), (3, .int p3), (4, .int p4)] := hl
  refine lv_iload_n hx hb d_O_admitted_0 rfl (lv_at hl 2 rfl) ?_
  refine lv_if_gt (tgt := 6) hx hb d_O_admitted_1 (by decide) (fun c_1 => ?_) (fun c_1 => ?_)
  · have c_1 : (0 : Int32) < p2 := c_1
    refine lv_aload_n hx hb d_O_admitted_6 rfl (lv_at hl 0 rfl) ?_
    refine lv_iload_n hx hb d_O_admitted_7 rfl (lv_at hl 2 rfl) ?_
    refine lv_aload_n hx hb d_O_admitted_8 rfl (lv_at hl 1 rfl) ?_
    refine lv_iload_n hx hb d_O_admitted_9 rfl (lv_at hl 2 rfl) ?_
    refine lv_iload_n hx hb d_O_admitted_10 rfl (lv_at hl 3 rfl) ?_
    have hq_2 : vp_in ((p2 * (4 : Int32)) + p3) 52 := by first | with_reducible assumption | exact in_52 (by first | with_reducible assumption | exact in_has hw (by with_reducible assumption) | exact in_cls hw (by with_reducible assumption) | exact in_ifc hw (by with_reducible assumption) | exact in_ext hw (by with_reducible assumption) | exact in_eq0 (by with_reducible assumption) | exact hfd (by with_reducible assumption) | exact in_rcv hw (by with_reducible assumption) (Or.inl (by with_reducible assumption)) | exact in_rcv hw (by with_reducible assumption) (Or.inr (by with_reducible assumption))) (by first | with_reducible assumption | exact in_name (by with_reducible assumption) | exact in4_4 (by with_reducible assumption) | exact in4_5 (by with_reducible assumption) | exact in4_6 (by with_reducible assumption) | exact in4_7 (by with_reducible assumption))
    refine va_calli (va_runV (As := [.int p2, .int p3]) (rest := [.int p2, .ref h0]) ⟨hx, hb, hml, hown, hts⟩ (c_M_accessOf l dC dI kf qf s.heap.size v.2.1  p2 p3 hq_2) (cwV 2 hts k_g17 rfl rfl rfl (by decide +kernel) ⟨Nat.le_of_ble_eq_true rfl, Nat.le_of_ble_eq_true rfl⟩) ⟨fb_ro, va_recv hK hP (ci := 1) (q0 := 8) rfl rfl, fun U hU hW => ⟨rfl, by rw [hU], by rw [hU]; exact hP.sub (ws' := (wM kf qf v.2.1)) [8, 9, 10, 11, 12, 13] rfl, va_K.moved hW.alike (hK.sub (tys' := (tM kf)) [6, 7, 8, 9, 10] rfl), NX.warm hW hN⟩⟩ rfl rfl hl.1 rfl (lv_room (Nat.le_of_ble_eq_true rfl)) d_O_admitted_11 ⟨Nat.zero_le _, Nat.zero_le _⟩) hS (fun z h1 h2 => absurd h1 (Nat.not_lt.mpr h2)) (fun z h => hA z (Nat.le_trans hS.1 h)) (fun r u t H1 locs ht hvm hpo hB hz1 hk1 hS => ?_)
    subst hpo
    have hP := kp_P hP hk1
    generalize H1 = H at hP hS ⊢
    refine lv_iload hx hb d_O_admitted_14 (lv_at hl 4 rfl) ?_
    have hq_3 : vp_in p2 13 := by first | with_reducible assumption | exact in_has hw (by with_reducible assumption) | exact in_cls hw (by with_reducible assumption) | exact in_ifc hw (by with_reducible assumption) | exact in_ext hw (by with_reducible assumption) | exact in_eq0 (by with_reducible assumption) | exact hfd (by with_reducible assumption) | exact in_rcv hw (by with_reducible assumption) (Or.inl (by with_reducible assumption)) | exact in_rcv hw (by with_reducible assumption) (Or.inr (by with_reducible assumption))
    have hq_4 : vp_in p4 13 := by first | with_reducible assumption | exact in_has hw (by with_reducible assumption) | exact in_cls hw (by with_reducible assumption) | exact in_ifc hw (by with_reducible assumption) | exact in_ext hw (by with_reducible assumption) | exact in_eq0 (by with_reducible assumption) | exact hfd (by with_reducible assumption) | exact in_rcv hw (by with_reducible assumption) (Or.inl (by with_reducible assumption)) | exact in_rcv hw (by with_reducible assumption) (Or.inr (by with_reducible assumption))
    refine va_calli (va_runV (As := [.int p2, .int (f_M_accessOf v.2.1 p2 p3), .int p4]) (rest := []) ⟨hx, hb, hml, hown, hts⟩ (c_O_mayUseMember l dC dI h0 kw kf km qw qf qm H.size v lc p2 (f_M_accessOf v.2.1 p2 p3) p4 hq_3 hq_4) (cwV 3 hts k_g28 rfl rfl rfl (by decide +kernel) ⟨Nat.le_of_ble_eq_true rfl, Nat.le_of_ble_eq_true rfl⟩) ⟨fb_ro, va_recv hK hP (ci := 2) (q0 := 0) rfl rfl, fun U hU hW => ⟨rfl, by rw [hU], by rw [hU]; exact hP.sub (ws' := (wO h0 kw kf km qw qf qm v lc)) [0, 1, 2, 3, 4, 5, 6, 7, 8, 9, 10, 11, 12, 13, 14, 15, 16, 17, 18, 19] rfl, va_K.moved hW.alike (hK.sub (tys' := (tO kw kf km)) [0, 1, 2, 3, 4, 5, 6, 7, 8, 9, 10, 11, 12, 13, 14, 15] rfl), NX.warm hW hN⟩⟩ rfl rfl hl.1 rfl (lv_room (Nat.le_of_ble_eq_true rfl)) d_O_admitted_16 ⟨Nat.zero_le _, Nat.zero_le _⟩) hS (fun z h1 h2 => absurd h1 (Nat.not_lt.mpr h2)) (fun z h => hA z (Nat.le_trans hS.1 h)) (fun r u t H1 locs ht hvm hpo hB hz1 hk1 hS => ?_)
    subst hpo
    have hP := kp_P hP hk1
    generalize H1 = H at hP hS ⊢
    refine lv_if_eq (tgt := 26) hx hb d_O_admitted_19 (by decide) (fun c_5 => ?_) (fun c_5 => ?_)
    · have c_5 : (f_O_mayUseMember v p2 (f_M_accessOf v.2.1 p2 p3) p4) = (0 : Int32) := c_5
      refine lv_bipush (v := (-5 : Int32)) hx hb d_O_admitted_26 (by decide +kernel) ?_
      exact W.iret (v := (-5 : Int32)) hx hb hr (fun t ht hW => ⟨⟨(-5 : Int32), (), rfl, by unfold f_O_admitted_f; rw [if_pos c_1, if_pos c_5], trivial⟩, hS.F ht⟩) hS.2.2 d_O_admitted_28
    · have c_5 : ¬ ((f_O_mayUseMember v p2 (f_M_accessOf v.2.1 p2 p3) p4) = (0 : Int32)) := c_5
      refine lv_iload_n hx hb d_O_admitted_22 rfl (lv_at hl 2 rfl) ?_
      refine lv_goto (tgt := 28) hx hb d_O_admitted_23 (by decide) ?_
      exact W.iret (v := p2) hx hb hr (fun t ht hW => ⟨⟨p2, (), rfl, by unfold f_O_admitted_f; rw [if_pos c_1, if_neg c_5], trivial⟩, hS.F ht⟩) hS.2.2 d_O_admitted_28
  · have c_1 : ¬ ((0 : Int32) < p2) := c_1
    refine lv_iload_n hx hb d_O_admitted_4 rfl (lv_at hl 2 rfl) ?_
    exact W.iret (v := p2) hx hb hr (fun t ht hW => ⟨⟨p2, (), rfl, by unfold f_O_admitted_f; rw [if_neg c_1], trivial⟩, hS.F ht⟩) hS.2.2 d_O_admitted_5
end
section
set_option maxHeartbeats 4000000 in
set_option maxRecDepth 100000 in
theorem c_O_admitted_m (l : Launch) (dC : Nat → ClassId) (dI : Nat → Nat → Nat) (h0 : Nat) (kw kf km : Nat → ClassId) (qw qf qm : Nat → Nat) (sz : Nat) (v : ES) (lc : Int32) (p2 p3 p4 : Int32) (hfd : (0 : Int32) < p2 → vp_in p2 13) (hp3 : vp_in p3 4) (hp4 : vp_in p4 13) : Met l y_O_admitted w_O_admitted ({ frames := 3, cells := 0, slots := 0, locals := 66 } : Room) (ro_P dC dI (wO h0 kw kf km qw qf qm v lc) (tO kw kf km) sz [.ref h0, .ref (qm 0), .int p2, .int p3, .int p4]) (ro_Q sz (f_O_admitted_m v p2 p3 p4)) 0 0 (fun z => sz ≤ z) := by
  refine Met.ofW (cc := b_O_admitted) (maxL := 5) (ret := (some .int)) (by decide) rfl ?_
  intro p e s m args below meth c s₁ B hml hv
  obtain ⟨rfl, hsz, hP, hK, hN⟩ := hv
  have hx := B.exec
  have hb := B.bytes
  have hr := B.returns
  have hts := tl_of (atoms_spec (ws := w_O_admitted) B.pre)
  have hown : s.vm.findClass R_O = some m.cls := findClass_of_methodNamed B.named
  have hlocks := B.notSynchronized
  subst hsz
  have hA : ∀ z : Nat, s.heap.size ≤ z → (fun z : Nat => s.heap.size ≤ z) z := fun _ h => h
  have hS : va_S (fun z : Nat => s.heap.size ≤ z) s.heap s.heap [] := va_S.rf
  have hl := lv_entry ([.ref h0, .ref (qm 0), .int p2, .int p3, .int p4]) (n := 5) (Nat.le_of_ble_eq_true rfl)
  rw [lg_entry_eq]
  generalize (lg_sl ([.ref h0, .ref (qm 0), .int p2, .int p3, .int p4]) ++ List.replicate (5 - (lg_sl ([.ref h0, .ref (qm 0), .int p2, .int p3, .int p4])).length) Slot.unset).toArray = ls at hl ⊢
  have hl : lv_has ls 5 [(0, .ref h0), (1, .ref (qm 0)), (2, .int p2), (3, .int p3), (4, .int p4)] := hl
  refine lv_iload_n hx hb d_O_admitted_0 rfl (lv_at hl 2 rfl) ?_
  refine lv_if_gt (tgt := 6) hx hb d_O_admitted_1 (by decide) (fun c_1 => ?_) (fun c_1 => ?_)
  · have c_1 : (0 : Int32) < p2 := c_1
    refine lv_aload_n hx hb d_O_admitted_6 rfl (lv_at hl 0 rfl) ?_
    refine lv_iload_n hx hb d_O_admitted_7 rfl (lv_at hl 2 rfl) ?_
    refine lv_aload_n hx hb d_O_admitted_8 rfl (lv_at hl 1 rfl) ?_
    refine lv_iload_n hx hb d_O_admitted_9 rfl (lv_at hl 2 rfl) ?_
    refine lv_iload_n hx hb d_O_admitted_10 rfl (lv_at hl 3 rfl) ?_
    have hq_2 : vp_in ((p2 * (4 : Int32)) + p3) 52 := by first | with_reducible assumption | exact in_52 (by first | with_reducible assumption | exact in_has hw (by with_reducible assumption) | exact in_cls hw (by with_reducible assumption) | exact in_ifc hw (by with_reducible assumption) | exact in_ext hw (by with_reducible assumption) | exact in_eq0 (by with_reducible assumption) | exact hfd (by with_reducible assumption) | exact in_rcv hw (by with_reducible assumption) (Or.inl (by with_reducible assumption)) | exact in_rcv hw (by with_reducible assumption) (Or.inr (by with_reducible assumption))) (by first | with_reducible assumption | exact in_name (by with_reducible assumption) | exact in4_4 (by with_reducible assumption) | exact in4_5 (by with_reducible assumption) | exact in4_6 (by with_reducible assumption) | exact in4_7 (by with_reducible assumption))
    refine va_calli (va_runV (As := [.int p2, .int p3]) (rest := [.int p2, .ref h0]) ⟨hx, hb, hml, hown, hts⟩ (c_M_accessOf l dC dI km qm s.heap.size v.2.2  p2 p3 hq_2) (cwV 2 hts k_g17 rfl rfl rfl (by decide +kernel) ⟨Nat.le_of_ble_eq_true rfl, Nat.le_of_ble_eq_true rfl⟩) ⟨fb_ro, va_recv hK hP (ci := 1) (q0 := 14) rfl rfl, fun U hU hW => ⟨rfl, by rw [hU], by rw [hU]; exact hP.sub (ws' := (wM km qm v.2.2)) [14, 15, 16, 17, 18, 19] rfl, va_K.moved hW.alike (hK.sub (tys' := (tM km)) [11, 12, 13, 14, 15] rfl), NX.warm hW hN⟩⟩ rfl rfl hl.1 rfl (lv_room (Nat.le_of_ble_eq_true rfl)) d_O_admitted_11 ⟨Nat.zero_le _, Nat.zero_le _⟩) hS (fun z h1 h2 => absurd h1 (Nat.not_lt.mpr h2)) (fun z h => hA z (Nat.le_trans hS.1 h)) (fun r u t H1 locs ht hvm hpo hB hz1 hk1 hS => ?_)
    subst hpo
    have hP := kp_P hP hk1
    generalize H1 = H at hP hS ⊢
    refine lv_iload hx hb d_O_admitted_14 (lv_at hl 4 rfl) ?_
    have hq_3 : vp_in p2 13 := by first | with_reducible assumption | exact in_has hw (by with_reducible assumption) | exact in_cls hw (by with_reducible assumption) | exact in_ifc hw (by with_reducible assumption) | exact in_ext hw (by with_reducible assumption) | exact in_eq0 (by with_reducible assumption) | exact hfd (by with_reducible assumption) | exact in_rcv hw (by with_reducible assumption) (Or.inl (by with_reducible assumption)) | exact in_rcv hw (by with_reducible assumption) (Or.inr (by with_reducible assumption))
    have hq_4 : vp_in p4 13 := by first | with_reducible assumption | exact in_has hw (by with_reducible assumption) | exact in_cls hw (by with_reducible assumption) | exact in_ifc hw (by with_reducible assumption) | exact in_ext hw (by with_reducible assumption) | exact in_eq0 (by with_reducible assumption) | exact hfd (by with_reducible assumption) | exact in_rcv hw (by with_reducible assumption) (Or.inl (by with_reducible assumption)) | exact in_rcv hw (by with_reducible assumption) (Or.inr (by with_reducible assumption))
    refine va_calli (va_runV (As := [.int p2, .int (f_M_accessOf v.2.2 p2 p3), .int p4]) (rest := []) ⟨hx, hb, hml, hown, hts⟩ (c_O_mayUseMember l dC dI h0 kw kf km qw qf qm H.size v lc p2 (f_M_accessOf v.2.2 p2 p3) p4 hq_3 hq_4) (cwV 3 hts k_g28 rfl rfl rfl (by decide +kernel) ⟨Nat.le_of_ble_eq_true rfl, Nat.le_of_ble_eq_true rfl⟩) ⟨fb_ro, va_recv hK hP (ci := 2) (q0 := 0) rfl rfl, fun U hU hW => ⟨rfl, by rw [hU], by rw [hU]; exact hP.sub (ws' := (wO h0 kw kf km qw qf qm v lc)) [0, 1, 2, 3, 4, 5, 6, 7, 8, 9, 10, 11, 12, 13, 14, 15, 16, 17, 18, 19] rfl, va_K.moved hW.alike (hK.sub (tys' := (tO kw kf km)) [0, 1, 2, 3, 4, 5, 6, 7, 8, 9, 10, 11, 12, 13, 14, 15] rfl), NX.warm hW hN⟩⟩ rfl rfl hl.1 rfl (lv_room (Nat.le_of_ble_eq_true rfl)) d_O_admitted_16 ⟨Nat.zero_le _, Nat.zero_le _⟩) hS (fun z h1 h2 => absurd h1 (Nat.not_lt.mpr h2)) (fun z h => hA z (Nat.le_trans hS.1 h)) (fun r u t H1 locs ht hvm hpo hB hz1 hk1 hS => ?_)
    subst hpo
    have hP := kp_P hP hk1
    generalize H1 = H at hP hS ⊢
    refine lv_if_eq (tgt := 26) hx hb d_O_admitted_19 (by decide) (fun c_5 => ?_) (fun c_5 => ?_)
    · have c_5 : (f_O_mayUseMember v p2 (f_M_accessOf v.2.2 p2 p3) p4) = (0 : Int32) := c_5
      refine lv_bipush (v := (-5 : Int32)) hx hb d_O_admitted_26 (by decide +kernel) ?_
      exact W.iret (v := (-5 : Int32)) hx hb hr (fun t ht hW => ⟨⟨(-5 : Int32), (), rfl, by unfold f_O_admitted_m; rw [if_pos c_1, if_pos c_5], trivial⟩, hS.F ht⟩) hS.2.2 d_O_admitted_28
    · have c_5 : ¬ ((f_O_mayUseMember v p2 (f_M_accessOf v.2.2 p2 p3) p4) = (0 : Int32)) := c_5
      refine lv_iload_n hx hb d_O_admitted_22 rfl (lv_at hl 2 rfl) ?_
      refine lv_goto (tgt := 28) hx hb d_O_admitted_23 (by decide) ?_
      exact W.iret (v := p2) hx hb hr (fun t ht hW => ⟨⟨p2, (), rfl, by unfold f_O_admitted_m; rw [if_pos c_1, if_neg c_5], trivial⟩, hS.F ht⟩) hS.2.2 d_O_admitted_28
  · have c_1 : ¬ ((0 : Int32) < p2) := c_1
    refine lv_iload_n hx hb d_O_admitted_4 rfl (lv_at hl 2 rfl) ?_
    exact W.iret (v := p2) hx hb hr (fun t ht hW => ⟨⟨p2, (), rfl, by unfold f_O_admitted_m; rw [if_neg c_1], trivial⟩, hS.F ht⟩) hS.2.2 d_O_admitted_5
end
section
set_option maxHeartbeats 4000000 in
set_option maxRecDepth 100000 in
theorem c_O_findField (l : Launch) (dC : Nat → ClassId) (dI : Nat → Nat → Nat) (h0 : Nat) (kw kf km : Nat → ClassId) (qw qf qm : Nat → Nat) (sz : Nat) (v : ES) (lc : Int32) (p1 p2 p3 : Int32) (hw : WF v.1) (hp1 : vp_in p1 13) (hp2 : vp_in p2 13) (hp3 : vp_in p3 4) : Met l y_O_findField w_O_findField ({ frames := 3, cells := 0, slots := 0, locals := 70 } : Room) (ro_P dC dI (wO h0 kw kf km qw qf qm v lc) (tO kw kf km) sz [.ref h0, .int p1, .int p2, .int p3]) (ro_Q sz (f_O_findField v p1 p2 p3)) 0 0 (fun z => sz ≤ z) := by
  refine Met.ofW (cc := b_O_findField) (maxL := 5) (ret := (some .int)) (by decide) rfl ?_
  intro p e s m args below meth c s₁ B hml hv
  obtain ⟨rfl, hsz, hP, hK, hN⟩ := hv
  have hx := B.exec
  have hb := B.bytes
  have hr := B.returns
  have hts := tl_of (atoms_spec (ws := w_O_findField) B.pre)
  have hown : s.vm.findClass R_O = some m.cls := findClass_of_methodNamed B.named
  have hlocks := B.notSynchronized
  subst hsz
  have hA : ∀ z : Nat, s.heap.size ≤ z → (fun z : Nat => s.heap.size ≤ z) z := fun _ h => h
  have hS : va_S (fun z : Nat => s.heap.size ≤ z) s.heap s.heap [] := va_S.rf
  have hl := lv_entry ([.ref h0, .int p1, .int p2, .int p3]) (n := 5) (Nat.le_of_ble_eq_true rfl)
  rw [lg_entry_eq]
  generalize (lg_sl ([.ref h0, .int p1, .int p2, .int p3]) ++ List.replicate (5 - (lg_sl ([.ref h0, .int p1, .int p2, .int p3])).length) Slot.unset).toArray = ls at hl ⊢
  have hl : lv_has ls 5 [(0, .ref h0), (1, .int p1), (2, .int p2), (3, .int p3)] := hl
  refine lv_aload_n hx hb d_O_findField_0 rfl (lv_at hl 0 rfl) ?_
  refine va_get (D := (dC, dI)) (ci := 2) (v := .ref (qw 0)) (C := R_O) (T := F_O) (N := 4) hx hb hts i_O hown hK hP 0 rfl rfl 0 (by decide) (hts _ k_22) (fun _ h9 => h9) rfl d_O_findField_1 ?_
  refine lv_iload_n hx hb d_O_findField_4 rfl (lv_at hl 2 rfl) ?_
  refine lv_iload_n hx hb d_O_findField_5 rfl (lv_at hl 1 rfl) ?_
  have hq_1 : vp_in p2 13 := by first | with_reducible assumption | exact in_has hw (by with_reducible assumption) | exact in_cls hw (by with_reducible assumption) | exact in_ifc hw (by with_reducible assumption) | exact in_ext hw (by with_reducible assumption) | exact in_eq0 (by with_reducible assumption) | exact hfd (by with_reducible assumption) | exact in_rcv hw (by with_reducible assumption) (Or.inl (by with_reducible assumption)) | exact in_rcv hw (by with_reducible assumption) (Or.inr (by with_reducible assumption))
  have hq_2 : vp_in p1 13 := by first | with_reducible assumption | exact in_has hw (by with_reducible assumption) | exact in_cls hw (by with_reducible assumption) | exact in_ifc hw (by with_reducible assumption) | exact in_ext hw (by with_reducible assumption) | exact in_eq0 (by with_reducible assumption) | exact hfd (by with_reducible assumption) | exact in_rcv hw (by with_reducible assumption) (Or.inl (by with_reducible assumption)) | exact in_rcv hw (by with_reducible assumption) (Or.inr (by with_reducible assumption))
  refine va_calli (va_runV (As := [.int p2, .int p1]) (rest := []) ⟨hx, hb, hml, hown, hts⟩ (c_W_mayUseType l dC dI kw qw s.heap.size v.1  p2 p1 hq_1 hq_2) (cwV 2 hts k_g29 rfl rfl rfl (by decide +kernel) ⟨Nat.le_of_ble_eq_true rfl, Nat.le_of_ble_eq_true rfl⟩) ⟨fb_ro, va_recv hK hP (ci := 0) (q0 := 1) rfl rfl, fun U hU hW => ⟨rfl, by rw [hU], by rw [hU]; exact hP.sub (ws' := (wW kw qw v.1)) [1, 2, 3, 4, 5, 6, 7] rfl, va_K.moved hW.alike (hK.sub (tys' := (tW kw)) [0, 1, 2, 3, 4, 5] rfl), NX.warm hW hN⟩⟩ rfl rfl hl.1 rfl (lv_room (Nat.le_of_ble_eq_true rfl)) d_O_findField_6 ⟨Nat.zero_le _, Nat.zero_le _⟩) hS (fun z h1 h2 => absurd h1 (Nat.not_lt.mpr h2)) (fun z h => hA z (Nat.le_trans hS.1 h)) (fun r u t H1 locs ht hvm hpo hB hz1 hk1 hS => ?_)
  subst hpo
  have hP := kp_P hP hk1
  generalize H1 = H at hP hS ⊢
  refine lv_if_ne (tgt := 15) hx hb d_O_findField_9 (by decide) (fun c_3 => ?_) (fun c_3 => ?_)
  · have c_3 : ¬ ((f_W_mayUseType v.1 p2 p1) = (0 : Int32)) := c_3
    refine lv_aload_n hx hb d_O_findField_15 rfl (lv_at hl 0 rfl) ?_
    refine va_get (D := (dC, dI)) (ci := 2) (v := .ref (qw 0)) (C := R_O) (T := F_O) (N := 4) hx hb hts i_O hown hK hP 0 rfl rfl 0 (by decide) (hts _ k_22) (fun _ h9 => h9) rfl d_O_findField_16 ?_
    refine lv_iload_n hx hb d_O_findField_19 rfl (lv_at hl 2 rfl) ?_
    refine lv_aload_n hx hb d_O_findField_20 rfl (lv_at hl 0 rfl) ?_
    refine va_get (D := (dC, dI)) (ci := 2) (v := .ref (qf 0)) (C := R_O) (T := F_O) (N := 4) hx hb hts i_O hown hK hP 0 rfl rfl 1 (by decide) (hts _ k_27) (fun _ h9 => h9) rfl d_O_findField_21 ?_
    refine lv_iload_n hx hb d_O_findField_24 rfl (lv_at hl 3 rfl) ?_
    have hq_4 : vp_in p3 4 := by first | with_reducible assumption | exact in_name (by with_reducible assumption) | exact in4_4 (by with_reducible assumption) | exact in4_5 (by with_reducible assumption) | exact in4_6 (by with_reducible assumption) | exact in4_7 (by with_reducible assumption)
    refine va_calli (va_runV (As := [.int p3]) (rest := [.int p2, .ref (qw 0)]) ⟨hx, hb, hml, hown, hts⟩ (c_M_owners l dC dI kf qf H.size v.2.1  p3 hq_4) (cwV 1 hts k_g30 rfl rfl rfl (by decide +kernel) ⟨Nat.le_of_ble_eq_true rfl, Nat.le_of_ble_eq_true rfl⟩) ⟨fb_ro, va_recv hK hP (ci := 1) (q0 := 8) rfl rfl, fun U hU hW => ⟨rfl, by rw [hU], by rw [hU]; exact hP.sub (ws' := (wM kf qf v.2.1)) [8, 9, 10, 11, 12, 13] rfl, va_K.moved hW.alike (hK.sub (tys' := (tM kf)) [6, 7, 8, 9, 10] rfl), NX.warm hW hN⟩⟩ rfl rfl hl.1 rfl (lv_room (Nat.le_of_ble_eq_true rfl)) d_O_findField_25 ⟨Nat.zero_le _, Nat.zero_le _⟩) hS (fun z h1 h2 => absurd h1 (Nat.not_lt.mpr h2)) (fun z h => hA z (Nat.le_trans hS.1 h)) (fun r u t H1 locs ht hvm hpo hB hz1 hk1 hS => ?_)
    subst hpo
    have hP := kp_P hP hk1
    generalize H1 = H at hP hS ⊢
    have hq_5 : WF v.1 := by first | with_reducible assumption | exact hw
    have hq_6 : vp_in p2 13 := by first | with_reducible assumption | exact in_has hw (by with_reducible assumption) | exact in_cls hw (by with_reducible assumption) | exact in_ifc hw (by with_reducible assumption) | exact in_ext hw (by with_reducible assumption) | exact in_eq0 (by with_reducible assumption) | exact hfd (by with_reducible assumption) | exact in_rcv hw (by with_reducible assumption) (Or.inl (by with_reducible assumption)) | exact in_rcv hw (by with_reducible assumption) (Or.inr (by with_reducible assumption))
    refine va_calli (va_runV (As := [.int p2, .int (f_M_owners v.2.1 p3)]) (rest := []) ⟨hx, hb, hml, hown, hts⟩ (c_W_search l dC dI kw qw H.size v.1  p2 (f_M_owners v.2.1 p3) hq_5 hq_6) (cwV 2 hts k_g31 rfl rfl rfl (by decide +kernel) ⟨Nat.le_of_ble_eq_true rfl, Nat.le_of_ble_eq_true rfl⟩) ⟨fb_ro, va_recv hK hP (ci := 0) (q0 := 1) rfl rfl, fun U hU hW => ⟨rfl, by rw [hU], by rw [hU]; exact hP.sub (ws' := (wW kw qw v.1)) [1, 2, 3, 4, 5, 6, 7] rfl, va_K.moved hW.alike (hK.sub (tys' := (tW kw)) [0, 1, 2, 3, 4, 5] rfl), NX.warm hW hN⟩⟩ rfl rfl hl.1 rfl (lv_room (Nat.le_of_ble_eq_true rfl)) d_O_findField_28 ⟨Nat.zero_le _, Nat.zero_le _⟩) hS (fun z h1 h2 => absurd h1 (Nat.not_lt.mpr h2)) (fun z h => hA z (Nat.le_trans hS.1 h)) (fun r u t H1 locs ht hvm hpo hB hz1 hk1 hS => ?_)
    subst hpo
    have hP := kp_P hP hk1
    generalize H1 = H at hP hS ⊢
    refine lv_istore (lv' := [(4, .int (f_W_search v.1 p2 (f_M_owners v.2.1 p3))), (0, .ref h0), (1, .int p1), (2, .int p2), (3, .int p3)]) hx hb d_O_findField_31 hl (by decide) rfl (fun ls hl => ?_)
    refine lv_iload hx hb d_O_findField_33 (lv_at hl 0 rfl) ?_
    refine lv_if_ne (tgt := 43) hx hb d_O_findField_35 (by decide) (fun c_7 => ?_) (fun c_7 => ?_)
    · have c_7 : ¬ ((f_W_search v.1 p2 (f_M_owners v.2.1 p3)) = (0 : Int32)) := c_7
      refine lv_iload hx hb d_O_findField_43 (lv_at hl 0 rfl) ?_
      exact W.iret (v := (f_W_search v.1 p2 (f_M_owners v.2.1 p3))) hx hb hr (fun t ht hW => ⟨⟨(f_W_search v.1 p2 (f_M_owners v.2.1 p3)), (), rfl, by unfold f_O_findField; rw [if_neg c_3, if_neg c_7], trivial⟩, hS.F ht⟩) hS.2.2 d_O_findField_45
    · have c_7 : (f_W_search v.1 p2 (f_M_owners v.2.1 p3)) = (0 : Int32) := c_7
      refine lv_bipush (v := (-3 : Int32)) hx hb d_O_findField_38 (by decide +kernel) ?_
      refine lv_goto (tgt := 45) hx hb d_O_findField_40 (by decide) ?_
      exact W.iret (v := (-3 : Int32)) hx hb hr (fun t ht hW => ⟨⟨(-3 : Int32), (), rfl, by unfold f_O_findField; rw [if_neg c_3, if_pos c_7], trivial⟩, hS.F ht⟩) hS.2.2 d_O_findField_45
  · have c_3 : (f_W_mayUseType v.1 p2 p1) = (0 : Int32) := c_3
    refine lv_bipush (v := (-5 : Int32)) hx hb d_O_findField_12 (by decide +kernel) ?_
    exact W.iret (v := (-5 : Int32)) hx hb hr (fun t ht hW => ⟨⟨(-5 : Int32), (), rfl, by unfold f_O_findField; rw [if_pos c_3], trivial⟩, hS.F ht⟩) hS.2.2 d_O_findField_14
end
section
set_option maxHeartbeats 4000000 in
set_option maxRecDepth 100000 in
theorem c_O_isReceiver (l : Launch) (dC : Nat → ClassId) (dI : Nat → Nat → Nat) (h0 : Nat) (kw kf km : Nat → ClassId) (qw qf qm : Nat → Nat) (sz : Nat) (v : ES) (lc : Int32) (p1 p2 p3 p4 : Int32) (hw : WF v.1) (hp2 : vp_in p2 13) (hp3 : vp_in p3 13) : Met l y_O_isReceiver w_O_isReceiver ({ frames := 2, cells := 0, slots := 0, locals := 43 } : Room) (ro_P dC dI (wO h0 kw kf km qw qf qm v lc) (tO kw kf km) sz [.ref h0, .int p1, .int p2, .int p3, .int p4]) (ro_Q sz (f_O_isReceiver v p1 p2 p3 p4)) 0 0 (fun z => sz ≤ z) := by
  refine Met.ofW (cc := b_O_isReceiver) (maxL := 5) (ret := (some .boolean)) (by decide) rfl ?_
  intro p e s m args below meth c s₁ B hml hv
  obtain ⟨rfl, hsz, hP, hK, hN⟩ := hv
  have hx := B.exec
  have hb := B.bytes
  have hr := B.returns
  have hts := tl_of (atoms_spec (ws := w_O_isReceiver) B.pre)
  have hown : s.vm.findClass R_O = some m.cls := findClass_of_methodNamed B.named
  have hlocks := B.notSynchronized
  subst hsz
  have hA : ∀ z : Nat, s.heap.size ≤ z → (fun z : Nat => s.heap.size ≤ z) z := fun _ h => h
  have hS : va_S (fun z : Nat => s.heap.size ≤ z) s.heap s.heap [] := va_S.rf
  have hl := lv_entry ([.ref h0, .int p1, .int p2, .int p3, .int p4]) (n := 5) (Nat.le_of_ble_eq_true rfl)
  rw [lg_entry_eq]
  generalize (lg_sl ([.ref h0, .int p1, .int p2, .int p3, .int p4]) ++ List.replicate (5 - (lg_sl ([.ref h0, .int p1, .int p2, .int p3, .int p4])).length) Slot.unset).toArray = ls at hl ⊢
  have hl : lv_has ls 5 [(0, .ref h0), (1, .int p1), (2, .int p2), (3, .int p3), (4, .int p4)] := hl
  refine lv_iload_n hx hb d_O_isReceiver_0 rfl (lv_at hl 1 rfl) ?_
  by_cases c_1 : p1 = (0 : Int32)
  · refine lv_tableIn (tgt := 32) (off := 31) hx hb d_O_isReceiver_1 (by rw [c_1]; decide +kernel) (by rw [c_1]; decide +kernel) (by rw [c_1]; rfl) (by decide) ?_
    refine lv_aload_n hx hb d_O_isReceiver_32 rfl (lv_at hl 0 rfl) ?_
    refine va_get (D := (dC, dI)) (ci := 2) (v := .ref (qw 0)) (C := R_O) (T := F_O) (N := 4) hx hb hts i_O hown hK hP 0 rfl rfl 0 (by decide) (hts _ k_22) (fun _ h9 => h9) rfl d_O_isReceiver_33 ?_
    refine lv_iload hx hb d_O_isReceiver_36 (lv_at hl 4 rfl) ?_
    refine va_calli (va_runV (As := [.int p4]) (rest := []) ⟨hx, hb, hml, hown, hts⟩ (c_W_isClass l dC dI kw qw s.heap.size v.1  p4) (cwV 1 hts k_g32 rfl rfl rfl (by decide +kernel) ⟨Nat.le_of_ble_eq_true rfl, Nat.le_of_ble_eq_true rfl⟩) ⟨fb_ro, va_recv hK hP (ci := 0) (q0 := 1) rfl rfl, fun U hU hW => ⟨rfl, by rw [hU], by rw [hU]; exact hP.sub (ws' := (wW kw qw v.1)) [1, 2, 3, 4, 5, 6, 7] rfl, va_K.moved hW.alike (hK.sub (tys' := (tW kw)) [0, 1, 2, 3, 4, 5] rfl), NX.warm hW hN⟩⟩ rfl rfl hl.1 rfl (lv_room (Nat.le_of_ble_eq_true rfl)) d_O_isReceiver_38 ⟨Nat.zero_le _, Nat.zero_le _⟩) hS (fun z h1 h2 => absurd h1 (Nat.not_lt.mpr h2)) (fun z h => hA z (Nat.le_trans hS.1 h)) (fun r u t H1 locs ht hvm hpo hB hz1 hk1 hS => ?_)
    subst hpo
    have hP := kp_P hP hk1
    generalize H1 = H at hP hS ⊢
    refine lv_if_eq (tgt := 61) hx hb d_O_isReceiver_41 (by decide) (fun c_2 => ?_) (fun c_2 => ?_)
    · have c_2 : (f_W_isClass v.1 p4) = (0 : Int32) := c_2
      refine lv_iconst (v := (0 : Int32)) hx hb d_O_isReceiver_61 (by decide +kernel) ?_
      exact W.zret (v := (0 : Int32)) hx hb hr (by decide +kernel) (fun t ht hW => ⟨⟨(0 : Int32), (), rfl, by unfold f_O_isReceiver; rw [if_pos c_1, if_pos c_2], trivial⟩, hS.F ht⟩) hS.2.2 d_O_isReceiver_62
    · have c_2 : ¬ ((f_W_isClass v.1 p4) = (0 : Int32)) := c_2
      refine lv_aload_n hx hb d_O_isReceiver_44 rfl (lv_at hl 0 rfl) ?_
      refine va_get (D := (dC, dI)) (ci := 2) (v := .ref (qw 0)) (C := R_O) (T := F_O) (N := 4) hx hb hts i_O hown hK hP 0 rfl rfl 0 (by decide) (hts _ k_22) (fun _ h9 => h9) rfl d_O_isReceiver_45 ?_
      refine lv_iload hx hb d_O_isReceiver_48 (lv_at hl 4 rfl) ?_
      refine lv_iload_n hx hb d_O_isReceiver_50 rfl (lv_at hl 2 rfl) ?_
      have hq_3 : vp_in p4 13 := by first | with_reducible assumption | exact in_has hw (by with_reducible assumption) | exact in_cls hw (by with_reducible assumption) | exact in_ifc hw (by with_reducible assumption) | exact in_ext hw (by with_reducible assumption) | exact in_eq0 (by with_reducible assumption) | exact hfd (by with_reducible assumption) | exact in_rcv hw (by with_reducible assumption) (Or.inl (by with_reducible assumption)) | exact in_rcv hw (by with_reducible assumption) (Or.inr (by with_reducible assumption))
      refine va_calli (va_runV (As := [.int p4, .int p2]) (rest := []) ⟨hx, hb, hml, hown, hts⟩ (c_W_isKindOf l dC dI kw qw H.size v.1  p4 p2 hq_3) (cwV 2 hts k_g26 rfl rfl rfl (by decide +kernel) ⟨Nat.le_of_ble_eq_true rfl, Nat.le_of_ble_eq_true rfl⟩) ⟨fb_ro, va_recv hK hP (ci := 0) (q0 := 1) rfl rfl, fun U hU hW => ⟨rfl, by rw [hU], by rw [hU]; exact hP.sub (ws' := (wW kw qw v.1)) [1, 2, 3, 4, 5, 6, 7] rfl, va_K.moved hW.alike (hK.sub (tys' := (tW kw)) [0, 1, 2, 3, 4, 5] rfl), NX.warm hW hN⟩⟩ rfl rfl hl.1 rfl (lv_room (Nat.le_of_ble_eq_true rfl)) d_O_isReceiver_51 ⟨Nat.zero_le _, Nat.zero_le _⟩) hS (fun z h1 h2 => absurd h1 (Nat.not_lt.mpr h2)) (fun z h => hA z (Nat.le_trans hS.1 h)) (fun r u t H1 locs ht hvm hpo hB hz1 hk1 hS => ?_)
      subst hpo
      have hP := kp_P hP hk1
      generalize H1 = H at hP hS ⊢
      refine lv_if_eq (tgt := 61) hx hb d_O_isReceiver_54 (by decide) (fun c_4 => ?_) (fun c_4 => ?_)
      · have c_4 : (f_W_isKindOf v.1 p4 p2) = (0 : Int32) := c_4
        refine lv_iconst (v := (0 : Int32)) hx hb d_O_isReceiver_61 (by decide +kernel) ?_
        exact W.zret (v := (0 : Int32)) hx hb hr (by decide +kernel) (fun t ht hW => ⟨⟨(0 : Int32), (), rfl, by unfold f_O_isReceiver; rw [if_pos c_1, if_neg c_2, if_pos c_4], trivial⟩, hS.F ht⟩) hS.2.2 d_O_isReceiver_62
      · have c_4 : ¬ ((f_W_isKindOf v.1 p4 p2) = (0 : Int32)) := c_4
        refine lv_iconst (v := (1 : Int32)) hx hb d_O_isReceiver_57 (by decide +kernel) ?_
        refine lv_goto (tgt := 62) hx hb d_O_isReceiver_58 (by decide) ?_
        exact W.zret (v := (1 : Int32)) hx hb hr (by decide +kernel) (fun t ht hW => ⟨⟨(1 : Int32), (), rfl, by unfold f_O_isReceiver; rw [if_pos c_1, if_neg c_2, if_neg c_4], trivial⟩, hS.F ht⟩) hS.2.2 d_O_isReceiver_62
  · skip
    by_cases c_5 : p1 = (1 : Int32)
    · refine lv_tableIn (tgt := 63) (off := 62) hx hb d_O_isReceiver_1 (by rw [c_5]; decide +kernel) (by rw [c_5]; decide +kernel) (by rw [c_5]; rfl) (by decide) ?_
      refine lv_aload_n hx hb d_O_isReceiver_63 rfl (lv_at hl 0 rfl) ?_
      refine va_get (D := (dC, dI)) (ci := 2) (v := .ref (qw 0)) (C := R_O) (T := F_O) (N := 4) hx hb hts i_O hown hK hP 0 rfl rfl 0 (by decide) (hts _ k_22) (fun _ h9 => h9) rfl d_O_isReceiver_64 ?_
      refine lv_iload hx hb d_O_isReceiver_67 (lv_at hl 4 rfl) ?_
      refine va_calli (va_runV (As := [.int p4]) (rest := []) ⟨hx, hb, hml, hown, hts⟩ (c_W_isClass l dC dI kw qw s.heap.size v.1  p4) (cwV 1 hts k_g32 rfl rfl rfl (by decide +kernel) ⟨Nat.le_of_ble_eq_true rfl, Nat.le_of_ble_eq_true rfl⟩) ⟨fb_ro, va_recv hK hP (ci := 0) (q0 := 1) rfl rfl, fun U hU hW => ⟨rfl, by rw [hU], by rw [hU]; exact hP.sub (ws' := (wW kw qw v.1)) [1, 2, 3, 4, 5, 6, 7] rfl, va_K.moved hW.alike (hK.sub (tys' := (tW kw)) [0, 1, 2, 3, 4, 5] rfl), NX.warm hW hN⟩⟩ rfl rfl hl.1 rfl (lv_room (Nat.le_of_ble_eq_true rfl)) d_O_isReceiver_69 ⟨Nat.zero_le _, Nat.zero_le _⟩) hS (fun z h1 h2 => absurd h1 (Nat.not_lt.mpr h2)) (fun z h => hA z (Nat.le_trans hS.1 h)) (fun r u t H1 locs ht hvm hpo hB hz1 hk1 hS => ?_)
      subst hpo
      have hP := kp_P hP hk1
      generalize H1 = H at hP hS ⊢
      exact W.zret (v := (f_W_isClass v.1 p4)) hx hb hr (z_W_isClass) (fun t ht hW => ⟨⟨(f_W_isClass v.1 p4), (), rfl, by unfold f_O_isReceiver; rw [if_neg c_1, if_pos c_5], trivial⟩, hS.F ht⟩) hS.2.2 d_O_isReceiver_72
    · skip
      by_cases c_6 : p1 = (2 : Int32)
      · refine lv_tableIn (tgt := 73) (off := 72) hx hb d_O_isReceiver_1 (by rw [c_6]; decide +kernel) (by rw [c_6]; decide +kernel) (by rw [c_6]; rfl) (by decide) ?_
        refine lv_iload hx hb d_O_isReceiver_73 (lv_at hl 4 rfl) ?_
        refine lv_if_ne (tgt := 94) hx hb d_O_isReceiver_75 (by decide) (fun c_7 => ?_) (fun c_7 => ?_)
        · have c_7 : ¬ (p4 = (0 : Int32)) := c_7
          refine lv_iconst (v := (0 : Int32)) hx hb d_O_isReceiver_94 (by decide +kernel) ?_
          exact W.zret (v := (0 : Int32)) hx hb hr (by decide +kernel) (fun t ht hW => ⟨⟨(0 : Int32), (), rfl, by unfold f_O_isReceiver; rw [if_neg c_1, if_neg c_5, if_pos c_6, if_neg c_7], trivial⟩, hS.F ht⟩) hS.2.2 d_O_isReceiver_95
        · have c_7 : p4 = (0 : Int32) := c_7
          refine lv_aload_n hx hb d_O_isReceiver_78 rfl (lv_at hl 0 rfl) ?_
          refine va_get (D := (dC, dI)) (ci := 2) (v := .ref (qw 0)) (C := R_O) (T := F_O) (N := 4) hx hb hts i_O hown hK hP 0 rfl rfl 0 (by decide) (hts _ k_22) (fun _ h9 => h9) rfl d_O_isReceiver_79 ?_
          refine lv_iload_n hx hb d_O_isReceiver_82 rfl (lv_at hl 3 rfl) ?_
          refine lv_iload_n hx hb d_O_isReceiver_83 rfl (lv_at hl 2 rfl) ?_
          have hq_8 : vp_in p3 13 := by first | with_reducible assumption | exact in_has hw (by with_reducible assumption) | exact in_cls hw (by with_reducible assumption) | exact in_ifc hw (by with_reducible assumption) | exact in_ext hw (by with_reducible assumption) | exact in_eq0 (by with_reducible assumption) | exact hfd (by with_reducible assumption) | exact in_rcv hw (by with_reducible assumption) (Or.inl (by with_reducible assumption)) | exact in_rcv hw (by with_reducible assumption) (Or.inr (by with_reducible assumption))
          refine va_calli (va_runV (As := [.int p3, .int p2]) (rest := []) ⟨hx, hb, hml, hown, hts⟩ (c_W_isKindOf l dC dI kw qw s.heap.size v.1  p3 p2 hq_8) (cwV 2 hts k_g26 rfl rfl rfl (by decide +kernel) ⟨Nat.le_of_ble_eq_true rfl, Nat.le_of_ble_eq_true rfl⟩) ⟨fb_ro, va_recv hK hP (ci := 0) (q0 := 1) rfl rfl, fun U hU hW => ⟨rfl, by rw [hU], by rw [hU]; exact hP.sub (ws' := (wW kw qw v.1)) [1, 2, 3, 4, 5, 6, 7] rfl, va_K.moved hW.alike (hK.sub (tys' := (tW kw)) [0, 1, 2, 3, 4, 5] rfl), NX.warm hW hN⟩⟩ rfl rfl hl.1 rfl (lv_room (Nat.le_of_ble_eq_true rfl)) d_O_isReceiver_84 ⟨Nat.zero_le _, Nat.zero_le _⟩) hS (fun z h1 h2 => absurd h1 (Nat.not_lt.mpr h2)) (fun z h => hA z (Nat.le_trans hS.1 h)) (fun r u t H1 locs ht hvm hpo hB hz1 hk1 hS => ?_)
          subst hpo
          have hP := kp_P hP hk1
          generalize H1 = H at hP hS ⊢
          refine lv_if_eq (tgt := 94) hx hb d_O_isReceiver_87 (by decide) (fun c_9 => ?_) (fun c_9 => ?_)
          · have c_9 : (f_W_isKindOf v.1 p3 p2) = (0 : Int32) := c_9
            refine lv_iconst (v := (0 : Int32)) hx hb d_O_isReceiver_94 (by decide +kernel) ?_
            exact W.zret (v := (0 : Int32)) hx hb hr (by decide +kernel) (fun t ht hW => ⟨⟨(0 : Int32), (), rfl, by unfold f_O_isReceiver; rw [if_neg c_1, if_neg c_5, if_pos c_6, if_pos c_7, if_pos c_9], trivial⟩, hS.F ht⟩) hS.2.2 d_O_isReceiver_95
          · have c_9 : ¬ ((f_W_isKindOf v.1 p3 p2) = (0 : Int32)) := c_9
            refine lv_iconst (v := (1 : Int32)) hx hb d_O_isReceiver_90 (by decide +kernel) ?_
            refine lv_goto (tgt := 95) hx hb d_O_isReceiver_91 (by decide) ?_
            exact W.zret (v := (1 : Int32)) hx hb hr (by decide +kernel) (fun t ht hW => ⟨⟨(1 : Int32), (), rfl, by unfold f_O_isReceiver; rw [if_neg c_1, if_neg c_5, if_pos c_6, if_pos c_7, if_neg c_9], trivial⟩, hS.F ht⟩) hS.2.2 d_O_isReceiver_95
      · skip
        by_cases c_10 : p1 = (3 : Int32)
        · refine lv_tableIn (tgt := 96) (off := 95) hx hb d_O_isReceiver_1 (by rw [c_10]; decide +kernel) (by rw [c_10]; decide +kernel) (by rw [c_10]; rfl) (by decide) ?_
          refine lv_iload hx hb d_O_isReceiver_96 (lv_at hl 4 rfl) ?_
          refine lv_if_ne (tgt := 105) hx hb d_O_isReceiver_98 (by decide) (fun c_11 => ?_) (fun c_11 => ?_)
          · have c_11 : ¬ (p4 = (0 : Int32)) := c_11
            refine lv_iconst (v := (0 : Int32)) hx hb d_O_isReceiver_105 (by decide +kernel) ?_
            exact W.zret (v := (0 : Int32)) hx hb hr (by decide +kernel) (fun t ht hW => ⟨⟨(0 : Int32), (), rfl, by unfold f_O_isReceiver; rw [if_neg c_1, if_neg c_5, if_neg c_6, if_pos c_10, if_neg c_11], trivial⟩, hS.F ht⟩) hS.2.2 d_O_isReceiver_106
          · have c_11 : p4 = (0 : Int32) := c_11
            refine lv_iconst (v := (1 : Int32)) hx hb d_O_isReceiver_101 (by decide +kernel) ?_
            refine lv_goto (tgt := 106) hx hb d_O_isReceiver_102 (by decide) ?_
            exact W.zret (v := (1 : Int32)) hx hb hr (by decide +kernel) (fun t ht hW => ⟨⟨(1 : Int32), (), rfl, by unfold f_O_isReceiver; rw [if_neg c_1, if_neg c_5, if_neg c_6, if_pos c_10, if_pos c_11], trivial⟩, hS.F ht⟩) hS.2.2 d_O_isReceiver_106
        · skip
          refine lv_tableOut (tgt := 107) hx hb d_O_isReceiver_1 (by have z0 := ne_ti (z := 0) c_1 rfl; have z1 := ne_ti (z := 1) c_5 rfl; have z2 := ne_ti (z := 2) c_6 rfl; have z3 := ne_ti (z := 3) c_10 rfl; omega) (by decide) ?_
          refine lv_iconst (v := (0 : Int32)) hx hb d_O_isReceiver_107 (by decide +kernel) ?_
          exact W.zret (v := (0 : Int32)) hx hb hr (by decide +kernel) (fun t ht hW => ⟨⟨(0 : Int32), (), rfl, by unfold f_O_isReceiver; rw [if_neg c_1, if_neg c_5, if_neg c_6, if_neg c_10], trivial⟩, hS.F ht⟩) hS.2.2 d_O_isReceiver_108
end
