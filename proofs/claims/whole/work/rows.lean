section
-- ===== PART A: goes FIRST, ahead of the names: the tables' words, and 'selects' of the private methods out of them =====
/-- a private method of a class that the tables say can be made, by its rows of tables_1 -/
def lw_okq (q : MethodName × Nat) : Prop := (q.1.cls ≠ "java/lang/invoke/MethodHandle" ∧ q.1.cls ≠ "java/lang/invoke/VarHandle") ∧ Cond.instantiable q.1.cls q.2 ∈ tables_1 ∧ Cond.privateMethod q.1 ∈ tables_1 ∧ Cond.instanceMethod q.1 ∈ tables_1
theorem lw_p0 : lw_okq (⟨"MemberOracle$World", "addType", "(IIZ)I"⟩, 10) := ⟨⟨by decide +kernel, by decide +kernel⟩, List.mem_of_getElem? (i := 15) (by decide +kernel), List.mem_of_getElem? (i := 118) (by decide +kernel), List.mem_of_getElem? (i := 119) (by decide +kernel)⟩
theorem lw_p1 : lw_okq (⟨"MemberOracle", "findField", "(III)I"⟩, 4) := ⟨⟨by decide +kernel, by decide +kernel⟩, List.mem_of_getElem? (i := 7) (by decide +kernel), List.mem_of_getElem? (i := 214) (by decide +kernel), List.mem_of_getElem? (i := 215) (by decide +kernel)⟩
theorem lw_p2 : lw_okq (⟨"MemberOracle$World", "nextToSearch", "(II)I"⟩, 10) := ⟨⟨by decide +kernel, by decide +kernel⟩, List.mem_of_getElem? (i := 15) (by decide +kernel), List.mem_of_getElem? (i := 231) (by decide +kernel), List.mem_of_getElem? (i := 232) (by decide +kernel)⟩
theorem lw_p3 : lw_okq (⟨"MemberOracle", "admitted", "(LMemberOracle$Members;III)I"⟩, 4) := ⟨⟨by decide +kernel, by decide +kernel⟩, List.mem_of_getElem? (i := 7) (by decide +kernel), List.mem_of_getElem? (i := 235) (by decide +kernel), List.mem_of_getElem? (i := 236) (by decide +kernel)⟩
theorem lw_p4 : lw_okq (⟨"MemberOracle", "mayUseMember", "(III)Z"⟩, 4) := ⟨⟨by decide +kernel, by decide +kernel⟩, List.mem_of_getElem? (i := 7) (by decide +kernel), List.mem_of_getElem? (i := 243) (by decide +kernel), List.mem_of_getElem? (i := 244) (by decide +kernel)⟩
theorem lw_p5 : lw_okq (⟨"MemberOracle", "resolveMethod", "(ZIII)I"⟩, 4) := ⟨⟨by decide +kernel, by decide +kernel⟩, List.mem_of_getElem? (i := 7) (by decide +kernel), List.mem_of_getElem? (i := 255) (by decide +kernel), List.mem_of_getElem? (i := 256) (by decide +kernel)⟩
theorem lw_p6 : lw_okq (⟨"MemberOracle", "bestOfInterfaces", "(II)I"⟩, 4) := ⟨⟨by decide +kernel, by decide +kernel⟩, List.mem_of_getElem? (i := 7) (by decide +kernel), List.mem_of_getElem? (i := 267) (by decide +kernel), List.mem_of_getElem? (i := 268) (by decide +kernel)⟩
theorem lw_p7 : lw_okq (⟨"MemberOracle", "maximalSet", "(II)I"⟩, 4) := ⟨⟨by decide +kernel, by decide +kernel⟩, List.mem_of_getElem? (i := 7) (by decide +kernel), List.mem_of_getElem? (i := 271) (by decide +kernel), List.mem_of_getElem? (i := 272) (by decide +kernel)⟩
theorem lw_p8 : lw_okq (⟨"MemberOracle", "interfaceMethods", "(II)I"⟩, 4) := ⟨⟨by decide +kernel, by decide +kernel⟩, List.mem_of_getElem? (i := 7) (by decide +kernel), List.mem_of_getElem? (i := 275) (by decide +kernel), List.mem_of_getElem? (i := 276) (by decide +kernel)⟩
theorem lw_p9 : lw_okq (⟨"MemberOracle", "isReceiver", "(IIII)Z"⟩, 4) := ⟨⟨by decide +kernel, by decide +kernel⟩, List.mem_of_getElem? (i := 7) (by decide +kernel), List.mem_of_getElem? (i := 320) (by decide +kernel), List.mem_of_getElem? (i := 321) (by decide +kernel)⟩
theorem lw_p10 : lw_okq (⟨"MemberOracle", "invokeVirtual", "(IIII)I"⟩, 4) := ⟨⟨by decide +kernel, by decide +kernel⟩, List.mem_of_getElem? (i := 7) (by decide +kernel), List.mem_of_getElem? (i := 325) (by decide +kernel), List.mem_of_getElem? (i := 326) (by decide +kernel)⟩
theorem lw_p11 : lw_okq (⟨"MemberOracle", "select", "(III)I"⟩, 4) := ⟨⟨by decide +kernel, by decide +kernel⟩, List.mem_of_getElem? (i := 7) (by decide +kernel), List.mem_of_getElem? (i := 329) (by decide +kernel), List.mem_of_getElem? (i := 330) (by decide +kernel)⟩
theorem lw_p12 : lw_okq (⟨"MemberOracle", "canOverride", "(III)Z"⟩, 4) := ⟨⟨by decide +kernel, by decide +kernel⟩, List.mem_of_getElem? (i := 7) (by decide +kernel), List.mem_of_getElem? (i := 333) (by decide +kernel), List.mem_of_getElem? (i := 334) (by decide +kernel)⟩
theorem lw_p13 : lw_okq (⟨"MemberOracle", "overridesOneOf", "(III)Z"⟩, 4) := ⟨⟨by decide +kernel, by decide +kernel⟩, List.mem_of_getElem? (i := 7) (by decide +kernel), List.mem_of_getElem? (i := 345) (by decide +kernel), List.mem_of_getElem? (i := 346) (by decide +kernel)⟩
theorem lw_p14 : lw_okq (⟨"MemberOracle", "overridesAtOnce", "(III)Z"⟩, 4) := ⟨⟨by decide +kernel, by decide +kernel⟩, List.mem_of_getElem? (i := 7) (by decide +kernel), List.mem_of_getElem? (i := 349) (by decide +kernel), List.mem_of_getElem? (i := 350) (by decide +kernel)⟩
theorem lw_p15 : lw_okq (⟨"MemberOracle", "runnable", "(II)I"⟩, 4) := ⟨⟨by decide +kernel, by decide +kernel⟩, List.mem_of_getElem? (i := 7) (by decide +kernel), List.mem_of_getElem? (i := 353) (by decide +kernel), List.mem_of_getElem? (i := 354) (by decide +kernel)⟩
def lw_privs_1 : List (MethodName × Nat) := [(⟨"MemberOracle$World", "addType", "(IIZ)I"⟩, 10), (⟨"MemberOracle", "findField", "(III)I"⟩, 4), (⟨"MemberOracle$World", "nextToSearch", "(II)I"⟩, 10), (⟨"MemberOracle", "admitted", "(LMemberOracle$Members;III)I"⟩, 4), (⟨"MemberOracle", "mayUseMember", "(III)Z"⟩, 4), (⟨"MemberOracle", "resolveMethod", "(ZIII)I"⟩, 4), (⟨"MemberOracle", "bestOfInterfaces", "(II)I"⟩, 4), (⟨"MemberOracle", "maximalSet", "(II)I"⟩, 4), (⟨"MemberOracle", "interfaceMethods", "(II)I"⟩, 4), (⟨"MemberOracle", "isReceiver", "(IIII)Z"⟩, 4), (⟨"MemberOracle", "invokeVirtual", "(IIII)I"⟩, 4), (⟨"MemberOracle", "select", "(III)I"⟩, 4), (⟨"MemberOracle", "canOverride", "(III)Z"⟩, 4), (⟨"MemberOracle", "overridesOneOf", "(III)Z"⟩, 4), (⟨"MemberOracle", "overridesAtOnce", "(III)Z"⟩, 4), (⟨"MemberOracle", "runnable", "(II)I"⟩, 4)]
theorem lw_r1 : ∀ q ∈ lw_privs_1, lw_okq q := List.forall_mem_cons.mpr ⟨lw_p0, List.forall_mem_cons.mpr ⟨lw_p1, List.forall_mem_cons.mpr ⟨lw_p2, List.forall_mem_cons.mpr ⟨lw_p3, List.forall_mem_cons.mpr ⟨lw_p4, List.forall_mem_cons.mpr ⟨lw_p5, List.forall_mem_cons.mpr ⟨lw_p6, List.forall_mem_cons.mpr ⟨lw_p7, List.forall_mem_cons.mpr ⟨lw_p8, List.forall_mem_cons.mpr ⟨lw_p9, List.forall_mem_cons.mpr ⟨lw_p10, List.forall_mem_cons.mpr ⟨lw_p11, List.forall_mem_cons.mpr ⟨lw_p12, List.forall_mem_cons.mpr ⟨lw_p13, List.forall_mem_cons.mpr ⟨lw_p14, List.forall_mem_cons.mpr ⟨lw_p15, fun _ h => absurd h List.not_mem_nil⟩⟩⟩⟩⟩⟩⟩⟩⟩⟩⟩⟩⟩⟩⟩⟩
theorem lw_p16 : lw_okq (⟨"MemberOracle", "invokeInterface", "(IIII)I"⟩, 4) := ⟨⟨by decide +kernel, by decide +kernel⟩, List.mem_of_getElem? (i := 7) (by decide +kernel), List.mem_of_getElem? (i := 357) (by decide +kernel), List.mem_of_getElem? (i := 358) (by decide +kernel)⟩
theorem lw_p17 : lw_okq (⟨"MemberOracle", "invokeSpecial", "(III)I"⟩, 4) := ⟨⟨by decide +kernel, by decide +kernel⟩, List.mem_of_getElem? (i := 7) (by decide +kernel), List.mem_of_getElem? (i := 361) (by decide +kernel), List.mem_of_getElem? (i := 362) (by decide +kernel)⟩
theorem lw_p18 : lw_okq (⟨"MemberOracle", "invokeStatic", "(III)I"⟩, 4) := ⟨⟨by decide +kernel, by decide +kernel⟩, List.mem_of_getElem? (i := 7) (by decide +kernel), List.mem_of_getElem? (i := 369) (by decide +kernel), List.mem_of_getElem? (i := 370) (by decide +kernel)⟩
theorem lw_p19 : lw_okq (⟨"MemberOracleModel", "there", "(I)Z"⟩, 15) := ⟨⟨by decide +kernel, by decide +kernel⟩, List.mem_of_getElem? (i := 398) (by decide +kernel), List.mem_of_getElem? (i := 458) (by decide +kernel), List.mem_of_getElem? (i := 459) (by decide +kernel)⟩
theorem lw_p20 : lw_okq (⟨"MemberOracleModel", "tell", "(IZ)I"⟩, 15) := ⟨⟨by decide +kernel, by decide +kernel⟩, List.mem_of_getElem? (i := 398) (by decide +kernel), List.mem_of_getElem? (i := 462) (by decide +kernel), List.mem_of_getElem? (i := 463) (by decide +kernel)⟩
theorem lw_p21 : lw_okq (⟨"MemberOracleModel", "closeAbove", "()V"⟩, 15) := ⟨⟨by decide +kernel, by decide +kernel⟩, List.mem_of_getElem? (i := 398) (by decide +kernel), List.mem_of_getElem? (i := 494) (by decide +kernel), List.mem_of_getElem? (i := 495) (by decide +kernel)⟩
theorem lw_p22 : lw_okq (⟨"MemberOracleModel", "resolved", "(IIII)I"⟩, 15) := ⟨⟨by decide +kernel, by decide +kernel⟩, List.mem_of_getElem? (i := 398) (by decide +kernel), List.mem_of_getElem? (i := 498) (by decide +kernel), List.mem_of_getElem? (i := 499) (by decide +kernel)⟩
theorem lw_p23 : lw_okq (⟨"MemberOracleModel", "usableType", "(II)Z"⟩, 15) := ⟨⟨by decide +kernel, by decide +kernel⟩, List.mem_of_getElem? (i := 398) (by decide +kernel), List.mem_of_getElem? (i := 502) (by decide +kernel), List.mem_of_getElem? (i := 503) (by decide +kernel)⟩
theorem lw_p24 : lw_okq (⟨"MemberOracleModel", "findField", "(II)I"⟩, 15) := ⟨⟨by decide +kernel, by decide +kernel⟩, List.mem_of_getElem? (i := 398) (by decide +kernel), List.mem_of_getElem? (i := 506) (by decide +kernel), List.mem_of_getElem? (i := 507) (by decide +kernel)⟩
theorem lw_p25 : lw_okq (⟨"MemberOracleModel", "usable", "(III)Z"⟩, 15) := ⟨⟨by decide +kernel, by decide +kernel⟩, List.mem_of_getElem? (i := 398) (by decide +kernel), List.mem_of_getElem? (i := 510) (by decide +kernel), List.mem_of_getElem? (i := 511) (by decide +kernel)⟩
theorem lw_p26 : lw_okq (⟨"MemberOracleModel", "is", "(II)Z"⟩, 15) := ⟨⟨by decide +kernel, by decide +kernel⟩, List.mem_of_getElem? (i := 398) (by decide +kernel), List.mem_of_getElem? (i := 514) (by decide +kernel), List.mem_of_getElem? (i := 515) (by decide +kernel)⟩
theorem lw_p27 : lw_okq (⟨"MemberOracleModel", "findMethod", "(III)I"⟩, 15) := ⟨⟨by decide +kernel, by decide +kernel⟩, List.mem_of_getElem? (i := 398) (by decide +kernel), List.mem_of_getElem? (i := 518) (by decide +kernel), List.mem_of_getElem? (i := 519) (by decide +kernel)⟩
theorem lw_p28 : lw_okq (⟨"MemberOracleModel", "has", "(II)Z"⟩, 15) := ⟨⟨by decide +kernel, by decide +kernel⟩, List.mem_of_getElem? (i := 398) (by decide +kernel), List.mem_of_getElem? (i := 522) (by decide +kernel), List.mem_of_getElem? (i := 523) (by decide +kernel)⟩
theorem lw_p29 : lw_okq (⟨"MemberOracleModel", "findAbove", "(II)I"⟩, 15) := ⟨⟨by decide +kernel, by decide +kernel⟩, List.mem_of_getElem? (i := 398) (by decide +kernel), List.mem_of_getElem? (i := 526) (by decide +kernel), List.mem_of_getElem? (i := 527) (by decide +kernel)⟩
theorem lw_p30 : lw_okq (⟨"MemberOracleModel", "maximals", "(II)I"⟩, 15) := ⟨⟨by decide +kernel, by decide +kernel⟩, List.mem_of_getElem? (i := 398) (by decide +kernel), List.mem_of_getElem? (i := 530) (by decide +kernel), List.mem_of_getElem? (i := 531) (by decide +kernel)⟩
theorem lw_p31 : lw_okq (⟨"MemberOracleModel", "candidates", "(II)I"⟩, 15) := ⟨⟨by decide +kernel, by decide +kernel⟩, List.mem_of_getElem? (i := 398) (by decide +kernel), List.mem_of_getElem? (i := 534) (by decide +kernel), List.mem_of_getElem? (i := 535) (by decide +kernel)⟩
def lw_privs_2 : List (MethodName × Nat) := [(⟨"MemberOracle", "invokeInterface", "(IIII)I"⟩, 4), (⟨"MemberOracle", "invokeSpecial", "(III)I"⟩, 4), (⟨"MemberOracle", "invokeStatic", "(III)I"⟩, 4), (⟨"MemberOracleModel", "there", "(I)Z"⟩, 15), (⟨"MemberOracleModel", "tell", "(IZ)I"⟩, 15), (⟨"MemberOracleModel", "closeAbove", "()V"⟩, 15), (⟨"MemberOracleModel", "resolved", "(IIII)I"⟩, 15), (⟨"MemberOracleModel", "usableType", "(II)Z"⟩, 15), (⟨"MemberOracleModel", "findField", "(II)I"⟩, 15), (⟨"MemberOracleModel", "usable", "(III)Z"⟩, 15), (⟨"MemberOracleModel", "is", "(II)Z"⟩, 15), (⟨"MemberOracleModel", "findMethod", "(III)I"⟩, 15), (⟨"MemberOracleModel", "has", "(II)Z"⟩, 15), (⟨"MemberOracleModel", "findAbove", "(II)I"⟩, 15), (⟨"MemberOracleModel", "maximals", "(II)I"⟩, 15), (⟨"MemberOracleModel", "candidates", "(II)I"⟩, 15)]
theorem lw_r2 : ∀ q ∈ lw_privs_2, lw_okq q := List.forall_mem_cons.mpr ⟨lw_p16, List.forall_mem_cons.mpr ⟨lw_p17, List.forall_mem_cons.mpr ⟨lw_p18, List.forall_mem_cons.mpr ⟨lw_p19, List.forall_mem_cons.mpr ⟨lw_p20, List.forall_mem_cons.mpr ⟨lw_p21, List.forall_mem_cons.mpr ⟨lw_p22, List.forall_mem_cons.mpr ⟨lw_p23, List.forall_mem_cons.mpr ⟨lw_p24, List.forall_mem_cons.mpr ⟨lw_p25, List.forall_mem_cons.mpr ⟨lw_p26, List.forall_mem_cons.mpr ⟨lw_p27, List.forall_mem_cons.mpr ⟨lw_p28, List.forall_mem_cons.mpr ⟨lw_p29, List.forall_mem_cons.mpr ⟨lw_p30, List.forall_mem_cons.mpr ⟨lw_p31, fun _ h => absurd h List.not_mem_nil⟩⟩⟩⟩⟩⟩⟩⟩⟩⟩⟩⟩⟩⟩⟩⟩
theorem lw_p32 : lw_okq (⟨"MemberOracleModel", "isStatic", "(II)Z"⟩, 15) := ⟨⟨by decide +kernel, by decide +kernel⟩, List.mem_of_getElem? (i := 398) (by decide +kernel), List.mem_of_getElem? (i := 538) (by decide +kernel), List.mem_of_getElem? (i := 539) (by decide +kernel)⟩
theorem lw_p33 : lw_okq (⟨"MemberOracleModel", "isPrivate", "(II)Z"⟩, 15) := ⟨⟨by decide +kernel, by decide +kernel⟩, List.mem_of_getElem? (i := 398) (by decide +kernel), List.mem_of_getElem? (i := 542) (by decide +kernel), List.mem_of_getElem? (i := 543) (by decide +kernel)⟩
theorem lw_p34 : lw_okq (⟨"MemberOracleModel", "only", "(II)I"⟩, 15) := ⟨⟨by decide +kernel, by decide +kernel⟩, List.mem_of_getElem? (i := 398) (by decide +kernel), List.mem_of_getElem? (i := 546) (by decide +kernel), List.mem_of_getElem? (i := 547) (by decide +kernel)⟩
theorem lw_p35 : lw_okq (⟨"MemberOracleModel", "isAbstract", "(II)Z"⟩, 15) := ⟨⟨by decide +kernel, by decide +kernel⟩, List.mem_of_getElem? (i := 398) (by decide +kernel), List.mem_of_getElem? (i := 550) (by decide +kernel), List.mem_of_getElem? (i := 551) (by decide +kernel)⟩
theorem lw_p36 : lw_okq (⟨"MemberOracleModel", "special", "(III)I"⟩, 15) := ⟨⟨by decide +kernel, by decide +kernel⟩, List.mem_of_getElem? (i := 398) (by decide +kernel), List.mem_of_getElem? (i := 566) (by decide +kernel), List.mem_of_getElem? (i := 567) (by decide +kernel)⟩
theorem lw_p37 : lw_okq (⟨"MemberOracleModel", "withCode", "(II)I"⟩, 15) := ⟨⟨by decide +kernel, by decide +kernel⟩, List.mem_of_getElem? (i := 398) (by decide +kernel), List.mem_of_getElem? (i := 570) (by decide +kernel), List.mem_of_getElem? (i := 571) (by decide +kernel)⟩
theorem lw_p38 : lw_okq (⟨"MemberOracleModel", "coded", "(II)I"⟩, 15) := ⟨⟨by decide +kernel, by decide +kernel⟩, List.mem_of_getElem? (i := 398) (by decide +kernel), List.mem_of_getElem? (i := 574) (by decide +kernel), List.mem_of_getElem? (i := 575) (by decide +kernel)⟩
theorem lw_p39 : lw_okq (⟨"MemberOracleModel", "selected", "(III)I"⟩, 15) := ⟨⟨by decide +kernel, by decide +kernel⟩, List.mem_of_getElem? (i := 398) (by decide +kernel), List.mem_of_getElem? (i := 578) (by decide +kernel), List.mem_of_getElem? (i := 579) (by decide +kernel)⟩
theorem lw_p40 : lw_okq (⟨"MemberOracleModel", "fillCan", "(I)V"⟩, 15) := ⟨⟨by decide +kernel, by decide +kernel⟩, List.mem_of_getElem? (i := 398) (by decide +kernel), List.mem_of_getElem? (i := 582) (by decide +kernel), List.mem_of_getElem? (i := 583) (by decide +kernel)⟩
theorem lw_p41 : lw_okq (⟨"MemberOracleModel", "overriding", "(III)Z"⟩, 15) := ⟨⟨by decide +kernel, by decide +kernel⟩, List.mem_of_getElem? (i := 398) (by decide +kernel), List.mem_of_getElem? (i := 586) (by decide +kernel), List.mem_of_getElem? (i := 587) (by decide +kernel)⟩
def lw_privs_3 : List (MethodName × Nat) := [(⟨"MemberOracleModel", "isStatic", "(II)Z"⟩, 15), (⟨"MemberOracleModel", "isPrivate", "(II)Z"⟩, 15), (⟨"MemberOracleModel", "only", "(II)I"⟩, 15), (⟨"MemberOracleModel", "isAbstract", "(II)Z"⟩, 15), (⟨"MemberOracleModel", "special", "(III)I"⟩, 15), (⟨"MemberOracleModel", "withCode", "(II)I"⟩, 15), (⟨"MemberOracleModel", "coded", "(II)I"⟩, 15), (⟨"MemberOracleModel", "selected", "(III)I"⟩, 15), (⟨"MemberOracleModel", "fillCan", "(I)V"⟩, 15), (⟨"MemberOracleModel", "overriding", "(III)Z"⟩, 15)]
theorem lw_r3 : ∀ q ∈ lw_privs_3, lw_okq q := List.forall_mem_cons.mpr ⟨lw_p32, List.forall_mem_cons.mpr ⟨lw_p33, List.forall_mem_cons.mpr ⟨lw_p34, List.forall_mem_cons.mpr ⟨lw_p35, List.forall_mem_cons.mpr ⟨lw_p36, List.forall_mem_cons.mpr ⟨lw_p37, List.forall_mem_cons.mpr ⟨lw_p38, List.forall_mem_cons.mpr ⟨lw_p39, List.forall_mem_cons.mpr ⟨lw_p40, List.forall_mem_cons.mpr ⟨lw_p41, fun _ h => absurd h List.not_mem_nil⟩⟩⟩⟩⟩⟩⟩⟩⟩⟩
def lw_privs : List (MethodName × Nat) := lw_privs_1 ++ (lw_privs_2 ++ (lw_privs_3))
def lw_tbl : List Cond := k2_sels lw_privs ++ tables_1
theorem lw_privs_ok : ∀ q ∈ lw_privs, lw_okq q := by
  show ∀ q ∈ lw_privs_1 ++ (lw_privs_2 ++ (lw_privs_3)), lw_okq q
  exact List.forall_mem_append.mpr ⟨lw_r1, List.forall_mem_append.mpr ⟨lw_r2, lw_r3⟩⟩
end
section
def R_W : String := "MemberOracle$World"
def F_W : u_T := fun k => match k with
  | 0 => ("MemberOracle$World", "superclasses", "[I", true)
  | 1 => ("MemberOracle$World", "packages", "[I", true)
  | 2 => ("MemberOracle$World", "hosts", "[I", true)
  | 3 => ("MemberOracle$World", "directCounts", "[I", true)
  | 4 => ("MemberOracle$World", "directs", "[I", true)
  | 5 => ("MemberOracle$World", "families", "[I", true)
  | 6 => ("MemberOracle$World", "publicSet", "I", false)
  | 7 => ("MemberOracle$World", "finalSet", "I", false)
  | 8 => ("MemberOracle$World", "interfaceSet", "I", false)
  | _ => ("MemberOracle$World", "count", "I", false)
def t_W : Nat → FieldType := fun k => match k with
  | 0 => (.array .int)
  | 1 => (.array .int)
  | 2 => (.array .int)
  | 3 => (.array .int)
  | 4 => (.array .int)
  | 5 => (.array .int)
  | 6 => .int
  | 7 => .int
  | 8 => .int
  | _ => .int
theorem n_W : ∀ a, a < 10 → ∀ b, b < 10 → a ≠ b → (F_W a).2.1 ≠ (F_W b).2.1 := by decide +kernel
theorem t_W_ok : ∀ k, k < 10 → parseFieldDescriptor (F_W k).2.2.1 = some (t_W k) := by decide +kernel
def R_M : String := "MemberOracle$Members"
def F_M : u_T := fun k => match k with
  | 0 => ("MemberOracle$Members", "ownerSets", "[I", true)
  | 1 => ("MemberOracle$Members", "staticSets", "[I", true)
  | 2 => ("MemberOracle$Members", "abstractSets", "[I", true)
  | 3 => ("MemberOracle$Members", "privateSets", "[I", true)
  | _ => ("MemberOracle$Members", "accesses", "[I", true)
def t_M : Nat → FieldType := fun k => match k with
  | 0 => (.array .int)
  | 1 => (.array .int)
  | 2 => (.array .int)
  | 3 => (.array .int)
  | _ => (.array .int)
theorem n_M : ∀ a, a < 5 → ∀ b, b < 5 → a ≠ b → (F_M a).2.1 ≠ (F_M b).2.1 := by decide +kernel
theorem t_M_ok : ∀ k, k < 5 → parseFieldDescriptor (F_M k).2.2.1 = some (t_M k) := by decide +kernel
def R_O : String := "MemberOracle"
def F_O : u_T := fun k => match k with
  | 0 => ("MemberOracle", "world", "LMemberOracle$World;", true)
  | 1 => ("MemberOracle", "fields", "LMemberOracle$Members;", true)
  | 2 => ("MemberOracle", "methods", "LMemberOracle$Members;", true)
  | _ => ("MemberOracle", "lastChoices", "I", false)
def t_O : Nat → FieldType := fun k => match k with
  | 0 => .object "MemberOracle$World"
  | 1 => .object "MemberOracle$Members"
  | 2 => .object "MemberOracle$Members"
  | _ => .int
theorem n_O : ∀ a, a < 4 → ∀ b, b < 4 → a ≠ b → (F_O a).2.1 ≠ (F_O b).2.1 := by decide +kernel
theorem t_O_ok : ∀ k, k < 4 → parseFieldDescriptor (F_O k).2.2.1 = some (t_O k) := by decide +kernel
def R_R : String := "MemberOracleModel"
def F_R : u_T := fun k => match k with
  | 0 => ("MemberOracleModel", "types", "I", false)
  | 1 => ("MemberOracleModel", "isInterface", "[Z", true)
  | 2 => ("MemberOracleModel", "isPublic", "[Z", true)
  | 3 => ("MemberOracleModel", "isFinal", "[Z", true)
  | 4 => ("MemberOracleModel", "pack", "[I", true)
  | 5 => ("MemberOracleModel", "parent", "[I", true)
  | 6 => ("MemberOracleModel", "host", "[I", true)
  | 7 => ("MemberOracleModel", "direct", "[I", true)
  | 8 => ("MemberOracleModel", "directs", "[I", true)
  | 9 => ("MemberOracleModel", "fields", "[I", true)
  | 10 => ("MemberOracleModel", "methods", "[I", true)
  | 11 => ("MemberOracleModel", "above", "[I", true)
  | 12 => ("MemberOracleModel", "can", "[Z", true)
  | 13 => ("MemberOracleModel", "stack", "[I", true)
  | _ => ("MemberOracleModel", "choices", "I", false)
def t_R : Nat → FieldType := fun k => match k with
  | 0 => .int
  | 1 => (.array .boolean)
  | 2 => (.array .boolean)
  | 3 => (.array .boolean)
  | 4 => (.array .int)
  | 5 => (.array .int)
  | 6 => (.array .int)
  | 7 => (.array .int)
  | 8 => (.array .int)
  | 9 => (.array .int)
  | 10 => (.array .int)
  | 11 => (.array .int)
  | 12 => (.array .boolean)
  | 13 => (.array .int)
  | _ => .int
theorem n_R : ∀ a, a < 15 → ∀ b, b < 15 → a ≠ b → (F_R a).2.1 ≠ (F_R b).2.1 := by decide +kernel
theorem t_R_ok : ∀ k, k < 15 → parseFieldDescriptor (F_R k).2.2.1 = some (t_R k) := by decide +kernel
def R_J : String := "java/lang/Integer"
abbrev classes : List vw_C := [(R_W, F_W, 10), (R_M, F_M, 5), (R_O, F_O, 4), (R_R, F_R, 15)]
abbrev b_O_init : ByteArray := prog_1_method_1_code
def y_O_init : MethodName := ⟨R_O, "<init>", "()V"⟩
abbrev b_W_init : ByteArray := prog_3_method_1_code
def y_W_init : MethodName := ⟨R_W, "<init>", "()V"⟩
abbrev b_M_init : ByteArray := prog_2_method_1_code
def y_M_init : MethodName := ⟨R_M, "<init>", "()V"⟩
abbrev b_O_tellClass : ByteArray := prog_1_method_2_code
def y_O_tellClass : MethodName := ⟨R_O, "tellClass", "(IIZZ)I"⟩
abbrev b_O_isPackage : ByteArray := prog_1_method_18_code
def y_O_isPackage : MethodName := ⟨R_O, "isPackage", "(I)Z"⟩
abbrev b_W_mayBeExtended : ByteArray := prog_3_method_6_code
def y_W_mayBeExtended : MethodName := ⟨R_W, "mayBeExtended", "(I)Z"⟩
abbrev b_W_isClass : ByteArray := prog_3_method_5_code
def y_W_isClass : MethodName := ⟨R_W, "isClass", "(I)Z"⟩
abbrev b_W_has : ByteArray := prog_3_method_2_code
def y_W_has : MethodName := ⟨R_W, "has", "(I)Z"⟩
abbrev b_O_holds : ByteArray := prog_1_method_39_code
def y_O_holds : MethodName := ⟨R_O, "holds", "(II)Z"⟩
abbrev b_W_isFull : ByteArray := prog_3_method_3_code
def y_W_isFull : MethodName := ⟨R_W, "isFull", "()Z"⟩
abbrev b_W_addClass : ByteArray := prog_3_method_7_code
def y_W_addClass : MethodName := ⟨R_W, "addClass", "(IIZZ)I"⟩
abbrev b_W_addType : ByteArray := prog_3_method_9_code
def y_W_addType : MethodName := ⟨R_W, "addType", "(IIZ)I"⟩
abbrev b_O_tellInterface : ByteArray := prog_1_method_3_code
def y_O_tellInterface : MethodName := ⟨R_O, "tellInterface", "(IZ)I"⟩
abbrev b_W_addInterface : ByteArray := prog_3_method_8_code
def y_W_addInterface : MethodName := ⟨R_W, "addInterface", "(IZ)I"⟩
abbrev b_O_implement : ByteArray := prog_1_method_4_code
def y_O_implement : MethodName := ⟨R_O, "implement", "(II)I"⟩
abbrev b_W_isInterface : ByteArray := prog_3_method_4_code
def y_W_isInterface : MethodName := ⟨R_W, "isInterface", "(I)Z"⟩
abbrev b_W_hasDirect : ByteArray := prog_3_method_11_code
def y_W_hasDirect : MethodName := ⟨R_W, "hasDirect", "(II)Z"⟩
abbrev b_W_directAt : ByteArray := prog_3_method_13_code
def y_W_directAt : MethodName := ⟨R_W, "directAt", "(II)I"⟩
abbrev b_W_directCount : ByteArray := prog_3_method_12_code
def y_W_directCount : MethodName := ⟨R_W, "directCount", "(I)I"⟩
abbrev b_W_addDirect : ByteArray := prog_3_method_10_code
def y_W_addDirect : MethodName := ⟨R_W, "addDirect", "(II)I"⟩
abbrev b_O_nest : ByteArray := prog_1_method_5_code
def y_O_nest : MethodName := ⟨R_O, "nest", "(II)I"⟩
abbrev b_W_samePackage : ByteArray := prog_3_method_20_code
def y_W_samePackage : MethodName := ⟨R_W, "samePackage", "(II)Z"⟩
abbrev b_W_hostOf : ByteArray := prog_3_method_16_code
def y_W_hostOf : MethodName := ⟨R_W, "hostOf", "(I)I"⟩
abbrev b_W_hostsAnother : ByteArray := prog_3_method_18_code
def y_W_hostsAnother : MethodName := ⟨R_W, "hostsAnother", "(I)Z"⟩
abbrev b_W_setHost : ByteArray := prog_3_method_17_code
def y_W_setHost : MethodName := ⟨R_W, "setHost", "(II)V"⟩
abbrev b_O_field : ByteArray := prog_1_method_6_code
def y_O_field : MethodName := ⟨R_O, "field", "(IIIZ)I"⟩
abbrev b_O_isName : ByteArray := prog_1_method_19_code
def y_O_isName : MethodName := ⟨R_O, "isName", "(I)Z"⟩
abbrev b_O_isAccess : ByteArray := prog_1_method_20_code
def y_O_isAccess : MethodName := ⟨R_O, "isAccess", "(I)Z"⟩
abbrev b_M_put : ByteArray := prog_2_method_2_code
def y_M_put : MethodName := ⟨R_M, "put", "(IIII)V"⟩
abbrev b_M_drop : ByteArray := prog_2_method_3_code
def y_M_drop : MethodName := ⟨R_M, "drop", "(II)V"⟩
abbrev b_O_method : ByteArray := prog_1_method_7_code
def y_O_method : MethodName := ⟨R_O, "method", "(IIII)I"⟩
abbrev b_O_isForm : ByteArray := prog_1_method_21_code
def y_O_isForm : MethodName := ⟨R_O, "isForm", "(I)Z"⟩
abbrev b_O_untell : ByteArray := prog_1_method_8_code
def y_O_untell : MethodName := ⟨R_O, "untell", "(III)I"⟩
abbrev b_M_has : ByteArray := prog_2_method_4_code
def y_M_has : MethodName := ⟨R_M, "has", "(II)Z"⟩
abbrev b_O_resolve : ByteArray := prog_1_method_9_code
def y_O_resolve : MethodName := ⟨R_O, "resolve", "(IIII)I"⟩
abbrev b_O_findField : ByteArray := prog_1_method_23_code
def y_O_findField : MethodName := ⟨R_O, "findField", "(III)I"⟩
abbrev b_W_mayUseType : ByteArray := prog_3_method_21_code
def y_W_mayUseType : MethodName := ⟨R_W, "mayUseType", "(II)Z"⟩
abbrev b_M_owners : ByteArray := prog_2_method_7_code
def y_M_owners : MethodName := ⟨R_M, "owners", "(I)I"⟩
abbrev b_W_search : ByteArray := prog_3_method_27_code
def y_W_search : MethodName := ⟨R_W, "search", "(II)I"⟩
abbrev b_W_nextToSearch : ByteArray := prog_3_method_28_code
def y_W_nextToSearch : MethodName := ⟨R_W, "nextToSearch", "(II)I"⟩
abbrev b_O_admitted : ByteArray := prog_1_method_25_code
def y_O_admitted : MethodName := ⟨R_O, "admitted", "(LMemberOracle$Members;III)I"⟩
abbrev b_M_accessOf : ByteArray := prog_2_method_6_code
def y_M_accessOf : MethodName := ⟨R_M, "accessOf", "(II)I"⟩
abbrev b_O_mayUseMember : ByteArray := prog_1_method_26_code
def y_O_mayUseMember : MethodName := ⟨R_O, "mayUseMember", "(III)Z"⟩
abbrev b_W_isKindOf : ByteArray := prog_3_method_22_code
def y_W_isKindOf : MethodName := ⟨R_W, "isKindOf", "(II)Z"⟩
abbrev b_W_sameHost : ByteArray := prog_3_method_19_code
def y_W_sameHost : MethodName := ⟨R_W, "sameHost", "(II)Z"⟩
abbrev b_O_resolveMethod : ByteArray := prog_1_method_24_code
def y_O_resolveMethod : MethodName := ⟨R_O, "resolveMethod", "(ZIII)I"⟩
abbrev b_W_chain : ByteArray := prog_3_method_26_code
def y_W_chain : MethodName := ⟨R_W, "chain", "(I)I"⟩
abbrev b_O_greatestOf : ByteArray := prog_1_method_41_code
def y_O_greatestOf : MethodName := ⟨R_O, "greatestOf", "(I)I"⟩
abbrev b_O_bestOfInterfaces : ByteArray := prog_1_method_29_code
def y_O_bestOfInterfaces : MethodName := ⟨R_O, "bestOfInterfaces", "(II)I"⟩
abbrev b_O_maximalSet : ByteArray := prog_1_method_28_code
def y_O_maximalSet : MethodName := ⟨R_O, "maximalSet", "(II)I"⟩
abbrev b_O_interfaceMethods : ByteArray := prog_1_method_27_code
def y_O_interfaceMethods : MethodName := ⟨R_O, "interfaceMethods", "(II)I"⟩
abbrev b_W_supertypes : ByteArray := prog_3_method_23_code
def y_W_supertypes : MethodName := ⟨R_W, "supertypes", "(I)I"⟩
abbrev b_W_interfaces : ByteArray := prog_3_method_25_code
def y_W_interfaces : MethodName := ⟨R_W, "interfaces", "()I"⟩
abbrev b_M_inheritable : ByteArray := prog_2_method_10_code
def y_M_inheritable : MethodName := ⟨R_M, "inheritable", "(I)I"⟩
abbrev b_M_abstracts : ByteArray := prog_2_method_8_code
def y_M_abstracts : MethodName := ⟨R_M, "abstracts", "(I)I"⟩
abbrev b_J_bitCount : ByteArray := prog_6_method_49_code
def y_J_bitCount : MethodName := ⟨R_J, "bitCount", "(I)I"⟩
abbrev b_O_leastOf : ByteArray := prog_1_method_40_code
def y_O_leastOf : MethodName := ⟨R_O, "leastOf", "(I)I"⟩
abbrev b_O_choices : ByteArray := prog_1_method_10_code
def y_O_choices : MethodName := ⟨R_O, "choices", "()I"⟩
abbrev b_O_use : ByteArray := prog_1_method_11_code
def y_O_use : MethodName := ⟨R_O, "use", "(IIIZ)I"⟩
abbrev b_M_isStatic : ByteArray := prog_2_method_5_code
def y_M_isStatic : MethodName := ⟨R_M, "isStatic", "(II)Z"⟩
abbrev b_O_invoke : ByteArray := prog_1_method_12_code
def y_O_invoke : MethodName := ⟨R_O, "invoke", "(IIIII)I"⟩
abbrev b_O_isReceiver : ByteArray := prog_1_method_22_code
def y_O_isReceiver : MethodName := ⟨R_O, "isReceiver", "(IIII)Z"⟩
abbrev b_O_invokeVirtual : ByteArray := prog_1_method_35_code
def y_O_invokeVirtual : MethodName := ⟨R_O, "invokeVirtual", "(IIII)I"⟩
abbrev b_O_select : ByteArray := prog_1_method_33_code
def y_O_select : MethodName := ⟨R_O, "select", "(III)I"⟩
abbrev b_O_canOverride : ByteArray := prog_1_method_30_code
def y_O_canOverride : MethodName := ⟨R_O, "canOverride", "(III)Z"⟩
abbrev b_M_instances : ByteArray := prog_2_method_9_code
def y_M_instances : MethodName := ⟨R_M, "instances", "(I)I"⟩
abbrev b_W_kindsOf : ByteArray := prog_3_method_24_code
def y_W_kindsOf : MethodName := ⟨R_W, "kindsOf", "(I)I"⟩
abbrev b_O_overridesOneOf : ByteArray := prog_1_method_31_code
def y_O_overridesOneOf : MethodName := ⟨R_O, "overridesOneOf", "(III)Z"⟩
abbrev b_O_overridesAtOnce : ByteArray := prog_1_method_32_code
def y_O_overridesAtOnce : MethodName := ⟨R_O, "overridesAtOnce", "(III)Z"⟩
abbrev b_O_runnable : ByteArray := prog_1_method_34_code
def y_O_runnable : MethodName := ⟨R_O, "runnable", "(II)I"⟩
abbrev b_O_invokeInterface : ByteArray := prog_1_method_36_code
def y_O_invokeInterface : MethodName := ⟨R_O, "invokeInterface", "(IIII)I"⟩
abbrev b_O_invokeSpecial : ByteArray := prog_1_method_37_code
def y_O_invokeSpecial : MethodName := ⟨R_O, "invokeSpecial", "(III)I"⟩
abbrev b_W_superclassOf : ByteArray := prog_3_method_14_code
def y_W_superclassOf : MethodName := ⟨R_W, "superclassOf", "(I)I"⟩
abbrev b_O_invokeStatic : ByteArray := prog_1_method_38_code
def y_O_invokeStatic : MethodName := ⟨R_O, "invokeStatic", "(III)I"⟩
abbrev b_O_isA : ByteArray := prog_1_method_13_code
def y_O_isA : MethodName := ⟨R_O, "isA", "(II)Z"⟩
abbrev b_O_mates : ByteArray := prog_1_method_14_code
def y_O_mates : MethodName := ⟨R_O, "mates", "(II)Z"⟩
abbrev b_O_overrides : ByteArray := prog_1_method_15_code
def y_O_overrides : MethodName := ⟨R_O, "overrides", "(III)Z"⟩
abbrev b_O_maximal : ByteArray := prog_1_method_16_code
def y_O_maximal : MethodName := ⟨R_O, "maximal", "(II)I"⟩
abbrev b_O_type : ByteArray := prog_1_method_17_code
def y_O_type : MethodName := ⟨R_O, "type", "(II)I"⟩
abbrev b_W_packageOf : ByteArray := prog_3_method_15_code
def y_W_packageOf : MethodName := ⟨R_W, "packageOf", "(I)I"⟩
abbrev b_R_init : ByteArray := prog_5_method_1_code
def y_R_init : MethodName := ⟨R_R, "<init>", "()V"⟩
abbrev b_R_tellClass : ByteArray := prog_5_method_5_code
def y_R_tellClass : MethodName := ⟨R_R, "tellClass", "(IIZZ)I"⟩
abbrev b_R_in : ByteArray := prog_5_method_2_code
def y_R_in : MethodName := ⟨R_R, "in", "(III)Z"⟩
abbrev b_R_there : ByteArray := prog_5_method_3_code
def y_R_there : MethodName := ⟨R_R, "there", "(I)Z"⟩
abbrev b_R_tell : ByteArray := prog_5_method_4_code
def y_R_tell : MethodName := ⟨R_R, "tell", "(IZ)I"⟩
abbrev b_R_tellInterface : ByteArray := prog_5_method_6_code
def y_R_tellInterface : MethodName := ⟨R_R, "tellInterface", "(IZ)I"⟩
abbrev b_R_implement : ByteArray := prog_5_method_7_code
def y_R_implement : MethodName := ⟨R_R, "implement", "(II)I"⟩
abbrev b_R_nest : ByteArray := prog_5_method_8_code
def y_R_nest : MethodName := ⟨R_R, "nest", "(II)I"⟩
abbrev b_R_field : ByteArray := prog_5_method_9_code
def y_R_field : MethodName := ⟨R_R, "field", "(IIIZ)I"⟩
abbrev b_R_method : ByteArray := prog_5_method_10_code
def y_R_method : MethodName := ⟨R_R, "method", "(IIII)I"⟩
abbrev b_R_untell : ByteArray := prog_5_method_11_code
def y_R_untell : MethodName := ⟨R_R, "untell", "(III)I"⟩
abbrev b_R_resolve : ByteArray := prog_5_method_27_code
def y_R_resolve : MethodName := ⟨R_R, "resolve", "(IIII)I"⟩
abbrev b_R_closeAbove : ByteArray := prog_5_method_12_code
def y_R_closeAbove : MethodName := ⟨R_R, "closeAbove", "()V"⟩
abbrev b_R_resolved : ByteArray := prog_5_method_26_code
def y_R_resolved : MethodName := ⟨R_R, "resolved", "(IIII)I"⟩
abbrev b_R_usableType : ByteArray := prog_5_method_14_code
def y_R_usableType : MethodName := ⟨R_R, "usableType", "(II)Z"⟩
abbrev b_R_findField : ByteArray := prog_5_method_23_code
def y_R_findField : MethodName := ⟨R_R, "findField", "(II)I"⟩
abbrev b_R_usable : ByteArray := prog_5_method_15_code
def y_R_usable : MethodName := ⟨R_R, "usable", "(III)Z"⟩
abbrev b_R_is : ByteArray := prog_5_method_13_code
def y_R_is : MethodName := ⟨R_R, "is", "(II)Z"⟩
abbrev b_R_findMethod : ByteArray := prog_5_method_25_code
def y_R_findMethod : MethodName := ⟨R_R, "findMethod", "(III)I"⟩
abbrev b_R_has : ByteArray := prog_5_method_16_code
def y_R_has : MethodName := ⟨R_R, "has", "(II)Z"⟩
abbrev b_R_findAbove : ByteArray := prog_5_method_24_code
def y_R_findAbove : MethodName := ⟨R_R, "findAbove", "(II)I"⟩
abbrev b_R_maximals : ByteArray := prog_5_method_21_code
def y_R_maximals : MethodName := ⟨R_R, "maximals", "(II)I"⟩
abbrev b_R_candidates : ByteArray := prog_5_method_20_code
def y_R_candidates : MethodName := ⟨R_R, "candidates", "(II)I"⟩
abbrev b_R_isStatic : ByteArray := prog_5_method_17_code
def y_R_isStatic : MethodName := ⟨R_R, "isStatic", "(II)Z"⟩
abbrev b_R_isPrivate : ByteArray := prog_5_method_19_code
def y_R_isPrivate : MethodName := ⟨R_R, "isPrivate", "(II)Z"⟩
abbrev b_R_only : ByteArray := prog_5_method_22_code
def y_R_only : MethodName := ⟨R_R, "only", "(II)I"⟩
abbrev b_R_isAbstract : ByteArray := prog_5_method_18_code
def y_R_isAbstract : MethodName := ⟨R_R, "isAbstract", "(II)Z"⟩
abbrev b_R_choices : ByteArray := prog_5_method_28_code
def y_R_choices : MethodName := ⟨R_R, "choices", "()I"⟩
abbrev b_R_use : ByteArray := prog_5_method_29_code
def y_R_use : MethodName := ⟨R_R, "use", "(IIIZ)I"⟩
abbrev b_R_invoke : ByteArray := prog_5_method_36_code
def y_R_invoke : MethodName := ⟨R_R, "invoke", "(IIIII)I"⟩
abbrev b_R_special : ByteArray := prog_5_method_35_code
def y_R_special : MethodName := ⟨R_R, "special", "(III)I"⟩
abbrev b_R_withCode : ByteArray := prog_5_method_34_code
def y_R_withCode : MethodName := ⟨R_R, "withCode", "(II)I"⟩
abbrev b_R_coded : ByteArray := prog_5_method_33_code
def y_R_coded : MethodName := ⟨R_R, "coded", "(II)I"⟩
abbrev b_R_selected : ByteArray := prog_5_method_32_code
def y_R_selected : MethodName := ⟨R_R, "selected", "(III)I"⟩
abbrev b_R_fillCan : ByteArray := prog_5_method_30_code
def y_R_fillCan : MethodName := ⟨R_R, "fillCan", "(I)V"⟩
abbrev b_R_overriding : ByteArray := prog_5_method_31_code
def y_R_overriding : MethodName := ⟨R_R, "overriding", "(III)Z"⟩
abbrev b_R_isA : ByteArray := prog_5_method_37_code
def y_R_isA : MethodName := ⟨R_R, "isA", "(II)Z"⟩
abbrev b_R_mates : ByteArray := prog_5_method_38_code
def y_R_mates : MethodName := ⟨R_R, "mates", "(II)Z"⟩
abbrev b_R_overrides : ByteArray := prog_5_method_39_code
def y_R_overrides : MethodName := ⟨R_R, "overrides", "(III)Z"⟩
abbrev b_R_maximal : ByteArray := prog_5_method_40_code
def y_R_maximal : MethodName := ⟨R_R, "maximal", "(II)I"⟩
abbrev b_R_type : ByteArray := prog_5_method_41_code
def y_R_type : MethodName := ⟨R_R, "type", "(II)I"⟩
end
section
/-! MY WORLDS: the words that hold for every method, the state of the class, its pictures in the heap -/
def nx_is : Cond → Bool
  | .methodLinkNest .. => true
  | .fieldLinkNest .. => true
  | _ => false
/-- the words that every method takes along: all of lw_tbl but those of nest mates -/
def lw_g : List Cond := lw_tbl.filter (fun w => !nx_is w && (k2_isCode w || goodWord w))
theorem lw_g_in {w : Cond} (h : w ∈ lw_g) : w ∈ lw_tbl := (List.mem_filter.mp h).1
theorem gd_all : ∀ w ∈ lw_g, (w.onTables && w.keeps) = true ∨ ∃ ty, w = .arrayClass ty := by
  intro w hw
  have h := (List.mem_filter.mp hw).2
  cases w <;> first | exact Or.inl rfl | exact Or.inr ⟨_, rfl⟩ | exact good_of_word (by simpa [nx_is, k2_isCode] using h) | (simp [nx_is, k2_isCode] at h)
theorem gd_N {y : MethodName} {b : ByteArray} {n : Nat} {r : Option FieldType} (hc : Cond.code y b n r ∈ lw_g) : GoodIn lw_g (Cond.code y b n r :: lw_g) := by
  intro w hw
  have h : w ∈ lw_g := by
    rcases List.mem_cons.mp hw with rfl | q
    · exact hc
    · exact q
  exact ⟨h, gd_all w h⟩
theorem gd_app {ws : List Cond} {y : MethodName} {b : ByteArray} {n : Nat} {r : Option FieldType} (hc : Cond.code y b n r ∈ lw_g) (h : ∀ w ∈ ws, w ∈ lw_g) : GoodIn lw_g (ws ++ (Cond.code y b n r :: lw_g)) := by
  intro w hw
  rcases List.mem_append.mp hw with q | q
  · exact ⟨h w q, gd_all w (h w q)⟩
  · exact gd_N hc w q
theorem gd_V {own C : String} {idx : Nat} {y : MethodName} {b : ByteArray} {n : Nat} {r : Option FieldType} (hc : Cond.code y b n r ∈ lw_g) (h : ∀ w ∈ ([.methodLink own idx y, .instanceMethod y, .selects C y y, .initialized C] : List Cond), w ∈ lw_g) : GoodIn lw_g (wsV own idx C y (Cond.code y b n r :: lw_g)) := gd_app hc h
theorem gd_S {own : String} {idx : Nat} {y : MethodName} {b : ByteArray} {n : Nat} {r : Option FieldType} (hc : Cond.code y b n r ∈ lw_g) (h : ∀ w ∈ ([.methodLink own idx y, .static y, .initialized own] : List Cond), w ∈ lw_g) : GoodIn lw_g (wsS own idx y (Cond.code y b n r :: lw_g)) := gd_app hc h
theorem tl_of {args : Array Value} {s : State} {c : Cond} (h : ∀ w ∈ (c :: lw_g), w.before args s = true) : ∀ w ∈ lw_g, w.before args s = true := fun w hw => h w (List.mem_cons_of_mem _ hw)
/-- the nest mates' words, which travel with the state -/
def NX (U : State) : Prop := ∀ w, w ∈ lw_tbl → nx_is w = true → va_Nw w U
theorem NX.warm {s U : State} (hW : s.WarmedH U.vm) (h : NX s) : NX U := by
  intro w hw hn
  have h1 := h w hw hn
  cases w <;> first | exact va_Nw.warmM hW h1 | exact va_Nw.warmF hW h1 | cases hn
theorem NX.same {s U : State} (e : s.vm = U.vm) (h : NX s) : NX U := by
  intro w hw hn
  have h1 := h w hw hn
  cases w <;> first | exact va_Nw.same rfl e h1 | cases hn
abbrev WS : Type := (Nat → Nat → Int32) × (Nat → Int32)
abbrev MS : Type := Nat → Nat → Int32
abbrev ES : Type := WS × MS × MS
def wW (ka : Nat → ClassId) (qa : Nat → Nat) (w : WS) : va_W := [(qa 0, .inr (0, [.ref (qa 1), .ref (qa 2), .ref (qa 3), .ref (qa 4), .ref (qa 5), .ref (qa 6), .int (w.2 0), .int (w.2 1), .int (w.2 2), .int (w.2 3)])), (qa 1, .inl (ka 0, 13, .inl (w.1 0))), (qa 2, .inl (ka 1, 13, .inl (w.1 1))), (qa 3, .inl (ka 2, 13, .inl (w.1 2))), (qa 4, .inl (ka 3, 13, .inl (w.1 3))), (qa 5, .inl (ka 4, 52, .inl (w.1 4))), (qa 6, .inl (ka 5, 13, .inl (w.1 5)))]
def tW (ka : Nat → ClassId) : List (ClassId × FieldType) := [(ka 0, .int), (ka 1, .int), (ka 2, .int), (ka 3, .int), (ka 4, .int), (ka 5, .int)]
def wM (ka : Nat → ClassId) (qa : Nat → Nat) (m : MS) : va_W := [(qa 0, .inr (1, [.ref (qa 1), .ref (qa 2), .ref (qa 3), .ref (qa 4), .ref (qa 5)])), (qa 1, .inl (ka 0, 4, .inl (m 0))), (qa 2, .inl (ka 1, 4, .inl (m 1))), (qa 3, .inl (ka 2, 4, .inl (m 2))), (qa 4, .inl (ka 3, 4, .inl (m 3))), (qa 5, .inl (ka 4, 52, .inl (m 4)))]
def tM (ka : Nat → ClassId) : List (ClassId × FieldType) := [(ka 0, .int), (ka 1, .int), (ka 2, .int), (ka 3, .int), (ka 4, .int)]
def wO (h0 : Nat) (kw kf km : Nat → ClassId) (qw qf qm : Nat → Nat) (v : ES) (lc : Int32) : va_W := (h0, .inr (2, [.ref (qw 0), .ref (qf 0), .ref (qm 0), .int lc])) :: (wW kw qw v.1 ++ (wM kf qf v.2.1 ++ wM km qm v.2.2))
def tO (kw kf km : Nat → ClassId) : List (ClassId × FieldType) := tW kw ++ (tM kf ++ tM km)
abbrev ro_P (dC : Nat → ClassId) (dI : Nat → Nat → Nat) (ws : va_W) (tys : List (ClassId × FieldType)) (sz : Nat) (av : List Value) : Array Value → State → Prop := va_Pc av (fun U => U.heap.size = sz ∧ va_P (dC, dI) classes ws U.heap ∧ va_K (dC, dI) classes tys U ∧ NX U)
abbrev ro_Q (sz : Nat) (F : Int32) : Array Value → State → Outcome → State → Prop := va_Qi (fun (r : Int32) (_ : Unit) => r = F) (fun _ _ => True) (fun z => sz ≤ z)
abbrev mu_P (dC : Nat → ClassId) (dI : Nat → Nat → Nat) (ws : va_W) (tys : List (ClassId × FieldType)) (sz : Nat) (av : List Value) : Array Value → State → Prop := va_Pc av (fun U => U.heap.size = sz ∧ va_P (dC, dI) classes ws U.heap ∧ va_K (dC, dI) classes tys U ∧ NX U ∧ va_D (fun _ => True) ws)
abbrev mu_Q {T : Type} (pic : T → va_W) (dC : Nat → ClassId) (dI : Nat → Nat → Nat) (F : Int32) (G : T) (A : Nat → Prop) : Array Value → State → Outcome → State → Prop := va_Qi (fun (r : Int32) (S : T) => r = F ∧ S = G) (fun S t => va_P (dC, dI) classes (pic S) t.heap) A
abbrev mu_Qv {T : Type} (pic : T → va_W) (dC : Nat → ClassId) (dI : Nat → Nat → Nat) (G : T) (A : Nat → Prop) : Array Value → State → Outcome → State → Prop := va_Qv (fun (S : T) => S = G) (fun S t => va_P (dC, dI) classes (pic S) t.heap) A
theorem fb_ro {dC : Nat → ClassId} {dI : Nat → Nat → Nat} {ws : va_W} {tys : List (ClassId × FieldType)} {sz : Nat} {av : List Value} : FrameBlind (ro_P dC dI ws tys sz av) := by
  intro a U g mk q
  obtain ⟨q0, q1, qP, qK, qN⟩ := q
  exact ⟨q0, q1, qP, va_K.moved (u := U) (U := U.calling g mk a) (Vm.Alike.refl U.vm) qK, NX.same (s := U) (U := U.calling g mk a) rfl qN⟩
theorem fb_mu {dC : Nat → ClassId} {dI : Nat → Nat → Nat} {ws : va_W} {tys : List (ClassId × FieldType)} {sz : Nat} {av : List Value} : FrameBlind (mu_P dC dI ws tys sz av) := by
  intro a U g mk q
  obtain ⟨q0, q1, qP, qK, qN, qD⟩ := q
  exact ⟨q0, q1, qP, va_K.moved (u := U) (U := U.calling g mk a) (Vm.Alike.refl U.vm) qK, NX.same (s := U) (U := U.calling g mk a) rfl qN, qD⟩
theorem kp_P {D : va_G} {cl : List vw_C} {ws : va_W} {H H1 : Heap} (hP : va_P D cl ws H) (hk : ∀ q : Nat, q < H.size → ¬ (H.size ≤ q) → H1[q]? = H[q]?) : va_P D cl ws H1 := hP.kept (fun k q h => hk _ (hP k q h).lt (Nat.not_le.mpr (hP k q h).lt))
theorem ad_D {A : Nat → Prop} {ws ws' : va_W} (h : va_D A ws) (e : ws.map Prod.fst = ws'.map Prod.fst) : va_D A ws' := by
  have key : ∀ (k : Nat) (q : Nat × va_E), ws'[k]? = some q → ∃ p, ws[k]? = some p ∧ p.1 = q.1 := by
    intro k q hq
    have h1 : (ws'.map Prod.fst)[k]? = some q.1 := by rw [List.getElem?_map, hq]; rfl
    rw [← e, List.getElem?_map] at h1
    cases hp : ws[k]? with
    | none => rw [hp] at h1; cases h1
    | some p => rw [hp] at h1; exact ⟨p, rfl, Option.some.inj h1⟩
  refine ⟨fun i j p q hi hj he => ?_, fun k q hq => ?_⟩
  · obtain ⟨p', h1, h2⟩ := key i p hi
    obtain ⟨q', h3, h4⟩ := key j q hj
    exact h.1 i j p' q' h1 h3 (by rw [h2, h4, he])
  · obtain ⟨p', h1, h2⟩ := key k q hq
    rw [← h2]; exact h.2 k p' h1
theorem of_p1 : Int32.ofInt 1 = (1 : Int32) := by decide +kernel
theorem of_m1 : Int32.ofInt (-1) = (-1 : Int32) := by decide +kernel
theorem ne_ti {x y : Int32} {z : Int} (c : ¬ x = y) (hy : y.toInt = z) : x.toInt ≠ z := fun h => c (Int32.toInt_inj.mp (h.trans hy.symm))
def vl_f {α : Type} (l : List α) (d : α) (i : Nat) : α := l.getD i d
def w0 : WS := (fun _ _ => 0, fun _ => 0)
def m0 : MS := fun _ _ => 0
def v0 : ES := (w0, m0, m0)
def nW (h0 : Nat) : va_W := [(h0, .inr (0, [.null, .null, .null, .null, .null, .null, .int 0, .int 0, .int 0, .int 0]))]
def nM (h0 : Nat) : va_W := [(h0, .inr (1, [.null, .null, .null, .null, .null]))]
def nO (h0 : Nat) : va_W := [(h0, .inr (2, [.null, .null, .null, .int 0]))]
end
section
def w_O_init : List Cond := .code y_O_init b_O_init 1 none :: lw_g
set_option maxRecDepth 20000 in
theorem kc_O_init : Cond.code y_O_init b_O_init 1 none ∈ lw_g := List.mem_filter.mpr ⟨List.mem_of_getElem? (i := 52) rfl, rfl⟩
set_option maxRecDepth 20000 in
theorem kc_objInit : Cond.code objectInit ⟨#[0xb1]⟩ 1 none ∈ lw_g := List.mem_filter.mpr ⟨List.mem_of_getElem? (i := 55) rfl, rfl⟩
def w_W_init : List Cond := .code y_W_init b_W_init 1 none :: lw_g
set_option maxRecDepth 20000 in
theorem kc_W_init : Cond.code y_W_init b_W_init 1 none ∈ lw_g := List.mem_filter.mpr ⟨List.mem_of_getElem? (i := 60) rfl, rfl⟩
def w_M_init : List Cond := .code y_M_init b_M_init 1 none :: lw_g
set_option maxRecDepth 20000 in
theorem kc_M_init : Cond.code y_M_init b_M_init 1 none ∈ lw_g := List.mem_filter.mpr ⟨List.mem_of_getElem? (i := 98) rfl, rfl⟩
def w_O_tellClass : List Cond := .code y_O_tellClass b_O_tellClass 5 (some .int) :: lw_g
set_option maxRecDepth 20000 in
theorem kc_O_tellClass : Cond.code y_O_tellClass b_O_tellClass 5 (some .int) ∈ lw_g := List.mem_filter.mpr ⟨List.mem_of_getElem? (i := 132) rfl, rfl⟩
def w_O_isPackage : List Cond := .code y_O_isPackage b_O_isPackage 1 (some .boolean) :: lw_g
set_option maxRecDepth 20000 in
theorem kc_O_isPackage : Cond.code y_O_isPackage b_O_isPackage 1 (some .boolean) ∈ lw_g := List.mem_filter.mpr ⟨List.mem_of_getElem? (i := 135) rfl, rfl⟩
def w_W_mayBeExtended : List Cond := .code y_W_mayBeExtended b_W_mayBeExtended 2 (some .boolean) :: lw_g
set_option maxRecDepth 20000 in
theorem kc_W_mayBeExtended : Cond.code y_W_mayBeExtended b_W_mayBeExtended 2 (some .boolean) ∈ lw_g := List.mem_filter.mpr ⟨List.mem_of_getElem? (i := 139) rfl, rfl⟩
def w_W_isClass : List Cond := .code y_W_isClass b_W_isClass 2 (some .boolean) :: lw_g
set_option maxRecDepth 20000 in
theorem kc_W_isClass : Cond.code y_W_isClass b_W_isClass 2 (some .boolean) ∈ lw_g := List.mem_filter.mpr ⟨List.mem_of_getElem? (i := 143) rfl, rfl⟩
def w_W_has : List Cond := .code y_W_has b_W_has 2 (some .boolean) :: lw_g
set_option maxRecDepth 20000 in
theorem kc_W_has : Cond.code y_W_has b_W_has 2 (some .boolean) ∈ lw_g := List.mem_filter.mpr ⟨List.mem_of_getElem? (i := 147) rfl, rfl⟩
def w_O_holds : List Cond := .code y_O_holds b_O_holds 2 (some .boolean) :: lw_g
set_option maxRecDepth 20000 in
theorem kc_O_holds : Cond.code y_O_holds b_O_holds 2 (some .boolean) ∈ lw_g := List.mem_filter.mpr ⟨List.mem_of_getElem? (i := 150) rfl, rfl⟩
def w_W_isFull : List Cond := .code y_W_isFull b_W_isFull 1 (some .boolean) :: lw_g
set_option maxRecDepth 20000 in
theorem kc_W_isFull : Cond.code y_W_isFull b_W_isFull 1 (some .boolean) ∈ lw_g := List.mem_filter.mpr ⟨List.mem_of_getElem? (i := 154) rfl, rfl⟩
def w_W_addClass : List Cond := .code y_W_addClass b_W_addClass 6 (some .int) :: lw_g
set_option maxRecDepth 20000 in
theorem kc_W_addClass : Cond.code y_W_addClass b_W_addClass 6 (some .int) ∈ lw_g := List.mem_filter.mpr ⟨List.mem_of_getElem? (i := 158) rfl, rfl⟩
def w_W_addType : List Cond := .code y_W_addType b_W_addType 4 (some .int) :: lw_g
set_option maxRecDepth 20000 in
theorem kc_W_addType : Cond.code y_W_addType b_W_addType 4 (some .int) ∈ lw_g := List.mem_filter.mpr ⟨List.mem_of_getElem? (i := 162) rfl, rfl⟩
def w_O_tellInterface : List Cond := .code y_O_tellInterface b_O_tellInterface 3 (some .int) :: lw_g
set_option maxRecDepth 20000 in
theorem kc_O_tellInterface : Cond.code y_O_tellInterface b_O_tellInterface 3 (some .int) ∈ lw_g := List.mem_filter.mpr ⟨List.mem_of_getElem? (i := 166) rfl, rfl⟩
def w_W_addInterface : List Cond := .code y_W_addInterface b_W_addInterface 4 (some .int) :: lw_g
set_option maxRecDepth 20000 in
theorem kc_W_addInterface : Cond.code y_W_addInterface b_W_addInterface 4 (some .int) ∈ lw_g := List.mem_filter.mpr ⟨List.mem_of_getElem? (i := 170) rfl, rfl⟩
def w_O_implement : List Cond := .code y_O_implement b_O_implement 3 (some .int) :: lw_g
set_option maxRecDepth 20000 in
theorem kc_O_implement : Cond.code y_O_implement b_O_implement 3 (some .int) ∈ lw_g := List.mem_filter.mpr ⟨List.mem_of_getElem? (i := 174) rfl, rfl⟩
def w_W_isInterface : List Cond := .code y_W_isInterface b_W_isInterface 2 (some .boolean) :: lw_g
set_option maxRecDepth 20000 in
theorem kc_W_isInterface : Cond.code y_W_isInterface b_W_isInterface 2 (some .boolean) ∈ lw_g := List.mem_filter.mpr ⟨List.mem_of_getElem? (i := 179) rfl, rfl⟩
def w_W_hasDirect : List Cond := .code y_W_hasDirect b_W_hasDirect 4 (some .boolean) :: lw_g
set_option maxRecDepth 20000 in
theorem kc_W_hasDirect : Cond.code y_W_hasDirect b_W_hasDirect 4 (some .boolean) ∈ lw_g := List.mem_filter.mpr ⟨List.mem_of_getElem? (i := 183) rfl, rfl⟩
def w_W_directAt : List Cond := .code y_W_directAt b_W_directAt 3 (some .int) :: lw_g
set_option maxRecDepth 20000 in
theorem kc_W_directAt : Cond.code y_W_directAt b_W_directAt 3 (some .int) ∈ lw_g := List.mem_filter.mpr ⟨List.mem_of_getElem? (i := 187) rfl, rfl⟩
def w_W_directCount : List Cond := .code y_W_directCount b_W_directCount 2 (some .int) :: lw_g
set_option maxRecDepth 20000 in
theorem kc_W_directCount : Cond.code y_W_directCount b_W_directCount 2 (some .int) ∈ lw_g := List.mem_filter.mpr ⟨List.mem_of_getElem? (i := 191) rfl, rfl⟩
def w_W_addDirect : List Cond := .code y_W_addDirect b_W_addDirect 4 (some .int) :: lw_g
set_option maxRecDepth 20000 in
theorem kc_W_addDirect : Cond.code y_W_addDirect b_W_addDirect 4 (some .int) ∈ lw_g := List.mem_filter.mpr ⟨List.mem_of_getElem? (i := 195) rfl, rfl⟩
def w_O_nest : List Cond := .code y_O_nest b_O_nest 3 (some .int) :: lw_g
set_option maxRecDepth 20000 in
theorem kc_O_nest : Cond.code y_O_nest b_O_nest 3 (some .int) ∈ lw_g := List.mem_filter.mpr ⟨List.mem_of_getElem? (i := 199) rfl, rfl⟩
def w_W_samePackage : List Cond := .code y_W_samePackage b_W_samePackage 3 (some .boolean) :: lw_g
set_option maxRecDepth 20000 in
theorem kc_W_samePackage : Cond.code y_W_samePackage b_W_samePackage 3 (some .boolean) ∈ lw_g := List.mem_filter.mpr ⟨List.mem_of_getElem? (i := 203) rfl, rfl⟩
def w_W_hostOf : List Cond := .code y_W_hostOf b_W_hostOf 2 (some .int) :: lw_g
set_option maxRecDepth 20000 in
theorem kc_W_hostOf : Cond.code y_W_hostOf b_W_hostOf 2 (some .int) ∈ lw_g := List.mem_filter.mpr ⟨List.mem_of_getElem? (i := 207) rfl, rfl⟩
def w_W_hostsAnother : List Cond := .code y_W_hostsAnother b_W_hostsAnother 3 (some .boolean) :: lw_g
set_option maxRecDepth 20000 in
theorem kc_W_hostsAnother : Cond.code y_W_hostsAnother b_W_hostsAnother 3 (some .boolean) ∈ lw_g := List.mem_filter.mpr ⟨List.mem_of_getElem? (i := 211) rfl, rfl⟩
def w_W_setHost : List Cond := .code y_W_setHost b_W_setHost 3 none :: lw_g
set_option maxRecDepth 20000 in
theorem kc_W_setHost : Cond.code y_W_setHost b_W_setHost 3 none ∈ lw_g := List.mem_filter.mpr ⟨List.mem_of_getElem? (i := 215) rfl, rfl⟩
def w_O_field : List Cond := .code y_O_field b_O_field 5 (some .int) :: lw_g
set_option maxRecDepth 20000 in
theorem kc_O_field : Cond.code y_O_field b_O_field 5 (some .int) ∈ lw_g := List.mem_filter.mpr ⟨List.mem_of_getElem? (i := 219) rfl, rfl⟩
def w_O_isName : List Cond := .code y_O_isName b_O_isName 1 (some .boolean) :: lw_g
set_option maxRecDepth 20000 in
theorem kc_O_isName : Cond.code y_O_isName b_O_isName 1 (some .boolean) ∈ lw_g := List.mem_filter.mpr ⟨List.mem_of_getElem? (i := 222) rfl, rfl⟩
def w_O_isAccess : List Cond := .code y_O_isAccess b_O_isAccess 1 (some .boolean) :: lw_g
set_option maxRecDepth 20000 in
theorem kc_O_isAccess : Cond.code y_O_isAccess b_O_isAccess 1 (some .boolean) ∈ lw_g := List.mem_filter.mpr ⟨List.mem_of_getElem? (i := 225) rfl, rfl⟩
def w_M_put : List Cond := .code y_M_put b_M_put 6 none :: lw_g
set_option maxRecDepth 20000 in
theorem kc_M_put : Cond.code y_M_put b_M_put 6 none ∈ lw_g := List.mem_filter.mpr ⟨List.mem_of_getElem? (i := 229) rfl, rfl⟩
def w_M_drop : List Cond := .code y_M_drop b_M_drop 4 none :: lw_g
set_option maxRecDepth 20000 in
theorem kc_M_drop : Cond.code y_M_drop b_M_drop 4 none ∈ lw_g := List.mem_filter.mpr ⟨List.mem_of_getElem? (i := 233) rfl, rfl⟩
def w_O_method : List Cond := .code y_O_method b_O_method 5 (some .int) :: lw_g
set_option maxRecDepth 20000 in
theorem kc_O_method : Cond.code y_O_method b_O_method 5 (some .int) ∈ lw_g := List.mem_filter.mpr ⟨List.mem_of_getElem? (i := 237) rfl, rfl⟩
def w_O_isForm : List Cond := .code y_O_isForm b_O_isForm 1 (some .boolean) :: lw_g
set_option maxRecDepth 20000 in
theorem kc_O_isForm : Cond.code y_O_isForm b_O_isForm 1 (some .boolean) ∈ lw_g := List.mem_filter.mpr ⟨List.mem_of_getElem? (i := 240) rfl, rfl⟩
def w_O_untell : List Cond := .code y_O_untell b_O_untell 5 (some .int) :: lw_g
set_option maxRecDepth 20000 in
theorem kc_O_untell : Cond.code y_O_untell b_O_untell 5 (some .int) ∈ lw_g := List.mem_filter.mpr ⟨List.mem_of_getElem? (i := 244) rfl, rfl⟩
def w_M_has : List Cond := .code y_M_has b_M_has 3 (some .boolean) :: lw_g
set_option maxRecDepth 20000 in
theorem kc_M_has : Cond.code y_M_has b_M_has 3 (some .boolean) ∈ lw_g := List.mem_filter.mpr ⟨List.mem_of_getElem? (i := 248) rfl, rfl⟩
def w_O_resolve : List Cond := .code y_O_resolve b_O_resolve 6 (some .int) :: lw_g
set_option maxRecDepth 20000 in
theorem kc_O_resolve : Cond.code y_O_resolve b_O_resolve 6 (some .int) ∈ lw_g := List.mem_filter.mpr ⟨List.mem_of_getElem? (i := 254) rfl, rfl⟩
def w_O_findField : List Cond := .code y_O_findField b_O_findField 5 (some .int) :: lw_g
set_option maxRecDepth 20000 in
theorem kc_O_findField : Cond.code y_O_findField b_O_findField 5 (some .int) ∈ lw_g := List.mem_filter.mpr ⟨List.mem_of_getElem? (i := 258) rfl, rfl⟩
def w_W_mayUseType : List Cond := .code y_W_mayUseType b_W_mayUseType 3 (some .boolean) :: lw_g
set_option maxRecDepth 20000 in
theorem kc_W_mayUseType : Cond.code y_W_mayUseType b_W_mayUseType 3 (some .boolean) ∈ lw_g := List.mem_filter.mpr ⟨List.mem_of_getElem? (i := 262) rfl, rfl⟩
def w_M_owners : List Cond := .code y_M_owners b_M_owners 2 (some .int) :: lw_g
set_option maxRecDepth 20000 in
theorem kc_M_owners : Cond.code y_M_owners b_M_owners 2 (some .int) ∈ lw_g := List.mem_filter.mpr ⟨List.mem_of_getElem? (i := 267) rfl, rfl⟩
def w_W_search : List Cond := .code y_W_search b_W_search 5 (some .int) :: lw_g
set_option maxRecDepth 20000 in
theorem kc_W_search : Cond.code y_W_search b_W_search 5 (some .int) ∈ lw_g := List.mem_filter.mpr ⟨List.mem_of_getElem? (i := 271) rfl, rfl⟩
def w_W_nextToSearch : List Cond := .code y_W_nextToSearch b_W_nextToSearch 5 (some .int) :: lw_g
set_option maxRecDepth 20000 in
theorem kc_W_nextToSearch : Cond.code y_W_nextToSearch b_W_nextToSearch 5 (some .int) ∈ lw_g := List.mem_filter.mpr ⟨List.mem_of_getElem? (i := 275) rfl, rfl⟩
def w_O_admitted : List Cond := .code y_O_admitted b_O_admitted 5 (some .int) :: lw_g
set_option maxRecDepth 20000 in
theorem kc_O_admitted : Cond.code y_O_admitted b_O_admitted 5 (some .int) ∈ lw_g := List.mem_filter.mpr ⟨List.mem_of_getElem? (i := 279) rfl, rfl⟩
def w_M_accessOf : List Cond := .code y_M_accessOf b_M_accessOf 3 (some .int) :: lw_g
set_option maxRecDepth 20000 in
theorem kc_M_accessOf : Cond.code y_M_accessOf b_M_accessOf 3 (some .int) ∈ lw_g := List.mem_filter.mpr ⟨List.mem_of_getElem? (i := 283) rfl, rfl⟩
def w_O_mayUseMember : List Cond := .code y_O_mayUseMember b_O_mayUseMember 4 (some .boolean) :: lw_g
set_option maxRecDepth 20000 in
theorem kc_O_mayUseMember : Cond.code y_O_mayUseMember b_O_mayUseMember 4 (some .boolean) ∈ lw_g := List.mem_filter.mpr ⟨List.mem_of_getElem? (i := 287) rfl, rfl⟩
def w_W_isKindOf : List Cond := .code y_W_isKindOf b_W_isKindOf 3 (some .boolean) :: lw_g
set_option maxRecDepth 20000 in
theorem kc_W_isKindOf : Cond.code y_W_isKindOf b_W_isKindOf 3 (some .boolean) ∈ lw_g := List.mem_filter.mpr ⟨List.mem_of_getElem? (i := 291) rfl, rfl⟩
def w_W_sameHost : List Cond := .code y_W_sameHost b_W_sameHost 3 (some .boolean) :: lw_g
set_option maxRecDepth 20000 in
theorem kc_W_sameHost : Cond.code y_W_sameHost b_W_sameHost 3 (some .boolean) ∈ lw_g := List.mem_filter.mpr ⟨List.mem_of_getElem? (i := 295) rfl, rfl⟩
def w_O_resolveMethod : List Cond := .code y_O_resolveMethod b_O_resolveMethod 7 (some .int) :: lw_g
set_option maxRecDepth 20000 in
theorem kc_O_resolveMethod : Cond.code y_O_resolveMethod b_O_resolveMethod 7 (some .int) ∈ lw_g := List.mem_filter.mpr ⟨List.mem_of_getElem? (i := 299) rfl, rfl⟩
def w_W_chain : List Cond := .code y_W_chain b_W_chain 2 (some .int) :: lw_g
set_option maxRecDepth 20000 in
theorem kc_W_chain : Cond.code y_W_chain b_W_chain 2 (some .int) ∈ lw_g := List.mem_filter.mpr ⟨List.mem_of_getElem? (i := 303) rfl, rfl⟩
def w_O_greatestOf : List Cond := .code y_O_greatestOf b_O_greatestOf 2 (some .int) :: lw_g
set_option maxRecDepth 20000 in
theorem kc_O_greatestOf : Cond.code y_O_greatestOf b_O_greatestOf 2 (some .int) ∈ lw_g := List.mem_filter.mpr ⟨List.mem_of_getElem? (i := 306) rfl, rfl⟩
def w_O_bestOfInterfaces : List Cond := .code y_O_bestOfInterfaces b_O_bestOfInterfaces 4 (some .int) :: lw_g
set_option maxRecDepth 20000 in
theorem kc_O_bestOfInterfaces : Cond.code y_O_bestOfInterfaces b_O_bestOfInterfaces 4 (some .int) ∈ lw_g := List.mem_filter.mpr ⟨List.mem_of_getElem? (i := 311) rfl, rfl⟩
def w_O_maximalSet : List Cond := .code y_O_maximalSet b_O_maximalSet 6 (some .int) :: lw_g
set_option maxRecDepth 20000 in
theorem kc_O_maximalSet : Cond.code y_O_maximalSet b_O_maximalSet 6 (some .int) ∈ lw_g := List.mem_filter.mpr ⟨List.mem_of_getElem? (i := 315) rfl, rfl⟩
def w_O_interfaceMethods : List Cond := .code y_O_interfaceMethods b_O_interfaceMethods 3 (some .int) :: lw_g
set_option maxRecDepth 20000 in
theorem kc_O_interfaceMethods : Cond.code y_O_interfaceMethods b_O_interfaceMethods 3 (some .int) ∈ lw_g := List.mem_filter.mpr ⟨List.mem_of_getElem? (i := 319) rfl, rfl⟩
def w_W_supertypes : List Cond := .code y_W_supertypes b_W_supertypes 2 (some .int) :: lw_g
set_option maxRecDepth 20000 in
theorem kc_W_supertypes : Cond.code y_W_supertypes b_W_supertypes 2 (some .int) ∈ lw_g := List.mem_filter.mpr ⟨List.mem_of_getElem? (i := 323) rfl, rfl⟩
def w_W_interfaces : List Cond := .code y_W_interfaces b_W_interfaces 1 (some .int) :: lw_g
set_option maxRecDepth 20000 in
theorem kc_W_interfaces : Cond.code y_W_interfaces b_W_interfaces 1 (some .int) ∈ lw_g := List.mem_filter.mpr ⟨List.mem_of_getElem? (i := 327) rfl, rfl⟩
def w_M_inheritable : List Cond := .code y_M_inheritable b_M_inheritable 2 (some .int) :: lw_g
set_option maxRecDepth 20000 in
theorem kc_M_inheritable : Cond.code y_M_inheritable b_M_inheritable 2 (some .int) ∈ lw_g := List.mem_filter.mpr ⟨List.mem_of_getElem? (i := 331) rfl, rfl⟩
def w_M_abstracts : List Cond := .code y_M_abstracts b_M_abstracts 2 (some .int) :: lw_g
set_option maxRecDepth 20000 in
theorem kc_M_abstracts : Cond.code y_M_abstracts b_M_abstracts 2 (some .int) ∈ lw_g := List.mem_filter.mpr ⟨List.mem_of_getElem? (i := 335) rfl, rfl⟩
def w_J_bitCount : List Cond := .code y_J_bitCount b_J_bitCount 1 (some .int) :: lw_g
set_option maxRecDepth 20000 in
theorem kc_J_bitCount : Cond.code y_J_bitCount b_J_bitCount 1 (some .int) ∈ lw_g := List.mem_filter.mpr ⟨List.mem_of_getElem? (i := 338) rfl, rfl⟩
def w_O_leastOf : List Cond := .code y_O_leastOf b_O_leastOf 2 (some .int) :: lw_g
set_option maxRecDepth 20000 in
theorem kc_O_leastOf : Cond.code y_O_leastOf b_O_leastOf 2 (some .int) ∈ lw_g := List.mem_filter.mpr ⟨List.mem_of_getElem? (i := 344) rfl, rfl⟩
def w_O_choices : List Cond := .code y_O_choices b_O_choices 1 (some .int) :: lw_g
set_option maxRecDepth 20000 in
theorem kc_O_choices : Cond.code y_O_choices b_O_choices 1 (some .int) ∈ lw_g := List.mem_filter.mpr ⟨List.mem_of_getElem? (i := 348) rfl, rfl⟩
def w_O_use : List Cond := .code y_O_use b_O_use 6 (some .int) :: lw_g
set_option maxRecDepth 20000 in
theorem kc_O_use : Cond.code y_O_use b_O_use 6 (some .int) ∈ lw_g := List.mem_filter.mpr ⟨List.mem_of_getElem? (i := 352) rfl, rfl⟩
def w_M_isStatic : List Cond := .code y_M_isStatic b_M_isStatic 3 (some .boolean) :: lw_g
set_option maxRecDepth 20000 in
theorem kc_M_isStatic : Cond.code y_M_isStatic b_M_isStatic 3 (some .boolean) ∈ lw_g := List.mem_filter.mpr ⟨List.mem_of_getElem? (i := 356) rfl, rfl⟩
def w_O_invoke : List Cond := .code y_O_invoke b_O_invoke 6 (some .int) :: lw_g
set_option maxRecDepth 20000 in
theorem kc_O_invoke : Cond.code y_O_invoke b_O_invoke 6 (some .int) ∈ lw_g := List.mem_filter.mpr ⟨List.mem_of_getElem? (i := 360) rfl, rfl⟩
def w_O_isReceiver : List Cond := .code y_O_isReceiver b_O_isReceiver 5 (some .boolean) :: lw_g
set_option maxRecDepth 20000 in
theorem kc_O_isReceiver : Cond.code y_O_isReceiver b_O_isReceiver 5 (some .boolean) ∈ lw_g := List.mem_filter.mpr ⟨List.mem_of_getElem? (i := 364) rfl, rfl⟩
def w_O_invokeVirtual : List Cond := .code y_O_invokeVirtual b_O_invokeVirtual 6 (some .int) :: lw_g
set_option maxRecDepth 20000 in
theorem kc_O_invokeVirtual : Cond.code y_O_invokeVirtual b_O_invokeVirtual 6 (some .int) ∈ lw_g := List.mem_filter.mpr ⟨List.mem_of_getElem? (i := 369) rfl, rfl⟩
def w_O_select : List Cond := .code y_O_select b_O_select 6 (some .int) :: lw_g
set_option maxRecDepth 20000 in
theorem kc_O_select : Cond.code y_O_select b_O_select 6 (some .int) ∈ lw_g := List.mem_filter.mpr ⟨List.mem_of_getElem? (i := 373) rfl, rfl⟩
def w_O_canOverride : List Cond := .code y_O_canOverride b_O_canOverride 8 (some .boolean) :: lw_g
set_option maxRecDepth 20000 in
theorem kc_O_canOverride : Cond.code y_O_canOverride b_O_canOverride 8 (some .boolean) ∈ lw_g := List.mem_filter.mpr ⟨List.mem_of_getElem? (i := 377) rfl, rfl⟩
def w_M_instances : List Cond := .code y_M_instances b_M_instances 2 (some .int) :: lw_g
set_option maxRecDepth 20000 in
theorem kc_M_instances : Cond.code y_M_instances b_M_instances 2 (some .int) ∈ lw_g := List.mem_filter.mpr ⟨List.mem_of_getElem? (i := 381) rfl, rfl⟩
def w_W_kindsOf : List Cond := .code y_W_kindsOf b_W_kindsOf 4 (some .int) :: lw_g
set_option maxRecDepth 20000 in
theorem kc_W_kindsOf : Cond.code y_W_kindsOf b_W_kindsOf 4 (some .int) ∈ lw_g := List.mem_filter.mpr ⟨List.mem_of_getElem? (i := 385) rfl, rfl⟩
def w_O_overridesOneOf : List Cond := .code y_O_overridesOneOf b_O_overridesOneOf 5 (some .boolean) :: lw_g
set_option maxRecDepth 20000 in
theorem kc_O_overridesOneOf : Cond.code y_O_overridesOneOf b_O_overridesOneOf 5 (some .boolean) ∈ lw_g := List.mem_filter.mpr ⟨List.mem_of_getElem? (i := 389) rfl, rfl⟩
def w_O_overridesAtOnce : List Cond := .code y_O_overridesAtOnce b_O_overridesAtOnce 4 (some .boolean) :: lw_g
set_option maxRecDepth 20000 in
theorem kc_O_overridesAtOnce : Cond.code y_O_overridesAtOnce b_O_overridesAtOnce 4 (some .boolean) ∈ lw_g := List.mem_filter.mpr ⟨List.mem_of_getElem? (i := 393) rfl, rfl⟩
def w_O_runnable : List Cond := .code y_O_runnable b_O_runnable 3 (some .int) :: lw_g
set_option maxRecDepth 20000 in
theorem kc_O_runnable : Cond.code y_O_runnable b_O_runnable 3 (some .int) ∈ lw_g := List.mem_filter.mpr ⟨List.mem_of_getElem? (i := 397) rfl, rfl⟩
def w_O_invokeInterface : List Cond := .code y_O_invokeInterface b_O_invokeInterface 8 (some .int) :: lw_g
set_option maxRecDepth 20000 in
theorem kc_O_invokeInterface : Cond.code y_O_invokeInterface b_O_invokeInterface 8 (some .int) ∈ lw_g := List.mem_filter.mpr ⟨List.mem_of_getElem? (i := 401) rfl, rfl⟩
def w_O_invokeSpecial : List Cond := .code y_O_invokeSpecial b_O_invokeSpecial 8 (some .int) :: lw_g
set_option maxRecDepth 20000 in
theorem kc_O_invokeSpecial : Cond.code y_O_invokeSpecial b_O_invokeSpecial 8 (some .int) ∈ lw_g := List.mem_filter.mpr ⟨List.mem_of_getElem? (i := 405) rfl, rfl⟩
def w_W_superclassOf : List Cond := .code y_W_superclassOf b_W_superclassOf 2 (some .int) :: lw_g
set_option maxRecDepth 20000 in
theorem kc_W_superclassOf : Cond.code y_W_superclassOf b_W_superclassOf 2 (some .int) ∈ lw_g := List.mem_filter.mpr ⟨List.mem_of_getElem? (i := 409) rfl, rfl⟩
def w_O_invokeStatic : List Cond := .code y_O_invokeStatic b_O_invokeStatic 5 (some .int) :: lw_g
set_option maxRecDepth 20000 in
theorem kc_O_invokeStatic : Cond.code y_O_invokeStatic b_O_invokeStatic 5 (some .int) ∈ lw_g := List.mem_filter.mpr ⟨List.mem_of_getElem? (i := 413) rfl, rfl⟩
def w_O_isA : List Cond := .code y_O_isA b_O_isA 3 (some .boolean) :: lw_g
set_option maxRecDepth 20000 in
theorem kc_O_isA : Cond.code y_O_isA b_O_isA 3 (some .boolean) ∈ lw_g := List.mem_filter.mpr ⟨List.mem_of_getElem? (i := 417) rfl, rfl⟩
def w_O_mates : List Cond := .code y_O_mates b_O_mates 3 (some .boolean) :: lw_g
set_option maxRecDepth 20000 in
theorem kc_O_mates : Cond.code y_O_mates b_O_mates 3 (some .boolean) ∈ lw_g := List.mem_filter.mpr ⟨List.mem_of_getElem? (i := 421) rfl, rfl⟩
def w_O_overrides : List Cond := .code y_O_overrides b_O_overrides 4 (some .boolean) :: lw_g
set_option maxRecDepth 20000 in
theorem kc_O_overrides : Cond.code y_O_overrides b_O_overrides 4 (some .boolean) ∈ lw_g := List.mem_filter.mpr ⟨List.mem_of_getElem? (i := 425) rfl, rfl⟩
def w_O_maximal : List Cond := .code y_O_maximal b_O_maximal 3 (some .int) :: lw_g
set_option maxRecDepth 20000 in
theorem kc_O_maximal : Cond.code y_O_maximal b_O_maximal 3 (some .int) ∈ lw_g := List.mem_filter.mpr ⟨List.mem_of_getElem? (i := 429) rfl, rfl⟩
def w_O_type : List Cond := .code y_O_type b_O_type 3 (some .int) :: lw_g
set_option maxRecDepth 20000 in
theorem kc_O_type : Cond.code y_O_type b_O_type 3 (some .int) ∈ lw_g := List.mem_filter.mpr ⟨List.mem_of_getElem? (i := 433) rfl, rfl⟩
def w_W_packageOf : List Cond := .code y_W_packageOf b_W_packageOf 2 (some .int) :: lw_g
set_option maxRecDepth 20000 in
theorem kc_W_packageOf : Cond.code y_W_packageOf b_W_packageOf 2 (some .int) ∈ lw_g := List.mem_filter.mpr ⟨List.mem_of_getElem? (i := 437) rfl, rfl⟩
def w_R_init : List Cond := .code y_R_init b_R_init 2 none :: lw_g
set_option maxRecDepth 20000 in
theorem kc_R_init : Cond.code y_R_init b_R_init 2 none ∈ lw_g := List.mem_filter.mpr ⟨List.mem_of_getElem? (i := 443) rfl, rfl⟩
def w_R_tellClass : List Cond := .code y_R_tellClass b_R_tellClass 6 (some .int) :: lw_g
set_option maxRecDepth 20000 in
theorem kc_R_tellClass : Cond.code y_R_tellClass b_R_tellClass 6 (some .int) ∈ lw_g := List.mem_filter.mpr ⟨List.mem_of_getElem? (i := 495) rfl, rfl⟩
def w_R_in : List Cond := .code y_R_in b_R_in 3 (some .boolean) :: lw_g
set_option maxRecDepth 20000 in
theorem kc_R_in : Cond.code y_R_in b_R_in 3 (some .boolean) ∈ lw_g := List.mem_filter.mpr ⟨List.mem_of_getElem? (i := 498) rfl, rfl⟩
def w_R_there : List Cond := .code y_R_there b_R_there 2 (some .boolean) :: lw_g
set_option maxRecDepth 20000 in
theorem kc_R_there : Cond.code y_R_there b_R_there 2 (some .boolean) ∈ lw_g := List.mem_filter.mpr ⟨List.mem_of_getElem? (i := 502) rfl, rfl⟩
def w_R_tell : List Cond := .code y_R_tell b_R_tell 3 (some .int) :: lw_g
set_option maxRecDepth 20000 in
theorem kc_R_tell : Cond.code y_R_tell b_R_tell 3 (some .int) ∈ lw_g := List.mem_filter.mpr ⟨List.mem_of_getElem? (i := 506) rfl, rfl⟩
def w_R_tellInterface : List Cond := .code y_R_tellInterface b_R_tellInterface 4 (some .int) :: lw_g
set_option maxRecDepth 20000 in
theorem kc_R_tellInterface : Cond.code y_R_tellInterface b_R_tellInterface 4 (some .int) ∈ lw_g := List.mem_filter.mpr ⟨List.mem_of_getElem? (i := 510) rfl, rfl⟩
def w_R_implement : List Cond := .code y_R_implement b_R_implement 4 (some .int) :: lw_g
set_option maxRecDepth 20000 in
theorem kc_R_implement : Cond.code y_R_implement b_R_implement 4 (some .int) ∈ lw_g := List.mem_filter.mpr ⟨List.mem_of_getElem? (i := 514) rfl, rfl⟩
def w_R_nest : List Cond := .code y_R_nest b_R_nest 4 (some .int) :: lw_g
set_option maxRecDepth 20000 in
theorem kc_R_nest : Cond.code y_R_nest b_R_nest 4 (some .int) ∈ lw_g := List.mem_filter.mpr ⟨List.mem_of_getElem? (i := 518) rfl, rfl⟩
def w_R_field : List Cond := .code y_R_field b_R_field 5 (some .int) :: lw_g
set_option maxRecDepth 20000 in
theorem kc_R_field : Cond.code y_R_field b_R_field 5 (some .int) ∈ lw_g := List.mem_filter.mpr ⟨List.mem_of_getElem? (i := 522) rfl, rfl⟩
def w_R_method : List Cond := .code y_R_method b_R_method 5 (some .int) :: lw_g
set_option maxRecDepth 20000 in
theorem kc_R_method : Cond.code y_R_method b_R_method 5 (some .int) ∈ lw_g := List.mem_filter.mpr ⟨List.mem_of_getElem? (i := 526) rfl, rfl⟩
def w_R_untell : List Cond := .code y_R_untell b_R_untell 5 (some .int) :: lw_g
set_option maxRecDepth 20000 in
theorem kc_R_untell : Cond.code y_R_untell b_R_untell 5 (some .int) ∈ lw_g := List.mem_filter.mpr ⟨List.mem_of_getElem? (i := 530) rfl, rfl⟩
def w_R_resolve : List Cond := .code y_R_resolve b_R_resolve 5 (some .int) :: lw_g
set_option maxRecDepth 20000 in
theorem kc_R_resolve : Cond.code y_R_resolve b_R_resolve 5 (some .int) ∈ lw_g := List.mem_filter.mpr ⟨List.mem_of_getElem? (i := 534) rfl, rfl⟩
def w_R_closeAbove : List Cond := .code y_R_closeAbove b_R_closeAbove 3 none :: lw_g
set_option maxRecDepth 20000 in
theorem kc_R_closeAbove : Cond.code y_R_closeAbove b_R_closeAbove 3 none ∈ lw_g := List.mem_filter.mpr ⟨List.mem_of_getElem? (i := 538) rfl, rfl⟩
def w_R_resolved : List Cond := .code y_R_resolved b_R_resolved 6 (some .int) :: lw_g
set_option maxRecDepth 20000 in
theorem kc_R_resolved : Cond.code y_R_resolved b_R_resolved 6 (some .int) ∈ lw_g := List.mem_filter.mpr ⟨List.mem_of_getElem? (i := 542) rfl, rfl⟩
def w_R_usableType : List Cond := .code y_R_usableType b_R_usableType 3 (some .boolean) :: lw_g
set_option maxRecDepth 20000 in
theorem kc_R_usableType : Cond.code y_R_usableType b_R_usableType 3 (some .boolean) ∈ lw_g := List.mem_filter.mpr ⟨List.mem_of_getElem? (i := 546) rfl, rfl⟩
def w_R_findField : List Cond := .code y_R_findField b_R_findField 7 (some .int) :: lw_g
set_option maxRecDepth 20000 in
theorem kc_R_findField : Cond.code y_R_findField b_R_findField 7 (some .int) ∈ lw_g := List.mem_filter.mpr ⟨List.mem_of_getElem? (i := 550) rfl, rfl⟩
def w_R_usable : List Cond := .code y_R_usable b_R_usable 5 (some .boolean) :: lw_g
set_option maxRecDepth 20000 in
theorem kc_R_usable : Cond.code y_R_usable b_R_usable 5 (some .boolean) ∈ lw_g := List.mem_filter.mpr ⟨List.mem_of_getElem? (i := 554) rfl, rfl⟩
def w_R_is : List Cond := .code y_R_is b_R_is 3 (some .boolean) :: lw_g
set_option maxRecDepth 20000 in
theorem kc_R_is : Cond.code y_R_is b_R_is 3 (some .boolean) ∈ lw_g := List.mem_filter.mpr ⟨List.mem_of_getElem? (i := 558) rfl, rfl⟩
def w_R_findMethod : List Cond := .code y_R_findMethod b_R_findMethod 5 (some .int) :: lw_g
set_option maxRecDepth 20000 in
theorem kc_R_findMethod : Cond.code y_R_findMethod b_R_findMethod 5 (some .int) ∈ lw_g := List.mem_filter.mpr ⟨List.mem_of_getElem? (i := 562) rfl, rfl⟩
def w_R_has : List Cond := .code y_R_has b_R_has 3 (some .boolean) :: lw_g
set_option maxRecDepth 20000 in
theorem kc_R_has : Cond.code y_R_has b_R_has 3 (some .boolean) ∈ lw_g := List.mem_filter.mpr ⟨List.mem_of_getElem? (i := 566) rfl, rfl⟩
def w_R_findAbove : List Cond := .code y_R_findAbove b_R_findAbove 7 (some .int) :: lw_g
set_option maxRecDepth 20000 in
theorem kc_R_findAbove : Cond.code y_R_findAbove b_R_findAbove 7 (some .int) ∈ lw_g := List.mem_filter.mpr ⟨List.mem_of_getElem? (i := 570) rfl, rfl⟩
def w_R_maximals : List Cond := .code y_R_maximals b_R_maximals 7 (some .int) :: lw_g
set_option maxRecDepth 20000 in
theorem kc_R_maximals : Cond.code y_R_maximals b_R_maximals 7 (some .int) ∈ lw_g := List.mem_filter.mpr ⟨List.mem_of_getElem? (i := 574) rfl, rfl⟩
def w_R_candidates : List Cond := .code y_R_candidates b_R_candidates 5 (some .int) :: lw_g
set_option maxRecDepth 20000 in
theorem kc_R_candidates : Cond.code y_R_candidates b_R_candidates 5 (some .int) ∈ lw_g := List.mem_filter.mpr ⟨List.mem_of_getElem? (i := 578) rfl, rfl⟩
def w_R_isStatic : List Cond := .code y_R_isStatic b_R_isStatic 3 (some .boolean) :: lw_g
set_option maxRecDepth 20000 in
theorem kc_R_isStatic : Cond.code y_R_isStatic b_R_isStatic 3 (some .boolean) ∈ lw_g := List.mem_filter.mpr ⟨List.mem_of_getElem? (i := 582) rfl, rfl⟩
def w_R_isPrivate : List Cond := .code y_R_isPrivate b_R_isPrivate 3 (some .boolean) :: lw_g
set_option maxRecDepth 20000 in
theorem kc_R_isPrivate : Cond.code y_R_isPrivate b_R_isPrivate 3 (some .boolean) ∈ lw_g := List.mem_filter.mpr ⟨List.mem_of_getElem? (i := 586) rfl, rfl⟩
def w_R_only : List Cond := .code y_R_only b_R_only 6 (some .int) :: lw_g
set_option maxRecDepth 20000 in
theorem kc_R_only : Cond.code y_R_only b_R_only 6 (some .int) ∈ lw_g := List.mem_filter.mpr ⟨List.mem_of_getElem? (i := 590) rfl, rfl⟩
def w_R_isAbstract : List Cond := .code y_R_isAbstract b_R_isAbstract 3 (some .boolean) :: lw_g
set_option maxRecDepth 20000 in
theorem kc_R_isAbstract : Cond.code y_R_isAbstract b_R_isAbstract 3 (some .boolean) ∈ lw_g := List.mem_filter.mpr ⟨List.mem_of_getElem? (i := 594) rfl, rfl⟩
def w_R_choices : List Cond := .code y_R_choices b_R_choices 1 (some .int) :: lw_g
set_option maxRecDepth 20000 in
theorem kc_R_choices : Cond.code y_R_choices b_R_choices 1 (some .int) ∈ lw_g := List.mem_filter.mpr ⟨List.mem_of_getElem? (i := 598) rfl, rfl⟩
def w_R_use : List Cond := .code y_R_use b_R_use 7 (some .int) :: lw_g
set_option maxRecDepth 20000 in
theorem kc_R_use : Cond.code y_R_use b_R_use 7 (some .int) ∈ lw_g := List.mem_filter.mpr ⟨List.mem_of_getElem? (i := 602) rfl, rfl⟩
def w_R_invoke : List Cond := .code y_R_invoke b_R_invoke 9 (some .int) :: lw_g
set_option maxRecDepth 20000 in
theorem kc_R_invoke : Cond.code y_R_invoke b_R_invoke 9 (some .int) ∈ lw_g := List.mem_filter.mpr ⟨List.mem_of_getElem? (i := 606) rfl, rfl⟩
def w_R_special : List Cond := .code y_R_special b_R_special 6 (some .int) :: lw_g
set_option maxRecDepth 20000 in
theorem kc_R_special : Cond.code y_R_special b_R_special 6 (some .int) ∈ lw_g := List.mem_filter.mpr ⟨List.mem_of_getElem? (i := 610) rfl, rfl⟩
def w_R_withCode : List Cond := .code y_R_withCode b_R_withCode 3 (some .int) :: lw_g
set_option maxRecDepth 20000 in
theorem kc_R_withCode : Cond.code y_R_withCode b_R_withCode 3 (some .int) ∈ lw_g := List.mem_filter.mpr ⟨List.mem_of_getElem? (i := 614) rfl, rfl⟩
def w_R_coded : List Cond := .code y_R_coded b_R_coded 4 (some .int) :: lw_g
set_option maxRecDepth 20000 in
theorem kc_R_coded : Cond.code y_R_coded b_R_coded 4 (some .int) ∈ lw_g := List.mem_filter.mpr ⟨List.mem_of_getElem? (i := 618) rfl, rfl⟩
def w_R_selected : List Cond := .code y_R_selected b_R_selected 5 (some .int) :: lw_g
set_option maxRecDepth 20000 in
theorem kc_R_selected : Cond.code y_R_selected b_R_selected 5 (some .int) ∈ lw_g := List.mem_filter.mpr ⟨List.mem_of_getElem? (i := 622) rfl, rfl⟩
def w_R_fillCan : List Cond := .code y_R_fillCan b_R_fillCan 4 none :: lw_g
set_option maxRecDepth 20000 in
theorem kc_R_fillCan : Cond.code y_R_fillCan b_R_fillCan 4 none ∈ lw_g := List.mem_filter.mpr ⟨List.mem_of_getElem? (i := 626) rfl, rfl⟩
def w_R_overriding : List Cond := .code y_R_overriding b_R_overriding 6 (some .boolean) :: lw_g
set_option maxRecDepth 20000 in
theorem kc_R_overriding : Cond.code y_R_overriding b_R_overriding 6 (some .boolean) ∈ lw_g := List.mem_filter.mpr ⟨List.mem_of_getElem? (i := 630) rfl, rfl⟩
def w_R_isA : List Cond := .code y_R_isA b_R_isA 3 (some .boolean) :: lw_g
set_option maxRecDepth 20000 in
theorem kc_R_isA : Cond.code y_R_isA b_R_isA 3 (some .boolean) ∈ lw_g := List.mem_filter.mpr ⟨List.mem_of_getElem? (i := 634) rfl, rfl⟩
def w_R_mates : List Cond := .code y_R_mates b_R_mates 3 (some .boolean) :: lw_g
set_option maxRecDepth 20000 in
theorem kc_R_mates : Cond.code y_R_mates b_R_mates 3 (some .boolean) ∈ lw_g := List.mem_filter.mpr ⟨List.mem_of_getElem? (i := 638) rfl, rfl⟩
def w_R_overrides : List Cond := .code y_R_overrides b_R_overrides 4 (some .boolean) :: lw_g
set_option maxRecDepth 20000 in
theorem kc_R_overrides : Cond.code y_R_overrides b_R_overrides 4 (some .boolean) ∈ lw_g := List.mem_filter.mpr ⟨List.mem_of_getElem? (i := 642) rfl, rfl⟩
def w_R_maximal : List Cond := .code y_R_maximal b_R_maximal 3 (some .int) :: lw_g
set_option maxRecDepth 20000 in
theorem kc_R_maximal : Cond.code y_R_maximal b_R_maximal 3 (some .int) ∈ lw_g := List.mem_filter.mpr ⟨List.mem_of_getElem? (i := 646) rfl, rfl⟩
def w_R_type : List Cond := .code y_R_type b_R_type 5 (some .int) :: lw_g
set_option maxRecDepth 20000 in
theorem kc_R_type : Cond.code y_R_type b_R_type 5 (some .int) ∈ lw_g := List.mem_filter.mpr ⟨List.mem_of_getElem? (i := 650) rfl, rfl⟩
theorem i_W : ∀ w ∈ u_ws R_W F_W 10, w ∈ lw_g := by decide +kernel
theorem i_M : ∀ w ∈ u_ws R_M F_M 5, w ∈ lw_g := by decide +kernel
theorem i_O : ∀ w ∈ u_ws R_O F_O 4, w ∈ lw_g := by decide +kernel
theorem i_R : ∀ w ∈ u_ws R_R F_R 15, w ∈ lw_g := by decide +kernel
theorem k_0 : Cond.constant R_J 265 1431655765 ∈ lw_g := by decide +kernel
theorem k_1 : Cond.constant R_J 266 858993459 ∈ lw_g := by decide +kernel
theorem k_2 : Cond.constant R_J 267 252645135 ∈ lw_g := by decide +kernel
theorem k_3 : Cond.fieldLink R_W 40 "MemberOracle$World" "count" "I" ∈ lw_g := by decide +kernel
theorem k_4 : Cond.fieldLink R_W 37 "MemberOracle$World" "interfaceSet" "I" ∈ lw_g := by decide +kernel
theorem k_5 : Cond.methodLinkNest R_W 47 y_O_holds R_O ∈ lw_tbl := by decide +kernel
theorem k_6 : Cond.initialized R_O ∈ lw_g := by decide +kernel
theorem k_7 : Cond.static y_O_holds ∈ lw_g := by decide +kernel
theorem k_8 : Cond.fieldLink R_W 34 "MemberOracle$World" "finalSet" "I" ∈ lw_g := by decide +kernel
theorem k_9 : Cond.fieldLink R_W 21 "MemberOracle$World" "directCounts" "[I" ∈ lw_g := by decide +kernel
theorem k_10 : Cond.fieldLink R_W 24 "MemberOracle$World" "directs" "[I" ∈ lw_g := by decide +kernel
theorem k_11 : Cond.fieldLink R_W 9 "MemberOracle$World" "superclasses" "[I" ∈ lw_g := by decide +kernel
theorem k_12 : Cond.fieldLink R_W 15 "MemberOracle$World" "packages" "[I" ∈ lw_g := by decide +kernel
theorem k_13 : Cond.fieldLink R_W 18 "MemberOracle$World" "hosts" "[I" ∈ lw_g := by decide +kernel
theorem k_14 : Cond.fieldLink R_W 27 "MemberOracle$World" "families" "[I" ∈ lw_g := by decide +kernel
theorem k_15 : Cond.fieldLink R_W 30 "MemberOracle$World" "publicSet" "I" ∈ lw_g := by decide +kernel
theorem k_16 : Cond.fieldLink R_M 9 "MemberOracle$Members" "ownerSets" "[I" ∈ lw_g := by decide +kernel
theorem k_17 : Cond.fieldLink R_M 18 "MemberOracle$Members" "abstractSets" "[I" ∈ lw_g := by decide +kernel
theorem k_18 : Cond.fieldLink R_M 15 "MemberOracle$Members" "staticSets" "[I" ∈ lw_g := by decide +kernel
theorem k_19 : Cond.fieldLink R_M 21 "MemberOracle$Members" "privateSets" "[I" ∈ lw_g := by decide +kernel
theorem k_20 : Cond.methodLinkNest R_M 31 y_O_holds R_O ∈ lw_tbl := by decide +kernel
theorem k_21 : Cond.fieldLink R_M 24 "MemberOracle$Members" "accesses" "[I" ∈ lw_g := by decide +kernel
theorem k_22 : Cond.fieldLink R_O 10 "MemberOracle" "world" "LMemberOracle$World;" ∈ lw_g := by decide +kernel
theorem k_23 : Cond.fieldLink R_O 23 "MemberOracle" "methods" "LMemberOracle$Members;" ∈ lw_g := by decide +kernel
theorem k_24 : Cond.methodLink R_O 158 y_J_bitCount ∈ lw_g := by decide +kernel
theorem k_25 : Cond.initialized R_J ∈ lw_g := by decide +kernel
theorem k_26 : Cond.static y_J_bitCount ∈ lw_g := by decide +kernel
theorem k_27 : Cond.fieldLink R_O 19 "MemberOracle" "fields" "LMemberOracle$Members;" ∈ lw_g := by decide +kernel
theorem k_28 : Cond.fieldLink R_O 26 "MemberOracle" "lastChoices" "I" ∈ lw_g := by decide +kernel
theorem k_29 : Cond.methodLink R_W 3 objectInit ∈ lw_g := by decide +kernel
theorem k_30 : Cond.instanceMethod objectInit ∈ lw_g := by decide +kernel
theorem k_31 : Cond.arrayClass .int ∈ lw_g := by decide +kernel
theorem k_32 : Cond.methodLink R_M 3 objectInit ∈ lw_g := by decide +kernel
theorem k_33 : Cond.methodLink R_O 1 objectInit ∈ lw_g := by decide +kernel
theorem k_34 : Cond.classLink R_O 7 R_W ∈ lw_g := by decide +kernel
theorem k_35 : Cond.instantiable R_W 10 ∈ lw_g := by decide +kernel
theorem k_36 : Cond.initialized R_W ∈ lw_g := by decide +kernel
theorem k_37 : Cond.methodLink R_O 9 y_W_init ∈ lw_g := by decide +kernel
theorem k_38 : Cond.instanceMethod y_W_init ∈ lw_g := by decide +kernel
theorem k_39 : Cond.classLink R_O 16 R_M ∈ lw_g := by decide +kernel
theorem k_40 : Cond.instantiable R_M 5 ∈ lw_g := by decide +kernel
theorem k_41 : Cond.initialized R_M ∈ lw_g := by decide +kernel
theorem k_42 : Cond.methodLink R_O 18 y_M_init ∈ lw_g := by decide +kernel
theorem k_43 : Cond.instanceMethod y_M_init ∈ lw_g := by decide +kernel
theorem k_g0 : GoodIn lw_g (wsS R_O 200 y_O_holds w_O_holds) := gd_S kc_O_holds (by decide +kernel)
theorem k_g1 : GoodIn lw_g (wsV R_W 43 R_W y_W_has w_W_has) := gd_V kc_W_has (by decide +kernel)
theorem k_g2 : GoodIn lw_g w_O_holds := gd_N kc_O_holds
theorem k_g3 : GoodIn lw_g (wsV R_W 51 R_W y_W_isClass w_W_isClass) := gd_V kc_W_isClass (by decide +kernel)
theorem k_g4 : GoodIn lw_g (wsV R_W 62 R_W y_W_samePackage w_W_samePackage) := gd_V kc_W_samePackage (by decide +kernel)
theorem k_g5 : GoodIn lw_g (wsV R_W 58 R_W y_W_directAt w_W_directAt) := gd_V kc_W_directAt (by decide +kernel)
theorem k_g6 : GoodIn lw_g (wsV R_W 65 R_W y_W_nextToSearch w_W_nextToSearch) := gd_V kc_W_nextToSearch (by decide +kernel)
theorem k_g7 : GoodIn lw_g (wsV R_W 54 R_W y_W_addType w_W_addType) := gd_V kc_W_addType (by decide +kernel)
theorem k_g8 : GoodIn lw_g (wsV R_M 27 R_M y_M_drop w_M_drop) := gd_V kc_M_drop (by decide +kernel)
theorem k_g9 : GoodIn lw_g (wsV R_O 155 R_W y_W_supertypes w_W_supertypes) := gd_V kc_W_supertypes (by decide +kernel)
theorem k_g10 : GoodIn lw_g (wsV R_O 193 R_W y_W_interfaces w_W_interfaces) := gd_V kc_W_interfaces (by decide +kernel)
theorem k_g11 : GoodIn lw_g (wsV R_O 197 R_M y_M_inheritable w_M_inheritable) := gd_V kc_M_inheritable (by decide +kernel)
theorem k_g12 : GoodIn lw_g (wsV R_O 181 R_O y_O_interfaceMethods w_O_interfaceMethods) := gd_V kc_O_interfaceMethods (by decide +kernel)
theorem k_g13 : GoodIn lw_g (wsV R_O 143 R_O y_O_maximalSet w_O_maximalSet) := gd_V kc_O_maximalSet (by decide +kernel)
theorem k_g14 : GoodIn lw_g (wsV R_O 203 R_M y_M_abstracts w_M_abstracts) := gd_V kc_M_abstracts (by decide +kernel)
theorem k_g15 : GoodIn lw_g w_J_bitCount := gd_N kc_J_bitCount
theorem k_g16 : GoodIn lw_g (wsS R_O 184 y_O_leastOf w_O_leastOf) := gd_S kc_O_leastOf (by decide +kernel)
theorem k_g17 : GoodIn lw_g (wsV R_O 187 R_M y_M_accessOf w_M_accessOf) := gd_V kc_M_accessOf (by decide +kernel)
theorem k_g18 : GoodIn lw_g (wsV R_O 67 R_W y_W_samePackage w_W_samePackage) := gd_V kc_W_samePackage (by decide +kernel)
theorem k_g19 : GoodIn lw_g (wsV R_O 215 R_O y_O_overridesAtOnce w_O_overridesAtOnce) := gd_V kc_O_overridesAtOnce (by decide +kernel)
theorem k_g20 : GoodIn lw_g (wsV R_O 206 R_M y_M_instances w_M_instances) := gd_V kc_M_instances (by decide +kernel)
theorem k_g21 : GoodIn lw_g (wsV R_O 172 R_W y_W_chain w_W_chain) := gd_V kc_W_chain (by decide +kernel)
theorem k_g22 : GoodIn lw_g (wsV R_O 209 R_W y_W_kindsOf w_W_kindsOf) := gd_V kc_W_kindsOf (by decide +kernel)
theorem k_g23 : GoodIn lw_g (wsV R_O 212 R_O y_O_overridesOneOf w_O_overridesOneOf) := gd_V kc_O_overridesOneOf (by decide +kernel)
theorem k_g24 : GoodIn lw_g (wsV R_O 178 R_O y_O_bestOfInterfaces w_O_bestOfInterfaces) := gd_V kc_O_bestOfInterfaces (by decide +kernel)
theorem k_g25 : GoodIn lw_g (wsV R_O 139 R_O y_O_canOverride w_O_canOverride) := gd_V kc_O_canOverride (by decide +kernel)
theorem k_g26 : GoodIn lw_g (wsV R_O 130 R_W y_W_isKindOf w_W_isKindOf) := gd_V kc_W_isKindOf (by decide +kernel)
theorem k_g27 : GoodIn lw_g (wsV R_O 133 R_W y_W_sameHost w_W_sameHost) := gd_V kc_W_sameHost (by decide +kernel)
theorem k_g28 : GoodIn lw_g (wsV R_O 190 R_O y_O_mayUseMember w_O_mayUseMember) := gd_V kc_O_mayUseMember (by decide +kernel)
theorem k_g29 : GoodIn lw_g (wsV R_O 163 R_W y_W_mayUseType w_W_mayUseType) := gd_V kc_W_mayUseType (by decide +kernel)
theorem k_g30 : GoodIn lw_g (wsV R_O 166 R_M y_M_owners w_M_owners) := gd_V kc_M_owners (by decide +kernel)
theorem k_g31 : GoodIn lw_g (wsV R_O 169 R_W y_W_search w_W_search) := gd_V kc_W_search (by decide +kernel)
theorem k_g32 : GoodIn lw_g (wsV R_O 136 R_W y_W_isClass w_W_isClass) := gd_V kc_W_isClass (by decide +kernel)
theorem k_g33 : GoodIn lw_g (wsV R_O 52 R_W y_W_isInterface w_W_isInterface) := gd_V kc_W_isInterface (by decide +kernel)
theorem k_g34 : GoodIn lw_g (wsS R_O 175 y_O_greatestOf w_O_greatestOf) := gd_S kc_O_greatestOf (by decide +kernel)
theorem k_g35 : GoodIn lw_g (wsV R_O 102 R_O y_O_admitted w_O_admitted) := gd_V kc_O_admitted (by decide +kernel)
theorem k_g36 : GoodIn lw_g (wsV R_O 106 R_O y_O_resolveMethod w_O_resolveMethod) := gd_V kc_O_resolveMethod (by decide +kernel)
theorem k_g37 : GoodIn lw_g (wsV R_O 110 R_M y_M_isStatic w_M_isStatic) := gd_V kc_M_isStatic (by decide +kernel)
theorem k_g38 : GoodIn lw_g (wsV R_O 218 R_O y_O_select w_O_select) := gd_V kc_O_select (by decide +kernel)
theorem k_g39 : GoodIn lw_g (wsV R_O 221 R_O y_O_runnable w_O_runnable) := gd_V kc_O_runnable (by decide +kernel)
theorem k_g40 : GoodIn lw_g (wsV R_O 146 R_W y_W_superclassOf w_W_superclassOf) := gd_V kc_W_superclassOf (by decide +kernel)
theorem k_g41 : GoodIn lw_g (wsV R_O 49 R_W y_W_has w_W_has) := gd_V kc_W_has (by decide +kernel)
theorem k_g42 : GoodIn lw_g (wsS R_O 80 y_O_isName w_O_isName) := gd_S kc_O_isName (by decide +kernel)
theorem k_g43 : GoodIn lw_g (wsV R_O 149 R_W y_W_packageOf w_W_packageOf) := gd_V kc_W_packageOf (by decide +kernel)
theorem k_g44 : GoodIn lw_g (wsV R_O 70 R_W y_W_hostOf w_W_hostOf) := gd_V kc_W_hostOf (by decide +kernel)
theorem k_g45 : GoodIn lw_g (wsV R_O 59 R_W y_W_directCount w_W_directCount) := gd_V kc_W_directCount (by decide +kernel)
theorem k_g46 : GoodIn lw_g (wsV R_O 152 R_W y_W_directAt w_W_directAt) := gd_V kc_W_directAt (by decide +kernel)
theorem k_g47 : GoodIn lw_g (wsV R_O 98 R_O y_O_findField w_O_findField) := gd_V kc_O_findField (by decide +kernel)
theorem k_g48 : GoodIn lw_g (wsV R_O 113 R_O y_O_isReceiver w_O_isReceiver) := gd_V kc_O_isReceiver (by decide +kernel)
theorem k_g49 : GoodIn lw_g (wsV R_O 117 R_O y_O_invokeVirtual w_O_invokeVirtual) := gd_V kc_O_invokeVirtual (by decide +kernel)
theorem k_g50 : GoodIn lw_g (wsV R_O 121 R_O y_O_invokeInterface w_O_invokeInterface) := gd_V kc_O_invokeInterface (by decide +kernel)
theorem k_g51 : GoodIn lw_g (wsV R_O 124 R_O y_O_invokeSpecial w_O_invokeSpecial) := gd_V kc_O_invokeSpecial (by decide +kernel)
theorem k_g52 : GoodIn lw_g (wsV R_O 127 R_O y_O_invokeStatic w_O_invokeStatic) := gd_V kc_O_invokeStatic (by decide +kernel)
theorem k_g53 : GoodIn lw_g (wsS R_O 30 y_O_isPackage w_O_isPackage) := gd_S kc_O_isPackage (by decide +kernel)
theorem k_g54 : GoodIn lw_g (wsV R_O 37 R_W y_W_isFull w_W_isFull) := gd_V kc_W_isFull (by decide +kernel)
theorem k_g55 : GoodIn lw_g (wsV R_O 41 R_W y_W_addClass w_W_addClass) := gd_V kc_W_addClass (by decide +kernel)
theorem k_g56 : GoodIn lw_g (wsV R_O 34 R_W y_W_mayBeExtended w_W_mayBeExtended) := gd_V kc_W_mayBeExtended (by decide +kernel)
theorem k_g57 : GoodIn lw_g (wsV R_O 45 R_W y_W_addInterface w_W_addInterface) := gd_V kc_W_addInterface (by decide +kernel)
theorem k_g58 : GoodIn lw_g (wsV R_O 55 R_W y_W_hasDirect w_W_hasDirect) := gd_V kc_W_hasDirect (by decide +kernel)
theorem k_g59 : GoodIn lw_g (wsV R_O 63 R_W y_W_addDirect w_W_addDirect) := gd_V kc_W_addDirect (by decide +kernel)
theorem k_g60 : GoodIn lw_g (wsV R_O 73 R_W y_W_hostsAnother w_W_hostsAnother) := gd_V kc_W_hostsAnother (by decide +kernel)
theorem k_g61 : GoodIn lw_g (wsV R_O 76 R_W y_W_setHost w_W_setHost) := gd_V kc_W_setHost (by decide +kernel)
theorem k_g62 : GoodIn lw_g (wsS R_O 83 y_O_isAccess w_O_isAccess) := gd_S kc_O_isAccess (by decide +kernel)
theorem k_g63 : GoodIn lw_g (wsV R_O 86 R_M y_M_put w_M_put) := gd_V kc_M_put (by decide +kernel)
theorem k_g64 : GoodIn lw_g (wsS R_O 90 y_O_isForm w_O_isForm) := gd_S kc_O_isForm (by decide +kernel)
theorem k_g65 : GoodIn lw_g (wsV R_O 93 R_M y_M_has w_M_has) := gd_V kc_M_has (by decide +kernel)
theorem k_g66 : GoodIn lw_g (wsV R_O 95 R_M y_M_drop w_M_drop) := gd_V kc_M_drop (by decide +kernel)
theorem k_g67 : GoodIn lw_g w_W_init := gd_N kc_W_init
theorem k_g68 : GoodIn lw_g w_M_init := gd_N kc_M_init
end
