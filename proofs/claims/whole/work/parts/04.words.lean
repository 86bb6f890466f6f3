def w_O_init : List Cond := .code y_O_init b_O_init 1 none :: lw_g
set_option maxRecDepth 20000 in
theorem kc_O_init : Cond.code y_O_init b_O_init 1 none ∈ lw_g := List.mem_filter.mpr ⟨List.mem_of_getElem? (i := 52) rfl, rfl⟩
set_option maxRecDepth 20000 in
theorem kc_objInit : Cond.code objectInit ⟨#[0xb1]⟩ 1 none ∈ lw_g := List.mem_filter.mpr ⟨List.mem_of_getElem? (i := 55) rfl, rfl⟩
def w_W_init : List Cond := .code y_W_init b_W_init 1 none :: lw_g
set_option maxRecDepth 20000 in
theorem kc_W_init : Cond.code y_W_init b_W_init 1 none ∈ lw_g := List.mem_filter.mpr ⟨List.mem_of_getElem? (i := 60) rfl, rfl⟩
def w_M_init : List Cond := .code y_M_init b_M_init 1 none :: lw_g
set_option maxRecDepth 20000 in
theorem kc_M_init : Cond.code y_M_init b_M_init 1 none ∈ lw_g := List.mem_filter.mpr ⟨List.mem_of_getElem? (i := 98) rfl, rfl⟩
def w_O_tellClass : List Cond := .code y_O_tellClass b_O_tellClass 5 (some .int) :: lw_g
set_option maxRecDepth 20000 in
theorem kc_O_tellClass : Cond.code y_O_tellClass b_O_tellClass 5 (some .int) ∈ lw_g := List.mem_filter.mpr ⟨List.mem_of_getElem? (i := 132) rfl, rfl⟩
def w_O_isPackage : List Cond := .code y_O_isPackage b_O_isPackage 1 (some .boolean) :: lw_g
set_option maxRecDepth 20000 in
theorem kc_O_isPackage : Cond.code y_O_isPackage b_O_isPackage 1 (some .boolean) ∈ lw_g := List.mem_filter.mpr ⟨List.mem_of_getElem? (i := 135) rfl, rfl⟩
def w_W_mayBeExtended : List Cond := .code y_W_mayBeExtended b_W_mayBeExtended 2 (some .boolean) :: lw_g
set_option maxRecDepth 20000 in
theorem kc_W_mayBeExtended : Cond.code y_W_mayBeExtended b_W_mayBeExtended 2 (some .boolean) ∈ lw_g := List.mem_filter.mpr ⟨List.mem_of_getElem? (i := 139) rfl, rfl⟩
def w_W_isClass : List Cond := .code y_W_isClass b_W_isClass 2 (some .boolean) :: lw_g
set_option maxRecDepth 20000 in
theorem kc_W_isClass : Cond.code y_W_isClass b_W_isClass 2 (some .boolean) ∈ lw_g := List.mem_filter.mpr ⟨List.mem_of_getElem? (i := 143) rfl, rfl⟩
def w_W_has : List Cond := .code y_W_has b_W_has 2 (some .boolean) :: lw_g
set_option maxRecDepth 20000 in
theorem kc_W_has : Cond.code y_W_has b_W_has 2 (some .boolean) ∈ lw_g := List.mem_filter.mpr ⟨List.mem_of_getElem? (i := 147) rfl, rfl⟩
def w_O_holds : List Cond := .code y_O_holds b_O_holds 2 (some .boolean) :: lw_g
set_option maxRecDepth 20000 in
theorem kc_O_holds : Cond.code y_O_holds b_O_holds 2 (some .boolean) ∈ lw_g := List.mem_filter.mpr ⟨List.mem_of_getElem? (i := 150) rfl, rfl⟩
def w_W_isFull : List Cond := .code y_W_isFull b_W_isFull 1 (some .boolean) :: lw_g
set_option maxRecDepth 20000 in
theorem kc_W_isFull : Cond.code y_W_isFull b_W_isFull 1 (some .boolean) ∈ lw_g := List.mem_filter.mpr ⟨List.mem_of_getElem? (i := 154) rfl, rfl⟩
def w_W_addClass : List Cond := .code y_W_addClass b_W_addClass 6 (some .int) :: lw_g
set_option maxRecDepth 20000 in
theorem kc_W_addClass : Cond.code y_W_addClass b_W_addClass 6 (some .int) ∈ lw_g := List.mem_filter.mpr ⟨List.mem_of_getElem? (i := 158) rfl, rfl⟩
def w_W_addType : List Cond := .code y_W_addType b_W_addType 4 (some .int) :: lw_g
set_option maxRecDepth 20000 in
theorem kc_W_addType : Cond.code y_W_addType b_W_addType 4 (some .int) ∈ lw_g := List.mem_filter.mpr ⟨List.mem_of_getElem? (i := 162) rfl, rfl⟩
def w_O_tellInterface : List Cond := .code y_O_tellInterface b_O_tellInterface 3 (some .int) :: lw_g
set_option maxRecDepth 20000 in
theorem kc_O_tellInterface : Cond.code y_O_tellInterface b_O_tellInterface 3 (some .int) ∈ lw_g := List.mem_filter.mpr ⟨List.mem_of_getElem? (i := 166) rfl, rfl⟩
def w_W_addInterface : List Cond := .code y_W_addInterface b_W_addInterface 4 (some .int) :: lw_g
set_option maxRecDepth 20000 in
theorem kc_W_addInterface : Cond.code y_W_addInterface b_W_addInterface 4 (some .int) ∈ lw_g := List.mem_filter.mpr ⟨List.mem_of_getElem? (i := 170) rfl, rfl⟩
def w_O_implement : List Cond := .code y_O_implement b_O_implement 3 (some .int) :: lw_g
set_option maxRecDepth 20000 in
theorem kc_O_implement : Cond.code y_O_implement b_O_implement 3 (some .int) ∈ lw_g := List.mem_filter.mpr ⟨List.mem_of_getElem? (i := 174) rfl, rfl⟩
def w_W_isInterface : List Cond := .code y_W_isInterface b_W_isInterface 2 (some .boolean) :: lw_g
set_option maxRecDepth 20000 in
theorem kc_W_isInterface : Cond.code y_W_isInterface b_W_isInterface 2 (some .boolean) ∈ lw_g := List.mem_filter.mpr ⟨List.mem_of_getElem? (i := 179) rfl, rfl⟩
def w_W_hasDirect : List Cond := .code y_W_hasDirect b_W_hasDirect 4 (some .boolean) :: lw_g
set_option maxRecDepth 20000 in
theorem kc_W_hasDirect : Cond.code y_W_hasDirect b_W_hasDirect 4 (some .boolean) ∈ lw_g := List.mem_filter.mpr ⟨List.mem_of_getElem? (i := 183) rfl, rfl⟩
def w_W_directAt : List Cond := .code y_W_directAt b_W_directAt 3 (some .int) :: lw_g
set_option maxRecDepth 20000 in
theorem kc_W_directAt : Cond.code y_W_directAt b_W_directAt 3 (some .int) ∈ lw_g := List.mem_filter.mpr ⟨List.mem_of_getElem? (i := 187) rfl, rfl⟩
def w_W_directCount : List Cond := .code y_W_directCount b_W_directCount 2 (some .int) :: lw_g
set_option maxRecDepth 20000 in
theorem kc_W_directCount : Cond.code y_W_directCount b_W_directCount 2 (some .int) ∈ lw_g := List.mem_filter.mpr ⟨List.mem_of_getElem? (i := 191) rfl, rfl⟩
def w_W_addDirect : List Cond := .code y_W_addDirect b_W_addDirect 4 (some .int) :: lw_g
set_option maxRecDepth 20000 in
theorem kc_W_addDirect : Cond.code y_W_addDirect b_W_addDirect 4 (some .int) ∈ lw_g := List.mem_filter.mpr ⟨List.mem_of_getElem? (i := 195) rfl, rfl⟩
def w_O_nest : List Cond := .code y_O_nest b_O_nest 3 (some .int) :: lw_g
set_option maxRecDepth 20000 in
theorem kc_O_nest : Cond.code y_O_nest b_O_nest 3 (some .int) ∈ lw_g := List.mem_filter.mpr ⟨List.mem_of_getElem? (i := 199) rfl, rfl⟩
def w_W_samePackage : List Cond := .code y_W_samePackage b_W_samePackage 3 (some .boolean) :: lw_g
set_option maxRecDepth 20000 in
theorem kc_W_samePackage : Cond.code y_W_samePackage b_W_samePackage 3 (some .boolean) ∈ lw_g := List.mem_filter.mpr ⟨List.mem_of_getElem? (i := 203) rfl, rfl⟩
def w_W_hostOf : List Cond := .code y_W_hostOf b_W_hostOf 2 (some .int) :: lw_g
set_option maxRecDepth 20000 in
theorem kc_W_hostOf : Cond.code y_W_hostOf b_W_hostOf 2 (some .int) ∈ lw_g := List.mem_filter.mpr ⟨List.mem_of_getElem? (i := 207) rfl, rfl⟩
def w_W_hostsAnother : List Cond := .code y_W_hostsAnother b_W_hostsAnother 3 (some .boolean) :: lw_g
set_option maxRecDepth 20000 in
theorem kc_W_hostsAnother : Cond.code y_W_hostsAnother b_W_hostsAnother 3 (some .boolean) ∈ lw_g := List.mem_filter.mpr ⟨List.mem_of_getElem? (i := 211) rfl, rfl⟩
def w_W_setHost : List Cond := .code y_W_setHost b_W_setHost 3 none :: lw_g
set_option maxRecDepth 20000 in
theorem kc_W_setHost : Cond.code y_W_setHost b_W_setHost 3 none ∈ lw_g := List.mem_filter.mpr ⟨List.mem_of_getElem? (i := 215) rfl, rfl⟩
def w_O_field : List Cond := .code y_O_field b_O_field 5 (some .int) :: lw_g
set_option maxRecDepth 20000 in
theorem kc_O_field : Cond.code y_O_field b_O_field 5 (some .int) ∈ lw_g := List.mem_filter.mpr ⟨List.mem_of_getElem? (i := 219) rfl, rfl⟩
def w_O_isName : List Cond := .code y_O_isName b_O_isName 1 (some .boolean) :: lw_g
set_option maxRecDepth 20000 in
theorem kc_O_isName : Cond.code y_O_isName b_O_isName 1 (some .boolean) ∈ lw_g := List.mem_filter.mpr ⟨List.mem_of_getElem? (i := 222) rfl, rfl⟩
def w_O_isAccess : List Cond := .code y_O_isAccess b_O_isAccess 1 (some .boolean) :: lw_g
set_option maxRecDepth 20000 in
theorem kc_O_isAccess : Cond.code y_O_isAccess b_O_isAccess 1 (some .boolean) ∈ lw_g := List.mem_filter.mpr ⟨List.mem_of_getElem? (i := 225) rfl, rfl⟩
def w_M_put : List Cond := .code y_M_put b_M_put 6 none :: lw_g
set_option maxRecDepth 20000 in
theorem kc_M_put : Cond.code y_M_put b_M_put 6 none ∈ lw_g := List.mem_filter.mpr ⟨List.mem_of_getElem? (i := 229) rfl, rfl⟩
def w_M_drop : List Cond := .code y_M_drop b_M_drop 4 none :: lw_g
set_option maxRecDepth 20000 in
theorem kc_M_drop : Cond.code y_M_drop b_M_drop 4 none ∈ lw_g := List.mem_filter.mpr ⟨List.mem_of_getElem? (i := 233) rfl, rfl⟩
def w_O_method : List Cond := .code y_O_method b_O_method 5 (some .int) :: lw_g
set_option maxRecDepth 20000 in
theorem kc_O_method : Cond.code y_O_method b_O_method 5 (some .int) ∈ lw_g := List.mem_filter.mpr ⟨List.mem_of_getElem? (i := 237) rfl, rfl⟩
def w_O_isForm : List Cond := .code y_O_isForm b_O_isForm 1 (some .boolean) :: lw_g
set_option maxRecDepth 20000 in
theorem kc_O_isForm : Cond.code y_O_isForm b_O_isForm 1 (some .boolean) ∈ lw_g := List.mem_filter.mpr ⟨List.mem_of_getElem? (i := 240) rfl, rfl⟩
def w_O_untell : List Cond := .code y_O_untell b_O_untell 5 (some .int) :: lw_g
set_option maxRecDepth 20000 in
theorem kc_O_untell : Cond.code y_O_untell b_O_untell 5 (some .int) ∈ lw_g := List.mem_filter.mpr ⟨List.mem_of_getElem? (i := 244) rfl, rfl⟩
def w_M_has : List Cond := .code y_M_has b_M_has 3 (some .boolean) :: lw_g
set_option maxRecDepth 20000 in
theorem kc_M_has : Cond.code y_M_has b_M_has 3 (some .boolean) ∈ lw_g := List.mem_filter.mpr ⟨List.mem_of_getElem? (i := 248) rfl, rfl⟩
def w_O_resolve : List Cond := .code y_O_resolve b_O_resolve 6 (some .int) :: lw_g
set_option maxRecDepth 20000 in
theorem kc_O_resolve : Cond.code y_O_resolve b_O_resolve 6 (some .int) ∈ lw_g := List.mem_filter.mpr ⟨List.mem_of_getElem? (i := 254) rfl, rfl⟩
def w_O_findField : List Cond := .code y_O_findField b_O_findField 5 (some .int) :: lw_g
set_option maxRecDepth 20000 in
theorem kc_O_findField : Cond.code y_O_findField b_O_findField 5 (some .int) ∈ lw_g := List.mem_filter.mpr ⟨List.mem_of_getElem? (i := 258) rfl, rfl⟩
def w_W_mayUseType : List Cond := .code y_W_mayUseType b_W_mayUseType 3 (some .boolean) :: lw_g
set_option maxRecDepth 20000 in
theorem kc_W_mayUseType : Cond.code y_W_mayUseType b_W_mayUseType 3 (some .boolean) ∈ lw_g := List.mem_filter.mpr ⟨List.mem_of_getElem? (i := 262) rfl, rfl⟩
def w_M_owners : List Cond := .code y_M_owners b_M_owners 2 (some .int) :: lw_g
set_option maxRecDepth 20000 in
theorem kc_M_owners : Cond.code y_M_owners b_M_owners 2 (some .int) ∈ lw_g := List.mem_filter.mpr ⟨List.mem_of_getElem? (i := 267) rfl, rfl⟩
def w_W_search : List Cond := .code y_W_search b_W_search 5 (some .int) :: lw_g
set_option maxRecDepth 20000 in
theorem kc_W_search : Cond.code y_W_search b_W_search 5 (some .int) ∈ lw_g := List.mem_filter.mpr ⟨List.mem_of_getElem? (i := 271) rfl, rfl⟩
def w_W_nextToSearch : List Cond := .code y_W_nextToSearch b_W_nextToSearch 5 (some .int) :: lw_g
set_option maxRecDepth 20000 in
theorem kc_W_nextToSearch : Cond.code y_W_nextToSearch b_W_nextToSearch 5 (some .int) ∈ lw_g := List.mem_filter.mpr ⟨List.mem_of_getElem? (i := 275) rfl, rfl⟩
def w_O_admitted : List Cond := .code y_O_admitted b_O_admitted 5 (some .int) :: lw_g
set_option maxRecDepth 20000 in
theorem kc_O_admitted : Cond.code y_O_admitted b_O_admitted 5 (some .int) ∈ lw_g := List.mem_filter.mpr ⟨List.mem_of_getElem? (i := 279) rfl, rfl⟩
def w_M_accessOf : List Cond := .code y_M_accessOf b_M_accessOf 3 (some .int) :: lw_g
set_option maxRecDepth 20000 in
theorem kc_M_accessOf : Cond.code y_M_accessOf b_M_accessOf 3 (some .int) ∈ lw_g := List.mem_filter.mpr ⟨List.mem_of_getElem? (i := 283) rfl, rfl⟩
def w_O_mayUseMember : List Cond := .code y_O_mayUseMember b_O_mayUseMember 4 (some .boolean) :: lw_g
set_option maxRecDepth 20000 in
theorem kc_O_mayUseMember : Cond.code y_O_mayUseMember b_O_mayUseMember 4 (some .boolean) ∈ lw_g := List.mem_filter.mpr ⟨List.mem_of_getElem? (i := 287) rfl, rfl⟩
def w_W_isKindOf : List Cond := .code y_W_isKindOf b_W_isKindOf 3 (some .boolean) :: lw_g
set_option maxRecDepth 20000 in
theorem kc_W_isKindOf : Cond.code y_W_isKindOf b_W_isKindOf 3 (some .boolean) ∈ lw_g := List.mem_filter.mpr ⟨List.mem_of_getElem? (i := 291) rfl, rfl⟩
def w_W_sameHost : List Cond := .code y_W_sameHost b_W_sameHost 3 (some .boolean) :: lw_g
set_option maxRecDepth 20000 in
theorem kc_W_sameHost : Cond.code y_W_sameHost b_W_sameHost 3 (some .boolean) ∈ lw_g := List.mem_filter.mpr ⟨List.mem_of_getElem? (i := 295) rfl, rfl⟩
def w_O_resolveMethod : List Cond := .code y_O_resolveMethod b_O_resolveMethod 7 (some .int) :: lw_g
set_option maxRecDepth 20000 in
theorem kc_O_resolveMethod : Cond.code y_O_resolveMethod b_O_resolveMethod 7 (some .int) ∈ lw_g := List.mem_filter.mpr ⟨List.mem_of_getElem? (i := 299) rfl, rfl⟩
def w_W_chain : List Cond := .code y_W_chain b_W_chain 2 (some .int) :: lw_g
set_option maxRecDepth 20000 in
theorem kc_W_chain : Cond.code y_W_chain b_W_chain 2 (some .int) ∈ lw_g := List.mem_filter.mpr ⟨List.mem_of_getElem? (i := 303) rfl, rfl⟩
def w_O_greatestOf : List Cond := .code y_O_greatestOf b_O_greatestOf 2 (some .int) :: lw_g
set_option maxRecDepth 20000 in
theorem kc_O_greatestOf : Cond.code y_O_greatestOf b_O_greatestOf 2 (some .int) ∈ lw_g := List.mem_filter.mpr ⟨List.mem_of_getElem? (i := 306) rfl, rfl⟩
def w_O_bestOfInterfaces : List Cond := .code y_O_bestOfInterfaces b_O_bestOfInterfaces 4 (some .int) :: lw_g
set_option maxRecDepth 20000 in
theorem kc_O_bestOfInterfaces : Cond.code y_O_bestOfInterfaces b_O_bestOfInterfaces 4 (some .int) ∈ lw_g := List.mem_filter.mpr ⟨List.mem_of_getElem? (i := 311) rfl, rfl⟩
def w_O_maximalSet : List Cond := .code y_O_maximalSet b_O_maximalSet 6 (some .int) :: lw_g
set_option maxRecDepth 20000 in
theorem kc_O_maximalSet : Cond.code y_O_maximalSet b_O_maximalSet 6 (some .int) ∈ lw_g := List.mem_filter.mpr ⟨List.mem_of_getElem? (i := 315) rfl, rfl⟩
def w_O_interfaceMethods : List Cond := .code y_O_interfaceMethods b_O_interfaceMethods 3 (some .int) :: lw_g
set_option maxRecDepth 20000 in
theorem kc_O_interfaceMethods : Cond.code y_O_interfaceMethods b_O_interfaceMethods 3 (some .int) ∈ lw_g := List.mem_filter.mpr ⟨List.mem_of_getElem? (i := 319) rfl, rfl⟩
def w_W_supertypes : List Cond := .code y_W_supertypes b_W_supertypes 2 (some .int) :: lw_g
set_option maxRecDepth 20000 in
theorem kc_W_supertypes : Cond.code y_W_supertypes b_W_supertypes 2 (some .int) ∈ lw_g := List.mem_filter.mpr ⟨List.mem_of_getElem? (i := 323) rfl, rfl⟩
def w_W_interfaces : List Cond := .code y_W_interfaces b_W_interfaces 1 (some .int) :: lw_g
set_option maxRecDepth 20000 in
theorem kc_W_interfaces : Cond.code y_W_interfaces b_W_interfaces 1 (some .int) ∈ lw_g := List.mem_filter.mpr ⟨List.mem_of_getElem? (i := 327) rfl, rfl⟩
def w_M_inheritable : List Cond := .code y_M_inheritable b_M_inheritable 2 (some .int) :: lw_g
set_option maxRecDepth 20000 in
theorem kc_M_inheritable : Cond.code y_M_inheritable b_M_inheritable 2 (some .int) ∈ lw_g := List.mem_filter.mpr ⟨List.mem_of_getElem? (i := 331) rfl, rfl⟩
def w_M_abstracts : List Cond := .code y_M_abstracts b_M_abstracts 2 (some .int) :: lw_g
set_option maxRecDepth 20000 in
theorem kc_M_abstracts : Cond.code y_M_abstracts b_M_abstracts 2 (some .int) ∈ lw_g := List.mem_filter.mpr ⟨List.mem_of_getElem? (i := 335) rfl, rfl⟩
def w_J_bitCount : List Cond := .code y_J_bitCount b_J_bitCount 1 (some .int) :: lw_g
set_option maxRecDepth 20000 in
theorem kc_J_bitCount : Cond.code y_J_bitCount b_J_bitCount 1 (some .int) ∈ lw_g := List.mem_filter.mpr ⟨List.mem_of_getElem? (i := 338) rfl, rfl⟩
def w_O_leastOf : List Cond := .code y_O_leastOf b_O_leastOf 2 (some .int) :: lw_g
set_option maxRecDepth 20000 in
theorem kc_O_leastOf : Cond.code y_O_leastOf b_O_leastOf 2 (some .int) ∈ lw_g := List.mem_filter.mpr ⟨List.mem_of_getElem? (i := 344) rfl, rfl⟩
def w_O_choices : List Cond := .code y_O_choices b_O_choices 1 (some .int) :: lw_g
set_option maxRecDepth 20000 in
theorem kc_O_choices : Cond.code y_O_choices b_O_choices 1 (some .int) ∈ lw_g := List.mem_filter.mpr ⟨List.mem_of_getElem? (i := 348) rfl, rfl⟩
def w_O_use : List Cond := .code y_O_use b_O_use 6 (some .int) :: lw_g
set_option maxRecDepth 20000 in
theorem kc_O_use : Cond.code y_O_use b_O_use 6 (some .int) ∈ lw_g := List.mem_filter.mpr ⟨List.mem_of_getElem? (i := 352) rfl, rfl⟩
def w_M_isStatic : List Cond := .code y_M_isStatic b_M_isStatic 3 (some .boolean) :: lw_g
set_option maxRecDepth 20000 in
theorem kc_M_isStatic : Cond.code y_M_isStatic b_M_isStatic 3 (some .boolean) ∈ lw_g := List.mem_filter.mpr ⟨List.mem_of_getElem? (i := 356) rfl, rfl⟩
def w_O_invoke : List Cond := .code y_O_invoke b_O_invoke 6 (some .int) :: lw_g
set_option maxRecDepth 20000 in
theorem kc_O_invoke : Cond.code y_O_invoke b_O_invoke 6 (some .int) ∈ lw_g := List.mem_filter.mpr ⟨List.mem_of_getElem? (i := 360) rfl, rfl⟩
def w_O_isReceiver : List Cond := .code y_O_isReceiver b_O_isReceiver 5 (some .boolean) :: lw_g
set_option maxRecDepth 20000 in
theorem kc_O_isReceiver : Cond.code y_O_isReceiver b_O_isReceiver 5 (some .boolean) ∈ lw_g := List.mem_filter.mpr ⟨List.mem_of_getElem? (i := 364) rfl, rfl⟩
def w_O_invokeVirtual : List Cond := .code y_O_invokeVirtual b_O_invokeVirtual 6 (some .int) :: lw_g
set_option maxRecDepth 20000 in
theorem kc_O_invokeVirtual : Cond.code y_O_invokeVirtual b_O_invokeVirtual 6 (some .int) ∈ lw_g := List.mem_filter.mpr ⟨List.mem_of_getElem? (i := 369) rfl, rfl⟩
def w_O_select : List Cond := .code y_O_select b_O_select 6 (some .int) :: lw_g
set_option maxRecDepth 20000 in
theorem kc_O_select : Cond.code y_O_select b_O_select 6 (some .int) ∈ lw_g := List.mem_filter.mpr ⟨List.mem_of_getElem? (i := 373) rfl, rfl⟩
def w_O_canOverride : List Cond := .code y_O_canOverride b_O_canOverride 8 (some .boolean) :: lw_g
set_option maxRecDepth 20000 in
theorem kc_O_canOverride : Cond.code y_O_canOverride b_O_canOverride 8 (some .boolean) ∈ lw_g := List.mem_filter.mpr ⟨List.mem_of_getElem? (i := 377) rfl, rfl⟩
def w_M_instances : List Cond := .code y_M_instances b_M_instances 2 (some .int) :: lw_g
set_option maxRecDepth 20000 in
theorem kc_M_instances : Cond.code y_M_instances b_M_instances 2 (some .int) ∈ lw_g := List.mem_filter.mpr ⟨List.mem_of_getElem? (i := 381) rfl, rfl⟩
def w_W_kindsOf : List Cond := .code y_W_kindsOf b_W_kindsOf 4 (some .int) :: lw_g
set_option maxRecDepth 20000 in
theorem kc_W_kindsOf : Cond.code y_W_kindsOf b_W_kindsOf 4 (some .int) ∈ lw_g := List.mem_filter.mpr ⟨List.mem_of_getElem? (i := 385) rfl, rfl⟩
def w_O_overridesOneOf : List Cond := .code y_O_overridesOneOf b_O_overridesOneOf 5 (some .boolean) :: lw_g
set_option maxRecDepth 20000 in
theorem kc_O_overridesOneOf : Cond.code y_O_overridesOneOf b_O_overridesOneOf 5 (some .boolean) ∈ lw_g := List.mem_filter.mpr ⟨List.mem_of_getElem? (i := 389) rfl, rfl⟩
def w_O_overridesAtOnce : List Cond := .code y_O_overridesAtOnce b_O_overridesAtOnce 4 (some .boolean) :: lw_g
set_option maxRecDepth 20000 in
theorem kc_O_overridesAtOnce : Cond.code y_O_overridesAtOnce b_O_overridesAtOnce 4 (some .boolean) ∈ lw_g := List.mem_filter.mpr ⟨List.mem_of_getElem? (i := 393) rfl, rfl⟩
def w_O_runnable : List Cond := .code y_O_runnable b_O_runnable 3 (some .int) :: lw_g
set_option maxRecDepth 20000 in
theorem kc_O_runnable : Cond.code y_O_runnable b_O_runnable 3 (some .int) ∈ lw_g := List.mem_filter.mpr ⟨List.mem_of_getElem? (i := 397) rfl, rfl⟩
def w_O_invokeInterface : List Cond := .code y_O_invokeInterface b_O_invokeInterface 8 (some .int) :: lw_g
set_option maxRecDepth 20000 in
theorem kc_O_invokeInterface : Cond.code y_O_invokeInterface b_O_invokeInterface 8 (some .int) ∈ lw_g := List.mem_filter.mpr ⟨List.mem_of_getElem? (i := 401) rfl, rfl⟩
def w_O_invokeSpecial : List Cond := .code y_O_invokeSpecial b_O_invokeSpecial 8 (some .int) :: lw_g
set_option maxRecDepth 20000 in
theorem kc_O_invokeSpecial : Cond.code y_O_invokeSpecial b_O_invokeSpecial 8 (some .int) ∈ lw_g := List.mem_filter.mpr ⟨List.mem_of_getElem? (i := 405) rfl, rfl⟩
def w_W_superclassOf : List Cond := .code y_W_superclassOf b_W_superclassOf 2 (some .int) :: lw_g
set_option maxRecDepth 20000 in
theorem kc_W_superclassOf : Cond.code y_W_superclassOf b_W_superclassOf 2 (some .int) ∈ lw_g := List.mem_filter.mpr ⟨List.mem_of_getElem? (i := 409) rfl, rfl⟩
def w_O_invokeStatic : List Cond := .code y_O_invokeStatic b_O_invokeStatic 5 (some .int) :: lw_g
set_option maxRecDepth 20000 in
theorem kc_O_invokeStatic : Cond.code y_O_invokeStatic b_O_invokeStatic 5 (some .int) ∈ lw_g := List.mem_filter.mpr ⟨List.mem_of_getElem? (i := 413) rfl, rfl⟩
def w_O_isA : List Cond := .code y_O_isA b_O_isA 3 (some .boolean) :: lw_g
set_option maxRecDepth 20000 in
theorem kc_O_isA : Cond.code y_O_isA b_O_isA 3 (some .boolean) ∈ lw_g := List.mem_filter.mpr ⟨List.mem_of_getElem? (i := 417) rfl, rfl⟩
def w_O_mates : List Cond := .code y_O_mates b_O_mates 3 (some .boolean) :: lw_g
set_option maxRecDepth 20000 in
theorem kc_O_mates : Cond.code y_O_mates b_O_mates 3 (some .boolean) ∈ lw_g := List.mem_filter.mpr ⟨List.mem_of_getElem? (i := 421) rfl, rfl⟩
def w_O_overrides : List Cond := .code y_O_overrides b_O_overrides 4 (some .boolean) :: lw_g
set_option maxRecDepth 20000 in
theorem kc_O_overrides : Cond.code y_O_overrides b_O_overrides 4 (some .boolean) ∈ lw_g := List.mem_filter.mpr ⟨List.mem_of_getElem? (i := 425) rfl, rfl⟩
def w_O_maximal : List Cond := .code y_O_maximal b_O_maximal 3 (some .int) :: lw_g
set_option maxRecDepth 20000 in
theorem kc_O_maximal : Cond.code y_O_maximal b_O_maximal 3 (some .int) ∈ lw_g := List.mem_filter.mpr ⟨List.mem_of_getElem? (i := 429) rfl, rfl⟩
def w_O_type : List Cond := .code y_O_type b_O_type 3 (some .int) :: lw_g
set_option maxRecDepth 20000 in
theorem kc_O_type : Cond.code y_O_type b_O_type 3 (some .int) ∈ lw_g := List.mem_filter.mpr ⟨List.mem_of_getElem? (i := 433) rfl, rfl⟩
def w_W_packageOf : List Cond := .code y_W_packageOf b_W_packageOf 2 (some .int) :: lw_g
set_option maxRecDepth 20000 in
theorem kc_W_packageOf : Cond.code y_W_packageOf b_W_packageOf 2 (some .int) ∈ lw_g := List.mem_filter.mpr ⟨List.mem_of_getElem? (i := 437) rfl, rfl⟩
def w_R_init : List Cond := .code y_R_init b_R_init 2 none :: lw_g
set_option maxRecDepth 20000 in
theorem kc_R_init : Cond.code y_R_init b_R_init 2 none ∈ lw_g := List.mem_filter.mpr ⟨List.mem_of_getElem? (i := 443) rfl, rfl⟩
def w_R_tellClass : List Cond := .code y_R_tellClass b_R_tellClass 6 (some .int) :: lw_g
set_option maxRecDepth 20000 in
theorem kc_R_tellClass : Cond.code y_R_tellClass b_R_tellClass 6 (some .int) ∈ lw_g := List.mem_filter.mpr ⟨List.mem_of_getElem? (i := 495) rfl, rfl⟩
def w_R_in : List Cond := .code y_R_in b_R_in 3 (some .boolean) :: lw_g
set_option maxRecDepth 20000 in
theorem kc_R_in : Cond.code y_R_in b_R_in 3 (some .boolean) ∈ lw_g := List.mem_filter.mpr ⟨List.mem_of_getElem? (i := 498) rfl, rfl⟩
def w_R_there : List Cond := .code y_R_there b_R_there 2 (some .boolean) :: lw_g
set_option maxRecDepth 20000 in
theorem kc_R_there : Cond.code y_R_there b_R_there 2 (some .boolean) ∈ lw_g := List.mem_filter.mpr ⟨List.mem_of_getElem? (i := 502) rfl, rfl⟩
def w_R_tell : List Cond := .code y_R_tell b_R_tell 3 (some .int) :: lw_g
set_option maxRecDepth 20000 in
theorem kc_R_tell : Cond.code y_R_tell b_R_tell 3 (some .int) ∈ lw_g := List.mem_filter.mpr ⟨List.mem_of_getElem? (i := 506) rfl, rfl⟩
def w_R_tellInterface : List Cond := .code y_R_tellInterface b_R_tellInterface 4 (some .int) :: lw_g
set_option maxRecDepth 20000 in
theorem kc_R_tellInterface : Cond.code y_R_tellInterface b_R_tellInterface 4 (some .int) ∈ lw_g := List.mem_filter.mpr ⟨List.mem_of_getElem? (i := 510) rfl, rfl⟩
def w_R_implement : List Cond := .code y_R_implement b_R_implement 4 (some .int) :: lw_g
set_option maxRecDepth 20000 in
theorem kc_R_implement : Cond.code y_R_implement b_R_implement 4 (some .int) ∈ lw_g := List.mem_filter.mpr ⟨List.mem_of_getElem? (i := 514) rfl, rfl⟩
def w_R_nest : List Cond := .code y_R_nest b_R_nest 4 (some .int) :: lw_g
set_option maxRecDepth 20000 in
theorem kc_R_nest : Cond.code y_R_nest b_R_nest 4 (some .int) ∈ lw_g := List.mem_filter.mpr ⟨List.mem_of_getElem? (i := 518) rfl, rfl⟩
def w_R_field : List Cond := .code y_R_field b_R_field 5 (some .int) :: lw_g
set_option maxRecDepth 20000 in
theorem kc_R_field : Cond.code y_R_field b_R_field 5 (some .int) ∈ lw_g := List.mem_filter.mpr ⟨List.mem_of_getElem? (i := 522) rfl, rfl⟩
def w_R_method : List Cond := .code y_R_method b_R_method 5 (some .int) :: lw_g
set_option maxRecDepth 20000 in
theorem kc_R_method : Cond.code y_R_method b_R_method 5 (some .int) ∈ lw_g := List.mem_filter.mpr ⟨List.mem_of_getElem? (i := 526) rfl, rfl⟩
def w_R_untell : List Cond := .code y_R_untell b_R_untell 5 (some .int) :: lw_g
set_option maxRecDepth 20000 in
theorem kc_R_untell : Cond.code y_R_untell b_R_untell 5 (some .int) ∈ lw_g := List.mem_filter.mpr ⟨List.mem_of_getElem? (i := 530) rfl, rfl⟩
def w_R_resolve : List Cond := .code y_R_resolve b_R_resolve 5 (some .int) :: lw_g
set_option maxRecDepth 20000 in
theorem kc_R_resolve : Cond.code y_R_resolve b_R_resolve 5 (some .int) ∈ lw_g := List.mem_filter.mpr ⟨List.mem_of_getElem? (i := 534) rfl, rfl⟩
def w_R_closeAbove : List Cond := .code y_R_closeAbove b_R_closeAbove 3 none :: lw_g
set_option maxRecDepth 20000 in
theorem kc_R_closeAbove : Cond.code y_R_closeAbove b_R_closeAbove 3 none ∈ lw_g := List.mem_filter.mpr ⟨List.mem_of_getElem? (i := 538) rfl, rfl⟩
def w_R_resolved : List Cond := .code y_R_resolved b_R_resolved 6 (some .int) :: lw_g
set_option maxRecDepth 20000 in
theorem kc_R_resolved : Cond.code y_R_resolved b_R_resolved 6 (some .int) ∈ lw_g := List.mem_filter.mpr ⟨List.mem_of_getElem? (i := 542) rfl, rfl⟩
def w_R_usableType : List Cond := .code y_R_usableType b_R_usableType 3 (some .boolean) :: lw_g
set_option maxRecDepth 20000 in
theorem kc_R_usableType : Cond.code y_R_usableType b_R_usableType 3 (some .boolean) ∈ lw_g := List.mem_filter.mpr ⟨List.mem_of_getElem? (i := 546) rfl, rfl⟩
def w_R_findField : List Cond := .code y_R_findField b_R_findField 7 (some .int) :: lw_g
set_option maxRecDepth 20000 in
theorem kc_R_findField : Cond.code y_R_findField b_R_findField 7 (some .int) ∈ lw_g := List.mem_filter.mpr ⟨List.mem_of_getElem? (i := 550) rfl, rfl⟩
def w_R_usable : List Cond := .code y_R_usable b_R_usable 5 (some .boolean) :: lw_g
set_option maxRecDepth 20000 in
theorem kc_R_usable : Cond.code y_R_usable b_R_usable 5 (some .boolean) ∈ lw_g := List.mem_filter.mpr ⟨List.mem_of_getElem? (i := 554) rfl, rfl⟩
def w_R_is : List Cond := .code y_R_is b_R_is 3 (some .boolean) :: lw_g
set_option maxRecDepth 20000 in
theorem kc_R_is : Cond.code y_R_is b_R_is 3 (some .boolean) ∈ lw_g := List.mem_filter.mpr ⟨List.mem_of_getElem? (i := 558) rfl, rfl⟩
def w_R_findMethod : List Cond := .code y_R_findMethod b_R_findMethod 5 (some .int) :: lw_g
set_option maxRecDepth 20000 in
theorem kc_R_findMethod : Cond.code y_R_findMethod b_R_findMethod 5 (some .int) ∈ lw_g := List.mem_filter.mpr ⟨List.mem_of_getElem? (i := 562) rfl, rfl⟩
def w_R_has : List Cond := .code y_R_has b_R_has 3 (some .boolean) :: lw_g
set_option maxRecDepth 20000 in
theorem kc_R_has : Cond.code y_R_has b_R_has 3 (some .boolean) ∈ lw_g := List.mem_filter.mpr ⟨List.mem_of_getElem? (i := 566) rfl, rfl⟩
def w_R_findAbove : List Cond := .code y_R_findAbove b_R_findAbove 7 (some .int) :: lw_g
set_option maxRecDepth 20000 in
theorem kc_R_findAbove : Cond.code y_R_findAbove b_R_findAbove 7 (some .int) ∈ lw_g := List.mem_filter.mpr ⟨List.mem_of_getElem? (i := 570) rfl, rfl⟩
def w_R_maximals : List Cond := .code y_R_maximals b_R_maximals 7 (some .int) :: lw_g
set_option maxRecDepth 20000 in
theorem kc_R_maximals : Cond.code y_R_maximals b_R_maximals 7 (some .int) ∈ lw_g := List.mem_filter.mpr ⟨List.mem_of_getElem? (i := 574) rfl, rfl⟩
def w_R_candidates : List Cond := .code y_R_candidates b_R_candidates 5 (some .int) :: lw_g
set_option maxRecDepth 20000 in
theorem kc_R_candidates : Cond.code y_R_candidates b_R_candidates 5 (some .int) ∈ lw_g := List.mem_filter.mpr ⟨List.mem_of_getElem? (i := 578) rfl, rfl⟩
def w_R_isStatic : List Cond := .code y_R_isStatic b_R_isStatic 3 (some .boolean) :: lw_g
set_option maxRecDepth 20000 in
theorem kc_R_isStatic : Cond.code y_R_isStatic b_R_isStatic 3 (some .boolean) ∈ lw_g := List.mem_filter.mpr ⟨List.mem_of_getElem? (i := 582) rfl, rfl⟩
def w_R_isPrivate : List Cond := .code y_R_isPrivate b_R_isPrivate 3 (some .boolean) :: lw_g
set_option maxRecDepth 20000 in
theorem kc_R_isPrivate : Cond.code y_R_isPrivate b_R_isPrivate 3 (some .boolean) ∈ lw_g := List.mem_filter.mpr ⟨List.mem_of_getElem? (i := 586) rfl, rfl⟩
def w_R_only : List Cond := .code y_R_only b_R_only 6 (some .int) :: lw_g
set_option maxRecDepth 20000 in
theorem kc_R_only : Cond.code y_R_only b_R_only 6 (some .int) ∈ lw_g := List.mem_filter.mpr ⟨List.mem_of_getElem? (i := 590) rfl, rfl⟩
def w_R_isAbstract : List Cond := .code y_R_isAbstract b_R_isAbstract 3 (some .boolean) :: lw_g
set_option maxRecDepth 20000 in
theorem kc_R_isAbstract : Cond.code y_R_isAbstract b_R_isAbstract 3 (some .boolean) ∈ lw_g := List.mem_filter.mpr ⟨List.mem_of_getElem? (i := 594) rfl, rfl⟩
def w_R_choices : List Cond := .code y_R_choices b_R_choices 1 (some .int) :: lw_g
set_option maxRecDepth 20000 in
theorem kc_R_choices : Cond.code y_R_choices b_R_choices 1 (some .int) ∈ lw_g := List.mem_filter.mpr ⟨List.mem_of_getElem? (i := 598) rfl, rfl⟩
def w_R_use : List Cond := .code y_R_use b_R_use 7 (some .int) :: lw_g
set_option maxRecDepth 20000 in
theorem kc_R_use : Cond.code y_R_use b_R_use 7 (some .int) ∈ lw_g := List.mem_filter.mpr ⟨List.mem_of_getElem? (i := 602) rfl, rfl⟩
def w_R_invoke : List Cond := .code y_R_invoke b_R_invoke 9 (some .int) :: lw_g
set_option maxRecDepth 20000 in
theorem kc_R_invoke : Cond.code y_R_invoke b_R_invoke 9 (some .int) ∈ lw_g := List.mem_filter.mpr ⟨List.mem_of_getElem? (i := 606) rfl, rfl⟩
def w_R_special : List Cond := .code y_R_special b_R_special 6 (some .int) :: lw_g
set_option maxRecDepth 20000 in
theorem kc_R_special : Cond.code y_R_special b_R_special 6 (some .int) ∈ lw_g := List.mem_filter.mpr ⟨List.mem_of_getElem? (i := 610) rfl, rfl⟩
def w_R_withCode : List Cond := .code y_R_withCode b_R_withCode 3 (some .int) :: lw_g
set_option maxRecDepth 20000 in
theorem kc_R_withCode : Cond.code y_R_withCode b_R_withCode 3 (some .int) ∈ lw_g := List.mem_filter.mpr ⟨List.mem_of_getElem? (i := 614) rfl, rfl⟩
def w_R_coded : List Cond := .code y_R_coded b_R_coded 4 (some .int) :: lw_g
set_option maxRecDepth 20000 in
theorem kc_R_coded : Cond.code y_R_coded b_R_coded 4 (some .int) ∈ lw_g := List.mem_filter.mpr ⟨List.mem_of_getElem? (i := 618) rfl, rfl⟩
def w_R_selected : List Cond := .code y_R_selected b_R_selected 5 (some .int) :: lw_g
set_option maxRecDepth 20000 in
theorem kc_R_selected : Cond.code y_R_selected b_R_selected 5 (some .int) ∈ lw_g := List.mem_filter.mpr ⟨List.mem_of_getElem? (i := 622) rfl, rfl⟩
def w_R_fillCan : List Cond := .code y_R_fillCan b_R_fillCan 4 none :: lw_g
set_option maxRecDepth 20000 in
theorem kc_R_fillCan : Cond.code y_R_fillCan b_R_fillCan 4 none ∈ lw_g := List.mem_filter.mpr ⟨List.mem_of_getElem? (i := 626) rfl, rfl⟩
def w_R_overriding : List Cond := .code y_R_overriding b_R_overriding 6 (some .boolean) :: lw_g
set_option maxRecDepth 20000 in
theorem kc_R_overriding : Cond.code y_R_overriding b_R_overriding 6 (some .boolean) ∈ lw_g := List.mem_filter.mpr ⟨List.mem_of_getElem? (i := 630) rfl, rfl⟩
def w_R_isA : List Cond := .code y_R_isA b_R_isA 3 (some .boolean) :: lw_g
set_option maxRecDepth 20000 in
theorem kc_R_isA : Cond.code y_R_isA b_R_isA 3 (some .boolean) ∈ lw_g := List.mem_filter.mpr ⟨List.mem_of_getElem? (i := 634) rfl, rfl⟩
def w_R_mates : List Cond := .code y_R_mates b_R_mates 3 (some .boolean) :: lw_g
set_option maxRecDepth 20000 in
theorem kc_R_mates : Cond.code y_R_mates b_R_mates 3 (some .boolean) ∈ lw_g := List.mem_filter.mpr ⟨List.mem_of_getElem? (i := 638) rfl, rfl⟩
def w_R_overrides : List Cond := .code y_R_overrides b_R_overrides 4 (some .boolean) :: lw_g
set_option maxRecDepth 20000 in
theorem kc_R_overrides : Cond.code y_R_overrides b_R_overrides 4 (some .boolean) ∈ lw_g := List.mem_filter.mpr ⟨List.mem_of_getElem? (i := 642) rfl, rfl⟩
def w_R_maximal : List Cond := .code y_R_maximal b_R_maximal 3 (some .int) :: lw_g
set_option maxRecDepth 20000 in
theorem kc_R_maximal : Cond.code y_R_maximal b_R_maximal 3 (some .int) ∈ lw_g := List.mem_filter.mpr ⟨List.mem_of_getElem? (i := 646) rfl, rfl⟩
def w_R_type : List Cond := .code y_R_type b_R_type 5 (some .int) :: lw_g
set_option maxRecDepth 20000 in
theorem kc_R_type : Cond.code y_R_type b_R_type 5 (some .int) ∈ lw_g := List.mem_filter.mpr ⟨List.mem_of_getElem? (i := 650) rfl, rfl⟩
theorem i_W : ∀ w ∈ u_ws R_W F_W 10, w ∈ lw_g := by decide +kernel
theorem i_M : ∀ w ∈ u_ws R_M F_M 5, w ∈ lw_g := by decide +kernel
theorem i_O : ∀ w ∈ u_ws R_O F_O 4, w ∈ lw_g := by decide +kernel
theorem i_R : ∀ w ∈ u_ws R_R F_R 15, w ∈ lw_g := by decide +kernel
theorem k_0 : Cond.constant R_J 265 1431655765 ∈ lw_g := by decide +kernel
theorem k_1 : Cond.constant R_J 266 858993459 ∈ lw_g := by decide +kernel
theorem k_2 : Cond.constant R_J 267 252645135 ∈ lw_g := by decide +kernel
theorem k_3 : Cond.fieldLink R_W 40 "MemberOracle$World" "count" "I" ∈ lw_g := by decide +kernel
theorem k_4 : Cond.fieldLink R_W 37 "MemberOracle$World" "interfaceSet" "I" ∈ lw_g := by decide +kernel
theorem k_5 : Cond.methodLinkNest R_W 47 y_O_holds R_O ∈ lw_tbl := by decide +kernel
theorem k_6 : Cond.initialized R_O ∈ lw_g := by decide +kernel
theorem k_7 : Cond.static y_O_holds ∈ lw_g := by decide +kernel
theorem k_8 : Cond.fieldLink R_W 34 "MemberOracle$World" "finalSet" "I" ∈ lw_g := by decide +kernel
theorem k_9 : Cond.fieldLink R_W 21 "MemberOracle$World" "directCounts" "[I" ∈ lw_g := by decide +kernel
theorem k_10 : Cond.fieldLink R_W 24 "MemberOracle$World" "directs" "[I" ∈ lw_g := by decide +kernel
theorem k_11 : Cond.fieldLink R_W 9 "MemberOracle$World" "superclasses" "[I" ∈ lw_g := by decide +kernel
theorem k_12 : Cond.fieldLink R_W 15 "MemberOracle$World" "packages" "[I" ∈ lw_g := by decide +kernel
theorem k_13 : Cond.fieldLink R_W 18 "MemberOracle$World" "hosts" "[I" ∈ lw_g := by decide +kernel
theorem k_14 : Cond.fieldLink R_W 27 "MemberOracle$World" "families" "[I" ∈ lw_g := by decide +kernel
theorem k_15 : Cond.fieldLink R_W 30 "MemberOracle$World" "publicSet" "I" ∈ lw_g := by decide +kernel
theorem k_16 : Cond.fieldLink R_M 9 "MemberOracle$Members" "ownerSets" "[I" ∈ lw_g := by decide +kernel
theorem k_17 : Cond.fieldLink R_M 18 "MemberOracle$Members" "abstractSets" "[I" ∈ lw_g := by decide +kernel
theorem k_18 : Cond.fieldLink R_M 15 "MemberOracle$Members" "staticSets" "[I" ∈ lw_g := by decide +kernel
theorem k_19 : Cond.fieldLink R_M 21 "MemberOracle$Members" "privateSets" "[I" ∈ lw_g := by decide +kernel
theorem k_20 : Cond.methodLinkNest R_M 31 y_O_holds R_O ∈ lw_tbl := by decide +kernel
theorem k_21 : Cond.fieldLink R_M 24 "MemberOracle$Members" "accesses" "[I" ∈ lw_g := by decide +kernel
theorem k_22 : Cond.fieldLink R_O 10 "MemberOracle" "world" "LMemberOracle$World;" ∈ lw_g := by decide +kernel
theorem k_23 : Cond.fieldLink R_O 23 "MemberOracle" "methods" "LMemberOracle$Members;" ∈ lw_g := by decide +kernel
theorem k_24 : Cond.methodLink R_O 158 y_J_bitCount ∈ lw_g := by decide +kernel
theorem k_25 : Cond.initialized R_J ∈ lw_g := by decide +kernel
theorem k_26 : Cond.static y_J_bitCount ∈ lw_g := by decide +kernel
theorem k_27 : Cond.fieldLink R_O 19 "MemberOracle" "fields" "LMemberOracle$Members;" ∈ lw_g := by decide +kernel
theorem k_28 : Cond.fieldLink R_O 26 "MemberOracle" "lastChoices" "I" ∈ lw_g := by decide +kernel
theorem k_29 : Cond.methodLink R_W 3 objectInit ∈ lw_g := by decide +kernel
theorem k_30 : Cond.instanceMethod objectInit ∈ lw_g := by decide +kernel
theorem k_31 : Cond.arrayClass .int ∈ lw_g := by decide +kernel
theorem k_32 : Cond.methodLink R_M 3 objectInit ∈ lw_g := by decide +kernel
theorem k_33 : Cond.methodLink R_O 1 objectInit ∈ lw_g := by decide +kernel
theorem k_34 : Cond.classLink R_O 7 R_W ∈ lw_g := by decide +kernel
theorem k_35 : Cond.instantiable R_W 10 ∈ lw_g := by decide +kernel
theorem k_36 : Cond.initialized R_W ∈ lw_g := by decide +kernel
theorem k_37 : Cond.methodLink R_O 9 y_W_init ∈ lw_g := by decide +kernel
theorem k_38 : Cond.instanceMethod y_W_init ∈ lw_g := by decide +kernel
theorem k_39 : Cond.classLink R_O 16 R_M ∈ lw_g := by decide +kernel
theorem k_40 : Cond.instantiable R_M 5 ∈ lw_g := by decide +kernel
theorem k_41 : Cond.initialized R_M ∈ lw_g := by decide +kernel
theorem k_42 : Cond.methodLink R_O 18 y_M_init ∈ lw_g := by decide +kernel
theorem k_43 : Cond.instanceMethod y_M_init ∈ lw_g := by decide +kernel
theorem k_g0 : GoodIn lw_g (wsS R_O 200 y_O_holds w_O_holds) := gd_S kc_O_holds (by decide +kernel)
theorem k_g1 : GoodIn lw_g (wsV R_W 43 R_W y_W_has w_W_has) := gd_V kc_W_has (by decide +kernel)
theorem k_g2 : GoodIn lw_g w_O_holds := gd_N kc_O_holds
theorem k_g3 : GoodIn lw_g (wsV R_W 51 R_W y_W_isClass w_W_isClass) := gd_V kc_W_isClass (by decide +kernel)
theorem k_g4 : GoodIn lw_g (wsV R_W 62 R_W y_W_samePackage w_W_samePackage) := gd_V kc_W_samePackage (by decide +kernel)
theorem k_g5 : GoodIn lw_g (wsV R_W 58 R_W y_W_directAt w_W_directAt) := gd_V kc_W_directAt (by decide +kernel)
theorem k_g6 : GoodIn lw_g (wsV R_W 65 R_W y_W_nextToSearch w_W_nextToSearch) := gd_V kc_W_nextToSearch (by decide +kernel)
theorem k_g7 : GoodIn lw_g (wsV R_W 54 R_W y_W_addType w_W_addType) := gd_V kc_W_addType (by decide +kernel)
theorem k_g8 : GoodIn lw_g (wsV R_M 27 R_M y_M_drop w_M_drop) := gd_V kc_M_drop (by decide +kernel)
theorem k_g9 : GoodIn lw_g (wsV R_O 155 R_W y_W_supertypes w_W_supertypes) := gd_V kc_W_supertypes (by decide +kernel)
theorem k_g10 : GoodIn lw_g (wsV R_O 193 R_W y_W_interfaces w_W_interfaces) := gd_V kc_W_interfaces (by decide +kernel)
theorem k_g11 : GoodIn lw_g (wsV R_O 197 R_M y_M_inheritable w_M_inheritable) := gd_V kc_M_inheritable (by decide +kernel)
theorem k_g12 : GoodIn lw_g (wsV R_O 181 R_O y_O_interfaceMethods w_O_interfaceMethods) := gd_V kc_O_interfaceMethods (by decide +kernel)
theorem k_g13 : GoodIn lw_g (wsV R_O 143 R_O y_O_maximalSet w_O_maximalSet) := gd_V kc_O_maximalSet (by decide +kernel)
theorem k_g14 : GoodIn lw_g (wsV R_O 203 R_M y_M_abstracts w_M_abstracts) := gd_V kc_M_abstracts (by decide +kernel)
theorem k_g15 : GoodIn lw_g w_J_bitCount := gd_N kc_J_bitCount
theorem k_g16 : GoodIn lw_g (wsS R_O 184 y_O_leastOf w_O_leastOf) := gd_S kc_O_leastOf (by decide +kernel)
theorem k_g17 : GoodIn lw_g (wsV R_O 187 R_M y_M_accessOf w_M_accessOf) := gd_V kc_M_accessOf (by decide +kernel)
theorem k_g18 : GoodIn lw_g (wsV R_O 67 R_W y_W_samePackage w_W_samePackage) := gd_V kc_W_samePackage (by decide +kernel)
theorem k_g19 : GoodIn lw_g (wsV R_O 215 R_O y_O_overridesAtOnce w_O_overridesAtOnce) := gd_V kc_O_overridesAtOnce (by decide +kernel)
theorem k_g20 : GoodIn lw_g (wsV R_O 206 R_M y_M_instances w_M_instances) := gd_V kc_M_instances (by decide +kernel)
theorem k_g21 : GoodIn lw_g (wsV R_O 172 R_W y_W_chain w_W_chain) := gd_V kc_W_chain (by decide +kernel)
theorem k_g22 : GoodIn lw_g (wsV R_O 209 R_W y_W_kindsOf w_W_kindsOf) := gd_V kc_W_kindsOf (by decide +kernel)
theorem k_g23 : GoodIn lw_g (wsV R_O 212 R_O y_O_overridesOneOf w_O_overridesOneOf) := gd_V kc_O_overridesOneOf (by decide +kernel)
theorem k_g24 : GoodIn lw_g (wsV R_O 178 R_O y_O_bestOfInterfaces w_O_bestOfInterfaces) := gd_V kc_O_bestOfInterfaces (by decide +kernel)
theorem k_g25 : GoodIn lw_g (wsV R_O 139 R_O y_O_canOverride w_O_canOverride) := gd_V kc_O_canOverride (by decide +kernel)
theorem k_g26 : GoodIn lw_g (wsV R_O 130 R_W y_W_isKindOf w_W_isKindOf) := gd_V kc_W_isKindOf (by decide +kernel)
theorem k_g27 : GoodIn lw_g (wsV R_O 133 R_W y_W_sameHost w_W_sameHost) := gd_V kc_W_sameHost (by decide +kernel)
theorem k_g28 : GoodIn lw_g (wsV R_O 190 R_O y_O_mayUseMember w_O_mayUseMember) := gd_V kc_O_mayUseMember (by decide +kernel)
theorem k_g29 : GoodIn lw_g (wsV R_O 163 R_W y_W_mayUseType w_W_mayUseType) := gd_V kc_W_mayUseType (by decide +kernel)
theorem k_g30 : GoodIn lw_g (wsV R_O 166 R_M y_M_owners w_M_owners) := gd_V kc_M_owners (by decide +kernel)
theorem k_g31 : GoodIn lw_g (wsV R_O 169 R_W y_W_search w_W_search) := gd_V kc_W_search (by decide +kernel)
theorem k_g32 : GoodIn lw_g (wsV R_O 136 R_W y_W_isClass w_W_isClass) := gd_V kc_W_isClass (by decide +kernel)
theorem k_g33 : GoodIn lw_g (wsV R_O 52 R_W y_W_isInterface w_W_isInterface) := gd_V kc_W_isInterface (by decide +kernel)
theorem k_g34 : GoodIn lw_g (wsS R_O 175 y_O_greatestOf w_O_greatestOf) := gd_S kc_O_greatestOf (by decide +kernel)
theorem k_g35 : GoodIn lw_g (wsV R_O 102 R_O y_O_admitted w_O_admitted) := gd_V kc_O_admitted (by decide +kernel)
theorem k_g36 : GoodIn lw_g (wsV R_O 106 R_O y_O_resolveMethod w_O_resolveMethod) := gd_V kc_O_resolveMethod (by decide +kernel)
theorem k_g37 : GoodIn lw_g (wsV R_O 110 R_M y_M_isStatic w_M_isStatic) := gd_V kc_M_isStatic (by decide +kernel)
theorem k_g38 : GoodIn lw_g (wsV R_O 218 R_O y_O_select w_O_select) := gd_V kc_O_select (by decide +kernel)
theorem k_g39 : GoodIn lw_g (wsV R_O 221 R_O y_O_runnable w_O_runnable) := gd_V kc_O_runnable (by decide +kernel)
theorem k_g40 : GoodIn lw_g (wsV R_O 146 R_W y_W_superclassOf w_W_superclassOf) := gd_V kc_W_superclassOf (by decide +kernel)
theorem k_g41 : GoodIn lw_g (wsV R_O 49 R_W y_W_has w_W_has) := gd_V kc_W_has (by decide +kernel)
theorem k_g42 : GoodIn lw_g (wsS R_O 80 y_O_isName w_O_isName) := gd_S kc_O_isName (by decide +kernel)
theorem k_g43 : GoodIn lw_g (wsV R_O 149 R_W y_W_packageOf w_W_packageOf) := gd_V kc_W_packageOf (by decide +kernel)
theorem k_g44 : GoodIn lw_g (wsV R_O 70 R_W y_W_hostOf w_W_hostOf) := gd_V kc_W_hostOf (by decide +kernel)
theorem k_g45 : GoodIn lw_g (wsV R_O 59 R_W y_W_directCount w_W_directCount) := gd_V kc_W_directCount (by decide +kernel)
theorem k_g46 : GoodIn lw_g (wsV R_O 152 R_W y_W_directAt w_W_directAt) := gd_V kc_W_directAt (by decide +kernel)
theorem k_g47 : GoodIn lw_g (wsV R_O 98 R_O y_O_findField w_O_findField) := gd_V kc_O_findField (by decide +kernel)
theorem k_g48 : GoodIn lw_g (wsV R_O 113 R_O y_O_isReceiver w_O_isReceiver) := gd_V kc_O_isReceiver (by decide +kernel)
theorem k_g49 : GoodIn lw_g (wsV R_O 117 R_O y_O_invokeVirtual w_O_invokeVirtual) := gd_V kc_O_invokeVirtual (by decide +kernel)
theorem k_g50 : GoodIn lw_g (wsV R_O 121 R_O y_O_invokeInterface w_O_invokeInterface) := gd_V kc_O_invokeInterface (by decide +kernel)
theorem k_g51 : GoodIn lw_g (wsV R_O 124 R_O y_O_invokeSpecial w_O_invokeSpecial) := gd_V kc_O_invokeSpecial (by decide +kernel)
theorem k_g52 : GoodIn lw_g (wsV R_O 127 R_O y_O_invokeStatic w_O_invokeStatic) := gd_V kc_O_invokeStatic (by decide +kernel)
theorem k_g53 : GoodIn lw_g (wsS R_O 30 y_O_isPackage w_O_isPackage) := gd_S kc_O_isPackage (by decide +kernel)
theorem k_g54 : GoodIn lw_g (wsV R_O 37 R_W y_W_isFull w_W_isFull) := gd_V kc_W_isFull (by decide +kernel)
theorem k_g55 : GoodIn lw_g (wsV R_O 41 R_W y_W_addClass w_W_addClass) := gd_V kc_W_addClass (by decide +kernel)
theorem k_g56 : GoodIn lw_g (wsV R_O 34 R_W y_W_mayBeExtended w_W_mayBeExtended) := gd_V kc_W_mayBeExtended (by decide +kernel)
theorem k_g57 : GoodIn lw_g (wsV R_O 45 R_W y_W_addInterface w_W_addInterface) := gd_V kc_W_addInterface (by decide +kernel)
theorem k_g58 : GoodIn lw_g (wsV R_O 55 R_W y_W_hasDirect w_W_hasDirect) := gd_V kc_W_hasDirect (by decide +kernel)
theorem k_g59 : GoodIn lw_g (wsV R_O 63 R_W y_W_addDirect w_W_addDirect) := gd_V kc_W_addDirect (by decide +kernel)
theorem k_g60 : GoodIn lw_g (wsV R_O 73 R_W y_W_hostsAnother w_W_hostsAnother) := gd_V kc_W_hostsAnother (by decide +kernel)
theorem k_g61 : GoodIn lw_g (wsV R_O 76 R_W y_W_setHost w_W_setHost) := gd_V kc_W_setHost (by decide +kernel)
theorem k_g62 : GoodIn lw_g (wsS R_O 83 y_O_isAccess w_O_isAccess) := gd_S kc_O_isAccess (by decide +kernel)
theorem k_g63 : GoodIn lw_g (wsV R_O 86 R_M y_M_put w_M_put) := gd_V kc_M_put (by decide +kernel)
theorem k_g64 : GoodIn lw_g (wsS R_O 90 y_O_isForm w_O_isForm) := gd_S kc_O_isForm (by decide +kernel)
theorem k_g65 : GoodIn lw_g (wsV R_O 93 R_M y_M_has w_M_has) := gd_V kc_M_has (by decide +kernel)
theorem k_g66 : GoodIn lw_g (wsV R_O 95 R_M y_M_drop w_M_drop) := gd_V kc_M_drop (by decide +kernel)
theorem k_g67 : GoodIn lw_g w_W_init := gd_N kc_W_init
theorem k_g68 : GoodIn lw_g w_M_init := gd_N kc_M_init
