theorem k_58 : Cond.fieldLink R_R 47 "MemberOracleModel" "stack" "[I" ∈ lw_g := by decide +kernel
theorem k_g85 : GoodIn lw_g (wsV R_R 128 R_R y_R_withCode w_R_withCode) := gd_V kc_R_withCode (by decide +kernel)
