theorem k_g91 : GoodIn lw_g (wsV R_R 134 R_R y_R_selected w_R_selected) := gd_V kc_R_selected (by decide +kernel)
theorem k_g92 : GoodIn lw_g (wsV R_R 131 R_R y_R_special w_R_special) := gd_V kc_R_special (by decide +kernel)
