set_option maxRecDepth 20000 in
theorem k_LO_init : GoodIn lw_g w_O_init := gd_N kc_O_init
set_option maxRecDepth 20000 in
theorem k_LR_init : GoodIn lw_g w_R_init := gd_N kc_R_init
set_option maxRecDepth 20000 in
theorem k_LO_tellClass : GoodIn lw_g (wsV R_law 13 R_O y_O_tellClass w_O_tellClass) := gd_V kc_O_tellClass (by decide +kernel)
set_option maxRecDepth 20000 in
theorem k_LR_tellClass : GoodIn lw_g (wsV R_law 17 R_R y_R_tellClass w_R_tellClass) := gd_V kc_R_tellClass (by decide +kernel)
set_option maxRecDepth 20000 in
theorem k_LO_tellInterface : GoodIn lw_g (wsV R_law 18 R_O y_O_tellInterface w_O_tellInterface) := gd_V kc_O_tellInterface (by decide +kernel)
set_option maxRecDepth 20000 in
theorem k_LR_tellInterface : GoodIn lw_g (wsV R_law 22 R_R y_R_tellInterface w_R_tellInterface) := gd_V kc_R_tellInterface (by decide +kernel)
set_option maxRecDepth 20000 in
theorem k_LO_implement : GoodIn lw_g (wsV R_law 23 R_O y_O_implement w_O_implement) := gd_V kc_O_implement (by decide +kernel)
set_option maxRecDepth 20000 in
theorem k_LR_implement : GoodIn lw_g (wsV R_law 27 R_R y_R_implement w_R_implement) := gd_V kc_R_implement (by decide +kernel)
set_option maxRecDepth 20000 in
theorem k_LO_nest : GoodIn lw_g (wsV R_law 28 R_O y_O_nest w_O_nest) := gd_V kc_O_nest (by decide +kernel)
set_option maxRecDepth 20000 in
theorem k_LR_nest : GoodIn lw_g (wsV R_law 31 R_R y_R_nest w_R_nest) := gd_V kc_R_nest (by decide +kernel)
set_option maxRecDepth 20000 in
theorem k_LO_field : GoodIn lw_g (wsV R_law 32 R_O y_O_field w_O_field) := gd_V kc_O_field (by decide +kernel)
set_option maxRecDepth 20000 in
theorem k_LR_field : GoodIn lw_g (wsV R_law 36 R_R y_R_field w_R_field) := gd_V kc_R_field (by decide +kernel)
set_option maxRecDepth 20000 in
theorem k_LO_method : GoodIn lw_g (wsV R_law 37 R_O y_O_method w_O_method) := gd_V kc_O_method (by decide +kernel)
set_option maxRecDepth 20000 in
theorem k_LR_method : GoodIn lw_g (wsV R_law 41 R_R y_R_method w_R_method) := gd_V kc_R_method (by decide +kernel)
set_option maxRecDepth 20000 in
theorem k_LO_untell : GoodIn lw_g (wsV R_law 42 R_O y_O_untell w_O_untell) := gd_V kc_O_untell (by decide +kernel)
set_option maxRecDepth 20000 in
theorem k_LR_untell : GoodIn lw_g (wsV R_law 46 R_R y_R_untell w_R_untell) := gd_V kc_R_untell (by decide +kernel)
set_option maxRecDepth 20000 in
theorem k_LO_resolve : GoodIn lw_g (wsV R_law 47 R_O y_O_resolve w_O_resolve) := gd_V kc_O_resolve (by decide +kernel)
set_option maxRecDepth 20000 in
theorem k_LR_resolve : GoodIn lw_g (wsV R_law 50 R_R y_R_resolve w_R_resolve) := gd_V kc_R_resolve (by decide +kernel)
set_option maxRecDepth 20000 in
theorem k_LO_choices : GoodIn lw_g (wsV R_law 51 R_O y_O_choices w_O_choices) := gd_V kc_O_choices (by decide +kernel)
set_option maxRecDepth 20000 in
theorem k_LR_choices : GoodIn lw_g (wsV R_law 55 R_R y_R_choices w_R_choices) := gd_V kc_R_choices (by decide +kernel)
set_option maxRecDepth 20000 in
theorem k_LO_use : GoodIn lw_g (wsV R_law 56 R_O y_O_use w_O_use) := gd_V kc_O_use (by decide +kernel)
set_option maxRecDepth 20000 in
theorem k_LR_use : GoodIn lw_g (wsV R_law 59 R_R y_R_use w_R_use) := gd_V kc_R_use (by decide +kernel)
set_option maxRecDepth 20000 in
theorem k_LO_invoke : GoodIn lw_g (wsV R_law 60 R_O y_O_invoke w_O_invoke) := gd_V kc_O_invoke (by decide +kernel)
set_option maxRecDepth 20000 in
theorem k_LR_invoke : GoodIn lw_g (wsV R_law 64 R_R y_R_invoke w_R_invoke) := gd_V kc_R_invoke (by decide +kernel)
set_option maxRecDepth 20000 in
theorem k_LO_isA : GoodIn lw_g (wsV R_law 65 R_O y_O_isA w_O_isA) := gd_V kc_O_isA (by decide +kernel)
set_option maxRecDepth 20000 in
theorem k_LR_isA : GoodIn lw_g (wsV R_law 69 R_R y_R_isA w_R_isA) := gd_V kc_R_isA (by decide +kernel)
set_option maxRecDepth 20000 in
theorem k_LO_mates : GoodIn lw_g (wsV R_law 70 R_O y_O_mates w_O_mates) := gd_V kc_O_mates (by decide +kernel)
set_option maxRecDepth 20000 in
theorem k_LR_mates : GoodIn lw_g (wsV R_law 73 R_R y_R_mates w_R_mates) := gd_V kc_R_mates (by decide +kernel)
set_option maxRecDepth 20000 in
theorem k_LO_overrides : GoodIn lw_g (wsV R_law 74 R_O y_O_overrides w_O_overrides) := gd_V kc_O_overrides (by decide +kernel)
set_option maxRecDepth 20000 in
theorem k_LR_overrides : GoodIn lw_g (wsV R_law 78 R_R y_R_overrides w_R_overrides) := gd_V kc_R_overrides (by decide +kernel)
set_option maxRecDepth 20000 in
theorem k_LO_maximal : GoodIn lw_g (wsV R_law 79 R_O y_O_maximal w_O_maximal) := gd_V kc_O_maximal (by decide +kernel)
set_option maxRecDepth 20000 in
theorem k_LR_maximal : GoodIn lw_g (wsV R_law 82 R_R y_R_maximal w_R_maximal) := gd_V kc_R_maximal (by decide +kernel)
set_option maxRecDepth 20000 in
theorem k_LO_type : GoodIn lw_g (wsV R_law 83 R_O y_O_type w_O_type) := gd_V kc_O_type (by decide +kernel)
set_option maxRecDepth 20000 in
theorem k_LR_type : GoodIn lw_g (wsV R_law 86 R_R y_R_type w_R_type) := gd_V kc_R_type (by decide +kernel)
theorem law_ix {x3 : Int32} {i L k : Nat} (ex : x3 = nI i) (hL : L ≤ 3072) (h : i + k < L) : vp_in (x3 + nI k) L := by
  rw [ex, nI_add]; exact vp_in_nI h (by omega)
/-- the two objects side by side, in agreement: from here the law comes to its end -/
def LW (p : Program) (l : Launch) (e : Env) (s : State) (m : MethodId) (below : List Frame) (meth : Method) (c : Code) (dC : Nat → ClassId) (dI : Nat → Nat → Nat) (h0 : Nat) (kw kf km : Nat → ClassId) (qw qf qm : Nat → Nat) (ka : Nat → ClassId) (qa : Nat → Nat) (b pc : Nat) (ls : Array Slot) : Prop :=
  ∀ (v : ES) (lc b0 b1 : Int32) (a0 a1 a2 a3 a4 a5 a6 a7 a8 a9 a10 a11 a12 : Nat → Int32) (H : Heap) (locs : List Loc), va_P (dC, dI) classes ((wO h0 kw kf km qw qf qm v lc) ++ (wR ka qa b0 b1 a0 a1 a2 a3 a4 a5 a6 a7 a8 a9 a10 a11 a12)) H → va_D (fun q : Nat => s.heap.size ≤ q) ((wO h0 kw kf km qw qf qm v lc) ++ (wR ka qa b0 b1 a0 a1 a2 a3 a4 a5 a6 a7 a8 a9 a10 a11 a12)) → va_S (fun q : Nat => s.heap.size ≤ q) s.heap H locs → Rel v lc b0 b1 a0 a1 a2 a3 a4 a5 a6 a7 a8 a9 a11 → W p l e room_1 s m #[Value.ref b] below meth c H locs 34 801 (lw_Z below #[Value.ref b] s) (F0 m pc ls [])
