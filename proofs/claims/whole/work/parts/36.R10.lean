set_option maxHeartbeats 1000000 in
set_option maxRecDepth 100000 in
theorem c_R_tellClass (l : Launch) (dC : Nat → ClassId) (dI : Nat → Nat → Nat) (ka : Nat → ClassId) (qa : Nat → Nat) (sz : Nat) (b0 b1 : Int32) (a0 a1 a2 a3 a4 a5 a6 a7 a8 a9 a10 a11 a12 : Nat → Int32) (p1 p2 p3 p4 : Int32) (hT : vT b0) : Met l y_R_tellClass w_R_tellClass ({ frames := 2, cells := 0, slots := 0, locals := 43 } : Room) (mu_P dC dI (wR ka qa b0 b1 a0 a1 a2 a3 a4 a5 a6 a7 a8 a9 a10 a11 a12) (tR ka) sz [.ref (qa 0), .int p1, .int p2, .int p3, .int p4]) (mu_Q (fun (S9 : Int32 × (Nat → Int32) × (Nat → Int32) × (Nat → Int32) × (Nat → Int32) × (Nat → Int32)) => (wR ka qa S9.1 b1 a0 S9.2.1 S9.2.2.1 S9.2.2.2.1 S9.2.2.2.2.1 S9.2.2.2.2.2 a6 a7 a8 a9 a10 a11 a12)) dC dI (f_R_tellClass b0 a0 a1 a2 a3 a4 a5 p1 p2 p3 p4) ((s_R_tellClass_b0 b0 a0 a1 a2 a3 a4 a5 p1 p2 p3 p4), (s_R_tellClass_a1 b0 a0 a1 a2 a3 a4 a5 p1 p2 p3 p4), (s_R_tellClass_a2 b0 a0 a1 a2 a3 a4 a5 p1 p2 p3 p4), (s_R_tellClass_a3 b0 a0 a1 a2 a3 a4 a5 p1 p2 p3 p4), (s_R_tellClass_a4 b0 a0 a1 a2 a3 a4 a5 p1 p2 p3 p4), (s_R_tellClass_a5 b0 a0 a1 a2 a3 a4 a5 p1 p2 p3 p4)) (va_A (wR ka qa b0 b1 a0 a1 a2 a3 a4 a5 a6 a7 a8 a9 a10 a11 a12) sz)) 0 0 (va_A (wR ka qa b0 b1 a0 a1 a2 a3 a4 a5 a6 a7 a8 a9 a10 a11 a12) sz) := by
  refine Met.ofW (cc := b_R_tellClass) (maxL := 6) (ret := (some .int)) (by decide) rfl ?_
  intro p e s m args below meth c s₁ B hml hv
  obtain ⟨rfl, hsz, hP, hK, hN, hD0⟩ := hv
  have hx := B.exec
  have hb := B.bytes
  have hr := B.returns
  have hts := tl_of (atoms_spec (ws := w_R_tellClass) B.pre)
  have hown : s.vm.findClass R_R = some m.cls := findClass_of_methodNamed B.named
  have hlocks := B.notSynchronized
  subst hsz
  have hD := hD0.self (sz := s.heap.size)
  generalize hAe : va_A (wR ka qa b0 b1 a0 a1 a2 a3 a4 a5 a6 a7 a8 a9 a10 a11 a12) s.heap.size = A at hD ⊢
  have hA : ∀ q : Nat, s.heap.size ≤ q → A q := fun q h => by rw [← hAe]; exact Or.inr h
  have hS : va_S A s.heap s.heap [] := va_S.rf
  have hl := lv_entry ([.ref (qa 0), .int p1, .int p2, .int p3, .int p4]) (n := 6) (Nat.le_of_ble_eq_true rfl)
  rw [lg_entry_eq]
  generalize (lg_sl ([.ref (qa 0), .int p1, .int p2, .int p3, .int p4]) ++ List.replicate (6 - (lg_sl ([.ref (qa 0), .int p1, .int p2, .int p3, .int p4])).length) Slot.unset).toArray = ls at hl ⊢
  have hl : lv_has ls 6 [(0, .ref (qa 0)), (1, .int p1), (2, .int p2), (3, .int p3), (4, .int p4)] := hl
  refine lv_iload_n hx hb d_R_tellClass_0 rfl (lv_at hl 2 rfl) ?_
  refine lv_iconst (v := (0 : Int32)) hx hb d_R_tellClass_1 (by decide +kernel) ?_
  refine lv_iconst (v := (2 : Int32)) hx hb d_R_tellClass_2 (by decide +kernel) ?_
  refine va_calli (va_runS (As := [.int p2, .int (0 : Int32), .int (2 : Int32)]) (rest := []) ⟨hx, hb, hml, hown, hts⟩ (c_R_in l dC dI  s.heap.size  p2 (0 : Int32) (2 : Int32)) (cwS 3 hts k_g69 rfl rfl rfl (by decide +kernel) ⟨Nat.le_of_ble_eq_true rfl, Nat.le_of_ble_eq_true rfl⟩) ⟨fb_ro, fun U hU hW => ⟨rfl, by rw [hU], by rw [hU]; exact hP.sub (ws' := ([] : va_W)) [] rfl, va_K.moved hW.alike (hK.sub (tys' := []) [] rfl), NX.warm hW hN⟩⟩ rfl rfl hl.1 rfl (lv_room (Nat.le_of_ble_eq_true rfl)) d_R_tellClass_3 ⟨Nat.zero_le _, Nat.zero_le _⟩) hS (fun z h1 h2 => absurd h1 (Nat.not_lt.mpr h2)) (fun z h => hA z (Nat.le_trans hS.1 h)) (fun r u t H1 locs ht hvm hpo hB hz1 hk1 hS => ?_)
  subst hpo
  have hP := kp_P hP hk1
  generalize H1 = H at hP hS ⊢
  refine lv_if_eq (tgt := 39) hx hb d_R_tellClass_6 (by decide) (fun c_1 => ?_) (fun c_1 => ?_)
  · have c_1 : (f_R_in p2 (0 : Int32) (2 : Int32)) = (0 : Int32) := c_1
    refine lv_iconst (v := (-1 : Int32)) hx hb d_R_tellClass_39 (by decide +kernel) ?_
    have hP9 : va_P (dC, dI) classes (wR ka qa b0 b1 a0 a1 a2 a3 a4 a5 a6 a7 a8 a9 a10 a11 a12) H := hP
    exact W.iret (v := (-1 : Int32)) hx hb hr (fun t ht hW => ⟨⟨(-1 : Int32), (b0, a1, a2, a3, a4, a5), rfl, ⟨by unfold f_R_tellClass; rw [if_pos c_1], (pr2 (by unfold s_R_tellClass_b0; rw [if_pos c_1]) (pr2 (by unfold s_R_tellClass_a1; rw [if_pos c_1]) (pr2 (by unfold s_R_tellClass_a2; rw [if_pos c_1]) (pr2 (by unfold s_R_tellClass_a3; rw [if_pos c_1]) (pr2 (by unfold s_R_tellClass_a4; rw [if_pos c_1]) (by unfold s_R_tellClass_a5; rw [if_pos c_1]))))))⟩, hp_at ht hP9⟩, hS.F ht⟩) hS.2.2 d_R_tellClass_40
  · have c_1 : ¬ ((f_R_in p2 (0 : Int32) (2 : Int32)) = (0 : Int32)) := c_1
    refine lv_iload_n hx hb d_R_tellClass_9 rfl (lv_at hl 1 rfl) ?_
    refine lv_if_eq (tgt := 41) hx hb d_R_tellClass_10 (by decide) (fun c_2 => ?_) (fun c_2 => ?_)
    · have c_2 : p1 = (0 : Int32) := c_2
      refine lv_aload_n hx hb d_R_tellClass_41 rfl (lv_at hl 0 rfl) ?_
      refine va_get (D := (dC, dI)) (ci := 3) (v := .int b0) (C := R_R) (T := F_R) (N := 15) hx hb hts i_R hown hK hP 0 rfl rfl 0 (by decide) (hts _ k_44) (fun _ h9 => h9) rfl d_R_tellClass_42 ?_
      refine lv_bipush (v := (12 : Int32)) hx hb d_R_tellClass_45 (by decide +kernel) ?_
      refine lv_icmp_ne (tgt := 53) hx hb d_R_tellClass_47 (by decide) (fun c_3 => ?_) (fun c_3 => ?_)
      · have c_3 : ¬ (b0 = (12 : Int32)) := c_3
        refine lv_aload_n hx hb d_R_tellClass_53 rfl (lv_at hl 0 rfl) ?_
        refine lv_iload_n hx hb d_R_tellClass_54 rfl (lv_at hl 2 rfl) ?_
        refine lv_iload_n hx hb d_R_tellClass_55 rfl (lv_at hl 3 rfl) ?_
        have hq_4 : vp_in (b0 + (1 : Int32)) 13 := by first | with_reducible assumption | exact vT_inc hT (by with_reducible assumption)
        have hFc := va_free (wc := (wR ka qa b0 b1 a0 a1 a2 a3 a4 a5 a6 a7 a8 a9 a10 a11 a12)) hD hS hA [0, 1, 2, 3, 4, 5, 6, 7, 8, 9, 10, 11, 12, 13] rfl
        refine va_calli (va_runV (As := [.int p2, .int p3]) (rest := []) ⟨hx, hb, hml, hown, hts⟩ (c_R_tell l dC dI ka qa H.size b0 b1 a0 a1 a2 a3 a4 a5 a6 a7 a8 a9 a10 a11 a12 p2 p3 hq_4) (cwV 2 hts k_g71 rfl rfl rfl (by decide +kernel) ⟨Nat.le_of_ble_eq_true rfl, Nat.le_of_ble_eq_true rfl⟩) ⟨fb_mu, va_recv hK hP (ci := 3) (q0 := 0) rfl rfl, fun U hU hW => ⟨rfl, by rw [hU], by rw [hU]; exact hP, va_K.moved hW.alike hK, NX.warm hW hN, hD.weaken (fun _ _ _ _ => trivial)⟩⟩ rfl rfl hl.1 rfl (lv_room (Nat.le_of_ble_eq_true rfl)) d_R_tellClass_56 ⟨Nat.zero_le _, Nat.zero_le _⟩) hS (fun q _ h => hFc q h) hFc (fun r u t H1 locs ht hvm hpo hB hz1 hk1 hS => ?_)
        obtain ⟨rfl, rfl⟩ := hpo
        have hP : va_P (dC, dI) classes (wR ka qa (s_R_tell_b0 b0 a1 a3 a5 p2 p3) b1 a0 (s_R_tell_a1 b0 a1 a3 a5 p2 p3) a2 (s_R_tell_a3 b0 a1 a3 a5 p2 p3) a4 (s_R_tell_a5 b0 a1 a3 a5 p2 p3) a6 a7 a8 a9 a10 a11 a12) H1 := hp_to ht hB
        have hD : va_D A (wR ka qa (s_R_tell_b0 b0 a1 a3 a5 p2 p3) b1 a0 (s_R_tell_a1 b0 a1 a3 a5 p2 p3) a2 (s_R_tell_a3 b0 a1 a3 a5 p2 p3) a4 (s_R_tell_a5 b0 a1 a3 a5 p2 p3) a6 a7 a8 a9 a10 a11 a12) := ad_R hD
        generalize hg_5 : (s_R_tell_b0 b0 a1 a3 a5 p2 p3) = g_5 at hP hD
        generalize hg_6 : (s_R_tell_a1 b0 a1 a3 a5 p2 p3) = g_6 at hP hD
        generalize hg_7 : (s_R_tell_a3 b0 a1 a3 a5 p2 p3) = g_7 at hP hD
        generalize hg_8 : (s_R_tell_a5 b0 a1 a3 a5 p2 p3) = g_8 at hP hD
        generalize H1 = H at hP hS ⊢
        refine lv_istore (lv' := [(5, .int (f_R_tell b0 a1 a3 a5 p2 p3)), (0, .ref (qa 0)), (1, .int p1), (2, .int p2), (3, .int p3), (4, .int p4)]) hx hb d_R_tellClass_59 hl (by decide) rfl (fun ls hl => ?_)
        refine lv_aload_n hx hb d_R_tellClass_61 rfl (lv_at hl 1 rfl) ?_
        refine va_get (D := (dC, dI)) (ci := 3) (v := .ref (qa 5)) (C := R_R) (T := F_R) (N := 15) hx hb hts i_R hown hK hP 0 rfl rfl 5 (by decide) (hts _ k_50) (fun _ h9 => h9) rfl d_R_tellClass_62 ?_
        refine lv_iload hx hb d_R_tellClass_65 (lv_at hl 0 rfl) ?_
        refine lv_iload_n hx hb d_R_tellClass_67 rfl (lv_at hl 2 rfl) ?_
        have hi_9 : vp_in (f_R_tell b0 a1 a3 a5 p2 p3) 13 := by exact in_tell (by with_reducible assumption)
        refine va_iast (D := (dC, dI)) (f := a4) hx hb hK hP hD hS 5 4 rfl rfl hi_9 d_R_tellClass_68 (fun H locs hP hD hS => ?_)
        have hP : va_P (dC, dI) classes (wR ka qa g_5 b1 a0 g_6 a2 g_7 (upd a4 (f_R_tell b0 a1 a3 a5 p2 p3).toNatClampNeg p1) g_8 a6 a7 a8 a9 a10 a11 a12) H := hP
        have hD : va_D A (wR ka qa g_5 b1 a0 g_6 a2 g_7 (upd a4 (f_R_tell b0 a1 a3 a5 p2 p3).toNatClampNeg p1) g_8 a6 a7 a8 a9 a10 a11 a12) := hD
        refine lv_aload_n hx hb d_R_tellClass_69 rfl (lv_at hl 1 rfl) ?_
        refine va_get (D := (dC, dI)) (ci := 3) (v := .ref (qa 3)) (C := R_R) (T := F_R) (N := 15) hx hb hts i_R hown hK hP 0 rfl rfl 3 (by decide) (hts _ k_51) (fun _ h9 => h9) rfl d_R_tellClass_70 ?_
        refine lv_iload hx hb d_R_tellClass_73 (lv_at hl 0 rfl) ?_
        refine lv_iload hx hb d_R_tellClass_75 (lv_at hl 5 rfl) ?_
        have hi_10 : vp_in (f_R_tell b0 a1 a3 a5 p2 p3) 13 := by exact in_tell (by with_reducible assumption)
        refine va_zast (D := (dC, dI)) (f := a2) hx hb hK hP hD hS 3 2 rfl rfl hi_10 d_R_tellClass_77 (fun H locs hP hD hS => ?_)
        have hP : va_P (dC, dI) classes (wR ka qa g_5 b1 a0 g_6 (upd a2 (f_R_tell b0 a1 a3 a5 p2 p3).toNatClampNeg (vp_nar .boolean p4)) g_7 (upd a4 (f_R_tell b0 a1 a3 a5 p2 p3).toNatClampNeg p1) g_8 a6 a7 a8 a9 a10 a11 a12) H := hP
        have hD : va_D A (wR ka qa g_5 b1 a0 g_6 (upd a2 (f_R_tell b0 a1 a3 a5 p2 p3).toNatClampNeg (vp_nar .boolean p4)) g_7 (upd a4 (f_R_tell b0 a1 a3 a5 p2 p3).toNatClampNeg p1) g_8 a6 a7 a8 a9 a10 a11 a12) := hD
        refine lv_iload hx hb d_R_tellClass_78 (lv_at hl 0 rfl) ?_
        have hP9 : va_P (dC, dI) classes (wR ka qa g_5 b1 a0 g_6 (upd a2 (f_R_tell b0 a1 a3 a5 p2 p3).toNatClampNeg (vp_nar .boolean p4)) g_7 (upd a4 (f_R_tell b0 a1 a3 a5 p2 p3).toNatClampNeg p1) g_8 a6 a7 a8 a9 a10 a11 a12) H := hP
        exact W.iret (v := (f_R_tell b0 a1 a3 a5 p2 p3)) hx hb hr (fun t ht hW => ⟨⟨(f_R_tell b0 a1 a3 a5 p2 p3), (g_5, g_6, (upd a2 (f_R_tell b0 a1 a3 a5 p2 p3).toNatClampNeg (vp_nar .boolean p4)), g_7, (upd a4 (f_R_tell b0 a1 a3 a5 p2 p3).toNatClampNeg p1), g_8), rfl, ⟨by subst hg_5; subst hg_6; subst hg_7; subst hg_8; unfold f_R_tellClass; rw [if_neg c_1, if_pos c_2, if_neg c_3], (pr2 (by subst hg_5; subst hg_6; subst hg_7; subst hg_8; unfold s_R_tellClass_b0; rw [if_neg c_1, if_pos c_2, if_neg c_3]) (pr2 (by subst hg_5; subst hg_6; subst hg_7; subst hg_8; unfold s_R_tellClass_a1; rw [if_neg c_1, if_pos c_2, if_neg c_3]) (pr2 (by subst hg_5; subst hg_6; subst hg_7; subst hg_8; unfold s_R_tellClass_a2; rw [if_neg c_1, if_pos c_2, if_neg c_3]) (pr2 (by subst hg_5; subst hg_6; subst hg_7; subst hg_8; unfold s_R_tellClass_a3; rw [if_neg c_1, if_pos c_2, if_neg c_3]) (pr2 (by subst hg_5; subst hg_6; subst hg_7; subst hg_8; unfold s_R_tellClass_a4; rw [if_neg c_1, if_pos c_2, if_neg c_3]) (by subst hg_5; subst hg_6; subst hg_7; subst hg_8; unfold s_R_tellClass_a5; rw [if_neg c_1, if_pos c_2, if_neg c_3]))))))⟩, hp_at ht hP9⟩, hS.F ht⟩) hS.2.2 d_R_tellClass_80
      · have c_3 : b0 = (12 : Int32) := c_3
        refine lv_bipush (v := (-2 : Int32)) hx hb d_R_tellClass_50 (by decide +kernel) ?_
        have hP9 : va_P (dC, dI) classes (wR ka qa b0 b1 a0 a1 a2 a3 a4 a5 a6 a7 a8 a9 a10 a11 a12) H := hP
        exact W.iret (v := (-2 : Int32)) hx hb hr (fun t ht hW => ⟨⟨(-2 : Int32), (b0, a1, a2, a3, a4, a5), rfl, ⟨by unfold f_R_tellClass; rw [if_neg c_1, if_pos c_2, if_pos c_3], (pr2 (by unfold s_R_tellClass_b0; rw [if_neg c_1, if_pos c_2, if_pos c_3]) (pr2 (by unfold s_R_tellClass_a1; rw [if_neg c_1, if_pos c_2, if_pos c_3]) (pr2 (by unfold s_R_tellClass_a2; rw [if_neg c_1, if_pos c_2, if_pos c_3]) (pr2 (by unfold s_R_tellClass_a3; rw [if_neg c_1, if_pos c_2, if_pos c_3]) (pr2 (by unfold s_R_tellClass_a4; rw [if_neg c_1, if_pos c_2, if_pos c_3]) (by unfold s_R_tellClass_a5; rw [if_neg c_1, if_pos c_2, if_pos c_3]))))))⟩, hp_at ht hP9⟩, hS.F ht⟩) hS.2.2 d_R_tellClass_52
    · have c_2 : ¬ (p1 = (0 : Int32)) := c_2
      refine lv_aload_n hx hb d_R_tellClass_13 rfl (lv_at hl 0 rfl) ?_
      refine lv_iload_n hx hb d_R_tellClass_14 rfl (lv_at hl 1 rfl) ?_
      refine va_calli (va_runV (As := [.int p1]) (rest := []) ⟨hx, hb, hml, hown, hts⟩ (c_R_there l dC dI ka qa H.size b0 b1 a0 a1 a2 a3 a4 a5 a6 a7 a8 a9 a10 a11 a12 p1) (cwV 1 hts k_g72 rfl rfl rfl (by decide +kernel) ⟨Nat.le_of_ble_eq_true rfl, Nat.le_of_ble_eq_true rfl⟩) ⟨fb_ro, va_recv hK hP (ci := 3) (q0 := 0) rfl rfl, fun U hU hW => ⟨rfl, by rw [hU], by rw [hU]; exact hP, va_K.moved hW.alike (hK), NX.warm hW hN⟩⟩ rfl rfl hl.1 rfl (lv_room (Nat.le_of_ble_eq_true rfl)) d_R_tellClass_15 ⟨Nat.zero_le _, Nat.zero_le _⟩) hS (fun z h1 h2 => absurd h1 (Nat.not_lt.mpr h2)) (fun z h => hA z (Nat.le_trans hS.1 h)) (fun r u t H1 locs ht hvm hpo hB hz1 hk1 hS => ?_)
      subst hpo
      have hP := kp_P hP hk1
      generalize H1 = H at hP hS ⊢
      refine lv_if_eq (tgt := 39) hx hb d_R_tellClass_18 (by decide) (fun c_11 => ?_) (fun c_11 => ?_)
      · have c_11 : (f_R_there b0 p1) = (0 : Int32) := c_11
        refine lv_iconst (v := (-1 : Int32)) hx hb d_R_tellClass_39 (by decide +kernel) ?_
        have hP9 : va_P (dC, dI) classes (wR ka qa b0 b1 a0 a1 a2 a3 a4 a5 a6 a7 a8 a9 a10 a11 a12) H := hP
        exact W.iret (v := (-1 : Int32)) hx hb hr (fun t ht hW => ⟨⟨(-1 : Int32), (b0, a1, a2, a3, a4, a5), rfl, ⟨by unfold f_R_tellClass; rw [if_neg c_1, if_neg c_2, if_pos c_11], (pr2 (by unfold s_R_tellClass_b0; rw [if_neg c_1, if_neg c_2, if_pos c_11]) (pr2 (by unfold s_R_tellClass_a1; rw [if_neg c_1, if_neg c_2, if_pos c_11]) (pr2 (by unfold s_R_tellClass_a2; rw [if_neg c_1, if_neg c_2, if_pos c_11]) (pr2 (by unfold s_R_tellClass_a3; rw [if_neg c_1, if_neg c_2, if_pos c_11]) (pr2 (by unfold s_R_tellClass_a4; rw [if_neg c_1, if_neg c_2, if_pos c_11]) (by unfold s_R_tellClass_a5; rw [if_neg c_1, if_neg c_2, if_pos c_11]))))))⟩, hp_at ht hP9⟩, hS.F ht⟩) hS.2.2 d_R_tellClass_40
      · have c_11 : ¬ ((f_R_there b0 p1) = (0 : Int32)) := c_11
        refine lv_aload_n hx hb d_R_tellClass_21 rfl (lv_at hl 0 rfl) ?_
        refine va_get (D := (dC, dI)) (ci := 3) (v := .ref (qa 1)) (C := R_R) (T := F_R) (N := 15) hx hb hts i_R hown hK hP 0 rfl rfl 1 (by decide) (hts _ k_52) (fun _ h9 => h9) rfl d_R_tellClass_22 ?_
        refine lv_iload_n hx hb d_R_tellClass_25 rfl (lv_at hl 1 rfl) ?_
        have hi_12 : vp_in p1 13 := by first | with_reducible assumption | exact rin_has hT (by with_reducible assumption)
        refine va_zald (D := (dC, dI)) (f := a0) hx hb hK hP 1 0 rfl rfl hi_12 d_R_tellClass_26 ?_
        refine lv_if_ne (tgt := 39) hx hb d_R_tellClass_27 (by decide) (fun c_13 => ?_) (fun c_13 => ?_)
        · have c_13 : ¬ ((a0 p1.toNatClampNeg) = (0 : Int32)) := c_13
          refine lv_iconst (v := (-1 : Int32)) hx hb d_R_tellClass_39 (by decide +kernel) ?_
          have hP9 : va_P (dC, dI) classes (wR ka qa b0 b1 a0 a1 a2 a3 a4 a5 a6 a7 a8 a9 a10 a11 a12) H := hP
          exact W.iret (v := (-1 : Int32)) hx hb hr (fun t ht hW => ⟨⟨(-1 : Int32), (b0, a1, a2, a3, a4, a5), rfl, ⟨by unfold f_R_tellClass; rw [if_neg c_1, if_neg c_2, if_neg c_11, if_neg c_13], (pr2 (by unfold s_R_tellClass_b0; rw [if_neg c_1, if_neg c_2, if_neg c_11, if_neg c_13]) (pr2 (by unfold s_R_tellClass_a1; rw [if_neg c_1, if_neg c_2, if_neg c_11, if_neg c_13]) (pr2 (by unfold s_R_tellClass_a2; rw [if_neg c_1, if_neg c_2, if_neg c_11, if_neg c_13]) (pr2 (by unfold s_R_tellClass_a3; rw [if_neg c_1, if_neg c_2, if_neg c_11, if_neg c_13]) (pr2 (by unfold s_R_tellClass_a4; rw [if_neg c_1, if_neg c_2, if_neg c_11, if_neg c_13]) (by unfold s_R_tellClass_a5; rw [if_neg c_1, if_neg c_2, if_neg c_11, if_neg c_13]))))))⟩, hp_at ht hP9⟩, hS.F ht⟩) hS.2.2 d_R_tellClass_40
        · have c_13 : (a0 p1.toNatClampNeg) = (0 : Int32) := c_13
          refine lv_aload_n hx hb d_R_tellClass_30 rfl (lv_at hl 0 rfl) ?_
          refine va_get (D := (dC, dI)) (ci := 3) (v := .ref (qa 3)) (C := R_R) (T := F_R) (N := 15) hx hb hts i_R hown hK hP 0 rfl rfl 3 (by decide) (hts _ k_51) (fun _ h9 => h9) rfl d_R_tellClass_31 ?_
          refine lv_iload_n hx hb d_R_tellClass_34 rfl (lv_at hl 1 rfl) ?_
          have hi_14 : vp_in p1 13 := by first | with_reducible assumption | exact rin_has hT (by with_reducible assumption)
          refine va_zald (D := (dC, dI)) (f := a2) hx hb hK hP 3 2 rfl rfl hi_14 d_R_tellClass_35 ?_
          refine lv_if_eq (tgt := 41) hx hb d_R_tellClass_36 (by decide) (fun c_15 => ?_) (fun c_15 => ?_)
          · have c_15 : (a2 p1.toNatClampNeg) = (0 : Int32) := c_15
            refine lv_aload_n hx hb d_R_tellClass_41 rfl (lv_at hl 0 rfl) ?_
            refine va_get (D := (dC, dI)) (ci := 3) (v := .int b0) (C := R_R) (T := F_R) (N := 15) hx hb hts i_R hown hK hP 0 rfl rfl 0 (by decide) (hts _ k_44) (fun _ h9 => h9) rfl d_R_tellClass_42 ?_
            refine lv_bipush (v := (12 : Int32)) hx hb d_R_tellClass_45 (by decide +kernel) ?_
            refine lv_icmp_ne (tgt := 53) hx hb d_R_tellClass_47 (by decide) (fun c_16 => ?_) (fun c_16 => ?_)
            · have c_16 : ¬ (b0 = (12 : Int32)) := c_16
              refine lv_aload_n hx hb d_R_tellClass_53 rfl (lv_at hl 0 rfl) ?_
              refine lv_iload_n hx hb d_R_tellClass_54 rfl (lv_at hl 2 rfl) ?_
              refine lv_iload_n hx hb d_R_tellClass_55 rfl (lv_at hl 3 rfl) ?_
              have hq_17 : vp_in (b0 + (1 : Int32)) 13 := by first | with_reducible assumption | exact vT_inc hT (by with_reducible assumption)
              have hFc := va_free (wc := (wR ka qa b0 b1 a0 a1 a2 a3 a4 a5 a6 a7 a8 a9 a10 a11 a12)) hD hS hA [0, 1, 2, 3, 4, 5, 6, 7, 8, 9, 10, 11, 12, 13] rfl
              refine va_calli (va_runV (As := [.int p2, .int p3]) (rest := []) ⟨hx, hb, hml, hown, hts⟩ (c_R_tell l dC dI ka qa H.size b0 b1 a0 a1 a2 a3 a4 a5 a6 a7 a8 a9 a10 a11 a12 p2 p3 hq_17) (cwV 2 hts k_g71 rfl rfl rfl (by decide +kernel) ⟨Nat.le_of_ble_eq_true rfl, Nat.le_of_ble_eq_true rfl⟩) ⟨fb_mu, va_recv hK hP (ci := 3) (q0 := 0) rfl rfl, fun U hU hW => ⟨rfl, by rw [hU], by rw [hU]; exact hP, va_K.moved hW.alike hK, NX.warm hW hN, hD.weaken (fun _ _ _ _ => trivial)⟩⟩ rfl rfl hl.1 rfl (lv_room (Nat.le_of_ble_eq_true rfl)) d_R_tellClass_56 ⟨Nat.zero_le _, Nat.zero_le _⟩) hS (fun q _ h => hFc q h) hFc (fun r u t H1 locs ht hvm hpo hB hz1 hk1 hS => ?_)
              obtain ⟨rfl, rfl⟩ := hpo
              have hP : va_P (dC, dI) classes (wR ka qa (s_R_tell_b0 b0 a1 a3 a5 p2 p3) b1 a0 (s_R_tell_a1 b0 a1 a3 a5 p2 p3) a2 (s_R_tell_a3 b0 a1 a3 a5 p2 p3) a4 (s_R_tell_a5 b0 a1 a3 a5 p2 p3) a6 a7 a8 a9 a10 a11 a12) H1 := hp_to ht hB
              have hD : va_D A (wR ka qa (s_R_tell_b0 b0 a1 a3 a5 p2 p3) b1 a0 (s_R_tell_a1 b0 a1 a3 a5 p2 p3) a2 (s_R_tell_a3 b0 a1 a3 a5 p2 p3) a4 (s_R_tell_a5 b0 a1 a3 a5 p2 p3) a6 a7 a8 a9 a10 a11 a12) := ad_R hD
              generalize hg_18 : (s_R_tell_b0 b0 a1 a3 a5 p2 p3) = g_18 at hP hD
              generalize hg_19 : (s_R_tell_a1 b0 a1 a3 a5 p2 p3) = g_19 at hP hD
              generalize hg_20 : (s_R_tell_a3 b0 a1 a3 a5 p2 p3) = g_20 at hP hD
              generalize hg_21 : (s_R_tell_a5 b0 a1 a3 a5 p2 p3) = g_21 at hP hD
              generalize H1 = H at hP hS ⊢
              refine lv_istore (lv' := [(5, .int (f_R_tell b0 a1 a3 a5 p2 p3)), (0, .ref (qa 0)), (1, .int p1), (2, .int p2), (3, .int p3), (4, .int p4)]) hx hb d_R_tellClass_59 hl (by decide) rfl (fun ls hl => ?_)
              refine lv_aload_n hx hb d_R_tellClass_61 rfl (lv_at hl 1 rfl) ?_
              refine va_get (D := (dC, dI)) (ci := 3) (v := .ref (qa 5)) (C := R_R) (T := F_R) (N := 15) hx hb hts i_R hown hK hP 0 rfl rfl 5 (by decide) (hts _ k_50) (fun _ h9 => h9) rfl d_R_tellClass_62 ?_
              refine lv_iload hx hb d_R_tellClass_65 (lv_at hl 0 rfl) ?_
              refine lv_iload_n hx hb d_R_tellClass_67 rfl (lv_at hl 2 rfl) ?_
              have hi_22 : vp_in (f_R_tell b0 a1 a3 a5 p2 p3) 13 := by exact in_tell (by with_reducible assumption)
              refine va_iast (D := (dC, dI)) (f := a4) hx hb hK hP hD hS 5 4 rfl rfl hi_22 d_R_tellClass_68 (fun H locs hP hD hS => ?_)
              have hP : va_P (dC, dI) classes (wR ka qa g_18 b1 a0 g_19 a2 g_20 (upd a4 (f_R_tell b0 a1 a3 a5 p2 p3).toNatClampNeg p1) g_21 a6 a7 a8 a9 a10 a11 a12) H := hP
              have hD : va_D A (wR ka qa g_18 b1 a0 g_19 a2 g_20 (upd a4 (f_R_tell b0 a1 a3 a5 p2 p3).toNatClampNeg p1) g_21 a6 a7 a8 a9 a10 a11 a12) := hD
              refine lv_aload_n hx hb d_R_tellClass_69 rfl (lv_at hl 1 rfl) ?_
              refine va_get (D := (dC, dI)) (ci := 3) (v := .ref (qa 3)) (C := R_R) (T := F_R) (N := 15) hx hb hts i_R hown hK hP 0 rfl rfl 3 (by decide) (hts _ k_51) (fun _ h9 => h9) rfl d_R_tellClass_70 ?_
              refine lv_iload hx hb d_R_tellClass_73 (lv_at hl 0 rfl) ?_
              refine lv_iload hx hb d_R_tellClass_75 (lv_at hl 5 rfl) ?_
              have hi_23 : vp_in (f_R_tell b0 a1 a3 a5 p2 p3) 13 := by exact in_tell (by with_reducible assumption)
              refine va_zast (D := (dC, dI)) (f := a2) hx hb hK hP hD hS 3 2 rfl rfl hi_23 d_R_tellClass_77 (fun H locs hP hD hS => ?_)
              have hP : va_P (dC, dI) classes (wR ka qa g_18 b1 a0 g_19 (upd a2 (f_R_tell b0 a1 a3 a5 p2 p3).toNatClampNeg (vp_nar .boolean p4)) g_20 (upd a4 (f_R_tell b0 a1 a3 a5 p2 p3).toNatClampNeg p1) g_21 a6 a7 a8 a9 a10 a11 a12) H := hP
              have hD : va_D A (wR ka qa g_18 b1 a0 g_19 (upd a2 (f_R_tell b0 a1 a3 a5 p2 p3).toNatClampNeg (vp_nar .boolean p4)) g_20 (upd a4 (f_R_tell b0 a1 a3 a5 p2 p3).toNatClampNeg p1) g_21 a6 a7 a8 a9 a10 a11 a12) := hD
              refine lv_iload hx hb d_R_tellClass_78 (lv_at hl 0 rfl) ?_
              have hP9 : va_P (dC, dI) classes (wR ka qa g_18 b1 a0 g_19 (upd a2 (f_R_tell b0 a1 a3 a5 p2 p3).toNatClampNeg (vp_nar .boolean p4)) g_20 (upd a4 (f_R_tell b0 a1 a3 a5 p2 p3).toNatClampNeg p1) g_21 a6 a7 a8 a9 a10 a11 a12) H := hP
              exact W.iret (v := (f_R_tell b0 a1 a3 a5 p2 p3)) hx hb hr (fun t ht hW => ⟨⟨(f_R_tell b0 a1 a3 a5 p2 p3), (g_18, g_19, (upd a2 (f_R_tell b0 a1 a3 a5 p2 p3).toNatClampNeg (vp_nar .boolean p4)), g_20, (upd a4 (f_R_tell b0 a1 a3 a5 p2 p3).toNatClampNeg p1), g_21), rfl, ⟨by subst hg_18; subst hg_19; subst hg_20; subst hg_21; unfold f_R_tellClass; rw [if_neg c_1, if_neg c_2, if_neg c_11, if_pos c_13, if_pos c_15, if_neg c_16], (pr2 (by subst hg_18; subst hg_19; subst hg_20; subst hg_21; unfold s_R_tellClass_b0; rw [if_neg c_1, if_neg c_2, if_neg c_11, if_pos c_13, if_pos c_15, if_neg c_16]) (pr2 (by subst hg_18; subst hg_19; subst hg_20; subst hg_21; unfold s_R_tellClass_a1; rw [if_neg c_1, if_neg c_2, if_neg c_11, if_pos c_13, if_pos c_15, if_neg c_16]) (pr2 (by subst hg_18; subst hg_19; subst hg_20; subst hg_21; unfold s_R_tellClass_a2; rw [if_neg c_1, if_neg c_2, if_neg c_11, if_pos c_13, if_pos c_15, if_neg c_16]) (pr2 (by subst hg_18; subst hg_19; subst hg_20; subst hg_21; unfold s_R_tellClass_a3; rw [if_neg c_1, if_neg c_2, if_neg c_11, if_pos c_13, if_pos c_15, if_neg c_16]) (pr2 (by subst hg_18; subst hg_19; subst hg_20; subst hg_21; unfold s_R_tellClass_a4; rw [if_neg c_1, if_neg c_2, if_neg c_11, if_pos c_13, if_pos c_15, if_neg c_16]) (by subst hg_18; subst hg_19; subst hg_20; subst hg_21; unfold s_R_tellClass_a5; rw [if_neg c_1, if_neg c_2, if_neg c_11, if_pos c_13, if_pos c_15, if_neg c_16]))))))⟩, hp_at ht hP9⟩, hS.F ht⟩) hS.2.2 d_R_tellClass_80
            · have c_16 : b0 = (12 : Int32) := c_16
              refine lv_bipush (v := (-2 : Int32)) hx hb d_R_tellClass_50 (by decide +kernel) ?_
              have hP9 : va_P (dC, dI) classes (wR ka qa b0 b1 a0 a1 a2 a3 a4 a5 a6 a7 a8 a9 a10 a11 a12) H := hP
              exact W.iret (v := (-2 : Int32)) hx hb hr (fun t ht hW => ⟨⟨(-2 : Int32), (b0, a1, a2, a3, a4, a5), rfl, ⟨by unfold f_R_tellClass; rw [if_neg c_1, if_neg c_2, if_neg c_11, if_pos c_13, if_pos c_15, if_pos c_16], (pr2 (by unfold s_R_tellClass_b0; rw [if_neg c_1, if_neg c_2, if_neg c_11, if_pos c_13, if_pos c_15, if_pos c_16]) (pr2 (by unfold s_R_tellClass_a1; rw [if_neg c_1, if_neg c_2, if_neg c_11, if_pos c_13, if_pos c_15, if_pos c_16]) (pr2 (by unfold s_R_tellClass_a2; rw [if_neg c_1, if_neg c_2, if_neg c_11, if_pos c_13, if_pos c_15, if_pos c_16]) (pr2 (by unfold s_R_tellClass_a3; rw [if_neg c_1, if_neg c_2, if_neg c_11, if_pos c_13, if_pos c_15, if_pos c_16]) (pr2 (by unfold s_R_tellClass_a4; rw [if_neg c_1, if_neg c_2, if_neg c_11, if_pos c_13, if_pos c_15, if_pos c_16]) (by unfold s_R_tellClass_a5; rw [if_neg c_1, if_neg c_2, if_neg c_11, if_pos c_13, if_pos c_15, if_pos c_16]))))))⟩, hp_at ht hP9⟩, hS.F ht⟩) hS.2.2 d_R_tellClass_52
          · have c_15 : ¬ ((a2 p1.toNatClampNeg) = (0 : Int32)) := c_15
            refine lv_iconst (v := (-1 : Int32)) hx hb d_R_tellClass_39 (by decide +kernel) ?_
            have hP9 : va_P (dC, dI) classes (wR ka qa b0 b1 a0 a1 a2 a3 a4 a5 a6 a7 a8 a9 a10 a11 a12) H := hP
            exact W.iret (v := (-1 : Int32)) hx hb hr (fun t ht hW => ⟨⟨(-1 : Int32), (b0, a1, a2, a3, a4, a5), rfl, ⟨by unfold f_R_tellClass; rw [if_neg c_1, if_neg c_2, if_neg c_11, if_pos c_13, if_neg c_15], (pr2 (by unfold s_R_tellClass_b0; rw [if_neg c_1, if_neg c_2, if_neg c_11, if_pos c_13, if_neg c_15]) (pr2 (by unfold s_R_tellClass_a1; rw [if_neg c_1, if_neg c_2, if_neg c_11, if_pos c_13, if_neg c_15]) (pr2 (by unfold s_R_tellClass_a2; rw [if_neg c_1, if_neg c_2, if_neg c_11, if_pos c_13, if_neg c_15]) (pr2 (by unfold s_R_tellClass_a3; rw [if_neg c_1, if_neg c_2, if_neg c_11, if_pos c_13, if_neg c_15]) (pr2 (by unfold s_R_tellClass_a4; rw [if_neg c_1, if_neg c_2, if_neg c_11, if_pos c_13, if_neg c_15]) (by unfold s_R_tellClass_a5; rw [if_neg c_1, if_neg c_2, if_neg c_11, if_pos c_13, if_neg c_15]))))))⟩, hp_at ht hP9⟩, hS.F ht⟩) hS.2.2 d_R_tellClass_40
