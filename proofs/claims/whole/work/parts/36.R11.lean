set_option maxHeartbeats 1000000 in
set_option maxRecDepth 100000 in
theorem c_R_tellInterface (l : Launch) (dC : Nat → ClassId) (dI : Nat → Nat → Nat) (ka : Nat → ClassId) (qa : Nat → Nat) (sz : Nat) (b0 b1 : Int32) (a0 a1 a2 a3 a4 a5 a6 a7 a8 a9 a10 a11 a12 : Nat → Int32) (p1 p2 : Int32) (hT : vT b0) : Met l y_R_tellInterface w_R_tellInterface ({ frames := 1, cells := 0, slots := 0, locals := 22 } : Room) (mu_P dC dI (wR ka qa b0 b1 a0 a1 a2 a3 a4 a5 a6 a7 a8 a9 a10 a11 a12) (tR ka) sz [.ref (qa 0), .int p1, .int p2]) (mu_Q (fun (S9 : Int32 × (Nat → Int32) × (Nat → Int32) × (Nat → Int32) × (Nat → Int32)) => (wR ka qa S9.1 b1 S9.2.1 S9.2.2.1 a2 S9.2.2.2.1 a4 S9.2.2.2.2 a6 a7 a8 a9 a10 a11 a12)) dC dI (f_R_tellInterface b0 a0 a1 a3 a5 p1 p2) ((s_R_tellInterface_b0 b0 a0 a1 a3 a5 p1 p2), (s_R_tellInterface_a0 b0 a0 a1 a3 a5 p1 p2), (s_R_tellInterface_a1 b0 a0 a1 a3 a5 p1 p2), (s_R_tellInterface_a3 b0 a0 a1 a3 a5 p1 p2), (s_R_tellInterface_a5 b0 a0 a1 a3 a5 p1 p2)) (va_A (wR ka qa b0 b1 a0 a1 a2 a3 a4 a5 a6 a7 a8 a9 a10 a11 a12) sz)) 0 0 (va_A (wR ka qa b0 b1 a0 a1 a2 a3 a4 a5 a6 a7 a8 a9 a10 a11 a12) sz) := by
  refine Met.ofW (cc := b_R_tellInterface) (maxL := 4) (ret := (some .int)) (by decide) rfl ?_
  intro p e s m args below meth c s₁ B hml hv
  obtain ⟨rfl, hsz, hP, hK, hN, hD0⟩ := hv
  have hx := B.exec
  have hb := B.bytes
  have hr := B.returns
  have hts := tl_of (atoms_spec (ws := w_R_tellInterface) B.pre)
  have hown : s.vm.findClass R_R = some m.cls := findClass_of_methodNamed B.named
  have hlocks := B.notSynchronized
  subst hsz
  have hD := hD0.self (sz := s.heap.size)
  generalize hAe : va_A (wR ka qa b0 b1 a0 a1 a2 a3 a4 a5 a6 a7 a8 a9 a10 a11 a12) s.heap.size = A at hD ⊢
  have hA : ∀ q : Nat, s.heap.size ≤ q → A q := fun q h => by rw [← hAe]; exact Or.inr h
  have hS : va_S A s.heap s.heap [] := va_S.rf
  have hl := lv_entry ([.ref (qa 0), .int p1, .int p2]) (n := 4) (Nat.le_of_ble_eq_true rfl)
  rw [lg_entry_eq]
  generalize (lg_sl ([.ref (qa 0), .int p1, .int p2]) ++ List.replicate (4 - (lg_sl ([.ref (qa 0), .int p1, .int p2])).length) Slot.unset).toArray = ls at hl ⊢
  have hl : lv_has ls 4 [(0, .ref (qa 0)), (1, .int p1), (2, .int p2)] := hl
  refine lv_iload_n hx hb d_R_tellInterface_0 rfl (lv_at hl 1 rfl) ?_
  refine lv_iconst (v := (0 : Int32)) hx hb d_R_tellInterface_1 (by decide +kernel) ?_
  refine lv_iconst (v := (2 : Int32)) hx hb d_R_tellInterface_2 (by decide +kernel) ?_
  refine va_calli (va_runS (As := [.int p1, .int (0 : Int32), .int (2 : Int32)]) (rest := []) ⟨hx, hb, hml, hown, hts⟩ (c_R_in l dC dI  s.heap.size  p1 (0 : Int32) (2 : Int32)) (cwS 3 hts k_g69 rfl rfl rfl (by decide +kernel) ⟨Nat.le_of_ble_eq_true rfl, Nat.le_of_ble_eq_true rfl⟩) ⟨fb_ro, fun U hU hW => ⟨rfl, by rw [hU], by rw [hU]; exact hP.sub (ws' := ([] : va_W)) [] rfl, va_K.moved hW.alike (hK.sub (tys' := []) [] rfl), NX.warm hW hN⟩⟩ rfl rfl hl.1 rfl (lv_room (Nat.le_of_ble_eq_true rfl)) d_R_tellInterface_3 ⟨Nat.zero_le _, Nat.zero_le _⟩) hS (fun z h1 h2 => absurd h1 (Nat.not_lt.mpr h2)) (fun z h => hA z (Nat.le_trans hS.1 h)) (fun r u t H1 locs ht hvm hpo hB hz1 hk1 hS => ?_)
  subst hpo
  have hP := kp_P hP hk1
  generalize H1 = H at hP hS ⊢
  refine lv_if_ne (tgt := 11) hx hb d_R_tellInterface_6 (by decide) (fun c_1 => ?_) (fun c_1 => ?_)
  · have c_1 : ¬ ((f_R_in p1 (0 : Int32) (2 : Int32)) = (0 : Int32)) := c_1
    refine lv_aload_n hx hb d_R_tellInterface_11 rfl (lv_at hl 0 rfl) ?_
    refine va_get (D := (dC, dI)) (ci := 3) (v := .int b0) (C := R_R) (T := F_R) (N := 15) hx hb hts i_R hown hK hP 0 rfl rfl 0 (by decide) (hts _ k_44) (fun _ h9 => h9) rfl d_R_tellInterface_12 ?_
    refine lv_bipush (v := (12 : Int32)) hx hb d_R_tellInterface_15 (by decide +kernel) ?_
    refine lv_icmp_ne (tgt := 23) hx hb d_R_tellInterface_17 (by decide) (fun c_2 => ?_) (fun c_2 => ?_)
    · have c_2 : ¬ (b0 = (12 : Int32)) := c_2
      refine lv_aload_n hx hb d_R_tellInterface_23 rfl (lv_at hl 0 rfl) ?_
      refine lv_iload_n hx hb d_R_tellInterface_24 rfl (lv_at hl 1 rfl) ?_
      refine lv_iload_n hx hb d_R_tellInterface_25 rfl (lv_at hl 2 rfl) ?_
      have hq_3 : vp_in (b0 + (1 : Int32)) 13 := by first | with_reducible assumption | exact vT_inc hT (by with_reducible assumption)
      have hFc := va_free (wc := (wR ka qa b0 b1 a0 a1 a2 a3 a4 a5 a6 a7 a8 a9 a10 a11 a12)) hD hS hA [0, 1, 2, 3, 4, 5, 6, 7, 8, 9, 10, 11, 12, 13] rfl
      refine va_calli (va_runV (As := [.int p1, .int p2]) (rest := []) ⟨hx, hb, hml, hown, hts⟩ (c_R_tell l dC dI ka qa H.size b0 b1 a0 a1 a2 a3 a4 a5 a6 a7 a8 a9 a10 a11 a12 p1 p2 hq_3) (cwV 2 hts k_g71 rfl rfl rfl (by decide +kernel) ⟨Nat.le_of_ble_eq_true rfl, Nat.le_of_ble_eq_true rfl⟩) ⟨fb_mu, va_recv hK hP (ci := 3) (q0 := 0) rfl rfl, fun U hU hW => ⟨rfl, by rw [hU], by rw [hU]; exact hP, va_K.moved hW.alike hK, NX.warm hW hN, hD.weaken (fun _ _ _ _ => trivial)⟩⟩ rfl rfl hl.1 rfl (lv_room (Nat.le_of_ble_eq_true rfl)) d_R_tellInterface_26 ⟨Nat.zero_le _, Nat.zero_le _⟩) hS (fun q _ h => hFc q h) hFc (fun r u t H1 locs ht hvm hpo hB hz1 hk1 hS => ?_)
      obtain ⟨rfl, rfl⟩ := hpo
      have hP : va_P (dC, dI) classes (wR ka qa (s_R_tell_b0 b0 a1 a3 a5 p1 p2) b1 a0 (s_R_tell_a1 b0 a1 a3 a5 p1 p2) a2 (s_R_tell_a3 b0 a1 a3 a5 p1 p2) a4 (s_R_tell_a5 b0 a1 a3 a5 p1 p2) a6 a7 a8 a9 a10 a11 a12) H1 := hp_to ht hB
      have hD : va_D A (wR ka qa (s_R_tell_b0 b0 a1 a3 a5 p1 p2) b1 a0 (s_R_tell_a1 b0 a1 a3 a5 p1 p2) a2 (s_R_tell_a3 b0 a1 a3 a5 p1 p2) a4 (s_R_tell_a5 b0 a1 a3 a5 p1 p2) a6 a7 a8 a9 a10 a11 a12) := ad_R hD
      generalize hg_4 : (s_R_tell_b0 b0 a1 a3 a5 p1 p2) = g_4 at hP hD
      generalize hg_5 : (s_R_tell_a1 b0 a1 a3 a5 p1 p2) = g_5 at hP hD
      generalize hg_6 : (s_R_tell_a3 b0 a1 a3 a5 p1 p2) = g_6 at hP hD
      generalize hg_7 : (s_R_tell_a5 b0 a1 a3 a5 p1 p2) = g_7 at hP hD
      generalize H1 = H at hP hS ⊢
      refine lv_istore_n (lv' := [(3, .int (f_R_tell b0 a1 a3 a5 p1 p2)), (0, .ref (qa 0)), (1, .int p1), (2, .int p2)]) hx hb d_R_tellInterface_29 rfl hl (by decide) rfl (fun ls hl => ?_)
      refine lv_aload_n hx hb d_R_tellInterface_30 rfl (lv_at hl 1 rfl) ?_
      refine va_get (D := (dC, dI)) (ci := 3) (v := .ref (qa 1)) (C := R_R) (T := F_R) (N := 15) hx hb hts i_R hown hK hP 0 rfl rfl 1 (by decide) (hts _ k_52) (fun _ h9 => h9) rfl d_R_tellInterface_31 ?_
      refine lv_iload_n hx hb d_R_tellInterface_34 rfl (lv_at hl 0 rfl) ?_
      refine lv_iconst (v := (1 : Int32)) hx hb d_R_tellInterface_35 (by decide +kernel) ?_
      have hi_8 : vp_in (f_R_tell b0 a1 a3 a5 p1 p2) 13 := by exact in_tell (by with_reducible assumption)
      refine va_zast (D := (dC, dI)) (f := a0) hx hb hK hP hD hS 1 0 rfl rfl hi_8 d_R_tellInterface_36 (fun H locs hP hD hS => ?_)
      have hP : va_P (dC, dI) classes (wR ka qa g_4 b1 (upd a0 (f_R_tell b0 a1 a3 a5 p1 p2).toNatClampNeg (vp_nar .boolean (1 : Int32))) g_5 a2 g_6 a4 g_7 a6 a7 a8 a9 a10 a11 a12) H := hP
      have hD : va_D A (wR ka qa g_4 b1 (upd a0 (f_R_tell b0 a1 a3 a5 p1 p2).toNatClampNeg (vp_nar .boolean (1 : Int32))) g_5 a2 g_6 a4 g_7 a6 a7 a8 a9 a10 a11 a12) := hD
      refine lv_iload_n hx hb d_R_tellInterface_37 rfl (lv_at hl 0 rfl) ?_
      have hP9 : va_P (dC, dI) classes (wR ka qa g_4 b1 (upd a0 (f_R_tell b0 a1 a3 a5 p1 p2).toNatClampNeg (vp_nar .boolean (1 : Int32))) g_5 a2 g_6 a4 g_7 a6 a7 a8 a9 a10 a11 a12) H := hP
      exact W.iret (v := (f_R_tell b0 a1 a3 a5 p1 p2)) hx hb hr (fun t ht hW => ⟨⟨(f_R_tell b0 a1 a3 a5 p1 p2), (g_4, (upd a0 (f_R_tell b0 a1 a3 a5 p1 p2).toNatClampNeg (vp_nar .boolean (1 : Int32))), g_5, g_6, g_7), rfl, ⟨by subst hg_4; subst hg_5; subst hg_6; subst hg_7; unfold f_R_tellInterface; rw [if_neg c_1, if_neg c_2], (pr2 (by subst hg_4; subst hg_5; subst hg_6; subst hg_7; unfold s_R_tellInterface_b0; rw [if_neg c_1, if_neg c_2]) (pr2 (by subst hg_4; subst hg_5; subst hg_6; subst hg_7; unfold s_R_tellInterface_a0; rw [if_neg c_1, if_neg c_2]) (pr2 (by subst hg_4; subst hg_5; subst hg_6; subst hg_7; unfold s_R_tellInterface_a1; rw [if_neg c_1, if_neg c_2]) (pr2 (by subst hg_4; subst hg_5; subst hg_6; subst hg_7; unfold s_R_tellInterface_a3; rw [if_neg c_1, if_neg c_2]) (by subst hg_4; subst hg_5; subst hg_6; subst hg_7; unfold s_R_tellInterface_a5; rw [if_neg c_1, if_neg c_2])))))⟩, hp_at ht hP9⟩, hS.F ht⟩) hS.2.2 d_R_tellInterface_38
    · have c_2 : b0 = (12 : Int32) := c_2
      refine lv_bipush (v := (-2 : Int32)) hx hb d_R_tellInterface_20 (by decide +kernel) ?_
      have hP9 : va_P (dC, dI) classes (wR ka qa b0 b1 a0 a1 a2 a3 a4 a5 a6 a7 a8 a9 a10 a11 a12) H := hP
      exact W.iret (v := (-2 : Int32)) hx hb hr (fun t ht hW => ⟨⟨(-2 : Int32), (b0, a0, a1, a3, a5), rfl, ⟨by unfold f_R_tellInterface; rw [if_neg c_1, if_pos c_2], (pr2 (by unfold s_R_tellInterface_b0; rw [if_neg c_1, if_pos c_2]) (pr2 (by unfold s_R_tellInterface_a0; rw [if_neg c_1, if_pos c_2]) (pr2 (by unfold s_R_tellInterface_a1; rw [if_neg c_1, if_pos c_2]) (pr2 (by unfold s_R_tellInterface_a3; rw [if_neg c_1, if_pos c_2]) (by unfold s_R_tellInterface_a5; rw [if_neg c_1, if_pos c_2])))))⟩, hp_at ht hP9⟩, hS.F ht⟩) hS.2.2 d_R_tellInterface_22
  · have c_1 : (f_R_in p1 (0 : Int32) (2 : Int32)) = (0 : Int32) := c_1
    refine lv_iconst (v := (-1 : Int32)) hx hb d_R_tellInterface_9 (by decide +kernel) ?_
    have hP9 : va_P (dC, dI) classes (wR ka qa b0 b1 a0 a1 a2 a3 a4 a5 a6 a7 a8 a9 a10 a11 a12) H := hP
    exact W.iret (v := (-1 : Int32)) hx hb hr (fun t ht hW => ⟨⟨(-1 : Int32), (b0, a0, a1, a3, a5), rfl, ⟨by unfold f_R_tellInterface; rw [if_pos c_1], (pr2 (by unfold s_R_tellInterface_b0; rw [if_pos c_1]) (pr2 (by unfold s_R_tellInterface_a0; rw [if_pos c_1]) (pr2 (by unfold s_R_tellInterface_a1; rw [if_pos c_1]) (pr2 (by unfold s_R_tellInterface_a3; rw [if_pos c_1]) (by unfold s_R_tellInterface_a5; rw [if_pos c_1])))))⟩, hp_at ht hP9⟩, hS.F ht⟩) hS.2.2 d_R_tellInterface_10
