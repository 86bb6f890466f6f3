set_option maxHeartbeats 1000000 in
set_option maxRecDepth 100000 in
theorem c_O_untell (l : Launch) (dC : Nat → ClassId) (dI : Nat → Nat → Nat) (h0 : Nat) (kw kf km : Nat → ClassId) (qw qf qm : Nat → Nat) (sz : Nat) (v : ES) (lc : Int32) (p1 p2 p3 : Int32) (hw : WF v.1) : Met l y_O_untell w_O_untell ({ frames := 2, cells := 0, slots := 0, locals := 43 } : Room) (mu_P dC dI (wO h0 kw kf km qw qf qm v lc) (tO kw kf km) sz [.ref h0, .int p1, .int p2, .int p3]) (mu_Q (fun (S9 : ES) => (wO h0 kw kf km qw qf qm S9 lc)) dC dI (f_O_untell v p1 p2 p3) (s_O_untell v p1 p2 p3) (va_A (wO h0 kw kf km qw qf qm v lc) sz)) 0 0 (va_A (wO h0 kw kf km qw qf qm v lc) sz) := by
  refine Met.ofW (cc := b_O_untell) (maxL := 5) (ret := (some .int)) (by decide) rfl ?_
  intro p e s m args below meth c s₁ B hml hv
  obtain ⟨rfl, hsz, hP, hK, hN, hD0⟩ := hv
  have hx := B.exec
  have hb := B.bytes
  have hr := B.returns
  have hts := tl_of (atoms_spec (ws := w_O_untell) B.pre)
  have hown : s.vm.findClass R_O = some m.cls := findClass_of_methodNamed B.named
  have hlocks := B.notSynchronized
  subst hsz
  have hD := hD0.self (sz := s.heap.size)
  generalize hAe : va_A (wO h0 kw kf km qw qf qm v lc) s.heap.size = A at hD ⊢
  have hA : ∀ q : Nat, s.heap.size ≤ q → A q := fun q h => by rw [← hAe]; exact Or.inr h
  have hS : va_S A s.heap s.heap [] := va_S.rf
  have hl := lv_entry ([.ref h0, .int p1, .int p2, .int p3]) (n := 5) (Nat.le_of_ble_eq_true rfl)
  rw [lg_entry_eq]
  generalize (lg_sl ([.ref h0, .int p1, .int p2, .int p3]) ++ List.replicate (5 - (lg_sl ([.ref h0, .int p1, .int p2, .int p3])).length) Slot.unset).toArray = ls at hl ⊢
  have hl : lv_has ls 5 [(0, .ref h0), (1, .int p1), (2, .int p2), (3, .int p3)] := hl
  refine lv_aload_n hx hb d_O_untell_0 rfl (lv_at hl 0 rfl) ?_
  refine va_get (D := (dC, dI)) (ci := 2) (v := .ref (qw 0)) (C := R_O) (T := F_O) (N := 4) hx hb hts i_O hown hK hP 0 rfl rfl 0 (by decide) (hts _ k_22) (fun _ h9 => h9) rfl d_O_untell_1 ?_
  refine lv_iload_n hx hb d_O_untell_4 rfl (lv_at hl 1 rfl) ?_
  refine va_calli (va_runV (As := [.int p1]) (rest := []) ⟨hx, hb, hml, hown, hts⟩ (c_W_has l dC dI kw qw s.heap.size v.1  p1) (cwV 1 hts k_g41 rfl rfl rfl (by decide +kernel) ⟨Nat.le_of_ble_eq_true rfl, Nat.le_of_ble_eq_true rfl⟩) ⟨fb_ro, va_recv hK hP (ci := 0) (q0 := 1) rfl rfl, fun U hU hW => ⟨rfl, by rw [hU], by rw [hU]; exact hP.sub (ws' := (wW kw qw v.1)) [1, 2, 3, 4, 5, 6, 7] rfl, va_K.moved hW.alike (hK.sub (tys' := (tW kw)) [0, 1, 2, 3, 4, 5] rfl), NX.warm hW hN⟩⟩ rfl rfl hl.1 rfl (lv_room (Nat.le_of_ble_eq_true rfl)) d_O_untell_5 ⟨Nat.zero_le _, Nat.zero_le _⟩) hS (fun z h1 h2 => absurd h1 (Nat.not_lt.mpr h2)) (fun z h => hA z (Nat.le_trans hS.1 h)) (fun r u t H1 locs ht hvm hpo hB hz1 hk1 hS => ?_)
  subst hpo
  have hP := kp_P hP hk1
  generalize H1 = H at hP hS ⊢
  refine lv_if_eq (tgt := 18) hx hb d_O_untell_8 (by decide) (fun c_1 => ?_) (fun c_1 => ?_)
  · have c_1 : (f_W_has v.1 p1) = (0 : Int32) := c_1
    refine lv_iconst (v := (-1 : Int32)) hx hb d_O_untell_18 (by decide +kernel) ?_
    have hP9 : va_P (dC, dI) classes (wO h0 kw kf km qw qf qm v lc) H := hP
    exact W.iret (v := (-1 : Int32)) hx hb hr (fun t ht hW => ⟨⟨(-1 : Int32), v, rfl, ⟨by unfold f_O_untell; rw [if_pos c_1], by unfold s_O_untell; rw [if_pos c_1]⟩, hp_at ht hP9⟩, hS.F ht⟩) hS.2.2 d_O_untell_19
  · have c_1 : ¬ ((f_W_has v.1 p1) = (0 : Int32)) := c_1
    refine lv_iload_n hx hb d_O_untell_11 rfl (lv_at hl 3 rfl) ?_
    refine va_calli (va_runS (As := [.int p3]) (rest := []) ⟨hx, hb, hml, hown, hts⟩ (c_O_isName l dC dI  H.size   p3) (cwS 1 hts k_g42 rfl rfl rfl (by decide +kernel) ⟨Nat.le_of_ble_eq_true rfl, Nat.le_of_ble_eq_true rfl⟩) ⟨fb_ro, fun U hU hW => ⟨rfl, by rw [hU], by rw [hU]; exact hP.sub (ws' := ([] : va_W)) [] rfl, va_K.moved hW.alike (hK.sub (tys' := []) [] rfl), NX.warm hW hN⟩⟩ rfl rfl hl.1 rfl (lv_room (Nat.le_of_ble_eq_true rfl)) d_O_untell_12 ⟨Nat.zero_le _, Nat.zero_le _⟩) hS (fun z h1 h2 => absurd h1 (Nat.not_lt.mpr h2)) (fun z h => hA z (Nat.le_trans hS.1 h)) (fun r u t H1 locs ht hvm hpo hB hz1 hk1 hS => ?_)
    subst hpo
    have hP := kp_P hP hk1
    generalize H1 = H at hP hS ⊢
    refine lv_if_ne (tgt := 20) hx hb d_O_untell_15 (by decide) (fun c_2 => ?_) (fun c_2 => ?_)
    · have c_2 : ¬ ((f_O_isName p3) = (0 : Int32)) := c_2
      refine lv_iload_n hx hb d_O_untell_20 rfl (lv_at hl 2 rfl) ?_
      refine lv_if_eq (tgt := 31) hx hb d_O_untell_21 (by decide) (fun c_3 => ?_) (fun c_3 => ?_)
      · have c_3 : p2 = (0 : Int32) := c_3
        refine lv_iload_n hx hb d_O_untell_31 rfl (lv_at hl 2 rfl) ?_
        refine lv_if_ne (tgt := 42) hx hb d_O_untell_32 (by decide) (fun c_4 => ?_) (fun c_4 => ?_)
        · have c_4 : ¬ (p2 = (0 : Int32)) := c_4
          refine lv_aload_n hx hb d_O_untell_42 rfl (lv_at hl 0 rfl) ?_
          refine va_get (D := (dC, dI)) (ci := 2) (v := .ref (qm 0)) (C := R_O) (T := F_O) (N := 4) hx hb hts i_O hown hK hP 0 rfl rfl 2 (by decide) (hts _ k_23) (fun _ h9 => h9) rfl d_O_untell_43 ?_
          refine lv_astore (lv' := [(4, .ref (qm 0)), (0, .ref h0), (1, .int p1), (2, .int p2), (3, .int p3)]) hx hb d_O_untell_46 hl (by decide) rfl (fun ls hl => ?_)
          refine lv_aload hx hb d_O_untell_48 (lv_at hl 0 rfl) ?_
          refine lv_iload_n hx hb d_O_untell_50 rfl (lv_at hl 2 rfl) ?_
          refine lv_iload_n hx hb d_O_untell_51 rfl (lv_at hl 4 rfl) ?_
          have hq_5 : vp_in p3 4 := by first | with_reducible assumption | exact in_name (by with_reducible assumption) | exact in4_4 (by with_reducible assumption) | exact in4_5 (by with_reducible assumption) | exact in4_6 (by with_reducible assumption) | exact in4_7 (by with_reducible assumption)
          refine va_calli (va_runV (As := [.int p1, .int p3]) (rest := []) ⟨hx, hb, hml, hown, hts⟩ (c_M_has l dC dI km qm H.size v.2.2  p1 p3 hq_5) (cwV 2 hts k_g65 rfl rfl rfl (by decide +kernel) ⟨Nat.le_of_ble_eq_true rfl, Nat.le_of_ble_eq_true rfl⟩) ⟨fb_ro, va_recv hK hP (ci := 1) (q0 := 14) rfl rfl, fun U hU hW => ⟨rfl, by rw [hU], by rw [hU]; exact hP.sub (ws' := (wM km qm v.2.2)) [14, 15, 16, 17, 18, 19] rfl, va_K.moved hW.alike (hK.sub (tys' := (tM km)) [11, 12, 13, 14, 15] rfl), NX.warm hW hN⟩⟩ rfl rfl hl.1 rfl (lv_room (Nat.le_of_ble_eq_true rfl)) d_O_untell_52 ⟨Nat.zero_le _, Nat.zero_le _⟩) hS (fun z h1 h2 => absurd h1 (Nat.not_lt.mpr h2)) (fun z h => hA z (Nat.le_trans hS.1 h)) (fun r u t H1 locs ht hvm hpo hB hz1 hk1 hS => ?_)
          subst hpo
          have hP := kp_P hP hk1
          generalize H1 = H at hP hS ⊢
          refine lv_if_ne (tgt := 60) hx hb d_O_untell_55 (by decide) (fun c_6 => ?_) (fun c_6 => ?_)
          · have c_6 : ¬ ((f_M_has v.2.2 p1 p3) = (0 : Int32)) := c_6
            refine lv_aload hx hb d_O_untell_60 (lv_at hl 0 rfl) ?_
            refine lv_iload_n hx hb d_O_untell_62 rfl (lv_at hl 2 rfl) ?_
            refine lv_iload_n hx hb d_O_untell_63 rfl (lv_at hl 4 rfl) ?_
            have hq_7 : vp_in p3 4 := by first | with_reducible assumption | exact in_name (by with_reducible assumption) | exact in4_4 (by with_reducible assumption) | exact in4_5 (by with_reducible assumption) | exact in4_6 (by with_reducible assumption) | exact in4_7 (by with_reducible assumption)
            have hPc := hP.sub (ws' := (wM km qm v.2.2)) [14, 15, 16, 17, 18, 19] rfl
            have hDc := hD.sub (ws' := (wM km qm v.2.2)) [14, 15, 16, 17, 18, 19] (by decide) rfl
            have hFc := va_free (wc := (wM km qm v.2.2)) hD hS hA [14, 15, 16, 17, 18, 19] rfl
            refine va_callv (va_runV (As := [.int p1, .int p3]) (rest := []) ⟨hx, hb, hml, hown, hts⟩ (c_M_drop l dC dI km qm H.size v.2.2  p1 p3 hq_7) (cwV 2 hts k_g66 rfl rfl rfl (by decide +kernel) ⟨Nat.le_of_ble_eq_true rfl, Nat.le_of_ble_eq_true rfl⟩) ⟨fb_mu, va_recv hK hP (ci := 1) (q0 := 14) rfl rfl, fun U hU hW => ⟨rfl, by rw [hU], by rw [hU]; exact hPc, va_K.moved hW.alike (hK.sub (tys' := (tM km)) [11, 12, 13, 14, 15] rfl), NX.warm hW hN, hDc.weaken (fun _ _ _ _ => trivial)⟩⟩ rfl rfl hl.1 rfl (lv_room (Nat.le_of_ble_eq_true rfl)) d_O_untell_64 ⟨Nat.zero_le _, Nat.zero_le _⟩) hS (fun q _ h => hFc q h) hFc (fun u t H1 locs ht hvm hpo hB hz1 hk1 hS => ?_)
            subst hpo
            have hB : va_P (dC, dI) classes (wM km qm (s_M_drop v.2.2 p1 p3)) H1 := hp_to ht hB
            obtain ⟨hP, hD⟩ := va_join (wr := ([(h0, .inr (2, [.ref (qw 0), .ref (qf 0), .ref (qm 0), .int lc])), (qw 0, .inr (0, [.ref (qw 1), .ref (qw 2), .ref (qw 3), .ref (qw 4), .ref (qw 5), .ref (qw 6), .int (v.1.2 0), .int (v.1.2 1), .int (v.1.2 2), .int (v.1.2 3)])), (qw 1, .inl (kw 0, 13, .inl (v.1.1 0))), (qw 2, .inl (kw 1, 13, .inl (v.1.1 1))), (qw 3, .inl (kw 2, 13, .inl (v.1.1 2))), (qw 4, .inl (kw 3, 13, .inl (v.1.1 3))), (qw 5, .inl (kw 4, 52, .inl (v.1.1 4))), (qw 6, .inl (kw 5, 13, .inl (v.1.1 5))), (qf 0, .inr (1, [.ref (qf 1), .ref (qf 2), .ref (qf 3), .ref (qf 4), .ref (qf 5)])), (qf 1, .inl (kf 0, 4, .inl (v.2.1 0))), (qf 2, .inl (kf 1, 4, .inl (v.2.1 1))), (qf 3, .inl (kf 2, 4, .inl (v.2.1 2))), (qf 4, .inl (kf 3, 4, .inl (v.2.1 3))), (qf 5, .inl (kf 4, 52, .inl (v.2.1 4)))] : va_W)) (w1 := (wM km qm (s_M_drop v.2.2 p1 p3))) hP hD [14, 15, 16, 17, 18, 19] [0, 1, 2, 3, 4, 5, 6, 7, 8, 9, 10, 11, 12, 13] rfl rfl (by decide) (by decide) hk1 hFc hB (ad_D hDc.self rfl)
            have hP := hP.sub (ws' := (wO h0 kw kf km qw qf qm (v.1, v.2.1, (s_M_drop v.2.2 p1 p3)) lc)) [0, 1, 2, 3, 4, 5, 6, 7, 8, 9, 10, 11, 12, 13, 14, 15, 16, 17, 18, 19] rfl
            have hD := hD.sub (ws' := (wO h0 kw kf km qw qf qm (v.1, v.2.1, (s_M_drop v.2.2 p1 p3)) lc)) [0, 1, 2, 3, 4, 5, 6, 7, 8, 9, 10, 11, 12, 13, 14, 15, 16, 17, 18, 19] (by decide) rfl
            generalize H1 = H at hP hS ⊢
            refine lv_iconst (v := (0 : Int32)) hx hb d_O_untell_67 (by decide +kernel) ?_
            have hP9 : va_P (dC, dI) classes (wO h0 kw kf km qw qf qm (v.1, v.2.1, (s_M_drop v.2.2 p1 p3)) lc) H := hP
            exact W.iret (v := (0 : Int32)) hx hb hr (fun t ht hW => ⟨⟨(0 : Int32), (v.1, v.2.1, (s_M_drop v.2.2 p1 p3)), rfl, ⟨by unfold f_O_untell; rw [if_neg c_1, if_neg c_2, if_pos c_3, if_neg c_4, if_neg c_6], by unfold s_O_untell; rw [if_neg c_1, if_neg c_2, if_pos c_3, if_neg c_4, if_neg c_6]⟩, hp_at ht hP9⟩, hS.F ht⟩) hS.2.2 d_O_untell_68
          · have c_6 : (f_M_has v.2.2 p1 p3) = (0 : Int32) := c_6
            refine lv_iconst (v := (-1 : Int32)) hx hb d_O_untell_58 (by decide +kernel) ?_
            have hP9 : va_P (dC, dI) classes (wO h0 kw kf km qw qf qm v lc) H := hP
            exact W.iret (v := (-1 : Int32)) hx hb hr (fun t ht hW => ⟨⟨(-1 : Int32), v, rfl, ⟨by unfold f_O_untell; rw [if_neg c_1, if_neg c_2, if_pos c_3, if_neg c_4, if_pos c_6], by unfold s_O_untell; rw [if_neg c_1, if_neg c_2, if_pos c_3, if_neg c_4, if_pos c_6]⟩, hp_at ht hP9⟩, hS.F ht⟩) hS.2.2 d_O_untell_59
        · have c_4 : p2 = (0 : Int32) := c_4
          refine lv_aload_n hx hb d_O_untell_35 rfl (lv_at hl 0 rfl) ?_
          refine va_get (D := (dC, dI)) (ci := 2) (v := .ref (qf 0)) (C := R_O) (T := F_O) (N := 4) hx hb hts i_O hown hK hP 0 rfl rfl 1 (by decide) (hts _ k_27) (fun _ h9 => h9) rfl d_O_untell_36 ?_
          refine lv_goto (tgt := 46) hx hb d_O_untell_39 (by decide) ?_
          refine lv_astore (lv' := [(4, .ref (qf 0)), (0, .ref h0), (1, .int p1), (2, .int p2), (3, .int p3)]) hx hb d_O_untell_46 hl (by decide) rfl (fun ls hl => ?_)
          refine lv_aload hx hb d_O_untell_48 (lv_at hl 0 rfl) ?_
          refine lv_iload_n hx hb d_O_untell_50 rfl (lv_at hl 2 rfl) ?_
          refine lv_iload_n hx hb d_O_untell_51 rfl (lv_at hl 4 rfl) ?_
          have hq_8 : vp_in p3 4 := by first | with_reducible assumption | exact in_name (by with_reducible assumption) | exact in4_4 (by with_reducible assumption) | exact in4_5 (by with_reducible assumption) | exact in4_6 (by with_reducible assumption) | exact in4_7 (by with_reducible assumption)
          refine va_calli (va_runV (As := [.int p1, .int p3]) (rest := []) ⟨hx, hb, hml, hown, hts⟩ (c_M_has l dC dI kf qf H.size v.2.1  p1 p3 hq_8) (cwV 2 hts k_g65 rfl rfl rfl (by decide +kernel) ⟨Nat.le_of_ble_eq_true rfl, Nat.le_of_ble_eq_true rfl⟩) ⟨fb_ro, va_recv hK hP (ci := 1) (q0 := 8) rfl rfl, fun U hU hW => ⟨rfl, by rw [hU], by rw [hU]; exact hP.sub (ws' := (wM kf qf v.2.1)) [8, 9, 10, 11, 12, 13] rfl, va_K.moved hW.alike (hK.sub (tys' := (tM kf)) [6, 7, 8, 9, 10] rfl), NX.warm hW hN⟩⟩ rfl rfl hl.1 rfl (lv_room (Nat.le_of_ble_eq_true rfl)) d_O_untell_52 ⟨Nat.zero_le _, Nat.zero_le _⟩) hS (fun z h1 h2 => absurd h1 (Nat.not_lt.mpr h2)) (fun z h => hA z (Nat.le_trans hS.1 h)) (fun r u t H1 locs ht hvm hpo hB hz1 hk1 hS => ?_)
          subst hpo
          have hP := kp_P hP hk1
          generalize H1 = H at hP hS ⊢
          refine lv_if_ne (tgt := 60) hx hb d_O_untell_55 (by decide) (fun c_9 => ?_) (fun c_9 => ?_)
          · have c_9 : ¬ ((f_M_has v.2.1 p1 p3) = (0 : Int32)) := c_9
            refine lv_aload hx hb d_O_untell_60 (lv_at hl 0 rfl) ?_
            refine lv_iload_n hx hb d_O_untell_62 rfl (lv_at hl 2 rfl) ?_
            refine lv_iload_n hx hb d_O_untell_63 rfl (lv_at hl 4 rfl) ?_
            have hq_10 : vp_in p3 4 := by first | with_reducible assumption | exact in_name (by with_reducible assumption) | exact in4_4 (by with_reducible assumption) | exact in4_5 (by with_reducible assumption) | exact in4_6 (by with_reducible assumption) | exact in4_7 (by with_reducible assumption)
            have hPc := hP.sub (ws' := (wM kf qf v.2.1)) [8, 9, 10, 11, 12, 13] rfl
            have hDc := hD.sub (ws' := (wM kf qf v.2.1)) [8, 9, 10, 11, 12, 13] (by decide) rfl
            have hFc := va_free (wc := (wM kf qf v.2.1)) hD hS hA [8, 9, 10, 11, 12, 13] rfl
            refine va_callv (va_runV (As := [.int p1, .int p3]) (rest := []) ⟨hx, hb, hml, hown, hts⟩ (c_M_drop l dC dI kf qf H.size v.2.1  p1 p3 hq_10) (cwV 2 hts k_g66 rfl rfl rfl (by decide +kernel) ⟨Nat.le_of_ble_eq_true rfl, Nat.le_of_ble_eq_true rfl⟩) ⟨fb_mu, va_recv hK hP (ci := 1) (q0 := 8) rfl rfl, fun U hU hW => ⟨rfl, by rw [hU], by rw [hU]; exact hPc, va_K.moved hW.alike (hK.sub (tys' := (tM kf)) [6, 7, 8, 9, 10] rfl), NX.warm hW hN, hDc.weaken (fun _ _ _ _ => trivial)⟩⟩ rfl rfl hl.1 rfl (lv_room (Nat.le_of_ble_eq_true rfl)) d_O_untell_64 ⟨Nat.zero_le _, Nat.zero_le _⟩) hS (fun q _ h => hFc q h) hFc (fun u t H1 locs ht hvm hpo hB hz1 hk1 hS => ?_)
            subst hpo
            have hB : va_P (dC, dI) classes (wM kf qf (s_M_drop v.2.1 p1 p3)) H1 := hp_to ht hB
            obtain ⟨hP, hD⟩ := va_join (wr := ([(h0, .inr (2, [.ref (qw 0), .ref (qf 0), .ref (qm 0), .int lc])), (qw 0, .inr (0, [.ref (qw 1), .ref (qw 2), .ref (qw 3), .ref (qw 4), .ref (qw 5), .ref (qw 6), .int (v.1.2 0), .int (v.1.2 1), .int (v.1.2 2), .int (v.1.2 3)])), (qw 1, .inl (kw 0, 13, .inl (v.1.1 0))), (qw 2, .inl (kw 1, 13, .inl (v.1.1 1))), (qw 3, .inl (kw 2, 13, .inl (v.1.1 2))), (qw 4, .inl (kw 3, 13, .inl (v.1.1 3))), (qw 5, .inl (kw 4, 52, .inl (v.1.1 4))), (qw 6, .inl (kw 5, 13, .inl (v.1.1 5))), (qm 0, .inr (1, [.ref (qm 1), .ref (qm 2), .ref (qm 3), .ref (qm 4), .ref (qm 5)])), (qm 1, .inl (km 0, 4, .inl (v.2.2 0))), (qm 2, .inl (km 1, 4, .inl (v.2.2 1))), (qm 3, .inl (km 2, 4, .inl (v.2.2 2))), (qm 4, .inl (km 3, 4, .inl (v.2.2 3))), (qm 5, .inl (km 4, 52, .inl (v.2.2 4)))] : va_W)) (w1 := (wM kf qf (s_M_drop v.2.1 p1 p3))) hP hD [8, 9, 10, 11, 12, 13] [0, 1, 2, 3, 4, 5, 6, 7, 14, 15, 16, 17, 18, 19] rfl rfl (by decide) (by decide) hk1 hFc hB (ad_D hDc.self rfl)
            have hP := hP.sub (ws' := (wO h0 kw kf km qw qf qm (v.1, (s_M_drop v.2.1 p1 p3), v.2.2) lc)) [0, 1, 2, 3, 4, 5, 6, 7, 14, 15, 16, 17, 18, 19, 8, 9, 10, 11, 12, 13] rfl
            have hD := hD.sub (ws' := (wO h0 kw kf km qw qf qm (v.1, (s_M_drop v.2.1 p1 p3), v.2.2) lc)) [0, 1, 2, 3, 4, 5, 6, 7, 14, 15, 16, 17, 18, 19, 8, 9, 10, 11, 12, 13] (by decide) rfl
            generalize H1 = H at hP hS ⊢
            refine lv_iconst (v := (0 : Int32)) hx hb d_O_untell_67 (by decide +kernel) ?_
            have hP9 : va_P (dC, dI) classes (wO h0 kw kf km qw qf qm (v.1, (s_M_drop v.2.1 p1 p3), v.2.2) lc) H := hP
            exact W.iret (v := (0 : Int32)) hx hb hr (fun t ht hW => ⟨⟨(0 : Int32), (v.1, (s_M_drop v.2.1 p1 p3), v.2.2), rfl, ⟨by unfold f_O_untell; rw [if_neg c_1, if_neg c_2, if_pos c_3, if_pos c_4, if_neg c_9], by unfold s_O_untell; rw [if_neg c_1, if_neg c_2, if_pos c_3, if_pos c_4, if_neg c_9]⟩, hp_at ht hP9⟩, hS.F ht⟩) hS.2.2 d_O_untell_68
          · have c_9 : (f_M_has v.2.1 p1 p3) = (0 : Int32) := c_9
            refine lv_iconst (v := (-1 : Int32)) hx hb d_O_untell_58 (by decide +kernel) ?_
            have hP9 : va_P (dC, dI) classes (wO h0 kw kf km qw qf qm v lc) H := hP
            exact W.iret (v := (-1 : Int32)) hx hb hr (fun t ht hW => ⟨⟨(-1 : Int32), v, rfl, ⟨by unfold f_O_untell; rw [if_neg c_1, if_neg c_2, if_pos c_3, if_pos c_4, if_pos c_9], by unfold s_O_untell; rw [if_neg c_1, if_neg c_2, if_pos c_3, if_pos c_4, if_pos c_9]⟩, hp_at ht hP9⟩, hS.F ht⟩) hS.2.2 d_O_untell_59
      · have c_3 : ¬ (p2 = (0 : Int32)) := c_3
        refine lv_iload_n hx hb d_O_untell_24 rfl (lv_at hl 2 rfl) ?_
        refine lv_iconst (v := (1 : Int32)) hx hb d_O_untell_25 (by decide +kernel) ?_
        refine lv_icmp_eq (tgt := 31) hx hb d_O_untell_26 (by decide) (fun c_11 => ?_) (fun c_11 => ?_)
        · have c_11 : p2 = (1 : Int32) := c_11
          refine lv_iload_n hx hb d_O_untell_31 rfl (lv_at hl 2 rfl) ?_
          refine lv_if_ne (tgt := 42) hx hb d_O_untell_32 (by decide) (fun c_12 => ?_) (fun c_12 => ?_)
          · have c_12 : ¬ (p2 = (0 : Int32)) := c_12
            refine lv_aload_n hx hb d_O_untell_42 rfl (lv_at hl 0 rfl) ?_
            refine va_get (D := (dC, dI)) (ci := 2) (v := .ref (qm 0)) (C := R_O) (T := F_O) (N := 4) hx hb hts i_O hown hK hP 0 rfl rfl 2 (by decide) (hts _ k_23) (fun _ h9 => h9) rfl d_O_untell_43 ?_
            refine lv_astore (lv' := [(4, .ref (qm 0)), (0, .ref h0), (1, .int p1), (2, .int p2), (3, .int p3)]) hx hb d_O_untell_46 hl (by decide) rfl (fun ls hl => ?_)
            refine lv_aload hx hb d_O_untell_48 (lv_at hl 0 rfl) ?_
            refine lv_iload_n hx hb d_O_untell_50 rfl (lv_at hl 2 rfl) ?_
            refine lv_iload_n hx hb d_O_untell_51 rfl (lv_at hl 4 rfl) ?_
            have hq_13 : vp_in p3 4 := by first | with_reducible assumption | exact in_name (by with_reducible assumption) | exact in4_4 (by with_reducible assumption) | exact in4_5 (by with_reducible assumption) | exact in4_6 (by with_reducible assumption) | exact in4_7 (by with_reducible assumption)
            refine va_calli (va_runV (As := [.int p1, .int p3]) (rest := []) ⟨hx, hb, hml, hown, hts⟩ (c_M_has l dC dI km qm H.size v.2.2  p1 p3 hq_13) (cwV 2 hts k_g65 rfl rfl rfl (by decide +kernel) ⟨Nat.le_of_ble_eq_true rfl, Nat.le_of_ble_eq_true rfl⟩) ⟨fb_ro, va_recv hK hP (ci := 1) (q0 := 14) rfl rfl, fun U hU hW => ⟨rfl, by rw [hU], by rw [hU]; exact hP.sub (ws' := (wM km qm v.2.2)) [14, 15, 16, 17, 18, 19] rfl, va_K.moved hW.alike (hK.sub (tys' := (tM km)) [11, 12, 13, 14, 15] rfl), NX.warm hW hN⟩⟩ rfl rfl hl.1 rfl (lv_room (Nat.le_of_ble_eq_true rfl)) d_O_untell_52 ⟨Nat.zero_le _, Nat.zero_le _⟩) hS (fun z h1 h2 => absurd h1 (Nat.not_lt.mpr h2)) (fun z h => hA z (Nat.le_trans hS.1 h)) (fun r u t H1 locs ht hvm hpo hB hz1 hk1 hS => ?_)
            subst hpo
            have hP := kp_P hP hk1
            generalize H1 = H at hP hS ⊢
            refine lv_if_ne (tgt := 60) hx hb d_O_untell_55 (by decide) (fun c_14 => ?_) (fun c_14 => ?_)
            · have c_14 : ¬ ((f_M_has v.2.2 p1 p3) = (0 : Int32)) := c_14
              refine lv_aload hx hb d_O_untell_60 (lv_at hl 0 rfl) ?_
              refine lv_iload_n hx hb d_O_untell_62 rfl (lv_at hl 2 rfl) ?_
              refine lv_iload_n hx hb d_O_untell_63 rfl (lv_at hl 4 rfl) ?_
              have hq_15 : vp_in p3 4 := by first | with_reducible assumption | exact in_name (by with_reducible assumption) | exact in4_4 (by with_reducible assumption) | exact in4_5 (by with_reducible assumption) | exact in4_6 (by with_reducible assumption) | exact in4_7 (by with_reducible assumption)
              have hPc := hP.sub (ws' := (wM km qm v.2.2)) [14, 15, 16, 17, 18, 19] rfl
              have hDc := hD.sub (ws' := (wM km qm v.2.2)) [14, 15, 16, 17, 18, 19] (by decide) rfl
              have hFc := va_free (wc := (wM km qm v.2.2)) hD hS hA [14, 15, 16, 17, 18, 19] rfl
              refine va_callv (va_runV (As := [.int p1, .int p3]) (rest := []) ⟨hx, hb, hml, hown, hts⟩ (c_M_drop l dC dI km qm H.size v.2.2  p1 p3 hq_15) (cwV 2 hts k_g66 rfl rfl rfl (by decide +kernel) ⟨Nat.le_of_ble_eq_true rfl, Nat.le_of_ble_eq_true rfl⟩) ⟨fb_mu, va_recv hK hP (ci := 1) (q0 := 14) rfl rfl, fun U hU hW => ⟨rfl, by rw [hU], by rw [hU]; exact hPc, va_K.moved hW.alike (hK.sub (tys' := (tM km)) [11, 12, 13, 14, 15] rfl), NX.warm hW hN, hDc.weaken (fun _ _ _ _ => trivial)⟩⟩ rfl rfl hl.1 rfl (lv_room (Nat.le_of_ble_eq_true rfl)) d_O_untell_64 ⟨Nat.zero_le _, Nat.zero_le _⟩) hS (fun q _ h => hFc q h) hFc (fun u t H1 locs ht hvm hpo hB hz1 hk1 hS => ?_)
              subst hpo
              have hB : va_P (dC, dI) classes (wM km qm (s_M_drop v.2.2 p1 p3)) H1 := hp_to ht hB
              obtain ⟨hP, hD⟩ := va_join (wr := ([(h0, .inr (2, [.ref (qw 0), .ref (qf 0), .ref (qm 0), .int lc])), (qw 0, .inr (0, [.ref (qw 1), .ref (qw 2), .ref (qw 3), .ref (qw 4), .ref (qw 5), .ref (qw 6), .int (v.1.2 0), .int (v.1.2 1), .int (v.1.2 2), .int (v.1.2 3)])), (qw 1, .inl (kw 0, 13, .inl (v.1.1 0))), (qw 2, .inl (kw 1, 13, .inl (v.1.1 1))), (qw 3, .inl (kw 2, 13, .inl (v.1.1 2))), (qw 4, .inl (kw 3, 13, .inl (v.1.1 3))), (qw 5, .inl (kw 4, 52, .inl (v.1.1 4))), (qw 6, .inl (kw 5, 13, .inl (v.1.1 5))), (qf 0, .inr (1, [.ref (qf 1), .ref (qf 2), .ref (qf 3), .ref (qf 4), .ref (qf 5)])), (qf 1, .inl (kf 0, 4, .inl (v.2.1 0))), (qf 2, .inl (kf 1, 4, .inl (v.2.1 1))), (qf 3, .inl (kf 2, 4, .inl (v.2.1 2))), (qf 4, .inl (kf 3, 4, .inl (v.2.1 3))), (qf 5, .inl (kf 4, 52, .inl (v.2.1 4)))] : va_W)) (w1 := (wM km qm (s_M_drop v.2.2 p1 p3))) hP hD [14, 15, 16, 17, 18, 19] [0, 1, 2, 3, 4, 5, 6, 7, 8, 9, 10, 11, 12, 13] rfl rfl (by decide) (by decide) hk1 hFc hB (ad_D hDc.self rfl)
              have hP := hP.sub (ws' := (wO h0 kw kf km qw qf qm (v.1, v.2.1, (s_M_drop v.2.2 p1 p3)) lc)) [0, 1, 2, 3, 4, 5, 6, 7, 8, 9, 10, 11, 12, 13, 14, 15, 16, 17, 18, 19] rfl
              have hD := hD.sub (ws' := (wO h0 kw kf km qw qf qm (v.1, v.2.1, (s_M_drop v.2.2 p1 p3)) lc)) [0, 1, 2, 3, 4, 5, 6, 7, 8, 9, 10, 11, 12, 13, 14, 15, 16, 17, 18, 19] (by decide) rfl
              generalize H1 = H at hP hS ⊢
              refine lv_iconst (v := (0 : Int32)) hx hb d_O_untell_67 (by decide +kernel) ?_
              have hP9 : va_P (dC, dI) classes (wO h0 kw kf km qw qf qm (v.1, v.2.1, (s_M_drop v.2.2 p1 p3)) lc) H := hP
              exact W.iret (v := (0 : Int32)) hx hb hr (fun t ht hW => ⟨⟨(0 : Int32), (v.1, v.2.1, (s_M_drop v.2.2 p1 p3)), rfl, ⟨by unfold f_O_untell; rw [if_neg c_1, if_neg c_2, if_neg c_3, if_pos c_11, if_neg c_12, if_neg c_14], by unfold s_O_untell; rw [if_neg c_1, if_neg c_2, if_neg c_3, if_pos c_11, if_neg c_12, if_neg c_14]⟩, hp_at ht hP9⟩, hS.F ht⟩) hS.2.2 d_O_untell_68
            · have c_14 : (f_M_has v.2.2 p1 p3) = (0 : Int32) := c_14
              refine lv_iconst (v := (-1 : Int32)) hx hb d_O_untell_58 (by decide +kernel) ?_
              have hP9 : va_P (dC, dI) classes (wO h0 kw kf km qw qf qm v lc) H := hP
              exact W.iret (v := (-1 : Int32)) hx hb hr (fun t ht hW => ⟨⟨(-1 : Int32), v, rfl, ⟨by unfold f_O_untell; rw [if_neg c_1, if_neg c_2, if_neg c_3, if_pos c_11, if_neg c_12, if_pos c_14], by unfold s_O_untell; rw [if_neg c_1, if_neg c_2, if_neg c_3, if_pos c_11, if_neg c_12, if_pos c_14]⟩, hp_at ht hP9⟩, hS.F ht⟩) hS.2.2 d_O_untell_59
          · have c_12 : p2 = (0 : Int32) := c_12
            refine lv_aload_n hx hb d_O_untell_35 rfl (lv_at hl 0 rfl) ?_
            refine va_get (D := (dC, dI)) (ci := 2) (v := .ref (qf 0)) (C := R_O) (T := F_O) (N := 4) hx hb hts i_O hown hK hP 0 rfl rfl 1 (by decide) (hts _ k_27) (fun _ h9 => h9) rfl d_O_untell_36 ?_
            refine lv_goto (tgt := 46) hx hb d_O_untell_39 (by decide) ?_
            refine lv_astore (lv' := [(4, .ref (qf 0)), (0, .ref h0), (1, .int p1), (2, .int p2), (3, .int p3)]) hx hb d_O_untell_46 hl (by decide) rfl (fun ls hl => ?_)
            refine lv_aload hx hb d_O_untell_48 (lv_at hl 0 rfl) ?_
            refine lv_iload_n hx hb d_O_untell_50 rfl (lv_at hl 2 rfl) ?_
            refine lv_iload_n hx hb d_O_untell_51 rfl (lv_at hl 4 rfl) ?_
            have hq_16 : vp_in p3 4 := by first | with_reducible assumption | exact in_name (by with_reducible assumption) | exact in4_4 (by with_reducible assumption) | exact in4_5 (by with_reducible assumption) | exact in4_6 (by with_reducible assumption) | exact in4_7 (by with_reducible assumption)
            refine va_calli (va_runV (As := [.int p1, .int p3]) (rest := []) ⟨hx, hb, hml, hown, hts⟩ (c_M_has l dC dI kf qf H.size v.2.1  p1 p3 hq_16) (cwV 2 hts k_g65 rfl rfl rfl (by decide +kernel) ⟨Nat.le_of_ble_eq_true rfl, Nat.le_of_ble_eq_true rfl⟩) ⟨fb_ro, va_recv hK hP (ci := 1) (q0 := 8) rfl rfl, fun U hU hW => ⟨rfl, by rw [hU], by rw [hU]; exact hP.sub (ws' := (wM kf qf v.2.1)) [8, 9, 10, 11, 12, 13] rfl, va_K.moved hW.alike (hK.sub (tys' := (tM kf)) [6, 7, 8, 9, 10] rfl), NX.warm hW hN⟩⟩ rfl rfl hl.1 rfl (lv_room (Nat.le_of_ble_eq_true rfl)) d_O_untell_52 ⟨Nat.zero_le _, Nat.zero_le _⟩) hS (fun z h1 h2 => absurd h1 (Nat.not_lt.mpr h2)) (fun z h => hA z (Nat.le_trans hS.1 h)) (fun r u t H1 locs ht hvm hpo hB hz1 hk1 hS => ?_)
            subst hpo
            have hP := kp_P hP hk1
            generalize H1 = H at hP hS ⊢
            refine lv_if_ne (tgt := 60) hx hb d_O_untell_55 (by decide) (fun c_17 => ?_) (fun c_17 => ?_)
            · have c_17 : ¬ ((f_M_has v.2.1 p1 p3) = (0 : Int32)) := c_17
              refine lv_aload hx hb d_O_untell_60 (lv_at hl 0 rfl) ?_
              refine lv_iload_n hx hb d_O_untell_62 rfl (lv_at hl 2 rfl) ?_
              refine lv_iload_n hx hb d_O_untell_63 rfl (lv_at hl 4 rfl) ?_
              have hq_18 : vp_in p3 4 := by first | with_reducible assumption | exact in_name (by with_reducible assumption) | exact in4_4 (by with_reducible assumption) | exact in4_5 (by with_reducible assumption) | exact in4_6 (by with_reducible assumption) | exact in4_7 (by with_reducible assumption)
              have hPc := hP.sub (ws' := (wM kf qf v.2.1)) [8, 9, 10, 11, 12, 13] rfl
              have hDc := hD.sub (ws' := (wM kf qf v.2.1)) [8, 9, 10, 11, 12, 13] (by decide) rfl
              have hFc := va_free (wc := (wM kf qf v.2.1)) hD hS hA [8, 9, 10, 11, 12, 13] rfl
              refine va_callv (va_runV (As := [.int p1, .int p3]) (rest := []) ⟨hx, hb, hml, hown, hts⟩ (c_M_drop l dC dI kf qf H.size v.2.1  p1 p3 hq_18) (cwV 2 hts k_g66 rfl rfl rfl (by decide +kernel) ⟨Nat.le_of_ble_eq_true rfl, Nat.le_of_ble_eq_true rfl⟩) ⟨fb_mu, va_recv hK hP (ci := 1) (q0 := 8) rfl rfl, fun U hU hW => ⟨rfl, by rw [hU], by rw [hU]; exact hPc, va_K.moved hW.alike (hK.sub (tys' := (tM kf)) [6, 7, 8, 9, 10] rfl), NX.warm hW hN, hDc.weaken (fun _ _ _ _ => trivial)⟩⟩ rfl rfl hl.1 rfl (lv_room (Nat.le_of_ble_eq_true rfl)) d_O_untell_64 ⟨Nat.zero_le _, Nat.zero_le _⟩) hS (fun q _ h => hFc q h) hFc (fun u t H1 locs ht hvm hpo hB hz1 hk1 hS => ?_)
              subst hpo
              have hB : va_P (dC, dI) classes (wM kf qf (s_M_drop v.2.1 p1 p3)) H1 := hp_to ht hB
              obtain ⟨hP, hD⟩ := va_join (wr := ([(h0, .inr (2, [.ref (qw 0), .ref (qf 0), .ref (qm 0), .int lc])), (qw 0, .inr (0, [.ref (qw 1), .ref (qw 2), .ref (qw 3), .ref (qw 4), .ref (qw 5), .ref (qw 6), .int (v.1.2 0), .int (v.1.2 1), .int (v.1.2 2), .int (v.1.2 3)])), (qw 1, .inl (kw 0, 13, .inl (v.1.1 0))), (qw 2, .inl (kw 1, 13, .inl (v.1.1 1))), (qw 3, .inl (kw 2, 13, .inl (v.1.1 2))), (qw 4, .inl (kw 3, 13, .inl (v.1.1 3))), (qw 5, .inl (kw 4, 52, .inl (v.1.1 4))), (qw 6, .inl (kw 5, 13, .inl (v.1.1 5))), (qm 0, .inr (1, [.ref (qm 1), .ref (qm 2), .ref (qm 3), .ref (qm 4), .ref (qm 5)])), (qm 1, .inl (km 0, 4, .inl (v.2.2 0))), (qm 2, .inl (km 1, 4, .inl (v.2.2 1))), (qm 3, .inl (km 2, 4, .inl (v.2.2 2))), (qm 4, .inl (km 3, 4, .inl (v.2.2 3))), (qm 5, .inl (km 4, 52, .inl (v.2.2 4)))] : va_W)) (w1 := (wM kf qf (s_M_drop v.2.1 p1 p3))) hP hD [8, 9, 10, 11, 12, 13] [0, 1, 2, 3, 4, 5, 6, 7, 14, 15, 16, 17, 18, 19] rfl rfl (by decide) (by decide) hk1 hFc hB (ad_D hDc.self rfl)
              have hP := hP.sub (ws' := (wO h0 kw kf km qw qf qm (v.1, (s_M_drop v.2.1 p1 p3), v.2.2) lc)) [0, 1, 2, 3, 4, 5, 6, 7, 14, 15, 16, 17, 18, 19, 8, 9, 10, 11, 12, 13] rfl
              have hD := hD.sub (ws' := (wO h0 kw kf km qw qf qm (v.1, (s_M_drop v.2.1 p1 p3), v.2.2) lc)) [0, 1, 2, 3, 4, 5, 6, 7, 14, 15, 16, 17, 18, 19, 8, 9, 10, 11, 12, 13] (by decide) rfl
              generalize H1 = H at hP hS ⊢
              refine lv_iconst (v := (0 : Int32)) hx hb d_O_untell_67 (by decide +kernel) ?_
              have hP9 : va_P (dC, dI) classes (wO h0 kw kf km qw qf qm (v.1, (s_M_drop v.2.1 p1 p3), v.2.2) lc) H := hP
              exact W.iret (v := (0 : Int32)) hx hb hr (fun t ht hW => ⟨⟨(0 : Int32), (v.1, (s_M_drop v.2.1 p1 p3), v.2.2), rfl, ⟨by unfold f_O_untell; rw [if_neg c_1, if_neg c_2, if_neg c_3, if_pos c_11, if_pos c_12, if_neg c_17], by unfold s_O_untell; rw [if_neg c_1, if_neg c_2, if_neg c_3, if_pos c_11, if_pos c_12, if_neg c_17]⟩, hp_at ht hP9⟩, hS.F ht⟩) hS.2.2 d_O_untell_68
            · have c_17 : (f_M_has v.2.1 p1 p3) = (0 : Int32) := c_17
              refine lv_iconst (v := (-1 : Int32)) hx hb d_O_untell_58 (by decide +kernel) ?_
              have hP9 : va_P (dC, dI) classes (wO h0 kw kf km qw qf qm v lc) H := hP
              exact W.iret (v := (-1 : Int32)) hx hb hr (fun t ht hW => ⟨⟨(-1 : Int32), v, rfl, ⟨by unfold f_O_untell; rw [if_neg c_1, if_neg c_2, if_neg c_3, if_pos c_11, if_pos c_12, if_pos c_17], by unfold s_O_untell; rw [if_neg c_1, if_neg c_2, if_neg c_3, if_pos c_11, if_pos c_12, if_pos c_17]⟩, hp_at ht hP9⟩, hS.F ht⟩) hS.2.2 d_O_untell_59
        · have c_11 : ¬ (p2 = (1 : Int32)) := c_11
          refine lv_iconst (v := (-1 : Int32)) hx hb d_O_untell_29 (by decide +kernel) ?_
          have hP9 : va_P (dC, dI) classes (wO h0 kw kf km qw qf qm v lc) H := hP
          exact W.iret (v := (-1 : Int32)) hx hb hr (fun t ht hW => ⟨⟨(-1 : Int32), v, rfl, ⟨by unfold f_O_untell; rw [if_neg c_1, if_neg c_2, if_neg c_3, if_neg c_11], by unfold s_O_untell; rw [if_neg c_1, if_neg c_2, if_neg c_3, if_neg c_11]⟩, hp_at ht hP9⟩, hS.F ht⟩) hS.2.2 d_O_untell_30
    · have c_2 : (f_O_isName p3) = (0 : Int32) := c_2
      refine lv_iconst (v := (-1 : Int32)) hx hb d_O_untell_18 (by decide +kernel) ?_
      have hP9 : va_P (dC, dI) classes (wO h0 kw kf km qw qf qm v lc) H := hP
      exact W.iret (v := (-1 : Int32)) hx hb hr (fun t ht hW => ⟨⟨(-1 : Int32), v, rfl, ⟨by unfold f_O_untell; rw [if_neg c_1, if_pos c_2], by unfold s_O_untell; rw [if_neg c_1, if_pos c_2]⟩, hp_at ht hP9⟩, hS.F ht⟩) hS.2.2 d_O_untell_19
