set_option maxHeartbeats 1000000 in
set_option maxRecDepth 100000 in
theorem c_O_field (l : Launch) (dC : Nat → ClassId) (dI : Nat → Nat → Nat) (h0 : Nat) (kw kf km : Nat → ClassId) (qw qf qm : Nat → Nat) (sz : Nat) (v : ES) (lc : Int32) (p1 p2 p3 p4 : Int32) (hw : WF v.1) : Met l y_O_field w_O_field ({ frames := 2, cells := 0, slots := 0, locals := 48 } : Room) (mu_P dC dI (wO h0 kw kf km qw qf qm v lc) (tO kw kf km) sz [.ref h0, .int p1, .int p2, .int p3, .int p4]) (mu_Q (fun (S9 : ES) => (wO h0 kw kf km qw qf qm S9 lc)) dC dI (f_O_field v p1 p2 p3 p4) (s_O_field v p1 p2 p3 p4) (va_A (wO h0 kw kf km qw qf qm v lc) sz)) 0 0 (va_A (wO h0 kw kf km qw qf qm v lc) sz) := by
  refine Met.ofW (cc := b_O_field) (maxL := 5) (ret := (some .int)) (by decide) rfl ?_
  intro p e s m args below meth c s₁ B hml hv
  obtain ⟨rfl, hsz, hP, hK, hN, hD0⟩ := hv
  have hx := B.exec
  have hb := B.bytes
  have hr := B.returns
  have hts := tl_of (atoms_spec (ws := w_O_field) B.pre)
  have hown : s.vm.findClass R_O = some m.cls := findClass_of_methodNamed B.named
  have hlocks := B.notSynchronized
  subst hsz
  have hD := hD0.self (sz := s.heap.size)
  generalize hAe : va_A (wO h0 kw kf km qw qf qm v lc) s.heap.size = A at hD ⊢
  have hA : ∀ q : Nat, s.heap.size ≤ q → A q := fun q h => by rw [← hAe]; exact Or.inr h
  have hS : va_S A s.heap s.heap [] := va_S.rf
  have hl := lv_entry ([.ref h0, .int p1, .int p2, .int p3, .int p4]) (n := 5) (Nat.le_of_ble_eq_true rfl)
  rw [lg_entry_eq]
  generalize (lg_sl ([.ref h0, .int p1, .int p2, .int p3, .int p4]) ++ List.replicate (5 - (lg_sl ([.ref h0, .int p1, .int p2, .int p3, .int p4])).length) Slot.unset).toArray = ls at hl ⊢
  have hl : lv_has ls 5 [(0, .ref h0), (1, .int p1), (2, .int p2), (3, .int p3), (4, .int p4)] := hl
  refine lv_aload_n hx hb d_O_field_0 rfl (lv_at hl 0 rfl) ?_
  refine va_get (D := (dC, dI)) (ci := 2) (v := .ref (qw 0)) (C := R_O) (T := F_O) (N := 4) hx hb hts i_O hown hK hP 0 rfl rfl 0 (by decide) (hts _ k_22) (fun _ h9 => h9) rfl d_O_field_1 ?_
  refine lv_iload_n hx hb d_O_field_4 rfl (lv_at hl 1 rfl) ?_
  refine va_calli (va_runV (As := [.int p1]) (rest := []) ⟨hx, hb, hml, hown, hts⟩ (c_W_has l dC dI kw qw s.heap.size v.1  p1) (cwV 1 hts k_g41 rfl rfl rfl (by decide +kernel) ⟨Nat.le_of_ble_eq_true rfl, Nat.le_of_ble_eq_true rfl⟩) ⟨fb_ro, va_recv hK hP (ci := 0) (q0 := 1) rfl rfl, fun U hU hW => ⟨rfl, by rw [hU], by rw [hU]; exact hP.sub (ws' := (wW kw qw v.1)) [1, 2, 3, 4, 5, 6, 7] rfl, va_K.moved hW.alike (hK.sub (tys' := (tW kw)) [0, 1, 2, 3, 4, 5] rfl), NX.warm hW hN⟩⟩ rfl rfl hl.1 rfl (lv_room (Nat.le_of_ble_eq_true rfl)) d_O_field_5 ⟨Nat.zero_le _, Nat.zero_le _⟩) hS (fun z h1 h2 => absurd h1 (Nat.not_lt.mpr h2)) (fun z h => hA z (Nat.le_trans hS.1 h)) (fun r u t H1 locs ht hvm hpo hB hz1 hk1 hS => ?_)
  subst hpo
  have hP := kp_P hP hk1
  generalize H1 = H at hP hS ⊢
  refine lv_if_eq (tgt := 25) hx hb d_O_field_8 (by decide) (fun c_1 => ?_) (fun c_1 => ?_)
  · have c_1 : (f_W_has v.1 p1) = (0 : Int32) := c_1
    refine lv_iconst (v := (-1 : Int32)) hx hb d_O_field_25 (by decide +kernel) ?_
    have hP9 : va_P (dC, dI) classes (wO h0 kw kf km qw qf qm v lc) H := hP
    exact W.iret (v := (-1 : Int32)) hx hb hr (fun t ht hW => ⟨⟨(-1 : Int32), v, rfl, ⟨by unfold f_O_field; rw [if_pos c_1], by unfold s_O_field; rw [if_pos c_1]⟩, hp_at ht hP9⟩, hS.F ht⟩) hS.2.2 d_O_field_26
  · have c_1 : ¬ ((f_W_has v.1 p1) = (0 : Int32)) := c_1
    refine lv_iload_n hx hb d_O_field_11 rfl (lv_at hl 2 rfl) ?_
    refine va_calli (va_runS (As := [.int p2]) (rest := []) ⟨hx, hb, hml, hown, hts⟩ (c_O_isName l dC dI  H.size   p2) (cwS 1 hts k_g42 rfl rfl rfl (by decide +kernel) ⟨Nat.le_of_ble_eq_true rfl, Nat.le_of_ble_eq_true rfl⟩) ⟨fb_ro, fun U hU hW => ⟨rfl, by rw [hU], by rw [hU]; exact hP.sub (ws' := ([] : va_W)) [] rfl, va_K.moved hW.alike (hK.sub (tys' := []) [] rfl), NX.warm hW hN⟩⟩ rfl rfl hl.1 rfl (lv_room (Nat.le_of_ble_eq_true rfl)) d_O_field_12 ⟨Nat.zero_le _, Nat.zero_le _⟩) hS (fun z h1 h2 => absurd h1 (Nat.not_lt.mpr h2)) (fun z h => hA z (Nat.le_trans hS.1 h)) (fun r u t H1 locs ht hvm hpo hB hz1 hk1 hS => ?_)
    subst hpo
    have hP := kp_P hP hk1
    generalize H1 = H at hP hS ⊢
    refine lv_if_eq (tgt := 25) hx hb d_O_field_15 (by decide) (fun c_2 => ?_) (fun c_2 => ?_)
    · have c_2 : (f_O_isName p2) = (0 : Int32) := c_2
      refine lv_iconst (v := (-1 : Int32)) hx hb d_O_field_25 (by decide +kernel) ?_
      have hP9 : va_P (dC, dI) classes (wO h0 kw kf km qw qf qm v lc) H := hP
      exact W.iret (v := (-1 : Int32)) hx hb hr (fun t ht hW => ⟨⟨(-1 : Int32), v, rfl, ⟨by unfold f_O_field; rw [if_neg c_1, if_pos c_2], by unfold s_O_field; rw [if_neg c_1, if_pos c_2]⟩, hp_at ht hP9⟩, hS.F ht⟩) hS.2.2 d_O_field_26
    · have c_2 : ¬ ((f_O_isName p2) = (0 : Int32)) := c_2
      refine lv_iload_n hx hb d_O_field_18 rfl (lv_at hl 3 rfl) ?_
      refine va_calli (va_runS (As := [.int p3]) (rest := []) ⟨hx, hb, hml, hown, hts⟩ (c_O_isAccess l dC dI  H.size   p3) (cwS 1 hts k_g62 rfl rfl rfl (by decide +kernel) ⟨Nat.le_of_ble_eq_true rfl, Nat.le_of_ble_eq_true rfl⟩) ⟨fb_ro, fun U hU hW => ⟨rfl, by rw [hU], by rw [hU]; exact hP.sub (ws' := ([] : va_W)) [] rfl, va_K.moved hW.alike (hK.sub (tys' := []) [] rfl), NX.warm hW hN⟩⟩ rfl rfl hl.1 rfl (lv_room (Nat.le_of_ble_eq_true rfl)) d_O_field_19 ⟨Nat.zero_le _, Nat.zero_le _⟩) hS (fun z h1 h2 => absurd h1 (Nat.not_lt.mpr h2)) (fun z h => hA z (Nat.le_trans hS.1 h)) (fun r u t H1 locs ht hvm hpo hB hz1 hk1 hS => ?_)
      subst hpo
      have hP := kp_P hP hk1
      generalize H1 = H at hP hS ⊢
      refine lv_if_ne (tgt := 27) hx hb d_O_field_22 (by decide) (fun c_3 => ?_) (fun c_3 => ?_)
      · have c_3 : ¬ ((f_O_isAccess p3) = (0 : Int32)) := c_3
        refine lv_aload_n hx hb d_O_field_27 rfl (lv_at hl 0 rfl) ?_
        refine va_get (D := (dC, dI)) (ci := 2) (v := .ref (qw 0)) (C := R_O) (T := F_O) (N := 4) hx hb hts i_O hown hK hP 0 rfl rfl 0 (by decide) (hts _ k_22) (fun _ h9 => h9) rfl d_O_field_28 ?_
        refine lv_iload_n hx hb d_O_field_31 rfl (lv_at hl 1 rfl) ?_
        refine va_calli (va_runV (As := [.int p1]) (rest := []) ⟨hx, hb, hml, hown, hts⟩ (c_W_isInterface l dC dI kw qw H.size v.1  p1) (cwV 1 hts k_g33 rfl rfl rfl (by decide +kernel) ⟨Nat.le_of_ble_eq_true rfl, Nat.le_of_ble_eq_true rfl⟩) ⟨fb_ro, va_recv hK hP (ci := 0) (q0 := 1) rfl rfl, fun U hU hW => ⟨rfl, by rw [hU], by rw [hU]; exact hP.sub (ws' := (wW kw qw v.1)) [1, 2, 3, 4, 5, 6, 7] rfl, va_K.moved hW.alike (hK.sub (tys' := (tW kw)) [0, 1, 2, 3, 4, 5] rfl), NX.warm hW hN⟩⟩ rfl rfl hl.1 rfl (lv_room (Nat.le_of_ble_eq_true rfl)) d_O_field_32 ⟨Nat.zero_le _, Nat.zero_le _⟩) hS (fun z h1 h2 => absurd h1 (Nat.not_lt.mpr h2)) (fun z h => hA z (Nat.le_trans hS.1 h)) (fun r u t H1 locs ht hvm hpo hB hz1 hk1 hS => ?_)
        subst hpo
        have hP := kp_P hP hk1
        generalize H1 = H at hP hS ⊢
        refine lv_if_eq (tgt := 50) hx hb d_O_field_35 (by decide) (fun c_4 => ?_) (fun c_4 => ?_)
        · have c_4 : (f_W_isInterface v.1 p1) = (0 : Int32) := c_4
          refine lv_aload_n hx hb d_O_field_50 rfl (lv_at hl 0 rfl) ?_
          refine va_get (D := (dC, dI)) (ci := 2) (v := .ref (qf 0)) (C := R_O) (T := F_O) (N := 4) hx hb hts i_O hown hK hP 0 rfl rfl 1 (by decide) (hts _ k_27) (fun _ h9 => h9) rfl d_O_field_51 ?_
          refine lv_iload_n hx hb d_O_field_54 rfl (lv_at hl 1 rfl) ?_
          refine lv_iload_n hx hb d_O_field_55 rfl (lv_at hl 2 rfl) ?_
          refine lv_iload_n hx hb d_O_field_56 rfl (lv_at hl 3 rfl) ?_
          refine lv_iload hx hb d_O_field_57 (lv_at hl 4 rfl) ?_
          refine lv_if_eq (tgt := 66) hx hb d_O_field_59 (by decide) (fun c_5 => ?_) (fun c_5 => ?_)
          · have c_5 : p4 = (0 : Int32) := c_5
            refine lv_iconst (v := (0 : Int32)) hx hb d_O_field_66 (by decide +kernel) ?_
            have hq_6 : vp_in p1 13 := by first | with_reducible assumption | exact in_has hw (by with_reducible assumption) | exact in_cls hw (by with_reducible assumption) | exact in_ifc hw (by with_reducible assumption) | exact in_ext hw (by with_reducible assumption) | exact in_eq0 (by with_reducible assumption) | exact hfd (by with_reducible assumption) | exact in_rcv hw (by with_reducible assumption) (Or.inl (by with_reducible assumption)) | exact in_rcv hw (by with_reducible assumption) (Or.inr (by with_reducible assumption))
            have hq_7 : vp_in p2 4 := by first | with_reducible assumption | exact in_name (by with_reducible assumption) | exact in4_4 (by with_reducible assumption) | exact in4_5 (by with_reducible assumption) | exact in4_6 (by with_reducible assumption) | exact in4_7 (by with_reducible assumption)
            have hPc := hP.sub (ws' := (wM kf qf v.2.1)) [8, 9, 10, 11, 12, 13] rfl
            have hDc := hD.sub (ws' := (wM kf qf v.2.1)) [8, 9, 10, 11, 12, 13] (by decide) rfl
            have hFc := va_free (wc := (wM kf qf v.2.1)) hD hS hA [8, 9, 10, 11, 12, 13] rfl
            refine va_callv (va_runV (As := [.int p1, .int p2, .int p3, .int (0 : Int32)]) (rest := []) ⟨hx, hb, hml, hown, hts⟩ (c_M_put l dC dI kf qf H.size v.2.1  p1 p2 p3 (0 : Int32) hq_6 hq_7) (cwV 4 hts k_g63 rfl rfl rfl (by decide +kernel) ⟨Nat.le_of_ble_eq_true rfl, Nat.le_of_ble_eq_true rfl⟩) ⟨fb_mu, va_recv hK hP (ci := 1) (q0 := 8) rfl rfl, fun U hU hW => ⟨rfl, by rw [hU], by rw [hU]; exact hPc, va_K.moved hW.alike (hK.sub (tys' := (tM kf)) [6, 7, 8, 9, 10] rfl), NX.warm hW hN, hDc.weaken (fun _ _ _ _ => trivial)⟩⟩ rfl rfl hl.1 rfl (lv_room (Nat.le_of_ble_eq_true rfl)) d_O_field_67 ⟨Nat.zero_le _, Nat.zero_le _⟩) hS (fun q _ h => hFc q h) hFc (fun u t H1 locs ht hvm hpo hB hz1 hk1 hS => ?_)
            subst hpo
            have hB : va_P (dC, dI) classes (wM kf qf (s_M_put v.2.1 p1 p2 p3 (0 : Int32))) H1 := hp_to ht hB
            obtain ⟨hP, hD⟩ := va_join (wr := ([(h0, .inr (2, [.ref (qw 0), .ref (qf 0), .ref (qm 0), .int lc])), (qw 0, .inr (0, [.ref (qw 1), .ref (qw 2), .ref (qw 3), .ref (qw 4), .ref (qw 5), .ref (qw 6), .int (v.1.2 0), .int (v.1.2 1), .int (v.1.2 2), .int (v.1.2 3)])), (qw 1, .inl (kw 0, 13, .inl (v.1.1 0))), (qw 2, .inl (kw 1, 13, .inl (v.1.1 1))), (qw 3, .inl (kw 2, 13, .inl (v.1.1 2))), (qw 4, .inl (kw 3, 13, .inl (v.1.1 3))), (qw 5, .inl (kw 4, 52, .inl (v.1.1 4))), (qw 6, .inl (kw 5, 13, .inl (v.1.1 5))), (qm 0, .inr (1, [.ref (qm 1), .ref (qm 2), .ref (qm 3), .ref (qm 4), .ref (qm 5)])), (qm 1, .inl (km 0, 4, .inl (v.2.2 0))), (qm 2, .inl (km 1, 4, .inl (v.2.2 1))), (qm 3, .inl (km 2, 4, .inl (v.2.2 2))), (qm 4, .inl (km 3, 4, .inl (v.2.2 3))), (qm 5, .inl (km 4, 52, .inl (v.2.2 4)))] : va_W)) (w1 := (wM kf qf (s_M_put v.2.1 p1 p2 p3 (0 : Int32)))) hP hD [8, 9, 10, 11, 12, 13] [0, 1, 2, 3, 4, 5, 6, 7, 14, 15, 16, 17, 18, 19] rfl rfl (by decide) (by decide) hk1 hFc hB (ad_D hDc.self rfl)
            have hP := hP.sub (ws' := (wO h0 kw kf km qw qf qm (v.1, (s_M_put v.2.1 p1 p2 p3 (0 : Int32)), v.2.2) lc)) [0, 1, 2, 3, 4, 5, 6, 7, 14, 15, 16, 17, 18, 19, 8, 9, 10, 11, 12, 13] rfl
            have hD := hD.sub (ws' := (wO h0 kw kf km qw qf qm (v.1, (s_M_put v.2.1 p1 p2 p3 (0 : Int32)), v.2.2) lc)) [0, 1, 2, 3, 4, 5, 6, 7, 14, 15, 16, 17, 18, 19, 8, 9, 10, 11, 12, 13] (by decide) rfl
            generalize H1 = H at hP hS ⊢
            refine lv_iconst (v := (0 : Int32)) hx hb d_O_field_70 (by decide +kernel) ?_
            have hP9 : va_P (dC, dI) classes (wO h0 kw kf km qw qf qm (v.1, (s_M_put v.2.1 p1 p2 p3 (0 : Int32)), v.2.2) lc) H := hP
            exact W.iret (v := (0 : Int32)) hx hb hr (fun t ht hW => ⟨⟨(0 : Int32), (v.1, (s_M_put v.2.1 p1 p2 p3 (0 : Int32)), v.2.2), rfl, ⟨by unfold f_O_field; rw [if_neg c_1, if_neg c_2, if_neg c_3, if_pos c_4, if_pos c_5], by unfold s_O_field; rw [if_neg c_1, if_neg c_2, if_neg c_3, if_pos c_4, if_pos c_5]⟩, hp_at ht hP9⟩, hS.F ht⟩) hS.2.2 d_O_field_71
          · have c_5 : ¬ (p4 = (0 : Int32)) := c_5
            refine lv_iconst (v := (1 : Int32)) hx hb d_O_field_62 (by decide +kernel) ?_
            refine lv_goto (tgt := 67) hx hb d_O_field_63 (by decide) ?_
            have hq_8 : vp_in p1 13 := by first | with_reducible assumption | exact in_has hw (by with_reducible assumption) | exact in_cls hw (by with_reducible assumption) | exact in_ifc hw (by with_reducible assumption) | exact in_ext hw (by with_reducible assumption) | exact in_eq0 (by with_reducible assumption) | exact hfd (by with_reducible assumption) | exact in_rcv hw (by with_reducible assumption) (Or.inl (by with_reducible assumption)) | exact in_rcv hw (by with_reducible assumption) (Or.inr (by with_reducible assumption))
            have hq_9 : vp_in p2 4 := by first | with_reducible assumption | exact in_name (by with_reducible assumption) | exact in4_4 (by with_reducible assumption) | exact in4_5 (by with_reducible assumption) | exact in4_6 (by with_reducible assumption) | exact in4_7 (by with_reducible assumption)
            have hPc := hP.sub (ws' := (wM kf qf v.2.1)) [8, 9, 10, 11, 12, 13] rfl
            have hDc := hD.sub (ws' := (wM kf qf v.2.1)) [8, 9, 10, 11, 12, 13] (by decide) rfl
            have hFc := va_free (wc := (wM kf qf v.2.1)) hD hS hA [8, 9, 10, 11, 12, 13] rfl
            refine va_callv (va_runV (As := [.int p1, .int p2, .int p3, .int (1 : Int32)]) (rest := []) ⟨hx, hb, hml, hown, hts⟩ (c_M_put l dC dI kf qf H.size v.2.1  p1 p2 p3 (1 : Int32) hq_8 hq_9) (cwV 4 hts k_g63 rfl rfl rfl (by decide +kernel) ⟨Nat.le_of_ble_eq_true rfl, Nat.le_of_ble_eq_true rfl⟩) ⟨fb_mu, va_recv hK hP (ci := 1) (q0 := 8) rfl rfl, fun U hU hW => ⟨rfl, by rw [hU], by rw [hU]; exact hPc, va_K.moved hW.alike (hK.sub (tys' := (tM kf)) [6, 7, 8, 9, 10] rfl), NX.warm hW hN, hDc.weaken (fun _ _ _ _ => trivial)⟩⟩ rfl rfl hl.1 rfl (lv_room (Nat.le_of_ble_eq_true rfl)) d_O_field_67 ⟨Nat.zero_le _, Nat.zero_le _⟩) hS (fun q _ h => hFc q h) hFc (fun u t H1 locs ht hvm hpo hB hz1 hk1 hS => ?_)
            subst hpo
            have hB : va_P (dC, dI) classes (wM kf qf (s_M_put v.2.1 p1 p2 p3 (1 : Int32))) H1 := hp_to ht hB
            obtain ⟨hP, hD⟩ := va_join (wr := ([(h0, .inr (2, [.ref (qw 0), .ref (qf 0), .ref (qm 0), .int lc])), (qw 0, .inr (0, [.ref (qw 1), .ref (qw 2), .ref (qw 3), .ref (qw 4), .ref (qw 5), .ref (qw 6), .int (v.1.2 0), .int (v.1.2 1), .int (v.1.2 2), .int (v.1.2 3)])), (qw 1, .inl (kw 0, 13, .inl (v.1.1 0))), (qw 2, .inl (kw 1, 13, .inl (v.1.1 1))), (qw 3, .inl (kw 2, 13, .inl (v.1.1 2))), (qw 4, .inl (kw 3, 13, .inl (v.1.1 3))), (qw 5, .inl (kw 4, 52, .inl (v.1.1 4))), (qw 6, .inl (kw 5, 13, .inl (v.1.1 5))), (qm 0, .inr (1, [.ref (qm 1), .ref (qm 2), .ref (qm 3), .ref (qm 4), .ref (qm 5)])), (qm 1, .inl (km 0, 4, .inl (v.2.2 0))), (qm 2, .inl (km 1, 4, .inl (v.2.2 1))), (qm 3, .inl (km 2, 4, .inl (v.2.2 2))), (qm 4, .inl (km 3, 4, .inl (v.2.2 3))), (qm 5, .inl (km 4, 52, .inl (v.2.2 4)))] : va_W)) (w1 := (wM kf qf (s_M_put v.2.1 p1 p2 p3 (1 : Int32)))) hP hD [8, 9, 10, 11, 12, 13] [0, 1, 2, 3, 4, 5, 6, 7, 14, 15, 16, 17, 18, 19] rfl rfl (by decide) (by decide) hk1 hFc hB (ad_D hDc.self rfl)
            have hP := hP.sub (ws' := (wO h0 kw kf km qw qf qm (v.1, (s_M_put v.2.1 p1 p2 p3 (1 : Int32)), v.2.2) lc)) [0, 1, 2, 3, 4, 5, 6, 7, 14, 15, 16, 17, 18, 19, 8, 9, 10, 11, 12, 13] rfl
            have hD := hD.sub (ws' := (wO h0 kw kf km qw qf qm (v.1, (s_M_put v.2.1 p1 p2 p3 (1 : Int32)), v.2.2) lc)) [0, 1, 2, 3, 4, 5, 6, 7, 14, 15, 16, 17, 18, 19, 8, 9, 10, 11, 12, 13] (by decide) rfl
            generalize H1 = H at hP hS ⊢
            refine lv_iconst (v := (0 : Int32)) hx hb d_O_field_70 (by decide +kernel) ?_
            have hP9 : va_P (dC, dI) classes (wO h0 kw kf km qw qf qm (v.1, (s_M_put v.2.1 p1 p2 p3 (1 : Int32)), v.2.2) lc) H := hP
            exact W.iret (v := (0 : Int32)) hx hb hr (fun t ht hW => ⟨⟨(0 : Int32), (v.1, (s_M_put v.2.1 p1 p2 p3 (1 : Int32)), v.2.2), rfl, ⟨by unfold f_O_field; rw [if_neg c_1, if_neg c_2, if_neg c_3, if_pos c_4, if_neg c_5], by unfold s_O_field; rw [if_neg c_1, if_neg c_2, if_neg c_3, if_pos c_4, if_neg c_5]⟩, hp_at ht hP9⟩, hS.F ht⟩) hS.2.2 d_O_field_71
        · have c_4 : ¬ ((f_W_isInterface v.1 p1) = (0 : Int32)) := c_4
          refine lv_iload_n hx hb d_O_field_38 rfl (lv_at hl 3 rfl) ?_
          refine lv_iconst (v := (3 : Int32)) hx hb d_O_field_39 (by decide +kernel) ?_
          refine lv_icmp_ne (tgt := 48) hx hb d_O_field_40 (by decide) (fun c_10 => ?_) (fun c_10 => ?_)
          · have c_10 : ¬ (p3 = (3 : Int32)) := c_10
            refine lv_iconst (v := (-1 : Int32)) hx hb d_O_field_48 (by decide +kernel) ?_
            have hP9 : va_P (dC, dI) classes (wO h0 kw kf km qw qf qm v lc) H := hP
            exact W.iret (v := (-1 : Int32)) hx hb hr (fun t ht hW => ⟨⟨(-1 : Int32), v, rfl, ⟨by unfold f_O_field; rw [if_neg c_1, if_neg c_2, if_neg c_3, if_neg c_4, if_neg c_10], by unfold s_O_field; rw [if_neg c_1, if_neg c_2, if_neg c_3, if_neg c_4, if_neg c_10]⟩, hp_at ht hP9⟩, hS.F ht⟩) hS.2.2 d_O_field_49
          · have c_10 : p3 = (3 : Int32) := c_10
            refine lv_iload hx hb d_O_field_43 (lv_at hl 4 rfl) ?_
            refine lv_if_ne (tgt := 50) hx hb d_O_field_45 (by decide) (fun c_11 => ?_) (fun c_11 => ?_)
            · have c_11 : ¬ (p4 = (0 : Int32)) := c_11
              refine lv_aload_n hx hb d_O_field_50 rfl (lv_at hl 0 rfl) ?_
              refine va_get (D := (dC, dI)) (ci := 2) (v := .ref (qf 0)) (C := R_O) (T := F_O) (N := 4) hx hb hts i_O hown hK hP 0 rfl rfl 1 (by decide) (hts _ k_27) (fun _ h9 => h9) rfl d_O_field_51 ?_
              refine lv_iload_n hx hb d_O_field_54 rfl (lv_at hl 1 rfl) ?_
              refine lv_iload_n hx hb d_O_field_55 rfl (lv_at hl 2 rfl) ?_
              refine lv_iload_n hx hb d_O_field_56 rfl (lv_at hl 3 rfl) ?_
              refine lv_iload hx hb d_O_field_57 (lv_at hl 4 rfl) ?_
              refine lv_if_eq (tgt := 66) hx hb d_O_field_59 (by decide) (fun c_12 => ?_) (fun c_12 => ?_)
              · have c_12 : p4 = (0 : Int32) := c_12
                refine lv_iconst (v := (0 : Int32)) hx hb d_O_field_66 (by decide +kernel) ?_
                have hq_13 : vp_in p1 13 := by first | with_reducible assumption | exact in_has hw (by with_reducible assumption) | exact in_cls hw (by with_reducible assumption) | exact in_ifc hw (by with_reducible assumption) | exact in_ext hw (by with_reducible assumption) | exact in_eq0 (by with_reducible assumption) | exact hfd (by with_reducible assumption) | exact in_rcv hw (by with_reducible assumption) (Or.inl (by with_reducible assumption)) | exact in_rcv hw (by with_reducible assumption) (Or.inr (by with_reducible assumption))
                have hq_14 : vp_in p2 4 := by first | with_reducible assumption | exact in_name (by with_reducible assumption) | exact in4_4 (by with_reducible assumption) | exact in4_5 (by with_reducible assumption) | exact in4_6 (by with_reducible assumption) | exact in4_7 (by with_reducible assumption)
                have hPc := hP.sub (ws' := (wM kf qf v.2.1)) [8, 9, 10, 11, 12, 13] rfl
                have hDc := hD.sub (ws' := (wM kf qf v.2.1)) [8, 9, 10, 11, 12, 13] (by decide) rfl
                have hFc := va_free (wc := (wM kf qf v.2.1)) hD hS hA [8, 9, 10, 11, 12, 13] rfl
                refine va_callv (va_runV (As := [.int p1, .int p2, .int p3, .int (0 : Int32)]) (rest := []) ⟨hx, hb, hml, hown, hts⟩ (c_M_put l dC dI kf qf H.size v.2.1  p1 p2 p3 (0 : Int32) hq_13 hq_14) (cwV 4 hts k_g63 rfl rfl rfl (by decide +kernel) ⟨Nat.le_of_ble_eq_true rfl, Nat.le_of_ble_eq_true rfl⟩) ⟨fb_mu, va_recv hK hP (ci := 1) (q0 := 8) rfl rfl, fun U hU hW => ⟨rfl, by rw [hU], by rw [hU]; exact hPc, va_K.moved hW.alike (hK.sub (tys' := (tM kf)) [6, 7, 8, 9, 10] rfl), NX.warm hW hN, hDc.weaken (fun _ _ _ _ => trivial)⟩⟩ rfl rfl hl.1 rfl (lv_room (Nat.le_of_ble_eq_true rfl)) d_O_field_67 ⟨Nat.zero_le _, Nat.zero_le _⟩) hS (fun q _ h => hFc q h) hFc (fun u t H1 locs ht hvm hpo hB hz1 hk1 hS => ?_)
                subst hpo
                have hB : va_P (dC, dI) classes (wM kf qf (s_M_put v.2.1 p1 p2 p3 (0 : Int32))) H1 := hp_to ht hB
                obtain ⟨hP, hD⟩ := va_join (wr := ([(h0, .inr (2, [.ref (qw 0), .ref (qf 0), .ref (qm 0), .int lc])), (qw 0, .inr (0, [.ref (qw 1), .ref (qw 2), .ref (qw 3), .ref (qw 4), .ref (qw 5), .ref (qw 6), .int (v.1.2 0), .int (v.1.2 1), .int (v.1.2 2), .int (v.1.2 3)])), (qw 1, .inl (kw 0, 13, .inl (v.1.1 0))), (qw 2, .inl (kw 1, 13, .inl (v.1.1 1))), (qw 3, .inl (kw 2, 13, .inl (v.1.1 2))), (qw 4, .inl (kw 3, 13, .inl (v.1.1 3))), (qw 5, .inl (kw 4, 52, .inl (v.1.1 4))), (qw 6, .inl (kw 5, 13, .inl (v.1.1 5))), (qm 0, .inr (1, [.ref (qm 1), .ref (qm 2), .ref (qm 3), .ref (qm 4), .ref (qm 5)])), (qm 1, .inl (km 0, 4, .inl (v.2.2 0))), (qm 2, .inl (km 1, 4, .inl (v.2.2 1))), (qm 3, .inl (km 2, 4, .inl (v.2.2 2))), (qm 4, .inl (km 3, 4, .inl (v.2.2 3))), (qm 5, .inl (km 4, 52, .inl (v.2.2 4)))] : va_W)) (w1 := (wM kf qf (s_M_put v.2.1 p1 p2 p3 (0 : Int32)))) hP hD [8, 9, 10, 11, 12, 13] [0, 1, 2, 3, 4, 5, 6, 7, 14, 15, 16, 17, 18, 19] rfl rfl (by decide) (by decide) hk1 hFc hB (ad_D hDc.self rfl)
                have hP := hP.sub (ws' := (wO h0 kw kf km qw qf qm (v.1, (s_M_put v.2.1 p1 p2 p3 (0 : Int32)), v.2.2) lc)) [0, 1, 2, 3, 4, 5, 6, 7, 14, 15, 16, 17, 18, 19, 8, 9, 10, 11, 12, 13] rfl
                have hD := hD.sub (ws' := (wO h0 kw kf km qw qf qm (v.1, (s_M_put v.2.1 p1 p2 p3 (0 : Int32)), v.2.2) lc)) [0, 1, 2, 3, 4, 5, 6, 7, 14, 15, 16, 17, 18, 19, 8, 9, 10, 11, 12, 13] (by decide) rfl
                generalize H1 = H at hP hS ⊢
                refine lv_iconst (v := (0 : Int32)) hx hb d_O_field_70 (by decide +kernel) ?_
                have hP9 : va_P (dC, dI) classes (wO h0 kw kf km qw qf qm (v.1, (s_M_put v.2.1 p1 p2 p3 (0 : Int32)), v.2.2) lc) H := hP
                exact W.iret (v := (0 : Int32)) hx hb hr (fun t ht hW => ⟨⟨(0 : Int32), (v.1, (s_M_put v.2.1 p1 p2 p3 (0 : Int32)), v.2.2), rfl, ⟨by unfold f_O_field; rw [if_neg c_1, if_neg c_2, if_neg c_3, if_neg c_4, if_pos c_10, if_neg c_11, if_pos c_12], by unfold s_O_field; rw [if_neg c_1, if_neg c_2, if_neg c_3, if_neg c_4, if_pos c_10, if_neg c_11, if_pos c_12]⟩, hp_at ht hP9⟩, hS.F ht⟩) hS.2.2 d_O_field_71
              · have c_12 : ¬ (p4 = (0 : Int32)) := c_12
                refine lv_iconst (v := (1 : Int32)) hx hb d_O_field_62 (by decide +kernel) ?_
                refine lv_goto (tgt := 67) hx hb d_O_field_63 (by decide) ?_
                have hq_15 : vp_in p1 13 := by first | with_reducible assumption | exact in_has hw (by with_reducible assumption) | exact in_cls hw (by with_reducible assumption) | exact in_ifc hw (by with_reducible assumption) | exact in_ext hw (by with_reducible assumption) | exact in_eq0 (by with_reducible assumption) | exact hfd (by with_reducible assumption) | exact in_rcv hw (by with_reducible assumption) (Or.inl (by with_reducible assumption)) | exact in_rcv hw (by with_reducible assumption) (Or.inr (by with_reducible assumption))
                have hq_16 : vp_in p2 4 := by first | with_reducible assumption | exact in_name (by with_reducible assumption) | exact in4_4 (by with_reducible assumption) | exact in4_5 (by with_reducible assumption) | exact in4_6 (by with_reducible assumption) | exact in4_7 (by with_reducible assumption)
                have hPc := hP.sub (ws' := (wM kf qf v.2.1)) [8, 9, 10, 11, 12, 13] rfl
                have hDc := hD.sub (ws' := (wM kf qf v.2.1)) [8, 9, 10, 11, 12, 13] (by decide) rfl
                have hFc := va_free (wc := (wM kf qf v.2.1)) hD hS hA [8, 9, 10, 11, 12, 13] rfl
                refine va_callv (va_runV (As := [.int p1, .int p2, .int p3, .int (1 : Int32)]) (rest := []) ⟨hx, hb, hml, hown, hts⟩ (c_M_put l dC dI kf qf H.size v.2.1  p1 p2 p3 (1 : Int32) hq_15 hq_16) (cwV 4 hts k_g63 rfl rfl rfl (by decide +kernel) ⟨Nat.le_of_ble_eq_true rfl, Nat.le_of_ble_eq_true rfl⟩) ⟨fb_mu, va_recv hK hP (ci := 1) (q0 := 8) rfl rfl, fun U hU hW => ⟨rfl, by rw [hU], by rw [hU]; exact hPc, va_K.moved hW.alike (hK.sub (tys' := (tM kf)) [6, 7, 8, 9, 10] rfl), NX.warm hW hN, hDc.weaken (fun _ _ _ _ => trivial)⟩⟩ rfl rfl hl.1 rfl (lv_room (Nat.le_of_ble_eq_true rfl)) d_O_field_67 ⟨Nat.zero_le _, Nat.zero_le _⟩) hS (fun q _ h => hFc q h) hFc (fun u t H1 locs ht hvm hpo hB hz1 hk1 hS => ?_)
                subst hpo
                have hB : va_P (dC, dI) classes (wM kf qf (s_M_put v.2.1 p1 p2 p3 (1 : Int32))) H1 := hp_to ht hB
                obtain ⟨hP, hD⟩ := va_join (wr := ([(h0, .inr (2, [.ref (qw 0), .ref (qf 0), .ref (qm 0), .int lc])), (qw 0, .inr (0, [.ref (qw 1), .ref (qw 2), .ref (qw 3), .ref (qw 4), .ref (qw 5), .ref (qw 6), .int (v.1.2 0), .int (v.1.2 1), .int (v.1.2 2), .int (v.1.2 3)])), (qw 1, .inl (kw 0, 13, .inl (v.1.1 0))), (qw 2, .inl (kw 1, 13, .inl (v.1.1 1))), (qw 3, .inl (kw 2, 13, .inl (v.1.1 2))), (qw 4, .inl (kw 3, 13, .inl (v.1.1 3))), (qw 5, .inl (kw 4, 52, .inl (v.1.1 4))), (qw 6, .inl (kw 5, 13, .inl (v.1.1 5))), (qm 0, .inr (1, [.ref (qm 1), .ref (qm 2), .ref (qm 3), .ref (qm 4), .ref (qm 5)])), (qm 1, .inl (km 0, 4, .inl (v.2.2 0))), (qm 2, .inl (km 1, 4, .inl (v.2.2 1))), (qm 3, .inl (km 2, 4, .inl (v.2.2 2))), (qm 4, .inl (km 3, 4, .inl (v.2.2 3))), (qm 5, .inl (km 4, 52, .inl (v.2.2 4)))] : va_W)) (w1 := (wM kf qf (s_M_put v.2.1 p1 p2 p3 (1 : Int32)))) hP hD [8, 9, 10, 11, 12, 13] [0, 1, 2, 3, 4, 5, 6, 7, 14, 15, 16, 17, 18, 19] rfl rfl (by decide) (by decide) hk1 hFc hB (ad_D hDc.self rfl)
                have hP := hP.sub (ws' := (wO h0 kw kf km qw qf qm (v.1, (s_M_put v.2.1 p1 p2 p3 (1 : Int32)), v.2.2) lc)) [0, 1, 2, 3, 4, 5, 6, 7, 14, 15, 16, 17, 18, 19, 8, 9, 10, 11, 12, 13] rfl
                have hD := hD.sub (ws' := (wO h0 kw kf km qw qf qm (v.1, (s_M_put v.2.1 p1 p2 p3 (1 : Int32)), v.2.2) lc)) [0, 1, 2, 3, 4, 5, 6, 7, 14, 15, 16, 17, 18, 19, 8, 9, 10, 11, 12, 13] (by decide) rfl
                generalize H1 = H at hP hS ⊢
                refine lv_iconst (v := (0 : Int32)) hx hb d_O_field_70 (by decide +kernel) ?_
                have hP9 : va_P (dC, dI) classes (wO h0 kw kf km qw qf qm (v.1, (s_M_put v.2.1 p1 p2 p3 (1 : Int32)), v.2.2) lc) H := hP
                exact W.iret (v := (0 : Int32)) hx hb hr (fun t ht hW => ⟨⟨(0 : Int32), (v.1, (s_M_put v.2.1 p1 p2 p3 (1 : Int32)), v.2.2), rfl, ⟨by unfold f_O_field; rw [if_neg c_1, if_neg c_2, if_neg c_3, if_neg c_4, if_pos c_10, if_neg c_11, if_neg c_12], by unfold s_O_field; rw [if_neg c_1, if_neg c_2, if_neg c_3, if_neg c_4, if_pos c_10, if_neg c_11, if_neg c_12]⟩, hp_at ht hP9⟩, hS.F ht⟩) hS.2.2 d_O_field_71
            · have c_11 : p4 = (0 : Int32) := c_11
              refine lv_iconst (v := (-1 : Int32)) hx hb d_O_field_48 (by decide +kernel) ?_
              have hP9 : va_P (dC, dI) classes (wO h0 kw kf km qw qf qm v lc) H := hP
              exact W.iret (v := (-1 : Int32)) hx hb hr (fun t ht hW => ⟨⟨(-1 : Int32), v, rfl, ⟨by unfold f_O_field; rw [if_neg c_1, if_neg c_2, if_neg c_3, if_neg c_4, if_pos c_10, if_pos c_11], by unfold s_O_field; rw [if_neg c_1, if_neg c_2, if_neg c_3, if_neg c_4, if_pos c_10, if_pos c_11]⟩, hp_at ht hP9⟩, hS.F ht⟩) hS.2.2 d_O_field_49
      · have c_3 : (f_O_isAccess p3) = (0 : Int32) := c_3
        refine lv_iconst (v := (-1 : Int32)) hx hb d_O_field_25 (by decide +kernel) ?_
        have hP9 : va_P (dC, dI) classes (wO h0 kw kf km qw qf qm v lc) H := hP
        exact W.iret (v := (-1 : Int32)) hx hb hr (fun t ht hW => ⟨⟨(-1 : Int32), v, rfl, ⟨by unfold f_O_field; rw [if_neg c_1, if_neg c_2, if_pos c_3], by unfold s_O_field; rw [if_neg c_1, if_neg c_2, if_pos c_3]⟩, hp_at ht hP9⟩, hS.F ht⟩) hS.2.2 d_O_field_26
