set_option maxHeartbeats 1000000 in
set_option maxRecDepth 100000 in
theorem c_O_tellClass (l : Launch) (dC : Nat → ClassId) (dI : Nat → Nat → Nat) (h0 : Nat) (kw kf km : Nat → ClassId) (qw qf qm : Nat → Nat) (sz : Nat) (v : ES) (lc : Int32) (p1 p2 p3 p4 : Int32) (hw : WF v.1) : Met l y_O_tellClass w_O_tellClass ({ frames := 3, cells := 0, slots := 0, locals := 63 } : Room) (mu_P dC dI (wO h0 kw kf km qw qf qm v lc) (tO kw kf km) sz [.ref h0, .int p1, .int p2, .int p3, .int p4]) (mu_Q (fun (S9 : ES) => (wO h0 kw kf km qw qf qm S9 lc)) dC dI (f_O_tellClass v p1 p2 p3 p4) (s_O_tellClass v p1 p2 p3 p4) (va_A (wO h0 kw kf km qw qf qm v lc) sz)) 0 0 (va_A (wO h0 kw kf km qw qf qm v lc) sz) := by
  refine Met.ofW (cc := b_O_tellClass) (maxL := 5) (ret := (some .int)) (by decide) rfl ?_
  intro p e s m args below meth c s₁ B hml hv
  obtain ⟨rfl, hsz, hP, hK, hN, hD0⟩ := hv
  have hx := B.exec
  have hb := B.bytes
  have hr := B.returns
  have hts := tl_of (atoms_spec (ws := w_O_tellClass) B.pre)
  have hown : s.vm.findClass R_O = some m.cls := findClass_of_methodNamed B.named
  have hlocks := B.notSynchronized
  subst hsz
  have hD := hD0.self (sz := s.heap.size)
  generalize hAe : va_A (wO h0 kw kf km qw qf qm v lc) s.heap.size = A at hD ⊢
  have hA : ∀ q : Nat, s.heap.size ≤ q → A q := fun q h => by rw [← hAe]; exact Or.inr h
  have hS : va_S A s.heap s.heap [] := va_S.rf
  have hl := lv_entry ([.ref h0, .int p1, .int p2, .int p3, .int p4]) (n := 5) (Nat.le_of_ble_eq_true rfl)
  rw [lg_entry_eq]
  generalize (lg_sl ([.ref h0, .int p1, .int p2, .int p3, .int p4]) ++ List.replicate (5 - (lg_sl ([.ref h0, .int p1, .int p2, .int p3, .int p4])).length) Slot.unset).toArray = ls at hl ⊢
  have hl : lv_has ls 5 [(0, .ref h0), (1, .int p1), (2, .int p2), (3, .int p3), (4, .int p4)] := hl
  refine lv_iload_n hx hb d_O_tellClass_0 rfl (lv_at hl 2 rfl) ?_
  refine va_calli (va_runS (As := [.int p2]) (rest := []) ⟨hx, hb, hml, hown, hts⟩ (c_O_isPackage l dC dI  s.heap.size   p2) (cwS 1 hts k_g53 rfl rfl rfl (by decide +kernel) ⟨Nat.le_of_ble_eq_true rfl, Nat.le_of_ble_eq_true rfl⟩) ⟨fb_ro, fun U hU hW => ⟨rfl, by rw [hU], by rw [hU]; exact hP.sub (ws' := ([] : va_W)) [] rfl, va_K.moved hW.alike (hK.sub (tys' := []) [] rfl), NX.warm hW hN⟩⟩ rfl rfl hl.1 rfl (lv_room (Nat.le_of_ble_eq_true rfl)) d_O_tellClass_1 ⟨Nat.zero_le _, Nat.zero_le _⟩) hS (fun z h1 h2 => absurd h1 (Nat.not_lt.mpr h2)) (fun z h => hA z (Nat.le_trans hS.1 h)) (fun r u t H1 locs ht hvm hpo hB hz1 hk1 hS => ?_)
  subst hpo
  have hP := kp_P hP hk1
  generalize H1 = H at hP hS ⊢
  refine lv_if_ne (tgt := 9) hx hb d_O_tellClass_4 (by decide) (fun c_1 => ?_) (fun c_1 => ?_)
  · have c_1 : ¬ ((f_O_isPackage p2) = (0 : Int32)) := c_1
    refine lv_iload_n hx hb d_O_tellClass_9 rfl (lv_at hl 1 rfl) ?_
    refine lv_if_eq (tgt := 26) hx hb d_O_tellClass_10 (by decide) (fun c_2 => ?_) (fun c_2 => ?_)
    · have c_2 : p1 = (0 : Int32) := c_2
      refine lv_aload_n hx hb d_O_tellClass_26 rfl (lv_at hl 0 rfl) ?_
      refine va_get (D := (dC, dI)) (ci := 2) (v := .ref (qw 0)) (C := R_O) (T := F_O) (N := 4) hx hb hts i_O hown hK hP 0 rfl rfl 0 (by decide) (hts _ k_22) (fun _ h9 => h9) rfl d_O_tellClass_27 ?_
      refine va_calli (va_runV (As := []) (rest := []) ⟨hx, hb, hml, hown, hts⟩ (c_W_isFull l dC dI kw qw H.size v.1  ) (cwV 0 hts k_g54 rfl rfl rfl (by decide +kernel) ⟨Nat.le_of_ble_eq_true rfl, Nat.le_of_ble_eq_true rfl⟩) ⟨fb_ro, va_recv hK hP (ci := 0) (q0 := 1) rfl rfl, fun U hU hW => ⟨rfl, by rw [hU], by rw [hU]; exact hP.sub (ws' := (wW kw qw v.1)) [1, 2, 3, 4, 5, 6, 7] rfl, va_K.moved hW.alike (hK.sub (tys' := (tW kw)) [0, 1, 2, 3, 4, 5] rfl), NX.warm hW hN⟩⟩ rfl rfl hl.1 rfl (lv_room (Nat.le_of_ble_eq_true rfl)) d_O_tellClass_30 ⟨Nat.zero_le _, Nat.zero_le _⟩) hS (fun z h1 h2 => absurd h1 (Nat.not_lt.mpr h2)) (fun z h => hA z (Nat.le_trans hS.1 h)) (fun r u t H1 locs ht hvm hpo hB hz1 hk1 hS => ?_)
      subst hpo
      have hP := kp_P hP hk1
      generalize H1 = H at hP hS ⊢
      refine lv_if_eq (tgt := 39) hx hb d_O_tellClass_33 (by decide) (fun c_3 => ?_) (fun c_3 => ?_)
      · have c_3 : (f_W_isFull v.1) = (0 : Int32) := c_3
        refine lv_aload_n hx hb d_O_tellClass_39 rfl (lv_at hl 0 rfl) ?_
        refine va_get (D := (dC, dI)) (ci := 2) (v := .ref (qw 0)) (C := R_O) (T := F_O) (N := 4) hx hb hts i_O hown hK hP 0 rfl rfl 0 (by decide) (hts _ k_22) (fun _ h9 => h9) rfl d_O_tellClass_40 ?_
        refine lv_iload_n hx hb d_O_tellClass_43 rfl (lv_at hl 1 rfl) ?_
        refine lv_iload_n hx hb d_O_tellClass_44 rfl (lv_at hl 2 rfl) ?_
        refine lv_iload_n hx hb d_O_tellClass_45 rfl (lv_at hl 3 rfl) ?_
        refine lv_iload hx hb d_O_tellClass_46 (lv_at hl 4 rfl) ?_
        have hq_4 : vp_in p1 13 := by first | with_reducible assumption | exact in_has hw (by with_reducible assumption) | exact in_cls hw (by with_reducible assumption) | exact in_ifc hw (by with_reducible assumption) | exact in_ext hw (by with_reducible assumption) | exact in_eq0 (by with_reducible assumption) | exact hfd (by with_reducible assumption) | exact in_rcv hw (by with_reducible assumption) (Or.inl (by with_reducible assumption)) | exact in_rcv hw (by with_reducible assumption) (Or.inr (by with_reducible assumption))
        have hq_5 : vp_in ((v.1.2 3) + (1 : Int32)) 13 := by first | with_reducible assumption | exact in_full hw (by with_reducible assumption)
        have hPc := hP.sub (ws' := (wW kw qw v.1)) [1, 2, 3, 4, 5, 6, 7] rfl
        have hDc := hD.sub (ws' := (wW kw qw v.1)) [1, 2, 3, 4, 5, 6, 7] (by decide) rfl
        have hFc := va_free (wc := (wW kw qw v.1)) hD hS hA [1, 2, 3, 4, 5, 6, 7] rfl
        refine va_calli (va_runV (As := [.int p1, .int p2, .int p3, .int p4]) (rest := []) ⟨hx, hb, hml, hown, hts⟩ (c_W_addClass l dC dI kw qw H.size v.1  p1 p2 p3 p4 hq_4 hq_5) (cwV 4 hts k_g55 rfl rfl rfl (by decide +kernel) ⟨Nat.le_of_ble_eq_true rfl, Nat.le_of_ble_eq_true rfl⟩) ⟨fb_mu, va_recv hK hP (ci := 0) (q0 := 1) rfl rfl, fun U hU hW => ⟨rfl, by rw [hU], by rw [hU]; exact hPc, va_K.moved hW.alike (hK.sub (tys' := (tW kw)) [0, 1, 2, 3, 4, 5] rfl), NX.warm hW hN, hDc.weaken (fun _ _ _ _ => trivial)⟩⟩ rfl rfl hl.1 rfl (lv_room (Nat.le_of_ble_eq_true rfl)) d_O_tellClass_48 ⟨Nat.zero_le _, Nat.zero_le _⟩) hS (fun q _ h => hFc q h) hFc (fun r u t H1 locs ht hvm hpo hB hz1 hk1 hS => ?_)
        obtain ⟨rfl, rfl⟩ := hpo
        have hB : va_P (dC, dI) classes (wW kw qw (s_W_addClass v.1 p1 p2 p3 p4)) H1 := hp_to ht hB
        obtain ⟨hP, hD⟩ := va_join (wr := ([(h0, .inr (2, [.ref (qw 0), .ref (qf 0), .ref (qm 0), .int lc])), (qf 0, .inr (1, [.ref (qf 1), .ref (qf 2), .ref (qf 3), .ref (qf 4), .ref (qf 5)])), (qf 1, .inl (kf 0, 4, .inl (v.2.1 0))), (qf 2, .inl (kf 1, 4, .inl (v.2.1 1))), (qf 3, .inl (kf 2, 4, .inl (v.2.1 2))), (qf 4, .inl (kf 3, 4, .inl (v.2.1 3))), (qf 5, .inl (kf 4, 52, .inl (v.2.1 4))), (qm 0, .inr (1, [.ref (qm 1), .ref (qm 2), .ref (qm 3), .ref (qm 4), .ref (qm 5)])), (qm 1, .inl (km 0, 4, .inl (v.2.2 0))), (qm 2, .inl (km 1, 4, .inl (v.2.2 1))), (qm 3, .inl (km 2, 4, .inl (v.2.2 2))), (qm 4, .inl (km 3, 4, .inl (v.2.2 3))), (qm 5, .inl (km 4, 52, .inl (v.2.2 4)))] : va_W)) (w1 := (wW kw qw (s_W_addClass v.1 p1 p2 p3 p4))) hP hD [1, 2, 3, 4, 5, 6, 7] [0, 8, 9, 10, 11, 12, 13, 14, 15, 16, 17, 18, 19] rfl rfl (by decide) (by decide) hk1 hFc hB (ad_D hDc.self rfl)
        have hP := hP.sub (ws' := (wO h0 kw kf km qw qf qm ((s_W_addClass v.1 p1 p2 p3 p4), v.2.1, v.2.2) lc)) [0, 13, 14, 15, 16, 17, 18, 19, 1, 2, 3, 4, 5, 6, 7, 8, 9, 10, 11, 12] rfl
        have hD := hD.sub (ws' := (wO h0 kw kf km qw qf qm ((s_W_addClass v.1 p1 p2 p3 p4), v.2.1, v.2.2) lc)) [0, 13, 14, 15, 16, 17, 18, 19, 1, 2, 3, 4, 5, 6, 7, 8, 9, 10, 11, 12] (by decide) rfl
        generalize H1 = H at hP hS ⊢
        have hP9 : va_P (dC, dI) classes (wO h0 kw kf km qw qf qm ((s_W_addClass v.1 p1 p2 p3 p4), v.2.1, v.2.2) lc) H := hP
        exact W.iret (v := (f_W_addClass v.1 p1 p2 p3 p4)) hx hb hr (fun t ht hW => ⟨⟨(f_W_addClass v.1 p1 p2 p3 p4), ((s_W_addClass v.1 p1 p2 p3 p4), v.2.1, v.2.2), rfl, ⟨by unfold f_O_tellClass; rw [if_neg c_1, if_pos c_2, if_pos c_3], by unfold s_O_tellClass; rw [if_neg c_1, if_pos c_2, if_pos c_3]⟩, hp_at ht hP9⟩, hS.F ht⟩) hS.2.2 d_O_tellClass_51
      · have c_3 : ¬ ((f_W_isFull v.1) = (0 : Int32)) := c_3
        refine lv_bipush (v := (-2 : Int32)) hx hb d_O_tellClass_36 (by decide +kernel) ?_
        have hP9 : va_P (dC, dI) classes (wO h0 kw kf km qw qf qm v lc) H := hP
        exact W.iret (v := (-2 : Int32)) hx hb hr (fun t ht hW => ⟨⟨(-2 : Int32), v, rfl, ⟨by unfold f_O_tellClass; rw [if_neg c_1, if_pos c_2, if_neg c_3], by unfold s_O_tellClass; rw [if_neg c_1, if_pos c_2, if_neg c_3]⟩, hp_at ht hP9⟩, hS.F ht⟩) hS.2.2 d_O_tellClass_38
    · have c_2 : ¬ (p1 = (0 : Int32)) := c_2
      refine lv_aload_n hx hb d_O_tellClass_13 rfl (lv_at hl 0 rfl) ?_
      refine va_get (D := (dC, dI)) (ci := 2) (v := .ref (qw 0)) (C := R_O) (T := F_O) (N := 4) hx hb hts i_O hown hK hP 0 rfl rfl 0 (by decide) (hts _ k_22) (fun _ h9 => h9) rfl d_O_tellClass_14 ?_
      refine lv_iload_n hx hb d_O_tellClass_17 rfl (lv_at hl 1 rfl) ?_
      refine va_calli (va_runV (As := [.int p1]) (rest := []) ⟨hx, hb, hml, hown, hts⟩ (c_W_mayBeExtended l dC dI kw qw H.size v.1  p1) (cwV 1 hts k_g56 rfl rfl rfl (by decide +kernel) ⟨Nat.le_of_ble_eq_true rfl, Nat.le_of_ble_eq_true rfl⟩) ⟨fb_ro, va_recv hK hP (ci := 0) (q0 := 1) rfl rfl, fun U hU hW => ⟨rfl, by rw [hU], by rw [hU]; exact hP.sub (ws' := (wW kw qw v.1)) [1, 2, 3, 4, 5, 6, 7] rfl, va_K.moved hW.alike (hK.sub (tys' := (tW kw)) [0, 1, 2, 3, 4, 5] rfl), NX.warm hW hN⟩⟩ rfl rfl hl.1 rfl (lv_room (Nat.le_of_ble_eq_true rfl)) d_O_tellClass_18 ⟨Nat.zero_le _, Nat.zero_le _⟩) hS (fun z h1 h2 => absurd h1 (Nat.not_lt.mpr h2)) (fun z h => hA z (Nat.le_trans hS.1 h)) (fun r u t H1 locs ht hvm hpo hB hz1 hk1 hS => ?_)
      subst hpo
      have hP := kp_P hP hk1
      generalize H1 = H at hP hS ⊢
      refine lv_if_ne (tgt := 26) hx hb d_O_tellClass_21 (by decide) (fun c_6 => ?_) (fun c_6 => ?_)
      · have c_6 : ¬ ((f_W_mayBeExtended v.1 p1) = (0 : Int32)) := c_6
        refine lv_aload_n hx hb d_O_tellClass_26 rfl (lv_at hl 0 rfl) ?_
        refine va_get (D := (dC, dI)) (ci := 2) (v := .ref (qw 0)) (C := R_O) (T := F_O) (N := 4) hx hb hts i_O hown hK hP 0 rfl rfl 0 (by decide) (hts _ k_22) (fun _ h9 => h9) rfl d_O_tellClass_27 ?_
        refine va_calli (va_runV (As := []) (rest := []) ⟨hx, hb, hml, hown, hts⟩ (c_W_isFull l dC dI kw qw H.size v.1  ) (cwV 0 hts k_g54 rfl rfl rfl (by decide +kernel) ⟨Nat.le_of_ble_eq_true rfl, Nat.le_of_ble_eq_true rfl⟩) ⟨fb_ro, va_recv hK hP (ci := 0) (q0 := 1) rfl rfl, fun U hU hW => ⟨rfl, by rw [hU], by rw [hU]; exact hP.sub (ws' := (wW kw qw v.1)) [1, 2, 3, 4, 5, 6, 7] rfl, va_K.moved hW.alike (hK.sub (tys' := (tW kw)) [0, 1, 2, 3, 4, 5] rfl), NX.warm hW hN⟩⟩ rfl rfl hl.1 rfl (lv_room (Nat.le_of_ble_eq_true rfl)) d_O_tellClass_30 ⟨Nat.zero_le _, Nat.zero_le _⟩) hS (fun z h1 h2 => absurd h1 (Nat.not_lt.mpr h2)) (fun z h => hA z (Nat.le_trans hS.1 h)) (fun r u t H1 locs ht hvm hpo hB hz1 hk1 hS => ?_)
        subst hpo
        have hP := kp_P hP hk1
        generalize H1 = H at hP hS ⊢
        refine lv_if_eq (tgt := 39) hx hb d_O_tellClass_33 (by decide) (fun c_7 => ?_) (fun c_7 => ?_)
        · have c_7 : (f_W_isFull v.1) = (0 : Int32) := c_7
          refine lv_aload_n hx hb d_O_tellClass_39 rfl (lv_at hl 0 rfl) ?_
          refine va_get (D := (dC, dI)) (ci := 2) (v := .ref (qw 0)) (C := R_O) (T := F_O) (N := 4) hx hb hts i_O hown hK hP 0 rfl rfl 0 (by decide) (hts _ k_22) (fun _ h9 => h9) rfl d_O_tellClass_40 ?_
          refine lv_iload_n hx hb d_O_tellClass_43 rfl (lv_at hl 1 rfl) ?_
          refine lv_iload_n hx hb d_O_tellClass_44 rfl (lv_at hl 2 rfl) ?_
          refine lv_iload_n hx hb d_O_tellClass_45 rfl (lv_at hl 3 rfl) ?_
          refine lv_iload hx hb d_O_tellClass_46 (lv_at hl 4 rfl) ?_
          have hq_8 : vp_in p1 13 := by first | with_reducible assumption | exact in_has hw (by with_reducible assumption) | exact in_cls hw (by with_reducible assumption) | exact in_ifc hw (by with_reducible assumption) | exact in_ext hw (by with_reducible assumption) | exact in_eq0 (by with_reducible assumption) | exact hfd (by with_reducible assumption) | exact in_rcv hw (by with_reducible assumption) (Or.inl (by with_reducible assumption)) | exact in_rcv hw (by with_reducible assumption) (Or.inr (by with_reducible assumption))
          have hq_9 : vp_in ((v.1.2 3) + (1 : Int32)) 13 := by first | with_reducible assumption | exact in_full hw (by with_reducible assumption)
          have hPc := hP.sub (ws' := (wW kw qw v.1)) [1, 2, 3, 4, 5, 6, 7] rfl
          have hDc := hD.sub (ws' := (wW kw qw v.1)) [1, 2, 3, 4, 5, 6, 7] (by decide) rfl
          have hFc := va_free (wc := (wW kw qw v.1)) hD hS hA [1, 2, 3, 4, 5, 6, 7] rfl
          refine va_calli (va_runV (As := [.int p1, .int p2, .int p3, .int p4]) (rest := []) ⟨hx, hb, hml, hown, hts⟩ (c_W_addClass l dC dI kw qw H.size v.1  p1 p2 p3 p4 hq_8 hq_9) (cwV 4 hts k_g55 rfl rfl rfl (by decide +kernel) ⟨Nat.le_of_ble_eq_true rfl, Nat.le_of_ble_eq_true rfl⟩) ⟨fb_mu, va_recv hK hP (ci := 0) (q0 := 1) rfl rfl, fun U hU hW => ⟨rfl, by rw [hU], by rw [hU]; exact hPc, va_K.moved hW.alike (hK.sub (tys' := (tW kw)) [0, 1, 2, 3, 4, 5] rfl), NX.warm hW hN, hDc.weaken (fun _ _ _ _ => trivial)⟩⟩ rfl rfl hl.1 rfl (lv_room (Nat.le_of_ble_eq_true rfl)) d_O_tellClass_48 ⟨Nat.zero_le _, Nat.zero_le _⟩) hS (fun q _ h => hFc q h) hFc (fun r u t H1 locs ht hvm hpo hB hz1 hk1 hS => ?_)
          obtain ⟨rfl, rfl⟩ := hpo
          have hB : va_P (dC, dI) classes (wW kw qw (s_W_addClass v.1 p1 p2 p3 p4)) H1 := hp_to ht hB
          obtain ⟨hP, hD⟩ := va_join (wr := ([(h0, .inr (2, [.ref (qw 0), .ref (qf 0), .ref (qm 0), .int lc])), (qf 0, .inr (1, [.ref (qf 1), .ref (qf 2), .ref (qf 3), .ref (qf 4), .ref (qf 5)])), (qf 1, .inl (kf 0, 4, .inl (v.2.1 0))), (qf 2, .inl (kf 1, 4, .inl (v.2.1 1))), (qf 3, .inl (kf 2, 4, .inl (v.2.1 2))), (qf 4, .inl (kf 3, 4, .inl (v.2.1 3))), (qf 5, .inl (kf 4, 52, .inl (v.2.1 4))), (qm 0, .inr (1, [.ref (qm 1), .ref (qm 2), .ref (qm 3), .ref (qm 4), .ref (qm 5)])), (qm 1, .inl (km 0, 4, .inl (v.2.2 0))), (qm 2, .inl (km 1, 4, .inl (v.2.2 1))), (qm 3, .inl (km 2, 4, .inl (v.2.2 2))), (qm 4, .inl (km 3, 4, .inl (v.2.2 3))), (qm 5, .inl (km 4, 52, .inl (v.2.2 4)))] : va_W)) (w1 := (wW kw qw (s_W_addClass v.1 p1 p2 p3 p4))) hP hD [1, 2, 3, 4, 5, 6, 7] [0, 8, 9, 10, 11, 12, 13, 14, 15, 16, 17, 18, 19] rfl rfl (by decide) (by decide) hk1 hFc hB (ad_D hDc.self rfl)
          have hP := hP.sub (ws' := (wO h0 kw kf km qw qf qm ((s_W_addClass v.1 p1 p2 p3 p4), v.2.1, v.2.2) lc)) [0, 13, 14, 15, 16, 17, 18, 19, 1, 2, 3, 4, 5, 6, 7, 8, 9, 10, 11, 12] rfl
          have hD := hD.sub (ws' := (wO h0 kw kf km qw qf qm ((s_W_addClass v.1 p1 p2 p3 p4), v.2.1, v.2.2) lc)) [0, 13, 14, 15, 16, 17, 18, 19, 1, 2, 3, 4, 5, 6, 7, 8, 9, 10, 11, 12] (by decide) rfl
          generalize H1 = H at hP hS ⊢
          have hP9 : va_P (dC, dI) classes (wO h0 kw kf km qw qf qm ((s_W_addClass v.1 p1 p2 p3 p4), v.2.1, v.2.2) lc) H := hP
          exact W.iret (v := (f_W_addClass v.1 p1 p2 p3 p4)) hx hb hr (fun t ht hW => ⟨⟨(f_W_addClass v.1 p1 p2 p3 p4), ((s_W_addClass v.1 p1 p2 p3 p4), v.2.1, v.2.2), rfl, ⟨by unfold f_O_tellClass; rw [if_neg c_1, if_neg c_2, if_neg c_6, if_pos c_7], by unfold s_O_tellClass; rw [if_neg c_1, if_neg c_2, if_neg c_6, if_pos c_7]⟩, hp_at ht hP9⟩, hS.F ht⟩) hS.2.2 d_O_tellClass_51
        · have c_7 : ¬ ((f_W_isFull v.1) = (0 : Int32)) := c_7
          refine lv_bipush (v := (-2 : Int32)) hx hb d_O_tellClass_36 (by decide +kernel) ?_
          have hP9 : va_P (dC, dI) classes (wO h0 kw kf km qw qf qm v lc) H := hP
          exact W.iret (v := (-2 : Int32)) hx hb hr (fun t ht hW => ⟨⟨(-2 : Int32), v, rfl, ⟨by unfold f_O_tellClass; rw [if_neg c_1, if_neg c_2, if_neg c_6, if_neg c_7], by unfold s_O_tellClass; rw [if_neg c_1, if_neg c_2, if_neg c_6, if_neg c_7]⟩, hp_at ht hP9⟩, hS.F ht⟩) hS.2.2 d_O_tellClass_38
      · have c_6 : (f_W_mayBeExtended v.1 p1) = (0 : Int32) := c_6
        refine lv_iconst (v := (-1 : Int32)) hx hb d_O_tellClass_24 (by decide +kernel) ?_
        have hP9 : va_P (dC, dI) classes (wO h0 kw kf km qw qf qm v lc) H := hP
        exact W.iret (v := (-1 : Int32)) hx hb hr (fun t ht hW => ⟨⟨(-1 : Int32), v, rfl, ⟨by unfold f_O_tellClass; rw [if_neg c_1, if_neg c_2, if_pos c_6], by unfold s_O_tellClass; rw [if_neg c_1, if_neg c_2, if_pos c_6]⟩, hp_at ht hP9⟩, hS.F ht⟩) hS.2.2 d_O_tellClass_25
  · have c_1 : (f_O_isPackage p2) = (0 : Int32) := c_1
    refine lv_iconst (v := (-1 : Int32)) hx hb d_O_tellClass_7 (by decide +kernel) ?_
    have hP9 : va_P (dC, dI) classes (wO h0 kw kf km qw qf qm v lc) H := hP
    exact W.iret (v := (-1 : Int32)) hx hb hr (fun t ht hW => ⟨⟨(-1 : Int32), v, rfl, ⟨by unfold f_O_tellClass; rw [if_pos c_1], by unfold s_O_tellClass; rw [if_pos c_1]⟩, hp_at ht hP9⟩, hS.F ht⟩) hS.2.2 d_O_tellClass_8
