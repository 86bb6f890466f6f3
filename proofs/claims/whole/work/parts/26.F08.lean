set_option maxHeartbeats 1000000 in
set_option maxRecDepth 100000 in
theorem c_O_invoke (l : Launch) (dC : Nat → ClassId) (dI : Nat → Nat → Nat) (h0 : Nat) (kw kf km : Nat → ClassId) (qw qf qm : Nat → Nat) (sz : Nat) (v : ES) (lc : Int32) (p1 p2 p3 p4 p5 : Int32) (hw : WF v.1) : Met l y_O_invoke w_O_invoke ({ frames := 6, cells := 0, slots := 0, locals := 148 } : Room) (mu_P dC dI (wO h0 kw kf km qw qf qm v lc) (tO kw kf km) sz [.ref h0, .int p1, .int p2, .int p3, .int p4, .int p5]) (mu_Q (fun (S9 : Int32) => (wO h0 kw kf km qw qf qm v S9)) dC dI (f_O_invoke v lc p1 p2 p3 p4 p5) (s_O_invoke v lc p1 p2 p3 p4 p5) (va_A (wO h0 kw kf km qw qf qm v lc) sz)) 0 0 (va_A (wO h0 kw kf km qw qf qm v lc) sz) := by
  refine Met.ofW (cc := b_O_invoke) (maxL := 6) (ret := (some .int)) (by decide) rfl ?_
  intro p e s m args below meth c s₁ B hml hv
  obtain ⟨rfl, hsz, hP, hK, hN, hD0⟩ := hv
  have hx := B.exec
  have hb := B.bytes
  have hr := B.returns
  have hts := tl_of (atoms_spec (ws := w_O_invoke) B.pre)
  have hown : s.vm.findClass R_O = some m.cls := findClass_of_methodNamed B.named
  have hlocks := B.notSynchronized
  subst hsz
  have hD := hD0.self (sz := s.heap.size)
  generalize hAe : va_A (wO h0 kw kf km qw qf qm v lc) s.heap.size = A at hD ⊢
  have hA : ∀ q : Nat, s.heap.size ≤ q → A q := fun q h => by rw [← hAe]; exact Or.inr h
  have hS : va_S A s.heap s.heap [] := va_S.rf
  have hl := lv_entry ([.ref h0, .int p1, .int p2, .int p3, .int p4, .int p5]) (n := 6) (Nat.le_of_ble_eq_true rfl)
  rw [lg_entry_eq]
  generalize (lg_sl ([.ref h0, .int p1, .int p2, .int p3, .int p4, .int p5]) ++ List.replicate (6 - (lg_sl ([.ref h0, .int p1, .int p2, .int p3, .int p4, .int p5])).length) Slot.unset).toArray = ls at hl ⊢
  have hl : lv_has ls 6 [(0, .ref h0), (1, .int p1), (2, .int p2), (3, .int p3), (4, .int p4), (5, .int p5)] := hl
  refine lv_aload_n hx hb d_O_invoke_0 rfl (lv_at hl 0 rfl) ?_
  refine va_get (D := (dC, dI)) (ci := 2) (v := .ref (qw 0)) (C := R_O) (T := F_O) (N := 4) hx hb hts i_O hown hK hP 0 rfl rfl 0 (by decide) (hts _ k_22) (fun _ h9 => h9) rfl d_O_invoke_1 ?_
  refine lv_iload_n hx hb d_O_invoke_4 rfl (lv_at hl 2 rfl) ?_
  refine va_calli (va_runV (As := [.int p2]) (rest := []) ⟨hx, hb, hml, hown, hts⟩ (c_W_has l dC dI kw qw s.heap.size v.1  p2) (cwV 1 hts k_g41 rfl rfl rfl (by decide +kernel) ⟨Nat.le_of_ble_eq_true rfl, Nat.le_of_ble_eq_true rfl⟩) ⟨fb_ro, va_recv hK hP (ci := 0) (q0 := 1) rfl rfl, fun U hU hW => ⟨rfl, by rw [hU], by rw [hU]; exact hP.sub (ws' := (wW kw qw v.1)) [1, 2, 3, 4, 5, 6, 7] rfl, va_K.moved hW.alike (hK.sub (tys' := (tW kw)) [0, 1, 2, 3, 4, 5] rfl), NX.warm hW hN⟩⟩ rfl rfl hl.1 rfl (lv_room (Nat.le_of_ble_eq_true rfl)) d_O_invoke_5 ⟨Nat.zero_le _, Nat.zero_le _⟩) hS (fun z h1 h2 => absurd h1 (Nat.not_lt.mpr h2)) (fun z h => hA z (Nat.le_trans hS.1 h)) (fun r u t H1 locs ht hvm hpo hB hz1 hk1 hS => ?_)
  subst hpo
  have hP := kp_P hP hk1
  generalize H1 = H at hP hS ⊢
  refine lv_if_eq (tgt := 30) hx hb d_O_invoke_8 (by decide) (fun c_1 => ?_) (fun c_1 => ?_)
  · have c_1 : (f_W_has v.1 p2) = (0 : Int32) := c_1
    refine lv_iconst (v := (-1 : Int32)) hx hb d_O_invoke_30 (by decide +kernel) ?_
    have hP9 : va_P (dC, dI) classes (wO h0 kw kf km qw qf qm v lc) H := hP
    exact W.iret (v := (-1 : Int32)) hx hb hr (fun t ht hW => ⟨⟨(-1 : Int32), lc, rfl, ⟨by unfold f_O_invoke; rw [if_pos c_1], by unfold s_O_invoke; rw [if_pos c_1]⟩, hp_at ht hP9⟩, hS.F ht⟩) hS.2.2 d_O_invoke_31
  · have c_1 : ¬ ((f_W_has v.1 p2) = (0 : Int32)) := c_1
    refine lv_aload_n hx hb d_O_invoke_11 rfl (lv_at hl 0 rfl) ?_
    refine va_get (D := (dC, dI)) (ci := 2) (v := .ref (qw 0)) (C := R_O) (T := F_O) (N := 4) hx hb hts i_O hown hK hP 0 rfl rfl 0 (by decide) (hts _ k_22) (fun _ h9 => h9) rfl d_O_invoke_12 ?_
    refine lv_iload_n hx hb d_O_invoke_15 rfl (lv_at hl 3 rfl) ?_
    refine va_calli (va_runV (As := [.int p3]) (rest := []) ⟨hx, hb, hml, hown, hts⟩ (c_W_has l dC dI kw qw H.size v.1  p3) (cwV 1 hts k_g41 rfl rfl rfl (by decide +kernel) ⟨Nat.le_of_ble_eq_true rfl, Nat.le_of_ble_eq_true rfl⟩) ⟨fb_ro, va_recv hK hP (ci := 0) (q0 := 1) rfl rfl, fun U hU hW => ⟨rfl, by rw [hU], by rw [hU]; exact hP.sub (ws' := (wW kw qw v.1)) [1, 2, 3, 4, 5, 6, 7] rfl, va_K.moved hW.alike (hK.sub (tys' := (tW kw)) [0, 1, 2, 3, 4, 5] rfl), NX.warm hW hN⟩⟩ rfl rfl hl.1 rfl (lv_room (Nat.le_of_ble_eq_true rfl)) d_O_invoke_16 ⟨Nat.zero_le _, Nat.zero_le _⟩) hS (fun z h1 h2 => absurd h1 (Nat.not_lt.mpr h2)) (fun z h => hA z (Nat.le_trans hS.1 h)) (fun r u t H1 locs ht hvm hpo hB hz1 hk1 hS => ?_)
    subst hpo
    have hP := kp_P hP hk1
    generalize H1 = H at hP hS ⊢
    refine lv_if_eq (tgt := 30) hx hb d_O_invoke_19 (by decide) (fun c_2 => ?_) (fun c_2 => ?_)
    · have c_2 : (f_W_has v.1 p3) = (0 : Int32) := c_2
      refine lv_iconst (v := (-1 : Int32)) hx hb d_O_invoke_30 (by decide +kernel) ?_
      have hP9 : va_P (dC, dI) classes (wO h0 kw kf km qw qf qm v lc) H := hP
      exact W.iret (v := (-1 : Int32)) hx hb hr (fun t ht hW => ⟨⟨(-1 : Int32), lc, rfl, ⟨by unfold f_O_invoke; rw [if_neg c_1, if_pos c_2], by unfold s_O_invoke; rw [if_neg c_1, if_pos c_2]⟩, hp_at ht hP9⟩, hS.F ht⟩) hS.2.2 d_O_invoke_31
    · have c_2 : ¬ ((f_W_has v.1 p3) = (0 : Int32)) := c_2
      refine lv_iload hx hb d_O_invoke_22 (lv_at hl 4 rfl) ?_
      refine va_calli (va_runS (As := [.int p4]) (rest := []) ⟨hx, hb, hml, hown, hts⟩ (c_O_isName l dC dI  H.size   p4) (cwS 1 hts k_g42 rfl rfl rfl (by decide +kernel) ⟨Nat.le_of_ble_eq_true rfl, Nat.le_of_ble_eq_true rfl⟩) ⟨fb_ro, fun U hU hW => ⟨rfl, by rw [hU], by rw [hU]; exact hP.sub (ws' := ([] : va_W)) [] rfl, va_K.moved hW.alike (hK.sub (tys' := []) [] rfl), NX.warm hW hN⟩⟩ rfl rfl hl.1 rfl (lv_room (Nat.le_of_ble_eq_true rfl)) d_O_invoke_24 ⟨Nat.zero_le _, Nat.zero_le _⟩) hS (fun z h1 h2 => absurd h1 (Nat.not_lt.mpr h2)) (fun z h => hA z (Nat.le_trans hS.1 h)) (fun r u t H1 locs ht hvm hpo hB hz1 hk1 hS => ?_)
      subst hpo
      have hP := kp_P hP hk1
      generalize H1 = H at hP hS ⊢
      refine lv_if_ne (tgt := 32) hx hb d_O_invoke_27 (by decide) (fun c_3 => ?_) (fun c_3 => ?_)
      · have c_3 : ¬ ((f_O_isName p4) = (0 : Int32)) := c_3
        refine lv_aload_n hx hb d_O_invoke_32 rfl (lv_at hl 0 rfl) ?_
        refine lv_iload_n hx hb d_O_invoke_33 rfl (lv_at hl 1 rfl) ?_
        refine lv_iload_n hx hb d_O_invoke_34 rfl (lv_at hl 2 rfl) ?_
        refine lv_iload_n hx hb d_O_invoke_35 rfl (lv_at hl 3 rfl) ?_
        refine lv_iload hx hb d_O_invoke_36 (lv_at hl 5 rfl) ?_
        have hq_4 : WF v.1 := by first | with_reducible assumption | exact hw
        have hq_5 : vp_in p2 13 := by first | with_reducible assumption | exact in_has hw (by with_reducible assumption) | exact in_cls hw (by with_reducible assumption) | exact in_ifc hw (by with_reducible assumption) | exact in_ext hw (by with_reducible assumption) | exact in_eq0 (by with_reducible assumption) | exact hfd (by with_reducible assumption) | exact in_rcv hw (by with_reducible assumption) (Or.inl (by with_reducible assumption)) | exact in_rcv hw (by with_reducible assumption) (Or.inr (by with_reducible assumption))
        have hq_6 : vp_in p3 13 := by first | with_reducible assumption | exact in_has hw (by with_reducible assumption) | exact in_cls hw (by with_reducible assumption) | exact in_ifc hw (by with_reducible assumption) | exact in_ext hw (by with_reducible assumption) | exact in_eq0 (by with_reducible assumption) | exact hfd (by with_reducible assumption) | exact in_rcv hw (by with_reducible assumption) (Or.inl (by with_reducible assumption)) | exact in_rcv hw (by with_reducible assumption) (Or.inr (by with_reducible assumption))
        refine va_calli (va_runV (As := [.int p1, .int p2, .int p3, .int p5]) (rest := []) ⟨hx, hb, hml, hown, hts⟩ (c_O_isReceiver l dC dI h0 kw kf km qw qf qm H.size v lc p1 p2 p3 p5 hq_4 hq_5 hq_6) (cwV 4 hts k_g48 rfl rfl rfl (by decide +kernel) ⟨Nat.le_of_ble_eq_true rfl, Nat.le_of_ble_eq_true rfl⟩) ⟨fb_ro, va_recv hK hP (ci := 2) (q0 := 0) rfl rfl, fun U hU hW => ⟨rfl, by rw [hU], by rw [hU]; exact hP.sub (ws' := (wO h0 kw kf km qw qf qm v lc)) [0, 1, 2, 3, 4, 5, 6, 7, 8, 9, 10, 11, 12, 13, 14, 15, 16, 17, 18, 19] rfl, va_K.moved hW.alike (hK.sub (tys' := (tO kw kf km)) [0, 1, 2, 3, 4, 5, 6, 7, 8, 9, 10, 11, 12, 13, 14, 15] rfl), NX.warm hW hN⟩⟩ rfl rfl hl.1 rfl (lv_room (Nat.le_of_ble_eq_true rfl)) d_O_invoke_38 ⟨Nat.zero_le _, Nat.zero_le _⟩) hS (fun z h1 h2 => absurd h1 (Nat.not_lt.mpr h2)) (fun z h => hA z (Nat.le_trans hS.1 h)) (fun r u t H1 locs ht hvm hpo hB hz1 hk1 hS => ?_)
        subst hpo
        have hP := kp_P hP hk1
        generalize H1 = H at hP hS ⊢
        refine lv_if_ne (tgt := 46) hx hb d_O_invoke_41 (by decide) (fun c_7 => ?_) (fun c_7 => ?_)
        · have c_7 : ¬ ((f_O_isReceiver v p1 p2 p3 p5) = (0 : Int32)) := c_7
          refine lv_iload_n hx hb d_O_invoke_46 rfl (lv_at hl 1 rfl) ?_
          by_cases c_8 : p1 = (0 : Int32)
          · refine lv_tableIn (tgt := 72) (off := 25) hx hb d_O_invoke_47 (by rw [c_8]; decide +kernel) (by rw [c_8]; decide +kernel) (by rw [c_8]; rfl) (by decide) ?_
            refine lv_aload_n hx hb d_O_invoke_72 rfl (lv_at hl 0 rfl) ?_
            refine lv_iload_n hx hb d_O_invoke_73 rfl (lv_at hl 2 rfl) ?_
            refine lv_iload_n hx hb d_O_invoke_74 rfl (lv_at hl 3 rfl) ?_
            refine lv_iload hx hb d_O_invoke_75 (lv_at hl 4 rfl) ?_
            refine lv_iload hx hb d_O_invoke_77 (lv_at hl 5 rfl) ?_
            have hq_9 : WF v.1 := by first | with_reducible assumption | exact hw
            have hq_10 : vp_in p2 13 := by first | with_reducible assumption | exact in_has hw (by with_reducible assumption) | exact in_cls hw (by with_reducible assumption) | exact in_ifc hw (by with_reducible assumption) | exact in_ext hw (by with_reducible assumption) | exact in_eq0 (by with_reducible assumption) | exact hfd (by with_reducible assumption) | exact in_rcv hw (by with_reducible assumption) (Or.inl (by with_reducible assumption)) | exact in_rcv hw (by with_reducible assumption) (Or.inr (by with_reducible assumption))
            have hq_11 : vp_in p3 13 := by first | with_reducible assumption | exact in_has hw (by with_reducible assumption) | exact in_cls hw (by with_reducible assumption) | exact in_ifc hw (by with_reducible assumption) | exact in_ext hw (by with_reducible assumption) | exact in_eq0 (by with_reducible assumption) | exact hfd (by with_reducible assumption) | exact in_rcv hw (by with_reducible assumption) (Or.inl (by with_reducible assumption)) | exact in_rcv hw (by with_reducible assumption) (Or.inr (by with_reducible assumption))
            have hq_12 : vp_in p5 13 := by first | with_reducible assumption | exact in_has hw (by with_reducible assumption) | exact in_cls hw (by with_reducible assumption) | exact in_ifc hw (by with_reducible assumption) | exact in_ext hw (by with_reducible assumption) | exact in_eq0 (by with_reducible assumption) | exact hfd (by with_reducible assumption) | exact in_rcv hw (by with_reducible assumption) (Or.inl (by with_reducible assumption)) | exact in_rcv hw (by with_reducible assumption) (Or.inr (by with_reducible assumption))
            have hq_13 : vp_in p4 4 := by first | with_reducible assumption | exact in_name (by with_reducible assumption) | exact in4_4 (by with_reducible assumption) | exact in4_5 (by with_reducible assumption) | exact in4_6 (by with_reducible assumption) | exact in4_7 (by with_reducible assumption)
            have hPc := hP.sub (ws' := (wO h0 kw kf km qw qf qm v lc)) [0, 1, 2, 3, 4, 5, 6, 7, 8, 9, 10, 11, 12, 13, 14, 15, 16, 17, 18, 19] rfl
            have hDc := hD.sub (ws' := (wO h0 kw kf km qw qf qm v lc)) [0, 1, 2, 3, 4, 5, 6, 7, 8, 9, 10, 11, 12, 13, 14, 15, 16, 17, 18, 19] (by decide) rfl
            have hFc := va_free (wc := (wO h0 kw kf km qw qf qm v lc)) hD hS hA [0, 1, 2, 3, 4, 5, 6, 7, 8, 9, 10, 11, 12, 13, 14, 15, 16, 17, 18, 19] rfl
            refine va_calli (va_runV (As := [.int p2, .int p3, .int p4, .int p5]) (rest := []) ⟨hx, hb, hml, hown, hts⟩ (c_O_invokeVirtual l dC dI h0 kw kf km qw qf qm H.size v lc p2 p3 p4 p5 hq_9 hq_10 hq_11 hq_12 hq_13) (cwV 4 hts k_g49 rfl rfl rfl (by decide +kernel) ⟨Nat.le_of_ble_eq_true rfl, Nat.le_of_ble_eq_true rfl⟩) ⟨fb_mu, va_recv hK hP (ci := 2) (q0 := 0) rfl rfl, fun U hU hW => ⟨rfl, by rw [hU], by rw [hU]; exact hPc, va_K.moved hW.alike (hK.sub (tys' := (tO kw kf km)) [0, 1, 2, 3, 4, 5, 6, 7, 8, 9, 10, 11, 12, 13, 14, 15] rfl), NX.warm hW hN, hDc.weaken (fun _ _ _ _ => trivial)⟩⟩ rfl rfl hl.1 rfl (lv_room (Nat.le_of_ble_eq_true rfl)) d_O_invoke_79 ⟨Nat.zero_le _, Nat.zero_le _⟩) hS (fun q _ h => hFc q h) hFc (fun r u t H1 locs ht hvm hpo hB hz1 hk1 hS => ?_)
            obtain ⟨rfl, rfl⟩ := hpo
            have hB : va_P (dC, dI) classes (wO h0 kw kf km qw qf qm v (s_O_invokeVirtual v p2 p3 p4 p5)) H1 := hp_to ht hB
            obtain ⟨hP, hD⟩ := va_join (wr := ([] : va_W)) (w1 := (wO h0 kw kf km qw qf qm v (s_O_invokeVirtual v p2 p3 p4 p5))) hP hD [0, 1, 2, 3, 4, 5, 6, 7, 8, 9, 10, 11, 12, 13, 14, 15, 16, 17, 18, 19] [] rfl rfl (by decide) (by decide) hk1 hFc hB (ad_D hDc.self rfl)
            have hP := hP.sub (ws' := (wO h0 kw kf km qw qf qm v (s_O_invokeVirtual v p2 p3 p4 p5))) [0, 1, 2, 3, 4, 5, 6, 7, 8, 9, 10, 11, 12, 13, 14, 15, 16, 17, 18, 19] rfl
            have hD := hD.sub (ws' := (wO h0 kw kf km qw qf qm v (s_O_invokeVirtual v p2 p3 p4 p5))) [0, 1, 2, 3, 4, 5, 6, 7, 8, 9, 10, 11, 12, 13, 14, 15, 16, 17, 18, 19] (by decide) rfl
            generalize H1 = H at hP hS ⊢
            have hP9 : va_P (dC, dI) classes (wO h0 kw kf km qw qf qm v (s_O_invokeVirtual v p2 p3 p4 p5)) H := hP
            exact W.iret (v := (f_O_invokeVirtual v p2 p3 p4 p5)) hx hb hr (fun t ht hW => ⟨⟨(f_O_invokeVirtual v p2 p3 p4 p5), (s_O_invokeVirtual v p2 p3 p4 p5), rfl, ⟨by unfold f_O_invoke; rw [if_neg c_1, if_neg c_2, if_neg c_3, if_neg c_7, if_pos c_8], by unfold s_O_invoke; rw [if_neg c_1, if_neg c_2, if_neg c_3, if_neg c_7, if_pos c_8]⟩, hp_at ht hP9⟩, hS.F ht⟩) hS.2.2 d_O_invoke_82
          · skip
            by_cases c_14 : p1 = (1 : Int32)
            · refine lv_tableIn (tgt := 83) (off := 36) hx hb d_O_invoke_47 (by rw [c_14]; decide +kernel) (by rw [c_14]; decide +kernel) (by rw [c_14]; rfl) (by decide) ?_
              refine lv_aload_n hx hb d_O_invoke_83 rfl (lv_at hl 0 rfl) ?_
              refine lv_iload_n hx hb d_O_invoke_84 rfl (lv_at hl 2 rfl) ?_
              refine lv_iload_n hx hb d_O_invoke_85 rfl (lv_at hl 3 rfl) ?_
              refine lv_iload hx hb d_O_invoke_86 (lv_at hl 4 rfl) ?_
              refine lv_iload hx hb d_O_invoke_88 (lv_at hl 5 rfl) ?_
              have hq_15 : WF v.1 := by first | with_reducible assumption | exact hw
              have hq_16 : vp_in p2 13 := by first | with_reducible assumption | exact in_has hw (by with_reducible assumption) | exact in_cls hw (by with_reducible assumption) | exact in_ifc hw (by with_reducible assumption) | exact in_ext hw (by with_reducible assumption) | exact in_eq0 (by with_reducible assumption) | exact hfd (by with_reducible assumption) | exact in_rcv hw (by with_reducible assumption) (Or.inl (by with_reducible assumption)) | exact in_rcv hw (by with_reducible assumption) (Or.inr (by with_reducible assumption))
              have hq_17 : vp_in p3 13 := by first | with_reducible assumption | exact in_has hw (by with_reducible assumption) | exact in_cls hw (by with_reducible assumption) | exact in_ifc hw (by with_reducible assumption) | exact in_ext hw (by with_reducible assumption) | exact in_eq0 (by with_reducible assumption) | exact hfd (by with_reducible assumption) | exact in_rcv hw (by with_reducible assumption) (Or.inl (by with_reducible assumption)) | exact in_rcv hw (by with_reducible assumption) (Or.inr (by with_reducible assumption))
              have hq_18 : vp_in p5 13 := by first | with_reducible assumption | exact in_has hw (by with_reducible assumption) | exact in_cls hw (by with_reducible assumption) | exact in_ifc hw (by with_reducible assumption) | exact in_ext hw (by with_reducible assumption) | exact in_eq0 (by with_reducible assumption) | exact hfd (by with_reducible assumption) | exact in_rcv hw (by with_reducible assumption) (Or.inl (by with_reducible assumption)) | exact in_rcv hw (by with_reducible assumption) (Or.inr (by with_reducible assumption))
              have hq_19 : vp_in p4 4 := by first | with_reducible assumption | exact in_name (by with_reducible assumption) | exact in4_4 (by with_reducible assumption) | exact in4_5 (by with_reducible assumption) | exact in4_6 (by with_reducible assumption) | exact in4_7 (by with_reducible assumption)
              have hPc := hP.sub (ws' := (wO h0 kw kf km qw qf qm v lc)) [0, 1, 2, 3, 4, 5, 6, 7, 8, 9, 10, 11, 12, 13, 14, 15, 16, 17, 18, 19] rfl
              have hDc := hD.sub (ws' := (wO h0 kw kf km qw qf qm v lc)) [0, 1, 2, 3, 4, 5, 6, 7, 8, 9, 10, 11, 12, 13, 14, 15, 16, 17, 18, 19] (by decide) rfl
              have hFc := va_free (wc := (wO h0 kw kf km qw qf qm v lc)) hD hS hA [0, 1, 2, 3, 4, 5, 6, 7, 8, 9, 10, 11, 12, 13, 14, 15, 16, 17, 18, 19] rfl
              refine va_calli (va_runV (As := [.int p2, .int p3, .int p4, .int p5]) (rest := []) ⟨hx, hb, hml, hown, hts⟩ (c_O_invokeInterface l dC dI h0 kw kf km qw qf qm H.size v lc p2 p3 p4 p5 hq_15 hq_16 hq_17 hq_18 hq_19) (cwV 4 hts k_g50 rfl rfl rfl (by decide +kernel) ⟨Nat.le_of_ble_eq_true rfl, Nat.le_of_ble_eq_true rfl⟩) ⟨fb_mu, va_recv hK hP (ci := 2) (q0 := 0) rfl rfl, fun U hU hW => ⟨rfl, by rw [hU], by rw [hU]; exact hPc, va_K.moved hW.alike (hK.sub (tys' := (tO kw kf km)) [0, 1, 2, 3, 4, 5, 6, 7, 8, 9, 10, 11, 12, 13, 14, 15] rfl), NX.warm hW hN, hDc.weaken (fun _ _ _ _ => trivial)⟩⟩ rfl rfl hl.1 rfl (lv_room (Nat.le_of_ble_eq_true rfl)) d_O_invoke_90 ⟨Nat.zero_le _, Nat.zero_le _⟩) hS (fun q _ h => hFc q h) hFc (fun r u t H1 locs ht hvm hpo hB hz1 hk1 hS => ?_)
              obtain ⟨rfl, rfl⟩ := hpo
              have hB : va_P (dC, dI) classes (wO h0 kw kf km qw qf qm v (s_O_invokeInterface v p2 p3 p4 p5)) H1 := hp_to ht hB
              obtain ⟨hP, hD⟩ := va_join (wr := ([] : va_W)) (w1 := (wO h0 kw kf km qw qf qm v (s_O_invokeInterface v p2 p3 p4 p5))) hP hD [0, 1, 2, 3, 4, 5, 6, 7, 8, 9, 10, 11, 12, 13, 14, 15, 16, 17, 18, 19] [] rfl rfl (by decide) (by decide) hk1 hFc hB (ad_D hDc.self rfl)
              have hP := hP.sub (ws' := (wO h0 kw kf km qw qf qm v (s_O_invokeInterface v p2 p3 p4 p5))) [0, 1, 2, 3, 4, 5, 6, 7, 8, 9, 10, 11, 12, 13, 14, 15, 16, 17, 18, 19] rfl
              have hD := hD.sub (ws' := (wO h0 kw kf km qw qf qm v (s_O_invokeInterface v p2 p3 p4 p5))) [0, 1, 2, 3, 4, 5, 6, 7, 8, 9, 10, 11, 12, 13, 14, 15, 16, 17, 18, 19] (by decide) rfl
              generalize H1 = H at hP hS ⊢
              have hP9 : va_P (dC, dI) classes (wO h0 kw kf km qw qf qm v (s_O_invokeInterface v p2 p3 p4 p5)) H := hP
              exact W.iret (v := (f_O_invokeInterface v p2 p3 p4 p5)) hx hb hr (fun t ht hW => ⟨⟨(f_O_invokeInterface v p2 p3 p4 p5), (s_O_invokeInterface v p2 p3 p4 p5), rfl, ⟨by unfold f_O_invoke; rw [if_neg c_1, if_neg c_2, if_neg c_3, if_neg c_7, if_neg c_8, if_pos c_14], by unfold s_O_invoke; rw [if_neg c_1, if_neg c_2, if_neg c_3, if_neg c_7, if_neg c_8, if_pos c_14]⟩, hp_at ht hP9⟩, hS.F ht⟩) hS.2.2 d_O_invoke_93
            · skip
              by_cases c_20 : p1 = (2 : Int32)
              · refine lv_tableIn (tgt := 94) (off := 47) hx hb d_O_invoke_47 (by rw [c_20]; decide +kernel) (by rw [c_20]; decide +kernel) (by rw [c_20]; rfl) (by decide) ?_
                refine lv_aload_n hx hb d_O_invoke_94 rfl (lv_at hl 0 rfl) ?_
                refine lv_iload_n hx hb d_O_invoke_95 rfl (lv_at hl 2 rfl) ?_
                refine lv_iload_n hx hb d_O_invoke_96 rfl (lv_at hl 3 rfl) ?_
                refine lv_iload hx hb d_O_invoke_97 (lv_at hl 4 rfl) ?_
                have hq_21 : WF v.1 := by first | with_reducible assumption | exact hw
                have hq_22 : vp_in p2 13 := by first | with_reducible assumption | exact in_has hw (by with_reducible assumption) | exact in_cls hw (by with_reducible assumption) | exact in_ifc hw (by with_reducible assumption) | exact in_ext hw (by with_reducible assumption) | exact in_eq0 (by with_reducible assumption) | exact hfd (by with_reducible assumption) | exact in_rcv hw (by with_reducible assumption) (Or.inl (by with_reducible assumption)) | exact in_rcv hw (by with_reducible assumption) (Or.inr (by with_reducible assumption))
                have hq_23 : vp_in p3 13 := by first | with_reducible assumption | exact in_has hw (by with_reducible assumption) | exact in_cls hw (by with_reducible assumption) | exact in_ifc hw (by with_reducible assumption) | exact in_ext hw (by with_reducible assumption) | exact in_eq0 (by with_reducible assumption) | exact hfd (by with_reducible assumption) | exact in_rcv hw (by with_reducible assumption) (Or.inl (by with_reducible assumption)) | exact in_rcv hw (by with_reducible assumption) (Or.inr (by with_reducible assumption))
                have hq_24 : vp_in p4 4 := by first | with_reducible assumption | exact in_name (by with_reducible assumption) | exact in4_4 (by with_reducible assumption) | exact in4_5 (by with_reducible assumption) | exact in4_6 (by with_reducible assumption) | exact in4_7 (by with_reducible assumption)
                have hPc := hP.sub (ws' := (wO h0 kw kf km qw qf qm v lc)) [0, 1, 2, 3, 4, 5, 6, 7, 8, 9, 10, 11, 12, 13, 14, 15, 16, 17, 18, 19] rfl
                have hDc := hD.sub (ws' := (wO h0 kw kf km qw qf qm v lc)) [0, 1, 2, 3, 4, 5, 6, 7, 8, 9, 10, 11, 12, 13, 14, 15, 16, 17, 18, 19] (by decide) rfl
                have hFc := va_free (wc := (wO h0 kw kf km qw qf qm v lc)) hD hS hA [0, 1, 2, 3, 4, 5, 6, 7, 8, 9, 10, 11, 12, 13, 14, 15, 16, 17, 18, 19] rfl
                refine va_calli (va_runV (As := [.int p2, .int p3, .int p4]) (rest := []) ⟨hx, hb, hml, hown, hts⟩ (c_O_invokeSpecial l dC dI h0 kw kf km qw qf qm H.size v lc p2 p3 p4 hq_21 hq_22 hq_23 hq_24) (cwV 3 hts k_g51 rfl rfl rfl (by decide +kernel) ⟨Nat.le_of_ble_eq_true rfl, Nat.le_of_ble_eq_true rfl⟩) ⟨fb_mu, va_recv hK hP (ci := 2) (q0 := 0) rfl rfl, fun U hU hW => ⟨rfl, by rw [hU], by rw [hU]; exact hPc, va_K.moved hW.alike (hK.sub (tys' := (tO kw kf km)) [0, 1, 2, 3, 4, 5, 6, 7, 8, 9, 10, 11, 12, 13, 14, 15] rfl), NX.warm hW hN, hDc.weaken (fun _ _ _ _ => trivial)⟩⟩ rfl rfl hl.1 rfl (lv_room (Nat.le_of_ble_eq_true rfl)) d_O_invoke_99 ⟨Nat.zero_le _, Nat.zero_le _⟩) hS (fun q _ h => hFc q h) hFc (fun r u t H1 locs ht hvm hpo hB hz1 hk1 hS => ?_)
                obtain ⟨rfl, rfl⟩ := hpo
                have hB : va_P (dC, dI) classes (wO h0 kw kf km qw qf qm v (s_O_invokeSpecial v p2 p3 p4)) H1 := hp_to ht hB
                obtain ⟨hP, hD⟩ := va_join (wr := ([] : va_W)) (w1 := (wO h0 kw kf km qw qf qm v (s_O_invokeSpecial v p2 p3 p4))) hP hD [0, 1, 2, 3, 4, 5, 6, 7, 8, 9, 10, 11, 12, 13, 14, 15, 16, 17, 18, 19] [] rfl rfl (by decide) (by decide) hk1 hFc hB (ad_D hDc.self rfl)
                have hP := hP.sub (ws' := (wO h0 kw kf km qw qf qm v (s_O_invokeSpecial v p2 p3 p4))) [0, 1, 2, 3, 4, 5, 6, 7, 8, 9, 10, 11, 12, 13, 14, 15, 16, 17, 18, 19] rfl
                have hD := hD.sub (ws' := (wO h0 kw kf km qw qf qm v (s_O_invokeSpecial v p2 p3 p4))) [0, 1, 2, 3, 4, 5, 6, 7, 8, 9, 10, 11, 12, 13, 14, 15, 16, 17, 18, 19] (by decide) rfl
                generalize H1 = H at hP hS ⊢
                have hP9 : va_P (dC, dI) classes (wO h0 kw kf km qw qf qm v (s_O_invokeSpecial v p2 p3 p4)) H := hP
                exact W.iret (v := (f_O_invokeSpecial v p2 p3 p4)) hx hb hr (fun t ht hW => ⟨⟨(f_O_invokeSpecial v p2 p3 p4), (s_O_invokeSpecial v p2 p3 p4), rfl, ⟨by unfold f_O_invoke; rw [if_neg c_1, if_neg c_2, if_neg c_3, if_neg c_7, if_neg c_8, if_neg c_14, if_pos c_20], by unfold s_O_invoke; rw [if_neg c_1, if_neg c_2, if_neg c_3, if_neg c_7, if_neg c_8, if_neg c_14, if_pos c_20]⟩, hp_at ht hP9⟩, hS.F ht⟩) hS.2.2 d_O_invoke_102
              · skip
                refine lv_tableOut (tgt := 103) hx hb d_O_invoke_47 (by have z0 := ne_ti (z := 0) c_8 rfl; have z1 := ne_ti (z := 1) c_14 rfl; have z2 := ne_ti (z := 2) c_20 rfl; omega) (by decide) ?_
                refine lv_aload_n hx hb d_O_invoke_103 rfl (lv_at hl 0 rfl) ?_
                refine lv_iload_n hx hb d_O_invoke_104 rfl (lv_at hl 2 rfl) ?_
                refine lv_iload_n hx hb d_O_invoke_105 rfl (lv_at hl 3 rfl) ?_
                refine lv_iload hx hb d_O_invoke_106 (lv_at hl 4 rfl) ?_
                have hq_25 : WF v.1 := by first | with_reducible assumption | exact hw
                have hq_26 : vp_in p2 13 := by first | with_reducible assumption | exact in_has hw (by with_reducible assumption) | exact in_cls hw (by with_reducible assumption) | exact in_ifc hw (by with_reducible assumption) | exact in_ext hw (by with_reducible assumption) | exact in_eq0 (by with_reducible assumption) | exact hfd (by with_reducible assumption) | exact in_rcv hw (by with_reducible assumption) (Or.inl (by with_reducible assumption)) | exact in_rcv hw (by with_reducible assumption) (Or.inr (by with_reducible assumption))
                have hq_27 : vp_in p3 13 := by first | with_reducible assumption | exact in_has hw (by with_reducible assumption) | exact in_cls hw (by with_reducible assumption) | exact in_ifc hw (by with_reducible assumption) | exact in_ext hw (by with_reducible assumption) | exact in_eq0 (by with_reducible assumption) | exact hfd (by with_reducible assumption) | exact in_rcv hw (by with_reducible assumption) (Or.inl (by with_reducible assumption)) | exact in_rcv hw (by with_reducible assumption) (Or.inr (by with_reducible assumption))
                have hq_28 : vp_in p4 4 := by first | with_reducible assumption | exact in_name (by with_reducible assumption) | exact in4_4 (by with_reducible assumption) | exact in4_5 (by with_reducible assumption) | exact in4_6 (by with_reducible assumption) | exact in4_7 (by with_reducible assumption)
                have hPc := hP.sub (ws' := (wO h0 kw kf km qw qf qm v lc)) [0, 1, 2, 3, 4, 5, 6, 7, 8, 9, 10, 11, 12, 13, 14, 15, 16, 17, 18, 19] rfl
                have hDc := hD.sub (ws' := (wO h0 kw kf km qw qf qm v lc)) [0, 1, 2, 3, 4, 5, 6, 7, 8, 9, 10, 11, 12, 13, 14, 15, 16, 17, 18, 19] (by decide) rfl
                have hFc := va_free (wc := (wO h0 kw kf km qw qf qm v lc)) hD hS hA [0, 1, 2, 3, 4, 5, 6, 7, 8, 9, 10, 11, 12, 13, 14, 15, 16, 17, 18, 19] rfl
                refine va_calli (va_runV (As := [.int p2, .int p3, .int p4]) (rest := []) ⟨hx, hb, hml, hown, hts⟩ (c_O_invokeStatic l dC dI h0 kw kf km qw qf qm H.size v lc p2 p3 p4 hq_25 hq_26 hq_27 hq_28) (cwV 3 hts k_g52 rfl rfl rfl (by decide +kernel) ⟨Nat.le_of_ble_eq_true rfl, Nat.le_of_ble_eq_true rfl⟩) ⟨fb_mu, va_recv hK hP (ci := 2) (q0 := 0) rfl rfl, fun U hU hW => ⟨rfl, by rw [hU], by rw [hU]; exact hPc, va_K.moved hW.alike (hK.sub (tys' := (tO kw kf km)) [0, 1, 2, 3, 4, 5, 6, 7, 8, 9, 10, 11, 12, 13, 14, 15] rfl), NX.warm hW hN, hDc.weaken (fun _ _ _ _ => trivial)⟩⟩ rfl rfl hl.1 rfl (lv_room (Nat.le_of_ble_eq_true rfl)) d_O_invoke_108 ⟨Nat.zero_le _, Nat.zero_le _⟩) hS (fun q _ h => hFc q h) hFc (fun r u t H1 locs ht hvm hpo hB hz1 hk1 hS => ?_)
                obtain ⟨rfl, rfl⟩ := hpo
                have hB : va_P (dC, dI) classes (wO h0 kw kf km qw qf qm v (s_O_invokeStatic v p2 p3 p4)) H1 := hp_to ht hB
                obtain ⟨hP, hD⟩ := va_join (wr := ([] : va_W)) (w1 := (wO h0 kw kf km qw qf qm v (s_O_invokeStatic v p2 p3 p4))) hP hD [0, 1, 2, 3, 4, 5, 6, 7, 8, 9, 10, 11, 12, 13, 14, 15, 16, 17, 18, 19] [] rfl rfl (by decide) (by decide) hk1 hFc hB (ad_D hDc.self rfl)
                have hP := hP.sub (ws' := (wO h0 kw kf km qw qf qm v (s_O_invokeStatic v p2 p3 p4))) [0, 1, 2, 3, 4, 5, 6, 7, 8, 9, 10, 11, 12, 13, 14, 15, 16, 17, 18, 19] rfl
                have hD := hD.sub (ws' := (wO h0 kw kf km qw qf qm v (s_O_invokeStatic v p2 p3 p4))) [0, 1, 2, 3, 4, 5, 6, 7, 8, 9, 10, 11, 12, 13, 14, 15, 16, 17, 18, 19] (by decide) rfl
                generalize H1 = H at hP hS ⊢
                have hP9 : va_P (dC, dI) classes (wO h0 kw kf km qw qf qm v (s_O_invokeStatic v p2 p3 p4)) H := hP
                exact W.iret (v := (f_O_invokeStatic v p2 p3 p4)) hx hb hr (fun t ht hW => ⟨⟨(f_O_invokeStatic v p2 p3 p4), (s_O_invokeStatic v p2 p3 p4), rfl, ⟨by unfold f_O_invoke; rw [if_neg c_1, if_neg c_2, if_neg c_3, if_neg c_7, if_neg c_8, if_neg c_14, if_neg c_20], by unfold s_O_invoke; rw [if_neg c_1, if_neg c_2, if_neg c_3, if_neg c_7, if_neg c_8, if_neg c_14, if_neg c_20]⟩, hp_at ht hP9⟩, hS.F ht⟩) hS.2.2 d_O_invoke_111
        · have c_7 : (f_O_isReceiver v p1 p2 p3 p5) = (0 : Int32) := c_7
          refine lv_iconst (v := (-1 : Int32)) hx hb d_O_invoke_44 (by decide +kernel) ?_
          have hP9 : va_P (dC, dI) classes (wO h0 kw kf km qw qf qm v lc) H := hP
          exact W.iret (v := (-1 : Int32)) hx hb hr (fun t ht hW => ⟨⟨(-1 : Int32), lc, rfl, ⟨by unfold f_O_invoke; rw [if_neg c_1, if_neg c_2, if_neg c_3, if_pos c_7], by unfold s_O_invoke; rw [if_neg c_1, if_neg c_2, if_neg c_3, if_pos c_7]⟩, hp_at ht hP9⟩, hS.F ht⟩) hS.2.2 d_O_invoke_45
      · have c_3 : (f_O_isName p4) = (0 : Int32) := c_3
        refine lv_iconst (v := (-1 : Int32)) hx hb d_O_invoke_30 (by decide +kernel) ?_
        have hP9 : va_P (dC, dI) classes (wO h0 kw kf km qw qf qm v lc) H := hP
        exact W.iret (v := (-1 : Int32)) hx hb hr (fun t ht hW => ⟨⟨(-1 : Int32), lc, rfl, ⟨by unfold f_O_invoke; rw [if_neg c_1, if_neg c_2, if_pos c_3], by unfold s_O_invoke; rw [if_neg c_1, if_neg c_2, if_pos c_3]⟩, hp_at ht hP9⟩, hS.F ht⟩) hS.2.2 d_O_invoke_31
