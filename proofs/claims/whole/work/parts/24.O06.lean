set_option maxHeartbeats 1000000 in
set_option maxRecDepth 100000 in
theorem c_O_select (l : Launch) (dC : Nat → ClassId) (dI : Nat → Nat → Nat) (h0 : Nat) (kw kf km : Nat → ClassId) (qw qf qm : Nat → Nat) (sz : Nat) (v : ES) (lc : Int32) (p1 p2 p3 : Int32) (hw : WF v.1) (hp1 : vp_in p1 13) (hp2 : vp_in p2 13) (hp3 : vp_in p3 4) : Met l y_O_select w_O_select ({ frames := 4, cells := 0, slots := 0, locals := 96 } : Room) (ro_P dC dI (wO h0 kw kf km qw qf qm v lc) (tO kw kf km) sz [.ref h0, .int p1, .int p2, .int p3]) (ro_Q sz (f_O_select v p1 p2 p3)) 0 0 (fun z => sz ≤ z) := by
  refine Met.ofW (cc := b_O_select) (maxL := 6) (ret := (some .int)) (by decide) rfl ?_
  intro p e s m args below meth c s₁ B hml hv
  obtain ⟨rfl, hsz, hP, hK, hN⟩ := hv
  have hx := B.exec
  have hb := B.bytes
  have hr := B.returns
  have hts := tl_of (atoms_spec (ws := w_O_select) B.pre)
  have hown : s.vm.findClass R_O = some m.cls := findClass_of_methodNamed B.named
  have hlocks := B.notSynchronized
  subst hsz
  have hA : ∀ z : Nat, s.heap.size ≤ z → (fun z : Nat => s.heap.size ≤ z) z := fun _ h => h
  have hS : va_S (fun z : Nat => s.heap.size ≤ z) s.heap s.heap [] := va_S.rf
  have hl := lv_entry ([.ref h0, .int p1, .int p2, .int p3]) (n := 6) (Nat.le_of_ble_eq_true rfl)
  rw [lg_entry_eq]
  generalize (lg_sl ([.ref h0, .int p1, .int p2, .int p3]) ++ List.replicate (6 - (lg_sl ([.ref h0, .int p1, .int p2, .int p3])).length) Slot.unset).toArray = ls at hl ⊢
  have hl : lv_has ls 6 [(0, .ref h0), (1, .int p1), (2, .int p2), (3, .int p3)] := hl
  refine lv_aload_n hx hb d_O_select_0 rfl (lv_at hl 0 rfl) ?_
  refine va_get (D := (dC, dI)) (ci := 2) (v := .ref (qm 0)) (C := R_O) (T := F_O) (N := 4) hx hb hts i_O hown hK hP 0 rfl rfl 2 (by decide) (hts _ k_23) (fun _ h9 => h9) rfl d_O_select_1 ?_
  refine lv_iload_n hx hb d_O_select_4 rfl (lv_at hl 2 rfl) ?_
  refine lv_iload_n hx hb d_O_select_5 rfl (lv_at hl 3 rfl) ?_
  have hq_1 : vp_in ((p2 * (4 : Int32)) + p3) 52 := by first | with_reducible assumption | exact in_52 (by first | with_reducible assumption | exact in_has hw (by with_reducible assumption) | exact in_cls hw (by with_reducible assumption) | exact in_ifc hw (by with_reducible assumption) | exact in_ext hw (by with_reducible assumption) | exact in_eq0 (by with_reducible assumption) | exact hfd (by with_reducible assumption) | exact in_rcv hw (by with_reducible assumption) (Or.inl (by with_reducible assumption)) | exact in_rcv hw (by with_reducible assumption) (Or.inr (by with_reducible assumption))) (by first | with_reducible assumption | exact in_name (by with_reducible assumption) | exact in4_4 (by with_reducible assumption) | exact in4_5 (by with_reducible assumption) | exact in4_6 (by with_reducible assumption) | exact in4_7 (by with_reducible assumption))
  refine va_calli (va_runV (As := [.int p2, .int p3]) (rest := []) ⟨hx, hb, hml, hown, hts⟩ (c_M_accessOf l dC dI km qm s.heap.size v.2.2  p2 p3 hq_1) (cwV 2 hts k_g17 rfl rfl rfl (by decide +kernel) ⟨Nat.le_of_ble_eq_true rfl, Nat.le_of_ble_eq_true rfl⟩) ⟨fb_ro, va_recv hK hP (ci := 1) (q0 := 14) rfl rfl, fun U hU hW => ⟨rfl, by rw [hU], by rw [hU]; exact hP.sub (ws' := (wM km qm v.2.2)) [14, 15, 16, 17, 18, 19] rfl, va_K.moved hW.alike (hK.sub (tys' := (tM km)) [11, 12, 13, 14, 15] rfl), NX.warm hW hN⟩⟩ rfl rfl hl.1 rfl (lv_room (Nat.le_of_ble_eq_true rfl)) d_O_select_6 ⟨Nat.zero_le _, Nat.zero_le _⟩) hS (fun z h1 h2 => absurd h1 (Nat.not_lt.mpr h2)) (fun z h => hA z (Nat.le_trans hS.1 h)) (fun r u t H1 locs ht hvm hpo hB hz1 hk1 hS => ?_)
  subst hpo
  have hP := kp_P hP hk1
  generalize H1 = H at hP hS ⊢
  refine lv_if_ne (tgt := 14) hx hb d_O_select_9 (by decide) (fun c_2 => ?_) (fun c_2 => ?_)
  · have c_2 : ¬ ((f_M_accessOf v.2.2 p2 p3) = (0 : Int32)) := c_2
    refine lv_aload_n hx hb d_O_select_14 rfl (lv_at hl 0 rfl) ?_
    refine va_get (D := (dC, dI)) (ci := 2) (v := .ref (qw 0)) (C := R_O) (T := F_O) (N := 4) hx hb hts i_O hown hK hP 0 rfl rfl 0 (by decide) (hts _ k_22) (fun _ h9 => h9) rfl d_O_select_15 ?_
    refine lv_iload_n hx hb d_O_select_18 rfl (lv_at hl 1 rfl) ?_
    have hq_3 : vp_in p1 13 := by first | with_reducible assumption | exact in_has hw (by with_reducible assumption) | exact in_cls hw (by with_reducible assumption) | exact in_ifc hw (by with_reducible assumption) | exact in_ext hw (by with_reducible assumption) | exact in_eq0 (by with_reducible assumption) | exact hfd (by with_reducible assumption) | exact in_rcv hw (by with_reducible assumption) (Or.inl (by with_reducible assumption)) | exact in_rcv hw (by with_reducible assumption) (Or.inr (by with_reducible assumption))
    refine va_calli (va_runV (As := [.int p1]) (rest := []) ⟨hx, hb, hml, hown, hts⟩ (c_W_chain l dC dI kw qw H.size v.1  p1 hq_3) (cwV 1 hts k_g21 rfl rfl rfl (by decide +kernel) ⟨Nat.le_of_ble_eq_true rfl, Nat.le_of_ble_eq_true rfl⟩) ⟨fb_ro, va_recv hK hP (ci := 0) (q0 := 1) rfl rfl, fun U hU hW => ⟨rfl, by rw [hU], by rw [hU]; exact hP.sub (ws' := (wW kw qw v.1)) [1, 2, 3, 4, 5, 6, 7] rfl, va_K.moved hW.alike (hK.sub (tys' := (tW kw)) [0, 1, 2, 3, 4, 5] rfl), NX.warm hW hN⟩⟩ rfl rfl hl.1 rfl (lv_room (Nat.le_of_ble_eq_true rfl)) d_O_select_19 ⟨Nat.zero_le _, Nat.zero_le _⟩) hS (fun z h1 h2 => absurd h1 (Nat.not_lt.mpr h2)) (fun z h => hA z (Nat.le_trans hS.1 h)) (fun r u t H1 locs ht hvm hpo hB hz1 hk1 hS => ?_)
    subst hpo
    have hP := kp_P hP hk1
    generalize H1 = H at hP hS ⊢
    refine lv_istore (lv' := [(4, .int (f_W_chain v.1 p1)), (0, .ref h0), (1, .int p1), (2, .int p2), (3, .int p3)]) hx hb d_O_select_22 hl (by decide) rfl (fun ls hl => ?_)
    refine lv_iload_n hx hb d_O_select_24 rfl (lv_at hl 2 rfl) ?_
    refine lv_istore (lv' := [(5, .int p1), (4, .int (f_W_chain v.1 p1)), (0, .ref h0), (1, .int p1), (2, .int p2), (3, .int p3)]) hx hb d_O_select_25 hl (by decide) rfl (fun ls hl => ?_)
    have LOOP : ∀ (n k : Nat) (x5 : Int32) (H : Heap) (locs : List Loc) (ls : Array Slot), x5 = nI k → k + 1 ≤ n → k ≤ 12 → lr_O_select v p1 p2 p3 n x5 = (f_O_select v p1 p2 p3) → va_P (dC, dI) classes (wO h0 kw kf km qw qf qm v lc) H → va_S (fun z : Nat => s.heap.size ≤ z) s.heap H locs → lv_has ls 6 [(5, .int x5), (4, .int (f_W_chain v.1 p1)), (0, .ref h0), (1, .int p1), (2, .int p2), (3, .int p3)] → W p l e (headSpec w_O_select ({ frames := 4, cells := 0, slots := 0, locals := 96 } : Room)).room s m ([.ref h0, .int p1, .int p2, .int p3] : List Value).toArray below meth c H locs 0 0 (MQ below (ro_Q s.heap.size (f_O_select v p1 p2 p3)) ([.ref h0, .int p1, .int p2, .int p3] : List Value).toArray s 0 0 (fun z => s.heap.size ≤ z)) (F0 m 27 ls []) := by
      intro n
      induction n with
      | zero =>
        intro k x5 H locs ls et h1 h2
        exfalso; omega
      | succ n ih =>
        intro k x5 H locs ls et h1 h2 hF hP hS hl
        refine lv_iload hx hb d_O_select_27 (lv_at hl 0 rfl) ?_
        refine lv_iconst (v := (1 : Int32)) hx hb d_O_select_29 (by decide +kernel) ?_
        refine lv_icmp_lt (tgt := 63) hx hb d_O_select_30 (by decide) (fun c_4 => ?_) (fun c_4 => ?_)
        · have c_4 : x5 < (1 : Int32) := c_4
          refine lv_aload_n hx hb d_O_select_63 rfl (lv_at hl 2 rfl) ?_
          refine lv_iload_n hx hb d_O_select_64 rfl (lv_at hl 3 rfl) ?_
          refine lv_iload_n hx hb d_O_select_65 rfl (lv_at hl 5 rfl) ?_
          have hq_5 : vp_in p1 13 := by first | with_reducible assumption | exact in_has hw (by with_reducible assumption) | exact in_cls hw (by with_reducible assumption) | exact in_ifc hw (by with_reducible assumption) | exact in_ext hw (by with_reducible assumption) | exact in_eq0 (by with_reducible assumption) | exact hfd (by with_reducible assumption) | exact in_rcv hw (by with_reducible assumption) (Or.inl (by with_reducible assumption)) | exact in_rcv hw (by with_reducible assumption) (Or.inr (by with_reducible assumption))
          have hq_6 : vp_in p3 4 := by first | with_reducible assumption | exact in_name (by with_reducible assumption) | exact in4_4 (by with_reducible assumption) | exact in4_5 (by with_reducible assumption) | exact in4_6 (by with_reducible assumption) | exact in4_7 (by with_reducible assumption)
          refine va_calli (va_runV (As := [.int p1, .int p3]) (rest := []) ⟨hx, hb, hml, hown, hts⟩ (c_O_bestOfInterfaces l dC dI h0 kw kf km qw qf qm H.size v lc p1 p3 hq_5 hq_6) (cwV 2 hts k_g24 rfl rfl rfl (by decide +kernel) ⟨Nat.le_of_ble_eq_true rfl, Nat.le_of_ble_eq_true rfl⟩) ⟨fb_ro, va_recv hK hP (ci := 2) (q0 := 0) rfl rfl, fun U hU hW => ⟨rfl, by rw [hU], by rw [hU]; exact hP.sub (ws' := (wO h0 kw kf km qw qf qm v lc)) [0, 1, 2, 3, 4, 5, 6, 7, 8, 9, 10, 11, 12, 13, 14, 15, 16, 17, 18, 19] rfl, va_K.moved hW.alike (hK.sub (tys' := (tO kw kf km)) [0, 1, 2, 3, 4, 5, 6, 7, 8, 9, 10, 11, 12, 13, 14, 15] rfl), NX.warm hW hN⟩⟩ rfl rfl hl.1 rfl (lv_room (Nat.le_of_ble_eq_true rfl)) d_O_select_66 ⟨Nat.zero_le _, Nat.zero_le _⟩) hS (fun z h1 h2 => absurd h1 (Nat.not_lt.mpr h2)) (fun z h => hA z (Nat.le_trans hS.1 h)) (fun r u t H1 locs ht hvm hpo hB hz1 hk1 hS => ?_)
          subst hpo
          have hP := kp_P hP hk1
          generalize H1 = H at hP hS ⊢
          exact W.iret (v := (f_O_bestOfInterfaces v p1 p3)) hx hb hr (fun t ht hW => ⟨⟨(f_O_bestOfInterfaces v p1 p3), (), rfl, by rw [← hF, lr_O_select_s, if_pos c_4], trivial⟩, hS.F ht⟩) hS.2.2 d_O_select_69
        · have c_4 : ¬ (x5 < (1 : Int32)) := c_4
          refine lv_iload hx hb d_O_select_33 (lv_at hl 1 rfl) ?_
          refine lv_iload hx hb d_O_select_35 (lv_at hl 0 rfl) ?_
          refine va_calli (va_runS (As := [.int (f_W_chain v.1 p1), .int x5]) (rest := []) ⟨hx, hb, hml, hown, hts⟩ (c_O_holds l dC dI  H.size   (f_W_chain v.1 p1) x5) (cwS 2 hts k_g0 rfl rfl rfl (by decide +kernel) ⟨Nat.le_of_ble_eq_true rfl, Nat.le_of_ble_eq_true rfl⟩) ⟨fb_ro, fun U hU hW => ⟨rfl, by rw [hU], by rw [hU]; exact hP.sub (ws' := ([] : va_W)) [] rfl, va_K.moved hW.alike (hK.sub (tys' := []) [] rfl), NX.warm hW hN⟩⟩ rfl rfl hl.1 rfl (lv_room (Nat.le_of_ble_eq_true rfl)) d_O_select_37 ⟨Nat.zero_le _, Nat.zero_le _⟩) hS (fun z h1 h2 => absurd h1 (Nat.not_lt.mpr h2)) (fun z h => hA z (Nat.le_trans hS.1 h)) (fun r u t H1 locs ht hvm hpo hB hz1 hk1 hS => ?_)
          subst hpo
          have hP := kp_P hP hk1
          generalize H1 = H at hP hS ⊢
          refine lv_if_eq (tgt := 57) hx hb d_O_select_40 (by decide) (fun c_7 => ?_) (fun c_7 => ?_)
          · have c_7 : (f_O_holds (f_W_chain v.1 p1) x5) = (0 : Int32) := c_7
            refine lv_iinc (v := (x5 + (-1 : Int32))) (lv' := [(5, .int (x5 + (-1 : Int32))), (4, .int (f_W_chain v.1 p1)), (0, .ref h0), (1, .int p1), (2, .int p2), (3, .int p3)]) hx hb d_O_select_57 hl (k := 0) rfl (by rw [of_m1]) (by decide) rfl (fun ls hl => ?_)
            refine lv_goto (tgt := 27) hx hb d_O_select_60 (by decide) ?_
            exact ih (k - 1) (x5 + (-1 : Int32)) _ _ _ (dn_et et h2 (by assumption)) (dn_h1 et h2 h1 (by assumption)) (by omega) (by rw [← hF, lr_O_select_s, if_neg c_4, if_pos c_7]) hP hS (lv_sub hl [0, 1, 2, 3, 4, 5] rfl)
          · have c_7 : ¬ ((f_O_holds (f_W_chain v.1 p1) x5) = (0 : Int32)) := c_7
            refine lv_aload_n hx hb d_O_select_43 rfl (lv_at hl 2 rfl) ?_
            refine lv_iload hx hb d_O_select_44 (lv_at hl 0 rfl) ?_
            refine lv_iload_n hx hb d_O_select_46 rfl (lv_at hl 4 rfl) ?_
            refine lv_iload_n hx hb d_O_select_47 rfl (lv_at hl 5 rfl) ?_
            have hq_8 : WF v.1 := by first | with_reducible assumption | exact hw
            have hq_9 : vp_in x5 13 := by first | with_reducible assumption | exact in_et et (le12 et h2 (by with_reducible assumption)) | exact in_et et (lt12 et h2 (by with_reducible assumption)) | exact in_et et (leCnt hw et h2 (by with_reducible assumption)) | exact in_et et (lePar et h2 (by with_reducible assumption) (by with_reducible assumption)) | exact in_et et (ltPar et h2 (by with_reducible assumption) (by with_reducible assumption)) | exact in_et et h2
            have hq_10 : vp_in p2 13 := by first | with_reducible assumption | exact in_has hw (by with_reducible assumption) | exact in_cls hw (by with_reducible assumption) | exact in_ifc hw (by with_reducible assumption) | exact in_ext hw (by with_reducible assumption) | exact in_eq0 (by with_reducible assumption) | exact hfd (by with_reducible assumption) | exact in_rcv hw (by with_reducible assumption) (Or.inl (by with_reducible assumption)) | exact in_rcv hw (by with_reducible assumption) (Or.inr (by with_reducible assumption))
            have hq_11 : vp_in p3 4 := by first | with_reducible assumption | exact in_name (by with_reducible assumption) | exact in4_4 (by with_reducible assumption) | exact in4_5 (by with_reducible assumption) | exact in4_6 (by with_reducible assumption) | exact in4_7 (by with_reducible assumption)
            refine va_calli (va_runV (As := [.int x5, .int p2, .int p3]) (rest := []) ⟨hx, hb, hml, hown, hts⟩ (c_O_canOverride l dC dI h0 kw kf km qw qf qm H.size v lc x5 p2 p3 hq_8 hq_9 hq_10 hq_11) (cwV 3 hts k_g25 rfl rfl rfl (by decide +kernel) ⟨Nat.le_of_ble_eq_true rfl, Nat.le_of_ble_eq_true rfl⟩) ⟨fb_ro, va_recv hK hP (ci := 2) (q0 := 0) rfl rfl, fun U hU hW => ⟨rfl, by rw [hU], by rw [hU]; exact hP.sub (ws' := (wO h0 kw kf km qw qf qm v lc)) [0, 1, 2, 3, 4, 5, 6, 7, 8, 9, 10, 11, 12, 13, 14, 15, 16, 17, 18, 19] rfl, va_K.moved hW.alike (hK.sub (tys' := (tO kw kf km)) [0, 1, 2, 3, 4, 5, 6, 7, 8, 9, 10, 11, 12, 13, 14, 15] rfl), NX.warm hW hN⟩⟩ rfl rfl hl.1 rfl (lv_room (Nat.le_of_ble_eq_true rfl)) d_O_select_48 ⟨Nat.zero_le _, Nat.zero_le _⟩) hS (fun z h1 h2 => absurd h1 (Nat.not_lt.mpr h2)) (fun z h => hA z (Nat.le_trans hS.1 h)) (fun r u t H1 locs ht hvm hpo hB hz1 hk1 hS => ?_)
            subst hpo
            have hP := kp_P hP hk1
            generalize H1 = H at hP hS ⊢
            refine lv_if_eq (tgt := 57) hx hb d_O_select_51 (by decide) (fun c_12 => ?_) (fun c_12 => ?_)
            · have c_12 : (f_O_canOverride v x5 p2 p3) = (0 : Int32) := c_12
              refine lv_iinc (v := (x5 + (-1 : Int32))) (lv' := [(5, .int (x5 + (-1 : Int32))), (4, .int (f_W_chain v.1 p1)), (0, .ref h0), (1, .int p1), (2, .int p2), (3, .int p3)]) hx hb d_O_select_57 hl (k := 0) rfl (by rw [of_m1]) (by decide) rfl (fun ls hl => ?_)
              refine lv_goto (tgt := 27) hx hb d_O_select_60 (by decide) ?_
              exact ih (k - 1) (x5 + (-1 : Int32)) _ _ _ (dn_et et h2 (by assumption)) (dn_h1 et h2 h1 (by assumption)) (by omega) (by rw [← hF, lr_O_select_s, if_neg c_4, if_neg c_7, if_pos c_12]) hP hS (lv_sub hl [0, 1, 2, 3, 4, 5] rfl)
            · have c_12 : ¬ ((f_O_canOverride v x5 p2 p3) = (0 : Int32)) := c_12
              refine lv_iload hx hb d_O_select_54 (lv_at hl 0 rfl) ?_
              exact W.iret (v := x5) hx hb hr (fun t ht hW => ⟨⟨x5, (), rfl, by rw [← hF, lr_O_select_s, if_neg c_4, if_neg c_7, if_neg c_12], trivial⟩, hS.F ht⟩) hS.2.2 d_O_select_56
    exact LOOP 14 p1.toNatClampNeg p1 _ _ _ (in_k hp1) (by have := in_lt hp1; omega) (Nat.le_of_lt_succ (in_lt hp1)) (by unfold f_O_select; rw [if_neg c_2]) hP hS (lv_sub hl [0, 1, 2, 3, 4, 5] rfl)
  · have c_2 : (f_M_accessOf v.2.2 p2 p3) = (0 : Int32) := c_2
    refine lv_iload_n hx hb d_O_select_12 rfl (lv_at hl 2 rfl) ?_
    exact W.iret (v := p2) hx hb hr (fun t ht hW => ⟨⟨p2, (), rfl, by unfold f_O_select; rw [if_pos c_2], trivial⟩, hS.F ht⟩) hS.2.2 d_O_select_13
