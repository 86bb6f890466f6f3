set_option maxHeartbeats 1000000 in
set_option maxRecDepth 100000 in
theorem c_O_canOverride (l : Launch) (dC : Nat → ClassId) (dI : Nat → Nat → Nat) (h0 : Nat) (kw kf km : Nat → ClassId) (qw qf qm : Nat → Nat) (sz : Nat) (v : ES) (lc : Int32) (p1 p2 p3 : Int32) (hw : WF v.1) (hp1 : vp_in p1 13) (hp2 : vp_in p2 13) (hp3 : vp_in p3 4) : Met l y_O_canOverride w_O_canOverride ({ frames := 3, cells := 0, slots := 0, locals := 69 } : Room) (ro_P dC dI (wO h0 kw kf km qw qf qm v lc) (tO kw kf km) sz [.ref h0, .int p1, .int p2, .int p3]) (ro_Q sz (f_O_canOverride v p1 p2 p3)) 0 0 (fun z => sz ≤ z) := by
  refine Met.ofW (cc := b_O_canOverride) (maxL := 8) (ret := (some .boolean)) (by decide) rfl ?_
  intro p e s m args below meth c s₁ B hml hv
  obtain ⟨rfl, hsz, hP, hK, hN⟩ := hv
  have hx := B.exec
  have hb := B.bytes
  have hr := B.returns
  have hts := tl_of (atoms_spec (ws := w_O_canOverride) B.pre)
  have hown : s.vm.findClass R_O = some m.cls := findClass_of_methodNamed B.named
  have hlocks := B.notSynchronized
  subst hsz
  have hA : ∀ z : Nat, s.heap.size ≤ z → (fun z : Nat => s.heap.size ≤ z) z := fun _ h => h
  have hS : va_S (fun z : Nat => s.heap.size ≤ z) s.heap s.heap [] := va_S.rf
  have hl := lv_entry ([.ref h0, .int p1, .int p2, .int p3]) (n := 8) (Nat.le_of_ble_eq_true rfl)
  rw [lg_entry_eq]
  generalize (lg_sl ([.ref h0, .int p1, .int p2, .int p3]) ++ List.replicate (8 - (lg_sl ([.ref h0, .int p1, .int p2, .int p3])).length) Slot.unset).toArray = ls at hl ⊢
  have hl : lv_has ls 8 [(0, .ref h0), (1, .int p1), (2, .int p2), (3, .int p3)] := hl
  refine lv_aload_n hx hb d_O_canOverride_0 rfl (lv_at hl 0 rfl) ?_
  refine va_get (D := (dC, dI)) (ci := 2) (v := .ref (qm 0)) (C := R_O) (T := F_O) (N := 4) hx hb hts i_O hown hK hP 0 rfl rfl 2 (by decide) (hts _ k_23) (fun _ h9 => h9) rfl d_O_canOverride_1 ?_
  refine lv_iload_n hx hb d_O_canOverride_4 rfl (lv_at hl 3 rfl) ?_
  have hq_1 : vp_in p3 4 := by first | with_reducible assumption | exact in_name (by with_reducible assumption) | exact in4_4 (by with_reducible assumption) | exact in4_5 (by with_reducible assumption) | exact in4_6 (by with_reducible assumption) | exact in4_7 (by with_reducible assumption)
  refine va_calli (va_runV (As := [.int p3]) (rest := []) ⟨hx, hb, hml, hown, hts⟩ (c_M_instances l dC dI km qm s.heap.size v.2.2  p3 hq_1) (cwV 1 hts k_g20 rfl rfl rfl (by decide +kernel) ⟨Nat.le_of_ble_eq_true rfl, Nat.le_of_ble_eq_true rfl⟩) ⟨fb_ro, va_recv hK hP (ci := 1) (q0 := 14) rfl rfl, fun U hU hW => ⟨rfl, by rw [hU], by rw [hU]; exact hP.sub (ws' := (wM km qm v.2.2)) [14, 15, 16, 17, 18, 19] rfl, va_K.moved hW.alike (hK.sub (tys' := (tM km)) [11, 12, 13, 14, 15] rfl), NX.warm hW hN⟩⟩ rfl rfl hl.1 rfl (lv_room (Nat.le_of_ble_eq_true rfl)) d_O_canOverride_5 ⟨Nat.zero_le _, Nat.zero_le _⟩) hS (fun z h1 h2 => absurd h1 (Nat.not_lt.mpr h2)) (fun z h => hA z (Nat.le_trans hS.1 h)) (fun r u t H1 locs ht hvm hpo hB hz1 hk1 hS => ?_)
  subst hpo
  have hP := kp_P hP hk1
  generalize H1 = H at hP hS ⊢
  refine lv_istore (lv' := [(4, .int (f_M_instances v.2.2 p3)), (0, .ref h0), (1, .int p1), (2, .int p2), (3, .int p3)]) hx hb d_O_canOverride_8 hl (by decide) rfl (fun ls hl => ?_)
  refine lv_iload hx hb d_O_canOverride_10 (lv_at hl 0 rfl) ?_
  refine lv_iload_n hx hb d_O_canOverride_12 rfl (lv_at hl 3 rfl) ?_
  refine va_calli (va_runS (As := [.int (f_M_instances v.2.2 p3), .int p2]) (rest := []) ⟨hx, hb, hml, hown, hts⟩ (c_O_holds l dC dI  H.size   (f_M_instances v.2.2 p3) p2) (cwS 2 hts k_g0 rfl rfl rfl (by decide +kernel) ⟨Nat.le_of_ble_eq_true rfl, Nat.le_of_ble_eq_true rfl⟩) ⟨fb_ro, fun U hU hW => ⟨rfl, by rw [hU], by rw [hU]; exact hP.sub (ws' := ([] : va_W)) [] rfl, va_K.moved hW.alike (hK.sub (tys' := []) [] rfl), NX.warm hW hN⟩⟩ rfl rfl hl.1 rfl (lv_room (Nat.le_of_ble_eq_true rfl)) d_O_canOverride_13 ⟨Nat.zero_le _, Nat.zero_le _⟩) hS (fun z h1 h2 => absurd h1 (Nat.not_lt.mpr h2)) (fun z h => hA z (Nat.le_trans hS.1 h)) (fun r u t H1 locs ht hvm hpo hB hz1 hk1 hS => ?_)
  subst hpo
  have hP := kp_P hP hk1
  generalize H1 = H at hP hS ⊢
  refine lv_if_ne (tgt := 21) hx hb d_O_canOverride_16 (by decide) (fun c_2 => ?_) (fun c_2 => ?_)
  · have c_2 : ¬ ((f_O_holds (f_M_instances v.2.2 p3) p2) = (0 : Int32)) := c_2
    refine lv_aload_n hx hb d_O_canOverride_21 rfl (lv_at hl 1 rfl) ?_
    refine va_get (D := (dC, dI)) (ci := 2) (v := .ref (qw 0)) (C := R_O) (T := F_O) (N := 4) hx hb hts i_O hown hK hP 0 rfl rfl 0 (by decide) (hts _ k_22) (fun _ h9 => h9) rfl d_O_canOverride_22 ?_
    refine lv_iload_n hx hb d_O_canOverride_25 rfl (lv_at hl 2 rfl) ?_
    have hq_3 : vp_in p1 13 := by first | with_reducible assumption | exact in_has hw (by with_reducible assumption) | exact in_cls hw (by with_reducible assumption) | exact in_ifc hw (by with_reducible assumption) | exact in_ext hw (by with_reducible assumption) | exact in_eq0 (by with_reducible assumption) | exact hfd (by with_reducible assumption) | exact in_rcv hw (by with_reducible assumption) (Or.inl (by with_reducible assumption)) | exact in_rcv hw (by with_reducible assumption) (Or.inr (by with_reducible assumption))
    refine va_calli (va_runV (As := [.int p1]) (rest := []) ⟨hx, hb, hml, hown, hts⟩ (c_W_chain l dC dI kw qw H.size v.1  p1 hq_3) (cwV 1 hts k_g21 rfl rfl rfl (by decide +kernel) ⟨Nat.le_of_ble_eq_true rfl, Nat.le_of_ble_eq_true rfl⟩) ⟨fb_ro, va_recv hK hP (ci := 0) (q0 := 1) rfl rfl, fun U hU hW => ⟨rfl, by rw [hU], by rw [hU]; exact hP.sub (ws' := (wW kw qw v.1)) [1, 2, 3, 4, 5, 6, 7] rfl, va_K.moved hW.alike (hK.sub (tys' := (tW kw)) [0, 1, 2, 3, 4, 5] rfl), NX.warm hW hN⟩⟩ rfl rfl hl.1 rfl (lv_room (Nat.le_of_ble_eq_true rfl)) d_O_canOverride_26 ⟨Nat.zero_le _, Nat.zero_le _⟩) hS (fun z h1 h2 => absurd h1 (Nat.not_lt.mpr h2)) (fun z h => hA z (Nat.le_trans hS.1 h)) (fun r u t H1 locs ht hvm hpo hB hz1 hk1 hS => ?_)
    subst hpo
    have hP := kp_P hP hk1
    generalize H1 = H at hP hS ⊢
    refine lv_aload_n hx hb d_O_canOverride_29 rfl (lv_at hl 1 rfl) ?_
    refine va_get (D := (dC, dI)) (ci := 2) (v := .ref (qw 0)) (C := R_O) (T := F_O) (N := 4) hx hb hts i_O hown hK hP 0 rfl rfl 0 (by decide) (hts _ k_22) (fun _ h9 => h9) rfl d_O_canOverride_30 ?_
    refine lv_iload_n hx hb d_O_canOverride_33 rfl (lv_at hl 3 rfl) ?_
    have hq_4 : WF v.1 := by first | with_reducible assumption | exact hw
    have hq_5 : vp_in p2 13 := by first | with_reducible assumption | exact in_has hw (by with_reducible assumption) | exact in_cls hw (by with_reducible assumption) | exact in_ifc hw (by with_reducible assumption) | exact in_ext hw (by with_reducible assumption) | exact in_eq0 (by with_reducible assumption) | exact hfd (by with_reducible assumption) | exact in_rcv hw (by with_reducible assumption) (Or.inl (by with_reducible assumption)) | exact in_rcv hw (by with_reducible assumption) (Or.inr (by with_reducible assumption))
    refine va_calli (va_runV (As := [.int p2]) (rest := [.int (f_W_chain v.1 p1)]) ⟨hx, hb, hml, hown, hts⟩ (c_W_kindsOf l dC dI kw qw H.size v.1  p2 hq_4 hq_5) (cwV 1 hts k_g22 rfl rfl rfl (by decide +kernel) ⟨Nat.le_of_ble_eq_true rfl, Nat.le_of_ble_eq_true rfl⟩) ⟨fb_ro, va_recv hK hP (ci := 0) (q0 := 1) rfl rfl, fun U hU hW => ⟨rfl, by rw [hU], by rw [hU]; exact hP.sub (ws' := (wW kw qw v.1)) [1, 2, 3, 4, 5, 6, 7] rfl, va_K.moved hW.alike (hK.sub (tys' := (tW kw)) [0, 1, 2, 3, 4, 5] rfl), NX.warm hW hN⟩⟩ rfl rfl hl.1 rfl (lv_room (Nat.le_of_ble_eq_true rfl)) d_O_canOverride_34 ⟨Nat.zero_le _, Nat.zero_le _⟩) hS (fun z h1 h2 => absurd h1 (Nat.not_lt.mpr h2)) (fun z h => hA z (Nat.le_trans hS.1 h)) (fun r u t H1 locs ht hvm hpo hB hz1 hk1 hS => ?_)
    subst hpo
    have hP := kp_P hP hk1
    generalize H1 = H at hP hS ⊢
    refine lv_iand hx hb d_O_canOverride_37 ?_
    refine lv_iload hx hb d_O_canOverride_38 (lv_at hl 0 rfl) ?_
    refine lv_iand hx hb d_O_canOverride_40 ?_
    refine lv_istore (lv' := [(5, .int (((f_W_chain v.1 p1) &&& (f_W_kindsOf v.1 p2)) &&& (f_M_instances v.2.2 p3))), (4, .int (f_M_instances v.2.2 p3)), (0, .ref h0), (1, .int p1), (2, .int p2), (3, .int p3)]) hx hb d_O_canOverride_41 hl (by decide) rfl (fun ls hl => ?_)
    refine lv_iconst (v := (1 : Int32)) hx hb d_O_canOverride_43 (by decide +kernel) ?_
    refine lv_iload_n hx hb d_O_canOverride_44 rfl (lv_at hl 4 rfl) ?_
    refine lv_ishl hx hb d_O_canOverride_45 ?_
    refine lv_istore (lv' := [(6, .int ((1 : Int32) <<< (p2 &&& (31 : Int32)))), (5, .int (((f_W_chain v.1 p1) &&& (f_W_kindsOf v.1 p2)) &&& (f_M_instances v.2.2 p3))), (4, .int (f_M_instances v.2.2 p3)), (0, .ref h0), (1, .int p1), (2, .int p2), (3, .int p3)]) hx hb d_O_canOverride_46 hl (by decide) rfl (fun ls hl => ?_)
    refine lv_iload_n hx hb d_O_canOverride_48 rfl (lv_at hl 5 rfl) ?_
    refine lv_iconst (v := (1 : Int32)) hx hb d_O_canOverride_49 (by decide +kernel) ?_
    refine lv_iadd hx hb d_O_canOverride_50 ?_
    refine lv_istore (lv' := [(7, .int (p2 + (1 : Int32))), (6, .int ((1 : Int32) <<< (p2 &&& (31 : Int32)))), (5, .int (((f_W_chain v.1 p1) &&& (f_W_kindsOf v.1 p2)) &&& (f_M_instances v.2.2 p3))), (4, .int (f_M_instances v.2.2 p3)), (0, .ref h0), (1, .int p1), (2, .int p2), (3, .int p3)]) hx hb d_O_canOverride_51 hl (by decide) rfl (fun ls hl => ?_)
    have LOOP : ∀ (n k : Nat) (x6 : Int32) (x7 : Int32) (H : Heap) (locs : List Loc) (ls : Array Slot), x7 = nI k → 14 ≤ k + n → k ≤ 13 → lr_O_canOverride v p1 p2 p3 n x6 x7 = (f_O_canOverride v p1 p2 p3) → va_P (dC, dI) classes (wO h0 kw kf km qw qf qm v lc) H → va_S (fun z : Nat => s.heap.size ≤ z) s.heap H locs → lv_has ls 8 [(6, .int x6), (7, .int x7), (5, .int (((f_W_chain v.1 p1) &&& (f_W_kindsOf v.1 p2)) &&& (f_M_instances v.2.2 p3))), (4, .int (f_M_instances v.2.2 p3)), (0, .ref h0), (1, .int p1), (2, .int p2), (3, .int p3)] → W p l e (headSpec w_O_canOverride ({ frames := 3, cells := 0, slots := 0, locals := 69 } : Room)).room s m ([.ref h0, .int p1, .int p2, .int p3] : List Value).toArray below meth c H locs 0 0 (MQ below (ro_Q s.heap.size (f_O_canOverride v p1 p2 p3)) ([.ref h0, .int p1, .int p2, .int p3] : List Value).toArray s 0 0 (fun z => s.heap.size ≤ z)) (F0 m 53 ls []) := by
      intro n
      induction n with
      | zero =>
        intro k x6 x7 H locs ls et h1 h2
        exfalso; omega
      | succ n ih =>
        intro k x6 x7 H locs ls et h1 h2 hF hP hS hl
        refine lv_iload hx hb d_O_canOverride_53 (lv_at hl 1 rfl) ?_
        refine lv_iload_n hx hb d_O_canOverride_55 rfl (lv_at hl 5 rfl) ?_
        refine lv_icmp_gt (tgt := 96) hx hb d_O_canOverride_56 (by decide) (fun c_6 => ?_) (fun c_6 => ?_)
        · have c_6 : p1 < x7 := c_6
          refine lv_iload hx hb d_O_canOverride_96 (lv_at hl 0 rfl) ?_
          refine lv_iload_n hx hb d_O_canOverride_98 rfl (lv_at hl 5 rfl) ?_
          refine va_calli (va_runS (As := [.int x6, .int p1]) (rest := []) ⟨hx, hb, hml, hown, hts⟩ (c_O_holds l dC dI  H.size   x6 p1) (cwS 2 hts k_g0 rfl rfl rfl (by decide +kernel) ⟨Nat.le_of_ble_eq_true rfl, Nat.le_of_ble_eq_true rfl⟩) ⟨fb_ro, fun U hU hW => ⟨rfl, by rw [hU], by rw [hU]; exact hP.sub (ws' := ([] : va_W)) [] rfl, va_K.moved hW.alike (hK.sub (tys' := []) [] rfl), NX.warm hW hN⟩⟩ rfl rfl hl.1 rfl (lv_room (Nat.le_of_ble_eq_true rfl)) d_O_canOverride_99 ⟨Nat.zero_le _, Nat.zero_le _⟩) hS (fun z h1 h2 => absurd h1 (Nat.not_lt.mpr h2)) (fun z h => hA z (Nat.le_trans hS.1 h)) (fun r u t H1 locs ht hvm hpo hB hz1 hk1 hS => ?_)
          subst hpo
          have hP := kp_P hP hk1
          generalize H1 = H at hP hS ⊢
          exact W.zret (v := (f_O_holds x6 p1)) hx hb hr (z_O_holds) (fun t ht hW => ⟨⟨(f_O_holds x6 p1), (), rfl, by rw [← hF, lr_O_canOverride_s, if_pos c_6], trivial⟩, hS.F ht⟩) hS.2.2 d_O_canOverride_102
        · have c_6 : ¬ (p1 < x7) := c_6
          refine lv_iload hx hb d_O_canOverride_59 (lv_at hl 2 rfl) ?_
          refine lv_iload hx hb d_O_canOverride_61 (lv_at hl 1 rfl) ?_
          refine va_calli (va_runS (As := [.int (((f_W_chain v.1 p1) &&& (f_W_kindsOf v.1 p2)) &&& (f_M_instances v.2.2 p3)), .int x7]) (rest := []) ⟨hx, hb, hml, hown, hts⟩ (c_O_holds l dC dI  H.size   (((f_W_chain v.1 p1) &&& (f_W_kindsOf v.1 p2)) &&& (f_M_instances v.2.2 p3)) x7) (cwS 2 hts k_g0 rfl rfl rfl (by decide +kernel) ⟨Nat.le_of_ble_eq_true rfl, Nat.le_of_ble_eq_true rfl⟩) ⟨fb_ro, fun U hU hW => ⟨rfl, by rw [hU], by rw [hU]; exact hP.sub (ws' := ([] : va_W)) [] rfl, va_K.moved hW.alike (hK.sub (tys' := []) [] rfl), NX.warm hW hN⟩⟩ rfl rfl hl.1 rfl (lv_room (Nat.le_of_ble_eq_true rfl)) d_O_canOverride_63 ⟨Nat.zero_le _, Nat.zero_le _⟩) hS (fun z h1 h2 => absurd h1 (Nat.not_lt.mpr h2)) (fun z h => hA z (Nat.le_trans hS.1 h)) (fun r u t H1 locs ht hvm hpo hB hz1 hk1 hS => ?_)
          subst hpo
          have hP := kp_P hP hk1
          generalize H1 = H at hP hS ⊢
          refine lv_if_eq (tgt := 90) hx hb d_O_canOverride_66 (by decide) (fun c_7 => ?_) (fun c_7 => ?_)
          · have c_7 : (f_O_holds (((f_W_chain v.1 p1) &&& (f_W_kindsOf v.1 p2)) &&& (f_M_instances v.2.2 p3)) x7) = (0 : Int32) := c_7
            refine lv_iinc (v := (x7 + (1 : Int32))) (lv' := [(7, .int (x7 + (1 : Int32))), (6, .int x6), (5, .int (((f_W_chain v.1 p1) &&& (f_W_kindsOf v.1 p2)) &&& (f_M_instances v.2.2 p3))), (4, .int (f_M_instances v.2.2 p3)), (0, .ref h0), (1, .int p1), (2, .int p2), (3, .int p3)]) hx hb d_O_canOverride_90 hl (k := 1) rfl (by rw [of_p1]) (by decide) rfl (fun ls hl => ?_)
            refine lv_goto (tgt := 53) hx hb d_O_canOverride_93 (by decide) ?_
            exact ih (k + 1) x6 (x7 + (1 : Int32)) _ _ _ (by rw [et]; exact nI_1 k) (by omega) (by first | exact Nat.succ_le_succ (le12 et h2 (by with_reducible assumption)) | exact Nat.succ_le_succ (lt12 et h2 (by with_reducible assumption)) | exact Nat.succ_le_succ (leCnt hw et h2 (by with_reducible assumption)) | exact Nat.succ_le_succ (Nat.le_trans (Nat.le_of_lt (ltDc hw et h2 (by with_reducible assumption) (by with_reducible assumption))) (by decide)) | exact Nat.succ_le_succ (lePar et h2 (by with_reducible assumption) (by with_reducible assumption)) | exact Nat.succ_le_succ (ltPar et h2 (by with_reducible assumption) (by with_reducible assumption))) (by rw [← hF, lr_O_canOverride_s, if_neg c_6, if_pos c_7]) hP hS (lv_sub hl [1, 0, 2, 3, 4, 5, 6, 7] rfl)
          · have c_7 : ¬ ((f_O_holds (((f_W_chain v.1 p1) &&& (f_W_kindsOf v.1 p2)) &&& (f_M_instances v.2.2 p3)) x7) = (0 : Int32)) := c_7
            refine lv_aload_n hx hb d_O_canOverride_69 rfl (lv_at hl 4 rfl) ?_
            refine lv_iload hx hb d_O_canOverride_70 (lv_at hl 1 rfl) ?_
            refine lv_iload hx hb d_O_canOverride_72 (lv_at hl 0 rfl) ?_
            refine lv_iload_n hx hb d_O_canOverride_74 rfl (lv_at hl 7 rfl) ?_
            have hq_8 : vp_in x7 13 := by first | with_reducible assumption | exact in_et et (le12 et h2 (by with_reducible assumption)) | exact in_et et (lt12 et h2 (by with_reducible assumption)) | exact in_et et (leCnt hw et h2 (by with_reducible assumption)) | exact in_et et (lePar et h2 (by with_reducible assumption) (by with_reducible assumption)) | exact in_et et (ltPar et h2 (by with_reducible assumption) (by with_reducible assumption)) | exact in_et et h2
            have hq_9 : vp_in p3 4 := by first | with_reducible assumption | exact in_name (by with_reducible assumption) | exact in4_4 (by with_reducible assumption) | exact in4_5 (by with_reducible assumption) | exact in4_6 (by with_reducible assumption) | exact in4_7 (by with_reducible assumption)
            refine va_calli (va_runV (As := [.int x7, .int x6, .int p3]) (rest := []) ⟨hx, hb, hml, hown, hts⟩ (c_O_overridesOneOf l dC dI h0 kw kf km qw qf qm H.size v lc x7 x6 p3 hq_8 hq_9) (cwV 3 hts k_g23 rfl rfl rfl (by decide +kernel) ⟨Nat.le_of_ble_eq_true rfl, Nat.le_of_ble_eq_true rfl⟩) ⟨fb_ro, va_recv hK hP (ci := 2) (q0 := 0) rfl rfl, fun U hU hW => ⟨rfl, by rw [hU], by rw [hU]; exact hP.sub (ws' := (wO h0 kw kf km qw qf qm v lc)) [0, 1, 2, 3, 4, 5, 6, 7, 8, 9, 10, 11, 12, 13, 14, 15, 16, 17, 18, 19] rfl, va_K.moved hW.alike (hK.sub (tys' := (tO kw kf km)) [0, 1, 2, 3, 4, 5, 6, 7, 8, 9, 10, 11, 12, 13, 14, 15] rfl), NX.warm hW hN⟩⟩ rfl rfl hl.1 rfl (lv_room (Nat.le_of_ble_eq_true rfl)) d_O_canOverride_75 ⟨Nat.zero_le _, Nat.zero_le _⟩) hS (fun z h1 h2 => absurd h1 (Nat.not_lt.mpr h2)) (fun z h => hA z (Nat.le_trans hS.1 h)) (fun r u t H1 locs ht hvm hpo hB hz1 hk1 hS => ?_)
            subst hpo
            have hP := kp_P hP hk1
            generalize H1 = H at hP hS ⊢
            refine lv_if_eq (tgt := 90) hx hb d_O_canOverride_78 (by decide) (fun c_10 => ?_) (fun c_10 => ?_)
            · have c_10 : (f_O_overridesOneOf v x7 x6 p3) = (0 : Int32) := c_10
              refine lv_iinc (v := (x7 + (1 : Int32))) (lv' := [(7, .int (x7 + (1 : Int32))), (6, .int x6), (5, .int (((f_W_chain v.1 p1) &&& (f_W_kindsOf v.1 p2)) &&& (f_M_instances v.2.2 p3))), (4, .int (f_M_instances v.2.2 p3)), (0, .ref h0), (1, .int p1), (2, .int p2), (3, .int p3)]) hx hb d_O_canOverride_90 hl (k := 1) rfl (by rw [of_p1]) (by decide) rfl (fun ls hl => ?_)
              refine lv_goto (tgt := 53) hx hb d_O_canOverride_93 (by decide) ?_
              exact ih (k + 1) x6 (x7 + (1 : Int32)) _ _ _ (by rw [et]; exact nI_1 k) (by omega) (by first | exact Nat.succ_le_succ (le12 et h2 (by with_reducible assumption)) | exact Nat.succ_le_succ (lt12 et h2 (by with_reducible assumption)) | exact Nat.succ_le_succ (leCnt hw et h2 (by with_reducible assumption)) | exact Nat.succ_le_succ (Nat.le_trans (Nat.le_of_lt (ltDc hw et h2 (by with_reducible assumption) (by with_reducible assumption))) (by decide)) | exact Nat.succ_le_succ (lePar et h2 (by with_reducible assumption) (by with_reducible assumption)) | exact Nat.succ_le_succ (ltPar et h2 (by with_reducible assumption) (by with_reducible assumption))) (by rw [← hF, lr_O_canOverride_s, if_neg c_6, if_neg c_7, if_pos c_10]) hP hS (lv_sub hl [1, 0, 2, 3, 4, 5, 6, 7] rfl)
            · have c_10 : ¬ ((f_O_overridesOneOf v x7 x6 p3) = (0 : Int32)) := c_10
              refine lv_iload hx hb d_O_canOverride_81 (lv_at hl 0 rfl) ?_
              refine lv_iconst (v := (1 : Int32)) hx hb d_O_canOverride_83 (by decide +kernel) ?_
              refine lv_iload hx hb d_O_canOverride_84 (lv_at hl 1 rfl) ?_
              refine lv_ishl hx hb d_O_canOverride_86 ?_
              refine lv_ior hx hb d_O_canOverride_87 ?_
              refine lv_istore (lv' := [(6, .int (x6 ||| ((1 : Int32) <<< (x7 &&& (31 : Int32))))), (7, .int x7), (5, .int (((f_W_chain v.1 p1) &&& (f_W_kindsOf v.1 p2)) &&& (f_M_instances v.2.2 p3))), (4, .int (f_M_instances v.2.2 p3)), (0, .ref h0), (1, .int p1), (2, .int p2), (3, .int p3)]) hx hb d_O_canOverride_88 hl (by decide) rfl (fun ls hl => ?_)
              refine lv_iinc (v := (x7 + (1 : Int32))) (lv' := [(7, .int (x7 + (1 : Int32))), (6, .int (x6 ||| ((1 : Int32) <<< (x7 &&& (31 : Int32))))), (5, .int (((f_W_chain v.1 p1) &&& (f_W_kindsOf v.1 p2)) &&& (f_M_instances v.2.2 p3))), (4, .int (f_M_instances v.2.2 p3)), (0, .ref h0), (1, .int p1), (2, .int p2), (3, .int p3)]) hx hb d_O_canOverride_90 hl (k := 1) rfl (by rw [of_p1]) (by decide) rfl (fun ls hl => ?_)
              refine lv_goto (tgt := 53) hx hb d_O_canOverride_93 (by decide) ?_
              exact ih (k + 1) (x6 ||| ((1 : Int32) <<< (x7 &&& (31 : Int32)))) (x7 + (1 : Int32)) _ _ _ (by rw [et]; exact nI_1 k) (by omega) (by first | exact Nat.succ_le_succ (le12 et h2 (by with_reducible assumption)) | exact Nat.succ_le_succ (lt12 et h2 (by with_reducible assumption)) | exact Nat.succ_le_succ (leCnt hw et h2 (by with_reducible assumption)) | exact Nat.succ_le_succ (Nat.le_trans (Nat.le_of_lt (ltDc hw et h2 (by with_reducible assumption) (by with_reducible assumption))) (by decide)) | exact Nat.succ_le_succ (lePar et h2 (by with_reducible assumption) (by with_reducible assumption)) | exact Nat.succ_le_succ (ltPar et h2 (by with_reducible assumption) (by with_reducible assumption))) (by rw [← hF, lr_O_canOverride_s, if_neg c_6, if_neg c_7, if_neg c_10]) hP hS (lv_sub hl [1, 0, 2, 3, 4, 5, 6, 7] rfl)
    exact LOOP 14 (p2.toNatClampNeg + 1) ((1 : Int32) <<< (p2 &&& (31 : Int32))) (p2 + (1 : Int32)) _ _ _ (in_k1 hp2) (by omega) (in_lt hp2) (by unfold f_O_canOverride; rw [if_neg c_2]) hP hS (lv_sub hl [1, 0, 2, 3, 4, 5, 6, 7] rfl)
  · have c_2 : (f_O_holds (f_M_instances v.2.2 p3) p2) = (0 : Int32) := c_2
    refine lv_iconst (v := (0 : Int32)) hx hb d_O_canOverride_19 (by decide +kernel) ?_
    exact W.zret (v := (0 : Int32)) hx hb hr (by decide +kernel) (fun t ht hW => ⟨⟨(0 : Int32), (), rfl, by unfold f_O_canOverride; rw [if_pos c_2], trivial⟩, hS.F ht⟩) hS.2.2 d_O_canOverride_20
