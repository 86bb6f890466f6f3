set_option maxHeartbeats 1000000 in
set_option maxRecDepth 100000 in
theorem c_O_resolve (l : Launch) (dC : Nat → ClassId) (dI : Nat → Nat → Nat) (h0 : Nat) (kw kf km : Nat → ClassId) (qw qf qm : Nat → Nat) (sz : Nat) (v : ES) (lc : Int32) (p1 p2 p3 p4 : Int32) (hw : WF v.1) : Met l y_O_resolve w_O_resolve ({ frames := 5, cells := 0, slots := 0, locals := 117 } : Room) (mu_P dC dI (wO h0 kw kf km qw qf qm v lc) (tO kw kf km) sz [.ref h0, .int p1, .int p2, .int p3, .int p4]) (mu_Q (fun (S9 : Int32) => (wO h0 kw kf km qw qf qm v S9)) dC dI (f_O_resolve v lc p1 p2 p3 p4) (s_O_resolve v lc p1 p2 p3 p4) (va_A (wO h0 kw kf km qw qf qm v lc) sz)) 0 0 (va_A (wO h0 kw kf km qw qf qm v lc) sz) := by
  refine Met.ofW (cc := b_O_resolve) (maxL := 6) (ret := (some .int)) (by decide) rfl ?_
  intro p e s m args below meth c s₁ B hml hv
  obtain ⟨rfl, hsz, hP, hK, hN, hD0⟩ := hv
  have hx := B.exec
  have hb := B.bytes
  have hr := B.returns
  have hts := tl_of (atoms_spec (ws := w_O_resolve) B.pre)
  have hown : s.vm.findClass R_O = some m.cls := findClass_of_methodNamed B.named
  have hlocks := B.notSynchronized
  subst hsz
  have hD := hD0.self (sz := s.heap.size)
  generalize hAe : va_A (wO h0 kw kf km qw qf qm v lc) s.heap.size = A at hD ⊢
  have hA : ∀ q : Nat, s.heap.size ≤ q → A q := fun q h => by rw [← hAe]; exact Or.inr h
  have hS : va_S A s.heap s.heap [] := va_S.rf
  have hl := lv_entry ([.ref h0, .int p1, .int p2, .int p3, .int p4]) (n := 6) (Nat.le_of_ble_eq_true rfl)
  rw [lg_entry_eq]
  generalize (lg_sl ([.ref h0, .int p1, .int p2, .int p3, .int p4]) ++ List.replicate (6 - (lg_sl ([.ref h0, .int p1, .int p2, .int p3, .int p4])).length) Slot.unset).toArray = ls at hl ⊢
  have hl : lv_has ls 6 [(0, .ref h0), (1, .int p1), (2, .int p2), (3, .int p3), (4, .int p4)] := hl
  refine lv_aload_n hx hb d_O_resolve_0 rfl (lv_at hl 0 rfl) ?_
  refine va_get (D := (dC, dI)) (ci := 2) (v := .ref (qw 0)) (C := R_O) (T := F_O) (N := 4) hx hb hts i_O hown hK hP 0 rfl rfl 0 (by decide) (hts _ k_22) (fun _ h9 => h9) rfl d_O_resolve_1 ?_
  refine lv_iload_n hx hb d_O_resolve_4 rfl (lv_at hl 2 rfl) ?_
  refine va_calli (va_runV (As := [.int p2]) (rest := []) ⟨hx, hb, hml, hown, hts⟩ (c_W_has l dC dI kw qw s.heap.size v.1  p2) (cwV 1 hts k_g41 rfl rfl rfl (by decide +kernel) ⟨Nat.le_of_ble_eq_true rfl, Nat.le_of_ble_eq_true rfl⟩) ⟨fb_ro, va_recv hK hP (ci := 0) (q0 := 1) rfl rfl, fun U hU hW => ⟨rfl, by rw [hU], by rw [hU]; exact hP.sub (ws' := (wW kw qw v.1)) [1, 2, 3, 4, 5, 6, 7] rfl, va_K.moved hW.alike (hK.sub (tys' := (tW kw)) [0, 1, 2, 3, 4, 5] rfl), NX.warm hW hN⟩⟩ rfl rfl hl.1 rfl (lv_room (Nat.le_of_ble_eq_true rfl)) d_O_resolve_5 ⟨Nat.zero_le _, Nat.zero_le _⟩) hS (fun z h1 h2 => absurd h1 (Nat.not_lt.mpr h2)) (fun z h => hA z (Nat.le_trans hS.1 h)) (fun r u t H1 locs ht hvm hpo hB hz1 hk1 hS => ?_)
  subst hpo
  have hP := kp_P hP hk1
  generalize H1 = H at hP hS ⊢
  refine lv_if_eq (tgt := 30) hx hb d_O_resolve_8 (by decide) (fun c_1 => ?_) (fun c_1 => ?_)
  · have c_1 : (f_W_has v.1 p2) = (0 : Int32) := c_1
    refine lv_iconst (v := (-1 : Int32)) hx hb d_O_resolve_30 (by decide +kernel) ?_
    have hP9 : va_P (dC, dI) classes (wO h0 kw kf km qw qf qm v lc) H := hP
    exact W.iret (v := (-1 : Int32)) hx hb hr (fun t ht hW => ⟨⟨(-1 : Int32), lc, rfl, ⟨by unfold f_O_resolve; rw [if_pos c_1], by unfold s_O_resolve; rw [if_pos c_1]⟩, hp_at ht hP9⟩, hS.F ht⟩) hS.2.2 d_O_resolve_31
  · have c_1 : ¬ ((f_W_has v.1 p2) = (0 : Int32)) := c_1
    refine lv_aload_n hx hb d_O_resolve_11 rfl (lv_at hl 0 rfl) ?_
    refine va_get (D := (dC, dI)) (ci := 2) (v := .ref (qw 0)) (C := R_O) (T := F_O) (N := 4) hx hb hts i_O hown hK hP 0 rfl rfl 0 (by decide) (hts _ k_22) (fun _ h9 => h9) rfl d_O_resolve_12 ?_
    refine lv_iload_n hx hb d_O_resolve_15 rfl (lv_at hl 3 rfl) ?_
    refine va_calli (va_runV (As := [.int p3]) (rest := []) ⟨hx, hb, hml, hown, hts⟩ (c_W_has l dC dI kw qw H.size v.1  p3) (cwV 1 hts k_g41 rfl rfl rfl (by decide +kernel) ⟨Nat.le_of_ble_eq_true rfl, Nat.le_of_ble_eq_true rfl⟩) ⟨fb_ro, va_recv hK hP (ci := 0) (q0 := 1) rfl rfl, fun U hU hW => ⟨rfl, by rw [hU], by rw [hU]; exact hP.sub (ws' := (wW kw qw v.1)) [1, 2, 3, 4, 5, 6, 7] rfl, va_K.moved hW.alike (hK.sub (tys' := (tW kw)) [0, 1, 2, 3, 4, 5] rfl), NX.warm hW hN⟩⟩ rfl rfl hl.1 rfl (lv_room (Nat.le_of_ble_eq_true rfl)) d_O_resolve_16 ⟨Nat.zero_le _, Nat.zero_le _⟩) hS (fun z h1 h2 => absurd h1 (Nat.not_lt.mpr h2)) (fun z h => hA z (Nat.le_trans hS.1 h)) (fun r u t H1 locs ht hvm hpo hB hz1 hk1 hS => ?_)
    subst hpo
    have hP := kp_P hP hk1
    generalize H1 = H at hP hS ⊢
    refine lv_if_eq (tgt := 30) hx hb d_O_resolve_19 (by decide) (fun c_2 => ?_) (fun c_2 => ?_)
    · have c_2 : (f_W_has v.1 p3) = (0 : Int32) := c_2
      refine lv_iconst (v := (-1 : Int32)) hx hb d_O_resolve_30 (by decide +kernel) ?_
      have hP9 : va_P (dC, dI) classes (wO h0 kw kf km qw qf qm v lc) H := hP
      exact W.iret (v := (-1 : Int32)) hx hb hr (fun t ht hW => ⟨⟨(-1 : Int32), lc, rfl, ⟨by unfold f_O_resolve; rw [if_neg c_1, if_pos c_2], by unfold s_O_resolve; rw [if_neg c_1, if_pos c_2]⟩, hp_at ht hP9⟩, hS.F ht⟩) hS.2.2 d_O_resolve_31
    · have c_2 : ¬ ((f_W_has v.1 p3) = (0 : Int32)) := c_2
      refine lv_iload hx hb d_O_resolve_22 (lv_at hl 4 rfl) ?_
      refine va_calli (va_runS (As := [.int p4]) (rest := []) ⟨hx, hb, hml, hown, hts⟩ (c_O_isName l dC dI  H.size   p4) (cwS 1 hts k_g42 rfl rfl rfl (by decide +kernel) ⟨Nat.le_of_ble_eq_true rfl, Nat.le_of_ble_eq_true rfl⟩) ⟨fb_ro, fun U hU hW => ⟨rfl, by rw [hU], by rw [hU]; exact hP.sub (ws' := ([] : va_W)) [] rfl, va_K.moved hW.alike (hK.sub (tys' := []) [] rfl), NX.warm hW hN⟩⟩ rfl rfl hl.1 rfl (lv_room (Nat.le_of_ble_eq_true rfl)) d_O_resolve_24 ⟨Nat.zero_le _, Nat.zero_le _⟩) hS (fun z h1 h2 => absurd h1 (Nat.not_lt.mpr h2)) (fun z h => hA z (Nat.le_trans hS.1 h)) (fun r u t H1 locs ht hvm hpo hB hz1 hk1 hS => ?_)
      subst hpo
      have hP := kp_P hP hk1
      generalize H1 = H at hP hS ⊢
      refine lv_if_ne (tgt := 32) hx hb d_O_resolve_27 (by decide) (fun c_3 => ?_) (fun c_3 => ?_)
      · have c_3 : ¬ ((f_O_isName p4) = (0 : Int32)) := c_3
        refine lv_iload_n hx hb d_O_resolve_32 rfl (lv_at hl 1 rfl) ?_
        by_cases c_4 : p1 = (0 : Int32)
        · refine lv_tableIn (tgt := 60) (off := 27) hx hb d_O_resolve_33 (by rw [c_4]; decide +kernel) (by rw [c_4]; decide +kernel) (by rw [c_4]; rfl) (by decide) ?_
          refine lv_aload_n hx hb d_O_resolve_60 rfl (lv_at hl 0 rfl) ?_
          refine lv_iload_n hx hb d_O_resolve_61 rfl (lv_at hl 2 rfl) ?_
          refine lv_iload_n hx hb d_O_resolve_62 rfl (lv_at hl 3 rfl) ?_
          refine lv_iload hx hb d_O_resolve_63 (lv_at hl 4 rfl) ?_
          have hq_5 : WF v.1 := by first | with_reducible assumption | exact hw
          have hq_6 : vp_in p2 13 := by first | with_reducible assumption | exact in_has hw (by with_reducible assumption) | exact in_cls hw (by with_reducible assumption) | exact in_ifc hw (by with_reducible assumption) | exact in_ext hw (by with_reducible assumption) | exact in_eq0 (by with_reducible assumption) | exact hfd (by with_reducible assumption) | exact in_rcv hw (by with_reducible assumption) (Or.inl (by with_reducible assumption)) | exact in_rcv hw (by with_reducible assumption) (Or.inr (by with_reducible assumption))
          have hq_7 : vp_in p3 13 := by first | with_reducible assumption | exact in_has hw (by with_reducible assumption) | exact in_cls hw (by with_reducible assumption) | exact in_ifc hw (by with_reducible assumption) | exact in_ext hw (by with_reducible assumption) | exact in_eq0 (by with_reducible assumption) | exact hfd (by with_reducible assumption) | exact in_rcv hw (by with_reducible assumption) (Or.inl (by with_reducible assumption)) | exact in_rcv hw (by with_reducible assumption) (Or.inr (by with_reducible assumption))
          have hq_8 : vp_in p4 4 := by first | with_reducible assumption | exact in_name (by with_reducible assumption) | exact in4_4 (by with_reducible assumption) | exact in4_5 (by with_reducible assumption) | exact in4_6 (by with_reducible assumption) | exact in4_7 (by with_reducible assumption)
          refine va_calli (va_runV (As := [.int p2, .int p3, .int p4]) (rest := []) ⟨hx, hb, hml, hown, hts⟩ (c_O_findField l dC dI h0 kw kf km qw qf qm H.size v lc p2 p3 p4 hq_5 hq_6 hq_7 hq_8) (cwV 3 hts k_g47 rfl rfl rfl (by decide +kernel) ⟨Nat.le_of_ble_eq_true rfl, Nat.le_of_ble_eq_true rfl⟩) ⟨fb_ro, va_recv hK hP (ci := 2) (q0 := 0) rfl rfl, fun U hU hW => ⟨rfl, by rw [hU], by rw [hU]; exact hP.sub (ws' := (wO h0 kw kf km qw qf qm v lc)) [0, 1, 2, 3, 4, 5, 6, 7, 8, 9, 10, 11, 12, 13, 14, 15, 16, 17, 18, 19] rfl, va_K.moved hW.alike (hK.sub (tys' := (tO kw kf km)) [0, 1, 2, 3, 4, 5, 6, 7, 8, 9, 10, 11, 12, 13, 14, 15] rfl), NX.warm hW hN⟩⟩ rfl rfl hl.1 rfl (lv_room (Nat.le_of_ble_eq_true rfl)) d_O_resolve_65 ⟨Nat.zero_le _, Nat.zero_le _⟩) hS (fun z h1 h2 => absurd h1 (Nat.not_lt.mpr h2)) (fun z h => hA z (Nat.le_trans hS.1 h)) (fun r u t H1 locs ht hvm hpo hB hz1 hk1 hS => ?_)
          subst hpo
          have hP := kp_P hP hk1
          generalize H1 = H at hP hS ⊢
          refine lv_istore (lv' := [(5, .int (f_O_findField v p2 p3 p4)), (0, .ref h0), (1, .int p1), (2, .int p2), (3, .int p3), (4, .int p4)]) hx hb d_O_resolve_68 hl (by decide) rfl (fun ls hl => ?_)
          refine lv_aload_n hx hb d_O_resolve_70 rfl (lv_at hl 1 rfl) ?_
          refine lv_iload hx hb d_O_resolve_71 (lv_at hl 0 rfl) ?_
          refine lv_if_le (tgt := 80) hx hb d_O_resolve_73 (by decide) (fun c_9 => ?_) (fun c_9 => ?_)
          · have c_9 : (f_O_findField v p2 p3 p4) ≤ (0 : Int32) := c_9
            refine lv_iconst (v := (0 : Int32)) hx hb d_O_resolve_80 (by decide +kernel) ?_
            refine va_put (D := (dC, dI)) (ci := 2) (v := .int (0 : Int32)) (ty := .int) (C := R_O) (T := F_O) (N := 4) hx hb hts i_O t_O t_O_ok n_O hown hK hP hD hS 0 rfl rfl 3 (by decide) (hts _ k_28) (fun _ h9 => h9) rfl (by decide +kernel) rfl rfl (Nat.le_of_ble_eq_true rfl) d_O_resolve_81 (fun H locs hP hD hS => ?_)
            have hP : va_P (dC, dI) classes (wO h0 kw kf km qw qf qm v (0 : Int32)) H := hP
            have hD : va_D A (wO h0 kw kf km qw qf qm v (0 : Int32)) := hD
            refine lv_aload_n hx hb d_O_resolve_84 rfl (lv_at hl 1 rfl) ?_
            refine lv_aload_n hx hb d_O_resolve_85 rfl (lv_at hl 1 rfl) ?_
            refine va_get (D := (dC, dI)) (ci := 2) (v := .ref (qf 0)) (C := R_O) (T := F_O) (N := 4) hx hb hts i_O hown hK hP 0 rfl rfl 1 (by decide) (hts _ k_27) (fun _ h9 => h9) rfl d_O_resolve_86 ?_
            refine lv_iload hx hb d_O_resolve_89 (lv_at hl 0 rfl) ?_
            refine lv_iload hx hb d_O_resolve_91 (lv_at hl 5 rfl) ?_
            refine lv_iload_n hx hb d_O_resolve_93 rfl (lv_at hl 3 rfl) ?_
            have hq_10 : (0 : Int32) < (f_O_findField v p2 p3 p4) → vp_in (f_O_findField v p2 p3 p4) 13 := by exact fun h => in_ff hw (by with_reducible assumption) h
            have hq_11 : vp_in p4 4 := by first | with_reducible assumption | exact in_name (by with_reducible assumption) | exact in4_4 (by with_reducible assumption) | exact in4_5 (by with_reducible assumption) | exact in4_6 (by with_reducible assumption) | exact in4_7 (by with_reducible assumption)
            have hq_12 : vp_in p2 13 := by first | with_reducible assumption | exact in_has hw (by with_reducible assumption) | exact in_cls hw (by with_reducible assumption) | exact in_ifc hw (by with_reducible assumption) | exact in_ext hw (by with_reducible assumption) | exact in_eq0 (by with_reducible assumption) | exact hfd (by with_reducible assumption) | exact in_rcv hw (by with_reducible assumption) (Or.inl (by with_reducible assumption)) | exact in_rcv hw (by with_reducible assumption) (Or.inr (by with_reducible assumption))
            refine va_calli (va_runV (As := [.ref (qf 0), .int (f_O_findField v p2 p3 p4), .int p4, .int p2]) (rest := []) ⟨hx, hb, hml, hown, hts⟩ (c_O_admitted_f l dC dI h0 kw kf km qw qf qm H.size v (0 : Int32) (f_O_findField v p2 p3 p4) p4 p2 hq_10 hq_11 hq_12) (cwV 4 hts k_g35 rfl rfl rfl (by decide +kernel) ⟨Nat.le_of_ble_eq_true rfl, Nat.le_of_ble_eq_true rfl⟩) ⟨fb_ro, va_recv hK hP (ci := 2) (q0 := 0) rfl rfl, fun U hU hW => ⟨rfl, by rw [hU], by rw [hU]; exact hP.sub (ws' := (wO h0 kw kf km qw qf qm v (0 : Int32))) [0, 1, 2, 3, 4, 5, 6, 7, 8, 9, 10, 11, 12, 13, 14, 15, 16, 17, 18, 19] rfl, va_K.moved hW.alike (hK.sub (tys' := (tO kw kf km)) [0, 1, 2, 3, 4, 5, 6, 7, 8, 9, 10, 11, 12, 13, 14, 15] rfl), NX.warm hW hN⟩⟩ rfl rfl hl.1 rfl (lv_room (Nat.le_of_ble_eq_true rfl)) d_O_resolve_94 ⟨Nat.zero_le _, Nat.zero_le _⟩) hS (fun z h1 h2 => absurd h1 (Nat.not_lt.mpr h2)) (fun z h => hA z (Nat.le_trans hS.1 h)) (fun r u t H1 locs ht hvm hpo hB hz1 hk1 hS => ?_)
            subst hpo
            have hP := kp_P hP hk1
            generalize H1 = H at hP hS ⊢
            have hP9 : va_P (dC, dI) classes (wO h0 kw kf km qw qf qm v (0 : Int32)) H := hP
            exact W.iret (v := (f_O_admitted_f v (f_O_findField v p2 p3 p4) p4 p2)) hx hb hr (fun t ht hW => ⟨⟨(f_O_admitted_f v (f_O_findField v p2 p3 p4) p4 p2), (0 : Int32), rfl, ⟨by unfold f_O_resolve; rw [if_neg c_1, if_neg c_2, if_neg c_3, if_pos c_4, if_pos c_9], by unfold s_O_resolve; rw [if_neg c_1, if_neg c_2, if_neg c_3, if_pos c_4, if_pos c_9]⟩, hp_at ht hP9⟩, hS.F ht⟩) hS.2.2 d_O_resolve_97
          · have c_9 : ¬ ((f_O_findField v p2 p3 p4) ≤ (0 : Int32)) := c_9
            refine lv_iconst (v := (1 : Int32)) hx hb d_O_resolve_76 (by decide +kernel) ?_
            refine lv_goto (tgt := 81) hx hb d_O_resolve_77 (by decide) ?_
            refine va_put (D := (dC, dI)) (ci := 2) (v := .int (1 : Int32)) (ty := .int) (C := R_O) (T := F_O) (N := 4) hx hb hts i_O t_O t_O_ok n_O hown hK hP hD hS 0 rfl rfl 3 (by decide) (hts _ k_28) (fun _ h9 => h9) rfl (by decide +kernel) rfl rfl (Nat.le_of_ble_eq_true rfl) d_O_resolve_81 (fun H locs hP hD hS => ?_)
            have hP : va_P (dC, dI) classes (wO h0 kw kf km qw qf qm v (1 : Int32)) H := hP
            have hD : va_D A (wO h0 kw kf km qw qf qm v (1 : Int32)) := hD
            refine lv_aload_n hx hb d_O_resolve_84 rfl (lv_at hl 1 rfl) ?_
            refine lv_aload_n hx hb d_O_resolve_85 rfl (lv_at hl 1 rfl) ?_
            refine va_get (D := (dC, dI)) (ci := 2) (v := .ref (qf 0)) (C := R_O) (T := F_O) (N := 4) hx hb hts i_O hown hK hP 0 rfl rfl 1 (by decide) (hts _ k_27) (fun _ h9 => h9) rfl d_O_resolve_86 ?_
            refine lv_iload hx hb d_O_resolve_89 (lv_at hl 0 rfl) ?_
            refine lv_iload hx hb d_O_resolve_91 (lv_at hl 5 rfl) ?_
            refine lv_iload_n hx hb d_O_resolve_93 rfl (lv_at hl 3 rfl) ?_
            have hq_13 : (0 : Int32) < (f_O_findField v p2 p3 p4) → vp_in (f_O_findField v p2 p3 p4) 13 := by exact fun h => in_ff hw (by with_reducible assumption) h
            have hq_14 : vp_in p4 4 := by first | with_reducible assumption | exact in_name (by with_reducible assumption) | exact in4_4 (by with_reducible assumption) | exact in4_5 (by with_reducible assumption) | exact in4_6 (by with_reducible assumption) | exact in4_7 (by with_reducible assumption)
            have hq_15 : vp_in p2 13 := by first | with_reducible assumption | exact in_has hw (by with_reducible assumption) | exact in_cls hw (by with_reducible assumption) | exact in_ifc hw (by with_reducible assumption) | exact in_ext hw (by with_reducible assumption) | exact in_eq0 (by with_reducible assumption) | exact hfd (by with_reducible assumption) | exact in_rcv hw (by with_reducible assumption) (Or.inl (by with_reducible assumption)) | exact in_rcv hw (by with_reducible assumption) (Or.inr (by with_reducible assumption))
            refine va_calli (va_runV (As := [.ref (qf 0), .int (f_O_findField v p2 p3 p4), .int p4, .int p2]) (rest := []) ⟨hx, hb, hml, hown, hts⟩ (c_O_admitted_f l dC dI h0 kw kf km qw qf qm H.size v (1 : Int32) (f_O_findField v p2 p3 p4) p4 p2 hq_13 hq_14 hq_15) (cwV 4 hts k_g35 rfl rfl rfl (by decide +kernel) ⟨Nat.le_of_ble_eq_true rfl, Nat.le_of_ble_eq_true rfl⟩) ⟨fb_ro, va_recv hK hP (ci := 2) (q0 := 0) rfl rfl, fun U hU hW => ⟨rfl, by rw [hU], by rw [hU]; exact hP.sub (ws' := (wO h0 kw kf km qw qf qm v (1 : Int32))) [0, 1, 2, 3, 4, 5, 6, 7, 8, 9, 10, 11, 12, 13, 14, 15, 16, 17, 18, 19] rfl, va_K.moved hW.alike (hK.sub (tys' := (tO kw kf km)) [0, 1, 2, 3, 4, 5, 6, 7, 8, 9, 10, 11, 12, 13, 14, 15] rfl), NX.warm hW hN⟩⟩ rfl rfl hl.1 rfl (lv_room (Nat.le_of_ble_eq_true rfl)) d_O_resolve_94 ⟨Nat.zero_le _, Nat.zero_le _⟩) hS (fun z h1 h2 => absurd h1 (Nat.not_lt.mpr h2)) (fun z h => hA z (Nat.le_trans hS.1 h)) (fun r u t H1 locs ht hvm hpo hB hz1 hk1 hS => ?_)
            subst hpo
            have hP := kp_P hP hk1
            generalize H1 = H at hP hS ⊢
            have hP9 : va_P (dC, dI) classes (wO h0 kw kf km qw qf qm v (1 : Int32)) H := hP
            exact W.iret (v := (f_O_admitted_f v (f_O_findField v p2 p3 p4) p4 p2)) hx hb hr (fun t ht hW => ⟨⟨(f_O_admitted_f v (f_O_findField v p2 p3 p4) p4 p2), (1 : Int32), rfl, ⟨by unfold f_O_resolve; rw [if_neg c_1, if_neg c_2, if_neg c_3, if_pos c_4, if_neg c_9], by unfold s_O_resolve; rw [if_neg c_1, if_neg c_2, if_neg c_3, if_pos c_4, if_neg c_9]⟩, hp_at ht hP9⟩, hS.F ht⟩) hS.2.2 d_O_resolve_97
        · skip
          by_cases c_16 : p1 = (1 : Int32)
          · refine lv_tableIn (tgt := 98) (off := 65) hx hb d_O_resolve_33 (by rw [c_16]; decide +kernel) (by rw [c_16]; decide +kernel) (by rw [c_16]; rfl) (by decide) ?_
            refine lv_aload_n hx hb d_O_resolve_98 rfl (lv_at hl 0 rfl) ?_
            refine lv_iconst (v := (0 : Int32)) hx hb d_O_resolve_99 (by decide +kernel) ?_
            refine lv_iload_n hx hb d_O_resolve_100 rfl (lv_at hl 2 rfl) ?_
            refine lv_iload_n hx hb d_O_resolve_101 rfl (lv_at hl 3 rfl) ?_
            refine lv_iload hx hb d_O_resolve_102 (lv_at hl 4 rfl) ?_
            have hq_17 : WF v.1 := by first | with_reducible assumption | exact hw
            have hq_18 : vp_in p2 13 := by first | with_reducible assumption | exact in_has hw (by with_reducible assumption) | exact in_cls hw (by with_reducible assumption) | exact in_ifc hw (by with_reducible assumption) | exact in_ext hw (by with_reducible assumption) | exact in_eq0 (by with_reducible assumption) | exact hfd (by with_reducible assumption) | exact in_rcv hw (by with_reducible assumption) (Or.inl (by with_reducible assumption)) | exact in_rcv hw (by with_reducible assumption) (Or.inr (by with_reducible assumption))
            have hq_19 : vp_in p3 13 := by first | with_reducible assumption | exact in_has hw (by with_reducible assumption) | exact in_cls hw (by with_reducible assumption) | exact in_ifc hw (by with_reducible assumption) | exact in_ext hw (by with_reducible assumption) | exact in_eq0 (by with_reducible assumption) | exact hfd (by with_reducible assumption) | exact in_rcv hw (by with_reducible assumption) (Or.inl (by with_reducible assumption)) | exact in_rcv hw (by with_reducible assumption) (Or.inr (by with_reducible assumption))
            have hq_20 : vp_in p4 4 := by first | with_reducible assumption | exact in_name (by with_reducible assumption) | exact in4_4 (by with_reducible assumption) | exact in4_5 (by with_reducible assumption) | exact in4_6 (by with_reducible assumption) | exact in4_7 (by with_reducible assumption)
            have hPc := hP.sub (ws' := (wO h0 kw kf km qw qf qm v lc)) [0, 1, 2, 3, 4, 5, 6, 7, 8, 9, 10, 11, 12, 13, 14, 15, 16, 17, 18, 19] rfl
            have hDc := hD.sub (ws' := (wO h0 kw kf km qw qf qm v lc)) [0, 1, 2, 3, 4, 5, 6, 7, 8, 9, 10, 11, 12, 13, 14, 15, 16, 17, 18, 19] (by decide) rfl
            have hFc := va_free (wc := (wO h0 kw kf km qw qf qm v lc)) hD hS hA [0, 1, 2, 3, 4, 5, 6, 7, 8, 9, 10, 11, 12, 13, 14, 15, 16, 17, 18, 19] rfl
            refine va_calli (va_runV (As := [.int (0 : Int32), .int p2, .int p3, .int p4]) (rest := []) ⟨hx, hb, hml, hown, hts⟩ (c_O_resolveMethod l dC dI h0 kw kf km qw qf qm H.size v lc (0 : Int32) p2 p3 p4 hq_17 hq_18 hq_19 hq_20) (cwV 4 hts k_g36 rfl rfl rfl (by decide +kernel) ⟨Nat.le_of_ble_eq_true rfl, Nat.le_of_ble_eq_true rfl⟩) ⟨fb_mu, va_recv hK hP (ci := 2) (q0 := 0) rfl rfl, fun U hU hW => ⟨rfl, by rw [hU], by rw [hU]; exact hPc, va_K.moved hW.alike (hK.sub (tys' := (tO kw kf km)) [0, 1, 2, 3, 4, 5, 6, 7, 8, 9, 10, 11, 12, 13, 14, 15] rfl), NX.warm hW hN, hDc.weaken (fun _ _ _ _ => trivial)⟩⟩ rfl rfl hl.1 rfl (lv_room (Nat.le_of_ble_eq_true rfl)) d_O_resolve_104 ⟨Nat.zero_le _, Nat.zero_le _⟩) hS (fun q _ h => hFc q h) hFc (fun r u t H1 locs ht hvm hpo hB hz1 hk1 hS => ?_)
            obtain ⟨rfl, rfl⟩ := hpo
            have hB : va_P (dC, dI) classes (wO h0 kw kf km qw qf qm v (s_O_resolveMethod v (0 : Int32) p2 p3 p4)) H1 := hp_to ht hB
            obtain ⟨hP, hD⟩ := va_join (wr := ([] : va_W)) (w1 := (wO h0 kw kf km qw qf qm v (s_O_resolveMethod v (0 : Int32) p2 p3 p4))) hP hD [0, 1, 2, 3, 4, 5, 6, 7, 8, 9, 10, 11, 12, 13, 14, 15, 16, 17, 18, 19] [] rfl rfl (by decide) (by decide) hk1 hFc hB (ad_D hDc.self rfl)
            have hP := hP.sub (ws' := (wO h0 kw kf km qw qf qm v (s_O_resolveMethod v (0 : Int32) p2 p3 p4))) [0, 1, 2, 3, 4, 5, 6, 7, 8, 9, 10, 11, 12, 13, 14, 15, 16, 17, 18, 19] rfl
            have hD := hD.sub (ws' := (wO h0 kw kf km qw qf qm v (s_O_resolveMethod v (0 : Int32) p2 p3 p4))) [0, 1, 2, 3, 4, 5, 6, 7, 8, 9, 10, 11, 12, 13, 14, 15, 16, 17, 18, 19] (by decide) rfl
            generalize H1 = H at hP hS ⊢
            have hP9 : va_P (dC, dI) classes (wO h0 kw kf km qw qf qm v (s_O_resolveMethod v (0 : Int32) p2 p3 p4)) H := hP
            exact W.iret (v := (f_O_resolveMethod v (0 : Int32) p2 p3 p4)) hx hb hr (fun t ht hW => ⟨⟨(f_O_resolveMethod v (0 : Int32) p2 p3 p4), (s_O_resolveMethod v (0 : Int32) p2 p3 p4), rfl, ⟨by unfold f_O_resolve; rw [if_neg c_1, if_neg c_2, if_neg c_3, if_neg c_4, if_pos c_16], by unfold s_O_resolve; rw [if_neg c_1, if_neg c_2, if_neg c_3, if_neg c_4, if_pos c_16]⟩, hp_at ht hP9⟩, hS.F ht⟩) hS.2.2 d_O_resolve_107
          · skip
            by_cases c_21 : p1 = (2 : Int32)
            · refine lv_tableIn (tgt := 108) (off := 75) hx hb d_O_resolve_33 (by rw [c_21]; decide +kernel) (by rw [c_21]; decide +kernel) (by rw [c_21]; rfl) (by decide) ?_
              refine lv_aload_n hx hb d_O_resolve_108 rfl (lv_at hl 0 rfl) ?_
              refine lv_iconst (v := (1 : Int32)) hx hb d_O_resolve_109 (by decide +kernel) ?_
              refine lv_iload_n hx hb d_O_resolve_110 rfl (lv_at hl 2 rfl) ?_
              refine lv_iload_n hx hb d_O_resolve_111 rfl (lv_at hl 3 rfl) ?_
              refine lv_iload hx hb d_O_resolve_112 (lv_at hl 4 rfl) ?_
              have hq_22 : WF v.1 := by first | with_reducible assumption | exact hw
              have hq_23 : vp_in p2 13 := by first | with_reducible assumption | exact in_has hw (by with_reducible assumption) | exact in_cls hw (by with_reducible assumption) | exact in_ifc hw (by with_reducible assumption) | exact in_ext hw (by with_reducible assumption) | exact in_eq0 (by with_reducible assumption) | exact hfd (by with_reducible assumption) | exact in_rcv hw (by with_reducible assumption) (Or.inl (by with_reducible assumption)) | exact in_rcv hw (by with_reducible assumption) (Or.inr (by with_reducible assumption))
              have hq_24 : vp_in p3 13 := by first | with_reducible assumption | exact in_has hw (by with_reducible assumption) | exact in_cls hw (by with_reducible assumption) | exact in_ifc hw (by with_reducible assumption) | exact in_ext hw (by with_reducible assumption) | exact in_eq0 (by with_reducible assumption) | exact hfd (by with_reducible assumption) | exact in_rcv hw (by with_reducible assumption) (Or.inl (by with_reducible assumption)) | exact in_rcv hw (by with_reducible assumption) (Or.inr (by with_reducible assumption))
              have hq_25 : vp_in p4 4 := by first | with_reducible assumption | exact in_name (by with_reducible assumption) | exact in4_4 (by with_reducible assumption) | exact in4_5 (by with_reducible assumption) | exact in4_6 (by with_reducible assumption) | exact in4_7 (by with_reducible assumption)
              have hPc := hP.sub (ws' := (wO h0 kw kf km qw qf qm v lc)) [0, 1, 2, 3, 4, 5, 6, 7, 8, 9, 10, 11, 12, 13, 14, 15, 16, 17, 18, 19] rfl
              have hDc := hD.sub (ws' := (wO h0 kw kf km qw qf qm v lc)) [0, 1, 2, 3, 4, 5, 6, 7, 8, 9, 10, 11, 12, 13, 14, 15, 16, 17, 18, 19] (by decide) rfl
              have hFc := va_free (wc := (wO h0 kw kf km qw qf qm v lc)) hD hS hA [0, 1, 2, 3, 4, 5, 6, 7, 8, 9, 10, 11, 12, 13, 14, 15, 16, 17, 18, 19] rfl
              refine va_calli (va_runV (As := [.int (1 : Int32), .int p2, .int p3, .int p4]) (rest := []) ⟨hx, hb, hml, hown, hts⟩ (c_O_resolveMethod l dC dI h0 kw kf km qw qf qm H.size v lc (1 : Int32) p2 p3 p4 hq_22 hq_23 hq_24 hq_25) (cwV 4 hts k_g36 rfl rfl rfl (by decide +kernel) ⟨Nat.le_of_ble_eq_true rfl, Nat.le_of_ble_eq_true rfl⟩) ⟨fb_mu, va_recv hK hP (ci := 2) (q0 := 0) rfl rfl, fun U hU hW => ⟨rfl, by rw [hU], by rw [hU]; exact hPc, va_K.moved hW.alike (hK.sub (tys' := (tO kw kf km)) [0, 1, 2, 3, 4, 5, 6, 7, 8, 9, 10, 11, 12, 13, 14, 15] rfl), NX.warm hW hN, hDc.weaken (fun _ _ _ _ => trivial)⟩⟩ rfl rfl hl.1 rfl (lv_room (Nat.le_of_ble_eq_true rfl)) d_O_resolve_114 ⟨Nat.zero_le _, Nat.zero_le _⟩) hS (fun q _ h => hFc q h) hFc (fun r u t H1 locs ht hvm hpo hB hz1 hk1 hS => ?_)
              obtain ⟨rfl, rfl⟩ := hpo
              have hB : va_P (dC, dI) classes (wO h0 kw kf km qw qf qm v (s_O_resolveMethod v (1 : Int32) p2 p3 p4)) H1 := hp_to ht hB
              obtain ⟨hP, hD⟩ := va_join (wr := ([] : va_W)) (w1 := (wO h0 kw kf km qw qf qm v (s_O_resolveMethod v (1 : Int32) p2 p3 p4))) hP hD [0, 1, 2, 3, 4, 5, 6, 7, 8, 9, 10, 11, 12, 13, 14, 15, 16, 17, 18, 19] [] rfl rfl (by decide) (by decide) hk1 hFc hB (ad_D hDc.self rfl)
              have hP := hP.sub (ws' := (wO h0 kw kf km qw qf qm v (s_O_resolveMethod v (1 : Int32) p2 p3 p4))) [0, 1, 2, 3, 4, 5, 6, 7, 8, 9, 10, 11, 12, 13, 14, 15, 16, 17, 18, 19] rfl
              have hD := hD.sub (ws' := (wO h0 kw kf km qw qf qm v (s_O_resolveMethod v (1 : Int32) p2 p3 p4))) [0, 1, 2, 3, 4, 5, 6, 7, 8, 9, 10, 11, 12, 13, 14, 15, 16, 17, 18, 19] (by decide) rfl
              generalize H1 = H at hP hS ⊢
              have hP9 : va_P (dC, dI) classes (wO h0 kw kf km qw qf qm v (s_O_resolveMethod v (1 : Int32) p2 p3 p4)) H := hP
              exact W.iret (v := (f_O_resolveMethod v (1 : Int32) p2 p3 p4)) hx hb hr (fun t ht hW => ⟨⟨(f_O_resolveMethod v (1 : Int32) p2 p3 p4), (s_O_resolveMethod v (1 : Int32) p2 p3 p4), rfl, ⟨by unfold f_O_resolve; rw [if_neg c_1, if_neg c_2, if_neg c_3, if_neg c_4, if_neg c_16, if_pos c_21], by unfold s_O_resolve; rw [if_neg c_1, if_neg c_2, if_neg c_3, if_neg c_4, if_neg c_16, if_pos c_21]⟩, hp_at ht hP9⟩, hS.F ht⟩) hS.2.2 d_O_resolve_117
            · skip
              refine lv_tableOut (tgt := 118) hx hb d_O_resolve_33 (by have z0 := ne_ti (z := 0) c_4 rfl; have z1 := ne_ti (z := 1) c_16 rfl; have z2 := ne_ti (z := 2) c_21 rfl; omega) (by decide) ?_
              refine lv_iconst (v := (-1 : Int32)) hx hb d_O_resolve_118 (by decide +kernel) ?_
              have hP9 : va_P (dC, dI) classes (wO h0 kw kf km qw qf qm v lc) H := hP
              exact W.iret (v := (-1 : Int32)) hx hb hr (fun t ht hW => ⟨⟨(-1 : Int32), lc, rfl, ⟨by unfold f_O_resolve; rw [if_neg c_1, if_neg c_2, if_neg c_3, if_neg c_4, if_neg c_16, if_neg c_21], by unfold s_O_resolve; rw [if_neg c_1, if_neg c_2, if_neg c_3, if_neg c_4, if_neg c_16, if_neg c_21]⟩, hp_at ht hP9⟩, hS.F ht⟩) hS.2.2 d_O_resolve_119
      · have c_3 : (f_O_isName p4) = (0 : Int32) := c_3
        refine lv_iconst (v := (-1 : Int32)) hx hb d_O_resolve_30 (by decide +kernel) ?_
        have hP9 : va_P (dC, dI) classes (wO h0 kw kf km qw qf qm v lc) H := hP
        exact W.iret (v := (-1 : Int32)) hx hb hr (fun t ht hW => ⟨⟨(-1 : Int32), lc, rfl, ⟨by unfold f_O_resolve; rw [if_neg c_1, if_neg c_2, if_pos c_3], by unfold s_O_resolve; rw [if_neg c_1, if_neg c_2, if_pos c_3]⟩, hp_at ht hP9⟩, hS.F ht⟩) hS.2.2 d_O_resolve_31
