set_option maxHeartbeats 1000000 in
set_option maxRecDepth 100000 in
theorem c_R_method (l : Launch) (dC : Nat → ClassId) (dI : Nat → Nat → Nat) (ka : Nat → ClassId) (qa : Nat → Nat) (sz : Nat) (b0 b1 : Int32) (a0 a1 a2 a3 a4 a5 a6 a7 a8 a9 a10 a11 a12 : Nat → Int32) (p1 p2 p3 p4 : Int32) (hT : vT b0) : Met l y_R_method w_R_method ({ frames := 2, cells := 0, slots := 0, locals := 43 } : Room) (mu_P dC dI (wR ka qa b0 b1 a0 a1 a2 a3 a4 a5 a6 a7 a8 a9 a10 a11 a12) (tR ka) sz [.ref (qa 0), .int p1, .int p2, .int p3, .int p4]) (mu_Q (fun (S9 : (Nat → Int32)) => (wR ka qa b0 b1 a0 a1 a2 a3 a4 a5 a6 a7 a8 S9 a10 a11 a12)) dC dI (f_R_method b0 a0 a9 p1 p2 p3 p4) ((s_R_method_a9 b0 a0 a9 p1 p2 p3 p4)) (va_A (wR ka qa b0 b1 a0 a1 a2 a3 a4 a5 a6 a7 a8 a9 a10 a11 a12) sz)) 0 0 (va_A (wR ka qa b0 b1 a0 a1 a2 a3 a4 a5 a6 a7 a8 a9 a10 a11 a12) sz) := by
  refine Met.ofW (cc := b_R_method) (maxL := 5) (ret := (some .int)) (by decide) rfl ?_
  intro p e s m args below meth c s₁ B hml hv
  obtain ⟨rfl, hsz, hP, hK, hN, hD0⟩ := hv
  have hx := B.exec
  have hb := B.bytes
  have hr := B.returns
  have hts := tl_of (atoms_spec (ws := w_R_method) B.pre)
  have hown : s.vm.findClass R_R = some m.cls := findClass_of_methodNamed B.named
  have hlocks := B.notSynchronized
  subst hsz
  have hD := hD0.self (sz := s.heap.size)
  generalize hAe : va_A (wR ka qa b0 b1 a0 a1 a2 a3 a4 a5 a6 a7 a8 a9 a10 a11 a12) s.heap.size = A at hD ⊢
  have hA : ∀ q : Nat, s.heap.size ≤ q → A q := fun q h => by rw [← hAe]; exact Or.inr h
  have hS : va_S A s.heap s.heap [] := va_S.rf
  have hl := lv_entry ([.ref (qa 0), .int p1, .int p2, .int p3, .int p4]) (n := 5) (Nat.le_of_ble_eq_true rfl)
  rw [lg_entry_eq]
  generalize (lg_sl ([.ref (qa 0), .int p1, .int p2, .int p3, .int p4]) ++ List.replicate (5 - (lg_sl ([.ref (qa 0), .int p1, .int p2, .int p3, .int p4])).length) Slot.unset).toArray = ls at hl ⊢
  have hl : lv_has ls 5 [(0, .ref (qa 0)), (1, .int p1), (2, .int p2), (3, .int p3), (4, .int p4)] := hl
  refine lv_aload_n hx hb d_R_method_0 rfl (lv_at hl 0 rfl) ?_
  refine lv_iload_n hx hb d_R_method_1 rfl (lv_at hl 1 rfl) ?_
  refine va_calli (va_runV (As := [.int p1]) (rest := []) ⟨hx, hb, hml, hown, hts⟩ (c_R_there l dC dI ka qa s.heap.size b0 b1 a0 a1 a2 a3 a4 a5 a6 a7 a8 a9 a10 a11 a12 p1) (cwV 1 hts k_g72 rfl rfl rfl (by decide +kernel) ⟨Nat.le_of_ble_eq_true rfl, Nat.le_of_ble_eq_true rfl⟩) ⟨fb_ro, va_recv hK hP (ci := 3) (q0 := 0) rfl rfl, fun U hU hW => ⟨rfl, by rw [hU], by rw [hU]; exact hP, va_K.moved hW.alike (hK), NX.warm hW hN⟩⟩ rfl rfl hl.1 rfl (lv_room (Nat.le_of_ble_eq_true rfl)) d_R_method_2 ⟨Nat.zero_le _, Nat.zero_le _⟩) hS (fun z h1 h2 => absurd h1 (Nat.not_lt.mpr h2)) (fun z h => hA z (Nat.le_trans hS.1 h)) (fun r u t H1 locs ht hvm hpo hB hz1 hk1 hS => ?_)
  subst hpo
  have hP := kp_P hP hk1
  generalize H1 = H at hP hS ⊢
  refine lv_if_eq (tgt := 36) hx hb d_R_method_5 (by decide) (fun c_1 => ?_) (fun c_1 => ?_)
  · have c_1 : (f_R_there b0 p1) = (0 : Int32) := c_1
    refine lv_iconst (v := (-1 : Int32)) hx hb d_R_method_36 (by decide +kernel) ?_
    have hP9 : va_P (dC, dI) classes (wR ka qa b0 b1 a0 a1 a2 a3 a4 a5 a6 a7 a8 a9 a10 a11 a12) H := hP
    exact W.iret (v := (-1 : Int32)) hx hb hr (fun t ht hW => ⟨⟨(-1 : Int32), (a9), rfl, ⟨by unfold f_R_method; rw [if_pos c_1], (by unfold s_R_method_a9; rw [if_pos c_1])⟩, hp_at ht hP9⟩, hS.F ht⟩) hS.2.2 d_R_method_37
  · have c_1 : ¬ ((f_R_there b0 p1) = (0 : Int32)) := c_1
    refine lv_iload_n hx hb d_R_method_8 rfl (lv_at hl 2 rfl) ?_
    refine lv_iconst (v := (0 : Int32)) hx hb d_R_method_9 (by decide +kernel) ?_
    refine lv_iconst (v := (3 : Int32)) hx hb d_R_method_10 (by decide +kernel) ?_
    refine va_calli (va_runS (As := [.int p2, .int (0 : Int32), .int (3 : Int32)]) (rest := []) ⟨hx, hb, hml, hown, hts⟩ (c_R_in l dC dI  H.size  p2 (0 : Int32) (3 : Int32)) (cwS 3 hts k_g69 rfl rfl rfl (by decide +kernel) ⟨Nat.le_of_ble_eq_true rfl, Nat.le_of_ble_eq_true rfl⟩) ⟨fb_ro, fun U hU hW => ⟨rfl, by rw [hU], by rw [hU]; exact hP.sub (ws' := ([] : va_W)) [] rfl, va_K.moved hW.alike (hK.sub (tys' := []) [] rfl), NX.warm hW hN⟩⟩ rfl rfl hl.1 rfl (lv_room (Nat.le_of_ble_eq_true rfl)) d_R_method_11 ⟨Nat.zero_le _, Nat.zero_le _⟩) hS (fun z h1 h2 => absurd h1 (Nat.not_lt.mpr h2)) (fun z h => hA z (Nat.le_trans hS.1 h)) (fun r u t H1 locs ht hvm hpo hB hz1 hk1 hS => ?_)
    subst hpo
    have hP := kp_P hP hk1
    generalize H1 = H at hP hS ⊢
    refine lv_if_eq (tgt := 36) hx hb d_R_method_14 (by decide) (fun c_2 => ?_) (fun c_2 => ?_)
    · have c_2 : (f_R_in p2 (0 : Int32) (3 : Int32)) = (0 : Int32) := c_2
      refine lv_iconst (v := (-1 : Int32)) hx hb d_R_method_36 (by decide +kernel) ?_
      have hP9 : va_P (dC, dI) classes (wR ka qa b0 b1 a0 a1 a2 a3 a4 a5 a6 a7 a8 a9 a10 a11 a12) H := hP
      exact W.iret (v := (-1 : Int32)) hx hb hr (fun t ht hW => ⟨⟨(-1 : Int32), (a9), rfl, ⟨by unfold f_R_method; rw [if_neg c_1, if_pos c_2], (by unfold s_R_method_a9; rw [if_neg c_1, if_pos c_2])⟩, hp_at ht hP9⟩, hS.F ht⟩) hS.2.2 d_R_method_37
    · have c_2 : ¬ ((f_R_in p2 (0 : Int32) (3 : Int32)) = (0 : Int32)) := c_2
      refine lv_iload_n hx hb d_R_method_17 rfl (lv_at hl 3 rfl) ?_
      refine lv_iconst (v := (0 : Int32)) hx hb d_R_method_18 (by decide +kernel) ?_
      refine lv_iconst (v := (3 : Int32)) hx hb d_R_method_19 (by decide +kernel) ?_
      refine va_calli (va_runS (As := [.int p3, .int (0 : Int32), .int (3 : Int32)]) (rest := []) ⟨hx, hb, hml, hown, hts⟩ (c_R_in l dC dI  H.size  p3 (0 : Int32) (3 : Int32)) (cwS 3 hts k_g69 rfl rfl rfl (by decide +kernel) ⟨Nat.le_of_ble_eq_true rfl, Nat.le_of_ble_eq_true rfl⟩) ⟨fb_ro, fun U hU hW => ⟨rfl, by rw [hU], by rw [hU]; exact hP.sub (ws' := ([] : va_W)) [] rfl, va_K.moved hW.alike (hK.sub (tys' := []) [] rfl), NX.warm hW hN⟩⟩ rfl rfl hl.1 rfl (lv_room (Nat.le_of_ble_eq_true rfl)) d_R_method_20 ⟨Nat.zero_le _, Nat.zero_le _⟩) hS (fun z h1 h2 => absurd h1 (Nat.not_lt.mpr h2)) (fun z h => hA z (Nat.le_trans hS.1 h)) (fun r u t H1 locs ht hvm hpo hB hz1 hk1 hS => ?_)
      subst hpo
      have hP := kp_P hP hk1
      generalize H1 = H at hP hS ⊢
      refine lv_if_eq (tgt := 36) hx hb d_R_method_23 (by decide) (fun c_3 => ?_) (fun c_3 => ?_)
      · have c_3 : (f_R_in p3 (0 : Int32) (3 : Int32)) = (0 : Int32) := c_3
        refine lv_iconst (v := (-1 : Int32)) hx hb d_R_method_36 (by decide +kernel) ?_
        have hP9 : va_P (dC, dI) classes (wR ka qa b0 b1 a0 a1 a2 a3 a4 a5 a6 a7 a8 a9 a10 a11 a12) H := hP
        exact W.iret (v := (-1 : Int32)) hx hb hr (fun t ht hW => ⟨⟨(-1 : Int32), (a9), rfl, ⟨by unfold f_R_method; rw [if_neg c_1, if_neg c_2, if_pos c_3], (by unfold s_R_method_a9; rw [if_neg c_1, if_neg c_2, if_pos c_3])⟩, hp_at ht hP9⟩, hS.F ht⟩) hS.2.2 d_R_method_37
      · have c_3 : ¬ ((f_R_in p3 (0 : Int32) (3 : Int32)) = (0 : Int32)) := c_3
        refine lv_iload hx hb d_R_method_26 (lv_at hl 4 rfl) ?_
        refine lv_iconst (v := (0 : Int32)) hx hb d_R_method_28 (by decide +kernel) ?_
        refine lv_iconst (v := (2 : Int32)) hx hb d_R_method_29 (by decide +kernel) ?_
        refine va_calli (va_runS (As := [.int p4, .int (0 : Int32), .int (2 : Int32)]) (rest := []) ⟨hx, hb, hml, hown, hts⟩ (c_R_in l dC dI  H.size  p4 (0 : Int32) (2 : Int32)) (cwS 3 hts k_g69 rfl rfl rfl (by decide +kernel) ⟨Nat.le_of_ble_eq_true rfl, Nat.le_of_ble_eq_true rfl⟩) ⟨fb_ro, fun U hU hW => ⟨rfl, by rw [hU], by rw [hU]; exact hP.sub (ws' := ([] : va_W)) [] rfl, va_K.moved hW.alike (hK.sub (tys' := []) [] rfl), NX.warm hW hN⟩⟩ rfl rfl hl.1 rfl (lv_room (Nat.le_of_ble_eq_true rfl)) d_R_method_30 ⟨Nat.zero_le _, Nat.zero_le _⟩) hS (fun z h1 h2 => absurd h1 (Nat.not_lt.mpr h2)) (fun z h => hA z (Nat.le_trans hS.1 h)) (fun r u t H1 locs ht hvm hpo hB hz1 hk1 hS => ?_)
        subst hpo
        have hP := kp_P hP hk1
        generalize H1 = H at hP hS ⊢
        refine lv_if_ne (tgt := 38) hx hb d_R_method_33 (by decide) (fun c_4 => ?_) (fun c_4 => ?_)
        · have c_4 : ¬ ((f_R_in p4 (0 : Int32) (2 : Int32)) = (0 : Int32)) := c_4
          refine lv_iload hx hb d_R_method_38 (lv_at hl 4 rfl) ?_
          refine lv_iconst (v := (2 : Int32)) hx hb d_R_method_40 (by decide +kernel) ?_
          refine lv_icmp_ne (tgt := 48) hx hb d_R_method_41 (by decide) (fun c_5 => ?_) (fun c_5 => ?_)
          · have c_5 : ¬ (p4 = (2 : Int32)) := c_5
            refine lv_aload_n hx hb d_R_method_48 rfl (lv_at hl 0 rfl) ?_
            refine va_get (D := (dC, dI)) (ci := 3) (v := .ref (qa 1)) (C := R_R) (T := F_R) (N := 15) hx hb hts i_R hown hK hP 0 rfl rfl 1 (by decide) (hts _ k_52) (fun _ h9 => h9) rfl d_R_method_49 ?_
            refine lv_iload_n hx hb d_R_method_52 rfl (lv_at hl 1 rfl) ?_
            have hi_6 : vp_in p1 13 := by first | with_reducible assumption | exact rin_has hT (by with_reducible assumption)
            refine va_zald (D := (dC, dI)) (f := a0) hx hb hK hP 1 0 rfl rfl hi_6 d_R_method_53 ?_
            refine lv_if_eq (tgt := 68) hx hb d_R_method_54 (by decide) (fun c_7 => ?_) (fun c_7 => ?_)
            · have c_7 : (a0 p1.toNatClampNeg) = (0 : Int32) := c_7
              refine lv_aload_n hx hb d_R_method_68 rfl (lv_at hl 0 rfl) ?_
              refine va_get (D := (dC, dI)) (ci := 3) (v := .ref (qa 10)) (C := R_R) (T := F_R) (N := 15) hx hb hts i_R hown hK hP 0 rfl rfl 10 (by decide) (hts _ k_49) (fun _ h9 => h9) rfl d_R_method_69 ?_
              refine lv_iconst (v := (4 : Int32)) hx hb d_R_method_72 (by decide +kernel) ?_
              refine lv_iload_n hx hb d_R_method_73 rfl (lv_at hl 1 rfl) ?_
              refine lv_imul hx hb d_R_method_74 ?_
              refine lv_iload_n hx hb d_R_method_75 rfl (lv_at hl 2 rfl) ?_
              refine lv_iadd hx hb d_R_method_76 ?_
              refine lv_iload_n hx hb d_R_method_77 rfl (lv_at hl 3 rfl) ?_
              refine lv_iconst (v := (4 : Int32)) hx hb d_R_method_78 (by decide +kernel) ?_
              refine lv_iload hx hb d_R_method_79 (lv_at hl 4 rfl) ?_
              refine lv_imul hx hb d_R_method_81 ?_
              refine lv_iadd hx hb d_R_method_82 ?_
              have hi_8 : vp_in (((4 : Int32) * p1) + p2) 52 := by first | with_reducible assumption | exact jn_52 (by first | with_reducible assumption | exact rin_has hT (by with_reducible assumption)) (by first | with_reducible assumption | exact jn_name (by with_reducible assumption))
              refine va_iast (D := (dC, dI)) (f := a9) hx hb hK hP hD hS 10 9 rfl rfl hi_8 d_R_method_83 (fun H locs hP hD hS => ?_)
              have hP : va_P (dC, dI) classes (wR ka qa b0 b1 a0 a1 a2 a3 a4 a5 a6 a7 a8 (upd a9 (((4 : Int32) * p1) + p2).toNatClampNeg (p3 + ((4 : Int32) * p4))) a10 a11 a12) H := hP
              have hD : va_D A (wR ka qa b0 b1 a0 a1 a2 a3 a4 a5 a6 a7 a8 (upd a9 (((4 : Int32) * p1) + p2).toNatClampNeg (p3 + ((4 : Int32) * p4))) a10 a11 a12) := hD
              refine lv_iconst (v := (0 : Int32)) hx hb d_R_method_84 (by decide +kernel) ?_
              have hP9 : va_P (dC, dI) classes (wR ka qa b0 b1 a0 a1 a2 a3 a4 a5 a6 a7 a8 (upd a9 (((4 : Int32) * p1) + p2).toNatClampNeg (p3 + ((4 : Int32) * p4))) a10 a11 a12) H := hP
              exact W.iret (v := (0 : Int32)) hx hb hr (fun t ht hW => ⟨⟨(0 : Int32), ((upd a9 (((4 : Int32) * p1) + p2).toNatClampNeg (p3 + ((4 : Int32) * p4)))), rfl, ⟨by unfold f_R_method; rw [if_neg c_1, if_neg c_2, if_neg c_3, if_neg c_4, if_neg c_5, if_pos c_7], (by unfold s_R_method_a9; rw [if_neg c_1, if_neg c_2, if_neg c_3, if_neg c_4, if_neg c_5, if_pos c_7])⟩, hp_at ht hP9⟩, hS.F ht⟩) hS.2.2 d_R_method_85
            · have c_7 : ¬ ((a0 p1.toNatClampNeg) = (0 : Int32)) := c_7
              refine lv_iload_n hx hb d_R_method_57 rfl (lv_at hl 3 rfl) ?_
              refine lv_if_eq (tgt := 68) hx hb d_R_method_58 (by decide) (fun c_9 => ?_) (fun c_9 => ?_)
              · have c_9 : p3 = (0 : Int32) := c_9
                refine lv_aload_n hx hb d_R_method_68 rfl (lv_at hl 0 rfl) ?_
                refine va_get (D := (dC, dI)) (ci := 3) (v := .ref (qa 10)) (C := R_R) (T := F_R) (N := 15) hx hb hts i_R hown hK hP 0 rfl rfl 10 (by decide) (hts _ k_49) (fun _ h9 => h9) rfl d_R_method_69 ?_
                refine lv_iconst (v := (4 : Int32)) hx hb d_R_method_72 (by decide +kernel) ?_
                refine lv_iload_n hx hb d_R_method_73 rfl (lv_at hl 1 rfl) ?_
                refine lv_imul hx hb d_R_method_74 ?_
                refine lv_iload_n hx hb d_R_method_75 rfl (lv_at hl 2 rfl) ?_
                refine lv_iadd hx hb d_R_method_76 ?_
                refine lv_iload_n hx hb d_R_method_77 rfl (lv_at hl 3 rfl) ?_
                refine lv_iconst (v := (4 : Int32)) hx hb d_R_method_78 (by decide +kernel) ?_
                refine lv_iload hx hb d_R_method_79 (lv_at hl 4 rfl) ?_
                refine lv_imul hx hb d_R_method_81 ?_
                refine lv_iadd hx hb d_R_method_82 ?_
                have hi_10 : vp_in (((4 : Int32) * p1) + p2) 52 := by first | with_reducible assumption | exact jn_52 (by first | with_reducible assumption | exact rin_has hT (by with_reducible assumption)) (by first | with_reducible assumption | exact jn_name (by with_reducible assumption))
                refine va_iast (D := (dC, dI)) (f := a9) hx hb hK hP hD hS 10 9 rfl rfl hi_10 d_R_method_83 (fun H locs hP hD hS => ?_)
                have hP : va_P (dC, dI) classes (wR ka qa b0 b1 a0 a1 a2 a3 a4 a5 a6 a7 a8 (upd a9 (((4 : Int32) * p1) + p2).toNatClampNeg (p3 + ((4 : Int32) * p4))) a10 a11 a12) H := hP
                have hD : va_D A (wR ka qa b0 b1 a0 a1 a2 a3 a4 a5 a6 a7 a8 (upd a9 (((4 : Int32) * p1) + p2).toNatClampNeg (p3 + ((4 : Int32) * p4))) a10 a11 a12) := hD
                refine lv_iconst (v := (0 : Int32)) hx hb d_R_method_84 (by decide +kernel) ?_
                have hP9 : va_P (dC, dI) classes (wR ka qa b0 b1 a0 a1 a2 a3 a4 a5 a6 a7 a8 (upd a9 (((4 : Int32) * p1) + p2).toNatClampNeg (p3 + ((4 : Int32) * p4))) a10 a11 a12) H := hP
                exact W.iret (v := (0 : Int32)) hx hb hr (fun t ht hW => ⟨⟨(0 : Int32), ((upd a9 (((4 : Int32) * p1) + p2).toNatClampNeg (p3 + ((4 : Int32) * p4)))), rfl, ⟨by unfold f_R_method; rw [if_neg c_1, if_neg c_2, if_neg c_3, if_neg c_4, if_neg c_5, if_neg c_7, if_pos c_9], (by unfold s_R_method_a9; rw [if_neg c_1, if_neg c_2, if_neg c_3, if_neg c_4, if_neg c_5, if_neg c_7, if_pos c_9])⟩, hp_at ht hP9⟩, hS.F ht⟩) hS.2.2 d_R_method_85
              · have c_9 : ¬ (p3 = (0 : Int32)) := c_9
                refine lv_iload_n hx hb d_R_method_61 rfl (lv_at hl 3 rfl) ?_
                refine lv_iconst (v := (3 : Int32)) hx hb d_R_method_62 (by decide +kernel) ?_
                refine lv_icmp_eq (tgt := 68) hx hb d_R_method_63 (by decide) (fun c_11 => ?_) (fun c_11 => ?_)
                · have c_11 : p3 = (3 : Int32) := c_11
                  refine lv_aload_n hx hb d_R_method_68 rfl (lv_at hl 0 rfl) ?_
                  refine va_get (D := (dC, dI)) (ci := 3) (v := .ref (qa 10)) (C := R_R) (T := F_R) (N := 15) hx hb hts i_R hown hK hP 0 rfl rfl 10 (by decide) (hts _ k_49) (fun _ h9 => h9) rfl d_R_method_69 ?_
                  refine lv_iconst (v := (4 : Int32)) hx hb d_R_method_72 (by decide +kernel) ?_
                  refine lv_iload_n hx hb d_R_method_73 rfl (lv_at hl 1 rfl) ?_
                  refine lv_imul hx hb d_R_method_74 ?_
                  refine lv_iload_n hx hb d_R_method_75 rfl (lv_at hl 2 rfl) ?_
                  refine lv_iadd hx hb d_R_method_76 ?_
                  refine lv_iload_n hx hb d_R_method_77 rfl (lv_at hl 3 rfl) ?_
                  refine lv_iconst (v := (4 : Int32)) hx hb d_R_method_78 (by decide +kernel) ?_
                  refine lv_iload hx hb d_R_method_79 (lv_at hl 4 rfl) ?_
                  refine lv_imul hx hb d_R_method_81 ?_
                  refine lv_iadd hx hb d_R_method_82 ?_
                  have hi_12 : vp_in (((4 : Int32) * p1) + p2) 52 := by first | with_reducible assumption | exact jn_52 (by first | with_reducible assumption | exact rin_has hT (by with_reducible assumption)) (by first | with_reducible assumption | exact jn_name (by with_reducible assumption))
                  refine va_iast (D := (dC, dI)) (f := a9) hx hb hK hP hD hS 10 9 rfl rfl hi_12 d_R_method_83 (fun H locs hP hD hS => ?_)
                  have hP : va_P (dC, dI) classes (wR ka qa b0 b1 a0 a1 a2 a3 a4 a5 a6 a7 a8 (upd a9 (((4 : Int32) * p1) + p2).toNatClampNeg (p3 + ((4 : Int32) * p4))) a10 a11 a12) H := hP
                  have hD : va_D A (wR ka qa b0 b1 a0 a1 a2 a3 a4 a5 a6 a7 a8 (upd a9 (((4 : Int32) * p1) + p2).toNatClampNeg (p3 + ((4 : Int32) * p4))) a10 a11 a12) := hD
                  refine lv_iconst (v := (0 : Int32)) hx hb d_R_method_84 (by decide +kernel) ?_
                  have hP9 : va_P (dC, dI) classes (wR ka qa b0 b1 a0 a1 a2 a3 a4 a5 a6 a7 a8 (upd a9 (((4 : Int32) * p1) + p2).toNatClampNeg (p3 + ((4 : Int32) * p4))) a10 a11 a12) H := hP
                  exact W.iret (v := (0 : Int32)) hx hb hr (fun t ht hW => ⟨⟨(0 : Int32), ((upd a9 (((4 : Int32) * p1) + p2).toNatClampNeg (p3 + ((4 : Int32) * p4)))), rfl, ⟨by unfold f_R_method; rw [if_neg c_1, if_neg c_2, if_neg c_3, if_neg c_4, if_neg c_5, if_neg c_7, if_neg c_9, if_pos c_11], (by unfold s_R_method_a9; rw [if_neg c_1, if_neg c_2, if_neg c_3, if_neg c_4, if_neg c_5, if_neg c_7, if_neg c_9, if_pos c_11])⟩, hp_at ht hP9⟩, hS.F ht⟩) hS.2.2 d_R_method_85
                · have c_11 : ¬ (p3 = (3 : Int32)) := c_11
                  refine lv_iconst (v := (-1 : Int32)) hx hb d_R_method_66 (by decide +kernel) ?_
                  have hP9 : va_P (dC, dI) classes (wR ka qa b0 b1 a0 a1 a2 a3 a4 a5 a6 a7 a8 a9 a10 a11 a12) H := hP
                  exact W.iret (v := (-1 : Int32)) hx hb hr (fun t ht hW => ⟨⟨(-1 : Int32), (a9), rfl, ⟨by unfold f_R_method; rw [if_neg c_1, if_neg c_2, if_neg c_3, if_neg c_4, if_neg c_5, if_neg c_7, if_neg c_9, if_neg c_11], (by unfold s_R_method_a9; rw [if_neg c_1, if_neg c_2, if_neg c_3, if_neg c_4, if_neg c_5, if_neg c_7, if_neg c_9, if_neg c_11])⟩, hp_at ht hP9⟩, hS.F ht⟩) hS.2.2 d_R_method_67
          · have c_5 : p4 = (2 : Int32) := c_5
            refine lv_iload_n hx hb d_R_method_44 rfl (lv_at hl 3 rfl) ?_
            refine lv_if_eq (tgt := 66) hx hb d_R_method_45 (by decide) (fun c_13 => ?_) (fun c_13 => ?_)
            · have c_13 : p3 = (0 : Int32) := c_13
              refine lv_iconst (v := (-1 : Int32)) hx hb d_R_method_66 (by decide +kernel) ?_
              have hP9 : va_P (dC, dI) classes (wR ka qa b0 b1 a0 a1 a2 a3 a4 a5 a6 a7 a8 a9 a10 a11 a12) H := hP
              exact W.iret (v := (-1 : Int32)) hx hb hr (fun t ht hW => ⟨⟨(-1 : Int32), (a9), rfl, ⟨by unfold f_R_method; rw [if_neg c_1, if_neg c_2, if_neg c_3, if_neg c_4, if_pos c_5, if_pos c_13], (by unfold s_R_method_a9; rw [if_neg c_1, if_neg c_2, if_neg c_3, if_neg c_4, if_pos c_5, if_pos c_13])⟩, hp_at ht hP9⟩, hS.F ht⟩) hS.2.2 d_R_method_67
            · have c_13 : ¬ (p3 = (0 : Int32)) := c_13
              refine lv_aload_n hx hb d_R_method_48 rfl (lv_at hl 0 rfl) ?_
              refine va_get (D := (dC, dI)) (ci := 3) (v := .ref (qa 1)) (C := R_R) (T := F_R) (N := 15) hx hb hts i_R hown hK hP 0 rfl rfl 1 (by decide) (hts _ k_52) (fun _ h9 => h9) rfl d_R_method_49 ?_
              refine lv_iload_n hx hb d_R_method_52 rfl (lv_at hl 1 rfl) ?_
              have hi_14 : vp_in p1 13 := by first | with_reducible assumption | exact rin_has hT (by with_reducible assumption)
              refine va_zald (D := (dC, dI)) (f := a0) hx hb hK hP 1 0 rfl rfl hi_14 d_R_method_53 ?_
              refine lv_if_eq (tgt := 68) hx hb d_R_method_54 (by decide) (fun c_15 => ?_) (fun c_15 => ?_)
              · have c_15 : (a0 p1.toNatClampNeg) = (0 : Int32) := c_15
                refine lv_aload_n hx hb d_R_method_68 rfl (lv_at hl 0 rfl) ?_
                refine va_get (D := (dC, dI)) (ci := 3) (v := .ref (qa 10)) (C := R_R) (T := F_R) (N := 15) hx hb hts i_R hown hK hP 0 rfl rfl 10 (by decide) (hts _ k_49) (fun _ h9 => h9) rfl d_R_method_69 ?_
                refine lv_iconst (v := (4 : Int32)) hx hb d_R_method_72 (by decide +kernel) ?_
                refine lv_iload_n hx hb d_R_method_73 rfl (lv_at hl 1 rfl) ?_
                refine lv_imul hx hb d_R_method_74 ?_
                refine lv_iload_n hx hb d_R_method_75 rfl (lv_at hl 2 rfl) ?_
                refine lv_iadd hx hb d_R_method_76 ?_
                refine lv_iload_n hx hb d_R_method_77 rfl (lv_at hl 3 rfl) ?_
                refine lv_iconst (v := (4 : Int32)) hx hb d_R_method_78 (by decide +kernel) ?_
                refine lv_iload hx hb d_R_method_79 (lv_at hl 4 rfl) ?_
                refine lv_imul hx hb d_R_method_81 ?_
                refine lv_iadd hx hb d_R_method_82 ?_
                have hi_16 : vp_in (((4 : Int32) * p1) + p2) 52 := by first | with_reducible assumption | exact jn_52 (by first | with_reducible assumption | exact rin_has hT (by with_reducible assumption)) (by first | with_reducible assumption | exact jn_name (by with_reducible assumption))
                refine va_iast (D := (dC, dI)) (f := a9) hx hb hK hP hD hS 10 9 rfl rfl hi_16 d_R_method_83 (fun H locs hP hD hS => ?_)
                have hP : va_P (dC, dI) classes (wR ka qa b0 b1 a0 a1 a2 a3 a4 a5 a6 a7 a8 (upd a9 (((4 : Int32) * p1) + p2).toNatClampNeg (p3 + ((4 : Int32) * p4))) a10 a11 a12) H := hP
                have hD : va_D A (wR ka qa b0 b1 a0 a1 a2 a3 a4 a5 a6 a7 a8 (upd a9 (((4 : Int32) * p1) + p2).toNatClampNeg (p3 + ((4 : Int32) * p4))) a10 a11 a12) := hD
                refine lv_iconst (v := (0 : Int32)) hx hb d_R_method_84 (by decide +kernel) ?_
                have hP9 : va_P (dC, dI) classes (wR ka qa b0 b1 a0 a1 a2 a3 a4 a5 a6 a7 a8 (upd a9 (((4 : Int32) * p1) + p2).toNatClampNeg (p3 + ((4 : Int32) * p4))) a10 a11 a12) H := hP
                exact W.iret (v := (0 : Int32)) hx hb hr (fun t ht hW => ⟨⟨(0 : Int32), ((upd a9 (((4 : Int32) * p1) + p2).toNatClampNeg (p3 + ((4 : Int32) * p4)))), rfl, ⟨by unfold f_R_method; rw [if_neg c_1, if_neg c_2, if_neg c_3, if_neg c_4, if_pos c_5, if_neg c_13, if_pos c_15], (by unfold s_R_method_a9; rw [if_neg c_1, if_neg c_2, if_neg c_3, if_neg c_4, if_pos c_5, if_neg c_13, if_pos c_15])⟩, hp_at ht hP9⟩, hS.F ht⟩) hS.2.2 d_R_method_85
              · have c_15 : ¬ ((a0 p1.toNatClampNeg) = (0 : Int32)) := c_15
                refine lv_iload_n hx hb d_R_method_57 rfl (lv_at hl 3 rfl) ?_
                refine lv_if_eq (tgt := 68) hx hb d_R_method_58 (by decide) (fun c_17 => ?_) (fun c_17 => ?_)
                · have c_17 : p3 = (0 : Int32) := c_17
                  refine lv_aload_n hx hb d_R_method_68 rfl (lv_at hl 0 rfl) ?_
                  refine va_get (D := (dC, dI)) (ci := 3) (v := .ref (qa 10)) (C := R_R) (T := F_R) (N := 15) hx hb hts i_R hown hK hP 0 rfl rfl 10 (by decide) (hts _ k_49) (fun _ h9 => h9) rfl d_R_method_69 ?_
                  refine lv_iconst (v := (4 : Int32)) hx hb d_R_method_72 (by decide +kernel) ?_
                  refine lv_iload_n hx hb d_R_method_73 rfl (lv_at hl 1 rfl) ?_
                  refine lv_imul hx hb d_R_method_74 ?_
                  refine lv_iload_n hx hb d_R_method_75 rfl (lv_at hl 2 rfl) ?_
                  refine lv_iadd hx hb d_R_method_76 ?_
                  refine lv_iload_n hx hb d_R_method_77 rfl (lv_at hl 3 rfl) ?_
                  refine lv_iconst (v := (4 : Int32)) hx hb d_R_method_78 (by decide +kernel) ?_
                  refine lv_iload hx hb d_R_method_79 (lv_at hl 4 rfl) ?_
                  refine lv_imul hx hb d_R_method_81 ?_
                  refine lv_iadd hx hb d_R_method_82 ?_
                  have hi_18 : vp_in (((4 : Int32) * p1) + p2) 52 := by first | with_reducible assumption | exact jn_52 (by first | with_reducible assumption | exact rin_has hT (by with_reducible assumption)) (by first | with_reducible assumption | exact jn_name (by with_reducible assumption))
                  refine va_iast (D := (dC, dI)) (f := a9) hx hb hK hP hD hS 10 9 rfl rfl hi_18 d_R_method_83 (fun H locs hP hD hS => ?_)
                  have hP : va_P (dC, dI) classes (wR ka qa b0 b1 a0 a1 a2 a3 a4 a5 a6 a7 a8 (upd a9 (((4 : Int32) * p1) + p2).toNatClampNeg (p3 + ((4 : Int32) * p4))) a10 a11 a12) H := hP
                  have hD : va_D A (wR ka qa b0 b1 a0 a1 a2 a3 a4 a5 a6 a7 a8 (upd a9 (((4 : Int32) * p1) + p2).toNatClampNeg (p3 + ((4 : Int32) * p4))) a10 a11 a12) := hD
                  refine lv_iconst (v := (0 : Int32)) hx hb d_R_method_84 (by decide +kernel) ?_
                  have hP9 : va_P (dC, dI) classes (wR ka qa b0 b1 a0 a1 a2 a3 a4 a5 a6 a7 a8 (upd a9 (((4 : Int32) * p1) + p2).toNatClampNeg (p3 + ((4 : Int32) * p4))) a10 a11 a12) H := hP
                  exact W.iret (v := (0 : Int32)) hx hb hr (fun t ht hW => ⟨⟨(0 : Int32), ((upd a9 (((4 : Int32) * p1) + p2).toNatClampNeg (p3 + ((4 : Int32) * p4)))), rfl, ⟨by unfold f_R_method; rw [if_neg c_1, if_neg c_2, if_neg c_3, if_neg c_4, if_pos c_5, if_neg c_13, if_neg c_15, if_pos c_17], (by unfold s_R_method_a9; rw [if_neg c_1, if_neg c_2, if_neg c_3, if_neg c_4, if_pos c_5, if_neg c_13, if_neg c_15, if_pos c_17])⟩, hp_at ht hP9⟩, hS.F ht⟩) hS.2.2 d_R_method_85
                · have c_17 : ¬ (p3 = (0 : Int32)) := c_17
                  refine lv_iload_n hx hb d_R_method_61 rfl (lv_at hl 3 rfl) ?_
                  refine lv_iconst (v := (3 : Int32)) hx hb d_R_method_62 (by decide +kernel) ?_
                  refine lv_icmp_eq (tgt := 68) hx hb d_R_method_63 (by decide) (fun c_19 => ?_) (fun c_19 => ?_)
                  · have c_19 : p3 = (3 : Int32) := c_19
                    refine lv_aload_n hx hb d_R_method_68 rfl (lv_at hl 0 rfl) ?_
                    refine va_get (D := (dC, dI)) (ci := 3) (v := .ref (qa 10)) (C := R_R) (T := F_R) (N := 15) hx hb hts i_R hown hK hP 0 rfl rfl 10 (by decide) (hts _ k_49) (fun _ h9 => h9) rfl d_R_method_69 ?_
                    refine lv_iconst (v := (4 : Int32)) hx hb d_R_method_72 (by decide +kernel) ?_
                    refine lv_iload_n hx hb d_R_method_73 rfl (lv_at hl 1 rfl) ?_
                    refine lv_imul hx hb d_R_method_74 ?_
                    refine lv_iload_n hx hb d_R_method_75 rfl (lv_at hl 2 rfl) ?_
                    refine lv_iadd hx hb d_R_method_76 ?_
                    refine lv_iload_n hx hb d_R_method_77 rfl (lv_at hl 3 rfl) ?_
                    refine lv_iconst (v := (4 : Int32)) hx hb d_R_method_78 (by decide +kernel) ?_
                    refine lv_iload hx hb d_R_method_79 (lv_at hl 4 rfl) ?_
                    refine lv_imul hx hb d_R_method_81 ?_
                    refine lv_iadd hx hb d_R_method_82 ?_
                    have hi_20 : vp_in (((4 : Int32) * p1) + p2) 52 := by first | with_reducible assumption | exact jn_52 (by first | with_reducible assumption | exact rin_has hT (by with_reducible assumption)) (by first | with_reducible assumption | exact jn_name (by with_reducible assumption))
                    refine va_iast (D := (dC, dI)) (f := a9) hx hb hK hP hD hS 10 9 rfl rfl hi_20 d_R_method_83 (fun H locs hP hD hS => ?_)
                    have hP : va_P (dC, dI) classes (wR ka qa b0 b1 a0 a1 a2 a3 a4 a5 a6 a7 a8 (upd a9 (((4 : Int32) * p1) + p2).toNatClampNeg (p3 + ((4 : Int32) * p4))) a10 a11 a12) H := hP
                    have hD : va_D A (wR ka qa b0 b1 a0 a1 a2 a3 a4 a5 a6 a7 a8 (upd a9 (((4 : Int32) * p1) + p2).toNatClampNeg (p3 + ((4 : Int32) * p4))) a10 a11 a12) := hD
                    refine lv_iconst (v := (0 : Int32)) hx hb d_R_method_84 (by decide +kernel) ?_
                    have hP9 : va_P (dC, dI) classes (wR ka qa b0 b1 a0 a1 a2 a3 a4 a5 a6 a7 a8 (upd a9 (((4 : Int32) * p1) + p2).toNatClampNeg (p3 + ((4 : Int32) * p4))) a10 a11 a12) H := hP
                    exact W.iret (v := (0 : Int32)) hx hb hr (fun t ht hW => ⟨⟨(0 : Int32), ((upd a9 (((4 : Int32) * p1) + p2).toNatClampNeg (p3 + ((4 : Int32) * p4)))), rfl, ⟨by unfold f_R_method; rw [if_neg c_1, if_neg c_2, if_neg c_3, if_neg c_4, if_pos c_5, if_neg c_13, if_neg c_15, if_neg c_17, if_pos c_19], (by unfold s_R_method_a9; rw [if_neg c_1, if_neg c_2, if_neg c_3, if_neg c_4, if_pos c_5, if_neg c_13, if_neg c_15, if_neg c_17, if_pos c_19])⟩, hp_at ht hP9⟩, hS.F ht⟩) hS.2.2 d_R_method_85
                  · have c_19 : ¬ (p3 = (3 : Int32)) := c_19
                    refine lv_iconst (v := (-1 : Int32)) hx hb d_R_method_66 (by decide +kernel) ?_
                    have hP9 : va_P (dC, dI) classes (wR ka qa b0 b1 a0 a1 a2 a3 a4 a5 a6 a7 a8 a9 a10 a11 a12) H := hP
                    exact W.iret (v := (-1 : Int32)) hx hb hr (fun t ht hW => ⟨⟨(-1 : Int32), (a9), rfl, ⟨by unfold f_R_method; rw [if_neg c_1, if_neg c_2, if_neg c_3, if_neg c_4, if_pos c_5, if_neg c_13, if_neg c_15, if_neg c_17, if_neg c_19], (by unfold s_R_method_a9; rw [if_neg c_1, if_neg c_2, if_neg c_3, if_neg c_4, if_pos c_5, if_neg c_13, if_neg c_15, if_neg c_17, if_neg c_19])⟩, hp_at ht hP9⟩, hS.F ht⟩) hS.2.2 d_R_method_67
        · have c_4 : (f_R_in p4 (0 : Int32) (2 : Int32)) = (0 : Int32) := c_4
          refine lv_iconst (v := (-1 : Int32)) hx hb d_R_method_36 (by decide +kernel) ?_
          have hP9 : va_P (dC, dI) classes (wR ka qa b0 b1 a0 a1 a2 a3 a4 a5 a6 a7 a8 a9 a10 a11 a12) H := hP
          exact W.iret (v := (-1 : Int32)) hx hb hr (fun t ht hW => ⟨⟨(-1 : Int32), (a9), rfl, ⟨by unfold f_R_method; rw [if_neg c_1, if_neg c_2, if_neg c_3, if_pos c_4], (by unfold s_R_method_a9; rw [if_neg c_1, if_neg c_2, if_neg c_3, if_pos c_4])⟩, hp_at ht hP9⟩, hS.F ht⟩) hS.2.2 d_R_method_37
