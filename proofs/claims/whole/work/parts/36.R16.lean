set_option maxHeartbeats 1000000 in
set_option maxRecDepth 100000 in
theorem c_R_untell (l : Launch) (dC : Nat → ClassId) (dI : Nat → Nat → Nat) (ka : Nat → ClassId) (qa : Nat → Nat) (sz : Nat) (b0 b1 : Int32) (a0 a1 a2 a3 a4 a5 a6 a7 a8 a9 a10 a11 a12 : Nat → Int32) (p1 p2 p3 : Int32) (hT : vT b0) : Met l y_R_untell w_R_untell ({ frames := 2, cells := 0, slots := 0, locals := 43 } : Room) (mu_P dC dI (wR ka qa b0 b1 a0 a1 a2 a3 a4 a5 a6 a7 a8 a9 a10 a11 a12) (tR ka) sz [.ref (qa 0), .int p1, .int p2, .int p3]) (mu_Q (fun (S9 : (Nat → Int32) × (Nat → Int32)) => (wR ka qa b0 b1 a0 a1 a2 a3 a4 a5 a6 a7 S9.1 S9.2 a10 a11 a12)) dC dI (f_R_untell b0 a8 a9 p1 p2 p3) ((s_R_untell_a8 b0 a8 a9 p1 p2 p3), (s_R_untell_a9 b0 a8 a9 p1 p2 p3)) (va_A (wR ka qa b0 b1 a0 a1 a2 a3 a4 a5 a6 a7 a8 a9 a10 a11 a12) sz)) 0 0 (va_A (wR ka qa b0 b1 a0 a1 a2 a3 a4 a5 a6 a7 a8 a9 a10 a11 a12) sz) := by
  refine Met.ofW (cc := b_R_untell) (maxL := 5) (ret := (some .int)) (by decide) rfl ?_
  intro p e s m args below meth c s₁ B hml hv
  obtain ⟨rfl, hsz, hP, hK, hN, hD0⟩ := hv
  have hx := B.exec
  have hb := B.bytes
  have hr := B.returns
  have hts := tl_of (atoms_spec (ws := w_R_untell) B.pre)
  have hown : s.vm.findClass R_R = some m.cls := findClass_of_methodNamed B.named
  have hlocks := B.notSynchronized
  subst hsz
  have hD := hD0.self (sz := s.heap.size)
  generalize hAe : va_A (wR ka qa b0 b1 a0 a1 a2 a3 a4 a5 a6 a7 a8 a9 a10 a11 a12) s.heap.size = A at hD ⊢
  have hA : ∀ q : Nat, s.heap.size ≤ q → A q := fun q h => by rw [← hAe]; exact Or.inr h
  have hS : va_S A s.heap s.heap [] := va_S.rf
  have hl := lv_entry ([.ref (qa 0), .int p1, .int p2, .int p3]) (n := 5) (Nat.le_of_ble_eq_true rfl)
  rw [lg_entry_eq]
  generalize (lg_sl ([.ref (qa 0), .int p1, .int p2, .int p3]) ++ List.replicate (5 - (lg_sl ([.ref (qa 0), .int p1, .int p2, .int p3])).length) Slot.unset).toArray = ls at hl ⊢
  have hl : lv_has ls 5 [(0, .ref (qa 0)), (1, .int p1), (2, .int p2), (3, .int p3)] := hl
  refine lv_aload_n hx hb d_R_untell_0 rfl (lv_at hl 0 rfl) ?_
  refine lv_iload_n hx hb d_R_untell_1 rfl (lv_at hl 1 rfl) ?_
  refine va_calli (va_runV (As := [.int p1]) (rest := []) ⟨hx, hb, hml, hown, hts⟩ (c_R_there l dC dI ka qa s.heap.size b0 b1 a0 a1 a2 a3 a4 a5 a6 a7 a8 a9 a10 a11 a12 p1) (cwV 1 hts k_g72 rfl rfl rfl (by decide +kernel) ⟨Nat.le_of_ble_eq_true rfl, Nat.le_of_ble_eq_true rfl⟩) ⟨fb_ro, va_recv hK hP (ci := 3) (q0 := 0) rfl rfl, fun U hU hW => ⟨rfl, by rw [hU], by rw [hU]; exact hP, va_K.moved hW.alike (hK), NX.warm hW hN⟩⟩ rfl rfl hl.1 rfl (lv_room (Nat.le_of_ble_eq_true rfl)) d_R_untell_2 ⟨Nat.zero_le _, Nat.zero_le _⟩) hS (fun z h1 h2 => absurd h1 (Nat.not_lt.mpr h2)) (fun z h => hA z (Nat.le_trans hS.1 h)) (fun r u t H1 locs ht hvm hpo hB hz1 hk1 hS => ?_)
  subst hpo
  have hP := kp_P hP hk1
  generalize H1 = H at hP hS ⊢
  refine lv_if_eq (tgt := 26) hx hb d_R_untell_5 (by decide) (fun c_1 => ?_) (fun c_1 => ?_)
  · have c_1 : (f_R_there b0 p1) = (0 : Int32) := c_1
    refine lv_iconst (v := (-1 : Int32)) hx hb d_R_untell_26 (by decide +kernel) ?_
    have hP9 : va_P (dC, dI) classes (wR ka qa b0 b1 a0 a1 a2 a3 a4 a5 a6 a7 a8 a9 a10 a11 a12) H := hP
    exact W.iret (v := (-1 : Int32)) hx hb hr (fun t ht hW => ⟨⟨(-1 : Int32), (a8, a9), rfl, ⟨by unfold f_R_untell; rw [if_pos c_1], (pr2 (by unfold s_R_untell_a8; rw [if_pos c_1]) (by unfold s_R_untell_a9; rw [if_pos c_1]))⟩, hp_at ht hP9⟩, hS.F ht⟩) hS.2.2 d_R_untell_27
  · have c_1 : ¬ ((f_R_there b0 p1) = (0 : Int32)) := c_1
    refine lv_iload_n hx hb d_R_untell_8 rfl (lv_at hl 2 rfl) ?_
    refine lv_iconst (v := (0 : Int32)) hx hb d_R_untell_9 (by decide +kernel) ?_
    refine lv_iconst (v := (1 : Int32)) hx hb d_R_untell_10 (by decide +kernel) ?_
    refine va_calli (va_runS (As := [.int p2, .int (0 : Int32), .int (1 : Int32)]) (rest := []) ⟨hx, hb, hml, hown, hts⟩ (c_R_in l dC dI  H.size  p2 (0 : Int32) (1 : Int32)) (cwS 3 hts k_g69 rfl rfl rfl (by decide +kernel) ⟨Nat.le_of_ble_eq_true rfl, Nat.le_of_ble_eq_true rfl⟩) ⟨fb_ro, fun U hU hW => ⟨rfl, by rw [hU], by rw [hU]; exact hP.sub (ws' := ([] : va_W)) [] rfl, va_K.moved hW.alike (hK.sub (tys' := []) [] rfl), NX.warm hW hN⟩⟩ rfl rfl hl.1 rfl (lv_room (Nat.le_of_ble_eq_true rfl)) d_R_untell_11 ⟨Nat.zero_le _, Nat.zero_le _⟩) hS (fun z h1 h2 => absurd h1 (Nat.not_lt.mpr h2)) (fun z h => hA z (Nat.le_trans hS.1 h)) (fun r u t H1 locs ht hvm hpo hB hz1 hk1 hS => ?_)
    subst hpo
    have hP := kp_P hP hk1
    generalize H1 = H at hP hS ⊢
    refine lv_if_eq (tgt := 26) hx hb d_R_untell_14 (by decide) (fun c_2 => ?_) (fun c_2 => ?_)
    · have c_2 : (f_R_in p2 (0 : Int32) (1 : Int32)) = (0 : Int32) := c_2
      refine lv_iconst (v := (-1 : Int32)) hx hb d_R_untell_26 (by decide +kernel) ?_
      have hP9 : va_P (dC, dI) classes (wR ka qa b0 b1 a0 a1 a2 a3 a4 a5 a6 a7 a8 a9 a10 a11 a12) H := hP
      exact W.iret (v := (-1 : Int32)) hx hb hr (fun t ht hW => ⟨⟨(-1 : Int32), (a8, a9), rfl, ⟨by unfold f_R_untell; rw [if_neg c_1, if_pos c_2], (pr2 (by unfold s_R_untell_a8; rw [if_neg c_1, if_pos c_2]) (by unfold s_R_untell_a9; rw [if_neg c_1, if_pos c_2]))⟩, hp_at ht hP9⟩, hS.F ht⟩) hS.2.2 d_R_untell_27
    · have c_2 : ¬ ((f_R_in p2 (0 : Int32) (1 : Int32)) = (0 : Int32)) := c_2
      refine lv_iload_n hx hb d_R_untell_17 rfl (lv_at hl 3 rfl) ?_
      refine lv_iconst (v := (0 : Int32)) hx hb d_R_untell_18 (by decide +kernel) ?_
      refine lv_iconst (v := (3 : Int32)) hx hb d_R_untell_19 (by decide +kernel) ?_
      refine va_calli (va_runS (As := [.int p3, .int (0 : Int32), .int (3 : Int32)]) (rest := []) ⟨hx, hb, hml, hown, hts⟩ (c_R_in l dC dI  H.size  p3 (0 : Int32) (3 : Int32)) (cwS 3 hts k_g69 rfl rfl rfl (by decide +kernel) ⟨Nat.le_of_ble_eq_true rfl, Nat.le_of_ble_eq_true rfl⟩) ⟨fb_ro, fun U hU hW => ⟨rfl, by rw [hU], by rw [hU]; exact hP.sub (ws' := ([] : va_W)) [] rfl, va_K.moved hW.alike (hK.sub (tys' := []) [] rfl), NX.warm hW hN⟩⟩ rfl rfl hl.1 rfl (lv_room (Nat.le_of_ble_eq_true rfl)) d_R_untell_20 ⟨Nat.zero_le _, Nat.zero_le _⟩) hS (fun z h1 h2 => absurd h1 (Nat.not_lt.mpr h2)) (fun z h => hA z (Nat.le_trans hS.1 h)) (fun r u t H1 locs ht hvm hpo hB hz1 hk1 hS => ?_)
      subst hpo
      have hP := kp_P hP hk1
      generalize H1 = H at hP hS ⊢
      refine lv_if_ne (tgt := 28) hx hb d_R_untell_23 (by decide) (fun c_3 => ?_) (fun c_3 => ?_)
      · have c_3 : ¬ ((f_R_in p3 (0 : Int32) (3 : Int32)) = (0 : Int32)) := c_3
        refine lv_iload_n hx hb d_R_untell_28 rfl (lv_at hl 2 rfl) ?_
        refine lv_if_ne (tgt := 45) hx hb d_R_untell_29 (by decide) (fun c_4 => ?_) (fun c_4 => ?_)
        · have c_4 : ¬ (p2 = (0 : Int32)) := c_4
          refine lv_aload_n hx hb d_R_untell_45 rfl (lv_at hl 0 rfl) ?_
          refine va_get (D := (dC, dI)) (ci := 3) (v := .ref (qa 10)) (C := R_R) (T := F_R) (N := 15) hx hb hts i_R hown hK hP 0 rfl rfl 10 (by decide) (hts _ k_49) (fun _ h9 => h9) rfl d_R_untell_46 ?_
          refine lv_iconst (v := (4 : Int32)) hx hb d_R_untell_49 (by decide +kernel) ?_
          refine lv_iload_n hx hb d_R_untell_50 rfl (lv_at hl 1 rfl) ?_
          refine lv_imul hx hb d_R_untell_51 ?_
          refine lv_iload_n hx hb d_R_untell_52 rfl (lv_at hl 3 rfl) ?_
          refine lv_iadd hx hb d_R_untell_53 ?_
          have hi_5 : vp_in (((4 : Int32) * p1) + p3) 52 := by first | with_reducible assumption | exact jn_52 (by first | with_reducible assumption | exact rin_has hT (by with_reducible assumption)) (by first | with_reducible assumption | exact jn_name (by with_reducible assumption))
          refine va_iald (D := (dC, dI)) (f := a9) hx hb hK hP 10 9 rfl rfl hi_5 d_R_untell_54 ?_
          refine lv_istore (lv' := [(4, .int (a9 (((4 : Int32) * p1) + p3).toNatClampNeg)), (0, .ref (qa 0)), (1, .int p1), (2, .int p2), (3, .int p3)]) hx hb d_R_untell_55 hl (by decide) rfl (fun ls hl => ?_)
          refine lv_iload hx hb d_R_untell_57 (lv_at hl 0 rfl) ?_
          refine lv_if_ge (tgt := 64) hx hb d_R_untell_59 (by decide) (fun c_6 => ?_) (fun c_6 => ?_)
          · have c_6 : (0 : Int32) ≤ (a9 (((4 : Int32) * p1) + p3).toNatClampNeg) := c_6
            refine lv_iload_n hx hb d_R_untell_64 rfl (lv_at hl 3 rfl) ?_
            refine lv_if_ne (tgt := 82) hx hb d_R_untell_65 (by decide) (fun c_7 => ?_) (fun c_7 => ?_)
            · have c_7 : ¬ (p2 = (0 : Int32)) := c_7
              refine lv_aload_n hx hb d_R_untell_82 rfl (lv_at hl 1 rfl) ?_
              refine va_get (D := (dC, dI)) (ci := 3) (v := .ref (qa 10)) (C := R_R) (T := F_R) (N := 15) hx hb hts i_R hown hK hP 0 rfl rfl 10 (by decide) (hts _ k_49) (fun _ h9 => h9) rfl d_R_untell_83 ?_
              refine lv_iconst (v := (4 : Int32)) hx hb d_R_untell_86 (by decide +kernel) ?_
              refine lv_iload_n hx hb d_R_untell_87 rfl (lv_at hl 2 rfl) ?_
              refine lv_imul hx hb d_R_untell_88 ?_
              refine lv_iload_n hx hb d_R_untell_89 rfl (lv_at hl 4 rfl) ?_
              refine lv_iadd hx hb d_R_untell_90 ?_
              refine lv_iconst (v := (-1 : Int32)) hx hb d_R_untell_91 (by decide +kernel) ?_
              have hi_8 : vp_in (((4 : Int32) * p1) + p3) 52 := by first | with_reducible assumption | exact jn_52 (by first | with_reducible assumption | exact rin_has hT (by with_reducible assumption)) (by first | with_reducible assumption | exact jn_name (by with_reducible assumption))
              refine va_iast (D := (dC, dI)) (f := a9) hx hb hK hP hD hS 10 9 rfl rfl hi_8 d_R_untell_92 (fun H locs hP hD hS => ?_)
              have hP : va_P (dC, dI) classes (wR ka qa b0 b1 a0 a1 a2 a3 a4 a5 a6 a7 a8 (upd a9 (((4 : Int32) * p1) + p3).toNatClampNeg (-1 : Int32)) a10 a11 a12) H := hP
              have hD : va_D A (wR ka qa b0 b1 a0 a1 a2 a3 a4 a5 a6 a7 a8 (upd a9 (((4 : Int32) * p1) + p3).toNatClampNeg (-1 : Int32)) a10 a11 a12) := hD
              refine lv_iconst (v := (0 : Int32)) hx hb d_R_untell_93 (by decide +kernel) ?_
              have hP9 : va_P (dC, dI) classes (wR ka qa b0 b1 a0 a1 a2 a3 a4 a5 a6 a7 a8 (upd a9 (((4 : Int32) * p1) + p3).toNatClampNeg (-1 : Int32)) a10 a11 a12) H := hP
              exact W.iret (v := (0 : Int32)) hx hb hr (fun t ht hW => ⟨⟨(0 : Int32), (a8, (upd a9 (((4 : Int32) * p1) + p3).toNatClampNeg (-1 : Int32))), rfl, ⟨by unfold f_R_untell; rw [if_neg c_1, if_neg c_2, if_neg c_3, if_neg c_4, if_pos c_6, if_neg c_7], (pr2 (by unfold s_R_untell_a8; rw [if_neg c_1, if_neg c_2, if_neg c_3, if_neg c_4, if_pos c_6, if_neg c_7]) (by unfold s_R_untell_a9; rw [if_neg c_1, if_neg c_2, if_neg c_3, if_neg c_4, if_pos c_6, if_neg c_7]))⟩, hp_at ht hP9⟩, hS.F ht⟩) hS.2.2 d_R_untell_94
            · have c_7 : p2 = (0 : Int32) := c_7
              refine lv_aload_n hx hb d_R_untell_68 rfl (lv_at hl 1 rfl) ?_
              refine va_get (D := (dC, dI)) (ci := 3) (v := .ref (qa 9)) (C := R_R) (T := F_R) (N := 15) hx hb hts i_R hown hK hP 0 rfl rfl 9 (by decide) (hts _ k_55) (fun _ h9 => h9) rfl d_R_untell_69 ?_
              refine lv_iconst (v := (4 : Int32)) hx hb d_R_untell_72 (by decide +kernel) ?_
              refine lv_iload_n hx hb d_R_untell_73 rfl (lv_at hl 2 rfl) ?_
              refine lv_imul hx hb d_R_untell_74 ?_
              refine lv_iload_n hx hb d_R_untell_75 rfl (lv_at hl 4 rfl) ?_
              refine lv_iadd hx hb d_R_untell_76 ?_
              refine lv_iconst (v := (-1 : Int32)) hx hb d_R_untell_77 (by decide +kernel) ?_
              have hi_9 : vp_in (((4 : Int32) * p1) + p3) 52 := by first | with_reducible assumption | exact jn_52 (by first | with_reducible assumption | exact rin_has hT (by with_reducible assumption)) (by first | with_reducible assumption | exact jn_name (by with_reducible assumption))
              refine va_iast (D := (dC, dI)) (f := a8) hx hb hK hP hD hS 9 8 rfl rfl hi_9 d_R_untell_78 (fun H locs hP hD hS => ?_)
              have hP : va_P (dC, dI) classes (wR ka qa b0 b1 a0 a1 a2 a3 a4 a5 a6 a7 (upd a8 (((4 : Int32) * p1) + p3).toNatClampNeg (-1 : Int32)) a9 a10 a11 a12) H := hP
              have hD : va_D A (wR ka qa b0 b1 a0 a1 a2 a3 a4 a5 a6 a7 (upd a8 (((4 : Int32) * p1) + p3).toNatClampNeg (-1 : Int32)) a9 a10 a11 a12) := hD
              refine lv_goto (tgt := 93) hx hb d_R_untell_79 (by decide) ?_
              refine lv_iconst (v := (0 : Int32)) hx hb d_R_untell_93 (by decide +kernel) ?_
              have hP9 : va_P (dC, dI) classes (wR ka qa b0 b1 a0 a1 a2 a3 a4 a5 a6 a7 (upd a8 (((4 : Int32) * p1) + p3).toNatClampNeg (-1 : Int32)) a9 a10 a11 a12) H := hP
              exact W.iret (v := (0 : Int32)) hx hb hr (fun t ht hW => ⟨⟨(0 : Int32), ((upd a8 (((4 : Int32) * p1) + p3).toNatClampNeg (-1 : Int32)), a9), rfl, ⟨by unfold f_R_untell; rw [if_neg c_1, if_neg c_2, if_neg c_3, if_neg c_4, if_pos c_6, if_pos c_7], (pr2 (by unfold s_R_untell_a8; rw [if_neg c_1, if_neg c_2, if_neg c_3, if_neg c_4, if_pos c_6, if_pos c_7]) (by unfold s_R_untell_a9; rw [if_neg c_1, if_neg c_2, if_neg c_3, if_neg c_4, if_pos c_6, if_pos c_7]))⟩, hp_at ht hP9⟩, hS.F ht⟩) hS.2.2 d_R_untell_94
          · have c_6 : ¬ ((0 : Int32) ≤ (a9 (((4 : Int32) * p1) + p3).toNatClampNeg)) := c_6
            refine lv_iconst (v := (-1 : Int32)) hx hb d_R_untell_62 (by decide +kernel) ?_
            have hP9 : va_P (dC, dI) classes (wR ka qa b0 b1 a0 a1 a2 a3 a4 a5 a6 a7 a8 a9 a10 a11 a12) H := hP
            exact W.iret (v := (-1 : Int32)) hx hb hr (fun t ht hW => ⟨⟨(-1 : Int32), (a8, a9), rfl, ⟨by unfold f_R_untell; rw [if_neg c_1, if_neg c_2, if_neg c_3, if_neg c_4, if_neg c_6], (pr2 (by unfold s_R_untell_a8; rw [if_neg c_1, if_neg c_2, if_neg c_3, if_neg c_4, if_neg c_6]) (by unfold s_R_untell_a9; rw [if_neg c_1, if_neg c_2, if_neg c_3, if_neg c_4, if_neg c_6]))⟩, hp_at ht hP9⟩, hS.F ht⟩) hS.2.2 d_R_untell_63
        · have c_4 : p2 = (0 : Int32) := c_4
          refine lv_aload_n hx hb d_R_untell_32 rfl (lv_at hl 0 rfl) ?_
          refine va_get (D := (dC, dI)) (ci := 3) (v := .ref (qa 9)) (C := R_R) (T := F_R) (N := 15) hx hb hts i_R hown hK hP 0 rfl rfl 9 (by decide) (hts _ k_55) (fun _ h9 => h9) rfl d_R_untell_33 ?_
          refine lv_iconst (v := (4 : Int32)) hx hb d_R_untell_36 (by decide +kernel) ?_
          refine lv_iload_n hx hb d_R_untell_37 rfl (lv_at hl 1 rfl) ?_
          refine lv_imul hx hb d_R_untell_38 ?_
          refine lv_iload_n hx hb d_R_untell_39 rfl (lv_at hl 3 rfl) ?_
          refine lv_iadd hx hb d_R_untell_40 ?_
          have hi_10 : vp_in (((4 : Int32) * p1) + p3) 52 := by first | with_reducible assumption | exact jn_52 (by first | with_reducible assumption | exact rin_has hT (by with_reducible assumption)) (by first | with_reducible assumption | exact jn_name (by with_reducible assumption))
          refine va_iald (D := (dC, dI)) (f := a8) hx hb hK hP 9 8 rfl rfl hi_10 d_R_untell_41 ?_
          refine lv_goto (tgt := 55) hx hb d_R_untell_42 (by decide) ?_
          refine lv_istore (lv' := [(4, .int (a8 (((4 : Int32) * p1) + p3).toNatClampNeg)), (0, .ref (qa 0)), (1, .int p1), (2, .int p2), (3, .int p3)]) hx hb d_R_untell_55 hl (by decide) rfl (fun ls hl => ?_)
          refine lv_iload hx hb d_R_untell_57 (lv_at hl 0 rfl) ?_
          refine lv_if_ge (tgt := 64) hx hb d_R_untell_59 (by decide) (fun c_11 => ?_) (fun c_11 => ?_)
          · have c_11 : (0 : Int32) ≤ (a8 (((4 : Int32) * p1) + p3).toNatClampNeg) := c_11
            refine lv_iload_n hx hb d_R_untell_64 rfl (lv_at hl 3 rfl) ?_
            refine lv_if_ne (tgt := 82) hx hb d_R_untell_65 (by decide) (fun c_12 => ?_) (fun c_12 => ?_)
            · have c_12 : ¬ (p2 = (0 : Int32)) := c_12
              refine lv_aload_n hx hb d_R_untell_82 rfl (lv_at hl 1 rfl) ?_
              refine va_get (D := (dC, dI)) (ci := 3) (v := .ref (qa 10)) (C := R_R) (T := F_R) (N := 15) hx hb hts i_R hown hK hP 0 rfl rfl 10 (by decide) (hts _ k_49) (fun _ h9 => h9) rfl d_R_untell_83 ?_
              refine lv_iconst (v := (4 : Int32)) hx hb d_R_untell_86 (by decide +kernel) ?_
              refine lv_iload_n hx hb d_R_untell_87 rfl (lv_at hl 2 rfl) ?_
              refine lv_imul hx hb d_R_untell_88 ?_
              refine lv_iload_n hx hb d_R_untell_89 rfl (lv_at hl 4 rfl) ?_
              refine lv_iadd hx hb d_R_untell_90 ?_
              refine lv_iconst (v := (-1 : Int32)) hx hb d_R_untell_91 (by decide +kernel) ?_
              have hi_13 : vp_in (((4 : Int32) * p1) + p3) 52 := by first | with_reducible assumption | exact jn_52 (by first | with_reducible assumption | exact rin_has hT (by with_reducible assumption)) (by first | with_reducible assumption | exact jn_name (by with_reducible assumption))
              refine va_iast (D := (dC, dI)) (f := a9) hx hb hK hP hD hS 10 9 rfl rfl hi_13 d_R_untell_92 (fun H locs hP hD hS => ?_)
              have hP : va_P (dC, dI) classes (wR ka qa b0 b1 a0 a1 a2 a3 a4 a5 a6 a7 a8 (upd a9 (((4 : Int32) * p1) + p3).toNatClampNeg (-1 : Int32)) a10 a11 a12) H := hP
              have hD : va_D A (wR ka qa b0 b1 a0 a1 a2 a3 a4 a5 a6 a7 a8 (upd a9 (((4 : Int32) * p1) + p3).toNatClampNeg (-1 : Int32)) a10 a11 a12) := hD
              refine lv_iconst (v := (0 : Int32)) hx hb d_R_untell_93 (by decide +kernel) ?_
              have hP9 : va_P (dC, dI) classes (wR ka qa b0 b1 a0 a1 a2 a3 a4 a5 a6 a7 a8 (upd a9 (((4 : Int32) * p1) + p3).toNatClampNeg (-1 : Int32)) a10 a11 a12) H := hP
              exact W.iret (v := (0 : Int32)) hx hb hr (fun t ht hW => ⟨⟨(0 : Int32), (a8, (upd a9 (((4 : Int32) * p1) + p3).toNatClampNeg (-1 : Int32))), rfl, ⟨by unfold f_R_untell; rw [if_neg c_1, if_neg c_2, if_neg c_3, if_pos c_4, if_pos c_11, if_neg c_12], (pr2 (by unfold s_R_untell_a8; rw [if_neg c_1, if_neg c_2, if_neg c_3, if_pos c_4, if_pos c_11, if_neg c_12]) (by unfold s_R_untell_a9; rw [if_neg c_1, if_neg c_2, if_neg c_3, if_pos c_4, if_pos c_11, if_neg c_12]))⟩, hp_at ht hP9⟩, hS.F ht⟩) hS.2.2 d_R_untell_94
            · have c_12 : p2 = (0 : Int32) := c_12
              refine lv_aload_n hx hb d_R_untell_68 rfl (lv_at hl 1 rfl) ?_
              refine va_get (D := (dC, dI)) (ci := 3) (v := .ref (qa 9)) (C := R_R) (T := F_R) (N := 15) hx hb hts i_R hown hK hP 0 rfl rfl 9 (by decide) (hts _ k_55) (fun _ h9 => h9) rfl d_R_untell_69 ?_
              refine lv_iconst (v := (4 : Int32)) hx hb d_R_untell_72 (by decide +kernel) ?_
              refine lv_iload_n hx hb d_R_untell_73 rfl (lv_at hl 2 rfl) ?_
              refine lv_imul hx hb d_R_untell_74 ?_
              refine lv_iload_n hx hb d_R_untell_75 rfl (lv_at hl 4 rfl) ?_
              refine lv_iadd hx hb d_R_untell_76 ?_
              refine lv_iconst (v := (-1 : Int32)) hx hb d_R_untell_77 (by decide +kernel) ?_
              have hi_14 : vp_in (((4 : Int32) * p1) + p3) 52 := by first | with_reducible assumption | exact jn_52 (by first | with_reducible assumption | exact rin_has hT (by with_reducible assumption)) (by first | with_reducible assumption | exact jn_name (by with_reducible assumption))
              refine va_iast (D := (dC, dI)) (f := a8) hx hb hK hP hD hS 9 8 rfl rfl hi_14 d_R_untell_78 (fun H locs hP hD hS => ?_)
              have hP : va_P (dC, dI) classes (wR ka qa b0 b1 a0 a1 a2 a3 a4 a5 a6 a7 (upd a8 (((4 : Int32) * p1) + p3).toNatClampNeg (-1 : Int32)) a9 a10 a11 a12) H := hP
              have hD : va_D A (wR ka qa b0 b1 a0 a1 a2 a3 a4 a5 a6 a7 (upd a8 (((4 : Int32) * p1) + p3).toNatClampNeg (-1 : Int32)) a9 a10 a11 a12) := hD
              refine lv_goto (tgt := 93) hx hb d_R_untell_79 (by decide) ?_
              refine lv_iconst (v := (0 : Int32)) hx hb d_R_untell_93 (by decide +kernel) ?_
              have hP9 : va_P (dC, dI) classes (wR ka qa b0 b1 a0 a1 a2 a3 a4 a5 a6 a7 (upd a8 (((4 : Int32) * p1) + p3).toNatClampNeg (-1 : Int32)) a9 a10 a11 a12) H := hP
              exact W.iret (v := (0 : Int32)) hx hb hr (fun t ht hW => ⟨⟨(0 : Int32), ((upd a8 (((4 : Int32) * p1) + p3).toNatClampNeg (-1 : Int32)), a9), rfl, ⟨by unfold f_R_untell; rw [if_neg c_1, if_neg c_2, if_neg c_3, if_pos c_4, if_pos c_11, if_pos c_12], (pr2 (by unfold s_R_untell_a8; rw [if_neg c_1, if_neg c_2, if_neg c_3, if_pos c_4, if_pos c_11, if_pos c_12]) (by unfold s_R_untell_a9; rw [if_neg c_1, if_neg c_2, if_neg c_3, if_pos c_4, if_pos c_11, if_pos c_12]))⟩, hp_at ht hP9⟩, hS.F ht⟩) hS.2.2 d_R_untell_94
          · have c_11 : ¬ ((0 : Int32) ≤ (a8 (((4 : Int32) * p1) + p3).toNatClampNeg)) := c_11
            refine lv_iconst (v := (-1 : Int32)) hx hb d_R_untell_62 (by decide +kernel) ?_
            have hP9 : va_P (dC, dI) classes (wR ka qa b0 b1 a0 a1 a2 a3 a4 a5 a6 a7 a8 a9 a10 a11 a12) H := hP
            exact W.iret (v := (-1 : Int32)) hx hb hr (fun t ht hW => ⟨⟨(-1 : Int32), (a8, a9), rfl, ⟨by unfold f_R_untell; rw [if_neg c_1, if_neg c_2, if_neg c_3, if_pos c_4, if_neg c_11], (pr2 (by unfold s_R_untell_a8; rw [if_neg c_1, if_neg c_2, if_neg c_3, if_pos c_4, if_neg c_11]) (by unfold s_R_untell_a9; rw [if_neg c_1, if_neg c_2, if_neg c_3, if_pos c_4, if_neg c_11]))⟩, hp_at ht hP9⟩, hS.F ht⟩) hS.2.2 d_R_untell_63
      · have c_3 : (f_R_in p3 (0 : Int32) (3 : Int32)) = (0 : Int32) := c_3
        refine lv_iconst (v := (-1 : Int32)) hx hb d_R_untell_26 (by decide +kernel) ?_
        have hP9 : va_P (dC, dI) classes (wR ka qa b0 b1 a0 a1 a2 a3 a4 a5 a6 a7 a8 a9 a10 a11 a12) H := hP
        exact W.iret (v := (-1 : Int32)) hx hb hr (fun t ht hW => ⟨⟨(-1 : Int32), (a8, a9), rfl, ⟨by unfold f_R_untell; rw [if_neg c_1, if_neg c_2, if_pos c_3], (pr2 (by unfold s_R_untell_a8; rw [if_neg c_1, if_neg c_2, if_pos c_3]) (by unfold s_R_untell_a9; rw [if_neg c_1, if_neg c_2, if_pos c_3]))⟩, hp_at ht hP9⟩, hS.F ht⟩) hS.2.2 d_R_untell_27
