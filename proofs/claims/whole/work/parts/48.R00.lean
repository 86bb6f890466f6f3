set_option maxHeartbeats 1000000 in
set_option maxRecDepth 100000 in
theorem c_R_resolved (l : Launch) (dC : Nat → ClassId) (dI : Nat → Nat → Nat) (ka : Nat → ClassId) (qa : Nat → Nat) (sz : Nat) (b0 b1 : Int32) (a0 a1 a2 a3 a4 a5 a6 a7 a8 a9 a10 a11 a12 : Nat → Int32) (p1 p2 p3 p4 : Int32) (hT : vT b0) (hpa : vPar a4) (hdi : vDir a6) (hdc : vDc a7) (hp2 : vp_in p2 13) (hp3 : vp_in p3 13) (hp4 : vp_in p4 4) : Met l y_R_resolved w_R_resolved ({ frames := 5, cells := 0, slots := 0, locals := 122 } : Room) (mu_P dC dI (wR ka qa b0 b1 a0 a1 a2 a3 a4 a5 a6 a7 a8 a9 a10 a11 a12) (tR ka) sz [.ref (qa 0), .int p1, .int p2, .int p3, .int p4]) (mu_Q (fun (S9 : Int32 × (Nat → Int32)) => (wR ka qa b0 S9.1 a0 a1 a2 a3 a4 a5 a6 a7 a8 a9 a10 a11 S9.2)) dC dI (f_R_resolved b0 a0 a1 a3 a4 a5 a6 a7 a8 a9 a10 a12 p1 p2 p3 p4) ((s_R_resolved_b1 b0 a0 a1 a3 a4 a5 a6 a7 a8 a9 a10 a12 p1 p2 p3 p4), (s_R_resolved_a12 b0 a0 a1 a3 a4 a5 a6 a7 a8 a9 a10 a12 p1 p2 p3 p4)) (va_A (wR ka qa b0 b1 a0 a1 a2 a3 a4 a5 a6 a7 a8 a9 a10 a11 a12) sz)) 0 0 (va_A (wR ka qa b0 b1 a0 a1 a2 a3 a4 a5 a6 a7 a8 a9 a10 a11 a12) sz) := by
  refine Met.ofW (cc := b_R_resolved) (maxL := 6) (ret := (some .int)) (by decide) rfl ?_
  intro p e s m args below meth c s₁ B hml hv
  obtain ⟨rfl, hsz, hP, hK, hN, hD0⟩ := hv
  have hx := B.exec
  have hb := B.bytes
  have hr := B.returns
  have hts := tl_of (atoms_spec (ws := w_R_resolved) B.pre)
  have hown : s.vm.findClass R_R = some m.cls := findClass_of_methodNamed B.named
  have hlocks := B.notSynchronized
  subst hsz
  have hD := hD0.self (sz := s.heap.size)
  generalize hAe : va_A (wR ka qa b0 b1 a0 a1 a2 a3 a4 a5 a6 a7 a8 a9 a10 a11 a12) s.heap.size = A at hD ⊢
  have hA : ∀ q : Nat, s.heap.size ≤ q → A q := fun q h => by rw [← hAe]; exact Or.inr h
  have hS : va_S A s.heap s.heap [] := va_S.rf
  have hl := lv_entry ([.ref (qa 0), .int p1, .int p2, .int p3, .int p4]) (n := 6) (Nat.le_of_ble_eq_true rfl)
  rw [lg_entry_eq]
  generalize (lg_sl ([.ref (qa 0), .int p1, .int p2, .int p3, .int p4]) ++ List.replicate (6 - (lg_sl ([.ref (qa 0), .int p1, .int p2, .int p3, .int p4])).length) Slot.unset).toArray = ls at hl ⊢
  have hl : lv_has ls 6 [(0, .ref (qa 0)), (1, .int p1), (2, .int p2), (3, .int p3), (4, .int p4)] := hl
  refine lv_aload_n hx hb d_R_resolved_0 rfl (lv_at hl 0 rfl) ?_
  refine lv_iconst (v := (0 : Int32)) hx hb d_R_resolved_1 (by decide +kernel) ?_
  refine va_put (D := (dC, dI)) (ci := 3) (v := .int (0 : Int32)) (ty := .int) (C := R_R) (T := F_R) (N := 15) hx hb hts i_R t_R t_R_ok n_R hown hK hP hD hS 0 rfl rfl 14 (by decide) (hts _ k_56) (fun _ h9 => h9) rfl (by decide +kernel) rfl rfl (Nat.le_of_ble_eq_true rfl) d_R_resolved_2 (fun H locs hP hD hS => ?_)
  have hP : va_P (dC, dI) classes (wR ka qa b0 (0 : Int32) a0 a1 a2 a3 a4 a5 a6 a7 a8 a9 a10 a11 a12) H := hP
  have hD : va_D A (wR ka qa b0 (0 : Int32) a0 a1 a2 a3 a4 a5 a6 a7 a8 a9 a10 a11 a12) := hD
  refine lv_aload_n hx hb d_R_resolved_5 rfl (lv_at hl 0 rfl) ?_
  refine lv_iload_n hx hb d_R_resolved_6 rfl (lv_at hl 2 rfl) ?_
  refine lv_iload_n hx hb d_R_resolved_7 rfl (lv_at hl 3 rfl) ?_
  have hq_1 : vp_in p2 13 := by first | with_reducible assumption | exact rin_has hT (by with_reducible assumption)
  have hq_2 : vp_in p3 13 := by first | with_reducible assumption | exact rin_has hT (by with_reducible assumption)
  refine va_calli (va_runV (As := [.int p2, .int p3]) (rest := []) ⟨hx, hb, hml, hown, hts⟩ (c_R_usableType l dC dI ka qa H.size b0 (0 : Int32) a0 a1 a2 a3 a4 a5 a6 a7 a8 a9 a10 a11 a12 p2 p3 hq_1 hq_2) (cwV 2 hts k_g86 rfl rfl rfl (by decide +kernel) ⟨Nat.le_of_ble_eq_true rfl, Nat.le_of_ble_eq_true rfl⟩) ⟨fb_ro, va_recv hK hP (ci := 3) (q0 := 0) rfl rfl, fun U hU hW => ⟨rfl, by rw [hU], by rw [hU]; exact hP, va_K.moved hW.alike (hK), NX.warm hW hN⟩⟩ rfl rfl hl.1 rfl (lv_room (Nat.le_of_ble_eq_true rfl)) d_R_resolved_8 ⟨Nat.zero_le _, Nat.zero_le _⟩) hS (fun z h1 h2 => absurd h1 (Nat.not_lt.mpr h2)) (fun z h => hA z (Nat.le_trans hS.1 h)) (fun r u t H1 locs ht hvm hpo hB hz1 hk1 hS => ?_)
  subst hpo
  have hP := kp_P hP hk1
  generalize H1 = H at hP hS ⊢
  refine lv_if_ne (tgt := 17) hx hb d_R_resolved_11 (by decide) (fun c_3 => ?_) (fun c_3 => ?_)
  · have c_3 : ¬ ((f_R_usableType a1 a3 p2 p3) = (0 : Int32)) := c_3
    refine lv_iload_n hx hb d_R_resolved_17 rfl (lv_at hl 1 rfl) ?_
    refine lv_if_ne (tgt := 73) hx hb d_R_resolved_18 (by decide) (fun c_4 => ?_) (fun c_4 => ?_)
    · have c_4 : ¬ (p1 = (0 : Int32)) := c_4
      refine lv_aload_n hx hb d_R_resolved_73 rfl (lv_at hl 0 rfl) ?_
      refine va_get (D := (dC, dI)) (ci := 3) (v := .ref (qa 1)) (C := R_R) (T := F_R) (N := 15) hx hb hts i_R hown hK hP 0 rfl rfl 1 (by decide) (hts _ k_52) (fun _ h9 => h9) rfl d_R_resolved_74 ?_
      refine lv_iload_n hx hb d_R_resolved_77 rfl (lv_at hl 3 rfl) ?_
      have hi_5 : vp_in p3 13 := by first | with_reducible assumption | exact rin_has hT (by with_reducible assumption)
      refine va_zald (D := (dC, dI)) (f := a0) hx hb hK hP 1 0 rfl rfl hi_5 d_R_resolved_78 ?_
      refine lv_iload_n hx hb d_R_resolved_79 rfl (lv_at hl 1 rfl) ?_
      refine lv_iconst (v := (2 : Int32)) hx hb d_R_resolved_80 (by decide +kernel) ?_
      refine lv_icmp_ne (tgt := 88) hx hb d_R_resolved_81 (by decide) (fun c_6 => ?_) (fun c_6 => ?_)
      · have c_6 : ¬ (p1 = (2 : Int32)) := c_6
        refine lv_iconst (v := (0 : Int32)) hx hb d_R_resolved_88 (by decide +kernel) ?_
        refine lv_icmp_eq (tgt := 95) hx hb d_R_resolved_89 (by decide) (fun c_7 => ?_) (fun c_7 => ?_)
        · have c_7 : (a0 p3.toNatClampNeg) = (0 : Int32) := c_7
          refine lv_aload_n hx hb d_R_resolved_95 rfl (lv_at hl 0 rfl) ?_
          refine lv_iload_n hx hb d_R_resolved_96 rfl (lv_at hl 1 rfl) ?_
          refine lv_iload_n hx hb d_R_resolved_97 rfl (lv_at hl 3 rfl) ?_
          refine lv_iload hx hb d_R_resolved_98 (lv_at hl 4 rfl) ?_
          have hq_8 : vT b0 := by with_reducible assumption
          have hq_9 : vPar a4 := by with_reducible assumption
          have hq_10 : vp_in p3 13 := by first | with_reducible assumption | exact rin_has hT (by with_reducible assumption)
          have hq_11 : vp_in p4 4 := by first | with_reducible assumption | exact jn_name (by with_reducible assumption)
          have hFc := va_free (wc := (wR ka qa b0 (0 : Int32) a0 a1 a2 a3 a4 a5 a6 a7 a8 a9 a10 a11 a12)) hD hS hA [0, 1, 2, 3, 4, 5, 6, 7, 8, 9, 10, 11, 12, 13] rfl
          refine va_calli (va_runV (As := [.int p1, .int p3, .int p4]) (rest := []) ⟨hx, hb, hml, hown, hts⟩ (c_R_findMethod l dC dI ka qa H.size b0 (0 : Int32) a0 a1 a2 a3 a4 a5 a6 a7 a8 a9 a10 a11 a12 p1 p3 p4 hq_8 hq_9 hq_10 hq_11) (cwV 3 hts k_g87 rfl rfl rfl (by decide +kernel) ⟨Nat.le_of_ble_eq_true rfl, Nat.le_of_ble_eq_true rfl⟩) ⟨fb_mu, va_recv hK hP (ci := 3) (q0 := 0) rfl rfl, fun U hU hW => ⟨rfl, by rw [hU], by rw [hU]; exact hP, va_K.moved hW.alike hK, NX.warm hW hN, hD.weaken (fun _ _ _ _ => trivial)⟩⟩ rfl rfl hl.1 rfl (lv_room (Nat.le_of_ble_eq_true rfl)) d_R_resolved_100 ⟨Nat.zero_le _, Nat.zero_le _⟩) hS (fun q _ h => hFc q h) hFc (fun r u t H1 locs ht hvm hpo hB hz1 hk1 hS => ?_)
          obtain ⟨rfl, rfl⟩ := hpo
          have hP : va_P (dC, dI) classes (wR ka qa b0 (s_R_findMethod_b1 b0 (0 : Int32) a0 a4 a9 a10 p1 p3 p4) a0 a1 a2 a3 a4 a5 a6 a7 a8 a9 a10 a11 a12) H1 := hp_to ht hB
          have hD : va_D A (wR ka qa b0 (s_R_findMethod_b1 b0 (0 : Int32) a0 a4 a9 a10 p1 p3 p4) a0 a1 a2 a3 a4 a5 a6 a7 a8 a9 a10 a11 a12) := ad_R hD
          generalize hg_12 : (s_R_findMethod_b1 b0 (0 : Int32) a0 a4 a9 a10 p1 p3 p4) = g_12 at hP hD
          generalize H1 = H at hP hS ⊢
          refine lv_istore (lv' := [(5, .int (f_R_findMethod b0 (0 : Int32) a0 a4 a9 a10 p1 p3 p4)), (0, .ref (qa 0)), (1, .int p1), (2, .int p2), (3, .int p3), (4, .int p4)]) hx hb d_R_resolved_103 hl (by decide) rfl (fun ls hl => ?_)
          refine lv_iload hx hb d_R_resolved_105 (lv_at hl 0 rfl) ?_
          refine lv_if_ne (tgt := 113) hx hb d_R_resolved_107 (by decide) (fun c_13 => ?_) (fun c_13 => ?_)
          · have c_13 : ¬ ((f_R_findMethod b0 (0 : Int32) a0 a4 a9 a10 p1 p3 p4) = (0 : Int32)) := c_13
            refine lv_aload_n hx hb d_R_resolved_113 rfl (lv_at hl 1 rfl) ?_
            refine lv_iload_n hx hb d_R_resolved_114 rfl (lv_at hl 3 rfl) ?_
            refine lv_iload hx hb d_R_resolved_115 (lv_at hl 0 rfl) ?_
            refine lv_aload_n hx hb d_R_resolved_117 rfl (lv_at hl 1 rfl) ?_
            refine va_get (D := (dC, dI)) (ci := 3) (v := .ref (qa 10)) (C := R_R) (T := F_R) (N := 15) hx hb hts i_R hown hK hP 0 rfl rfl 10 (by decide) (hts _ k_49) (fun _ h9 => h9) rfl d_R_resolved_118 ?_
            refine lv_iconst (v := (4 : Int32)) hx hb d_R_resolved_121 (by decide +kernel) ?_
            refine lv_iload hx hb d_R_resolved_122 (lv_at hl 0 rfl) ?_
            refine lv_imul hx hb d_R_resolved_124 ?_
            refine lv_iload hx hb d_R_resolved_125 (lv_at hl 5 rfl) ?_
            refine lv_iadd hx hb d_R_resolved_127 ?_
            have hi_14 : vp_in (((4 : Int32) * (f_R_findMethod b0 (0 : Int32) a0 a4 a9 a10 p1 p3 p4)) + p4) 52 := by first | with_reducible assumption | exact jn_52 (by exact in_fm hT hpa (by with_reducible assumption)) (by first | with_reducible assumption | exact jn_name (by with_reducible assumption))
            refine va_iald (D := (dC, dI)) (f := a9) hx hb hK hP 10 9 rfl rfl hi_14 d_R_resolved_128 ?_
            have hq_15 : vp_in p2 13 := by first | with_reducible assumption | exact rin_has hT (by with_reducible assumption)
            have hq_16 : vp_in (f_R_findMethod b0 (0 : Int32) a0 a4 a9 a10 p1 p3 p4) 13 := by exact in_fm hT hpa (by with_reducible assumption)
            refine va_calli (va_runV (As := [.int p2, .int (f_R_findMethod b0 (0 : Int32) a0 a4 a9 a10 p1 p3 p4), .int (a9 (((4 : Int32) * (f_R_findMethod b0 (0 : Int32) a0 a4 a9 a10 p1 p3 p4)) + p4).toNatClampNeg)]) (rest := []) ⟨hx, hb, hml, hown, hts⟩ (c_R_usable l dC dI ka qa H.size b0 g_12 a0 a1 a2 a3 a4 a5 a6 a7 a8 a9 a10 a11 a12 p2 (f_R_findMethod b0 (0 : Int32) a0 a4 a9 a10 p1 p3 p4) (a9 (((4 : Int32) * (f_R_findMethod b0 (0 : Int32) a0 a4 a9 a10 p1 p3 p4)) + p4).toNatClampNeg) hq_15 hq_16) (cwV 3 hts k_g88 rfl rfl rfl (by decide +kernel) ⟨Nat.le_of_ble_eq_true rfl, Nat.le_of_ble_eq_true rfl⟩) ⟨fb_ro, va_recv hK hP (ci := 3) (q0 := 0) rfl rfl, fun U hU hW => ⟨rfl, by rw [hU], by rw [hU]; exact hP, va_K.moved hW.alike (hK), NX.warm hW hN⟩⟩ rfl rfl hl.1 rfl (lv_room (Nat.le_of_ble_eq_true rfl)) d_R_resolved_129 ⟨Nat.zero_le _, Nat.zero_le _⟩) hS (fun z h1 h2 => absurd h1 (Nat.not_lt.mpr h2)) (fun z h => hA z (Nat.le_trans hS.1 h)) (fun r u t H1 locs ht hvm hpo hB hz1 hk1 hS => ?_)
            subst hpo
            have hP := kp_P hP hk1
            generalize H1 = H at hP hS ⊢
            refine lv_if_eq (tgt := 140) hx hb d_R_resolved_132 (by decide) (fun c_17 => ?_) (fun c_17 => ?_)
            · have c_17 : (f_R_usable a3 a5 a10 p2 (f_R_findMethod b0 (0 : Int32) a0 a4 a9 a10 p1 p3 p4) (a9 (((4 : Int32) * (f_R_findMethod b0 (0 : Int32) a0 a4 a9 a10 p1 p3 p4)) + p4).toNatClampNeg)) = (0 : Int32) := c_17
              refine lv_bipush (v := (-5 : Int32)) hx hb d_R_resolved_140 (by decide +kernel) ?_
              have hP9 : va_P (dC, dI) classes (wR ka qa b0 g_12 a0 a1 a2 a3 a4 a5 a6 a7 a8 a9 a10 a11 a12) H := hP
              exact W.iret (v := (-5 : Int32)) hx hb hr (fun t ht hW => ⟨⟨(-5 : Int32), (g_12, a12), rfl, ⟨by subst hg_12; unfold f_R_resolved; rw [if_neg c_3, if_neg c_4, if_neg c_6, if_pos c_7, if_neg c_13, if_pos c_17], (pr2 (by subst hg_12; unfold s_R_resolved_b1; rw [if_neg c_3, if_neg c_4, if_neg c_6, if_pos c_7, if_neg c_13, if_pos c_17]) (by subst hg_12; unfold s_R_resolved_a12; rw [if_neg c_3, if_neg c_4, if_neg c_6, if_pos c_7, if_neg c_13, if_pos c_17]))⟩, hp_at ht hP9⟩, hS.F ht⟩) hS.2.2 d_R_resolved_142
            · have c_17 : ¬ ((f_R_usable a3 a5 a10 p2 (f_R_findMethod b0 (0 : Int32) a0 a4 a9 a10 p1 p3 p4) (a9 (((4 : Int32) * (f_R_findMethod b0 (0 : Int32) a0 a4 a9 a10 p1 p3 p4)) + p4).toNatClampNeg)) = (0 : Int32)) := c_17
              refine lv_iload hx hb d_R_resolved_135 (lv_at hl 0 rfl) ?_
              refine lv_goto (tgt := 142) hx hb d_R_resolved_137 (by decide) ?_
              have hP9 : va_P (dC, dI) classes (wR ka qa b0 g_12 a0 a1 a2 a3 a4 a5 a6 a7 a8 a9 a10 a11 a12) H := hP
              exact W.iret (v := (f_R_findMethod b0 (0 : Int32) a0 a4 a9 a10 p1 p3 p4)) hx hb hr (fun t ht hW => ⟨⟨(f_R_findMethod b0 (0 : Int32) a0 a4 a9 a10 p1 p3 p4), (g_12, a12), rfl, ⟨by subst hg_12; unfold f_R_resolved; rw [if_neg c_3, if_neg c_4, if_neg c_6, if_pos c_7, if_neg c_13, if_neg c_17], (pr2 (by subst hg_12; unfold s_R_resolved_b1; rw [if_neg c_3, if_neg c_4, if_neg c_6, if_pos c_7, if_neg c_13, if_neg c_17]) (by subst hg_12; unfold s_R_resolved_a12; rw [if_neg c_3, if_neg c_4, if_neg c_6, if_pos c_7, if_neg c_13, if_neg c_17]))⟩, hp_at ht hP9⟩, hS.F ht⟩) hS.2.2 d_R_resolved_142
          · have c_13 : (f_R_findMethod b0 (0 : Int32) a0 a4 a9 a10 p1 p3 p4) = (0 : Int32) := c_13
            refine lv_bipush (v := (-4 : Int32)) hx hb d_R_resolved_110 (by decide +kernel) ?_
            have hP9 : va_P (dC, dI) classes (wR ka qa b0 g_12 a0 a1 a2 a3 a4 a5 a6 a7 a8 a9 a10 a11 a12) H := hP
            exact W.iret (v := (-4 : Int32)) hx hb hr (fun t ht hW => ⟨⟨(-4 : Int32), (g_12, a12), rfl, ⟨by subst hg_12; unfold f_R_resolved; rw [if_neg c_3, if_neg c_4, if_neg c_6, if_pos c_7, if_pos c_13], (pr2 (by subst hg_12; unfold s_R_resolved_b1; rw [if_neg c_3, if_neg c_4, if_neg c_6, if_pos c_7, if_pos c_13]) (by subst hg_12; unfold s_R_resolved_a12; rw [if_neg c_3, if_neg c_4, if_neg c_6, if_pos c_7, if_pos c_13]))⟩, hp_at ht hP9⟩, hS.F ht⟩) hS.2.2 d_R_resolved_112
        · have c_7 : ¬ ((a0 p3.toNatClampNeg) = (0 : Int32)) := c_7
          refine lv_bipush (v := (-6 : Int32)) hx hb d_R_resolved_92 (by decide +kernel) ?_
          have hP9 : va_P (dC, dI) classes (wR ka qa b0 (0 : Int32) a0 a1 a2 a3 a4 a5 a6 a7 a8 a9 a10 a11 a12) H := hP
          exact W.iret (v := (-6 : Int32)) hx hb hr (fun t ht hW => ⟨⟨(-6 : Int32), ((0 : Int32), a12), rfl, ⟨by unfold f_R_resolved; rw [if_neg c_3, if_neg c_4, if_neg c_6, if_neg c_7], (pr2 (by unfold s_R_resolved_b1; rw [if_neg c_3, if_neg c_4, if_neg c_6, if_neg c_7]) (by unfold s_R_resolved_a12; rw [if_neg c_3, if_neg c_4, if_neg c_6, if_neg c_7]))⟩, hp_at ht hP9⟩, hS.F ht⟩) hS.2.2 d_R_resolved_94
      · have c_6 : p1 = (2 : Int32) := c_6
        refine lv_iconst (v := (1 : Int32)) hx hb d_R_resolved_84 (by decide +kernel) ?_
        refine lv_goto (tgt := 89) hx hb d_R_resolved_85 (by decide) ?_
        refine lv_icmp_eq (tgt := 95) hx hb d_R_resolved_89 (by decide) (fun c_18 => ?_) (fun c_18 => ?_)
        · have c_18 : (a0 p3.toNatClampNeg) = (1 : Int32) := c_18
          refine lv_aload_n hx hb d_R_resolved_95 rfl (lv_at hl 0 rfl) ?_
          refine lv_iload_n hx hb d_R_resolved_96 rfl (lv_at hl 1 rfl) ?_
          refine lv_iload_n hx hb d_R_resolved_97 rfl (lv_at hl 3 rfl) ?_
          refine lv_iload hx hb d_R_resolved_98 (lv_at hl 4 rfl) ?_
          have hq_19 : vT b0 := by with_reducible assumption
          have hq_20 : vPar a4 := by with_reducible assumption
          have hq_21 : vp_in p3 13 := by first | with_reducible assumption | exact rin_has hT (by with_reducible assumption)
          have hq_22 : vp_in p4 4 := by first | with_reducible assumption | exact jn_name (by with_reducible assumption)
          have hFc := va_free (wc := (wR ka qa b0 (0 : Int32) a0 a1 a2 a3 a4 a5 a6 a7 a8 a9 a10 a11 a12)) hD hS hA [0, 1, 2, 3, 4, 5, 6, 7, 8, 9, 10, 11, 12, 13] rfl
          refine va_calli (va_runV (As := [.int p1, .int p3, .int p4]) (rest := []) ⟨hx, hb, hml, hown, hts⟩ (c_R_findMethod l dC dI ka qa H.size b0 (0 : Int32) a0 a1 a2 a3 a4 a5 a6 a7 a8 a9 a10 a11 a12 p1 p3 p4 hq_19 hq_20 hq_21 hq_22) (cwV 3 hts k_g87 rfl rfl rfl (by decide +kernel) ⟨Nat.le_of_ble_eq_true rfl, Nat.le_of_ble_eq_true rfl⟩) ⟨fb_mu, va_recv hK hP (ci := 3) (q0 := 0) rfl rfl, fun U hU hW => ⟨rfl, by rw [hU], by rw [hU]; exact hP, va_K.moved hW.alike hK, NX.warm hW hN, hD.weaken (fun _ _ _ _ => trivial)⟩⟩ rfl rfl hl.1 rfl (lv_room (Nat.le_of_ble_eq_true rfl)) d_R_resolved_100 ⟨Nat.zero_le _, Nat.zero_le _⟩) hS (fun q _ h => hFc q h) hFc (fun r u t H1 locs ht hvm hpo hB hz1 hk1 hS => ?_)
          obtain ⟨rfl, rfl⟩ := hpo
          have hP : va_P (dC, dI) classes (wR ka qa b0 (s_R_findMethod_b1 b0 (0 : Int32) a0 a4 a9 a10 p1 p3 p4) a0 a1 a2 a3 a4 a5 a6 a7 a8 a9 a10 a11 a12) H1 := hp_to ht hB
          have hD : va_D A (wR ka qa b0 (s_R_findMethod_b1 b0 (0 : Int32) a0 a4 a9 a10 p1 p3 p4) a0 a1 a2 a3 a4 a5 a6 a7 a8 a9 a10 a11 a12) := ad_R hD
          generalize hg_23 : (s_R_findMethod_b1 b0 (0 : Int32) a0 a4 a9 a10 p1 p3 p4) = g_23 at hP hD
          generalize H1 = H at hP hS ⊢
          refine lv_istore (lv' := [(5, .int (f_R_findMethod b0 (0 : Int32) a0 a4 a9 a10 p1 p3 p4)), (0, .ref (qa 0)), (1, .int p1), (2, .int p2), (3, .int p3), (4, .int p4)]) hx hb d_R_resolved_103 hl (by decide) rfl (fun ls hl => ?_)
          refine lv_iload hx hb d_R_resolved_105 (lv_at hl 0 rfl) ?_
          refine lv_if_ne (tgt := 113) hx hb d_R_resolved_107 (by decide) (fun c_24 => ?_) (fun c_24 => ?_)
          · have c_24 : ¬ ((f_R_findMethod b0 (0 : Int32) a0 a4 a9 a10 p1 p3 p4) = (0 : Int32)) := c_24
            refine lv_aload_n hx hb d_R_resolved_113 rfl (lv_at hl 1 rfl) ?_
            refine lv_iload_n hx hb d_R_resolved_114 rfl (lv_at hl 3 rfl) ?_
            refine lv_iload hx hb d_R_resolved_115 (lv_at hl 0 rfl) ?_
            refine lv_aload_n hx hb d_R_resolved_117 rfl (lv_at hl 1 rfl) ?_
            refine va_get (D := (dC, dI)) (ci := 3) (v := .ref (qa 10)) (C := R_R) (T := F_R) (N := 15) hx hb hts i_R hown hK hP 0 rfl rfl 10 (by decide) (hts _ k_49) (fun _ h9 => h9) rfl d_R_resolved_118 ?_
            refine lv_iconst (v := (4 : Int32)) hx hb d_R_resolved_121 (by decide +kernel) ?_
            refine lv_iload hx hb d_R_resolved_122 (lv_at hl 0 rfl) ?_
            refine lv_imul hx hb d_R_resolved_124 ?_
            refine lv_iload hx hb d_R_resolved_125 (lv_at hl 5 rfl) ?_
            refine lv_iadd hx hb d_R_resolved_127 ?_
            have hi_25 : vp_in (((4 : Int32) * (f_R_findMethod b0 (0 : Int32) a0 a4 a9 a10 p1 p3 p4)) + p4) 52 := by first | with_reducible assumption | exact jn_52 (by exact in_fm hT hpa (by with_reducible assumption)) (by first | with_reducible assumption | exact jn_name (by with_reducible assumption))
            refine va_iald (D := (dC, dI)) (f := a9) hx hb hK hP 10 9 rfl rfl hi_25 d_R_resolved_128 ?_
            have hq_26 : vp_in p2 13 := by first | with_reducible assumption | exact rin_has hT (by with_reducible assumption)
            have hq_27 : vp_in (f_R_findMethod b0 (0 : Int32) a0 a4 a9 a10 p1 p3 p4) 13 := by exact in_fm hT hpa (by with_reducible assumption)
            refine va_calli (va_runV (As := [.int p2, .int (f_R_findMethod b0 (0 : Int32) a0 a4 a9 a10 p1 p3 p4), .int (a9 (((4 : Int32) * (f_R_findMethod b0 (0 : Int32) a0 a4 a9 a10 p1 p3 p4)) + p4).toNatClampNeg)]) (rest := []) ⟨hx, hb, hml, hown, hts⟩ (c_R_usable l dC dI ka qa H.size b0 g_23 a0 a1 a2 a3 a4 a5 a6 a7 a8 a9 a10 a11 a12 p2 (f_R_findMethod b0 (0 : Int32) a0 a4 a9 a10 p1 p3 p4) (a9 (((4 : Int32) * (f_R_findMethod b0 (0 : Int32) a0 a4 a9 a10 p1 p3 p4)) + p4).toNatClampNeg) hq_26 hq_27) (cwV 3 hts k_g88 rfl rfl rfl (by decide +kernel) ⟨Nat.le_of_ble_eq_true rfl, Nat.le_of_ble_eq_true rfl⟩) ⟨fb_ro, va_recv hK hP (ci := 3) (q0 := 0) rfl rfl, fun U hU hW => ⟨rfl, by rw [hU], by rw [hU]; exact hP, va_K.moved hW.alike (hK), NX.warm hW hN⟩⟩ rfl rfl hl.1 rfl (lv_room (Nat.le_of_ble_eq_true rfl)) d_R_resolved_129 ⟨Nat.zero_le _, Nat.zero_le _⟩) hS (fun z h1 h2 => absurd h1 (Nat.not_lt.mpr h2)) (fun z h => hA z (Nat.le_trans hS.1 h)) (fun r u t H1 locs ht hvm hpo hB hz1 hk1 hS => ?_)
            subst hpo
            have hP := kp_P hP hk1
            generalize H1 = H at hP hS ⊢
            refine lv_if_eq (tgt := 140) hx hb d_R_resolved_132 (by decide) (fun c_28 => ?_) (fun c_28 => ?_)
            · have c_28 : (f_R_usable a3 a5 a10 p2 (f_R_findMethod b0 (0 : Int32) a0 a4 a9 a10 p1 p3 p4) (a9 (((4 : Int32) * (f_R_findMethod b0 (0 : Int32) a0 a4 a9 a10 p1 p3 p4)) + p4).toNatClampNeg)) = (0 : Int32) := c_28
              refine lv_bipush (v := (-5 : Int32)) hx hb d_R_resolved_140 (by decide +kernel) ?_
              have hP9 : va_P (dC, dI) classes (wR ka qa b0 g_23 a0 a1 a2 a3 a4 a5 a6 a7 a8 a9 a10 a11 a12) H := hP
              exact W.iret (v := (-5 : Int32)) hx hb hr (fun t ht hW => ⟨⟨(-5 : Int32), (g_23, a12), rfl, ⟨by subst hg_23; unfold f_R_resolved; rw [if_neg c_3, if_neg c_4, if_pos c_6, if_pos c_18, if_neg c_24, if_pos c_28], (pr2 (by subst hg_23; unfold s_R_resolved_b1; rw [if_neg c_3, if_neg c_4, if_pos c_6, if_pos c_18, if_neg c_24, if_pos c_28]) (by subst hg_23; unfold s_R_resolved_a12; rw [if_neg c_3, if_neg c_4, if_pos c_6, if_pos c_18, if_neg c_24, if_pos c_28]))⟩, hp_at ht hP9⟩, hS.F ht⟩) hS.2.2 d_R_resolved_142
            · have c_28 : ¬ ((f_R_usable a3 a5 a10 p2 (f_R_findMethod b0 (0 : Int32) a0 a4 a9 a10 p1 p3 p4) (a9 (((4 : Int32) * (f_R_findMethod b0 (0 : Int32) a0 a4 a9 a10 p1 p3 p4)) + p4).toNatClampNeg)) = (0 : Int32)) := c_28
              refine lv_iload hx hb d_R_resolved_135 (lv_at hl 0 rfl) ?_
              refine lv_goto (tgt := 142) hx hb d_R_resolved_137 (by decide) ?_
              have hP9 : va_P (dC, dI) classes (wR ka qa b0 g_23 a0 a1 a2 a3 a4 a5 a6 a7 a8 a9 a10 a11 a12) H := hP
              exact W.iret (v := (f_R_findMethod b0 (0 : Int32) a0 a4 a9 a10 p1 p3 p4)) hx hb hr (fun t ht hW => ⟨⟨(f_R_findMethod b0 (0 : Int32) a0 a4 a9 a10 p1 p3 p4), (g_23, a12), rfl, ⟨by subst hg_23; unfold f_R_resolved; rw [if_neg c_3, if_neg c_4, if_pos c_6, if_pos c_18, if_neg c_24, if_neg c_28], (pr2 (by subst hg_23; unfold s_R_resolved_b1; rw [if_neg c_3, if_neg c_4, if_pos c_6, if_pos c_18, if_neg c_24, if_neg c_28]) (by subst hg_23; unfold s_R_resolved_a12; rw [if_neg c_3, if_neg c_4, if_pos c_6, if_pos c_18, if_neg c_24, if_neg c_28]))⟩, hp_at ht hP9⟩, hS.F ht⟩) hS.2.2 d_R_resolved_142
          · have c_24 : (f_R_findMethod b0 (0 : Int32) a0 a4 a9 a10 p1 p3 p4) = (0 : Int32) := c_24
            refine lv_bipush (v := (-4 : Int32)) hx hb d_R_resolved_110 (by decide +kernel) ?_
            have hP9 : va_P (dC, dI) classes (wR ka qa b0 g_23 a0 a1 a2 a3 a4 a5 a6 a7 a8 a9 a10 a11 a12) H := hP
            exact W.iret (v := (-4 : Int32)) hx hb hr (fun t ht hW => ⟨⟨(-4 : Int32), (g_23, a12), rfl, ⟨by subst hg_23; unfold f_R_resolved; rw [if_neg c_3, if_neg c_4, if_pos c_6, if_pos c_18, if_pos c_24], (pr2 (by subst hg_23; unfold s_R_resolved_b1; rw [if_neg c_3, if_neg c_4, if_pos c_6, if_pos c_18, if_pos c_24]) (by subst hg_23; unfold s_R_resolved_a12; rw [if_neg c_3, if_neg c_4, if_pos c_6, if_pos c_18, if_pos c_24]))⟩, hp_at ht hP9⟩, hS.F ht⟩) hS.2.2 d_R_resolved_112
        · have c_18 : ¬ ((a0 p3.toNatClampNeg) = (1 : Int32)) := c_18
          refine lv_bipush (v := (-6 : Int32)) hx hb d_R_resolved_92 (by decide +kernel) ?_
          have hP9 : va_P (dC, dI) classes (wR ka qa b0 (0 : Int32) a0 a1 a2 a3 a4 a5 a6 a7 a8 a9 a10 a11 a12) H := hP
          exact W.iret (v := (-6 : Int32)) hx hb hr (fun t ht hW => ⟨⟨(-6 : Int32), ((0 : Int32), a12), rfl, ⟨by unfold f_R_resolved; rw [if_neg c_3, if_neg c_4, if_pos c_6, if_neg c_18], (pr2 (by unfold s_R_resolved_b1; rw [if_neg c_3, if_neg c_4, if_pos c_6, if_neg c_18]) (by unfold s_R_resolved_a12; rw [if_neg c_3, if_neg c_4, if_pos c_6, if_neg c_18]))⟩, hp_at ht hP9⟩, hS.F ht⟩) hS.2.2 d_R_resolved_94
    · have c_4 : p1 = (0 : Int32) := c_4
      refine lv_aload_n hx hb d_R_resolved_21 rfl (lv_at hl 0 rfl) ?_
      refine lv_iload_n hx hb d_R_resolved_22 rfl (lv_at hl 3 rfl) ?_
      refine lv_iload hx hb d_R_resolved_23 (lv_at hl 4 rfl) ?_
      have hq_29 : vPar a4 := by with_reducible assumption
      have hq_30 : vDir a6 := by with_reducible assumption
      have hq_31 : vDc a7 := by with_reducible assumption
      have hq_32 : vp_in p3 13 := by first | with_reducible assumption | exact rin_has hT (by with_reducible assumption)
      have hq_33 : vp_in p4 4 := by first | with_reducible assumption | exact jn_name (by with_reducible assumption)
      have hFc := va_free (wc := (wR ka qa b0 (0 : Int32) a0 a1 a2 a3 a4 a5 a6 a7 a8 a9 a10 a11 a12)) hD hS hA [0, 1, 2, 3, 4, 5, 6, 7, 8, 9, 10, 11, 12, 13] rfl
      refine va_calli (va_runV (As := [.int p3, .int p4]) (rest := []) ⟨hx, hb, hml, hown, hts⟩ (c_R_findField l dC dI ka qa H.size b0 (0 : Int32) a0 a1 a2 a3 a4 a5 a6 a7 a8 a9 a10 a11 a12 p3 p4 hq_29 hq_30 hq_31 hq_32 hq_33) (cwV 2 hts k_g89 rfl rfl rfl (by decide +kernel) ⟨Nat.le_of_ble_eq_true rfl, Nat.le_of_ble_eq_true rfl⟩) ⟨fb_mu, va_recv hK hP (ci := 3) (q0 := 0) rfl rfl, fun U hU hW => ⟨rfl, by rw [hU], by rw [hU]; exact hP, va_K.moved hW.alike hK, NX.warm hW hN, hD.weaken (fun _ _ _ _ => trivial)⟩⟩ rfl rfl hl.1 rfl (lv_room (Nat.le_of_ble_eq_true rfl)) d_R_resolved_25 ⟨Nat.zero_le _, Nat.zero_le _⟩) hS (fun q _ h => hFc q h) hFc (fun r u t H1 locs ht hvm hpo hB hz1 hk1 hS => ?_)
      obtain ⟨rfl, rfl⟩ := hpo
      have hP : va_P (dC, dI) classes (wR ka qa b0 (0 : Int32) a0 a1 a2 a3 a4 a5 a6 a7 a8 a9 a10 a11 (s_R_findField_a12 a4 a6 a7 a8 a12 p3 p4)) H1 := hp_to ht hB
      have hD : va_D A (wR ka qa b0 (0 : Int32) a0 a1 a2 a3 a4 a5 a6 a7 a8 a9 a10 a11 (s_R_findField_a12 a4 a6 a7 a8 a12 p3 p4)) := ad_R hD
      generalize hg_34 : (s_R_findField_a12 a4 a6 a7 a8 a12 p3 p4) = g_34 at hP hD
      generalize H1 = H at hP hS ⊢
      refine lv_istore (lv' := [(5, .int (f_R_findField a4 a6 a7 a8 a12 p3 p4)), (0, .ref (qa 0)), (1, .int p1), (2, .int p2), (3, .int p3), (4, .int p4)]) hx hb d_R_resolved_28 hl (by decide) rfl (fun ls hl => ?_)
      refine lv_iload hx hb d_R_resolved_30 (lv_at hl 0 rfl) ?_
      refine lv_if_ne (tgt := 38) hx hb d_R_resolved_32 (by decide) (fun c_35 => ?_) (fun c_35 => ?_)
      · have c_35 : ¬ ((f_R_findField a4 a6 a7 a8 a12 p3 p4) = (0 : Int32)) := c_35
        refine lv_aload_n hx hb d_R_resolved_38 rfl (lv_at hl 1 rfl) ?_
        refine lv_iconst (v := (1 : Int32)) hx hb d_R_resolved_39 (by decide +kernel) ?_
        refine va_put (D := (dC, dI)) (ci := 3) (v := .int (1 : Int32)) (ty := .int) (C := R_R) (T := F_R) (N := 15) hx hb hts i_R t_R t_R_ok n_R hown hK hP hD hS 0 rfl rfl 14 (by decide) (hts _ k_56) (fun _ h9 => h9) rfl (by decide +kernel) rfl rfl (Nat.le_of_ble_eq_true rfl) d_R_resolved_40 (fun H locs hP hD hS => ?_)
        have hP : va_P (dC, dI) classes (wR ka qa b0 (1 : Int32) a0 a1 a2 a3 a4 a5 a6 a7 a8 a9 a10 a11 g_34) H := hP
        have hD : va_D A (wR ka qa b0 (1 : Int32) a0 a1 a2 a3 a4 a5 a6 a7 a8 a9 a10 a11 g_34) := hD
        refine lv_aload_n hx hb d_R_resolved_43 rfl (lv_at hl 1 rfl) ?_
        refine lv_iload_n hx hb d_R_resolved_44 rfl (lv_at hl 3 rfl) ?_
        refine lv_iload hx hb d_R_resolved_45 (lv_at hl 0 rfl) ?_
        refine lv_aload_n hx hb d_R_resolved_47 rfl (lv_at hl 1 rfl) ?_
        refine va_get (D := (dC, dI)) (ci := 3) (v := .ref (qa 9)) (C := R_R) (T := F_R) (N := 15) hx hb hts i_R hown hK hP 0 rfl rfl 9 (by decide) (hts _ k_55) (fun _ h9 => h9) rfl d_R_resolved_48 ?_
        refine lv_iconst (v := (4 : Int32)) hx hb d_R_resolved_51 (by decide +kernel) ?_
        refine lv_iload hx hb d_R_resolved_52 (lv_at hl 0 rfl) ?_
        refine lv_imul hx hb d_R_resolved_54 ?_
        refine lv_iload hx hb d_R_resolved_55 (lv_at hl 5 rfl) ?_
        refine lv_iadd hx hb d_R_resolved_57 ?_
        have hi_36 : vp_in (((4 : Int32) * (f_R_findField a4 a6 a7 a8 a12 p3 p4)) + p4) 52 := by first | with_reducible assumption | exact jn_52 (by exact in_rff hpa hdi hdc (by with_reducible assumption)) (by first | with_reducible assumption | exact jn_name (by with_reducible assumption))
        refine va_iald (D := (dC, dI)) (f := a8) hx hb hK hP 9 8 rfl rfl hi_36 d_R_resolved_58 ?_
        have hq_37 : vp_in p2 13 := by first | with_reducible assumption | exact rin_has hT (by with_reducible assumption)
        have hq_38 : vp_in (f_R_findField a4 a6 a7 a8 a12 p3 p4) 13 := by exact in_rff hpa hdi hdc (by with_reducible assumption)
        refine va_calli (va_runV (As := [.int p2, .int (f_R_findField a4 a6 a7 a8 a12 p3 p4), .int (a8 (((4 : Int32) * (f_R_findField a4 a6 a7 a8 a12 p3 p4)) + p4).toNatClampNeg)]) (rest := []) ⟨hx, hb, hml, hown, hts⟩ (c_R_usable l dC dI ka qa H.size b0 (1 : Int32) a0 a1 a2 a3 a4 a5 a6 a7 a8 a9 a10 a11 g_34 p2 (f_R_findField a4 a6 a7 a8 a12 p3 p4) (a8 (((4 : Int32) * (f_R_findField a4 a6 a7 a8 a12 p3 p4)) + p4).toNatClampNeg) hq_37 hq_38) (cwV 3 hts k_g88 rfl rfl rfl (by decide +kernel) ⟨Nat.le_of_ble_eq_true rfl, Nat.le_of_ble_eq_true rfl⟩) ⟨fb_ro, va_recv hK hP (ci := 3) (q0 := 0) rfl rfl, fun U hU hW => ⟨rfl, by rw [hU], by rw [hU]; exact hP, va_K.moved hW.alike (hK), NX.warm hW hN⟩⟩ rfl rfl hl.1 rfl (lv_room (Nat.le_of_ble_eq_true rfl)) d_R_resolved_59 ⟨Nat.zero_le _, Nat.zero_le _⟩) hS (fun z h1 h2 => absurd h1 (Nat.not_lt.mpr h2)) (fun z h => hA z (Nat.le_trans hS.1 h)) (fun r u t H1 locs ht hvm hpo hB hz1 hk1 hS => ?_)
        subst hpo
        have hP := kp_P hP hk1
        generalize H1 = H at hP hS ⊢
        refine lv_if_eq (tgt := 70) hx hb d_R_resolved_62 (by decide) (fun c_39 => ?_) (fun c_39 => ?_)
        · have c_39 : (f_R_usable a3 a5 a10 p2 (f_R_findField a4 a6 a7 a8 a12 p3 p4) (a8 (((4 : Int32) * (f_R_findField a4 a6 a7 a8 a12 p3 p4)) + p4).toNatClampNeg)) = (0 : Int32) := c_39
          refine lv_bipush (v := (-5 : Int32)) hx hb d_R_resolved_70 (by decide +kernel) ?_
          have hP9 : va_P (dC, dI) classes (wR ka qa b0 (1 : Int32) a0 a1 a2 a3 a4 a5 a6 a7 a8 a9 a10 a11 g_34) H := hP
          exact W.iret (v := (-5 : Int32)) hx hb hr (fun t ht hW => ⟨⟨(-5 : Int32), ((1 : Int32), g_34), rfl, ⟨by subst hg_34; unfold f_R_resolved; rw [if_neg c_3, if_pos c_4, if_neg c_35, if_pos c_39], (pr2 (by subst hg_34; unfold s_R_resolved_b1; rw [if_neg c_3, if_pos c_4, if_neg c_35, if_pos c_39]) (by subst hg_34; unfold s_R_resolved_a12; rw [if_neg c_3, if_pos c_4, if_neg c_35, if_pos c_39]))⟩, hp_at ht hP9⟩, hS.F ht⟩) hS.2.2 d_R_resolved_72
        · have c_39 : ¬ ((f_R_usable a3 a5 a10 p2 (f_R_findField a4 a6 a7 a8 a12 p3 p4) (a8 (((4 : Int32) * (f_R_findField a4 a6 a7 a8 a12 p3 p4)) + p4).toNatClampNeg)) = (0 : Int32)) := c_39
          refine lv_iload hx hb d_R_resolved_65 (lv_at hl 0 rfl) ?_
          refine lv_goto (tgt := 72) hx hb d_R_resolved_67 (by decide) ?_
          have hP9 : va_P (dC, dI) classes (wR ka qa b0 (1 : Int32) a0 a1 a2 a3 a4 a5 a6 a7 a8 a9 a10 a11 g_34) H := hP
          exact W.iret (v := (f_R_findField a4 a6 a7 a8 a12 p3 p4)) hx hb hr (fun t ht hW => ⟨⟨(f_R_findField a4 a6 a7 a8 a12 p3 p4), ((1 : Int32), g_34), rfl, ⟨by subst hg_34; unfold f_R_resolved; rw [if_neg c_3, if_pos c_4, if_neg c_35, if_neg c_39], (pr2 (by subst hg_34; unfold s_R_resolved_b1; rw [if_neg c_3, if_pos c_4, if_neg c_35, if_neg c_39]) (by subst hg_34; unfold s_R_resolved_a12; rw [if_neg c_3, if_pos c_4, if_neg c_35, if_neg c_39]))⟩, hp_at ht hP9⟩, hS.F ht⟩) hS.2.2 d_R_resolved_72
      · have c_35 : (f_R_findField a4 a6 a7 a8 a12 p3 p4) = (0 : Int32) := c_35
        refine lv_bipush (v := (-3 : Int32)) hx hb d_R_resolved_35 (by decide +kernel) ?_
        have hP9 : va_P (dC, dI) classes (wR ka qa b0 (0 : Int32) a0 a1 a2 a3 a4 a5 a6 a7 a8 a9 a10 a11 g_34) H := hP
        exact W.iret (v := (-3 : Int32)) hx hb hr (fun t ht hW => ⟨⟨(-3 : Int32), ((0 : Int32), g_34), rfl, ⟨by subst hg_34; unfold f_R_resolved; rw [if_neg c_3, if_pos c_4, if_pos c_35], (pr2 (by subst hg_34; unfold s_R_resolved_b1; rw [if_neg c_3, if_pos c_4, if_pos c_35]) (by subst hg_34; unfold s_R_resolved_a12; rw [if_neg c_3, if_pos c_4, if_pos c_35]))⟩, hp_at ht hP9⟩, hS.F ht⟩) hS.2.2 d_R_resolved_37
  · have c_3 : (f_R_usableType a1 a3 p2 p3) = (0 : Int32) := c_3
    refine lv_bipush (v := (-5 : Int32)) hx hb d_R_resolved_14 (by decide +kernel) ?_
    have hP9 : va_P (dC, dI) classes (wR ka qa b0 (0 : Int32) a0 a1 a2 a3 a4 a5 a6 a7 a8 a9 a10 a11 a12) H := hP
    exact W.iret (v := (-5 : Int32)) hx hb hr (fun t ht hW => ⟨⟨(-5 : Int32), ((0 : Int32), a12), rfl, ⟨by unfold f_R_resolved; rw [if_pos c_3], (pr2 (by unfold s_R_resolved_b1; rw [if_pos c_3]) (by unfold s_R_resolved_a12; rw [if_pos c_3]))⟩, hp_at ht hP9⟩, hS.F ht⟩) hS.2.2 d_R_resolved_16
