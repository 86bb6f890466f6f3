set_option maxHeartbeats 1000000 in
set_option maxRecDepth 100000 in
theorem c_R_implement (l : Launch) (dC : Nat → ClassId) (dI : Nat → Nat → Nat) (ka : Nat → ClassId) (qa : Nat → Nat) (sz : Nat) (b0 b1 : Int32) (a0 a1 a2 a3 a4 a5 a6 a7 a8 a9 a10 a11 a12 : Nat → Int32) (p1 p2 : Int32) (hT : vT b0) (hdc : vDc a7) : Met l y_R_implement w_R_implement ({ frames := 2, cells := 0, slots := 0, locals := 43 } : Room) (mu_P dC dI (wR ka qa b0 b1 a0 a1 a2 a3 a4 a5 a6 a7 a8 a9 a10 a11 a12) (tR ka) sz [.ref (qa 0), .int p1, .int p2]) (mu_Q (fun (S9 : (Nat → Int32) × (Nat → Int32)) => (wR ka qa b0 b1 a0 a1 a2 a3 a4 a5 S9.1 S9.2 a8 a9 a10 a11 a12)) dC dI (f_R_implement b0 a0 a6 a7 p1 p2) ((s_R_implement_a6 b0 a0 a6 a7 p1 p2), (s_R_implement_a7 b0 a0 a6 a7 p1 p2)) (va_A (wR ka qa b0 b1 a0 a1 a2 a3 a4 a5 a6 a7 a8 a9 a10 a11 a12) sz)) 0 0 (va_A (wR ka qa b0 b1 a0 a1 a2 a3 a4 a5 a6 a7 a8 a9 a10 a11 a12) sz) := by
  refine Met.ofW (cc := b_R_implement) (maxL := 4) (ret := (some .int)) (by decide) rfl ?_
  intro p e s m args below meth c s₁ B hml hv
  obtain ⟨rfl, hsz, hP, hK, hN, hD0⟩ := hv
  have hx := B.exec
  have hb := B.bytes
  have hr := B.returns
  have hts := tl_of (atoms_spec (ws := w_R_implement) B.pre)
  have hown : s.vm.findClass R_R = some m.cls := findClass_of_methodNamed B.named
  have hlocks := B.notSynchronized
  subst hsz
  have hD := hD0.self (sz := s.heap.size)
  generalize hAe : va_A (wR ka qa b0 b1 a0 a1 a2 a3 a4 a5 a6 a7 a8 a9 a10 a11 a12) s.heap.size = A at hD ⊢
  have hA : ∀ q : Nat, s.heap.size ≤ q → A q := fun q h => by rw [← hAe]; exact Or.inr h
  have hS : va_S A s.heap s.heap [] := va_S.rf
  have hl := lv_entry ([.ref (qa 0), .int p1, .int p2]) (n := 4) (Nat.le_of_ble_eq_true rfl)
  rw [lg_entry_eq]
  generalize (lg_sl ([.ref (qa 0), .int p1, .int p2]) ++ List.replicate (4 - (lg_sl ([.ref (qa 0), .int p1, .int p2])).length) Slot.unset).toArray = ls at hl ⊢
  have hl : lv_has ls 4 [(0, .ref (qa 0)), (1, .int p1), (2, .int p2)] := hl
  refine lv_aload_n hx hb d_R_implement_0 rfl (lv_at hl 0 rfl) ?_
  refine lv_iload_n hx hb d_R_implement_1 rfl (lv_at hl 1 rfl) ?_
  refine va_calli (va_runV (As := [.int p1]) (rest := []) ⟨hx, hb, hml, hown, hts⟩ (c_R_there l dC dI ka qa s.heap.size b0 b1 a0 a1 a2 a3 a4 a5 a6 a7 a8 a9 a10 a11 a12 p1) (cwV 1 hts k_g72 rfl rfl rfl (by decide +kernel) ⟨Nat.le_of_ble_eq_true rfl, Nat.le_of_ble_eq_true rfl⟩) ⟨fb_ro, va_recv hK hP (ci := 3) (q0 := 0) rfl rfl, fun U hU hW => ⟨rfl, by rw [hU], by rw [hU]; exact hP, va_K.moved hW.alike (hK), NX.warm hW hN⟩⟩ rfl rfl hl.1 rfl (lv_room (Nat.le_of_ble_eq_true rfl)) d_R_implement_2 ⟨Nat.zero_le _, Nat.zero_le _⟩) hS (fun z h1 h2 => absurd h1 (Nat.not_lt.mpr h2)) (fun z h => hA z (Nat.le_trans hS.1 h)) (fun r u t H1 locs ht hvm hpo hB hz1 hk1 hS => ?_)
  subst hpo
  have hP := kp_P hP hk1
  generalize H1 = H at hP hS ⊢
  refine lv_if_eq (tgt := 30) hx hb d_R_implement_5 (by decide) (fun c_1 => ?_) (fun c_1 => ?_)
  · have c_1 : (f_R_there b0 p1) = (0 : Int32) := c_1
    refine lv_iconst (v := (-1 : Int32)) hx hb d_R_implement_30 (by decide +kernel) ?_
    have hP9 : va_P (dC, dI) classes (wR ka qa b0 b1 a0 a1 a2 a3 a4 a5 a6 a7 a8 a9 a10 a11 a12) H := hP
    exact W.iret (v := (-1 : Int32)) hx hb hr (fun t ht hW => ⟨⟨(-1 : Int32), (a6, a7), rfl, ⟨by unfold f_R_implement; rw [if_pos c_1], (pr2 (by unfold s_R_implement_a6; rw [if_pos c_1]) (by unfold s_R_implement_a7; rw [if_pos c_1]))⟩, hp_at ht hP9⟩, hS.F ht⟩) hS.2.2 d_R_implement_31
  · have c_1 : ¬ ((f_R_there b0 p1) = (0 : Int32)) := c_1
    refine lv_aload_n hx hb d_R_implement_8 rfl (lv_at hl 0 rfl) ?_
    refine lv_iload_n hx hb d_R_implement_9 rfl (lv_at hl 2 rfl) ?_
    refine va_calli (va_runV (As := [.int p2]) (rest := []) ⟨hx, hb, hml, hown, hts⟩ (c_R_there l dC dI ka qa H.size b0 b1 a0 a1 a2 a3 a4 a5 a6 a7 a8 a9 a10 a11 a12 p2) (cwV 1 hts k_g72 rfl rfl rfl (by decide +kernel) ⟨Nat.le_of_ble_eq_true rfl, Nat.le_of_ble_eq_true rfl⟩) ⟨fb_ro, va_recv hK hP (ci := 3) (q0 := 0) rfl rfl, fun U hU hW => ⟨rfl, by rw [hU], by rw [hU]; exact hP, va_K.moved hW.alike (hK), NX.warm hW hN⟩⟩ rfl rfl hl.1 rfl (lv_room (Nat.le_of_ble_eq_true rfl)) d_R_implement_10 ⟨Nat.zero_le _, Nat.zero_le _⟩) hS (fun z h1 h2 => absurd h1 (Nat.not_lt.mpr h2)) (fun z h => hA z (Nat.le_trans hS.1 h)) (fun r u t H1 locs ht hvm hpo hB hz1 hk1 hS => ?_)
    subst hpo
    have hP := kp_P hP hk1
    generalize H1 = H at hP hS ⊢
    refine lv_if_eq (tgt := 30) hx hb d_R_implement_13 (by decide) (fun c_2 => ?_) (fun c_2 => ?_)
    · have c_2 : (f_R_there b0 p2) = (0 : Int32) := c_2
      refine lv_iconst (v := (-1 : Int32)) hx hb d_R_implement_30 (by decide +kernel) ?_
      have hP9 : va_P (dC, dI) classes (wR ka qa b0 b1 a0 a1 a2 a3 a4 a5 a6 a7 a8 a9 a10 a11 a12) H := hP
      exact W.iret (v := (-1 : Int32)) hx hb hr (fun t ht hW => ⟨⟨(-1 : Int32), (a6, a7), rfl, ⟨by unfold f_R_implement; rw [if_neg c_1, if_pos c_2], (pr2 (by unfold s_R_implement_a6; rw [if_neg c_1, if_pos c_2]) (by unfold s_R_implement_a7; rw [if_neg c_1, if_pos c_2]))⟩, hp_at ht hP9⟩, hS.F ht⟩) hS.2.2 d_R_implement_31
    · have c_2 : ¬ ((f_R_there b0 p2) = (0 : Int32)) := c_2
      refine lv_iload_n hx hb d_R_implement_16 rfl (lv_at hl 2 rfl) ?_
      refine lv_iload_n hx hb d_R_implement_17 rfl (lv_at hl 1 rfl) ?_
      refine lv_icmp_ge (tgt := 30) hx hb d_R_implement_18 (by decide) (fun c_3 => ?_) (fun c_3 => ?_)
      · have c_3 : p1 ≤ p2 := c_3
        refine lv_iconst (v := (-1 : Int32)) hx hb d_R_implement_30 (by decide +kernel) ?_
        have hP9 : va_P (dC, dI) classes (wR ka qa b0 b1 a0 a1 a2 a3 a4 a5 a6 a7 a8 a9 a10 a11 a12) H := hP
        exact W.iret (v := (-1 : Int32)) hx hb hr (fun t ht hW => ⟨⟨(-1 : Int32), (a6, a7), rfl, ⟨by unfold f_R_implement; rw [if_neg c_1, if_neg c_2, if_pos c_3], (pr2 (by unfold s_R_implement_a6; rw [if_neg c_1, if_neg c_2, if_pos c_3]) (by unfold s_R_implement_a7; rw [if_neg c_1, if_neg c_2, if_pos c_3]))⟩, hp_at ht hP9⟩, hS.F ht⟩) hS.2.2 d_R_implement_31
      · have c_3 : ¬ (p1 ≤ p2) := c_3
        refine lv_aload_n hx hb d_R_implement_21 rfl (lv_at hl 0 rfl) ?_
        refine va_get (D := (dC, dI)) (ci := 3) (v := .ref (qa 1)) (C := R_R) (T := F_R) (N := 15) hx hb hts i_R hown hK hP 0 rfl rfl 1 (by decide) (hts _ k_52) (fun _ h9 => h9) rfl d_R_implement_22 ?_
        refine lv_iload_n hx hb d_R_implement_25 rfl (lv_at hl 2 rfl) ?_
        have hi_4 : vp_in p2 13 := by first | with_reducible assumption | exact rin_has hT (by with_reducible assumption)
        refine va_zald (D := (dC, dI)) (f := a0) hx hb hK hP 1 0 rfl rfl hi_4 d_R_implement_26 ?_
        refine lv_if_ne (tgt := 32) hx hb d_R_implement_27 (by decide) (fun c_5 => ?_) (fun c_5 => ?_)
        · have c_5 : ¬ ((a0 p2.toNatClampNeg) = (0 : Int32)) := c_5
          refine lv_iconst (v := (0 : Int32)) hx hb d_R_implement_32 (by decide +kernel) ?_
          refine lv_istore_n (lv' := [(3, .int (0 : Int32)), (0, .ref (qa 0)), (1, .int p1), (2, .int p2)]) hx hb d_R_implement_33 rfl hl (by decide) rfl (fun ls hl => ?_)
          have LOOP_34 : ∀ (n k : Nat) (x3 : Int32) (H : Heap) (locs : List Loc) (ls : Array Slot), x3 = nI k → 14 ≤ k + n → k ≤ 13 → lr_R_implement_34 b0 a0 a6 a7 p1 p2  n x3 = (f_R_implement b0 a0 a6 a7 p1 p2) → la6_R_implement_34 b0 a0 a6 a7 p1 p2  n x3 = (s_R_implement_a6 b0 a0 a6 a7 p1 p2) → la7_R_implement_34 b0 a0 a6 a7 p1 p2  n x3 = (s_R_implement_a7 b0 a0 a6 a7 p1 p2) → va_P (dC, dI) classes (wR ka qa b0 b1 a0 a1 a2 a3 a4 a5 a6 a7 a8 a9 a10 a11 a12) H → va_D A (wR ka qa b0 b1 a0 a1 a2 a3 a4 a5 a6 a7 a8 a9 a10 a11 a12) → va_S A s.heap H locs → lv_has ls 4 [(3, .int x3), (0, .ref (qa 0)), (1, .int p1), (2, .int p2)] → W p l e (headSpec w_R_implement ({ frames := 2, cells := 0, slots := 0, locals := 43 } : Room)).room s m ([.ref (qa 0), .int p1, .int p2] : List Value).toArray below meth c H locs 0 0 (MQ below (mu_Q (fun (S9 : (Nat → Int32) × (Nat → Int32)) => (wR ka qa b0 b1 a0 a1 a2 a3 a4 a5 S9.1 S9.2 a8 a9 a10 a11 a12)) dC dI (f_R_implement b0 a0 a6 a7 p1 p2) ((s_R_implement_a6 b0 a0 a6 a7 p1 p2), (s_R_implement_a7 b0 a0 a6 a7 p1 p2)) (A)) ([.ref (qa 0), .int p1, .int p2] : List Value).toArray s 0 0 A) (F0 m 34 ls []) := by
            intro n
            induction n with
            | zero =>
              intro k x3 H locs ls et h1 h2
              exfalso; omega
            | succ n ih =>
              intro k x3 H locs ls et h1 h2 hF hG_a6 hG_a7 hP hD hS hl
              refine lv_iload_n hx hb d_R_implement_34 rfl (lv_at hl 0 rfl) ?_
              refine lv_aload_n hx hb d_R_implement_35 rfl (lv_at hl 1 rfl) ?_
              refine va_get (D := (dC, dI)) (ci := 3) (v := .ref (qa 8)) (C := R_R) (T := F_R) (N := 15) hx hb hts i_R hown hK hP 0 rfl rfl 8 (by decide) (hts _ k_53) (fun _ h9 => h9) rfl d_R_implement_36 ?_
              refine lv_iload_n hx hb d_R_implement_39 rfl (lv_at hl 2 rfl) ?_
              have hi_6 : vp_in p1 13 := by first | with_reducible assumption | exact rin_has hT (by with_reducible assumption)
              refine va_iald (D := (dC, dI)) (f := a7) hx hb hK hP 8 7 rfl rfl hi_6 d_R_implement_40 ?_
              refine lv_icmp_ge (tgt := 66) hx hb d_R_implement_41 (by decide) (fun c_7 => ?_) (fun c_7 => ?_)
              · have c_7 : (a7 p1.toNatClampNeg) ≤ x3 := c_7
                refine lv_aload_n hx hb d_R_implement_66 rfl (lv_at hl 1 rfl) ?_
                refine va_get (D := (dC, dI)) (ci := 3) (v := .ref (qa 8)) (C := R_R) (T := F_R) (N := 15) hx hb hts i_R hown hK hP 0 rfl rfl 8 (by decide) (hts _ k_53) (fun _ h9 => h9) rfl d_R_implement_67 ?_
                refine lv_iload_n hx hb d_R_implement_70 rfl (lv_at hl 2 rfl) ?_
                have hi_8 : vp_in p1 13 := by first | with_reducible assumption | exact rin_has hT (by with_reducible assumption)
                refine va_iald (D := (dC, dI)) (f := a7) hx hb hK hP 8 7 rfl rfl hi_8 d_R_implement_71 ?_
                refine lv_iconst (v := (4 : Int32)) hx hb d_R_implement_72 (by decide +kernel) ?_
                refine lv_icmp_ne (tgt := 79) hx hb d_R_implement_73 (by decide) (fun c_9 => ?_) (fun c_9 => ?_)
                · have c_9 : ¬ ((a7 p1.toNatClampNeg) = (4 : Int32)) := c_9
                  refine lv_aload_n hx hb d_R_implement_79 rfl (lv_at hl 1 rfl) ?_
                  refine va_get (D := (dC, dI)) (ci := 3) (v := .ref (qa 7)) (C := R_R) (T := F_R) (N := 15) hx hb hts i_R hown hK hP 0 rfl rfl 7 (by decide) (hts _ k_54) (fun _ h9 => h9) rfl d_R_implement_80 ?_
                  refine lv_iconst (v := (4 : Int32)) hx hb d_R_implement_83 (by decide +kernel) ?_
                  refine lv_iload_n hx hb d_R_implement_84 rfl (lv_at hl 2 rfl) ?_
                  refine lv_imul hx hb d_R_implement_85 ?_
                  refine lv_aload_n hx hb d_R_implement_86 rfl (lv_at hl 1 rfl) ?_
                  refine va_get (D := (dC, dI)) (ci := 3) (v := .ref (qa 8)) (C := R_R) (T := F_R) (N := 15) hx hb hts i_R hown hK hP 0 rfl rfl 8 (by decide) (hts _ k_53) (fun _ h9 => h9) rfl d_R_implement_87 ?_
                  refine lv_iload_n hx hb d_R_implement_90 rfl (lv_at hl 2 rfl) ?_
                  have hi_10 : vp_in p1 13 := by first | with_reducible assumption | exact rin_has hT (by with_reducible assumption)
                  refine va_iald (D := (dC, dI)) (f := a7) hx hb hK hP 8 7 rfl rfl hi_10 d_R_implement_91 ?_
                  refine lv_iadd hx hb d_R_implement_92 ?_
                  refine lv_iload_n hx hb d_R_implement_93 rfl (lv_at hl 3 rfl) ?_
                  have hi_11 : vp_in (((4 : Int32) * p1) + (a7 p1.toNatClampNeg)) 52 := by exact jn_nd hdc (by first | with_reducible assumption | exact rin_has hT (by with_reducible assumption)) (by with_reducible assumption)
                  refine va_iast (D := (dC, dI)) (f := a6) hx hb hK hP hD hS 7 6 rfl rfl hi_11 d_R_implement_94 (fun H locs hP hD hS => ?_)
                  have hP : va_P (dC, dI) classes (wR ka qa b0 b1 a0 a1 a2 a3 a4 a5 (upd a6 (((4 : Int32) * p1) + (a7 p1.toNatClampNeg)).toNatClampNeg p2) a7 a8 a9 a10 a11 a12) H := hP
                  have hD : va_D A (wR ka qa b0 b1 a0 a1 a2 a3 a4 a5 (upd a6 (((4 : Int32) * p1) + (a7 p1.toNatClampNeg)).toNatClampNeg p2) a7 a8 a9 a10 a11 a12) := hD
                  refine lv_aload_n hx hb d_R_implement_95 rfl (lv_at hl 1 rfl) ?_
                  refine va_get (D := (dC, dI)) (ci := 3) (v := .ref (qa 8)) (C := R_R) (T := F_R) (N := 15) hx hb hts i_R hown hK hP 0 rfl rfl 8 (by decide) (hts _ k_53) (fun _ h9 => h9) rfl d_R_implement_96 ?_
                  refine lv_iload_n hx hb d_R_implement_99 rfl (lv_at hl 2 rfl) ?_
                  refine lv_dup2_11 hx hb d_R_implement_100 rfl rfl ?_
                  have hi_12 : vp_in p1 13 := by first | with_reducible assumption | exact rin_has hT (by with_reducible assumption)
                  refine va_iald (D := (dC, dI)) (f := a7) hx hb hK hP 8 7 rfl rfl hi_12 d_R_implement_101 ?_
                  refine lv_iconst (v := (1 : Int32)) hx hb d_R_implement_102 (by decide +kernel) ?_
                  refine lv_iadd hx hb d_R_implement_103 ?_
                  have hi_13 : vp_in p1 13 := by first | with_reducible assumption | exact rin_has hT (by with_reducible assumption)
                  refine va_iast (D := (dC, dI)) (f := a7) hx hb hK hP hD hS 8 7 rfl rfl hi_13 d_R_implement_104 (fun H locs hP hD hS => ?_)
                  have hP : va_P (dC, dI) classes (wR ka qa b0 b1 a0 a1 a2 a3 a4 a5 (upd a6 (((4 : Int32) * p1) + (a7 p1.toNatClampNeg)).toNatClampNeg p2) (upd a7 p1.toNatClampNeg ((a7 p1.toNatClampNeg) + (1 : Int32))) a8 a9 a10 a11 a12) H := hP
                  have hD : va_D A (wR ka qa b0 b1 a0 a1 a2 a3 a4 a5 (upd a6 (((4 : Int32) * p1) + (a7 p1.toNatClampNeg)).toNatClampNeg p2) (upd a7 p1.toNatClampNeg ((a7 p1.toNatClampNeg) + (1 : Int32))) a8 a9 a10 a11 a12) := hD
                  refine lv_aload_n hx hb d_R_implement_105 rfl (lv_at hl 1 rfl) ?_
                  refine va_get (D := (dC, dI)) (ci := 3) (v := .ref (qa 8)) (C := R_R) (T := F_R) (N := 15) hx hb hts i_R hown hK hP 0 rfl rfl 8 (by decide) (hts _ k_53) (fun _ h9 => h9) rfl d_R_implement_106 ?_
                  refine lv_iload_n hx hb d_R_implement_109 rfl (lv_at hl 2 rfl) ?_
                  have hi_14 : vp_in p1 13 := by first | with_reducible assumption | exact rin_has hT (by with_reducible assumption)
                  refine va_iald (D := (dC, dI)) (f := (upd a7 p1.toNatClampNeg ((a7 p1.toNatClampNeg) + (1 : Int32)))) hx hb hK hP 8 7 rfl rfl hi_14 d_R_implement_110 ?_
                  have hP9 : va_P (dC, dI) classes (wR ka qa b0 b1 a0 a1 a2 a3 a4 a5 (upd a6 (((4 : Int32) * p1) + (a7 p1.toNatClampNeg)).toNatClampNeg p2) (upd a7 p1.toNatClampNeg ((a7 p1.toNatClampNeg) + (1 : Int32))) a8 a9 a10 a11 a12) H := hP
                  exact W.iret (v := ((upd a7 p1.toNatClampNeg ((a7 p1.toNatClampNeg) + (1 : Int32))) p1.toNatClampNeg)) hx hb hr (fun t ht hW => ⟨⟨((upd a7 p1.toNatClampNeg ((a7 p1.toNatClampNeg) + (1 : Int32))) p1.toNatClampNeg), ((upd a6 (((4 : Int32) * p1) + (a7 p1.toNatClampNeg)).toNatClampNeg p2), (upd a7 p1.toNatClampNeg ((a7 p1.toNatClampNeg) + (1 : Int32)))), rfl, ⟨by rw [← hF, lr_R_implement_34_s, if_pos c_7, if_neg c_9], (pr2 (by rw [← hG_a6, la6_R_implement_34_s, if_pos c_7, if_neg c_9]) (by rw [← hG_a7, la7_R_implement_34_s, if_pos c_7, if_neg c_9]))⟩, hp_at ht hP9⟩, hS.F ht⟩) hS.2.2 d_R_implement_111
                · have c_9 : (a7 p1.toNatClampNeg) = (4 : Int32) := c_9
                  refine lv_bipush (v := (-2 : Int32)) hx hb d_R_implement_76 (by decide +kernel) ?_
                  have hP9 : va_P (dC, dI) classes (wR ka qa b0 b1 a0 a1 a2 a3 a4 a5 a6 a7 a8 a9 a10 a11 a12) H := hP
                  exact W.iret (v := (-2 : Int32)) hx hb hr (fun t ht hW => ⟨⟨(-2 : Int32), (a6, a7), rfl, ⟨by rw [← hF, lr_R_implement_34_s, if_pos c_7, if_pos c_9], (pr2 (by rw [← hG_a6, la6_R_implement_34_s, if_pos c_7, if_pos c_9]) (by rw [← hG_a7, la7_R_implement_34_s, if_pos c_7, if_pos c_9]))⟩, hp_at ht hP9⟩, hS.F ht⟩) hS.2.2 d_R_implement_78
              · have c_7 : ¬ ((a7 p1.toNatClampNeg) ≤ x3) := c_7
                refine lv_aload_n hx hb d_R_implement_44 rfl (lv_at hl 1 rfl) ?_
                refine va_get (D := (dC, dI)) (ci := 3) (v := .ref (qa 7)) (C := R_R) (T := F_R) (N := 15) hx hb hts i_R hown hK hP 0 rfl rfl 7 (by decide) (hts _ k_54) (fun _ h9 => h9) rfl d_R_implement_45 ?_
                refine lv_iconst (v := (4 : Int32)) hx hb d_R_implement_48 (by decide +kernel) ?_
                refine lv_iload_n hx hb d_R_implement_49 rfl (lv_at hl 2 rfl) ?_
                refine lv_imul hx hb d_R_implement_50 ?_
                refine lv_iload_n hx hb d_R_implement_51 rfl (lv_at hl 0 rfl) ?_
                refine lv_iadd hx hb d_R_implement_52 ?_
                have hi_15 : vp_in (((4 : Int32) * p1) + x3) 52 := by first | with_reducible assumption | exact jn_dc (by with_reducible assumption) et (rltDc hdc et h2 (by with_reducible assumption) (by with_reducible assumption)) | exact jn_dc (by first | with_reducible assumption | exact rin_has hT (by with_reducible assumption)) eu (rltDc hdc eu u2 (by with_reducible assumption) (by first | with_reducible assumption | exact rin_has hT (by with_reducible assumption)))
                refine va_iald (D := (dC, dI)) (f := a6) hx hb hK hP 7 6 rfl rfl hi_15 d_R_implement_53 ?_
                refine lv_iload_n hx hb d_R_implement_54 rfl (lv_at hl 3 rfl) ?_
                refine lv_icmp_ne (tgt := 60) hx hb d_R_implement_55 (by decide) (fun c_16 => ?_) (fun c_16 => ?_)
                · have c_16 : ¬ ((a6 (((4 : Int32) * p1) + x3).toNatClampNeg) = p2) := c_16
                  refine lv_iinc (v := (x3 + (1 : Int32))) (lv' := [(3, .int (x3 + (1 : Int32))), (0, .ref (qa 0)), (1, .int p1), (2, .int p2)]) hx hb d_R_implement_60 hl (k := 0) rfl (by rw [of_p1]) (by decide) rfl (fun ls hl => ?_)
                  refine lv_goto (tgt := 34) hx hb d_R_implement_63 (by decide) ?_
                  exact ih (k + 1) (x3 + (1 : Int32)) _ _ _ (by rw [et]; exact nI_1 k) (by omega) (by first | exact Nat.succ_le_succ (leT hT et h2 (by with_reducible assumption)) | exact Nat.succ_le_succ (Nat.le_trans (Nat.le_of_lt (rltDc hdc et h2 (by with_reducible assumption) (by with_reducible assumption))) (by decide))) (by rw [← hF, lr_R_implement_34_s, if_neg c_7, if_neg c_16]) (by rw [← hG_a6, la6_R_implement_34_s, if_neg c_7, if_neg c_16]) (by rw [← hG_a7, la7_R_implement_34_s, if_neg c_7, if_neg c_16]) hP hD hS (lv_sub hl [0, 1, 2, 3] rfl)
                · have c_16 : (a6 (((4 : Int32) * p1) + x3).toNatClampNeg) = p2 := c_16
                  refine lv_iconst (v := (-1 : Int32)) hx hb d_R_implement_58 (by decide +kernel) ?_
                  have hP9 : va_P (dC, dI) classes (wR ka qa b0 b1 a0 a1 a2 a3 a4 a5 a6 a7 a8 a9 a10 a11 a12) H := hP
                  exact W.iret (v := (-1 : Int32)) hx hb hr (fun t ht hW => ⟨⟨(-1 : Int32), (a6, a7), rfl, ⟨by rw [← hF, lr_R_implement_34_s, if_neg c_7, if_pos c_16], (pr2 (by rw [← hG_a6, la6_R_implement_34_s, if_neg c_7, if_pos c_16]) (by rw [← hG_a7, la7_R_implement_34_s, if_neg c_7, if_pos c_16]))⟩, hp_at ht hP9⟩, hS.F ht⟩) hS.2.2 d_R_implement_59
          exact LOOP_34 14 0 (0 : Int32) _ _ _ (rfl) (by omega) (by omega) (by unfold f_R_implement; rw [if_neg c_1, if_neg c_2, if_neg c_3, if_neg c_5]) (by unfold s_R_implement_a6; rw [if_neg c_1, if_neg c_2, if_neg c_3, if_neg c_5]) (by unfold s_R_implement_a7; rw [if_neg c_1, if_neg c_2, if_neg c_3, if_neg c_5]) hP hD hS (lv_sub hl [0, 1, 2, 3] rfl)
        · have c_5 : (a0 p2.toNatClampNeg) = (0 : Int32) := c_5
          refine lv_iconst (v := (-1 : Int32)) hx hb d_R_implement_30 (by decide +kernel) ?_
          have hP9 : va_P (dC, dI) classes (wR ka qa b0 b1 a0 a1 a2 a3 a4 a5 a6 a7 a8 a9 a10 a11 a12) H := hP
          exact W.iret (v := (-1 : Int32)) hx hb hr (fun t ht hW => ⟨⟨(-1 : Int32), (a6, a7), rfl, ⟨by unfold f_R_implement; rw [if_neg c_1, if_neg c_2, if_neg c_3, if_pos c_5], (pr2 (by unfold s_R_implement_a6; rw [if_neg c_1, if_neg c_2, if_neg c_3, if_pos c_5]) (by unfold s_R_implement_a7; rw [if_neg c_1, if_neg c_2, if_neg c_3, if_pos c_5]))⟩, hp_at ht hP9⟩, hS.F ht⟩) hS.2.2 d_R_implement_31
