set_option maxHeartbeats 1000000 in
set_option maxRecDepth 100000 in
theorem c_R_nest (l : Launch) (dC : Nat → ClassId) (dI : Nat → Nat → Nat) (ka : Nat → ClassId) (qa : Nat → Nat) (sz : Nat) (b0 b1 : Int32) (a0 a1 a2 a3 a4 a5 a6 a7 a8 a9 a10 a11 a12 : Nat → Int32) (p1 p2 : Int32) (hT : vT b0) : Met l y_R_nest w_R_nest ({ frames := 2, cells := 0, slots := 0, locals := 43 } : Room) (mu_P dC dI (wR ka qa b0 b1 a0 a1 a2 a3 a4 a5 a6 a7 a8 a9 a10 a11 a12) (tR ka) sz [.ref (qa 0), .int p1, .int p2]) (mu_Q (fun (S9 : (Nat → Int32)) => (wR ka qa b0 b1 a0 a1 a2 a3 a4 S9 a6 a7 a8 a9 a10 a11 a12)) dC dI (f_R_nest b0 a3 a5 p1 p2) ((s_R_nest_a5 b0 a3 a5 p1 p2)) (va_A (wR ka qa b0 b1 a0 a1 a2 a3 a4 a5 a6 a7 a8 a9 a10 a11 a12) sz)) 0 0 (va_A (wR ka qa b0 b1 a0 a1 a2 a3 a4 a5 a6 a7 a8 a9 a10 a11 a12) sz) := by
  refine Met.ofW (cc := b_R_nest) (maxL := 4) (ret := (some .int)) (by decide) rfl ?_
  intro p e s m args below meth c s₁ B hml hv
  obtain ⟨rfl, hsz, hP, hK, hN, hD0⟩ := hv
  have hx := B.exec
  have hb := B.bytes
  have hr := B.returns
  have hts := tl_of (atoms_spec (ws := w_R_nest) B.pre)
  have hown : s.vm.findClass R_R = some m.cls := findClass_of_methodNamed B.named
  have hlocks := B.notSynchronized
  subst hsz
  have hD := hD0.self (sz := s.heap.size)
  generalize hAe : va_A (wR ka qa b0 b1 a0 a1 a2 a3 a4 a5 a6 a7 a8 a9 a10 a11 a12) s.heap.size = A at hD ⊢
  have hA : ∀ q : Nat, s.heap.size ≤ q → A q := fun q h => by rw [← hAe]; exact Or.inr h
  have hS : va_S A s.heap s.heap [] := va_S.rf
  have hl := lv_entry ([.ref (qa 0), .int p1, .int p2]) (n := 4) (Nat.le_of_ble_eq_true rfl)
  rw [lg_entry_eq]
  generalize (lg_sl ([.ref (qa 0), .int p1, .int p2]) ++ List.replicate (4 - (lg_sl ([.ref (qa 0), .int p1, .int p2])).length) Slot.unset).toArray = ls at hl ⊢
  have hl : lv_has ls 4 [(0, .ref (qa 0)), (1, .int p1), (2, .int p2)] := hl
  refine lv_aload_n hx hb d_R_nest_0 rfl (lv_at hl 0 rfl) ?_
  refine lv_iload_n hx hb d_R_nest_1 rfl (lv_at hl 1 rfl) ?_
  refine va_calli (va_runV (As := [.int p1]) (rest := []) ⟨hx, hb, hml, hown, hts⟩ (c_R_there l dC dI ka qa s.heap.size b0 b1 a0 a1 a2 a3 a4 a5 a6 a7 a8 a9 a10 a11 a12 p1) (cwV 1 hts k_g72 rfl rfl rfl (by decide +kernel) ⟨Nat.le_of_ble_eq_true rfl, Nat.le_of_ble_eq_true rfl⟩) ⟨fb_ro, va_recv hK hP (ci := 3) (q0 := 0) rfl rfl, fun U hU hW => ⟨rfl, by rw [hU], by rw [hU]; exact hP, va_K.moved hW.alike (hK), NX.warm hW hN⟩⟩ rfl rfl hl.1 rfl (lv_room (Nat.le_of_ble_eq_true rfl)) d_R_nest_2 ⟨Nat.zero_le _, Nat.zero_le _⟩) hS (fun z h1 h2 => absurd h1 (Nat.not_lt.mpr h2)) (fun z h => hA z (Nat.le_trans hS.1 h)) (fun r u t H1 locs ht hvm hpo hB hz1 hk1 hS => ?_)
  subst hpo
  have hP := kp_P hP hk1
  generalize H1 = H at hP hS ⊢
  refine lv_if_eq (tgt := 46) hx hb d_R_nest_5 (by decide) (fun c_1 => ?_) (fun c_1 => ?_)
  · have c_1 : (f_R_there b0 p1) = (0 : Int32) := c_1
    refine lv_iconst (v := (-1 : Int32)) hx hb d_R_nest_46 (by decide +kernel) ?_
    have hP9 : va_P (dC, dI) classes (wR ka qa b0 b1 a0 a1 a2 a3 a4 a5 a6 a7 a8 a9 a10 a11 a12) H := hP
    exact W.iret (v := (-1 : Int32)) hx hb hr (fun t ht hW => ⟨⟨(-1 : Int32), (a5), rfl, ⟨by unfold f_R_nest; rw [if_pos c_1], (by unfold s_R_nest_a5; rw [if_pos c_1])⟩, hp_at ht hP9⟩, hS.F ht⟩) hS.2.2 d_R_nest_47
  · have c_1 : ¬ ((f_R_there b0 p1) = (0 : Int32)) := c_1
    refine lv_aload_n hx hb d_R_nest_8 rfl (lv_at hl 0 rfl) ?_
    refine lv_iload_n hx hb d_R_nest_9 rfl (lv_at hl 2 rfl) ?_
    refine va_calli (va_runV (As := [.int p2]) (rest := []) ⟨hx, hb, hml, hown, hts⟩ (c_R_there l dC dI ka qa H.size b0 b1 a0 a1 a2 a3 a4 a5 a6 a7 a8 a9 a10 a11 a12 p2) (cwV 1 hts k_g72 rfl rfl rfl (by decide +kernel) ⟨Nat.le_of_ble_eq_true rfl, Nat.le_of_ble_eq_true rfl⟩) ⟨fb_ro, va_recv hK hP (ci := 3) (q0 := 0) rfl rfl, fun U hU hW => ⟨rfl, by rw [hU], by rw [hU]; exact hP, va_K.moved hW.alike (hK), NX.warm hW hN⟩⟩ rfl rfl hl.1 rfl (lv_room (Nat.le_of_ble_eq_true rfl)) d_R_nest_10 ⟨Nat.zero_le _, Nat.zero_le _⟩) hS (fun z h1 h2 => absurd h1 (Nat.not_lt.mpr h2)) (fun z h => hA z (Nat.le_trans hS.1 h)) (fun r u t H1 locs ht hvm hpo hB hz1 hk1 hS => ?_)
    subst hpo
    have hP := kp_P hP hk1
    generalize H1 = H at hP hS ⊢
    refine lv_if_eq (tgt := 46) hx hb d_R_nest_13 (by decide) (fun c_2 => ?_) (fun c_2 => ?_)
    · have c_2 : (f_R_there b0 p2) = (0 : Int32) := c_2
      refine lv_iconst (v := (-1 : Int32)) hx hb d_R_nest_46 (by decide +kernel) ?_
      have hP9 : va_P (dC, dI) classes (wR ka qa b0 b1 a0 a1 a2 a3 a4 a5 a6 a7 a8 a9 a10 a11 a12) H := hP
      exact W.iret (v := (-1 : Int32)) hx hb hr (fun t ht hW => ⟨⟨(-1 : Int32), (a5), rfl, ⟨by unfold f_R_nest; rw [if_neg c_1, if_pos c_2], (by unfold s_R_nest_a5; rw [if_neg c_1, if_pos c_2])⟩, hp_at ht hP9⟩, hS.F ht⟩) hS.2.2 d_R_nest_47
    · have c_2 : ¬ ((f_R_there b0 p2) = (0 : Int32)) := c_2
      refine lv_iload_n hx hb d_R_nest_16 rfl (lv_at hl 2 rfl) ?_
      refine lv_iload_n hx hb d_R_nest_17 rfl (lv_at hl 1 rfl) ?_
      refine lv_icmp_gt (tgt := 46) hx hb d_R_nest_18 (by decide) (fun c_3 => ?_) (fun c_3 => ?_)
      · have c_3 : p1 < p2 := c_3
        refine lv_iconst (v := (-1 : Int32)) hx hb d_R_nest_46 (by decide +kernel) ?_
        have hP9 : va_P (dC, dI) classes (wR ka qa b0 b1 a0 a1 a2 a3 a4 a5 a6 a7 a8 a9 a10 a11 a12) H := hP
        exact W.iret (v := (-1 : Int32)) hx hb hr (fun t ht hW => ⟨⟨(-1 : Int32), (a5), rfl, ⟨by unfold f_R_nest; rw [if_neg c_1, if_neg c_2, if_pos c_3], (by unfold s_R_nest_a5; rw [if_neg c_1, if_neg c_2, if_pos c_3])⟩, hp_at ht hP9⟩, hS.F ht⟩) hS.2.2 d_R_nest_47
      · have c_3 : ¬ (p1 < p2) := c_3
        refine lv_aload_n hx hb d_R_nest_21 rfl (lv_at hl 0 rfl) ?_
        refine va_get (D := (dC, dI)) (ci := 3) (v := .ref (qa 4)) (C := R_R) (T := F_R) (N := 15) hx hb hts i_R hown hK hP 0 rfl rfl 4 (by decide) (hts _ k_47) (fun _ h9 => h9) rfl d_R_nest_22 ?_
        refine lv_iload_n hx hb d_R_nest_25 rfl (lv_at hl 1 rfl) ?_
        have hi_4 : vp_in p1 13 := by first | with_reducible assumption | exact rin_has hT (by with_reducible assumption)
        refine va_iald (D := (dC, dI)) (f := a3) hx hb hK hP 4 3 rfl rfl hi_4 d_R_nest_26 ?_
        refine lv_aload_n hx hb d_R_nest_27 rfl (lv_at hl 0 rfl) ?_
        refine va_get (D := (dC, dI)) (ci := 3) (v := .ref (qa 4)) (C := R_R) (T := F_R) (N := 15) hx hb hts i_R hown hK hP 0 rfl rfl 4 (by decide) (hts _ k_47) (fun _ h9 => h9) rfl d_R_nest_28 ?_
        refine lv_iload_n hx hb d_R_nest_31 rfl (lv_at hl 2 rfl) ?_
        have hi_5 : vp_in p2 13 := by first | with_reducible assumption | exact rin_has hT (by with_reducible assumption)
        refine va_iald (D := (dC, dI)) (f := a3) hx hb hK hP 4 3 rfl rfl hi_5 d_R_nest_32 ?_
        refine lv_icmp_ne (tgt := 46) hx hb d_R_nest_33 (by decide) (fun c_6 => ?_) (fun c_6 => ?_)
        · have c_6 : ¬ ((a3 p1.toNatClampNeg) = (a3 p2.toNatClampNeg)) := c_6
          refine lv_iconst (v := (-1 : Int32)) hx hb d_R_nest_46 (by decide +kernel) ?_
          have hP9 : va_P (dC, dI) classes (wR ka qa b0 b1 a0 a1 a2 a3 a4 a5 a6 a7 a8 a9 a10 a11 a12) H := hP
          exact W.iret (v := (-1 : Int32)) hx hb hr (fun t ht hW => ⟨⟨(-1 : Int32), (a5), rfl, ⟨by unfold f_R_nest; rw [if_neg c_1, if_neg c_2, if_neg c_3, if_neg c_6], (by unfold s_R_nest_a5; rw [if_neg c_1, if_neg c_2, if_neg c_3, if_neg c_6])⟩, hp_at ht hP9⟩, hS.F ht⟩) hS.2.2 d_R_nest_47
        · have c_6 : (a3 p1.toNatClampNeg) = (a3 p2.toNatClampNeg) := c_6
          refine lv_aload_n hx hb d_R_nest_36 rfl (lv_at hl 0 rfl) ?_
          refine va_get (D := (dC, dI)) (ci := 3) (v := .ref (qa 6)) (C := R_R) (T := F_R) (N := 15) hx hb hts i_R hown hK hP 0 rfl rfl 6 (by decide) (hts _ k_48) (fun _ h9 => h9) rfl d_R_nest_37 ?_
          refine lv_iload_n hx hb d_R_nest_40 rfl (lv_at hl 2 rfl) ?_
          have hi_7 : vp_in p2 13 := by first | with_reducible assumption | exact rin_has hT (by with_reducible assumption)
          refine va_iald (D := (dC, dI)) (f := a5) hx hb hK hP 6 5 rfl rfl hi_7 d_R_nest_41 ?_
          refine lv_iload_n hx hb d_R_nest_42 rfl (lv_at hl 2 rfl) ?_
          refine lv_icmp_eq (tgt := 48) hx hb d_R_nest_43 (by decide) (fun c_8 => ?_) (fun c_8 => ?_)
          · have c_8 : (a5 p2.toNatClampNeg) = p2 := c_8
            refine lv_iconst (v := (1 : Int32)) hx hb d_R_nest_48 (by decide +kernel) ?_
            refine lv_istore_n (lv' := [(3, .int (1 : Int32)), (0, .ref (qa 0)), (1, .int p1), (2, .int p2)]) hx hb d_R_nest_49 rfl hl (by decide) rfl (fun ls hl => ?_)
            have LOOP_50 : ∀ (n k : Nat) (x3 : Int32) (H : Heap) (locs : List Loc) (ls : Array Slot), x3 = nI k → 14 ≤ k + n → k ≤ 13 → lr_R_nest_50 b0 a3 a5 p1 p2  n x3 = (f_R_nest b0 a3 a5 p1 p2) → la5_R_nest_50 b0 a3 a5 p1 p2  n x3 = (s_R_nest_a5 b0 a3 a5 p1 p2) → va_P (dC, dI) classes (wR ka qa b0 b1 a0 a1 a2 a3 a4 a5 a6 a7 a8 a9 a10 a11 a12) H → va_D A (wR ka qa b0 b1 a0 a1 a2 a3 a4 a5 a6 a7 a8 a9 a10 a11 a12) → va_S A s.heap H locs → lv_has ls 4 [(3, .int x3), (0, .ref (qa 0)), (1, .int p1), (2, .int p2)] → W p l e (headSpec w_R_nest ({ frames := 2, cells := 0, slots := 0, locals := 43 } : Room)).room s m ([.ref (qa 0), .int p1, .int p2] : List Value).toArray below meth c H locs 0 0 (MQ below (mu_Q (fun (S9 : (Nat → Int32)) => (wR ka qa b0 b1 a0 a1 a2 a3 a4 S9 a6 a7 a8 a9 a10 a11 a12)) dC dI (f_R_nest b0 a3 a5 p1 p2) ((s_R_nest_a5 b0 a3 a5 p1 p2)) (A)) ([.ref (qa 0), .int p1, .int p2] : List Value).toArray s 0 0 A) (F0 m 50 ls []) := by
              intro n
              induction n with
              | zero =>
                intro k x3 H locs ls et h1 h2
                exfalso; omega
              | succ n ih =>
                intro k x3 H locs ls et h1 h2 hF hG_a5 hP hD hS hl
                refine lv_iload_n hx hb d_R_nest_50 rfl (lv_at hl 0 rfl) ?_
                refine lv_aload_n hx hb d_R_nest_51 rfl (lv_at hl 1 rfl) ?_
                refine va_get (D := (dC, dI)) (ci := 3) (v := .int b0) (C := R_R) (T := F_R) (N := 15) hx hb hts i_R hown hK hP 0 rfl rfl 0 (by decide) (hts _ k_44) (fun _ h9 => h9) rfl d_R_nest_52 ?_
                refine lv_icmp_gt (tgt := 81) hx hb d_R_nest_55 (by decide) (fun c_9 => ?_) (fun c_9 => ?_)
                · have c_9 : b0 < x3 := c_9
                  refine lv_aload_n hx hb d_R_nest_81 rfl (lv_at hl 1 rfl) ?_
                  refine va_get (D := (dC, dI)) (ci := 3) (v := .ref (qa 6)) (C := R_R) (T := F_R) (N := 15) hx hb hts i_R hown hK hP 0 rfl rfl 6 (by decide) (hts _ k_48) (fun _ h9 => h9) rfl d_R_nest_82 ?_
                  refine lv_iload_n hx hb d_R_nest_85 rfl (lv_at hl 2 rfl) ?_
                  refine lv_iload_n hx hb d_R_nest_86 rfl (lv_at hl 3 rfl) ?_
                  have hi_10 : vp_in p1 13 := by first | with_reducible assumption | exact rin_has hT (by with_reducible assumption)
                  refine va_iast (D := (dC, dI)) (f := a5) hx hb hK hP hD hS 6 5 rfl rfl hi_10 d_R_nest_87 (fun H locs hP hD hS => ?_)
                  have hP : va_P (dC, dI) classes (wR ka qa b0 b1 a0 a1 a2 a3 a4 (upd a5 p1.toNatClampNeg p2) a6 a7 a8 a9 a10 a11 a12) H := hP
                  have hD : va_D A (wR ka qa b0 b1 a0 a1 a2 a3 a4 (upd a5 p1.toNatClampNeg p2) a6 a7 a8 a9 a10 a11 a12) := hD
                  refine lv_iconst (v := (0 : Int32)) hx hb d_R_nest_88 (by decide +kernel) ?_
                  have hP9 : va_P (dC, dI) classes (wR ka qa b0 b1 a0 a1 a2 a3 a4 (upd a5 p1.toNatClampNeg p2) a6 a7 a8 a9 a10 a11 a12) H := hP
                  exact W.iret (v := (0 : Int32)) hx hb hr (fun t ht hW => ⟨⟨(0 : Int32), ((upd a5 p1.toNatClampNeg p2)), rfl, ⟨by rw [← hF, lr_R_nest_50_s, if_pos c_9], (by rw [← hG_a5, la5_R_nest_50_s, if_pos c_9])⟩, hp_at ht hP9⟩, hS.F ht⟩) hS.2.2 d_R_nest_89
                · have c_9 : ¬ (b0 < x3) := c_9
                  refine lv_iload_n hx hb d_R_nest_58 rfl (lv_at hl 0 rfl) ?_
                  refine lv_iload_n hx hb d_R_nest_59 rfl (lv_at hl 2 rfl) ?_
                  refine lv_icmp_eq (tgt := 75) hx hb d_R_nest_60 (by decide) (fun c_11 => ?_) (fun c_11 => ?_)
                  · have c_11 : x3 = p1 := c_11
                    refine lv_iinc (v := (x3 + (1 : Int32))) (lv' := [(3, .int (x3 + (1 : Int32))), (0, .ref (qa 0)), (1, .int p1), (2, .int p2)]) hx hb d_R_nest_75 hl (k := 0) rfl (by rw [of_p1]) (by decide) rfl (fun ls hl => ?_)
                    refine lv_goto (tgt := 50) hx hb d_R_nest_78 (by decide) ?_
                    exact ih (k + 1) (x3 + (1 : Int32)) _ _ _ (by rw [et]; exact nI_1 k) (by omega) (by first | exact Nat.succ_le_succ (leT hT et h2 (by with_reducible assumption)) | exact Nat.succ_le_succ (Nat.le_trans (Nat.le_of_lt (rltDc hdc et h2 (by with_reducible assumption) (by with_reducible assumption))) (by decide))) (by rw [← hF, lr_R_nest_50_s, if_neg c_9, if_pos c_11]) (by rw [← hG_a5, la5_R_nest_50_s, if_neg c_9, if_pos c_11]) hP hD hS (lv_sub hl [0, 1, 2, 3] rfl)
                  · have c_11 : ¬ (x3 = p1) := c_11
                    refine lv_aload_n hx hb d_R_nest_63 rfl (lv_at hl 1 rfl) ?_
                    refine va_get (D := (dC, dI)) (ci := 3) (v := .ref (qa 6)) (C := R_R) (T := F_R) (N := 15) hx hb hts i_R hown hK hP 0 rfl rfl 6 (by decide) (hts _ k_48) (fun _ h9 => h9) rfl d_R_nest_64 ?_
                    refine lv_iload_n hx hb d_R_nest_67 rfl (lv_at hl 0 rfl) ?_
                    have hi_12 : vp_in x3 13 := by first | with_reducible assumption | exact in_et et (leT hT et h2 (by with_reducible assumption)) | exact in_et et h2 | exact in_et eu (leT hT eu u2 (by with_reducible assumption)) | exact in_et eu u2
                    refine va_iald (D := (dC, dI)) (f := a5) hx hb hK hP 6 5 rfl rfl hi_12 d_R_nest_68 ?_
                    refine lv_iload_n hx hb d_R_nest_69 rfl (lv_at hl 2 rfl) ?_
                    refine lv_icmp_ne (tgt := 75) hx hb d_R_nest_70 (by decide) (fun c_13 => ?_) (fun c_13 => ?_)
                    · have c_13 : ¬ ((a5 x3.toNatClampNeg) = p1) := c_13
                      refine lv_iinc (v := (x3 + (1 : Int32))) (lv' := [(3, .int (x3 + (1 : Int32))), (0, .ref (qa 0)), (1, .int p1), (2, .int p2)]) hx hb d_R_nest_75 hl (k := 0) rfl (by rw [of_p1]) (by decide) rfl (fun ls hl => ?_)
                      refine lv_goto (tgt := 50) hx hb d_R_nest_78 (by decide) ?_
                      exact ih (k + 1) (x3 + (1 : Int32)) _ _ _ (by rw [et]; exact nI_1 k) (by omega) (by first | exact Nat.succ_le_succ (leT hT et h2 (by with_reducible assumption)) | exact Nat.succ_le_succ (Nat.le_trans (Nat.le_of_lt (rltDc hdc et h2 (by with_reducible assumption) (by with_reducible assumption))) (by decide))) (by rw [← hF, lr_R_nest_50_s, if_neg c_9, if_neg c_11, if_neg c_13]) (by rw [← hG_a5, la5_R_nest_50_s, if_neg c_9, if_neg c_11, if_neg c_13]) hP hD hS (lv_sub hl [0, 1, 2, 3] rfl)
                    · have c_13 : (a5 x3.toNatClampNeg) = p1 := c_13
                      refine lv_iconst (v := (-1 : Int32)) hx hb d_R_nest_73 (by decide +kernel) ?_
                      have hP9 : va_P (dC, dI) classes (wR ka qa b0 b1 a0 a1 a2 a3 a4 a5 a6 a7 a8 a9 a10 a11 a12) H := hP
                      exact W.iret (v := (-1 : Int32)) hx hb hr (fun t ht hW => ⟨⟨(-1 : Int32), (a5), rfl, ⟨by rw [← hF, lr_R_nest_50_s, if_neg c_9, if_neg c_11, if_pos c_13], (by rw [← hG_a5, la5_R_nest_50_s, if_neg c_9, if_neg c_11, if_pos c_13])⟩, hp_at ht hP9⟩, hS.F ht⟩) hS.2.2 d_R_nest_74
            exact LOOP_50 14 1 (1 : Int32) _ _ _ (rfl) (by omega) (by omega) (by unfold f_R_nest; rw [if_neg c_1, if_neg c_2, if_neg c_3, if_pos c_6, if_pos c_8]) (by unfold s_R_nest_a5; rw [if_neg c_1, if_neg c_2, if_neg c_3, if_pos c_6, if_pos c_8]) hP hD hS (lv_sub hl [0, 1, 2, 3] rfl)
          · have c_8 : ¬ ((a5 p2.toNatClampNeg) = p2) := c_8
            refine lv_iconst (v := (-1 : Int32)) hx hb d_R_nest_46 (by decide +kernel) ?_
            have hP9 : va_P (dC, dI) classes (wR ka qa b0 b1 a0 a1 a2 a3 a4 a5 a6 a7 a8 a9 a10 a11 a12) H := hP
            exact W.iret (v := (-1 : Int32)) hx hb hr (fun t ht hW => ⟨⟨(-1 : Int32), (a5), rfl, ⟨by unfold f_R_nest; rw [if_neg c_1, if_neg c_2, if_neg c_3, if_pos c_6, if_neg c_8], (by unfold s_R_nest_a5; rw [if_neg c_1, if_neg c_2, if_neg c_3, if_pos c_6, if_neg c_8])⟩, hp_at ht hP9⟩, hS.F ht⟩) hS.2.2 d_R_nest_47
