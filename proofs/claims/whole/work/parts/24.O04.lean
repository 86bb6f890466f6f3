set_option maxHeartbeats 1000000 in
set_option maxRecDepth 100000 in
theorem c_O_overridesOneOf (l : Launch) (dC : Nat → ClassId) (dI : Nat → Nat → Nat) (h0 : Nat) (kw kf km : Nat → ClassId) (qw qf qm : Nat → Nat) (sz : Nat) (v : ES) (lc : Int32) (p1 p2 p3 : Int32) (hp1 : vp_in p1 13) (hp3 : vp_in p3 4) : Met l y_O_overridesOneOf w_O_overridesOneOf ({ frames := 2, cells := 0, slots := 0, locals := 45 } : Room) (ro_P dC dI (wO h0 kw kf km qw qf qm v lc) (tO kw kf km) sz [.ref h0, .int p1, .int p2, .int p3]) (ro_Q sz (f_O_overridesOneOf v p1 p2 p3)) 0 0 (fun z => sz ≤ z) := by
  refine Met.ofW (cc := b_O_overridesOneOf) (maxL := 5) (ret := (some .boolean)) (by decide) rfl ?_
  intro p e s m args below meth c s₁ B hml hv
  obtain ⟨rfl, hsz, hP, hK, hN⟩ := hv
  have hx := B.exec
  have hb := B.bytes
  have hr := B.returns
  have hts := tl_of (atoms_spec (ws := w_O_overridesOneOf) B.pre)
  have hown : s.vm.findClass R_O = some m.cls := findClass_of_methodNamed B.named
  have hlocks := B.notSynchronized
  subst hsz
  have hA : ∀ z : Nat, s.heap.size ≤ z → (fun z : Nat => s.heap.size ≤ z) z := fun _ h => h
  have hS : va_S (fun z : Nat => s.heap.size ≤ z) s.heap s.heap [] := va_S.rf
  have hl := lv_entry ([.ref h0, .int p1, .int p2, .int p3]) (n := 5) (Nat.le_of_ble_eq_true rfl)
  rw [lg_entry_eq]
  generalize (lg_sl ([.ref h0, .int p1, .int p2, .int p3]) ++ List.replicate (5 - (lg_sl ([.ref h0, .int p1, .int p2, .int p3])).length) Slot.unset).toArray = ls at hl ⊢
  have hl : lv_has ls 5 [(0, .ref h0), (1, .int p1), (2, .int p2), (3, .int p3)] := hl
  refine lv_iconst (v := (1 : Int32)) hx hb d_O_overridesOneOf_0 (by decide +kernel) ?_
  refine lv_istore (lv' := [(4, .int (1 : Int32)), (0, .ref h0), (1, .int p1), (2, .int p2), (3, .int p3)]) hx hb d_O_overridesOneOf_1 hl (by decide) rfl (fun ls hl => ?_)
  have LOOP : ∀ (n k : Nat) (x4 : Int32) (H : Heap) (locs : List Loc) (ls : Array Slot), x4 = nI k → 14 ≤ k + n → k ≤ 13 → lr_O_overridesOneOf v p1 p2 p3 n x4 = (f_O_overridesOneOf v p1 p2 p3) → va_P (dC, dI) classes (wO h0 kw kf km qw qf qm v lc) H → va_S (fun z : Nat => s.heap.size ≤ z) s.heap H locs → lv_has ls 5 [(4, .int x4), (0, .ref h0), (1, .int p1), (2, .int p2), (3, .int p3)] → W p l e (headSpec w_O_overridesOneOf ({ frames := 2, cells := 0, slots := 0, locals := 45 } : Room)).room s m ([.ref h0, .int p1, .int p2, .int p3] : List Value).toArray below meth c H locs 0 0 (MQ below (ro_Q s.heap.size (f_O_overridesOneOf v p1 p2 p3)) ([.ref h0, .int p1, .int p2, .int p3] : List Value).toArray s 0 0 (fun z => s.heap.size ≤ z)) (F0 m 3 ls []) := by
    intro n
    induction n with
    | zero =>
      intro k x4 H locs ls et h1 h2
      exfalso; omega
    | succ n ih =>
      intro k x4 H locs ls et h1 h2 hF hP hS hl
      refine lv_iload hx hb d_O_overridesOneOf_3 (lv_at hl 0 rfl) ?_
      refine lv_iload_n hx hb d_O_overridesOneOf_5 rfl (lv_at hl 2 rfl) ?_
      refine lv_icmp_ge (tgt := 37) hx hb d_O_overridesOneOf_6 (by decide) (fun c_1 => ?_) (fun c_1 => ?_)
      · have c_1 : p1 ≤ x4 := c_1
        refine lv_iconst (v := (0 : Int32)) hx hb d_O_overridesOneOf_37 (by decide +kernel) ?_
        exact W.zret (v := (0 : Int32)) hx hb hr (by decide +kernel) (fun t ht hW => ⟨⟨(0 : Int32), (), rfl, by rw [← hF, lr_O_overridesOneOf_s, if_pos c_1], trivial⟩, hS.F ht⟩) hS.2.2 d_O_overridesOneOf_38
      · have c_1 : ¬ (p1 ≤ x4) := c_1
        refine lv_iload_n hx hb d_O_overridesOneOf_9 rfl (lv_at hl 3 rfl) ?_
        refine lv_iload hx hb d_O_overridesOneOf_10 (lv_at hl 0 rfl) ?_
        refine va_calli (va_runS (As := [.int p2, .int x4]) (rest := []) ⟨hx, hb, hml, hown, hts⟩ (c_O_holds l dC dI  H.size   p2 x4) (cwS 2 hts k_g0 rfl rfl rfl (by decide +kernel) ⟨Nat.le_of_ble_eq_true rfl, Nat.le_of_ble_eq_true rfl⟩) ⟨fb_ro, fun U hU hW => ⟨rfl, by rw [hU], by rw [hU]; exact hP.sub (ws' := ([] : va_W)) [] rfl, va_K.moved hW.alike (hK.sub (tys' := []) [] rfl), NX.warm hW hN⟩⟩ rfl rfl hl.1 rfl (lv_room (Nat.le_of_ble_eq_true rfl)) d_O_overridesOneOf_12 ⟨Nat.zero_le _, Nat.zero_le _⟩) hS (fun z h1 h2 => absurd h1 (Nat.not_lt.mpr h2)) (fun z h => hA z (Nat.le_trans hS.1 h)) (fun r u t H1 locs ht hvm hpo hB hz1 hk1 hS => ?_)
        subst hpo
        have hP := kp_P hP hk1
        generalize H1 = H at hP hS ⊢
        refine lv_if_eq (tgt := 31) hx hb d_O_overridesOneOf_15 (by decide) (fun c_2 => ?_) (fun c_2 => ?_)
        · have c_2 : (f_O_holds p2 x4) = (0 : Int32) := c_2
          refine lv_iinc (v := (x4 + (1 : Int32))) (lv' := [(4, .int (x4 + (1 : Int32))), (0, .ref h0), (1, .int p1), (2, .int p2), (3, .int p3)]) hx hb d_O_overridesOneOf_31 hl (k := 0) rfl (by rw [of_p1]) (by decide) rfl (fun ls hl => ?_)
          refine lv_goto (tgt := 3) hx hb d_O_overridesOneOf_34 (by decide) ?_
          exact ih (k + 1) (x4 + (1 : Int32)) _ _ _ (by rw [et]; exact nI_1 k) (by omega) (by first | exact Nat.succ_le_succ (le12 et h2 (by with_reducible assumption)) | exact Nat.succ_le_succ (lt12 et h2 (by with_reducible assumption)) | exact Nat.succ_le_succ (leCnt hw et h2 (by with_reducible assumption)) | exact Nat.succ_le_succ (Nat.le_trans (Nat.le_of_lt (ltDc hw et h2 (by with_reducible assumption) (by with_reducible assumption))) (by decide)) | exact Nat.succ_le_succ (lePar et h2 (by with_reducible assumption) (by with_reducible assumption)) | exact Nat.succ_le_succ (ltPar et h2 (by with_reducible assumption) (by with_reducible assumption))) (by rw [← hF, lr_O_overridesOneOf_s, if_neg c_1, if_pos c_2]) hP hS (lv_sub hl [0, 1, 2, 3, 4] rfl)
        · have c_2 : ¬ ((f_O_holds p2 x4) = (0 : Int32)) := c_2
          refine lv_aload_n hx hb d_O_overridesOneOf_18 rfl (lv_at hl 1 rfl) ?_
          refine lv_iload_n hx hb d_O_overridesOneOf_19 rfl (lv_at hl 2 rfl) ?_
          refine lv_iload hx hb d_O_overridesOneOf_20 (lv_at hl 0 rfl) ?_
          refine lv_iload_n hx hb d_O_overridesOneOf_22 rfl (lv_at hl 4 rfl) ?_
          have hq_3 : vp_in p1 13 := by first | with_reducible assumption | exact in_has hw (by with_reducible assumption) | exact in_cls hw (by with_reducible assumption) | exact in_ifc hw (by with_reducible assumption) | exact in_ext hw (by with_reducible assumption) | exact in_eq0 (by with_reducible assumption) | exact hfd (by with_reducible assumption) | exact in_rcv hw (by with_reducible assumption) (Or.inl (by with_reducible assumption)) | exact in_rcv hw (by with_reducible assumption) (Or.inr (by with_reducible assumption))
          have hq_4 : vp_in x4 13 := by first | with_reducible assumption | exact in_et et (le12 et h2 (by with_reducible assumption)) | exact in_et et (lt12 et h2 (by with_reducible assumption)) | exact in_et et (leCnt hw et h2 (by with_reducible assumption)) | exact in_et et (lePar et h2 (by with_reducible assumption) (by with_reducible assumption)) | exact in_et et (ltPar et h2 (by with_reducible assumption) (by with_reducible assumption)) | exact in_et et h2
          have hq_5 : vp_in p3 4 := by first | with_reducible assumption | exact in_name (by with_reducible assumption) | exact in4_4 (by with_reducible assumption) | exact in4_5 (by with_reducible assumption) | exact in4_6 (by with_reducible assumption) | exact in4_7 (by with_reducible assumption)
          refine va_calli (va_runV (As := [.int p1, .int x4, .int p3]) (rest := []) ⟨hx, hb, hml, hown, hts⟩ (c_O_overridesAtOnce l dC dI h0 kw kf km qw qf qm H.size v lc p1 x4 p3 hq_3 hq_4 hq_5) (cwV 3 hts k_g19 rfl rfl rfl (by decide +kernel) ⟨Nat.le_of_ble_eq_true rfl, Nat.le_of_ble_eq_true rfl⟩) ⟨fb_ro, va_recv hK hP (ci := 2) (q0 := 0) rfl rfl, fun U hU hW => ⟨rfl, by rw [hU], by rw [hU]; exact hP.sub (ws' := (wO h0 kw kf km qw qf qm v lc)) [0, 1, 2, 3, 4, 5, 6, 7, 8, 9, 10, 11, 12, 13, 14, 15, 16, 17, 18, 19] rfl, va_K.moved hW.alike (hK.sub (tys' := (tO kw kf km)) [0, 1, 2, 3, 4, 5, 6, 7, 8, 9, 10, 11, 12, 13, 14, 15] rfl), NX.warm hW hN⟩⟩ rfl rfl hl.1 rfl (lv_room (Nat.le_of_ble_eq_true rfl)) d_O_overridesOneOf_23 ⟨Nat.zero_le _, Nat.zero_le _⟩) hS (fun z h1 h2 => absurd h1 (Nat.not_lt.mpr h2)) (fun z h => hA z (Nat.le_trans hS.1 h)) (fun r u t H1 locs ht hvm hpo hB hz1 hk1 hS => ?_)
          subst hpo
          have hP := kp_P hP hk1
          generalize H1 = H at hP hS ⊢
          refine lv_if_eq (tgt := 31) hx hb d_O_overridesOneOf_26 (by decide) (fun c_6 => ?_) (fun c_6 => ?_)
          · have c_6 : (f_O_overridesAtOnce v p1 x4 p3) = (0 : Int32) := c_6
            refine lv_iinc (v := (x4 + (1 : Int32))) (lv' := [(4, .int (x4 + (1 : Int32))), (0, .ref h0), (1, .int p1), (2, .int p2), (3, .int p3)]) hx hb d_O_overridesOneOf_31 hl (k := 0) rfl (by rw [of_p1]) (by decide) rfl (fun ls hl => ?_)
            refine lv_goto (tgt := 3) hx hb d_O_overridesOneOf_34 (by decide) ?_
            exact ih (k + 1) (x4 + (1 : Int32)) _ _ _ (by rw [et]; exact nI_1 k) (by omega) (by first | exact Nat.succ_le_succ (le12 et h2 (by with_reducible assumption)) | exact Nat.succ_le_succ (lt12 et h2 (by with_reducible assumption)) | exact Nat.succ_le_succ (leCnt hw et h2 (by with_reducible assumption)) | exact Nat.succ_le_succ (Nat.le_trans (Nat.le_of_lt (ltDc hw et h2 (by with_reducible assumption) (by with_reducible assumption))) (by decide)) | exact Nat.succ_le_succ (lePar et h2 (by with_reducible assumption) (by with_reducible assumption)) | exact Nat.succ_le_succ (ltPar et h2 (by with_reducible assumption) (by with_reducible assumption))) (by rw [← hF, lr_O_overridesOneOf_s, if_neg c_1, if_neg c_2, if_pos c_6]) hP hS (lv_sub hl [0, 1, 2, 3, 4] rfl)
          · have c_6 : ¬ ((f_O_overridesAtOnce v p1 x4 p3) = (0 : Int32)) := c_6
            refine lv_iconst (v := (1 : Int32)) hx hb d_O_overridesOneOf_29 (by decide +kernel) ?_
            exact W.zret (v := (1 : Int32)) hx hb hr (by decide +kernel) (fun t ht hW => ⟨⟨(1 : Int32), (), rfl, by rw [← hF, lr_O_overridesOneOf_s, if_neg c_1, if_neg c_2, if_neg c_6], trivial⟩, hS.F ht⟩) hS.2.2 d_O_overridesOneOf_30
  exact LOOP 14 1 (1 : Int32) _ _ _ (rfl) (by omega) (by omega) (rfl) hP hS (lv_sub hl [0, 1, 2, 3, 4] rfl)
