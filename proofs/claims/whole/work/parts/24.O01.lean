set_option maxHeartbeats 1000000 in
set_option maxRecDepth 100000 in
theorem c_O_maximalSet (l : Launch) (dC : Nat → ClassId) (dI : Nat → Nat → Nat) (h0 : Nat) (kw kf km : Nat → ClassId) (qw qf qm : Nat → Nat) (sz : Nat) (v : ES) (lc : Int32) (p1 p2 : Int32) (hp1 : vp_in p1 13) (hp2 : vp_in p2 4) : Met l y_O_maximalSet w_O_maximalSet ({ frames := 2, cells := 0, slots := 0, locals := 43 } : Room) (ro_P dC dI (wO h0 kw kf km qw qf qm v lc) (tO kw kf km) sz [.ref h0, .int p1, .int p2]) (ro_Q sz (f_O_maximalSet v p1 p2)) 0 0 (fun z => sz ≤ z) := by
  refine Met.ofW (cc := b_O_maximalSet) (maxL := 6) (ret := (some .int)) (by decide) rfl ?_
  intro p e s m args below meth c s₁ B hml hv
  obtain ⟨rfl, hsz, hP, hK, hN⟩ := hv
  have hx := B.exec
  have hb := B.bytes
  have hr := B.returns
  have hts := tl_of (atoms_spec (ws := w_O_maximalSet) B.pre)
  have hown : s.vm.findClass R_O = some m.cls := findClass_of_methodNamed B.named
  have hlocks := B.notSynchronized
  subst hsz
  have hA : ∀ z : Nat, s.heap.size ≤ z → (fun z : Nat => s.heap.size ≤ z) z := fun _ h => h
  have hS : va_S (fun z : Nat => s.heap.size ≤ z) s.heap s.heap [] := va_S.rf
  have hl := lv_entry ([.ref h0, .int p1, .int p2]) (n := 6) (Nat.le_of_ble_eq_true rfl)
  rw [lg_entry_eq]
  generalize (lg_sl ([.ref h0, .int p1, .int p2]) ++ List.replicate (6 - (lg_sl ([.ref h0, .int p1, .int p2])).length) Slot.unset).toArray = ls at hl ⊢
  have hl : lv_has ls 6 [(0, .ref h0), (1, .int p1), (2, .int p2)] := hl
  refine lv_aload_n hx hb d_O_maximalSet_0 rfl (lv_at hl 0 rfl) ?_
  refine lv_iload_n hx hb d_O_maximalSet_1 rfl (lv_at hl 1 rfl) ?_
  refine lv_iload_n hx hb d_O_maximalSet_2 rfl (lv_at hl 2 rfl) ?_
  have hq_1 : vp_in p1 13 := by first | with_reducible assumption | exact in_has hw (by with_reducible assumption) | exact in_cls hw (by with_reducible assumption) | exact in_ifc hw (by with_reducible assumption) | exact in_ext hw (by with_reducible assumption) | exact in_eq0 (by with_reducible assumption) | exact hfd (by with_reducible assumption) | exact in_rcv hw (by with_reducible assumption) (Or.inl (by with_reducible assumption)) | exact in_rcv hw (by with_reducible assumption) (Or.inr (by with_reducible assumption))
  have hq_2 : vp_in p2 4 := by first | with_reducible assumption | exact in_name (by with_reducible assumption) | exact in4_4 (by with_reducible assumption) | exact in4_5 (by with_reducible assumption) | exact in4_6 (by with_reducible assumption) | exact in4_7 (by with_reducible assumption)
  refine va_calli (va_runV (As := [.int p1, .int p2]) (rest := []) ⟨hx, hb, hml, hown, hts⟩ (c_O_interfaceMethods l dC dI h0 kw kf km qw qf qm s.heap.size v lc p1 p2 hq_1 hq_2) (cwV 2 hts k_g12 rfl rfl rfl (by decide +kernel) ⟨Nat.le_of_ble_eq_true rfl, Nat.le_of_ble_eq_true rfl⟩) ⟨fb_ro, va_recv hK hP (ci := 2) (q0 := 0) rfl rfl, fun U hU hW => ⟨rfl, by rw [hU], by rw [hU]; exact hP.sub (ws' := (wO h0 kw kf km qw qf qm v lc)) [0, 1, 2, 3, 4, 5, 6, 7, 8, 9, 10, 11, 12, 13, 14, 15, 16, 17, 18, 19] rfl, va_K.moved hW.alike (hK.sub (tys' := (tO kw kf km)) [0, 1, 2, 3, 4, 5, 6, 7, 8, 9, 10, 11, 12, 13, 14, 15] rfl), NX.warm hW hN⟩⟩ rfl rfl hl.1 rfl (lv_room (Nat.le_of_ble_eq_true rfl)) d_O_maximalSet_3 ⟨Nat.zero_le _, Nat.zero_le _⟩) hS (fun z h1 h2 => absurd h1 (Nat.not_lt.mpr h2)) (fun z h => hA z (Nat.le_trans hS.1 h)) (fun r u t H1 locs ht hvm hpo hB hz1 hk1 hS => ?_)
  subst hpo
  have hP := kp_P hP hk1
  generalize H1 = H at hP hS ⊢
  refine lv_istore_n (lv' := [(3, .int (f_O_interfaceMethods v p1 p2)), (0, .ref h0), (1, .int p1), (2, .int p2)]) hx hb d_O_maximalSet_6 rfl hl (by decide) rfl (fun ls hl => ?_)
  refine lv_iload_n hx hb d_O_maximalSet_7 rfl (lv_at hl 0 rfl) ?_
  refine lv_istore (lv' := [(4, .int (f_O_interfaceMethods v p1 p2)), (3, .int (f_O_interfaceMethods v p1 p2)), (0, .ref h0), (1, .int p1), (2, .int p2)]) hx hb d_O_maximalSet_8 hl (by decide) rfl (fun ls hl => ?_)
  refine lv_iconst (v := (1 : Int32)) hx hb d_O_maximalSet_10 (by decide +kernel) ?_
  refine lv_istore (lv' := [(5, .int (1 : Int32)), (4, .int (f_O_interfaceMethods v p1 p2)), (3, .int (f_O_interfaceMethods v p1 p2)), (0, .ref h0), (1, .int p1), (2, .int p2)]) hx hb d_O_maximalSet_11 hl (by decide) rfl (fun ls hl => ?_)
  have LOOP : ∀ (n k : Nat) (x4 : Int32) (x5 : Int32) (H : Heap) (locs : List Loc) (ls : Array Slot), x5 = nI k → 14 ≤ k + n → k ≤ 13 → lr_O_maximalSet v p1 p2 n x4 x5 = (f_O_maximalSet v p1 p2) → va_P (dC, dI) classes (wO h0 kw kf km qw qf qm v lc) H → va_S (fun z : Nat => s.heap.size ≤ z) s.heap H locs → lv_has ls 6 [(4, .int x4), (5, .int x5), (3, .int (f_O_interfaceMethods v p1 p2)), (0, .ref h0), (1, .int p1), (2, .int p2)] → W p l e (headSpec w_O_maximalSet ({ frames := 2, cells := 0, slots := 0, locals := 43 } : Room)).room s m ([.ref h0, .int p1, .int p2] : List Value).toArray below meth c H locs 0 0 (MQ below (ro_Q s.heap.size (f_O_maximalSet v p1 p2)) ([.ref h0, .int p1, .int p2] : List Value).toArray s 0 0 (fun z => s.heap.size ≤ z)) (F0 m 13 ls []) := by
    intro n
    induction n with
    | zero =>
      intro k x4 x5 H locs ls et h1 h2
      exfalso; omega
    | succ n ih =>
      intro k x4 x5 H locs ls et h1 h2 hF hP hS hl
      refine lv_iload hx hb d_O_maximalSet_13 (lv_at hl 1 rfl) ?_
      refine lv_bipush (v := (12 : Int32)) hx hb d_O_maximalSet_15 (by decide +kernel) ?_
      refine lv_icmp_gt (tgt := 51) hx hb d_O_maximalSet_17 (by decide) (fun c_3 => ?_) (fun c_3 => ?_)
      · have c_3 : (12 : Int32) < x5 := c_3
        refine lv_iload hx hb d_O_maximalSet_51 (lv_at hl 0 rfl) ?_
        exact W.iret (v := x4) hx hb hr (fun t ht hW => ⟨⟨x4, (), rfl, by rw [← hF, lr_O_maximalSet_s, if_pos c_3], trivial⟩, hS.F ht⟩) hS.2.2 d_O_maximalSet_53
      · have c_3 : ¬ ((12 : Int32) < x5) := c_3
        refine lv_iload_n hx hb d_O_maximalSet_20 rfl (lv_at hl 2 rfl) ?_
        refine lv_iload hx hb d_O_maximalSet_21 (lv_at hl 1 rfl) ?_
        refine va_calli (va_runS (As := [.int (f_O_interfaceMethods v p1 p2), .int x5]) (rest := []) ⟨hx, hb, hml, hown, hts⟩ (c_O_holds l dC dI  H.size   (f_O_interfaceMethods v p1 p2) x5) (cwS 2 hts k_g0 rfl rfl rfl (by decide +kernel) ⟨Nat.le_of_ble_eq_true rfl, Nat.le_of_ble_eq_true rfl⟩) ⟨fb_ro, fun U hU hW => ⟨rfl, by rw [hU], by rw [hU]; exact hP.sub (ws' := ([] : va_W)) [] rfl, va_K.moved hW.alike (hK.sub (tys' := []) [] rfl), NX.warm hW hN⟩⟩ rfl rfl hl.1 rfl (lv_room (Nat.le_of_ble_eq_true rfl)) d_O_maximalSet_23 ⟨Nat.zero_le _, Nat.zero_le _⟩) hS (fun z h1 h2 => absurd h1 (Nat.not_lt.mpr h2)) (fun z h => hA z (Nat.le_trans hS.1 h)) (fun r u t H1 locs ht hvm hpo hB hz1 hk1 hS => ?_)
        subst hpo
        have hP := kp_P hP hk1
        generalize H1 = H at hP hS ⊢
        refine lv_if_eq (tgt := 45) hx hb d_O_maximalSet_26 (by decide) (fun c_4 => ?_) (fun c_4 => ?_)
        · have c_4 : (f_O_holds (f_O_interfaceMethods v p1 p2) x5) = (0 : Int32) := c_4
          refine lv_iinc (v := (x5 + (1 : Int32))) (lv' := [(5, .int (x5 + (1 : Int32))), (4, .int x4), (3, .int (f_O_interfaceMethods v p1 p2)), (0, .ref h0), (1, .int p1), (2, .int p2)]) hx hb d_O_maximalSet_45 hl (k := 1) rfl (by rw [of_p1]) (by decide) rfl (fun ls hl => ?_)
          refine lv_goto (tgt := 13) hx hb d_O_maximalSet_48 (by decide) ?_
          exact ih (k + 1) x4 (x5 + (1 : Int32)) _ _ _ (by rw [et]; exact nI_1 k) (by omega) (by first | exact Nat.succ_le_succ (le12 et h2 (by with_reducible assumption)) | exact Nat.succ_le_succ (lt12 et h2 (by with_reducible assumption)) | exact Nat.succ_le_succ (leCnt hw et h2 (by with_reducible assumption)) | exact Nat.succ_le_succ (Nat.le_trans (Nat.le_of_lt (ltDc hw et h2 (by with_reducible assumption) (by with_reducible assumption))) (by decide)) | exact Nat.succ_le_succ (lePar et h2 (by with_reducible assumption) (by with_reducible assumption)) | exact Nat.succ_le_succ (ltPar et h2 (by with_reducible assumption) (by with_reducible assumption))) (by rw [← hF, lr_O_maximalSet_s, if_neg c_3, if_pos c_4]) hP hS (lv_sub hl [1, 0, 2, 3, 4, 5] rfl)
        · have c_4 : ¬ ((f_O_holds (f_O_interfaceMethods v p1 p2) x5) = (0 : Int32)) := c_4
          refine lv_iload hx hb d_O_maximalSet_29 (lv_at hl 0 rfl) ?_
          refine lv_aload_n hx hb d_O_maximalSet_31 rfl (lv_at hl 3 rfl) ?_
          refine va_get (D := (dC, dI)) (ci := 2) (v := .ref (qw 0)) (C := R_O) (T := F_O) (N := 4) hx hb hts i_O hown hK hP 0 rfl rfl 0 (by decide) (hts _ k_22) (fun _ h9 => h9) rfl d_O_maximalSet_32 ?_
          refine lv_iload hx hb d_O_maximalSet_35 (lv_at hl 1 rfl) ?_
          have hq_5 : vp_in x5 13 := by first | with_reducible assumption | exact in_et et (le12 et h2 (by with_reducible assumption)) | exact in_et et (lt12 et h2 (by with_reducible assumption)) | exact in_et et (leCnt hw et h2 (by with_reducible assumption)) | exact in_et et (lePar et h2 (by with_reducible assumption) (by with_reducible assumption)) | exact in_et et (ltPar et h2 (by with_reducible assumption) (by with_reducible assumption)) | exact in_et et h2
          refine va_calli (va_runV (As := [.int x5]) (rest := [.int x4]) ⟨hx, hb, hml, hown, hts⟩ (c_W_supertypes l dC dI kw qw H.size v.1  x5 hq_5) (cwV 1 hts k_g9 rfl rfl rfl (by decide +kernel) ⟨Nat.le_of_ble_eq_true rfl, Nat.le_of_ble_eq_true rfl⟩) ⟨fb_ro, va_recv hK hP (ci := 0) (q0 := 1) rfl rfl, fun U hU hW => ⟨rfl, by rw [hU], by rw [hU]; exact hP.sub (ws' := (wW kw qw v.1)) [1, 2, 3, 4, 5, 6, 7] rfl, va_K.moved hW.alike (hK.sub (tys' := (tW kw)) [0, 1, 2, 3, 4, 5] rfl), NX.warm hW hN⟩⟩ rfl rfl hl.1 rfl (lv_room (Nat.le_of_ble_eq_true rfl)) d_O_maximalSet_37 ⟨Nat.zero_le _, Nat.zero_le _⟩) hS (fun z h1 h2 => absurd h1 (Nat.not_lt.mpr h2)) (fun z h => hA z (Nat.le_trans hS.1 h)) (fun r u t H1 locs ht hvm hpo hB hz1 hk1 hS => ?_)
          subst hpo
          have hP := kp_P hP hk1
          generalize H1 = H at hP hS ⊢
          refine lv_iconst (v := (-1 : Int32)) hx hb d_O_maximalSet_40 (by decide +kernel) ?_
          refine lv_ixor hx hb d_O_maximalSet_41 ?_
          refine lv_iand hx hb d_O_maximalSet_42 ?_
          refine lv_istore (lv' := [(4, .int (x4 &&& ((f_W_supertypes v.1 x5) ^^^ (-1 : Int32)))), (5, .int x5), (3, .int (f_O_interfaceMethods v p1 p2)), (0, .ref h0), (1, .int p1), (2, .int p2)]) hx hb d_O_maximalSet_43 hl (by decide) rfl (fun ls hl => ?_)
          refine lv_iinc (v := (x5 + (1 : Int32))) (lv' := [(5, .int (x5 + (1 : Int32))), (4, .int (x4 &&& ((f_W_supertypes v.1 x5) ^^^ (-1 : Int32)))), (3, .int (f_O_interfaceMethods v p1 p2)), (0, .ref h0), (1, .int p1), (2, .int p2)]) hx hb d_O_maximalSet_45 hl (k := 1) rfl (by rw [of_p1]) (by decide) rfl (fun ls hl => ?_)
          refine lv_goto (tgt := 13) hx hb d_O_maximalSet_48 (by decide) ?_
          exact ih (k + 1) (x4 &&& ((f_W_supertypes v.1 x5) ^^^ (-1 : Int32))) (x5 + (1 : Int32)) _ _ _ (by rw [et]; exact nI_1 k) (by omega) (by first | exact Nat.succ_le_succ (le12 et h2 (by with_reducible assumption)) | exact Nat.succ_le_succ (lt12 et h2 (by with_reducible assumption)) | exact Nat.succ_le_succ (leCnt hw et h2 (by with_reducible assumption)) | exact Nat.succ_le_succ (Nat.le_trans (Nat.le_of_lt (ltDc hw et h2 (by with_reducible assumption) (by with_reducible assumption))) (by decide)) | exact Nat.succ_le_succ (lePar et h2 (by with_reducible assumption) (by with_reducible assumption)) | exact Nat.succ_le_succ (ltPar et h2 (by with_reducible assumption) (by with_reducible assumption))) (by rw [← hF, lr_O_maximalSet_s, if_neg c_3, if_neg c_4]) hP hS (lv_sub hl [1, 0, 2, 3, 4, 5] rfl)
  exact LOOP 14 1 (f_O_interfaceMethods v p1 p2) (1 : Int32) _ _ _ (rfl) (by omega) (by omega) (rfl) hP hS (lv_sub hl [1, 0, 2, 3, 4, 5] rfl)
