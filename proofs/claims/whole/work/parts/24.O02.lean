set_option maxHeartbeats 1000000 in
set_option maxRecDepth 100000 in
theorem c_O_bestOfInterfaces (l : Launch) (dC : Nat → ClassId) (dI : Nat → Nat → Nat) (h0 : Nat) (kw kf km : Nat → ClassId) (qw qf qm : Nat → Nat) (sz : Nat) (v : ES) (lc : Int32) (p1 p2 : Int32) (hp1 : vp_in p1 13) (hp2 : vp_in p2 4) : Met l y_O_bestOfInterfaces w_O_bestOfInterfaces ({ frames := 3, cells := 0, slots := 0, locals := 68 } : Room) (ro_P dC dI (wO h0 kw kf km qw qf qm v lc) (tO kw kf km) sz [.ref h0, .int p1, .int p2]) (ro_Q sz (f_O_bestOfInterfaces v p1 p2)) 0 0 (fun z => sz ≤ z) := by
  refine Met.ofW (cc := b_O_bestOfInterfaces) (maxL := 4) (ret := (some .int)) (by decide) rfl ?_
  intro p e s m args below meth c s₁ B hml hv
  obtain ⟨rfl, hsz, hP, hK, hN⟩ := hv
  have hx := B.exec
  have hb := B.bytes
  have hr := B.returns
  have hts := tl_of (atoms_spec (ws := w_O_bestOfInterfaces) B.pre)
  have hown : s.vm.findClass R_O = some m.cls := findClass_of_methodNamed B.named
  have hlocks := B.notSynchronized
  subst hsz
  have hA : ∀ z : Nat, s.heap.size ≤ z → (fun z : Nat => s.heap.size ≤ z) z := fun _ h => h
  have hS : va_S (fun z : Nat => s.heap.size ≤ z) s.heap s.heap [] := va_S.rf
  have hl := lv_entry ([.ref h0, .int p1, .int p2]) (n := 4) (Nat.le_of_ble_eq_true rfl)
  rw [lg_entry_eq]
  generalize (lg_sl ([.ref h0, .int p1, .int p2]) ++ List.replicate (4 - (lg_sl ([.ref h0, .int p1, .int p2])).length) Slot.unset).toArray = ls at hl ⊢
  have hl : lv_has ls 4 [(0, .ref h0), (1, .int p1), (2, .int p2)] := hl
  refine lv_aload_n hx hb d_O_bestOfInterfaces_0 rfl (lv_at hl 0 rfl) ?_
  refine lv_iload_n hx hb d_O_bestOfInterfaces_1 rfl (lv_at hl 1 rfl) ?_
  refine lv_iload_n hx hb d_O_bestOfInterfaces_2 rfl (lv_at hl 2 rfl) ?_
  have hq_1 : vp_in p1 13 := by first | with_reducible assumption | exact in_has hw (by with_reducible assumption) | exact in_cls hw (by with_reducible assumption) | exact in_ifc hw (by with_reducible assumption) | exact in_ext hw (by with_reducible assumption) | exact in_eq0 (by with_reducible assumption) | exact hfd (by with_reducible assumption) | exact in_rcv hw (by with_reducible assumption) (Or.inl (by with_reducible assumption)) | exact in_rcv hw (by with_reducible assumption) (Or.inr (by with_reducible assumption))
  have hq_2 : vp_in p2 4 := by first | with_reducible assumption | exact in_name (by with_reducible assumption) | exact in4_4 (by with_reducible assumption) | exact in4_5 (by with_reducible assumption) | exact in4_6 (by with_reducible assumption) | exact in4_7 (by with_reducible assumption)
  refine va_calli (va_runV (As := [.int p1, .int p2]) (rest := []) ⟨hx, hb, hml, hown, hts⟩ (c_O_maximalSet l dC dI h0 kw kf km qw qf qm s.heap.size v lc p1 p2 hq_1 hq_2) (cwV 2 hts k_g13 rfl rfl rfl (by decide +kernel) ⟨Nat.le_of_ble_eq_true rfl, Nat.le_of_ble_eq_true rfl⟩) ⟨fb_ro, va_recv hK hP (ci := 2) (q0 := 0) rfl rfl, fun U hU hW => ⟨rfl, by rw [hU], by rw [hU]; exact hP.sub (ws' := (wO h0 kw kf km qw qf qm v lc)) [0, 1, 2, 3, 4, 5, 6, 7, 8, 9, 10, 11, 12, 13, 14, 15, 16, 17, 18, 19] rfl, va_K.moved hW.alike (hK.sub (tys' := (tO kw kf km)) [0, 1, 2, 3, 4, 5, 6, 7, 8, 9, 10, 11, 12, 13, 14, 15] rfl), NX.warm hW hN⟩⟩ rfl rfl hl.1 rfl (lv_room (Nat.le_of_ble_eq_true rfl)) d_O_bestOfInterfaces_3 ⟨Nat.zero_le _, Nat.zero_le _⟩) hS (fun z h1 h2 => absurd h1 (Nat.not_lt.mpr h2)) (fun z h => hA z (Nat.le_trans hS.1 h)) (fun r u t H1 locs ht hvm hpo hB hz1 hk1 hS => ?_)
  subst hpo
  have hP := kp_P hP hk1
  generalize H1 = H at hP hS ⊢
  refine lv_aload_n hx hb d_O_bestOfInterfaces_6 rfl (lv_at hl 0 rfl) ?_
  refine va_get (D := (dC, dI)) (ci := 2) (v := .ref (qm 0)) (C := R_O) (T := F_O) (N := 4) hx hb hts i_O hown hK hP 0 rfl rfl 2 (by decide) (hts _ k_23) (fun _ h9 => h9) rfl d_O_bestOfInterfaces_7 ?_
  refine lv_iload_n hx hb d_O_bestOfInterfaces_10 rfl (lv_at hl 2 rfl) ?_
  have hq_3 : vp_in p2 4 := by first | with_reducible assumption | exact in_name (by with_reducible assumption) | exact in4_4 (by with_reducible assumption) | exact in4_5 (by with_reducible assumption) | exact in4_6 (by with_reducible assumption) | exact in4_7 (by with_reducible assumption)
  refine va_calli (va_runV (As := [.int p2]) (rest := [.int (f_O_maximalSet v p1 p2)]) ⟨hx, hb, hml, hown, hts⟩ (c_M_abstracts l dC dI km qm H.size v.2.2  p2 hq_3) (cwV 1 hts k_g14 rfl rfl rfl (by decide +kernel) ⟨Nat.le_of_ble_eq_true rfl, Nat.le_of_ble_eq_true rfl⟩) ⟨fb_ro, va_recv hK hP (ci := 1) (q0 := 14) rfl rfl, fun U hU hW => ⟨rfl, by rw [hU], by rw [hU]; exact hP.sub (ws' := (wM km qm v.2.2)) [14, 15, 16, 17, 18, 19] rfl, va_K.moved hW.alike (hK.sub (tys' := (tM km)) [11, 12, 13, 14, 15] rfl), NX.warm hW hN⟩⟩ rfl rfl hl.1 rfl (lv_room (Nat.le_of_ble_eq_true rfl)) d_O_bestOfInterfaces_11 ⟨Nat.zero_le _, Nat.zero_le _⟩) hS (fun z h1 h2 => absurd h1 (Nat.not_lt.mpr h2)) (fun z h => hA z (Nat.le_trans hS.1 h)) (fun r u t H1 locs ht hvm hpo hB hz1 hk1 hS => ?_)
  subst hpo
  have hP := kp_P hP hk1
  generalize H1 = H at hP hS ⊢
  refine lv_iconst (v := (-1 : Int32)) hx hb d_O_bestOfInterfaces_14 (by decide +kernel) ?_
  refine lv_ixor hx hb d_O_bestOfInterfaces_15 ?_
  refine lv_iand hx hb d_O_bestOfInterfaces_16 ?_
  refine lv_istore_n (lv' := [(3, .int ((f_O_maximalSet v p1 p2) &&& ((f_M_abstracts v.2.2 p2) ^^^ (-1 : Int32)))), (0, .ref h0), (1, .int p1), (2, .int p2)]) hx hb d_O_bestOfInterfaces_17 rfl hl (by decide) rfl (fun ls hl => ?_)
  refine lv_iload_n hx hb d_O_bestOfInterfaces_18 rfl (lv_at hl 0 rfl) ?_
  refine va_calli (va_runS (As := [.int ((f_O_maximalSet v p1 p2) &&& ((f_M_abstracts v.2.2 p2) ^^^ (-1 : Int32)))]) (rest := []) ⟨hx, hb, hml, hown, hts⟩ (c_J_bitCount l dC dI  H.size   ((f_O_maximalSet v p1 p2) &&& ((f_M_abstracts v.2.2 p2) ^^^ (-1 : Int32)))) ⟨callB_of 1 hts k_g15 rfl rfl rfl (hts _ k_25) (hts _ k_24) (by decide +kernel) ⟨Nat.le_of_ble_eq_true rfl, Nat.le_of_ble_eq_true rfl⟩, hts _ k_26⟩ ⟨fb_ro, fun U hU hW => ⟨rfl, by rw [hU], by rw [hU]; exact hP.sub (ws' := ([] : va_W)) [] rfl, va_K.moved hW.alike (hK.sub (tys' := []) [] rfl), NX.warm hW hN⟩⟩ rfl rfl hl.1 rfl (lv_room (Nat.le_of_ble_eq_true rfl)) d_O_bestOfInterfaces_19 ⟨Nat.zero_le _, Nat.zero_le _⟩) hS (fun z h1 h2 => absurd h1 (Nat.not_lt.mpr h2)) (fun z h => hA z (Nat.le_trans hS.1 h)) (fun r u t H1 locs ht hvm hpo hB hz1 hk1 hS => ?_)
  subst hpo
  have hP := kp_P hP hk1
  generalize H1 = H at hP hS ⊢
  by_cases c_4 : (f_J_bitCount ((f_O_maximalSet v p1 p2) &&& ((f_M_abstracts v.2.2 p2) ^^^ (-1 : Int32)))) = (0 : Int32)
  · refine lv_lookup (tgt := 48) (off := 26) hx hb d_O_bestOfInterfaces_22 (by decide) (by rw [c_4]; rfl) (by decide) ?_
    refine lv_bipush (v := (-7 : Int32)) hx hb d_O_bestOfInterfaces_48 (by decide +kernel) ?_
    exact W.iret (v := (-7 : Int32)) hx hb hr (fun t ht hW => ⟨⟨(-7 : Int32), (), rfl, by unfold f_O_bestOfInterfaces; rw [if_pos c_4], trivial⟩, hS.F ht⟩) hS.2.2 d_O_bestOfInterfaces_50
  · skip
    by_cases c_5 : (f_J_bitCount ((f_O_maximalSet v p1 p2) &&& ((f_M_abstracts v.2.2 p2) ^^^ (-1 : Int32)))) = (1 : Int32)
    · refine lv_lookup (tgt := 51) (off := 29) hx hb d_O_bestOfInterfaces_22 (by decide) (by rw [c_5]; rfl) (by decide) ?_
      refine lv_iload_n hx hb d_O_bestOfInterfaces_51 rfl (lv_at hl 0 rfl) ?_
      refine va_calli (va_runS (As := [.int ((f_O_maximalSet v p1 p2) &&& ((f_M_abstracts v.2.2 p2) ^^^ (-1 : Int32)))]) (rest := []) ⟨hx, hb, hml, hown, hts⟩ (c_O_leastOf l dC dI  H.size   ((f_O_maximalSet v p1 p2) &&& ((f_M_abstracts v.2.2 p2) ^^^ (-1 : Int32)))) (cwS 1 hts k_g16 rfl rfl rfl (by decide +kernel) ⟨Nat.le_of_ble_eq_true rfl, Nat.le_of_ble_eq_true rfl⟩) ⟨fb_ro, fun U hU hW => ⟨rfl, by rw [hU], by rw [hU]; exact hP.sub (ws' := ([] : va_W)) [] rfl, va_K.moved hW.alike (hK.sub (tys' := []) [] rfl), NX.warm hW hN⟩⟩ rfl rfl hl.1 rfl (lv_room (Nat.le_of_ble_eq_true rfl)) d_O_bestOfInterfaces_52 ⟨Nat.zero_le _, Nat.zero_le _⟩) hS (fun z h1 h2 => absurd h1 (Nat.not_lt.mpr h2)) (fun z h => hA z (Nat.le_trans hS.1 h)) (fun r u t H1 locs ht hvm hpo hB hz1 hk1 hS => ?_)
      subst hpo
      have hP := kp_P hP hk1
      generalize H1 = H at hP hS ⊢
      exact W.iret (v := (f_O_leastOf ((f_O_maximalSet v p1 p2) &&& ((f_M_abstracts v.2.2 p2) ^^^ (-1 : Int32))))) hx hb hr (fun t ht hW => ⟨⟨(f_O_leastOf ((f_O_maximalSet v p1 p2) &&& ((f_M_abstracts v.2.2 p2) ^^^ (-1 : Int32)))), (), rfl, by unfold f_O_bestOfInterfaces; rw [if_neg c_4, if_pos c_5], trivial⟩, hS.F ht⟩) hS.2.2 d_O_bestOfInterfaces_55
    · skip
      refine lv_lookup (tgt := 56) (off := 34) hx hb d_O_bestOfInterfaces_22 (by decide) (by have z0 := ne_ti (z := 0) c_4 rfl; have z1 := ne_ti (z := 1) c_5 rfl; revert z0 z1; generalize ((f_J_bitCount ((f_O_maximalSet v p1 p2) &&& ((f_M_abstracts v.2.2 p2) ^^^ (-1 : Int32))))).toInt = zz; intro z0 z1; simp [Op.lookupswitch.offset, Ne.symm z0, Ne.symm z1]) (by decide) ?_
      refine lv_bipush (v := (-6 : Int32)) hx hb d_O_bestOfInterfaces_56 (by decide +kernel) ?_
      exact W.iret (v := (-6 : Int32)) hx hb hr (fun t ht hW => ⟨⟨(-6 : Int32), (), rfl, by unfold f_O_bestOfInterfaces; rw [if_neg c_4, if_neg c_5], trivial⟩, hS.F ht⟩) hS.2.2 d_O_bestOfInterfaces_58
