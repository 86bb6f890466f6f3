set_option maxHeartbeats 1000000 in
set_option maxRecDepth 100000 in
theorem c_R_closeAbove (l : Launch) (dC : Nat → ClassId) (dI : Nat → Nat → Nat) (ka : Nat → ClassId) (qa : Nat → Nat) (sz : Nat) (b0 b1 : Int32) (a0 a1 a2 a3 a4 a5 a6 a7 a8 a9 a10 a11 a12 : Nat → Int32)  (hT : vT b0) (hpa : vPar a4) (hdi : vDir a6) (hdc : vDc a7) : Met l y_R_closeAbove w_R_closeAbove ({ frames := 0, cells := 0, slots := 0, locals := 0 } : Room) (mu_P dC dI (wR ka qa b0 b1 a0 a1 a2 a3 a4 a5 a6 a7 a8 a9 a10 a11 a12) (tR ka) sz [.ref (qa 0)]) (mu_Qv (fun (S9 : (Nat → Int32)) => (wR ka qa b0 b1 a0 a1 a2 a3 a4 a5 a6 a7 a8 a9 S9 a11 a12)) dC dI ((s_R_closeAbove_a10 b0 a4 a6 a7 a10 )) (va_A (wR ka qa b0 b1 a0 a1 a2 a3 a4 a5 a6 a7 a8 a9 a10 a11 a12) sz)) 0 0 (va_A (wR ka qa b0 b1 a0 a1 a2 a3 a4 a5 a6 a7 a8 a9 a10 a11 a12) sz) := by
  refine Met.ofW (cc := b_R_closeAbove) (maxL := 3) (ret := none) (by decide) rfl ?_
  intro p e s m args below meth c s₁ B hml hv
  obtain ⟨rfl, hsz, hP, hK, hN, hD0⟩ := hv
  have hx := B.exec
  have hb := B.bytes
  have hr := B.returns
  have hts := tl_of (atoms_spec (ws := w_R_closeAbove) B.pre)
  have hown : s.vm.findClass R_R = some m.cls := findClass_of_methodNamed B.named
  have hlocks := B.notSynchronized
  subst hsz
  have hD := hD0.self (sz := s.heap.size)
  generalize hAe : va_A (wR ka qa b0 b1 a0 a1 a2 a3 a4 a5 a6 a7 a8 a9 a10 a11 a12) s.heap.size = A at hD ⊢
  have hA : ∀ q : Nat, s.heap.size ≤ q → A q := fun q h => by rw [← hAe]; exact Or.inr h
  have hS : va_S A s.heap s.heap [] := va_S.rf
  have hl := lv_entry ([.ref (qa 0)]) (n := 3) (Nat.le_of_ble_eq_true rfl)
  rw [lg_entry_eq]
  generalize (lg_sl ([.ref (qa 0)]) ++ List.replicate (3 - (lg_sl ([.ref (qa 0)])).length) Slot.unset).toArray = ls at hl ⊢
  have hl : lv_has ls 3 [(0, .ref (qa 0))] := hl
  refine lv_iconst (v := (1 : Int32)) hx hb d_R_closeAbove_0 (by decide +kernel) ?_
  refine lv_istore_n (lv' := [(1, .int (1 : Int32)), (0, .ref (qa 0))]) hx hb d_R_closeAbove_1 rfl hl (by decide) rfl (fun ls hl => ?_)
  have LOOP_2 : ∀ (n k : Nat) (x1 : Int32) (ya10 : (Nat → Int32)) (H : Heap) (locs : List Loc) (ls : Array Slot), x1 = nI k → 14 ≤ k + n → k ≤ 13 → la10_R_closeAbove_2 b0 a4 a6 a7  n x1 ya10 = (s_R_closeAbove_a10 b0 a4 a6 a7 a10 ) → va_P (dC, dI) classes (wR ka qa b0 b1 a0 a1 a2 a3 a4 a5 a6 a7 a8 a9 ya10 a11 a12) H → va_D A (wR ka qa b0 b1 a0 a1 a2 a3 a4 a5 a6 a7 a8 a9 ya10 a11 a12) → va_S A s.heap H locs → lv_has ls 3 [(1, .int x1), (0, .ref (qa 0))] → W p l e (headSpec w_R_closeAbove ({ frames := 0, cells := 0, slots := 0, locals := 0 } : Room)).room s m ([.ref (qa 0)] : List Value).toArray below meth c H locs 0 0 (MQ below (mu_Qv (fun (S9 : (Nat → Int32)) => (wR ka qa b0 b1 a0 a1 a2 a3 a4 a5 a6 a7 a8 a9 S9 a11 a12)) dC dI ((s_R_closeAbove_a10 b0 a4 a6 a7 a10 )) (A)) ([.ref (qa 0)] : List Value).toArray s 0 0 A) (F0 m 2 ls []) := by
    intro n
    induction n with
    | zero =>
      intro k x1 ya10 H locs ls et h1 h2
      exfalso; omega
    | succ n ih =>
      intro k x1 ya10 H locs ls et h1 h2 hG_a10 hP hD hS hl
      refine lv_iload_n hx hb d_R_closeAbove_2 rfl (lv_at hl 0 rfl) ?_
      refine lv_aload_n hx hb d_R_closeAbove_3 rfl (lv_at hl 1 rfl) ?_
      refine va_get (D := (dC, dI)) (ci := 3) (v := .int b0) (C := R_R) (T := F_R) (N := 15) hx hb hts i_R hown hK hP 0 rfl rfl 0 (by decide) (hts _ k_44) (fun _ h9 => h9) rfl d_R_closeAbove_4 ?_
      refine lv_icmp_gt (tgt := 110) hx hb d_R_closeAbove_7 (by decide) (fun c_1 => ?_) (fun c_1 => ?_)
      · have c_1 : b0 < x1 := c_1
        have hP9 : va_P (dC, dI) classes (wR ka qa b0 b1 a0 a1 a2 a3 a4 a5 a6 a7 a8 a9 ya10 a11 a12) H := hP
        exact W.vret hx hb hr (fun t ht hW => ⟨⟨(ya10), rfl, (by rw [← hG_a10, la10_R_closeAbove_2_s, if_pos c_1]), hp_at ht hP9⟩, hS.F ht⟩) hS.2.2 d_R_closeAbove_110
      · have c_1 : ¬ (b0 < x1) := c_1
        refine lv_aload_n hx hb d_R_closeAbove_10 rfl (lv_at hl 1 rfl) ?_
        refine va_get (D := (dC, dI)) (ci := 3) (v := .ref (qa 11)) (C := R_R) (T := F_R) (N := 15) hx hb hts i_R hown hK hP 0 rfl rfl 11 (by decide) (hts _ k_45) (fun _ h9 => h9) rfl d_R_closeAbove_11 ?_
        refine lv_iload_n hx hb d_R_closeAbove_14 rfl (lv_at hl 0 rfl) ?_
        refine lv_aload_n hx hb d_R_closeAbove_15 rfl (lv_at hl 1 rfl) ?_
        refine va_get (D := (dC, dI)) (ci := 3) (v := .ref (qa 5)) (C := R_R) (T := F_R) (N := 15) hx hb hts i_R hown hK hP 0 rfl rfl 5 (by decide) (hts _ k_50) (fun _ h9 => h9) rfl d_R_closeAbove_16 ?_
        refine lv_iload_n hx hb d_R_closeAbove_19 rfl (lv_at hl 0 rfl) ?_
        have hi_2 : vp_in x1 13 := by first | with_reducible assumption | exact in_et et (leT hT et h2 (by with_reducible assumption)) | exact in_et et h2 | exact in_et eu (leT hT eu u2 (by with_reducible assumption)) | exact in_et eu u2
        refine va_iald (D := (dC, dI)) (f := a4) hx hb hK hP 5 4 rfl rfl hi_2 d_R_closeAbove_20 ?_
        refine lv_if_ne (tgt := 28) hx hb d_R_closeAbove_21 (by decide) (fun c_3 => ?_) (fun c_3 => ?_)
        · have c_3 : ¬ ((a4 x1.toNatClampNeg) = (0 : Int32)) := c_3
          refine lv_aload_n hx hb d_R_closeAbove_28 rfl (lv_at hl 1 rfl) ?_
          refine va_get (D := (dC, dI)) (ci := 3) (v := .ref (qa 11)) (C := R_R) (T := F_R) (N := 15) hx hb hts i_R hown hK hP 0 rfl rfl 11 (by decide) (hts _ k_45) (fun _ h9 => h9) rfl d_R_closeAbove_29 ?_
          refine lv_aload_n hx hb d_R_closeAbove_32 rfl (lv_at hl 1 rfl) ?_
          refine va_get (D := (dC, dI)) (ci := 3) (v := .ref (qa 5)) (C := R_R) (T := F_R) (N := 15) hx hb hts i_R hown hK hP 0 rfl rfl 5 (by decide) (hts _ k_50) (fun _ h9 => h9) rfl d_R_closeAbove_33 ?_
          refine lv_iload_n hx hb d_R_closeAbove_36 rfl (lv_at hl 0 rfl) ?_
          have hi_4 : vp_in x1 13 := by first | with_reducible assumption | exact in_et et (leT hT et h2 (by with_reducible assumption)) | exact in_et et h2 | exact in_et eu (leT hT eu u2 (by with_reducible assumption)) | exact in_et eu u2
          refine va_iald (D := (dC, dI)) (f := a4) hx hb hK hP 5 4 rfl rfl hi_4 d_R_closeAbove_37 ?_
          have hi_5 : vp_in (a4 x1.toNatClampNeg) 13 := by first | with_reducible assumption | exact par_in hpa (by first | with_reducible assumption | exact in_et et (leT hT et h2 (by with_reducible assumption)) | exact in_et et h2 | exact in_et eu (leT hT eu u2 (by with_reducible assumption)) | exact in_et eu u2)
          refine va_iald (D := (dC, dI)) (f := ya10) hx hb hK hP 11 10 rfl rfl hi_5 d_R_closeAbove_38 ?_
          refine lv_iconst (v := (1 : Int32)) hx hb d_R_closeAbove_39 (by decide +kernel) ?_
          refine lv_aload_n hx hb d_R_closeAbove_40 rfl (lv_at hl 1 rfl) ?_
          refine va_get (D := (dC, dI)) (ci := 3) (v := .ref (qa 5)) (C := R_R) (T := F_R) (N := 15) hx hb hts i_R hown hK hP 0 rfl rfl 5 (by decide) (hts _ k_50) (fun _ h9 => h9) rfl d_R_closeAbove_41 ?_
          refine lv_iload_n hx hb d_R_closeAbove_44 rfl (lv_at hl 0 rfl) ?_
          have hi_6 : vp_in x1 13 := by first | with_reducible assumption | exact in_et et (leT hT et h2 (by with_reducible assumption)) | exact in_et et h2 | exact in_et eu (leT hT eu u2 (by with_reducible assumption)) | exact in_et eu u2
          refine va_iald (D := (dC, dI)) (f := a4) hx hb hK hP 5 4 rfl rfl hi_6 d_R_closeAbove_45 ?_
          refine lv_ishl hx hb d_R_closeAbove_46 ?_
          refine lv_ior hx hb d_R_closeAbove_47 ?_
          have hi_7 : vp_in x1 13 := by first | with_reducible assumption | exact in_et et (leT hT et h2 (by with_reducible assumption)) | exact in_et et h2 | exact in_et eu (leT hT eu u2 (by with_reducible assumption)) | exact in_et eu u2
          refine va_iast (D := (dC, dI)) (f := ya10) hx hb hK hP hD hS 11 10 rfl rfl hi_7 d_R_closeAbove_48 (fun H locs hP hD hS => ?_)
          have hP : va_P (dC, dI) classes (wR ka qa b0 b1 a0 a1 a2 a3 a4 a5 a6 a7 a8 a9 (upd ya10 x1.toNatClampNeg ((ya10 (a4 x1.toNatClampNeg).toNatClampNeg) ||| ((1 : Int32) <<< ((a4 x1.toNatClampNeg) &&& (31 : Int32))))) a11 a12) H := hP
          have hD : va_D A (wR ka qa b0 b1 a0 a1 a2 a3 a4 a5 a6 a7 a8 a9 (upd ya10 x1.toNatClampNeg ((ya10 (a4 x1.toNatClampNeg).toNatClampNeg) ||| ((1 : Int32) <<< ((a4 x1.toNatClampNeg) &&& (31 : Int32))))) a11 a12) := hD
          refine lv_iconst (v := (0 : Int32)) hx hb d_R_closeAbove_49 (by decide +kernel) ?_
          refine lv_istore_n (lv' := [(2, .int (0 : Int32)), (1, .int x1), (0, .ref (qa 0))]) hx hb d_R_closeAbove_50 rfl hl (by decide) rfl (fun ls hl => ?_)
          have LOOP_51 : ∀ (FF : Int32 × (Nat → Int32)) (n k : Nat) (x2 : Int32) (ya10 : (Nat → Int32)) (H : Heap) (locs : List Loc) (ls : Array Slot), x2 = nI k → 14 ≤ k + n → k ≤ 13 → lfin_R_closeAbove_51 b0 a4 a6 a7 x1 n x2 ya10 = FF → va_P (dC, dI) classes (wR ka qa b0 b1 a0 a1 a2 a3 a4 a5 a6 a7 a8 a9 ya10 a11 a12) H → va_D A (wR ka qa b0 b1 a0 a1 a2 a3 a4 a5 a6 a7 a8 a9 ya10 a11 a12) → va_S A s.heap H locs → lv_has ls 3 [(2, .int x2), (1, .int x1), (0, .ref (qa 0))] → (∀ (H : Heap) (locs : List Loc) (ls : Array Slot), va_P (dC, dI) classes (wR ka qa b0 b1 a0 a1 a2 a3 a4 a5 a6 a7 a8 a9 FF.2 a11 a12) H → va_D A (wR ka qa b0 b1 a0 a1 a2 a3 a4 a5 a6 a7 a8 a9 FF.2 a11 a12) → va_S A s.heap H locs → lv_has ls 3 [(2, .int FF.1), (1, .int x1), (0, .ref (qa 0))] → W p l e (headSpec w_R_closeAbove ({ frames := 0, cells := 0, slots := 0, locals := 0 } : Room)).room s m ([.ref (qa 0)] : List Value).toArray below meth c H locs 0 0 (MQ below (mu_Qv (fun (S9 : (Nat → Int32)) => (wR ka qa b0 b1 a0 a1 a2 a3 a4 a5 a6 a7 a8 a9 S9 a11 a12)) dC dI ((s_R_closeAbove_a10 b0 a4 a6 a7 a10 )) (A)) ([.ref (qa 0)] : List Value).toArray s 0 0 A) (F0 m 104 ls [])) → W p l e (headSpec w_R_closeAbove ({ frames := 0, cells := 0, slots := 0, locals := 0 } : Room)).room s m ([.ref (qa 0)] : List Value).toArray below meth c H locs 0 0 (MQ below (mu_Qv (fun (S9 : (Nat → Int32)) => (wR ka qa b0 b1 a0 a1 a2 a3 a4 a5 a6 a7 a8 a9 S9 a11 a12)) dC dI ((s_R_closeAbove_a10 b0 a4 a6 a7 a10 )) (A)) ([.ref (qa 0)] : List Value).toArray s 0 0 A) (F0 m 51 ls []) := by
            intro FF n
            induction n with
            | zero =>
              intro k x2 ya10 H locs ls eu u1 u2
              exfalso; omega
            | succ n ih =>
              intro k x2 ya10 H locs ls eu u1 u2 hF hP hD hS hl KK
              refine lv_iload_n hx hb d_R_closeAbove_51 rfl (lv_at hl 0 rfl) ?_
              refine lv_aload_n hx hb d_R_closeAbove_52 rfl (lv_at hl 2 rfl) ?_
              refine va_get (D := (dC, dI)) (ci := 3) (v := .ref (qa 8)) (C := R_R) (T := F_R) (N := 15) hx hb hts i_R hown hK hP 0 rfl rfl 8 (by decide) (hts _ k_53) (fun _ h9 => h9) rfl d_R_closeAbove_53 ?_
              refine lv_iload_n hx hb d_R_closeAbove_56 rfl (lv_at hl 1 rfl) ?_
              have hi_8 : vp_in x1 13 := by first | with_reducible assumption | exact in_et et (leT hT et h2 (by with_reducible assumption)) | exact in_et et h2 | exact in_et eu (leT hT eu u2 (by with_reducible assumption)) | exact in_et eu u2
              refine va_iald (D := (dC, dI)) (f := a7) hx hb hK hP 8 7 rfl rfl hi_8 d_R_closeAbove_57 ?_
              refine lv_icmp_ge (tgt := 104) hx hb d_R_closeAbove_58 (by decide) (fun c_9 => ?_) (fun c_9 => ?_)
              · have c_9 : (a7 x1.toNatClampNeg) ≤ x2 := c_9
                obtain rfl : FF = (x2, ya10) := by rw [← hF, lfin_R_closeAbove_51_s, if_pos c_9]
                exact KK _ _ _ hP hD hS (lv_sub hl [0, 1, 2] rfl)
              · have c_9 : ¬ ((a7 x1.toNatClampNeg) ≤ x2) := c_9
                refine lv_aload_n hx hb d_R_closeAbove_61 rfl (lv_at hl 2 rfl) ?_
                refine va_get (D := (dC, dI)) (ci := 3) (v := .ref (qa 11)) (C := R_R) (T := F_R) (N := 15) hx hb hts i_R hown hK hP 0 rfl rfl 11 (by decide) (hts _ k_45) (fun _ h9 => h9) rfl d_R_closeAbove_62 ?_
                refine lv_iload_n hx hb d_R_closeAbove_65 rfl (lv_at hl 1 rfl) ?_
                refine lv_dup2_11 hx hb d_R_closeAbove_66 rfl rfl ?_
                have hi_10 : vp_in x1 13 := by first | with_reducible assumption | exact in_et et (leT hT et h2 (by with_reducible assumption)) | exact in_et et h2 | exact in_et eu (leT hT eu u2 (by with_reducible assumption)) | exact in_et eu u2
                refine va_iald (D := (dC, dI)) (f := ya10) hx hb hK hP 11 10 rfl rfl hi_10 d_R_closeAbove_67 ?_
                refine lv_aload_n hx hb d_R_closeAbove_68 rfl (lv_at hl 2 rfl) ?_
                refine va_get (D := (dC, dI)) (ci := 3) (v := .ref (qa 11)) (C := R_R) (T := F_R) (N := 15) hx hb hts i_R hown hK hP 0 rfl rfl 11 (by decide) (hts _ k_45) (fun _ h9 => h9) rfl d_R_closeAbove_69 ?_
                refine lv_aload_n hx hb d_R_closeAbove_72 rfl (lv_at hl 2 rfl) ?_
                refine va_get (D := (dC, dI)) (ci := 3) (v := .ref (qa 7)) (C := R_R) (T := F_R) (N := 15) hx hb hts i_R hown hK hP 0 rfl rfl 7 (by decide) (hts _ k_54) (fun _ h9 => h9) rfl d_R_closeAbove_73 ?_
                refine lv_iconst (v := (4 : Int32)) hx hb d_R_closeAbove_76 (by decide +kernel) ?_
                refine lv_iload_n hx hb d_R_closeAbove_77 rfl (lv_at hl 1 rfl) ?_
                refine lv_imul hx hb d_R_closeAbove_78 ?_
                refine lv_iload_n hx hb d_R_closeAbove_79 rfl (lv_at hl 0 rfl) ?_
                refine lv_iadd hx hb d_R_closeAbove_80 ?_
                have hi_11 : vp_in (((4 : Int32) * x1) + x2) 52 := by first | with_reducible assumption | exact jn_dc (by with_reducible assumption) et (rltDc hdc et h2 (by with_reducible assumption) (by with_reducible assumption)) | exact jn_dc (by first | with_reducible assumption | exact in_et et (leT hT et h2 (by with_reducible assumption)) | exact in_et et h2 | exact in_et eu (leT hT eu u2 (by with_reducible assumption)) | exact in_et eu u2) eu (rltDc hdc eu u2 (by with_reducible assumption) (by first | with_reducible assumption | exact in_et et (leT hT et h2 (by with_reducible assumption)) | exact in_et et h2 | exact in_et eu (leT hT eu u2 (by with_reducible assumption)) | exact in_et eu u2))
                refine va_iald (D := (dC, dI)) (f := a6) hx hb hK hP 7 6 rfl rfl hi_11 d_R_closeAbove_81 ?_
                have hi_12 : vp_in (a6 (((4 : Int32) * x1) + x2).toNatClampNeg) 13 := by exact dir_in hdi (by with_reducible assumption)
                refine va_iald (D := (dC, dI)) (f := ya10) hx hb hK hP 11 10 rfl rfl hi_12 d_R_closeAbove_82 ?_
                refine lv_iconst (v := (1 : Int32)) hx hb d_R_closeAbove_83 (by decide +kernel) ?_
                refine lv_aload_n hx hb d_R_closeAbove_84 rfl (lv_at hl 2 rfl) ?_
                refine va_get (D := (dC, dI)) (ci := 3) (v := .ref (qa 7)) (C := R_R) (T := F_R) (N := 15) hx hb hts i_R hown hK hP 0 rfl rfl 7 (by decide) (hts _ k_54) (fun _ h9 => h9) rfl d_R_closeAbove_85 ?_
                refine lv_iconst (v := (4 : Int32)) hx hb d_R_closeAbove_88 (by decide +kernel) ?_
                refine lv_iload_n hx hb d_R_closeAbove_89 rfl (lv_at hl 1 rfl) ?_
                refine lv_imul hx hb d_R_closeAbove_90 ?_
                refine lv_iload_n hx hb d_R_closeAbove_91 rfl (lv_at hl 0 rfl) ?_
                refine lv_iadd hx hb d_R_closeAbove_92 ?_
                have hi_13 : vp_in (((4 : Int32) * x1) + x2) 52 := by first | with_reducible assumption | exact jn_dc (by with_reducible assumption) et (rltDc hdc et h2 (by with_reducible assumption) (by with_reducible assumption)) | exact jn_dc (by first | with_reducible assumption | exact in_et et (leT hT et h2 (by with_reducible assumption)) | exact in_et et h2 | exact in_et eu (leT hT eu u2 (by with_reducible assumption)) | exact in_et eu u2) eu (rltDc hdc eu u2 (by with_reducible assumption) (by first | with_reducible assumption | exact in_et et (leT hT et h2 (by with_reducible assumption)) | exact in_et et h2 | exact in_et eu (leT hT eu u2 (by with_reducible assumption)) | exact in_et eu u2))
                refine va_iald (D := (dC, dI)) (f := a6) hx hb hK hP 7 6 rfl rfl hi_13 d_R_closeAbove_93 ?_
                refine lv_ishl hx hb d_R_closeAbove_94 ?_
                refine lv_ior hx hb d_R_closeAbove_95 ?_
                refine lv_ior hx hb d_R_closeAbove_96 ?_
                have hi_14 : vp_in x1 13 := by first | with_reducible assumption | exact in_et et (leT hT et h2 (by with_reducible assumption)) | exact in_et et h2 | exact in_et eu (leT hT eu u2 (by with_reducible assumption)) | exact in_et eu u2
                refine va_iast (D := (dC, dI)) (f := ya10) hx hb hK hP hD hS 11 10 rfl rfl hi_14 d_R_closeAbove_97 (fun H locs hP hD hS => ?_)
                have hP : va_P (dC, dI) classes (wR ka qa b0 b1 a0 a1 a2 a3 a4 a5 a6 a7 a8 a9 (upd ya10 x1.toNatClampNeg ((ya10 x1.toNatClampNeg) ||| ((ya10 (a6 (((4 : Int32) * x1) + x2).toNatClampNeg).toNatClampNeg) ||| ((1 : Int32) <<< ((a6 (((4 : Int32) * x1) + x2).toNatClampNeg) &&& (31 : Int32)))))) a11 a12) H := hP
                have hD : va_D A (wR ka qa b0 b1 a0 a1 a2 a3 a4 a5 a6 a7 a8 a9 (upd ya10 x1.toNatClampNeg ((ya10 x1.toNatClampNeg) ||| ((ya10 (a6 (((4 : Int32) * x1) + x2).toNatClampNeg).toNatClampNeg) ||| ((1 : Int32) <<< ((a6 (((4 : Int32) * x1) + x2).toNatClampNeg) &&& (31 : Int32)))))) a11 a12) := hD
                refine lv_iinc (v := (x2 + (1 : Int32))) (lv' := [(2, .int (x2 + (1 : Int32))), (1, .int x1), (0, .ref (qa 0))]) hx hb d_R_closeAbove_98 hl (k := 0) rfl (by rw [of_p1]) (by decide) rfl (fun ls hl => ?_)
                refine lv_goto (tgt := 51) hx hb d_R_closeAbove_101 (by decide) ?_
                exact ih (k + 1) (x2 + (1 : Int32)) (upd ya10 x1.toNatClampNeg ((ya10 x1.toNatClampNeg) ||| ((ya10 (a6 (((4 : Int32) * x1) + x2).toNatClampNeg).toNatClampNeg) ||| ((1 : Int32) <<< ((a6 (((4 : Int32) * x1) + x2).toNatClampNeg) &&& (31 : Int32)))))) _ _ _ (by rw [eu]; exact nI_1 k) (by omega) (Nat.succ_le_succ (Nat.le_trans (Nat.le_of_lt (rltDc hdc eu u2 (by with_reducible assumption) (by first | with_reducible assumption | exact in_et et (leT hT et h2 (by with_reducible assumption)) | exact in_et et h2 | exact in_et eu (leT hT eu u2 (by with_reducible assumption)) | exact in_et eu u2))) (by decide))) (by rw [← hF, lfin_R_closeAbove_51_s, if_neg c_9]) hP hD hS (lv_sub hl [0, 1, 2] rfl) KK
          obtain ⟨g_15, hg_15⟩ : ∃ z, z = (lfin_R_closeAbove_51 b0 a4 a6 a7 x1 14 (0 : Int32) (upd ya10 x1.toNatClampNeg ((ya10 (a4 x1.toNatClampNeg).toNatClampNeg) ||| ((1 : Int32) <<< ((a4 x1.toNatClampNeg) &&& (31 : Int32)))))) := ⟨_, rfl⟩
          refine LOOP_51 g_15 14 0 (0 : Int32) (upd ya10 x1.toNatClampNeg ((ya10 (a4 x1.toNatClampNeg).toNatClampNeg) ||| ((1 : Int32) <<< ((a4 x1.toNatClampNeg) &&& (31 : Int32))))) _ _ _ (rfl) (by omega) (by omega) hg_15.symm hP hD hS (lv_sub hl [0, 1, 2] rfl) (fun H locs ls hP hD hS hl => ?_)
          refine lv_iinc (v := (x1 + (1 : Int32))) (lv' := [(1, .int (x1 + (1 : Int32))), (2, .int (g_15.1)), (0, .ref (qa 0))]) hx hb d_R_closeAbove_104 hl (k := 1) rfl (by rw [of_p1]) (by decide) rfl (fun ls hl => ?_)
          refine lv_goto (tgt := 2) hx hb d_R_closeAbove_107 (by decide) ?_
          exact ih (k + 1) (x1 + (1 : Int32)) g_15.2 _ _ _ (by rw [et]; exact nI_1 k) (by omega) (by first | exact Nat.succ_le_succ (leT hT et h2 (by with_reducible assumption)) | exact Nat.succ_le_succ (Nat.le_trans (Nat.le_of_lt (rltDc hdc et h2 (by with_reducible assumption) (by with_reducible assumption))) (by decide))) (by subst hg_15; rw [← hG_a10, la10_R_closeAbove_2_s, if_neg c_1, if_neg c_3]) hP hD hS (lv_sub hl [0, 2] rfl)
        · have c_3 : (a4 x1.toNatClampNeg) = (0 : Int32) := c_3
          refine lv_iconst (v := (0 : Int32)) hx hb d_R_closeAbove_24 (by decide +kernel) ?_
          refine lv_goto (tgt := 48) hx hb d_R_closeAbove_25 (by decide) ?_
          have hi_16 : vp_in x1 13 := by first | with_reducible assumption | exact in_et et (leT hT et h2 (by with_reducible assumption)) | exact in_et et h2 | exact in_et eu (leT hT eu u2 (by with_reducible assumption)) | exact in_et eu u2
          refine va_iast (D := (dC, dI)) (f := ya10) hx hb hK hP hD hS 11 10 rfl rfl hi_16 d_R_closeAbove_48 (fun H locs hP hD hS => ?_)
          have hP : va_P (dC, dI) classes (wR ka qa b0 b1 a0 a1 a2 a3 a4 a5 a6 a7 a8 a9 (upd ya10 x1.toNatClampNeg (0 : Int32)) a11 a12) H := hP
          have hD : va_D A (wR ka qa b0 b1 a0 a1 a2 a3 a4 a5 a6 a7 a8 a9 (upd ya10 x1.toNatClampNeg (0 : Int32)) a11 a12) := hD
          refine lv_iconst (v := (0 : Int32)) hx hb d_R_closeAbove_49 (by decide +kernel) ?_
          refine lv_istore_n (lv' := [(2, .int (0 : Int32)), (1, .int x1), (0, .ref (qa 0))]) hx hb d_R_closeAbove_50 rfl hl (by decide) rfl (fun ls hl => ?_)
          have LOOP_51 : ∀ (FF : Int32 × (Nat → Int32)) (n k : Nat) (x2 : Int32) (ya10 : (Nat → Int32)) (H : Heap) (locs : List Loc) (ls : Array Slot), x2 = nI k → 14 ≤ k + n → k ≤ 13 → lfin_R_closeAbove_51 b0 a4 a6 a7 x1 n x2 ya10 = FF → va_P (dC, dI) classes (wR ka qa b0 b1 a0 a1 a2 a3 a4 a5 a6 a7 a8 a9 ya10 a11 a12) H → va_D A (wR ka qa b0 b1 a0 a1 a2 a3 a4 a5 a6 a7 a8 a9 ya10 a11 a12) → va_S A s.heap H locs → lv_has ls 3 [(2, .int x2), (1, .int x1), (0, .ref (qa 0))] → (∀ (H : Heap) (locs : List Loc) (ls : Array Slot), va_P (dC, dI) classes (wR ka qa b0 b1 a0 a1 a2 a3 a4 a5 a6 a7 a8 a9 FF.2 a11 a12) H → va_D A (wR ka qa b0 b1 a0 a1 a2 a3 a4 a5 a6 a7 a8 a9 FF.2 a11 a12) → va_S A s.heap H locs → lv_has ls 3 [(2, .int FF.1), (1, .int x1), (0, .ref (qa 0))] → W p l e (headSpec w_R_closeAbove ({ frames := 0, cells := 0, slots := 0, locals := 0 } : Room)).room s m ([.ref (qa 0)] : List Value).toArray below meth c H locs 0 0 (MQ below (mu_Qv (fun (S9 : (Nat → Int32)) => (wR ka qa b0 b1 a0 a1 a2 a3 a4 a5 a6 a7 a8 a9 S9 a11 a12)) dC dI ((s_R_closeAbove_a10 b0 a4 a6 a7 a10 )) (A)) ([.ref (qa 0)] : List Value).toArray s 0 0 A) (F0 m 104 ls [])) → W p l e (headSpec w_R_closeAbove ({ frames := 0, cells := 0, slots := 0, locals := 0 } : Room)).room s m ([.ref (qa 0)] : List Value).toArray below meth c H locs 0 0 (MQ below (mu_Qv (fun (S9 : (Nat → Int32)) => (wR ka qa b0 b1 a0 a1 a2 a3 a4 a5 a6 a7 a8 a9 S9 a11 a12)) dC dI ((s_R_closeAbove_a10 b0 a4 a6 a7 a10 )) (A)) ([.ref (qa 0)] : List Value).toArray s 0 0 A) (F0 m 51 ls []) := by
            intro FF n
            induction n with
            | zero =>
              intro k x2 ya10 H locs ls eu u1 u2
              exfalso; omega
            | succ n ih =>
              intro k x2 ya10 H locs ls eu u1 u2 hF hP hD hS hl KK
              refine lv_iload_n hx hb d_R_closeAbove_51 rfl (lv_at hl 0 rfl) ?_
              refine lv_aload_n hx hb d_R_closeAbove_52 rfl (lv_at hl 2 rfl) ?_
              refine va_get (D := (dC, dI)) (ci := 3) (v := .ref (qa 8)) (C := R_R) (T := F_R) (N := 15) hx hb hts i_R hown hK hP 0 rfl rfl 8 (by decide) (hts _ k_53) (fun _ h9 => h9) rfl d_R_closeAbove_53 ?_
              refine lv_iload_n hx hb d_R_closeAbove_56 rfl (lv_at hl 1 rfl) ?_
              have hi_17 : vp_in x1 13 := by first | with_reducible assumption | exact in_et et (leT hT et h2 (by with_reducible assumption)) | exact in_et et h2 | exact in_et eu (leT hT eu u2 (by with_reducible assumption)) | exact in_et eu u2
              refine va_iald (D := (dC, dI)) (f := a7) hx hb hK hP 8 7 rfl rfl hi_17 d_R_closeAbove_57 ?_
              refine lv_icmp_ge (tgt := 104) hx hb d_R_closeAbove_58 (by decide) (fun c_18 => ?_) (fun c_18 => ?_)
              · have c_18 : (a7 x1.toNatClampNeg) ≤ x2 := c_18
                obtain rfl : FF = (x2, ya10) := by rw [← hF, lfin_R_closeAbove_51_s, if_pos c_18]
                exact KK _ _ _ hP hD hS (lv_sub hl [0, 1, 2] rfl)
              · have c_18 : ¬ ((a7 x1.toNatClampNeg) ≤ x2) := c_18
                refine lv_aload_n hx hb d_R_closeAbove_61 rfl (lv_at hl 2 rfl) ?_
                refine va_get (D := (dC, dI)) (ci := 3) (v := .ref (qa 11)) (C := R_R) (T := F_R) (N := 15) hx hb hts i_R hown hK hP 0 rfl rfl 11 (by decide) (hts _ k_45) (fun _ h9 => h9) rfl d_R_closeAbove_62 ?_
                refine lv_iload_n hx hb d_R_closeAbove_65 rfl (lv_at hl 1 rfl) ?_
                refine lv_dup2_11 hx hb d_R_closeAbove_66 rfl rfl ?_
                have hi_19 : vp_in x1 13 := by first | with_reducible assumption | exact in_et et (leT hT et h2 (by with_reducible assumption)) | exact in_et et h2 | exact in_et eu (leT hT eu u2 (by with_reducible assumption)) | exact in_et eu u2
                refine va_iald (D := (dC, dI)) (f := ya10) hx hb hK hP 11 10 rfl rfl hi_19 d_R_closeAbove_67 ?_
                refine lv_aload_n hx hb d_R_closeAbove_68 rfl (lv_at hl 2 rfl) ?_
                refine va_get (D := (dC, dI)) (ci := 3) (v := .ref (qa 11)) (C := R_R) (T := F_R) (N := 15) hx hb hts i_R hown hK hP 0 rfl rfl 11 (by decide) (hts _ k_45) (fun _ h9 => h9) rfl d_R_closeAbove_69 ?_
                refine lv_aload_n hx hb d_R_closeAbove_72 rfl (lv_at hl 2 rfl) ?_
                refine va_get (D := (dC, dI)) (ci := 3) (v := .ref (qa 7)) (C := R_R) (T := F_R) (N := 15) hx hb hts i_R hown hK hP 0 rfl rfl 7 (by decide) (hts _ k_54) (fun _ h9 => h9) rfl d_R_closeAbove_73 ?_
                refine lv_iconst (v := (4 : Int32)) hx hb d_R_closeAbove_76 (by decide +kernel) ?_
                refine lv_iload_n hx hb d_R_closeAbove_77 rfl (lv_at hl 1 rfl) ?_
                refine lv_imul hx hb d_R_closeAbove_78 ?_
                refine lv_iload_n hx hb d_R_closeAbove_79 rfl (lv_at hl 0 rfl) ?_
                refine lv_iadd hx hb d_R_closeAbove_80 ?_
                have hi_20 : vp_in (((4 : Int32) * x1) + x2) 52 := by first | with_reducible assumption | exact jn_dc (by with_reducible assumption) et (rltDc hdc et h2 (by with_reducible assumption) (by with_reducible assumption)) | exact jn_dc (by first | with_reducible assumption | exact in_et et (leT hT et h2 (by with_reducible assumption)) | exact in_et et h2 | exact in_et eu (leT hT eu u2 (by with_reducible assumption)) | exact in_et eu u2) eu (rltDc hdc eu u2 (by with_reducible assumption) (by first | with_reducible assumption | exact in_et et (leT hT et h2 (by with_reducible assumption)) | exact in_et et h2 | exact in_et eu (leT hT eu u2 (by with_reducible assumption)) | exact in_et eu u2))
                refine va_iald (D := (dC, dI)) (f := a6) hx hb hK hP 7 6 rfl rfl hi_20 d_R_closeAbove_81 ?_
                have hi_21 : vp_in (a6 (((4 : Int32) * x1) + x2).toNatClampNeg) 13 := by exact dir_in hdi (by with_reducible assumption)
                refine va_iald (D := (dC, dI)) (f := ya10) hx hb hK hP 11 10 rfl rfl hi_21 d_R_closeAbove_82 ?_
                refine lv_iconst (v := (1 : Int32)) hx hb d_R_closeAbove_83 (by decide +kernel) ?_
                refine lv_aload_n hx hb d_R_closeAbove_84 rfl (lv_at hl 2 rfl) ?_
                refine va_get (D := (dC, dI)) (ci := 3) (v := .ref (qa 7)) (C := R_R) (T := F_R) (N := 15) hx hb hts i_R hown hK hP 0 rfl rfl 7 (by decide) (hts _ k_54) (fun _ h9 => h9) rfl d_R_closeAbove_85 ?_
                refine lv_iconst (v := (4 : Int32)) hx hb d_R_closeAbove_88 (by decide +kernel) ?_
                refine lv_iload_n hx hb d_R_closeAbove_89 rfl (lv_at hl 1 rfl) ?_
                refine lv_imul hx hb d_R_closeAbove_90 ?_
                refine lv_iload_n hx hb d_R_closeAbove_91 rfl (lv_at hl 0 rfl) ?_
                refine lv_iadd hx hb d_R_closeAbove_92 ?_
                have hi_22 : vp_in (((4 : Int32) * x1) + x2) 52 := by first | with_reducible assumption | exact jn_dc (by with_reducible assumption) et (rltDc hdc et h2 (by with_reducible assumption) (by with_reducible assumption)) | exact jn_dc (by first | with_reducible assumption | exact in_et et (leT hT et h2 (by with_reducible assumption)) | exact in_et et h2 | exact in_et eu (leT hT eu u2 (by with_reducible assumption)) | exact in_et eu u2) eu (rltDc hdc eu u2 (by with_reducible assumption) (by first | with_reducible assumption | exact in_et et (leT hT et h2 (by with_reducible assumption)) | exact in_et et h2 | exact in_et eu (leT hT eu u2 (by with_reducible assumption)) | exact in_et eu u2))
                refine va_iald (D := (dC, dI)) (f := a6) hx hb hK hP 7 6 rfl rfl hi_22 d_R_closeAbove_93 ?_
                refine lv_ishl hx hb d_R_closeAbove_94 ?_
                refine lv_ior hx hb d_R_closeAbove_95 ?_
                refine lv_ior hx hb d_R_closeAbove_96 ?_
                have hi_23 : vp_in x1 13 := by first | with_reducible assumption | exact in_et et (leT hT et h2 (by with_reducible assumption)) | exact in_et et h2 | exact in_et eu (leT hT eu u2 (by with_reducible assumption)) | exact in_et eu u2
                refine va_iast (D := (dC, dI)) (f := ya10) hx hb hK hP hD hS 11 10 rfl rfl hi_23 d_R_closeAbove_97 (fun H locs hP hD hS => ?_)
                have hP : va_P (dC, dI) classes (wR ka qa b0 b1 a0 a1 a2 a3 a4 a5 a6 a7 a8 a9 (upd ya10 x1.toNatClampNeg ((ya10 x1.toNatClampNeg) ||| ((ya10 (a6 (((4 : Int32) * x1) + x2).toNatClampNeg).toNatClampNeg) ||| ((1 : Int32) <<< ((a6 (((4 : Int32) * x1) + x2).toNatClampNeg) &&& (31 : Int32)))))) a11 a12) H := hP
                have hD : va_D A (wR ka qa b0 b1 a0 a1 a2 a3 a4 a5 a6 a7 a8 a9 (upd ya10 x1.toNatClampNeg ((ya10 x1.toNatClampNeg) ||| ((ya10 (a6 (((4 : Int32) * x1) + x2).toNatClampNeg).toNatClampNeg) ||| ((1 : Int32) <<< ((a6 (((4 : Int32) * x1) + x2).toNatClampNeg) &&& (31 : Int32)))))) a11 a12) := hD
                refine lv_iinc (v := (x2 + (1 : Int32))) (lv' := [(2, .int (x2 + (1 : Int32))), (1, .int x1), (0, .ref (qa 0))]) hx hb d_R_closeAbove_98 hl (k := 0) rfl (by rw [of_p1]) (by decide) rfl (fun ls hl => ?_)
                refine lv_goto (tgt := 51) hx hb d_R_closeAbove_101 (by decide) ?_
                exact ih (k + 1) (x2 + (1 : Int32)) (upd ya10 x1.toNatClampNeg ((ya10 x1.toNatClampNeg) ||| ((ya10 (a6 (((4 : Int32) * x1) + x2).toNatClampNeg).toNatClampNeg) ||| ((1 : Int32) <<< ((a6 (((4 : Int32) * x1) + x2).toNatClampNeg) &&& (31 : Int32)))))) _ _ _ (by rw [eu]; exact nI_1 k) (by omega) (Nat.succ_le_succ (Nat.le_trans (Nat.le_of_lt (rltDc hdc eu u2 (by with_reducible assumption) (by first | with_reducible assumption | exact in_et et (leT hT et h2 (by with_reducible assumption)) | exact in_et et h2 | exact in_et eu (leT hT eu u2 (by with_reducible assumption)) | exact in_et eu u2))) (by decide))) (by rw [← hF, lfin_R_closeAbove_51_s, if_neg c_18]) hP hD hS (lv_sub hl [0, 1, 2] rfl) KK
          obtain ⟨g_24, hg_24⟩ : ∃ z, z = (lfin_R_closeAbove_51 b0 a4 a6 a7 x1 14 (0 : Int32) (upd ya10 x1.toNatClampNeg (0 : Int32))) := ⟨_, rfl⟩
          refine LOOP_51 g_24 14 0 (0 : Int32) (upd ya10 x1.toNatClampNeg (0 : Int32)) _ _ _ (rfl) (by omega) (by omega) hg_24.symm hP hD hS (lv_sub hl [0, 1, 2] rfl) (fun H locs ls hP hD hS hl => ?_)
          refine lv_iinc (v := (x1 + (1 : Int32))) (lv' := [(1, .int (x1 + (1 : Int32))), (2, .int (g_24.1)), (0, .ref (qa 0))]) hx hb d_R_closeAbove_104 hl (k := 1) rfl (by rw [of_p1]) (by decide) rfl (fun ls hl => ?_)
          refine lv_goto (tgt := 2) hx hb d_R_closeAbove_107 (by decide) ?_
          exact ih (k + 1) (x1 + (1 : Int32)) g_24.2 _ _ _ (by rw [et]; exact nI_1 k) (by omega) (by first | exact Nat.succ_le_succ (leT hT et h2 (by with_reducible assumption)) | exact Nat.succ_le_succ (Nat.le_trans (Nat.le_of_lt (rltDc hdc et h2 (by with_reducible assumption) (by with_reducible assumption))) (by decide))) (by subst hg_24; rw [← hG_a10, la10_R_closeAbove_2_s, if_neg c_1, if_pos c_3]) hP hD hS (lv_sub hl [0, 2] rfl)
  exact LOOP_2 14 1 (1 : Int32) a10 _ _ _ (rfl) (by omega) (by omega) (rfl) hP hD hS (lv_sub hl [0, 1] rfl)
