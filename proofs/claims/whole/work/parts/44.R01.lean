set_option maxHeartbeats 1000000 in
set_option maxRecDepth 100000 in
theorem c_R_findField (l : Launch) (dC : Nat → ClassId) (dI : Nat → Nat → Nat) (ka : Nat → ClassId) (qa : Nat → Nat) (sz : Nat) (b0 b1 : Int32) (a0 a1 a2 a3 a4 a5 a6 a7 a8 a9 a10 a11 a12 : Nat → Int32) (p1 p2 : Int32) (hpa : vPar a4) (hdi : vDir a6) (hdc : vDc a7) (hp1 : vp_in p1 13) (hp2 : vp_in p2 4) : Met l y_R_findField w_R_findField ({ frames := 0, cells := 0, slots := 0, locals := 0 } : Room) (mu_P dC dI (wR ka qa b0 b1 a0 a1 a2 a3 a4 a5 a6 a7 a8 a9 a10 a11 a12) (tR ka) sz [.ref (qa 0), .int p1, .int p2]) (mu_Q (fun (S9 : (Nat → Int32)) => (wR ka qa b0 b1 a0 a1 a2 a3 a4 a5 a6 a7 a8 a9 a10 a11 S9)) dC dI (f_R_findField a4 a6 a7 a8 a12 p1 p2) ((s_R_findField_a12 a4 a6 a7 a8 a12 p1 p2)) (va_A (wR ka qa b0 b1 a0 a1 a2 a3 a4 a5 a6 a7 a8 a9 a10 a11 a12) sz)) 0 0 (va_A (wR ka qa b0 b1 a0 a1 a2 a3 a4 a5 a6 a7 a8 a9 a10 a11 a12) sz) := by
  refine Met.ofW (cc := b_R_findField) (maxL := 7) (ret := (some .int)) (by decide) rfl ?_
  intro p e s m args below meth c s₁ B hml hv
  obtain ⟨rfl, hsz, hP, hK, hN, hD0⟩ := hv
  have hx := B.exec
  have hb := B.bytes
  have hr := B.returns
  have hts := tl_of (atoms_spec (ws := w_R_findField) B.pre)
  have hown : s.vm.findClass R_R = some m.cls := findClass_of_methodNamed B.named
  have hlocks := B.notSynchronized
  subst hsz
  have hD := hD0.self (sz := s.heap.size)
  generalize hAe : va_A (wR ka qa b0 b1 a0 a1 a2 a3 a4 a5 a6 a7 a8 a9 a10 a11 a12) s.heap.size = A at hD ⊢
  have hA : ∀ q : Nat, s.heap.size ≤ q → A q := fun q h => by rw [← hAe]; exact Or.inr h
  have hS : va_S A s.heap s.heap [] := va_S.rf
  have hl := lv_entry ([.ref (qa 0), .int p1, .int p2]) (n := 7) (Nat.le_of_ble_eq_true rfl)
  rw [lg_entry_eq]
  generalize (lg_sl ([.ref (qa 0), .int p1, .int p2]) ++ List.replicate (7 - (lg_sl ([.ref (qa 0), .int p1, .int p2])).length) Slot.unset).toArray = ls at hl ⊢
  have hl : lv_has ls 7 [(0, .ref (qa 0)), (1, .int p1), (2, .int p2)] := hl
  refine lv_iconst (v := (0 : Int32)) hx hb d_R_findField_0 (by decide +kernel) ?_
  refine lv_istore_n (lv' := [(3, .int (0 : Int32)), (0, .ref (qa 0)), (1, .int p1), (2, .int p2)]) hx hb d_R_findField_1 rfl hl (by decide) rfl (fun ls hl => ?_)
  refine lv_iconst (v := (1 : Int32)) hx hb d_R_findField_2 (by decide +kernel) ?_
  refine lv_istore (lv' := [(4, .int (1 : Int32)), (3, .int (0 : Int32)), (0, .ref (qa 0)), (1, .int p1), (2, .int p2)]) hx hb d_R_findField_3 hl (by decide) rfl (fun ls hl => ?_)
  refine lv_aload_n hx hb d_R_findField_5 rfl (lv_at hl 2 rfl) ?_
  refine va_get (D := (dC, dI)) (ci := 3) (v := .ref (qa 13)) (C := R_R) (T := F_R) (N := 15) hx hb hts i_R hown hK hP 0 rfl rfl 13 (by decide) (hts _ k_58) (fun _ h9 => h9) rfl d_R_findField_6 ?_
  refine lv_iconst (v := (0 : Int32)) hx hb d_R_findField_9 (by decide +kernel) ?_
  refine lv_iload_n hx hb d_R_findField_10 rfl (lv_at hl 3 rfl) ?_
  have hi_1 : vp_in (0 : Int32) 80 := by exact in80_0
  refine va_iast (D := (dC, dI)) (f := a12) hx hb hK hP hD hS 13 12 rfl rfl hi_1 d_R_findField_11 (fun H locs hP hD hS => ?_)
  have hP : va_P (dC, dI) classes (wR ka qa b0 b1 a0 a1 a2 a3 a4 a5 a6 a7 a8 a9 a10 a11 (upd a12 (0 : Int32).toNatClampNeg p1)) H := hP
  have hD : va_D A (wR ka qa b0 b1 a0 a1 a2 a3 a4 a5 a6 a7 a8 a9 a10 a11 (upd a12 (0 : Int32).toNatClampNeg p1)) := hD
  have LOOP_12 : ∀ (n k : Nat) (x3 : Int32) (x4 : Int32) (ya12 : (Nat → Int32)) (H : Heap) (locs : List Loc) (ls : Array Slot), fInv x3 x4 ya12 n → lr_R_findField_12 a4 a6 a7 a8 p1 p2  n x3 x4 ya12 = (f_R_findField a4 a6 a7 a8 a12 p1 p2) → la12_R_findField_12 a4 a6 a7 a8 p1 p2  n x3 x4 ya12 = (s_R_findField_a12 a4 a6 a7 a8 a12 p1 p2) → va_P (dC, dI) classes (wR ka qa b0 b1 a0 a1 a2 a3 a4 a5 a6 a7 a8 a9 a10 a11 ya12) H → va_D A (wR ka qa b0 b1 a0 a1 a2 a3 a4 a5 a6 a7 a8 a9 a10 a11 ya12) → va_S A s.heap H locs → lv_has ls 7 [(3, .int x3), (4, .int x4), (0, .ref (qa 0)), (1, .int p1), (2, .int p2)] → W p l e (headSpec w_R_findField ({ frames := 0, cells := 0, slots := 0, locals := 0 } : Room)).room s m ([.ref (qa 0), .int p1, .int p2] : List Value).toArray below meth c H locs 0 0 (MQ below (mu_Q (fun (S9 : (Nat → Int32)) => (wR ka qa b0 b1 a0 a1 a2 a3 a4 a5 a6 a7 a8 a9 a10 a11 S9)) dC dI (f_R_findField a4 a6 a7 a8 a12 p1 p2) ((s_R_findField_a12 a4 a6 a7 a8 a12 p1 p2)) (A)) ([.ref (qa 0), .int p1, .int p2] : List Value).toArray s 0 0 A) (F0 m 12 ls []) := by
    intro n
    induction n with
    | zero =>
      intro k x3 x4 ya12 H locs ls
      intro hv; exact (fI_0 hv).elim
    | succ n ih =>
      intro k x3 x4 ya12 H locs ls hv hF hG_a12 hP hD hS hl
      obtain ⟨dn, U, hd, hu1, hu2, hu3, hu4⟩ := hv
      refine lv_iload hx hb d_R_findField_12 (lv_at hl 1 rfl) ?_
      refine lv_if_le (tgt := 139) hx hb d_R_findField_14 (by decide) (fun c_2 => ?_) (fun c_2 => ?_)
      · have c_2 : x4 ≤ (0 : Int32) := c_2
        refine lv_iconst (v := (0 : Int32)) hx hb d_R_findField_139 (by decide +kernel) ?_
        have hP9 : va_P (dC, dI) classes (wR ka qa b0 b1 a0 a1 a2 a3 a4 a5 a6 a7 a8 a9 a10 a11 ya12) H := hP
        exact W.iret (v := (0 : Int32)) hx hb hr (fun t ht hW => ⟨⟨(0 : Int32), (ya12), rfl, ⟨by rw [← hF, lr_R_findField_12_s, if_pos c_2], (by rw [← hG_a12, la12_R_findField_12_s, if_pos c_2])⟩, hp_at ht hP9⟩, hS.F ht⟩) hS.2.2 d_R_findField_140
      · have c_2 : ¬ (x4 ≤ (0 : Int32)) := c_2
        refine lv_iinc (v := (x4 + (-1 : Int32))) (lv' := [(4, .int (x4 + (-1 : Int32))), (3, .int x3), (0, .ref (qa 0)), (1, .int p1), (2, .int p2)]) hx hb d_R_findField_17 hl (k := 1) rfl (by rw [of_m1]) (by decide) rfl (fun ls hl => ?_)
        refine lv_aload_n hx hb d_R_findField_20 rfl (lv_at hl 2 rfl) ?_
        refine va_get (D := (dC, dI)) (ci := 3) (v := .ref (qa 13)) (C := R_R) (T := F_R) (N := 15) hx hb hts i_R hown hK hP 0 rfl rfl 13 (by decide) (hts _ k_58) (fun _ h9 => h9) rfl d_R_findField_21 ?_
        refine lv_iload hx hb d_R_findField_24 (lv_at hl 0 rfl) ?_
        have hi_3 : vp_in (x4 + (-1 : Int32)) 80 := by exact ff_ix hd (by omega) (by with_reducible assumption)
        refine va_iald (D := (dC, dI)) (f := ya12) hx hb hK hP 13 12 rfl rfl hi_3 d_R_findField_26 ?_
        refine lv_topi (fun x5 hx5 => ?_)
        have hx5i : vp_in x5 13 := by rw [hx5]; exact ff_t hd (by omega) (by with_reducible assumption) hu4
        refine lv_istore (lv' := [(5, .int x5), (4, .int (x4 + (-1 : Int32))), (3, .int x3), (0, .ref (qa 0)), (1, .int p1), (2, .int p2)]) hx hb d_R_findField_27 hl (by decide) rfl (fun ls hl => ?_)
        refine lv_aload_n hx hb d_R_findField_29 rfl (lv_at hl 3 rfl) ?_
        refine va_get (D := (dC, dI)) (ci := 3) (v := .ref (qa 9)) (C := R_R) (T := F_R) (N := 15) hx hb hts i_R hown hK hP 0 rfl rfl 9 (by decide) (hts _ k_55) (fun _ h9 => h9) rfl d_R_findField_30 ?_
        refine lv_iconst (v := (4 : Int32)) hx hb d_R_findField_33 (by decide +kernel) ?_
        refine lv_iload hx hb d_R_findField_34 (lv_at hl 0 rfl) ?_
        refine lv_imul hx hb d_R_findField_36 ?_
        refine lv_iload_n hx hb d_R_findField_37 rfl (lv_at hl 5 rfl) ?_
        refine lv_iadd hx hb d_R_findField_38 ?_
        have hi_4 : vp_in (((4 : Int32) * x5) + p2) 52 := by first | with_reducible assumption | exact jn_52 (by first | with_reducible assumption | exact in_et et (leT hT et h2 (by with_reducible assumption)) | exact in_et et h2 | exact in_et eu (leT hT eu u2 (by with_reducible assumption)) | exact in_et eu u2) (by first | with_reducible assumption | exact jn_name (by with_reducible assumption))
        refine va_iald (D := (dC, dI)) (f := a8) hx hb hK hP 9 8 rfl rfl hi_4 d_R_findField_39 ?_
        refine lv_if_lt (tgt := 46) hx hb d_R_findField_40 (by decide) (fun c_5 => ?_) (fun c_5 => ?_)
        · have c_5 : (a8 (((4 : Int32) * x5) + p2).toNatClampNeg) < (0 : Int32) := c_5
          refine lv_iload_n hx hb d_R_findField_46 rfl (lv_at hl 2 rfl) ?_
          refine lv_iload hx hb d_R_findField_47 (lv_at hl 0 rfl) ?_
          refine lv_ishr hx hb d_R_findField_49 ?_
          refine lv_iconst (v := (1 : Int32)) hx hb d_R_findField_50 (by decide +kernel) ?_
          refine lv_iand hx hb d_R_findField_51 ?_
          refine lv_if_eq (tgt := 58) hx hb d_R_findField_52 (by decide) (fun c_6 => ?_) (fun c_6 => ?_)
          · have c_6 : ((x3 >>> (x5 &&& (31 : Int32))) &&& (1 : Int32)) = (0 : Int32) := c_6
            refine lv_iload_n hx hb d_R_findField_58 rfl (lv_at hl 2 rfl) ?_
            refine lv_iconst (v := (1 : Int32)) hx hb d_R_findField_59 (by decide +kernel) ?_
            refine lv_iload hx hb d_R_findField_60 (lv_at hl 0 rfl) ?_
            refine lv_ishl hx hb d_R_findField_62 ?_
            refine lv_ior hx hb d_R_findField_63 ?_
            refine lv_istore_n (lv' := [(3, .int (x3 ||| ((1 : Int32) <<< (x5 &&& (31 : Int32))))), (5, .int x5), (4, .int (x4 + (-1 : Int32))), (0, .ref (qa 0)), (1, .int p1), (2, .int p2)]) hx hb d_R_findField_64 rfl hl (by decide) rfl (fun ls hl => ?_)
            refine lv_aload_n hx hb d_R_findField_65 rfl (lv_at hl 3 rfl) ?_
            refine va_get (D := (dC, dI)) (ci := 3) (v := .ref (qa 5)) (C := R_R) (T := F_R) (N := 15) hx hb hts i_R hown hK hP 0 rfl rfl 5 (by decide) (hts _ k_50) (fun _ h9 => h9) rfl d_R_findField_66 ?_
            refine lv_iload hx hb d_R_findField_69 (lv_at hl 1 rfl) ?_
            have hi_7 : vp_in x5 13 := by first | with_reducible assumption | exact in_et et (leT hT et h2 (by with_reducible assumption)) | exact in_et et h2 | exact in_et eu (leT hT eu u2 (by with_reducible assumption)) | exact in_et eu u2
            refine va_iald (D := (dC, dI)) (f := a4) hx hb hK hP 5 4 rfl rfl hi_7 d_R_findField_71 ?_
            refine lv_if_le (tgt := 92) hx hb d_R_findField_72 (by decide) (fun c_8 => ?_) (fun c_8 => ?_)
            · have c_8 : (a4 x5.toNatClampNeg) ≤ (0 : Int32) := c_8
              refine lv_aload_n hx hb d_R_findField_92 rfl (lv_at hl 3 rfl) ?_
              refine va_get (D := (dC, dI)) (ci := 3) (v := .ref (qa 8)) (C := R_R) (T := F_R) (N := 15) hx hb hts i_R hown hK hP 0 rfl rfl 8 (by decide) (hts _ k_53) (fun _ h9 => h9) rfl d_R_findField_93 ?_
              refine lv_iload hx hb d_R_findField_96 (lv_at hl 1 rfl) ?_
              have hi_9 : vp_in x5 13 := by first | with_reducible assumption | exact in_et et (leT hT et h2 (by with_reducible assumption)) | exact in_et et h2 | exact in_et eu (leT hT eu u2 (by with_reducible assumption)) | exact in_et eu u2
              refine va_iald (D := (dC, dI)) (f := a7) hx hb hK hP 8 7 rfl rfl hi_9 d_R_findField_98 ?_
              refine lv_iconst (v := (1 : Int32)) hx hb d_R_findField_99 (by decide +kernel) ?_
              refine lv_isub hx hb d_R_findField_100 ?_
              refine lv_istore (lv' := [(6, .int ((a7 x5.toNatClampNeg) - (1 : Int32))), (3, .int (x3 ||| ((1 : Int32) <<< (x5 &&& (31 : Int32))))), (5, .int x5), (4, .int (x4 + (-1 : Int32))), (0, .ref (qa 0)), (1, .int p1), (2, .int p2)]) hx hb d_R_findField_101 hl (by decide) rfl (fun ls hl => ?_)
              have LOOP_103 : ∀ (FF : Int32 × Int32 × (Nat → Int32)) (n k : Nat) (x4 : Int32) (x6 : Int32) (ya12 : (Nat → Int32)) (H : Heap) (locs : List Loc) (ls : Array Slot), gInv (dn + 4) x4 x6 ya12 n → lfin_R_findField_103 a4 a6 a7 a8 p1 p2 x5 n x4 x6 ya12 = FF → va_P (dC, dI) classes (wR ka qa b0 b1 a0 a1 a2 a3 a4 a5 a6 a7 a8 a9 a10 a11 ya12) H → va_D A (wR ka qa b0 b1 a0 a1 a2 a3 a4 a5 a6 a7 a8 a9 a10 a11 ya12) → va_S A s.heap H locs → lv_has ls 7 [(4, .int x4), (6, .int x6), (3, .int (x3 ||| ((1 : Int32) <<< (x5 &&& (31 : Int32))))), (5, .int x5), (0, .ref (qa 0)), (1, .int p1), (2, .int p2)] → (∀ (H : Heap) (locs : List Loc) (ls : Array Slot), va_P (dC, dI) classes (wR ka qa b0 b1 a0 a1 a2 a3 a4 a5 a6 a7 a8 a9 a10 a11 FF.2.2) H → va_D A (wR ka qa b0 b1 a0 a1 a2 a3 a4 a5 a6 a7 a8 a9 a10 a11 FF.2.2) → va_S A s.heap H locs → lv_has ls 7 [(4, .int FF.1), (6, .int FF.2.1), (3, .int (x3 ||| ((1 : Int32) <<< (x5 &&& (31 : Int32))))), (5, .int x5), (0, .ref (qa 0)), (1, .int p1), (2, .int p2)] → W p l e (headSpec w_R_findField ({ frames := 0, cells := 0, slots := 0, locals := 0 } : Room)).room s m ([.ref (qa 0), .int p1, .int p2] : List Value).toArray below meth c H locs 0 0 (MQ below (mu_Q (fun (S9 : (Nat → Int32)) => (wR ka qa b0 b1 a0 a1 a2 a3 a4 a5 a6 a7 a8 a9 a10 a11 S9)) dC dI (f_R_findField a4 a6 a7 a8 a12 p1 p2) ((s_R_findField_a12 a4 a6 a7 a8 a12 p1 p2)) (A)) ([.ref (qa 0), .int p1, .int p2] : List Value).toArray s 0 0 A) (F0 m 136 ls [])) → W p l e (headSpec w_R_findField ({ frames := 0, cells := 0, slots := 0, locals := 0 } : Room)).room s m ([.ref (qa 0), .int p1, .int p2] : List Value).toArray below meth c H locs 0 0 (MQ below (mu_Q (fun (S9 : (Nat → Int32)) => (wR ka qa b0 b1 a0 a1 a2 a3 a4 a5 a6 a7 a8 a9 a10 a11 S9)) dC dI (f_R_findField a4 a6 a7 a8 a12 p1 p2) ((s_R_findField_a12 a4 a6 a7 a8 a12 p1 p2)) (A)) ([.ref (qa 0), .int p1, .int p2] : List Value).toArray s 0 0 A) (F0 m 103 ls []) := by
                intro FF n
                induction n with
                | zero =>
                  intro k x4 x6 ya12 H locs ls
                  intro gv; exact (gI_0 gv).elim
                | succ n ih =>
                  intro k x4 x6 ya12 H locs ls gv hF hP hD hS hl KK
                  refine lv_iload hx hb d_R_findField_103 (lv_at hl 1 rfl) ?_
                  refine lv_if_lt (tgt := 136) hx hb d_R_findField_105 (by decide) (fun c_10 => ?_) (fun c_10 => ?_)
                  · have c_10 : x6 < (0 : Int32) := c_10
                    obtain rfl : FF = (x4, x6, ya12) := by subst hx5; rw [← hF, lfin_R_findField_103_s, if_pos c_10]
                    exact KK _ _ _ hP hD hS (lv_sub hl [0, 1, 2, 3, 4, 5, 6] rfl)
                  · have c_10 : ¬ (x6 < (0 : Int32)) := c_10
                    refine lv_aload_n hx hb d_R_findField_108 rfl (lv_at hl 4 rfl) ?_
                    refine va_get (D := (dC, dI)) (ci := 3) (v := .ref (qa 13)) (C := R_R) (T := F_R) (N := 15) hx hb hts i_R hown hK hP 0 rfl rfl 13 (by decide) (hts _ k_58) (fun _ h9 => h9) rfl d_R_findField_109 ?_
                    refine lv_iload hx hb d_R_findField_112 (lv_at hl 0 rfl) ?_
                    refine lv_aload_n hx hb d_R_findField_114 rfl (lv_at hl 4 rfl) ?_
                    refine va_get (D := (dC, dI)) (ci := 3) (v := .ref (qa 7)) (C := R_R) (T := F_R) (N := 15) hx hb hts i_R hown hK hP 0 rfl rfl 7 (by decide) (hts _ k_54) (fun _ h9 => h9) rfl d_R_findField_115 ?_
                    refine lv_iconst (v := (4 : Int32)) hx hb d_R_findField_118 (by decide +kernel) ?_
                    refine lv_iload hx hb d_R_findField_119 (lv_at hl 3 rfl) ?_
                    refine lv_imul hx hb d_R_findField_121 ?_
                    refine lv_iload hx hb d_R_findField_122 (lv_at hl 1 rfl) ?_
                    refine lv_iadd hx hb d_R_findField_124 ?_
                    have hi_11 : vp_in (((4 : Int32) * x5) + x6) 52 := by exact gI_d hx5i gv (by with_reducible assumption)
                    refine va_iald (D := (dC, dI)) (f := a6) hx hb hK hP 7 6 rfl rfl hi_11 d_R_findField_125 ?_
                    have hi_12 : vp_in x4 80 := by exact gI_ix gv (by with_reducible assumption)
                    refine va_iast (D := (dC, dI)) (f := ya12) hx hb hK hP hD hS 13 12 rfl rfl hi_12 d_R_findField_126 (fun H locs hP hD hS => ?_)
                    have hP : va_P (dC, dI) classes (wR ka qa b0 b1 a0 a1 a2 a3 a4 a5 a6 a7 a8 a9 a10 a11 (upd ya12 x4.toNatClampNeg (a6 (((4 : Int32) * x5) + x6).toNatClampNeg))) H := hP
                    have hD : va_D A (wR ka qa b0 b1 a0 a1 a2 a3 a4 a5 a6 a7 a8 a9 a10 a11 (upd ya12 x4.toNatClampNeg (a6 (((4 : Int32) * x5) + x6).toNatClampNeg))) := hD
                    refine lv_iinc (v := (x4 + (1 : Int32))) (lv' := [(4, .int (x4 + (1 : Int32))), (6, .int x6), (3, .int (x3 ||| ((1 : Int32) <<< (x5 &&& (31 : Int32))))), (5, .int x5), (0, .ref (qa 0)), (1, .int p1), (2, .int p2)]) hx hb d_R_findField_127 hl (k := 0) rfl (by rw [of_p1]) (by decide) rfl (fun ls hl => ?_)
                    refine lv_iinc (v := (x6 + (-1 : Int32))) (lv' := [(6, .int (x6 + (-1 : Int32))), (4, .int (x4 + (1 : Int32))), (3, .int (x3 ||| ((1 : Int32) <<< (x5 &&& (31 : Int32))))), (5, .int x5), (0, .ref (qa 0)), (1, .int p1), (2, .int p2)]) hx hb d_R_findField_130 hl (k := 1) rfl (by rw [of_m1]) (by decide) rfl (fun ls hl => ?_)
                    refine lv_goto (tgt := 103) hx hb d_R_findField_133 (by decide) ?_
                    exact ih k (x4 + (1 : Int32)) (x6 + (-1 : Int32)) (upd ya12 x4.toNatClampNeg (a6 (((4 : Int32) * x5) + x6).toNatClampNeg)) _ _ _ (gI_step (dir_in hdi (by with_reducible assumption)) gv (by with_reducible assumption)) (by subst hx5; rw [← hF, lfin_R_findField_103_s, if_neg c_10]) hP hD hS (lv_sub hl [1, 0, 2, 3, 4, 5, 6] rfl) KK
              have gv0 : gInv (dn + 4) (x4 + (-1 : Int32)) ((a7 x5.toNatClampNeg) - (1 : Int32)) ya12 14 := gI_start (ff_m hd (by omega) (by with_reducible assumption)) (hdc _ (in_lt hx5i)) (by omega) (by omega) (fun i hi => hu4 i (by omega))
              obtain ⟨g_13, hg_13⟩ : ∃ z, z = (lfin_R_findField_103 a4 a6 a7 a8 p1 p2 x5 14 (x4 + (-1 : Int32)) ((a7 x5.toNatClampNeg) - (1 : Int32)) ya12) := ⟨_, rfl⟩
              refine LOOP_103 g_13 14 0 (x4 + (-1 : Int32)) ((a7 x5.toNatClampNeg) - (1 : Int32)) ya12 _ _ _ (gv0) hg_13.symm hP hD hS (lv_sub hl [3, 0, 1, 2, 4, 5, 6] rfl) (fun H locs ls hP hD hS hl => ?_)
              have hres := ff_push hd hu1 hu2 hu3 (by with_reducible assumption) hx5i (by with_reducible assumption) (gI_res (a4 := a4) (a7 := a7) (a8 := a8) (p1 := p1) (p2 := p2) hdi hx5i 14 _ _ _ _ gv0)
              rw [← hg_13] at hres
              refine lv_goto (tgt := 12) hx hb d_R_findField_136 (by decide) ?_
              exact ih k (x3 ||| ((1 : Int32) <<< (x5 &&& (31 : Int32)))) (g_13.1) g_13.2.2 _ _ _ (hres) (by subst hx5; subst hg_13; rw [← hF, lr_R_findField_12_s, if_neg c_2, if_pos c_5, if_pos c_6, if_pos c_8]) (by subst hx5; subst hg_13; rw [← hG_a12, la12_R_findField_12_s, if_neg c_2, if_pos c_5, if_pos c_6, if_pos c_8]) hP hD hS (lv_sub hl [2, 0, 4, 5, 6] rfl)
            · have c_8 : ¬ ((a4 x5.toNatClampNeg) ≤ (0 : Int32)) := c_8
              refine lv_aload_n hx hb d_R_findField_75 rfl (lv_at hl 3 rfl) ?_
              refine va_get (D := (dC, dI)) (ci := 3) (v := .ref (qa 13)) (C := R_R) (T := F_R) (N := 15) hx hb hts i_R hown hK hP 0 rfl rfl 13 (by decide) (hts _ k_58) (fun _ h9 => h9) rfl d_R_findField_76 ?_
              refine lv_iload hx hb d_R_findField_79 (lv_at hl 2 rfl) ?_
              refine lv_aload_n hx hb d_R_findField_81 rfl (lv_at hl 3 rfl) ?_
              refine va_get (D := (dC, dI)) (ci := 3) (v := .ref (qa 5)) (C := R_R) (T := F_R) (N := 15) hx hb hts i_R hown hK hP 0 rfl rfl 5 (by decide) (hts _ k_50) (fun _ h9 => h9) rfl d_R_findField_82 ?_
              refine lv_iload hx hb d_R_findField_85 (lv_at hl 1 rfl) ?_
              have hi_14 : vp_in x5 13 := by first | with_reducible assumption | exact in_et et (leT hT et h2 (by with_reducible assumption)) | exact in_et et h2 | exact in_et eu (leT hT eu u2 (by with_reducible assumption)) | exact in_et eu u2
              refine va_iald (D := (dC, dI)) (f := a4) hx hb hK hP 5 4 rfl rfl hi_14 d_R_findField_87 ?_
              have hi_15 : vp_in (x4 + (-1 : Int32)) 80 := by exact ff_ix hd (by omega) (by with_reducible assumption)
              refine va_iast (D := (dC, dI)) (f := ya12) hx hb hK hP hD hS 13 12 rfl rfl hi_15 d_R_findField_88 (fun H locs hP hD hS => ?_)
              have hP : va_P (dC, dI) classes (wR ka qa b0 b1 a0 a1 a2 a3 a4 a5 a6 a7 a8 a9 a10 a11 (upd ya12 (x4 + (-1 : Int32)).toNatClampNeg (a4 x5.toNatClampNeg))) H := hP
              have hD : va_D A (wR ka qa b0 b1 a0 a1 a2 a3 a4 a5 a6 a7 a8 a9 a10 a11 (upd ya12 (x4 + (-1 : Int32)).toNatClampNeg (a4 x5.toNatClampNeg))) := hD
              refine lv_iinc (v := ((x4 + (-1 : Int32)) + (1 : Int32))) (lv' := [(4, .int ((x4 + (-1 : Int32)) + (1 : Int32))), (3, .int (x3 ||| ((1 : Int32) <<< (x5 &&& (31 : Int32))))), (5, .int x5), (0, .ref (qa 0)), (1, .int p1), (2, .int p2)]) hx hb d_R_findField_89 hl (k := 2) rfl (by rw [of_p1]) (by decide) rfl (fun ls hl => ?_)
              refine lv_aload_n hx hb d_R_findField_92 rfl (lv_at hl 3 rfl) ?_
              refine va_get (D := (dC, dI)) (ci := 3) (v := .ref (qa 8)) (C := R_R) (T := F_R) (N := 15) hx hb hts i_R hown hK hP 0 rfl rfl 8 (by decide) (hts _ k_53) (fun _ h9 => h9) rfl d_R_findField_93 ?_
              refine lv_iload hx hb d_R_findField_96 (lv_at hl 2 rfl) ?_
              have hi_16 : vp_in x5 13 := by first | with_reducible assumption | exact in_et et (leT hT et h2 (by with_reducible assumption)) | exact in_et et h2 | exact in_et eu (leT hT eu u2 (by with_reducible assumption)) | exact in_et eu u2
              refine va_iald (D := (dC, dI)) (f := a7) hx hb hK hP 8 7 rfl rfl hi_16 d_R_findField_98 ?_
              refine lv_iconst (v := (1 : Int32)) hx hb d_R_findField_99 (by decide +kernel) ?_
              refine lv_isub hx hb d_R_findField_100 ?_
              refine lv_istore (lv' := [(6, .int ((a7 x5.toNatClampNeg) - (1 : Int32))), (4, .int ((x4 + (-1 : Int32)) + (1 : Int32))), (3, .int (x3 ||| ((1 : Int32) <<< (x5 &&& (31 : Int32))))), (5, .int x5), (0, .ref (qa 0)), (1, .int p1), (2, .int p2)]) hx hb d_R_findField_101 hl (by decide) rfl (fun ls hl => ?_)
              have LOOP_103 : ∀ (FF : Int32 × Int32 × (Nat → Int32)) (n k : Nat) (x4 : Int32) (x6 : Int32) (ya12 : (Nat → Int32)) (H : Heap) (locs : List Loc) (ls : Array Slot), gInv (dn + 4) x4 x6 ya12 n → lfin_R_findField_103 a4 a6 a7 a8 p1 p2 x5 n x4 x6 ya12 = FF → va_P (dC, dI) classes (wR ka qa b0 b1 a0 a1 a2 a3 a4 a5 a6 a7 a8 a9 a10 a11 ya12) H → va_D A (wR ka qa b0 b1 a0 a1 a2 a3 a4 a5 a6 a7 a8 a9 a10 a11 ya12) → va_S A s.heap H locs → lv_has ls 7 [(4, .int x4), (6, .int x6), (3, .int (x3 ||| ((1 : Int32) <<< (x5 &&& (31 : Int32))))), (5, .int x5), (0, .ref (qa 0)), (1, .int p1), (2, .int p2)] → (∀ (H : Heap) (locs : List Loc) (ls : Array Slot), va_P (dC, dI) classes (wR ka qa b0 b1 a0 a1 a2 a3 a4 a5 a6 a7 a8 a9 a10 a11 FF.2.2) H → va_D A (wR ka qa b0 b1 a0 a1 a2 a3 a4 a5 a6 a7 a8 a9 a10 a11 FF.2.2) → va_S A s.heap H locs → lv_has ls 7 [(4, .int FF.1), (6, .int FF.2.1), (3, .int (x3 ||| ((1 : Int32) <<< (x5 &&& (31 : Int32))))), (5, .int x5), (0, .ref (qa 0)), (1, .int p1), (2, .int p2)] → W p l e (headSpec w_R_findField ({ frames := 0, cells := 0, slots := 0, locals := 0 } : Room)).room s m ([.ref (qa 0), .int p1, .int p2] : List Value).toArray below meth c H locs 0 0 (MQ below (mu_Q (fun (S9 : (Nat → Int32)) => (wR ka qa b0 b1 a0 a1 a2 a3 a4 a5 a6 a7 a8 a9 a10 a11 S9)) dC dI (f_R_findField a4 a6 a7 a8 a12 p1 p2) ((s_R_findField_a12 a4 a6 a7 a8 a12 p1 p2)) (A)) ([.ref (qa 0), .int p1, .int p2] : List Value).toArray s 0 0 A) (F0 m 136 ls [])) → W p l e (headSpec w_R_findField ({ frames := 0, cells := 0, slots := 0, locals := 0 } : Room)).room s m ([.ref (qa 0), .int p1, .int p2] : List Value).toArray below meth c H locs 0 0 (MQ below (mu_Q (fun (S9 : (Nat → Int32)) => (wR ka qa b0 b1 a0 a1 a2 a3 a4 a5 a6 a7 a8 a9 a10 a11 S9)) dC dI (f_R_findField a4 a6 a7 a8 a12 p1 p2) ((s_R_findField_a12 a4 a6 a7 a8 a12 p1 p2)) (A)) ([.ref (qa 0), .int p1, .int p2] : List Value).toArray s 0 0 A) (F0 m 103 ls []) := by
                intro FF n
                induction n with
                | zero =>
                  intro k x4 x6 ya12 H locs ls
                  intro gv; exact (gI_0 gv).elim
                | succ n ih =>
                  intro k x4 x6 ya12 H locs ls gv hF hP hD hS hl KK
                  refine lv_iload hx hb d_R_findField_103 (lv_at hl 1 rfl) ?_
                  refine lv_if_lt (tgt := 136) hx hb d_R_findField_105 (by decide) (fun c_17 => ?_) (fun c_17 => ?_)
                  · have c_17 : x6 < (0 : Int32) := c_17
                    obtain rfl : FF = (x4, x6, ya12) := by subst hx5; rw [← hF, lfin_R_findField_103_s, if_pos c_17]
                    exact KK _ _ _ hP hD hS (lv_sub hl [0, 1, 2, 3, 4, 5, 6] rfl)
                  · have c_17 : ¬ (x6 < (0 : Int32)) := c_17
                    refine lv_aload_n hx hb d_R_findField_108 rfl (lv_at hl 4 rfl) ?_
                    refine va_get (D := (dC, dI)) (ci := 3) (v := .ref (qa 13)) (C := R_R) (T := F_R) (N := 15) hx hb hts i_R hown hK hP 0 rfl rfl 13 (by decide) (hts _ k_58) (fun _ h9 => h9) rfl d_R_findField_109 ?_
                    refine lv_iload hx hb d_R_findField_112 (lv_at hl 0 rfl) ?_
                    refine lv_aload_n hx hb d_R_findField_114 rfl (lv_at hl 4 rfl) ?_
                    refine va_get (D := (dC, dI)) (ci := 3) (v := .ref (qa 7)) (C := R_R) (T := F_R) (N := 15) hx hb hts i_R hown hK hP 0 rfl rfl 7 (by decide) (hts _ k_54) (fun _ h9 => h9) rfl d_R_findField_115 ?_
                    refine lv_iconst (v := (4 : Int32)) hx hb d_R_findField_118 (by decide +kernel) ?_
                    refine lv_iload hx hb d_R_findField_119 (lv_at hl 3 rfl) ?_
                    refine lv_imul hx hb d_R_findField_121 ?_
                    refine lv_iload hx hb d_R_findField_122 (lv_at hl 1 rfl) ?_
                    refine lv_iadd hx hb d_R_findField_124 ?_
                    have hi_18 : vp_in (((4 : Int32) * x5) + x6) 52 := by exact gI_d hx5i gv (by with_reducible assumption)
                    refine va_iald (D := (dC, dI)) (f := a6) hx hb hK hP 7 6 rfl rfl hi_18 d_R_findField_125 ?_
                    have hi_19 : vp_in x4 80 := by exact gI_ix gv (by with_reducible assumption)
                    refine va_iast (D := (dC, dI)) (f := ya12) hx hb hK hP hD hS 13 12 rfl rfl hi_19 d_R_findField_126 (fun H locs hP hD hS => ?_)
                    have hP : va_P (dC, dI) classes (wR ka qa b0 b1 a0 a1 a2 a3 a4 a5 a6 a7 a8 a9 a10 a11 (upd ya12 x4.toNatClampNeg (a6 (((4 : Int32) * x5) + x6).toNatClampNeg))) H := hP
                    have hD : va_D A (wR ka qa b0 b1 a0 a1 a2 a3 a4 a5 a6 a7 a8 a9 a10 a11 (upd ya12 x4.toNatClampNeg (a6 (((4 : Int32) * x5) + x6).toNatClampNeg))) := hD
                    refine lv_iinc (v := (x4 + (1 : Int32))) (lv' := [(4, .int (x4 + (1 : Int32))), (6, .int x6), (3, .int (x3 ||| ((1 : Int32) <<< (x5 &&& (31 : Int32))))), (5, .int x5), (0, .ref (qa 0)), (1, .int p1), (2, .int p2)]) hx hb d_R_findField_127 hl (k := 0) rfl (by rw [of_p1]) (by decide) rfl (fun ls hl => ?_)
                    refine lv_iinc (v := (x6 + (-1 : Int32))) (lv' := [(6, .int (x6 + (-1 : Int32))), (4, .int (x4 + (1 : Int32))), (3, .int (x3 ||| ((1 : Int32) <<< (x5 &&& (31 : Int32))))), (5, .int x5), (0, .ref (qa 0)), (1, .int p1), (2, .int p2)]) hx hb d_R_findField_130 hl (k := 1) rfl (by rw [of_m1]) (by decide) rfl (fun ls hl => ?_)
                    refine lv_goto (tgt := 103) hx hb d_R_findField_133 (by decide) ?_
                    exact ih k (x4 + (1 : Int32)) (x6 + (-1 : Int32)) (upd ya12 x4.toNatClampNeg (a6 (((4 : Int32) * x5) + x6).toNatClampNeg)) _ _ _ (gI_step (dir_in hdi (by with_reducible assumption)) gv (by with_reducible assumption)) (by subst hx5; rw [← hF, lfin_R_findField_103_s, if_neg c_17]) hP hD hS (lv_sub hl [1, 0, 2, 3, 4, 5, 6] rfl) KK
              have gv0 : gInv (dn + 4) ((x4 + (-1 : Int32)) + (1 : Int32)) ((a7 x5.toNatClampNeg) - (1 : Int32)) (upd ya12 (x4 + (-1 : Int32)).toNatClampNeg (a4 x5.toNatClampNeg)) 14 := gI_start1 hd (by omega) (by with_reducible assumption) (hdc _ (in_lt hx5i)) (par_in hpa hx5i) hu4
              obtain ⟨g_20, hg_20⟩ : ∃ z, z = (lfin_R_findField_103 a4 a6 a7 a8 p1 p2 x5 14 ((x4 + (-1 : Int32)) + (1 : Int32)) ((a7 x5.toNatClampNeg) - (1 : Int32)) (upd ya12 (x4 + (-1 : Int32)).toNatClampNeg (a4 x5.toNatClampNeg))) := ⟨_, rfl⟩
              refine LOOP_103 g_20 14 0 ((x4 + (-1 : Int32)) + (1 : Int32)) ((a7 x5.toNatClampNeg) - (1 : Int32)) (upd ya12 (x4 + (-1 : Int32)).toNatClampNeg (a4 x5.toNatClampNeg)) _ _ _ (gv0) hg_20.symm hP hD hS (lv_sub hl [1, 0, 2, 3, 4, 5, 6] rfl) (fun H locs ls hP hD hS hl => ?_)
              have hres := ff_push hd hu1 hu2 hu3 (by with_reducible assumption) hx5i (by with_reducible assumption) (gI_res (a4 := a4) (a7 := a7) (a8 := a8) (p1 := p1) (p2 := p2) hdi hx5i 14 _ _ _ _ gv0)
              rw [← hg_20] at hres
              refine lv_goto (tgt := 12) hx hb d_R_findField_136 (by decide) ?_
              exact ih k (x3 ||| ((1 : Int32) <<< (x5 &&& (31 : Int32)))) (g_20.1) g_20.2.2 _ _ _ (hres) (by subst hx5; subst hg_20; rw [← hF, lr_R_findField_12_s, if_neg c_2, if_pos c_5, if_pos c_6, if_neg c_8]) (by subst hx5; subst hg_20; rw [← hG_a12, la12_R_findField_12_s, if_neg c_2, if_pos c_5, if_pos c_6, if_neg c_8]) hP hD hS (lv_sub hl [2, 0, 4, 5, 6] rfl)
          · have c_6 : ¬ (((x3 >>> (x5 &&& (31 : Int32))) &&& (1 : Int32)) = (0 : Int32)) := c_6
            refine lv_goto (tgt := 12) hx hb d_R_findField_55 (by decide) ?_
            exact ih k x3 (x4 + (-1 : Int32)) ya12 _ _ _ (ff_pop hd hu1 hu2 hu3 hu4 (by with_reducible assumption)) (by subst hx5; rw [← hF, lr_R_findField_12_s, if_neg c_2, if_pos c_5, if_neg c_6]) (by subst hx5; rw [← hG_a12, la12_R_findField_12_s, if_neg c_2, if_pos c_5, if_neg c_6]) hP hD hS (lv_sub hl [2, 1, 3, 4, 5] rfl)
        · have c_5 : ¬ ((a8 (((4 : Int32) * x5) + p2).toNatClampNeg) < (0 : Int32)) := c_5
          refine lv_iload hx hb d_R_findField_43 (lv_at hl 0 rfl) ?_
          have hP9 : va_P (dC, dI) classes (wR ka qa b0 b1 a0 a1 a2 a3 a4 a5 a6 a7 a8 a9 a10 a11 ya12) H := hP
          exact W.iret (v := x5) hx hb hr (fun t ht hW => ⟨⟨x5, (ya12), rfl, ⟨by subst hx5; rw [← hF, lr_R_findField_12_s, if_neg c_2, if_neg c_5], (by subst hx5; rw [← hG_a12, la12_R_findField_12_s, if_neg c_2, if_neg c_5])⟩, hp_at ht hP9⟩, hS.F ht⟩) hS.2.2 d_R_findField_45
  exact LOOP_12 80 0 (0 : Int32) (1 : Int32) (upd a12 (0 : Int32).toNatClampNeg p1) _ _ _ (fI_start hp1) (rfl) (rfl) hP hD hS (lv_sub hl [1, 0, 2, 3, 4] rfl)
