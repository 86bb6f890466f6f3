set_option maxHeartbeats 4000000 in
set_option maxRecDepth 100000 in
theorem whole_start {p : Program} {e : Env} {s : State} {m : MethodId} {below : List Frame} {meth : Method} {c : Code} (l : Launch) {b L : Nat} {xs : Nat → Int32} (hL : L ≤ 3072) (C0 : lw_At p s m meth c b L xs) : W p l e room_1 s m #[Value.ref b] below meth c s.heap [] 0 0 (lw_Z below #[Value.ref b] s) (entryFrame m ([Value.ref b] : List Value).toArray 4) := by
  obtain ⟨hx, hb, hr, hml, hown, hts0, hX, hbl, hlocks, hgv⟩ := id C0
  have hts : ∀ w ∈ lw_g, w.before #[Value.ref b] s = true := fun w hw => hts0 w (lw_g_in hw)
  have hA : ∀ q : Nat, s.heap.size ≤ q → (fun q : Nat => s.heap.size ≤ q) q := fun _ h => h
  have hbA : ¬ (fun q : Nat => s.heap.size ≤ q) b := Nat.not_le.mpr hbl
  have hN : NX s := by
    intro w hw hn
    cases w <;> first | exact va_Nw.of rfl (hts0 _ hw) | cases hn
  obtain ⟨c0, iS0, hKn0⟩ := u_known (C := R_W) (T := F_W) (N := 10) (n := 10) hts i_W (hts0 (.instantiable R_W 10) (by decide +kernel))
  obtain ⟨c1, iS1, hKn1⟩ := u_known (C := R_M) (T := F_M) (N := 5) (n := 5) hts i_M (hts0 (.instantiable R_M 5) (by decide +kernel))
  obtain ⟨c2, iS2, hKn2⟩ := u_known (C := R_O) (T := F_O) (N := 4) (n := 4) hts i_O (hts0 (.instantiable R_O 4) (by decide +kernel))
  obtain ⟨c3, iS3, hKn3⟩ := u_known (C := R_R) (T := F_R) (N := 15) (n := 15) hts i_R (hts0 (.instantiable R_R 15) (by decide +kernel))
  obtain ⟨dC, dI, hKc⟩ : ∃ (dC : Nat → ClassId) (dI : Nat → Nat → Nat), ∀ (k : Nat) (q : vw_C), classes[k]? = some q → u_Kn s q.1 q.2.1 q.2.2 (dC k) (dI k) := by
    refine ⟨fun k => if k = 0 then c0 else if k = 1 then c1 else if k = 2 then c2 else c3, fun k => if k = 0 then iS0 else if k = 1 then iS1 else if k = 2 then iS2 else iS3, ?_⟩
    intro k q hq
    match k, hq with
    | 0, hq => cases hq; exact hKn0
    | 1, hq => cases hq; exact hKn1
    | 2, hq => cases hq; exact hKn2
    | 3, hq => cases hq; exact hKn3
    | k + 4, hq => simp [classes] at hq
  have hS : va_S (fun q : Nat => s.heap.size ≤ q) s.heap s.heap [] := va_S.rf
  have hK : va_K (dC, dI) classes [] s := ⟨hKc, fun k q h => by simp at h⟩
  have hP : va_P (dC, dI) classes [] s.heap := fun k q h => by simp at h
  have hD : va_D (fun q : Nat => s.heap.size ≤ q) [] := ⟨fun i j p q h => by simp at h, fun k q h => by simp at h⟩
  have hl := lv_entry ([.ref b]) (n := 4) (Nat.le_of_ble_eq_true rfl)
  rw [lg_entry_eq]
  generalize (lg_sl ([.ref b]) ++ List.replicate (4 - (lg_sl ([.ref b])).length) Slot.unset).toArray = ls at hl ⊢
  have hl : lv_has ls 4 [(0, .ref b)] := hl
  refine va_new (ci := 2) (fs := [.null, .null, .null, .int 0]) (C := R_O) (T := F_O) (N := 4) hx hb hts i_O t_O t_O_ok hown (hts0 (.classLink R_law 7 R_O) (by decide +kernel)) (hts0 (.instantiable R_O 4) (by decide +kernel)) (hts0 (.initialized R_O) (by decide +kernel)) hK hP hD hS hA rfl (fun j hj => by rcases (show j = 0 ∨ j = 1 ∨ j = 2 ∨ j = 3 by omega) with rfl | rfl | rfl | rfl <;> rfl) (Nat.le_of_ble_eq_true rfl) (Nat.le_of_ble_eq_true rfl) d_law_0 (fun h0 H hP hD hS => ?_)
  have hP : va_P (dC, dI) classes (nO h0) H := hP
  have hD : va_D (fun q : Nat => s.heap.size ≤ q) (nO h0) := hD
  refine W.widen (k := 1) (n := 4) (by omega) (by omega) ?_
  refine lv_dup hx hb d_law_3 rfl ?_
  have hFc := va_free (wc := nO h0) hD hS hA [0] rfl
  refine va_callv (va_runI (As := []) (rest := [.ref h0]) ⟨hx, hb, hml, hown, hts⟩ (c_O_init l dC dI h0 H.size) (cwI 0 hts k_LO_init rfl rfl rfl (hts0 (.initialized R_O) (by decide +kernel)) (hts0 (.methodLink R_law 9 y_O_init) (by decide +kernel)) (hts0 (.instanceMethod y_O_init) (by decide +kernel)) rfl (by decide +kernel) ⟨Nat.le_of_ble_eq_true rfl, Nat.le_of_ble_eq_true rfl⟩) ⟨fb_mu, fun U hU hW => ⟨rfl, by rw [hU], by rw [hU]; exact hP, va_K.moved hW.alike hK, NX.warm hW hN, hD.weaken (fun _ _ _ _ => trivial)⟩⟩ rfl rfl hl.1 rfl (lv_room (Nat.le_of_ble_eq_true rfl)) d_law_4 ⟨Nat.le_of_ble_eq_true rfl, Nat.le_of_ble_eq_true rfl⟩) hS (fun q _ h => hFc q h) hFc (fun u t H1 locs ht hvm hpo hB hz1 hk1 hS => ?_)
  obtain ⟨⟨kw, kf, km⟩, qw, qf, qm⟩ := u
  obtain ⟨hP1, hK1, hD1⟩ := hB
  have hP1 : va_P (dC, dI) classes (wO h0 kw kf km qw qf qm v0 0) H1 := hp_to ht hP1
  have hK := va_K.moved hvm.symm hK1
  have hK : va_K (dC, dI) classes (tO kw kf km) s := hK
  obtain ⟨hP, hD⟩ := va_join (wr := ([] : va_W)) (w1 := (wO h0 kw kf km qw qf qm v0 0)) hP hD [0] [] rfl rfl (by decide) (by decide) hk1 hFc hP1 hD1
  have hP : va_P (dC, dI) classes (wO h0 kw kf km qw qf qm v0 0) H1 := hP
  have hD : va_D (fun q : Nat => s.heap.size ≤ q) (wO h0 kw kf km qw qf qm v0 0) := hD
  generalize H1 = H at hP hS ⊢
  refine W.widen (k := 20) (n := 277) (by omega) (by omega) ?_
  refine lv_astore_n (lv' := [(1, .ref h0), (0, .ref b)]) hx hb d_law_7 rfl hl (by decide) rfl (fun ls hl => ?_)
  refine va_new (ci := 3) (fs := [.int 0, .null, .null, .null, .null, .null, .null, .null, .null, .null, .null, .null, .null, .null, .int 0]) (C := R_R) (T := F_R) (N := 15) hx hb hts i_R t_R t_R_ok hown (hts0 (.classLink R_law 10 R_R) (by decide +kernel)) (hts0 (.instantiable R_R 15) (by decide +kernel)) (hts0 (.initialized R_R) (by decide +kernel)) hK hP hD hS hA rfl (fun j hj => by rcases (show j = 0 ∨ j = 1 ∨ j = 2 ∨ j = 3 ∨ j = 4 ∨ j = 5 ∨ j = 6 ∨ j = 7 ∨ j = 8 ∨ j = 9 ∨ j = 10 ∨ j = 11 ∨ j = 12 ∨ j = 13 ∨ j = 14 by omega) with rfl | rfl | rfl | rfl | rfl | rfl | rfl | rfl | rfl | rfl | rfl | rfl | rfl | rfl | rfl <;> rfl) (Nat.le_of_ble_eq_true rfl) (Nat.le_of_ble_eq_true rfl) d_law_8 (fun q1 H hP hD hS => ?_)
  have hP : va_P (dC, dI) classes ((wO h0 kw kf km qw qf qm v0 0) ++ (nR q1)) H := hP
  have hD : va_D (fun q : Nat => s.heap.size ≤ q) ((wO h0 kw kf km qw qf qm v0 0) ++ (nR q1)) := hD
  refine W.widen (k := 21) (n := 292) (by omega) (by omega) ?_
  refine lv_dup hx hb d_law_11 rfl ?_
  have hPc := hP.sub (ws' := nR q1) [20] rfl
  have hDc := hD.sub (ws' := nR q1) [20] (by decide) rfl
  have hFc := va_free (wc := nR q1) hD hS hA [20] rfl
  refine va_callv (va_runI (As := []) (rest := [.ref q1]) ⟨hx, hb, hml, hown, hts⟩ (c_R_init l dC dI q1 H.size) (cwI 0 hts k_LR_init rfl rfl rfl (hts0 (.initialized R_R) (by decide +kernel)) (hts0 (.methodLink R_law 12 y_R_init) (by decide +kernel)) (hts0 (.instanceMethod y_R_init) (by decide +kernel)) rfl (by decide +kernel) ⟨Nat.le_of_ble_eq_true rfl, Nat.le_of_ble_eq_true rfl⟩) ⟨fb_mu, fun U hU hW => ⟨rfl, by rw [hU], by rw [hU]; exact hPc, va_K.moved hW.alike (hK.sub (tys' := []) [] rfl), NX.warm hW hN, hDc.weaken (fun _ _ _ _ => trivial)⟩⟩ rfl rfl hl.1 rfl (lv_room (Nat.le_of_ble_eq_true rfl)) d_law_12 ⟨Nat.le_of_ble_eq_true rfl, Nat.le_of_ble_eq_true rfl⟩) hS (fun q _ h => hFc q h) hFc (fun u t H1 locs ht hvm hpo hB hz1 hk1 hS => ?_)
  obtain ⟨⟨ka, qa⟩, y8, y9⟩ := u
  obtain ⟨hP1, hK1, hD1⟩ := hB
  obtain ⟨hq0, hy⟩ := hpo
  have hq0 : qa 0 = q1 := hq0
  have hy : ∀ i, i < 52 → y8 i = -1 ∧ y9 i = -1 := hy
  have hP1 : va_P (dC, dI) classes (wR ka qa 0 0 (fun _ => 0) (fun _ => 0) (fun _ => 0) (fun _ => 0) (fun _ => 0) (fun _ => 0) (fun _ => 0) (fun _ => 0) y8 y9 (fun _ => 0) (fun _ => 0) (fun _ => 0)) H1 := hp_to ht hP1
  have hK1 := va_K.moved hvm.symm hK1
  have hK1 : va_K (dC, dI) classes (tR ka) s := hK1
  have hK := hK.app hK1
  obtain ⟨hP, hD⟩ := va_join (wr := (wO h0 kw kf km qw qf qm v0 0)) (w1 := (wR ka qa 0 0 (fun _ => 0) (fun _ => 0) (fun _ => 0) (fun _ => 0) (fun _ => 0) (fun _ => 0) (fun _ => 0) (fun _ => 0) y8 y9 (fun _ => 0) (fun _ => 0) (fun _ => 0))) hP hD [20] [0, 1, 2, 3, 4, 5, 6, 7, 8, 9, 10, 11, 12, 13, 14, 15, 16, 17, 18, 19] rfl rfl (by decide) (by decide) hk1 hFc hP1 hD1
  generalize H1 = H at hP hS ⊢
  refine W.widen (k := 34) (n := 801) (by omega) (by omega) ?_
  refine lv_astore_n (lv' := [(2, .ref q1), (1, .ref h0), (0, .ref b)]) hx hb d_law_15 rfl hl (by decide) rfl (fun ls hl => ?_)
  refine lv_iconst (v := (0 : Int32)) hx hb d_law_16 (by decide) ?_
  refine lv_istore_n (lv' := [(3, .int 0), (2, .ref q1), (1, .ref h0), (0, .ref b)]) hx hb d_law_17 rfl hl (by decide) rfl (fun ls hl => ?_)
  have hl := lv_sub (l' := [(0, .ref b), (1, .ref h0), (2, .ref q1), (3, .int 0)]) hl [3, 2, 1, 0] rfl
  rw [← hq0] at hl
  exact law_loop hL C0 hN hK (L + 1) 0 0 nI_0.symm (by omega) (by omega) ls hl v0 0 0 0 (fun _ => 0) (fun _ => 0) (fun _ => 0) (fun _ => 0) (fun _ => 0) (fun _ => 0) (fun _ => 0) (fun _ => 0) y8 y9 (fun _ => 0) (fun _ => 0) (fun _ => 0) H locs hP hD hS (rel_init hy)
