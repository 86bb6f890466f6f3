/-! MY WORLDS: the words that hold for every method, the state of the class, its pictures in the heap -/
def nx_is : Cond → Bool
  | .methodLinkNest .. => true
  | .fieldLinkNest .. => true
  | _ => false
/-- the words that every method takes along: all of lw_tbl but those of nest mates -/
def lw_g : List Cond := lw_tbl.filter (fun w => !nx_is w && (k2_isCode w || goodWord w))
theorem lw_g_in {w : Cond} (h : w ∈ lw_g) : w ∈ lw_tbl := (List.mem_filter.mp h).1
theorem gd_all : ∀ w ∈ lw_g, (w.onTables && w.keeps) = true ∨ ∃ ty, w = .arrayClass ty := by
  intro w hw
  have h := (List.mem_filter.mp hw).2
  cases w <;> first | exact Or.inl rfl | exact Or.inr ⟨_, rfl⟩ | exact good_of_word (by simpa [nx_is, k2_isCode] using h) | (simp [nx_is, k2_isCode] at h)
theorem gd_N {y : MethodName} {b : ByteArray} {n : Nat} {r : Option FieldType} (hc : Cond.code y b n r ∈ lw_g) : GoodIn lw_g (Cond.code y b n r :: lw_g) := by
  intro w hw
  have h : w ∈ lw_g := by
    rcases List.mem_cons.mp hw with rfl | q
    · exact hc
    · exact q
  exact ⟨h, gd_all w h⟩
theorem gd_app {ws : List Cond} {y : MethodName} {b : ByteArray} {n : Nat} {r : Option FieldType} (hc : Cond.code y b n r ∈ lw_g) (h : ∀ w ∈ ws, w ∈ lw_g) : GoodIn lw_g (ws ++ (Cond.code y b n r :: lw_g)) := by
  intro w hw
  rcases List.mem_append.mp hw with q | q
  · exact ⟨h w q, gd_all w (h w q)⟩
  · exact gd_N hc w q
theorem gd_V {own C : String} {idx : Nat} {y : MethodName} {b : ByteArray} {n : Nat} {r : Option FieldType} (hc : Cond.code y b n r ∈ lw_g) (h : ∀ w ∈ ([.methodLink own idx y, .instanceMethod y, .selects C y y, .initialized C] : List Cond), w ∈ lw_g) : GoodIn lw_g (wsV own idx C y (Cond.code y b n r :: lw_g)) := gd_app hc h
theorem gd_S {own : String} {idx : Nat} {y : MethodName} {b : ByteArray} {n : Nat} {r : Option FieldType} (hc : Cond.code y b n r ∈ lw_g) (h : ∀ w ∈ ([.methodLink own idx y, .static y, .initialized own] : List Cond), w ∈ lw_g) : GoodIn lw_g (wsS own idx y (Cond.code y b n r :: lw_g)) := gd_app hc h
theorem tl_of {args : Array Value} {s : State} {c : Cond} (h : ∀ w ∈ (c :: lw_g), w.before args s = true) : ∀ w ∈ lw_g, w.before args s = true := fun w hw => h w (List.mem_cons_of_mem _ hw)
/-- the nest mates' words, which travel with the state -/
def NX (U : State) : Prop := ∀ w, w ∈ lw_tbl → nx_is w = true → va_Nw w U
theorem NX.warm {s U : State} (hW : s.WarmedH U.vm) (h : NX s) : NX U := by
  intro w hw hn
  have h1 := h w hw hn
  cases w <;> first | exact va_Nw.warmM hW h1 | exact va_Nw.warmF hW h1 | cases hn
theorem NX.same {s U : State} (e : s.vm = U.vm) (h : NX s) : NX U := by
  intro w hw hn
  have h1 := h w hw hn
  cases w <;> first | exact va_Nw.same rfl e h1 | cases hn
abbrev WS : Type := (Nat → Nat → Int32) × (Nat → Int32)
abbrev MS : Type := Nat → Nat → Int32
abbrev ES : Type := WS × MS × MS
def wW (ka : Nat → ClassId) (qa : Nat → Nat) (w : WS) : va_W := [(qa 0, .inr (0, [.ref (qa 1), .ref (qa 2), .ref (qa 3), .ref (qa 4), .ref (qa 5), .ref (qa 6), .int (w.2 0), .int (w.2 1), .int (w.2 2), .int (w.2 3)])), (qa 1, .inl (ka 0, 13, .inl (w.1 0))), (qa 2, .inl (ka 1, 13, .inl (w.1 1))), (qa 3, .inl (ka 2, 13, .inl (w.1 2))), (qa 4, .inl (ka 3, 13, .inl (w.1 3))), (qa 5, .inl (ka 4, 52, .inl (w.1 4))), (qa 6, .inl (ka 5, 13, .inl (w.1 5)))]
def tW (ka : Nat → ClassId) : List (ClassId × FieldType) := [(ka 0, .int), (ka 1, .int), (ka 2, .int), (ka 3, .int), (ka 4, .int), (ka 5, .int)]
def wM (ka : Nat → ClassId) (qa : Nat → Nat) (m : MS) : va_W := [(qa 0, .inr (1, [.ref (qa 1), .ref (qa 2), .ref (qa 3), .ref (qa 4), .ref (qa 5)])), (qa 1, .inl (ka 0, 4, .inl (m 0))), (qa 2, .inl (ka 1, 4, .inl (m 1))), (qa 3, .inl (ka 2, 4, .inl (m 2))), (qa 4, .inl (ka 3, 4, .inl (m 3))), (qa 5, .inl (ka 4, 52, .inl (m 4)))]
def tM (ka : Nat → ClassId) : List (ClassId × FieldType) := [(ka 0, .int), (ka 1, .int), (ka 2, .int), (ka 3, .int), (ka 4, .int)]
def wO (h0 : Nat) (kw kf km : Nat → ClassId) (qw qf qm : Nat → Nat) (v : ES) (lc : Int32) : va_W := (h0, .inr (2, [.ref (qw 0), .ref (qf 0), .ref (qm 0), .int lc])) :: (wW kw qw v.1 ++ (wM kf qf v.2.1 ++ wM km qm v.2.2))
def tO (kw kf km : Nat → ClassId) : List (ClassId × FieldType) := tW kw ++ (tM kf ++ tM km)
abbrev ro_P (dC : Nat → ClassId) (dI : Nat → Nat → Nat) (ws : va_W) (tys : List (ClassId × FieldType)) (sz : Nat) (av : List Value) : Array Value → State → Prop := va_Pc av (fun U => U.heap.size = sz ∧ va_P (dC, dI) classes ws U.heap ∧ va_K (dC, dI) classes tys U ∧ NX U)
abbrev ro_Q (sz : Nat) (F : Int32) : Array Value → State → Outcome → State → Prop := va_Qi (fun (r : Int32) (_ : Unit) => r = F) (fun _ _ => True) (fun z => sz ≤ z)
abbrev mu_P (dC : Nat → ClassId) (dI : Nat → Nat → Nat) (ws : va_W) (tys : List (ClassId × FieldType)) (sz : Nat) (av : List Value) : Array Value → State → Prop := va_Pc av (fun U => U.heap.size = sz ∧ va_P (dC, dI) classes ws U.heap ∧ va_K (dC, dI) classes tys U ∧ NX U ∧ va_D (fun _ => True) ws)
abbrev mu_Q {T : Type} (pic : T → va_W) (dC : Nat → ClassId) (dI : Nat → Nat → Nat) (F : Int32) (G : T) (A : Nat → Prop) : Array Value → State → Outcome → State → Prop := va_Qi (fun (r : Int32) (S : T) => r = F ∧ S = G) (fun S t => va_P (dC, dI) classes (pic S) t.heap) A
abbrev mu_Qv {T : Type} (pic : T → va_W) (dC : Nat → ClassId) (dI : Nat → Nat → Nat) (G : T) (A : Nat → Prop) : Array Value → State → Outcome → State → Prop := va_Qv (fun (S : T) => S = G) (fun S t => va_P (dC, dI) classes (pic S) t.heap) A
theorem fb_ro {dC : Nat → ClassId} {dI : Nat → Nat → Nat} {ws : va_W} {tys : List (ClassId × FieldType)} {sz : Nat} {av : List Value} : FrameBlind (ro_P dC dI ws tys sz av) := by
  intro a U g mk q
  obtain ⟨q0, q1, qP, qK, qN⟩ := q
  exact ⟨q0, q1, qP, va_K.moved (u := U) (U := U.calling g mk a) (Vm.Alike.refl U.vm) qK, NX.same (s := U) (U := U.calling g mk a) rfl qN⟩
theorem fb_mu {dC : Nat → ClassId} {dI : Nat → Nat → Nat} {ws : va_W} {tys : List (ClassId × FieldType)} {sz : Nat} {av : List Value} : FrameBlind (mu_P dC dI ws tys sz av) := by
  intro a U g mk q
  obtain ⟨q0, q1, qP, qK, qN, qD⟩ := q
  exact ⟨q0, q1, qP, va_K.moved (u := U) (U := U.calling g mk a) (Vm.Alike.refl U.vm) qK, NX.same (s := U) (U := U.calling g mk a) rfl qN, qD⟩
theorem kp_P {D : va_G} {cl : List vw_C} {ws : va_W} {H H1 : Heap} (hP : va_P D cl ws H) (hk : ∀ q : Nat, q < H.size → ¬ (H.size ≤ q) → H1[q]? = H[q]?) : va_P D cl ws H1 := hP.kept (fun k q h => hk _ (hP k q h).lt (Nat.not_le.mpr (hP k q h).lt))
theorem ad_D {A : Nat → Prop} {ws ws' : va_W} (h : va_D A ws) (e : ws.map Prod.fst = ws'.map Prod.fst) : va_D A ws' := by
  have key : ∀ (k : Nat) (q : Nat × va_E), ws'[k]? = some q → ∃ p, ws[k]? = some p ∧ p.1 = q.1 := by
    intro k q hq
    have h1 : (ws'.map Prod.fst)[k]? = some q.1 := by rw [List.getElem?_map, hq]; rfl
    rw [← e, List.getElem?_map] at h1
    cases hp : ws[k]? with
    | none => rw [hp] at h1; cases h1
    | some p => rw [hp] at h1; exact ⟨p, rfl, Option.some.inj h1⟩
  refine ⟨fun i j p q hi hj he => ?_, fun k q hq => ?_⟩
  · obtain ⟨p', h1, h2⟩ := key i p hi
    obtain ⟨q', h3, h4⟩ := key j q hj
    exact h.1 i j p' q' h1 h3 (by rw [h2, h4, he])
  · obtain ⟨p', h1, h2⟩ := key k q hq
    rw [← h2]; exact h.2 k p' h1
theorem of_p1 : Int32.ofInt 1 = (1 : Int32) := by decide +kernel
theorem of_m1 : Int32.ofInt (-1) = (-1 : Int32) := by decide +kernel
theorem ne_ti {x y : Int32} {z : Int} (c : ¬ x = y) (hy : y.toInt = z) : x.toInt ≠ z := fun h => c (Int32.toInt_inj.mp (h.trans hy.symm))
def vl_f {α : Type} (l : List α) (d : α) (i : Nat) : α := l.getD i d
def w0 : WS := (fun _ _ => 0, fun _ => 0)
def m0 : MS := fun _ _ => 0
def v0 : ES := (w0, m0, m0)
def nW (h0 : Nat) : va_W := [(h0, .inr (0, [.null, .null, .null, .null, .null, .null, .int 0, .int 0, .int 0, .int 0]))]
def nM (h0 : Nat) : va_W := [(h0, .inr (1, [.null, .null, .null, .null, .null]))]
def nO (h0 : Nat) : va_W := [(h0, .inr (2, [.null, .null, .null, .int 0]))]
