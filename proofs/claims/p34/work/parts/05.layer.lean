/-! THE LAYER: all objects in one pool, an address to its row by a function; a row of a walk here is one of the kit's with the pool's bookkeeping done. -/
abbrev py_E : Type := va_G × ClassId × ClassId × ClassId × ClassId
abbrev py_F : Type := Nat → va_E
abbrev py_ty (E : py_E) : List (ClassId × FieldType) := [(E.2.1, .int), (E.2.2.1, .long), (E.2.2.2.1, .boolean), (E.2.2.2.2, .object RX3)]
/-- what of the tables isn't a good word: the array class of the laws, the private constructors of nest mates -/
def py_nest : List (String × Nat × MethodName) := [(RX11, 9, yX8_init), (RX11, 18, yX10_init), (RX10, 17, yX9_init), (RX11, 25, yX4_init), (RX4, 11, yX3_init), (RX11, 46, yX2_init), (RX2, 42, yX9_init), (RX11, 59, yX1_init), (RX11, 66, yX0_init), (RX11, 73, yX7_init), (RX11, 80, yX5_init), (RX11, 362, yX3_init)]
def py_th : List Cond := [.declares (Bundle.init0 "java/lang/RuntimeException"), .declares (Bundle.init0 "java/lang/Exception"), .declares (Bundle.init0 "java/lang/Throwable"), .castable "java/util/NoSuchElementException" "java/util/NoSuchElementException"]
def py_X (U : State) : Prop := (va_AO RX3 U ∧ ∀ w ∈ py_th, va_Nw w U) ∧ ∀ q ∈ py_nest, va_Nw (.methodLinkNest q.1 q.2.1 q.2.2 "HeadYear") U
theorem py_th_on : ∀ w ∈ py_th, w.onTables = true := by decide +kernel
theorem py_X.same {u U : State} (h : u.vm = U.vm) (x : py_X u) : py_X U := ⟨⟨va_AO.moved (by rw [h]; exact Vm.Alike.refl U.vm) x.1.1, fun w hw => va_Nw.same (py_th_on w hw) h (x.1.2 w hw)⟩, fun q hq => va_Nw.same rfl h (x.2 q hq)⟩
theorem py_X.warm {s U : State} (hW : s.WarmedH U.vm) (x : py_X s) : py_X U := by
  refine ⟨⟨va_AO.moved hW.alike x.1.1, fun w hw => ?_⟩, fun q hq => va_Nw.warmM hW (x.2 q hq)⟩
  have h := x.1.2 w hw
  simp only [py_th, List.mem_cons, List.mem_nil_iff, or_false] at hw
  rcases hw with rfl | rfl | rfl | rfl
  · exact va_Nw.warmD hW h
  · exact va_Nw.warmD hW h
  · exact va_Nw.warmD hW h
  · exact va_Nw.warmC hW h
/-- a static row that nobody writes: its cell, what it holds -/
def py_sa (C n d : String) (ty : FieldType) (N : Nat) (v : Nat → Value) (B : Nat → Prop) (U : State) (H : Heap) : Prop := ∃ t : Nat, va_Z C n d (.ref t) B U H ∧ va_T ty t N v B U H
def py_row (l : List Int32) : Nat → Value := fun j => .int (l.getD j 0)
def py_Th (B : Nat → Prop) (U : State) (H : Heap) : Prop := vx_Zq Bundle.tN "UNASSIGNED_STACK" Bundle.steD B U H ∧ vx_Zq Bundle.tN "SUPPRESSED_SENTINEL" Bundle.listD B U H
abbrev st_VL : List Int32 := [104, 102, 100, 115, 112, 97, 98, 116]
abbrev st_LE : List Int32 := [1, 0, 0, 0, 1, 0, 0, 0]
abbrev st_MO : List Int32 := [4, 99, 50, 1, 12, 7, 100, 100]
abbrev st_US : List Int32 := [2, 20, 5, 0, 4, 0, 30, 5]
abbrev st_LL : List Int32 := [98, 100, 112, 104, 111, 121]
def py_St (B : Nat → Prop) (U : State) (H : Heap) : Prop := py_Th B U H ∧ py_sa "HeadYear$ValleyReader" "LETTERS" "[C" .char 8 (py_row st_VL) B U H ∧ py_sa "HeadYear$ValleyReader" "LEAST" "[I" .int 8 (py_row st_LE) B U H ∧ py_sa "HeadYear$ValleyReader" "MOST" "[I" .int 8 (py_row st_MO) B U H ∧ py_sa "HeadYear$ValleyReader" "USUAL" "[I" .int 8 (py_row st_US) B U H ∧ py_sa "HeadYear$LawReader" "LETTERS" "[C" .char 6 (py_row st_LL) B U H
theorem py_sa.moved {C n d : String} {ty : FieldType} {N : Nat} {v : Nat → Value} {B : Nat → Prop} {u U : State} {H : Heap} (h : u.vm.Alike U.vm) (x : py_sa C n d ty N v B u H) : py_sa C n d ty N v B U H := by
  obtain ⟨t, h1, h2⟩ := x
  exact ⟨t, va_Z.moved h h1, va_T.moved h h2⟩
theorem py_sa.kept {C n d : String} {ty : FieldType} {N : Nat} {v : Nat → Value} {B : Nat → Prop} {U : State} {H H1 : Heap} (x : py_sa C n d ty N v B U H) (h : ∀ a : Nat, a < H.size → ¬ B a → H1[a]? = H[a]?) : py_sa C n d ty N v B U H1 := by
  obtain ⟨t, h1, h2⟩ := x
  exact ⟨t, h1.kept h, h2.kept h⟩
theorem py_sa.narrow {C n d : String} {ty : FieldType} {N : Nat} {v : Nat → Value} {A B : Nat → Prop} {U : State} {H : Heap} (x : py_sa C n d ty N v A U H) (h : ∀ q, B q → A q) : py_sa C n d ty N v B U H := by
  obtain ⟨t, h1, h2⟩ := x
  exact ⟨t, h1.narrow h, h2.narrow h⟩
theorem py_St.moved {B : Nat → Prop} {u U : State} {H : Heap} (h : u.vm.Alike U.vm) (x : py_St B u H) : py_St B U H := ⟨⟨vx_Zq.moved h x.1.1, vx_Zq.moved h x.1.2⟩, x.2.1.moved h, x.2.2.1.moved h, x.2.2.2.1.moved h, x.2.2.2.2.1.moved h, x.2.2.2.2.2.moved h⟩
theorem py_St.kept {B : Nat → Prop} {U : State} {H H1 : Heap} (x : py_St B U H) (h : ∀ a : Nat, a < H.size → ¬ B a → H1[a]? = H[a]?) : py_St B U H1 := ⟨⟨x.1.1.kept h, x.1.2.kept h⟩, x.2.1.kept h, x.2.2.1.kept h, x.2.2.2.1.kept h, x.2.2.2.2.1.kept h, x.2.2.2.2.2.kept h⟩
theorem py_St.narrow {A B : Nat → Prop} {U : State} {H : Heap} (x : py_St A U H) (h : ∀ q, B q → A q) : py_St B U H := ⟨⟨x.1.1.narrow h, x.1.2.narrow h⟩, x.2.1.narrow h, x.2.2.1.narrow h, x.2.2.2.1.narrow h, x.2.2.2.2.1.narrow h, x.2.2.2.2.2.narrow h⟩
/-- the world, inside a method begun at s: the pool's addresses L, each with what f says of it -/
def py_W (E : py_E) (A : Nat → Prop) (s : State) (L : List Nat) (f : py_F) (H : Heap) (locs : List Loc) : Prop :=
  (va_K E.1 vwCl (py_ty E) s ∧ py_X s) ∧ va_P E.1 vwCl (va_pl L f) H ∧ va_D A (va_pl L f) ∧ va_S A s.heap H locs ∧ (∀ q : Nat, s.heap.size ≤ q → A q) ∧ py_St A s s.heap
/-- at a lies e -/
def py_at (L : List Nat) (f : py_F) (a : Nat) (e : va_E) : Prop := a ∈ L ∧ f a = e
theorem py_at.get {L : List Nat} {f : py_F} {a : Nat} {e : va_E} (h : py_at L f a e) : ∃ k : Nat, (va_pl L f)[k]? = some (a, e) := by
  obtain ⟨k, hk⟩ := va_pl_get (X := []) (f := f) h.1
  rw [h.2] at hk
  exact ⟨k, hk⟩
/-- what lay there lies there still -/
def py_ext (L : List Nat) (f : py_F) (L' : List Nat) (f' : py_F) (a : Nat) : Prop := ∀ b : Nat, b ∈ L → b ≠ a → b ∈ L' ∧ f' b = f b
theorem py_at.ext {L L' : List Nat} {f f' : py_F} {a b : Nat} {e : va_E} (h : py_at L f b e) (x : py_ext L f L' f' a) (hn : b ≠ a) : py_at L' f' b e := by
  obtain ⟨h1, h2⟩ := x b h.1 hn
  exact ⟨h1, h2.trans h.2⟩
def py_all (L : List Nat) (f : py_F) (L' : List Nat) (f' : py_F) : Prop := ∀ b : Nat, b ∈ L → b ∈ L' ∧ f' b = f b
theorem py_at.all {L L' : List Nat} {f f' : py_F} {b : Nat} {e : va_E} (h : py_at L f b e) (x : py_all L f L' f') : py_at L' f' b e := by
  obtain ⟨h1, h2⟩ := x b h.1
  exact ⟨h1, h2.trans h.2⟩
theorem py_ne_kind {L : List Nat} {f : py_F} {a b i j : Nat} {x y : List Value} (ha : py_at L f a (.inr (i, x))) (hb : py_at L f b (.inr (j, y))) (h : i ≠ j) : a ≠ b := by
  intro e
  subst e
  have h1 := ha.2.symm.trans hb.2
  injection h1 with h2
  exact h (congrArg Prod.fst h2)
theorem py_ne_arr {L : List Nat} {f : py_F} {a b i : Nat} {x : List Value} {y : ClassId × vp_A} (ha : py_at L f a (.inr (i, x))) (hb : py_at L f b (.inl y)) : a ≠ b := by
  intro e
  subst e
  have h1 := ha.2.symm.trans hb.2
  cases h1
theorem py_ne_new {L : List Nat} {f : py_F} {a q : Nat} {e : va_E} (ha : py_at L f a e) (hq : q ∉ L) : a ≠ q := fun h => hq (h ▸ ha.1)
/-- a contract's start -/
def py_Pc (E : py_E) (av : List Value) (L : List Nat) (f : py_F) (sz : Nat) : Array Value → State → Prop := va_Pc av (fun U => U.heap.size = sz ∧ va_P E.1 vwCl (va_pl L f) U.heap ∧ (va_K E.1 vwCl (py_ty E) U ∧ py_X U) ∧ va_D (fun _ => True) (va_pl L f) ∧ py_St (va_A (va_pl L f) sz) U U.heap)
/-- the world behind it -/
def py_B (E : py_E) (A : Nat → Prop) (u : List Nat × py_F) (t : State) : Prop := va_P E.1 vwCl (va_pl u.1 u.2) t.heap ∧ va_D A (va_pl u.1 u.2)
def py_Qi (E : py_E) (L : List Nat) (f : py_F) (sz : Nat) (post : Int32 → List Nat → py_F → Prop) : Array Value → State → Outcome → State → Prop := va_Qi (fun (r : Int32) (u : List Nat × py_F) => post r u.1 u.2) (py_B E (va_A (va_pl L f) sz)) (va_A (va_pl L f) sz)
def py_Ql (E : py_E) (L : List Nat) (f : py_F) (sz : Nat) (post : Int64 → List Nat → py_F → Prop) : Array Value → State → Outcome → State → Prop := va_Ql (fun (r : Int64) (u : List Nat × py_F) => post r u.1 u.2) (py_B E (va_A (va_pl L f) sz)) (va_A (va_pl L f) sz)
def py_Qv (E : py_E) (L : List Nat) (f : py_F) (sz : Nat) (post : List Nat → py_F → Prop) : Array Value → State → Outcome → State → Prop := va_Qv (fun (u : List Nat × py_F) => post u.1 u.2) (py_B E (va_A (va_pl L f) sz)) (va_A (va_pl L f) sz)
def py_Qr (E : py_E) (L : List Nat) (f : py_F) (sz : Nat) (post : Nat → List Nat → py_F → Prop) : Array Value → State → Outcome → State → Prop := va_Qr (fun (_ : List Nat × py_F) => True) (fun (u : List Nat × py_F) (a : Nat) (t : State) => post a u.1 u.2 ∧ py_B E (va_A (va_pl L f) sz) u t) (va_A (va_pl L f) sz)
theorem py_blind {E : py_E} {av : List Value} {L : List Nat} {f : py_F} {sz : Nat} : FrameBlind (py_Pc E av L f sz) := fun a U g mk q => by
  obtain ⟨q0, q1, qP, qK, qD, qT⟩ := q
  exact ⟨q0, q1, qP, ⟨va_K.moved (u := U) (U := U.calling g mk a) (Vm.Alike.refl U.vm) qK.1, py_X.same (u := U) (U := U.calling g mk a) rfl qK.2⟩, qD, py_St.moved (u := U) (U := U.calling g mk a) (Vm.Alike.refl U.vm) qT⟩
theorem py_start {E : py_E} {av : List Value} {L : List Nat} {f : py_F} {sz : Nat} {a : Array Value} {s : State} (h : py_Pc E av L f sz a s) : a = av.toArray ∧ s.heap.size = sz ∧ py_W E (va_A (va_pl L f) sz) s L f s.heap [] := by
  obtain ⟨q0, q1, qP, qK, qD, qT⟩ := h
  subst q1
  exact ⟨q0, rfl, qK, qP, qD.self, va_S.rf, fun q h => Or.inr h, qT⟩
section PYR
variable {p : Program} {l : Launch} {e : Env} {R : Room} {s : State} {m : MethodId} {args : Array Value} {below : List Frame} {meth : Method} {c : Code} {H : Heap} {locs : List Loc} {cells slots : Nat} {Q : State → Prop}
variable {cc : ByteArray} {nL pc : Nat} {ls : Array Slot} {rest : List Value} {E : py_E} {A : Nat → Prop} {L : List Nat} {f : py_F} {Ts : List Cond} {own : String} {a : Nat}
theorem py_get (G : CallFix p m c cc nL s args Ts own) (hw : py_W E A s L f H locs) {C : String} {T : u_T} {N ci index k : Nat} {fs : List Value} {v : Value} (hin : ∀ w ∈ u_ws C T N, w ∈ Ts) (hc : vwCl[ci]? = some (C, T, N)) (hf : py_at L f a (.inr (ci, fs))) (hk : k < N) (hlink : Cond.fieldLink own index (T k).1 (T k).2.1 (T k).2.2.1 ∈ Ts) (hv : fs[k]? = some v) (hdg : decode cc pc = .ok (.getfield index, 3))
    (kk : W p l e R s m args below meth c H locs cells slots Q (F0 m (pc + 3) ls (v :: rest))) : W p l e R s m args below meth c H locs cells slots Q (F0 m pc ls (.ref a :: rest)) := by
  obtain ⟨q0, hq⟩ := hf.get
  exact va_get G.1 G.2.1 G.2.2.2.2 hin G.2.2.2.1 hw.1.1 hw.2.1 q0 hq hc k hk (G.2.2.2.2 _ hlink) (fun _ h => h) hv hdg kk
theorem py_upd {fs : va_E} {e2 : va_E} {q0 : Nat} (hD : va_D A (va_pl L f)) (hf : py_at L f a fs) (hq : (va_pl L f)[q0]? = some (a, fs)) : (va_pl L f).set q0 (a, e2) = va_pl L (va_up f a e2) := by
  have hq2 : ([] ++ va_pl L f)[q0]? = some (a, f a) := by rw [hf.2]; exact hq
  exact va_pl_set (X := []) hD hf.1 hq2
theorem py_put (G : CallFix p m c cc nL s args Ts own) (hw : py_W E A s L f H locs) {C : String} {T : u_T} {N ci index k : Nat} {fs fs' : List Value} {v : Value} {ty : FieldType} {ty0 : Nat → FieldType} (hty : ∀ k, k < N → parseFieldDescriptor (T k).2.2.1 = some (ty0 k)) (hnm : ∀ a, a < N → ∀ b, b < N → a ≠ b → (T a).2.1 ≠ (T b).2.1) (hin : ∀ w ∈ u_ws C T N, w ∈ Ts) (hc : vwCl[ci]? = some (C, T, N)) (hf : py_at L f a (.inr (ci, fs))) (hk : k < N) (hlink : Cond.fieldLink own index (T k).1 (T k).2.1 (T k).2.2.1 ∈ Ts) (hfin : (T k).2.2.2 = false) (hd : parseFieldDescriptor (T k).2.2.1 = some ty) (hn : narrow ty v = v) (hfit : fits ty v = true) (hl : k < fs.length) (hs : fs.set k v = fs') (hdg : decode cc pc = .ok (.putfield index, 3))
    (kk : ∀ (f' : py_F) (H' : Heap) (locs' : List Loc), py_at L f' a (.inr (ci, fs')) → py_ext L f L f' a → py_W E A s L f' H' locs' → W p l e R s m args below meth c H' locs' cells slots Q (F0 m (pc + 3) ls rest)) : W p l e R s m args below meth c H locs cells slots Q (F0 m pc ls (v :: .ref a :: rest)) := by
  obtain ⟨q0, hq⟩ := hf.get
  subst hs
  refine va_put G.1 G.2.1 G.2.2.2.2 hin ty0 hty hnm G.2.2.2.1 hw.1.1 hw.2.1 hw.2.2.1 hw.2.2.2.1 q0 hq hc k hk (G.2.2.2.2 _ hlink) (fun _ h => h) hfin hd hn hfit hl hdg (fun H1 locs1 hP1 hD1 hS1 => ?_)
  rw [py_upd hw.2.2.1 hf hq] at hP1 hD1
  exact kk _ H1 locs1 ⟨hf.1, va_up_self _ _ _⟩ (fun b hb hn => ⟨hb, va_up_ne _ _ hn⟩) ⟨hw.1, hP1, hD1, hS1, hw.2.2.2.2⟩
theorem py_putF (G : CallFix p m c cc nL s args Ts own) (hini : meth.name = "<init>") (hw : py_W E A s L f H locs) {C : String} {T : u_T} {N ci index k : Nat} {fs fs' : List Value} {v : Value} {ty : FieldType} {ty0 : Nat → FieldType} (hty : ∀ k, k < N → parseFieldDescriptor (T k).2.2.1 = some (ty0 k)) (hnm : ∀ a, a < N → ∀ b, b < N → a ≠ b → (T a).2.1 ≠ (T b).2.1) (hin : ∀ w ∈ u_ws C T N, w ∈ Ts) (hc : vwCl[ci]? = some (C, T, N)) (hf : py_at L f a (.inr (ci, fs))) (hk : k < N) (hlink : Cond.fieldLink own index (T k).1 (T k).2.1 (T k).2.2.1 ∈ Ts) (hfin : (T k).2.2.2 = true) (hdecl : (T k).1 = own) (hd : parseFieldDescriptor (T k).2.2.1 = some ty) (hn : narrow ty v = v) (hfit : fits ty v = true) (hl : k < fs.length) (hs : fs.set k v = fs') (hdg : decode cc pc = .ok (.putfield index, 3))
    (kk : ∀ (f' : py_F) (H' : Heap) (locs' : List Loc), py_at L f' a (.inr (ci, fs')) → py_ext L f L f' a → py_W E A s L f' H' locs' → W p l e R s m args below meth c H' locs' cells slots Q (F0 m (pc + 3) ls rest)) : W p l e R s m args below meth c H locs cells slots Q (F0 m pc ls (v :: .ref a :: rest)) := by
  obtain ⟨q0, hq⟩ := hf.get
  subst hs
  refine va_putF G.1 G.2.1 G.2.2.2.2 hin ty0 hty hnm G.2.2.2.1 hw.1.1 hw.2.1 hw.2.2.1 hw.2.2.2.1 q0 hq hc k hk (G.2.2.2.2 _ hlink) (fun _ h => h) hfin hini hdecl hd hn hfit hl hdg (fun H1 locs1 hP1 hD1 hS1 => ?_)
  rw [py_upd hw.2.2.1 hf hq] at hP1 hD1
  exact kk _ H1 locs1 ⟨hf.1, va_up_self _ _ _⟩ (fun b hb hn => ⟨hb, va_up_ne _ _ hn⟩) ⟨hw.1, hP1, hD1, hS1, hw.2.2.2.2⟩
theorem py_push {q : Nat} {e2 : va_E} (ha : q ∉ L) : (va_pl L f) ++ [(q, e2)] = va_pl (L ++ [q]) (va_up f q e2) := va_pl_push ha
theorem py_apart {q : Nat} {e2 : va_E} (hD : va_D A (va_pl L f ++ [(q, e2)])) : q ∉ L := by
  intro h
  obtain ⟨k, hk⟩ := va_pl_get (X := []) (f := f) h
  have hk : (va_pl L f)[k]? = some (q, f q) := hk
  have hl := (List.getElem?_eq_some_iff.mp hk).1
  have h1 : (va_pl L f ++ [(q, e2)])[k]? = some (q, f q) := by rw [List.getElem?_append_left hl]; exact hk
  have h2 : (va_pl L f ++ [(q, e2)])[(va_pl L f).length]? = some (q, e2) := by rw [List.getElem?_append_right (Nat.le_refl _), Nat.sub_self]; rfl
  have := hD.1 _ _ _ _ h1 h2 rfl
  omega
theorem py_pushed {q : Nat} {e2 : va_E} (ha : q ∉ L) : py_all L f (L ++ [q]) (va_up f q e2) := fun b hb => ⟨List.mem_append_left _ hb, va_up_ne _ _ (fun h => ha (h ▸ hb))⟩
theorem py_new (G : CallFix p m c cc nL s args Ts own) (hw : py_W E A s L f H locs) {C : String} {T : u_T} {N ci index : Nat} {fs : List Value} {ty0 : Nat → FieldType} (hty : ∀ k, k < N → parseFieldDescriptor (T k).2.2.1 = some (ty0 k)) (hin : ∀ w ∈ u_ws C T N, w ∈ Ts) (hc : vwCl[ci]? = some (C, T, N)) (hcl : Cond.classLink own index C ∈ Ts) (hinst : Cond.instantiable C N ∈ Ts) (hini : Cond.initialized C ∈ Ts) (hfs : ∀ j, j < N → defaultValue (ty0 j) = vp_V fs j) (hcells : cells + 1 ≤ R.cells) (hslots : slots + N ≤ R.slots) (hdg : decode cc pc = .ok (.new index, 3))
    (kk : ∀ (q : Nat) (L' : List Nat) (f' : py_F) (H' : Heap), q ∉ L → py_at L' f' q (.inr (ci, fs)) → py_all L f L' f' → py_W E A s L' f' H' locs → W p l e R s m args below meth c H' locs (cells + 1) (slots + N) Q (F0 m (pc + 3) ls (.ref q :: rest))) : W p l e R s m args below meth c H locs cells slots Q (F0 m pc ls rest) := by
  refine va_new G.1 G.2.1 G.2.2.2.2 hin ty0 hty G.2.2.2.1 (G.2.2.2.2 _ hcl) (G.2.2.2.2 _ hinst) (G.2.2.2.2 _ hini) hw.1.1 hw.2.1 hw.2.2.1 hw.2.2.2.1 hw.2.2.2.2.1 hc hfs hcells hslots hdg (fun q H1 hP1 hD1 hS1 => ?_)
  have hq := py_apart hD1
  rw [py_push hq] at hP1 hD1
  exact kk q _ _ H1 hq ⟨List.mem_append_right _ List.mem_cons_self, va_up_self _ _ _⟩ (py_pushed hq) ⟨hw.1, hP1, hD1, hS1, hw.2.2.2.2⟩
theorem py_newI (G : CallFix p m c cc nL s args Ts own) (hw : py_W E A s L f H locs) (harr : Cond.arrayClass .int ∈ Ts) {n : Int32} {N : Nat} (hn : ¬ n < 0) (hN : n.toNatClampNeg = N) (hbytes : N * 4 ≤ 536870912) (hcells : cells + 1 ≤ R.cells) (hslots : slots + N ≤ R.slots) (hdg : decode cc pc = .ok (.newarray .int, 2))
    (kk : ∀ (q : Nat) (L' : List Nat) (f' : py_F) (H' : Heap), q ∉ L → py_at L' f' q (.inl (E.2.1, N, .inl (fun _ => 0))) → py_all L f L' f' → py_W E A s L' f' H' locs → W p l e R s m args below meth c H' locs (cells + 1) (slots + N) Q (F0 m (pc + 2) ls (.ref q :: rest))) : W p l e R s m args below meth c H locs cells slots Q (F0 m pc ls (.int n :: rest)) := by
  refine va_newa (atype := .int) (ty := .int) (a0 := (N, .inl (fun _ => 0))) G.1 G.2.1 (G.2.2.2.2 _ harr) rfl hw.1.1 hw.2.1 hw.2.2.1 hw.2.2.2.1 hw.2.2.2.2.1 (fun _ => rfl) hn hN hbytes hcells hslots hdg (fun q cA H1 hK1 hP1 hD1 hS1 => ?_)
  have h4 : s.vm.findClass ("[" ++ FieldType.int.toString) = some cA := (hK1.2 4 _ rfl).2
  have h0 : s.vm.findClass ("[" ++ FieldType.int.toString) = some E.2.1 := (hK1.2 0 _ rfl).2
  have hc : cA = E.2.1 := Option.some.inj (h4.symm.trans h0)
  subst hc
  have hq := py_apart hD1
  rw [py_push hq] at hP1 hD1
  exact kk q _ _ H1 hq ⟨List.mem_append_right _ List.mem_cons_self, va_up_self _ _ _⟩ (py_pushed hq) ⟨hw.1, hP1, hD1, hS1, hw.2.2.2.2⟩
theorem py_newJ (G : CallFix p m c cc nL s args Ts own) (hw : py_W E A s L f H locs) (harr : Cond.arrayClass .long ∈ Ts) {n : Int32} {N : Nat} (hn : ¬ n < 0) (hN : n.toNatClampNeg = N) (hbytes : N * 8 ≤ 536870912) (hcells : cells + 1 ≤ R.cells) (hslots : slots + N ≤ R.slots) (hdg : decode cc pc = .ok (.newarray .long, 2))
    (kk : ∀ (q : Nat) (L' : List Nat) (f' : py_F) (H' : Heap), q ∉ L → py_at L' f' q (.inl (E.2.2.1, N, .inr (.inl (fun _ => 0)))) → py_all L f L' f' → py_W E A s L' f' H' locs → W p l e R s m args below meth c H' locs (cells + 1) (slots + N) Q (F0 m (pc + 2) ls (.ref q :: rest))) : W p l e R s m args below meth c H locs cells slots Q (F0 m pc ls (.int n :: rest)) := by
  refine va_newa (atype := .long) (ty := .long) (a0 := (N, .inr (.inl (fun _ => 0)))) G.1 G.2.1 (G.2.2.2.2 _ harr) rfl hw.1.1 hw.2.1 hw.2.2.1 hw.2.2.2.1 hw.2.2.2.2.1 (fun _ => rfl) hn hN hbytes hcells hslots hdg (fun q cA H1 hK1 hP1 hD1 hS1 => ?_)
  have h4 : s.vm.findClass ("[" ++ FieldType.long.toString) = some cA := (hK1.2 4 _ rfl).2
  have h0 : s.vm.findClass ("[" ++ FieldType.long.toString) = some E.2.2.1 := (hK1.2 1 _ rfl).2
  have hc : cA = E.2.2.1 := Option.some.inj (h4.symm.trans h0)
  subst hc
  have hq := py_apart hD1
  rw [py_push hq] at hP1 hD1
  exact kk q _ _ H1 hq ⟨List.mem_append_right _ List.mem_cons_self, va_up_self _ _ _⟩ (py_pushed hq) ⟨hw.1, hP1, hD1, hS1, hw.2.2.2.2⟩
theorem py_newZ (G : CallFix p m c cc nL s args Ts own) (hw : py_W E A s L f H locs) (harr : Cond.arrayClass .boolean ∈ Ts) {n : Int32} {N : Nat} (hn : ¬ n < 0) (hN : n.toNatClampNeg = N) (hbytes : N * 1 ≤ 536870912) (hcells : cells + 1 ≤ R.cells) (hslots : slots + N ≤ R.slots) (hdg : decode cc pc = .ok (.newarray .boolean, 2))
    (kk : ∀ (q : Nat) (L' : List Nat) (f' : py_F) (H' : Heap), q ∉ L → py_at L' f' q (.inl (E.2.2.2.1, N, .inl (fun _ => 0))) → py_all L f L' f' → py_W E A s L' f' H' locs → W p l e R s m args below meth c H' locs (cells + 1) (slots + N) Q (F0 m (pc + 2) ls (.ref q :: rest))) : W p l e R s m args below meth c H locs cells slots Q (F0 m pc ls (.int n :: rest)) := by
  refine va_newa (atype := .boolean) (ty := .boolean) (a0 := (N, .inl (fun _ => 0))) G.1 G.2.1 (G.2.2.2.2 _ harr) rfl hw.1.1 hw.2.1 hw.2.2.1 hw.2.2.2.1 hw.2.2.2.2.1 (fun _ => rfl) hn hN hbytes hcells hslots hdg (fun q cA H1 hK1 hP1 hD1 hS1 => ?_)
  have h4 : s.vm.findClass ("[" ++ FieldType.boolean.toString) = some cA := (hK1.2 4 _ rfl).2
  have h0 : s.vm.findClass ("[" ++ FieldType.boolean.toString) = some E.2.2.2.1 := (hK1.2 2 _ rfl).2
  have hc : cA = E.2.2.2.1 := Option.some.inj (h4.symm.trans h0)
  subst hc
  have hq := py_apart hD1
  rw [py_push hq] at hP1 hD1
  exact kk q _ _ H1 hq ⟨List.mem_append_right _ List.mem_cons_self, va_up_self _ _ _⟩ (py_pushed hq) ⟨hw.1, hP1, hD1, hS1, hw.2.2.2.2⟩
theorem py_newR (G : CallFix p m c cc nL s args Ts own) (hw : py_W E A s L f H locs) {index : Nat} (hcl : Cond.classLink own index RX3 ∈ Ts) {n : Int32} {N : Nat} (hn : ¬ n < 0) (hN : n.toNatClampNeg = N) (hbytes : N * 4 ≤ 536870912) (hcells : cells + 1 ≤ R.cells) (hslots : slots + N ≤ R.slots) (hdg : decode cc pc = .ok (.anewarray index, 3))
    (kk : ∀ (q : Nat) (L' : List Nat) (f' : py_F) (H' : Heap), q ∉ L → py_at L' f' q (.inl (E.2.2.2.2, N, .inr (.inr (.inr (.inr (fun _ => none)))))) → py_all L f L' f' → py_W E A s L' f' H' locs → W p l e R s m args below meth c H' locs (cells + 1) (slots + N) Q (F0 m (pc + 3) ls (.ref q :: rest))) : W p l e R s m args below meth c H locs cells slots Q (F0 m pc ls (.int n :: rest)) := by
  refine va_newq G.1 G.2.1 G.2.2.2.1 (G.2.2.2.2 _ hcl) hw.1.2.1.1 hw.1.1 hw.2.1 hw.2.2.1 hw.2.2.2.1 hw.2.2.2.2.1 hn hN hbytes hcells hslots hdg (fun q cA H1 hK1 hP1 hD1 hS1 => ?_)
  obtain ⟨kA, comp, -, -, -, h4⟩ : va_RA s cA (.object RX3) := (hK1.2 4 _ rfl).2
  obtain ⟨kB, comp2, -, -, -, h0⟩ : va_RA s E.2.2.2.2 (.object RX3) := (hK1.2 3 _ rfl).2
  have hc : cA = E.2.2.2.2 := Option.some.inj (h4.symm.trans h0)
  subst hc
  have hq := py_apart hD1
  rw [py_push hq] at hP1 hD1
  exact kk q _ _ H1 hq ⟨List.mem_append_right _ List.mem_cons_self, va_up_self _ _ _⟩ (py_pushed hq) ⟨hw.1, hP1, hD1, hS1, hw.2.2.2.2⟩
theorem py_iald (G : CallFix p m c cc nL s args Ts own) (hw : py_W E A s L f H locs) {n : Nat} {g : Nat → Int32} {i : Int32} (hf : py_at L f a (.inl (E.2.1, n, .inl g))) (hin : vp_in i n) (hdg : decode cc pc = .ok (.iaload, 1))
    (kk : W p l e R s m args below meth c H locs cells slots Q (F0 m (pc + 1) ls (.int (g i.toNatClampNeg) :: rest))) : W p l e R s m args below meth c H locs cells slots Q (F0 m pc ls (.int i :: .ref a :: rest)) := by
  obtain ⟨q0, hq⟩ := hf.get
  exact va_iald G.1 G.2.1 hw.1.1 hw.2.1 q0 0 hq rfl hin hdg kk
theorem py_iast (G : CallFix p m c cc nL s args Ts own) (hw : py_W E A s L f H locs) {n : Nat} {g : Nat → Int32} {i x : Int32} (hf : py_at L f a (.inl (E.2.1, n, .inl g))) (hin : vp_in i n) (hdg : decode cc pc = .ok (.iastore, 1))
    (kk : ∀ (f' : py_F) (H' : Heap) (locs' : List Loc), py_at L f' a (.inl (E.2.1, n, .inl (upd g i.toNatClampNeg x))) → py_ext L f L f' a → py_W E A s L f' H' locs' → W p l e R s m args below meth c H' locs' cells slots Q (F0 m (pc + 1) ls rest)) : W p l e R s m args below meth c H locs cells slots Q (F0 m pc ls (.int x :: .int i :: .ref a :: rest)) := by
  obtain ⟨q0, hq⟩ := hf.get
  refine va_iast G.1 G.2.1 hw.1.1 hw.2.1 hw.2.2.1 hw.2.2.2.1 q0 0 hq rfl hin hdg (fun H1 locs1 hP1 hD1 hS1 => ?_)
  rw [py_upd hw.2.2.1 hf hq] at hP1 hD1
  exact kk _ H1 locs1 ⟨hf.1, va_up_self _ _ _⟩ (fun b hb hn => ⟨hb, va_up_ne _ _ hn⟩) ⟨hw.1, hP1, hD1, hS1, hw.2.2.2.2⟩
theorem py_alen (G : CallFix p m c cc nL s args Ts own) (hw : py_W E A s L f H locs) {n : Nat} {g : Nat → Int32} {v : Int32} (hf : py_at L f a (.inl (E.2.1, n, .inl g))) (hv : Int32.ofNat n = v) (hdg : decode cc pc = .ok (.arraylength, 1))
    (kk : W p l e R s m args below meth c H locs cells slots Q (F0 m (pc + 1) ls (.int v :: rest))) : W p l e R s m args below meth c H locs cells slots Q (F0 m pc ls (.ref a :: rest)) := by
  obtain ⟨q0, hq⟩ := hf.get
  exact va_alen G.1 G.2.1 hw.1.1 hw.2.1 q0 0 hq rfl hv hdg kk
theorem py_zald (G : CallFix p m c cc nL s args Ts own) (hw : py_W E A s L f H locs) {n : Nat} {g : Nat → Int32} {i : Int32} (hf : py_at L f a (.inl (E.2.2.2.1, n, .inl g))) (hin : vp_in i n) (hdg : decode cc pc = .ok (.baload, 1))
    (kk : W p l e R s m args below meth c H locs cells slots Q (F0 m (pc + 1) ls (.int (g i.toNatClampNeg) :: rest))) : W p l e R s m args below meth c H locs cells slots Q (F0 m pc ls (.int i :: .ref a :: rest)) := by
  obtain ⟨q0, hq⟩ := hf.get
  exact va_zald G.1 G.2.1 hw.1.1 hw.2.1 q0 2 hq rfl hin hdg kk
theorem py_zast (G : CallFix p m c cc nL s args Ts own) (hw : py_W E A s L f H locs) {n : Nat} {g : Nat → Int32} {i x : Int32} (hf : py_at L f a (.inl (E.2.2.2.1, n, .inl g))) (hin : vp_in i n) (hdg : decode cc pc = .ok (.bastore, 1))
    (kk : ∀ (f' : py_F) (H' : Heap) (locs' : List Loc), py_at L f' a (.inl (E.2.2.2.1, n, .inl (upd g i.toNatClampNeg (vp_nar .boolean x)))) → py_ext L f L f' a → py_W E A s L f' H' locs' → W p l e R s m args below meth c H' locs' cells slots Q (F0 m (pc + 1) ls rest)) : W p l e R s m args below meth c H locs cells slots Q (F0 m pc ls (.int x :: .int i :: .ref a :: rest)) := by
  obtain ⟨q0, hq⟩ := hf.get
  refine va_zast G.1 G.2.1 hw.1.1 hw.2.1 hw.2.2.1 hw.2.2.2.1 q0 2 hq rfl hin hdg (fun H1 locs1 hP1 hD1 hS1 => ?_)
  rw [py_upd hw.2.2.1 hf hq] at hP1 hD1
  exact kk _ H1 locs1 ⟨hf.1, va_up_self _ _ _⟩ (fun b hb hn => ⟨hb, va_up_ne _ _ hn⟩) ⟨hw.1, hP1, hD1, hS1, hw.2.2.2.2⟩
theorem py_jlen (G : CallFix p m c cc nL s args Ts own) (hw : py_W E A s L f H locs) {n : Nat} {g : Nat → Int64} {v : Int32} (hf : py_at L f a (.inl (E.2.2.1, n, .inr (.inl g)))) (hv : Int32.ofNat n = v) (hdg : decode cc pc = .ok (.arraylength, 1))
    (kk : W p l e R s m args below meth c H locs cells slots Q (F0 m (pc + 1) ls (.int v :: rest))) : W p l e R s m args below meth c H locs cells slots Q (F0 m pc ls (.ref a :: rest)) := by
  obtain ⟨q0, hq⟩ := hf.get
  exact va_alen G.1 G.2.1 hw.1.1 hw.2.1 q0 1 hq rfl hv hdg kk
theorem py_lald (G : CallFix p m c cc nL s args Ts own) (hw : py_W E A s L f H locs) {n : Nat} {g : Nat → Int64} {i : Int32} (hf : py_at L f a (.inl (E.2.2.1, n, .inr (.inl g)))) (hin : vp_in i n) (hdg : decode cc pc = .ok (.laload, 1))
    (kk : W p l e R s m args below meth c H locs cells slots Q (F0 m (pc + 1) ls (.long (g i.toNatClampNeg) :: rest))) : W p l e R s m args below meth c H locs cells slots Q (F0 m pc ls (.int i :: .ref a :: rest)) := by
  obtain ⟨q0, hq⟩ := hf.get
  exact va_lald G.1 G.2.1 hw.1.1 hw.2.1 q0 1 hq rfl hin hdg kk
theorem py_last (G : CallFix p m c cc nL s args Ts own) (hw : py_W E A s L f H locs) {n : Nat} {g : Nat → Int64} {i : Int32} {x : Int64} (hf : py_at L f a (.inl (E.2.2.1, n, .inr (.inl g)))) (hin : vp_in i n) (hdg : decode cc pc = .ok (.lastore, 1))
    (kk : ∀ (f' : py_F) (H' : Heap) (locs' : List Loc), py_at L f' a (.inl (E.2.2.1, n, .inr (.inl (vp_updL g i.toNatClampNeg x)))) → py_ext L f L f' a → py_W E A s L f' H' locs' → W p l e R s m args below meth c H' locs' cells slots Q (F0 m (pc + 1) ls rest)) : W p l e R s m args below meth c H locs cells slots Q (F0 m pc ls (.long x :: .int i :: .ref a :: rest)) := by
  obtain ⟨q0, hq⟩ := hf.get
  refine va_last G.1 G.2.1 hw.1.1 hw.2.1 hw.2.2.1 hw.2.2.2.1 q0 1 hq rfl hin hdg (fun H1 locs1 hP1 hD1 hS1 => ?_)
  rw [py_upd hw.2.2.1 hf hq] at hP1 hD1
  exact kk _ H1 locs1 ⟨hf.1, va_up_self _ _ _⟩ (fun b hb hn => ⟨hb, va_up_ne _ _ hn⟩) ⟨hw.1, hP1, hD1, hS1, hw.2.2.2.2⟩
theorem py_aald (G : CallFix p m c cc nL s args Ts own) (hw : py_W E A s L f H locs) {n : Nat} {g : Nat → Option Nat} {i : Int32} (hf : py_at L f a (.inl (E.2.2.2.2, n, .inr (.inr (.inr (.inr g)))))) (hin : vp_in i n) (hdg : decode cc pc = .ok (.aaload, 1))
    (kk : W p l e R s m args below meth c H locs cells slots Q (F0 m (pc + 1) ls (va_rf (g i.toNatClampNeg) :: rest))) : W p l e R s m args below meth c H locs cells slots Q (F0 m pc ls (.int i :: .ref a :: rest)) := by
  obtain ⟨q0, hq⟩ := hf.get
  exact va_aldq G.1 G.2.1 hw.1.1 hw.2.1 q0 3 hq rfl hin hdg kk
theorem py_aast (G : CallFix p m c cc nL s args Ts own) (hw : py_W E A s L f H locs) {n v : Nat} {vs : List Value} {g : Nat → Option Nat} {i : Int32} (hf : py_at L f a (.inl (E.2.2.2.2, n, .inr (.inr (.inr (.inr g)))))) (hv : py_at L f v (.inr (3, vs))) (hin : vp_in i n) (hdg : decode cc pc = .ok (.aastore, 1))
    (kk : ∀ (f' : py_F) (H' : Heap) (locs' : List Loc), py_at L f' a (.inl (E.2.2.2.2, n, .inr (.inr (.inr (.inr (va_up g i.toNatClampNeg (some v))))))) → py_ext L f L f' a → py_W E A s L f' H' locs' → W p l e R s m args below meth c H' locs' cells slots Q (F0 m (pc + 1) ls rest)) : W p l e R s m args below meth c H locs cells slots Q (F0 m pc ls (.ref v :: .int i :: .ref a :: rest)) := by
  obtain ⟨q0, hq⟩ := hf.get
  obtain ⟨q1, hq1⟩ := hv.get
  refine va_astq G.1 G.2.1 hw.1.1 hw.2.1 hw.2.2.1 hw.2.2.2.1 q0 3 q1 3 hq rfl hq1 rfl hin hdg (fun H1 locs1 hP1 hD1 hS1 => ?_)
  rw [py_upd hw.2.2.1 hf hq] at hP1 hD1
  exact kk _ H1 locs1 ⟨hf.1, va_up_self _ _ _⟩ (fun b hb hn => ⟨hb, va_up_ne _ _ hn⟩) ⟨hw.1, hP1, hD1, hS1, hw.2.2.2.2⟩
theorem py_objInit (G : CallFix p m c cc nL s args Ts own) (hls : ls.size = nL) {index : Nat} (h1 : Cond.methodLink own index objectInit ∈ Ts) (h2 : Cond.instanceMethod objectInit ∈ Ts) (h3 : Cond.code objectInit ⟨#[0xb1]⟩ 1 none ∈ Ts) (hdg : decode cc pc = .ok (.invokespecial index, 3)) (hr : 1 ≤ R.frames) (hr2 : 12 ≤ R.locals)
    (kk : W p l e R s m args below meth c H locs cells slots Q (F0 m (pc + 3) ls [])) : W p l e R s m args below meth c H locs cells slots Q (F0 m pc ls [.ref a]) :=
  W.objInit G.1 G.2.1 G.2.2.2.1 (G.2.2.2.2 _ h1) (G.2.2.2.2 _ h2) (G.2.2.2.2 _ h3) rfl (by rw [G.2.2.1]; exact hls) rfl hdg hr (by simpa [JFrame.monitorRoom] using hr2) kk
theorem py_free (hw : py_W E A s L f H locs) : ∀ q : Nat, va_A (va_pl L f) H.size q → A q := by
  intro q h
  rcases h with ⟨k, e, h⟩ | h
  · exact hw.2.2.1.2 k (q, e) h
  · exact hw.2.2.2.2.1 q (Nat.le_trans hw.2.2.2.1.1 h)
theorem py_ThU (hw : py_W E A s L f H locs) {U : State} (hU : U.heap = H) (hW : s.WarmedH U.vm) : py_St (va_A (va_pl L f) H.size) U U.heap := by
  rw [hU]
  exact py_St.moved hW.alike ((hw.2.2.2.2.2.kept hw.2.2.2.1.2.1).narrow (py_free hw))
theorem py_preV (hw : py_W E A s L f H locs) {C : String} {T : u_T} {N ci : Nat} {fs As : List Value} (hc : vwCl[ci]? = some (C, T, N)) (hf : py_at L f a (.inr (ci, fs))) : PreV s H C a (py_Pc E (.ref a :: As) L f H.size) As := by
  obtain ⟨q0, hq⟩ := hf.get
  exact ⟨py_blind, va_recv hw.1.1 hw.2.1 hc hq, fun U hU hW => ⟨rfl, by rw [hU], by rw [hU]; exact hw.2.1, ⟨va_K.moved hW.alike hw.1.1, py_X.warm hW hw.1.2⟩, hw.2.2.1.weaken (fun _ _ _ _ => trivial), py_ThU hw hU hW⟩⟩
theorem py_preS (hw : py_W E A s L f H locs) {As : List Value} : PreS s H (py_Pc E As L f H.size) As :=
  ⟨py_blind, fun U hU hW => ⟨rfl, by rw [hU], by rw [hU]; exact hw.2.1, ⟨va_K.moved hW.alike hw.1.1, py_X.warm hW hw.1.2⟩, hw.2.2.1.weaken (fun _ _ _ _ => trivial), py_ThU hw hU hW⟩⟩
variable {st0 : List Value} {mc ms : Nat} {av : Array Value}
theorem py_calli {post : Int32 → List Nat → py_F → Prop} (hw : py_W E A s L f H locs) (hr : va_Run p l e R s m args below meth c H locs cells slots mc ms (F0 m pc ls st0) rest (py_Qi E L f H.size post av) (va_A (va_pl L f) H.size))
    (kk : ∀ (r : Int32) (L' : List Nat) (f' : py_F) (H' : Heap) (locs' : List Loc), post r L' f' → py_W E A s L' f' H' locs' → W p l e R s m args below meth c H' locs' (cells + mc) (slots + ms) Q (F0 m (pc + 3) ls (.int r :: rest))) : W p l e R s m args below meth c H locs cells slots Q (F0 m pc ls st0) := by
  have hF := py_free hw
  refine va_calli hr hw.2.2.2.1 (fun q _ h => hF q h) hF (fun r u t H1 locs1 ht hvm hp hB hz hk hS => ?_)
  obtain ⟨hP1, hD1⟩ := hB
  rw [ht] at hP1
  exact kk r u.1 u.2 H1 locs1 hp ⟨hw.1, hP1, hD1.weaken (fun k q _ h => hF q.1 h), hS, hw.2.2.2.2⟩
theorem py_calll {post : Int64 → List Nat → py_F → Prop} (hw : py_W E A s L f H locs) (hr : va_Run p l e R s m args below meth c H locs cells slots mc ms (F0 m pc ls st0) rest (py_Ql E L f H.size post av) (va_A (va_pl L f) H.size))
    (kk : ∀ (r : Int64) (L' : List Nat) (f' : py_F) (H' : Heap) (locs' : List Loc), post r L' f' → py_W E A s L' f' H' locs' → W p l e R s m args below meth c H' locs' (cells + mc) (slots + ms) Q (F0 m (pc + 3) ls (.long r :: rest))) : W p l e R s m args below meth c H locs cells slots Q (F0 m pc ls st0) := by
  have hF := py_free hw
  refine va_calll hr hw.2.2.2.1 (fun q _ h => hF q h) hF (fun r u t H1 locs1 ht hvm hp hB hz hk hS => ?_)
  obtain ⟨hP1, hD1⟩ := hB
  rw [ht] at hP1
  exact kk r u.1 u.2 H1 locs1 hp ⟨hw.1, hP1, hD1.weaken (fun k q _ h => hF q.1 h), hS, hw.2.2.2.2⟩
theorem py_callv {post : List Nat → py_F → Prop} (hw : py_W E A s L f H locs) (hr : va_Run p l e R s m args below meth c H locs cells slots mc ms (F0 m pc ls st0) rest (py_Qv E L f H.size post av) (va_A (va_pl L f) H.size))
    (kk : ∀ (L' : List Nat) (f' : py_F) (H' : Heap) (locs' : List Loc), post L' f' → py_W E A s L' f' H' locs' → W p l e R s m args below meth c H' locs' (cells + mc) (slots + ms) Q (F0 m (pc + 3) ls rest)) : W p l e R s m args below meth c H locs cells slots Q (F0 m pc ls st0) := by
  have hF := py_free hw
  refine va_callv hr hw.2.2.2.1 (fun q _ h => hF q h) hF (fun u t H1 locs1 ht hvm hp hB hz hk hS => ?_)
  obtain ⟨hP1, hD1⟩ := hB
  rw [ht] at hP1
  exact kk u.1 u.2 H1 locs1 hp ⟨hw.1, hP1, hD1.weaken (fun k q _ h => hF q.1 h), hS, hw.2.2.2.2⟩
theorem py_callr {post : Nat → List Nat → py_F → Prop} (hw : py_W E A s L f H locs) (hr : va_Run p l e R s m args below meth c H locs cells slots mc ms (F0 m pc ls st0) rest (py_Qr E L f H.size post av) (va_A (va_pl L f) H.size))
    (kk : ∀ (r : Nat) (L' : List Nat) (f' : py_F) (H' : Heap) (locs' : List Loc), post r L' f' → py_W E A s L' f' H' locs' → W p l e R s m args below meth c H' locs' (cells + mc) (slots + ms) Q (F0 m (pc + 3) ls (.ref r :: rest))) : W p l e R s m args below meth c H locs cells slots Q (F0 m pc ls st0) := by
  have hF := py_free hw
  refine va_callr hr hw.2.2.2.1 (fun q _ h => hF q h) hF (fun u r t H1 locs1 ht hvm _ hB hz hk hS => ?_)
  obtain ⟨hp, hP1, hD1⟩ := hB
  rw [ht] at hP1
  exact kk r u.1 u.2 H1 locs1 hp ⟨hw.1, hP1, hD1.weaken (fun k q _ h => hF q.1 h), hS, hw.2.2.2.2⟩
variable {L0 : List Nat} {f0 : py_F} {sz : Nat}
theorem py_iret {post : Int32 → List Nat → py_F → Prop} {r : Int32} {ty : FieldType} (G : CallFix p m c cc nL s args Ts own) (hr : meth.sig.returnType = some ty) (hn : narrow ty (.int r) = .int r) (hlocks : meth.locks = false) (hw : py_W E (va_A (va_pl L0 f0) sz) s L f H locs) (hp : post r L f) (hdg : decode cc pc = .ok (.ireturn, 1)) :
    W p l e R s m args below meth c H locs cells slots (MQ below (py_Qi E L0 f0 sz post) args s cells slots (va_A (va_pl L0 f0) sz)) (F0 m pc ls [.int r]) :=
  W.zret (v := r) (ty := ty) G.1 G.2.1 hr hn (fun t ht hW => ⟨⟨r, (L, f), rfl, hp, by rw [ht]; exact hw.2.1, hw.2.2.1⟩, hw.2.2.2.1.F ht⟩) hw.2.2.2.1.2.2 hdg hlocks
theorem py_lret {post : Int64 → List Nat → py_F → Prop} {r : Int64} (G : CallFix p m c cc nL s args Ts own) (hr : meth.sig.returnType = some .long) (hlocks : meth.locks = false) (hw : py_W E (va_A (va_pl L0 f0) sz) s L f H locs) (hp : post r L f) (hdg : decode cc pc = .ok (.lreturn, 1)) :
    W p l e R s m args below meth c H locs cells slots (MQ below (py_Ql E L0 f0 sz post) args s cells slots (va_A (va_pl L0 f0) sz)) (F0 m pc ls [.long r]) :=
  W.lret (v := r) G.1 G.2.1 hr (fun t ht hW => ⟨⟨r, (L, f), rfl, hp, by rw [ht]; exact hw.2.1, hw.2.2.1⟩, hw.2.2.2.1.F ht⟩) hw.2.2.2.1.2.2 hdg hlocks
theorem py_vret {post : List Nat → py_F → Prop} (G : CallFix p m c cc nL s args Ts own) (hr : meth.sig.returnType = none) (hlocks : meth.locks = false) (hw : py_W E (va_A (va_pl L0 f0) sz) s L f H locs) (hp : post L f) (hdg : decode cc pc = .ok (.return_, 1)) :
    W p l e R s m args below meth c H locs cells slots (MQ below (py_Qv E L0 f0 sz post) args s cells slots (va_A (va_pl L0 f0) sz)) (F0 m pc ls []) :=
  W.vret G.1 G.2.1 hr (fun t ht hW => ⟨⟨(L, f), rfl, hp, by rw [ht]; exact hw.2.1, hw.2.2.1⟩, hw.2.2.2.1.F ht⟩) hw.2.2.2.1.2.2 hdg hlocks
theorem py_rret {post : Nat → List Nat → py_F → Prop} {rt : FieldType} (G : CallFix p m c cc nL s args Ts own) (hr : meth.sig.returnType = some rt) (hrt : (∃ n, rt = .object n) ∨ ∃ t, rt = .array t) (hlocks : meth.locks = false) (hw : py_W E (va_A (va_pl L0 f0) sz) s L f H locs) (hp : post a L f) (hdg : decode cc pc = .ok (.areturn, 1)) :
    W p l e R s m args below meth c H locs cells slots (MQ below (py_Qr E L0 f0 sz post) args s cells slots (va_A (va_pl L0 f0) sz)) (F0 m pc ls [.ref a]) :=
  W.aret (v := .ref a) G.1 G.2.1 hr hrt (Or.inr ⟨a, rfl⟩) (fun t ht hW => ⟨⟨(L, f), a, rfl, trivial, hp, by rw [ht]; exact hw.2.1, hw.2.2.1⟩, hw.2.2.2.1.F ht⟩) hw.2.2.2.1.2.2 hdg hlocks
end PYR
