/-! what a throw wants of the world: Throwable's two statics, that no pool holds -/
def py_Th (B : Nat → Prop) (U : State) (H : Heap) : Prop := vx_Zq Bundle.tN "UNASSIGNED_STACK" Bundle.steD B U H ∧ vx_Zq Bundle.tN "SUPPRESSED_SENTINEL" Bundle.listD B U H
def py_PcT (E : py_E) (av : List Value) (L : List Nat) (f : py_F) (sz : Nat) : Array Value → State → Prop := va_Pc av (fun U => (U.heap.size = sz ∧ va_P E.1 vwCl (va_pl L f) U.heap ∧ (va_K E.1 vwCl (py_ty E) U ∧ py_X U) ∧ va_D (fun _ => True) (va_pl L f)) ∧ py_Th (va_A (va_pl L f) sz) U U.heap)
theorem py_blindT {E : py_E} {av : List Value} {L : List Nat} {f : py_F} {sz : Nat} : FrameBlind (py_PcT E av L f sz) := fun a U g mk q => by
  obtain ⟨q0, ⟨q1, qP, qK, qD⟩, qT⟩ := q
  exact ⟨q0, ⟨q1, qP, ⟨va_K.moved (u := U) (U := U.calling g mk a) (Vm.Alike.refl U.vm) qK.1, py_X.same (u := U) (U := U.calling g mk a) rfl qK.2⟩, qD⟩, vx_Zq.moved (u := U) (U := U.calling g mk a) (Vm.Alike.refl U.vm) qT.1, vx_Zq.moved (u := U) (U := U.calling g mk a) (Vm.Alike.refl U.vm) qT.2⟩
theorem py_startT {E : py_E} {av : List Value} {L : List Nat} {f : py_F} {sz : Nat} {a : Array Value} {s : State} (h : py_PcT E av L f sz a s) : a = av.toArray ∧ s.heap.size = sz ∧ py_W E (va_A (va_pl L f) sz) s L f s.heap [] ∧ py_Th (va_A (va_pl L f) sz) s s.heap := by
  obtain ⟨q0, ⟨q1, qP, qK, qD⟩, qT⟩ := h
  subst q1
  exact ⟨q0, rfl, ⟨qK, qP, qD.self, va_S.rf, fun q h => Or.inr h⟩, qT⟩
section PYT
variable {p : Program} {l : Launch} {e : Env} {R : Room} {s : State} {m : MethodId} {args : Array Value} {below : List Frame} {meth : Method} {c : Code} {H : Heap} {locs : List Loc} {cells slots : Nat} {Q : State → Prop}
variable {cc : ByteArray} {nL pc : Nat} {ls : Array Slot} {rest : List Value} {E : py_E} {A : Nat → Prop} {L : List Nat} {f : py_F} {Ts : List Cond} {own : String} {a : Nat}
theorem py_ThU (hw : py_W E A s L f H locs) (hT : py_Th A s s.heap) {U : State} (hU : U.heap = H) (hW : s.WarmedH U.vm) : py_Th (va_A (va_pl L f) H.size) U U.heap := by
  rw [hU]
  exact ⟨vx_Zq.moved hW.alike ((hT.1.kept hw.2.2.2.1.2.1).narrow (py_free hw)), vx_Zq.moved hW.alike ((hT.2.kept hw.2.2.2.1.2.1).narrow (py_free hw))⟩
theorem py_preVT (hw : py_W E A s L f H locs) (hT : py_Th A s s.heap) {C : String} {T : u_T} {N ci : Nat} {fs As : List Value} (hc : vwCl[ci]? = some (C, T, N)) (hf : py_at L f a (.inr (ci, fs))) : PreV s H C a (py_PcT E (.ref a :: As) L f H.size) As := by
  obtain ⟨q0, hq⟩ := hf.get
  exact ⟨py_blindT, va_recv hw.1.1 hw.2.1 hc hq, fun U hU hW => ⟨rfl, ⟨by rw [hU], by rw [hU]; exact hw.2.1, ⟨va_K.moved hW.alike hw.1.1, py_X.warm hW hw.1.2⟩, hw.2.2.1.weaken (fun _ _ _ _ => trivial)⟩, py_ThU hw hT hU hW⟩⟩
theorem py_preST (hw : py_W E A s L f H locs) (hT : py_Th A s s.heap) {As : List Value} : PreS s H (py_PcT E As L f H.size) As :=
  ⟨py_blindT, fun U hU hW => ⟨rfl, ⟨by rw [hU], by rw [hU]; exact hw.2.1, ⟨va_K.moved hW.alike hw.1.1, py_X.warm hW hw.1.2⟩, hw.2.2.1.weaken (fun _ _ _ _ => trivial)⟩, py_ThU hw hT hU hW⟩⟩
theorem py_thw {args : Array Value} (h : py_X s) : ∀ w ∈ py_th, w.before args s = true := fun w hw => va_Nw.use (py_th_on w hw) (h.1.2 w hw)
end PYT
theorem dL_level_0 : decode cL_level 0 = .ok (.aload_n 3, 1) := by decide +kernel
theorem dL_level_1 : decode cL_level 1 = .ok (.iconst 0, 1) := by decide +kernel
theorem dL_level_13 : decode cL_level 13 = .ok (.astore 4, 2) := by decide +kernel
theorem dL_level_15 : decode cL_level 15 = .ok (.iconst 1, 1) := by decide +kernel
theorem dL_level_16 : decode cL_level 16 = .ok (.ireturn, 1) := by decide +kernel
theorem dL_level_2 : decode cL_level 2 = .ok (.aload_n 0, 1) := by decide +kernel
theorem dL_level_3 : decode cL_level 3 = .ok (.iload_n 1, 1) := by decide +kernel
theorem dL_level_4 : decode cL_level 4 = .ok (.iload_n 2, 1) := by decide +kernel
theorem dL_level_5 : decode cL_level 5 = .ok (.invokevirtual 7, 3) := by decide +kernel
theorem dX11_level_0 : decode cX11_level 0 = .ok (.aload_n 0, 1) := by decide +kernel
theorem dX11_level_1 : decode cX11_level 1 = .ok (.getfield 47, 3) := by decide +kernel
theorem dX11_level_10 : decode cX11_level 10 = .ok (.invokevirtual 132, 3) := by decide +kernel
theorem dX11_level_13 : decode cX11_level 13 = .ok (.ifCond .ne 11, 3) := by decide +kernel
theorem dX11_level_16 : decode cX11_level 16 = .ok (.new 136, 3) := by decide +kernel
theorem dX11_level_19 : decode cX11_level 19 = .ok (.dup, 1) := by decide +kernel
theorem dX11_level_20 : decode cX11_level 20 = .ok (.invokespecial 138, 3) := by decide +kernel
theorem dX11_level_23 : decode cX11_level 23 = .ok (.athrow, 1) := by decide +kernel
theorem dX11_level_4 : decode cX11_level 4 = .ok (.getfield 128, 3) := by decide +kernel
theorem dX11_level_7 : decode cX11_level 7 = .ok (.astore_n 3, 1) := by decide +kernel
theorem dX11_level_8 : decode cX11_level 8 = .ok (.aload_n 0, 1) := by decide +kernel
theorem dX11_level_9 : decode cX11_level 9 = .ok (.iload_n 1, 1) := by decide +kernel
def w_X11_level : List Cond := .code yX11_level cX11_level 4 (some .int) :: ([Cond.fieldLink RX11 47 "HeadYear" "folk" "LHeadYear$Folk;", Cond.fieldLink RX11 128 "HeadYear$Folk" "valley" "LHeadYear$Valley;", Cond.methodLink RX11 132 yX11_isLevel, Cond.instanceMethod yX11_isLevel, Cond.selects RX11 yX11_isLevel yX11_isLevel, Cond.initialized RX11, Cond.classLink RX11 136 "java/util/NoSuchElementException", Cond.initialized "java/util/NoSuchElementException"] ++ (u_ws RX11 TX11 16 ++ (u_ws RX2 TX2 12 ++ (w_X11_isLevel ++ ((vx_at0 RX11 138 "java/util/NoSuchElementException" ["java/lang/RuntimeException", "java/lang/Exception"]).filter goodWord)))))
theorem in_X11_level_X11 : ∀ w ∈ u_ws RX11 TX11 16, w ∈ w_X11_level := fun _ h => List.mem_cons_of_mem _ (List.mem_append_right _ (List.mem_append_left _ h))
theorem in_X11_level_X2 : ∀ w ∈ u_ws RX2 TX2 12, w ∈ w_X11_level := fun _ h => List.mem_cons_of_mem _ (List.mem_append_right _ (List.mem_append_right _ (List.mem_append_left _ h)))
theorem gg_X11_level_X11_isLevel : GoodIn w_X11_level w_X11_isLevel := goodIn_sub (fun _ h => List.mem_cons_of_mem _ (List.mem_append_right _ (List.mem_append_right _ (List.mem_append_right _ (List.mem_append_left _ h))))) (by decide +kernel)
theorem at_X11_level : ∀ w ∈ (vx_at0 RX11 138 "java/util/NoSuchElementException" ["java/lang/RuntimeException", "java/lang/Exception"]).filter goodWord, w ∈ w_X11_level := fun _ h => List.mem_cons_of_mem _ (List.mem_append_right _ (List.mem_append_right _ (List.mem_append_right _ (List.mem_append_right _ (h)))))
theorem g_X11_level_X11_isLevel_132 : GoodIn w_X11_level (wsV RX11 132 RX11 yX11_isLevel w_X11_isLevel) := goodIn_app (goodIn_of _ (by decide +kernel)) gg_X11_level_X11_isLevel
set_option maxHeartbeats 4000000 in
set_option maxRecDepth 100000 in
theorem c_X11_level (l : Launch) (hst : l.stackTraces = false) (E : py_E) (L : List Nat) (f : py_F) (sz : Nat) (h : Nat) (a b : Int32) (hF : fr_H E L f h) : vx_Met l yX11_level w_X11_level ({ frames := 6, cells := 1, slots := 6, locals := 90 }) (py_PcT E [.ref h, .int a, .int b] L f sz) (py_Qi E L f sz (fun _ _ _ => False)) (vx_X (S := Unit) (fun _ => True) (fun C _ t => C = "java/util/NoSuchElementException" ∧ va_P E.1 vwCl (va_pl L f) t.heap) (va_A (va_pl L f) sz)) 1 6 (va_A (va_pl L f) sz) := by
  refine vx_ofW (cc := cX11_level) (maxL := 4) (ret := (some .int)) (by decide) rfl ?_
  intro p e s m args below meth c s₁ B hml htb hv
  obtain ⟨rfl, rfl, hw, hT⟩ := py_startT hv
  have G : CallFix p m c cX11_level 4 s _ w_X11_level RX11 := ⟨B.exec, B.bytes, hml, findClass_of_methodNamed B.named, atoms_spec (ws := w_X11_level) B.pre⟩
  have hlk := B.notSynchronized
  have hl := lv_entry ([.ref h, .int a, .int b]) (n := 4) (Nat.le_of_ble_eq_true rfl)
  rw [lg_entry_eq]
  generalize (lg_sl ([.ref h, .int a, .int b]) ++ List.replicate (4 - (lg_sl ([.ref h, .int a, .int b])).length) Slot.unset).toArray = ls at hl ⊢
  have hl : lv_has ls 4 [(0, .ref h), (1, .int a), (2, .int b)] := hl
  obtain ⟨tape, byt, vr, itm, dr, lr, dl, lws, nl, fo, va, tr, im, di, bu, se, mo, od, g, xd, xl, xf, xv, xi, xu, xs, hh, htape, hbyt, hvr, hdr, hxd, hlr, hdl, hxl, hfo, hxf, hf9, hf11, hva, hxv, hv8, hv9, hdi, hxi, hi2, hbu, hxu, hu3, hse, hxs⟩ := id hF
  have hMp : ∀ m, fr_M E L f m → fr_M E L f m := fun _ h => h
  refine lv_aload_n G.1 G.2.1 dX11_level_0 rfl (lv_at hl 0 rfl) ?_
  refine py_get (C := RX11) (T := TX11) (N := 16) (k := 5) (v := .ref fo) G hw in_X11_level_X11 rfl hh (by decide) (by decide +kernel) rfl dX11_level_1 ?_
  refine py_get (C := RX2) (T := TX2) (N := 12) (k := 9) (v := .ref va) G hw in_X11_level_X2 rfl hfo (by decide) (by decide +kernel) hf9 dX11_level_4 ?_
  refine lv_astore_n (lv' := [(3, .ref va), (0, .ref h), (1, .int a), (2, .int b)]) G.1 G.2.1 dX11_level_7 rfl hl (by decide) rfl (fun ls hl => ?_)
  refine lv_aload_n G.1 G.2.1 dX11_level_8 rfl (lv_at hl 1 rfl) ?_
  refine lv_iload_n G.1 G.2.1 dX11_level_9 rfl (lv_at hl 2 rfl) ?_
  refine py_calli hw (va_runV (As := [.int a]) (rest := []) G (c_X11_isLevel l E L f s.heap.size h a hF) (cwV 1 G.2.2.2.2 g_X11_level_X11_isLevel_132 rfl rfl rfl (by decide +kernel) ⟨(Nat.le_of_ble_eq_true rfl), (Nat.le_of_ble_eq_true rfl)⟩) (py_preV hw (C := RX11) (T := TX11) (N := 16) rfl hh) rfl rfl hl.1 rfl (lv_room (Nat.le_of_ble_eq_true rfl)) dX11_level_10 ⟨(Nat.le_of_ble_eq_true rfl), (Nat.le_of_ble_eq_true rfl)⟩) (fun r_5 L_1 f_2 H_3 locs hp_4 hw => ?_)
  obtain ⟨rfl, rfl, rfl⟩ := hp_4
  refine lv_if_ne (tgt := 24) G.1 G.2.1 dX11_level_13 (by decide) (fun c_6 => ?_) (fun c_6 => ?_)
  · skip
    exact absurd c_6 (by decide)
  · skip
    refine W.widen (k := 0) (n := 0) (Nat.le_of_ble_eq_true rfl) (Nat.le_of_ble_eq_true rfl) ?_
    refine vx_throw0 (own := RX11) (cls := "java/util/NoSuchElementException") (names := ["java/lang/RuntimeException", "java/lang/Exception"]) (ik := 136) (ic := 138) (A := va_A (va_pl L f) s.heap.size) G.1 G.2.1 hst G.2.2.2.1 (by decide +kernel) (by decide +kernel) (G.2.2.2.2 (Cond.classLink RX11 136 "java/util/NoSuchElementException") (by decide +kernel)) (G.2.2.2.2 (Cond.initialized "java/util/NoSuchElementException") (by decide +kernel)) (vx_hat (B := py_th) (fun w h => G.2.2.2.2 w (at_X11_level w h)) (by decide +kernel) (py_thw hw.1.2)) (by decide +kernel) hT.1 hT.2 hw.2.2.2.1 (by rw [G.2.2.1]; exact hl.1) dX11_level_16 dX11_level_19 dX11_level_20 dX11_level_23 (fun x hx => (htb x hx).elim) (Nat.le_of_ble_eq_true rfl) (Nat.le_of_ble_eq_true rfl) (Nat.le_of_ble_eq_true rfl) (Nat.le_of_ble_eq_true rfl) hlk (fun t ha hz hk => ⟨(), trivial, ⟨rfl, va_P.kept hw.2.1 (fun k x hx => hk x.1 ((hw.2.1 k x hx).lt))⟩, Nat.le_trans hw.2.2.2.1.1 hz, fun q h1 h2 => (hk q (Nat.lt_of_lt_of_le h1 hw.2.2.2.1.1)).trans (hw.2.2.2.1.2.1 q h1 h2)⟩) hw.2.2.2.1.2.2 (Nat.le_refl 1) (Nat.le_refl 6)
def w_L_level : List Cond := .codeWith yL_level cL_level 5 (some .int) [(0, 10, 13, 13)] :: ([Cond.methodLink RL 7 yX11_level, Cond.instanceMethod yX11_level, Cond.selects RX11 yX11_level yX11_level, Cond.initialized RX11, Cond.classLink RL 13 "java/util/NoSuchElementException"] ++ w_X11_level)
theorem gg_L_level : GoodIn w_L_level w_X11_level := goodIn_sub (fun _ h => List.mem_cons_of_mem _ (List.mem_append_right _ h)) (by decide +kernel)
theorem g_L_level : GoodIn w_L_level (wsV RL 7 RX11 yX11_level w_X11_level) := goodIn_app (goodIn_of _ (by decide +kernel)) gg_L_level
set_option maxHeartbeats 4000000 in
set_option maxRecDepth 100000 in
theorem c_L_level (l : Launch) (hst : l.stackTraces = false) (E : py_E) (L : List Nat) (f : py_F) (sz : Nat) (h : Nat) (a b : Int32) (o : Nat) (hF : fr_H E L f h) : Met l yL_level w_L_level ({ frames := 7, cells := 1, slots := 6, locals := 113 }) (py_PcT E [.ref h, .int a, .int b, .ref o] L f sz) (py_Qi E L f sz (fun r L1 f1 => r = 1 ∧ L = L1 ∧ f = f1)) 1 6 (va_A (va_pl L f) sz) := by
  refine va_MetW (cc := cL_level) (maxL := 5) (ret := (some .int)) (by decide) rfl ?_
  intro p e s m args below meth c s₁ B hml hv
  obtain ⟨rfl, rfl, hw, hT⟩ := py_startT hv
  have G : CallFix p m c cL_level 5 s _ w_L_level RL := ⟨B.exec, B.bytes, hml, findClass_of_methodNamed B.named, atoms_spec (ws := w_L_level) B.pre⟩
  have hlk := B.notSynchronized
  have hr := B.returns
  have htb : c.exceptionTable.toList = [⟨0, 10, 13, 13⟩] := vx_table (x := yL_level) B (G.2.2.2.2 _ List.mem_cons_self)
  obtain ⟨tape, byt, vr, itm, dr, lr, dl, lws, nl, fo, va, tr, im, di, bu, se, mo, od, g, xd, xl, xf, xv, xi, xu, xs, hh, htape, hbyt, hvr, hdr, hxd, hlr, hdl, hxl, hfo, hxf, hf9, hf11, hva, hxv, hv8, hv9, hdi, hxi, hi2, hbu, hxu, hu3, hse, hxs⟩ := id hF
  have hl := lv_entry ([.ref h, .int a, .int b, .ref o]) (n := 5) (Nat.le_of_ble_eq_true rfl)
  rw [lg_entry_eq]
  generalize (lg_sl ([.ref h, .int a, .int b, .ref o]) ++ List.replicate (5 - (lg_sl ([.ref h, .int a, .int b, .ref o])).length) Slot.unset).toArray = ls at hl ⊢
  have hl : lv_has ls 5 [(0, .ref h), (1, .int a), (2, .int b), (3, .ref o)] := hl
  refine lv_aload_n G.1 G.2.1 dL_level_0 rfl (lv_at hl 3 rfl) ?_
  refine lv_iconst (v := 0) G.1 G.2.1 dL_level_1 (by decide) ?_
  refine lv_aload_n G.1 G.2.1 dL_level_2 rfl (lv_at hl 0 rfl) ?_
  refine lv_iload_n G.1 G.2.1 dL_level_3 rfl (lv_at hl 1 rfl) ?_
  refine lv_iload_n G.1 G.2.1 dL_level_4 rfl (lv_at hl 2 rfl) ?_
  refine vx_calli (vx_runV (As := [.int a, .int b]) (rest := [.int 0, .ref o]) G (c_X11_level l hst E L f s.heap.size h a b hF) (cwV 2 G.2.2.2.2 g_L_level rfl rfl rfl (by decide +kernel) ⟨(Nat.le_of_ble_eq_true rfl), (Nat.le_of_ble_eq_true rfl)⟩) (py_preVT hw hT (C := RX11) (T := TX11) (N := 16) rfl hh) rfl rfl hl.1 rfl (lv_room (Nat.le_of_ble_eq_true rfl)) dL_level_5 ⟨(Nat.le_of_ble_eq_true rfl), (Nat.le_of_ble_eq_true rfl)⟩) hw.2.2.2.1 (fun q _ h => py_free hw q h) (py_free hw) (fun q _ h => py_free hw q h) (fun C ce q9 u t H1 locs1 ht hvm hpx hB hz hk hS1 hce hcv hcl => ?_) (fun r u t H1 locs1 ht hvm hp hB hz hk hS1 => hp.elim)
  obtain ⟨rfl, hP1⟩ := hB
  rw [ht] at hP1
  have hw : py_W E (va_A (va_pl L f) s.heap.size) s L f H1 locs1 := ⟨hw.1, hP1, hw.2.2.1, hS1, hw.2.2.2.2⟩
  refine vx_catch (own := RL) (name := "java/util/NoSuchElementException") G.2.2.2.1 [] ⟨0, 10, 13, 13⟩ [] htb (fun z hz => nomatch hz) (by decide) (by decide) (G.2.2.2.2 (Cond.classLink RL 13 "java/util/NoSuchElementException") (by decide +kernel)) (py_thw hw.1.2 _ (List.mem_of_getElem? (i := 3) rfl)) hce hcv hcl ?_
  refine lv_astore (lv' := [(4, .ref q9), (0, .ref h), (1, .int a), (2, .int b), (3, .ref o)]) G.1 G.2.1 dL_level_13 hl (by decide) rfl (fun ls hl => ?_)
  refine lv_iconst (v := 1) G.1 G.2.1 dL_level_15 (by decide) ?_
  refine W.widen (k := 1) (n := 6) (Nat.le_of_ble_eq_true rfl) (Nat.le_of_ble_eq_true rfl) ?_
  exact py_iret G hr rfl hlk hw ⟨rfl, rfl, rfl⟩ dL_level_16
