theorem py_inr {i : Int32} {n : Nat} (h : ¬ (i < 0 ∨ n ≤ i.toNatClampNeg)) : vp_in i n := h
/-- changed at two places at most -/
def py_ext2 (L : List Nat) (f : py_F) (L' : List Nat) (f' : py_F) (a a2 : Nat) : Prop := ∀ b : Nat, b ∈ L → b ≠ a → b ≠ a2 → b ∈ L' ∧ f' b = f b
theorem ext2_at {L L' : List Nat} {f f' : py_F} {a a2 b : Nat} {e : va_E} (h : py_at L f b e) (x : py_ext2 L f L' f' a a2) (h1 : b ≠ a) (h2 : b ≠ a2) : py_at L' f' b e := by
  obtain ⟨m, q⟩ := x b h.1 h1 h2
  exact ⟨m, q.trans h.2⟩
theorem py_ne_arr_s {L : List Nat} {f : py_F} {a b i : Nat} {x : List Value} {y : ClassId × vp_A} (hb : py_at L f b (.inl y)) (ha : py_at L f a (.inr (i, x))) : b ≠ a := Ne.symm (py_ne_arr ha hb)
theorem dX3_bornLessDead_0 : decode cX3_bornLessDead 0 = .ok (.new 10, 3) := by decide +kernel
theorem dX3_bornLessDead_3 : decode cX3_bornLessDead 3 = .ok (.dup, 1) := by decide +kernel
theorem dX3_bornLessDead_4 : decode cX3_bornLessDead 4 = .ok (.invokespecial 22, 3) := by decide +kernel
theorem dX3_bornLessDead_7 : decode cX3_bornLessDead 7 = .ok (.astore_n 0, 1) := by decide +kernel
theorem dX3_bornLessDead_8 : decode cX3_bornLessDead 8 = .ok (.aload_n 0, 1) := by decide +kernel
theorem dX3_bornLessDead_9 : decode cX3_bornLessDead 9 = .ok (.bipush 121, 2) := by decide +kernel
theorem dX3_bornLessDead_11 : decode cX3_bornLessDead 11 = .ok (.iconst 0, 1) := by decide +kernel
theorem dX3_bornLessDead_12 : decode cX3_bornLessDead 12 = .ok (.invokevirtual 23, 3) := by decide +kernel
theorem dX3_bornLessDead_15 : decode cX3_bornLessDead 15 = .ok (.aload_n 0, 1) := by decide +kernel
theorem dX3_bornLessDead_16 : decode cX3_bornLessDead 16 = .ok (.bipush 121, 2) := by decide +kernel
theorem dX3_bornLessDead_18 : decode cX3_bornLessDead 18 = .ok (.iconst 1, 1) := by decide +kernel
theorem dX3_bornLessDead_19 : decode cX3_bornLessDead 19 = .ok (.invokevirtual 23, 3) := by decide +kernel
theorem dX3_bornLessDead_22 : decode cX3_bornLessDead 22 = .ok (.aload_n 0, 1) := by decide +kernel
theorem dX3_bornLessDead_23 : decode cX3_bornLessDead 23 = .ok (.bipush 45, 2) := by decide +kernel
theorem dX3_bornLessDead_25 : decode cX3_bornLessDead 25 = .ok (.iconst 0, 1) := by decide +kernel
theorem dX3_bornLessDead_26 : decode cX3_bornLessDead 26 = .ok (.invokevirtual 23, 3) := by decide +kernel
theorem dX3_bornLessDead_29 : decode cX3_bornLessDead 29 = .ok (.aload_n 0, 1) := by decide +kernel
theorem dX3_bornLessDead_30 : decode cX3_bornLessDead 30 = .ok (.bipush 59, 2) := by decide +kernel
theorem dX3_bornLessDead_32 : decode cX3_bornLessDead 32 = .ok (.iconst 0, 1) := by decide +kernel
theorem dX3_bornLessDead_33 : decode cX3_bornLessDead 33 = .ok (.invokevirtual 23, 3) := by decide +kernel
theorem dX3_bornLessDead_36 : decode cX3_bornLessDead 36 = .ok (.aload_n 0, 1) := by decide +kernel
theorem dX3_bornLessDead_37 : decode cX3_bornLessDead 37 = .ok (.areturn, 1) := by decide +kernel
theorem dX3_init_0 : decode cX3_init 0 = .ok (.aload_n 0, 1) := by decide +kernel
theorem dX3_init_1 : decode cX3_init 1 = .ok (.invokespecial 1, 3) := by decide +kernel
theorem dX3_init_4 : decode cX3_init 4 = .ok (.aload_n 0, 1) := by decide +kernel
theorem dX3_init_5 : decode cX3_init 5 = .ok (.sipush 160, 3) := by decide +kernel
theorem dX3_init_8 : decode cX3_init 8 = .ok (.newarray .int, 2) := by decide +kernel
theorem dX3_init_10 : decode cX3_init 10 = .ok (.putfield 9, 3) := by decide +kernel
theorem dX3_init_13 : decode cX3_init 13 = .ok (.aload_n 0, 1) := by decide +kernel
theorem dX3_init_14 : decode cX3_init 14 = .ok (.bipush 32, 2) := by decide +kernel
theorem dX3_init_16 : decode cX3_init 16 = .ok (.newarray .int, 2) := by decide +kernel
theorem dX3_init_18 : decode cX3_init 18 = .ok (.putfield 15, 3) := by decide +kernel
theorem dX3_init_21 : decode cX3_init 21 = .ok (.aload_n 0, 1) := by decide +kernel
theorem dX3_init_22 : decode cX3_init 22 = .ok (.iconst 0, 1) := by decide +kernel
theorem dX3_init_23 : decode cX3_init 23 = .ok (.putfield 18, 3) := by decide +kernel
theorem dX3_init_26 : decode cX3_init 26 = .ok (.return_, 1) := by decide +kernel
def w_X3_init : List Cond := .code yX3_init cX3_init 1 none :: ([Cond.methodLink RX3 1 objectInit, Cond.instanceMethod objectInit, Cond.code objectInit ⟨#[0xb1]⟩ 1 none, Cond.arrayClass .int, Cond.fieldLink RX3 9 "HeadYear$Law" "code" "[I", Cond.fieldLink RX3 15 "HeadYear$Law" "stack" "[I", Cond.fieldLink RX3 18 "HeadYear$Law" "length" "I"] ++ (u_ws RX3 TX3 3 ++ ([])))
theorem in_X3_init_X3 : ∀ w ∈ u_ws RX3 TX3 3, w ∈ w_X3_init := fun _ h => List.mem_cons_of_mem _ (List.mem_append_right _ (List.mem_append_left _ h))
set_option maxHeartbeats 4000000 in
set_option maxRecDepth 100000 in
theorem c_X3_init (l : Launch) (E : py_E) (L : List Nat) (f : py_F) (sz : Nat) (h : Nat) (hh : py_at L f h (.inr (3, [.null, .null, .int 0]))) : Met l yX3_init w_X3_init ({ frames := 1, cells := 2, slots := 192, locals := 12 }) (py_Pc E [.ref h] L f sz) (py_Qv E L f sz (fun L1 f1 => ∃ co st : Nat, py_at L1 f1 h (.inr (3, [.ref co, .ref st, .int 0])) ∧ py_at L1 f1 co (.inl (E.2.1, 160, .inl (fun _ => 0))) ∧ py_at L1 f1 st (.inl (E.2.1, 32, .inl (fun _ => 0))) ∧ co ∉ L ∧ st ∉ L ∧ co ≠ st ∧ py_ext L f L1 f1 h)) 2 192 (va_A (va_pl L f) sz) := by
  refine Met.ofW (cc := cX3_init) (maxL := 1) (ret := none) (by decide) rfl ?_
  intro p e s m args below meth c s₁ B hml hv
  obtain ⟨rfl, rfl, hw⟩ := py_start hv
  have G : CallFix p m c cX3_init 1 s _ w_X3_init RX3 := ⟨B.exec, B.bytes, hml, findClass_of_methodNamed B.named, atoms_spec (ws := w_X3_init) B.pre⟩
  have hr := B.returns
  have hlk := B.notSynchronized
  have hin : meth.name = "<init>" := (name_of_methodNamed B.named B.method).1
  have hl := lv_entry ([.ref h]) (n := 1) (Nat.le_of_ble_eq_true rfl)
  rw [lg_entry_eq]
  generalize (lg_sl ([.ref h]) ++ List.replicate (1 - (lg_sl ([.ref h])).length) Slot.unset).toArray = ls at hl ⊢
  have hl : lv_has ls 1 [(0, .ref h)] := hl
  refine lv_aload_n G.1 G.2.1 dX3_init_0 rfl (lv_at hl 0 rfl) ?_
  refine py_objInit G hl.1 (by decide +kernel) (by decide +kernel) (by decide +kernel) dX3_init_1 (Nat.le_of_ble_eq_true rfl) (Nat.le_of_ble_eq_true rfl) ?_
  refine lv_aload_n G.1 G.2.1 dX3_init_4 rfl (lv_at hl 0 rfl) ?_
  refine lv_sipush (v := 160) G.1 G.2.1 dX3_init_5 (by decide) ?_
  refine py_newI (N := 160) G hw (by decide +kernel) (by decide) (by decide) (Nat.le_of_ble_eq_true rfl) (Nat.le_of_ble_eq_true rfl) (Nat.le_of_ble_eq_true rfl) dX3_init_8 (fun q_1 L_2 f_3 H_4 hq_5 h_6 x_7 hw => ?_)
  have ne_8 : h ≠ q_1 := py_ne_new hh hq_5
  have hh := hh.all x_7
  refine py_putF (C := RX3) (T := TX3) (N := 3) (k := 0) (v := .ref q_1) (fs' := [.ref q_1, .null, .int 0]) (ty0 := tyX3) G hin hw tyX3_ok nmX3 in_X3_init_X3 rfl hh (by decide) (by decide +kernel) rfl rfl rfl rfl rfl (Nat.le_of_ble_eq_true rfl) rfl dX3_init_10 (fun f_9 H_10 locs h_11 x_12 hw => ?_)
  have h_6 := h_6.ext x_12 (Ne.symm ne_8)
  refine lv_aload_n G.1 G.2.1 dX3_init_13 rfl (lv_at hl 0 rfl) ?_
  refine lv_bipush (v := 32) G.1 G.2.1 dX3_init_14 (by decide) ?_
  refine py_newI (N := 32) G hw (by decide +kernel) (by decide) (by decide) (Nat.le_of_ble_eq_true rfl) (Nat.le_of_ble_eq_true rfl) (Nat.le_of_ble_eq_true rfl) dX3_init_16 (fun q_13 L_14 f_15 H_16 hq_17 h_18 x_19 hw => ?_)
  have ne_20 : h ≠ q_13 := py_ne_new h_11 hq_17
  have h_11 := h_11.all x_19
  have ne_21 : q_1 ≠ q_13 := py_ne_new h_6 hq_17
  have h_6 := h_6.all x_19
  refine py_putF (C := RX3) (T := TX3) (N := 3) (k := 1) (v := .ref q_13) (fs' := [.ref q_1, .ref q_13, .int 0]) (ty0 := tyX3) G hin hw tyX3_ok nmX3 in_X3_init_X3 rfl h_11 (by decide) (by decide +kernel) rfl rfl rfl rfl rfl (Nat.le_of_ble_eq_true rfl) rfl dX3_init_18 (fun f_22 H_23 locs h_24 x_25 hw => ?_)
  have h_6 := h_6.ext x_25 (Ne.symm ne_8)
  have h_18 := h_18.ext x_25 (Ne.symm ne_20)
  refine lv_aload_n G.1 G.2.1 dX3_init_21 rfl (lv_at hl 0 rfl) ?_
  refine lv_iconst (v := 0) G.1 G.2.1 dX3_init_22 (by decide) ?_
  refine py_put (C := RX3) (T := TX3) (N := 3) (k := 2) (v := .int 0) (fs' := [.ref q_1, .ref q_13, .int 0]) (ty0 := tyX3) G hw tyX3_ok nmX3 in_X3_init_X3 rfl h_24 (by decide) (by decide +kernel) rfl rfl rfl rfl (Nat.le_of_ble_eq_true rfl) rfl dX3_init_23 (fun f_26 H_27 locs h_28 x_29 hw => ?_)
  have h_6 := h_6.ext x_29 (Ne.symm ne_8)
  have h_18 := h_18.ext x_29 (Ne.symm ne_20)
  refine W.widen (k := 2) (n := 192) (Nat.le_of_ble_eq_true rfl) (Nat.le_of_ble_eq_true rfl) ?_
  have nsub : ∀ {z : Nat}, z ∈ L → z ∈ L_2 := fun {z} hz => (x_7 z hz).1
  have xt_30 : py_ext L f L_14 f_26 h := fun b hb hn => by
    have n1 : b ≠ q_1 := fun h => hq_5 (h ▸ hb)
    obtain ⟨m1, e1⟩ := x_7 b hb
    obtain ⟨m2, e2⟩ := x_12 b m1 hn
    have n3 : b ≠ q_13 := fun h => hq_17 (h ▸ m2)
    obtain ⟨m3, e3⟩ := x_19 b m2
    obtain ⟨m4, e4⟩ := x_25 b m3 hn
    obtain ⟨m5, e5⟩ := x_29 b m4 hn
    exact ⟨m5, e5.trans (e4.trans (e3.trans (e2.trans (e1.trans (rfl)))))⟩
  exact py_vret G hr hlk hw ⟨_, _, h_28, h_6, h_18, hq_5, fun z => hq_17 (nsub z), ne_21, xt_30⟩ dX3_init_26

def w_X3_addS : List Cond := .code yX3_add cX3_add 3 none :: ([Cond.fieldLink RX3 18 "HeadYear$Law" "length" "I", Cond.fieldLink RX3 9 "HeadYear$Law" "code" "[I"] ++ (u_ws RX3 TX3 3 ++ ([])))
theorem in_X3_addS_X3 : ∀ w ∈ u_ws RX3 TX3 3, w ∈ w_X3_addS := fun _ h => List.mem_cons_of_mem _ (List.mem_append_right _ (List.mem_append_left _ h))
set_option maxHeartbeats 4000000 in
set_option maxRecDepth 100000 in
theorem c_X3_addS (l : Launch) (E : py_E) (L : List Nat) (f : py_F) (sz : Nat) (h : Nat) (sg vl : Int32) (co st : Nat) (n n1 : Int32) (g : Nat → Int32) (hh : py_at L f h (.inr (3, [.ref co, .ref st, .int n]))) (hc : py_at L f co (.inl (E.2.1, 160, .inl g))) (hn : n < 160) (hin : vp_in n 160) (hn1 : n + 1 = n1) : Met l yX3_add w_X3_addS ({ frames := 0, cells := 0, slots := 0, locals := 0 }) (py_Pc E [.ref h, .int sg, .int vl] L f sz) (py_Qv E L f sz (fun L1 f1 => ∃ g1 : Nat → Int32, py_at L1 f1 h (.inr (3, [.ref co, .ref st, .int n1])) ∧ py_at L1 f1 co (.inl (E.2.1, 160, .inl g1)) ∧ py_ext2 L f L1 f1 h co)) 0 0 (va_A (va_pl L f) sz) := by
  refine Met.ofW (cc := cX3_add) (maxL := 3) (ret := none) (by decide) rfl ?_
  intro p e s m args below meth c s₁ B hml hv
  obtain ⟨rfl, rfl, hw⟩ := py_start hv
  have G : CallFix p m c cX3_add 3 s _ w_X3_addS RX3 := ⟨B.exec, B.bytes, hml, findClass_of_methodNamed B.named, atoms_spec (ws := w_X3_addS) B.pre⟩
  have hr := B.returns
  have hlk := B.notSynchronized
  have hl := lv_entry ([.ref h, .int sg, .int vl]) (n := 3) (Nat.le_of_ble_eq_true rfl)
  rw [lg_entry_eq]
  generalize (lg_sl ([.ref h, .int sg, .int vl]) ++ List.replicate (3 - (lg_sl ([.ref h, .int sg, .int vl])).length) Slot.unset).toArray = ls at hl ⊢
  have hl : lv_has ls 3 [(0, .ref h), (1, .int sg), (2, .int vl)] := hl
  refine lv_aload_n G.1 G.2.1 dX3_add_0 rfl (lv_at hl 0 rfl) ?_
  refine py_get (C := RX3) (T := TX3) (N := 3) (k := 2) (v := .int n) G hw in_X3_addS_X3 rfl hh (by decide) (by decide +kernel) rfl dX3_add_1 ?_
  refine lv_aload_n G.1 G.2.1 dX3_add_4 rfl (lv_at hl 0 rfl) ?_
  refine py_get (C := RX3) (T := TX3) (N := 3) (k := 0) (v := .ref co) G hw in_X3_addS_X3 rfl hh (by decide) (by decide +kernel) rfl dX3_add_5 ?_
  refine py_alen (v := 160) G hw hc rfl dX3_add_8 ?_
  refine lv_icmp_ge (tgt := 37) G.1 G.2.1 dX3_add_9 (by decide) (fun c_1 => ?_) (fun c_1 => ?_)
  · skip
    exact absurd c_1 (Int32.not_le.mpr hn)
  · skip
    refine lv_aload_n G.1 G.2.1 dX3_add_12 rfl (lv_at hl 0 rfl) ?_
    refine py_get (C := RX3) (T := TX3) (N := 3) (k := 0) (v := .ref co) G hw in_X3_addS_X3 rfl hh (by decide) (by decide +kernel) rfl dX3_add_13 ?_
    refine lv_aload_n G.1 G.2.1 dX3_add_16 rfl (lv_at hl 0 rfl) ?_
    refine py_get (C := RX3) (T := TX3) (N := 3) (k := 2) (v := .int n) G hw in_X3_addS_X3 rfl hh (by decide) (by decide +kernel) rfl dX3_add_17 ?_
    refine lv_iload_n G.1 G.2.1 dX3_add_20 rfl (lv_at hl 1 rfl) ?_
    refine lv_bipush (v := 16) G.1 G.2.1 dX3_add_21 (by decide) ?_
    refine lv_ishl G.1 G.2.1 dX3_add_23 ?_
    refine lv_topi (fun x_2 ex_2 => ?_)
    refine lv_iload_n G.1 G.2.1 dX3_add_24 rfl (lv_at hl 2 rfl) ?_
    refine lv_ior G.1 G.2.1 dX3_add_25 ?_
    refine lv_topi (fun x_3 ex_3 => ?_)
    refine py_iast G hw hc hin dX3_add_26 (fun f_4 H_5 locs h_6 x_7 hw => ?_)
    generalize upd g _ _ = g_8 at h_6
    have hh := hh.ext x_7 (py_ne_arr hh hc)
    refine lv_aload_n G.1 G.2.1 dX3_add_27 rfl (lv_at hl 0 rfl) ?_
    refine lv_dup G.1 G.2.1 dX3_add_28 rfl ?_
    refine py_get (C := RX3) (T := TX3) (N := 3) (k := 2) (v := .int n) G hw in_X3_addS_X3 rfl hh (by decide) (by decide +kernel) rfl dX3_add_29 ?_
    refine lv_iconst (v := 1) G.1 G.2.1 dX3_add_32 (by decide) ?_
    refine lv_iadd G.1 G.2.1 dX3_add_33 ?_
    refine lv_topi (fun x_9 ex_9 => ?_)
    refine py_put (C := RX3) (T := TX3) (N := 3) (k := 2) (v := .int x_9) (fs' := [.ref co, .ref st, .int x_9]) (ty0 := tyX3) G hw tyX3_ok nmX3 in_X3_addS_X3 rfl hh (by decide) (by decide +kernel) rfl rfl rfl rfl (Nat.le_of_ble_eq_true rfl) rfl dX3_add_34 (fun f_10 H_11 locs h_12 x_13 hw => ?_)
    have h_6 := h_6.ext x_13 (Ne.symm (py_ne_arr hh h_6))
    have xt : py_ext2 L f L f_10 h co := fun b hb h1 h2 => by
      obtain ⟨m0, e0⟩ := x_7 b hb h2
      obtain ⟨m1, e1⟩ := x_13 b m0 h1
      exact ⟨m1, e1.trans (e0.trans (rfl))⟩
    have hz := h_12
    rw [ex_9, hn1] at hz
    exact py_vret G hr hlk hw ⟨_, hz, h_6, xt⟩ dX3_add_37

def w_X3_bornLessDead : List Cond := .code yX3_bornLessDead cX3_bornLessDead 1 (some (.object "HeadYear$Law")) :: ([Cond.classLink RX3 10 RX3, Cond.instantiable RX3 3, Cond.initialized RX3, Cond.methodLink RX3 22 yX3_init, Cond.instanceMethod yX3_init, Cond.methodLink RX3 23 yX3_add, Cond.instanceMethod yX3_add, Cond.selects RX3 yX3_add yX3_add] ++ (u_ws RX3 TX3 3 ++ (w_X3_init ++ (w_X3_addS ++ ([])))))
theorem in_X3_bornLessDead_X3 : ∀ w ∈ u_ws RX3 TX3 3, w ∈ w_X3_bornLessDead := fun _ h => List.mem_cons_of_mem _ (List.mem_append_right _ (List.mem_append_left _ h))
theorem gg_X3_bornLessDead_X3_init : GoodIn w_X3_bornLessDead w_X3_init := goodIn_sub (fun _ h => List.mem_cons_of_mem _ (List.mem_append_right _ (List.mem_append_right _ (List.mem_append_left _ h)))) (by decide +kernel)
theorem gg_X3_bornLessDead_X3_add : GoodIn w_X3_bornLessDead w_X3_addS := goodIn_sub (fun _ h => List.mem_cons_of_mem _ (List.mem_append_right _ (List.mem_append_right _ (List.mem_append_right _ (List.mem_append_left _ h))))) (by decide +kernel)
theorem g_X3_bornLessDead_X3_add_23 : GoodIn w_X3_bornLessDead (wsV RX3 23 RX3 yX3_add w_X3_addS) := goodIn_app (goodIn_of _ (by decide +kernel)) gg_X3_bornLessDead_X3_add
theorem g_X3_bornLessDead_X3_init_22 : GoodIn w_X3_bornLessDead w_X3_init := gg_X3_bornLessDead_X3_init
set_option maxHeartbeats 4000000 in
set_option maxRecDepth 100000 in
theorem c_X3_bornLessDead (l : Launch) (E : py_E) (L : List Nat) (f : py_F) (sz : Nat)  : Met l yX3_bornLessDead w_X3_bornLessDead ({ frames := 2, cells := 3, slots := 195, locals := 32 }) (py_Pc E [] L f sz) (py_Qr E L f sz (fun r L1 f1 => ∃ (co st : Nat) (n : Int32) (g g2 : Nat → Int32), py_at L1 f1 r (.inr (3, [.ref co, .ref st, .int n])) ∧ (0 ≤ n.toInt ∧ n.toInt ≤ 160) ∧ py_at L1 f1 co (.inl (E.2.1, 160, .inl g)) ∧ py_at L1 f1 st (.inl (E.2.1, 32, .inl g2)) ∧ r ∉ L ∧ co ∉ L ∧ st ∉ L ∧ co ≠ st ∧ py_all L f L1 f1)) 3 195 (va_A (va_pl L f) sz) := by
  refine Met.ofW (cc := cX3_bornLessDead) (maxL := 1) (ret := (some (.object "HeadYear$Law"))) (by decide) rfl ?_
  intro p e s m args below meth c s₁ B hml hv
  obtain ⟨rfl, rfl, hw⟩ := py_start hv
  have G : CallFix p m c cX3_bornLessDead 1 s _ w_X3_bornLessDead RX3 := ⟨B.exec, B.bytes, hml, findClass_of_methodNamed B.named, atoms_spec (ws := w_X3_bornLessDead) B.pre⟩
  have hr := B.returns
  have hlk := B.notSynchronized
  have hl := lv_entry ([]) (n := 1) (Nat.le_of_ble_eq_true rfl)
  rw [lg_entry_eq]
  generalize (lg_sl ([]) ++ List.replicate (1 - (lg_sl ([])).length) Slot.unset).toArray = ls at hl ⊢
  have hl : lv_has ls 1 [] := hl
  refine py_new (C := RX3) (T := TX3) (N := 3) (ci := 3) (fs := [.null, .null, .int 0]) (ty0 := tyX3) G hw tyX3_ok in_X3_bornLessDead_X3 rfl (by decide +kernel) (by decide +kernel) (by decide +kernel) (fun j hj => match j, hj with | 0, _ => rfl | 1, _ => rfl | 2, _ => rfl | n + 3, h => absurd h (by omega)) (Nat.le_of_ble_eq_true rfl) (Nat.le_of_ble_eq_true rfl) dX3_bornLessDead_0 (fun q_1 L_2 f_3 H_4 hq_5 h_6 x_7 hw => ?_)
  refine lv_dup G.1 G.2.1 dX3_bornLessDead_3 rfl ?_
  refine py_callv hw (va_runI (As := []) (rest := [.ref q_1]) G (c_X3_init l E L_2 f_3 H_4.size q_1 h_6) (cwI 0 G.2.2.2.2 g_X3_bornLessDead_X3_init_22 rfl rfl rfl (G.2.2.2.2 (Cond.initialized RX3) (by decide +kernel)) (G.2.2.2.2 (Cond.methodLink RX3 22 yX3_init) (by decide +kernel)) (G.2.2.2.2 (Cond.instanceMethod yX3_init) (by decide +kernel)) rfl (by decide +kernel) ⟨(Nat.le_of_ble_eq_true rfl), (Nat.le_of_ble_eq_true rfl)⟩) (py_preS hw) rfl rfl hl.1 rfl (lv_room (Nat.le_of_ble_eq_true rfl)) dX3_bornLessDead_4 ⟨(Nat.le_of_ble_eq_true rfl), (Nat.le_of_ble_eq_true rfl)⟩) (fun L_8 f_9 H_10 locs hp_11 hw => ?_)
  obtain ⟨co_14, st_15, h_16, h_17, h_18, nco_20, nst_21, ncs_22, x_13⟩ := hp_11
  refine lv_astore_n (lv' := [(0, .ref q_1)]) G.1 G.2.1 dX3_bornLessDead_7 rfl hl (by decide) rfl (fun ls hl => ?_)
  refine lv_aload_n G.1 G.2.1 dX3_bornLessDead_8 rfl (lv_at hl 0 rfl) ?_
  refine lv_bipush (v := 121) G.1 G.2.1 dX3_bornLessDead_9 (by decide) ?_
  refine lv_iconst (v := 0) G.1 G.2.1 dX3_bornLessDead_11 (by decide) ?_
  refine py_callv hw (va_runV (As := [.int 121, .int 0]) (rest := []) G (c_X3_addS l E L_8 f_9 H_10.size q_1 121 0 co_14 st_15 0 (1) (fun _ => 0) h_16 h_17 (by decide) (py_inr (by decide)) (by decide) ) (cwV 2 G.2.2.2.2 g_X3_bornLessDead_X3_add_23 rfl rfl rfl (by decide +kernel) ⟨(Nat.le_of_ble_eq_true rfl), (Nat.le_of_ble_eq_true rfl)⟩) (py_preV hw (C := RX3) (T := TX3) (N := 3) rfl h_16) rfl rfl hl.1 rfl (lv_room (Nat.le_of_ble_eq_true rfl)) dX3_bornLessDead_12 ⟨(Nat.le_of_ble_eq_true rfl), (Nat.le_of_ble_eq_true rfl)⟩) (fun L_23 f_24 H_25 locs hp_26 hw => ?_)
  obtain ⟨g_28, h_29, h_30, x_31⟩ := hp_26
  have h_18 := ext2_at h_18 x_31 (py_ne_arr_s h_18 h_16) (Ne.symm ncs_22)
  refine lv_aload_n G.1 G.2.1 dX3_bornLessDead_15 rfl (lv_at hl 0 rfl) ?_
  refine lv_bipush (v := 121) G.1 G.2.1 dX3_bornLessDead_16 (by decide) ?_
  refine lv_iconst (v := 1) G.1 G.2.1 dX3_bornLessDead_18 (by decide) ?_
  refine py_callv hw (va_runV (As := [.int 121, .int 1]) (rest := []) G (c_X3_addS l E L_23 f_24 H_25.size q_1 121 1 co_14 st_15 1 (2) g_28 h_29 h_30 (by decide) (py_inr (by decide)) (by decide) ) (cwV 2 G.2.2.2.2 g_X3_bornLessDead_X3_add_23 rfl rfl rfl (by decide +kernel) ⟨(Nat.le_of_ble_eq_true rfl), (Nat.le_of_ble_eq_true rfl)⟩) (py_preV hw (C := RX3) (T := TX3) (N := 3) rfl h_29) rfl rfl hl.1 rfl (lv_room (Nat.le_of_ble_eq_true rfl)) dX3_bornLessDead_19 ⟨(Nat.le_of_ble_eq_true rfl), (Nat.le_of_ble_eq_true rfl)⟩) (fun L_32 f_33 H_34 locs hp_35 hw => ?_)
  obtain ⟨g_37, h_38, h_39, x_40⟩ := hp_35
  have h_18 := ext2_at h_18 x_40 (py_ne_arr_s h_18 h_29) (Ne.symm ncs_22)
  refine lv_aload_n G.1 G.2.1 dX3_bornLessDead_22 rfl (lv_at hl 0 rfl) ?_
  refine lv_bipush (v := 45) G.1 G.2.1 dX3_bornLessDead_23 (by decide) ?_
  refine lv_iconst (v := 0) G.1 G.2.1 dX3_bornLessDead_25 (by decide) ?_
  refine py_callv hw (va_runV (As := [.int 45, .int 0]) (rest := []) G (c_X3_addS l E L_32 f_33 H_34.size q_1 45 0 co_14 st_15 2 (3) g_37 h_38 h_39 (by decide) (py_inr (by decide)) (by decide) ) (cwV 2 G.2.2.2.2 g_X3_bornLessDead_X3_add_23 rfl rfl rfl (by decide +kernel) ⟨(Nat.le_of_ble_eq_true rfl), (Nat.le_of_ble_eq_true rfl)⟩) (py_preV hw (C := RX3) (T := TX3) (N := 3) rfl h_38) rfl rfl hl.1 rfl (lv_room (Nat.le_of_ble_eq_true rfl)) dX3_bornLessDead_26 ⟨(Nat.le_of_ble_eq_true rfl), (Nat.le_of_ble_eq_true rfl)⟩) (fun L_41 f_42 H_43 locs hp_44 hw => ?_)
  obtain ⟨g_46, h_47, h_48, x_49⟩ := hp_44
  have h_18 := ext2_at h_18 x_49 (py_ne_arr_s h_18 h_38) (Ne.symm ncs_22)
  refine lv_aload_n G.1 G.2.1 dX3_bornLessDead_29 rfl (lv_at hl 0 rfl) ?_
  refine lv_bipush (v := 59) G.1 G.2.1 dX3_bornLessDead_30 (by decide) ?_
  refine lv_iconst (v := 0) G.1 G.2.1 dX3_bornLessDead_32 (by decide) ?_
  refine py_callv hw (va_runV (As := [.int 59, .int 0]) (rest := []) G (c_X3_addS l E L_41 f_42 H_43.size q_1 59 0 co_14 st_15 3 (4) g_46 h_47 h_48 (by decide) (py_inr (by decide)) (by decide) ) (cwV 2 G.2.2.2.2 g_X3_bornLessDead_X3_add_23 rfl rfl rfl (by decide +kernel) ⟨(Nat.le_of_ble_eq_true rfl), (Nat.le_of_ble_eq_true rfl)⟩) (py_preV hw (C := RX3) (T := TX3) (N := 3) rfl h_47) rfl rfl hl.1 rfl (lv_room (Nat.le_of_ble_eq_true rfl)) dX3_bornLessDead_33 ⟨(Nat.le_of_ble_eq_true rfl), (Nat.le_of_ble_eq_true rfl)⟩) (fun L_50 f_51 H_52 locs hp_53 hw => ?_)
  obtain ⟨g_55, h_56, h_57, x_58⟩ := hp_53
  have h_18 := ext2_at h_18 x_58 (py_ne_arr_s h_18 h_47) (Ne.symm ncs_22)
  refine lv_aload_n G.1 G.2.1 dX3_bornLessDead_36 rfl (lv_at hl 0 rfl) ?_
  refine W.widen (k := 3) (n := 195) (Nat.le_of_ble_eq_true rfl) (Nat.le_of_ble_eq_true rfl) ?_
  have xt : py_all L f L_50 f_51 := fun b hb => by
    have n0 : b ≠ q_1 := fun h => hq_5 (h ▸ hb)
    obtain ⟨m0, e0⟩ := x_7 b hb
    have nco : b ≠ co_14 := fun h => nco_20 (h ▸ m0)
    obtain ⟨m1, e1⟩ := x_13 b m0 n0
    obtain ⟨m2, e2⟩ := x_31 b m1 n0 nco
    obtain ⟨m3, e3⟩ := x_40 b m2 n0 nco
    obtain ⟨m4, e4⟩ := x_49 b m3 n0 nco
    obtain ⟨m5, e5⟩ := x_58 b m4 n0 nco
    exact ⟨m5, e5.trans (e4.trans (e3.trans (e2.trans (e1.trans (e0.trans (rfl))))))⟩
  exact py_rret G hr (Or.inl ⟨_, rfl⟩) hlk hw ⟨_, _, _, _, _, h_56, ⟨by decide, by decide⟩, h_57, h_18, hq_5, fun z => nco_20 (x_7 _ z).1, fun z => nst_21 (x_7 _ z).1, ncs_22, xt⟩ dX3_bornLessDead_37
