
set_option maxHeartbeats 4000000 in
set_option maxRecDepth 100000 in
theorem c_X8_bytesOfV (l : Launch) (E : py_E) (G : wf_G) (L : List Nat) (f : py_F) (sz : Nat) (a : Int32) (hG : GT G) (hWF : WF E G L f) : Met l yX8_bytesOf w_X8_bytesOf ({ frames := 0, cells := 0, slots := 0, locals := 0 }) (py_Pc E [.int a] L f sz) (py_Qi E L f sz (fun r L1 f1 => (0 ≤ r.toInt ∧ r.toInt ≤ 4) ∧ (r.toInt = fb_cw a) ∧ L = L1 ∧ f = f1)) 0 0 (va_A (va_pl L f) sz) := by
  refine Met.ofW (cc := cX8_bytesOf) (maxL := 3) (ret := (some .int)) (by decide) rfl ?_
  intro p e s m args below meth c s₁ B hml hv
  obtain ⟨rfl, rfl, hw⟩ := py_start hv
  have G0 : CallFix p m c cX8_bytesOf 3 s _ w_X8_bytesOf RX8 := ⟨B.exec, B.bytes, hml, findClass_of_methodNamed B.named, atoms_spec (ws := w_X8_bytesOf) B.pre⟩
  have hr := B.returns
  have hlk := B.notSynchronized
  have kcm8 : (-8 : Int32).toInt = -8 := rfl
  have kcm1 : (-1 : Int32).toInt = -1 := rfl
  have kc0 : (0 : Int32).toInt = 0 := rfl
  have kc1 : (1 : Int32).toInt = 1 := rfl
  have kc24 : (24 : Int32).toInt = 24 := rfl
  have kc255 : (255 : Int32).toInt = 255 := rfl
  have hl := lv_entry ([.int a]) (n := 3) (Nat.le_of_ble_eq_true rfl)
  rw [lg_entry_eq]
  generalize (lg_sl ([.int a]) ++ List.replicate (3 - (lg_sl ([.int a])).length) Slot.unset).toArray = ls at hl ⊢
  have hl : lv_has ls 3 [(0, .int a)] := hl
  have hRP : RP E G f f := RP.refl
  have hcw := fb_cw_le a
  refine lv_iconst (v := 0) G0.1 G0.2.1 dX8_bytesOf_0 (by decide) ?_
  refine lv_istore_n (lv' := [(1, .int 0), (0, .int a)]) G0.1 G0.2.1 dX8_bytesOf_1 rfl hl (by decide) rfl (fun ls hl => ?_)
  refine lv_bipush (v := 24) G0.1 G0.2.1 dX8_bytesOf_2 (by decide) ?_
  refine lv_istore_n (lv' := [(2, .int 24), (1, .int 0), (0, .int a)]) G0.1 G0.2.1 dX8_bytesOf_4 rfl hl (by decide) rfl (fun ls hl => ?_)
  have lo_5 : ∀ n_5 : Nat, ∀ (v_1 : Int32) (v_2 : Int32) (H_j5 : Heap) (locs : List Loc) (ls : Array Slot), (v_1.toInt + 1).toNat = n_5 → ((-2147483648) ≤ v_1.toInt ∧ v_1.toInt ≤ 24) → (v_1.toInt = 24 ∨ v_1.toInt = 16 ∨ v_1.toInt = 8 ∨ v_1.toInt = 0 ∨ v_1.toInt = -8) → (v_2.toInt = fb_pc a v_1.toInt) → py_W E (va_A (va_pl L f) s.heap.size) s L f H_j5 locs → lv_has ls 3 [(2, .int v_1), (1, .int v_2), (0, .int a)] → W p l e (headSpec w_X8_bytesOf ({ frames := 0, cells := 0, slots := 0, locals := 0 })).room s m ([.int a] : List Value).toArray below meth c H_j5 locs 0 0 (MQ below (py_Qi E L f s.heap.size (fun r L1 f1 => (0 ≤ r.toInt ∧ r.toInt ≤ 4) ∧ (r.toInt = fb_cw a) ∧ L = L1 ∧ f = f1)) ([.int a] : List Value).toArray s 0 0 (va_A (va_pl L f) s.heap.size)) (F0 m 5 ls []) := by
    intro n_5
    induction n_5 using Nat.strongRecOn with
    | _ n_5 ih_5 =>
      intro v_1 v_2 H_j5 locs ls hn_5 bv_1 iv0 iv1 hw hl
      refine lv_iload_n G0.1 G0.2.1 dX8_bytesOf_5 rfl (lv_at hl 0 rfl) ?_
      refine lv_if_lt (tgt := 33) G0.1 G0.2.1 dX8_bytesOf_6 (by decide) (fun c_3 => ?_) (fun c_3 => ?_)
      · skip
        have tc_3 := ti_lt c_3
        have hfin : v_2.toInt = fb_cw a := by rw [iv1, show v_1.toInt = -8 by omega]; rfl
        refine lv_iload_n G0.1 G0.2.1 dX8_bytesOf_33 rfl (lv_at hl 1 rfl) ?_
        exact py_iret G0 hr rfl hlk hw ⟨⟨by omega, by omega⟩, (by first | omega | (intro q; omega)), rfl, rfl⟩ dX8_bytesOf_34
      · skip
        have tc_3 := ti_nlt c_3
        have hs4 : v_1.toInt = 24 ∨ v_1.toInt = 16 ∨ v_1.toInt = 8 ∨ v_1.toInt = 0 := by omega
        refine lv_iload_n G0.1 G0.2.1 dX8_bytesOf_9 rfl (lv_at hl 1 rfl) ?_
        refine lv_iload_n G0.1 G0.2.1 dX8_bytesOf_10 rfl (lv_at hl 2 rfl) ?_
        refine lv_iload_n G0.1 G0.2.1 dX8_bytesOf_11 rfl (lv_at hl 0 rfl) ?_
        refine lv_iushr G0.1 G0.2.1 dX8_bytesOf_12 rfl ?_
        refine lv_topi (fun x_4 ex_4 => ?_)
        refine lv_sipush (v := 255) G0.1 G0.2.1 dX8_bytesOf_13 (by decide) ?_
        refine lv_iand G0.1 G0.2.1 dX8_bytesOf_16 ?_
        refine lv_topi (fun x_5 ex_5 => ?_)
        have hzb : x_5 = fb_b a v_1 := by rw [ex_5, ex_4]; rfl
        have hpl := fb_pc_le (x := a) hs4
        have hcz := fb_c_eq (fb_b a v_1)
        refine lv_if_eq (tgt := 24) G0.1 G0.2.1 dX8_bytesOf_17 (by decide) (fun c_6 => ?_) (fun c_6 => ?_)
        · skip
          have tc_6 := ti_eq c_6
          refine lv_iconst (v := 0) G0.1 G0.2.1 dX8_bytesOf_24 (by decide) ?_
          refine lv_iadd G0.1 G0.2.1 dX8_bytesOf_25 ?_
          refine lv_topi (fun x_7 ex_7 => ?_)
          first | have tx_7 := ti_add ex_7 (by omega) (by omega) | skip
          refine lv_istore_n (lv' := [(1, .int x_7), (2, .int v_1), (0, .int a)]) G0.1 G0.2.1 dX8_bytesOf_26 rfl hl (by decide) rfl (fun ls hl => ?_)
          obtain ⟨x_8, ex_8⟩ : ∃ y : Int32, y = v_1 + (-8) := ⟨_, rfl⟩
          first | have tx_8 := ti_add ex_8 (by omega) (by omega) | skip
          refine lv_iinc (v := x_8) (lv' := [(2, .int x_8), (1, .int x_7), (0, .int a)]) G0.1 G0.2.1 dX8_bytesOf_27 hl (k := 1) rfl (show _ + ((-8) : Int32) = _ from ex_8.symm) (by decide) rfl (fun ls hl => ?_)
          refine lv_goto (tgt := 5) G0.1 G0.2.1 dX8_bytesOf_30 (by decide) ?_
          exact ih_5 ((x_8.toInt + 1).toNat) (by omega) x_8 x_7 _ _ ls rfl ⟨by omega, by omega⟩ (by first | omega | (intros; omega)) (fb_pc_st hs4 hzb iv1 (by omega) (by omega)) hw (lv_sub hl [0, 1, 2] rfl)
        · skip
          have tc_6 := ti_ne c_6
          refine lv_iconst (v := 1) G0.1 G0.2.1 dX8_bytesOf_20 (by decide) ?_
          refine lv_goto (tgt := 25) G0.1 G0.2.1 dX8_bytesOf_21 (by decide) ?_
          refine lv_iadd G0.1 G0.2.1 dX8_bytesOf_25 ?_
          refine lv_topi (fun x_9 ex_9 => ?_)
          first | have tx_9 := ti_add ex_9 (by omega) (by omega) | skip
          refine lv_istore_n (lv' := [(1, .int x_9), (2, .int v_1), (0, .int a)]) G0.1 G0.2.1 dX8_bytesOf_26 rfl hl (by decide) rfl (fun ls hl => ?_)
          obtain ⟨x_10, ex_10⟩ : ∃ y : Int32, y = v_1 + (-8) := ⟨_, rfl⟩
          first | have tx_10 := ti_add ex_10 (by omega) (by omega) | skip
          refine lv_iinc (v := x_10) (lv' := [(2, .int x_10), (1, .int x_9), (0, .int a)]) G0.1 G0.2.1 dX8_bytesOf_27 hl (k := 1) rfl (show _ + ((-8) : Int32) = _ from ex_10.symm) (by decide) rfl (fun ls hl => ?_)
          refine lv_goto (tgt := 5) G0.1 G0.2.1 dX8_bytesOf_30 (by decide) ?_
          exact ih_5 ((x_10.toInt + 1).toNat) (by omega) x_10 x_9 _ _ ls rfl ⟨by omega, by omega⟩ (by first | omega | (intros; omega)) (fb_pc_st hs4 hzb iv1 (by omega) (by omega)) hw (lv_sub hl [0, 1, 2] rfl)
  exact lo_5 _ 24 0 _ _ ls rfl ⟨by omega, by omega⟩ (by first | omega | (intros; omega)) (by rfl) hw (lv_sub hl [0, 1, 2] rfl)

set_option maxHeartbeats 4000000 in
set_option maxRecDepth 100000 in
theorem c_X8_appendV (l : Launch) (E : py_E) (G : wf_G) (L : List Nat) (f : py_F) (sz : Nat) (t : Nat) (a : Int32) (gb : rs_B) (nb : Int) (hG : GT G) (hWF : WF E G L f) (Tt : G.1 t = 9) (hp0 : tp_l f t = nb) (hp1 : 0 ≤ nb ∧ nb + fb_cw a ≤ 160) (hq0 : gfn f (G.2 t 0) = gb) : Met l yX8_append w_X8_append ({ frames := 0, cells := 0, slots := 0, locals := 0 }) (py_Pc E [.ref t, .int a] L f sz) (py_Qv E L f sz (fun L1 f1 => (gfn f1 (G.2 t 0) = (fb_w (gb, nb) a).1) ∧ (tp_l f1 t = (fb_w (gb, nb) a).2) ∧ (tp_l f1 t = nb + fb_cw a) ∧ WF E G L1 f1 ∧ RP E G f f1 ∧ KP G [9, 38] false f f1)) 0 0 (va_A (va_pl L f) sz) := by
  refine Met.ofW (cc := cX8_append) (maxL := 4) (ret := none) (by decide) rfl ?_
  intro p e s m args below meth c s₁ B hml hv
  obtain ⟨rfl, rfl, hw⟩ := py_start hv
  have G0 : CallFix p m c cX8_append 4 s _ w_X8_append RX8 := ⟨B.exec, B.bytes, hml, findClass_of_methodNamed B.named, atoms_spec (ws := w_X8_append) B.pre⟩
  have hr := B.returns
  have hlk := B.notSynchronized
  have kcm8 : (-8 : Int32).toInt = -8 := rfl
  have kcm1 : (-1 : Int32).toInt = -1 := rfl
  have kc0 : (0 : Int32).toInt = 0 := rfl
  have kc1 : (1 : Int32).toInt = 1 := rfl
  have kc24 : (24 : Int32).toInt = 24 := rfl
  have kc160 : (160 : Int32).toInt = 160 := rfl
  have kc255 : (255 : Int32).toInt = 255 := rfl
  have hl := lv_entry ([.ref t, .int a]) (n := 4) (Nat.le_of_ble_eq_true rfl)
  rw [lg_entry_eq]
  generalize (lg_sl ([.ref t, .int a]) ++ List.replicate (4 - (lg_sl ([.ref t, .int a])).length) Slot.unset).toArray = ls at hl ⊢
  have hl : lv_has ls 4 [(0, .ref t), (1, .int a)] := hl
  have hRP : RP E G f f := RP.refl
  have hKP : KP G [9, 38] false f f := KP.refl
  have hTB := hq0
  have hp24 : fb_pc a 24 = 0 := rfl
  refine lv_bipush (v := 24) G0.1 G0.2.1 dX8_append_0 (by decide) ?_
  refine lv_istore_n (lv' := [(2, .int 24), (0, .ref t), (1, .int a)]) G0.1 G0.2.1 dX8_append_2 rfl hl (by decide) rfl (fun ls hl => ?_)
  have lo_3 : ∀ n_3 : Nat, ∀ (v_1 : Int32) (L_j3 : List Nat) (f_j3 : py_F) (H_j3 : Heap) (locs : List Loc) (ls : Array Slot), (v_1.toInt + 1).toNat = n_3 → ((-2147483648) ≤ v_1.toInt ∧ v_1.toInt ≤ 24) → WF E G L_j3 f_j3 → RP E G f f_j3 → KP G [9, 38] false f f_j3 → (v_1.toInt = 24 ∨ v_1.toInt = 16 ∨ v_1.toInt = 8 ∨ v_1.toInt = 0 ∨ v_1.toInt = -8) → (tp_l f_j3 t = nb + fb_pc a v_1.toInt) → ((gfn f_j3 (G.2 t 0), tp_l f_j3 t) = fb_p (gb, nb) a v_1.toInt) → py_W E (va_A (va_pl L f) s.heap.size) s L_j3 f_j3 H_j3 locs → lv_has ls 4 [(2, .int v_1), (0, .ref t), (1, .int a)] → W p l e (headSpec w_X8_append ({ frames := 0, cells := 0, slots := 0, locals := 0 })).room s m ([.ref t, .int a] : List Value).toArray below meth c H_j3 locs 0 0 (MQ below (py_Qv E L f s.heap.size (fun L1 f1 => (gfn f1 (G.2 t 0) = (fb_w (gb, nb) a).1) ∧ (tp_l f1 t = (fb_w (gb, nb) a).2) ∧ (tp_l f1 t = nb + fb_cw a) ∧ WF E G L1 f1 ∧ RP E G f f1 ∧ KP G [9, 38] false f f1)) ([.ref t, .int a] : List Value).toArray s 0 0 (va_A (va_pl L f) s.heap.size)) (F0 m 3 ls []) := by
    intro n_3
    induction n_3 using Nat.strongRecOn with
    | _ n_3 ih_3 =>
      intro v_1 L_j3 f_j3 H_j3 locs ls hn_3 bv_1 hWF hRP hKP iv0 iv1 iv2 hw hl
      refine lv_iload_n G0.1 G0.2.1 dX8_append_3 rfl (lv_at hl 0 rfl) ?_
      refine lv_if_lt (tgt := 55) G0.1 G0.2.1 dX8_append_4 (by decide) (fun c_2 => ?_) (fun c_2 => ?_)
      · skip
        have tc_2 := ti_lt c_2
        have hfin : tp_l f_j3 t = nb + fb_cw a := by rw [iv1, show v_1.toInt = -8 by omega]; rfl
        have t_3 := wt_8 hG Tt
        obtain ⟨v_4, v_5, v_6, hr_9, b_7, b_8⟩ := wg_8 hWF Tt
        have bv_6 := wf_free v_6
        have tq_10 := tp_eq hr_9
        exact py_vret G0 hr hlk hw ⟨(by have hz := iv2; rw [show v_1.toInt = -8 by omega] at hz; exact congrArg Prod.fst hz), (by have hz := iv2; rw [show v_1.toInt = -8 by omega] at hz; exact congrArg Prod.snd hz), (by first | omega | (intro q; omega)), hWF, hRP, hKP⟩ dX8_append_55
      · skip
        have tc_2 := ti_nlt c_2
        have hs4 : v_1.toInt = 24 ∨ v_1.toInt = 16 ∨ v_1.toInt = 8 ∨ v_1.toInt = 0 := by omega
        have hGB : gfn f_j3 (G.2 t 0) = gfn f_j3 (G.2 t 0) := rfl
        refine lv_iload_n G0.1 G0.2.1 dX8_append_7 rfl (lv_at hl 2 rfl) ?_
        refine lv_iload_n G0.1 G0.2.1 dX8_append_8 rfl (lv_at hl 0 rfl) ?_
        refine lv_iushr G0.1 G0.2.1 dX8_append_9 rfl ?_
        refine lv_topi (fun x_11 ex_11 => ?_)
        refine lv_sipush (v := 255) G0.1 G0.2.1 dX8_append_10 (by decide) ?_
        refine lv_iand G0.1 G0.2.1 dX8_append_13 ?_
        refine lv_topi (fun x_12 ex_12 => ?_)
        have hzb : x_12 = fb_b a v_1 := by rw [ex_12, ex_11]; rfl
        have hpl := fb_pc_le (x := a) hs4
        have hcz := fb_c_eq (fb_b a v_1)
        have hze : x_12.toInt = (fb_b a v_1).toInt := by rw [← hzb]
        refine lv_istore_n (lv' := [(3, .int x_12), (2, .int v_1), (0, .ref t), (1, .int a)]) G0.1 G0.2.1 dX8_append_14 rfl hl (by decide) rfl (fun ls hl => ?_)
        refine lv_iload_n G0.1 G0.2.1 dX8_append_15 rfl (lv_at hl 0 rfl) ?_
        refine lv_if_eq (tgt := 49) G0.1 G0.2.1 dX8_append_16 (by decide) (fun c_13 => ?_) (fun c_13 => ?_)
        · skip
          have tc_13 := ti_eq c_13
          obtain ⟨x_14, ex_14⟩ : ∃ y : Int32, y = v_1 + (-8) := ⟨_, rfl⟩
          first | have tx_14 := ti_add ex_14 (by omega) (by omega) | skip
          refine lv_iinc (v := x_14) (lv' := [(2, .int x_14), (3, .int x_12), (0, .ref t), (1, .int a)]) G0.1 G0.2.1 dX8_append_49 hl (k := 1) rfl (show _ + ((-8) : Int32) = _ from ex_14.symm) (by decide) rfl (fun ls hl => ?_)
          refine lv_goto (tgt := 3) G0.1 G0.2.1 dX8_append_52 (by decide) ?_
          exact ih_3 ((x_14.toInt + 1).toNat) (by omega) x_14 L_j3 f_j3 _ _ ls rfl ⟨by omega, by omega⟩ hWF hRP hKP (by first | omega | (intros; omega)) (by have hz : fb_pc a x_14.toInt = _ := (congrArg (fb_pc a) (show x_14.toInt = v_1.toInt - 8 by omega)).trans (fb_pc_s hs4); omega) (fb_p_st hs4 hzb iv2 (by omega) (by first | exact Or.inl ⟨by omega, hGB, by omega⟩ | exact Or.inr ⟨by omega, hGB, by omega⟩)) hw (lv_sub hl [0, 2, 3] rfl)
        · skip
          have tc_13 := ti_ne c_13
          refine lv_aload_n G0.1 G0.2.1 dX8_append_19 rfl (lv_at hl 2 rfl) ?_
          have t_15 := wt_8 hG Tt
          obtain ⟨v_16, v_17, v_18, hr_21, b_19, b_20⟩ := wg_8 hWF Tt
          have bv_18 := wf_free v_18
          have tq_22 := tp_eq hr_21
          refine py_get (C := RX8) (T := TX8) (N := 4) (k := 1) (v := .int v_16) G0 hw in_X8_append_X8 rfl hr_21 (by decide) (by decide +kernel) rfl dX8_append_20 ?_
          refine lv_sipush (v := 160) G0.1 G0.2.1 dX8_append_23 (by decide) ?_
          refine lv_icmp_ge (tgt := 49) G0.1 G0.2.1 dX8_append_26 (by decide) (fun c_23 => ?_) (fun c_23 => ?_)
          · skip
            have tc_23 := ti_le c_23
            obtain ⟨x_24, ex_24⟩ : ∃ y : Int32, y = v_1 + (-8) := ⟨_, rfl⟩
            first | have tx_24 := ti_add ex_24 (by omega) (by omega) | skip
            refine lv_iinc (v := x_24) (lv' := [(2, .int x_24), (3, .int x_12), (0, .ref t), (1, .int a)]) G0.1 G0.2.1 dX8_append_49 hl (k := 1) rfl (show _ + ((-8) : Int32) = _ from ex_24.symm) (by decide) rfl (fun ls hl => ?_)
            refine lv_goto (tgt := 3) G0.1 G0.2.1 dX8_append_52 (by decide) ?_
            exact ih_3 ((x_24.toInt + 1).toNat) (by omega) x_24 L_j3 f_j3 _ _ ls rfl ⟨by omega, by omega⟩ hWF hRP hKP (by first | omega | (intros; omega)) (by have hz : fb_pc a x_24.toInt = _ := (congrArg (fb_pc a) (show x_24.toInt = v_1.toInt - 8 by omega)).trans (fb_pc_s hs4); omega) (fb_p_st hs4 hzb iv2 (by omega) (by first | exact Or.inl ⟨by omega, hGB, by omega⟩ | exact Or.inr ⟨by omega, hGB, by omega⟩)) hw (lv_sub hl [0, 2, 3] rfl)
          · skip
            have tc_23 := ti_nle c_23
            refine lv_aload_n G0.1 G0.2.1 dX8_append_29 rfl (lv_at hl 2 rfl) ?_
            refine py_get (C := RX8) (T := TX8) (N := 4) (k := 0) (v := .ref (G.2 t 0)) G0 hw in_X8_append_X8 rfl hr_21 (by decide) (by decide +kernel) rfl dX8_append_30 ?_
            refine lv_aload_n G0.1 G0.2.1 dX8_append_33 rfl (lv_at hl 2 rfl) ?_
            refine py_get (C := RX8) (T := TX8) (N := 4) (k := 1) (v := .int v_16) G0 hw in_X8_append_X8 rfl hr_21 (by decide) (by decide +kernel) rfl dX8_append_34 ?_
            refine lv_iload_n G0.1 G0.2.1 dX8_append_37 rfl (lv_at hl 0 rfl) ?_
            obtain ⟨g_25, ha_26, hi_27⟩ := wf_arr (n := 160) (lo := (-2147483648)) (hi := 2147483647) hWF t_15 (by decide) (fun _ => rfl)
            have rg_28 : vp_in v_16 160 := ti_in (by omega) (by omega)
            refine py_iast G0 hw ha_26 rg_28 dX8_append_38 (fun f_29 H_30 locs h_31 x_32 hw => ?_)
            have hkw : KP G [38] false f_j3 f_29 := KP.refl.upd hWF x_32 t_15 (Or.inl (by decide))
            have hKP := hKP.upd hWF x_32 t_15 (Or.inl (by decide))
            have hRP := hRP.trans (rp_upd hG hWF x_32 ha_26.2 h_31.2 (rp_code hG t_15 (by decide)) rfl)
            have hi_33 := wf_inu (k := (v_16 : Int32).toNatClampNeg) (x := x_12) hi_27 (wf_free x_12).1 (wf_free x_12).2
            have hWF := wf_upd hWF h_31 x_32 (by rw [t_15]; exact ⟨_, rfl, hi_33⟩)
            have hr_21 := hr_21.ext x_32 (py_ne_arr hr_21 ha_26)
            have tq_34 := tp_eq hr_21
            have hGB : gfn f_29 (G.2 t 0) = upd (gfn f_j3 (G.2 t 0)) (tp_l f_j3 t).toNat x_12 := gfn_up ha_26 h_31 (by omega)
            refine lv_aload_n G0.1 G0.2.1 dX8_append_39 rfl (lv_at hl 2 rfl) ?_
            refine lv_dup G0.1 G0.2.1 dX8_append_40 rfl ?_
            refine py_get (C := RX8) (T := TX8) (N := 4) (k := 1) (v := .int v_16) G0 hw in_X8_append_X8 rfl hr_21 (by decide) (by decide +kernel) rfl dX8_append_41 ?_
            refine lv_iconst (v := 1) G0.1 G0.2.1 dX8_append_44 (by decide) ?_
            refine lv_iadd G0.1 G0.2.1 dX8_append_45 ?_
            refine lv_topi (fun x_35 ex_35 => ?_)
            first | have tx_35 := ti_add ex_35 (by omega) (by omega) | skip
            refine py_put (C := RX8) (T := TX8) (N := 4) (k := 1) (v := .int x_35) (fs' := [.ref (G.2 t 0), .int x_35, .int v_17, .int v_18]) (ty0 := tyX8) G0 hw tyX8_ok nmX8 in_X8_append_X8 rfl hr_21 (by decide) (by decide +kernel) rfl rfl rfl rfl (Nat.le_of_ble_eq_true rfl) rfl dX8_append_46 (fun f_36 H_37 locs h_38 x_39 hw => ?_)
            have hGB := (gfn_kp (kp_f (KP.refl.upd hWF x_39 Tt (Or.inl (by decide)) : KP G [9] false f_29 f_36) (wt_8 hG Tt) (by decide) (by decide) (fun _ => by decide))).trans hGB
            have hKP := hKP.upd hWF x_39 Tt (Or.inl (by decide))
            have hRP := hRP.trans (rp_upd hG hWF x_39 hr_21.2 h_38.2 (rp_code hG Tt (by decide)) rfl)
            have hWF := wf_upd hWF h_38 x_39 (by rw [Tt]; exact ⟨x_35, v_17, v_18, rfl, ⟨by omega, by omega⟩, ⟨by omega, by omega⟩⟩)
            have h_31 := h_31.ext x_39 (Ne.symm (py_ne_arr hr_21 h_31))
            have tq_40 := tp_eq h_38
            obtain ⟨x_41, ex_41⟩ : ∃ y : Int32, y = v_1 + (-8) := ⟨_, rfl⟩
            first | have tx_41 := ti_add ex_41 (by omega) (by omega) | skip
            refine lv_iinc (v := x_41) (lv' := [(2, .int x_41), (3, .int x_12), (0, .ref t), (1, .int a)]) G0.1 G0.2.1 dX8_append_49 hl (k := 1) rfl (show _ + ((-8) : Int32) = _ from ex_41.symm) (by decide) rfl (fun ls hl => ?_)
            refine lv_goto (tgt := 3) G0.1 G0.2.1 dX8_append_52 (by decide) ?_
            exact ih_3 ((x_41.toInt + 1).toNat) (by omega) x_41 L_j3 f_36 _ _ ls rfl ⟨by omega, by omega⟩ hWF hRP hKP (by first | omega | (intros; omega)) (by have hz : fb_pc a x_41.toInt = _ := (congrArg (fb_pc a) (show x_41.toInt = v_1.toInt - 8 by omega)).trans (fb_pc_s hs4); omega) (fb_p_st hs4 hzb iv2 (by omega) (by first | exact Or.inl ⟨by omega, hGB, by omega⟩ | exact Or.inr ⟨by omega, hGB, by omega⟩)) hw (lv_sub hl [0, 2, 3] rfl)
  exact lo_3 _ 24 L f _ _ ls rfl ⟨by omega, by omega⟩ hWF hRP hKP (by first | omega | (intros; omega)) (by have hz : fb_pc a (24 : Int32).toInt = 0 := rfl; omega) (by rw [hTB, show tp_l f t = nb by omega]; rfl) hw (lv_sub hl [0, 1, 2] rfl)
