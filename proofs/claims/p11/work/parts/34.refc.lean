theorem dX12_ring_0 : decode cX12_ring 0 = .ok (.iconst 0, 1) := by decide +kernel
theorem dX12_ring_1 : decode cX12_ring 1 = .ok (.istore_n 1, 1) := by decide +kernel
theorem dX12_ring_2 : decode cX12_ring 2 = .ok (.iload_n 1, 1) := by decide +kernel
theorem dX12_ring_3 : decode cX12_ring 3 = .ok (.aload_n 0, 1) := by decide +kernel
theorem dX12_ring_4 : decode cX12_ring 4 = .ok (.getfield 290, 3) := by decide +kernel
theorem dX12_ring_7 : decode cX12_ring 7 = .ok (.if_icmp .ge 32, 3) := by decide +kernel
theorem dX12_ring_10 : decode cX12_ring 10 = .ok (.aload_n 0, 1) := by decide +kernel
theorem dX12_ring_11 : decode cX12_ring 11 = .ok (.iload_n 1, 1) := by decide +kernel
theorem dX12_ring_12 : decode cX12_ring 12 = .ok (.invokevirtual 382, 3) := by decide +kernel
theorem dX12_ring_15 : decode cX12_ring 15 = .ok (.ifCond .eq 18, 3) := by decide +kernel
theorem dX12_ring_18 : decode cX12_ring 18 = .ok (.aload_n 0, 1) := by decide +kernel
theorem dX12_ring_19 : decode cX12_ring 19 = .ok (.iload_n 1, 1) := by decide +kernel
theorem dX12_ring_20 : decode cX12_ring 20 = .ok (.invokevirtual 388, 3) := by decide +kernel
theorem dX12_ring_23 : decode cX12_ring 23 = .ok (.iconst (-1), 1) := by decide +kernel
theorem dX12_ring_24 : decode cX12_ring 24 = .ok (.if_icmp .eq 9, 3) := by decide +kernel
theorem dX12_ring_27 : decode cX12_ring 27 = .ok (.aload_n 0, 1) := by decide +kernel
theorem dX12_ring_28 : decode cX12_ring 28 = .ok (.iload_n 1, 1) := by decide +kernel
theorem dX12_ring_29 : decode cX12_ring 29 = .ok (.invokevirtual 388, 3) := by decide +kernel
theorem dX12_ring_32 : decode cX12_ring 32 = .ok (.ireturn, 1) := by decide +kernel
theorem dX12_ring_33 : decode cX12_ring 33 = .ok (.iinc 1 1, 3) := by decide +kernel
theorem dX12_ring_36 : decode cX12_ring 36 = .ok (.goto (-34), 3) := by decide +kernel
theorem dX12_ring_39 : decode cX12_ring 39 = .ok (.iconst (-1), 1) := by decide +kernel
theorem dX12_ring_40 : decode cX12_ring 40 = .ok (.ireturn, 1) := by decide +kernel
theorem dX12_ringFrom_0 : decode cX12_ringFrom 0 = .ok (.iload_n 1, 1) := by decide +kernel
theorem dX12_ringFrom_1 : decode cX12_ringFrom 1 = .ok (.istore_n 2, 1) := by decide +kernel
theorem dX12_ringFrom_2 : decode cX12_ringFrom 2 = .ok (.iconst 0, 1) := by decide +kernel
theorem dX12_ringFrom_3 : decode cX12_ringFrom 3 = .ok (.istore_n 3, 1) := by decide +kernel
theorem dX12_ringFrom_4 : decode cX12_ringFrom 4 = .ok (.iload_n 2, 1) := by decide +kernel
theorem dX12_ringFrom_5 : decode cX12_ringFrom 5 = .ok (.iconst (-1), 1) := by decide +kernel
theorem dX12_ringFrom_6 : decode cX12_ringFrom 6 = .ok (.if_icmp .eq 26, 3) := by decide +kernel
theorem dX12_ringFrom_9 : decode cX12_ringFrom 9 = .ok (.iload_n 3, 1) := by decide +kernel
theorem dX12_ringFrom_10 : decode cX12_ringFrom 10 = .ok (.iload_n 2, 1) := by decide +kernel
theorem dX12_ringFrom_11 : decode cX12_ringFrom 11 = .ok (.invokestatic 250, 3) := by decide +kernel
theorem dX12_ringFrom_14 : decode cX12_ringFrom 14 = .ok (.ifCond .ne 18, 3) := by decide +kernel
theorem dX12_ringFrom_17 : decode cX12_ringFrom 17 = .ok (.iload_n 3, 1) := by decide +kernel
theorem dX12_ringFrom_18 : decode cX12_ringFrom 18 = .ok (.iconst 1, 1) := by decide +kernel
theorem dX12_ringFrom_19 : decode cX12_ringFrom 19 = .ok (.iload_n 2, 1) := by decide +kernel
theorem dX12_ringFrom_20 : decode cX12_ringFrom 20 = .ok (.ishl, 1) := by decide +kernel
theorem dX12_ringFrom_21 : decode cX12_ringFrom 21 = .ok (.ior, 1) := by decide +kernel
theorem dX12_ringFrom_22 : decode cX12_ringFrom 22 = .ok (.istore_n 3, 1) := by decide +kernel
theorem dX12_ringFrom_23 : decode cX12_ringFrom 23 = .ok (.aload_n 0, 1) := by decide +kernel
theorem dX12_ringFrom_24 : decode cX12_ringFrom 24 = .ok (.iload_n 2, 1) := by decide +kernel
theorem dX12_ringFrom_25 : decode cX12_ringFrom 25 = .ok (.invokevirtual 385, 3) := by decide +kernel
theorem dX12_ringFrom_28 : decode cX12_ringFrom 28 = .ok (.istore_n 2, 1) := by decide +kernel
theorem dX12_ringFrom_29 : decode cX12_ringFrom 29 = .ok (.goto (-25), 3) := by decide +kernel
theorem dX12_ringFrom_32 : decode cX12_ringFrom 32 = .ok (.iload_n 2, 1) := by decide +kernel
theorem dX12_ringFrom_33 : decode cX12_ringFrom 33 = .ok (.ireturn, 1) := by decide +kernel
def w_X12_ringFrom : List Cond := .code yX12_ringFrom cX12_ringFrom 4 (some .int) :: ([Cond.methodLink RX12 250 yX12_has, Cond.static yX12_has, Cond.initialized RX12, Cond.methodLink RX12 385 yX12_nextOf, Cond.instanceMethod yX12_nextOf, Cond.selects RX12 yX12_nextOf yX12_nextOf] ++ (w_X12_has ++ (w_X12_nextOf ++ ([]))))
theorem gg_X12_ringFrom_X12_has : GoodIn w_X12_ringFrom w_X12_has := goodIn_sub (fun _ h => List.mem_cons_of_mem _ (List.mem_append_right _ (List.mem_append_left _ h))) (by decide +kernel)
theorem gg_X12_ringFrom_X12_nextOf : GoodIn w_X12_ringFrom w_X12_nextOf := goodIn_sub (fun _ h => List.mem_cons_of_mem _ (List.mem_append_right _ (List.mem_append_right _ (List.mem_append_left _ h)))) (by decide +kernel)
theorem g_X12_ringFrom_X12_has_250 : GoodIn w_X12_ringFrom (va_wsS RX12 250 yX12_has w_X12_has) := goodIn_app (goodIn_of _ (by decide +kernel)) gg_X12_ringFrom_X12_has
theorem g_X12_ringFrom_X12_nextOf_385 : GoodIn w_X12_ringFrom (wsV RX12 385 RX12 yX12_nextOf w_X12_nextOf) := goodIn_app (goodIn_of _ (by decide +kernel)) gg_X12_ringFrom_X12_nextOf
set_option maxHeartbeats 4000000 in
set_option maxRecDepth 100000 in
theorem c_X12_ringFrom (l : Launch) (E : py_E) (G : wf_G) (L : List Nat) (f : py_F) (sz : Nat) (u : Nat) (a : Int32) (hG : GT G) (hWF : WF E G L f) (Tu : G.1 u = 13) (Ba : (0 ≤ a.toInt ∧ a.toInt ≤ 9)) (hp0 : a.toInt < mi f u 25) (hq0 : WS f G u a.toInt) : Met l yX12_ringFrom w_X12_ringFrom ({ frames := 5, cells := 0, slots := 0, locals := 110 }) (py_Pc E [.ref u, .int a] L f sz) (py_Qi E L f sz (fun r L1 f1 => ((-1) ≤ r.toInt ∧ r.toInt ≤ 9) ∧ (r.toInt ≠ -1 → WS f G u r.toInt ∧ ∃ S : Int32, CL f G u S ∧ HB S r) ∧ (r.toInt < mi f u 25) ∧ L = L1 ∧ f = f1)) 0 0 (va_A (va_pl L f) sz) := by
  refine Met.ofW (cc := cX12_ringFrom) (maxL := 4) (ret := (some .int)) (by decide) rfl ?_
  intro p e s m args below meth c s₁ B hml hv
  obtain ⟨rfl, rfl, hw⟩ := py_start hv
  have G0 : CallFix p m c cX12_ringFrom 4 s _ w_X12_ringFrom RX12 := ⟨B.exec, B.bytes, hml, findClass_of_methodNamed B.named, atoms_spec (ws := w_X12_ringFrom) B.pre⟩
  have hr := B.returns
  have hlk := B.notSynchronized
  have kcm1 : (-1 : Int32).toInt = -1 := rfl
  have kc0 : (0 : Int32).toInt = 0 := rfl
  have kc1 : (1 : Int32).toInt = 1 := rfl
  have hl := lv_entry ([.ref u, .int a]) (n := 4) (Nat.le_of_ble_eq_true rfl)
  rw [lg_entry_eq]
  generalize (lg_sl ([.ref u, .int a]) ++ List.replicate (4 - (lg_sl ([.ref u, .int a])).length) Slot.unset).toArray = ls at hl ⊢
  have hl : lv_has ls 4 [(0, .ref u), (1, .int a)] := hl
  refine lv_iload_n G0.1 G0.2.1 dX12_ringFrom_0 rfl (lv_at hl 1 rfl) ?_
  refine lv_istore_n (lv' := [(2, .int a), (0, .ref u), (1, .int a)]) G0.1 G0.2.1 dX12_ringFrom_1 rfl hl (by decide) rfl (fun ls hl => ?_)
  refine lv_iconst (v := 0) G0.1 G0.2.1 dX12_ringFrom_2 (by decide) ?_
  refine lv_istore_n (lv' := [(3, .int 0), (2, .int a), (0, .ref u), (1, .int a)]) G0.1 G0.2.1 dX12_ringFrom_3 rfl hl (by decide) rfl (fun ls hl => ?_)
  have lo_4 : ∀ n_4 : Nat, ∀ (v_1 : Int32) (v_2 : Int32) (H_j4 : Heap) (locs : List Loc) (ls : Array Slot), 10 - pn v_1 10 = n_4 → ((-1) ≤ v_2.toInt ∧ v_2.toInt ≤ 9) → (v_2.toInt ≠ -1 → WS f G u v_2.toInt) → (v_2.toInt ≠ -1 → CLx f G u v_1 v_2) → (v_2.toInt < mi f u 25) → py_W E (va_A (va_pl L f) s.heap.size) s L f H_j4 locs → lv_has ls 4 [(3, .int v_1), (2, .int v_2), (0, .ref u), (1, .int a)] → W p l e (headSpec w_X12_ringFrom ({ frames := 5, cells := 0, slots := 0, locals := 110 })).room s m ([.ref u, .int a] : List Value).toArray below meth c H_j4 locs 0 0 (MQ below (py_Qi E L f s.heap.size (fun r L1 f1 => ((-1) ≤ r.toInt ∧ r.toInt ≤ 9) ∧ (r.toInt ≠ -1 → WS f G u r.toInt ∧ ∃ S : Int32, CL f G u S ∧ HB S r) ∧ (r.toInt < mi f u 25) ∧ L = L1 ∧ f = f1)) ([.ref u, .int a] : List Value).toArray s 0 0 (va_A (va_pl L f) s.heap.size)) (F0 m 4 ls []) := by
    intro n_4
    induction n_4 using Nat.strongRecOn with
    | _ n_4 ih_4 =>
      intro v_1 v_2 H_j4 locs ls hn_4 bv_2 iv0 iv1 iv2 hw hl
      refine lv_iload_n G0.1 G0.2.1 dX12_ringFrom_4 rfl (lv_at hl 1 rfl) ?_
      refine lv_iconst (v := (-1)) G0.1 G0.2.1 dX12_ringFrom_5 (by decide) ?_
      refine lv_icmp_eq (tgt := 32) G0.1 G0.2.1 dX12_ringFrom_6 (by decide) (fun c_3 => ?_) (fun c_3 => ?_)
      · skip
        have tc_3 := ti_eq c_3
        refine lv_iload_n G0.1 G0.2.1 dX12_ringFrom_32 rfl (lv_at hl 1 rfl) ?_
        exact py_iret G0 hr rfl hlk hw ⟨⟨by omega, by omega⟩, (fun hne => absurd hne (by omega)), (by first | omega | (intro q; omega)), rfl, rfl⟩ dX12_ringFrom_33
      · skip
        have tc_3 := ti_ne c_3
        refine lv_iload_n G0.1 G0.2.1 dX12_ringFrom_9 rfl (lv_at hl 0 rfl) ?_
        refine lv_iload_n G0.1 G0.2.1 dX12_ringFrom_10 rfl (lv_at hl 1 rfl) ?_
        refine py_calli hw (va_runS (As := [.int v_1, .int v_2]) (rest := []) G0 (c_X12_has l E G L f H_j4.size v_1 v_2 hG hWF) (va_cwS 2 G0.2.2.2.2 g_X12_ringFrom_X12_has_250 rfl rfl rfl (by decide +kernel) ⟨(Nat.le_of_ble_eq_true rfl), (Nat.le_of_ble_eq_true rfl)⟩) (py_preS hw) rfl rfl hl.1 rfl (lv_room (Nat.le_of_ble_eq_true rfl)) dX12_ringFrom_11 ⟨(Nat.le_of_ble_eq_true rfl), (Nat.le_of_ble_eq_true rfl)⟩) (fun r_8 L_4 f_5 H_6 locs hp_7 hw => ?_)
        obtain ⟨b_11, en_9, en_10, rfl, rfl⟩ := hp_7
        refine lv_if_ne (tgt := 32) G0.1 G0.2.1 dX12_ringFrom_14 (by decide) (fun c_12 => ?_) (fun c_12 => ?_)
        · skip
          have tc_12 := ti_ne c_12
          refine lv_iload_n G0.1 G0.2.1 dX12_ringFrom_32 rfl (lv_at hl 1 rfl) ?_
          exact py_iret G0 hr rfl hlk hw ⟨⟨by omega, by omega⟩, (fun hne => ⟨iv0 hne, _, clx_close (iv1 hne) (en_9 (by omega)), en_9 (by omega)⟩), (by first | omega | (intro q; omega)), rfl, rfl⟩ dX12_ringFrom_33
        · skip
          have tc_12 := ti_eq c_12
          refine lv_iload_n G0.1 G0.2.1 dX12_ringFrom_17 rfl (lv_at hl 0 rfl) ?_
          refine lv_iconst (v := 1) G0.1 G0.2.1 dX12_ringFrom_18 (by decide) ?_
          refine lv_iload_n G0.1 G0.2.1 dX12_ringFrom_19 rfl (lv_at hl 1 rfl) ?_
          refine lv_ishl G0.1 G0.2.1 dX12_ringFrom_20 ?_
          refine lv_topi (fun x_13 ex_13 => ?_)
          first | have bx_13 : 0 ≤ x_13.toInt ∧ x_13.toInt ≤ 512 := (by rcases ti_ten v_2 (by omega) (by omega) with h | h | h | h | h | h | h | h | h | h <;> (rw [ex_13, h]; decide +kernel)) | skip
          refine lv_ior G0.1 G0.2.1 dX12_ringFrom_21 ?_
          refine lv_topi (fun x_14 ex_14 => ?_)
          first | have bx_14 := ti_or ex_14 ⟨by omega, by omega⟩ ⟨by omega, by omega⟩ | skip
          refine lv_istore_n (lv' := [(3, .int x_14), (2, .int v_2), (0, .ref u), (1, .int a)]) G0.1 G0.2.1 dX12_ringFrom_22 rfl hl (by decide) rfl (fun ls hl => ?_)
          have hpn := pn_step (S := v_1) (S1 := x_14) (k := v_2) (by omega) (by omega) (en_10 (by omega)) (by rw [ex_14, ex_13])
          refine lv_aload_n G0.1 G0.2.1 dX12_ringFrom_23 rfl (lv_at hl 2 rfl) ?_
          refine lv_iload_n G0.1 G0.2.1 dX12_ringFrom_24 rfl (lv_at hl 1 rfl) ?_
          obtain ⟨v_15, v_16, v_17, v_18, v_19, v_20, v_21, v_22, v_23, v_24, v_25, v_26, y_27, v_28, v_29, v_30, v_31, v_32, y_33, v_34, y_35, v_36, hr_49, b_37, b_38, b_39, b_40, b_41, b_42, b_43, b_44, b_45, b_46, b_47, b_48⟩ := wg_12 hWF Tu
          have tq_50 := mi_row hr_49 25 rfl
          refine py_calli hw (va_runV (As := [.int v_2]) (rest := []) G0 (c_X12_nextOf l E G L f H_6.size u v_2 hG hWF Tu ⟨by omega, by omega⟩) (cwV 1 G0.2.2.2.2 g_X12_ringFrom_X12_nextOf_385 rfl rfl rfl (by decide +kernel) ⟨(Nat.le_of_ble_eq_true rfl), (Nat.le_of_ble_eq_true rfl)⟩) (py_preV hw (C := RX12) (T := TX12) (N := 54) rfl hr_49) rfl rfl hl.1 rfl (lv_room (Nat.le_of_ble_eq_true rfl)) dX12_ringFrom_25 ⟨(Nat.le_of_ble_eq_true rfl), (Nat.le_of_ble_eq_true rfl)⟩) (fun r_55 L_51 f_52 H_53 locs hp_54 hw => ?_)
          obtain ⟨b_57, en_56, rfl, rfl⟩ := hp_54
          refine lv_istore_n (lv' := [(2, .int r_55), (3, .int x_14), (0, .ref u), (1, .int a)]) G0.1 G0.2.1 dX12_ringFrom_28 rfl hl (by decide) rfl (fun ls hl => ?_)
          refine lv_goto (tgt := 4) G0.1 G0.2.1 dX12_ringFrom_29 (by decide) ?_
          exact ih_4 (10 - pn x_14 10) (by omega) x_14 r_55 _ _ ls rfl ⟨by omega, by omega⟩ (fun hne => (NX.ws en_56 hne).2.1) (fun hne => clx_step (iv1 (by omega)) (by omega) (by omega) (by omega) (by omega) en_56 ex_13 ex_14) (NX.lt en_56 (by omega)) hw (lv_sub hl [1, 0, 2, 3] rfl)
  exact lo_4 _ 0 a _ _ ls rfl ⟨by omega, by omega⟩ (fun _ => hq0) (fun _ => clx_zero) (by omega) hw (lv_sub hl [0, 1, 2, 3] rfl)

def w_X12_ring : List Cond := .code yX12_ring cX12_ring 2 (some .int) :: ([Cond.fieldLink RX12 290 "HeadYearModel" "families" "I", Cond.methodLink RX12 382 yX12_wants, Cond.instanceMethod yX12_wants, Cond.selects RX12 yX12_wants yX12_wants, Cond.initialized RX12, Cond.methodLink RX12 388 yX12_ringFrom, Cond.instanceMethod yX12_ringFrom, Cond.selects RX12 yX12_ringFrom yX12_ringFrom] ++ (u_ws RX12 TX12 54 ++ (w_X12_wants ++ (w_X12_ringFrom ++ ([])))))
theorem in_X12_ring_X12 : ∀ w ∈ u_ws RX12 TX12 54, w ∈ w_X12_ring := fun _ h => List.mem_cons_of_mem _ (List.mem_append_right _ (List.mem_append_left _ h))
theorem gg_X12_ring_X12_wants : GoodIn w_X12_ring w_X12_wants := goodIn_sub (fun _ h => List.mem_cons_of_mem _ (List.mem_append_right _ (List.mem_append_right _ (List.mem_append_left _ h)))) (by decide +kernel)
theorem gg_X12_ring_X12_ringFrom : GoodIn w_X12_ring w_X12_ringFrom := goodIn_sub (fun _ h => List.mem_cons_of_mem _ (List.mem_append_right _ (List.mem_append_right _ (List.mem_append_right _ (List.mem_append_left _ h))))) (by decide +kernel)
theorem g_X12_ring_X12_ringFrom_388 : GoodIn w_X12_ring (wsV RX12 388 RX12 yX12_ringFrom w_X12_ringFrom) := goodIn_app (goodIn_of _ (by decide +kernel)) gg_X12_ring_X12_ringFrom
theorem g_X12_ring_X12_wants_382 : GoodIn w_X12_ring (wsV RX12 382 RX12 yX12_wants w_X12_wants) := goodIn_app (goodIn_of _ (by decide +kernel)) gg_X12_ring_X12_wants
set_option maxHeartbeats 4000000 in
set_option maxRecDepth 100000 in
theorem c_X12_ring (l : Launch) (E : py_E) (G : wf_G) (L : List Nat) (f : py_F) (sz : Nat) (u : Nat) (hG : GT G) (hWF : WF E G L f) (Tu : G.1 u = 13) : Met l yX12_ring w_X12_ring ({ frames := 6, cells := 0, slots := 0, locals := 133 }) (py_Pc E [.ref u] L f sz) (py_Qi E L f sz (fun r L1 f1 => ((-1) ≤ r.toInt ∧ r.toInt ≤ 9) ∧ (r.toInt ≠ -1 → WS f G u r.toInt ∧ ∃ S : Int32, CL f G u S ∧ HB S r) ∧ (r.toInt < mi f u 25) ∧ L = L1 ∧ f = f1)) 0 0 (va_A (va_pl L f) sz) := by
  refine Met.ofW (cc := cX12_ring) (maxL := 2) (ret := (some .int)) (by decide) rfl ?_
  intro p e s m args below meth c s₁ B hml hv
  obtain ⟨rfl, rfl, hw⟩ := py_start hv
  have G0 : CallFix p m c cX12_ring 2 s _ w_X12_ring RX12 := ⟨B.exec, B.bytes, hml, findClass_of_methodNamed B.named, atoms_spec (ws := w_X12_ring) B.pre⟩
  have hr := B.returns
  have hlk := B.notSynchronized
  have kcm1 : (-1 : Int32).toInt = -1 := rfl
  have kc0 : (0 : Int32).toInt = 0 := rfl
  have kc1 : (1 : Int32).toInt = 1 := rfl
  have hl := lv_entry ([.ref u]) (n := 2) (Nat.le_of_ble_eq_true rfl)
  rw [lg_entry_eq]
  generalize (lg_sl ([.ref u]) ++ List.replicate (2 - (lg_sl ([.ref u])).length) Slot.unset).toArray = ls at hl ⊢
  have hl : lv_has ls 2 [(0, .ref u)] := hl
  refine lv_iconst (v := 0) G0.1 G0.2.1 dX12_ring_0 (by decide) ?_
  refine lv_istore_n (lv' := [(1, .int 0), (0, .ref u)]) G0.1 G0.2.1 dX12_ring_1 rfl hl (by decide) rfl (fun ls hl => ?_)
  have lo_2 : ∀ n_2 : Nat, ∀ (v_1 : Int32) (H_j2 : Heap) (locs : List Loc) (ls : Array Slot), (2147483647 - v_1.toInt).toNat = n_2 → (0 ≤ v_1.toInt ∧ v_1.toInt ≤ 2147483647) → py_W E (va_A (va_pl L f) s.heap.size) s L f H_j2 locs → lv_has ls 2 [(1, .int v_1), (0, .ref u)] → W p l e (headSpec w_X12_ring ({ frames := 6, cells := 0, slots := 0, locals := 133 })).room s m ([.ref u] : List Value).toArray below meth c H_j2 locs 0 0 (MQ below (py_Qi E L f s.heap.size (fun r L1 f1 => ((-1) ≤ r.toInt ∧ r.toInt ≤ 9) ∧ (r.toInt ≠ -1 → WS f G u r.toInt ∧ ∃ S : Int32, CL f G u S ∧ HB S r) ∧ (r.toInt < mi f u 25) ∧ L = L1 ∧ f = f1)) ([.ref u] : List Value).toArray s 0 0 (va_A (va_pl L f) s.heap.size)) (F0 m 2 ls []) := by
    intro n_2
    induction n_2 using Nat.strongRecOn with
    | _ n_2 ih_2 =>
      intro v_1 H_j2 locs ls hn_2 bv_1 hw hl
      refine lv_iload_n G0.1 G0.2.1 dX12_ring_2 rfl (lv_at hl 0 rfl) ?_
      refine lv_aload_n G0.1 G0.2.1 dX12_ring_3 rfl (lv_at hl 1 rfl) ?_
      obtain ⟨v_2, v_3, v_4, v_5, v_6, v_7, v_8, v_9, v_10, v_11, v_12, v_13, y_14, v_15, v_16, v_17, v_18, v_19, y_20, v_21, y_22, v_23, hr_36, b_24, b_25, b_26, b_27, b_28, b_29, b_30, b_31, b_32, b_33, b_34, b_35⟩ := wg_12 hWF Tu
      have tq_37 := mi_row hr_36 25 rfl
      refine py_get (C := RX12) (T := TX12) (N := 54) (k := 25) (v := .int v_12) G0 hw in_X12_ring_X12 rfl hr_36 (by decide) (by decide +kernel) rfl dX12_ring_4 ?_
      refine lv_icmp_ge (tgt := 39) G0.1 G0.2.1 dX12_ring_7 (by decide) (fun c_38 => ?_) (fun c_38 => ?_)
      · skip
        have tc_38 := ti_le c_38
        refine lv_iconst (v := (-1)) G0.1 G0.2.1 dX12_ring_39 (by decide) ?_
        exact py_iret G0 hr rfl hlk hw ⟨⟨by omega, by omega⟩, (fun hq => absurd kcm1 hq), (by first | omega | (intro q; omega)), rfl, rfl⟩ dX12_ring_40
      · skip
        have tc_38 := ti_nle c_38
        refine lv_aload_n G0.1 G0.2.1 dX12_ring_10 rfl (lv_at hl 1 rfl) ?_
        refine lv_iload_n G0.1 G0.2.1 dX12_ring_11 rfl (lv_at hl 0 rfl) ?_
        refine py_calli hw (va_runV (As := [.int v_1]) (rest := []) G0 (c_X12_wants l E G L f H_j2.size u v_1 hG hWF Tu ⟨by omega, by omega⟩) (cwV 1 G0.2.2.2.2 g_X12_ring_X12_wants_382 rfl rfl rfl (by decide +kernel) ⟨(Nat.le_of_ble_eq_true rfl), (Nat.le_of_ble_eq_true rfl)⟩) (py_preV hw (C := RX12) (T := TX12) (N := 54) rfl hr_36) rfl rfl hl.1 rfl (lv_room (Nat.le_of_ble_eq_true rfl)) dX12_ring_12 ⟨(Nat.le_of_ble_eq_true rfl), (Nat.le_of_ble_eq_true rfl)⟩) (fun r_43 L_39 f_40 H_41 locs hp_42 hw => ?_)
        obtain ⟨b_47, en_44, en_45, en_46, rfl, rfl⟩ := hp_42
        refine lv_if_eq (tgt := 33) G0.1 G0.2.1 dX12_ring_15 (by decide) (fun c_48 => ?_) (fun c_48 => ?_)
        · skip
          have tc_48 := ti_eq c_48
          obtain ⟨x_49, ex_49⟩ : ∃ y : Int32, y = v_1 + 1 := ⟨_, rfl⟩
          first | have tx_49 := ti_add ex_49 (by omega) (by omega) | skip
          refine lv_iinc (v := x_49) (lv' := [(1, .int x_49), (0, .ref u)]) G0.1 G0.2.1 dX12_ring_33 hl (k := 0) rfl (show _ + (1 : Int32) = _ from ex_49.symm) (by decide) rfl (fun ls hl => ?_)
          refine lv_goto (tgt := 2) G0.1 G0.2.1 dX12_ring_36 (by decide) ?_
          exact ih_2 ((2147483647 - x_49.toInt).toNat) (by omega) x_49 _ _ ls rfl ⟨by omega, by omega⟩ hw (lv_sub hl [0, 1] rfl)
        · skip
          have tc_48 := ti_ne c_48
          refine lv_aload_n G0.1 G0.2.1 dX12_ring_18 rfl (lv_at hl 1 rfl) ?_
          refine lv_iload_n G0.1 G0.2.1 dX12_ring_19 rfl (lv_at hl 0 rfl) ?_
          refine py_calli hw (va_runV (As := [.int v_1]) (rest := []) G0 (c_X12_ringFrom l E G L f H_41.size u v_1 hG hWF Tu ⟨by omega, by omega⟩ (show v_1.toInt < mi f u 25 by omega) (en_44 (by omega))) (cwV 1 G0.2.2.2.2 g_X12_ring_X12_ringFrom_388 rfl rfl rfl (by decide +kernel) ⟨(Nat.le_of_ble_eq_true rfl), (Nat.le_of_ble_eq_true rfl)⟩) (py_preV hw (C := RX12) (T := TX12) (N := 54) rfl hr_36) rfl rfl hl.1 rfl (lv_room (Nat.le_of_ble_eq_true rfl)) dX12_ring_20 ⟨(Nat.le_of_ble_eq_true rfl), (Nat.le_of_ble_eq_true rfl)⟩) (fun r_54 L_50 f_51 H_52 locs hp_53 hw => ?_)
          obtain ⟨b_57, en_55, en_56, rfl, rfl⟩ := hp_53
          refine lv_iconst (v := (-1)) G0.1 G0.2.1 dX12_ring_23 (by decide) ?_
          refine lv_icmp_eq (tgt := 33) G0.1 G0.2.1 dX12_ring_24 (by decide) (fun c_58 => ?_) (fun c_58 => ?_)
          · skip
            have tc_58 := ti_eq c_58
            obtain ⟨x_59, ex_59⟩ : ∃ y : Int32, y = v_1 + 1 := ⟨_, rfl⟩
            first | have tx_59 := ti_add ex_59 (by omega) (by omega) | skip
            refine lv_iinc (v := x_59) (lv' := [(1, .int x_59), (0, .ref u)]) G0.1 G0.2.1 dX12_ring_33 hl (k := 0) rfl (show _ + (1 : Int32) = _ from ex_59.symm) (by decide) rfl (fun ls hl => ?_)
            refine lv_goto (tgt := 2) G0.1 G0.2.1 dX12_ring_36 (by decide) ?_
            exact ih_2 ((2147483647 - x_59.toInt).toNat) (by omega) x_59 _ _ ls rfl ⟨by omega, by omega⟩ hw (lv_sub hl [0, 1] rfl)
          · skip
            have tc_58 := ti_ne c_58
            refine lv_aload_n G0.1 G0.2.1 dX12_ring_27 rfl (lv_at hl 1 rfl) ?_
            refine lv_iload_n G0.1 G0.2.1 dX12_ring_28 rfl (lv_at hl 0 rfl) ?_
            refine py_calli hw (va_runV (As := [.int v_1]) (rest := []) G0 (c_X12_ringFrom l E G L f H_52.size u v_1 hG hWF Tu ⟨by omega, by omega⟩ (show v_1.toInt < mi f u 25 by omega) (en_44 (by omega))) (cwV 1 G0.2.2.2.2 g_X12_ring_X12_ringFrom_388 rfl rfl rfl (by decide +kernel) ⟨(Nat.le_of_ble_eq_true rfl), (Nat.le_of_ble_eq_true rfl)⟩) (py_preV hw (C := RX12) (T := TX12) (N := 54) rfl hr_36) rfl rfl hl.1 rfl (lv_room (Nat.le_of_ble_eq_true rfl)) dX12_ring_29 ⟨(Nat.le_of_ble_eq_true rfl), (Nat.le_of_ble_eq_true rfl)⟩) (fun r_64 L_60 f_61 H_62 locs hp_63 hw => ?_)
            obtain ⟨b_67, en_65, en_66, rfl, rfl⟩ := hp_63
            exact py_iret G0 hr rfl hlk hw ⟨⟨by omega, by omega⟩, en_65, (by first | omega | (intro q; omega)), rfl, rfl⟩ dX12_ring_32
  exact lo_2 _ 0 _ _ ls rfl ⟨by omega, by omega⟩ hw (lv_sub hl [0, 1] rfl)
