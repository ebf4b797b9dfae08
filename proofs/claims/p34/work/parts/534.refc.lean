theorem dX12_ring_0 : decode cX12_ring 0 = .ok (.iconst 0, 1) := by decide +kernel
theorem dX12_ring_1 : decode cX12_ring 1 = .ok (.istore_n 1, 1) := by decide +kernel
theorem dX12_ring_2 : decode cX12_ring 2 = .ok (.iload_n 1, 1) := by decide +kernel
theorem dX12_ring_3 : decode cX12_ring 3 = .ok (.aload_n 0, 1) := by decide +kernel
theorem dX12_ring_4 : decode cX12_ring 4 = .ok (.getfield 290, 3) := by decide +kernel
theorem dX12_ring_7 : decode cX12_ring 7 = .ok (.if_icmp .ge 32, 3) := by decide +kernel
theorem dX12_ring_10 : decode cX12_ring 10 = .ok (.aload_n 0, 1) := by decide +kernel
theorem dX12_ring_11 : decode cX12_ring 11 = .ok (.iload_n 1, 1) := by decide +kernel
theorem dX12_ring_12 : decode cX12_ring 12 = .ok (.invokevirtual 382, 3) := by decide +kernel
theorem dX12_ring_15 : decode cX12_ring 15 = .ok (.ifCond .eq 18, 3) := by decide +kernel
theorem dX12_ring_18 : decode cX12_ring 18 = .ok (.aload_n 0, 1) := by decide +kernel
theorem dX12_ring_19 : decode cX12_ring 19 = .ok (.iload_n 1, 1) := by decide +kernel
theorem dX12_ring_20 : decode cX12_ring 20 = .ok (.invokevirtual 388, 3) := by decide +kernel
theorem dX12_ring_23 : decode cX12_ring 23 = .ok (.iconst (-1), 1) := by decide +kernel
theorem dX12_ring_24 : decode cX12_ring 24 = .ok (.if_icmp .eq 9, 3) := by decide +kernel
theorem dX12_ring_27 : decode cX12_ring 27 = .ok (.aload_n 0, 1) := by decide +kernel
theorem dX12_ring_28 : decode cX12_ring 28 = .ok (.iload_n 1, 1) := by decide +kernel
theorem dX12_ring_29 : decode cX12_ring 29 = .ok (.invokevirtual 388, 3) := by decide +kernel
theorem dX12_ring_32 : decode cX12_ring 32 = .ok (.ireturn, 1) := by decide +kernel
theorem dX12_ring_33 : decode cX12_ring 33 = .ok (.iinc 1 1, 3) := by decide +kernel
theorem dX12_ring_36 : decode cX12_ring 36 = .ok (.goto (-34), 3) := by decide +kernel
theorem dX12_ring_39 : decode cX12_ring 39 = .ok (.iconst (-1), 1) := by decide +kernel
theorem dX12_ring_40 : decode cX12_ring 40 = .ok (.ireturn, 1) := by decide +kernel
theorem dX12_ringFrom_0 : decode cX12_ringFrom 0 = .ok (.iload_n 1, 1) := by decide +kernel
theorem dX12_ringFrom_1 : decode cX12_ringFrom 1 = .ok (.istore_n 2, 1) := by decide +kernel
theorem dX12_ringFrom_2 : decode cX12_ringFrom 2 = .ok (.iconst 0, 1) := by decide +kernel
theorem dX12_ringFrom_3 : decode cX12_ringFrom 3 = .ok (.istore_n 3, 1) := by decide +kernel
theorem dX12_ringFrom_4 : decode cX12_ringFrom 4 = .ok (.iload_n 2, 1) := by decide +kernel
theorem dX12_ringFrom_5 : decode cX12_ringFrom 5 = .ok (.iconst (-1), 1) := by decide +kernel
theorem dX12_ringFrom_6 : decode cX12_ringFrom 6 = .ok (.if_icmp .eq 26, 3) := by decide +kernel
theorem dX12_ringFrom_9 : decode cX12_ringFrom 9 = .ok (.iload_n 3, 1) := by decide +kernel
theorem dX12_ringFrom_10 : decode cX12_ringFrom 10 = .ok (.iload_n 2, 1) := by decide +kernel
theorem dX12_ringFrom_11 : decode cX12_ringFrom 11 = .ok (.invokestatic 250, 3) := by decide +kernel
theorem dX12_ringFrom_14 : decode cX12_ringFrom 14 = .ok (.ifCond .ne 18, 3) := by decide +kernel
theorem dX12_ringFrom_17 : decode cX12_ringFrom 17 = .ok (.iload_n 3, 1) := by decide +kernel
theorem dX12_ringFrom_18 : decode cX12_ringFrom 18 = .ok (.iconst 1, 1) := by decide +kernel
theorem dX12_ringFrom_19 : decode cX12_ringFrom 19 = .ok (.iload_n 2, 1) := by decide +kernel
theorem dX12_ringFrom_20 : decode cX12_ringFrom 20 = .ok (.ishl, 1) := by decide +kernel
theorem dX12_ringFrom_21 : decode cX12_ringFrom 21 = .ok (.ior, 1) := by decide +kernel
theorem dX12_ringFrom_22 : decode cX12_ringFrom 22 = .ok (.istore_n 3, 1) := by decide +kernel
theorem dX12_ringFrom_23 : decode cX12_ringFrom 23 = .ok (.aload_n 0, 1) := by decide +kernel
theorem dX12_ringFrom_24 : decode cX12_ringFrom 24 = .ok (.iload_n 2, 1) := by decide +kernel
theorem dX12_ringFrom_25 : decode cX12_ringFrom 25 = .ok (.invokevirtual 385, 3) := by decide +kernel
theorem dX12_ringFrom_28 : decode cX12_ringFrom 28 = .ok (.istore_n 2, 1) := by decide +kernel
theorem dX12_ringFrom_29 : decode cX12_ringFrom 29 = .ok (.goto (-25), 3) := by decide +kernel
theorem dX12_ringFrom_32 : decode cX12_ringFrom 32 = .ok (.iload_n 2, 1) := by decide +kernel
theorem dX12_ringFrom_33 : decode cX12_ringFrom 33 = .ok (.ireturn, 1) := by decide +kernel
theorem dX12_turn_0 : decode cX12_turn 0 = .ok (.iconst 0, 1) := by decide +kernel
theorem dX12_turn_1 : decode cX12_turn 1 = .ok (.istore_n 2, 1) := by decide +kernel
theorem dX12_turn_2 : decode cX12_turn 2 = .ok (.iload_n 1, 1) := by decide +kernel
theorem dX12_turn_3 : decode cX12_turn 3 = .ok (.istore_n 3, 1) := by decide +kernel
theorem dX12_turn_4 : decode cX12_turn 4 = .ok (.iload_n 2, 1) := by decide +kernel
theorem dX12_turn_5 : decode cX12_turn 5 = .ok (.iload_n 3, 1) := by decide +kernel
theorem dX12_turn_6 : decode cX12_turn 6 = .ok (.invokestatic 250, 3) := by decide +kernel
theorem dX12_turn_9 : decode cX12_turn 9 = .ok (.ifCond .ne 50, 3) := by decide +kernel
theorem dX12_turn_12 : decode cX12_turn 12 = .ok (.iload_n 2, 1) := by decide +kernel
theorem dX12_turn_13 : decode cX12_turn 13 = .ok (.iconst 1, 1) := by decide +kernel
theorem dX12_turn_14 : decode cX12_turn 14 = .ok (.iload_n 3, 1) := by decide +kernel
theorem dX12_turn_15 : decode cX12_turn 15 = .ok (.ishl, 1) := by decide +kernel
theorem dX12_turn_16 : decode cX12_turn 16 = .ok (.ior, 1) := by decide +kernel
theorem dX12_turn_17 : decode cX12_turn 17 = .ok (.istore_n 2, 1) := by decide +kernel
theorem dX12_turn_18 : decode cX12_turn 18 = .ok (.aload_n 0, 1) := by decide +kernel
theorem dX12_turn_19 : decode cX12_turn 19 = .ok (.getfield 77, 3) := by decide +kernel
theorem dX12_turn_22 : decode cX12_turn 22 = .ok (.iload_n 3, 1) := by decide +kernel
theorem dX12_turn_23 : decode cX12_turn 23 = .ok (.aload_n 0, 1) := by decide +kernel
theorem dX12_turn_24 : decode cX12_turn 24 = .ok (.aload_n 0, 1) := by decide +kernel
theorem dX12_turn_25 : decode cX12_turn 25 = .ok (.iload_n 3, 1) := by decide +kernel
theorem dX12_turn_26 : decode cX12_turn 26 = .ok (.invokevirtual 385, 3) := by decide +kernel
theorem dX12_turn_29 : decode cX12_turn 29 = .ok (.iconst 1, 1) := by decide +kernel
theorem dX12_turn_30 : decode cX12_turn 30 = .ok (.invokevirtual 287, 3) := by decide +kernel
theorem dX12_turn_33 : decode cX12_turn 33 = .ok (.iastore, 1) := by decide +kernel
theorem dX12_turn_34 : decode cX12_turn 34 = .ok (.aload_n 0, 1) := by decide +kernel
theorem dX12_turn_35 : decode cX12_turn 35 = .ok (.getfield 80, 3) := by decide +kernel
theorem dX12_turn_38 : decode cX12_turn 38 = .ok (.iload_n 3, 1) := by decide +kernel
theorem dX12_turn_39 : decode cX12_turn 39 = .ok (.aload_n 0, 1) := by decide +kernel
theorem dX12_turn_40 : decode cX12_turn 40 = .ok (.aload_n 0, 1) := by decide +kernel
theorem dX12_turn_41 : decode cX12_turn 41 = .ok (.iload_n 3, 1) := by decide +kernel
theorem dX12_turn_42 : decode cX12_turn 42 = .ok (.invokevirtual 385, 3) := by decide +kernel
theorem dX12_turn_45 : decode cX12_turn 45 = .ok (.iconst 2, 1) := by decide +kernel
theorem dX12_turn_46 : decode cX12_turn 46 = .ok (.invokevirtual 287, 3) := by decide +kernel
theorem dX12_turn_49 : decode cX12_turn 49 = .ok (.iastore, 1) := by decide +kernel
theorem dX12_turn_50 : decode cX12_turn 50 = .ok (.aload_n 0, 1) := by decide +kernel
theorem dX12_turn_51 : decode cX12_turn 51 = .ok (.iload_n 3, 1) := by decide +kernel
theorem dX12_turn_52 : decode cX12_turn 52 = .ok (.invokevirtual 385, 3) := by decide +kernel
theorem dX12_turn_55 : decode cX12_turn 55 = .ok (.istore_n 3, 1) := by decide +kernel
theorem dX12_turn_56 : decode cX12_turn 56 = .ok (.goto (-52), 3) := by decide +kernel
theorem dX12_turn_59 : decode cX12_turn 59 = .ok (.iconst 0, 1) := by decide +kernel
theorem dX12_turn_60 : decode cX12_turn 60 = .ok (.istore 4, 2) := by decide +kernel
theorem dX12_turn_62 : decode cX12_turn 62 = .ok (.iload 4, 2) := by decide +kernel
theorem dX12_turn_64 : decode cX12_turn 64 = .ok (.aload_n 0, 1) := by decide +kernel
theorem dX12_turn_65 : decode cX12_turn 65 = .ok (.getfield 290, 3) := by decide +kernel
theorem dX12_turn_68 : decode cX12_turn 68 = .ok (.if_icmp .ge 54, 3) := by decide +kernel
theorem dX12_turn_71 : decode cX12_turn 71 = .ok (.iload_n 2, 1) := by decide +kernel
theorem dX12_turn_72 : decode cX12_turn 72 = .ok (.iload 4, 2) := by decide +kernel
theorem dX12_turn_74 : decode cX12_turn 74 = .ok (.invokestatic 250, 3) := by decide +kernel
theorem dX12_turn_77 : decode cX12_turn 77 = .ok (.ifCond .eq 39, 3) := by decide +kernel
theorem dX12_turn_80 : decode cX12_turn 80 = .ok (.aload_n 0, 1) := by decide +kernel
theorem dX12_turn_81 : decode cX12_turn 81 = .ok (.iload 4, 2) := by decide +kernel
theorem dX12_turn_83 : decode cX12_turn 83 = .ok (.iconst 1, 1) := by decide +kernel
theorem dX12_turn_84 : decode cX12_turn 84 = .ok (.aload_n 0, 1) := by decide +kernel
theorem dX12_turn_85 : decode cX12_turn 85 = .ok (.getfield 77, 3) := by decide +kernel
theorem dX12_turn_88 : decode cX12_turn 88 = .ok (.iload 4, 2) := by decide +kernel
theorem dX12_turn_90 : decode cX12_turn 90 = .ok (.iaload, 1) := by decide +kernel
theorem dX12_turn_91 : decode cX12_turn 91 = .ok (.invokevirtual 305, 3) := by decide +kernel
theorem dX12_turn_94 : decode cX12_turn 94 = .ok (.aload_n 0, 1) := by decide +kernel
theorem dX12_turn_95 : decode cX12_turn 95 = .ok (.iload 4, 2) := by decide +kernel
theorem dX12_turn_97 : decode cX12_turn 97 = .ok (.iconst 2, 1) := by decide +kernel
theorem dX12_turn_98 : decode cX12_turn 98 = .ok (.aload_n 0, 1) := by decide +kernel
theorem dX12_turn_99 : decode cX12_turn 99 = .ok (.getfield 80, 3) := by decide +kernel
theorem dX12_turn_102 : decode cX12_turn 102 = .ok (.iload 4, 2) := by decide +kernel
theorem dX12_turn_104 : decode cX12_turn 104 = .ok (.iaload, 1) := by decide +kernel
theorem dX12_turn_105 : decode cX12_turn 105 = .ok (.invokevirtual 305, 3) := by decide +kernel
theorem dX12_turn_108 : decode cX12_turn 108 = .ok (.aload_n 0, 1) := by decide +kernel
theorem dX12_turn_109 : decode cX12_turn 109 = .ok (.iload 4, 2) := by decide +kernel
theorem dX12_turn_111 : decode cX12_turn 111 = .ok (.iconst 3, 1) := by decide +kernel
theorem dX12_turn_112 : decode cX12_turn 112 = .ok (.iconst 0, 1) := by decide +kernel
theorem dX12_turn_113 : decode cX12_turn 113 = .ok (.invokevirtual 305, 3) := by decide +kernel
theorem dX12_turn_116 : decode cX12_turn 116 = .ok (.iinc 4 1, 3) := by decide +kernel
theorem dX12_turn_119 : decode cX12_turn 119 = .ok (.goto (-57), 3) := by decide +kernel
theorem dX12_turn_122 : decode cX12_turn 122 = .ok (.iload_n 2, 1) := by decide +kernel
theorem dX12_turn_123 : decode cX12_turn 123 = .ok (.invokestatic 391, 3) := by decide +kernel
theorem dX12_turn_126 : decode cX12_turn 126 = .ok (.ireturn, 1) := by decide +kernel
def w_X12_ringFrom : List Cond := .code yX12_ringFrom cX12_ringFrom 4 (some .int) :: ([Cond.methodLink RX12 250 yX12_has, Cond.static yX12_has, Cond.initialized RX12, Cond.methodLink RX12 385 yX12_nextOf, Cond.instanceMethod yX12_nextOf, Cond.selects RX12 yX12_nextOf yX12_nextOf] ++ (w_X12_has ++ (w_X12_nextOf ++ ([]))))
theorem gg_X12_ringFrom_X12_has : GoodIn w_X12_ringFrom w_X12_has := goodIn_sub (fun _ h => List.mem_cons_of_mem _ (List.mem_append_right _ (List.mem_append_left _ h))) (by decide +kernel)
theorem gg_X12_ringFrom_X12_nextOf : GoodIn w_X12_ringFrom w_X12_nextOf := goodIn_sub (fun _ h => List.mem_cons_of_mem _ (List.mem_append_right _ (List.mem_append_right _ (List.mem_append_left _ h)))) (by decide +kernel)
theorem g_X12_ringFrom_X12_has_250 : GoodIn w_X12_ringFrom (va_wsS RX12 250 yX12_has w_X12_has) := goodIn_app (goodIn_of _ (by decide +kernel)) gg_X12_ringFrom_X12_has
theorem g_X12_ringFrom_X12_nextOf_385 : GoodIn w_X12_ringFrom (wsV RX12 385 RX12 yX12_nextOf w_X12_nextOf) := goodIn_app (goodIn_of _ (by decide +kernel)) gg_X12_ringFrom_X12_nextOf
set_option maxHeartbeats 4000000 in
set_option maxRecDepth 100000 in
theorem c_X12_ringFrom (l : Launch) (E : py_E) (G : wf_G) (L : List Nat) (f : py_F) (sz : Nat) (u : Nat) (a : Int32) (hG : GT G) (hWF : WF E G L f) (Tu : G.1 u = 13) (Ba : (0 ≤ a.toInt ∧ a.toInt ≤ 9)) (hp0 : a.toInt < mi f u 25) (hq0 : WS f G u a.toInt) : Met l yX12_ringFrom w_X12_ringFrom ({ frames := 5, cells := 0, slots := 0, locals := 110 }) (py_Pc E [.ref u, .int a] L f sz) (py_Qi E L f sz (fun r L1 f1 => ((-1) ≤ r.toInt ∧ r.toInt ≤ 9) ∧ (r.toInt ≠ -1 → WS f G u r.toInt ∧ ∃ S : Int32, CL f G u S ∧ HB S r) ∧ (r.toInt < mi f u 25) ∧ L = L1 ∧ f = f1)) 0 0 (va_A (va_pl L f) sz) := by
  refine Met.ofW (cc := cX12_ringFrom) (maxL := 4) (ret := (some .int)) (by decide) rfl ?_
  intro p e s m args below meth c s₁ B hml hv
  obtain ⟨rfl, rfl, hw⟩ := py_start hv
  have G0 : CallFix p m c cX12_ringFrom 4 s _ w_X12_ringFrom RX12 := ⟨B.exec, B.bytes, hml, findClass_of_methodNamed B.named, atoms_spec (ws := w_X12_ringFrom) B.pre⟩
  have hr := B.returns
  have hlk := B.notSynchronized
  have kcm1 : (-1 : Int32).toInt = -1 := rfl
  have kc0 : (0 : Int32).toInt = 0 := rfl
  have kc1 : (1 : Int32).toInt = 1 := rfl
  have hl := lv_entry ([.ref u, .int a]) (n := 4) (Nat.le_of_ble_eq_true rfl)
  rw [lg_entry_eq]
  generalize (lg_sl ([.ref u, .int a]) ++ List.replicate (4 - (lg_sl ([.ref u, .int a])).length) Slot.unset).toArray = ls at hl ⊢
  have hl : lv_has ls 4 [(0, .ref u), (1, .int a)] := hl
  refine lv_iload_n G0.1 G0.2.1 dX12_ringFrom_0 rfl (lv_at hl 1 rfl) ?_
  refine lv_istore_n (lv' := [(2, .int a), (0, .ref u), (1, .int a)]) G0.1 G0.2.1 dX12_ringFrom_1 rfl hl (by decide) rfl (fun ls hl => ?_)
  refine lv_iconst (v := 0) G0.1 G0.2.1 dX12_ringFrom_2 (by decide) ?_
  refine lv_istore_n (lv' := [(3, .int 0), (2, .int a), (0, .ref u), (1, .int a)]) G0.1 G0.2.1 dX12_ringFrom_3 rfl hl (by decide) rfl (fun ls hl => ?_)
  have lo_4 : ∀ n_4 : Nat, ∀ (v_1 : Int32) (v_2 : Int32) (H_j4 : Heap) (locs : List Loc) (ls : Array Slot), 10 - pn v_1 10 = n_4 → ((-1) ≤ v_2.toInt ∧ v_2.toInt ≤ 9) → (v_2.toInt ≠ -1 → WS f G u v_2.toInt) → (v_2.toInt ≠ -1 → CLx f G u v_1 v_2) → (v_2.toInt < mi f u 25) → py_W E (va_A (va_pl L f) s.heap.size) s L f H_j4 locs → lv_has ls 4 [(3, .int v_1), (2, .int v_2), (0, .ref u), (1, .int a)] → W p l e (headSpec w_X12_ringFrom ({ frames := 5, cells := 0, slots := 0, locals := 110 })).room s m ([.ref u, .int a] : List Value).toArray below meth c H_j4 locs 0 0 (MQ below (py_Qi E L f s.heap.size (fun r L1 f1 => ((-1) ≤ r.toInt ∧ r.toInt ≤ 9) ∧ (r.toInt ≠ -1 → WS f G u r.toInt ∧ ∃ S : Int32, CL f G u S ∧ HB S r) ∧ (r.toInt < mi f u 25) ∧ L = L1 ∧ f = f1)) ([.ref u, .int a] : List Value).toArray s 0 0 (va_A (va_pl L f) s.heap.size)) (F0 m 4 ls []) := by
    intro n_4
    induction n_4 using Nat.strongRecOn with
    | _ n_4 ih_4 =>
      intro v_1 v_2 H_j4 locs ls hn_4 bv_2 iv0 iv1 iv2 hw hl
      refine lv_iload_n G0.1 G0.2.1 dX12_ringFrom_4 rfl (lv_at hl 1 rfl) ?_
      refine lv_iconst (v := (-1)) G0.1 G0.2.1 dX12_ringFrom_5 (by decide) ?_
      refine lv_icmp_eq (tgt := 32) G0.1 G0.2.1 dX12_ringFrom_6 (by decide) (fun c_3 => ?_) (fun c_3 => ?_)
      · skip
        have tc_3 := ti_eq c_3
        refine lv_iload_n G0.1 G0.2.1 dX12_ringFrom_32 rfl (lv_at hl 1 rfl) ?_
        exact py_iret G0 hr rfl hlk hw ⟨⟨by omega, by omega⟩, (fun hne => absurd hne (by omega)), (by first | omega | (intro q; omega)), rfl, rfl⟩ dX12_ringFrom_33
      · skip
        have tc_3 := ti_ne c_3
        refine lv_iload_n G0.1 G0.2.1 dX12_ringFrom_9 rfl (lv_at hl 0 rfl) ?_
        refine lv_iload_n G0.1 G0.2.1 dX12_ringFrom_10 rfl (lv_at hl 1 rfl) ?_
        refine py_calli hw (va_runS (As := [.int v_1, .int v_2]) (rest := []) G0 (c_X12_has l E G L f H_j4.size v_1 v_2 hG hWF) (va_cwS 2 G0.2.2.2.2 g_X12_ringFrom_X12_has_250 rfl rfl rfl (by decide +kernel) ⟨(Nat.le_of_ble_eq_true rfl), (Nat.le_of_ble_eq_true rfl)⟩) (py_preS hw) rfl rfl hl.1 rfl (lv_room (Nat.le_of_ble_eq_true rfl)) dX12_ringFrom_11 ⟨(Nat.le_of_ble_eq_true rfl), (Nat.le_of_ble_eq_true rfl)⟩) (fun r_8 L_4 f_5 H_6 locs hp_7 hw => ?_)
        obtain ⟨b_11, en_9, en_10, rfl, rfl⟩ := hp_7
        refine lv_if_ne (tgt := 32) G0.1 G0.2.1 dX12_ringFrom_14 (by decide) (fun c_12 => ?_) (fun c_12 => ?_)
        · skip
          have tc_12 := ti_ne c_12
          refine lv_iload_n G0.1 G0.2.1 dX12_ringFrom_32 rfl (lv_at hl 1 rfl) ?_
          exact py_iret G0 hr rfl hlk hw ⟨⟨by omega, by omega⟩, (fun hne => ⟨iv0 hne, _, clx_close (iv1 hne) (en_9 (by omega)), en_9 (by omega)⟩), (by first | omega | (intro q; omega)), rfl, rfl⟩ dX12_ringFrom_33
        · skip
          have tc_12 := ti_eq c_12
          refine lv_iload_n G0.1 G0.2.1 dX12_ringFrom_17 rfl (lv_at hl 0 rfl) ?_
          refine lv_iconst (v := 1) G0.1 G0.2.1 dX12_ringFrom_18 (by decide) ?_
          refine lv_iload_n G0.1 G0.2.1 dX12_ringFrom_19 rfl (lv_at hl 1 rfl) ?_
          refine lv_ishl G0.1 G0.2.1 dX12_ringFrom_20 ?_
          refine lv_topi (fun x_13 ex_13 => ?_)
          refine lv_ior G0.1 G0.2.1 dX12_ringFrom_21 ?_
          refine lv_topi (fun x_14 ex_14 => ?_)
          refine lv_istore_n (lv' := [(3, .int x_14), (2, .int v_2), (0, .ref u), (1, .int a)]) G0.1 G0.2.1 dX12_ringFrom_22 rfl hl (by decide) rfl (fun ls hl => ?_)
          have hpn := pn_step (S := v_1) (S1 := x_14) (k := v_2) (by omega) (by omega) (en_10 (by omega)) (by rw [ex_14, ex_13])
          refine lv_aload_n G0.1 G0.2.1 dX12_ringFrom_23 rfl (lv_at hl 2 rfl) ?_
          refine lv_iload_n G0.1 G0.2.1 dX12_ringFrom_24 rfl (lv_at hl 1 rfl) ?_
          obtain ⟨v_15, v_16, v_17, v_18, v_19, v_20, v_21, v_22, v_23, v_24, v_25, v_26, y_27, v_28, v_29, v_30, v_31, v_32, y_33, v_34, y_35, v_36, hr_49, b_37, b_38, b_39, b_40, b_41, b_42, b_43, b_44, b_45, b_46, b_47, b_48⟩ := wg_12 hWF Tu
          have tq_50 := mi_row hr_49 25 rfl
          refine py_calli hw (va_runV (As := [.int v_2]) (rest := []) G0 (c_X12_nextOf l E G L f H_6.size u v_2 hG hWF Tu ⟨by omega, by omega⟩) (cwV 1 G0.2.2.2.2 g_X12_ringFrom_X12_nextOf_385 rfl rfl rfl (by decide +kernel) ⟨(Nat.le_of_ble_eq_true rfl), (Nat.le_of_ble_eq_true rfl)⟩) (py_preV hw (C := RX12) (T := TX12) (N := 54) rfl hr_49) rfl rfl hl.1 rfl (lv_room (Nat.le_of_ble_eq_true rfl)) dX12_ringFrom_25 ⟨(Nat.le_of_ble_eq_true rfl), (Nat.le_of_ble_eq_true rfl)⟩) (fun r_55 L_51 f_52 H_53 locs hp_54 hw => ?_)
          obtain ⟨b_57, en_56, rfl, rfl⟩ := hp_54
          refine lv_istore_n (lv' := [(2, .int r_55), (3, .int x_14), (0, .ref u), (1, .int a)]) G0.1 G0.2.1 dX12_ringFrom_28 rfl hl (by decide) rfl (fun ls hl => ?_)
          refine lv_goto (tgt := 4) G0.1 G0.2.1 dX12_ringFrom_29 (by decide) ?_
          exact ih_4 (10 - pn x_14 10) (by omega) x_14 r_55 _ _ ls rfl ⟨by omega, by omega⟩ (fun hne => (NX.ws en_56 hne).2.1) (fun hne => clx_step (iv1 (by omega)) (by omega) (by omega) (by omega) (by omega) en_56 ex_13 ex_14) (NX.lt en_56 (by omega)) hw (lv_sub hl [1, 0, 2, 3] rfl)
  exact lo_4 _ 0 a _ _ ls rfl ⟨by omega, by omega⟩ (fun _ => hq0) (fun _ => clx_zero) (by omega) hw (lv_sub hl [0, 1, 2, 3] rfl)

def w_X12_ring : List Cond := .code yX12_ring cX12_ring 2 (some .int) :: ([Cond.fieldLink RX12 290 "HeadYearModel" "families" "I", Cond.methodLink RX12 382 yX12_wants, Cond.instanceMethod yX12_wants, Cond.selects RX12 yX12_wants yX12_wants, Cond.initialized RX12, Cond.methodLink RX12 388 yX12_ringFrom, Cond.instanceMethod yX12_ringFrom, Cond.selects RX12 yX12_ringFrom yX12_ringFrom] ++ (u_ws RX12 TX12 54 ++ (w_X12_wants ++ (w_X12_ringFrom ++ ([])))))
theorem in_X12_ring_X12 : ∀ w ∈ u_ws RX12 TX12 54, w ∈ w_X12_ring := fun _ h => List.mem_cons_of_mem _ (List.mem_append_right _ (List.mem_append_left _ h))
theorem gg_X12_ring_X12_wants : GoodIn w_X12_ring w_X12_wants := goodIn_sub (fun _ h => List.mem_cons_of_mem _ (List.mem_append_right _ (List.mem_append_right _ (List.mem_append_left _ h)))) (by decide +kernel)
theorem gg_X12_ring_X12_ringFrom : GoodIn w_X12_ring w_X12_ringFrom := goodIn_sub (fun _ h => List.mem_cons_of_mem _ (List.mem_append_right _ (List.mem_append_right _ (List.mem_append_right _ (List.mem_append_left _ h))))) (by decide +kernel)
theorem g_X12_ring_X12_ringFrom_388 : GoodIn w_X12_ring (wsV RX12 388 RX12 yX12_ringFrom w_X12_ringFrom) := goodIn_app (goodIn_of _ (by decide +kernel)) gg_X12_ring_X12_ringFrom
theorem g_X12_ring_X12_wants_382 : GoodIn w_X12_ring (wsV RX12 382 RX12 yX12_wants w_X12_wants) := goodIn_app (goodIn_of _ (by decide +kernel)) gg_X12_ring_X12_wants
set_option maxHeartbeats 4000000 in
set_option maxRecDepth 100000 in
theorem c_X12_ring (l : Launch) (E : py_E) (G : wf_G) (L : List Nat) (f : py_F) (sz : Nat) (u : Nat) (hG : GT G) (hWF : WF E G L f) (Tu : G.1 u = 13) : Met l yX12_ring w_X12_ring ({ frames := 6, cells := 0, slots := 0, locals := 133 }) (py_Pc E [.ref u] L f sz) (py_Qi E L f sz (fun r L1 f1 => ((-1) ≤ r.toInt ∧ r.toInt ≤ 9) ∧ (r.toInt ≠ -1 → WS f G u r.toInt ∧ ∃ S : Int32, CL f G u S ∧ HB S r) ∧ (r.toInt < mi f u 25) ∧ L = L1 ∧ f = f1)) 0 0 (va_A (va_pl L f) sz) := by
  refine Met.ofW (cc := cX12_ring) (maxL := 2) (ret := (some .int)) (by decide) rfl ?_
  intro p e s m args below meth c s₁ B hml hv
  obtain ⟨rfl, rfl, hw⟩ := py_start hv
  have G0 : CallFix p m c cX12_ring 2 s _ w_X12_ring RX12 := ⟨B.exec, B.bytes, hml, findClass_of_methodNamed B.named, atoms_spec (ws := w_X12_ring) B.pre⟩
  have hr := B.returns
  have hlk := B.notSynchronized
  have kcm1 : (-1 : Int32).toInt = -1 := rfl
  have kc0 : (0 : Int32).toInt = 0 := rfl
  have kc1 : (1 : Int32).toInt = 1 := rfl
  have hl := lv_entry ([.ref u]) (n := 2) (Nat.le_of_ble_eq_true rfl)
  rw [lg_entry_eq]
  generalize (lg_sl ([.ref u]) ++ List.replicate (2 - (lg_sl ([.ref u])).length) Slot.unset).toArray = ls at hl ⊢
  have hl : lv_has ls 2 [(0, .ref u)] := hl
  refine lv_iconst (v := 0) G0.1 G0.2.1 dX12_ring_0 (by decide) ?_
  refine lv_istore_n (lv' := [(1, .int 0), (0, .ref u)]) G0.1 G0.2.1 dX12_ring_1 rfl hl (by decide) rfl (fun ls hl => ?_)
  have lo_2 : ∀ n_2 : Nat, ∀ (v_1 : Int32) (H_j2 : Heap) (locs : List Loc) (ls : Array Slot), (2147483647 - v_1.toInt).toNat = n_2 → (0 ≤ v_1.toInt ∧ v_1.toInt ≤ 2147483647) → py_W E (va_A (va_pl L f) s.heap.size) s L f H_j2 locs → lv_has ls 2 [(1, .int v_1), (0, .ref u)] → W p l e (headSpec w_X12_ring ({ frames := 6, cells := 0, slots := 0, locals := 133 })).room s m ([.ref u] : List Value).toArray below meth c H_j2 locs 0 0 (MQ below (py_Qi E L f s.heap.size (fun r L1 f1 => ((-1) ≤ r.toInt ∧ r.toInt ≤ 9) ∧ (r.toInt ≠ -1 → WS f G u r.toInt ∧ ∃ S : Int32, CL f G u S ∧ HB S r) ∧ (r.toInt < mi f u 25) ∧ L = L1 ∧ f = f1)) ([.ref u] : List Value).toArray s 0 0 (va_A (va_pl L f) s.heap.size)) (F0 m 2 ls []) := by
    intro n_2
    induction n_2 using Nat.strongRecOn with
    | _ n_2 ih_2 =>
      intro v_1 H_j2 locs ls hn_2 bv_1 hw hl
      refine lv_iload_n G0.1 G0.2.1 dX12_ring_2 rfl (lv_at hl 0 rfl) ?_
      refine lv_aload_n G0.1 G0.2.1 dX12_ring_3 rfl (lv_at hl 1 rfl) ?_
      obtain ⟨v_2, v_3, v_4, v_5, v_6, v_7, v_8, v_9, v_10, v_11, v_12, v_13, y_14, v_15, v_16, v_17, v_18, v_19, y_20, v_21, y_22, v_23, hr_36, b_24, b_25, b_26, b_27, b_28, b_29, b_30, b_31, b_32, b_33, b_34, b_35⟩ := wg_12 hWF Tu
      have tq_37 := mi_row hr_36 25 rfl
      refine py_get (C := RX12) (T := TX12) (N := 54) (k := 25) (v := .int v_12) G0 hw in_X12_ring_X12 rfl hr_36 (by decide) (by decide +kernel) rfl dX12_ring_4 ?_
      refine lv_icmp_ge (tgt := 39) G0.1 G0.2.1 dX12_ring_7 (by decide) (fun c_38 => ?_) (fun c_38 => ?_)
      · skip
        have tc_38 := ti_le c_38
        refine lv_iconst (v := (-1)) G0.1 G0.2.1 dX12_ring_39 (by decide) ?_
        exact py_iret G0 hr rfl hlk hw ⟨⟨by omega, by omega⟩, (fun hq => absurd kcm1 hq), (by first | omega | (intro q; omega)), rfl, rfl⟩ dX12_ring_40
      · skip
        have tc_38 := ti_nle c_38
        refine lv_aload_n G0.1 G0.2.1 dX12_ring_10 rfl (lv_at hl 1 rfl) ?_
        refine lv_iload_n G0.1 G0.2.1 dX12_ring_11 rfl (lv_at hl 0 rfl) ?_
        refine py_calli hw (va_runV (As := [.int v_1]) (rest := []) G0 (c_X12_wants l E G L f H_j2.size u v_1 hG hWF Tu ⟨by omega, by omega⟩) (cwV 1 G0.2.2.2.2 g_X12_ring_X12_wants_382 rfl rfl rfl (by decide +kernel) ⟨(Nat.le_of_ble_eq_true rfl), (Nat.le_of_ble_eq_true rfl)⟩) (py_preV hw (C := RX12) (T := TX12) (N := 54) rfl hr_36) rfl rfl hl.1 rfl (lv_room (Nat.le_of_ble_eq_true rfl)) dX12_ring_12 ⟨(Nat.le_of_ble_eq_true rfl), (Nat.le_of_ble_eq_true rfl)⟩) (fun r_43 L_39 f_40 H_41 locs hp_42 hw => ?_)
        obtain ⟨b_47, en_44, en_45, en_46, rfl, rfl⟩ := hp_42
        refine lv_if_eq (tgt := 33) G0.1 G0.2.1 dX12_ring_15 (by decide) (fun c_48 => ?_) (fun c_48 => ?_)
        · skip
          have tc_48 := ti_eq c_48
          clear en_46
          obtain ⟨x_49, ex_49⟩ : ∃ y : Int32, y = v_1 + 1 := ⟨_, rfl⟩
          first | have tx_49 := ti_add ex_49 (by omega) (by omega) | skip
          refine lv_iinc (v := x_49) (lv' := [(1, .int x_49), (0, .ref u)]) G0.1 G0.2.1 dX12_ring_33 hl (k := 0) rfl (show _ + (1 : Int32) = _ from ex_49.symm) (by decide) rfl (fun ls hl => ?_)
          refine lv_goto (tgt := 2) G0.1 G0.2.1 dX12_ring_36 (by decide) ?_
          exact ih_2 ((2147483647 - x_49.toInt).toNat) (by omega) x_49 _ _ ls rfl ⟨by omega, by omega⟩ hw (lv_sub hl [0, 1] rfl)
        · skip
          have tc_48 := ti_ne c_48
          replace en_46 := en_46 (by omega)
          refine lv_aload_n G0.1 G0.2.1 dX12_ring_18 rfl (lv_at hl 1 rfl) ?_
          refine lv_iload_n G0.1 G0.2.1 dX12_ring_19 rfl (lv_at hl 0 rfl) ?_
          refine py_calli hw (va_runV (As := [.int v_1]) (rest := []) G0 (c_X12_ringFrom l E G L f H_41.size u v_1 hG hWF Tu ⟨by omega, by omega⟩ (show v_1.toInt < mi f u 25 by omega) (en_44 (by omega))) (cwV 1 G0.2.2.2.2 g_X12_ring_X12_ringFrom_388 rfl rfl rfl (by decide +kernel) ⟨(Nat.le_of_ble_eq_true rfl), (Nat.le_of_ble_eq_true rfl)⟩) (py_preV hw (C := RX12) (T := TX12) (N := 54) rfl hr_36) rfl rfl hl.1 rfl (lv_room (Nat.le_of_ble_eq_true rfl)) dX12_ring_20 ⟨(Nat.le_of_ble_eq_true rfl), (Nat.le_of_ble_eq_true rfl)⟩) (fun r_54 L_50 f_51 H_52 locs hp_53 hw => ?_)
          obtain ⟨b_57, en_55, en_56, rfl, rfl⟩ := hp_53
          refine lv_iconst (v := (-1)) G0.1 G0.2.1 dX12_ring_23 (by decide) ?_
          refine lv_icmp_eq (tgt := 33) G0.1 G0.2.1 dX12_ring_24 (by decide) (fun c_58 => ?_) (fun c_58 => ?_)
          · skip
            have tc_58 := ti_eq c_58
            obtain ⟨x_59, ex_59⟩ : ∃ y : Int32, y = v_1 + 1 := ⟨_, rfl⟩
            first | have tx_59 := ti_add ex_59 (by omega) (by omega) | skip
            refine lv_iinc (v := x_59) (lv' := [(1, .int x_59), (0, .ref u)]) G0.1 G0.2.1 dX12_ring_33 hl (k := 0) rfl (show _ + (1 : Int32) = _ from ex_59.symm) (by decide) rfl (fun ls hl => ?_)
            refine lv_goto (tgt := 2) G0.1 G0.2.1 dX12_ring_36 (by decide) ?_
            exact ih_2 ((2147483647 - x_59.toInt).toNat) (by omega) x_59 _ _ ls rfl ⟨by omega, by omega⟩ hw (lv_sub hl [0, 1] rfl)
          · skip
            have tc_58 := ti_ne c_58
            refine lv_aload_n G0.1 G0.2.1 dX12_ring_27 rfl (lv_at hl 1 rfl) ?_
            refine lv_iload_n G0.1 G0.2.1 dX12_ring_28 rfl (lv_at hl 0 rfl) ?_
            refine py_calli hw (va_runV (As := [.int v_1]) (rest := []) G0 (c_X12_ringFrom l E G L f H_52.size u v_1 hG hWF Tu ⟨by omega, by omega⟩ (show v_1.toInt < mi f u 25 by omega) (en_44 (by omega))) (cwV 1 G0.2.2.2.2 g_X12_ring_X12_ringFrom_388 rfl rfl rfl (by decide +kernel) ⟨(Nat.le_of_ble_eq_true rfl), (Nat.le_of_ble_eq_true rfl)⟩) (py_preV hw (C := RX12) (T := TX12) (N := 54) rfl hr_36) rfl rfl hl.1 rfl (lv_room (Nat.le_of_ble_eq_true rfl)) dX12_ring_29 ⟨(Nat.le_of_ble_eq_true rfl), (Nat.le_of_ble_eq_true rfl)⟩) (fun r_64 L_60 f_61 H_62 locs hp_63 hw => ?_)
            obtain ⟨b_67, en_65, en_66, rfl, rfl⟩ := hp_63
            exact py_iret G0 hr rfl hlk hw ⟨⟨by omega, by omega⟩, en_65, (by first | omega | (intro q; omega)), rfl, rfl⟩ dX12_ring_32
  exact lo_2 _ 0 _ _ ls rfl ⟨by omega, by omega⟩ hw (lv_sub hl [0, 1] rfl)

def w_X12_turn : List Cond := .code yX12_turn cX12_turn 5 (some .int) :: ([Cond.methodLink RX12 250 yX12_has, Cond.static yX12_has, Cond.initialized RX12, Cond.fieldLink RX12 290 "HeadYearModel" "families" "I", Cond.methodLink RX12 391 yJ6_bitCount_0f7a4, Cond.static yJ6_bitCount_0f7a4, Cond.initialized RJ6, Cond.fieldLink RX12 77 "HeadYearModel" "toLevel" "[I", Cond.methodLink RX12 305 yX12_tell, Cond.instanceMethod yX12_tell, Cond.selects RX12 yX12_tell yX12_tell, Cond.fieldLink RX12 80 "HeadYearModel" "toHut" "[I", Cond.methodLink RX12 385 yX12_nextOf, Cond.instanceMethod yX12_nextOf, Cond.selects RX12 yX12_nextOf yX12_nextOf, Cond.methodLink RX12 287 yX12_of, Cond.instanceMethod yX12_of, Cond.selects RX12 yX12_of yX12_of] ++ (u_ws RX12 TX12 54 ++ (w_X12_has ++ (w_J6_bitCount_0f7a4 ++ (w_X12_tell ++ (w_X12_nextOf ++ (w_X12_of ++ ([]))))))))
theorem in_X12_turn_X12 : ∀ w ∈ u_ws RX12 TX12 54, w ∈ w_X12_turn := fun _ h => List.mem_cons_of_mem _ (List.mem_append_right _ (List.mem_append_left _ h))
theorem gg_X12_turn_X12_has : GoodIn w_X12_turn w_X12_has := goodIn_sub (fun _ h => List.mem_cons_of_mem _ (List.mem_append_right _ (List.mem_append_right _ (List.mem_append_left _ h)))) (by decide +kernel)
theorem gg_X12_turn_J6_bitCount_0f7a4 : GoodIn w_X12_turn w_J6_bitCount_0f7a4 := goodIn_sub (fun _ h => List.mem_cons_of_mem _ (List.mem_append_right _ (List.mem_append_right _ (List.mem_append_right _ (List.mem_append_left _ h))))) (by decide +kernel)
theorem gg_X12_turn_X12_tell : GoodIn w_X12_turn w_X12_tell := goodIn_sub (fun _ h => List.mem_cons_of_mem _ (List.mem_append_right _ (List.mem_append_right _ (List.mem_append_right _ (List.mem_append_right _ (List.mem_append_left _ h)))))) (by decide +kernel)
theorem gg_X12_turn_X12_nextOf : GoodIn w_X12_turn w_X12_nextOf := goodIn_sub (fun _ h => List.mem_cons_of_mem _ (List.mem_append_right _ (List.mem_append_right _ (List.mem_append_right _ (List.mem_append_right _ (List.mem_append_right _ (List.mem_append_left _ h))))))) (by decide +kernel)
theorem gg_X12_turn_X12_of : GoodIn w_X12_turn w_X12_of := goodIn_sub (fun _ h => List.mem_cons_of_mem _ (List.mem_append_right _ (List.mem_append_right _ (List.mem_append_right _ (List.mem_append_right _ (List.mem_append_right _ (List.mem_append_right _ (List.mem_append_left _ h)))))))) (by decide +kernel)
theorem g_X12_turn_J6_bitCount_0f7a4_391 : GoodIn w_X12_turn (va_wsS RX12 391 yJ6_bitCount_0f7a4 w_J6_bitCount_0f7a4) := goodIn_app (goodIn_of _ (by decide +kernel)) gg_X12_turn_J6_bitCount_0f7a4
theorem g_X12_turn_X12_has_250 : GoodIn w_X12_turn (va_wsS RX12 250 yX12_has w_X12_has) := goodIn_app (goodIn_of _ (by decide +kernel)) gg_X12_turn_X12_has
theorem g_X12_turn_X12_nextOf_385 : GoodIn w_X12_turn (wsV RX12 385 RX12 yX12_nextOf w_X12_nextOf) := goodIn_app (goodIn_of _ (by decide +kernel)) gg_X12_turn_X12_nextOf
theorem g_X12_turn_X12_of_287 : GoodIn w_X12_turn (wsV RX12 287 RX12 yX12_of w_X12_of) := goodIn_app (goodIn_of _ (by decide +kernel)) gg_X12_turn_X12_of
theorem g_X12_turn_X12_tell_305 : GoodIn w_X12_turn (wsV RX12 305 RX12 yX12_tell w_X12_tell) := goodIn_app (goodIn_of _ (by decide +kernel)) gg_X12_turn_X12_tell
set_option maxHeartbeats 4000000 in
set_option maxRecDepth 100000 in
theorem c_X12_turn (l : Launch) (E : py_E) (G : wf_G) (L : List Nat) (f : py_F) (sz : Nat) (u : Nat) (a : Int32) (hG : GT G) (hWF : WF E G L f) (Tu : G.1 u = 13) (Ba : (0 ≤ a.toInt ∧ a.toInt ≤ 9)) (hp0 : a.toInt < mi f u 25) (hq0 : ∃ S : Int32, CL f G u S ∧ HB S a) (hq1 : WS f G u a.toInt) : Met l yX12_turn w_X12_turn ({ frames := 5, cells := 0, slots := 0, locals := 110 }) (py_Pc E [.ref u, .int a] L f sz) (py_Qi E L f sz (fun _ L1 f1 => (wn f1 G u (mi f u 25).toNat < wn f G u (mi f u 25).toNat) ∧ WF E G L1 f1 ∧ KP G [59, 60, 55] false f f1 ∧ FK [] f f1 u)) 0 0 (va_A (va_pl L f) sz) := by
  refine Met.ofW (cc := cX12_turn) (maxL := 5) (ret := (some .int)) (by decide) rfl ?_
  intro p e s m args below meth c s₁ B hml hv
  obtain ⟨rfl, rfl, hw⟩ := py_start hv
  have G0 : CallFix p m c cX12_turn 5 s _ w_X12_turn RX12 := ⟨B.exec, B.bytes, hml, findClass_of_methodNamed B.named, atoms_spec (ws := w_X12_turn) B.pre⟩
  have hr := B.returns
  have hlk := B.notSynchronized
  have kcm1 : (-1 : Int32).toInt = -1 := rfl
  have kc0 : (0 : Int32).toInt = 0 := rfl
  have kc1 : (1 : Int32).toInt = 1 := rfl
  have kc2 : (2 : Int32).toInt = 2 := rfl
  have kc3 : (3 : Int32).toInt = 3 := rfl
  have hl := lv_entry ([.ref u, .int a]) (n := 5) (Nat.le_of_ble_eq_true rfl)
  rw [lg_entry_eq]
  generalize (lg_sl ([.ref u, .int a]) ++ List.replicate (5 - (lg_sl ([.ref u, .int a])).length) Slot.unset).toArray = ls at hl ⊢
  have hl : lv_has ls 5 [(0, .ref u), (1, .int a)] := hl
  have hFK : FK [] f f u := FK.refl
  have hKP : KP G [59, 60, 55] false f f := KP.refl
  have hSM : SM f f G u := SM.refl
  obtain ⟨S, hcl, hbs⟩ := hq0
  refine lv_iconst (v := 0) G0.1 G0.2.1 dX12_turn_0 (by decide) ?_
  refine lv_istore_n (lv' := [(2, .int 0), (0, .ref u), (1, .int a)]) G0.1 G0.2.1 dX12_turn_1 rfl hl (by decide) rfl (fun ls hl => ?_)
  refine lv_iload_n G0.1 G0.2.1 dX12_turn_2 rfl (lv_at hl 2 rfl) ?_
  refine lv_istore_n (lv' := [(3, .int a), (2, .int 0), (0, .ref u), (1, .int a)]) G0.1 G0.2.1 dX12_turn_3 rfl hl (by decide) rfl (fun ls hl => ?_)
  have lo_4 : ∀ n_4 : Nat, ∀ (v_1 : Int32) (v_2 : Int32) (L_j4 : List Nat) (f_j4 : py_F) (H_j4 : Heap) (locs : List Loc) (ls : Array Slot), 10 - pn v_2 10 = n_4 → (0 ≤ v_1.toInt ∧ v_1.toInt ≤ 9) → WF E G L_j4 f_j4 → KP G [59, 60, 55] false f f_j4 → SM f f_j4 G u → FK [] f f_j4 u → (HB S v_1) → (WS f G u v_1.toInt) → (TV f f_j4 G u v_2) → (HB v_2 a ∨ v_1 = a) → py_W E (va_A (va_pl L f) s.heap.size) s L_j4 f_j4 H_j4 locs → lv_has ls 5 [(3, .int v_1), (2, .int v_2), (0, .ref u), (1, .int a)] → W p l e (headSpec w_X12_turn ({ frames := 5, cells := 0, slots := 0, locals := 110 })).room s m ([.ref u, .int a] : List Value).toArray below meth c H_j4 locs 0 0 (MQ below (py_Qi E L f s.heap.size (fun _ L1 f1 => (wn f1 G u (mi f u 25).toNat < wn f G u (mi f u 25).toNat) ∧ WF E G L1 f1 ∧ KP G [59, 60, 55] false f f1 ∧ FK [] f f1 u)) ([.ref u, .int a] : List Value).toArray s 0 0 (va_A (va_pl L f) s.heap.size)) (F0 m 4 ls []) := by
    intro n_4
    induction n_4 using Nat.strongRecOn with
    | _ n_4 ih_4 =>
      intro v_1 v_2 L_j4 f_j4 H_j4 locs ls hn_4 bv_1 hWF hKP hSM hFK iv0 iv1 iv2 iv3 hw hl
      refine lv_iload_n G0.1 G0.2.1 dX12_turn_4 rfl (lv_at hl 1 rfl) ?_
      refine lv_iload_n G0.1 G0.2.1 dX12_turn_5 rfl (lv_at hl 0 rfl) ?_
      refine py_calli hw (va_runS (As := [.int v_2, .int v_1]) (rest := []) G0 (c_X12_has l E G L_j4 f_j4 H_j4.size v_2 v_1 hG hWF) (va_cwS 2 G0.2.2.2.2 g_X12_turn_X12_has_250 rfl rfl rfl (by decide +kernel) ⟨(Nat.le_of_ble_eq_true rfl), (Nat.le_of_ble_eq_true rfl)⟩) (py_preS hw) rfl rfl hl.1 rfl (lv_room (Nat.le_of_ble_eq_true rfl)) dX12_turn_6 ⟨(Nat.le_of_ble_eq_true rfl), (Nat.le_of_ble_eq_true rfl)⟩) (fun r_7 L_3 f_4 H_5 locs hp_6 hw => ?_)
      obtain ⟨b_10, en_8, en_9, rfl, rfl⟩ := hp_6
      refine lv_if_ne (tgt := 59) G0.1 G0.2.1 dX12_turn_9 (by decide) (fun c_11 => ?_) (fun c_11 => ?_)
      · skip
        have tc_11 := ti_ne c_11
        have hSM0 := hSM
        have hTV0 := iv2
        have hha : HB v_2 a := iv3.elim id (fun z => z ▸ en_8 (by omega))
        have hT36 : f_j4 (G.2 u 36) = f_j4 (G.2 u 36) := rfl
        have hKS : KP G [55] false f_j4 f_j4 := KP.refl
        have hFK0 := hFK
        refine lv_iconst (v := 0) G0.1 G0.2.1 dX12_turn_59 (by decide) ?_
        refine lv_istore (lv' := [(4, .int 0), (3, .int v_1), (2, .int v_2), (0, .ref u), (1, .int a)]) G0.1 G0.2.1 dX12_turn_60 hl (by decide) rfl (fun ls hl => ?_)
        have lo_62 : ∀ n_62 : Nat, ∀ (v_12 : Int32) (L_j62 : List Nat) (f_j62 : py_F) (H_j62 : Heap) (locs : List Loc) (ls : Array Slot), (2147483647 - v_12.toInt).toNat = n_62 → (0 ≤ v_12.toInt ∧ v_12.toInt ≤ 2147483647) → WF E G L_j62 f_j62 → KP G [59, 60, 55] false f f_j62 → FK [] f f_j62 u → f_j62 (G.2 u 36) = f_j4 (G.2 u 36) → KP G [55] false f_j4 f_j62 → (TN f_j4 f_j62 G u v_2 v_12.toInt) → py_W E (va_A (va_pl L f) s.heap.size) s L_j62 f_j62 H_j62 locs → lv_has ls 5 [(4, .int v_12), (3, .int v_1), (2, .int v_2), (0, .ref u), (1, .int a)] → W p l e (headSpec w_X12_turn ({ frames := 5, cells := 0, slots := 0, locals := 110 })).room s m ([.ref u, .int a] : List Value).toArray below meth c H_j62 locs 0 0 (MQ below (py_Qi E L f s.heap.size (fun _ L1 f1 => (wn f1 G u (mi f u 25).toNat < wn f G u (mi f u 25).toNat) ∧ WF E G L1 f1 ∧ KP G [59, 60, 55] false f f1 ∧ FK [] f f1 u)) ([.ref u, .int a] : List Value).toArray s 0 0 (va_A (va_pl L f) s.heap.size)) (F0 m 62 ls []) := by
          intro n_62
          induction n_62 using Nat.strongRecOn with
          | _ n_62 ih_62 =>
            intro v_12 L_j62 f_j62 H_j62 locs ls hn_62 bv_12 hWF hKP hFK hT36 hKS iv0 hw hl
            refine lv_iload G0.1 G0.2.1 dX12_turn_62 (lv_at hl 0 rfl) ?_
            refine lv_aload_n G0.1 G0.2.1 dX12_turn_64 rfl (lv_at hl 3 rfl) ?_
            obtain ⟨v_13, v_14, v_15, v_16, v_17, v_18, v_19, v_20, v_21, v_22, v_23, v_24, y_25, v_26, v_27, v_28, v_29, v_30, y_31, v_32, y_33, v_34, hr_47, b_35, b_36, b_37, b_38, b_39, b_40, b_41, b_42, b_43, b_44, b_45, b_46⟩ := wg_12 hWF Tu
            have tq_48 := mi_row hr_47 25 rfl
            refine py_get (C := RX12) (T := TX12) (N := 54) (k := 25) (v := .int v_23) G0 hw in_X12_turn_X12 rfl hr_47 (by decide) (by decide +kernel) rfl dX12_turn_65 ?_
            refine lv_icmp_ge (tgt := 122) G0.1 G0.2.1 dX12_turn_68 (by decide) (fun c_49 => ?_) (fun c_49 => ?_)
            · skip
              have tc_49 := ti_le c_49
              have hmf := fk_mi hFK 25 (by decide) (by decide)
              refine lv_iload_n G0.1 G0.2.1 dX12_turn_122 rfl (lv_at hl 2 rfl) ?_
              refine py_calli hw (va_runS (As := [.int v_2]) (rest := []) G0 (c_J6_bitCount_0f7a4 l E G L_j62 f_j62 H_j62.size v_2 hG hWF) (va_cwS 1 G0.2.2.2.2 g_X12_turn_J6_bitCount_0f7a4_391 rfl rfl rfl (by decide +kernel) ⟨(Nat.le_of_ble_eq_true rfl), (Nat.le_of_ble_eq_true rfl)⟩) (py_preS hw) rfl rfl hl.1 rfl (lv_room (Nat.le_of_ble_eq_true rfl)) dX12_turn_123 ⟨(Nat.le_of_ble_eq_true rfl), (Nat.le_of_ble_eq_true rfl)⟩) (fun r_54 L_50 f_51 H_52 locs hp_53 hw => ?_)
              obtain ⟨rfl, rfl⟩ := hp_53
              have br_54 := wf_free r_54
              exact py_iret G0 hr rfl hlk hw ⟨(turn_end hSM0 (SL.of2 hG Tu hKS hFK0 hFK (by decide)) hTV0 iv0 (by omega) (by omega) (by omega) (by omega) hha hp0), hWF, hKP, hFK⟩ dX12_turn_126
            · skip
              have tc_49 := ti_nle c_49
              refine lv_iload_n G0.1 G0.2.1 dX12_turn_71 rfl (lv_at hl 2 rfl) ?_
              refine lv_iload G0.1 G0.2.1 dX12_turn_72 (lv_at hl 0 rfl) ?_
              refine py_calli hw (va_runS (As := [.int v_2, .int v_12]) (rest := []) G0 (c_X12_has l E G L_j62 f_j62 H_j62.size v_2 v_12 hG hWF) (va_cwS 2 G0.2.2.2.2 g_X12_turn_X12_has_250 rfl rfl rfl (by decide +kernel) ⟨(Nat.le_of_ble_eq_true rfl), (Nat.le_of_ble_eq_true rfl)⟩) (py_preS hw) rfl rfl hl.1 rfl (lv_room (Nat.le_of_ble_eq_true rfl)) dX12_turn_74 ⟨(Nat.le_of_ble_eq_true rfl), (Nat.le_of_ble_eq_true rfl)⟩) (fun r_59 L_55 f_56 H_57 locs hp_58 hw => ?_)
              obtain ⟨b_62, en_60, en_61, rfl, rfl⟩ := hp_58
              refine lv_if_eq (tgt := 116) G0.1 G0.2.1 dX12_turn_77 (by decide) (fun c_63 => ?_) (fun c_63 => ?_)
              · skip
                have tc_63 := ti_eq c_63
                obtain ⟨x_64, ex_64⟩ : ∃ y : Int32, y = v_12 + 1 := ⟨_, rfl⟩
                first | have tx_64 := ti_add ex_64 (by omega) (by omega) | skip
                refine lv_iinc (v := x_64) (lv' := [(4, .int x_64), (3, .int v_1), (2, .int v_2), (0, .ref u), (1, .int a)]) G0.1 G0.2.1 dX12_turn_116 hl (k := 0) rfl (show _ + (1 : Int32) = _ from ex_64.symm) (by decide) rfl (fun ls hl => ?_)
                refine lv_goto (tgt := 62) G0.1 G0.2.1 dX12_turn_119 (by decide) ?_
                exact ih_62 ((2147483647 - x_64.toInt).toNat) (by omega) x_64 L_j62 f_j62 _ _ ls rfl ⟨by omega, by omega⟩ hWF hKP hFK hT36 hKS (iv0.skip (k := v_12) rfl (by omega) (en_61 (by omega))) hw (lv_sub hl [0, 1, 2, 3, 4] rfl)
              · skip
                have tc_63 := ti_ne c_63
                refine lv_aload_n G0.1 G0.2.1 dX12_turn_80 rfl (lv_at hl 3 rfl) ?_
                refine lv_iload G0.1 G0.2.1 dX12_turn_81 (lv_at hl 0 rfl) ?_
                refine lv_iconst (v := 1) G0.1 G0.2.1 dX12_turn_83 (by decide) ?_
                refine lv_aload_n G0.1 G0.2.1 dX12_turn_84 rfl (lv_at hl 3 rfl) ?_
                refine py_get (C := RX12) (T := TX12) (N := 54) (k := 36) (v := .ref (G.2 u 36)) G0 hw in_X12_turn_X12 rfl hr_47 (by decide) (by decide +kernel) rfl dX12_turn_85 ?_
                refine lv_iload G0.1 G0.2.1 dX12_turn_88 (lv_at hl 0 rfl) ?_
                obtain ⟨g_65, ha_66, hi_67⟩ := wf_arr (n := 10) (lo := (-1)) (hi := 7) hWF (wt12_36 hG Tu) (by decide) (fun _ => rfl)
                have rg_68 : vp_in v_12 10 := ti_in (by omega) (by omega)
                refine py_iald G0 hw ha_66 rg_68 dX12_turn_90 ?_
                refine lv_topi (fun x_69 ex_69 => ?_)
                have bx_69 := ti_at hi_67 rg_68 ex_69
                have hvx : x_69.toInt = arz f_j4 (G.2 u 36) v_12.toInt := by rw [← arz_kp hT36, arz_ld ha_66 ex_69]
                refine py_callv hw (va_runV (As := [.int v_12, .int 1, .int x_69]) (rest := []) G0 (c_X12_tell l E G L_j62 f_j62 H_57.size u v_12 1 x_69 hG hWF Tu ⟨by omega, by omega⟩ ⟨by omega, by omega⟩ (show ((1 : Int32).toInt = 0 → 0 ≤ x_69.toInt ∧ x_69.toInt ≤ 20) ∧ ((1 : Int32).toInt = 1 → -1 ≤ x_69.toInt ∧ x_69.toInt ≤ 7) by omega)) (cwV 3 G0.2.2.2.2 g_X12_turn_X12_tell_305 rfl rfl rfl (by decide +kernel) ⟨(Nat.le_of_ble_eq_true rfl), (Nat.le_of_ble_eq_true rfl)⟩) (py_preV hw (C := RX12) (T := TX12) (N := 54) rfl hr_47) rfl rfl hl.1 rfl (lv_room (Nat.le_of_ble_eq_true rfl)) dX12_turn_91 ⟨(Nat.le_of_ble_eq_true rfl), (Nat.le_of_ble_eq_true rfl)⟩) (fun L_70 f_71 H_72 locs hp_73 hw => ?_)
                obtain ⟨en_75, hWF, kp_76, fk_77⟩ := hp_73
                have en_75 : TL f_j62 f_71 G u v_12.toInt (1 : Int) x_69.toInt := en_75
                have hFK := hFK.trans fk_77 (by decide)
                have hKP := hKP.trans kp_76 (by decide) (by decide)
                have hr_47 := kp_at kp_76 hWF Tu (by decide) (by decide) (by decide) hr_47
                have tq_78 := mi_row hr_47 25 rfl
                have ha_66 := kp_at kp_76 hWF (wt12_36 hG Tu) (by decide) (by decide) (by decide) ha_66
                have hT36 := (kp_f kp_76 (wt12_36 hG Tu) (by decide) (by decide) (fun _ => by decide)).trans hT36
                have hKS := hKS.trans kp_76 (by decide) (by decide)
                refine lv_aload_n G0.1 G0.2.1 dX12_turn_94 rfl (lv_at hl 3 rfl) ?_
                refine lv_iload G0.1 G0.2.1 dX12_turn_95 (lv_at hl 0 rfl) ?_
                refine lv_iconst (v := 2) G0.1 G0.2.1 dX12_turn_97 (by decide) ?_
                refine lv_aload_n G0.1 G0.2.1 dX12_turn_98 rfl (lv_at hl 3 rfl) ?_
                refine py_get (C := RX12) (T := TX12) (N := 54) (k := 37) (v := .ref (G.2 u 37)) G0 hw in_X12_turn_X12 rfl hr_47 (by decide) (by decide +kernel) rfl dX12_turn_99 ?_
                refine lv_iload G0.1 G0.2.1 dX12_turn_102 (lv_at hl 0 rfl) ?_
                obtain ⟨g_79, ha_80, hi_81⟩ := wf_arr (n := 10) (lo := (-2147483648)) (hi := 2147483647) hWF (wt12_37 hG Tu) (by decide) (fun _ => rfl)
                have rg_82 : vp_in v_12 10 := ti_in (by omega) (by omega)
                refine py_iald G0 hw ha_80 rg_82 dX12_turn_104 ?_
                refine lv_topi (fun x_83 ex_83 => ?_)
                have bx_83 := wf_free x_83
                refine py_callv hw (va_runV (As := [.int v_12, .int 2, .int x_83]) (rest := []) G0 (c_X12_tell l E G L_70 f_71 H_72.size u v_12 2 x_83 hG hWF Tu ⟨by omega, by omega⟩ ⟨by omega, by omega⟩ (show ((2 : Int32).toInt = 0 → 0 ≤ x_83.toInt ∧ x_83.toInt ≤ 20) ∧ ((2 : Int32).toInt = 1 → -1 ≤ x_83.toInt ∧ x_83.toInt ≤ 7) by omega)) (cwV 3 G0.2.2.2.2 g_X12_turn_X12_tell_305 rfl rfl rfl (by decide +kernel) ⟨(Nat.le_of_ble_eq_true rfl), (Nat.le_of_ble_eq_true rfl)⟩) (py_preV hw (C := RX12) (T := TX12) (N := 54) rfl hr_47) rfl rfl hl.1 rfl (lv_room (Nat.le_of_ble_eq_true rfl)) dX12_turn_105 ⟨(Nat.le_of_ble_eq_true rfl), (Nat.le_of_ble_eq_true rfl)⟩) (fun L_84 f_85 H_86 locs hp_87 hw => ?_)
                obtain ⟨en_89, hWF, kp_90, fk_91⟩ := hp_87
                have en_89 : TL f_71 f_85 G u v_12.toInt (2 : Int) x_83.toInt := en_89
                have hFK := hFK.trans fk_91 (by decide)
                have hKP := hKP.trans kp_90 (by decide) (by decide)
                have hr_47 := kp_at kp_90 hWF Tu (by decide) (by decide) (by decide) hr_47
                have tq_92 := mi_row hr_47 25 rfl
                have ha_66 := kp_at kp_90 hWF (wt12_36 hG Tu) (by decide) (by decide) (by decide) ha_66
                have ha_80 := kp_at kp_90 hWF (wt12_37 hG Tu) (by decide) (by decide) (by decide) ha_80
                have hT36 := (kp_f kp_90 (wt12_36 hG Tu) (by decide) (by decide) (fun _ => by decide)).trans hT36
                have hKS := hKS.trans kp_90 (by decide) (by decide)
                refine lv_aload_n G0.1 G0.2.1 dX12_turn_108 rfl (lv_at hl 3 rfl) ?_
                refine lv_iload G0.1 G0.2.1 dX12_turn_109 (lv_at hl 0 rfl) ?_
                refine lv_iconst (v := 3) G0.1 G0.2.1 dX12_turn_111 (by decide) ?_
                refine lv_iconst (v := 0) G0.1 G0.2.1 dX12_turn_112 (by decide) ?_
                refine py_callv hw (va_runV (As := [.int v_12, .int 3, .int 0]) (rest := []) G0 (c_X12_tell l E G L_84 f_85 H_86.size u v_12 3 0 hG hWF Tu ⟨by omega, by omega⟩ ⟨by omega, by omega⟩ (show ((3 : Int32).toInt = 0 → 0 ≤ (0 : Int32).toInt ∧ (0 : Int32).toInt ≤ 20) ∧ ((3 : Int32).toInt = 1 → -1 ≤ (0 : Int32).toInt ∧ (0 : Int32).toInt ≤ 7) by omega)) (cwV 3 G0.2.2.2.2 g_X12_turn_X12_tell_305 rfl rfl rfl (by decide +kernel) ⟨(Nat.le_of_ble_eq_true rfl), (Nat.le_of_ble_eq_true rfl)⟩) (py_preV hw (C := RX12) (T := TX12) (N := 54) rfl hr_47) rfl rfl hl.1 rfl (lv_room (Nat.le_of_ble_eq_true rfl)) dX12_turn_113 ⟨(Nat.le_of_ble_eq_true rfl), (Nat.le_of_ble_eq_true rfl)⟩) (fun L_93 f_94 H_95 locs hp_96 hw => ?_)
                obtain ⟨en_98, hWF, kp_99, fk_100⟩ := hp_96
                have en_98 : TL f_85 f_94 G u v_12.toInt (3 : Int) (0 : Int) := en_98
                have hFK := hFK.trans fk_100 (by decide)
                have hKP := hKP.trans kp_99 (by decide) (by decide)
                have hr_47 := kp_at kp_99 hWF Tu (by decide) (by decide) (by decide) hr_47
                have tq_101 := mi_row hr_47 25 rfl
                have ha_66 := kp_at kp_99 hWF (wt12_36 hG Tu) (by decide) (by decide) (by decide) ha_66
                have ha_80 := kp_at kp_99 hWF (wt12_37 hG Tu) (by decide) (by decide) (by decide) ha_80
                have hT36 := (kp_f kp_99 (wt12_36 hG Tu) (by decide) (by decide) (fun _ => by decide)).trans hT36
                have hKS := hKS.trans kp_99 (by decide) (by decide)
                obtain ⟨x_102, ex_102⟩ : ∃ y : Int32, y = v_12 + 1 := ⟨_, rfl⟩
                first | have tx_102 := ti_add ex_102 (by omega) (by omega) | skip
                refine lv_iinc (v := x_102) (lv' := [(4, .int x_102), (3, .int v_1), (2, .int v_2), (0, .ref u), (1, .int a)]) G0.1 G0.2.1 dX12_turn_116 hl (k := 0) rfl (show _ + (1 : Int32) = _ from ex_102.symm) (by decide) rfl (fun ls hl => ?_)
                refine lv_goto (tgt := 62) G0.1 G0.2.1 dX12_turn_119 (by decide) ?_
                exact ih_62 ((2147483647 - x_102.toInt).toNat) (by omega) x_102 L_93 f_94 _ _ ls rfl ⟨by omega, by omega⟩ hWF hKP hFK hT36 hKS (iv0.step (k := v_12) rfl (by omega) (by omega) (en_60 (by omega)) en_75 en_89 en_98 hvx) hw (lv_sub hl [0, 1, 2, 3, 4] rfl)
        exact lo_62 _ 0 L_j4 f_j4 _ _ ls rfl ⟨by omega, by omega⟩ hWF hKP hFK hT36 hKS (TN.zero (by omega)) hw (lv_sub hl [0, 1, 2, 3, 4] rfl)
      · skip
        have tc_11 := ti_eq c_11
        refine lv_iload_n G0.1 G0.2.1 dX12_turn_12 rfl (lv_at hl 1 rfl) ?_
        refine lv_iconst (v := 1) G0.1 G0.2.1 dX12_turn_13 (by decide) ?_
        refine lv_iload_n G0.1 G0.2.1 dX12_turn_14 rfl (lv_at hl 0 rfl) ?_
        refine lv_ishl G0.1 G0.2.1 dX12_turn_15 ?_
        refine lv_topi (fun x_103 ex_103 => ?_)
        refine lv_ior G0.1 G0.2.1 dX12_turn_16 ?_
        refine lv_topi (fun x_104 ex_104 => ?_)
        refine lv_istore_n (lv' := [(2, .int x_104), (3, .int v_1), (0, .ref u), (1, .int a)]) G0.1 G0.2.1 dX12_turn_17 rfl hl (by decide) rfl (fun ls hl => ?_)
        have hpn := pn_step (S := v_2) (S1 := x_104) (k := v_1) (by omega) (by omega) (en_9 (by omega)) (by rw [ex_104, ex_103])
        have hba : HB v_2 a ∨ v_1 = a → HB x_104 a := fun q => by rw [ex_104, ex_103]; exact (hb_or (by omega) (by omega) (by omega) (by omega)).mpr (q.elim Or.inl (fun z => Or.inr z.symm))
        refine lv_aload_n G0.1 G0.2.1 dX12_turn_18 rfl (lv_at hl 2 rfl) ?_
        obtain ⟨v_105, v_106, v_107, v_108, v_109, v_110, v_111, v_112, v_113, v_114, v_115, v_116, y_117, v_118, v_119, v_120, v_121, v_122, y_123, v_124, y_125, v_126, hr_139, b_127, b_128, b_129, b_130, b_131, b_132, b_133, b_134, b_135, b_136, b_137, b_138⟩ := wg_12 hWF Tu
        have tq_140 := mi_row hr_139 25 rfl
        refine py_get (C := RX12) (T := TX12) (N := 54) (k := 36) (v := .ref (G.2 u 36)) G0 hw in_X12_turn_X12 rfl hr_139 (by decide) (by decide +kernel) rfl dX12_turn_19 ?_
        refine lv_iload_n G0.1 G0.2.1 dX12_turn_22 rfl (lv_at hl 1 rfl) ?_
        refine lv_aload_n G0.1 G0.2.1 dX12_turn_23 rfl (lv_at hl 2 rfl) ?_
        refine lv_aload_n G0.1 G0.2.1 dX12_turn_24 rfl (lv_at hl 2 rfl) ?_
        refine lv_iload_n G0.1 G0.2.1 dX12_turn_25 rfl (lv_at hl 1 rfl) ?_
        refine py_calli hw (va_runV (As := [.int v_1]) (rest := [.ref u, .int v_1, .ref (G.2 u 36)]) G0 (c_X12_nextOf l E G L_j4 f_j4 H_5.size u v_1 hG hWF Tu ⟨by omega, by omega⟩) (cwV 1 G0.2.2.2.2 g_X12_turn_X12_nextOf_385 rfl rfl rfl (by decide +kernel) ⟨(Nat.le_of_ble_eq_true rfl), (Nat.le_of_ble_eq_true rfl)⟩) (py_preV hw (C := RX12) (T := TX12) (N := 54) rfl hr_139) rfl rfl hl.1 rfl (lv_room (Nat.le_of_ble_eq_true rfl)) dX12_turn_26 ⟨(Nat.le_of_ble_eq_true rfl), (Nat.le_of_ble_eq_true rfl)⟩) (fun r_145 L_141 f_142 H_143 locs hp_144 hw => ?_)
        obtain ⟨b_147, en_146, rfl, rfl⟩ := hp_144
        have cn_148 := cl_next hcl hSM (by omega) (by omega) iv0 en_146
        have cn_1482 := cn_148.1
        refine lv_iconst (v := 1) G0.1 G0.2.1 dX12_turn_29 (by decide) ?_
        refine py_calli hw (va_runV (As := [.int r_145, .int 1]) (rest := [.int v_1, .ref (G.2 u 36)]) G0 (c_X12_of l E G L_j4 f_j4 H_143.size u r_145 1 hG hWF Tu ⟨by omega, by omega⟩ ⟨by omega, by omega⟩) (cwV 2 G0.2.2.2.2 g_X12_turn_X12_of_287 rfl rfl rfl (by decide +kernel) ⟨(Nat.le_of_ble_eq_true rfl), (Nat.le_of_ble_eq_true rfl)⟩) (py_preV hw (C := RX12) (T := TX12) (N := 54) rfl hr_139) rfl rfl hl.1 rfl (lv_room (Nat.le_of_ble_eq_true rfl)) dX12_turn_30 ⟨(Nat.le_of_ble_eq_true rfl), (Nat.le_of_ble_eq_true rfl)⟩) (fun r_153 L_149 f_150 H_151 locs hp_152 hw => ?_)
        obtain ⟨en_154, en_155, rfl, rfl⟩ := hp_152
        have en_154 : r_153.toInt = nw f_j4 G u r_145.toInt (1 : Int) := en_154
        have en_155 : ((1 : Int) = 0 → 0 ≤ r_153.toInt ∧ r_153.toInt ≤ 20) ∧ ((1 : Int) = 1 → -1 ≤ r_153.toInt ∧ r_153.toInt ≤ 7) := en_155
        have br_153 := wf_free r_153
        obtain ⟨g_156, ha_157, hi_158⟩ := wf_arr (n := 10) (lo := (-1)) (hi := 7) hWF (wt12_36 hG Tu) (by decide) (fun _ => rfl)
        have rg_159 : vp_in v_1 10 := ti_in (by omega) (by omega)
        refine py_iast G0 hw ha_157 rg_159 dX12_turn_33 (fun f_160 H_161 locs h_162 x_163 hw => ?_)
        have hkw : KP G [59] false f_j4 f_160 := KP.refl.upd hWF x_163 (wt12_36 hG Tu) (Or.inl (by decide))
        have hSM := hSM.kp hG Tu (KP.refl.upd hWF x_163 (wt12_36 hG Tu) (Or.inl (by decide)) : KP G [59] false f_j4 f_160) (by decide)
        have hFK := hFK.same ((x_163 _ (hWF _ (by rw [Tu]; decide)).1 (wf_ne Tu (wt12_36 hG Tu) (by decide))).2)
        have hKP := hKP.upd hWF x_163 (wt12_36 hG Tu) (Or.inl (by decide))
        have hi_164 := wf_inu (k := (v_1 : Int32).toNatClampNeg) (x := r_153) hi_158 (by omega) (by omega)
        have hWF := wf_upd hWF h_162 x_163 (by rw [(wt12_36 hG Tu)]; exact ⟨_, rfl, hi_164⟩)
        have hr_139 := hr_139.ext x_163 (py_ne_arr hr_139 ha_157)
        have tq_165 := mi_row hr_139 25 rfl
        have hTV := iv2.step (by omega) (by omega) ex_103 ex_104 ha_157 h_162 iv1 (en_154.trans cn_148.2.2.2)
        refine lv_aload_n G0.1 G0.2.1 dX12_turn_34 rfl (lv_at hl 2 rfl) ?_
        refine py_get (C := RX12) (T := TX12) (N := 54) (k := 37) (v := .ref (G.2 u 37)) G0 hw in_X12_turn_X12 rfl hr_139 (by decide) (by decide +kernel) rfl dX12_turn_35 ?_
        refine lv_iload_n G0.1 G0.2.1 dX12_turn_38 rfl (lv_at hl 1 rfl) ?_
        refine lv_aload_n G0.1 G0.2.1 dX12_turn_39 rfl (lv_at hl 2 rfl) ?_
        refine lv_aload_n G0.1 G0.2.1 dX12_turn_40 rfl (lv_at hl 2 rfl) ?_
        refine lv_iload_n G0.1 G0.2.1 dX12_turn_41 rfl (lv_at hl 1 rfl) ?_
        refine py_calli hw (va_runV (As := [.int v_1]) (rest := [.ref u, .int v_1, .ref (G.2 u 37)]) G0 (c_X12_nextOf l E G L_j4 f_160 H_161.size u v_1 hG hWF Tu ⟨by omega, by omega⟩) (cwV 1 G0.2.2.2.2 g_X12_turn_X12_nextOf_385 rfl rfl rfl (by decide +kernel) ⟨(Nat.le_of_ble_eq_true rfl), (Nat.le_of_ble_eq_true rfl)⟩) (py_preV hw (C := RX12) (T := TX12) (N := 54) rfl hr_139) rfl rfl hl.1 rfl (lv_room (Nat.le_of_ble_eq_true rfl)) dX12_turn_42 ⟨(Nat.le_of_ble_eq_true rfl), (Nat.le_of_ble_eq_true rfl)⟩) (fun r_170 L_166 f_167 H_168 locs hp_169 hw => ?_)
        obtain ⟨b_172, en_171, rfl, rfl⟩ := hp_169
        have cn_173 := cl_next hcl hSM (by omega) (by omega) iv0 en_171
        have cn_1732 := cn_173.1
        refine lv_iconst (v := 2) G0.1 G0.2.1 dX12_turn_45 (by decide) ?_
        refine py_calli hw (va_runV (As := [.int r_170, .int 2]) (rest := [.int v_1, .ref (G.2 u 37)]) G0 (c_X12_of l E G L_j4 f_160 H_168.size u r_170 2 hG hWF Tu ⟨by omega, by omega⟩ ⟨by omega, by omega⟩) (cwV 2 G0.2.2.2.2 g_X12_turn_X12_of_287 rfl rfl rfl (by decide +kernel) ⟨(Nat.le_of_ble_eq_true rfl), (Nat.le_of_ble_eq_true rfl)⟩) (py_preV hw (C := RX12) (T := TX12) (N := 54) rfl hr_139) rfl rfl hl.1 rfl (lv_room (Nat.le_of_ble_eq_true rfl)) dX12_turn_46 ⟨(Nat.le_of_ble_eq_true rfl), (Nat.le_of_ble_eq_true rfl)⟩) (fun r_178 L_174 f_175 H_176 locs hp_177 hw => ?_)
        obtain ⟨en_179, en_180, rfl, rfl⟩ := hp_177
        have en_179 : r_178.toInt = nw f_160 G u r_170.toInt (2 : Int) := en_179
        have en_180 : ((2 : Int) = 0 → 0 ≤ r_178.toInt ∧ r_178.toInt ≤ 20) ∧ ((2 : Int) = 1 → -1 ≤ r_178.toInt ∧ r_178.toInt ≤ 7) := en_180
        have br_178 := wf_free r_178
        obtain ⟨g_181, ha_182, hi_183⟩ := wf_arr (n := 10) (lo := (-2147483648)) (hi := 2147483647) hWF (wt12_37 hG Tu) (by decide) (fun _ => rfl)
        have rg_184 : vp_in v_1 10 := ti_in (by omega) (by omega)
        refine py_iast G0 hw ha_182 rg_184 dX12_turn_49 (fun f_185 H_186 locs h_187 x_188 hw => ?_)
        have hkw : KP G [60] false f_160 f_185 := KP.refl.upd hWF x_188 (wt12_37 hG Tu) (Or.inl (by decide))
        have hSM := hSM.kp hG Tu (KP.refl.upd hWF x_188 (wt12_37 hG Tu) (Or.inl (by decide)) : KP G [60] false f_160 f_185) (by decide)
        have hFK := hFK.same ((x_188 _ (hWF _ (by rw [Tu]; decide)).1 (wf_ne Tu (wt12_37 hG Tu) (by decide))).2)
        have hKP := hKP.upd hWF x_188 (wt12_37 hG Tu) (Or.inl (by decide))
        have hi_189 := wf_inu (k := (v_1 : Int32).toNatClampNeg) (x := r_178) hi_183 (wf_free r_178).1 (wf_free r_178).2
        have hWF := wf_upd hWF h_187 x_188 (by rw [(wt12_37 hG Tu)]; exact ⟨_, rfl, hi_189⟩)
        have hr_139 := hr_139.ext x_188 (py_ne_arr hr_139 ha_182)
        have tq_190 := mi_row hr_139 25 rfl
        have h_162 := h_162.ext x_188 (wf_ne (wt12_36 hG Tu) (wt12_37 hG Tu) (by decide))
        have hTV := hTV.kp (x_188 (G.2 u 36) (hWF (G.2 u 36) (by rw [(wt12_36 hG Tu)]; decide)).1 (wf_ne (wt12_36 hG Tu) (wt12_37 hG Tu) (by decide))).2
        refine lv_aload_n G0.1 G0.2.1 dX12_turn_50 rfl (lv_at hl 2 rfl) ?_
        refine lv_iload_n G0.1 G0.2.1 dX12_turn_51 rfl (lv_at hl 1 rfl) ?_
        refine py_calli hw (va_runV (As := [.int v_1]) (rest := []) G0 (c_X12_nextOf l E G L_j4 f_185 H_186.size u v_1 hG hWF Tu ⟨by omega, by omega⟩) (cwV 1 G0.2.2.2.2 g_X12_turn_X12_nextOf_385 rfl rfl rfl (by decide +kernel) ⟨(Nat.le_of_ble_eq_true rfl), (Nat.le_of_ble_eq_true rfl)⟩) (py_preV hw (C := RX12) (T := TX12) (N := 54) rfl hr_139) rfl rfl hl.1 rfl (lv_room (Nat.le_of_ble_eq_true rfl)) dX12_turn_52 ⟨(Nat.le_of_ble_eq_true rfl), (Nat.le_of_ble_eq_true rfl)⟩) (fun r_195 L_191 f_192 H_193 locs hp_194 hw => ?_)
        obtain ⟨b_197, en_196, rfl, rfl⟩ := hp_194
        have cn_198 := cl_next hcl hSM (by omega) (by omega) iv0 en_196
        have cn_1982 := cn_198.1
        refine lv_istore_n (lv' := [(3, .int r_195), (2, .int x_104), (0, .ref u), (1, .int a)]) G0.1 G0.2.1 dX12_turn_55 rfl hl (by decide) rfl (fun ls hl => ?_)
        refine lv_goto (tgt := 4) G0.1 G0.2.1 dX12_turn_56 (by decide) ?_
        exact ih_4 (10 - pn x_104 10) (by omega) r_195 x_104 L_j4 f_185 _ _ ls rfl ⟨by omega, by omega⟩ hWF hKP hSM hFK cn_198.2.1 cn_198.2.2.1 hTV (Or.inl (hba iv3)) hw (lv_sub hl [0, 1, 2, 3] rfl)
  exact lo_4 _ a 0 L f _ _ ls rfl ⟨by omega, by omega⟩ hWF hKP hSM hFK hbs hq1 TV.zero (Or.inr rfl) hw (lv_sub hl [0, 1, 2, 3] rfl)
