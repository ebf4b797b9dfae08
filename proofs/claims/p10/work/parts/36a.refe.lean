theorem dX12_items_0 : decode cX12_items 0 = .ok (.iconst 0, 1) := by decide +kernel
theorem dX12_items_1 : decode cX12_items 1 = .ok (.istore 4, 2) := by decide +kernel
theorem dX12_items_3 : decode cX12_items 3 = .ok (.iload 4, 2) := by decide +kernel
theorem dX12_items_5 : decode cX12_items 5 = .ok (.iconst 4, 1) := by decide +kernel
theorem dX12_items_6 : decode cX12_items 6 = .ok (.if_icmp .ge 21, 3) := by decide +kernel
theorem dX12_items_9 : decode cX12_items 9 = .ok (.aload_n 2, 1) := by decide +kernel
theorem dX12_items_10 : decode cX12_items 10 = .ok (.iload_n 3, 1) := by decide +kernel
theorem dX12_items_11 : decode cX12_items 11 = .ok (.iload 4, 2) := by decide +kernel
theorem dX12_items_13 : decode cX12_items 13 = .ok (.iadd, 1) := by decide +kernel
theorem dX12_items_14 : decode cX12_items 14 = .ok (.iload_n 1, 1) := by decide +kernel
theorem dX12_items_15 : decode cX12_items 15 = .ok (.iload 4, 2) := by decide +kernel
theorem dX12_items_17 : decode cX12_items 17 = .ok (.invokestatic 242, 3) := by decide +kernel
theorem dX12_items_20 : decode cX12_items 20 = .ok (.iastore, 1) := by decide +kernel
theorem dX12_items_21 : decode cX12_items 21 = .ok (.iinc 4 1, 3) := by decide +kernel
theorem dX12_items_24 : decode cX12_items 24 = .ok (.goto (-21), 3) := by decide +kernel
theorem dX12_items_27 : decode cX12_items 27 = .ok (.iconst 0, 1) := by decide +kernel
theorem dX12_items_28 : decode cX12_items 28 = .ok (.istore 4, 2) := by decide +kernel
theorem dX12_items_30 : decode cX12_items 30 = .ok (.aload_n 0, 1) := by decide +kernel
theorem dX12_items_31 : decode cX12_items 31 = .ok (.iload_n 1, 1) := by decide +kernel
theorem dX12_items_32 : decode cX12_items 32 = .ok (.invokevirtual 246, 3) := by decide +kernel
theorem dX12_items_35 : decode cX12_items 35 = .ok (.istore 5, 2) := by decide +kernel
theorem dX12_items_37 : decode cX12_items 37 = .ok (.aload_n 0, 1) := by decide +kernel
theorem dX12_items_38 : decode cX12_items 38 = .ok (.getfield 134, 3) := by decide +kernel
theorem dX12_items_41 : decode cX12_items 41 = .ok (.iconst (-1), 1) := by decide +kernel
theorem dX12_items_42 : decode cX12_items 42 = .ok (.if_icmp .ne 82, 3) := by decide +kernel
theorem dX12_items_45 : decode cX12_items 45 = .ok (.iload 5, 2) := by decide +kernel
theorem dX12_items_47 : decode cX12_items 47 = .ok (.iconst (-1), 1) := by decide +kernel
theorem dX12_items_48 : decode cX12_items 48 = .ok (.if_icmp .eq 76, 3) := by decide +kernel
theorem dX12_items_51 : decode cX12_items 51 = .ok (.iload 4, 2) := by decide +kernel
theorem dX12_items_53 : decode cX12_items 53 = .ok (.iload 5, 2) := by decide +kernel
theorem dX12_items_55 : decode cX12_items 55 = .ok (.invokestatic 250, 3) := by decide +kernel
theorem dX12_items_58 : decode cX12_items 58 = .ok (.ifCond .ne 66, 3) := by decide +kernel
theorem dX12_items_61 : decode cX12_items 61 = .ok (.iload 4, 2) := by decide +kernel
theorem dX12_items_63 : decode cX12_items 63 = .ok (.iconst 1, 1) := by decide +kernel
theorem dX12_items_64 : decode cX12_items 64 = .ok (.iload 5, 2) := by decide +kernel
theorem dX12_items_66 : decode cX12_items 66 = .ok (.ishl, 1) := by decide +kernel
theorem dX12_items_67 : decode cX12_items 67 = .ok (.ior, 1) := by decide +kernel
theorem dX12_items_68 : decode cX12_items 68 = .ok (.istore 4, 2) := by decide +kernel
theorem dX12_items_70 : decode cX12_items 70 = .ok (.aload_n 0, 1) := by decide +kernel
theorem dX12_items_71 : decode cX12_items 71 = .ok (.dup, 1) := by decide +kernel
theorem dX12_items_72 : decode cX12_items 72 = .ok (.getfield 127, 3) := by decide +kernel
theorem dX12_items_75 : decode cX12_items 75 = .ok (.iconst 1, 1) := by decide +kernel
theorem dX12_items_76 : decode cX12_items 76 = .ok (.iadd, 1) := by decide +kernel
theorem dX12_items_77 : decode cX12_items 77 = .ok (.putfield 127, 3) := by decide +kernel
theorem dX12_items_80 : decode cX12_items 80 = .ok (.aload_n 2, 1) := by decide +kernel
theorem dX12_items_81 : decode cX12_items 81 = .ok (.iload_n 3, 1) := by decide +kernel
theorem dX12_items_82 : decode cX12_items 82 = .ok (.iload 5, 2) := by decide +kernel
theorem dX12_items_84 : decode cX12_items 84 = .ok (.iadd, 1) := by decide +kernel
theorem dX12_items_85 : decode cX12_items 85 = .ok (.aload_n 0, 1) := by decide +kernel
theorem dX12_items_86 : decode cX12_items 86 = .ok (.iload_n 1, 1) := by decide +kernel
theorem dX12_items_87 : decode cX12_items 87 = .ok (.iload 5, 2) := by decide +kernel
theorem dX12_items_89 : decode cX12_items 89 = .ok (.invokestatic 254, 3) := by decide +kernel
theorem dX12_items_92 : decode cX12_items 92 = .ok (.iload_n 1, 1) := by decide +kernel
theorem dX12_items_93 : decode cX12_items 93 = .ok (.iload 5, 2) := by decide +kernel
theorem dX12_items_95 : decode cX12_items 95 = .ok (.invokestatic 257, 3) := by decide +kernel
theorem dX12_items_98 : decode cX12_items 98 = .ok (.invokevirtual 260, 3) := by decide +kernel
theorem dX12_items_101 : decode cX12_items 101 = .ok (.iastore, 1) := by decide +kernel
theorem dX12_items_102 : decode cX12_items 102 = .ok (.aload_n 0, 1) := by decide +kernel
theorem dX12_items_103 : decode cX12_items 103 = .ok (.getfield 134, 3) := by decide +kernel
theorem dX12_items_106 : decode cX12_items 106 = .ok (.iconst (-1), 1) := by decide +kernel
theorem dX12_items_107 : decode cX12_items 107 = .ok (.if_icmp .ne 11, 3) := by decide +kernel
theorem dX12_items_110 : decode cX12_items 110 = .ok (.aload_n 0, 1) := by decide +kernel
theorem dX12_items_111 : decode cX12_items 111 = .ok (.iload_n 1, 1) := by decide +kernel
theorem dX12_items_112 : decode cX12_items 112 = .ok (.invokevirtual 246, 3) := by decide +kernel
theorem dX12_items_115 : decode cX12_items 115 = .ok (.goto 4, 3) := by decide +kernel
theorem dX12_items_118 : decode cX12_items 118 = .ok (.iconst (-1), 1) := by decide +kernel
theorem dX12_items_119 : decode cX12_items 119 = .ok (.istore 5, 2) := by decide +kernel
theorem dX12_items_121 : decode cX12_items 121 = .ok (.goto (-84), 3) := by decide +kernel
theorem dX12_items_124 : decode cX12_items 124 = .ok (.return_, 1) := by decide +kernel
def w_X12_items : List Cond := .code yX12_items cX12_items 6 none :: ([Cond.methodLink RX12 246 yX12_itemNow, Cond.instanceMethod yX12_itemNow, Cond.selects RX12 yX12_itemNow yX12_itemNow, Cond.initialized RX12, Cond.fieldLink RX12 134 "HeadYearModel" "wrong" "I", Cond.methodLink RX12 250 yX12_has, Cond.static yX12_has, Cond.fieldLink RX12 127 "HeadYearModel" "at" "I", Cond.methodLink RX12 254 yX12_lowest, Cond.static yX12_lowest, Cond.methodLink RX12 257 yX12_highest, Cond.static yX12_highest, Cond.methodLink RX12 260 yX12_number, Cond.instanceMethod yX12_number, Cond.selects RX12 yX12_number yX12_number, Cond.methodLink RX12 242 yX12_usual, Cond.static yX12_usual] ++ (u_ws RX12 TX12 54 ++ (w_X12_itemNow ++ (w_X12_has ++ (w_X12_lowest ++ (w_X12_highest ++ (w_X12_number ++ (w_X12_usual ++ ([])))))))))
theorem in_X12_items_X12 : ∀ w ∈ u_ws RX12 TX12 54, w ∈ w_X12_items := fun _ h => List.mem_cons_of_mem _ (List.mem_append_right _ (List.mem_append_left _ h))
theorem gg_X12_items_X12_itemNow : GoodIn w_X12_items w_X12_itemNow := goodIn_sub (fun _ h => List.mem_cons_of_mem _ (List.mem_append_right _ (List.mem_append_right _ (List.mem_append_left _ h)))) (by decide +kernel)
theorem gg_X12_items_X12_has : GoodIn w_X12_items w_X12_has := goodIn_sub (fun _ h => List.mem_cons_of_mem _ (List.mem_append_right _ (List.mem_append_right _ (List.mem_append_right _ (List.mem_append_left _ h))))) (by decide +kernel)
theorem gg_X12_items_X12_lowest : GoodIn w_X12_items w_X12_lowest := goodIn_sub (fun _ h => List.mem_cons_of_mem _ (List.mem_append_right _ (List.mem_append_right _ (List.mem_append_right _ (List.mem_append_right _ (List.mem_append_left _ h)))))) (by decide +kernel)
theorem gg_X12_items_X12_highest : GoodIn w_X12_items w_X12_highest := goodIn_sub (fun _ h => List.mem_cons_of_mem _ (List.mem_append_right _ (List.mem_append_right _ (List.mem_append_right _ (List.mem_append_right _ (List.mem_append_right _ (List.mem_append_left _ h))))))) (by decide +kernel)
theorem gg_X12_items_X12_number : GoodIn w_X12_items w_X12_number := goodIn_sub (fun _ h => List.mem_cons_of_mem _ (List.mem_append_right _ (List.mem_append_right _ (List.mem_append_right _ (List.mem_append_right _ (List.mem_append_right _ (List.mem_append_right _ (List.mem_append_left _ h)))))))) (by decide +kernel)
theorem gg_X12_items_X12_usual : GoodIn w_X12_items w_X12_usual := goodIn_sub (fun _ h => List.mem_cons_of_mem _ (List.mem_append_right _ (List.mem_append_right _ (List.mem_append_right _ (List.mem_append_right _ (List.mem_append_right _ (List.mem_append_right _ (List.mem_append_right _ (List.mem_append_left _ h))))))))) (by decide +kernel)
theorem g_X12_items_X12_has_250 : GoodIn w_X12_items (va_wsS RX12 250 yX12_has w_X12_has) := goodIn_app (goodIn_of _ (by decide +kernel)) gg_X12_items_X12_has
theorem g_X12_items_X12_highest_257 : GoodIn w_X12_items (va_wsS RX12 257 yX12_highest w_X12_highest) := goodIn_app (goodIn_of _ (by decide +kernel)) gg_X12_items_X12_highest
theorem g_X12_items_X12_itemNow_246 : GoodIn w_X12_items (wsV RX12 246 RX12 yX12_itemNow w_X12_itemNow) := goodIn_app (goodIn_of _ (by decide +kernel)) gg_X12_items_X12_itemNow
theorem g_X12_items_X12_lowest_254 : GoodIn w_X12_items (va_wsS RX12 254 yX12_lowest w_X12_lowest) := goodIn_app (goodIn_of _ (by decide +kernel)) gg_X12_items_X12_lowest
theorem g_X12_items_X12_number_260 : GoodIn w_X12_items (wsV RX12 260 RX12 yX12_number w_X12_number) := goodIn_app (goodIn_of _ (by decide +kernel)) gg_X12_items_X12_number
theorem g_X12_items_X12_usual_242 : GoodIn w_X12_items (va_wsS RX12 242 yX12_usual w_X12_usual) := goodIn_app (goodIn_of _ (by decide +kernel)) gg_X12_items_X12_usual
theorem fk_3_4 {E : py_E} {G : wf_G} {L L1 : List Nat} {f f1 : py_F} {m : Nat} (hWF : WF E G L1 f1) (Tm : G.1 m = 13) (h : FK [3, 4] f f1 m) {v0 : Int32} {v2 : Int32} {v3 : Int32} {v4 : Int32} {v5 : Int32} {v13 : Int32} {v14 : Int32} {v19 : Int32} {v20 : Int32} {v24 : Int32} {v25 : Int32} {v29 : Int32} {v30 : Int64} {v31 : Int32} {v32 : Int32} {v33 : Int32} {v34 : Int32} {v43 : Int32} {v48 : Int64} {v51 : Int32} {v52 : Int64} {v53 : Int32} (hr : py_at L f m (.inr (12, [.int v0, .ref (G.2 m 1), .int v2, .int v3, .int v4, .int v5, .ref (G.2 m 6), .ref (G.2 m 7), .ref (G.2 m 8), .ref (G.2 m 9), .ref (G.2 m 10), .ref (G.2 m 11), .ref (G.2 m 12), .int v13, .int v14, .ref (G.2 m 15), .ref (G.2 m 16), .ref (G.2 m 17), .ref (G.2 m 18), .int v19, .int v20, .ref (G.2 m 21), .ref (G.2 m 22), .ref (G.2 m 23), .int v24, .int v25, .ref (G.2 m 26), .ref (G.2 m 27), .ref (G.2 m 28), .int v29, .long v30, .int v31, .int v32, .int v33, .int v34, .ref (G.2 m 35), .ref (G.2 m 36), .ref (G.2 m 37), .ref (G.2 m 38), .ref (G.2 m 39), .ref (G.2 m 40), .ref (G.2 m 41), .ref (G.2 m 42), .int v43, .ref (G.2 m 44), .ref (G.2 m 45), .ref (G.2 m 46), .ref (G.2 m 47), .long v48, .ref (G.2 m 49), .ref (G.2 m 50), .int v51, .long v52, .int v53]))) : ∃ (w3 : Int32) (w4 : Int32), py_at L1 f1 m (.inr (12, [.int v0, .ref (G.2 m 1), .int v2, .int w3, .int w4, .int v5, .ref (G.2 m 6), .ref (G.2 m 7), .ref (G.2 m 8), .ref (G.2 m 9), .ref (G.2 m 10), .ref (G.2 m 11), .ref (G.2 m 12), .int v13, .int v14, .ref (G.2 m 15), .ref (G.2 m 16), .ref (G.2 m 17), .ref (G.2 m 18), .int v19, .int v20, .ref (G.2 m 21), .ref (G.2 m 22), .ref (G.2 m 23), .int v24, .int v25, .ref (G.2 m 26), .ref (G.2 m 27), .ref (G.2 m 28), .int v29, .long v30, .int v31, .int v32, .int v33, .int v34, .ref (G.2 m 35), .ref (G.2 m 36), .ref (G.2 m 37), .ref (G.2 m 38), .ref (G.2 m 39), .ref (G.2 m 40), .ref (G.2 m 41), .ref (G.2 m 42), .int v43, .ref (G.2 m 44), .ref (G.2 m 45), .ref (G.2 m 46), .ref (G.2 m 47), .long v48, .ref (G.2 m 49), .ref (G.2 m 50), .int v51, .long v52, .int v53])) := by
  obtain ⟨w0, w2, w3, w4, w5, w13, w14, w19, w20, w24, w25, w29, w30, w31, w32, w33, w34, w43, w48, w51, w52, w53, hr1, b2, b13, b14, b19, b20, b24, b25, b29, b31, b43, b51, b53⟩ := wg_12 hWF Tm
  have e0 : w0 = v0 := Value.int.inj (Option.some.inj (show some (Value.int w0) = some (Value.int v0) from fk_i h hr hr1 0 (by decide) (by decide)))
  subst e0
  have e2 : w2 = v2 := Value.int.inj (Option.some.inj (show some (Value.int w2) = some (Value.int v2) from fk_i h hr hr1 2 (by decide) (by decide)))
  subst e2
  have e5 : w5 = v5 := Value.int.inj (Option.some.inj (show some (Value.int w5) = some (Value.int v5) from fk_i h hr hr1 5 (by decide) (by decide)))
  subst e5
  have e13 : w13 = v13 := Value.int.inj (Option.some.inj (show some (Value.int w13) = some (Value.int v13) from fk_i h hr hr1 13 (by decide) (by decide)))
  subst e13
  have e14 : w14 = v14 := Value.int.inj (Option.some.inj (show some (Value.int w14) = some (Value.int v14) from fk_i h hr hr1 14 (by decide) (by decide)))
  subst e14
  have e19 : w19 = v19 := Value.int.inj (Option.some.inj (show some (Value.int w19) = some (Value.int v19) from fk_i h hr hr1 19 (by decide) (by decide)))
  subst e19
  have e20 : w20 = v20 := Value.int.inj (Option.some.inj (show some (Value.int w20) = some (Value.int v20) from fk_i h hr hr1 20 (by decide) (by decide)))
  subst e20
  have e24 : w24 = v24 := Value.int.inj (Option.some.inj (show some (Value.int w24) = some (Value.int v24) from fk_i h hr hr1 24 (by decide) (by decide)))
  subst e24
  have e25 : w25 = v25 := Value.int.inj (Option.some.inj (show some (Value.int w25) = some (Value.int v25) from fk_i h hr hr1 25 (by decide) (by decide)))
  subst e25
  have e29 : w29 = v29 := Value.int.inj (Option.some.inj (show some (Value.int w29) = some (Value.int v29) from fk_i h hr hr1 29 (by decide) (by decide)))
  subst e29
  have e30 : w30 = v30 := Value.long.inj (Option.some.inj (show some (Value.long w30) = some (Value.long v30) from fk_i h hr hr1 30 (by decide) (by decide)))
  subst e30
  have e31 : w31 = v31 := Value.int.inj (Option.some.inj (show some (Value.int w31) = some (Value.int v31) from fk_i h hr hr1 31 (by decide) (by decide)))
  subst e31
  have e32 : w32 = v32 := Value.int.inj (Option.some.inj (show some (Value.int w32) = some (Value.int v32) from fk_i h hr hr1 32 (by decide) (by decide)))
  subst e32
  have e33 : w33 = v33 := Value.int.inj (Option.some.inj (show some (Value.int w33) = some (Value.int v33) from fk_i h hr hr1 33 (by decide) (by decide)))
  subst e33
  have e34 : w34 = v34 := Value.int.inj (Option.some.inj (show some (Value.int w34) = some (Value.int v34) from fk_i h hr hr1 34 (by decide) (by decide)))
  subst e34
  have e43 : w43 = v43 := Value.int.inj (Option.some.inj (show some (Value.int w43) = some (Value.int v43) from fk_i h hr hr1 43 (by decide) (by decide)))
  subst e43
  have e48 : w48 = v48 := Value.long.inj (Option.some.inj (show some (Value.long w48) = some (Value.long v48) from fk_i h hr hr1 48 (by decide) (by decide)))
  subst e48
  have e51 : w51 = v51 := Value.int.inj (Option.some.inj (show some (Value.int w51) = some (Value.int v51) from fk_i h hr hr1 51 (by decide) (by decide)))
  subst e51
  have e52 : w52 = v52 := Value.long.inj (Option.some.inj (show some (Value.long w52) = some (Value.long v52) from fk_i h hr hr1 52 (by decide) (by decide)))
  subst e52
  have e53 : w53 = v53 := Value.int.inj (Option.some.inj (show some (Value.int w53) = some (Value.int v53) from fk_i h hr hr1 53 (by decide) (by decide)))
  subst e53
  exact ⟨w3, w4, hr1⟩
set_option maxHeartbeats 4000000 in
set_option maxRecDepth 100000 in
theorem c_X12_items50 (l : Launch) (E : py_E) (G : wf_G) (L : List Nat) (f : py_F) (sz : Nat) (u : Nat) (q : Nat) (b : Int32) (hG : GT G) (hWF : WF E G L f) (Tu : G.1 u = 13) (Tq : G.1 q = 50) (Bb : (0 ≤ b.toInt ∧ b.toInt ≤ 28)) (hp0 : 0 ≤ mi f u 3 ∧ mi f u 3 ≤ mi f u 2 ∧ mi f u 4 = -1) : Met l yX12_items w_X12_items ({ frames := 3, cells := 0, slots := 0, locals := 64 }) (py_Pc E [.ref u, .int 1, .ref q, .int b] L f sz) (py_Qv E L f sz (fun L1 f1 => (mi f u 3 ≤ mi f1 u 3 ∧ mi f1 u 3 ≤ mi f u 2) ∧ WF E G L1 f1 ∧ KP G [50, 13] false f f1 ∧ FK [3, 4] f f1 u)) 0 0 (va_A (va_pl L f) sz) := by
  refine Met.ofW (cc := cX12_items) (maxL := 6) (ret := none) (by decide) rfl ?_
  intro p e s m args below meth c s₁ B hml hv
  obtain ⟨rfl, rfl, hw⟩ := py_start hv
  have G0 : CallFix p m c cX12_items 6 s _ w_X12_items RX12 := ⟨B.exec, B.bytes, hml, findClass_of_methodNamed B.named, atoms_spec (ws := w_X12_items) B.pre⟩
  have hr := B.returns
  have hlk := B.notSynchronized
  have kcm1 : (-1 : Int32).toInt = -1 := rfl
  have kc0 : (0 : Int32).toInt = 0 := rfl
  have kc1 : (1 : Int32).toInt = 1 := rfl
  have kc4 : (4 : Int32).toInt = 4 := rfl
  have hl := lv_entry ([.ref u, .int 1, .ref q, .int b]) (n := 6) (Nat.le_of_ble_eq_true rfl)
  rw [lg_entry_eq]
  generalize (lg_sl ([.ref u, .int 1, .ref q, .int b]) ++ List.replicate (6 - (lg_sl ([.ref u, .int 1, .ref q, .int b])).length) Slot.unset).toArray = ls at hl ⊢
  have hl : lv_has ls 6 [(0, .ref u), (1, .int 1), (2, .ref q), (3, .int b)] := hl
  have hFK : FK [3, 4] f f u := FK.refl
  have hKP : KP G [50, 13] false f f := KP.refl
  refine lv_iconst (v := 0) G0.1 G0.2.1 dX12_items_0 (by decide) ?_
  refine lv_istore (lv' := [(4, .int 0), (0, .ref u), (1, .int 1), (2, .ref q), (3, .int b)]) G0.1 G0.2.1 dX12_items_1 hl (by decide) rfl (fun ls hl => ?_)
  have lo_3 : ∀ n_3 : Nat, ∀ (v_1 : Int32) (L_j3 : List Nat) (f_j3 : py_F) (H_j3 : Heap) (locs : List Loc) (ls : Array Slot), (2147483647 - v_1.toInt).toNat = n_3 → (0 ≤ v_1.toInt ∧ v_1.toInt ≤ 4) → WF E G L_j3 f_j3 → KP G [50, 13] false f f_j3 → FK [3, 4] f f_j3 u → (mi f_j3 u 3 = mi f u 3 ∧ mi f_j3 u 4 = mi f u 4 ∧ mi f_j3 u 2 = mi f u 2) → py_W E (va_A (va_pl L f) s.heap.size) s L_j3 f_j3 H_j3 locs → lv_has ls 6 [(4, .int v_1), (0, .ref u), (1, .int 1), (2, .ref q), (3, .int b)] → W p l e (headSpec w_X12_items ({ frames := 3, cells := 0, slots := 0, locals := 64 })).room s m ([.ref u, .int 1, .ref q, .int b] : List Value).toArray below meth c H_j3 locs 0 0 (MQ below (py_Qv E L f s.heap.size (fun L1 f1 => (mi f u 3 ≤ mi f1 u 3 ∧ mi f1 u 3 ≤ mi f u 2) ∧ WF E G L1 f1 ∧ KP G [50, 13] false f f1 ∧ FK [3, 4] f f1 u)) ([.ref u, .int 1, .ref q, .int b] : List Value).toArray s 0 0 (va_A (va_pl L f) s.heap.size)) (F0 m 3 ls []) := by
    intro n_3
    induction n_3 using Nat.strongRecOn with
    | _ n_3 ih_3 =>
      intro v_1 L_j3 f_j3 H_j3 locs ls hn_3 bv_1 hWF hKP hFK iv0 hw hl
      refine lv_iload G0.1 G0.2.1 dX12_items_3 (lv_at hl 0 rfl) ?_
      refine lv_iconst (v := 4) G0.1 G0.2.1 dX12_items_5 (by decide) ?_
      refine lv_icmp_ge (tgt := 27) G0.1 G0.2.1 dX12_items_6 (by decide) (fun c_2 => ?_) (fun c_2 => ?_)
      · skip
        have tc_2 := ti_le c_2
        refine lv_iconst (v := 0) G0.1 G0.2.1 dX12_items_27 (by decide) ?_
        refine lv_istore (lv' := [(4, .int 0), (0, .ref u), (1, .int 1), (2, .ref q), (3, .int b)]) G0.1 G0.2.1 dX12_items_28 hl (by decide) rfl (fun ls hl => ?_)
        refine lv_aload_n G0.1 G0.2.1 dX12_items_30 rfl (lv_at hl 1 rfl) ?_
        refine lv_iload_n G0.1 G0.2.1 dX12_items_31 rfl (lv_at hl 2 rfl) ?_
        obtain ⟨v_3, v_4, v_5, v_6, v_7, v_8, v_9, v_10, v_11, v_12, v_13, v_14, y_15, v_16, v_17, v_18, v_19, v_20, y_21, v_22, y_23, v_24, hr_37, b_25, b_26, b_27, b_28, b_29, b_30, b_31, b_32, b_33, b_34, b_35, b_36⟩ := wg_12 hWF Tu
        have tq_38 := mi_row hr_37 2 rfl
        have tq_39 := mi_row hr_37 3 rfl
        have bv_5 := wf_free v_5
        have tq_40 := mi_row hr_37 4 rfl
        have bv_6 := wf_free v_6
        refine py_calli hw (va_runV (As := [.int 1]) (rest := []) G0 (c_X12_itemNow l E G L_j3 f_j3 H_j3.size u 1 hG hWF Tu ⟨by omega, by omega⟩ (show 0 ≤ mi f_j3 u 3 ∧ mi f_j3 u 3 ≤ mi f_j3 u 2 by omega)) (cwV 1 G0.2.2.2.2 g_X12_items_X12_itemNow_246 rfl rfl rfl (by decide +kernel) ⟨(Nat.le_of_ble_eq_true rfl), (Nat.le_of_ble_eq_true rfl)⟩) (py_preV hw (C := RX12) (T := TX12) (N := 54) rfl hr_37) rfl rfl hl.1 rfl (lv_room (Nat.le_of_ble_eq_true rfl)) dX12_items_32 ⟨(Nat.le_of_ble_eq_true rfl), (Nat.le_of_ble_eq_true rfl)⟩) (fun r_45 L_41 f_42 H_43 locs hp_44 hw => ?_)
        obtain ⟨b_48, en_46, en_47, hWF, kp_49, fk_50⟩ := hp_44
        have hFK := hFK.trans fk_50 (by decide)
        have hKP := hKP.trans kp_49 (by decide) (by decide)
        obtain ⟨v_51, hr_52⟩ := fk_3 hWF Tu fk_50 hr_37
        have tq_53 := mi_row hr_52 2 rfl
        have tq_54 := mi_row hr_52 3 rfl
        have bv_51 := wf_free v_51
        have tq_55 := mi_row hr_52 4 rfl
        have bv_6 := wf_free v_6
        refine lv_istore (lv' := [(5, .int r_45), (4, .int 0), (0, .ref u), (1, .int 1), (2, .ref q), (3, .int b)]) G0.1 G0.2.1 dX12_items_35 hl (by decide) rfl (fun ls hl => ?_)
        have lo_37 : ∀ n_37 : Nat, ∀ (v_56 : Int32) (v_57 : Int32) (L_j37 : List Nat) (f_j37 : py_F) (H_j37 : Heap) (locs : List Loc) (ls : Array Slot), (mi f u 2 - mi f_j37 u 3).toNat = n_37 → ((-1) ≤ v_56.toInt ∧ v_56.toInt ≤ 3) → WF E G L_j37 f_j37 → KP G [50, 13] false f f_j37 → FK [3, 4] f f_j37 u → (mi f u 3 ≤ mi f_j37 u 3 ∧ mi f_j37 u 3 ≤ mi f u 2) → (v_56.toInt ≠ -1 → mi f_j37 u 3 < mi f u 2) → (mi f_j37 u 2 = mi f u 2) → py_W E (va_A (va_pl L f) s.heap.size) s L_j37 f_j37 H_j37 locs → lv_has ls 6 [(5, .int v_56), (4, .int v_57), (0, .ref u), (1, .int 1), (2, .ref q), (3, .int b)] → W p l e (headSpec w_X12_items ({ frames := 3, cells := 0, slots := 0, locals := 64 })).room s m ([.ref u, .int 1, .ref q, .int b] : List Value).toArray below meth c H_j37 locs 0 0 (MQ below (py_Qv E L f s.heap.size (fun L1 f1 => (mi f u 3 ≤ mi f1 u 3 ∧ mi f1 u 3 ≤ mi f u 2) ∧ WF E G L1 f1 ∧ KP G [50, 13] false f f1 ∧ FK [3, 4] f f1 u)) ([.ref u, .int 1, .ref q, .int b] : List Value).toArray s 0 0 (va_A (va_pl L f) s.heap.size)) (F0 m 37 ls []) := by
          intro n_37
          induction n_37 using Nat.strongRecOn with
          | _ n_37 ih_37 =>
            intro v_56 v_57 L_j37 f_j37 H_j37 locs ls hn_37 bv_56 hWF hKP hFK iv0 iv1 iv2 hw hl
            refine lv_aload_n G0.1 G0.2.1 dX12_items_37 rfl (lv_at hl 2 rfl) ?_
            obtain ⟨v_58, v_59, v_60, v_61, v_62, v_63, v_64, v_65, v_66, v_67, v_68, v_69, y_70, v_71, v_72, v_73, v_74, v_75, y_76, v_77, y_78, v_79, hr_92, b_80, b_81, b_82, b_83, b_84, b_85, b_86, b_87, b_88, b_89, b_90, b_91⟩ := wg_12 hWF Tu
            have tq_93 := mi_row hr_92 2 rfl
            have tq_94 := mi_row hr_92 3 rfl
            have bv_60 := wf_free v_60
            have tq_95 := mi_row hr_92 4 rfl
            have bv_61 := wf_free v_61
            refine py_get (C := RX12) (T := TX12) (N := 54) (k := 4) (v := .int v_61) G0 hw in_X12_items_X12 rfl hr_92 (by decide) (by decide +kernel) rfl dX12_items_38 ?_
            refine lv_iconst (v := (-1)) G0.1 G0.2.1 dX12_items_41 (by decide) ?_
            refine lv_icmp_ne (tgt := 124) G0.1 G0.2.1 dX12_items_42 (by decide) (fun c_96 => ?_) (fun c_96 => ?_)
            · skip
              have tc_96 := ti_ne c_96
              exact py_vret G0 hr hlk hw ⟨(by first | omega | (intro q; omega)), hWF, hKP, hFK⟩ dX12_items_124
            · skip
              have tc_96 := ti_eq c_96
              refine lv_iload G0.1 G0.2.1 dX12_items_45 (lv_at hl 0 rfl) ?_
              refine lv_iconst (v := (-1)) G0.1 G0.2.1 dX12_items_47 (by decide) ?_
              refine lv_icmp_eq (tgt := 124) G0.1 G0.2.1 dX12_items_48 (by decide) (fun c_97 => ?_) (fun c_97 => ?_)
              · skip
                have tc_97 := ti_eq c_97
                clear iv1
                exact py_vret G0 hr hlk hw ⟨(by first | omega | (intro q; omega)), hWF, hKP, hFK⟩ dX12_items_124
              · skip
                have tc_97 := ti_ne c_97
                replace iv1 := iv1 (by omega)
                refine lv_iload G0.1 G0.2.1 dX12_items_51 (lv_at hl 1 rfl) ?_
                refine lv_iload G0.1 G0.2.1 dX12_items_53 (lv_at hl 0 rfl) ?_
                refine py_calli hw (va_runS (As := [.int v_57, .int v_56]) (rest := []) G0 (c_X12_has l E G L_j37 f_j37 H_j37.size v_57 v_56 hG hWF) (va_cwS 2 G0.2.2.2.2 g_X12_items_X12_has_250 rfl rfl rfl (by decide +kernel) ⟨(Nat.le_of_ble_eq_true rfl), (Nat.le_of_ble_eq_true rfl)⟩) (py_preS hw) rfl rfl hl.1 rfl (lv_room (Nat.le_of_ble_eq_true rfl)) dX12_items_55 ⟨(Nat.le_of_ble_eq_true rfl), (Nat.le_of_ble_eq_true rfl)⟩) (fun r_102 L_98 f_99 H_100 locs hp_101 hw => ?_)
                obtain ⟨b_105, en_103, en_104, rfl, rfl⟩ := hp_101
                refine lv_if_ne (tgt := 124) G0.1 G0.2.1 dX12_items_58 (by decide) (fun c_106 => ?_) (fun c_106 => ?_)
                · skip
                  have tc_106 := ti_ne c_106
                  exact py_vret G0 hr hlk hw ⟨(by first | omega | (intro q; omega)), hWF, hKP, hFK⟩ dX12_items_124
                · skip
                  have tc_106 := ti_eq c_106
                  refine lv_iload G0.1 G0.2.1 dX12_items_61 (lv_at hl 1 rfl) ?_
                  refine lv_iconst (v := 1) G0.1 G0.2.1 dX12_items_63 (by decide) ?_
                  refine lv_iload G0.1 G0.2.1 dX12_items_64 (lv_at hl 0 rfl) ?_
                  refine lv_ishl G0.1 G0.2.1 dX12_items_66 ?_
                  refine lv_topi (fun x_107 ex_107 => ?_)
                  refine lv_ior G0.1 G0.2.1 dX12_items_67 ?_
                  refine lv_topi (fun x_108 ex_108 => ?_)
                  refine lv_istore (lv' := [(4, .int x_108), (5, .int v_56), (0, .ref u), (1, .int 1), (2, .ref q), (3, .int b)]) G0.1 G0.2.1 dX12_items_68 hl (by decide) rfl (fun ls hl => ?_)
                  refine lv_aload_n G0.1 G0.2.1 dX12_items_70 rfl (lv_at hl 2 rfl) ?_
                  refine lv_dup G0.1 G0.2.1 dX12_items_71 rfl ?_
                  refine py_get (C := RX12) (T := TX12) (N := 54) (k := 3) (v := .int v_60) G0 hw in_X12_items_X12 rfl hr_92 (by decide) (by decide +kernel) rfl dX12_items_72 ?_
                  refine lv_iconst (v := 1) G0.1 G0.2.1 dX12_items_75 (by decide) ?_
                  refine lv_iadd G0.1 G0.2.1 dX12_items_76 ?_
                  refine lv_topi (fun x_109 ex_109 => ?_)
                  first | have tx_109 := ti_add ex_109 (by omega -splitDisjunctions) (by omega -splitDisjunctions) | skip
                  refine py_put (C := RX12) (T := TX12) (N := 54) (k := 3) (v := .int x_109) (fs' := [.int v_58, .ref (G.2 u 1), .int v_59, .int x_109, .int v_61, .int v_62, .ref (G.2 u 6), .ref (G.2 u 7), .ref (G.2 u 8), .ref (G.2 u 9), .ref (G.2 u 10), .ref (G.2 u 11), .ref (G.2 u 12), .int v_63, .int v_64, .ref (G.2 u 15), .ref (G.2 u 16), .ref (G.2 u 17), .ref (G.2 u 18), .int v_65, .int v_66, .ref (G.2 u 21), .ref (G.2 u 22), .ref (G.2 u 23), .int v_67, .int v_68, .ref (G.2 u 26), .ref (G.2 u 27), .ref (G.2 u 28), .int v_69, .long y_70, .int v_71, .int v_72, .int v_73, .int v_74, .ref (G.2 u 35), .ref (G.2 u 36), .ref (G.2 u 37), .ref (G.2 u 38), .ref (G.2 u 39), .ref (G.2 u 40), .ref (G.2 u 41), .ref (G.2 u 42), .int v_75, .ref (G.2 u 44), .ref (G.2 u 45), .ref (G.2 u 46), .ref (G.2 u 47), .long y_76, .ref (G.2 u 49), .ref (G.2 u 50), .int v_77, .long y_78, .int v_79]) (ty0 := tyX12) G0 hw tyX12_ok nmX12 in_X12_items_X12 rfl hr_92 (by decide) (by decide +kernel) rfl rfl rfl rfl (Nat.le_of_ble_eq_true rfl) rfl dX12_items_77 (fun f_110 H_111 locs h_112 x_113 hw => ?_)
                  have hFK := hFK.put hr_92 h_112 3 (by decide) rfl
                  have hKP := hKP.upd hWF x_113 Tu (Or.inl (by decide))
                  have hWF := wf_upd hWF h_112 x_113 (by rw [Tu]; exact ⟨v_58, v_59, x_109, v_61, v_62, v_63, v_64, v_65, v_66, v_67, v_68, v_69, y_70, v_71, v_72, v_73, v_74, v_75, y_76, v_77, y_78, v_79, rfl, ⟨by omega, by omega⟩, ⟨by omega, by omega⟩, ⟨by omega, by omega⟩, ⟨by omega, by omega⟩, ⟨by omega, by omega⟩, ⟨by omega, by omega⟩, ⟨by omega, by omega⟩, ⟨by omega, by omega⟩, ⟨by omega, by omega⟩, ⟨by omega, by omega⟩, ⟨by omega, by omega⟩, ⟨by omega, by omega⟩⟩)
                  have tq_114 := mi_row h_112 2 rfl
                  have tq_115 := mi_row h_112 3 rfl
                  have bx_109 := wf_free x_109
                  have tq_116 := mi_row h_112 4 rfl
                  have bv_61 := wf_free v_61
                  refine lv_aload_n G0.1 G0.2.1 dX12_items_80 rfl (lv_at hl 4 rfl) ?_
                  refine lv_iload_n G0.1 G0.2.1 dX12_items_81 rfl (lv_at hl 5 rfl) ?_
                  refine lv_iload G0.1 G0.2.1 dX12_items_82 (lv_at hl 1 rfl) ?_
                  refine lv_iadd G0.1 G0.2.1 dX12_items_84 ?_
                  refine lv_topi (fun x_117 ex_117 => ?_)
                  first | have tx_117 := ti_add ex_117 (by omega -splitDisjunctions) (by omega -splitDisjunctions) | skip
                  refine lv_aload_n G0.1 G0.2.1 dX12_items_85 rfl (lv_at hl 2 rfl) ?_
                  refine lv_iload_n G0.1 G0.2.1 dX12_items_86 rfl (lv_at hl 3 rfl) ?_
                  refine lv_iload G0.1 G0.2.1 dX12_items_87 (lv_at hl 1 rfl) ?_
                  refine py_calli hw (va_runS (As := [.int 1, .int v_56]) (rest := [.ref u, .int x_117, .ref q]) G0 (c_X12_lowest l E G L_j37 f_110 H_111.size 1 v_56 hG hWF) (va_cwS 2 G0.2.2.2.2 g_X12_items_X12_lowest_254 rfl rfl rfl (by decide +kernel) ⟨(Nat.le_of_ble_eq_true rfl), (Nat.le_of_ble_eq_true rfl)⟩) (py_preS hw) rfl rfl hl.1 rfl (lv_room (Nat.le_of_ble_eq_true rfl)) dX12_items_89 ⟨(Nat.le_of_ble_eq_true rfl), (Nat.le_of_ble_eq_true rfl)⟩) (fun r_122 L_118 f_119 H_120 locs hp_121 hw => ?_)
                  obtain ⟨en_123, rfl, rfl⟩ := hp_121
                  have br_122 := wf_free r_122
                  refine lv_iload_n G0.1 G0.2.1 dX12_items_92 rfl (lv_at hl 3 rfl) ?_
                  refine lv_iload G0.1 G0.2.1 dX12_items_93 (lv_at hl 1 rfl) ?_
                  refine py_calli hw (va_runS (As := [.int 1, .int v_56]) (rest := [.int r_122, .ref u, .int x_117, .ref q]) G0 (c_X12_highest l E G L_j37 f_110 H_120.size 1 v_56 hG hWF) (va_cwS 2 G0.2.2.2.2 g_X12_items_X12_highest_257 rfl rfl rfl (by decide +kernel) ⟨(Nat.le_of_ble_eq_true rfl), (Nat.le_of_ble_eq_true rfl)⟩) (py_preS hw) rfl rfl hl.1 rfl (lv_room (Nat.le_of_ble_eq_true rfl)) dX12_items_95 ⟨(Nat.le_of_ble_eq_true rfl), (Nat.le_of_ble_eq_true rfl)⟩) (fun r_128 L_124 f_125 H_126 locs hp_127 hw => ?_)
                  obtain ⟨en_129, en_130, rfl, rfl⟩ := hp_127
                  clear en_129
                  clear en_130
                  have br_128 := wf_free r_128
                  refine py_calli hw (va_runV (As := [.int r_122, .int r_128]) (rest := [.int x_117, .ref q]) G0 (c_X12_number l E G L_j37 f_110 H_126.size u r_122 r_128 hG hWF Tu (show 0 ≤ mi f_110 u 3 ∧ mi f_110 u 3 ≤ mi f_110 u 2 by omega)) (cwV 2 G0.2.2.2.2 g_X12_items_X12_number_260 rfl rfl rfl (by decide +kernel) ⟨(Nat.le_of_ble_eq_true rfl), (Nat.le_of_ble_eq_true rfl)⟩) (py_preV hw (C := RX12) (T := TX12) (N := 54) rfl h_112) rfl rfl hl.1 rfl (lv_room (Nat.le_of_ble_eq_true rfl)) dX12_items_98 ⟨(Nat.le_of_ble_eq_true rfl), (Nat.le_of_ble_eq_true rfl)⟩) (fun r_135 L_131 f_132 H_133 locs hp_134 hw => ?_)
                  obtain ⟨en_136, en_137, en_138, hWF, kp_139, fk_140⟩ := hp_134
                  have hFK := hFK.trans fk_140 (by decide)
                  have hKP := hKP.trans kp_139 (by decide) (by decide)
                  obtain ⟨v_141, v_142, hr_143⟩ := fk_3_4 hWF Tu fk_140 h_112
                  have tq_144 := mi_row hr_143 2 rfl
                  have tq_145 := mi_row hr_143 3 rfl
                  have bv_141 := wf_free v_141
                  have tq_146 := mi_row hr_143 4 rfl
                  have bv_142 := wf_free v_142
                  have br_135 := wf_free r_135
                  obtain ⟨g_147, ha_148, hi_149⟩ := wf_arr (n := 32) (lo := (-2147483648)) (hi := 2147483647) hWF Tq (by decide) (fun _ => rfl)
                  have rg_150 : vp_in x_117 32 := ti_in (by omega) (by omega)
                  refine py_iast G0 hw ha_148 rg_150 dX12_items_101 (fun f_151 H_152 locs h_153 x_154 hw => ?_)
                  have hFK := hFK.same ((x_154 _ (hWF _ (by rw [Tu]; decide)).1 (wf_ne Tu Tq (by decide))).2)
                  have hKP := hKP.upd hWF x_154 Tq (Or.inl (by decide))
                  have hi_155 := wf_inu (k := (x_117 : Int32).toNatClampNeg) (x := r_135) hi_149 (wf_free r_135).1 (wf_free r_135).2
                  have hWF := wf_upd hWF h_153 x_154 (by rw [Tq]; exact ⟨_, rfl, hi_155⟩)
                  have hr_143 := hr_143.ext x_154 (py_ne_arr hr_143 ha_148)
                  have tq_156 := mi_row hr_143 2 rfl
                  have tq_157 := mi_row hr_143 3 rfl
                  have bv_141 := wf_free v_141
                  have tq_158 := mi_row hr_143 4 rfl
                  have bv_142 := wf_free v_142
                  refine lv_aload_n G0.1 G0.2.1 dX12_items_102 rfl (lv_at hl 2 rfl) ?_
                  refine py_get (C := RX12) (T := TX12) (N := 54) (k := 4) (v := .int v_142) G0 hw in_X12_items_X12 rfl hr_143 (by decide) (by decide +kernel) rfl dX12_items_103 ?_
                  refine lv_iconst (v := (-1)) G0.1 G0.2.1 dX12_items_106 (by decide) ?_
                  refine lv_icmp_ne (tgt := 118) G0.1 G0.2.1 dX12_items_107 (by decide) (fun c_159 => ?_) (fun c_159 => ?_)
                  · skip
                    have tc_159 := ti_ne c_159
                    clear en_138
                    refine lv_iconst (v := (-1)) G0.1 G0.2.1 dX12_items_118 (by decide) ?_
                    refine lv_istore (lv' := [(5, .int (-1)), (4, .int x_108), (0, .ref u), (1, .int 1), (2, .ref q), (3, .int b)]) G0.1 G0.2.1 dX12_items_119 hl (by decide) rfl (fun ls hl => ?_)
                    refine lv_goto (tgt := 37) G0.1 G0.2.1 dX12_items_121 (by decide) ?_
                    exact ih_37 ((mi f u 2 - mi f_151 u 3).toNat) (by omega) (-1) x_108 L_131 f_151 _ _ ls rfl ⟨by omega, by omega⟩ hWF hKP hFK (by first | omega | (intros; omega)) (by first | omega | (intros; omega)) (by first | omega | (intros; omega)) hw (lv_sub hl [0, 1, 2, 3, 4, 5] rfl)
                  · skip
                    have tc_159 := ti_eq c_159
                    replace en_138 := en_138 (by omega)
                    refine lv_aload_n G0.1 G0.2.1 dX12_items_110 rfl (lv_at hl 2 rfl) ?_
                    refine lv_iload_n G0.1 G0.2.1 dX12_items_111 rfl (lv_at hl 3 rfl) ?_
                    refine py_calli hw (va_runV (As := [.int 1]) (rest := []) G0 (c_X12_itemNow l E G L_131 f_151 H_152.size u 1 hG hWF Tu ⟨by omega, by omega⟩ (show 0 ≤ mi f_151 u 3 ∧ mi f_151 u 3 ≤ mi f_151 u 2 by omega)) (cwV 1 G0.2.2.2.2 g_X12_items_X12_itemNow_246 rfl rfl rfl (by decide +kernel) ⟨(Nat.le_of_ble_eq_true rfl), (Nat.le_of_ble_eq_true rfl)⟩) (py_preV hw (C := RX12) (T := TX12) (N := 54) rfl hr_143) rfl rfl hl.1 rfl (lv_room (Nat.le_of_ble_eq_true rfl)) dX12_items_112 ⟨(Nat.le_of_ble_eq_true rfl), (Nat.le_of_ble_eq_true rfl)⟩) (fun r_164 L_160 f_161 H_162 locs hp_163 hw => ?_)
                    obtain ⟨b_167, en_165, en_166, hWF, kp_168, fk_169⟩ := hp_163
                    have hFK := hFK.trans fk_169 (by decide)
                    have hKP := hKP.trans kp_168 (by decide) (by decide)
                    obtain ⟨v_170, hr_171⟩ := fk_3 hWF Tu fk_169 hr_143
                    have tq_172 := mi_row hr_171 2 rfl
                    have tq_173 := mi_row hr_171 3 rfl
                    have bv_170 := wf_free v_170
                    have tq_174 := mi_row hr_171 4 rfl
                    have bv_142 := wf_free v_142
                    have h_153 := kp_at kp_168 hWF Tq (by decide) (by decide) (by decide) h_153
                    refine lv_goto (tgt := 119) G0.1 G0.2.1 dX12_items_115 (by decide) ?_
                    refine lv_istore (lv' := [(5, .int r_164), (4, .int x_108), (0, .ref u), (1, .int 1), (2, .ref q), (3, .int b)]) G0.1 G0.2.1 dX12_items_119 hl (by decide) rfl (fun ls hl => ?_)
                    refine lv_goto (tgt := 37) G0.1 G0.2.1 dX12_items_121 (by decide) ?_
                    exact ih_37 ((mi f u 2 - mi f_161 u 3).toNat) (by omega) r_164 x_108 L_160 f_161 _ _ ls rfl ⟨by omega, by omega⟩ hWF hKP hFK (by first | omega | (intros; omega)) (by first | omega | (intros; omega)) (by first | omega | (intros; omega)) hw (lv_sub hl [0, 1, 2, 3, 4, 5] rfl)
        exact lo_37 _ r_45 0 L_41 f_42 _ _ ls rfl ⟨by omega, by omega⟩ hWF hKP hFK (by first | omega | (intros; omega)) (by first | omega | (intros; omega)) (by first | omega | (intros; omega)) hw (lv_sub hl [0, 1, 2, 3, 4, 5] rfl)
      · skip
        have tc_2 := ti_nle c_2
        refine lv_aload_n G0.1 G0.2.1 dX12_items_9 rfl (lv_at hl 3 rfl) ?_
        refine lv_iload_n G0.1 G0.2.1 dX12_items_10 rfl (lv_at hl 4 rfl) ?_
        refine lv_iload G0.1 G0.2.1 dX12_items_11 (lv_at hl 0 rfl) ?_
        refine lv_iadd G0.1 G0.2.1 dX12_items_13 ?_
        refine lv_topi (fun x_175 ex_175 => ?_)
        first | have tx_175 := ti_add ex_175 (by omega -splitDisjunctions) (by omega -splitDisjunctions) | skip
        refine lv_iload_n G0.1 G0.2.1 dX12_items_14 rfl (lv_at hl 2 rfl) ?_
        refine lv_iload G0.1 G0.2.1 dX12_items_15 (lv_at hl 0 rfl) ?_
        refine py_calli hw (va_runS (As := [.int 1, .int v_1]) (rest := [.int x_175, .ref q]) G0 (c_X12_usual l E G L_j3 f_j3 H_j3.size 1 v_1 hG hWF) (va_cwS 2 G0.2.2.2.2 g_X12_items_X12_usual_242 rfl rfl rfl (by decide +kernel) ⟨(Nat.le_of_ble_eq_true rfl), (Nat.le_of_ble_eq_true rfl)⟩) (py_preS hw) rfl rfl hl.1 rfl (lv_room (Nat.le_of_ble_eq_true rfl)) dX12_items_17 ⟨(Nat.le_of_ble_eq_true rfl), (Nat.le_of_ble_eq_true rfl)⟩) (fun r_180 L_176 f_177 H_178 locs hp_179 hw => ?_)
        obtain ⟨en_181, en_182, rfl, rfl⟩ := hp_179
        clear en_181
        clear en_182
        have br_180 := wf_free r_180
        obtain ⟨g_183, ha_184, hi_185⟩ := wf_arr (n := 32) (lo := (-2147483648)) (hi := 2147483647) hWF Tq (by decide) (fun _ => rfl)
        have rg_186 : vp_in x_175 32 := ti_in (by omega) (by omega)
        refine py_iast G0 hw ha_184 rg_186 dX12_items_20 (fun f_187 H_188 locs h_189 x_190 hw => ?_)
        have hFK := hFK.same ((x_190 _ (hWF _ (by rw [Tu]; decide)).1 (wf_ne Tu Tq (by decide))).2)
        have mk_191 := mi_kp (f := f_j3) (f1 := f_187) (x_190 u (hWF u (by rw [Tu]; decide)).1 (wf_ne Tu Tq (by decide))).2 2
        have mk_192 := mi_kp (f := f_j3) (f1 := f_187) (x_190 u (hWF u (by rw [Tu]; decide)).1 (wf_ne Tu Tq (by decide))).2 3
        have mk_193 := mi_kp (f := f_j3) (f1 := f_187) (x_190 u (hWF u (by rw [Tu]; decide)).1 (wf_ne Tu Tq (by decide))).2 4
        have hKP := hKP.upd hWF x_190 Tq (Or.inl (by decide))
        have hi_194 := wf_inu (k := (x_175 : Int32).toNatClampNeg) (x := r_180) hi_185 (wf_free r_180).1 (wf_free r_180).2
        have hWF := wf_upd hWF h_189 x_190 (by rw [Tq]; exact ⟨_, rfl, hi_194⟩)
        obtain ⟨x_195, ex_195⟩ : ∃ y : Int32, y = v_1 + 1 := ⟨_, rfl⟩
        first | have tx_195 := ti_add ex_195 (by omega -splitDisjunctions) (by omega -splitDisjunctions) | skip
        refine lv_iinc (v := x_195) (lv' := [(4, .int x_195), (0, .ref u), (1, .int 1), (2, .ref q), (3, .int b)]) G0.1 G0.2.1 dX12_items_21 hl (k := 0) rfl (show _ + (1 : Int32) = _ from ex_195.symm) (by decide) rfl (fun ls hl => ?_)
        refine lv_goto (tgt := 3) G0.1 G0.2.1 dX12_items_24 (by decide) ?_
        exact ih_3 ((2147483647 - x_195.toInt).toNat) (by omega) x_195 L_j3 f_187 _ _ ls rfl ⟨by omega, by omega⟩ hWF hKP hFK (by first | omega | (intros; omega)) hw (lv_sub hl [0, 1, 2, 3, 4] rfl)
  exact lo_3 _ 0 L f _ _ ls rfl ⟨by omega, by omega⟩ hWF hKP hFK (by first | omega | (intros; omega)) hw (lv_sub hl [0, 1, 2, 3, 4] rfl)
