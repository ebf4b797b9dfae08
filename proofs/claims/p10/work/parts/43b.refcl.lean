set_option maxHeartbeats 4000000 in
set_option maxRecDepth 100000 in
theorem ol_X12_clause_127 {p : Program} {l : Launch} {e : Env} {s : State} {m : MethodId} {below : List Frame} {meth : Method} {c : Code} {E : py_E} {G : wf_G} {L : List Nat} {f : py_F} (hG : GT G) (u : Nat) (Tu : G.1 u = 13) (G0 : CallFix p m c cX12_clause 3 s ([.ref u] : List Value).toArray w_X12_clause RX12) (hr : meth.sig.returnType = none) (hlk : meth.locks = false) (x_47 : Int32) (hk :  x_47.toInt = (90 * mi f u 14 + clv f G u)) (hcd : 0 ≤ cdv f G u ∧ cdv f G u ≤ 340) (hck : 0 ≤ clv f G u ∧ clv f G u ≤ 90) (hp0 : mi f u 4 = -1 ∧ mi f u 5 = 0 ∧ 0 ≤ mi f u 3 ∧ mi f u 3 ≤ mi f u 2 ∧ cdv f G u ≤ mi f u 3 ∧ 2 * clv f G u ≤ mi f u 3) (h14 : (0 ≤ mi f u 14 ∧ mi f u 14 ≤ 4) ∧ 0 ≤ mi f u 2 ∧ mi f u 2 ≤ 160) : ∀ (v_193 : Int32) (L_j127 : List Nat) (f_j127 : py_F) (H_j127 : Heap) (locs : List Loc) (ls : Array Slot), (0 ≤ v_193.toInt ∧ v_193.toInt ≤ 1) → WF E G L_j127 f_j127 → KP G [41, 42, 43, 44, 45, 46, 47, 13] false f f_j127 → AX f f_j127 (G.2 u 9) (mi f u 14) → AX f f_j127 (G.2 u 10) (90 * mi f u 14 + clv f G u) → AX f f_j127 (G.2 u 11) (90 * mi f u 14 + clv f G u) → AX f f_j127 (G.2 u 12) (90 * mi f u 14 + clv f G u) → FK [3, 4, 5] f f_j127 u → TR f f_j127 G u (80) 0 0 → arz f_j127 (G.2 u 10) (90 * mi f u 14 + clv f G u) = cdv f G u → (mi f u 3 + 2 ≤ mi f_j127 u 3 ∧ mi f_j127 u 3 ≤ 162 ∧ mi f_j127 u 4 = -1) → (cdv f_j127 G u = cdv f G u ∧ clv f_j127 G u = clv f G u ∧ mi f_j127 u 14 = mi f u 14) → (mi f_j127 u 5 = 0 ∧ mi f_j127 u 2 = mi f u 2 ∧ mi f_j127 u 3 ≤ mi f u 2) → py_W E (va_A (va_pl L f) s.heap.size) s L_j127 f_j127 H_j127 locs → lv_has ls 3 [(1, .int x_47), (0, .ref u)] → W p l e (headSpec w_X12_clause ({ frames := 67, cells := 0, slots := 0, locals := 3680 })).room s m ([.ref u] : List Value).toArray below meth c H_j127 locs 0 0 (MQ below (py_Qv E L f s.heap.size (fun L1 f1 => (mi f u 3 + 2 ≤ mi f1 u 3 ∧ cdv f1 G u ≤ mi f1 u 3 ∧ mi f1 u 3 ≤ 170) ∧ (mi f1 u 4 = -1 → mi f1 u 5 = 0 ∧ mi f1 u 3 ≤ mi f u 2 ∧ clv f1 G u = clv f G u + 1) ∧ (clv f1 G u = clv f G u ∨ clv f1 G u = clv f G u + 1) ∧ (CX f f1 G u) ∧ (mi f1 u 4 = -1 → CO f1 G u (mi f u 14) (90 * mi f u 14 + clv f G u) ∧ arz f1 (G.2 u 12) (90 * mi f u 14 + clv f G u) ≤ cdv f1 G u) ∧ WF E G L1 f1 ∧ KP G [41, 42, 43, 44, 45, 46, 47, 13] false f f1 ∧ FK [3, 4, 5] f f1 u)) ([.ref u] : List Value).toArray s 0 0 (va_A (va_pl L f) s.heap.size)) (F0 m 127 ls [.int v_193]) := by
  have kcm1 : (-1 : Int32).toInt = -1 := rfl
  have kc0 : (0 : Int32).toInt = 0 := rfl
  have kc1 : (1 : Int32).toInt = 1 := rfl
  have kc33 : (33 : Int32).toInt = 33 := rfl
  have kc63 : (63 : Int32).toInt = 63 := rfl
  have kc90 : (90 : Int32).toInt = 90 := rfl
  intro v_193 L_j127 f_j127 H_j127 locs ls bv_193 hWF hKP hX9 hX10 hX11 hX12 hFK hTR hV10 jv0 jv1 jv2 hw hl
  refine lv_istore_n (lv' := [(2, .int v_193), (1, .int x_47), (0, .ref u)]) G0.1 G0.2.1 dX12_clause_127 rfl hl (by decide) rfl (fun ls hl => ?_)
  refine lv_iload_n G0.1 G0.2.1 dX12_clause_128 rfl (lv_at hl 0 rfl) ?_
  have jn_183 := ol_X12_clause_183 (l := l) (e := e) (below := below) (E := E) (L := L) (f := f) hG u Tu G0 hr hlk x_47 (by omega) hcd hck hp0 ⟨⟨by omega, by omega⟩, by omega, by omega⟩
  refine lv_if_eq (tgt := 139) G0.1 G0.2.1 dX12_clause_129 (by decide) (fun c_463 => ?_) (fun c_463 => ?_)
  · skip
    have tc_463 := ti_eq c_463
    refine lv_aload_n G0.1 G0.2.1 dX12_clause_139 rfl (lv_at hl 2 rfl) ?_
    obtain ⟨v_464, v_465, v_466, v_467, v_468, v_469, v_470, v_471, v_472, v_473, v_474, v_475, y_476, v_477, v_478, v_479, v_480, v_481, y_482, v_483, y_484, v_485, hr_498, b_486, b_487, b_488, b_489, b_490, b_491, b_492, b_493, b_494, b_495, b_496, b_497⟩ := wg_12 hWF Tu
    have tq_499 := mi_row hr_498 2 rfl
    have tq_500 := mi_row hr_498 3 rfl
    have bv_466 := wf_free v_466
    have tq_501 := mi_row hr_498 4 rfl
    have bv_467 := wf_free v_467
    have tq_502 := mi_row hr_498 5 rfl
    have bv_468 := wf_free v_468
    have tq_503 := mi_row hr_498 14 rfl
    refine py_callv hw (va_runV (As := []) (rest := []) G0 (rq_sum l E G hG L_j127 f_j127 H_j127.size u hWF Tu (show mi f_j127 u 4 = -1 ∧ 0 ≤ mi f_j127 u 5 ∧ mi f_j127 u 5 ≤ 6 ∧ 0 ≤ mi f_j127 u 3 ∧ mi f_j127 u 3 ≤ mi f_j127 u 2 ∧ cdv f_j127 G u ≤ mi f_j127 u 3 by omega)) (cwV 0 G0.2.2.2.2 g_X12_clause_X12_sum_167 rfl rfl rfl (by decide +kernel) ⟨(Nat.le_of_ble_eq_true rfl), (Nat.le_of_ble_eq_true rfl)⟩) (py_preV hw (C := RX12) (T := TX12) (N := 54) rfl hr_498) rfl rfl hl.1 rfl (lv_room (Nat.le_of_ble_eq_true rfl)) dX12_clause_140 ⟨(Nat.le_of_ble_eq_true rfl), (Nat.le_of_ble_eq_true rfl)⟩) (fun L_504 f_505 H_506 locs hp_507 hw => ?_)
    obtain ⟨en_509, en_510, en_511, hWF, kp_512, fk_513⟩ := hp_507
    have hX9 := hX9.same (kp_f kp_512 (wt12_9 hG Tu) (by decide) (by decide) (fun _ => by decide))
    have hX10 := hX10.same (kp_f kp_512 (wt12_10 hG Tu) (by decide) (by decide) (fun _ => by decide))
    have hX11 := hX11.same (kp_f kp_512 (wt12_11 hG Tu) (by decide) (by decide) (fun _ => by decide))
    have hX12 := hX12.same (kp_f kp_512 (wt12_12 hG Tu) (by decide) (by decide) (fun _ => by decide))
    have hV10 := (arz_kp (kp_f kp_512 (wt12_10 hG Tu) (by decide) (by decide) (fun _ => by decide)) _).trans hV10
    have kq_514 := clv_k hG Tu kp_512 fk_513 (by decide)
    have hFK := hFK.trans fk_513 (by decide)
    have hKP := hKP.trans kp_512 (by decide) (by decide)
    obtain ⟨v_515, v_516, v_517, hr_518⟩ := fk_3_4_5 hWF Tu fk_513 hr_498
    have tq_519 := mi_row hr_518 2 rfl
    have tq_520 := mi_row hr_518 3 rfl
    have bv_515 := wf_free v_515
    have tq_521 := mi_row hr_518 4 rfl
    have bv_516 := wf_free v_516
    have tq_522 := mi_row hr_518 5 rfl
    have bv_517 := wf_free v_517
    have tq_523 := mi_row hr_518 14 rfl
    have hTR : TR f f_505 G u (80) 0 1 := hTR.trans (en_511.lift (b := 0) (by omega) (by omega) (by omega) (by omega)) (fun q => by omega)
    refine lv_aload_n G0.1 G0.2.1 dX12_clause_143 rfl (lv_at hl 2 rfl) ?_
    refine py_get (C := RX12) (T := TX12) (N := 54) (k := 4) (v := .int v_516) G0 hw in_X12_clause_X12 rfl hr_518 (by decide) (by decide +kernel) rfl dX12_clause_144 ?_
    refine lv_iconst (v := (-1)) G0.1 G0.2.1 dX12_clause_147 (by decide) ?_
    refine lv_icmp_ne (tgt := 165) G0.1 G0.2.1 dX12_clause_148 (by decide) (fun c_524 => ?_) (fun c_524 => ?_)
    · skip
      have tc_524 := ti_ne c_524
      clear en_510
      refine lv_iconst (v := 0) G0.1 G0.2.1 dX12_clause_165 (by decide) ?_
      refine lv_istore_n (lv' := [(2, .int 0), (1, .int x_47), (0, .ref u)]) G0.1 G0.2.1 dX12_clause_166 rfl hl (by decide) rfl (fun ls hl => ?_)
      refine lv_iload_n G0.1 G0.2.1 dX12_clause_167 rfl (lv_at hl 0 rfl) ?_
      refine lv_if_eq (tgt := 183) G0.1 G0.2.1 dX12_clause_168 (by decide) (fun c_525 => ?_) (fun c_525 => ?_)
      · skip
        have tc_525 := ti_eq c_525
        exact jn_183 0 L_504 f_505 _ _ ls hWF hKP hX9 hX10 hX11 hX12 hFK hTR hV10 (by first | omega | (intros; omega)) (by first | omega | (intros; omega)) (by first | omega | (intros; omega)) hw (lv_sub hl [0, 1, 2] rfl)
      · skip
        exact absurd c_525 (by decide)
    · skip
      have tc_524 := ti_eq c_524
      replace en_510 := en_510 (by omega)
      refine lv_aload_n G0.1 G0.2.1 dX12_clause_151 rfl (lv_at hl 2 rfl) ?_
      refine py_calli hw (va_runV (As := []) (rest := []) G0 (c_X12_look l E G L_504 f_505 H_506.size u hG hWF Tu (show 0 ≤ mi f_505 u 3 ∧ mi f_505 u 3 ≤ mi f_505 u 2 by omega)) (cwV 0 G0.2.2.2.2 g_X12_clause_X12_look_146 rfl rfl rfl (by decide +kernel) ⟨(Nat.le_of_ble_eq_true rfl), (Nat.le_of_ble_eq_true rfl)⟩) (py_preV hw (C := RX12) (T := TX12) (N := 54) rfl hr_518) rfl rfl hl.1 rfl (lv_room (Nat.le_of_ble_eq_true rfl)) dX12_clause_152 ⟨(Nat.le_of_ble_eq_true rfl), (Nat.le_of_ble_eq_true rfl)⟩) (fun r_530 L_526 f_527 H_528 locs hp_529 hw => ?_)
      obtain ⟨en_531, en_532, en_533, hWF, kp_534, fk_535⟩ := hp_529
      have hX9 := hX9.same (kp_f kp_534 (wt12_9 hG Tu) (by decide) (by decide) (fun _ => by decide))
      have hX10 := hX10.same (kp_f kp_534 (wt12_10 hG Tu) (by decide) (by decide) (fun _ => by decide))
      have hX11 := hX11.same (kp_f kp_534 (wt12_11 hG Tu) (by decide) (by decide) (fun _ => by decide))
      have hX12 := hX12.same (kp_f kp_534 (wt12_12 hG Tu) (by decide) (by decide) (fun _ => by decide))
      have hV10 := (arz_kp (kp_f kp_534 (wt12_10 hG Tu) (by decide) (by decide) (fun _ => by decide)) _).trans hV10
      have cq_536 := cdv_k hG Tu kp_534 fk_535 (by decide)
      have kq_537 := clv_k hG Tu kp_534 fk_535 (by decide)
      have hFK := hFK.trans fk_535 (by decide)
      have hKP := hKP.trans kp_534 (by decide) (by decide)
      obtain ⟨v_538, hr_539⟩ := fk_3 hWF Tu fk_535 hr_518
      have tq_540 := mi_row hr_539 2 rfl
      have tq_541 := mi_row hr_539 3 rfl
      have bv_538 := wf_free v_538
      have tq_542 := mi_row hr_539 4 rfl
      have bv_516 := wf_free v_516
      have tq_543 := mi_row hr_539 5 rfl
      have bv_517 := wf_free v_517
      have tq_544 := mi_row hr_539 14 rfl
      have hTR := hTR.kp hG Tu kp_534 fk_535 (by decide) (fun q => by omega)
      have br_530 := wf_free r_530
      refine py_calli hw (va_runS (As := [.int r_530]) (rest := []) G0 (c_X12_isSign l E G L_526 f_527 H_528.size r_530 hG hWF) (va_cwS 1 G0.2.2.2.2 g_X12_clause_X12_isSign_180 rfl rfl rfl (by decide +kernel) ⟨(Nat.le_of_ble_eq_true rfl), (Nat.le_of_ble_eq_true rfl)⟩) (py_preS hw) rfl rfl hl.1 rfl (lv_room (Nat.le_of_ble_eq_true rfl)) dX12_clause_155 ⟨(Nat.le_of_ble_eq_true rfl), (Nat.le_of_ble_eq_true rfl)⟩) (fun r_549 L_545 f_546 H_547 locs hp_548 hw => ?_)
      obtain ⟨b_551, en_550, rfl, rfl⟩ := hp_548
      refine lv_if_eq (tgt := 165) G0.1 G0.2.1 dX12_clause_158 (by decide) (fun c_552 => ?_) (fun c_552 => ?_)
      · skip
        have tc_552 := ti_eq c_552
        clear en_550
        refine lv_iconst (v := 0) G0.1 G0.2.1 dX12_clause_165 (by decide) ?_
        refine lv_istore_n (lv' := [(2, .int 0), (1, .int x_47), (0, .ref u)]) G0.1 G0.2.1 dX12_clause_166 rfl hl (by decide) rfl (fun ls hl => ?_)
        refine lv_iload_n G0.1 G0.2.1 dX12_clause_167 rfl (lv_at hl 0 rfl) ?_
        refine lv_if_eq (tgt := 183) G0.1 G0.2.1 dX12_clause_168 (by decide) (fun c_553 => ?_) (fun c_553 => ?_)
        · skip
          have tc_553 := ti_eq c_553
          exact jn_183 0 L_526 f_527 _ _ ls hWF hKP hX9 hX10 hX11 hX12 hFK hTR hV10 (by first | omega | (intros; omega)) (by first | omega | (intros; omega)) (by first | omega | (intros; omega)) hw (lv_sub hl [0, 1, 2] rfl)
        · skip
          exact absurd c_553 (by decide)
      · skip
        have tc_552 := ti_ne c_552
        replace en_550 := en_550 (by omega)
        refine lv_iconst (v := 1) G0.1 G0.2.1 dX12_clause_161 (by decide) ?_
        refine lv_goto (tgt := 166) G0.1 G0.2.1 dX12_clause_162 (by decide) ?_
        refine lv_istore_n (lv' := [(2, .int 1), (1, .int x_47), (0, .ref u)]) G0.1 G0.2.1 dX12_clause_166 rfl hl (by decide) rfl (fun ls hl => ?_)
        refine lv_iload_n G0.1 G0.2.1 dX12_clause_167 rfl (lv_at hl 0 rfl) ?_
        refine lv_if_eq (tgt := 183) G0.1 G0.2.1 dX12_clause_168 (by decide) (fun c_554 => ?_) (fun c_554 => ?_)
        · skip
          exact absurd c_554 (by decide)
        · skip
          have tc_554 := ti_ne c_554
          refine lv_aload_n G0.1 G0.2.1 dX12_clause_171 rfl (lv_at hl 2 rfl) ?_
          refine py_callv hw (va_runV (As := []) (rest := []) G0 (rq_compare l E G hG L_526 f_527 H_547.size u hWF Tu (show (mi f_527 u 4 = -1 → 0 ≤ mi f_527 u 5 ∧ mi f_527 u 5 ≤ 6 ∧ mi f_527 u 3 ≤ mi f_527 u 2) ∧ 0 ≤ mi f_527 u 3 ∧ cdv f_527 G u ≤ mi f_527 u 3 by omega)) (cwV 0 G0.2.2.2.2 g_X12_clause_X12_compare_189 rfl rfl rfl (by decide +kernel) ⟨(Nat.le_of_ble_eq_true rfl), (Nat.le_of_ble_eq_true rfl)⟩) (py_preV hw (C := RX12) (T := TX12) (N := 54) rfl hr_539) rfl rfl hl.1 rfl (lv_room (Nat.le_of_ble_eq_true rfl)) dX12_clause_172 ⟨(Nat.le_of_ble_eq_true rfl), (Nat.le_of_ble_eq_true rfl)⟩) (fun L_555 f_556 H_557 locs hp_558 hw => ?_)
          obtain ⟨en_560, en_561, en_562, en_563, en_564, hWF, kp_565, fk_566⟩ := hp_558
          have hX9 := hX9.same (kp_f kp_565 (wt12_9 hG Tu) (by decide) (by decide) (fun _ => by decide))
          have hX10 := hX10.same (kp_f kp_565 (wt12_10 hG Tu) (by decide) (by decide) (fun _ => by decide))
          have hX11 := hX11.same (kp_f kp_565 (wt12_11 hG Tu) (by decide) (by decide) (fun _ => by decide))
          have hX12 := hX12.same (kp_f kp_565 (wt12_12 hG Tu) (by decide) (by decide) (fun _ => by decide))
          have hV10 := (arz_kp (kp_f kp_565 (wt12_10 hG Tu) (by decide) (by decide) (fun _ => by decide)) _).trans hV10
          have kq_567 := clv_k hG Tu kp_565 fk_566 (by decide)
          have hFK := hFK.trans fk_566 (by decide)
          have hKP := hKP.trans kp_565 (by decide) (by decide)
          obtain ⟨v_568, v_569, v_570, hr_571⟩ := fk_3_4_5 hWF Tu fk_566 hr_539
          have tq_572 := mi_row hr_571 2 rfl
          have tq_573 := mi_row hr_571 3 rfl
          have bv_568 := wf_free v_568
          have tq_574 := mi_row hr_571 4 rfl
          have bv_569 := wf_free v_569
          have tq_575 := mi_row hr_571 5 rfl
          have bv_570 := wf_free v_570
          have tq_576 := mi_row hr_571 14 rfl
          have hTR : TR f f_556 G u (80) 0 1 := hTR.trans (en_564.lift (b := 0) (by omega) (by omega) (by omega) (by omega)) (fun q => by omega)
          refine lv_aload_n G0.1 G0.2.1 dX12_clause_175 rfl (lv_at hl 2 rfl) ?_
          refine py_callv hw (va_runV (As := []) (rest := []) G0 (rq_goOnAnd l E G hG L_555 f_556 H_557.size u hWF Tu (show (mi f_556 u 4 = -1 → 0 ≤ mi f_556 u 5 ∧ mi f_556 u 5 ≤ 6 ∧ mi f_556 u 3 ≤ mi f_556 u 2) ∧ 0 ≤ mi f_556 u 3 ∧ cdv f_556 G u ≤ mi f_556 u 3 by omega)) (cwV 0 G0.2.2.2.2 g_X12_clause_X12_goOnAnd_192 rfl rfl rfl (by decide +kernel) ⟨(Nat.le_of_ble_eq_true rfl), (Nat.le_of_ble_eq_true rfl)⟩) (py_preV hw (C := RX12) (T := TX12) (N := 54) rfl hr_571) rfl rfl hl.1 rfl (lv_room (Nat.le_of_ble_eq_true rfl)) dX12_clause_176 ⟨(Nat.le_of_ble_eq_true rfl), (Nat.le_of_ble_eq_true rfl)⟩) (fun L_577 f_578 H_579 locs hp_580 hw => ?_)
          obtain ⟨en_582, en_583, en_584, en_585, en_586, hWF, kp_587, fk_588⟩ := hp_580
          have hX9 := hX9.same (kp_f kp_587 (wt12_9 hG Tu) (by decide) (by decide) (fun _ => by decide))
          have hX10 := hX10.same (kp_f kp_587 (wt12_10 hG Tu) (by decide) (by decide) (fun _ => by decide))
          have hX11 := hX11.same (kp_f kp_587 (wt12_11 hG Tu) (by decide) (by decide) (fun _ => by decide))
          have hX12 := hX12.same (kp_f kp_587 (wt12_12 hG Tu) (by decide) (by decide) (fun _ => by decide))
          have hV10 := (arz_kp (kp_f kp_587 (wt12_10 hG Tu) (by decide) (by decide) (fun _ => by decide)) _).trans hV10
          have kq_589 := clv_k hG Tu kp_587 fk_588 (by decide)
          have hFK := hFK.trans fk_588 (by decide)
          have hKP := hKP.trans kp_587 (by decide) (by decide)
          obtain ⟨v_590, v_591, v_592, hr_593⟩ := fk_3_4_5 hWF Tu fk_588 hr_571
          have tq_594 := mi_row hr_593 2 rfl
          have tq_595 := mi_row hr_593 3 rfl
          have bv_590 := wf_free v_590
          have tq_596 := mi_row hr_593 4 rfl
          have bv_591 := wf_free v_591
          have tq_597 := mi_row hr_593 5 rfl
          have bv_592 := wf_free v_592
          have tq_598 := mi_row hr_593 14 rfl
          have hTR : TR f f_578 G u (80) 0 1 := hTR.trans (en_586.lift (b := 0) (by omega) (by omega) (by omega) (by omega)) (fun q => by omega)
          refine lv_aload_n G0.1 G0.2.1 dX12_clause_179 rfl (lv_at hl 2 rfl) ?_
          refine py_callv hw (va_runV (As := []) (rest := []) G0 (rq_goOnOr l E G hG L_577 f_578 H_579.size u hWF Tu (show (mi f_578 u 4 = -1 → 0 ≤ mi f_578 u 5 ∧ mi f_578 u 5 ≤ 6 ∧ mi f_578 u 3 ≤ mi f_578 u 2) ∧ 0 ≤ mi f_578 u 3 ∧ cdv f_578 G u ≤ mi f_578 u 3 by omega)) (cwV 0 G0.2.2.2.2 g_X12_clause_X12_goOnOr_195 rfl rfl rfl (by decide +kernel) ⟨(Nat.le_of_ble_eq_true rfl), (Nat.le_of_ble_eq_true rfl)⟩) (py_preV hw (C := RX12) (T := TX12) (N := 54) rfl hr_593) rfl rfl hl.1 rfl (lv_room (Nat.le_of_ble_eq_true rfl)) dX12_clause_180 ⟨(Nat.le_of_ble_eq_true rfl), (Nat.le_of_ble_eq_true rfl)⟩) (fun L_599 f_600 H_601 locs hp_602 hw => ?_)
          obtain ⟨en_604, en_605, en_606, en_607, en_608, hWF, kp_609, fk_610⟩ := hp_602
          have hX9 := hX9.same (kp_f kp_609 (wt12_9 hG Tu) (by decide) (by decide) (fun _ => by decide))
          have hX10 := hX10.same (kp_f kp_609 (wt12_10 hG Tu) (by decide) (by decide) (fun _ => by decide))
          have hX11 := hX11.same (kp_f kp_609 (wt12_11 hG Tu) (by decide) (by decide) (fun _ => by decide))
          have hX12 := hX12.same (kp_f kp_609 (wt12_12 hG Tu) (by decide) (by decide) (fun _ => by decide))
          have hV10 := (arz_kp (kp_f kp_609 (wt12_10 hG Tu) (by decide) (by decide) (fun _ => by decide)) _).trans hV10
          have kq_611 := clv_k hG Tu kp_609 fk_610 (by decide)
          have hFK := hFK.trans fk_610 (by decide)
          have hKP := hKP.trans kp_609 (by decide) (by decide)
          obtain ⟨v_612, v_613, v_614, hr_615⟩ := fk_3_4_5 hWF Tu fk_610 hr_593
          have tq_616 := mi_row hr_615 2 rfl
          have tq_617 := mi_row hr_615 3 rfl
          have bv_612 := wf_free v_612
          have tq_618 := mi_row hr_615 4 rfl
          have bv_613 := wf_free v_613
          have tq_619 := mi_row hr_615 5 rfl
          have bv_614 := wf_free v_614
          have tq_620 := mi_row hr_615 14 rfl
          have hTR : TR f f_600 G u (80) 0 1 := hTR.trans (en_608.lift (b := 0) (by omega) (by omega) (by omega) (by omega)) (fun q => by omega)
          exact jn_183 1 L_599 f_600 _ _ ls hWF hKP hX9 hX10 hX11 hX12 hFK hTR hV10 (by first | omega | (intros; omega)) (by first | omega | (intros; omega)) (by first | omega | (intros; omega)) hw (lv_sub hl [0, 1, 2] rfl)
  · skip
    have tc_463 := ti_ne c_463
    refine lv_aload_n G0.1 G0.2.1 dX12_clause_132 rfl (lv_at hl 2 rfl) ?_
    obtain ⟨v_621, v_622, v_623, v_624, v_625, v_626, v_627, v_628, v_629, v_630, v_631, v_632, y_633, v_634, v_635, v_636, v_637, v_638, y_639, v_640, y_641, v_642, hr_655, b_643, b_644, b_645, b_646, b_647, b_648, b_649, b_650, b_651, b_652, b_653, b_654⟩ := wg_12 hWF Tu
    have tq_656 := mi_row hr_655 2 rfl
    have tq_657 := mi_row hr_655 3 rfl
    have bv_623 := wf_free v_623
    have tq_658 := mi_row hr_655 4 rfl
    have bv_624 := wf_free v_624
    have tq_659 := mi_row hr_655 5 rfl
    have bv_625 := wf_free v_625
    have tq_660 := mi_row hr_655 14 rfl
    refine py_callv hw (va_runV (As := []) (rest := []) G0 (rq_condition l E G hG L_j127 f_j127 H_j127.size u hWF Tu (show mi f_j127 u 4 = -1 ∧ 0 ≤ mi f_j127 u 5 ∧ mi f_j127 u 5 ≤ 6 ∧ 0 ≤ mi f_j127 u 3 ∧ mi f_j127 u 3 ≤ mi f_j127 u 2 ∧ cdv f_j127 G u ≤ mi f_j127 u 3 by omega)) (cwV 0 G0.2.2.2.2 g_X12_clause_X12_condition_186 rfl rfl rfl (by decide +kernel) ⟨(Nat.le_of_ble_eq_true rfl), (Nat.le_of_ble_eq_true rfl)⟩) (py_preV hw (C := RX12) (T := TX12) (N := 54) rfl hr_655) rfl rfl hl.1 rfl (lv_room (Nat.le_of_ble_eq_true rfl)) dX12_clause_133 ⟨(Nat.le_of_ble_eq_true rfl), (Nat.le_of_ble_eq_true rfl)⟩) (fun L_661 f_662 H_663 locs hp_664 hw => ?_)
    obtain ⟨en_666, en_667, en_668, hWF, kp_669, fk_670⟩ := hp_664
    have hX9 := hX9.same (kp_f kp_669 (wt12_9 hG Tu) (by decide) (by decide) (fun _ => by decide))
    have hX10 := hX10.same (kp_f kp_669 (wt12_10 hG Tu) (by decide) (by decide) (fun _ => by decide))
    have hX11 := hX11.same (kp_f kp_669 (wt12_11 hG Tu) (by decide) (by decide) (fun _ => by decide))
    have hX12 := hX12.same (kp_f kp_669 (wt12_12 hG Tu) (by decide) (by decide) (fun _ => by decide))
    have hV10 := (arz_kp (kp_f kp_669 (wt12_10 hG Tu) (by decide) (by decide) (fun _ => by decide)) _).trans hV10
    have kq_671 := clv_k hG Tu kp_669 fk_670 (by decide)
    have hFK := hFK.trans fk_670 (by decide)
    have hKP := hKP.trans kp_669 (by decide) (by decide)
    obtain ⟨v_672, v_673, v_674, hr_675⟩ := fk_3_4_5 hWF Tu fk_670 hr_655
    have tq_676 := mi_row hr_675 2 rfl
    have tq_677 := mi_row hr_675 3 rfl
    have bv_672 := wf_free v_672
    have tq_678 := mi_row hr_675 4 rfl
    have bv_673 := wf_free v_673
    have tq_679 := mi_row hr_675 5 rfl
    have bv_674 := wf_free v_674
    have tq_680 := mi_row hr_675 14 rfl
    have hTR : TR f f_662 G u (80) 0 1 := hTR.trans (en_668.lift (b := 0) (by omega) (by omega) (by omega) (by omega)) (fun q => by omega)
    refine lv_goto (tgt := 183) G0.1 G0.2.1 dX12_clause_136 (by decide) ?_
    exact jn_183 v_193 L_661 f_662 _ _ ls hWF hKP hX9 hX10 hX11 hX12 hFK hTR hV10 (by first | omega | (intros; omega)) (by first | omega | (intros; omega)) (by first | omega | (intros; omega)) hw (lv_sub hl [0, 1, 2] rfl)
