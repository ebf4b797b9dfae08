theorem rs_af_e2 {part : Int → rs_R} {k : Int} {g : rs_B} {n a : Int} {X w : rs_R} (hX : X = rs_af part k g n w) (h : w.1 ≠ 0) (h2 : rs_co (rs_v g n (rs_sk g n w.2)) ≠ k) (ha : a = rs_sk g n w.2) : X = (1, a) := by
  rw [hX, ha]
  exact rs_af_e h h2
theorem rs_lt6 {c : Int} (h : c = 98 ∨ c = 100 ∨ c = 112 ∨ c = 104 ∨ c = 111 ∨ c = 121) (n : c ≠ 98 ∧ c ≠ 100 ∧ c ≠ 112 ∧ c ≠ 104 ∧ c ≠ 111 ∧ c ≠ 121) : False := by omega
theorem rs_lt_ne {c : Int} (h : c = 98 ∨ c = 100 ∨ c = 112 ∨ c = 104 ∨ c = 111 ∨ c = 121) : rs_lt c ≠ -1 := fun e => by
  have h2 := (rs_lt_eq c).1.mp e
  omega
theorem rs_lt_o {c r : Int} (h : c = r ∨ c = 0) (n : r ≠ 98 ∧ r ≠ 100 ∧ r ≠ 112 ∧ r ≠ 104 ∧ r ≠ 111 ∧ r ≠ 121) : rs_lt c = -1 := by
  rcases h with h | h
  · rw [h]
    exact (rs_lt_eq r).1.mpr n
  · rw [h]
    decide
theorem rs_lt_dg {c : Int} (h1 : 48 ≤ c) (h2 : c ≤ 57) : rs_lt c = -1 := (rs_lt_eq c).1.mpr (by omega)
theorem rs_co_y0 {c : Int} (h : c = 124) : rs_co c = 0 := (rs_co_eq c).1.mpr h
theorem rs_co_n0 {c : Int} (h : c ≠ 124) : rs_co c ≠ 0 := fun e => h ((rs_co_eq c).1.mp e)
theorem rs_co_y1 {c : Int} (h : c = 38) : rs_co c = 1 := (rs_co_eq c).2.1.mpr h
theorem rs_co_n1 {c : Int} (h : c ≠ 38) : rs_co c ≠ 1 := fun e => h ((rs_co_eq c).2.1.mp e)
theorem rs_co_y2 {c : Int} (h : c = 43 ∨ c = 45) : rs_co c = 2 := (rs_co_eq c).2.2.1.mpr h
theorem rs_co_n2 {c : Int} (h1 : c ≠ 43) (h2 : c ≠ 45) : rs_co c ≠ 2 := fun e => ((rs_co_eq c).2.2.1.mp e).elim h1 h2
theorem rs_co_y3 {c : Int} (h : c = 42 ∨ c = 47) : rs_co c = 3 := (rs_co_eq c).2.2.2.1.mpr h
theorem rs_co_n3 {c : Int} (h1 : c ≠ 42) (h2 : c ≠ 47) : rs_co c ≠ 3 := fun e => ((rs_co_eq c).2.2.2.1.mp e).elim h1 h2
theorem rs_co_y4 {c : Int} (h : c = 59) : rs_co c = 4 := (rs_co_eq c).2.2.2.2.1.mpr h
theorem rs_co_n4 {c : Int} (h : c ≠ 59) : rs_co c ≠ 4 := fun e => h ((rs_co_eq c).2.2.2.2.1.mp e)
theorem fk_3_4_5 {E : py_E} {G : wf_G} {L L1 : List Nat} {f f1 : py_F} {m : Nat} (hWF : WF E G L1 f1) (Tm : G.1 m = 13) (h : FK [3, 4, 5] f f1 m) {v0 : Int32} {v2 : Int32} {v3 : Int32} {v4 : Int32} {v5 : Int32} {v13 : Int32} {v14 : Int32} {v19 : Int32} {v20 : Int32} {v24 : Int32} {v25 : Int32} {v29 : Int32} {v30 : Int64} {v31 : Int32} {v32 : Int32} {v33 : Int32} {v34 : Int32} {v43 : Int32} {v48 : Int64} {v51 : Int32} {v52 : Int64} {v53 : Int32} (hr : py_at L f m (.inr (12, [.int v0, .ref (G.2 m 1), .int v2, .int v3, .int v4, .int v5, .ref (G.2 m 6), .ref (G.2 m 7), .ref (G.2 m 8), .ref (G.2 m 9), .ref (G.2 m 10), .ref (G.2 m 11), .ref (G.2 m 12), .int v13, .int v14, .ref (G.2 m 15), .ref (G.2 m 16), .ref (G.2 m 17), .ref (G.2 m 18), .int v19, .int v20, .ref (G.2 m 21), .ref (G.2 m 22), .ref (G.2 m 23), .int v24, .int v25, .ref (G.2 m 26), .ref (G.2 m 27), .ref (G.2 m 28), .int v29, .long v30, .int v31, .int v32, .int v33, .int v34, .ref (G.2 m 35), .ref (G.2 m 36), .ref (G.2 m 37), .ref (G.2 m 38), .ref (G.2 m 39), .ref (G.2 m 40), .ref (G.2 m 41), .ref (G.2 m 42), .int v43, .ref (G.2 m 44), .ref (G.2 m 45), .ref (G.2 m 46), .ref (G.2 m 47), .long v48, .ref (G.2 m 49), .ref (G.2 m 50), .int v51, .long v52, .int v53]))) : ∃ (w3 : Int32) (w4 : Int32) (w5 : Int32), py_at L1 f1 m (.inr (12, [.int v0, .ref (G.2 m 1), .int v2, .int w3, .int w4, .int w5, .ref (G.2 m 6), .ref (G.2 m 7), .ref (G.2 m 8), .ref (G.2 m 9), .ref (G.2 m 10), .ref (G.2 m 11), .ref (G.2 m 12), .int v13, .int v14, .ref (G.2 m 15), .ref (G.2 m 16), .ref (G.2 m 17), .ref (G.2 m 18), .int v19, .int v20, .ref (G.2 m 21), .ref (G.2 m 22), .ref (G.2 m 23), .int v24, .int v25, .ref (G.2 m 26), .ref (G.2 m 27), .ref (G.2 m 28), .int v29, .long v30, .int v31, .int v32, .int v33, .int v34, .ref (G.2 m 35), .ref (G.2 m 36), .ref (G.2 m 37), .ref (G.2 m 38), .ref (G.2 m 39), .ref (G.2 m 40), .ref (G.2 m 41), .ref (G.2 m 42), .int v43, .ref (G.2 m 44), .ref (G.2 m 45), .ref (G.2 m 46), .ref (G.2 m 47), .long v48, .ref (G.2 m 49), .ref (G.2 m 50), .int v51, .long v52, .int v53])) := by
  obtain ⟨w0, w2, w3, w4, w5, w13, w14, w19, w20, w24, w25, w29, w30, w31, w32, w33, w34, w43, w48, w51, w52, w53, hr1, b2, b13, b14, b19, b20, b24, b25, b29, b31, b43, b51, b53⟩ := wg_12 hWF Tm
  have e0 : w0 = v0 := Value.int.inj (Option.some.inj (show some (Value.int w0) = some (Value.int v0) from fk_i h hr hr1 0 (by decide) (by decide)))
  subst e0
  have e2 : w2 = v2 := Value.int.inj (Option.some.inj (show some (Value.int w2) = some (Value.int v2) from fk_i h hr hr1 2 (by decide) (by decide)))
  subst e2
  have e13 : w13 = v13 := Value.int.inj (Option.some.inj (show some (Value.int w13) = some (Value.int v13) from fk_i h hr hr1 13 (by decide) (by decide)))
  subst e13
  have e14 : w14 = v14 := Value.int.inj (Option.some.inj (show some (Value.int w14) = some (Value.int v14) from fk_i h hr hr1 14 (by decide) (by decide)))
  subst e14
  have e19 : w19 = v19 := Value.int.inj (Option.some.inj (show some (Value.int w19) = some (Value.int v19) from fk_i h hr hr1 19 (by decide) (by decide)))
  subst e19
  have e20 : w20 = v20 := Value.int.inj (Option.some.inj (show some (Value.int w20) = some (Value.int v20) from fk_i h hr hr1 20 (by decide) (by decide)))
  subst e20
  have e24 : w24 = v24 := Value.int.inj (Option.some.inj (show some (Value.int w24) = some (Value.int v24) from fk_i h hr hr1 24 (by decide) (by decide)))
  subst e24
  have e25 : w25 = v25 := Value.int.inj (Option.some.inj (show some (Value.int w25) = some (Value.int v25) from fk_i h hr hr1 25 (by decide) (by decide)))
  subst e25
  have e29 : w29 = v29 := Value.int.inj (Option.some.inj (show some (Value.int w29) = some (Value.int v29) from fk_i h hr hr1 29 (by decide) (by decide)))
  subst e29
  have e30 : w30 = v30 := Value.long.inj (Option.some.inj (show some (Value.long w30) = some (Value.long v30) from fk_i h hr hr1 30 (by decide) (by decide)))
  subst e30
  have e31 : w31 = v31 := Value.int.inj (Option.some.inj (show some (Value.int w31) = some (Value.int v31) from fk_i h hr hr1 31 (by decide) (by decide)))
  subst e31
  have e32 : w32 = v32 := Value.int.inj (Option.some.inj (show some (Value.int w32) = some (Value.int v32) from fk_i h hr hr1 32 (by decide) (by decide)))
  subst e32
  have e33 : w33 = v33 := Value.int.inj (Option.some.inj (show some (Value.int w33) = some (Value.int v33) from fk_i h hr hr1 33 (by decide) (by decide)))
  subst e33
  have e34 : w34 = v34 := Value.int.inj (Option.some.inj (show some (Value.int w34) = some (Value.int v34) from fk_i h hr hr1 34 (by decide) (by decide)))
  subst e34
  have e43 : w43 = v43 := Value.int.inj (Option.some.inj (show some (Value.int w43) = some (Value.int v43) from fk_i h hr hr1 43 (by decide) (by decide)))
  subst e43
  have e48 : w48 = v48 := Value.long.inj (Option.some.inj (show some (Value.long w48) = some (Value.long v48) from fk_i h hr hr1 48 (by decide) (by decide)))
  subst e48
  have e51 : w51 = v51 := Value.int.inj (Option.some.inj (show some (Value.int w51) = some (Value.int v51) from fk_i h hr hr1 51 (by decide) (by decide)))
  subst e51
  have e52 : w52 = v52 := Value.long.inj (Option.some.inj (show some (Value.long w52) = some (Value.long v52) from fk_i h hr hr1 52 (by decide) (by decide)))
  subst e52
  have e53 : w53 = v53 := Value.int.inj (Option.some.inj (show some (Value.int w53) = some (Value.int v53) from fk_i h hr hr1 53 (by decide) (by decide)))
  subst e53
  exact ⟨w3, w4, w5, hr1⟩
theorem fk_3_4 {E : py_E} {G : wf_G} {L L1 : List Nat} {f f1 : py_F} {m : Nat} (hWF : WF E G L1 f1) (Tm : G.1 m = 13) (h : FK [3, 4] f f1 m) {v0 : Int32} {v2 : Int32} {v3 : Int32} {v4 : Int32} {v5 : Int32} {v13 : Int32} {v14 : Int32} {v19 : Int32} {v20 : Int32} {v24 : Int32} {v25 : Int32} {v29 : Int32} {v30 : Int64} {v31 : Int32} {v32 : Int32} {v33 : Int32} {v34 : Int32} {v43 : Int32} {v48 : Int64} {v51 : Int32} {v52 : Int64} {v53 : Int32} (hr : py_at L f m (.inr (12, [.int v0, .ref (G.2 m 1), .int v2, .int v3, .int v4, .int v5, .ref (G.2 m 6), .ref (G.2 m 7), .ref (G.2 m 8), .ref (G.2 m 9), .ref (G.2 m 10), .ref (G.2 m 11), .ref (G.2 m 12), .int v13, .int v14, .ref (G.2 m 15), .ref (G.2 m 16), .ref (G.2 m 17), .ref (G.2 m 18), .int v19, .int v20, .ref (G.2 m 21), .ref (G.2 m 22), .ref (G.2 m 23), .int v24, .int v25, .ref (G.2 m 26), .ref (G.2 m 27), .ref (G.2 m 28), .int v29, .long v30, .int v31, .int v32, .int v33, .int v34, .ref (G.2 m 35), .ref (G.2 m 36), .ref (G.2 m 37), .ref (G.2 m 38), .ref (G.2 m 39), .ref (G.2 m 40), .ref (G.2 m 41), .ref (G.2 m 42), .int v43, .ref (G.2 m 44), .ref (G.2 m 45), .ref (G.2 m 46), .ref (G.2 m 47), .long v48, .ref (G.2 m 49), .ref (G.2 m 50), .int v51, .long v52, .int v53]))) : ∃ (w3 : Int32) (w4 : Int32), py_at L1 f1 m (.inr (12, [.int v0, .ref (G.2 m 1), .int v2, .int w3, .int w4, .int v5, .ref (G.2 m 6), .ref (G.2 m 7), .ref (G.2 m 8), .ref (G.2 m 9), .ref (G.2 m 10), .ref (G.2 m 11), .ref (G.2 m 12), .int v13, .int v14, .ref (G.2 m 15), .ref (G.2 m 16), .ref (G.2 m 17), .ref (G.2 m 18), .int v19, .int v20, .ref (G.2 m 21), .ref (G.2 m 22), .ref (G.2 m 23), .int v24, .int v25, .ref (G.2 m 26), .ref (G.2 m 27), .ref (G.2 m 28), .int v29, .long v30, .int v31, .int v32, .int v33, .int v34, .ref (G.2 m 35), .ref (G.2 m 36), .ref (G.2 m 37), .ref (G.2 m 38), .ref (G.2 m 39), .ref (G.2 m 40), .ref (G.2 m 41), .ref (G.2 m 42), .int v43, .ref (G.2 m 44), .ref (G.2 m 45), .ref (G.2 m 46), .ref (G.2 m 47), .long v48, .ref (G.2 m 49), .ref (G.2 m 50), .int v51, .long v52, .int v53])) := by
  obtain ⟨w0, w2, w3, w4, w5, w13, w14, w19, w20, w24, w25, w29, w30, w31, w32, w33, w34, w43, w48, w51, w52, w53, hr1, b2, b13, b14, b19, b20, b24, b25, b29, b31, b43, b51, b53⟩ := wg_12 hWF Tm
  have e0 : w0 = v0 := Value.int.inj (Option.some.inj (show some (Value.int w0) = some (Value.int v0) from fk_i h hr hr1 0 (by decide) (by decide)))
  subst e0
  have e2 : w2 = v2 := Value.int.inj (Option.some.inj (show some (Value.int w2) = some (Value.int v2) from fk_i h hr hr1 2 (by decide) (by decide)))
  subst e2
  have e5 : w5 = v5 := Value.int.inj (Option.some.inj (show some (Value.int w5) = some (Value.int v5) from fk_i h hr hr1 5 (by decide) (by decide)))
  subst e5
  have e13 : w13 = v13 := Value.int.inj (Option.some.inj (show some (Value.int w13) = some (Value.int v13) from fk_i h hr hr1 13 (by decide) (by decide)))
  subst e13
  have e14 : w14 = v14 := Value.int.inj (Option.some.inj (show some (Value.int w14) = some (Value.int v14) from fk_i h hr hr1 14 (by decide) (by decide)))
  subst e14
  have e19 : w19 = v19 := Value.int.inj (Option.some.inj (show some (Value.int w19) = some (Value.int v19) from fk_i h hr hr1 19 (by decide) (by decide)))
  subst e19
  have e20 : w20 = v20 := Value.int.inj (Option.some.inj (show some (Value.int w20) = some (Value.int v20) from fk_i h hr hr1 20 (by decide) (by decide)))
  subst e20
  have e24 : w24 = v24 := Value.int.inj (Option.some.inj (show some (Value.int w24) = some (Value.int v24) from fk_i h hr hr1 24 (by decide) (by decide)))
  subst e24
  have e25 : w25 = v25 := Value.int.inj (Option.some.inj (show some (Value.int w25) = some (Value.int v25) from fk_i h hr hr1 25 (by decide) (by decide)))
  subst e25
  have e29 : w29 = v29 := Value.int.inj (Option.some.inj (show some (Value.int w29) = some (Value.int v29) from fk_i h hr hr1 29 (by decide) (by decide)))
  subst e29
  have e30 : w30 = v30 := Value.long.inj (Option.some.inj (show some (Value.long w30) = some (Value.long v30) from fk_i h hr hr1 30 (by decide) (by decide)))
  subst e30
  have e31 : w31 = v31 := Value.int.inj (Option.some.inj (show some (Value.int w31) = some (Value.int v31) from fk_i h hr hr1 31 (by decide) (by decide)))
  subst e31
  have e32 : w32 = v32 := Value.int.inj (Option.some.inj (show some (Value.int w32) = some (Value.int v32) from fk_i h hr hr1 32 (by decide) (by decide)))
  subst e32
  have e33 : w33 = v33 := Value.int.inj (Option.some.inj (show some (Value.int w33) = some (Value.int v33) from fk_i h hr hr1 33 (by decide) (by decide)))
  subst e33
  have e34 : w34 = v34 := Value.int.inj (Option.some.inj (show some (Value.int w34) = some (Value.int v34) from fk_i h hr hr1 34 (by decide) (by decide)))
  subst e34
  have e43 : w43 = v43 := Value.int.inj (Option.some.inj (show some (Value.int w43) = some (Value.int v43) from fk_i h hr hr1 43 (by decide) (by decide)))
  subst e43
  have e48 : w48 = v48 := Value.long.inj (Option.some.inj (show some (Value.long w48) = some (Value.long v48) from fk_i h hr hr1 48 (by decide) (by decide)))
  subst e48
  have e51 : w51 = v51 := Value.int.inj (Option.some.inj (show some (Value.int w51) = some (Value.int v51) from fk_i h hr hr1 51 (by decide) (by decide)))
  subst e51
  have e52 : w52 = v52 := Value.long.inj (Option.some.inj (show some (Value.long w52) = some (Value.long v52) from fk_i h hr hr1 52 (by decide) (by decide)))
  subst e52
  have e53 : w53 = v53 := Value.int.inj (Option.some.inj (show some (Value.int w53) = some (Value.int v53) from fk_i h hr hr1 53 (by decide) (by decide)))
  subst e53
  exact ⟨w3, w4, hr1⟩
set_option maxHeartbeats 4000000 in
set_option maxRecDepth 100000 in
theorem q_atom (l : Launch) (E : py_E) (G : wf_G) (hG : GT G) (wb : Int) (hwb : 0 ≤ wb) (fr lo : Nat) (hfr : 10 ≤ fr) (hlo : 300 ≤ lo) (f_sum l_sum : Nat) (x_sum : f_sum ≤ fr) (z_sum : l_sum ≤ lo) (ih_sum : Q_sum l E G (wb + 1) f_sum l_sum) : Q_atom l E G wb (fr + 1) (lo + 60) := by
  intro L f sz u gb nb pb eb hWF Tu hp0 hp1 hp2 hq0
  refine Met.ofW (cc := cX12_atom) (maxL := 2) (ret := none) (by decide) rfl ?_
  intro p e s m args below meth c s₁ B hml hv
  obtain ⟨rfl, rfl, hw⟩ := py_start hv
  have G0 : CallFix p m c cX12_atom 2 s _ w_X12_atom RX12 := ⟨B.exec, B.bytes, hml, findClass_of_methodNamed B.named, atoms_spec (ws := w_X12_atom) B.pre⟩
  have hr := B.returns
  have hlk := B.notSynchronized
  have kcm1 : (-1 : Int32).toInt = -1 := rfl
  have kc0 : (0 : Int32).toInt = 0 := rfl
  have kc1 : (1 : Int32).toInt = 1 := rfl
  have kc91 : (91 : Int32).toInt = 91 := rfl
  have kc93 : (93 : Int32).toInt = 93 := rfl
  have hl := lv_entry ([.ref u]) (n := 2) (Nat.le_of_ble_eq_true rfl)
  rw [lg_entry_eq]
  generalize (lg_sl ([.ref u]) ++ List.replicate (2 - (lg_sl ([.ref u])).length) Slot.unset).toArray = ls at hl ⊢
  have hl : lv_has ls 2 [(0, .ref u)] := hl
  have hKP : KP G [41, 42, 43, 13] false f f := KP.refl
  have hFK : FK [3, 4, 5] f f u := FK.refl
  have hMB := hq0
  obtain ⟨v_1, v_2, v_3, v_4, v_5, v_6, v_7, v_8, v_9, v_10, v_11, v_12, y_13, v_14, v_15, v_16, v_17, v_18, y_19, v_20, y_21, v_22, hr_35, b_23, b_24, b_25, b_26, b_27, b_28, b_29, b_30, b_31, b_32, b_33, b_34⟩ := wg_12 hWF Tu
  have tq_36 := mi_row hr_35 2 rfl
  have tq_37 := mi_row hr_35 3 rfl
  have bv_3 := wf_free v_3
  have tq_38 := mi_row hr_35 4 rfl
  have bv_4 := wf_free v_4
  have tq_39 := mi_row hr_35 5 rfl
  have bv_5 := wf_free v_5
  have tq_40 := mi_row hr_35 14 rfl
  have hcd := cdv_rng hG hWF Tu (by omega) (by omega)
  have hTR : TR f f G u (13 - 2 * wb) 0 0 := TR.refl (by omega) (by omega)
  refine lv_aload_n G0.1 G0.2.1 dX12_atom_0 rfl (lv_at hl 0 rfl) ?_
  refine py_calli hw (va_runV (As := []) (rest := []) G0 (c_X12_look l E G L f s.heap.size u gb nb pb hG hWF Tu (show 0 ≤ mi f u 3 ∧ mi f u 3 ≤ mi f u 2 by omega) (show mi f u 3 = pb by omega) (show mi f u 2 = nb ∧ 0 ≤ pb by omega) hMB) (cwV 0 G0.2.2.2.2 g_X12_atom_X12_look_146 rfl rfl rfl (by decide +kernel) ⟨(show 1 + 1 ≤ fr + 1 by omega), (show 8 + (1 + 11) + 20 ≤ lo + 60 by omega)⟩) (py_preV hw (C := RX12) (T := TX12) (N := 54) rfl hr_35) rfl rfl hl.1 rfl (lv_room (Nat.le_of_ble_eq_true rfl)) dX12_atom_1 ⟨(Nat.le_of_ble_eq_true rfl), (Nat.le_of_ble_eq_true rfl)⟩) (fun r_45 L_41 f_42 H_43 locs hp_44 hw => ?_)
  obtain ⟨en_46, en_47, en_48, en_49, hWF, kp_50, fk_51⟩ := hp_44
  have hMB := hMB.kp (kp_f kp_50 (wt12_1 hG Tu) (by decide) (by decide) (fun _ => by decide))
  have cq_52 := cdv_k hG Tu kp_50 fk_51 (by decide)
  have hFK := hFK.trans fk_51 (by decide)
  have hKP := hKP.trans kp_50 (by decide) (by decide)
  obtain ⟨v_53, hr_54⟩ := fk_3 hWF Tu fk_51 hr_35
  have tq_55 := mi_row hr_54 2 rfl
  have tq_56 := mi_row hr_54 3 rfl
  have bv_53 := wf_free v_53
  have tq_57 := mi_row hr_54 4 rfl
  have bv_4 := wf_free v_4
  have tq_58 := mi_row hr_54 5 rfl
  have bv_5 := wf_free v_5
  have tq_59 := mi_row hr_54 14 rfl
  have hTR := hTR.kp hG Tu kp_50 fk_51 (by decide) (fun q => by omega)
  have br_45 := wf_free r_45
  refine lv_istore_n (lv' := [(1, .int r_45), (0, .ref u)]) G0.1 G0.2.1 dX12_atom_4 rfl hl (by decide) rfl (fun ls hl => ?_)
  refine lv_iload_n G0.1 G0.2.1 dX12_atom_5 rfl (lv_at hl 0 rfl) ?_
  refine py_calli hw (va_runS (As := [.int r_45]) (rest := []) G0 (c_X12_isDigit l E G L_41 f_42 H_43.size r_45 hG hWF) (va_cwS 1 G0.2.2.2.2 g_X12_atom_X12_isDigit_149 rfl rfl rfl (by decide +kernel) ⟨(show 0 + 1 ≤ fr + 1 by omega), (show 8 + (1 + 11) + 0 ≤ lo + 60 by omega)⟩) (py_preS hw) rfl rfl hl.1 rfl (lv_room (Nat.le_of_ble_eq_true rfl)) dX12_atom_6 ⟨(Nat.le_of_ble_eq_true rfl), (Nat.le_of_ble_eq_true rfl)⟩) (fun r_64 L_60 f_61 H_62 locs hp_63 hw => ?_)
  obtain ⟨b_67, en_65, en_66, rfl, rfl⟩ := hp_63
  refine lv_if_eq (tgt := 24) G0.1 G0.2.1 dX12_atom_9 (by decide) (fun c_68 => ?_) (fun c_68 => ?_)
  · skip
    have tc_68 := ti_eq c_68
    clear en_65
    replace en_66 := en_66 (by omega)
    refine lv_iload_n G0.1 G0.2.1 dX12_atom_24 rfl (lv_at hl 0 rfl) ?_
    refine py_calli hw (va_runS (As := [.int r_45]) (rest := []) G0 (c_X12_letterOf l E G L_41 f_42 H_62.size r_45 hG hWF) (va_cwS 1 G0.2.2.2.2 g_X12_atom_X12_letterOf_160 rfl rfl rfl (by decide +kernel) ⟨(show 0 + 1 ≤ fr + 1 by omega), (show 8 + (1 + 11) + 0 ≤ lo + 60 by omega)⟩) (py_preS hw) rfl rfl hl.1 rfl (lv_room (Nat.le_of_ble_eq_true rfl)) dX12_atom_25 ⟨(Nat.le_of_ble_eq_true rfl), (Nat.le_of_ble_eq_true rfl)⟩) (fun r_73 L_69 f_70 H_71 locs hp_72 hw => ?_)
    obtain ⟨b_76, en_74, en_75, rfl, rfl⟩ := hp_72
    refine lv_iconst (v := (-1)) G0.1 G0.2.1 dX12_atom_28 (by decide) ?_
    refine lv_icmp_eq (tgt := 54) G0.1 G0.2.1 dX12_atom_29 (by decide) (fun c_77 => ?_) (fun c_77 => ?_)
    · skip
      have tc_77 := ti_eq c_77
      clear en_74
      replace en_75 := en_75 (by omega)
      have hLT : rs_lt (rs_v gb nb (rs_sk gb nb pb)) = -1 := rs_lt_o (en_49.2.elim (fun z => Or.inl z.1.symm) (fun z => Or.inr z.2.1)) en_75
      clear en_75
      refine lv_iload_n G0.1 G0.2.1 dX12_atom_54 rfl (lv_at hl 0 rfl) ?_
      refine lv_bipush (v := 91) G0.1 G0.2.1 dX12_atom_55 (by decide) ?_
      refine lv_icmp_ne (tgt := 85) G0.1 G0.2.1 dX12_atom_57 (by decide) (fun c_78 => ?_) (fun c_78 => ?_)
      · skip
        have tc_78 := ti_ne c_78
        refine lv_aload_n G0.1 G0.2.1 dX12_atom_85 rfl (lv_at hl 1 rfl) ?_
        refine py_callv hw (va_runV (As := []) (rest := []) G0 (c_X12_bad l E G L_41 f_42 H_71.size u hG hWF Tu (show 0 ≤ mi f_42 u 3 by omega)) (cwV 0 G0.2.2.2.2 g_X12_atom_X12_bad_143 rfl rfl rfl (by decide +kernel) ⟨(show 0 + 1 ≤ fr + 1 by omega), (show 8 + (1 + 11) + 0 ≤ lo + 60 by omega)⟩) (py_preV hw (C := RX12) (T := TX12) (N := 54) rfl hr_54) rfl rfl hl.1 rfl (lv_room (Nat.le_of_ble_eq_true rfl)) dX12_atom_86 ⟨(Nat.le_of_ble_eq_true rfl), (Nat.le_of_ble_eq_true rfl)⟩) (fun L_79 f_80 H_81 locs hp_82 hw => ?_)
        obtain ⟨en_84, en_85, en_86, hWF, kp_87, fk_88⟩ := hp_82
        have hMB := hMB.kp (kp_f kp_87 (wt12_1 hG Tu) (by decide) (by decide) (fun _ => by decide))
        have cq_89 := cdv_k hG Tu kp_87 fk_88 (by decide)
        have hFK := hFK.trans fk_88 (by decide)
        have hKP := hKP.trans kp_87 (by decide) (by decide)
        obtain ⟨v_90, hr_91⟩ := fk_4 hWF Tu fk_88 hr_54
        have tq_92 := mi_row hr_91 2 rfl
        have tq_93 := mi_row hr_91 3 rfl
        have bv_53 := wf_free v_53
        have tq_94 := mi_row hr_91 4 rfl
        have bv_90 := wf_free v_90
        have tq_95 := mi_row hr_91 5 rfl
        have bv_5 := wf_free v_5
        have tq_96 := mi_row hr_91 14 rfl
        have hTR := hTR.kp hG Tu kp_87 fk_88 (by decide) (fun q => by omega)
        exact py_vret G0 hr hlk hw ⟨(by first | omega | (intro q; omega)), (by first | omega | (intro q; omega)), (hTR.wrong (by omega)), (fun hw => absurd hw (by omega)), (by intro hw; have hE : (rs_at gb nb eb pb) = (0, rs_sk gb nb pb) := (rs_at_m (by omega) hLT).trans (rs_num_dd (by have hz := rs_d_eq (rs_v gb nb (rs_sk gb nb pb)); omega)); rw [hE]; exact ⟨rfl, (show mi f_80 u 4 = rs_sk gb nb pb by omega)⟩), hWF, hKP, hFK⟩ dX12_atom_89
      · skip
        have tc_78 := ti_eq c_78
        replace en_47 := en_47 (by omega)
        refine lv_aload_n G0.1 G0.2.1 dX12_atom_60 rfl (lv_at hl 1 rfl) ?_
        refine py_callv hw (va_runV (As := []) (rest := []) G0 (c_X12_opens l E G L_41 f_42 H_71.size u hG hWF Tu (show 0 ≤ mi f_42 u 3 ∧ mi f_42 u 3 ≤ 1000 ∧ 0 ≤ mi f_42 u 5 ∧ mi f_42 u 5 ≤ 6 by omega)) (cwV 0 G0.2.2.2.2 g_X12_atom_X12_opens_164 rfl rfl rfl (by decide +kernel) ⟨(show 1 + 1 ≤ fr + 1 by omega), (show 8 + (1 + 11) + 20 ≤ lo + 60 by omega)⟩) (py_preV hw (C := RX12) (T := TX12) (N := 54) rfl hr_54) rfl rfl hl.1 rfl (lv_room (Nat.le_of_ble_eq_true rfl)) dX12_atom_61 ⟨(Nat.le_of_ble_eq_true rfl), (Nat.le_of_ble_eq_true rfl)⟩) (fun L_97 f_98 H_99 locs hp_100 hw => ?_)
        obtain ⟨en_102, en_103, en_104, en_105, hWF, kp_106, fk_107⟩ := hp_100
        have hMB := hMB.kp (kp_f kp_106 (wt12_1 hG Tu) (by decide) (by decide) (fun _ => by decide))
        have cq_108 := cdv_k hG Tu kp_106 fk_107 (by decide)
        have hFK := hFK.trans fk_107 (by decide)
        have hKP := hKP.trans kp_106 (by decide) (by decide)
        obtain ⟨v_109, v_110, v_111, hr_112⟩ := fk_3_4_5 hWF Tu fk_107 hr_54
        have tq_113 := mi_row hr_112 2 rfl
        have tq_114 := mi_row hr_112 3 rfl
        have bv_109 := wf_free v_109
        have tq_115 := mi_row hr_112 4 rfl
        have bv_110 := wf_free v_110
        have tq_116 := mi_row hr_112 5 rfl
        have bv_111 := wf_free v_111
        have tq_117 := mi_row hr_112 14 rfl
        have hTR := hTR.kp hG Tu kp_106 fk_107 (by decide) (fun q => by omega)
        refine lv_aload_n G0.1 G0.2.1 dX12_atom_64 rfl (lv_at hl 1 rfl) ?_
        refine py_get (C := RX12) (T := TX12) (N := 54) (k := 4) (v := .int v_110) G0 hw in_X12_atom_X12 rfl hr_112 (by decide) (by decide +kernel) rfl dX12_atom_65 ?_
        refine lv_iconst (v := (-1)) G0.1 G0.2.1 dX12_atom_68 (by decide) ?_
        refine lv_icmp_ne (tgt := 89) G0.1 G0.2.1 dX12_atom_69 (by decide) (fun c_118 => ?_) (fun c_118 => ?_)
        · skip
          have tc_118 := ti_ne c_118
          exact py_vret G0 hr hlk hw ⟨(by first | omega | (intro q; omega)), (by first | omega | (intro q; omega)), (hTR.wrong (by omega)), (fun hw => absurd hw (by omega)), (by intro hw; have hE : (rs_at gb nb eb pb) = (0, rs_sk gb nb pb) := rs_at_n0 (by omega) (by omega); rw [hE]; exact ⟨rfl, (show mi f_98 u 4 = rs_sk gb nb pb by omega)⟩), hWF, hKP, hFK⟩ dX12_atom_89
        · skip
          have tc_118 := ti_eq c_118
          refine lv_aload_n G0.1 G0.2.1 dX12_atom_72 rfl (lv_at hl 1 rfl) ?_
          refine py_callv hw (va_runV (As := []) (rest := []) G0 (ih_sum L_97 f_98 H_99.size u gb nb (rs_sk gb nb pb + 1) (eb - 1) hWF Tu (show mi f_98 u 4 = -1 ∧ (wb + 1) ≤ mi f_98 u 5 ∧ mi f_98 u 5 ≤ 6 ∧ 0 ≤ mi f_98 u 3 ∧ mi f_98 u 3 ≤ mi f_98 u 2 ∧ cdv f_98 G u ≤ mi f_98 u 3 by omega) (show mi f_98 u 2 = nb ∧ mi f_98 u 3 = (rs_sk gb nb pb + 1) by omega) (show mi f_98 u 5 = 6 - (((eb - 1) : Nat) : Int) by omega) hMB) (cwV 0 G0.2.2.2.2 g_X12_atom_X12_sum_167 rfl rfl rfl (by decide +kernel) ⟨(show f_sum + 1 ≤ fr + 1 by omega), (show 8 + (2 + 11) + l_sum ≤ lo + 60 by omega)⟩) (py_preV hw (C := RX12) (T := TX12) (N := 54) rfl hr_112) rfl rfl hl.1 rfl (lv_room (Nat.le_of_ble_eq_true rfl)) dX12_atom_73 ⟨(Nat.le_of_ble_eq_true rfl), (Nat.le_of_ble_eq_true rfl)⟩) (fun L_119 f_120 H_121 locs hp_122 hw => ?_)
          obtain ⟨en_124, en_125, en_126, en_127, en_128, hWF, kp_129, fk_130⟩ := hp_122
          have hMB := hMB.kp (kp_f kp_129 (wt12_1 hG Tu) (by decide) (by decide) (fun _ => by decide))
          have hFK := hFK.trans fk_130 (by decide)
          have hKP := hKP.trans kp_129 (by decide) (by decide)
          obtain ⟨v_131, v_132, v_133, hr_134⟩ := fk_3_4_5 hWF Tu fk_130 hr_112
          have tq_135 := mi_row hr_134 2 rfl
          have tq_136 := mi_row hr_134 3 rfl
          have bv_131 := wf_free v_131
          have tq_137 := mi_row hr_134 4 rfl
          have bv_132 := wf_free v_132
          have tq_138 := mi_row hr_134 5 rfl
          have bv_133 := wf_free v_133
          have tq_139 := mi_row hr_134 14 rfl
          have hTR : TR f f_120 G u (13 - 2 * wb) 0 1 := hTR.trans (en_126.lift (b := 0) (by omega) (by omega) (by omega) (by omega)) (fun q => by omega)
          refine lv_aload_n G0.1 G0.2.1 dX12_atom_76 rfl (lv_at hl 1 rfl) ?_
          refine lv_bipush (v := 93) G0.1 G0.2.1 dX12_atom_77 (by decide) ?_
          refine py_callv hw (va_runV (As := [.int 93]) (rest := []) G0 (c_X12_closes l E G L_119 f_120 H_121.size u 93 gb nb (rs_sm gb nb (eb - 1) (rs_sk gb nb pb + 1)).2 hG hWF Tu (show 0 ≤ mi f_120 u 3 ∧ mi f_120 u 3 ≤ 1000 ∧ (93 : Int32).toInt ≠ -1 ∧ (93 : Int32).toInt ≠ 0 by omega) (show mi f_120 u 4 = -1 → mi f_120 u 3 ≤ mi f_120 u 2 ∧ mi f_120 u 3 = (rs_sm gb nb (eb - 1) (rs_sk gb nb pb + 1)).2 by omega) (show mi f_120 u 2 = nb by omega) hMB) (cwV 1 G0.2.2.2.2 g_X12_atom_X12_closes_170 rfl rfl rfl (by decide +kernel) ⟨(show 2 + 1 ≤ fr + 1 by omega), (show 8 + (2 + 11) + 40 ≤ lo + 60 by omega)⟩) (py_preV hw (C := RX12) (T := TX12) (N := 54) rfl hr_134) rfl rfl hl.1 rfl (lv_room (Nat.le_of_ble_eq_true rfl)) dX12_atom_79 ⟨(Nat.le_of_ble_eq_true rfl), (Nat.le_of_ble_eq_true rfl)⟩) (fun L_140 f_141 H_142 locs hp_143 hw => ?_)
          obtain ⟨en_145, en_146, en_147, en_148, en_149, en_150, en_151, hWF, kp_152, fk_153⟩ := hp_143
          have en_150 : mi f_141 u 4 = -1 → mi f_120 u 4 = -1 ∧ rs_v gb nb (rs_sk gb nb (rs_sm gb nb (eb - 1) (rs_sk gb nb pb + 1)).2) = (93 : Int) ∧ mi f_141 u 3 = rs_sk gb nb (rs_sm gb nb (eb - 1) (rs_sk gb nb pb + 1)).2 + 1 := en_150
          have en_151 : mi f_141 u 4 ≠ -1 → (mi f_120 u 4 = -1 ∧ rs_v gb nb (rs_sk gb nb (rs_sm gb nb (eb - 1) (rs_sk gb nb pb + 1)).2) ≠ (93 : Int) ∧ mi f_141 u 4 = rs_sk gb nb (rs_sm gb nb (eb - 1) (rs_sk gb nb pb + 1)).2) ∨ (mi f_120 u 4 ≠ -1 ∧ mi f_141 u 4 = mi f_120 u 4) := en_151
          have hMB := hMB.kp (kp_f kp_152 (wt12_1 hG Tu) (by decide) (by decide) (fun _ => by decide))
          have cq_154 := cdv_k hG Tu kp_152 fk_153 (by decide)
          have hFK := hFK.trans fk_153 (by decide)
          have hKP := hKP.trans kp_152 (by decide) (by decide)
          obtain ⟨v_155, v_156, v_157, hr_158⟩ := fk_3_4_5 hWF Tu fk_153 hr_134
          have tq_159 := mi_row hr_158 2 rfl
          have tq_160 := mi_row hr_158 3 rfl
          have bv_155 := wf_free v_155
          have tq_161 := mi_row hr_158 4 rfl
          have bv_156 := wf_free v_156
          have tq_162 := mi_row hr_158 5 rfl
          have bv_157 := wf_free v_157
          have tq_163 := mi_row hr_158 14 rfl
          have hTR := hTR.kp hG Tu kp_152 fk_153 (by decide) (fun q => by omega)
          refine lv_goto (tgt := 89) G0.1 G0.2.1 dX12_atom_82 (by decide) ?_
          exact py_vret G0 hr hlk hw ⟨(by first | omega | (intro q; omega)), (by first | omega | (intro q; omega)), hTR, (by intro hw; obtain ⟨z1, z2, z3⟩ := en_150 hw; obtain ⟨y1, y2⟩ := en_127 z1; have hE : (rs_at gb nb eb pb) = (1, (rs_sk gb nb (rs_sm gb nb (eb - 1) (rs_sk gb nb pb + 1)).2) + 1) := (rs_at_n (by omega) (by omega)).trans (rs_cl_1 y1 z2); rw [hE]; exact ⟨(show (1 : Int) ≠ 0 by decide), z3⟩), (by intro hw; rcases en_151 hw with ⟨z1, z2, z3⟩ | ⟨z1, z2⟩; (obtain ⟨y1, y2⟩ := en_127 z1; have hE : (rs_at gb nb eb pb) = (0, (rs_sk gb nb (rs_sm gb nb (eb - 1) (rs_sk gb nb pb + 1)).2)) := (rs_at_n (by omega) (by omega)).trans (rs_cl_e y1 z2); rw [hE]; exact ⟨rfl, z3⟩); (obtain ⟨y1, y2⟩ := en_128 z1; have hE : (rs_at gb nb eb pb) = (rs_sm gb nb (eb - 1) (rs_sk gb nb pb + 1)) := (rs_at_n (by omega) (by omega)).trans (rs_cl_0 y1); rw [hE]; exact ⟨y1, z2.trans y2⟩)), hWF, hKP, hFK⟩ dX12_atom_89
    · skip
      have tc_77 := ti_ne c_77
      replace en_74 := en_74 (by omega)
      clear en_75
      have hLT : rs_lt (rs_v gb nb (rs_sk gb nb pb)) ≠ -1 := rs_lt_ne (by rw [← (en_49.2.resolve_right (fun z => en_74.1 z.1)).1]; exact en_74.2)
      have hLN := en_74.1
      have hLD := en_74.2
      clear en_74
      refine lv_aload_n G0.1 G0.2.1 dX12_atom_32 rfl (lv_at hl 1 rfl) ?_
      refine lv_dup G0.1 G0.2.1 dX12_atom_33 rfl ?_
      refine py_get (C := RX12) (T := TX12) (N := 54) (k := 3) (v := .int v_53) G0 hw in_X12_atom_X12 rfl hr_54 (by decide) (by decide +kernel) rfl dX12_atom_34 ?_
      refine lv_iconst (v := 1) G0.1 G0.2.1 dX12_atom_37 (by decide) ?_
      refine lv_iadd G0.1 G0.2.1 dX12_atom_38 ?_
      refine lv_topi (fun x_164 ex_164 => ?_)
      first | have tx_164 := ti_add ex_164 (by omega -splitDisjunctions) (by omega -splitDisjunctions) | skip
      refine py_put (C := RX12) (T := TX12) (N := 54) (k := 3) (v := .int x_164) (fs' := [.int v_1, .ref (G.2 u 1), .int v_2, .int x_164, .int v_4, .int v_5, .ref (G.2 u 6), .ref (G.2 u 7), .ref (G.2 u 8), .ref (G.2 u 9), .ref (G.2 u 10), .ref (G.2 u 11), .ref (G.2 u 12), .int v_6, .int v_7, .ref (G.2 u 15), .ref (G.2 u 16), .ref (G.2 u 17), .ref (G.2 u 18), .int v_8, .int v_9, .ref (G.2 u 21), .ref (G.2 u 22), .ref (G.2 u 23), .int v_10, .int v_11, .ref (G.2 u 26), .ref (G.2 u 27), .ref (G.2 u 28), .int v_12, .long y_13, .int v_14, .int v_15, .int v_16, .int v_17, .ref (G.2 u 35), .ref (G.2 u 36), .ref (G.2 u 37), .ref (G.2 u 38), .ref (G.2 u 39), .ref (G.2 u 40), .ref (G.2 u 41), .ref (G.2 u 42), .int v_18, .ref (G.2 u 44), .ref (G.2 u 45), .ref (G.2 u 46), .ref (G.2 u 47), .long y_19, .ref (G.2 u 49), .ref (G.2 u 50), .int v_20, .long y_21, .int v_22]) (ty0 := tyX12) G0 hw tyX12_ok nmX12 in_X12_atom_X12 rfl hr_54 (by decide) (by decide +kernel) rfl rfl rfl rfl (Nat.le_of_ble_eq_true rfl) rfl dX12_atom_39 (fun f_165 H_166 locs h_167 x_168 hw => ?_)
      have hMB := hMB.kp (kp_f (KP.refl.upd hWF x_168 Tu (Or.inl (by decide)) : KP G [13] false f_42 f_165) (wt12_1 hG Tu) (by decide) (by decide) (fun _ => by decide))
      have hFK := hFK.put hr_54 h_167 3 (by decide) rfl
      have cq_169 := cdv_own (f1 := f_42) (f2 := f_165) hG hWF Tu x_168 (by have z1 := mi_row hr_54 14 rfl; have z2 := mi_row h_167 14 rfl; omega)
      have hTR := hTR.own hG hWF Tu x_168 (by have z1 := mi_row hr_54 14 rfl; have z2 := mi_row h_167 14 rfl; omega) (by intro q; have z1 := mi_row hr_54 4 rfl; have z2 := mi_row h_167 4 rfl; omega)
      have hKP := hKP.upd hWF x_168 Tu (Or.inl (by decide))
      have hWF := wf_upd hWF h_167 x_168 (by rw [Tu]; exact ⟨v_1, v_2, x_164, v_4, v_5, v_6, v_7, v_8, v_9, v_10, v_11, v_12, y_13, v_14, v_15, v_16, v_17, v_18, y_19, v_20, y_21, v_22, rfl, ⟨by omega, by omega⟩, ⟨by omega, by omega⟩, ⟨by omega, by omega⟩, ⟨by omega, by omega⟩, ⟨by omega, by omega⟩, ⟨by omega, by omega⟩, ⟨by omega, by omega⟩, ⟨by omega, by omega⟩, ⟨by omega, by omega⟩, ⟨by omega, by omega⟩, ⟨by omega, by omega⟩, ⟨by omega, by omega⟩⟩)
      have tq_170 := mi_row h_167 2 rfl
      have tq_171 := mi_row h_167 3 rfl
      have bx_164 := wf_free x_164
      have tq_172 := mi_row h_167 4 rfl
      have bv_4 := wf_free v_4
      have tq_173 := mi_row h_167 5 rfl
      have bv_5 := wf_free v_5
      have tq_174 := mi_row h_167 14 rfl
      refine lv_aload_n G0.1 G0.2.1 dX12_atom_42 rfl (lv_at hl 1 rfl) ?_
      refine lv_iconst (v := 1) G0.1 G0.2.1 dX12_atom_43 (by decide) ?_
      refine lv_iload_n G0.1 G0.2.1 dX12_atom_44 rfl (lv_at hl 0 rfl) ?_
      refine py_calli hw (va_runS (As := [.int r_45]) (rest := [.int 1, .ref u]) G0 (c_X12_letterOf l E G L_41 f_165 H_166.size r_45 hG hWF) (va_cwS 1 G0.2.2.2.2 g_X12_atom_X12_letterOf_160 rfl rfl rfl (by decide +kernel) ⟨(show 0 + 1 ≤ fr + 1 by omega), (show 8 + (1 + 11) + 0 ≤ lo + 60 by omega)⟩) (py_preS hw) rfl rfl hl.1 rfl (lv_room (Nat.le_of_ble_eq_true rfl)) dX12_atom_45 ⟨(Nat.le_of_ble_eq_true rfl), (Nat.le_of_ble_eq_true rfl)⟩) (fun r_179 L_175 f_176 H_177 locs hp_178 hw => ?_)
      obtain ⟨b_182, en_180, en_181, rfl, rfl⟩ := hp_178
      have hl2 : r_179.toInt ≠ -1 := fun z => rs_lt6 hLD (en_181 z)
      clear hLD en_180 en_181
      refine py_callv hw (va_runV (As := [.int 1, .int r_179]) (rest := []) G0 (c_X12_put l E G L_41 f_165 H_177.size u 1 r_179 hG hWF Tu (show cdv f_165 G u ≤ 339 by omega)) (cwV 2 G0.2.2.2.2 g_X12_atom_X12_put_156 rfl rfl rfl (by decide +kernel) ⟨(show 0 + 1 ≤ fr + 1 by omega), (show 8 + (3 + 11) + 0 ≤ lo + 60 by omega)⟩) (py_preV hw (C := RX12) (T := TX12) (N := 54) rfl h_167) rfl rfl hl.1 rfl (lv_room (Nat.le_of_ble_eq_true rfl)) dX12_atom_48 ⟨(Nat.le_of_ble_eq_true rfl), (Nat.le_of_ble_eq_true rfl)⟩) (fun L_183 f_184 H_185 locs hp_186 hw => ?_)
      obtain ⟨en_188, en_189, hWF, kp_190, fk_191⟩ := hp_186
      have en_188 : PT f_165 f_184 G u (1 : Int32) r_179 := en_188
      have hMB := hMB.kp (kp_f kp_190 (wt12_1 hG Tu) (by decide) (by decide) (fun _ => by decide))
      have hFK := hFK.trans fk_191 (by decide)
      have hKP := hKP.trans kp_190 (by decide) (by decide)
      have h_167 := kp_at kp_190 hWF Tu (by decide) (by decide) (by decide) h_167
      have tq_192 := mi_row h_167 2 rfl
      have tq_193 := mi_row h_167 3 rfl
      have bx_164 := wf_free x_164
      have tq_194 := mi_row h_167 4 rfl
      have bv_4 := wf_free v_4
      have tq_195 := mi_row h_167 5 rfl
      have bv_5 := wf_free v_5
      have tq_196 := mi_row h_167 14 rfl
      have hTR : TR f f_184 G u (13 - 2 * wb) 0 1 := hTR.trans (en_188.tr (by omega)) (fun q => by omega)
      refine lv_goto (tgt := 89) G0.1 G0.2.1 dX12_atom_51 (by decide) ?_
      exact py_vret G0 hr hlk hw ⟨(by first | omega | (intro q; omega)), (by first | omega | (intro q; omega)), hTR, (by intro hw; have hE : (rs_at gb nb eb pb) = (1, rs_sk gb nb pb + 1) := rs_at_l hLT; rw [hE]; exact ⟨(show (1 : Int) ≠ 0 by decide), (show mi f_184 u 3 = rs_sk gb nb pb + 1 by omega)⟩), (fun hw => absurd (show mi f_184 u 4 = -1 by omega) hw), hWF, hKP, hFK⟩ dX12_atom_89
  · skip
    have tc_68 := ti_ne c_68
    replace en_65 := en_65 (by omega)
    clear en_66
    have hdd := rs_d_eq (rs_v gb nb (rs_sk gb nb pb))
    refine lv_aload_n G0.1 G0.2.1 dX12_atom_12 rfl (lv_at hl 1 rfl) ?_
    refine lv_iconst (v := 0) G0.1 G0.2.1 dX12_atom_13 (by decide) ?_
    refine lv_aload_n G0.1 G0.2.1 dX12_atom_14 rfl (lv_at hl 1 rfl) ?_
    refine py_calli hw (va_runV (As := []) (rest := [.int 0, .ref u]) G0 (c_X12_plainNumber l E G L_41 f_42 H_62.size u gb nb (rs_sk gb nb pb) hG hWF Tu (show 0 ≤ mi f_42 u 3 ∧ mi f_42 u 3 ≤ mi f_42 u 2 by omega) (show mi f_42 u 3 = (rs_sk gb nb pb) by omega) (show mi f_42 u 4 = -1 by omega) (show rs_d (rs_v gb nb (rs_sk gb nb pb)) = 1 by omega) (show mi f_42 u 2 = nb ∧ 0 ≤ (rs_sk gb nb pb) by omega) hMB) (cwV 0 G0.2.2.2.2 g_X12_atom_X12_plainNumber_153 rfl rfl rfl (by decide +kernel) ⟨(show 1 + 1 ≤ fr + 1 by omega), (show 8 + (3 + 11) + 20 ≤ lo + 60 by omega)⟩) (py_preV hw (C := RX12) (T := TX12) (N := 54) rfl hr_54) rfl rfl hl.1 rfl (lv_room (Nat.le_of_ble_eq_true rfl)) dX12_atom_15 ⟨(Nat.le_of_ble_eq_true rfl), (Nat.le_of_ble_eq_true rfl)⟩) (fun r_201 L_197 f_198 H_199 locs hp_200 hw => ?_)
    obtain ⟨en_202, en_203, en_204, en_205, en_206, en_207, hWF, kp_208, fk_209⟩ := hp_200
    have hMB := hMB.kp (kp_f kp_208 (wt12_1 hG Tu) (by decide) (by decide) (fun _ => by decide))
    have cq_210 := cdv_k hG Tu kp_208 fk_209 (by decide)
    have hFK := hFK.trans fk_209 (by decide)
    have hKP := hKP.trans kp_208 (by decide) (by decide)
    obtain ⟨v_211, v_212, hr_213⟩ := fk_3_4 hWF Tu fk_209 hr_54
    have tq_214 := mi_row hr_213 2 rfl
    have tq_215 := mi_row hr_213 3 rfl
    have bv_211 := wf_free v_211
    have tq_216 := mi_row hr_213 4 rfl
    have bv_212 := wf_free v_212
    have tq_217 := mi_row hr_213 5 rfl
    have bv_5 := wf_free v_5
    have tq_218 := mi_row hr_213 14 rfl
    have hTR := hTR.kp hG Tu kp_208 fk_209 (by decide) (fun q => by omega)
    have br_201 := wf_free r_201
    refine py_callv hw (va_runV (As := [.int 0, .int r_201]) (rest := []) G0 (c_X12_put l E G L_197 f_198 H_199.size u 0 r_201 hG hWF Tu (show cdv f_198 G u ≤ 339 by omega)) (cwV 2 G0.2.2.2.2 g_X12_atom_X12_put_156 rfl rfl rfl (by decide +kernel) ⟨(show 0 + 1 ≤ fr + 1 by omega), (show 8 + (3 + 11) + 0 ≤ lo + 60 by omega)⟩) (py_preV hw (C := RX12) (T := TX12) (N := 54) rfl hr_213) rfl rfl hl.1 rfl (lv_room (Nat.le_of_ble_eq_true rfl)) dX12_atom_18 ⟨(Nat.le_of_ble_eq_true rfl), (Nat.le_of_ble_eq_true rfl)⟩) (fun L_219 f_220 H_221 locs hp_222 hw => ?_)
    obtain ⟨en_224, en_225, hWF, kp_226, fk_227⟩ := hp_222
    have en_224 : PT f_198 f_220 G u (0 : Int32) r_201 := en_224
    have hMB := hMB.kp (kp_f kp_226 (wt12_1 hG Tu) (by decide) (by decide) (fun _ => by decide))
    have hFK := hFK.trans fk_227 (by decide)
    have hKP := hKP.trans kp_226 (by decide) (by decide)
    have hr_213 := kp_at kp_226 hWF Tu (by decide) (by decide) (by decide) hr_213
    have tq_228 := mi_row hr_213 2 rfl
    have tq_229 := mi_row hr_213 3 rfl
    have bv_211 := wf_free v_211
    have tq_230 := mi_row hr_213 4 rfl
    have bv_212 := wf_free v_212
    have tq_231 := mi_row hr_213 5 rfl
    have bv_5 := wf_free v_5
    have tq_232 := mi_row hr_213 14 rfl
    have hTR : TR f f_220 G u (13 - 2 * wb) 0 1 := hTR.trans (en_224.tr (by omega)) (fun q => by omega)
    refine lv_goto (tgt := 89) G0.1 G0.2.1 dX12_atom_21 (by decide) ?_
    exact py_vret G0 hr hlk hw ⟨(by first | omega | (intro q; omega)), (by first | omega | (intro q; omega)), hTR, (by intro hw; have hz := en_206 (by omega); have hE : (rs_at gb nb eb pb) = (rs_num gb nb 4 (rs_sk gb nb pb)) := rs_at_m (by omega) (rs_lt_dg (by omega) (by omega)); rw [hE]; exact ⟨hz.1, by omega⟩), (by intro hw; have hz := en_207 (by omega); have hE : (rs_at gb nb eb pb) = (rs_num gb nb 4 (rs_sk gb nb pb)) := rs_at_m (by omega) (rs_lt_dg (by omega) (by omega)); rw [hE]; exact ⟨hz.1, by omega⟩), hWF, hKP, hFK⟩ dX12_atom_89
