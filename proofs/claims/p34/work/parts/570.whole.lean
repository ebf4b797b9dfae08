set_option maxHeartbeats 4000000 in
set_option maxRecDepth 100000 in
theorem whole_start {p : Program} {e : Env} {s : State} {m : MethodId} {below : List Frame} {meth : Method} {c : Code} (l : Launch) (hflags : l.flags = flags0) {b L : Nat} {xs : Nat → Int32} (hL : L ≤ 3072) (C0 : lw_At p s m meth c b L xs) : W p l e room_1 s m #[Value.ref b] below meth c s.heap [] 0 0 (lw_Z below #[Value.ref b] s) (entryFrame m ([Value.ref b] : List Value).toArray 7) := by
  obtain ⟨hx, hb, hr, hml, hown, hts, hX, hbl, hlocks, hgv⟩ := id C0
  have hbA : ¬ (fun q : Nat => s.heap.size ≤ q) b := Nat.not_le.mpr hbl
  have hst : l.stackTraces = false := by
    show (!l.flags.contains noTraceFlag) = false
    rw [hflags]
    decide +kernel
  obtain ⟨cX0, iX0, kX0⟩ := u_known (C := RX0) (T := TX0) (N := 5) (n := 5) hts iu_X0 (hts _ mw_118)
  obtain ⟨cX1, iX1, kX1⟩ := u_known (C := RX1) (T := TX1) (N := 3) (n := 3) hts iu_X1 (hts _ mw_123)
  obtain ⟨cX2, iX2, kX2⟩ := u_known (C := RX2) (T := TX2) (N := 12) (n := 12) hts iu_X2 (hts _ mw_130)
  obtain ⟨cX3, iX3, kX3⟩ := u_known (C := RX3) (T := TX3) (N := 3) (n := 3) hts iu_X3 (hts _ mw_37)
  obtain ⟨cX4, iX4, kX4⟩ := u_known (C := RX4) (T := TX4) (N := 1) (n := 1) hts iu_X4 (hts _ mw_140)
  obtain ⟨cX5, iX5, kX5⟩ := u_known (C := RX5) (T := TX5) (N := 1) (n := 1) hts iu_X5 (hts _ mw_108)
  obtain ⟨cX6, iX6, kX6⟩ := u_known (C := RX6) (T := TX6) (N := 7) (n := 7) hts iu_X6 (hts _ mw_103)
  obtain ⟨cX7, iX7, kX7⟩ := u_known (C := RX7) (T := TX7) (N := 5) (n := 5) hts iu_X7 (hts _ mw_113)
  obtain ⟨cX8, iX8, kX8⟩ := u_known (C := RX8) (T := TX8) (N := 4) (n := 4) hts iu_X8 (hts _ mw_150)
  obtain ⟨cX9, iX9, kX9⟩ := u_known (C := RX9) (T := TX9) (N := 10) (n := 10) hts iu_X9 (hts _ mw_24)
  obtain ⟨cX10, iX10, kX10⟩ := u_known (C := RX10) (T := TX10) (N := 2) (n := 2) hts iu_X10 (hts _ mw_145)
  obtain ⟨cX11, iX11, kX11⟩ := u_known (C := RX11) (T := TX11) (N := 16) (n := 16) hts iu_X11 (hts _ mw_1303)
  obtain ⟨cX12, iX12, kX12⟩ := u_known (C := RX12) (T := TX12) (N := 54) (n := 54) hts iu_X12 (hts _ mw_1299)
  obtain ⟨aI, bI, dI⟩ : ∃ z : ClassId, ArrOfT s z .int ∧ va_RA s z .int := by
    obtain ⟨z, k, comp, h1, h2, h3⟩ := Cond.arrayClass_spec (type := .int) (hts _ mw_4)
    exact ⟨z, fun n z => ⟨fun k h => (by cases h), k, h2, comp, h3⟩, h1⟩
  obtain ⟨aJ, bJ, dJ⟩ : ∃ z : ClassId, ArrOfT s z .long ∧ va_RA s z .long := by
    obtain ⟨z, k, comp, h1, h2, h3⟩ := Cond.arrayClass_spec (type := .long) (hts _ mw_92)
    exact ⟨z, fun n z => ⟨fun k h => (by cases h), k, h2, comp, h3⟩, h1⟩
  obtain ⟨aZ, bZ, dZ⟩ : ∃ z : ClassId, ArrOfT s z .boolean ∧ va_RA s z .boolean := by
    obtain ⟨z, k, comp, h1, h2, h3⟩ := Cond.arrayClass_spec (type := .boolean) (hts _ mw_53)
    exact ⟨z, fun n z => ⟨fun k h => (by cases h), k, h2, comp, h3⟩, h1⟩
  obtain ⟨aL, bL, dL⟩ : ∃ z : ClassId, ArrOfT s z (.object RX3) ∧ va_RA s z (.object RX3) := by
    obtain ⟨comp, z, k, h1, h2, h3, h4, h5⟩ := Cond.arrayOver_spec (hts _ ao_in)
    exact ⟨z, fun n z => ⟨fun k h => (by cases h), k, h3, comp, h4⟩, k, comp, h3, h4, h1, h5⟩
  obtain ⟨E, hK⟩ : ∃ E : py_E, va_K E.1 vwCl (py_ty E) s := by
    refine ⟨((fun k => match k with | 0 => cX0 | 1 => cX1 | 2 => cX2 | 3 => cX3 | 4 => cX4 | 5 => cX5 | 6 => cX6 | 7 => cX7 | 8 => cX8 | 9 => cX9 | 10 => cX10 | 11 => cX11 | _ => cX12, fun k => match k with | 0 => iX0 | 1 => iX1 | 2 => iX2 | 3 => iX3 | 4 => iX4 | 5 => iX5 | 6 => iX6 | 7 => iX7 | 8 => iX8 | 9 => iX9 | 10 => iX10 | 11 => iX11 | _ => iX12), aI, aJ, aZ, aL), fun k q hq => ?_, fun k q hq => ?_⟩
    · match k, hq with
      | 0, hq => cases hq; exact kX0
      | 1, hq => cases hq; exact kX1
      | 2, hq => cases hq; exact kX2
      | 3, hq => cases hq; exact kX3
      | 4, hq => cases hq; exact kX4
      | 5, hq => cases hq; exact kX5
      | 6, hq => cases hq; exact kX6
      | 7, hq => cases hq; exact kX7
      | 8, hq => cases hq; exact kX8
      | 9, hq => cases hq; exact kX9
      | 10, hq => cases hq; exact kX10
      | 11, hq => cases hq; exact kX11
      | 12, hq => cases hq; exact kX12
      | k + 13, hq => simp [vwCl] at hq
    · match k, hq with
      | 0, hq => cases hq; exact ⟨bI, dI⟩
      | 1, hq => cases hq; exact ⟨bJ, dJ⟩
      | 2, hq => cases hq; exact ⟨bZ, dZ⟩
      | 3, hq => cases hq; exact ⟨bL, dL⟩
      | k + 4, hq => simp [py_ty] at hq
  have hpX : py_X s := ⟨⟨va_AO.of (hts _ ao_in), fun w hw => va_Nw.of (py_th_on w hw) (hts w (th_in w hw))⟩, fun q hq => va_Nw.of rfl (hts _ (ne_in q hq))⟩
  have hA0 : ∀ a : Nat, a < s.heap.size → ¬ (fun q : Nat => s.heap.size ≤ q) a := fun a h => Nat.not_le.mpr h
  have hTh : py_Th (fun q : Nat => s.heap.size ≤ q) s s.heap := ⟨vx_Zqof (hts _ ls_in1) (hts _ ini_in) (flat_of_before _ hgv _ (by decide +kernel)) hA0, vx_Zqof (hts _ ls_in2) (hts _ ini_in) (flat_of_before _ hgv _ (by decide +kernel)) hA0⟩
  have hS0 : py_sa "HeadYear$ValleyReader" "LETTERS" "[C" .char 8 (py_row st_VL) (fun q : Nat => s.heap.size ≤ q) s s.heap := py_saI (by decide) (hts _ sl_in0) (hts _ si_ValleyReader) (flat_of_before _ hgv _ (by decide +kernel)) (flat_of_before _ hgv _ (by decide +kernel)) (fun j hj => match j, hj with | 0, _ => flat_of_before _ hgv _ (by decide +kernel) | 1, _ => flat_of_before _ hgv _ (by decide +kernel) | 2, _ => flat_of_before _ hgv _ (by decide +kernel) | 3, _ => flat_of_before _ hgv _ (by decide +kernel) | 4, _ => flat_of_before _ hgv _ (by decide +kernel) | 5, _ => flat_of_before _ hgv _ (by decide +kernel) | 6, _ => flat_of_before _ hgv _ (by decide +kernel) | 7, _ => flat_of_before _ hgv _ (by decide +kernel) | n + 8, h => absurd h (by omega)) hA0
  have hS1 : py_sa "HeadYear$ValleyReader" "LEAST" "[I" .int 8 (py_row st_LE) (fun q : Nat => s.heap.size ≤ q) s s.heap := py_saI (by decide) (hts _ sl_in1) (hts _ si_ValleyReader) (flat_of_before _ hgv _ (by decide +kernel)) (flat_of_before _ hgv _ (by decide +kernel)) (fun j hj => match j, hj with | 0, _ => flat_of_before _ hgv _ (by decide +kernel) | 1, _ => flat_of_before _ hgv _ (by decide +kernel) | 2, _ => flat_of_before _ hgv _ (by decide +kernel) | 3, _ => flat_of_before _ hgv _ (by decide +kernel) | 4, _ => flat_of_before _ hgv _ (by decide +kernel) | 5, _ => flat_of_before _ hgv _ (by decide +kernel) | 6, _ => flat_of_before _ hgv _ (by decide +kernel) | 7, _ => flat_of_before _ hgv _ (by decide +kernel) | n + 8, h => absurd h (by omega)) hA0
  have hS2 : py_sa "HeadYear$ValleyReader" "MOST" "[I" .int 8 (py_row st_MO) (fun q : Nat => s.heap.size ≤ q) s s.heap := py_saI (by decide) (hts _ sl_in2) (hts _ si_ValleyReader) (flat_of_before _ hgv _ (by decide +kernel)) (flat_of_before _ hgv _ (by decide +kernel)) (fun j hj => match j, hj with | 0, _ => flat_of_before _ hgv _ (by decide +kernel) | 1, _ => flat_of_before _ hgv _ (by decide +kernel) | 2, _ => flat_of_before _ hgv _ (by decide +kernel) | 3, _ => flat_of_before _ hgv _ (by decide +kernel) | 4, _ => flat_of_before _ hgv _ (by decide +kernel) | 5, _ => flat_of_before _ hgv _ (by decide +kernel) | 6, _ => flat_of_before _ hgv _ (by decide +kernel) | 7, _ => flat_of_before _ hgv _ (by decide +kernel) | n + 8, h => absurd h (by omega)) hA0
  have hS3 : py_sa "HeadYear$ValleyReader" "USUAL" "[I" .int 8 (py_row st_US) (fun q : Nat => s.heap.size ≤ q) s s.heap := py_saI (by decide) (hts _ sl_in3) (hts _ si_ValleyReader) (flat_of_before _ hgv _ (by decide +kernel)) (flat_of_before _ hgv _ (by decide +kernel)) (fun j hj => match j, hj with | 0, _ => flat_of_before _ hgv _ (by decide +kernel) | 1, _ => flat_of_before _ hgv _ (by decide +kernel) | 2, _ => flat_of_before _ hgv _ (by decide +kernel) | 3, _ => flat_of_before _ hgv _ (by decide +kernel) | 4, _ => flat_of_before _ hgv _ (by decide +kernel) | 5, _ => flat_of_before _ hgv _ (by decide +kernel) | 6, _ => flat_of_before _ hgv _ (by decide +kernel) | 7, _ => flat_of_before _ hgv _ (by decide +kernel) | n + 8, h => absurd h (by omega)) hA0
  have hS4 : py_sa "HeadYear$LawReader" "LETTERS" "[C" .char 6 (py_row st_LL) (fun q : Nat => s.heap.size ≤ q) s s.heap := py_saI (by decide) (hts _ sl_in4) (hts _ si_LawReader) (flat_of_before _ hgv _ (by decide +kernel)) (flat_of_before _ hgv _ (by decide +kernel)) (fun j hj => match j, hj with | 0, _ => flat_of_before _ hgv _ (by decide +kernel) | 1, _ => flat_of_before _ hgv _ (by decide +kernel) | 2, _ => flat_of_before _ hgv _ (by decide +kernel) | 3, _ => flat_of_before _ hgv _ (by decide +kernel) | 4, _ => flat_of_before _ hgv _ (by decide +kernel) | 5, _ => flat_of_before _ hgv _ (by decide +kernel) | n + 6, h => absurd h (by omega)) hA0
  obtain ⟨f0⟩ : Nonempty py_F := ⟨fun _ => .inr (0, [])⟩
  have hw : py_W E (fun q : Nat => s.heap.size ≤ q) s ([] : List Nat) f0 s.heap [] := ⟨⟨hK, hpX⟩, fun k q h => by simp [va_pl] at h, ⟨fun i j p q h => by simp [va_pl] at h, fun k q h => by simp [va_pl] at h⟩, va_S.rf, fun q h => h, hTh, hS0, hS1, hS2, hS3, hS4⟩
  have G0 : CallFix p m c cL_law 7 s #[Value.ref b] w_L_law RL := ⟨hx, hb, hml, hown, fun w h => hts w (ml_L_law w h)⟩
  have hl := lv_entry ([.ref b]) (n := 7) (Nat.le_of_ble_eq_true rfl)
  rw [lg_entry_eq]
  generalize (lg_sl ([.ref b]) ++ List.replicate (7 - (lg_sl ([.ref b])).length) Slot.unset).toArray = ls at hl ⊢
  have hl : lv_has ls 7 [(0, .ref b)] := hl
  obtain ⟨G00, hG00⟩ : ∃ g : wf_G, g = (fun _ => 0, fun _ _ => 0) := ⟨_, rfl⟩
  have h00 : ∀ a : Nat, G00.1 a = 0 := fun a => by rw [hG00]
  have hZ0 : GZ E G00 ([] : List Nat) f0 := ⟨fun a => by rw [h00 a]; exact trivial, fun a ha => absurd (h00 a) ha, fun o ho => absurd ((h00 o).symm.trans ho) (by decide)⟩
  refine py_new (C := RX11) (T := TX11) (N := 16) (ci := 11) (fs := [.null, .null, .null, .null, .null, .null, .null, .null, .null, .null, .null, .null, .null, .int 0, .int 0, .int 0]) (ty0 := tyX11) G0 hw tyX11_ok in_L_law_X11 rfl (by decide +kernel) (by decide +kernel) (by decide +kernel) (fun j hj => match j, hj with | 0, _ => rfl | 1, _ => rfl | 2, _ => rfl | 3, _ => rfl | 4, _ => rfl | 5, _ => rfl | 6, _ => rfl | 7, _ => rfl | 8, _ => rfl | 9, _ => rfl | 10, _ => rfl | 11, _ => rfl | 12, _ => rfl | 13, _ => rfl | 14, _ => rfl | 15, _ => rfl | n + 16, h => absurd h (by omega)) (Nat.le_of_ble_eq_true rfl) (Nat.le_of_ble_eq_true rfl) dL_law_0 (fun q1 L1 f1 H1 hq1 h1 x1 hw => ?_)
  refine lv_dup G0.1 G0.2.1 dL_law_3 rfl ?_
  refine py_callv hw (va_runI (As := []) (rest := [.ref q1]) G0 (c_X11_init l E G00 L1 f1 H1.size q1 (hZ0.all x1) h1 (h00 _)) (cwI 0 G0.2.2.2.2 g_L_law_X11_init_15 rfl rfl rfl (G0.2.2.2.2 (Cond.initialized RX11) (by decide +kernel)) (G0.2.2.2.2 (Cond.methodLink RL 15 yX11_init) (by decide +kernel)) (G0.2.2.2.2 (Cond.instanceMethod yX11_init) (by decide +kernel)) rfl (by decide +kernel) ⟨(Nat.le_of_ble_eq_true rfl), (Nat.le_of_ble_eq_true rfl)⟩) (py_preS hw) rfl rfl hl.1 rfl (lv_room (Nat.le_of_ble_eq_true rfl)) dL_law_4 ⟨(Nat.le_of_ble_eq_true rfl), (Nat.le_of_ble_eq_true rfl)⟩) (fun L2 f2 H2 locs hp hw => ?_)
  obtain ⟨G1, gx1, hZ1, Tx, nt1, hGI, hl0, hn0, hy0, hy1, hy2⟩ := hp
  refine lv_astore_n (lv' := [(1, .ref q1), (0, .ref b)]) G0.1 G0.2.1 dL_law_7 rfl hl (by decide) rfl (fun ls hl => ?_)
  refine py_new (C := RX12) (T := TX12) (N := 54) (ci := 12) (fs := [.int 0, .null, .int 0, .int 0, .int 0, .int 0, .null, .null, .null, .null, .null, .null, .null, .int 0, .int 0, .null, .null, .null, .null, .int 0, .int 0, .null, .null, .null, .int 0, .int 0, .null, .null, .null, .int 0, .long 0, .int 0, .int 0, .int 0, .int 0, .null, .null, .null, .null, .null, .null, .null, .null, .int 0, .null, .null, .null, .null, .long 0, .null, .null, .int 0, .long 0, .int 0]) (ty0 := tyX12) G0 hw tyX12_ok in_L_law_X12 rfl (by decide +kernel) (by decide +kernel) (by decide +kernel) (fun j hj => match j, hj with | 0, _ => rfl | 1, _ => rfl | 2, _ => rfl | 3, _ => rfl | 4, _ => rfl | 5, _ => rfl | 6, _ => rfl | 7, _ => rfl | 8, _ => rfl | 9, _ => rfl | 10, _ => rfl | 11, _ => rfl | 12, _ => rfl | 13, _ => rfl | 14, _ => rfl | 15, _ => rfl | 16, _ => rfl | 17, _ => rfl | 18, _ => rfl | 19, _ => rfl | 20, _ => rfl | 21, _ => rfl | 22, _ => rfl | 23, _ => rfl | 24, _ => rfl | 25, _ => rfl | 26, _ => rfl | 27, _ => rfl | 28, _ => rfl | 29, _ => rfl | 30, _ => rfl | 31, _ => rfl | 32, _ => rfl | 33, _ => rfl | 34, _ => rfl | 35, _ => rfl | 36, _ => rfl | 37, _ => rfl | 38, _ => rfl | 39, _ => rfl | 40, _ => rfl | 41, _ => rfl | 42, _ => rfl | 43, _ => rfl | 44, _ => rfl | 45, _ => rfl | 46, _ => rfl | 47, _ => rfl | 48, _ => rfl | 49, _ => rfl | 50, _ => rfl | 51, _ => rfl | 52, _ => rfl | 53, _ => rfl | n + 54, h => absurd h (by omega)) (Nat.le_of_ble_eq_true rfl) (Nat.le_of_ble_eq_true rfl) dL_law_8 (fun q3 L3 f3 H3 hq3 h3 x3 hw => ?_)
  refine lv_dup G0.1 G0.2.1 dL_law_11 rfl ?_
  refine py_callv hw (va_runI (As := []) (rest := [.ref q3]) G0 (c_X12_init l E G1 L3 f3 H3.size q3 (hZ1.all x3) h3 (hZ1.un hq3)) (cwI 0 G0.2.2.2.2 g_L_law_X12_init_18 rfl rfl rfl (G0.2.2.2.2 (Cond.initialized RX12) (by decide +kernel)) (G0.2.2.2.2 (Cond.methodLink RL 18 yX12_init) (by decide +kernel)) (G0.2.2.2.2 (Cond.instanceMethod yX12_init) (by decide +kernel)) rfl (by decide +kernel) ⟨(Nat.le_of_ble_eq_true rfl), (Nat.le_of_ble_eq_true rfl)⟩) (py_preS hw) rfl rfl hl.1 rfl (lv_room (Nat.le_of_ble_eq_true rfl)) dL_law_12 ⟨(Nat.le_of_ble_eq_true rfl), (Nat.le_of_ble_eq_true rfl)⟩) (fun L4 f4 H4 locs hp hw => ?_)
  obtain ⟨G2, gx2, hZ2, Tu, nt2, hGM, hm2, hm13, hm25, hm29, hm53⟩ := hp
  have al2 : ∀ b : Nat, G1.1 b ≠ 0 → f4 b = f2 b := fun b hb => by obtain ⟨m1, -⟩ := hZ1.2.1 b hb; obtain ⟨z1, z2⟩ := x3 b m1; exact ((nt2 b z1 (fun e => hq3 (e ▸ m1))).2.1).trans z2
  have hGI2 := hGI.gx hZ1.1 hZ1.2.1 Tx gx2 al2 hZ2.2.2
  have Tx1 := Tx
  refine lv_astore_n (lv' := [(2, .ref q3), (1, .ref q1), (0, .ref b)]) G0.1 G0.2.1 dL_law_15 rfl hl (by decide) rfl (fun ls hl => ?_)
  refine lv_iconst (v := 1) G0.1 G0.2.1 dL_law_16 (by decide) ?_
  refine py_newJ (N := 1) G0 hw (by decide +kernel) (by decide) (by decide) (Nat.le_of_ble_eq_true rfl) (Nat.le_of_ble_eq_true rfl) (Nat.le_of_ble_eq_true rfl) dL_law_17 (fun q5 L5 f5 H5 hq5 h5 x5 hw => ?_)
  obtain ⟨G3, gx3, hZ4, To, e3⟩ := (hZ2.all x5).arrK (c := 72) (hZ2.un hq5) (by decide) (by decide) h5 (fun _ => ⟨_, rfl⟩) (fun _ => rfl)
  have Tx2 := gx2.ty Tx (by decide)
  have hGI3 := hGI2.gx hZ2.1 hZ2.2.1 Tx2 gx3 (fun b hb => (x5 b (hZ2.2.1 b hb).1).2) hZ4.2.2
  have hGM3 := (hGM.all hZ2.1 hZ2.2.1 Tu (fun b hb => (x5 b hb).2)).gx Tu gx3
  have al3 : ∀ b : Nat, G2.1 b ≠ 0 → f5 b = f4 b := fun b hb => (x5 b (hZ2.2.1 b hb).1).2
  have t9 := (wt_11 hZ1.1 Tx1).1
  have b0 : G3.2 q1 0 = G1.2 q1 0 := ((gx3 q1 (by rw [Tx2]; decide)).2 0).trans ((gx2 q1 (by rw [Tx1]; decide)).2 0)
  have hTI : TI G3 f5 q1 q3 (gfn f5 (G3.2 (G3.2 q1 0) 0)) 0 := ⟨⟨by rw [b0]; exact (tp_kp ((al3 _ (by rw [gx2.ty t9 (by decide)]; decide)).trans (al2 _ (by rw [t9]; decide)))).trans hl0, (mi_kp (al3 q3 (by rw [Tu]; decide)) 2).trans hm2, Int.le_refl 0, by decide, by rw [(hy_same ((al3 q1 (by rw [Tx2]; decide)).trans (al2 q1 (by rw [Tx1]; decide)))).1, hn0, mi_kp (al3 q3 (by rw [Tu]; decide)) 13, hm13]⟩, rfl, fun p a b => absurd b (by omega), fun p a b => absurd b (by omega)⟩
  have t5 := (wt_11 hZ1.1 Tx1).2.2.2.2.2.1
  have t10 := fo_ty hZ1.2.1 t5
  have b5 : G3.2 q1 5 = G1.2 q1 5 := ((gx3 q1 (by rw [Tx2]; decide)).2 5).trans ((gx2 q1 (by rw [Tx1]; decide)).2 5)
  have k5 : f5 (G1.2 q1 5) = f2 (G1.2 q1 5) := (al3 _ (by rw [gx2.ty t5 (by decide)]; decide)).trans (al2 _ (by rw [t5]; decide))
  have kv : f5 (fo_v f2 (G1.2 q1 5)) = f2 (fo_v f2 (G1.2 q1 5)) := (al3 _ (by rw [gx2.ty t10 (by decide)]; decide)).trans (al2 _ (by rw [t10]; decide))
  have kx := (hy_same ((al3 q1 (by rw [Tx2]; decide)).trans (al2 q1 (by rw [Tx1]; decide)))).2
  have ku := al3 q3 (by rw [Tu]; decide)
  have z1 : fv_l f5 (G3.2 q1 5) = 0 := by rw [b5, (fv_v (fo_kp k5).1 kv).1]; exact hy0
  have z2 : fo_y f5 (G3.2 q1 5) = 0 := by rw [b5, (fo_kp k5).2]; exact hy1
  have z3 := kx.trans hy2
  have z25 := (mi_kp ku 25).trans hm25
  have z29 := (mi_kp ku 29).trans hm29
  have z53 := (mi_kp ku 53).trans hm53
  have hTY : TY G3 f5 q1 q3 := ⟨by omega, by omega, by omega, by omega, by omega⟩
  refine lv_astore_n (lv' := [(3, .ref q5), (2, .ref q3), (1, .ref q1), (0, .ref b)]) G0.1 G0.2.1 dL_law_19 rfl hl (by decide) rfl (fun ls hl => ?_)
  refine lv_iconst (v := 0) G0.1 G0.2.1 dL_law_20 (by decide) ?_
  refine lv_istore (lv' := [(4, .int 0), (3, .ref q5), (2, .ref q3), (1, .ref q1), (0, .ref b)]) G0.1 G0.2.1 dL_law_21 hl (by decide) rfl (fun ls hl => ?_)
  refine W.widen (k := 131 + 8 * 0) (n := 11321 + 256 * 0) (Nat.le_of_ble_eq_true rfl) (Nat.le_of_ble_eq_true rfl) ?_
  exact law_loop l hst C0 G0 hL 513 0 L5 f5 _ _ q1 q3 q5 0 ls rfl (by omega) rfl ⟨G3, _, _, hZ4.1, hZ4.2.1, gx3.ty Tx2 (by decide), gx3.ty Tu (by decide), To, hGI3, hGM3, hTI, hTY⟩ hw hl
-- ===== YOUR PART ENDS =====
set_option maxHeartbeats 4000000 in
theorem lw_walk (l : Launch) (hflags : l.flags = flags0) (b : Addr) (xs : List Int32) : MetFree l x (headSpec (Jvm.Cond.code x code maxLocals ret :: tables_1) room_1) (lw_P b xs) (fun _ _ _ _ _ => True) lw_Q := by
  refine MetFree.of_bodyS (code := code) (maxLocals := maxLocals) (ret := ret) (by decide) ?_ ?_
  · intro args s m h hn
    obtain ⟨meth, c, h1, h2, h3, h4, h5, h6, -, -⟩ := Cond.code_spec hn (atoms_spec (ws := Jvm.Cond.code x code maxLocals ret :: tables_1) h _ List.mem_cons_self)
    exact ⟨meth, c, h1, h2, h3, h4, h5, h6⟩
  · intro p e s m args below meth c s₁ B hml0 hP _
    obtain ⟨rfl, hx, hbd, hgv⟩ := hP
    obtain ⟨scr, harrAt, hlist, hof, hsmall⟩ := hx
    obtain ⟨hcb, hkn, -, -⟩ := State.arrayAt?_spec harrAt
    have hown : s.vm.findClass R_law = some m.cls := findClass_of_methodNamed B.named
    have hts0 : ∀ c ∈ (Jvm.Cond.code x code maxLocals ret :: tables_1), c.before #[Value.ref b] s = true := atoms_spec (ws := Jvm.Cond.code x code maxLocals ret :: tables_1) B.pre
    have hts : ∀ w ∈ lw_tbl, w.before #[Value.ref b] s = true := k2_hts_sels lw_privs (fun w hw => hts0 w (List.mem_cons_of_mem _ hw)) lw_privs_ok
    have hml : c.maxLocals = 7 := B.maxLocals_eq (hts0 _ List.mem_cons_self)
    have X₀ : Stand p l e room_1 s m #[Value.ref b] below meth c s₁ [] 0 0 := Stand.of_body B
    have hh0 : s₁.heap = s.heap := by rw [B.state]; rfl
    have hsz : scr.slots.size = xs.length := by rw [← Array.length_toList, hlist, List.length_map]
    have hval : ∀ j : Nat, j < xs.length → scr.slots[j]? = some (.int (xs.getD j 0)) := fun j hj => by
      rw [← Array.getElem?_toList, hlist]
      simp [hj]
    have hbl : b < s.heap.size := (Array.getElem?_eq_some_iff.mp hcb).1
    have hX : va_X b xs.length (fun j => xs.getD j 0) s s.heap := ⟨scr, hcb, hof, hkn, hsz, hval⟩
    have K : W p l e room_1 s m #[Value.ref b] below meth c s₁.heap [] 0 0 (lw_Z below #[Value.ref b] s) (entryFrame m ([Value.ref b] : List Value).toArray 7) := by
      rw [hh0]
      exact whole_start l hflags hbd ⟨B.exec, B.bytes, B.returns, hml, hown, hts, hX, hbl, B.notSynchronized, hgv⟩
    obtain ⟨t, a1, o, b1, b2, b3⟩ := K s₁ rfl X₀
    exact ⟨t, o, a1, b1, b2, b3⟩
theorem lw_pre_spec {args : Array Value} {s : State} (h : (Jvm.Cond.and given_1 narrow_1).before args s = true) (hr : rest_1_c.before args s = true) : ∃ (b : Addr) (xs : List Int32), lw_P b xs args s := by
  have hs := flat_of_before _ h
  have hq := flat_of_before _ hr
  have hc : (Cond.count 1).before args s = true := hs _ (by decide +kernel)
  have harr : (Cond.arrayOf (.arg 0) .int).before args s = true := hs _ (by decide +kernel)
  have hle : (Cond.le (.length (.arg 0)) (.int 3072)).before args s = true := hs _ (by decide +kernel)
  have hlen : (Cond.isInt (.length (.arg 0))).before args s = true := hq _ (by decide +kernel)
  have hall : (Cond.all (.arg 0) (.isInt (.elem (.arg 0) (.index 0)))).before args s = true := hq _ (by decide +kernel)
  obtain ⟨b, xs, hb, hx⟩ := State.ints_of_pre rfl harr hlen hall
  have hsm : xs.length < 2 ^ 31 := hx.choose_spec.2.2.2
  have hev : (Term.length (.arg 0)).eval args s none [] s = some (.int xs.length.toInt32) := hx.length_eval hb
  have hv := Cond.le_ints hev (show (Term.int 3072).eval args s none [] s = some (.int 3072) from rfl)
  have hd : xs.length.toInt32 ≤ 3072 := by
    simpa [Cond.before, Cond.holds, hv] using hle
  have hN : xs.length ≤ 3072 := (Int32.ofNat_le_ofNat hsm (by decide)).mp (show Int32.ofNat xs.length ≤ Int32.ofNat 3072 from hd)
  exact ⟨b, xs, Cond.one_arg hc (show args[0]? = some (.ref b) from hb), hx, hN, h⟩
theorem lw_comes (l : Launch) (hflags : l.flags = flags0) : Comes l x (Jvm.Cond.code x code maxLocals ret :: tables_1) room_1 (fun tb e args s => Calls_1 tb e args s ∧ rest_1 tb e args s ∧ Pre_1 tb e args s)
    (fun _ _ args s o t => lw_Q args s o t) := by
  intro p e ha hc hk s m args below hf hfit hheap happ hpre
  obtain ⟨b, xs, hP⟩ := lw_pre_spec hpre.2.2 hpre.2.1
  obtain ⟨k, o, h1, h2, h3, hQ⟩ := lw_walk l hflags b xs p e ha hc hk s m args below hf ((Spec.applies_iff_loose hf).mp happ).1 hP trivial
  exact ⟨k, o, h1, h2, h3, hQ⟩
theorem lw_frame {s t : State} {o : Outcome} {args : Array Value} (h : Framed s o t [] 601024 7293034) :
    Framed s o t (fieldLocs frame_1_writes args s ++ arrayLocs frame_1_arrays args s ++ staticLocs frame_1_statics s) 601024 7293034 := h
theorem lw_limb (L : Cond) (hL : ∀ (args : Array Value) (s t : State), L.after args s (.returned (some (.int 1))) t = true) :
    ArmFor flags0 classFile x code maxLocals ret World_1 tables_1 room_1 Calls_1 rest_1 Pre_1
      (fun tb e a s o t => postC L tb e a s o t ∧ Framed s o t (fieldLocs frame_1_writes a s ++ arrayLocs frame_1_arrays a s ++ staticLocs frame_1_statics s) 601024 7293034) := by
  intro l hflags _ _ p e ha hc hk s m args below hf hfit hheap happ hpre
  obtain ⟨k, o, h1, h2, h3, rfl, hF⟩ := lw_comes l hflags p e ha hc hk s m args below hf hfit hheap happ hpre
  exact ⟨k, _, h1, h2, h3, hL args s _, lw_frame hF⟩
theorem i_vc : Claimed_1_1 ∧ Claimed_1_2 := ⟨lw_limb limb_1_1 (fun args s t => by simp [limb_1_1, Cond.after, Cond.holds, Cond.value]), lw_limb limb_1_2 (fun args s t => Cond.after_iff.mpr (by
  first | (rw [show limb_1_2 = Cond.eq .result (.int 1) from rfl, Cond.eq_ints (x := 1) (y := 1) rfl rfl]; simp; done) | (simp [limb_1_2, Cond.value, Term.eval]; done)))⟩

