/-! what the law needs of the class's and the reference's calls -/
theorem kp_gx {G G1 : wf_G} {ws : List Nat} {own : Bool} {f f1 : py_F} (hx : GX G G1) (kp : KP G1 ws own f f1) : KP G ws own f f1 := fun o h0 hn ho => by
  obtain ⟨e, -⟩ := hx o h0
  exact kp o (by rw [e]; exact h0) (by rw [e]; exact hn) (by rw [e]; exact ho)
theorem kp_ofall {E : py_E} {G : wf_G} {L : List Nat} {ws : List Nat} {own : Bool} {f f1 : py_F} (hWF : WF E G L f) (ha : ∀ b : Nat, b ∈ L → f1 b = f b) : KP G ws own f f1 := fun o h0 _ _ => ha o (hWF o h0).1
/-- a call that writes no folk -/
theorem rp_kp {E : py_E} {G : wf_G} {f f1 : py_F} {ws : List Nat} (hG : GT G) (kp : KP G ws false f f1) (hc : 3 ∉ ws) (hlt : ∀ w ∈ ws, w < 1000) : RP E G f f1 := by
  intro o ho
  obtain ⟨t0, t1, -⟩ := wt_2 hG ho
  have e0 := kp_f kp t0 (by omega) (fun h => by have := hlt _ h; omega) (fun q => absurd q (by decide))
  have e1 := kp_f kp t1 (by omega) (fun h => by have := hlt _ h; omega) (fun q => absurd q (by decide))
  have e2 := kp_f kp ho (by decide) hc (fun q => absurd q (by decide))
  refine ⟨fun h => rlv_same h e0 e1, ?_, ?_⟩
  · unfold fo_v
    rw [e2]
  · unfold fo_y
    rw [e2]
theorem fo_same {f f1 : py_F} {o : Nat} (e : f1 o = f o) : fo_v f1 o = fo_v f o ∧ fo_y f1 o = fo_y f o := by
  unfold fo_v fo_y
  rw [e]
  exact ⟨rfl, rfl⟩
/-- new cells, nothing old is changed -/
theorem GI.gx {E : py_E} {G G1 : wf_G} {L : List Nat} {f f1 : py_F} {x : Nat} (h : GI E G f x) (hG : GT G) (hWF : WF E G L f) (Tx : G.1 x = 12) (hx : GX G G1) (ha : ∀ b : Nat, G.1 b ≠ 0 → f1 b = f b) (hr : RLA E G1 f1) : GI E G1 f1 x := by
  obtain ⟨t0, t1, t2, t3, t4, t5, t6, t7, -⟩ := wt_11 hG Tx
  have eg := (hx x (by rw [Tx]; decide)).2
  have c : ∀ a k : Nat, G.1 a = k → k ≠ 0 → f1 a = f a := fun a k ha0 hk => ha a (by rw [ha0]; exact hk)
  have h10 := fo_ty hWF t5
  have e10 := c _ _ h10 (by decide)
  obtain ⟨v5, y5⟩ := fo_same (c _ _ t5 (by decide))
  obtain ⟨v7, y7⟩ := fo_same (c _ _ t7 (by decide))
  obtain ⟨q1, q2⟩ := fv_v v5 e10
  obtain ⟨n1, n2⟩ := hy_same (c _ _ Tx (by decide))
  obtain ⟨g1, ⟨g2, g3, g4⟩, g5, g6⟩ := h
  refine ⟨hr, ⟨?_, ?_, ?_⟩, ?_, ?_⟩
  · rw [eg 5, eg 1, v5, c _ _ t1 (by decide)]
    exact g2
  · rw [eg 5, q1, q2]
    exact g3
  · rw [eg 5, y5]
    exact g4
  · rw [eg 5, eg 7, n2, v7, y7, v5]
    exact g5
  · rw [eg 3, n1]
    intro cc g hg
    exact g6 cc g (by rw [← c _ _ t3 (by decide)]; exact hg)
theorem LO.same {f f1 : py_F} {t : Nat} {n : Int} (h : LO f t n) (e : f1 t = f t) : LO f1 t n := fun c g hg => h c g (by rw [← e]; exact hg)
/-- a law is put behind those told -/
theorem GI.laws {E : py_E} {G : wf_G} {L : List Nat} {f f1 : py_F} {x : Nat} {g : Nat → Option Nat} {n : Int32} {d : Nat} {cc : ClassId} (h : GI E G f x) (hG : GT G) (hWF : WF E G L f) (Tx : G.1 x = 12) (xt : py_ext L f L f1 (G.2 x 3)) (h1 : py_at L f (G.2 x 3) (.inl (cc, 4, .inr (.inr (.inr (.inr g)))))) (h2 : py_at L f1 (G.2 x 3) (.inl (cc, 4, .inr (.inr (.inr (.inr (va_up g n.toNatClampNeg (some d)))))))) (hn : hy_n f x = n.toInt) (h0 : 0 ≤ n.toInt) : GI E G f1 x ∧ LO f1 (G.2 x 3) (n.toInt + 1) := by
  obtain ⟨t0, t1, t2, t3, t4, t5, t6, t7, -⟩ := wt_11 hG Tx
  have h10 := fo_ty hWF t5
  have c : ∀ a k : Nat, G.1 a = k → k ≠ 0 → k ≠ 22 → f1 a = f a := fun a k ha hk h22 => (xt a (hWF a (by rw [ha]; exact hk)).1 (wf_ne ha t3 h22)).2
  have hrp : RP E G f f1 := rp_upd hG hWF xt h1.2 h2.2 (rp_code hG t3 (by decide)) rfl
  have hlo : ∀ i : Nat, (i : Int) < n.toInt + 1 → va_up g n.toNatClampNeg (some d) i ≠ none := by
    intro i hi
    by_cases e : i = n.toNatClampNeg
    · subst e
      rw [va_up_self]
      exact Option.some_ne_none _
    · rw [va_up_ne _ _ e]
      have e1 : n.toNatClampNeg = n.toInt.toNat := rfl
      exact h.2.2.2 _ g h1.2 i (by omega)
  have hL1 : LO f1 (G.2 x 3) (n.toInt + 1) := by
    intro c2 g2 hg i hi
    cases (hg.symm.trans h2.2)
    exact hlo i hi
  obtain ⟨g1, ⟨g2, g3, g4⟩, g5, g6⟩ := h
  obtain ⟨-, q1, q2⟩ := hrp _ t5
  obtain ⟨-, q3, q4⟩ := hrp _ t7
  obtain ⟨z1, z2⟩ := fv_v q1 (c _ _ h10 (by decide) (by decide))
  obtain ⟨n1, n2⟩ := hy_same (c _ _ Tx (by decide) (by decide))
  refine ⟨⟨fun o ho => (hrp o ho).1 (g1 o ho), ⟨by rw [q1, c _ _ t1 (by decide) (by decide)]; exact g2, by rw [z1, z2]; exact g3, by rw [q2]; exact g4⟩, by rw [n2, q3, q4, q1]; exact g5, ?_⟩, hL1⟩
  rw [n1, hn]
  intro c2 g2 hg i hi
  exact hL1 c2 g2 hg i (by omega)
/-- .. and counted -/
theorem GI.cnt {E : py_E} {G : wf_G} {L : List Nat} {f f1 : py_F} {x : Nat} (h : GI E G f x) (hG : GT G) (hWF : WF E G L f) (Tx : G.1 x = 12) (xt : py_ext L f L f1 x) (hr : RP E G f f1) (hl : LO f (G.2 x 3) (hy_n f1 x)) (hm : hy_m f1 x = hy_m f x) : GI E G f1 x := by
  obtain ⟨t0, t1, t2, t3, t4, t5, t6, t7, -⟩ := wt_11 hG Tx
  have h10 := fo_ty hWF t5
  have e10 := (xt _ (hWF _ (by rw [h10]; decide)).1 (wf_ne h10 Tx (by decide))).2
  have e1 := (xt _ (hWF _ (by rw [t1]; decide)).1 (wf_ne t1 Tx (by decide))).2
  have e3 := (xt _ (hWF _ (by rw [t3]; decide)).1 (wf_ne t3 Tx (by decide))).2
  obtain ⟨-, q1, q2⟩ := hr _ t5
  obtain ⟨-, q3, q4⟩ := hr _ t7
  obtain ⟨z1, z2⟩ := fv_v q1 e10
  obtain ⟨g1, ⟨g2, g3, g4⟩, g5, g6⟩ := h
  exact ⟨fun o ho => (hr o ho).1 (g1 o ho), ⟨by rw [q1, e1]; exact g2, by rw [z1, z2]; exact g3, by rw [q2]; exact g4⟩, by rw [hm, q3, q4, q1]; exact g5, hl.same e3⟩
/-- the reference's laws, new cells beside -/
theorem LV.gx {G G1 : wf_G} {f : py_F} {u : Nat} {n : Int} (e : ∀ j : Nat, G1.2 u j = G.2 u j) (h : LV f G u n) : LV f G1 u n := by
  unfold LV CO at h ⊢
  rw [e 6, e 7, e 9, e 10, e 11, e 12]
  exact h
theorem GM.gx {G G1 : wf_G} {f : py_F} {u : Nat} (h : GM f G u) (Tu : G.1 u = 13) (hx : GX G G1) : GM f G1 u := by
  obtain ⟨-, e⟩ := hx u (by rw [Tu]; decide)
  exact ⟨h.1, fun n n0 n1 => (h.2 n n0 n1).gx e⟩
theorem GM.all {E : py_E} {L : List Nat} {G : wf_G} {f f1 : py_F} {u : Nat} (h : GM f G u) (hG : GT G) (hWF : WF E G L f) (Tu : G.1 u = 13) (ha : ∀ b : Nat, b ∈ L → f1 b = f b) : GM f1 G u := h.kps (ws := []) (own := false) hG Tu (kp_ofall hWF ha) (LK.of (by decide)) (by decide)
/-- a new Law, its three cells typed -/
theorem newlaw_ty {E : py_E} {G : wf_G} {L L1 L2 : List Nat} {f f1 f2 : py_F} {q co st : Nat} (hZ : GZ E G L f) (hq : q ∉ L) (x1 : py_all L f L1 f1) (h2 : py_at L2 f2 q (.inr (3, [.ref co, .ref st, .int 0]))) (hco : py_at L2 f2 co (.inl (E.2.1, 160, .inl (fun _ => 0)))) (hst : py_at L2 f2 st (.inl (E.2.1, 32, .inl (fun _ => 0)))) (nco : co ∉ L1) (nst : st ∉ L1) (ncs : co ≠ st) (x2 : py_ext L1 f1 L2 f2 q) : ∃ G1 : wf_G, GX G G1 ∧ GZ E G1 L2 f2 ∧ G1.1 q = 4 ∧ ∀ b : Nat, b ∈ L → b ∈ L2 ∧ f2 b = f b := by
  have u := hZ.un hq
  have hZ1 := hZ.all x1
  have uco := hZ1.un nco
  have ust := hZ1.un nst
  have hZ2 := hZ1.unt u x2
  obtain ⟨Ga, ga, hZ3, tco, ea⟩ := hZ2.arrK (c := 20) uco (by decide) (by decide) hco (fun _ => ⟨_, rfl, fun i _ => wf_free _⟩) (fun _ => rfl)
  have ust1 := (ea st (Ne.symm ncs)).trans ust
  have uq1 := (ea q (py_ne_arr h2 hco)).trans u
  obtain ⟨Gb, gb, hZ4, tst, eb⟩ := hZ3.arrK (c := 21) ust1 (by decide) (by decide) hst (fun _ => ⟨_, rfl, fun i _ => wf_free _⟩) (fun _ => rfl)
  have uq2 := (eb q (py_ne_arr h2 hst)).trans uq1
  have tco2 := gb.ty tco (by decide)
  obtain ⟨Gc, gc, hZ5, tq, -, -⟩ := hZ4.ty (c := 4) (r := (fun j => match j with | 0 => co | 1 => st | _ => 0)) uq2 (by decide) h2.1 (fun G1 gg e1 hr => ⟨0, by rw [hr 0, hr 1]; exact h2.2, ⟨by decide, by decide⟩⟩) (fun G1 gg e1 hr => ⟨by rw [hr 0]; exact gg.ty tco2 (by decide), by rw [hr 1]; exact gg.ty tst (by decide)⟩) (fun e => absurd e (by decide))
  refine ⟨Gc, (ga.trans gb).trans gc, hZ5, tq, fun b hb => ?_⟩
  obtain ⟨z1, z2⟩ := x1 b hb
  obtain ⟨z3, z4⟩ := x2 b z1 (fun e => hq (e ▸ hb))
  exact ⟨z3, z4.trans z2⟩
