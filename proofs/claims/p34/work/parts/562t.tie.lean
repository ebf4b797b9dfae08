/-! both tell the same text: gb its bytes, nb how many -/
def TI (G : wf_G) (f : py_F) (x u : Nat) (gb : rs_B) (nb : Int) : Prop := (tp_l f (G.2 x 0) = nb ∧ mi f u 2 = nb ∧ 0 ≤ nb ∧ nb ≤ 160 ∧ hy_n f x = mi f u 13) ∧ gfn f (G.2 (G.2 x 0) 0) = gb ∧ AG f (G.2 u 1) gb nb ∧ rs_tp gb nb
theorem tp_kp {f f1 : py_F} {t : Nat} (e : f1 t = f t) : tp_l f1 t = tp_l f t := by
  unfold tp_l
  rw [e]
theorem TI.cl {G : wf_G} {ws : List Nat} {own : Bool} {f f1 : py_F} {x u : Nat} {gb : rs_B} {nb : Int} (h : TI G f x u gb nb) (hG : GT G) (Tx : G.1 x = 12) (Tu : G.1 u = 13) (kp : KP G ws own f f1) (hc : 9 ∉ ws ∧ 38 ∉ ws ∧ 40 ∉ ws ∧ 13 ∉ ws) (hn : hy_n f1 x = hy_n f x) : TI G f1 x u gb nb := by
  obtain ⟨⟨h1, h2, h3, h4, h5⟩, h6, h7, h8⟩ := h
  have t9 := (wt_11 hG Tx).1
  have eu := kp_f kp Tu (by decide) hc.2.2.2 (fun _ => by decide)
  exact ⟨⟨(tp_kp (kp_f kp t9 (by decide) hc.1 (fun _ => by decide))).trans h1, (mi_kp eu 2).trans h2, h3, h4, by rw [hn, h5, mi_kp eu 13]⟩, (gfn_kp (kp_f kp (wt_8 hG t9) (by decide) hc.2.1 (fun _ => by decide))).trans h6, h7.kp (kp_f kp (wt12_1 hG Tu) (by decide) hc.2.2.1 (fun _ => by decide)), h8⟩
theorem TI.clx {G : wf_G} {ws : List Nat} {own : Bool} {f f1 : py_F} {x u : Nat} {gb : rs_B} {nb : Int} (h : TI G f x u gb nb) (hG : GT G) (Tx : G.1 x = 12) (Tu : G.1 u = 13) (kp : KP G ws own f f1) (hc : 9 ∉ ws ∧ 38 ∉ ws ∧ 40 ∉ ws ∧ 13 ∉ ws ∧ 12 ∉ ws) : TI G f1 x u gb nb := h.cl hG Tx Tu kp ⟨hc.1, hc.2.1, hc.2.2.1, hc.2.2.2.1⟩ (hy_same (kp_f kp Tx (by decide) hc.2.2.2.2 (fun _ => by decide))).1
theorem TI.rf {G : wf_G} {ws js : List Nat} {own : Bool} {f f1 : py_F} {x u : Nat} {gb : rs_B} {nb : Int} (h : TI G f x u gb nb) (hG : GT G) (Tx : G.1 x = 12) (Tu : G.1 u = 13) (kp : KP G ws own f f1) (fk : FK js f f1 u) (hc : 9 ∉ ws ∧ 38 ∉ ws ∧ 40 ∉ ws ∧ 12 ∉ ws) (hj : 2 ∉ js ∧ 13 ∉ js) : TI G f1 x u gb nb := by
  obtain ⟨⟨h1, h2, h3, h4, h5⟩, h6, h7, h8⟩ := h
  have t9 := (wt_11 hG Tx).1
  have ex := kp_f kp Tx (by decide) hc.2.2.2 (fun _ => by decide)
  exact ⟨⟨(tp_kp (kp_f kp t9 (by decide) hc.1 (fun _ => by decide))).trans h1, (fk_mi fk 2 (by decide) hj.1).trans h2, h3, h4, by rw [(hy_same ex).1, h5, fk_mi fk 13 (by decide) hj.2]⟩, (gfn_kp (kp_f kp (wt_8 hG t9) (by decide) hc.2.1 (fun _ => by decide))).trans h6, h7.kp (kp_f kp (wt12_1 hG Tu) (by decide) hc.2.2.1 (fun _ => by decide)), h8⟩
theorem TI.gx {G G1 : wf_G} {f : py_F} {x u : Nat} {gb : rs_B} {nb : Int} (h : TI G f x u gb nb) (gx : GX G G1) (hG : GT G) (Tx : G.1 x = 12) (Tu : G.1 u = 13) : TI G1 f x u gb nb := by
  have t9 := (wt_11 hG Tx).1
  have a0 := (gx x (by rw [Tx]; decide)).2 0
  have a1 := (gx (G.2 x 0) (by rw [t9]; decide)).2 0
  have a2 := (gx u (by rw [Tu]; decide)).2 1
  unfold TI
  rw [a0, a1, a2]
  exact h
/-- the text is shorter now, or as it was -/
theorem TI.cut {G : wf_G} {f f2 : py_F} {x u : Nat} {gb : rs_B} {nb n2 : Int} (h : TI G f x u gb nb) (e38 : f2 (G.2 (G.2 x 0) 0) = f (G.2 (G.2 x 0) 0)) (e40 : f2 (G.2 u 1) = f (G.2 u 1)) (hl : tp_l f2 (G.2 x 0) = n2) (hm : mi f2 u 2 = n2) (h0 : 0 ≤ n2) (hle : n2 ≤ nb) (hn : hy_n f2 x = mi f2 u 13) : TI G f2 x u gb n2 := by
  obtain ⟨⟨h1, h2, h3, h4, h5⟩, h6, h7, h8⟩ := h
  exact ⟨⟨hl, hm, h0, by omega, hn⟩, (gfn_kp e38).trans h6, (h7.kp e40).le hle, h8.le hle⟩
theorem fb_5_n (a b q d v : Int32) (g : rs_B) (n : Int) : (fb_5 (g, n) a b q d v).2 = n + fb_C a b q d v := by
  rw [← fa6_20, fa6_n, cn6_20]
theorem TI.feed {G : wf_G} {f f1 f2 : py_F} {x u : Nat} {gb : rs_B} {nb r1 r2 : Int} {a b q d v : Int32} (h : TI G f x u gb nb) (fc : FDC gb nb a b q d v r1 (gfn f1 (G.2 (G.2 x 0) 0)) (tp_l f1 (G.2 x 0))) (fr : FDR f2 G u gb nb a b q d v r2) (e38 : f2 (G.2 (G.2 x 0) 0) = f1 (G.2 (G.2 x 0) 0)) (e9 : f2 (G.2 x 0) = f1 (G.2 x 0)) (hn : hy_n f2 x = mi f2 u 13) : ∃ (gb2 : rs_B) (nb2 : Int), TI G f2 x u gb2 nb2 ∧ r1 = r2 := by
  obtain ⟨⟨h1, h2, h3, h4, h5⟩, h6, h7, h8⟩ := h
  rcases fc with ⟨c1, c2, c3, c4⟩ | ⟨c1, c2, c3, c4⟩
  · rcases fr with ⟨d1, d2, d3, d4⟩ | ⟨d1, d2, d3, d4⟩
    · exact ⟨gb, nb, ⟨⟨(tp_kp e9).trans c4, d3, h3, h4, hn⟩, (gfn_kp e38).trans c3, d4, h8⟩, by omega⟩
    · omega
  · rcases fr with ⟨d1, d2, d3, d4⟩ | ⟨d1, d2, d3, d4⟩
    · omega
    · obtain ⟨w1, w2⟩ := fb_5_tp (st := (gb, nb)) (a := a) (b := b) (q := q) (d := d) (v := v) ⟨h8, h3⟩
      have hz := fb_5_n a b q d v gb nb
      exact ⟨_, _, ⟨⟨(tp_kp e9).trans c4, d3, w2, by omega, hn⟩, (gfn_kp e38).trans c3, d4, w1⟩, by omega⟩
theorem flt_eq {g : rs_B} {n a a2 r1 r2 : Int} (c0 : a = 0 → RVF g n r1) (c1 : a = 1 → r1 = rs_law g n) (c2 : a ≠ 0 → a ≠ 1 → r1 = -2) (d0 : a2 = 0 → RVF g n r2) (d1 : a2 = 1 → r2 = rs_law g n) (d2 : a2 ≠ 0 → a2 ≠ 1 → r2 = -2) (e : a2 = a) : r1 = r2 := by
  subst e
  by_cases q : a2 = 0
  · exact RVF.eq (c0 q) (d0 q)
  · by_cases q1 : a2 = 1
    · rw [c1 q1, d1 q1]
    · rw [c2 q q1, d2 q q1]
theorem TI.text {G : wf_G} {f f1 f2 : py_F} {x u : Nat} {gb : rs_B} {nb a a2 r1 r2 : Int} (h : TI G f x u gb nb) (fc : TX gb nb (hy_n f x) a r1 (tp_l f1 (G.2 x 0)) (hy_n f1 x)) (fr : TX gb nb (mi f1 u 13) a2 r2 (mi f2 u 2) (mi f2 u 13)) (ea : a2 = a) (eu : f1 u = f u) (e38 : f1 (G.2 (G.2 x 0) 0) = f (G.2 (G.2 x 0) 0)) (e40 : f1 (G.2 u 1) = f (G.2 u 1)) (r38 : f2 (G.2 (G.2 x 0) 0) = f1 (G.2 (G.2 x 0) 0)) (r40 : f2 (G.2 u 1) = f1 (G.2 u 1)) (r9 : f2 (G.2 x 0) = f1 (G.2 x 0)) (rx : f2 x = f1 x) : ∃ nb2 : Int, TI G f2 x u gb nb2 ∧ r1 = r2 := by
  subst ea
  have ek : mi f1 u 13 = hy_n f x := (mi_kp eu 13).trans h.1.2.2.2.2.symm
  rw [ek] at fr
  obtain ⟨e1, e2, e3⟩ := fc.eq fr
  have hb := fc.le h.1.2.2.1
  exact ⟨tp_l f1 (G.2 x 0), h.cut (r38.trans e38) (r40.trans e40) (tp_kp r9) e2.symm hb.1 hb.2 ((hy_same rx).1.trans e3), e1⟩
/-! the YEARS of both -/
def TY (G : wf_G) (f : py_F) (x u : Nat) : Prop := 0 ≤ mi f u 25 ∧ (fv_l f (G.2 x 5) < 1 ↔ mi f u 25 = 0) ∧ fo_y f (G.2 x 5) = mi f u 29 ∧ (hy_m f x = 0 ↔ mi f u 53 = 0) ∧ (hy_m f x ≠ 0 → fo_y f (G.2 x 7) = mi f u 51)
theorem TY.mk {G : wf_G} {f f1 : py_F} {x u : Nat} (h : TY G f x u) (ev : fv_l f1 (G.2 x 5) = fv_l f (G.2 x 5)) (ey : fo_y f1 (G.2 x 5) = fo_y f (G.2 x 5)) (e7 : fo_y f1 (G.2 x 7) = fo_y f (G.2 x 7)) (em : hy_m f1 x = hy_m f x) (m25 : mi f1 u 25 = mi f u 25) (m29 : mi f1 u 29 = mi f u 29) (m51 : mi f1 u 51 = mi f u 51) (m53 : mi f1 u 53 = mi f u 53) : TY G f1 x u := by
  unfold TY
  rw [ev, ey, e7, em, m25, m29, m51, m53]
  exact h
theorem cls_kp {G : wf_G} {ws : List Nat} {own : Bool} {f f1 : py_F} {x : Nat} (hG : GT G) (Tx : G.1 x = 12) (h10 : G.1 (fo_v f (G.2 x 5)) = 10) (kp : KP G ws own f f1) (hc : 3 ∉ ws ∧ 10 ∉ ws) : fv_l f1 (G.2 x 5) = fv_l f (G.2 x 5) ∧ fo_y f1 (G.2 x 5) = fo_y f (G.2 x 5) ∧ fo_y f1 (G.2 x 7) = fo_y f (G.2 x 7) := by
  have t5 := (wt_11 hG Tx).2.2.2.2.2.1
  have t7 := (wt_11 hG Tx).2.2.2.2.2.2.2.1
  have e5 := fo_kp (kp_f kp t5 (by decide) hc.1 (fun _ => by decide))
  have e7 := fo_kp (kp_f kp t7 (by decide) hc.1 (fun _ => by decide))
  exact ⟨(fv_v e5.1 (kp_f kp h10 (by decide) hc.2 (fun _ => by decide))).1, e5.2, e7.2⟩
theorem TY.cl {G : wf_G} {ws : List Nat} {own : Bool} {f f1 : py_F} {x u : Nat} (h : TY G f x u) (hG : GT G) (Tx : G.1 x = 12) (Tu : G.1 u = 13) (kp : KP G ws own f f1) (hc : 13 ∉ ws) (e : fv_l f1 (G.2 x 5) = fv_l f (G.2 x 5) ∧ fo_y f1 (G.2 x 5) = fo_y f (G.2 x 5) ∧ fo_y f1 (G.2 x 7) = fo_y f (G.2 x 7)) (em : hy_m f1 x = hy_m f x) : TY G f1 x u := by
  have eu := kp_f kp Tu (by decide) hc (fun _ => by decide)
  exact h.mk e.1 e.2.1 e.2.2 em (mi_kp eu 25) (mi_kp eu 29) (mi_kp eu 51) (mi_kp eu 53)
theorem TY.rf {G : wf_G} {ws js : List Nat} {own : Bool} {f f1 : py_F} {x u : Nat} (h : TY G f x u) (hG : GT G) (Tx : G.1 x = 12) (h10 : G.1 (fo_v f (G.2 x 5)) = 10) (kp : KP G ws own f f1) (fk : FK js f f1 u) (hc : 3 ∉ ws ∧ 10 ∉ ws ∧ 12 ∉ ws) (hj : 25 ∉ js ∧ 29 ∉ js ∧ 51 ∉ js ∧ 53 ∉ js) : TY G f1 x u := by
  obtain ⟨ev, ey, e7⟩ := cls_kp hG Tx h10 kp ⟨hc.1, hc.2.1⟩
  exact h.mk ev ey e7 (hy_same (kp_f kp Tx (by decide) hc.2.2 (fun _ => by decide))).2 (fk_mi fk 25 (by decide) hj.1) (fk_mi fk 29 (by decide) hj.2.1) (fk_mi fk 51 (by decide) hj.2.2.1) (fk_mi fk 53 (by decide) hj.2.2.2)
