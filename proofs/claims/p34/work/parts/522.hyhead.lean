section PYS
variable {p : Program} {l : Launch} {e : Env} {R : Room} {s : State} {m : MethodId} {args : Array Value} {below : List Frame} {meth : Method} {c : Code} {H : Heap} {locs : List Loc} {cells slots : Nat} {Q : State → Prop}
variable {cc : ByteArray} {nL pc : Nat} {ls : Array Slot} {rest : List Value} {E : py_E} {A : Nat → Prop} {L : List Nat} {f : py_F} {Ts : List Cond} {own : String} {a : Nat}
theorem py_aaldS (G : CallFix p m c cc nL s args Ts own) (hw : py_W E A s L f H locs) {n z : Nat} {g : Nat → Option Nat} {i : Int32} (hf : py_at L f a (.inl (E.2.2.2.2, n, .inr (.inr (.inr (.inr g)))))) (hin : vp_in i n) (hz : g i.toNatClampNeg = some z) (hdg : decode cc pc = .ok (.aaload, 1))
    (kk : W p l e R s m args below meth c H locs cells slots Q (F0 m (pc + 1) ls (.ref z :: rest))) : W p l e R s m args below meth c H locs cells slots Q (F0 m pc ls (.int i :: .ref a :: rest)) := by
  refine py_aald G hw hf hin hdg ?_
  rw [hz]
  exact kk
end PYS
theorem ti_fit {x : Int32} (h1 : 0 ≤ x.toInt) (h2 : x.toInt ≤ 1) : fits .boolean (.int x) = true := by
  have h : x.toInt = 0 ∨ x.toInt = 1 := by omega
  rcases h with h | h
  · have e : x = 0 := Int32.toInt_inj.mp h
    subst e
    rfl
  · have e : x = 1 := Int32.toInt_inj.mp h
    subst e
    rfl
/-! the class's own state -/
def hy_x (e : va_E) : Int × Int := match e with
  | .inr (_, [_, _, _, _, _, _, _, _, _, _, _, _, _, .int n, _, .int m]) => (n.toInt, m.toInt)
  | _ => (0, 0)
def hy_n (f : py_F) (x : Nat) : Int := (hy_x (f x)).1
def hy_m (f : py_F) (x : Nat) : Int := (hy_x (f x)).2
theorem hy_eq {L : List Nat} {f : py_F} {x a0 a1 a2 a3 a4 a5 a6 a7 a8 a9 a10 a11 a12 : Nat} {n h m : Int32} (q : py_at L f x (.inr (11, [.ref a0, .ref a1, .ref a2, .ref a3, .ref a4, .ref a5, .ref a6, .ref a7, .ref a8, .ref a9, .ref a10, .ref a11, .ref a12, .int n, .int h, .int m]))) : hy_n f x = n.toInt ∧ hy_m f x = m.toInt := by
  unfold hy_n hy_m
  rw [q.2]
  exact ⟨rfl, rfl⟩
/-- of the LAWS told each is there -/
def LO (f : py_F) (t : Nat) (n : Int) : Prop := ∀ (c : ClassId) (g : Nat → Option Nat), f t = .inl (c, 4, .inr (.inr (.inr (.inr g)))) → ∀ i : Nat, (i : Int) < n → g i ≠ none
def GIm (f : py_F) (G : wf_G) (x : Nat) : Prop := (fo_v f (G.2 x 5) ≠ dr_v (f (G.2 x 1)) ∧ (0 < fv_f f (G.2 x 5) → 1 ≤ fv_l f (G.2 x 5)) ∧ fo_y f (G.2 x 5) ≤ 60)
def GI (E : py_E) (G : wf_G) (f : py_F) (x : Nat) : Prop := (∀ o : Nat, G.1 o = 3 → RLV E G f o) ∧ GIm f G x ∧ (hy_m f x ≠ 0 → fo_v f (G.2 x 7) = fo_v f (G.2 x 5) ∧ fo_y f (G.2 x 7) ≤ 60) ∧ LO f (G.2 x 3) (hy_n f x)
theorem fo_ty {E : py_E} {G : wf_G} {L : List Nat} {f : py_F} {o : Nat} (hWF : WF E G L f) (ho : G.1 o = 3) : G.1 (fo_v f o) = 10 := by
  obtain ⟨r, y, v, hr, hty, -⟩ := wg_2 hWF ho
  rw [(fo_eq hr).1]
  exact hty
theorem fv_v {f f1 : py_F} {o : Nat} (e : fo_v f1 o = fo_v f o) (e10 : f1 (fo_v f o) = f (fo_v f o)) : fv_l f1 o = fv_l f o ∧ fv_f f1 o = fv_f f o := by
  unfold fv_l fv_f va_l va_f
  rw [e, e10]
  exact ⟨rfl, rfl⟩
theorem fv_w {G : wf_G} {ws : List Nat} {own : Bool} {f f1 : py_F} {o b : Nat} (e : fo_v f1 o = fo_v f b) (h10 : G.1 (fo_v f b) = 10) (kp : KP G ws own f f1) (hc : 10 ∉ ws) : fv_l f1 o = fv_l f b ∧ fv_f f1 o = fv_f f b := by
  unfold fv_l fv_f va_l va_f
  rw [e, kp_f kp h10 (by decide) hc (fun _ => by decide)]
  exact ⟨rfl, rfl⟩
theorem fv_one {E : py_E} {G : wf_G} {ws : List Nat} {own : Bool} {f f1 : py_F} {o : Nat} (rp : RP E G f f1) (kp : KP G ws own f f1) (hc : 10 ∉ ws) (h10 : G.1 (fo_v f o) = 10) (ho : G.1 o = 3) : fv_l f1 o = fv_l f o ∧ fv_f f1 o = fv_f f o ∧ fo_v f1 o = fo_v f o ∧ fo_y f1 o = fo_y f o := by
  obtain ⟨-, q1, q2⟩ := rp o ho
  obtain ⟨q3, q4⟩ := fv_w q1 h10 kp hc
  exact ⟨q3, q4, q1, q2⟩
theorem gi_core {E : py_E} {G : wf_G} {f f1 : py_F} {x : Nat} (h : GI E G f x) (hr : ∀ o : Nat, G.1 o = 3 → RLV E G f o → RLV E G f1 o) (e5v : fo_v f1 (G.2 x 5) = fo_v f (G.2 x 5)) (e5y : fo_y f1 (G.2 x 5) ≤ 60) (e7 : fo_v f1 (G.2 x 7) = fo_v f (G.2 x 7) ∧ fo_y f1 (G.2 x 7) = fo_y f (G.2 x 7)) (h10 : f1 (fo_v f (G.2 x 5)) = f (fo_v f (G.2 x 5))) (e1 : f1 (G.2 x 1) = f (G.2 x 1)) (ex : hy_n f1 x = hy_n f x ∧ hy_m f1 x = hy_m f x) (e3 : f1 (G.2 x 3) = f (G.2 x 3)) : GI E G f1 x := by
  obtain ⟨g1, ⟨g2, g3, g4⟩, g5, g6⟩ := h
  obtain ⟨q1, q2⟩ := fv_v e5v h10
  refine ⟨fun o ho => hr o ho (g1 o ho), ⟨by rw [e5v, e1]; exact g2, by rw [q1, q2]; exact g3, e5y⟩, ?_, ?_⟩
  · rw [ex.2, e7.1, e7.2, e5v]
    exact g5
  · rw [ex.1]
    intro c g hg
    exact g6 c g (by rw [← e3]; exact hg)
theorem hy_same {f f1 : py_F} {x : Nat} (e : f1 x = f x) : hy_n f1 x = hy_n f x ∧ hy_m f1 x = hy_m f x := by
  unfold hy_n hy_m
  rw [e]
  exact ⟨rfl, rfl⟩
/-- a write or a call that leaves valleys, the reader, the laws and x's own row -/
theorem GI.kp {E : py_E} {G : wf_G} {ws : List Nat} {own : Bool} {f f1 : py_F} {x : Nat} (h : GI E G f x) (hG : GT G) (Tx : G.1 x = 12) (h10 : G.1 (fo_v f (G.2 x 5)) = 10) (rp : RP E G f f1) (kp : KP G ws own f f1) (hc : 10 ∉ ws ∧ 11 ∉ ws ∧ 12 ∉ ws ∧ 22 ∉ ws) : GI E G f1 x := by
  obtain ⟨t0, t1, t2, t3, t4, t5, t6, t7, -⟩ := wt_11 hG Tx
  obtain ⟨-, q1, q2⟩ := rp _ t5
  refine gi_core h (fun o ho => (rp o ho).1) q1 (by rw [q2]; exact h.2.1.2.2) (rp _ t7).2 (kp_f kp h10 (by decide) hc.1 (fun _ => by decide)) (kp_f kp t1 (by decide) hc.2.1 (fun _ => by decide)) (hy_same (kp_f kp Tx (by decide) hc.2.2.1 (fun _ => by decide))) (kp_f kp t3 (by decide) hc.2.2.2 (fun _ => by decide))
/-- .. but the reader's draft -/
theorem GI.vo {E : py_E} {G : wf_G} {ws : List Nat} {own : Bool} {f f1 : py_F} {x : Nat} (h : GI E G f x) (hG : GT G) (Tx : G.1 x = 12) (h10 : G.1 (fo_v f (G.2 x 5)) = 10) (rp : RP E G f f1) (kp : KP G ws own f f1) (vo : VO G f f1 (dr_v (f (G.2 x 1)))) (hc : 11 ∉ ws ∧ 12 ∉ ws ∧ 22 ∉ ws) : GI E G f1 x := by
  obtain ⟨t0, t1, t2, t3, t4, t5, t6, t7, -⟩ := wt_11 hG Tx
  obtain ⟨-, q1, q2⟩ := rp _ t5
  refine gi_core h (fun o ho => (rp o ho).1) q1 (by rw [q2]; exact h.2.1.2.2) (rp _ t7).2 (vo _ h10 h.2.1.1) (kp_f kp t1 (by decide) hc.1 (fun _ => by decide)) (hy_same (kp_f kp Tx (by decide) hc.2.1 (fun _ => by decide))) (kp_f kp t3 (by decide) hc.2.2 (fun _ => by decide))
/-- .. but one folk that is neither the one that lives nor the image -/
theorem GI.trial {E : py_E} {G : wf_G} {ws : List Nat} {own : Bool} {f f1 : py_F} {x : Nat} (h : GI E G f x) (hG : GT G) (Tx : G.1 x = 12) (h10 : G.1 (fo_v f (G.2 x 5)) = 10) (rp : RPv E G (G.2 x 6) f f1) (kp : KP G ws own f f1) (hc : 10 ∉ ws ∧ 11 ∉ ws ∧ 12 ∉ ws ∧ 22 ∉ ws) : GI E G f1 x ∧ fv_l f1 (G.2 x 5) = fv_l f (G.2 x 5) ∧ fo_y f1 (G.2 x 5) = fo_y f (G.2 x 5) := by
  obtain ⟨t0, t1, t2, t3, t4, t5, t6, t7, t8, t9, t10, t11, t12, n1, n2, n3, -⟩ := wt_11 hG Tx
  obtain ⟨q1, q2⟩ := (rp _ t5).2 n1
  refine ⟨gi_core h (fun o ho => (rp o ho).1) q1 (by rw [q2]; exact h.2.1.2.2) ((rp _ t7).2 (Ne.symm n3)) (kp_f kp h10 (by decide) hc.1 (fun _ => by decide)) (kp_f kp t1 (by decide) hc.2.1 (fun _ => by decide)) (hy_same (kp_f kp Tx (by decide) hc.2.2.1 (fun _ => by decide))) (kp_f kp t3 (by decide) hc.2.2.2 (fun _ => by decide)), (fv_w q1 h10 kp hc.1).1, q2⟩
/-- a winter of the one that lives -/
theorem GI.year {E : py_E} {G : wf_G} {ws : List Nat} {own : Bool} {f f1 : py_F} {x : Nat} (h : GI E G f x) (hG : GT G) (Tx : G.1 x = 12) (h10 : G.1 (fo_v f (G.2 x 5)) = 10) (rp : RPv E G (G.2 x 5) f f1) (kp : KP G ws own f f1) (hc : 10 ∉ ws ∧ 11 ∉ ws ∧ 12 ∉ ws ∧ 22 ∉ ws) (e : fo_v f1 (G.2 x 5) = fo_v f (G.2 x 5)) (e2 : fo_y f1 (G.2 x 5) ≤ 60) : GI E G f1 x ∧ fv_l f1 (G.2 x 5) = fv_l f (G.2 x 5) := by
  obtain ⟨t0, t1, t2, t3, t4, t5, t6, t7, t8, t9, t10, t11, t12, n1, n2, n3, -⟩ := wt_11 hG Tx
  refine ⟨gi_core h (fun o ho => (rp o ho).1) e e2 ((rp _ t7).2 (Ne.symm n2)) (kp_f kp h10 (by decide) hc.1 (fun _ => by decide)) (kp_f kp t1 (by decide) hc.2.1 (fun _ => by decide)) (hy_same (kp_f kp Tx (by decide) hc.2.2.1 (fun _ => by decide))) (kp_f kp t3 (by decide) hc.2.2.2 (fun _ => by decide)), (fv_w e h10 kp hc.1).1⟩
/-- the image is made -/
theorem GI.image {E : py_E} {G : wf_G} {ws : List Nat} {own : Bool} {f f1 : py_F} {x : Nat} (h : GI E G f x) (hG : GT G) (Tx : G.1 x = 12) (h10 : G.1 (fo_v f (G.2 x 5)) = 10) (rp : RPv E G (G.2 x 7) f f1) (kp : KP G ws own f f1) (hc : 10 ∉ ws ∧ 11 ∉ ws ∧ 12 ∉ ws ∧ 22 ∉ ws) (e : fo_v f1 (G.2 x 7) = fo_v f (G.2 x 5) ∧ fo_y f1 (G.2 x 7) = fo_y f (G.2 x 5)) : GI E G f1 x ∧ fo_v f1 (G.2 x 7) = fo_v f1 (G.2 x 5) ∧ fo_y f1 (G.2 x 7) ≤ 60 := by
  obtain ⟨t0, t1, t2, t3, t4, t5, t6, t7, t8, t9, t10, t11, t12, n1, n2, n3, -⟩ := wt_11 hG Tx
  obtain ⟨q1, q2⟩ := (rp _ t5).2 n2
  obtain ⟨g1, ⟨g2, g3, g4⟩, g5, g6⟩ := h
  obtain ⟨q3, q4⟩ := fv_w q1 h10 kp hc.1
  have e1 := kp_f kp t1 (by decide) hc.2.1 (fun _ => by decide)
  have e3 := kp_f kp t3 (by decide) hc.2.2.2 (fun _ => by decide)
  obtain ⟨x1, x2⟩ := hy_same (kp_f kp Tx (by decide) hc.2.2.1 (fun _ => by decide))
  refine ⟨⟨fun o ho => (rp o ho).1 (g1 o ho), ⟨by rw [q1, e1]; exact g2, by rw [q3, q4]; exact g3, by rw [q2]; exact g4⟩, fun _ => ⟨by rw [e.1, q1], by rw [e.2]; exact g4⟩, ?_⟩, by rw [e.1, q1], by rw [e.2]; exact g4⟩
  rw [x1]
  intro c g hg
  exact g6 c g (by rw [← e3]; exact hg)
/-- a write to x's own row: its folks stay -/
theorem GI.own {E : py_E} {G : wf_G} {L : List Nat} {f f1 : py_F} {x : Nat} (h : GI E G f x) (hG : GT G) (hWF : WF E G L f) (Tx : G.1 x = 12) (xt : py_ext L f L f1 x) (hr : RP E G f f1) (hn : hy_n f1 x = hy_n f x) (hm : hy_m f1 x = hy_m f x ∨ fo_v f (G.2 x 7) = fo_v f (G.2 x 5) ∧ fo_y f (G.2 x 7) ≤ 60) : GI E G f1 x := by
  obtain ⟨t0, t1, t2, t3, t4, t5, t6, t7, -⟩ := wt_11 hG Tx
  have h10 := fo_ty hWF t5
  have e10 := (xt _ (hWF _ (by rw [h10]; decide)).1 (wf_ne h10 Tx (by decide))).2
  have e1 := (xt _ (hWF _ (by rw [t1]; decide)).1 (wf_ne t1 Tx (by decide))).2
  have e3 := (xt _ (hWF _ (by rw [t3]; decide)).1 (wf_ne t3 Tx (by decide))).2
  obtain ⟨-, q1, q2⟩ := hr _ t5
  obtain ⟨-, q3, q4⟩ := hr _ t7
  rcases hm with hm | hm
  · exact gi_core h (fun o ho => (hr o ho).1) q1 (by rw [q2]; exact h.2.1.2.2) ⟨q3, q4⟩ e10 e1 ⟨hn, hm⟩ e3
  · obtain ⟨g1, ⟨g2, g3, g4⟩, g5, g6⟩ := h
    obtain ⟨q5, q6⟩ := fv_v q1 e10
    refine ⟨fun o ho => (hr o ho).1 (g1 o ho), ⟨by rw [q1, e1]; exact g2, by rw [q5, q6]; exact g3, by rw [q2]; exact g4⟩, fun _ => ⟨by rw [q3, q1]; exact hm.1, by rw [q4]; exact hm.2⟩, ?_⟩
    rw [hn]
    intro c g hg
    exact g6 c g (by rw [← e3]; exact hg)
/-- a valley is told: the draft changes place with the valley, the folk is settled -/
theorem GI.told {E : py_E} {G : wf_G} {L : List Nat} {ws : List Nat} {own : Bool} {f f1 f2 : py_F} {x t q : Nat} (h : GI E G f x) (hG : GT G) (hWF : WF E G L f) (Tx : G.1 x = 12) (xt : py_ext L f L f1 (G.2 x 1)) (hr : RP E G f f1) (ht : t = dr_v (f (G.2 x 1))) (hd : py_at L f1 (G.2 x 1) (.inr (10, [.ref q, .ref (fo_v f (G.2 x 5))]))) (T10 : G.1 t = 10) (rp : RPv E G (G.2 x 5) f1 f2) (kp : KP G ws own f1 f2) (hc : 10 ∉ ws ∧ 11 ∉ ws ∧ 12 ∉ ws ∧ 22 ∉ ws) (e : fo_v f2 (G.2 x 5) = t) (e2 : fo_y f2 (G.2 x 5) = 0) (hl : 1 ≤ va_l f t) : (∀ o : Nat, G.1 o = 3 → RLV E G f2 o) ∧ GIm f2 G x ∧ LO f2 (G.2 x 3) (hy_n f2 x) := by
  obtain ⟨t0, t1, t2, t3, t4, t5, t6, t7, -⟩ := wt_11 hG Tx
  obtain ⟨g1, ⟨g2, g3, g4⟩, g5, g6⟩ := h
  have e10 := (xt _ (hWF _ (by rw [T10]; decide)).1 (wf_ne T10 t1 (by decide))).2
  have d10 := kp_f kp T10 (by decide) hc.1 (fun _ => by decide)
  have d1 := kp_f kp t1 (by decide) hc.2.1 (fun _ => by decide)
  have ex := (xt _ (hWF _ (by rw [Tx]; decide)).1 (wf_ne Tx t1 (by decide))).2
  have e3 := (xt _ (hWF _ (by rw [t3]; decide)).1 (wf_ne t3 t1 (by decide))).2
  have d3 := kp_f kp t3 (by decide) hc.2.2.2 (fun _ => by decide)
  have dx := kp_f kp Tx (by decide) hc.2.2.1 (fun _ => by decide)
  have hdr : dr_v (f2 (G.2 x 1)) = fo_v f (G.2 x 5) := by rw [d1, hd.2]; rfl
  refine ⟨fun o ho => (rp o ho).1 ((hr o ho).1 (g1 o ho)), ⟨?_, fun _ => ?_, by omega⟩, ?_⟩
  · rw [e, hdr, ht]
    exact Ne.symm g2
  · unfold fv_l va_l
    rw [e, d10, e10]
    exact hl
  · rw [(hy_same (dx.trans ex)).1]
    intro c g hg
    exact g6 c g (by rw [← e3, ← d3]; exact hg)
/-- .. and the rest of it -/
theorem GI.rest {E : py_E} {G : wf_G} {ws : List Nat} {own : Bool} {f f1 : py_F} {x : Nat} (h : (∀ o : Nat, G.1 o = 3 → RLV E G f o) ∧ GIm f G x ∧ LO f (G.2 x 3) (hy_n f x)) (hG : GT G) (Tx : G.1 x = 12) (h10 : G.1 (fo_v f (G.2 x 5)) = 10) (rp : RP E G f f1) (kp : KP G ws own f f1) (hc : 10 ∉ ws ∧ 11 ∉ ws ∧ 22 ∉ ws) (hn : hy_n f1 x = hy_n f x) : (∀ o : Nat, G.1 o = 3 → RLV E G f1 o) ∧ GIm f1 G x ∧ LO f1 (G.2 x 3) (hy_n f1 x) := by
  obtain ⟨t0, t1, t2, t3, t4, t5, t6, t7, -⟩ := wt_11 hG Tx
  obtain ⟨g1, ⟨g2, g3, g4⟩, g6⟩ := h
  obtain ⟨-, q1, q2⟩ := rp _ t5
  obtain ⟨q5, q6⟩ := fv_w q1 h10 kp hc.1
  have e1 := kp_f kp t1 (by decide) hc.2.1 (fun _ => by decide)
  have e3 := kp_f kp t3 (by decide) hc.2.2 (fun _ => by decide)
  refine ⟨fun o ho => (rp o ho).1 (g1 o ho), ⟨by rw [q1, e1]; exact g2, by rw [q5, q6]; exact g3, by rw [q2]; exact g4⟩, ?_⟩
  rw [hn]
  intro c g hg
  exact g6 c g (by rw [← e3]; exact hg)
