/-! the reference's reading of a valley -/
def IX (g : rs_B) (n : Int) (W : rs_R × rs_R) (a x y : Int) : Prop := a = W.1.2 ∧ (W.1.1 = 1 ∨ (W.1.1 = 2 ∧ rs_v g n a ≠ 59 ∧ rs_v g n a ≠ 32 ∧ rs_v g n a ≠ 0)) ∧ x = W.2.1 ∧ y = W.2.2
theorem ix_e {g : rs_B} {n : Int} {W : rs_R × rs_R} {q x y a i j : Int} (e : W = ((1, q), (x, y))) (ha : a = q) (hi : i = x) (hj : j = y) : IX g n W a i j := by
  subst e
  exact ⟨ha, Or.inl rfl, hi, hj⟩
theorem ix_r {g : rs_B} {n : Int} {W : rs_R × rs_R} {q x y a i j : Int} (e : W = ((2, q), (x, y))) (ha : a = q) (h1 : rs_v g n q ≠ 59) (h2 : rs_v g n q ≠ 32) (h3 : rs_v g n q ≠ 0) (hi : i = x) (hj : j = y) : IX g n W a i j := by
  subst e ha
  exact ⟨rfl, Or.inr ⟨rfl, h1, h2, h3⟩, hi, hj⟩
theorem ix_f {W : rs_R × rs_R} {w : rs_R} {x y a : Int} (e : W = (w, (x, y))) (hw : w.1 = 0) (ha : a = w.2) : W.1.1 = 0 ∧ a = W.1.2 := by
  subst e
  exact ⟨hw, ha⟩
theorem ax_up {L1 L2 : List Nat} {f1 f2 : py_F} {t n : Nat} {c : ClassId} {g : Nat → Int32} {i v : Int32} {b X : Int} (h : arz f1 t b = X) (p : py_at L1 f1 t (.inl (c, n, .inl g))) (p' : py_at L2 f2 t (.inl (c, n, .inl (upd g i.toNatClampNeg v)))) (b0 : 0 ≤ b) (i0 : 0 ≤ i.toInt) : (i.toInt = b ∧ arz f2 t b = v.toInt) ∨ (i.toInt ≠ b ∧ arz f2 t b = X) := by
  obtain ⟨u1, u2⟩ := arz_up p p' i0
  by_cases e : i.toInt = b
  · exact Or.inl ⟨e, by rw [← e]; exact u1⟩
  · exact Or.inr ⟨e, by rw [u2 b b0 (fun z => e z.symm)]; exact h⟩
def OrD (A B : Prop) : Prop := A ∨ B
theorem ax_ud {L1 L2 : List Nat} {f1 f2 : py_F} {t n : Nat} {c : ClassId} {g : Nat → Int32} {i v : Int32} {b X : Int} (h : arz f1 t b = X) (p : py_at L1 f1 t (.inl (c, n, .inl g))) (p' : py_at L2 f2 t (.inl (c, n, .inl (upd g i.toNatClampNeg v)))) (b0 : 0 ≤ b) (i0 : 0 ≤ i.toInt) : OrD (i.toInt = b ∧ arz f2 t b = v.toInt) (i.toInt ≠ b ∧ arz f2 t b = X) := ax_up h p p' b0 i0
theorem ax_kp {f f1 : py_F} {t : Nat} {b v X : Int} {A B : Prop} (e : f1 t = f t) (h : OrD (A ∧ arz f t b = v) (B ∧ arz f t b = X)) : OrD (A ∧ arz f1 t b = v) (B ∧ arz f1 t b = X) := by
  rw [arz_kp e]
  exact h
theorem ax_ex {i b c k y v w x : Int} (h : OrD (i = c ∧ y = v) (i ≠ c ∧ y = x)) (d : Int) (hc : c = b + d) (hi : i = b + k) (hv : v = w) : (k = d ∧ y = w) ∨ (k ≠ d ∧ y = x) := by
  rcases h with ⟨h1, h2⟩ | ⟨h1, h2⟩ <;> omega
theorem ax_ge {i c y v x : Int} (h : OrD (i = c ∧ y = v) (i ≠ c ∧ y = x)) (hv : 0 ≤ v) (hx : 0 ≤ x) : 0 ≤ y := by
  rcases h with ⟨h1, h2⟩ | ⟨h1, h2⟩ <;> omega
theorem hb_rv {m k : Int32} (m0 : 0 ≤ m.toInt) (m1 : m.toInt ≤ 15) (k0 : 0 ≤ k.toInt) (k1 : k.toInt ≤ 3) : HB m k ↔ rv_hs m.toInt k.toInt = 1 := by
  have h := rv_bit m0 m1 k0 k1 (z1 := m >>> (k &&& 31)) (z2 := (m >>> (k &&& 31)) &&& 1) rfl rfl
  constructor
  · intro hb
    unfold HB at hb
    rw [← h, hb]
    rfl
  · intro e
    unfold HB
    apply Int32.toInt_inj.mp
    rw [h, e]
    rfl
/-- the rows hold what is read -/
def RD (f : py_F) (G : wf_G) (m : Nat) (s : rv_S) : Prop := (mi f m 19 = s.1.1 ∧ mi f m 20 = s.1.2) ∧ (∀ j : Int, 0 ≤ j → j < s.1.1 → arz f (G.2 m 17) (4 * j) = s.2.1 j ∧ 0 ≤ s.2.1 j) ∧ (∀ j : Int, 0 ≤ j → j < s.1.2 → arz f (G.2 m 18) (4 * j + 1) = s.2.2 j ∧ 0 ≤ s.2.2 j ∧ s.2.2 j ≤ 7)
theorem RD.zero {f : py_F} {G : wf_G} {m : Nat} (h1 : mi f m 19 = 0) (h2 : mi f m 20 = 0) : RD f G m rv_s0 := ⟨⟨h1, h2⟩, fun j a b => absurd b (show ¬ j < 0 by omega), fun j a b => absurd b (show ¬ j < 0 by omega)⟩
theorem RD.same {f f1 : py_F} {G : wf_G} {m : Nat} {s : rv_S} (h : RD f G m s) (e19 : mi f1 m 19 = mi f m 19) (e20 : mi f1 m 20 = mi f m 20) (e17 : f1 (G.2 m 17) = f (G.2 m 17)) (e18 : f1 (G.2 m 18) = f (G.2 m 18)) : RD f1 G m s := by
  obtain ⟨h1, h2, h3⟩ := h
  refine ⟨⟨e19.trans h1.1, e20.trans h1.2⟩, fun j a b => ?_, fun j a b => ?_⟩
  · rw [arz_kp e17]
    exact h2 j a b
  · rw [arz_kp e18]
    exact h3 j a b
theorem RD.lev {f f1 : py_F} {G : wf_G} {m : Nat} {s : rv_S} {b X : Int} (h : RD f G m s) (pf : PFX f f1 (G.2 m 17) b) (hb : b = 4 * s.1.1) (hx : arz f1 (G.2 m 17) b = X) (h0 : 0 ≤ X) (e18 : f1 (G.2 m 18) = f (G.2 m 18)) (hl : mi f1 m 19 = s.1.1 + 1) (hf : mi f1 m 20 = s.1.2) : RD f1 G m ((s.1.1 + 1, s.1.2), (rv_set s.2.1 s.1.1 X, s.2.2)) := by
  obtain ⟨h1, h2, h3⟩ := h
  subst hb
  refine ⟨⟨hl, hf⟩, fun j a b => ?_, fun j a b => ?_⟩
  · have b2 : j < s.1.1 + 1 := b
    show arz f1 (G.2 m 17) (4 * j) = (if j = s.1.1 then X else s.2.1 j) ∧ 0 ≤ (if j = s.1.1 then X else s.2.1 j)
    by_cases q : j = s.1.1
    · rw [if_pos q, q]
      exact ⟨hx, h0⟩
    · rw [if_neg q, pf (4 * j) (by omega) (by omega)]
      exact h2 j a (by omega)
  · rw [arz_kp e18]
    exact h3 j a b
theorem RD.fam {f f1 : py_F} {G : wf_G} {m : Nat} {s : rv_S} {b X : Int} (h : RD f G m s) (pf : PFX f f1 (G.2 m 18) b) (hb : b = 4 * s.1.2) (hx : arz f1 (G.2 m 18) (b + 1) = X) (h0 : 0 ≤ X ∧ X ≤ 7) (e17 : f1 (G.2 m 17) = f (G.2 m 17)) (hl : mi f1 m 19 = s.1.1) (hf : mi f1 m 20 = s.1.2 + 1) : RD f1 G m ((s.1.1, s.1.2 + 1), (s.2.1, rv_set s.2.2 s.1.2 X)) := by
  obtain ⟨h1, h2, h3⟩ := h
  subst hb
  refine ⟨⟨hl, hf⟩, fun j a b => ?_, fun j a b => ?_⟩
  · rw [arz_kp e17]
    exact h2 j a b
  · have b2 : j < s.1.2 + 1 := b
    show arz f1 (G.2 m 18) (4 * j + 1) = (if j = s.1.2 then X else s.2.2 j) ∧ 0 ≤ (if j = s.1.2 then X else s.2.2 j) ∧ (if j = s.1.2 then X else s.2.2 j) ≤ 7
    by_cases q : j = s.1.2
    · rw [if_pos q, q]
      exact ⟨hx, h0⟩
    · rw [if_neg q, pf (4 * j + 1) (by omega) (by omega)]
      exact h3 j a (by omega)
theorem RD.cl_l {f : py_F} {G : wf_G} {m : Nat} {g : rs_B} {n p X : Int} {s : rv_S} (h : RD f G m ((s.1.1 + 1, s.1.2), (rv_set s.2.1 s.1.1 X, s.2.2))) (hv : rs_v g n (rs_sk g n p) = 108) (h2 : s.1.1 < 8) (hx : X = (rv_is g n 1 (rs_sk g n p + 1)).2.1) : RD f G m (rv_cl g n s p).2 := by
  subst hx
  rw [rv_cl_l hv h2]
  exact h
theorem RD.cl_k {f : py_F} {G : wf_G} {m : Nat} {g : rs_B} {n p X : Int} {s : rv_S} (h : RD f G m ((s.1.1, s.1.2 + 1), (s.2.1, rv_set s.2.2 s.1.2 X))) (hv : rs_v g n (rs_sk g n p) = 107) (h2 : s.1.2 < 10) (hx : X = (rv_is g n 0 (rs_sk g n p + 1)).2.2) : RD f G m (rv_cl g n s p).2 := by
  subst hx
  rw [rv_cl_k hv h2]
  exact h
/-- how a clause is told by the reference: a its place -/
def CQ (g : rs_B) (n : Int) (W : rs_R × rv_S) (a : Int) : Prop := a = W.1.2 ∧ (W.1.1 = 1 ∨ (W.1.1 = 2 ∧ rs_v g n a ≠ 59 ∧ rs_v g n a ≠ 32 ∧ rs_v g n a ≠ 0))
theorem cq_l {g : rs_B} {n p a a2 x y : Int} {s : rv_S} (hX : IX g n (rv_is g n 1 (rs_sk g n p + 1)) a x y) (hv : rs_v g n (rs_sk g n p) = 108) (h2 : s.1.1 < 8) (ha : a2 = a) : CQ g n (rv_cl g n s p) a2 := by
  subst ha
  rw [rv_cl_l hv h2]
  exact ⟨hX.1, hX.2.1⟩
theorem cq_k {g : rs_B} {n p a a2 x y : Int} {s : rv_S} (hX : IX g n (rv_is g n 0 (rs_sk g n p + 1)) a x y) (hv : rs_v g n (rs_sk g n p) = 107) (h2 : s.1.2 < 10) (ha : a2 = a) : CQ g n (rv_cl g n s p) a2 := by
  subst ha
  rw [rv_cl_k hv h2]
  exact ⟨hX.1, hX.2.1⟩
theorem cw_l {g : rs_B} {n p a a2 : Int} {s : rv_S} (h : (rv_is g n 1 (rs_sk g n p + 1)).1.1 = 0 ∧ a = (rv_is g n 1 (rs_sk g n p + 1)).1.2) (hv : rs_v g n (rs_sk g n p) = 108) (h2 : s.1.1 < 8) (ha : a2 = a) : (rv_cl g n s p).1.1 = 0 ∧ a2 = (rv_cl g n s p).1.2 := by
  subst ha
  rw [rv_cl_l hv h2]
  exact h
theorem cw_k {g : rs_B} {n p a a2 : Int} {s : rv_S} (h : (rv_is g n 0 (rs_sk g n p + 1)).1.1 = 0 ∧ a = (rv_is g n 0 (rs_sk g n p + 1)).1.2) (hv : rs_v g n (rs_sk g n p) = 107) (h2 : s.1.2 < 10) (ha : a2 = a) : (rv_cl g n s p).1.1 = 0 ∧ a2 = (rv_cl g n s p).1.2 := by
  subst ha
  rw [rv_cl_k hv h2]
  exact h
theorem cw_0 {g : rs_B} {n p a : Int} {s : rv_S} (h1 : ¬ (rs_v g n (rs_sk g n p) = 108 ∧ s.1.1 < 8)) (h2 : ¬ (rs_v g n (rs_sk g n p) = 107 ∧ s.1.2 < 10)) (ha : a = rs_sk g n p) : (rv_cl g n s p).1.1 = 0 ∧ a = (rv_cl g n s p).1.2 := by
  rw [rv_cl_0 h1 h2]
  exact ⟨rfl, ha⟩
/-- every level has huts for who lives there -/
def AH (s : rv_S) : Prop := ∀ v : Int, 0 ≤ v → v < 8 → rv_cn s.2.2 v s.1.2.toNat ≤ (if v < s.1.1 then s.2.1 v else 0)
theorem rv_cn_ex {ho : rv_F} {v : Int} {k : Nat} (h : rv_cn ho v k ≠ 0) : ∃ i : Nat, i < k ∧ ho i = v := by
  induction k with
  | zero => exact absurd rfl h
  | succ k ih =>
    by_cases e : ho k = v
    · exact ⟨k, by omega, e⟩
    · have h2 : rv_cn ho v (k + 1) = rv_cn ho v k + if ho k = v then 1 else 0 := rfl
      rw [if_neg e] at h2
      obtain ⟨i, a, b⟩ := ih (by omega)
      exact ⟨i, by omega, b⟩
theorem ah_hd {f : py_F} {G : wf_G} {m : Nat} {s : rv_S} (h : RD f G m s) (h8 : s.1.1 ≤ 8) (h2 : 2 ≤ s.1.1) (h1 : 1 ≤ s.1.2) : AH s ↔ rv_hd s := by
  constructor
  · intro hA
    refine ⟨h2, h1, fun i a b => ?_⟩
    obtain ⟨-, r0, r7⟩ := h.2.2 i a b
    have hc := hA (s.2.2 i) r0 (by omega)
    have hg := rv_cn_in (ho := s.2.2) (v := s.2.2 i) (i := i.toNat) (k := s.1.2.toNat) (by omega) (by rw [show ((i.toNat : Nat) : Int) = i by omega])
    by_cases q : s.2.2 i < s.1.1
    · rw [if_pos q] at hc
      exact ⟨q, hc⟩
    · rw [if_neg q] at hc
      omega
  · intro hd v a b
    by_cases z : rv_cn s.2.2 v s.1.2.toNat = 0
    · rw [z]
      by_cases q : v < s.1.1
      · rw [if_pos q]
        exact (h.2.1 v a q).2
      · rw [if_neg q]
        exact Int.le_refl 0
    · obtain ⟨i, i1, i2⟩ := rv_cn_ex z
      obtain ⟨q, hc⟩ := hd.2.2 i (by omega) (by omega)
      rw [i2] at q hc
      rw [if_pos q]
      exact hc
/-- how the clauses end -/
def CE (g : rs_B) (n : Int) (W : rs_R × rv_S) (a : Int) : Prop := a = W.1.2 ∧ ((W.1.1 = 1 ∧ rs_sk g n a = a) ∨ (W.1.1 = 2 ∧ rs_v g n a ≠ 32 ∧ rs_v g n a ≠ 0))
theorem go_w {g : rs_B} {n p a : Int} {s : rv_S} {W0 : rs_R × rv_S} (h : W0 = rv_go g n s p) (hc : (rv_cl g n s p).1.1 = 0 ∧ a = (rv_cl g n s p).1.2) : W0.1.1 = 0 ∧ a = W0.1.2 := by
  obtain ⟨h1, h2⟩ := hc
  rw [h, rv_go_af (fun z => by omega), rv_af_n (by omega)]
  exact ⟨h1, h2⟩
theorem go_1 {g : rs_B} {n p a b : Int} {s : rv_S} {W0 : rs_R × rv_S} (h : W0 = rv_go g n s p) (hq : CQ g n (rv_cl g n s p) a) (hp : p ≤ a) (hv : rs_v g n (rs_sk g n a) = 59) (hb : b = rs_sk g n a + 1) : W0 = rv_go g n (rv_cl g n s p).2 b := by
  obtain ⟨e, hq⟩ := hq
  rcases hq with h1 | ⟨h1, h2, h3, h4⟩
  · rw [h, rv_go_af (fun z => by omega), rv_af_1 h1 (by rw [← e]; exact hv), ← e, hb]
  · rw [rs_sk_stop h3] at hv
    exact absurd hv h2
theorem go_0 {g : rs_B} {n p a b : Int} {s : rv_S} {W0 : rs_R × rv_S} (h : W0 = rv_go g n s p) (hq : CQ g n (rv_cl g n s p) a) (hp : p ≤ a) (hv : rs_v g n (rs_sk g n a) ≠ 59) (hb : b = rs_sk g n a) : CE g n W0 b ∧ W0.2 = (rv_cl g n s p).2 := by
  obtain ⟨e, hq⟩ := hq
  rcases hq with h1 | ⟨h1, h2, h3, h4⟩
  · rw [h, rv_go_af (fun z => by omega), rv_af_e h1 (by rw [← e]; exact hv), ← e, hb]
    exact ⟨⟨rfl, Or.inl ⟨rfl, rs_sk_idem g n a⟩⟩, rfl⟩
  · rw [h, rv_go_af (fun z => by omega), rv_af_n (by omega), hb, rs_sk_stop h3]
    exact ⟨⟨e, Or.inr ⟨h1, h3, h4⟩⟩, rfl⟩
theorem RVF_w0 {g : rs_B} {n r : Int} (h : (rv_go g n rv_s0 0).1.1 = 0 ∧ r = (rv_go g n rv_s0 0).1.2) : RVF g n r := Or.inl ⟨by omega, h.2⟩
theorem RVF_b {g : rs_B} {n r a : Int} (h : CE g n (rv_go g n rv_s0 0) a) (hl : rs_sk g n a < n) (hr : r = rs_sk g n a) : RVF g n r := by
  obtain ⟨e, h1⟩ := h
  rcases h1 with ⟨h1, h2⟩ | ⟨h1, h2, h3⟩
  · exact Or.inr (Or.inl ⟨h1, by omega, by omega⟩)
  · rw [rs_sk_stop h2] at hr
    exact Or.inl ⟨by omega, by omega⟩
theorem RVF_h {g : rs_B} {n r a : Int} (h : CE g n (rv_go g n rv_s0 0) a) (hl : ¬ rs_sk g n a < n) (hv : rs_v g n (rs_sk g n a) = 0) (hd : rv_hd (rv_go g n rv_s0 0).2) (hr : r = -1) : RVF g n r := by
  obtain ⟨e, h1⟩ := h
  rcases h1 with ⟨h1, h2⟩ | ⟨h1, h2, h3⟩
  · exact Or.inr (Or.inr (Or.inl ⟨h1, by omega, hd, hr⟩))
  · rw [rs_sk_stop h2] at hv
    exact absurd hv h3
theorem RVF_m {g : rs_B} {n r a : Int} (h : CE g n (rv_go g n rv_s0 0) a) (hl : ¬ rs_sk g n a < n) (hv : rs_v g n (rs_sk g n a) = 0) (hd : ¬ rv_hd (rv_go g n rv_s0 0).2) (hr : r = n) : RVF g n r := by
  obtain ⟨e, h1⟩ := h
  rcases h1 with ⟨h1, h2⟩ | ⟨h1, h2, h3⟩
  · exact Or.inr (Or.inr (Or.inr ⟨h1, by omega, hd, hr⟩))
  · rw [rs_sk_stop h2] at hv
    exact absurd hv h3
theorem hi_eq1 {b r : Int} (h : (b = 0 ∧ r = 4) ∨ (b = 1 ∧ r = 99) ∨ (b = 2 ∧ r = 50) ∨ (b ≠ 0 ∧ b ≠ 1 ∧ b ≠ 2 ∧ r = 1)) (k0 : 0 ≤ b) (k3 : b ≤ 3) : r = rv_hi 1 b := by
  have hz := rv_hi_1 b k0 k3
  omega
theorem hi_eq0 {b r : Int} (h : (b = 0 ∧ r = 12) ∨ (b = 1 ∧ r = 7) ∨ (b ≠ 0 ∧ b ≠ 1 ∧ r = 100)) (k0 : 0 ≤ b) (k3 : b ≤ 3) : r = rv_hi 0 b := by
  have hz := rv_hi_0 b k0 k3
  omega
theorem lo_eq {b r : Int} (h1 : b = 0 → r = 1) (h2 : b ≠ 0 → r = 0) : r = rv_lo b := by
  have hz := rv_lo_eq b
  omega
theorem rv_lo_ge (k : Int) : 0 ≤ rv_lo k := by
  have hz := rv_lo_eq k
  omega
def GOX (g : rs_B) (n : Int) (f : py_F) (G : wf_G) (m : Nat) (a : Int) : Prop := ∃ s : rv_S, rv_go g n rv_s0 0 = rv_go g n s a ∧ RD f G m s
