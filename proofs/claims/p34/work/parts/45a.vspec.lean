/-! READING A VALLEY: clauses -/
abbrev rv_F : Type := Int → Int
def rv_set (h : rv_F) (i x : Int) : rv_F := fun j => if j = i then x else h j
/-- how many levels and families so far, the huts of a level, the home of a family -/
abbrev rv_S : Type := (Int × Int) × (rv_F × rv_F)
def rv_cl (g : rs_B) (n : Int) (s : rv_S) (p : Int) : rs_R × rv_S :=
  if rs_v g n (rs_sk g n p) = 108 ∧ s.1.1 < 8 then ((rv_is g n 1 (rs_sk g n p + 1)).1, ((s.1.1 + 1, s.1.2), (rv_set s.2.1 s.1.1 (rv_is g n 1 (rs_sk g n p + 1)).2.1, s.2.2)))
  else if rs_v g n (rs_sk g n p) = 107 ∧ s.1.2 < 10 then ((rv_is g n 0 (rs_sk g n p + 1)).1, ((s.1.1, s.1.2 + 1), (s.2.1, rv_set s.2.2 s.1.2 (rv_is g n 0 (rs_sk g n p + 1)).2.2)))
  else ((0, rs_sk g n p), s)
theorem rv_cl_l {g : rs_B} {n p : Int} {s : rv_S} (h : rs_v g n (rs_sk g n p) = 108) (h2 : s.1.1 < 8) : rv_cl g n s p = ((rv_is g n 1 (rs_sk g n p + 1)).1, ((s.1.1 + 1, s.1.2), (rv_set s.2.1 s.1.1 (rv_is g n 1 (rs_sk g n p + 1)).2.1, s.2.2))) := if_pos ⟨h, h2⟩
theorem rv_cl_k {g : rs_B} {n p : Int} {s : rv_S} (h : rs_v g n (rs_sk g n p) = 107) (h2 : s.1.2 < 10) : rv_cl g n s p = ((rv_is g n 0 (rs_sk g n p + 1)).1, ((s.1.1, s.1.2 + 1), (s.2.1, rv_set s.2.2 s.1.2 (rv_is g n 0 (rs_sk g n p + 1)).2.2))) := by
  unfold rv_cl
  rw [if_neg (by omega), if_pos ⟨h, h2⟩]
theorem rv_cl_0 {g : rs_B} {n p : Int} {s : rv_S} (h : ¬ (rs_v g n (rs_sk g n p) = 108 ∧ s.1.1 < 8)) (h2 : ¬ (rs_v g n (rs_sk g n p) = 107 ∧ s.1.2 < 10)) : rv_cl g n s p = ((0, rs_sk g n p), s) := by
  unfold rv_cl
  rw [if_neg h, if_neg h2]
/-- the clauses from p on -/
def rv_go (g : rs_B) (n : Int) (s : rv_S) (p : Int) : rs_R × rv_S :=
  if (rv_cl g n s p).1.1 = 1 then
    (if rs_v g n (rs_sk g n (rv_cl g n s p).1.2) = 59 ∧ p ≤ rs_sk g n (rv_cl g n s p).1.2 ∧ rs_sk g n (rv_cl g n s p).1.2 < n then rv_go g n (rv_cl g n s p).2 (rs_sk g n (rv_cl g n s p).1.2 + 1)
    else ((1, rs_sk g n (rv_cl g n s p).1.2), (rv_cl g n s p).2))
  else rv_cl g n s p
termination_by (n - p).toNat
decreasing_by omega
/-- behind a clause that is read -/
def rv_af (g : rs_B) (n : Int) (w : rs_R × rv_S) : rs_R × rv_S :=
  if w.1.1 = 1 then (if rs_v g n (rs_sk g n w.1.2) = 59 then rv_go g n w.2 (rs_sk g n w.1.2 + 1) else ((1, rs_sk g n w.1.2), w.2))
  else w
theorem rv_go_af {g : rs_B} {n p : Int} {s : rv_S} (h : (rv_cl g n s p).1.1 = 1 → p ≤ (rv_cl g n s p).1.2) : rv_go g n s p = rv_af g n (rv_cl g n s p) := by
  rw [rv_go]
  unfold rv_af
  by_cases q : (rv_cl g n s p).1.1 = 1
  · rw [if_pos q, if_pos q]
    have h1 := h q
    have h2 := rs_sk_ge g n (rv_cl g n s p).1.2
    by_cases r : rs_v g n (rs_sk g n (rv_cl g n s p).1.2) = 59
    · have h3 : rs_sk g n (rv_cl g n s p).1.2 < n := rs_v_lt (g := g) (by omega)
      rw [if_pos ⟨r, by omega, h3⟩, if_pos r]
    · rw [if_neg (fun z => r z.1), if_neg r]
  · rw [if_neg q, if_neg q]
theorem rv_af_n {g : rs_B} {n : Int} {w : rs_R × rv_S} (h : w.1.1 ≠ 1) : rv_af g n w = w := if_neg h
theorem rv_af_1 {g : rs_B} {n : Int} {w : rs_R × rv_S} (h : w.1.1 = 1) (h2 : rs_v g n (rs_sk g n w.1.2) = 59) : rv_af g n w = rv_go g n w.2 (rs_sk g n w.1.2 + 1) := by
  unfold rv_af
  rw [if_pos h, if_pos h2]
theorem rv_af_e {g : rs_B} {n : Int} {w : rs_R × rv_S} (h : w.1.1 = 1) (h2 : rs_v g n (rs_sk g n w.1.2) ≠ 59) : rv_af g n w = ((1, rs_sk g n w.1.2), w.2) := by
  unfold rv_af
  rw [if_pos h, if_neg h2]
/-- how many of the first k homes are v -/
def rv_cn (ho : rv_F) (v : Int) : Nat → Int
  | 0 => 0
  | k + 1 => rv_cn ho v k + if ho k = v then 1 else 0
theorem rv_cn_ge (ho : rv_F) (v : Int) (k : Nat) : 0 ≤ rv_cn ho v k := by
  induction k with
  | zero => exact Int.le_refl 0
  | succ k ih =>
    show 0 ≤ rv_cn ho v k + if ho k = v then 1 else 0
    split <;> omega
theorem rv_cn_in {ho : rv_F} {v : Int} {i k : Nat} (h : i < k) (e : ho i = v) : 1 ≤ rv_cn ho v k := by
  induction k with
  | zero => omega
  | succ k ih =>
    show 1 ≤ rv_cn ho v k + if ho k = v then 1 else 0
    have := rv_cn_ge ho v k
    by_cases q : i = k
    · subst q
      rw [if_pos e]
      omega
    · have := ih (by omega)
      split <;> omega
/-- every family has a home, and every home huts -/
def rv_hd (s : rv_S) : Prop := 2 ≤ s.1.1 ∧ 1 ≤ s.1.2 ∧ ∀ i : Int, 0 ≤ i → i < s.1.2 → s.2.2 i < s.1.1 ∧ rv_cn s.2.2 (s.2.2 i) s.1.2.toNat ≤ s.2.1 (s.2.2 i)
/-- the FAULT of a VALLEY, once its clauses are read; b: 1 if it is whole -/
def rv_flt (n : Int) (w : rs_R) (b : Int) : Int := if w.1 ≠ 1 then w.2 else if w.2 < n then w.2 else if b = 1 then -1 else n
/-! the mask of the items that were there, as bits -/
theorem rv_nat {k : Int32} (h0 : 0 ≤ k.toInt) : Int32.ofNat k.toInt.toNat = k := by
  apply Int32.toInt_inj.mp
  have h1 := Int32.toInt_le k
  have hm : Int32.maxValue.toInt = 2147483647 := rfl
  have hs : Int32.size = 4294967296 := rfl
  have h2 : (Int32.ofNat k.toInt.toNat).toInt = ((k.toInt.toNat : Nat) : Int).bmod Int32.size := by
    rw [Int32.toInt_ofNat']
  rw [h2, Int.bmod_eq_of_le (by omega) (by omega)]
  omega
theorem rv_bits_all : ∀ i : Nat, i < 16 → ∀ j : Nat, j < 4 → (((Int32.ofNat i >>> (Int32.ofNat j &&& 31)) &&& 1).toInt = rv_hs i j) ∧ (rv_hs i j ≠ 1 → (Int32.ofNat i ||| (1 <<< (Int32.ofNat j &&& 31))).toInt = rv_ad i j) := by decide +kernel
theorem rv_bit {m k z1 z2 : Int32} (m0 : 0 ≤ m.toInt) (m1 : m.toInt ≤ 15) (k0 : 0 ≤ k.toInt) (k1 : k.toInt ≤ 3) (e1 : z1 = m >>> (k &&& 31)) (e2 : z2 = z1 &&& 1) : z2.toInt = rv_hs m.toInt k.toInt := by
  have h := (rv_bits_all m.toInt.toNat (by omega) k.toInt.toNat (by omega)).1
  rw [rv_nat m0, rv_nat k0] at h
  rw [e2, e1, h, Int.toNat_of_nonneg m0, Int.toNat_of_nonneg k0]
theorem rv_bit_on {m k y1 m2 : Int32} (m0 : 0 ≤ m.toInt) (m1 : m.toInt ≤ 15) (k0 : 0 ≤ k.toInt) (k1 : k.toInt ≤ 3) (h : rv_hs m.toInt k.toInt ≠ 1) (e1 : y1 = 1 <<< (k &&& 31)) (e2 : m2 = m ||| y1) : m2.toInt = rv_ad m.toInt k.toInt := by
  have h2 := (rv_bits_all m.toInt.toNat (by omega) k.toInt.toNat (by omega)).2
  rw [rv_nat m0, rv_nat k0, Int.toNat_of_nonneg m0, Int.toNat_of_nonneg k0] at h2
  rw [e2, e1]
  exact h2 h
theorem rv_lo_eq (k : Int) : (k = 0 ∧ rv_lo k = 1) ∨ (k ≠ 0 ∧ rv_lo k = 0) := by
  unfold rv_lo
  split <;> omega
theorem rv_hi_1 (k : Int) (h0 : 0 ≤ k) (h3 : k ≤ 3) : (k = 0 ∧ rv_hi 1 k = 4) ∨ (k = 1 ∧ rv_hi 1 k = 99) ∨ (k = 2 ∧ rv_hi 1 k = 50) ∨ (k = 3 ∧ rv_hi 1 k = 1) := by
  have hk : k = 0 ∨ k = 1 ∨ k = 2 ∨ k = 3 := by omega
  rcases hk with hk | hk | hk | hk <;> subst hk <;> decide
theorem rv_hi_0 (k : Int) (h0 : 0 ≤ k) (h3 : k ≤ 3) : (k = 0 ∧ rv_hi 0 k = 12) ∨ (k = 1 ∧ rv_hi 0 k = 7) ∨ (k = 2 ∧ rv_hi 0 k = 100) ∨ (k = 3 ∧ rv_hi 0 k = 100) := by
  have hk : k = 0 ∨ k = 1 ∨ k = 2 ∨ k = 3 := by omega
  rcases hk with hk | hk | hk | hk <;> subst hk <;> decide
/-- how the items are told -/
def ri_X (W : rs_R × rs_R) (r t x y : Int) : Prop := t = W.1.2 ∧ ((r = 1 ∧ W.1.1 = 1) ∨ (r = 0 ∧ W.1.1 ≠ 1)) ∧ x = W.2.1 ∧ y = W.2.2
theorem ri_e {W : rs_R × rs_R} {q x y r t i j : Int} (e : W = ((1, q), (x, y))) (hr : r = 1) (ht : t = q) (hx : i = x) (hy : j = y) : ri_X W r t i j := by
  subst e
  exact ⟨ht, Or.inl ⟨hr, rfl⟩, hx, hy⟩
theorem ri_r {W : rs_R × rs_R} {q x y r t i j : Int} (e : W = ((2, q), (x, y))) (hr : r = 0) (ht : t = q) (hx : i = x) (hy : j = y) : ri_X W r t i j := by
  subst e
  exact ⟨ht, Or.inr ⟨hr, (show (2 : Int) ≠ 1 by decide)⟩, hx, hy⟩
theorem ri_f {W : rs_R × rs_R} {w : rs_R} {x y r t i j : Int} (e : W = (w, (x, y))) (hw : w.1 = 0) (hr : r = 0) (ht : t = w.2) (hx : i = x) (hy : j = y) : ri_X W r t i j := by
  subst e
  exact ⟨ht, Or.inr ⟨hr, (show w.1 ≠ 1 by omega)⟩, hx, hy⟩
/-! the draft holds what is read -/
def VD (f : py_F) (G : wf_G) (v : Nat) (s : rv_S) : Prop := (va_l f v = s.1.1 ∧ va_f f v = s.1.2) ∧ (∀ j : Int, 0 ≤ j → j < s.1.1 → (gfn f (G.2 v 0) j.toNat).toInt = s.2.1 j) ∧ (∀ j : Int, 0 ≤ j → j < s.1.2 → (gfn f (G.2 v 5) j.toNat).toInt = s.2.2 j)
def rv_s0 : rv_S := ((0, 0), (fun _ => 0, fun _ => 0))
theorem VD.zero {f : py_F} {G : wf_G} {v : Nat} (h1 : va_l f v = 0) (h2 : va_f f v = 0) : VD f G v rv_s0 := ⟨⟨h1, h2⟩, fun j a b => absurd b (show ¬ j < 0 by omega), fun j a b => absurd b (show ¬ j < 0 by omega)⟩
theorem VD.same {f f1 : py_F} {G : wf_G} {v : Nat} {s : rv_S} (h : VD f G v s) (e : f1 v = f v) (e0 : f1 (G.2 v 0) = f (G.2 v 0)) (e5 : f1 (G.2 v 5) = f (G.2 v 5)) : VD f1 G v s := by
  unfold VD va_l va_f at h ⊢
  rw [e, gfn_kp e0, gfn_kp e5]
  exact h
theorem gfn_up {L1 L2 : List Nat} {f1 f2 : py_F} {t n n2 : Nat} {c c2 : ClassId} {g : Nat → Int32} {k x : Int32} {p : Int} (h1 : py_at L1 f1 t (.inl (c, n, .inl g))) (h2 : py_at L2 f2 t (.inl (c2, n2, .inl (upd g k.toNatClampNeg x)))) (hk : k.toInt = p) : gfn f2 t = upd (gfn f1 t) p.toNat x := by
  rw [gfn_eq h1, gfn_eq h2, ← hk]
  rfl
theorem VD.lev {f f1 : py_F} {G : wf_G} {v : Nat} {s : rv_S} {x : Int32} {X : Int} (h : VD f G v s) (hl : va_l f1 v = s.1.1 + 1) (hf : va_f f1 v = s.1.2) (h0 : 0 ≤ s.1.1) (hU : gfn f1 (G.2 v 0) = upd (gfn f (G.2 v 0)) s.1.1.toNat x) (hx : x.toInt = X) (e5 : f1 (G.2 v 5) = f (G.2 v 5)) : VD f1 G v ((s.1.1 + 1, s.1.2), (rv_set s.2.1 s.1.1 X, s.2.2)) := by
  obtain ⟨h1, h2, h3⟩ := h
  refine ⟨⟨hl, hf⟩, fun j a b => ?_, fun j a b => ?_⟩
  · show (gfn f1 (G.2 v 0) j.toNat).toInt = (if j = s.1.1 then X else s.2.1 j)
    have b2 : j < s.1.1 + 1 := b
    rw [hU]
    by_cases q : j = s.1.1
    · rw [if_pos q, q, upd_at, hx]
    · rw [if_neg q, upd_off _ _ (show j.toNat ≠ s.1.1.toNat by omega)]
      exact h2 j a (by omega)
  · rw [gfn_kp e5]
    exact h3 j a b
theorem VD.fam {f f1 : py_F} {G : wf_G} {v : Nat} {s : rv_S} {x : Int32} {X : Int} (h : VD f G v s) (hl : va_l f1 v = s.1.1) (hf : va_f f1 v = s.1.2 + 1) (h0 : 0 ≤ s.1.2) (hU : gfn f1 (G.2 v 5) = upd (gfn f (G.2 v 5)) s.1.2.toNat x) (hx : x.toInt = X) (e0 : f1 (G.2 v 0) = f (G.2 v 0)) : VD f1 G v ((s.1.1, s.1.2 + 1), (s.2.1, rv_set s.2.2 s.1.2 X)) := by
  obtain ⟨h1, h2, h3⟩ := h
  refine ⟨⟨hl, hf⟩, fun j a b => ?_, fun j a b => ?_⟩
  · rw [gfn_kp e0]
    exact h2 j a b
  · show (gfn f1 (G.2 v 5) j.toNat).toInt = (if j = s.1.2 then X else s.2.2 j)
    have b2 : j < s.1.2 + 1 := b
    rw [hU]
    by_cases q : j = s.1.2
    · rw [if_pos q, q, upd_at, hx]
    · rw [if_neg q, upd_off _ _ (show j.toNat ≠ s.1.2.toNat by omega)]
      exact h3 j a (by omega)
/-! how a clause, a valley is told -/
def rc_X (W : rs_R × rv_S) (r t : Int) : Prop := t = W.1.2 ∧ ((r = 1 ∧ W.1.1 = 1) ∨ (r = 0 ∧ W.1.1 ≠ 1))
theorem VD.at {f : py_F} {G : wf_G} {v w : Nat} {s : rv_S} (h : VD f G v s) (e : v = w) : VD f G w s := e ▸ h
theorem dr_eq {L : List Nat} {f : py_F} {h q r : Nat} (hr : py_at L f h (.inr (10, [.ref q, .ref r]))) : dr_v (f h) = r := by
  rw [hr.2]
  rfl
theorem VD.cl_l {f : py_F} {G : wf_G} {v : Nat} {g : rs_B} {n p X : Int} {s : rv_S} (h : VD f G v ((s.1.1 + 1, s.1.2), (rv_set s.2.1 s.1.1 X, s.2.2))) (hv : rs_v g n (rs_sk g n p) = 108) (h2 : s.1.1 < 8) (hx : X = (rv_is g n 1 (rs_sk g n p + 1)).2.1) : VD f G v (rv_cl g n s p).2 := by
  subst hx
  rw [rv_cl_l hv h2]
  exact h
theorem VD.cl_k {f : py_F} {G : wf_G} {v : Nat} {g : rs_B} {n p X : Int} {s : rv_S} (h : VD f G v ((s.1.1, s.1.2 + 1), (s.2.1, rv_set s.2.2 s.1.2 X))) (hv : rs_v g n (rs_sk g n p) = 107) (h2 : s.1.2 < 10) (hx : X = (rv_is g n 0 (rs_sk g n p + 1)).2.2) : VD f G v (rv_cl g n s p).2 := by
  subst hx
  rw [rv_cl_k hv h2]
  exact h
theorem VD.cl_0 {f : py_F} {G : wf_G} {v : Nat} {g : rs_B} {n p : Int} {s : rv_S} (h : VD f G v s) (h1 : ¬ (rs_v g n (rs_sk g n p) = 108 ∧ s.1.1 < 8)) (h2 : ¬ (rs_v g n (rs_sk g n p) = 107 ∧ s.1.2 < 10)) : VD f G v (rv_cl g n s p).2 := by
  rw [rv_cl_0 h1 h2]
  exact h
theorem rc_l {g : rs_B} {n p r t t2 x y : Int} {s : rv_S} (hX : ri_X (rv_is g n 1 (rs_sk g n p + 1)) r t x y) (hv : rs_v g n (rs_sk g n p) = 108) (h2 : s.1.1 < 8) (ht : t2 = t) : rc_X (rv_cl g n s p) r t2 := by
  subst ht
  rw [rv_cl_l hv h2]
  exact ⟨hX.1, hX.2.1⟩
theorem rc_k {g : rs_B} {n p r t t2 x y : Int} {s : rv_S} (hX : ri_X (rv_is g n 0 (rs_sk g n p + 1)) r t x y) (hv : rs_v g n (rs_sk g n p) = 107) (h2 : s.1.2 < 10) (ht : t2 = t) : rc_X (rv_cl g n s p) r t2 := by
  subst ht
  rw [rv_cl_k hv h2]
  exact ⟨hX.1, hX.2.1⟩
theorem rc_0 {g : rs_B} {n p r t : Int} {s : rv_S} (h1 : ¬ (rs_v g n (rs_sk g n p) = 108 ∧ s.1.1 < 8)) (h2 : ¬ (rs_v g n (rs_sk g n p) = 107 ∧ s.1.2 < 10)) (hr : r = 0) (ht : t = rs_sk g n p) : rc_X (rv_cl g n s p) r t := by
  subst hr ht
  rw [rv_cl_0 h1 h2]
  exact ⟨rfl, Or.inr ⟨rfl, (show (0 : Int) ≠ 1 by decide)⟩⟩
theorem VD.fam_ld {L : List Nat} {f : py_F} {G : wf_G} {v n : Nat} {c : ClassId} {s : rv_S} {g : Nat → Int32} {x i : Int32} (h : VD f G v s) (ha : py_at L f (G.2 v 5) (.inl (c, n, .inl g))) (e : x = g i.toNatClampNeg) (h0 : 0 ≤ i.toInt) (h1 : i.toInt < s.1.2) : x.toInt = s.2.2 i.toInt := by
  rw [← h.2.2 _ h0 h1, gfn_eq ha, e]
  rfl
theorem VD.lev_ld {L : List Nat} {f : py_F} {G : wf_G} {v n : Nat} {c : ClassId} {s : rv_S} {g : Nat → Int32} {x i : Int32} (h : VD f G v s) (ha : py_at L f (G.2 v 0) (.inl (c, n, .inl g))) (e : x = g i.toNatClampNeg) (h0 : 0 ≤ i.toInt) (h1 : i.toInt < s.1.1) : x.toInt = s.2.1 i.toInt := by
  rw [← h.2.1 _ h0 h1, gfn_eq ha, e]
  rfl
theorem rv_cn_st {ho : rv_F} {v k k2 c c2 : Int} (hc : c = rv_cn ho v k.toNat) (h0 : 0 ≤ k) (hk : k2 = k + 1) (hx : (ho k = v ∧ c2 = c + 1) ∨ (ho k ≠ v ∧ c2 = c)) : c2 = rv_cn ho v k2.toNat := by
  subst hk
  rw [show (k + 1).toNat = k.toNat + 1 by omega]
  show c2 = rv_cn ho v k.toNat + if ho ((k.toNat : Nat) : Int) = v then 1 else 0
  rw [show ((k.toNat : Nat) : Int) = k by omega]
  rcases hx with ⟨a, b⟩ | ⟨a, b⟩
  · rw [if_pos a]
    omega
  · rw [if_neg a]
    omega
/-- the FAULT of the bytes as a VALLEY -/
def RVF (g : rs_B) (n r : Int) : Prop := ((rv_go g n rv_s0 0).1.1 ≠ 1 ∧ r = (rv_go g n rv_s0 0).1.2) ∨ ((rv_go g n rv_s0 0).1.1 = 1 ∧ (rv_go g n rv_s0 0).1.2 < n ∧ r = (rv_go g n rv_s0 0).1.2) ∨ ((rv_go g n rv_s0 0).1.1 = 1 ∧ ¬ (rv_go g n rv_s0 0).1.2 < n ∧ rv_hd (rv_go g n rv_s0 0).2 ∧ r = -1) ∨ ((rv_go g n rv_s0 0).1.1 = 1 ∧ ¬ (rv_go g n rv_s0 0).1.2 < n ∧ ¬ rv_hd (rv_go g n rv_s0 0).2 ∧ r = n)
theorem RVF.eq {g : rs_B} {n r1 r2 : Int} (h1 : RVF g n r1) (h2 : RVF g n r2) : r1 = r2 := by
  unfold RVF at h1 h2
  generalize rv_go g n rv_s0 0 = W at h1 h2
  rcases h1 with ⟨a1, b1⟩ | ⟨a1, b1, c1⟩ | ⟨a1, b1, c1, d1⟩ | ⟨a1, b1, c1, d1⟩ <;> rcases h2 with ⟨a2, b2⟩ | ⟨a2, b2, c2⟩ | ⟨a2, b2, c2, d2⟩ | ⟨a2, b2, c2, d2⟩ <;> first | omega | exact absurd c1 c2 | exact absurd c2 c1
theorem RVF_0 {g : rs_B} {n r : Int} {w : rs_R × rv_S} (h : rv_go g n rv_s0 0 = rv_af g n w) (hw : w.1.1 ≠ 1) (hr : r = w.1.2) : RVF g n r := by
  unfold RVF
  rw [h, rv_af_n hw]
  exact Or.inl ⟨hw, hr⟩
theorem RVF_p {g : rs_B} {n r : Int} {w : rs_R × rv_S} (h : rv_go g n rv_s0 0 = rv_af g n w) (hw : w.1.1 = 1) (h2 : rs_v g n (rs_sk g n w.1.2) ≠ 59) (h3 : rs_sk g n w.1.2 < n) (hr : r = rs_sk g n w.1.2) : RVF g n r := by
  unfold RVF
  rw [h, rv_af_e hw h2]
  exact Or.inr (Or.inl ⟨rfl, h3, hr⟩)
theorem RVF_y {g : rs_B} {n r : Int} {w : rs_R × rv_S} (h : rv_go g n rv_s0 0 = rv_af g n w) (hw : w.1.1 = 1) (h2 : rs_v g n (rs_sk g n w.1.2) ≠ 59) (h3 : ¬ rs_sk g n w.1.2 < n) (hd : rv_hd w.2) (hr : r = -1) : RVF g n r := by
  unfold RVF
  rw [h, rv_af_e hw h2]
  exact Or.inr (Or.inr (Or.inl ⟨rfl, h3, hd, hr⟩))
theorem RVF_n {g : rs_B} {n r : Int} {w : rs_R × rv_S} (h : rv_go g n rv_s0 0 = rv_af g n w) (hw : w.1.1 = 1) (h2 : rs_v g n (rs_sk g n w.1.2) ≠ 59) (h3 : ¬ rs_sk g n w.1.2 < n) (hd : ¬ rv_hd w.2) (hr : r = n) : RVF g n r := by
  unfold RVF
  rw [h, rv_af_e hw h2]
  exact Or.inr (Or.inr (Or.inr ⟨rfl, h3, hd, hr⟩))
/-- how many families a valley's text tells -/
def rv_fm (g : rs_B) (n : Int) : Int := (rv_go g n rv_s0 0).2.1.2
theorem rv_fm_e {g : rs_B} {n : Int} {w : rs_R × rv_S} (h : rv_go g n rv_s0 0 = rv_af g n w) (hw : w.1.1 = 1) (h2 : rs_v g n (rs_sk g n w.1.2) ≠ 59) : rv_fm g n = w.2.1.2 := by
  unfold rv_fm
  rw [h, rv_af_e hw h2]
theorem rv_is_1e {g : rs_B} {n p m x y : Int} (hm : m = 0) (hx : x = 2) (hy : y = 20) : rv_is g n 1 p = rv_it g n 1 m x y p := by
  subst hm hx hy
  rfl
theorem rv_is_0e {g : rs_B} {n p m x y : Int} (hm : m = 0) (hx : x = 4) (hy : y = 0) : rv_is g n 0 p = rv_it g n 0 m x y p := by
  subst hm hx hy
  rfl
/-! the tables, for the item k -/
theorem tb_le1 {i z k : Int} (h : (i = 0 → z = 1) ∧ (i = 1 → z = 0) ∧ (i = 2 → z = 0) ∧ (i = 3 → z = 0) ∧ (i = 4 → z = 1) ∧ (i = 5 → z = 0) ∧ (i = 6 → z = 0) ∧ (i = 7 → z = 0)) (hi : i = k) (k0 : 0 ≤ k) (k3 : k ≤ 3) : z = rv_lo k := by
  have hz := rv_lo_eq k
  omega
theorem tb_mo1 {i z k : Int} (h : (i = 0 → z = 4) ∧ (i = 1 → z = 99) ∧ (i = 2 → z = 50) ∧ (i = 3 → z = 1) ∧ (i = 4 → z = 12) ∧ (i = 5 → z = 7) ∧ (i = 6 → z = 100) ∧ (i = 7 → z = 100)) (hi : i = k) (k0 : 0 ≤ k) (k3 : k ≤ 3) : z = rv_hi 1 k := by
  have hz := rv_hi_1 k k0 k3
  omega
theorem tb_us1 {i z k : Int} (h : (i = 0 → z = 2) ∧ (i = 1 → z = 20) ∧ (i = 2 → z = 5) ∧ (i = 3 → z = 0) ∧ (i = 4 → z = 4) ∧ (i = 5 → z = 0) ∧ (i = 6 → z = 30) ∧ (i = 7 → z = 5)) (hi : i = k) (k0 : 0 ≤ k) (k3 : k ≤ 3) : (k = 0 → z = 2) ∧ (k = 1 → z = 20) := by omega
theorem tb_vl1 {i z k : Int} (h : (i = 0 → z = 104) ∧ (i = 1 → z = 102) ∧ (i = 2 → z = 100) ∧ (i = 3 → z = 115) ∧ (i = 4 → z = 112) ∧ (i = 5 → z = 97) ∧ (i = 6 → z = 98) ∧ (i = 7 → z = 116)) (hi : i = k) (k0 : 0 ≤ k) (k3 : k ≤ 3) : rv_ix 1 z = k := by
  have hz := rv_ix_eq 1 z (by omega)
  omega
theorem tb_vn1 {i z k c : Int} (h : (i = 0 → z = 104) ∧ (i = 1 → z = 102) ∧ (i = 2 → z = 100) ∧ (i = 3 → z = 115) ∧ (i = 4 → z = 112) ∧ (i = 5 → z = 97) ∧ (i = 6 → z = 98) ∧ (i = 7 → z = 116)) (hi : i = k) (k0 : 0 ≤ k) (k3 : k ≤ 3) (hn : z ≠ c) : rv_ix 1 c ≠ k := by
  have hz := rv_ix_eq 1 c (by omega)
  omega
theorem tb_no1 {c : Int} (h0 : rv_ix 1 c ≠ 0) (h1 : rv_ix 1 c ≠ 1) (h2 : rv_ix 1 c ≠ 2) (h3 : rv_ix 1 c ≠ 3) : -1 = rv_ix 1 c := by
  have hz := rv_ix_eq 1 c (by omega)
  omega
theorem tb_nz1 {c : Int} (h : rv_ix 1 c ≠ -1) : c ≠ 0 := by
  have hz := rv_ix_eq 1 c (by omega)
  omega
theorem tb_le0 {i z k : Int} (h : (i = 0 → z = 1) ∧ (i = 1 → z = 0) ∧ (i = 2 → z = 0) ∧ (i = 3 → z = 0) ∧ (i = 4 → z = 1) ∧ (i = 5 → z = 0) ∧ (i = 6 → z = 0) ∧ (i = 7 → z = 0)) (hi : i = 4 + k) (k0 : 0 ≤ k) (k3 : k ≤ 3) : z = rv_lo k := by
  have hz := rv_lo_eq k
  omega
theorem tb_mo0 {i z k : Int} (h : (i = 0 → z = 4) ∧ (i = 1 → z = 99) ∧ (i = 2 → z = 50) ∧ (i = 3 → z = 1) ∧ (i = 4 → z = 12) ∧ (i = 5 → z = 7) ∧ (i = 6 → z = 100) ∧ (i = 7 → z = 100)) (hi : i = 4 + k) (k0 : 0 ≤ k) (k3 : k ≤ 3) : z = rv_hi 0 k := by
  have hz := rv_hi_0 k k0 k3
  omega
theorem tb_us0 {i z k : Int} (h : (i = 0 → z = 2) ∧ (i = 1 → z = 20) ∧ (i = 2 → z = 5) ∧ (i = 3 → z = 0) ∧ (i = 4 → z = 4) ∧ (i = 5 → z = 0) ∧ (i = 6 → z = 30) ∧ (i = 7 → z = 5)) (hi : i = 4 + k) (k0 : 0 ≤ k) (k3 : k ≤ 3) : (k = 0 → z = 4) ∧ (k = 1 → z = 0) := by omega
theorem tb_vl0 {i z k : Int} (h : (i = 0 → z = 104) ∧ (i = 1 → z = 102) ∧ (i = 2 → z = 100) ∧ (i = 3 → z = 115) ∧ (i = 4 → z = 112) ∧ (i = 5 → z = 97) ∧ (i = 6 → z = 98) ∧ (i = 7 → z = 116)) (hi : i = 4 + k) (k0 : 0 ≤ k) (k3 : k ≤ 3) : rv_ix 0 z = k := by
  have hz := rv_ix_eq 0 z (by omega)
  omega
theorem tb_vn0 {i z k c : Int} (h : (i = 0 → z = 104) ∧ (i = 1 → z = 102) ∧ (i = 2 → z = 100) ∧ (i = 3 → z = 115) ∧ (i = 4 → z = 112) ∧ (i = 5 → z = 97) ∧ (i = 6 → z = 98) ∧ (i = 7 → z = 116)) (hi : i = 4 + k) (k0 : 0 ≤ k) (k3 : k ≤ 3) (hn : z ≠ c) : rv_ix 0 c ≠ k := by
  have hz := rv_ix_eq 0 c (by omega)
  omega
theorem tb_no0 {c : Int} (h0 : rv_ix 0 c ≠ 0) (h1 : rv_ix 0 c ≠ 1) (h2 : rv_ix 0 c ≠ 2) (h3 : rv_ix 0 c ≠ 3) : -1 = rv_ix 0 c := by
  have hz := rv_ix_eq 0 c (by omega)
  omega
theorem tb_nz0 {c : Int} (h : rv_ix 0 c ≠ -1) : c ≠ 0 := by
  have hz := rv_ix_eq 0 c (by omega)
  omega
theorem rv_rng0 {k n : Int} (k0 : 0 ≤ k) (k3 : k ≤ 3) (h1 : rv_lo k ≤ n) (h2 : n ≤ rv_hi 0 k) : (k = 0 → 0 ≤ n ∧ n ≤ 20) ∧ (k = 1 → 0 ≤ n ∧ n ≤ 7) := by
  have hz := rv_hi_0 k k0 k3
  have hy := rv_lo_eq k
  omega
