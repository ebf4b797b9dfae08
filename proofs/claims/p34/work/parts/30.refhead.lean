/-! the reference's own row: which fields a call may change -/
def mx (f : py_F) (m : Nat) : List Value := match f m with
  | .inr (_, xs) => xs
  | _ => []
def mi (f : py_F) (m j : Nat) : Int := match (mx f m)[j]? with
  | some (.int v) => v.toInt
  | _ => 0
def FK (js : List Nat) (f f1 : py_F) (m : Nat) : Prop := ∀ j : Nat, j < 54 → j ∉ js → (mx f1 m)[j]? = (mx f m)[j]?
theorem mx_eq {L : List Nat} {f : py_F} {m k : Nat} {xs : List Value} (h : py_at L f m (.inr (k, xs))) : mx f m = xs := by
  unfold mx
  rw [h.2]
theorem mi_row {L : List Nat} {f : py_F} {m k : Nat} {xs : List Value} {v : Int32} (h : py_at L f m (.inr (k, xs))) (j : Nat) (e : xs[j]? = some (.int v)) : mi f m j = v.toInt := by
  unfold mi
  rw [mx_eq h, e]
theorem FK.refl {js : List Nat} {f : py_F} {m : Nat} : FK js f f m := fun _ _ _ => rfl
theorem FK.trans {js ks : List Nat} {f f1 f2 : py_F} {m : Nat} (h : FK js f f1 m) (h2 : FK ks f1 f2 m) (hs : ∀ k ∈ ks, k ∈ js) : FK js f f2 m := fun j a b => (h2 j a (fun q => b (hs _ q))).trans (h j a b)
theorem FK.same {js : List Nat} {f f1 f2 : py_F} {m : Nat} (h : FK js f f1 m) (e : f2 m = f1 m) : FK js f f2 m := fun j a b => by
  have e2 : mx f2 m = mx f1 m := by unfold mx; rw [e]
  rw [e2]
  exact h j a b
theorem FK.put {js : List Nat} {L1 L2 : List Nat} {f f1 f2 : py_F} {m : Nat} {xs ys : List Value} {v : Value} (h : FK js f f1 m) (h1 : py_at L1 f1 m (.inr (12, xs))) (h2 : py_at L2 f2 m (.inr (12, ys))) (k : Nat) (hk : k ∈ js) (hs : xs.set k v = ys) : FK js f f2 m := fun j a b => by
  have hne : k ≠ j := fun e => b (e ▸ hk)
  rw [mx_eq h2, ← hs, List.getElem?_set_ne hne, ← mx_eq h1]
  exact h j a b
theorem fk_i {js : List Nat} {L L1 : List Nat} {f f1 : py_F} {m : Nat} {xs ys : List Value} (h : FK js f f1 m) (h1 : py_at L f m (.inr (12, xs))) (h2 : py_at L1 f1 m (.inr (12, ys))) (j : Nat) (a : j < 54) (b : j ∉ js) : ys[j]? = xs[j]? := by
  have h3 := h j a b
  rw [mx_eq h1, mx_eq h2] at h3
  exact h3
theorem fk_mi {js : List Nat} {f f1 : py_F} {m : Nat} (h : FK js f f1 m) (j : Nat) (a : j < 54) (b : j ∉ js) : mi f1 m j = mi f m j := by
  unfold mi
  rw [h j a b]
def arz (f : py_F) (t : Nat) (k : Int) : Int := match f t with
  | .inl (_, _, .inl g) => (g k.toNat).toInt
  | _ => 0
theorem arz_i (f : py_F) (t : Nat) (i : Int32) : arz f t i.toInt = ari f t i := rfl
theorem arz_ld {L : List Nat} {f : py_F} {t n : Nat} {c : ClassId} {g : Nat → Int32} {x i : Int32} (h : py_at L f t (.inl (c, n, .inl g))) (e : x = g i.toNatClampNeg) : arz f t i.toInt = x.toInt := ari_ld h e
theorem arz_kp {f f1 : py_F} {t : Nat} (h : f1 t = f t) (k : Int) : arz f1 t k = arz f t k := by
  unfold arz
  rw [h]
theorem arz_up {L L' : List Nat} {f f' : py_F} {t n : Nat} {c : ClassId} {g : Nat → Int32} {k v : Int32} (h : py_at L f t (.inl (c, n, .inl g))) (h' : py_at L' f' t (.inl (c, n, .inl (upd g k.toNatClampNeg v)))) (hk : 0 ≤ k.toInt) : arz f' t k.toInt = v.toInt ∧ ∀ i : Int, 0 ≤ i → i ≠ k.toInt → arz f' t i = arz f t i := by
  refine ⟨(ari_up h h').1, fun i h0 hi => ?_⟩
  unfold arz
  rw [h.2, h'.2]
  show (upd g k.toNatClampNeg v i.toNat).toInt = _
  rw [upd_off _ _ (fun e => hi (by have e1 : k.toNatClampNeg = k.toInt.toNat := rfl; omega))]
/-- what the reference reads now -/
def hrv (f : py_F) (G : wf_G) (m : Nat) : Int := if mi f m 3 < mi f m 2 then arz f (G.2 m 1) (mi f m 3) else -1
theorem hrv_in {f : py_F} {G : wf_G} {m : Nat} {v3 x : Int32} (h3 : mi f m 3 = v3.toInt) (hlt : mi f m 3 < mi f m 2) (e : arz f (G.2 m 1) v3.toInt = x.toInt) : x.toInt = hrv f G m := by
  unfold hrv
  rw [if_pos hlt, h3, e]
theorem hrv_out {f : py_F} {G : wf_G} {m : Nat} (h : ¬ mi f m 3 < mi f m 2) : -1 = hrv f G m := by
  unfold hrv
  rw [if_neg h]
theorem hrv_kp {f f1 : py_F} {G : wf_G} {m : Nat} (e2 : mi f1 m 2 = mi f m 2) (e3 : mi f1 m 3 = mi f m 3) (et : f1 (G.2 m 1) = f (G.2 m 1)) : hrv f1 G m = hrv f G m := by
  unfold hrv
  rw [e2, e3, arz_kp et]
/-- a family's numbers; a level's -/
def nw (f : py_F) (G : wf_G) (m : Nat) (a k : Int) : Int := arz f (G.2 m 26) (9 * a + k)
def lr (f : py_F) (G : wf_G) (m : Nat) (v k : Int) : Int := arz f (G.2 m 21) (4 * v + k)
theorem nw_rng {g : Nat → Int32} {a b i x : Int32} (h : wf_nw g) (h0 : 0 ≤ a.toInt) (h9 : a.toInt ≤ 9) (hi : i.toInt = 9 * a.toInt + b.toInt) (e : x = g i.toNatClampNeg) : (b.toInt = 0 → 0 ≤ x.toInt ∧ x.toInt ≤ 20) ∧ (b.toInt = 1 → -1 ≤ x.toInt ∧ x.toInt ≤ 7) := by
  have e1 : i.toNatClampNeg = i.toInt.toNat := rfl
  obtain ⟨q1, q2⟩ := h a.toInt.toNat (by omega)
  refine ⟨fun hb => ?_, fun hb => ?_⟩
  · rw [e, show i.toNatClampNeg = 9 * a.toInt.toNat by omega]
    exact q1
  · rw [e, show i.toNatClampNeg = 9 * a.toInt.toNat + 1 by omega]
    exact q2
theorem nw_upd {g : Nat → Int32} {a b i v : Int32} (h : wf_nw g) (h0 : 0 ≤ a.toInt) (h9 : a.toInt ≤ 9) (hb0 : 0 ≤ b.toInt) (hb8 : b.toInt ≤ 8) (hi : i.toInt = 9 * a.toInt + b.toInt) (v0 : b.toInt = 0 → 0 ≤ v.toInt ∧ v.toInt ≤ 20) (v1 : b.toInt = 1 → -1 ≤ v.toInt ∧ v.toInt ≤ 7) : wf_nw (upd g i.toNatClampNeg v) := by
  have e1 : i.toNatClampNeg = i.toInt.toNat := rfl
  intro j hj
  constructor
  · by_cases hz : 9 * j = i.toNatClampNeg
    · rw [hz, upd_at]
      exact v0 (by omega)
    · rw [upd_off _ _ hz]
      exact (h j hj).1
  · by_cases hz : 9 * j + 1 = i.toNatClampNeg
    · rw [hz, upd_at]
      exact v1 (by omega)
    · rw [upd_off _ _ hz]
      exact (h j hj).2
theorem nw_cp {g gf : Nat → Int32} {k v : Int32} (h : wf_nw g) (hf : wf_nw gf) (h0 : 0 ≤ k.toInt) (h9 : k.toInt < 90) (e : v = gf k.toNatClampNeg) : wf_nw (upd g k.toNatClampNeg v) := by
  have e1 : k.toNatClampNeg = k.toInt.toNat := rfl
  intro j hj
  constructor
  · by_cases hz : 9 * j = k.toNatClampNeg
    · rw [hz, upd_at, e, ← hz]
      exact (hf j hj).1
    · rw [upd_off _ _ hz]
      exact (h j hj).1
  · by_cases hz : 9 * j + 1 = k.toNatClampNeg
    · rw [hz, upd_at, e, ← hz]
      exact (hf j hj).2
    · rw [upd_off _ _ hz]
      exact (h j hj).2
/-- one family's one number is told -/
def TL (f f1 : py_F) (G : wf_G) (m : Nat) (a k v : Int) : Prop := nw f1 G m a k = v ∧ ∀ i j : Int, 0 ≤ i → 0 ≤ j → j ≤ 8 → (i ≠ a ∨ j ≠ k) → nw f1 G m i j = nw f G m i j
theorem tl_of {L L1 : List Nat} {f f1 : py_F} {G : wf_G} {m n : Nat} {c : ClassId} {g : Nat → Int32} {a b i v : Int32} (h : py_at L f (G.2 m 26) (.inl (c, n, .inl g))) (h' : py_at L1 f1 (G.2 m 26) (.inl (c, n, .inl (upd g i.toNatClampNeg v)))) (h0 : 0 ≤ a.toInt) (hb0 : 0 ≤ b.toInt) (hb8 : b.toInt ≤ 8) (hi : i.toInt = 9 * a.toInt + b.toInt) : TL f f1 G m a.toInt b.toInt v.toInt := by
  obtain ⟨q1, q2⟩ := arz_up h h' (by omega)
  unfold TL nw
  refine ⟨by rw [← hi]; exact q1, fun i2 j2 k0 k1 k2 k3 => q2 _ (by omega) (by omega)⟩
/-- somebody lives in this hut; there is an empty one -/
def IH (f : py_F) (G : wf_G) (m : Nat) (v h : Int) : Prop := ∃ i : Int, 0 ≤ i ∧ i < mi f m 25 ∧ nw f G m i 1 = v ∧ nw f G m i 2 = h
def EH (f : py_F) (G : wf_G) (m : Nat) (v : Int) : Prop := ∃ h : Int, 0 ≤ h ∧ h < lr f G m v 0 ∧ ¬ IH f G m v h
/-- what one wants; who wants; who comes next -/
def WB (f : py_F) (G : wf_G) (m : Nat) (a d : Int32) : Int := if lr f G m a.toInt 3 = 1 then a.toInt else max 0 (min (mi f m 24 - 1) (a + d).toInt)
def WT (f : py_F) (G : wf_G) (m : Nat) (a : Int) : Int := if nw f G m a 1 = -1 then -1 else WB f G m (Int32.ofInt (nw f G m a 1)) (Int32.ofInt (nw f G m a 3))
def WS (f : py_F) (G : wf_G) (m : Nat) (a : Int) : Prop := nw f G m a 1 ≠ -1 ∧ WT f G m a ≠ nw f G m a 1
def NX (f : py_F) (G : wf_G) (m : Nat) (a r : Int) : Prop := (r = -1 ∧ ∀ o : Int, 0 ≤ o → o < mi f m 25 → ¬ (WS f G m o ∧ nw f G m o 1 = WT f G m a)) ∨ (0 ≤ r ∧ r < mi f m 25 ∧ WS f G m r ∧ nw f G m r 1 = WT f G m a ∧ ∀ o : Int, 0 ≤ o → o < r → ¬ (WS f G m o ∧ nw f G m o 1 = WT f G m a))
theorem NX.uniq {f : py_F} {G : wf_G} {m : Nat} {a r q : Int} (h : NX f G m a r) (h2 : NX f G m a q) : r = q := by
  rcases h with ⟨h1, h3⟩ | ⟨h1, h3, h4, h5, h6⟩ <;> rcases h2 with ⟨k1, k3⟩ | ⟨k1, k3, k4, k5, k6⟩
  · omega
  · exact absurd ⟨k4, k5⟩ (h3 q k1 k3)
  · exact absurd ⟨h4, h5⟩ (k3 r h1 h3)
  · rcases Int.lt_trichotomy r q with hz | hz | hz
    · exact absurd ⟨h4, h5⟩ (k6 r h1 hz)
    · exact hz
    · exact absurd ⟨k4, k5⟩ (h6 q k1 hz)
