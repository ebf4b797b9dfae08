/-! the reference's reading of a valley -/
def PFX (f f1 : py_F) (t : Nat) (b : Int) : Prop := ∀ i : Int, 0 ≤ i → i < b → arz f1 t i = arz f t i
theorem PFX.refl {f : py_F} {t : Nat} {b : Int} : PFX f f t b := fun _ _ _ => rfl
theorem PFX.trans {f f1 f2 : py_F} {t : Nat} {b : Int} (h : PFX f f1 t b) (h2 : PFX f1 f2 t b) : PFX f f2 t b := fun i a c => (h2 i a c).trans (h i a c)
theorem PFX.same {f f1 f2 : py_F} {t : Nat} {b : Int} (h : PFX f f1 t b) (e : f2 t = f1 t) : PFX f f2 t b := fun i a c => (arz_kp e i).trans (h i a c)
theorem PFX.up {L1 L2 : List Nat} {f f1 f2 : py_F} {t n : Nat} {c : ClassId} {g : Nat → Int32} {i v : Int32} {b : Int} (h : PFX f f1 t b) (p : py_at L1 f1 t (.inl (c, n, .inl g))) (p' : py_at L2 f2 t (.inl (c, n, .inl (upd g i.toNatClampNeg v)))) (h0 : 0 ≤ i.toInt) (hb : b ≤ i.toInt) : PFX f f2 t b := fun j a d => ((arz_up p p' h0).2 j a (by omega)).trans (h j a d)
def IT2 (f : py_F) (t : Nat) (b n : Int) : Prop := (1 ≤ n → 0 ≤ arz f t b ∧ arz f t b ≤ 20) ∧ (2 ≤ n → 0 ≤ arz f t (b + 1) ∧ arz f t (b + 1) ≤ 7)
theorem IT2.zero {f : py_F} {t : Nat} {b n : Int} (h : n ≤ 0) : IT2 f t b n := ⟨fun q => absurd q (by omega), fun q => absurd q (by omega)⟩
theorem IT2.cast {f : py_F} {t : Nat} {b n n1 : Int} (h : IT2 f t b n) (e : n1 ≤ n) : IT2 f t b n1 := ⟨fun q => h.1 (by omega), fun q => h.2 (by omega)⟩
theorem IT2.same {f f1 : py_F} {t : Nat} {b n : Int} (h : IT2 f t b n) (e : f1 t = f t) : IT2 f1 t b n := by
  unfold IT2
  rw [arz_kp e, arz_kp e]
  exact h
theorem IT2.up {L1 L2 : List Nat} {f1 f2 : py_F} {t n : Nat} {c : ClassId} {g : Nat → Int32} {i v : Int32} {b k q q1 : Int} (h : IT2 f1 t b q) (p : py_at L1 f1 t (.inl (c, n, .inl g))) (p' : py_at L2 f2 t (.inl (c, n, .inl (upd g i.toNatClampNeg v)))) (b0 : 0 ≤ b) (k0 : 0 ≤ k) (hi : i.toInt = b + k) (hq : q1 ≤ q ∨ q1 = q + 1 ∧ k = q) (h1 : k = 0 → 0 ≤ v.toInt ∧ v.toInt ≤ 20) (h2 : k = 1 → 0 ≤ v.toInt ∧ v.toInt ≤ 7) : IT2 f2 t b q1 := by
  obtain ⟨u1, u2⟩ := arz_up p p' (by omega)
  refine ⟨fun z => ?_, fun z => ?_⟩
  · by_cases e : k = 0
    · rw [show b = i.toInt by omega, u1]
      exact h1 e
    · rw [u2 b b0 (by omega)]
      exact h.1 (by omega)
  · by_cases e : k = 1
    · rw [show b + 1 = i.toInt by omega, u1]
      exact h2 e
    · rw [u2 (b + 1) (by omega) (by omega)]
      exact h.2 (by omega)
/-- the families read are good ones -/
def RFm (f : py_F) (G : wf_G) (m : Nat) (n : Int) : Prop := ∀ i : Int, 0 ≤ i → i < n → (0 ≤ arz f (G.2 m 18) (4 * i) ∧ arz f (G.2 m 18) (4 * i) ≤ 20) ∧ (0 ≤ arz f (G.2 m 18) (4 * i + 1) ∧ arz f (G.2 m 18) (4 * i + 1) ≤ 7)
theorem RFm.zero {f : py_F} {G : wf_G} {m : Nat} {n : Int} (h : n ≤ 0) : RFm f G m n := fun i a b => absurd b (by omega)
theorem RFm.same {f f1 : py_F} {G : wf_G} {m : Nat} {n n1 : Int} (h : RFm f G m n) (e : f1 (G.2 m 18) = f (G.2 m 18)) (en : n1 = n) : RFm f1 G m n1 := by
  subst en
  intro i a b
  rw [arz_kp e, arz_kp e]
  exact h i a b
theorem RFm.step {f f1 : py_F} {G : wf_G} {m : Nat} {n n1 b : Int} (h : RFm f G m n) (pf : PFX f f1 (G.2 m 18) b) (it : IT2 f1 (G.2 m 18) b 4) (hb : b = 4 * n) (en : n1 = n + 1) : RFm f1 G m n1 := by
  subst en
  subst hb
  intro i a c
  by_cases e : i = n
  · subst e
    exact ⟨it.1 (by omega), it.2 (by omega)⟩
  · rw [pf (4 * i) (by omega) (by omega), pf (4 * i + 1) (by omega) (by omega)]
    exact h i a (by omega)
theorem nw_z {g : Nat → Int32} {k : Nat} (h : wf_nw g) : wf_nw (upd g k 0) := by
  intro i hi
  obtain ⟨q1, q2⟩ := h i hi
  have z : (0 : Int32).toInt = 0 := rfl
  unfold upd
  constructor
  · split
    · rw [z]; omega
    · exact q1
  · split
    · rw [z]; omega
    · exact q2
