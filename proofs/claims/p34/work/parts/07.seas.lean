/-! who wants: LEVEL and DEBT of each family together -/
def DV (G : wf_G) (f : py_F) (o : Nat) (n : Int) : Prop := ∀ i : Int32, 0 ≤ i.toInt → i.toInt < n → (ari f (G.2 o 1) i = -1 ∧ ari f (G.2 o 3) i = 0) ∨ (0 ≤ ari f (G.2 o 1) i ∧ 0 ≤ ari f (G.2 o 1) i + ari f (G.2 o 3) i ∧ ari f (G.2 o 1) i + ari f (G.2 o 3) i ≤ 7)
theorem DV.cast {G : wf_G} {f : py_F} {o : Nat} {n n1 : Int} (h : DV G f o n) (e : n1 ≤ n) : DV G f o n1 := fun i h0 h1 => h i h0 (by omega)
theorem DV.zero {G : wf_G} {f : py_F} {o : Nat} {n : Int} (e : n ≤ 0) : DV G f o n := fun i h0 h1 => absurd h1 (by omega)
theorem kp_own {G : wf_G} {ws : List Nat} {f f1 : py_F} {a c : Nat} (kp : KP G ws false f f1) (ht : G.1 a = c) (h0 : c ≠ 0) (hc : c ∉ ws) : f1 a = f a := kp a (by rw [ht]; exact h0) (by rw [ht]; exact hc) (fun q => absurd q (by decide))
theorem DV.kp {G : wf_G} {ws : List Nat} {f f1 : py_F} {o : Nat} {n : Int} (h : DV G f o n) (hG : GT G) (ho : G.1 o = 3) (kp : KP G ws false f f1) (hc : 37 ∉ ws) (hs : ∀ w ∈ ws, w < 1000) : DV G f1 o n := by
  obtain ⟨t0, t1, t2, t3, -⟩ := wt_2 hG ho
  have e1 := kp_own kp t1 (by omega) (fun q => absurd (hs _ q) (by omega))
  have e3 := kp_own kp t3 (by decide) hc
  intro i h0 h1
  rw [ari_kp e1, ari_kp e3]
  exact h i h0 h1
/-- a family's move: its LEVEL and DEBT new, the others' as they were -/
def MV (G : wf_G) (f f1 : py_F) (h : Nat) (a b : Int32) : Prop := ari f1 (G.2 h 1) a = b.toInt ∧ ari f1 (G.2 h 3) a = 0 ∧ ∀ i : Int32, i.toNatClampNeg ≠ a.toNatClampNeg → ari f1 (G.2 h 1) i = ari f (G.2 h 1) i ∧ ari f1 (G.2 h 3) i = ari f (G.2 h 3) i
theorem ari_same {f : py_F} {t : Nat} {i k : Int32} (e : i.toNatClampNeg = k.toNatClampNeg) : ari f t i = ari f t k := by
  unfold ari
  rw [e]
theorem mv_of {G : wf_G} {L0 L1 L2 L3 : List Nat} {f0 f1 f2 f3 : py_F} {h : Nat} {a b z : Int32} {c : ClassId} {n : Nat} {g1 g3 : Nat → Int32} (p1 : py_at L0 f0 (G.2 h 1) (.inl (c, n, .inl g1))) (p1' : py_at L1 f1 (G.2 h 1) (.inl (c, n, .inl (upd g1 a.toNatClampNeg b)))) (e1 : f1 (G.2 h 3) = f0 (G.2 h 3)) (e2 : f2 (G.2 h 1) = f1 (G.2 h 1)) (e3 : f2 (G.2 h 3) = f1 (G.2 h 3)) (p3 : py_at L2 f2 (G.2 h 3) (.inl (c, n, .inl g3))) (p3' : py_at L3 f3 (G.2 h 3) (.inl (c, n, .inl (upd g3 a.toNatClampNeg z)))) (hz : z.toInt = 0) (e4 : f3 (G.2 h 1) = f2 (G.2 h 1)) : MV G f0 f3 h a b := by
  obtain ⟨u1, u2⟩ := ari_up p1 p1'
  obtain ⟨w1, w2⟩ := ari_up p3 p3'
  refine ⟨by rw [ari_kp e4, ari_kp e2, u1], by rw [w1, hz], fun i hi => ⟨by rw [ari_kp e4, ari_kp e2, u2 i hi], by rw [w2 i hi, ari_kp e3, ari_kp e1]⟩⟩
theorem DV.mv {G : wf_G} {f f1 : py_F} {o : Nat} {n : Int} {a b : Int32} (h : DV G f o n) (m : MV G f f1 o a b) (h0 : 0 ≤ b.toInt) (h7 : b.toInt ≤ 7) : DV G f1 o n := by
  intro i k0 k1
  by_cases e : i.toNatClampNeg = a.toNatClampNeg
  · rw [ari_same e, ari_same e, m.1, m.2.1]
    exact Or.inr ⟨by omega, by omega, by omega⟩
  · rw [(m.2.2 i e).1, (m.2.2 i e).2]
    exact h i k0 k1
/-- DEBT is written at a place that isn't settled yet -/
theorem DV.hi {G : wf_G} {L L1 : List Nat} {f f1 : py_F} {o n : Nat} {c : ClassId} {k v : Int32} {g : Nat → Int32} {b : Int} (h : DV G f o b) (p : py_at L f (G.2 o 3) (.inl (c, n, .inl g))) (p' : py_at L1 f1 (G.2 o 3) (.inl (c, n, .inl (upd g k.toNatClampNeg v)))) (e1 : f1 (G.2 o 1) = f (G.2 o 1)) (hk : 0 ≤ k.toInt) (hb : b ≤ k.toInt) : DV G f1 o b := by
  intro i h0 h1
  have hn : i.toNatClampNeg ≠ k.toNatClampNeg := i_nat h0 hk (fun q => by subst q; omega)
  rw [ari_kp e1, (ari_up p p').2 i hn]
  exact h i h0 h1
theorem DV.step {G : wf_G} {L L1 : List Nat} {f f1 : py_F} {o n : Nat} {c : ClassId} {k v : Int32} {g : Nat → Int32} {b : Int} (h : DV G f o b) (p : py_at L f (G.2 o 3) (.inl (c, n, .inl g))) (p' : py_at L1 f1 (G.2 o 3) (.inl (c, n, .inl (upd g k.toNatClampNeg v)))) (e1 : f1 (G.2 o 1) = f (G.2 o 1)) (hk : 0 ≤ k.toInt) (hb : b = k.toInt) (hd : (ari f (G.2 o 1) k = -1 ∧ v.toInt = 0) ∨ (0 ≤ ari f (G.2 o 1) k ∧ 0 ≤ ari f (G.2 o 1) k + v.toInt ∧ ari f (G.2 o 1) k + v.toInt ≤ 7)) : DV G f1 o (b + 1) := by
  intro i h0 h1
  by_cases e : i = k
  · subst e
    rw [ari_kp e1, (ari_up p p').1]
    exact hd
  · have hn : i.toNatClampNeg ≠ k.toNatClampNeg := i_nat h0 hk e
    have hi : i.toInt ≠ k.toInt := fun q => e (Int32.toInt_inj.mp q)
    rw [ari_kp e1, (ari_up p p').2 i hn]
    exact h i h0 (by omega)
/-- who stands in the ring has a LEVEL -/
def RG (G : wf_G) (f : py_F) (h o : Nat) (n : Int) : Prop := ∀ j : Int32, 0 ≤ j.toInt → j.toInt < n → ∀ k : Int32, k.toInt = ari f (G.2 h 2) j → 0 ≤ ari f (G.2 o 1) k
theorem RG.zero {G : wf_G} {f : py_F} {h o : Nat} {n : Int} (e : n ≤ 0) : RG G f h o n := fun j h0 h1 => absurd h1 (by omega)
theorem RG.cast {G : wf_G} {f : py_F} {h o : Nat} {n n1 : Int} (r : RG G f h o n) (e : n1 ≤ n) : RG G f h o n1 := fun j h0 h1 => r j h0 (by omega)
theorem RG.step {G : wf_G} {L L1 : List Nat} {f f1 : py_F} {h o n : Nat} {c : ClassId} {j v : Int32} {g : Nat → Int32} {b : Int} (r : RG G f h o b) (p : py_at L f (G.2 h 2) (.inl (c, n, .inl g))) (p' : py_at L1 f1 (G.2 h 2) (.inl (c, n, .inl (upd g j.toNatClampNeg v)))) (e1 : f1 (G.2 o 1) = f (G.2 o 1)) (hj : 0 ≤ j.toInt) (hb : b = j.toInt) (hl : 0 ≤ ari f (G.2 o 1) v) : RG G f1 h o (b + 1) := by
  intro i h0 h1 k hk
  rw [ari_kp e1]
  by_cases e : i = j
  · subst e
    rw [(ari_up p p').1] at hk
    have : k = v := Int32.toInt_inj.mp hk
    subst this
    exact hl
  · have hn : i.toNatClampNeg ≠ j.toNatClampNeg := i_nat h0 hj e
    have hi : i.toInt ≠ j.toInt := fun q => e (Int32.toInt_inj.mp q)
    rw [(ari_up p p').2 i hn] at hk
    exact r i h0 (by omega) k hk
theorem RG.mv {G : wf_G} {f f1 : py_F} {h o : Nat} {n : Int} {a b : Int32} (r : RG G f h o n) (m : MV G f f1 o a b) (e : f1 (G.2 h 2) = f (G.2 h 2)) (h0 : 0 ≤ b.toInt) : RG G f1 h o n := by
  intro j k0 k1 k hk
  rw [ari_kp e] at hk
  by_cases q : k.toNatClampNeg = a.toNatClampNeg
  · rw [ari_same q, m.1]
    exact h0
  · rw [(m.2.2 k q).1]
    exact r j k0 k1 k hk
