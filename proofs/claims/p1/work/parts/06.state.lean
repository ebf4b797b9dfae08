/-! What a fresh object is: of the class, and of the reference; and that it stays so. -/
theorem py_len {xs : List Value} {n k : Nat} (h : xs.length = n) (hk : k < n) : k < xs.length := by rw [h]; exact hk
theorem py_inr {i : Int32} {n : Nat} (h : ¬ (i < 0 ∨ n ≤ i.toNatClampNeg)) : vp_in i n := h
theorem py_arr {cI : ClassId} {L : List Nat} {f f' : py_F} {a b n n1 : Nat} {g g1 g2 : Nat → Int32} (hb : py_at L f b (.inl (cI, n, .inl g))) (ha : py_at L f a (.inl (cI, n1, .inl g1))) (ha2 : py_at L f' a (.inl (cI, n1, .inl g2))) (x : py_ext L f L f' a) : ∃ g3 : Nat → Int32, py_at L f' b (.inl (cI, n, .inl g3)) := by
  by_cases e : b = a
  · subst e
    have h := hb.2.symm.trans ha.2
    injection h with h
    injection h with _ h
    injection h with h _
    subst h
    exact ⟨g2, ha2⟩
  · exact ⟨g, hb.ext x e⟩
/-- changed at two places at most -/
def py_ext2 (L : List Nat) (f : py_F) (L' : List Nat) (f' : py_F) (a a2 : Nat) : Prop := ∀ b : Nat, b ∈ L → b ≠ a → b ≠ a2 → b ∈ L' ∧ f' b = f b
def fr_H (E : py_E) (L : List Nat) (f : py_F) (h : Nat) : Prop := ∃ (tape byt vr itm dr lr dl lws nl fo va tr im di bu se mo od : Nat) (g : Nat → Int32) (xd xl xf xv xi xu xs : List Value),
  py_at L f h (.inr (11, [.ref tape, .ref vr, .ref lr, .ref lws, .ref nl, .ref fo, .ref tr, .ref im, .ref di, .ref bu, .ref se, .ref mo, .ref od, .int 0, .int (-1), .int 0])) ∧
  py_at L f tape (.inr (8, [.ref byt, .int 0, .int 0, .int 0])) ∧ py_at L f byt (.inl (E.2.1, 160, .inl g)) ∧
  py_at L f vr (.inr (10, [.ref itm, .ref dr])) ∧ py_at L f dr (.inr (9, xd)) ∧ xd.length = 10 ∧
  py_at L f lr (.inr (4, [.ref dl])) ∧ py_at L f dl (.inr (3, xl)) ∧ xl.length = 3 ∧
  py_at L f fo (.inr (2, xf)) ∧ xf.length = 12 ∧ xf[9]? = some (.ref va) ∧ xf[11]? = some (.int 0) ∧
  py_at L f va (.inr (9, xv)) ∧ xv.length = 10 ∧ xv[8]? = some (.int 0) ∧ xv[9]? = some (.int 0) ∧
  py_at L f di (.inr (1, xi)) ∧ xi.length = 3 ∧ xi[2]? = some (.int 0) ∧
  py_at L f bu (.inr (0, xu)) ∧ xu.length = 5 ∧ xu[3]? = some (.int 0) ∧
  py_at L f se (.inr (7, xs)) ∧ xs.length = 5
def fr_M (E : py_E) (L : List Nat) (f : py_F) (h : Nat) : Prop := ∃ (tp cd cl : Nat) (g1 g2 g3 : Nat → Int32) (xs : List Value) (v32 v33 v34 : Int32),
  py_at L f h (.inr (12, xs)) ∧ xs.length = 54 ∧ xs[1]? = some (.ref tp) ∧ xs[2]? = some (.int 0) ∧ xs[8]? = some (.ref cd) ∧ xs[9]? = some (.ref cl) ∧ xs[13]? = some (.int 0) ∧ xs[24]? = some (.int 0) ∧ xs[25]? = some (.int 0) ∧ xs[29]? = some (.int 0) ∧ xs[31]? = some (.int (-1)) ∧ xs[43]? = some (.int 0) ∧ xs[53]? = some (.int 0) ∧ (xs[32]? = some (.int v32) ∧ xs[33]? = some (.int v33) ∧ xs[34]? = some (.int v34)) ∧
  py_at L f tp (.inl (E.2.1, 160, .inl g1)) ∧ py_at L f cd (.inl (E.2.1, 5, .inl g2)) ∧ py_at L f cl (.inl (E.2.1, 5, .inl g3))
theorem fr_M_obj {E : py_E} {L : List Nat} {f f' : py_F} {m a ci : Nat} {ys : List Value} (h : fr_M E L f m) (ha : py_at L f a (.inr (ci, ys))) (hc : 12 ≠ ci) (x : py_ext L f L f' a) : fr_M E L f' m := by
  obtain ⟨tp, cd, cl, g1, g2, g3, xs, v32, v33, v34, h1, h2, h3, h4, h5, h6, h7, h8, h9, h10, h11, h12, h13, h17, h14, h15, h16⟩ := h
  exact ⟨tp, cd, cl, g1, g2, g3, xs, v32, v33, v34, h1.ext x (py_ne_kind h1 ha hc), h2, h3, h4, h5, h6, h7, h8, h9, h10, h11, h12, h13, h17, h14.ext x (Ne.symm (py_ne_arr ha h14)), h15.ext x (Ne.symm (py_ne_arr ha h15)), h16.ext x (Ne.symm (py_ne_arr ha h16))⟩
theorem fr_M_arr {E : py_E} {L : List Nat} {f f' : py_F} {m a n : Nat} {g g' : Nat → Int32} (h : fr_M E L f m) (ha : py_at L f a (.inl (E.2.1, n, .inl g))) (ha2 : py_at L f' a (.inl (E.2.1, n, .inl g'))) (x : py_ext L f L f' a) : fr_M E L f' m := by
  obtain ⟨tp, cd, cl, g1, g2, g3, xs, v32, v33, v34, h1, h2, h3, h4, h5, h6, h7, h8, h9, h10, h11, h12, h13, h17, h14, h15, h16⟩ := h
  obtain ⟨g1, h14⟩ := py_arr h14 ha ha2 x
  obtain ⟨g2, h15⟩ := py_arr h15 ha ha2 x
  obtain ⟨g3, h16⟩ := py_arr h16 ha ha2 x
  exact ⟨tp, cd, cl, g1, g2, g3, xs, v32, v33, v34, h1.ext x (py_ne_arr h1 ha), h2, h3, h4, h5, h6, h7, h8, h9, h10, h11, h12, h13, h17, h14, h15, h16⟩
theorem fr_M_all {E : py_E} {L L' : List Nat} {f f' : py_F} {m : Nat} (h : fr_M E L f m) (x : py_all L f L' f') : fr_M E L' f' m := by
  obtain ⟨tp, cd, cl, g1, g2, g3, xs, v32, v33, v34, h1, h2, h3, h4, h5, h6, h7, h8, h9, h10, h11, h12, h13, h17, h14, h15, h16⟩ := h
  exact ⟨tp, cd, cl, g1, g2, g3, xs, v32, v33, v34, h1.all x, h2, h3, h4, h5, h6, h7, h8, h9, h10, h11, h12, h13, h17, h14.all x, h15.all x, h16.all x⟩
theorem fr_H_all {E : py_E} {L L' : List Nat} {f f' : py_F} {h : Nat} (hF : fr_H E L f h) (x : py_all L f L' f') : fr_H E L' f' h := by
  obtain ⟨tape, byt, vr, itm, dr, lr, dl, lws, nl, fo, va, tr, im, di, bu, se, mo, od, g, xd, xl, xf, xv, xi, xu, xs, h1, h2, h3, h4, h5, h6, h7, h8, h9, h10, h11, h12, h13, h14, h15, h16, h17, h18, h19, h20, h21, h22, h23, h24, h25⟩ := hF
  exact ⟨tape, byt, vr, itm, dr, lr, dl, lws, nl, fo, va, tr, im, di, bu, se, mo, od, g, xd, xl, xf, xv, xi, xu, xs, h1.all x, h2.all x, h3.all x, h4.all x, h5.all x, h6, h7.all x, h8.all x, h9, h10.all x, h11, h12, h13, h14.all x, h15, h16, h17, h18.all x, h19, h20, h21.all x, h22, h23, h24.all x, h25⟩
theorem fr_H_ext {E : py_E} {L L' : List Nat} {f f' : py_F} {h a : Nat} {ys : List Value} (hF : fr_H E L f h) (ha : py_at L f a (.inr (12, ys))) (x : py_ext L f L' f' a) : fr_H E L' f' h := by
  obtain ⟨tape, byt, vr, itm, dr, lr, dl, lws, nl, fo, va, tr, im, di, bu, se, mo, od, g, xd, xl, xf, xv, xi, xu, xs, h1, h2, h3, h4, h5, h6, h7, h8, h9, h10, h11, h12, h13, h14, h15, h16, h17, h18, h19, h20, h21, h22, h23, h24, h25⟩ := hF
  exact ⟨tape, byt, vr, itm, dr, lr, dl, lws, nl, fo, va, tr, im, di, bu, se, mo, od, g, xd, xl, xf, xv, xi, xu, xs, h1.ext x (py_ne_kind h1 ha (by decide)), h2.ext x (py_ne_kind h2 ha (by decide)), h3.ext x (Ne.symm (py_ne_arr ha h3)), h4.ext x (py_ne_kind h4 ha (by decide)), h5.ext x (py_ne_kind h5 ha (by decide)), h6, h7.ext x (py_ne_kind h7 ha (by decide)), h8.ext x (py_ne_kind h8 ha (by decide)), h9, h10.ext x (py_ne_kind h10 ha (by decide)), h11, h12, h13, h14.ext x (py_ne_kind h14 ha (by decide)), h15, h16, h17, h18.ext x (py_ne_kind h18 ha (by decide)), h19, h20, h21.ext x (py_ne_kind h21 ha (by decide)), h22, h23, h24.ext x (py_ne_kind h24 ha (by decide)), h25⟩
theorem py_sw8 (x : Int32) : x = 0 ∨ x = 1 ∨ x = 2 ∨ x = 3 ∨ x = 4 ∨ x = 5 ∨ x = 6 ∨ x = 7 ∨ (x.toInt < 0 ∨ 7 < x.toInt) := by
  by_cases h : x.toInt < 0 ∨ 7 < x.toInt
  · exact Or.inr (Or.inr (Or.inr (Or.inr (Or.inr (Or.inr (Or.inr (Or.inr h)))))))
  · have h2 : x.toInt = 0 ∨ x.toInt = 1 ∨ x.toInt = 2 ∨ x.toInt = 3 ∨ x.toInt = 4 ∨ x.toInt = 5 ∨ x.toInt = 6 ∨ x.toInt = 7 := by omega
    rcases h2 with h2 | h2 | h2 | h2 | h2 | h2 | h2 | h2
    · exact Or.inl (Int32.toInt_inj.mp h2)
    · exact Or.inr (Or.inl (Int32.toInt_inj.mp h2))
    · exact Or.inr (Or.inr (Or.inl (Int32.toInt_inj.mp h2)))
    · exact Or.inr (Or.inr (Or.inr (Or.inl (Int32.toInt_inj.mp h2))))
    · exact Or.inr (Or.inr (Or.inr (Or.inr (Or.inl (Int32.toInt_inj.mp h2)))))
    · exact Or.inr (Or.inr (Or.inr (Or.inr (Or.inr (Or.inl (Int32.toInt_inj.mp h2))))))
    · exact Or.inr (Or.inr (Or.inr (Or.inr (Or.inr (Or.inr (Or.inl (Int32.toInt_inj.mp h2)))))))
    · exact Or.inr (Or.inr (Or.inr (Or.inr (Or.inr (Or.inr (Or.inr (Or.inl (Int32.toInt_inj.mp h2))))))))
/-- what set answers -/
def sp_set (what v : Int32) : Int32 := if (what = 0 ∧ 0 ≤ v ∧ v ≤ 100) ∨ (what = 1 ∧ 0 ≤ v ∧ v ≤ 1) ∨ (what = 2 ∧ 0 ≤ v ∧ v ≤ 99) then 1 else 0
/-- what count answers of a fresh object -/
def sp_count (what : Int32) : Int32 := if what = 0 ∨ what = 1 ∨ what = 2 ∨ what = 3 ∨ what = 4 ∨ what = 6 ∨ what = 7 then 0 else if what = 5 then -1 else -1000000
def sp_fault (sort : Int32) : Int32 := if sort = 0 ∨ sort = 1 then 0 else -2
theorem py_out8 {x : Int32} (h : x.toInt < 0 ∨ 7 < x.toInt) : ¬ x = 0 ∧ ¬ x = 1 ∧ ¬ x = 2 ∧ ¬ x = 3 ∧ ¬ x = 4 ∧ ¬ x = 5 ∧ ¬ x = 6 ∧ ¬ x = 7 := by
  refine ⟨?_, ?_, ?_, ?_, ?_, ?_, ?_, ?_⟩ <;> (intro e; subst e; revert h; decide)
