/-! new cells get their codes -/
def GX (G G1 : wf_G) : Prop := ∀ a : Nat, G.1 a ≠ 0 → G1.1 a = G.1 a ∧ ∀ j : Nat, G1.2 a j = G.2 a j
theorem GX.refl {G : wf_G} : GX G G := fun _ _ => ⟨rfl, fun _ => rfl⟩
theorem GX.trans {G G1 G2 : wf_G} (h : GX G G1) (h2 : GX G1 G2) : GX G G2 := fun a ha => by
  obtain ⟨q1, q2⟩ := h a ha
  obtain ⟨q3, q4⟩ := h2 a (by rw [q1]; exact ha)
  exact ⟨q3.trans q1, fun j => (q4 j).trans (q2 j)⟩
theorem GX.ty {G G1 : wf_G} (h : GX G G1) {a c : Nat} (ha : G.1 a = c) (hc : c ≠ 0) : G1.1 a = c := (h a (by rw [ha]; exact hc)).1.trans ha
theorem wk_gx_0 {E : py_E} {G G1 : wf_G} {a : Nat} {e : va_E} (hx : GX G G1) (ha : G.1 a ≠ 0) (h : wf_k E G a e 1) : wf_k E G1 a e 1 := by
  obtain ⟨v3, v4, he, c0, c1⟩ := h
  have hr := (hx a ha).2
  exact ⟨v3, v4, (by rw [he, hr 0, hr 1, hr 2]), c0, c1⟩
theorem wk_gx_1 {E : py_E} {G G1 : wf_G} {a : Nat} {e : va_E} (hx : GX G G1) (ha : G.1 a ≠ 0) (h : wf_k E G a e 2) : wf_k E G1 a e 2 := by
  obtain ⟨v2, he, c0⟩ := h
  have hr := (hx a ha).2
  exact ⟨v2, (by rw [he, hr 0, hr 1]), c0⟩
theorem wk_gx_2 {E : py_E} {G G1 : wf_G} {a : Nat} {e : va_E} (hx : GX G G1) (ha : G.1 a ≠ 0) (h : wf_k E G a e 3) : wf_k E G1 a e 3 := by
  obtain ⟨r9, v10, v11, he, c0, c1⟩ := h
  have hr := (hx a ha).2
  exact ⟨r9, v10, v11, (by rw [he, hr 0, hr 1, hr 2, hr 3, hr 4, hr 5, hr 6, hr 7, hr 8]), hx.ty c0 (by decide), c1⟩
theorem wk_gx_3 {E : py_E} {G G1 : wf_G} {a : Nat} {e : va_E} (hx : GX G G1) (ha : G.1 a ≠ 0) (h : wf_k E G a e 4) : wf_k E G1 a e 4 := by
  obtain ⟨v2, he, c0⟩ := h
  have hr := (hx a ha).2
  exact ⟨v2, (by rw [he, hr 0, hr 1]), c0⟩
theorem wk_gx_4 {E : py_E} {G G1 : wf_G} {a : Nat} {e : va_E} (hx : GX G G1) (ha : G.1 a ≠ 0) (h : wf_k E G a e 5) : wf_k E G1 a e 5 := by
  obtain ⟨r0, he, c0⟩ := h
  have hr := (hx a ha).2
  exact ⟨r0, (by rw [he]), hx.ty c0 (by decide)⟩
theorem wk_gx_5 {E : py_E} {G G1 : wf_G} {a : Nat} {e : va_E} (hx : GX G G1) (ha : G.1 a ≠ 0) (h : wf_k E G a e 6) : wf_k E G1 a e 6 := by
  have he : e = .inr (5, [.ref (G.2 a 0)]) := h
  have hr := (hx a ha).2
  show e = .inr (5, [.ref (G1.2 a 0)])
  exact (by rw [he, hr 0])
theorem wk_gx_6 {E : py_E} {G G1 : wf_G} {a : Nat} {e : va_E} (hx : GX G G1) (ha : G.1 a ≠ 0) (h : wf_k E G a e 7) : wf_k E G1 a e 7 := by
  obtain ⟨r3, r4, r5, v6, he, c0, c1, c2⟩ := h
  have hr := (hx a ha).2
  exact ⟨r3, r4, r5, v6, (by rw [he, hr 0, hr 1, hr 2]), hx.ty c0 (by decide), hx.ty c1 (by decide), hx.ty c2 (by decide)⟩
theorem wk_gx_7 {E : py_E} {G G1 : wf_G} {a : Nat} {e : va_E} (hx : GX G G1) (ha : G.1 a ≠ 0) (h : wf_k E G a e 8) : wf_k E G1 a e 8 := by
  obtain ⟨v3, v4, he, c0⟩ := h
  have hr := (hx a ha).2
  exact ⟨v3, v4, (by rw [he, hr 0, hr 1, hr 2]), c0⟩
theorem wk_gx_8 {E : py_E} {G G1 : wf_G} {a : Nat} {e : va_E} (hx : GX G G1) (ha : G.1 a ≠ 0) (h : wf_k E G a e 9) : wf_k E G1 a e 9 := by
  obtain ⟨v1, v2, v3, he, c0, c1⟩ := h
  have hr := (hx a ha).2
  exact ⟨v1, v2, v3, (by rw [he, hr 0]), c0, c1⟩
theorem wk_gx_9 {E : py_E} {G G1 : wf_G} {a : Nat} {e : va_E} (hx : GX G G1) (ha : G.1 a ≠ 0) (h : wf_k E G a e 10) : wf_k E G1 a e 10 := by
  obtain ⟨v8, v9, he, c0, c1⟩ := h
  have hr := (hx a ha).2
  exact ⟨v8, v9, (by rw [he, hr 0, hr 1, hr 2, hr 3, hr 4, hr 5, hr 6, hr 7]), c0, c1⟩
theorem wk_gx_10 {E : py_E} {G G1 : wf_G} {a : Nat} {e : va_E} (hx : GX G G1) (ha : G.1 a ≠ 0) (h : wf_k E G a e 11) : wf_k E G1 a e 11 := by
  obtain ⟨r1, he, c0⟩ := h
  have hr := (hx a ha).2
  exact ⟨r1, (by rw [he, hr 0]), hx.ty c0 (by decide)⟩
theorem wk_gx_11 {E : py_E} {G G1 : wf_G} {a : Nat} {e : va_E} (hx : GX G G1) (ha : G.1 a ≠ 0) (h : wf_k E G a e 12) : wf_k E G1 a e 12 := by
  obtain ⟨v13, v14, v15, he, c0, c1, c2⟩ := h
  have hr := (hx a ha).2
  exact ⟨v13, v14, v15, (by rw [he, hr 0, hr 1, hr 2, hr 3, hr 4, hr 5, hr 6, hr 7, hr 8, hr 9, hr 10, hr 11, hr 12]), c0, c1, c2⟩
theorem wk_gx_12 {E : py_E} {G G1 : wf_G} {a : Nat} {e : va_E} (hx : GX G G1) (ha : G.1 a ≠ 0) (h : wf_k E G a e 13) : wf_k E G1 a e 13 := by
  obtain ⟨v0, v2, v3, v4, v5, v13, v14, v19, v20, v24, v25, v29, v30, v31, v32, v33, v34, v43, v48, v51, v52, v53, he, c0, c1, c2, c3, c4, c5, c6, c7, c8, c9, c10, c11⟩ := h
  have hr := (hx a ha).2
  exact ⟨v0, v2, v3, v4, v5, v13, v14, v19, v20, v24, v25, v29, v30, v31, v32, v33, v34, v43, v48, v51, v52, v53, (by rw [he, hr 1, hr 6, hr 7, hr 8, hr 9, hr 10, hr 11, hr 12, hr 15, hr 16, hr 17, hr 18, hr 21, hr 22, hr 23, hr 26, hr 27, hr 28, hr 35, hr 36, hr 37, hr 38, hr 39, hr 40, hr 41, hr 42, hr 44, hr 45, hr 46, hr 47, hr 49, hr 50]), c0, c1, c2, c3, c4, c5, c6, c7, c8, c9, c10, c11⟩
theorem wk_gx_22 {E : py_E} {G G1 : wf_G} {a : Nat} {e : va_E} (hx : GX G G1) (h : wf_k E G a e 22) : wf_k E G1 a e 22 := by
  obtain ⟨g, he, hc⟩ := h
  exact ⟨g, he, fun i z hz => hx.ty (hc i z hz) (by decide)⟩
theorem wk_gx {E : py_E} {G G1 : wf_G} {a : Nat} {e : va_E} (hx : GX G G1) (ha : G.1 a ≠ 0) (c : Nat) (h : wf_k E G a e c) : wf_k E G1 a e c := by
  by_cases h1 : c = 1
  · subst h1
    exact wk_gx_0 hx ha h
  by_cases h2 : c = 2
  · subst h2
    exact wk_gx_1 hx ha h
  by_cases h3 : c = 3
  · subst h3
    exact wk_gx_2 hx ha h
  by_cases h4 : c = 4
  · subst h4
    exact wk_gx_3 hx ha h
  by_cases h5 : c = 5
  · subst h5
    exact wk_gx_4 hx ha h
  by_cases h6 : c = 6
  · subst h6
    exact wk_gx_5 hx ha h
  by_cases h7 : c = 7
  · subst h7
    exact wk_gx_6 hx ha h
  by_cases h8 : c = 8
  · subst h8
    exact wk_gx_7 hx ha h
  by_cases h9 : c = 9
  · subst h9
    exact wk_gx_8 hx ha h
  by_cases h10 : c = 10
  · subst h10
    exact wk_gx_9 hx ha h
  by_cases h11 : c = 11
  · subst h11
    exact wk_gx_10 hx ha h
  by_cases h12 : c = 12
  · subst h12
    exact wk_gx_11 hx ha h
  by_cases h13 : c = 13
  · subst h13
    exact wk_gx_12 hx ha h
  by_cases h22 : c = 22
  · subst h22
    exact wk_gx_22 hx h
  have e1 : wf_k E G1 a e c = wf_k E G a e c := by
    unfold wf_k
    split <;> first | omega | rfl
  rw [e1]
  exact h
theorem wt_gx_0 {G G1 : wf_G} {a : Nat} (hx : GX G G1) (ha : G.1 a ≠ 0) (h : wf_T G a 1) : wf_T G1 a 1 := by
  have hr := (hx a ha).2
  obtain ⟨t0, t1, t2⟩ := h
  exact ⟨by rw [hr 0]; exact hx.ty t0 (by decide), by rw [hr 1]; exact hx.ty t1 (by decide), by rw [hr 2]; exact hx.ty t2 (by decide)⟩
theorem wt_gx_1 {G G1 : wf_G} {a : Nat} (hx : GX G G1) (ha : G.1 a ≠ 0) (h : wf_T G a 2) : wf_T G1 a 2 := by
  have hr := (hx a ha).2
  obtain ⟨t0, t1⟩ := h
  exact ⟨by rw [hr 0]; exact hx.ty t0 (by decide), by rw [hr 1]; exact hx.ty t1 (by decide)⟩
theorem wt_gx_2 {G G1 : wf_G} {a : Nat} (hx : GX G G1) (ha : G.1 a ≠ 0) (h : wf_T G a 3) : wf_T G1 a 3 := by
  have hr := (hx a ha).2
  obtain ⟨t0, t1, t2, t3, t4, t5, t6, t7, t8⟩ := h
  exact ⟨by rw [hr 0]; exact hx.ty t0 (by omega), by rw [hr 1]; exact hx.ty t1 (by omega), by rw [hr 2]; exact hx.ty t2 (by decide), by rw [hr 3]; exact hx.ty t3 (by decide), by rw [hr 4]; exact hx.ty t4 (by decide), by rw [hr 5]; exact hx.ty t5 (by decide), by rw [hr 6]; exact hx.ty t6 (by decide), by rw [hr 7]; exact hx.ty t7 (by decide), by rw [hr 8]; exact hx.ty t8 (by decide)⟩
theorem wt_gx_3 {G G1 : wf_G} {a : Nat} (hx : GX G G1) (ha : G.1 a ≠ 0) (h : wf_T G a 4) : wf_T G1 a 4 := by
  have hr := (hx a ha).2
  obtain ⟨t0, t1⟩ := h
  exact ⟨by rw [hr 0]; exact hx.ty t0 (by decide), by rw [hr 1]; exact hx.ty t1 (by decide)⟩
theorem wt_gx_4 {G G1 : wf_G} {a : Nat} (hx : GX G G1) (ha : G.1 a ≠ 0) (h : wf_T G a 5) : wf_T G1 a 5 := by
  exact trivial
theorem wt_gx_5 {G G1 : wf_G} {a : Nat} (hx : GX G G1) (ha : G.1 a ≠ 0) (h : wf_T G a 6) : wf_T G1 a 6 := by
  have hr := (hx a ha).2
  have t0 := h
  show _ = _
  rw [hr 0]
  exact hx.ty t0 (by decide)
theorem wt_gx_6 {G G1 : wf_G} {a : Nat} (hx : GX G G1) (ha : G.1 a ≠ 0) (h : wf_T G a 7) : wf_T G1 a 7 := by
  have hr := (hx a ha).2
  obtain ⟨t0, t1, t2⟩ := h
  exact ⟨by rw [hr 0]; exact hx.ty t0 (by decide), by rw [hr 1]; exact hx.ty t1 (by decide), by rw [hr 2]; exact hx.ty t2 (by decide)⟩
theorem wt_gx_7 {G G1 : wf_G} {a : Nat} (hx : GX G G1) (ha : G.1 a ≠ 0) (h : wf_T G a 8) : wf_T G1 a 8 := by
  have hr := (hx a ha).2
  obtain ⟨t0, t1, t2⟩ := h
  exact ⟨by rw [hr 0]; exact hx.ty t0 (by decide), by rw [hr 1]; exact hx.ty t1 (by decide), by rw [hr 2]; exact hx.ty t2 (by decide)⟩
theorem wt_gx_8 {G G1 : wf_G} {a : Nat} (hx : GX G G1) (ha : G.1 a ≠ 0) (h : wf_T G a 9) : wf_T G1 a 9 := by
  have hr := (hx a ha).2
  have t0 := h
  show _ = _
  rw [hr 0]
  exact hx.ty t0 (by decide)
theorem wt_gx_9 {G G1 : wf_G} {a : Nat} (hx : GX G G1) (ha : G.1 a ≠ 0) (h : wf_T G a 10) : wf_T G1 a 10 := by
  have hr := (hx a ha).2
  obtain ⟨t0, t1, t2, t3, t4, t5, t6, t7⟩ := h
  exact ⟨by rw [hr 0]; exact hx.ty t0 (by decide), by rw [hr 1]; exact hx.ty t1 (by decide), by rw [hr 2]; exact hx.ty t2 (by decide), by rw [hr 3]; exact hx.ty t3 (by decide), by rw [hr 4]; exact hx.ty t4 (by decide), by rw [hr 5]; exact hx.ty t5 (by decide), by rw [hr 6]; exact hx.ty t6 (by decide), by rw [hr 7]; exact hx.ty t7 (by decide)⟩
theorem wt_gx_10 {G G1 : wf_G} {a : Nat} (hx : GX G G1) (ha : G.1 a ≠ 0) (h : wf_T G a 11) : wf_T G1 a 11 := by
  have hr := (hx a ha).2
  have t0 := h
  show _ = _
  rw [hr 0]
  exact hx.ty t0 (by decide)
theorem wt_gx_11 {G G1 : wf_G} {a : Nat} (hx : GX G G1) (ha : G.1 a ≠ 0) (h : wf_T G a 12) : wf_T G1 a 12 := by
  have hr := (hx a ha).2
  obtain ⟨t0, t1, t2, t3, t4, t5, t6, t7, t8, t9, t10, t11, t12, x0, x1, x2, x3⟩ := h
  exact ⟨by rw [hr 0]; exact hx.ty t0 (by decide), by rw [hr 1]; exact hx.ty t1 (by decide), by rw [hr 2]; exact hx.ty t2 (by decide), by rw [hr 3]; exact hx.ty t3 (by decide), by rw [hr 4]; exact hx.ty t4 (by decide), by rw [hr 5]; exact hx.ty t5 (by decide), by rw [hr 6]; exact hx.ty t6 (by decide), by rw [hr 7]; exact hx.ty t7 (by decide), by rw [hr 8]; exact hx.ty t8 (by decide), by rw [hr 9]; exact hx.ty t9 (by decide), by rw [hr 10]; exact hx.ty t10 (by decide), by rw [hr 11]; exact hx.ty t11 (by decide), by rw [hr 12]; exact hx.ty t12 (by decide), by rw [hr 5, hr 6]; exact x0, by rw [hr 5, hr 7]; exact x1, by rw [hr 6, hr 7]; exact x2, by rw [hr 12, hr 5, (hx _ (by rw [t12]; decide)).2 2]; exact x3⟩
theorem wt_gx_12 {G G1 : wf_G} {a : Nat} (hx : GX G G1) (ha : G.1 a ≠ 0) (h : wf_T G a 13) : wf_T G1 a 13 := by
  have hr := (hx a ha).2
  obtain ⟨t1, t6, t7, t8, t9, t10, t11, t12, t15, t16, t17, t18, t21, t22, t23, t26, t27, t28, t35, t36, t37, t38, t39, t40, t41, t42, t44, t45, t46, t47, t49, t50⟩ := h
  exact ⟨by rw [hr 1]; exact hx.ty t1 (by decide), by rw [hr 6]; exact hx.ty t6 (by decide), by rw [hr 7]; exact hx.ty t7 (by decide), by rw [hr 8]; exact hx.ty t8 (by decide), by rw [hr 9]; exact hx.ty t9 (by decide), by rw [hr 10]; exact hx.ty t10 (by decide), by rw [hr 11]; exact hx.ty t11 (by decide), by rw [hr 12]; exact hx.ty t12 (by decide), by rw [hr 15]; exact hx.ty t15 (by decide), by rw [hr 16]; exact hx.ty t16 (by decide), by rw [hr 17]; exact hx.ty t17 (by decide), by rw [hr 18]; exact hx.ty t18 (by decide), by rw [hr 21]; exact hx.ty t21 (by decide), by rw [hr 22]; exact hx.ty t22 (by decide), by rw [hr 23]; exact hx.ty t23 (by decide), by rw [hr 26]; exact hx.ty t26 (by decide), by rw [hr 27]; exact hx.ty t27 (by decide), by rw [hr 28]; exact hx.ty t28 (by decide), by rw [hr 35]; exact hx.ty t35 (by decide), by rw [hr 36]; exact hx.ty t36 (by decide), by rw [hr 37]; exact hx.ty t37 (by decide), by rw [hr 38]; exact hx.ty t38 (by decide), by rw [hr 39]; exact hx.ty t39 (by decide), by rw [hr 40]; exact hx.ty t40 (by decide), by rw [hr 41]; exact hx.ty t41 (by decide), by rw [hr 42]; exact hx.ty t42 (by decide), by rw [hr 44]; exact hx.ty t44 (by decide), by rw [hr 45]; exact hx.ty t45 (by decide), by rw [hr 46]; exact hx.ty t46 (by decide), by rw [hr 47]; exact hx.ty t47 (by decide), by rw [hr 49]; exact hx.ty t49 (by decide), by rw [hr 50]; exact hx.ty t50 (by decide)⟩
theorem wt_gx {G G1 : wf_G} {a : Nat} (hx : GX G G1) (ha : G.1 a ≠ 0) (c : Nat) (h : wf_T G a c) : wf_T G1 a c := by
  by_cases h1 : c = 1
  · subst h1
    exact wt_gx_0 hx ha h
  by_cases h2 : c = 2
  · subst h2
    exact wt_gx_1 hx ha h
  by_cases h3 : c = 3
  · subst h3
    exact wt_gx_2 hx ha h
  by_cases h4 : c = 4
  · subst h4
    exact wt_gx_3 hx ha h
  by_cases h5 : c = 5
  · subst h5
    exact wt_gx_4 hx ha h
  by_cases h6 : c = 6
  · subst h6
    exact wt_gx_5 hx ha h
  by_cases h7 : c = 7
  · subst h7
    exact wt_gx_6 hx ha h
  by_cases h8 : c = 8
  · subst h8
    exact wt_gx_7 hx ha h
  by_cases h9 : c = 9
  · subst h9
    exact wt_gx_8 hx ha h
  by_cases h10 : c = 10
  · subst h10
    exact wt_gx_9 hx ha h
  by_cases h11 : c = 11
  · subst h11
    exact wt_gx_10 hx ha h
  by_cases h12 : c = 12
  · subst h12
    exact wt_gx_11 hx ha h
  by_cases h13 : c = 13
  · subst h13
    exact wt_gx_12 hx ha h
  have e1 : wf_T G1 a c = True := by
    unfold wf_T
    split <;> first | omega | rfl
  rw [e1]
  exact trivial
/-- one untyped cell gets its code -/
theorem gx_new {E : py_E} {G : wf_G} {L : List Nat} {f : py_F} {q c : Nat} {r : Nat → Nat} (hG : GT G) (hWF : WF E G L f) (h0 : G.1 q = 0) (hc : c ≠ 0) (hq : q ∈ L) (hk : ∀ G1 : wf_G, GX G G1 → G1.1 q = c → (∀ j, G1.2 q j = r j) → wf_k E G1 q (f q) c) (ht : ∀ G1 : wf_G, GX G G1 → G1.1 q = c → (∀ j, G1.2 q j = r j) → wf_T G1 q c) : ∃ G1 : wf_G, GX G G1 ∧ GT G1 ∧ WF E G1 L f ∧ G1.1 q = c ∧ (∀ j, G1.2 q j = r j) ∧ ∀ a, a ≠ q → G1.1 a = G.1 a := by
  let G1 : wf_G := (fun x => if x = q then c else G.1 x, fun x j => if x = q then r j else G.2 x j)
  have hx : GX G G1 := by
    intro a ha
    have hne : a ≠ q := fun e => ha (e ▸ h0)
    exact ⟨if_neg hne, fun j => if_neg hne⟩
  have e1 : G1.1 q = c := if_pos rfl
  have e2 : ∀ j, G1.2 q j = r j := fun j => if_pos rfl
  have e3 : ∀ a, a ≠ q → G1.1 a = G.1 a := fun a ha => if_neg ha
  refine ⟨G1, hx, fun a => ?_, fun a ha => ?_, e1, e2, e3⟩
  · by_cases e : a = q
    · rw [e, e1]
      exact ht G1 hx e1 e2
    · rw [e3 a e]
      by_cases z : G.1 a = 0
      · rw [z]
        exact trivial
      · exact wt_gx hx z _ (hG a)
  · by_cases e : a = q
    · rw [e]
      refine ⟨hq, ?_⟩
      rw [e1]
      exact hk G1 hx e1 e2
    · rw [e3 a e] at ha ⊢
      obtain ⟨q1, q2⟩ := hWF a ha
      exact ⟨q1, wk_gx hx ha _ q2⟩
/-- who has HEADS has a LEVEL, of all folks -/
def RLA (E : py_E) (G : wf_G) (f : py_F) : Prop := ∀ o : Nat, G.1 o = 3 → RLV E G f o
def GZ (E : py_E) (G : wf_G) (L : List Nat) (f : py_F) : Prop := GT G ∧ WF E G L f ∧ RLA E G f
theorem GZ.un {E : py_E} {G : wf_G} {L : List Nat} {f : py_F} {q : Nat} (h : GZ E G L f) (hq : q ∉ L) : G.1 q = 0 := by
  by_cases e : G.1 q = 0
  · exact e
  · exact absurd (h.2.1 q e).1 hq
theorem rlv_same {E : py_E} {G : wf_G} {f f1 : py_F} {o : Nat} (h : RLV E G f o) (e0 : f1 (G.2 o 0) = f (G.2 o 0)) (e1 : f1 (G.2 o 1) = f (G.2 o 1)) : RLV E G f1 o := fun gh gl q0 q1 => h gh gl (e0 ▸ q0) (e1 ▸ q1)
theorem GZ.all {E : py_E} {G : wf_G} {L L1 : List Nat} {f f1 : py_F} (h : GZ E G L f) (x : py_all L f L1 f1) : GZ E G L1 f1 := by
  obtain ⟨hG, hWF, hR⟩ := h
  refine ⟨hG, fun a ha => ?_, fun o ho => ?_⟩
  · obtain ⟨q1, q2⟩ := hWF a ha
    obtain ⟨z1, z2⟩ := x a q1
    exact ⟨z1, by rw [z2]; exact q2⟩
  · obtain ⟨t0, t1, -⟩ := wt_2 hG ho
    exact rlv_same (hR o ho) (x _ (hWF _ (by rw [t0]; omega)).1).2 (x _ (hWF _ (by rw [t1]; omega)).1).2
/-- a write to a cell that has no code yet -/
theorem GZ.unt {E : py_E} {G : wf_G} {L L1 : List Nat} {f f1 : py_F} {q : Nat} (h : GZ E G L f) (hq : G.1 q = 0) (x : py_ext L f L1 f1 q) : GZ E G L1 f1 := by
  obtain ⟨hG, hWF, hR⟩ := h
  refine ⟨hG, fun a ha => ?_, fun o ho => ?_⟩
  · obtain ⟨q1, q2⟩ := hWF a ha
    obtain ⟨z1, z2⟩ := x a q1 (fun e => ha (e ▸ hq))
    exact ⟨z1, by rw [z2]; exact q2⟩
  · obtain ⟨t0, t1, -⟩ := wt_2 hG ho
    exact rlv_same (hR o ho) (x _ (hWF _ (by rw [t0]; omega)).1 (fun e => by rw [e] at t0; omega)).2 (x _ (hWF _ (by rw [t1]; omega)).1 (fun e => by rw [e] at t1; omega)).2
theorem GZ.ty {E : py_E} {G : wf_G} {L : List Nat} {f : py_F} {q c : Nat} {r : Nat → Nat} (h : GZ E G L f) (h0 : G.1 q = 0) (hc : c ≠ 0) (hq : q ∈ L) (hk : ∀ G1 : wf_G, GX G G1 → G1.1 q = c → (∀ j, G1.2 q j = r j) → wf_k E G1 q (f q) c) (ht : ∀ G1 : wf_G, GX G G1 → G1.1 q = c → (∀ j, G1.2 q j = r j) → wf_T G1 q c) (hr : c = 3 → ∀ gh : Nat → Int32, f (r 0) = .inl (E.2.1, 10, .inl gh) → ∀ i : Nat, i < 10 → (gh i).toInt ≤ 0) : ∃ G1 : wf_G, GX G G1 ∧ GZ E G1 L f ∧ G1.1 q = c ∧ (∀ j, G1.2 q j = r j) ∧ ∀ a, a ≠ q → G1.1 a = G.1 a := by
  obtain ⟨hG, hWF, hR⟩ := h
  obtain ⟨G1, x1, x2, x3, x4, x5, x6⟩ := gx_new hG hWF h0 hc hq hk ht
  refine ⟨G1, x1, ⟨x2, x3, fun o ho => ?_⟩, x4, x5, x6⟩
  by_cases e : o = q
  · rw [e] at ho ⊢
    intro gh gl q0 q1 i hi hp
    rw [x5 0] at q0
    have := hr (by rw [← x4, ho]) gh q0 i hi
    omega
  · have ho2 : G.1 o = 3 := by rw [← x6 o e]; exact ho
    have hr2 := (x1 o (by rw [ho2]; decide)).2
    intro gh gl q0 q1
    rw [hr2] at q0 q1
    exact hR o ho2 gh gl q0 q1
/-- a new row of ints, all 0 -/
theorem GZ.arr {E : py_E} {G : wf_G} {L : List Nat} {f : py_F} {q c n : Nat} {lo hi : Int} (h : GZ E G L f) (h0 : G.1 q = 0) (hc : c ≠ 0) (h3 : c ≠ 3) (hq : py_at L f q (.inl (E.2.1, n, .inl (fun _ => 0)))) (hk : ∀ (G1 : wf_G) (e : va_E), wf_k E G1 q e c = ∃ g : Nat → Int32, e = .inl (E.2.1, n, .inl g) ∧ wf_in n lo hi g) (ht : ∀ G1 : wf_G, wf_T G1 q c = True) (hlo : lo ≤ 0) (hhi : 0 ≤ hi) : ∃ G1 : wf_G, GX G G1 ∧ GZ E G1 L f ∧ G1.1 q = c ∧ ∀ a, a ≠ q → G1.1 a = G.1 a := by
  obtain ⟨G1, x1, x2, x3, -, x5⟩ := h.ty (r := fun _ => 0) h0 hc hq.1 (fun G1 _ _ _ => by rw [hk]; exact ⟨_, hq.2, fun i _ => ⟨hlo, hhi⟩⟩) (fun G1 _ _ _ => by rw [ht]; exact trivial) (fun e => absurd e h3)
  exact ⟨G1, x1, x2, x3, x5⟩
theorem wt_own (G : wf_G) (b a : Nat) : wf_T G b (1000 + a) = True := by
  unfold wf_T
  split <;> first | omega | rfl
theorem GZ.arrK {E : py_E} {G : wf_G} {L : List Nat} {f : py_F} {q c : Nat} {e : va_E} (h : GZ E G L f) (h0 : G.1 q = 0) (hc : c ≠ 0) (h3 : c ≠ 3) (hq : py_at L f q e) (hk : ∀ G1 : wf_G, wf_k E G1 q e c) (ht : ∀ G1 : wf_G, wf_T G1 q c = True) : ∃ G1 : wf_G, GX G G1 ∧ GZ E G1 L f ∧ G1.1 q = c ∧ ∀ a, a ≠ q → G1.1 a = G.1 a := by
  obtain ⟨G1, x1, x2, x3, -, x5⟩ := h.ty (r := fun _ => 0) h0 hc hq.1 (fun G1 _ _ _ => by rw [hq.2]; exact hk G1) (fun G1 _ _ _ => by rw [ht]; exact trivial) (fun e => absurd e h3)
  exact ⟨G1, x1, x2, x3, x5⟩
/-- all but h as it was, and no code changed -/
def NTR (L : List Nat) (f : py_F) (G : wf_G) (h : Nat) (L1 : List Nat) (f1 : py_F) (G1 : wf_G) : Prop := ∀ b : Nat, b ∈ L → b ≠ h → b ∈ L1 ∧ f1 b = f b ∧ G1.1 b = G.1 b
theorem NTR.refl {L : List Nat} {f : py_F} {G : wf_G} {h : Nat} : NTR L f G h L f G := fun _ a _ => ⟨a, rfl, rfl⟩
theorem NTR.all {L L1 L2 : List Nat} {f f1 f2 : py_F} {G G1 : wf_G} {h : Nat} (n : NTR L f G h L1 f1 G1) (x : py_all L1 f1 L2 f2) : NTR L f G h L2 f2 G1 := fun b a c => by
  obtain ⟨q1, q2, q3⟩ := n b a c
  obtain ⟨z1, z2⟩ := x b q1
  exact ⟨z1, z2.trans q2, q3⟩
theorem NTR.ext {L L1 L2 : List Nat} {f f1 f2 : py_F} {G G1 : wf_G} {h : Nat} (n : NTR L f G h L1 f1 G1) (x : py_ext L1 f1 L2 f2 h) : NTR L f G h L2 f2 G1 := fun b a c => by
  obtain ⟨q1, q2, q3⟩ := n b a c
  obtain ⟨z1, z2⟩ := x b q1 c
  exact ⟨z1, z2.trans q2, q3⟩
theorem NTR.extq {L L1 L2 : List Nat} {f f1 f2 : py_F} {G G1 : wf_G} {h q : Nat} (n : NTR L f G h L1 f1 G1) (x : py_ext L1 f1 L2 f2 q) (nq : ∀ b : Nat, b ∈ L → b ≠ h → b ≠ q) : NTR L f G h L2 f2 G1 := fun b a c => by
  obtain ⟨q1, q2, q3⟩ := n b a c
  obtain ⟨z1, z2⟩ := x b q1 (nq b a c)
  exact ⟨z1, z2.trans q2, q3⟩
theorem NTR.ne {L L1 : List Nat} {f f1 : py_F} {G G1 : wf_G} {h q : Nat} (n : NTR L f G h L1 f1 G1) (hq : q ∉ L1) : ∀ b : Nat, b ∈ L → b ≠ h → b ≠ q := fun b a c e => hq (e ▸ (n b a c).1)
theorem NTR.ty {L L1 : List Nat} {f f1 : py_F} {G G1 G2 : wf_G} {h q : Nat} (n : NTR L f G h L1 f1 G1) (e : ∀ a, a ≠ q → G2.1 a = G1.1 a) (nq : ∀ b : Nat, b ∈ L → b ≠ h → b ≠ q) : NTR L f G h L1 f1 G2 := fun b a c => by
  obtain ⟨q1, q2, q3⟩ := n b a c
  exact ⟨q1, q2, (e b (nq b a c)).trans q3⟩
theorem NTR.sub {L L1 L2 : List Nat} {f f1 f2 : py_F} {G G1 G2 : wf_G} {h q : Nat} (n : NTR L f G h L1 f1 G1) (m : NTR L1 f1 G1 q L2 f2 G2) (nq : ∀ b : Nat, b ∈ L → b ≠ h → b ≠ q) : NTR L f G h L2 f2 G2 := fun b a c => by
  obtain ⟨q1, q2, q3⟩ := n b a c
  obtain ⟨z1, z2, z3⟩ := m b q1 (nq b a c)
  exact ⟨z1, z2.trans q2, z3.trans q3⟩
theorem NTR.at {L L1 : List Nat} {f f1 : py_F} {G G1 : wf_G} {h a : Nat} {e : va_E} (n : NTR L f G h L1 f1 G1) (p : py_at L f a e) (hn : a ≠ h) : py_at L1 f1 a e := by
  obtain ⟨q1, q2, -⟩ := n a p.1 hn
  exact ⟨q1, q2.trans p.2⟩
theorem un_ne {G : wf_G} {a b c : Nat} (ha : G.1 a = c) (hb : G.1 b = 0) (hc : c ≠ 0) : a ≠ b := fun e => hc (by rw [← ha, e, hb])
theorem gi_init {E : py_E} {G : wf_G} {f : py_F} {x F R V D : Nat} (hr : RLA E G f) (e5 : G.2 x 5 = F) (e1 : G.2 x 1 = R) (hv : fo_v f F = V) (hy : fo_y f F = 0) (hf : fv_f f F = 0) (hd : dr_v (f R) = D) (hne : V ≠ D) (hx : hy_n f x = 0 ∧ hy_m f x = 0) : GI E G f x := by
  refine ⟨hr, ⟨?_, ?_, ?_⟩, fun z => absurd hx.2 z, ?_⟩
  · rw [e5, e1, hv, hd]
    exact hne
  · rw [e5, hf]
    intro z
    omega
  · rw [e5, hy]
    decide
  · rw [hx.1]
    intro c g hg i hi
    omega
