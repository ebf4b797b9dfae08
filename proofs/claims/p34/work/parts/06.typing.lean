/-! THE TYPING: each cell of the world has a code (G.1), each final field an address (G.2); WF: what lies at a typed address is of its code. No write of a fitting value breaks it, whatever is the same cell. -/
abbrev wf_G : Type := (Nat → Nat) × (Nat → Nat → Nat)
def wf_ia (code : Nat) : Nat × Int × Int := match code with
  | 20 => (160, (-2147483648), 2147483647)
  | 21 => (32, (-2147483648), 2147483647)
  | 24 => (8, (-2147483648), 2147483647)
  | 25 => (10, 0, 7)
  | 26 => (10, (-2147483648), 2147483647)
  | 27 => (10, 0, 20)
  | 28 => (40, 0, 9)
  | 29 => (40, (-2147483648), 2147483647)
  | 31 => (600, (-2147483648), 2147483647)
  | 32 => (6, (-2147483648), 2147483647)
  | 33 => (10, 0, 9)
  | 36 => (4, (-2147483648), 2147483647)
  | 37 => (10, (-2147483648), 2147483647)
  | 38 => (160, (-2147483648), 2147483647)
  | 80 => (8, (-2147483648), 2147483647)
  | 40 => (160, (-2147483648), 2147483647)
  | 41 => (1700, (-2147483648), 2147483647)
  | 42 => (1700, (-2147483648), 2147483647)
  | 43 => (5, 0, 340)
  | 44 => (5, 0, 90)
  | 45 => (450, (-2147483648), 2147483647)
  | 46 => (450, (-2147483648), 2147483647)
  | 47 => (450, (-2147483648), 2147483647)
  | 48 => (6, (-2147483648), 2147483647)
  | 49 => (80, (-2147483648), 2147483647)
  | 50 => (32, (-2147483648), 2147483647)
  | 51 => (40, (-2147483648), 2147483647)
  | 52 => (32, (-2147483648), 2147483647)
  | 53 => (10, (-2147483648), 2147483647)
  | 54 => (10, (-2147483648), 2147483647)
  | 58 => (8, (-2147483648), 2147483647)
  | 59 => (10, (-1), 7)
  | 60 => (10, (-2147483648), 2147483647)
  | 61 => (600, (-2147483648), 2147483647)
  | 62 => (600, (-2147483648), 2147483647)
  | 63 => (40, 0, 9)
  | 64 => (40, (-2147483648), 2147483647)
  | 65 => (40, (-2147483648), 2147483647)
  | 66 => (8, (-2147483648), 2147483647)
  | 70 => (600, (-2147483648), 2147483647)
  | 71 => (600, (-2147483648), 2147483647)
  | _ => if code % 2 = 0 then (10, 0, 20) else (10, -1, 7)
def wf_in (n : Nat) (lo hi : Int) (g : Nat → Int32) : Prop := ∀ i : Nat, i < n → lo ≤ (g i).toInt ∧ (g i).toInt ≤ hi
def wf_nw (g : Nat → Int32) : Prop := ∀ i : Nat, i < 10 → (0 ≤ (g (9 * i)).toInt ∧ (g (9 * i)).toInt ≤ 20) ∧ (-1 ≤ (g (9 * i + 1)).toInt ∧ (g (9 * i + 1)).toInt ≤ 7)
def wf_k (E : py_E) (G : wf_G) (a : Nat) (e : va_E) : Nat → Prop
  | 1 => ∃ (v3 : Int32) (v4 : Int32), e = .inr (0, [.ref (G.2 a 0), .ref (G.2 a 1), .ref (G.2 a 2), .int v3, .int v4]) ∧ (0 ≤ v3.toInt ∧ v3.toInt ≤ 40) ∧ (0 ≤ v4.toInt ∧ v4.toInt ≤ 99)
  | 2 => ∃ (v2 : Int32), e = .inr (1, [.ref (G.2 a 0), .ref (G.2 a 1), .int v2]) ∧ (0 ≤ v2.toInt ∧ v2.toInt ≤ 60)
  | 3 => ∃ (r9 : Nat) (v10 : Int64) (v11 : Int32), e = .inr (2, [.ref (G.2 a 0), .ref (G.2 a 1), .ref (G.2 a 2), .ref (G.2 a 3), .ref (G.2 a 4), .ref (G.2 a 5), .ref (G.2 a 6), .ref (G.2 a 7), .ref (G.2 a 8), .ref r9, .long v10, .int v11]) ∧ G.1 r9 = 10 ∧ (0 ≤ v11.toInt ∧ v11.toInt ≤ 80)
  | 4 => ∃ (v2 : Int32), e = .inr (3, [.ref (G.2 a 0), .ref (G.2 a 1), .int v2]) ∧ (0 ≤ v2.toInt ∧ v2.toInt ≤ 160)
  | 5 => ∃ (r0 : Nat), e = .inr (4, [.ref r0]) ∧ G.1 r0 = 4
  | 6 => e = .inr (5, [.ref (G.2 a 0)])
  | 7 => ∃ (r3 : Nat) (r4 : Nat) (r5 : Nat) (v6 : Int64), e = .inr (6, [.ref (G.2 a 0), .ref (G.2 a 1), .ref (G.2 a 2), .ref r3, .ref r4, .ref r5, .long v6]) ∧ G.1 r3 = 35 ∧ G.1 r4 = 35 ∧ G.1 r5 = 4
  | 8 => ∃ (v3 : Int32) (v4 : Int32), e = .inr (7, [.ref (G.2 a 0), .ref (G.2 a 1), .ref (G.2 a 2), .int v3, .int v4]) ∧ (0 ≤ v4.toInt ∧ v4.toInt ≤ 1)
  | 9 => ∃ (v1 : Int32) (v2 : Int32) (v3 : Int32), e = .inr (8, [.ref (G.2 a 0), .int v1, .int v2, .int v3]) ∧ (0 ≤ v1.toInt ∧ v1.toInt ≤ 160) ∧ (0 ≤ v2.toInt ∧ v2.toInt ≤ 160)
  | 10 => ∃ (v8 : Int32) (v9 : Int32), e = .inr (9, [.ref (G.2 a 0), .ref (G.2 a 1), .ref (G.2 a 2), .ref (G.2 a 3), .ref (G.2 a 4), .ref (G.2 a 5), .ref (G.2 a 6), .ref (G.2 a 7), .int v8, .int v9]) ∧ (0 ≤ v8.toInt ∧ v8.toInt ≤ 8) ∧ (0 ≤ v9.toInt ∧ v9.toInt ≤ 10)
  | 11 => ∃ (r1 : Nat), e = .inr (10, [.ref (G.2 a 0), .ref r1]) ∧ G.1 r1 = 10
  | 12 => ∃ (v13 : Int32) (v14 : Int32) (v15 : Int32), e = .inr (11, [.ref (G.2 a 0), .ref (G.2 a 1), .ref (G.2 a 2), .ref (G.2 a 3), .ref (G.2 a 4), .ref (G.2 a 5), .ref (G.2 a 6), .ref (G.2 a 7), .ref (G.2 a 8), .ref (G.2 a 9), .ref (G.2 a 10), .ref (G.2 a 11), .ref (G.2 a 12), .int v13, .int v14, .int v15]) ∧ (0 ≤ v13.toInt ∧ v13.toInt ≤ 4) ∧ ((-1) ≤ v14.toInt ∧ v14.toInt ≤ 3) ∧ (0 ≤ v15.toInt ∧ v15.toInt ≤ 1)
  | 13 => ∃ (v0 : Int32) (v2 : Int32) (v3 : Int32) (v4 : Int32) (v5 : Int32) (v13 : Int32) (v14 : Int32) (v19 : Int32) (v20 : Int32) (v24 : Int32) (v25 : Int32) (v29 : Int32) (v30 : Int64) (v31 : Int32) (v32 : Int32) (v33 : Int32) (v34 : Int32) (v43 : Int32) (v48 : Int64) (v51 : Int32) (v52 : Int64) (v53 : Int32), e = .inr (12, [.int v0, .ref (G.2 a 1), .int v2, .int v3, .int v4, .int v5, .ref (G.2 a 6), .ref (G.2 a 7), .ref (G.2 a 8), .ref (G.2 a 9), .ref (G.2 a 10), .ref (G.2 a 11), .ref (G.2 a 12), .int v13, .int v14, .ref (G.2 a 15), .ref (G.2 a 16), .ref (G.2 a 17), .ref (G.2 a 18), .int v19, .int v20, .ref (G.2 a 21), .ref (G.2 a 22), .ref (G.2 a 23), .int v24, .int v25, .ref (G.2 a 26), .ref (G.2 a 27), .ref (G.2 a 28), .int v29, .long v30, .int v31, .int v32, .int v33, .int v34, .ref (G.2 a 35), .ref (G.2 a 36), .ref (G.2 a 37), .ref (G.2 a 38), .ref (G.2 a 39), .ref (G.2 a 40), .ref (G.2 a 41), .ref (G.2 a 42), .int v43, .ref (G.2 a 44), .ref (G.2 a 45), .ref (G.2 a 46), .ref (G.2 a 47), .long v48, .ref (G.2 a 49), .ref (G.2 a 50), .int v51, .long v52, .int v53]) ∧ (0 ≤ v2.toInt ∧ v2.toInt ≤ 160) ∧ (0 ≤ v13.toInt ∧ v13.toInt ≤ 4) ∧ (0 ≤ v14.toInt ∧ v14.toInt ≤ 4) ∧ (0 ≤ v19.toInt ∧ v19.toInt ≤ 8) ∧ (0 ≤ v20.toInt ∧ v20.toInt ≤ 10) ∧ (0 ≤ v24.toInt ∧ v24.toInt ≤ 8) ∧ (0 ≤ v25.toInt ∧ v25.toInt ≤ 10) ∧ (0 ≤ v29.toInt ∧ v29.toInt ≤ 60) ∧ ((-1) ≤ v31.toInt ∧ v31.toInt ≤ 3) ∧ (0 ≤ v43.toInt ∧ v43.toInt ≤ 40) ∧ (0 ≤ v51.toInt ∧ v51.toInt ≤ 60) ∧ (0 ≤ v53.toInt ∧ v53.toInt ≤ 1)
  | 22 => ∃ g : Nat → Option Nat, e = .inl (E.2.2.2.2, 4, .inr (.inr (.inr (.inr g)))) ∧ ∀ i z : Nat, g i = some z → G.1 z = 4
  | 30 => ∃ g : Nat → Int32, e = .inl (E.2.2.2.1, 10, .inl g)
  | 55 => ∃ g : Nat → Int32, e = .inl (E.2.1, 90, .inl g) ∧ wf_nw g
  | 56 => ∃ g : Nat → Int32, e = .inl (E.2.1, 90, .inl g) ∧ wf_nw g
  | 57 => ∃ g : Nat → Int32, e = .inl (E.2.1, 90, .inl g) ∧ wf_nw g
  | 34 => ∃ g : Nat → Int64, e = .inl (E.2.2.1, 22, .inr (.inl g))
  | 35 => ∃ g : Nat → Int64, e = .inl (E.2.2.1, 168, .inr (.inl g))
  | 67 => ∃ g : Nat → Int64, e = .inl (E.2.2.1, 168, .inr (.inl g))
  | 68 => ∃ g : Nat → Int64, e = .inl (E.2.2.1, 168, .inr (.inl g))
  | 69 => ∃ g : Nat → Int64, e = .inl (E.2.2.1, 22, .inr (.inl g))
  | 72 => ∃ g : Nat → Int64, e = .inl (E.2.2.1, 1, .inr (.inl g))
  | code => ∃ g : Nat → Int32, e = .inl (E.2.1, (wf_ia code).1, .inl g) ∧ wf_in (wf_ia code).1 (wf_ia code).2.1 (wf_ia code).2.2 g
def WF (E : py_E) (G : wf_G) (L : List Nat) (f : py_F) : Prop := ∀ a : Nat, G.1 a ≠ 0 → a ∈ L ∧ wf_k E G a (f a) (G.1 a)
def wf_T (G : wf_G) (a : Nat) : Nat → Prop
  | 1 => G.1 (G.2 a 0) = 28 ∧ G.1 (G.2 a 1) = 29 ∧ G.1 (G.2 a 2) = 29
  | 2 => G.1 (G.2 a 0) = 31 ∧ G.1 (G.2 a 1) = 31
  | 3 => G.1 (G.2 a 0) = 1000 + 2 * a ∧ G.1 (G.2 a 1) = 1000 + 2 * a + 1 ∧ G.1 (G.2 a 2) = 26 ∧ G.1 (G.2 a 3) = 37 ∧ G.1 (G.2 a 4) = 26 ∧ G.1 (G.2 a 5) = 26 ∧ G.1 (G.2 a 6) = 26 ∧ G.1 (G.2 a 7) = 26 ∧ G.1 (G.2 a 8) = 30
  | 4 => G.1 (G.2 a 0) = 20 ∧ G.1 (G.2 a 1) = 21
  | 5 => True
  | 6 => G.1 (G.2 a 0) = 24
  | 7 => G.1 (G.2 a 0) = 32 ∧ G.1 (G.2 a 1) = 34 ∧ G.1 (G.2 a 2) = 3
  | 8 => G.1 (G.2 a 0) = 24 ∧ G.1 (G.2 a 1) = 32 ∧ G.1 (G.2 a 2) = 33
  | 9 => G.1 (G.2 a 0) = 38
  | 10 => G.1 (G.2 a 0) = 80 ∧ G.1 (G.2 a 1) = 24 ∧ G.1 (G.2 a 2) = 24 ∧ G.1 (G.2 a 3) = 24 ∧ G.1 (G.2 a 4) = 27 ∧ G.1 (G.2 a 5) = 25 ∧ G.1 (G.2 a 6) = 26 ∧ G.1 (G.2 a 7) = 26
  | 11 => G.1 (G.2 a 0) = 36
  | 12 => G.1 (G.2 a 0) = 9 ∧ G.1 (G.2 a 1) = 11 ∧ G.1 (G.2 a 2) = 5 ∧ G.1 (G.2 a 3) = 22 ∧ G.1 (G.2 a 4) = 4 ∧ G.1 (G.2 a 5) = 3 ∧ G.1 (G.2 a 6) = 3 ∧ G.1 (G.2 a 7) = 3 ∧ G.1 (G.2 a 8) = 2 ∧ G.1 (G.2 a 9) = 1 ∧ G.1 (G.2 a 10) = 8 ∧ G.1 (G.2 a 11) = 6 ∧ G.1 (G.2 a 12) = 7 ∧ G.2 a 5 ≠ G.2 a 6 ∧ G.2 a 5 ≠ G.2 a 7 ∧ G.2 a 6 ≠ G.2 a 7 ∧ G.2 (G.2 a 12) 2 = G.2 a 5
  | 13 => G.1 (G.2 a 1) = 40 ∧ G.1 (G.2 a 6) = 41 ∧ G.1 (G.2 a 7) = 42 ∧ G.1 (G.2 a 8) = 43 ∧ G.1 (G.2 a 9) = 44 ∧ G.1 (G.2 a 10) = 45 ∧ G.1 (G.2 a 11) = 46 ∧ G.1 (G.2 a 12) = 47 ∧ G.1 (G.2 a 15) = 48 ∧ G.1 (G.2 a 16) = 49 ∧ G.1 (G.2 a 17) = 50 ∧ G.1 (G.2 a 18) = 51 ∧ G.1 (G.2 a 21) = 52 ∧ G.1 (G.2 a 22) = 53 ∧ G.1 (G.2 a 23) = 54 ∧ G.1 (G.2 a 26) = 55 ∧ G.1 (G.2 a 27) = 56 ∧ G.1 (G.2 a 28) = 57 ∧ G.1 (G.2 a 35) = 58 ∧ G.1 (G.2 a 36) = 59 ∧ G.1 (G.2 a 37) = 60 ∧ G.1 (G.2 a 38) = 61 ∧ G.1 (G.2 a 39) = 62 ∧ G.1 (G.2 a 40) = 63 ∧ G.1 (G.2 a 41) = 64 ∧ G.1 (G.2 a 42) = 65 ∧ G.1 (G.2 a 44) = 66 ∧ G.1 (G.2 a 45) = 67 ∧ G.1 (G.2 a 46) = 68 ∧ G.1 (G.2 a 47) = 69 ∧ G.1 (G.2 a 49) = 70 ∧ G.1 (G.2 a 50) = 71
  | _ => True
def GT (G : wf_G) : Prop := ∀ a : Nat, wf_T G a (G.1 a)
theorem wg_0 {E : py_E} {G : wf_G} {L : List Nat} {f : py_F} {a : Nat} (h : WF E G L f) (ht : G.1 a = 1) : ∃ (v3 : Int32) (v4 : Int32), py_at L f a (.inr (0, [.ref (G.2 a 0), .ref (G.2 a 1), .ref (G.2 a 2), .int v3, .int v4])) ∧ (0 ≤ v3.toInt ∧ v3.toInt ≤ 40) ∧ (0 ≤ v4.toInt ∧ v4.toInt ≤ 99) := by
  obtain ⟨h1, h2⟩ := h a (by rw [ht]; decide)
  rw [ht] at h2
  obtain ⟨x0, x1, h3, c0, c1⟩ := h2
  exact ⟨x0, x1, ⟨h1, h3⟩, c0, c1⟩
theorem wt_0 {G : wf_G} {a : Nat} (h : GT G) (ht : G.1 a = 1) : G.1 (G.2 a 0) = 28 ∧ G.1 (G.2 a 1) = 29 ∧ G.1 (G.2 a 2) = 29 := by
  have h1 := h a
  rw [ht] at h1
  exact h1
theorem wg_1 {E : py_E} {G : wf_G} {L : List Nat} {f : py_F} {a : Nat} (h : WF E G L f) (ht : G.1 a = 2) : ∃ (v2 : Int32), py_at L f a (.inr (1, [.ref (G.2 a 0), .ref (G.2 a 1), .int v2])) ∧ (0 ≤ v2.toInt ∧ v2.toInt ≤ 60) := by
  obtain ⟨h1, h2⟩ := h a (by rw [ht]; decide)
  rw [ht] at h2
  obtain ⟨x0, h3, c0⟩ := h2
  exact ⟨x0, ⟨h1, h3⟩, c0⟩
theorem wt_1 {G : wf_G} {a : Nat} (h : GT G) (ht : G.1 a = 2) : G.1 (G.2 a 0) = 31 ∧ G.1 (G.2 a 1) = 31 := by
  have h1 := h a
  rw [ht] at h1
  exact h1
theorem wg_2 {E : py_E} {G : wf_G} {L : List Nat} {f : py_F} {a : Nat} (h : WF E G L f) (ht : G.1 a = 3) : ∃ (r9 : Nat) (v10 : Int64) (v11 : Int32), py_at L f a (.inr (2, [.ref (G.2 a 0), .ref (G.2 a 1), .ref (G.2 a 2), .ref (G.2 a 3), .ref (G.2 a 4), .ref (G.2 a 5), .ref (G.2 a 6), .ref (G.2 a 7), .ref (G.2 a 8), .ref r9, .long v10, .int v11])) ∧ G.1 r9 = 10 ∧ (0 ≤ v11.toInt ∧ v11.toInt ≤ 80) := by
  obtain ⟨h1, h2⟩ := h a (by rw [ht]; decide)
  rw [ht] at h2
  obtain ⟨x0, x1, x2, h3, c0, c1⟩ := h2
  exact ⟨x0, x1, x2, ⟨h1, h3⟩, c0, c1⟩
theorem wt_2 {G : wf_G} {a : Nat} (h : GT G) (ht : G.1 a = 3) : G.1 (G.2 a 0) = 1000 + 2 * a ∧ G.1 (G.2 a 1) = 1000 + 2 * a + 1 ∧ G.1 (G.2 a 2) = 26 ∧ G.1 (G.2 a 3) = 37 ∧ G.1 (G.2 a 4) = 26 ∧ G.1 (G.2 a 5) = 26 ∧ G.1 (G.2 a 6) = 26 ∧ G.1 (G.2 a 7) = 26 ∧ G.1 (G.2 a 8) = 30 := by
  have h1 := h a
  rw [ht] at h1
  exact h1
theorem wg_3 {E : py_E} {G : wf_G} {L : List Nat} {f : py_F} {a : Nat} (h : WF E G L f) (ht : G.1 a = 4) : ∃ (v2 : Int32), py_at L f a (.inr (3, [.ref (G.2 a 0), .ref (G.2 a 1), .int v2])) ∧ (0 ≤ v2.toInt ∧ v2.toInt ≤ 160) := by
  obtain ⟨h1, h2⟩ := h a (by rw [ht]; decide)
  rw [ht] at h2
  obtain ⟨x0, h3, c0⟩ := h2
  exact ⟨x0, ⟨h1, h3⟩, c0⟩
theorem wt_3 {G : wf_G} {a : Nat} (h : GT G) (ht : G.1 a = 4) : G.1 (G.2 a 0) = 20 ∧ G.1 (G.2 a 1) = 21 := by
  have h1 := h a
  rw [ht] at h1
  exact h1
theorem wg_4 {E : py_E} {G : wf_G} {L : List Nat} {f : py_F} {a : Nat} (h : WF E G L f) (ht : G.1 a = 5) : ∃ (r0 : Nat), py_at L f a (.inr (4, [.ref r0])) ∧ G.1 r0 = 4 := by
  obtain ⟨h1, h2⟩ := h a (by rw [ht]; decide)
  rw [ht] at h2
  obtain ⟨x0, h3, c0⟩ := h2
  exact ⟨x0, ⟨h1, h3⟩, c0⟩
theorem wg_5 {E : py_E} {G : wf_G} {L : List Nat} {f : py_F} {a : Nat} (h : WF E G L f) (ht : G.1 a = 6) : py_at L f a (.inr (5, [.ref (G.2 a 0)])) := by
  obtain ⟨h1, h2⟩ := h a (by rw [ht]; decide)
  rw [ht] at h2
  exact ⟨h1, h2⟩
theorem wt_5 {G : wf_G} {a : Nat} (h : GT G) (ht : G.1 a = 6) : G.1 (G.2 a 0) = 24 := by
  have h1 := h a
  rw [ht] at h1
  exact h1
theorem wg_6 {E : py_E} {G : wf_G} {L : List Nat} {f : py_F} {a : Nat} (h : WF E G L f) (ht : G.1 a = 7) : ∃ (r3 : Nat) (r4 : Nat) (r5 : Nat) (v6 : Int64), py_at L f a (.inr (6, [.ref (G.2 a 0), .ref (G.2 a 1), .ref (G.2 a 2), .ref r3, .ref r4, .ref r5, .long v6])) ∧ G.1 r3 = 35 ∧ G.1 r4 = 35 ∧ G.1 r5 = 4 := by
  obtain ⟨h1, h2⟩ := h a (by rw [ht]; decide)
  rw [ht] at h2
  obtain ⟨x0, x1, x2, x3, h3, c0, c1, c2⟩ := h2
  exact ⟨x0, x1, x2, x3, ⟨h1, h3⟩, c0, c1, c2⟩
theorem wt_6 {G : wf_G} {a : Nat} (h : GT G) (ht : G.1 a = 7) : G.1 (G.2 a 0) = 32 ∧ G.1 (G.2 a 1) = 34 ∧ G.1 (G.2 a 2) = 3 := by
  have h1 := h a
  rw [ht] at h1
  exact h1
theorem wg_7 {E : py_E} {G : wf_G} {L : List Nat} {f : py_F} {a : Nat} (h : WF E G L f) (ht : G.1 a = 8) : ∃ (v3 : Int32) (v4 : Int32), py_at L f a (.inr (7, [.ref (G.2 a 0), .ref (G.2 a 1), .ref (G.2 a 2), .int v3, .int v4])) ∧ (0 ≤ v4.toInt ∧ v4.toInt ≤ 1) := by
  obtain ⟨h1, h2⟩ := h a (by rw [ht]; decide)
  rw [ht] at h2
  obtain ⟨x0, x1, h3, c0⟩ := h2
  exact ⟨x0, x1, ⟨h1, h3⟩, c0⟩
theorem wt_7 {G : wf_G} {a : Nat} (h : GT G) (ht : G.1 a = 8) : G.1 (G.2 a 0) = 24 ∧ G.1 (G.2 a 1) = 32 ∧ G.1 (G.2 a 2) = 33 := by
  have h1 := h a
  rw [ht] at h1
  exact h1
theorem wg_8 {E : py_E} {G : wf_G} {L : List Nat} {f : py_F} {a : Nat} (h : WF E G L f) (ht : G.1 a = 9) : ∃ (v1 : Int32) (v2 : Int32) (v3 : Int32), py_at L f a (.inr (8, [.ref (G.2 a 0), .int v1, .int v2, .int v3])) ∧ (0 ≤ v1.toInt ∧ v1.toInt ≤ 160) ∧ (0 ≤ v2.toInt ∧ v2.toInt ≤ 160) := by
  obtain ⟨h1, h2⟩ := h a (by rw [ht]; decide)
  rw [ht] at h2
  obtain ⟨x0, x1, x2, h3, c0, c1⟩ := h2
  exact ⟨x0, x1, x2, ⟨h1, h3⟩, c0, c1⟩
theorem wt_8 {G : wf_G} {a : Nat} (h : GT G) (ht : G.1 a = 9) : G.1 (G.2 a 0) = 38 := by
  have h1 := h a
  rw [ht] at h1
  exact h1
theorem wg_9 {E : py_E} {G : wf_G} {L : List Nat} {f : py_F} {a : Nat} (h : WF E G L f) (ht : G.1 a = 10) : ∃ (v8 : Int32) (v9 : Int32), py_at L f a (.inr (9, [.ref (G.2 a 0), .ref (G.2 a 1), .ref (G.2 a 2), .ref (G.2 a 3), .ref (G.2 a 4), .ref (G.2 a 5), .ref (G.2 a 6), .ref (G.2 a 7), .int v8, .int v9])) ∧ (0 ≤ v8.toInt ∧ v8.toInt ≤ 8) ∧ (0 ≤ v9.toInt ∧ v9.toInt ≤ 10) := by
  obtain ⟨h1, h2⟩ := h a (by rw [ht]; decide)
  rw [ht] at h2
  obtain ⟨x0, x1, h3, c0, c1⟩ := h2
  exact ⟨x0, x1, ⟨h1, h3⟩, c0, c1⟩
theorem wt_9 {G : wf_G} {a : Nat} (h : GT G) (ht : G.1 a = 10) : G.1 (G.2 a 0) = 80 ∧ G.1 (G.2 a 1) = 24 ∧ G.1 (G.2 a 2) = 24 ∧ G.1 (G.2 a 3) = 24 ∧ G.1 (G.2 a 4) = 27 ∧ G.1 (G.2 a 5) = 25 ∧ G.1 (G.2 a 6) = 26 ∧ G.1 (G.2 a 7) = 26 := by
  have h1 := h a
  rw [ht] at h1
  exact h1
theorem wg_10 {E : py_E} {G : wf_G} {L : List Nat} {f : py_F} {a : Nat} (h : WF E G L f) (ht : G.1 a = 11) : ∃ (r1 : Nat), py_at L f a (.inr (10, [.ref (G.2 a 0), .ref r1])) ∧ G.1 r1 = 10 := by
  obtain ⟨h1, h2⟩ := h a (by rw [ht]; decide)
  rw [ht] at h2
  obtain ⟨x0, h3, c0⟩ := h2
  exact ⟨x0, ⟨h1, h3⟩, c0⟩
theorem wt_10 {G : wf_G} {a : Nat} (h : GT G) (ht : G.1 a = 11) : G.1 (G.2 a 0) = 36 := by
  have h1 := h a
  rw [ht] at h1
  exact h1
theorem wg_11 {E : py_E} {G : wf_G} {L : List Nat} {f : py_F} {a : Nat} (h : WF E G L f) (ht : G.1 a = 12) : ∃ (v13 : Int32) (v14 : Int32) (v15 : Int32), py_at L f a (.inr (11, [.ref (G.2 a 0), .ref (G.2 a 1), .ref (G.2 a 2), .ref (G.2 a 3), .ref (G.2 a 4), .ref (G.2 a 5), .ref (G.2 a 6), .ref (G.2 a 7), .ref (G.2 a 8), .ref (G.2 a 9), .ref (G.2 a 10), .ref (G.2 a 11), .ref (G.2 a 12), .int v13, .int v14, .int v15])) ∧ (0 ≤ v13.toInt ∧ v13.toInt ≤ 4) ∧ ((-1) ≤ v14.toInt ∧ v14.toInt ≤ 3) ∧ (0 ≤ v15.toInt ∧ v15.toInt ≤ 1) := by
  obtain ⟨h1, h2⟩ := h a (by rw [ht]; decide)
  rw [ht] at h2
  obtain ⟨x0, x1, x2, h3, c0, c1, c2⟩ := h2
  exact ⟨x0, x1, x2, ⟨h1, h3⟩, c0, c1, c2⟩
theorem wt_11 {G : wf_G} {a : Nat} (h : GT G) (ht : G.1 a = 12) : G.1 (G.2 a 0) = 9 ∧ G.1 (G.2 a 1) = 11 ∧ G.1 (G.2 a 2) = 5 ∧ G.1 (G.2 a 3) = 22 ∧ G.1 (G.2 a 4) = 4 ∧ G.1 (G.2 a 5) = 3 ∧ G.1 (G.2 a 6) = 3 ∧ G.1 (G.2 a 7) = 3 ∧ G.1 (G.2 a 8) = 2 ∧ G.1 (G.2 a 9) = 1 ∧ G.1 (G.2 a 10) = 8 ∧ G.1 (G.2 a 11) = 6 ∧ G.1 (G.2 a 12) = 7 ∧ G.2 a 5 ≠ G.2 a 6 ∧ G.2 a 5 ≠ G.2 a 7 ∧ G.2 a 6 ≠ G.2 a 7 ∧ G.2 (G.2 a 12) 2 = G.2 a 5 := by
  have h1 := h a
  rw [ht] at h1
  exact h1
theorem wg_12 {E : py_E} {G : wf_G} {L : List Nat} {f : py_F} {a : Nat} (h : WF E G L f) (ht : G.1 a = 13) : ∃ (v0 : Int32) (v2 : Int32) (v3 : Int32) (v4 : Int32) (v5 : Int32) (v13 : Int32) (v14 : Int32) (v19 : Int32) (v20 : Int32) (v24 : Int32) (v25 : Int32) (v29 : Int32) (v30 : Int64) (v31 : Int32) (v32 : Int32) (v33 : Int32) (v34 : Int32) (v43 : Int32) (v48 : Int64) (v51 : Int32) (v52 : Int64) (v53 : Int32), py_at L f a (.inr (12, [.int v0, .ref (G.2 a 1), .int v2, .int v3, .int v4, .int v5, .ref (G.2 a 6), .ref (G.2 a 7), .ref (G.2 a 8), .ref (G.2 a 9), .ref (G.2 a 10), .ref (G.2 a 11), .ref (G.2 a 12), .int v13, .int v14, .ref (G.2 a 15), .ref (G.2 a 16), .ref (G.2 a 17), .ref (G.2 a 18), .int v19, .int v20, .ref (G.2 a 21), .ref (G.2 a 22), .ref (G.2 a 23), .int v24, .int v25, .ref (G.2 a 26), .ref (G.2 a 27), .ref (G.2 a 28), .int v29, .long v30, .int v31, .int v32, .int v33, .int v34, .ref (G.2 a 35), .ref (G.2 a 36), .ref (G.2 a 37), .ref (G.2 a 38), .ref (G.2 a 39), .ref (G.2 a 40), .ref (G.2 a 41), .ref (G.2 a 42), .int v43, .ref (G.2 a 44), .ref (G.2 a 45), .ref (G.2 a 46), .ref (G.2 a 47), .long v48, .ref (G.2 a 49), .ref (G.2 a 50), .int v51, .long v52, .int v53])) ∧ (0 ≤ v2.toInt ∧ v2.toInt ≤ 160) ∧ (0 ≤ v13.toInt ∧ v13.toInt ≤ 4) ∧ (0 ≤ v14.toInt ∧ v14.toInt ≤ 4) ∧ (0 ≤ v19.toInt ∧ v19.toInt ≤ 8) ∧ (0 ≤ v20.toInt ∧ v20.toInt ≤ 10) ∧ (0 ≤ v24.toInt ∧ v24.toInt ≤ 8) ∧ (0 ≤ v25.toInt ∧ v25.toInt ≤ 10) ∧ (0 ≤ v29.toInt ∧ v29.toInt ≤ 60) ∧ ((-1) ≤ v31.toInt ∧ v31.toInt ≤ 3) ∧ (0 ≤ v43.toInt ∧ v43.toInt ≤ 40) ∧ (0 ≤ v51.toInt ∧ v51.toInt ≤ 60) ∧ (0 ≤ v53.toInt ∧ v53.toInt ≤ 1) := by
  obtain ⟨h1, h2⟩ := h a (by rw [ht]; decide)
  rw [ht] at h2
  obtain ⟨x0, x1, x2, x3, x4, x5, x6, x7, x8, x9, x10, x11, x12, x13, x14, x15, x16, x17, x18, x19, x20, x21, h3, c0, c1, c2, c3, c4, c5, c6, c7, c8, c9, c10, c11⟩ := h2
  exact ⟨x0, x1, x2, x3, x4, x5, x6, x7, x8, x9, x10, x11, x12, x13, x14, x15, x16, x17, x18, x19, x20, x21, ⟨h1, h3⟩, c0, c1, c2, c3, c4, c5, c6, c7, c8, c9, c10, c11⟩
theorem wt_12 {G : wf_G} {a : Nat} (h : GT G) (ht : G.1 a = 13) : G.1 (G.2 a 1) = 40 ∧ G.1 (G.2 a 6) = 41 ∧ G.1 (G.2 a 7) = 42 ∧ G.1 (G.2 a 8) = 43 ∧ G.1 (G.2 a 9) = 44 ∧ G.1 (G.2 a 10) = 45 ∧ G.1 (G.2 a 11) = 46 ∧ G.1 (G.2 a 12) = 47 ∧ G.1 (G.2 a 15) = 48 ∧ G.1 (G.2 a 16) = 49 ∧ G.1 (G.2 a 17) = 50 ∧ G.1 (G.2 a 18) = 51 ∧ G.1 (G.2 a 21) = 52 ∧ G.1 (G.2 a 22) = 53 ∧ G.1 (G.2 a 23) = 54 ∧ G.1 (G.2 a 26) = 55 ∧ G.1 (G.2 a 27) = 56 ∧ G.1 (G.2 a 28) = 57 ∧ G.1 (G.2 a 35) = 58 ∧ G.1 (G.2 a 36) = 59 ∧ G.1 (G.2 a 37) = 60 ∧ G.1 (G.2 a 38) = 61 ∧ G.1 (G.2 a 39) = 62 ∧ G.1 (G.2 a 40) = 63 ∧ G.1 (G.2 a 41) = 64 ∧ G.1 (G.2 a 42) = 65 ∧ G.1 (G.2 a 44) = 66 ∧ G.1 (G.2 a 45) = 67 ∧ G.1 (G.2 a 46) = 68 ∧ G.1 (G.2 a 47) = 69 ∧ G.1 (G.2 a 49) = 70 ∧ G.1 (G.2 a 50) = 71 := by
  have h1 := h a
  rw [ht] at h1
  exact h1
theorem wt12_1 {G : wf_G} {a : Nat} (h : GT G) (ht : G.1 a = 13) : G.1 (G.2 a 1) = 40 := (wt_12 h ht).1
theorem wt12_6 {G : wf_G} {a : Nat} (h : GT G) (ht : G.1 a = 13) : G.1 (G.2 a 6) = 41 := (wt_12 h ht).2.1
theorem wt12_7 {G : wf_G} {a : Nat} (h : GT G) (ht : G.1 a = 13) : G.1 (G.2 a 7) = 42 := (wt_12 h ht).2.2.1
theorem wt12_8 {G : wf_G} {a : Nat} (h : GT G) (ht : G.1 a = 13) : G.1 (G.2 a 8) = 43 := (wt_12 h ht).2.2.2.1
theorem wt12_9 {G : wf_G} {a : Nat} (h : GT G) (ht : G.1 a = 13) : G.1 (G.2 a 9) = 44 := (wt_12 h ht).2.2.2.2.1
theorem wt12_10 {G : wf_G} {a : Nat} (h : GT G) (ht : G.1 a = 13) : G.1 (G.2 a 10) = 45 := (wt_12 h ht).2.2.2.2.2.1
theorem wt12_11 {G : wf_G} {a : Nat} (h : GT G) (ht : G.1 a = 13) : G.1 (G.2 a 11) = 46 := (wt_12 h ht).2.2.2.2.2.2.1
theorem wt12_12 {G : wf_G} {a : Nat} (h : GT G) (ht : G.1 a = 13) : G.1 (G.2 a 12) = 47 := (wt_12 h ht).2.2.2.2.2.2.2.1
theorem wt12_15 {G : wf_G} {a : Nat} (h : GT G) (ht : G.1 a = 13) : G.1 (G.2 a 15) = 48 := (wt_12 h ht).2.2.2.2.2.2.2.2.1
theorem wt12_16 {G : wf_G} {a : Nat} (h : GT G) (ht : G.1 a = 13) : G.1 (G.2 a 16) = 49 := (wt_12 h ht).2.2.2.2.2.2.2.2.2.1
theorem wt12_17 {G : wf_G} {a : Nat} (h : GT G) (ht : G.1 a = 13) : G.1 (G.2 a 17) = 50 := (wt_12 h ht).2.2.2.2.2.2.2.2.2.2.1
theorem wt12_18 {G : wf_G} {a : Nat} (h : GT G) (ht : G.1 a = 13) : G.1 (G.2 a 18) = 51 := (wt_12 h ht).2.2.2.2.2.2.2.2.2.2.2.1
theorem wt12_21 {G : wf_G} {a : Nat} (h : GT G) (ht : G.1 a = 13) : G.1 (G.2 a 21) = 52 := (wt_12 h ht).2.2.2.2.2.2.2.2.2.2.2.2.1
theorem wt12_22 {G : wf_G} {a : Nat} (h : GT G) (ht : G.1 a = 13) : G.1 (G.2 a 22) = 53 := (wt_12 h ht).2.2.2.2.2.2.2.2.2.2.2.2.2.1
theorem wt12_23 {G : wf_G} {a : Nat} (h : GT G) (ht : G.1 a = 13) : G.1 (G.2 a 23) = 54 := (wt_12 h ht).2.2.2.2.2.2.2.2.2.2.2.2.2.2.1
theorem wt12_26 {G : wf_G} {a : Nat} (h : GT G) (ht : G.1 a = 13) : G.1 (G.2 a 26) = 55 := (wt_12 h ht).2.2.2.2.2.2.2.2.2.2.2.2.2.2.2.1
theorem wt12_27 {G : wf_G} {a : Nat} (h : GT G) (ht : G.1 a = 13) : G.1 (G.2 a 27) = 56 := (wt_12 h ht).2.2.2.2.2.2.2.2.2.2.2.2.2.2.2.2.1
theorem wt12_28 {G : wf_G} {a : Nat} (h : GT G) (ht : G.1 a = 13) : G.1 (G.2 a 28) = 57 := (wt_12 h ht).2.2.2.2.2.2.2.2.2.2.2.2.2.2.2.2.2.1
theorem wt12_35 {G : wf_G} {a : Nat} (h : GT G) (ht : G.1 a = 13) : G.1 (G.2 a 35) = 58 := (wt_12 h ht).2.2.2.2.2.2.2.2.2.2.2.2.2.2.2.2.2.2.1
theorem wt12_36 {G : wf_G} {a : Nat} (h : GT G) (ht : G.1 a = 13) : G.1 (G.2 a 36) = 59 := (wt_12 h ht).2.2.2.2.2.2.2.2.2.2.2.2.2.2.2.2.2.2.2.1
theorem wt12_37 {G : wf_G} {a : Nat} (h : GT G) (ht : G.1 a = 13) : G.1 (G.2 a 37) = 60 := (wt_12 h ht).2.2.2.2.2.2.2.2.2.2.2.2.2.2.2.2.2.2.2.2.1
theorem wt12_38 {G : wf_G} {a : Nat} (h : GT G) (ht : G.1 a = 13) : G.1 (G.2 a 38) = 61 := (wt_12 h ht).2.2.2.2.2.2.2.2.2.2.2.2.2.2.2.2.2.2.2.2.2.1
theorem wt12_39 {G : wf_G} {a : Nat} (h : GT G) (ht : G.1 a = 13) : G.1 (G.2 a 39) = 62 := (wt_12 h ht).2.2.2.2.2.2.2.2.2.2.2.2.2.2.2.2.2.2.2.2.2.2.1
theorem wt12_40 {G : wf_G} {a : Nat} (h : GT G) (ht : G.1 a = 13) : G.1 (G.2 a 40) = 63 := (wt_12 h ht).2.2.2.2.2.2.2.2.2.2.2.2.2.2.2.2.2.2.2.2.2.2.2.1
theorem wt12_41 {G : wf_G} {a : Nat} (h : GT G) (ht : G.1 a = 13) : G.1 (G.2 a 41) = 64 := (wt_12 h ht).2.2.2.2.2.2.2.2.2.2.2.2.2.2.2.2.2.2.2.2.2.2.2.2.1
theorem wt12_42 {G : wf_G} {a : Nat} (h : GT G) (ht : G.1 a = 13) : G.1 (G.2 a 42) = 65 := (wt_12 h ht).2.2.2.2.2.2.2.2.2.2.2.2.2.2.2.2.2.2.2.2.2.2.2.2.2.1
theorem wt12_44 {G : wf_G} {a : Nat} (h : GT G) (ht : G.1 a = 13) : G.1 (G.2 a 44) = 66 := (wt_12 h ht).2.2.2.2.2.2.2.2.2.2.2.2.2.2.2.2.2.2.2.2.2.2.2.2.2.2.1
theorem wt12_45 {G : wf_G} {a : Nat} (h : GT G) (ht : G.1 a = 13) : G.1 (G.2 a 45) = 67 := (wt_12 h ht).2.2.2.2.2.2.2.2.2.2.2.2.2.2.2.2.2.2.2.2.2.2.2.2.2.2.2.1
theorem wt12_46 {G : wf_G} {a : Nat} (h : GT G) (ht : G.1 a = 13) : G.1 (G.2 a 46) = 68 := (wt_12 h ht).2.2.2.2.2.2.2.2.2.2.2.2.2.2.2.2.2.2.2.2.2.2.2.2.2.2.2.2.1
theorem wt12_47 {G : wf_G} {a : Nat} (h : GT G) (ht : G.1 a = 13) : G.1 (G.2 a 47) = 69 := (wt_12 h ht).2.2.2.2.2.2.2.2.2.2.2.2.2.2.2.2.2.2.2.2.2.2.2.2.2.2.2.2.2.1
theorem wt12_49 {G : wf_G} {a : Nat} (h : GT G) (ht : G.1 a = 13) : G.1 (G.2 a 49) = 70 := (wt_12 h ht).2.2.2.2.2.2.2.2.2.2.2.2.2.2.2.2.2.2.2.2.2.2.2.2.2.2.2.2.2.2.1
theorem wt12_50 {G : wf_G} {a : Nat} (h : GT G) (ht : G.1 a = 13) : G.1 (G.2 a 50) = 71 := (wt_12 h ht).2.2.2.2.2.2.2.2.2.2.2.2.2.2.2.2.2.2.2.2.2.2.2.2.2.2.2.2.2.2.2
theorem wf_upd {E : py_E} {G : wf_G} {L : List Nat} {f f' : py_F} {a : Nat} {e : va_E} (h : WF E G L f) (ha : py_at L f' a e) (x : py_ext L f L f' a) (hk : wf_k E G a e (G.1 a)) : WF E G L f' := by
  intro b hb
  obtain ⟨h1, h2⟩ := h b hb
  by_cases q : b = a
  · subst q
    exact ⟨ha.1, by rw [ha.2]; exact hk⟩
  · exact ⟨h1, by rw [(x b h1 q).2]; exact h2⟩
theorem wf_arr {E : py_E} {G : wf_G} {L : List Nat} {f : py_F} {a code n : Nat} {lo hi : Int} (h : WF E G L f) (ht : G.1 a = code) (hc : code ≠ 0) (hk : ∀ e : va_E, wf_k E G a e code = ∃ g : Nat → Int32, e = .inl (E.2.1, n, .inl g) ∧ wf_in n lo hi g) : ∃ g : Nat → Int32, py_at L f a (.inl (E.2.1, n, .inl g)) ∧ wf_in n lo hi g := by
  obtain ⟨h1, h2⟩ := h a (by rw [ht]; exact hc)
  rw [ht, hk] at h2
  obtain ⟨g, h3, h4⟩ := h2
  exact ⟨g, ⟨h1, h3⟩, h4⟩
theorem wf_z30 {E : py_E} {G : wf_G} {L : List Nat} {f : py_F} {a : Nat} (h : WF E G L f) (ht : G.1 a = 30) : ∃ g : Nat → Int32, py_at L f a (.inl (E.2.2.2.1, 10, .inl g)) := by
  obtain ⟨h1, h2⟩ := h a (by rw [ht]; decide)
  rw [ht] at h2
  obtain ⟨g, h3⟩ := h2
  exact ⟨g, h1, h3⟩
theorem wf_j34 {E : py_E} {G : wf_G} {L : List Nat} {f : py_F} {a : Nat} (h : WF E G L f) (ht : G.1 a = 34) : ∃ g : Nat → Int64, py_at L f a (.inl (E.2.2.1, 22, .inr (.inl g))) := by
  obtain ⟨h1, h2⟩ := h a (by rw [ht]; decide)
  rw [ht] at h2
  obtain ⟨g, h3⟩ := h2
  exact ⟨g, h1, h3⟩
theorem wf_j35 {E : py_E} {G : wf_G} {L : List Nat} {f : py_F} {a : Nat} (h : WF E G L f) (ht : G.1 a = 35) : ∃ g : Nat → Int64, py_at L f a (.inl (E.2.2.1, 168, .inr (.inl g))) := by
  obtain ⟨h1, h2⟩ := h a (by rw [ht]; decide)
  rw [ht] at h2
  obtain ⟨g, h3⟩ := h2
  exact ⟨g, h1, h3⟩
theorem wf_j67 {E : py_E} {G : wf_G} {L : List Nat} {f : py_F} {a : Nat} (h : WF E G L f) (ht : G.1 a = 67) : ∃ g : Nat → Int64, py_at L f a (.inl (E.2.2.1, 168, .inr (.inl g))) := by
  obtain ⟨h1, h2⟩ := h a (by rw [ht]; decide)
  rw [ht] at h2
  obtain ⟨g, h3⟩ := h2
  exact ⟨g, h1, h3⟩
theorem wf_j68 {E : py_E} {G : wf_G} {L : List Nat} {f : py_F} {a : Nat} (h : WF E G L f) (ht : G.1 a = 68) : ∃ g : Nat → Int64, py_at L f a (.inl (E.2.2.1, 168, .inr (.inl g))) := by
  obtain ⟨h1, h2⟩ := h a (by rw [ht]; decide)
  rw [ht] at h2
  obtain ⟨g, h3⟩ := h2
  exact ⟨g, h1, h3⟩
theorem wf_j69 {E : py_E} {G : wf_G} {L : List Nat} {f : py_F} {a : Nat} (h : WF E G L f) (ht : G.1 a = 69) : ∃ g : Nat → Int64, py_at L f a (.inl (E.2.2.1, 22, .inr (.inl g))) := by
  obtain ⟨h1, h2⟩ := h a (by rw [ht]; decide)
  rw [ht] at h2
  obtain ⟨g, h3⟩ := h2
  exact ⟨g, h1, h3⟩
theorem wf_j72 {E : py_E} {G : wf_G} {L : List Nat} {f : py_F} {a : Nat} (h : WF E G L f) (ht : G.1 a = 72) : ∃ g : Nat → Int64, py_at L f a (.inl (E.2.2.1, 1, .inr (.inl g))) := by
  obtain ⟨h1, h2⟩ := h a (by rw [ht]; decide)
  rw [ht] at h2
  obtain ⟨g, h3⟩ := h2
  exact ⟨g, h1, h3⟩
theorem wf_n55 {E : py_E} {G : wf_G} {L : List Nat} {f : py_F} {a : Nat} (h : WF E G L f) (ht : G.1 a = 55) : ∃ g : Nat → Int32, py_at L f a (.inl (E.2.1, 90, .inl g)) ∧ wf_nw g := by
  obtain ⟨h1, h2⟩ := h a (by rw [ht]; decide)
  rw [ht] at h2
  obtain ⟨g, h3, h4⟩ := h2
  exact ⟨g, ⟨h1, h3⟩, h4⟩
theorem wf_n56 {E : py_E} {G : wf_G} {L : List Nat} {f : py_F} {a : Nat} (h : WF E G L f) (ht : G.1 a = 56) : ∃ g : Nat → Int32, py_at L f a (.inl (E.2.1, 90, .inl g)) ∧ wf_nw g := by
  obtain ⟨h1, h2⟩ := h a (by rw [ht]; decide)
  rw [ht] at h2
  obtain ⟨g, h3, h4⟩ := h2
  exact ⟨g, ⟨h1, h3⟩, h4⟩
theorem wf_n57 {E : py_E} {G : wf_G} {L : List Nat} {f : py_F} {a : Nat} (h : WF E G L f) (ht : G.1 a = 57) : ∃ g : Nat → Int32, py_at L f a (.inl (E.2.1, 90, .inl g)) ∧ wf_nw g := by
  obtain ⟨h1, h2⟩ := h a (by rw [ht]; decide)
  rw [ht] at h2
  obtain ⟨g, h3, h4⟩ := h2
  exact ⟨g, ⟨h1, h3⟩, h4⟩
theorem wf_l22 {E : py_E} {G : wf_G} {L : List Nat} {f : py_F} {a : Nat} (h : WF E G L f) (ht : G.1 a = 22) : ∃ g : Nat → Option Nat, py_at L f a (.inl (E.2.2.2.2, 4, .inr (.inr (.inr (.inr g))))) ∧ ∀ i z : Nat, g i = some z → G.1 z = 4 := by
  obtain ⟨h1, h2⟩ := h a (by rw [ht]; decide)
  rw [ht] at h2
  obtain ⟨g, h3, h4⟩ := h2
  exact ⟨g, ⟨h1, h3⟩, h4⟩
theorem wf_inu {n : Nat} {lo hi : Int} {g : Nat → Int32} {k : Nat} {x : Int32} (h : wf_in n lo hi g) (h1 : lo ≤ x.toInt) (h2 : x.toInt ≤ hi) : wf_in n lo hi (upd g k x) := by
  intro i hi2
  unfold upd
  split
  · exact ⟨h1, h2⟩
  · exact h i hi2
theorem wf_free (x : Int32) : (-2147483648 : Int) ≤ x.toInt ∧ x.toInt ≤ 2147483647 := ⟨Int32.le_toInt x, Int32.toInt_le x⟩
theorem wf_own0 (E : py_E) (G : wf_G) (b a : Nat) (e : va_E) : wf_k E G b e (1000 + 2 * a) = ∃ g : Nat → Int32, e = .inl (E.2.1, 10, .inl g) ∧ wf_in 10 0 20 g := by
  have h1 : wf_ia (1000 + 2 * a) = (10, 0, 20) := by
    unfold wf_ia
    split <;> first | omega | (rw [if_pos (by omega)])
  have h2 : wf_k E G b e (1000 + 2 * a) = ∃ g : Nat → Int32, e = .inl (E.2.1, (wf_ia (1000 + 2 * a)).1, .inl g) ∧ wf_in (wf_ia (1000 + 2 * a)).1 (wf_ia (1000 + 2 * a)).2.1 (wf_ia (1000 + 2 * a)).2.2 g := by
    unfold wf_k
    split <;> first | omega | rfl
  rw [h2, h1]
theorem wf_own1 (E : py_E) (G : wf_G) (b a : Nat) (e : va_E) : wf_k E G b e (1000 + 2 * a + 1) = ∃ g : Nat → Int32, e = .inl (E.2.1, 10, .inl g) ∧ wf_in 10 (-1) 7 g := by
  have h1 : wf_ia (1000 + 2 * a + 1) = (10, -1, 7) := by
    unfold wf_ia
    split <;> first | omega | (rw [if_neg (by omega)])
  have h2 : wf_k E G b e (1000 + 2 * a + 1) = ∃ g : Nat → Int32, e = .inl (E.2.1, (wf_ia (1000 + 2 * a + 1)).1, .inl g) ∧ wf_in (wf_ia (1000 + 2 * a + 1)).1 (wf_ia (1000 + 2 * a + 1)).2.1 (wf_ia (1000 + 2 * a + 1)).2.2 g := by
    unfold wf_k
    split <;> first | omega | rfl
  rw [h2, h1]
/-! numbers, as omega reads them -/
theorem ti_add {x y z : Int32} (e : z = x + y) (h1 : -2147483648 ≤ x.toInt + y.toInt) (h2 : x.toInt + y.toInt ≤ 2147483647) : z.toInt = x.toInt + y.toInt := by
  rw [e, Int32.toInt_add]
  exact Int.bmod_eq_of_le (by omega) (by omega)
theorem ti_sub {x y z : Int32} (e : z = x - y) (h1 : -2147483648 ≤ x.toInt - y.toInt) (h2 : x.toInt - y.toInt ≤ 2147483647) : z.toInt = x.toInt - y.toInt := by
  rw [e, Int32.toInt_sub]
  exact Int.bmod_eq_of_le (by omega) (by omega)
theorem ti_mul {x y z : Int32} (e : z = x * y) (h1 : -2147483648 ≤ x.toInt * y.toInt) (h2 : x.toInt * y.toInt ≤ 2147483647) : z.toInt = x.toInt * y.toInt := by
  rw [e, Int32.toInt_mul]
  exact Int.bmod_eq_of_le (by omega) (by omega)
theorem ti_mulc {x y z : Int32} {k : Int} (e : z = x * y) (hk : y.toInt = k) (h1 : -2147483648 ≤ x.toInt * k) (h2 : x.toInt * k ≤ 2147483647) : z.toInt = x.toInt * k := by
  subst hk
  exact ti_mul e h1 h2
theorem ti_muld {x y z : Int32} {k : Int} (e : z = x * y) (hk : x.toInt = k) (h1 : -2147483648 ≤ k * y.toInt) (h2 : k * y.toInt ≤ 2147483647) : z.toInt = k * y.toInt := by
  subst hk
  exact ti_mul e h1 h2
theorem ti_eq {x y : Int32} (h : x = y) : x.toInt = y.toInt := by rw [h]
theorem ti_ne {x y : Int32} (h : ¬ x = y) : x.toInt ≠ y.toInt := fun e => h (Int32.toInt_inj.mp e)
theorem ti_lt {x y : Int32} (h : x < y) : x.toInt < y.toInt := Int32.lt_iff_toInt_lt.mp h
theorem ti_nlt {x y : Int32} (h : ¬ x < y) : y.toInt ≤ x.toInt := Int32.le_iff_toInt_le.mp (Int32.not_lt.mp h)
theorem ti_le {x y : Int32} (h : x ≤ y) : x.toInt ≤ y.toInt := Int32.le_iff_toInt_le.mp h
theorem ti_nle {x y : Int32} (h : ¬ x ≤ y) : y.toInt < x.toInt := Int32.lt_iff_toInt_lt.mp (Int32.not_le.mp h)
theorem ti_max {x y z : Int32} (e : z = if x < y then y else x) : (z.toInt = y.toInt ∨ z.toInt = x.toInt) ∧ x.toInt ≤ z.toInt ∧ y.toInt ≤ z.toInt := by
  by_cases h : x < y
  · rw [if_pos h] at e
    subst e
    have := ti_lt h
    exact ⟨Or.inl rfl, by omega, by omega⟩
  · rw [if_neg h] at e
    subst e
    have := ti_nlt h
    exact ⟨Or.inr rfl, by omega, by omega⟩
theorem ti_min {x y z : Int32} (e : z = if y < x then y else x) : (z.toInt = y.toInt ∨ z.toInt = x.toInt) ∧ z.toInt ≤ x.toInt ∧ z.toInt ≤ y.toInt := by
  by_cases h : y < x
  · rw [if_pos h] at e
    subst e
    have := ti_lt h
    exact ⟨Or.inl rfl, by omega, by omega⟩
  · rw [if_neg h] at e
    subst e
    have := ti_nlt h
    exact ⟨Or.inr rfl, by omega, by omega⟩
theorem ti_or {x y z : Int32} (e : z = x ||| y) (hx : 0 ≤ x.toInt ∧ x.toInt ≤ 1023) (hy : 0 ≤ y.toInt ∧ y.toInt ≤ 1023) : 0 ≤ z.toInt ∧ z.toInt ≤ 1023 := by
  subst e
  have k : ∀ a : Int32, 0 ≤ a.toInt ∧ a.toInt ≤ 1023 → a.toBitVec.toNat < 2 ^ 10 := by
    intro a h
    have h1 := BitVec.toInt_eq_toNat_cond a.toBitVec
    have h2 : a.toBitVec.toInt = a.toInt := rfl
    have h3 := a.toBitVec.isLt
    split at h1 <;> omega
  have hz : (x ||| y).toBitVec.toNat < 2 ^ 10 := by
    rw [Int32.toBitVec_or, BitVec.toNat_or]
    exact Nat.or_lt_two_pow (k x hx) (k y hy)
  have h2 : (x ||| y).toInt = (x ||| y).toBitVec.toNat := by
    show (x ||| y).toBitVec.toInt = _
    exact BitVec.toInt_eq_toNat_of_lt (by omega)
  rw [h2]
  omega
theorem ti_ten (k : Int32) (h1 : 0 ≤ k.toInt) (h2 : k.toInt ≤ 9) : k = 0 ∨ k = 1 ∨ k = 2 ∨ k = 3 ∨ k = 4 ∨ k = 5 ∨ k = 6 ∨ k = 7 ∨ k = 8 ∨ k = 9 := by
  have h : k.toInt = 0 ∨ k.toInt = 1 ∨ k.toInt = 2 ∨ k.toInt = 3 ∨ k.toInt = 4 ∨ k.toInt = 5 ∨ k.toInt = 6 ∨ k.toInt = 7 ∨ k.toInt = 8 ∨ k.toInt = 9 := by omega
  rcases h with h | h | h | h | h | h | h | h | h | h
  · exact Or.inl (Int32.toInt_inj.mp h)
  · exact Or.inr (Or.inl (Int32.toInt_inj.mp h))
  · exact Or.inr (Or.inr (Or.inl (Int32.toInt_inj.mp h)))
  · exact Or.inr (Or.inr (Or.inr (Or.inl (Int32.toInt_inj.mp h))))
  · exact Or.inr (Or.inr (Or.inr (Or.inr (Or.inl (Int32.toInt_inj.mp h)))))
  · exact Or.inr (Or.inr (Or.inr (Or.inr (Or.inr (Or.inl (Int32.toInt_inj.mp h))))))
  · exact Or.inr (Or.inr (Or.inr (Or.inr (Or.inr (Or.inr (Or.inl (Int32.toInt_inj.mp h)))))))
  · exact Or.inr (Or.inr (Or.inr (Or.inr (Or.inr (Or.inr (Or.inr (Or.inl (Int32.toInt_inj.mp h))))))))
  · exact Or.inr (Or.inr (Or.inr (Or.inr (Or.inr (Or.inr (Or.inr (Or.inr (Or.inl (Int32.toInt_inj.mp h)))))))))
  · exact Or.inr (Or.inr (Or.inr (Or.inr (Or.inr (Or.inr (Or.inr (Or.inr (Or.inr (Int32.toInt_inj.mp h)))))))))
theorem i64_ne {a : Int32} (h : a.toInt ≠ 0) : ¬ a.toInt64 = 0 := by
  intro e
  apply h
  have h2 : a.toInt64.toInt = a.toInt := by simp
  rw [← h2, e]
  rfl
theorem cmp_ne {z : Int32} {x y : Int64} (e : z = lg_cmp x y) (h : ¬ z = 0) : ¬ x = y := by
  intro q
  subst q
  apply h
  rw [e]
  simp [lg_cmp]
theorem ti_low {x z : Int32} (e : z = x &&& 65535) : 0 ≤ z.toInt ∧ z.toInt ≤ 65535 := by
  subst e
  have h : (x &&& 65535).toBitVec.toNat ≤ 65535 := by
    rw [Int32.toBitVec_and]
    exact Nat.le_trans (by rw [BitVec.toNat_and]; exact Nat.and_le_right) (by decide)
  have h2 : (x &&& 65535).toInt = (x &&& 65535).toBitVec.toNat := by
    show (x &&& 65535).toBitVec.toInt = _
    exact BitVec.toInt_eq_toNat_of_lt (by omega)
  rw [h2]
  omega
theorem ti_bool {x : Int32} (h1 : 0 ≤ x.toInt) (h2 : x.toInt ≤ 1) : narrow .boolean (.int x) = .int x := by
  have h : x.toInt = 0 ∨ x.toInt = 1 := by omega
  rcases h with h | h
  · have e : x = 0 := Int32.toInt_inj.mp h
    subst e
    rfl
  · have e : x = 1 := Int32.toInt_inj.mp h
    subst e
    rfl
/-! what stays under every write but few: who has HEADS has a LEVEL (RLV); a folk's valley and its YEAR -/
def fo_x (e : va_E) : Nat × Int := match e with
  | .inr (_, [_, _, _, _, _, _, _, _, _, .ref v, _, .int y]) => (v, y.toInt)
  | _ => (0, 0)
def fo_v (f : py_F) (o : Nat) : Nat := (fo_x (f o)).1
def fo_y (f : py_F) (o : Nat) : Int := (fo_x (f o)).2
def va_lf (e : va_E) : Int × Int := match e with
  | .inr (9, [_, _, _, _, _, _, _, _, .int a, .int b]) => (a.toInt, b.toInt)
  | _ => (0, 0)
def va_l (f : py_F) (v : Nat) : Int := (va_lf (f v)).1
def va_f (f : py_F) (v : Nat) : Int := (va_lf (f v)).2
def fv_l (f : py_F) (o : Nat) : Int := va_l f (fo_v f o)
def fv_f (f : py_F) (o : Nat) : Int := va_f f (fo_v f o)
def RLV (E : py_E) (G : wf_G) (f : py_F) (o : Nat) : Prop := ∀ gh gl : Nat → Int32, f (G.2 o 0) = .inl (E.2.1, 10, .inl gh) → f (G.2 o 1) = .inl (E.2.1, 10, .inl gl) → ∀ i : Nat, i < 10 → 0 < (gh i).toInt → 0 ≤ (gl i).toInt
/-- all folks but h's valley and YEAR stay -/
def RPv (E : py_E) (G : wf_G) (h : Nat) (f f' : py_F) : Prop := ∀ o : Nat, G.1 o = 3 → (RLV E G f o → RLV E G f' o) ∧ (o ≠ h → fo_v f' o = fo_v f o ∧ fo_y f' o = fo_y f o)
def RP (E : py_E) (G : wf_G) (f f' : py_F) : Prop := ∀ o : Nat, G.1 o = 3 → (RLV E G f o → RLV E G f' o) ∧ fo_v f' o = fo_v f o ∧ fo_y f' o = fo_y f o
theorem RP.refl {E : py_E} {G : wf_G} {f : py_F} : RP E G f f := fun _ _ => ⟨fun h => h, rfl, rfl⟩
theorem RP.trans {E : py_E} {G : wf_G} {f f1 f2 : py_F} (h : RP E G f f1) (h2 : RP E G f1 f2) : RP E G f f2 := fun o ho => ⟨fun q => (h2 o ho).1 ((h o ho).1 q), (h2 o ho).2.1.trans (h o ho).2.1, (h2 o ho).2.2.trans (h o ho).2.2⟩
theorem RP.toV {E : py_E} {G : wf_G} {a : Nat} {f f1 : py_F} (h : RP E G f f1) : RPv E G a f f1 := fun o ho => ⟨(h o ho).1, fun _ => (h o ho).2⟩
theorem RPv.refl {E : py_E} {G : wf_G} {a : Nat} {f : py_F} : RPv E G a f f := RP.refl.toV
theorem RPv.trans {E : py_E} {G : wf_G} {a : Nat} {f f1 f2 : py_F} (h : RPv E G a f f1) (h2 : RPv E G a f1 f2) : RPv E G a f f2 := fun o ho => ⟨fun q => (h2 o ho).1 ((h o ho).1 q), fun n => ⟨((h2 o ho).2 n).1.trans ((h o ho).2 n).1, ((h2 o ho).2 n).2.trans ((h o ho).2 n).2⟩⟩
theorem rp_code {G : wf_G} {a c : Nat} (hG : GT G) (ha : G.1 a = c) (hc : c < 1000) : ∀ o : Nat, G.1 o = 3 → a ≠ G.2 o 0 ∧ a ≠ G.2 o 1 := by
  intro o ho
  obtain ⟨t0, t1, -⟩ := wt_2 hG ho
  exact ⟨fun e => by subst e; omega, fun e => by subst e; omega⟩
theorem rlv_off {E : py_E} {G : wf_G} {L : List Nat} {f f' : py_F} {a : Nat} (hG : GT G) (hWF : WF E G L f) (x : py_ext L f L f' a) (hn : ∀ o : Nat, G.1 o = 3 → a ≠ G.2 o 0 ∧ a ≠ G.2 o 1) : ∀ o : Nat, G.1 o = 3 → RLV E G f o → RLV E G f' o := by
  intro o ho h gh gl q0 q1
  obtain ⟨t0, t1, -⟩ := wt_2 hG ho
  obtain ⟨n0, n1⟩ := hn o ho
  have m0 := (hWF (G.2 o 0) (by rw [t0]; omega)).1
  have m1 := (hWF (G.2 o 1) (by rw [t1]; omega)).1
  have e0 := (x _ m0 (Ne.symm n0)).2
  have e1 := (x _ m1 (Ne.symm n1)).2
  exact h gh gl (e0 ▸ q0) (e1 ▸ q1)
theorem rpv_upd {E : py_E} {G : wf_G} {L : List Nat} {f f' : py_F} {a h : Nat} {e e' : va_E} (hG : GT G) (hWF : WF E G L f) (x : py_ext L f L f' a) (ha : f a = e) (ha' : f' a = e') (hn : ∀ o : Nat, G.1 o = 3 → a ≠ G.2 o 0 ∧ a ≠ G.2 o 1) (hv : a = h ∨ fo_x e' = fo_x e) : RPv E G h f f' := by
  intro o ho
  refine ⟨rlv_off hG hWF x hn o ho, fun hne => ?_⟩
  have hx : fo_x (f' o) = fo_x (f o) := by
    by_cases q : o = a
    · subst q
      rw [ha', ha]
      exact hv.resolve_left hne
    · rw [(x o (hWF o (by rw [ho]; decide)).1 q).2]
  unfold fo_v fo_y
  rw [hx]
  exact ⟨rfl, rfl⟩
theorem rp_upd {E : py_E} {G : wf_G} {L : List Nat} {f f' : py_F} {a : Nat} {e e' : va_E} (hG : GT G) (hWF : WF E G L f) (x : py_ext L f L f' a) (ha : f a = e) (ha' : f' a = e') (hn : ∀ o : Nat, G.1 o = 3 → a ≠ G.2 o 0 ∧ a ≠ G.2 o 1) (hv : fo_x e' = fo_x e) : RP E G f f' := by
  intro o ho
  refine ⟨rlv_off hG hWF x hn o ho, ?_⟩
  have hx : fo_x (f' o) = fo_x (f o) := by
    by_cases q : o = a
    · subst q
      rw [ha', ha]
      exact hv
    · rw [(x o (hWF o (by rw [ho]; decide)).1 q).2]
  unfold fo_v fo_y
  rw [hx]
  exact ⟨rfl, rfl⟩
/-- a folk's row under a write of a row of ints -/
theorem fo_arr {E : py_E} {G : wf_G} {L : List Nat} {f f' : py_F} {a o : Nat} {y : ClassId × vp_A} (hWF : WF E G L f) (ho : G.1 o = 3) (x : py_ext L f L f' a) (ha : py_at L f a (.inl y)) : fo_v f' o = fo_v f o ∧ fo_y f' o = fo_y f o := by
  obtain ⟨r, w, v, hr, -, -⟩ := wg_2 hWF ho
  have e1 : f' o = f o := (x o hr.1 (py_ne_arr hr ha)).2
  unfold fo_v fo_y
  rw [e1]
  exact ⟨rfl, rfl⟩
theorem in_inj {c : ClassId} {n : Nat} {g1 g2 : Nat → Int32} (h : (Sum.inl (c, n, .inl g1) : va_E) = .inl (c, n, .inl g2)) : g1 = g2 := by
  injection h with h
  injection h with _ h
  injection h with _ h
  injection h with h
theorem upd_at (g : Nat → Int32) (k : Nat) (v : Int32) : upd g k v k = v := by simp [upd]
theorem upd_off (g : Nat → Int32) {k i : Nat} (v : Int32) (h : i ≠ k) : upd g k v i = g i := by simp [upd, h]
theorem rp_heads {E : py_E} {G : wf_G} {L : List Nat} {f f' : py_F} {o k : Nat} {v : Int32} {g : Nat → Int32} (hG : GT G) (hWF : WF E G L f) (ho : G.1 o = 3) (x : py_ext L f L f' (G.2 o 0)) (ha : py_at L f (G.2 o 0) (.inl (E.2.1, 10, .inl g))) (ha' : py_at L f' (G.2 o 0) (.inl (E.2.1, 10, .inl (upd g k v)))) (h : v.toInt ≤ 0 ∨ ∀ gl : Nat → Int32, f (G.2 o 1) = .inl (E.2.1, 10, .inl gl) → 0 ≤ (gl k).toInt) : RP E G f f' := by
  intro o' ho'
  obtain ⟨t0, t1, -⟩ := wt_2 hG ho
  obtain ⟨u0, u1, -⟩ := wt_2 hG ho'
  refine ⟨fun hr => ?_, fo_arr hWF ho' x ha⟩
  have n1 : G.2 o' 1 ≠ G.2 o 0 := fun e => by rw [e] at u1; omega
  have m1 := (hWF (G.2 o' 1) (by rw [u1]; omega)).1
  have e1 := (x _ m1 n1).2
  intro gh gl q0 q1 i hi hp
  rw [e1] at q1
  by_cases q : o' = o
  · subst q
    have hg := in_inj (q0.symm.trans ha'.2)
    subst hg
    by_cases hk : i = k
    · subst hk
      rw [upd_at] at hp
      rcases h with h | h
      · omega
      · exact h gl q1
    · rw [upd_off _ _ hk] at hp
      exact hr g gl ha.2 q1 i hi hp
  · have n0 : G.2 o' 0 ≠ G.2 o 0 := fun e => by rw [e] at u0; omega
    have m0 := (hWF (G.2 o' 0) (by rw [u0]; omega)).1
    rw [(x _ m0 n0).2] at q0
    exact hr gh gl q0 q1 i hi hp
theorem rp_level {E : py_E} {G : wf_G} {L : List Nat} {f f' : py_F} {o k : Nat} {v : Int32} {g : Nat → Int32} (hG : GT G) (hWF : WF E G L f) (ho : G.1 o = 3) (x : py_ext L f L f' (G.2 o 1)) (ha : py_at L f (G.2 o 1) (.inl (E.2.1, 10, .inl g))) (ha' : py_at L f' (G.2 o 1) (.inl (E.2.1, 10, .inl (upd g k v)))) (h : 0 ≤ v.toInt ∨ ∀ gh : Nat → Int32, f (G.2 o 0) = .inl (E.2.1, 10, .inl gh) → (gh k).toInt ≤ 0) : RP E G f f' := by
  intro o' ho'
  obtain ⟨t0, t1, -⟩ := wt_2 hG ho
  obtain ⟨u0, u1, -⟩ := wt_2 hG ho'
  refine ⟨fun hr => ?_, fo_arr hWF ho' x ha⟩
  have n0 : G.2 o' 0 ≠ G.2 o 1 := fun e => by rw [e] at u0; omega
  have m0 := (hWF (G.2 o' 0) (by rw [u0]; omega)).1
  have e0 := (x _ m0 n0).2
  intro gh gl q0 q1 i hi hp
  rw [e0] at q0
  by_cases q : o' = o
  · subst q
    have hg := in_inj (q1.symm.trans ha'.2)
    subst hg
    by_cases hk : i = k
    · subst hk
      rw [upd_at]
      rcases h with h | h
      · exact h
      · have := h gh q0
        omega
    · rw [upd_off _ _ hk]
      exact hr gh g q0 ha.2 i hi hp
  · have n1 : G.2 o' 1 ≠ G.2 o 1 := fun e => by rw [e] at u1; omega
    have m1 := (hWF (G.2 o' 1) (by rw [u1]; omega)).1
    rw [(x _ m1 n1).2] at q1
    exact hr gh gl q0 q1 i hi hp
/-! what a call leaves: every typed cell of a code that is not among those that it writes -/
def KP (G : wf_G) (ws : List Nat) (own : Bool) (f f' : py_F) : Prop := ∀ o : Nat, G.1 o ≠ 0 → G.1 o ∉ ws → (own = true → G.1 o < 1000) → f' o = f o
theorem KP.refl {G : wf_G} {ws : List Nat} {own : Bool} {f : py_F} : KP G ws own f f := fun _ _ _ _ => rfl
theorem KP.trans {G : wf_G} {ws vs : List Nat} {own own' : Bool} {f f1 f2 : py_F} (h : KP G ws own f f1) (h2 : KP G vs own' f1 f2) (hs : ∀ w ∈ vs, w ∈ ws) (ho : own' = true → own = true) : KP G ws own f f2 := fun o a b c => (h2 o a (fun q => b (hs _ q)) (fun q => c (ho q))).trans (h o a b c)
theorem KP.upd {E : py_E} {G : wf_G} {ws : List Nat} {own : Bool} {L : List Nat} {f0 f f' : py_F} {a c : Nat} (h : KP G ws own f0 f) (hWF : WF E G L f) (x : py_ext L f L f' a) (ht : G.1 a = c) (hc : c ∈ ws ∨ own = true ∧ 1000 ≤ c) : KP G ws own f0 f' := by
  intro o h1 h2 h3
  have hn : o ≠ a := by
    intro e
    subst e
    rcases hc with hc | ⟨hc, hq⟩
    · exact h2 (ht ▸ hc)
    · have := h3 hc
      omega
  rw [(x o (hWF o h1).1 hn).2]
  exact h o h1 h2 h3
theorem kp_at {E : py_E} {G : wf_G} {ws : List Nat} {own : Bool} {L L1 : List Nat} {f f1 : py_F} {a c : Nat} {e : va_E} (kp : KP G ws own f f1) (hWF : WF E G L1 f1) (ht : G.1 a = c) (h0 : c ≠ 0) (hc : c ∉ ws) (ho : own = true → c < 1000) (h : py_at L f a e) : py_at L1 f1 a e := ⟨(hWF a (by rw [ht]; exact h0)).1, by rw [kp a (by rw [ht]; exact h0) (by rw [ht]; exact hc) (by rw [ht]; exact ho)]; exact h.2⟩
theorem kp_f {G : wf_G} {ws : List Nat} {own : Bool} {f f1 : py_F} {a c : Nat} (kp : KP G ws own f f1) (ht : G.1 a = c) (h0 : c ≠ 0) (hc : c ∉ ws) (ho : own = true → c < 1000) : f1 a = f a := kp a (by rw [ht]; exact h0) (by rw [ht]; exact hc) (by rw [ht]; exact ho)
theorem wf_ne {G : wf_G} {a b c d : Nat} (ha : G.1 a = c) (hb : G.1 b = d) (h : c ≠ d) : a ≠ b := fun e => h (by rw [← ha, ← hb, e])
theorem st_nat {x : Int32} {n : Nat} (h : vp_in x n) : x.toInt = x.toNatClampNeg ∧ x.toNatClampNeg < n := by
  have h2 := vp_in_iff.mp h
  have e : x.toNatClampNeg = x.toInt.toNat := rfl
  exact ⟨by rw [e]; omega, Nat.not_le.mp fun q => h (Or.inr q)⟩
/-! the items that a clause has told -/
def it_x (e : va_E) : Int × Int := match e with
  | .inl (_, _, .inl g) => ((g 0).toInt, (g 1).toInt)
  | _ => (0, 0)
def it0 (f : py_F) (t : Nat) : Int := (it_x (f t)).1
def it1 (f : py_F) (t : Nat) : Int := (it_x (f t)).2
theorem it_eq {L : List Nat} {f : py_F} {t n : Nat} {c : ClassId} {g : Nat → Int32} (h : py_at L f t (.inl (c, n, .inl g))) : it0 f t = (g 0).toInt ∧ it1 f t = (g 1).toInt := by
  unfold it0 it1
  rw [h.2]
  exact ⟨rfl, rfl⟩
theorem it_up {g : Nat → Int32} {i v : Int32} {n : Nat} (h : vp_in i n) : (i.toInt = 0 → (upd g i.toNatClampNeg v 0).toInt = v.toInt) ∧ (i.toInt ≠ 0 → (upd g i.toNatClampNeg v 0).toInt = (g 0).toInt) ∧ (i.toInt = 1 → (upd g i.toNatClampNeg v 1).toInt = v.toInt) ∧ (i.toInt ≠ 1 → (upd g i.toNatClampNeg v 1).toInt = (g 1).toInt) := by
  obtain ⟨h1, -⟩ := st_nat h
  refine ⟨fun q => ?_, fun q => ?_, fun q => ?_, fun q => ?_⟩
  · have e : i.toNatClampNeg = 0 := by omega
    rw [e, upd_at]
  · rw [upd_off _ _ (by omega)]
  · have e : i.toNatClampNeg = 1 := by omega
    rw [e, upd_at]
  · rw [upd_off _ _ (by omega)]
theorem it_kp {f f1 : py_F} {t : Nat} (h : f1 t = f t) : it0 f1 t = it0 f t ∧ it1 f1 t = it1 f t := by
  unfold it0 it1
  rw [h]
  exact ⟨rfl, rfl⟩
/-- every valley but this one stays -/
def VO (G : wf_G) (f f' : py_F) (v : Nat) : Prop := ∀ a : Nat, G.1 a = 10 → a ≠ v → f' a = f a
theorem VO.refl {G : wf_G} {f : py_F} {v : Nat} : VO G f f v := fun _ _ _ => rfl
theorem VO.trans {G : wf_G} {f f1 f2 : py_F} {v : Nat} (h : VO G f f1 v) (h2 : VO G f1 f2 v) : VO G f f2 v := fun a ha hn => (h2 a ha hn).trans (h a ha hn)
theorem VO.kp {G : wf_G} {ws : List Nat} {own : Bool} {f f1 f2 : py_F} {v : Nat} (h : VO G f f1 v) (kp : KP G ws own f1 f2) (hc : 10 ∉ ws) : VO G f f2 v := fun a ha hn => (kp_f kp ha (by decide) hc (fun _ => by decide)).trans (h a ha hn)
theorem VO.upd {E : py_E} {G : wf_G} {L : List Nat} {f f1 f2 : py_F} {v a : Nat} (h : VO G f f1 v) (hWF : WF E G L f1) (x : py_ext L f1 L f2 a) (ha : a = v ∨ G.1 a ≠ 10) : VO G f f2 v := by
  intro b hb hn
  have hne : b ≠ a := by
    rcases ha with ha | ha
    · rw [ha]; exact hn
    · intro e; subst e; exact ha hb
  rw [(x b (hWF b (by rw [hb]; decide)).1 hne).2]
  exact h b hb hn
/-- a reader's draft -/
def dr_v (e : va_E) : Nat := match e with
  | .inr (10, [_, .ref v]) => v
  | _ => 0
theorem vo_tr9 {G : wf_G} {ws : List Nat} {own : Bool} {L : List Nat} {f f1 f2 : py_F} {h q r : Nat} (hv : VO G f f1 (dr_v (f h))) (kp : KP G ws own f f1) (ht : G.1 h = 11) (hc : 11 ∉ ws) (hr : py_at L f1 h (.inr (10, [.ref q, .ref r]))) (h2 : VO G f1 f2 r) : VO G f f2 (dr_v (f h)) := by
  have e : f1 h = f h := kp_f kp ht (by decide) hc (fun _ => by decide)
  have e2 : dr_v (f h) = r := by rw [← e, hr.2]; rfl
  rw [e2] at hv ⊢
  exact hv.trans h2
theorem vo_tr10 {G : wf_G} {ws : List Nat} {own : Bool} {f f1 f2 : py_F} {h : Nat} (hv : VO G f f1 (dr_v (f h))) (kp : KP G ws own f f1) (ht : G.1 h = 11) (hc : 11 ∉ ws) (h2 : VO G f1 f2 (dr_v (f1 h))) : VO G f f2 (dr_v (f h)) := by
  have e : f1 h = f h := kp_f kp ht (by decide) hc (fun _ => by decide)
  rw [e] at h2
  exact hv.trans h2
theorem fo_eq {L : List Nat} {f : py_F} {o a0 a1 a2 a3 a4 a5 a6 a7 a8 r : Nat} {x : Int64} {y : Int32} (h : py_at L f o (.inr (2, [.ref a0, .ref a1, .ref a2, .ref a3, .ref a4, .ref a5, .ref a6, .ref a7, .ref a8, .ref r, .long x, .int y]))) : fo_v f o = r ∧ fo_y f o = y.toInt ∧ fv_l f o = va_l f r ∧ fv_f f o = va_f f r := by
  have e1 : fo_v f o = r := by unfold fo_v; rw [h.2]; rfl
  have e2 : fo_y f o = y.toInt := by unfold fo_y; rw [h.2]; rfl
  unfold fv_l fv_f
  rw [e1]
  exact ⟨rfl, e2, rfl, rfl⟩
theorem fv_now {E : py_E} {G : wf_G} {L : List Nat} {ws : List Nat} {own : Bool} {f f1 : py_F} {o : Nat} (rp : RP E G f f1) (kp : KP G ws own f f1) (hc : 10 ∉ ws) (hWF : WF E G L f1) (ho : G.1 o = 3) : fv_l f1 o = fv_l f o ∧ fv_f f1 o = fv_f f o ∧ fo_y f1 o = fo_y f o := by
  obtain ⟨r, w, v, hr, hty, -⟩ := wg_2 hWF ho
  have e1 := (fo_eq hr).1
  obtain ⟨-, q1, q2⟩ := rp o ho
  have e2 := kp_f kp hty (by decide) hc (fun _ => by decide)
  unfold fv_l fv_f va_l va_f
  rw [← q1, e1, e2]
  exact ⟨rfl, rfl, q2⟩
/-! an array's numbers -/
def ari (f : py_F) (t : Nat) (i : Int32) : Int := match f t with
  | .inl (_, _, .inl g) => (g i.toNatClampNeg).toInt
  | _ => 0
theorem ari_eq {L : List Nat} {f : py_F} {t n : Nat} {c : ClassId} {g : Nat → Int32} (h : py_at L f t (.inl (c, n, .inl g))) (i : Int32) : ari f t i = (g i.toNatClampNeg).toInt := by
  unfold ari
  rw [h.2]
theorem ari_ld {L : List Nat} {f : py_F} {t n : Nat} {c : ClassId} {g : Nat → Int32} {x i : Int32} (h : py_at L f t (.inl (c, n, .inl g))) (e : x = g i.toNatClampNeg) : ari f t i = x.toInt := by rw [ari_eq h, e]
theorem ari_row {f : py_F} {t n : Nat} {c : ClassId} {g : Nat → Int32} (h : f t = .inl (c, n, .inl g)) (i : Int32) : ari f t i = (g i.toNatClampNeg).toInt := by
  unfold ari
  rw [h]
theorem ari_kp {f f1 : py_F} {t : Nat} (h : f1 t = f t) (i : Int32) : ari f1 t i = ari f t i := by
  unfold ari
  rw [h]
theorem ari_up {L L' : List Nat} {f f' : py_F} {t n : Nat} {c : ClassId} {g : Nat → Int32} {k v : Int32} (h : py_at L f t (.inl (c, n, .inl g))) (h' : py_at L' f' t (.inl (c, n, .inl (upd g k.toNatClampNeg v)))) : ari f' t k = v.toInt ∧ ∀ i : Int32, i.toNatClampNeg ≠ k.toNatClampNeg → ari f' t i = ari f t i := by
  refine ⟨by rw [ari_eq h', upd_at], fun i hi => by rw [ari_eq h', ari_eq h, upd_off _ _ hi]⟩
theorem i_nat {i k : Int32} (h : 0 ≤ i.toInt) (h2 : 0 ≤ k.toInt) (hn : i ≠ k) : i.toNatClampNeg ≠ k.toNatClampNeg := by
  intro e
  apply hn
  apply Int32.toInt_inj.mp
  have e1 : i.toNatClampNeg = i.toInt.toNat := rfl
  have e2 : k.toNatClampNeg = k.toInt.toNat := rfl
  omega
theorem rlv_ari {E : py_E} {G : wf_G} {L : List Nat} {f : py_F} {o : Nat} (hG : GT G) (hWF : WF E G L f) (ho : G.1 o = 3) (h : RLV E G f o) {i : Int32} (h0 : 0 ≤ i.toInt) (h1 : i.toInt ≤ 9) : 0 < ari f (G.2 o 0) i → 0 ≤ ari f (G.2 o 1) i := by
  obtain ⟨t0, t1, -⟩ := wt_2 hG ho
  obtain ⟨gh, p0, -⟩ := wf_arr (n := 10) (lo := 0) (hi := 20) hWF t0 (by omega) (wf_own0 E G _ o)
  obtain ⟨gl, p1, -⟩ := wf_arr (n := 10) (lo := -1) (hi := 7) hWF t1 (by omega) (wf_own1 E G _ o)
  rw [ari_eq p0, ari_eq p1]
  have e1 : i.toNatClampNeg = i.toInt.toNat := rfl
  exact h gh gl p0.2 p1.2 _ (by omega)
/-- HEADS are written, the LEVEL not yet -/
def RPx (E : py_E) (G : wf_G) (h : Nat) (k : Nat) (f f' : py_F) : Prop := ∀ o : Nat, G.1 o = 3 → (RLV E G f o → ∀ gh gl : Nat → Int32, f' (G.2 o 0) = .inl (E.2.1, 10, .inl gh) → f' (G.2 o 1) = .inl (E.2.1, 10, .inl gl) → ∀ i : Nat, i < 10 → (o = h → i ≠ k) → 0 < (gh i).toInt → 0 ≤ (gl i).toInt) ∧ (o ≠ h → fo_v f' o = fo_v f o ∧ fo_y f' o = fo_y f o)
theorem rpx_heads {E : py_E} {G : wf_G} {L : List Nat} {f f1 f2 : py_F} {h k : Nat} {v : Int32} {g : Nat → Int32} (hG : GT G) (hWF : WF E G L f1) (ho : G.1 h = 3) (rp : RPv E G h f f1) (x : py_ext L f1 L f2 (G.2 h 0)) (ha : py_at L f1 (G.2 h 0) (.inl (E.2.1, 10, .inl g))) (ha' : py_at L f2 (G.2 h 0) (.inl (E.2.1, 10, .inl (upd g k v)))) : RPx E G h k f f2 := by
  intro o ho'
  obtain ⟨t0, t1, -⟩ := wt_2 hG ho
  obtain ⟨u0, u1, -⟩ := wt_2 hG ho'
  refine ⟨fun hr gh gl q0 q1 i hi hn hp => ?_, fun hne => ⟨(fo_arr hWF ho' x ha).1.trans ((rp o ho').2 hne).1, (fo_arr hWF ho' x ha).2.trans ((rp o ho').2 hne).2⟩⟩
  have n1 : G.2 o 1 ≠ G.2 h 0 := fun e => by rw [e] at u1; omega
  have e1 := (x _ (hWF (G.2 o 1) (by rw [u1]; omega)).1 n1).2
  rw [e1] at q1
  by_cases q : o = h
  · subst q
    have hg := in_inj (q0.symm.trans ha'.2)
    subst hg
    rw [upd_off _ _ (hn rfl)] at hp
    exact (rp o ho').1 hr g gl ha.2 q1 i hi hp
  · have n0 : G.2 o 0 ≠ G.2 h 0 := fun e => by rw [e] at u0; omega
    rw [(x _ (hWF (G.2 o 0) (by rw [u0]; omega)).1 n0).2] at q0
    exact (rp o ho').1 hr gh gl q0 q1 i hi hp
theorem rpx_upd {E : py_E} {G : wf_G} {L : List Nat} {f f1 f2 : py_F} {h k a : Nat} {y : ClassId × vp_A} (hG : GT G) (hWF : WF E G L f1) (rp : RPx E G h k f f1) (x : py_ext L f1 L f2 a) (ha : py_at L f1 a (.inl y)) (hn : ∀ o : Nat, G.1 o = 3 → a ≠ G.2 o 0 ∧ a ≠ G.2 o 1) : RPx E G h k f f2 := by
  intro o ho
  obtain ⟨t0, t1, -⟩ := wt_2 hG ho
  obtain ⟨n0, n1⟩ := hn o ho
  have e0 := (x _ (hWF (G.2 o 0) (by rw [t0]; omega)).1 (Ne.symm n0)).2
  have e1 := (x _ (hWF (G.2 o 1) (by rw [t1]; omega)).1 (Ne.symm n1)).2
  exact ⟨fun hr gh gl q0 q1 => (rp o ho).1 hr gh gl (e0 ▸ q0) (e1 ▸ q1), fun hne => ⟨(fo_arr hWF ho x ha).1.trans ((rp o ho).2 hne).1, (fo_arr hWF ho x ha).2.trans ((rp o ho).2 hne).2⟩⟩
theorem rpx_level {E : py_E} {G : wf_G} {L : List Nat} {f f1 f2 : py_F} {h k : Nat} {v : Int32} {g : Nat → Int32} (hG : GT G) (hWF : WF E G L f1) (ho : G.1 h = 3) (rp : RPx E G h k f f1) (x : py_ext L f1 L f2 (G.2 h 1)) (ha : py_at L f1 (G.2 h 1) (.inl (E.2.1, 10, .inl g))) (ha' : py_at L f2 (G.2 h 1) (.inl (E.2.1, 10, .inl (upd g k v)))) (hv : 0 ≤ v.toInt ∨ ∀ gh : Nat → Int32, f1 (G.2 h 0) = .inl (E.2.1, 10, .inl gh) → (gh k).toInt ≤ 0) : RPv E G h f f2 := by
  intro o ho'
  obtain ⟨t0, t1, -⟩ := wt_2 hG ho
  obtain ⟨u0, u1, -⟩ := wt_2 hG ho'
  refine ⟨fun hr gh gl q0 q1 i hi hp => ?_, fun hne => ⟨(fo_arr hWF ho' x ha).1.trans ((rp o ho').2 hne).1, (fo_arr hWF ho' x ha).2.trans ((rp o ho').2 hne).2⟩⟩
  have n0 : G.2 o 0 ≠ G.2 h 1 := fun e => by rw [e] at u0; omega
  have e0 := (x _ (hWF (G.2 o 0) (by rw [u0]; omega)).1 n0).2
  rw [e0] at q0
  by_cases q : o = h
  · subst q
    have hg := in_inj (q1.symm.trans ha'.2)
    subst hg
    by_cases hk : i = k
    · subst hk
      rw [upd_at]
      rcases hv with hv | hv
      · exact hv
      · have := hv gh q0
        omega
    · rw [upd_off _ _ hk]
      exact (rp o ho').1 hr gh g q0 ha.2 i hi (fun _ => hk) hp
  · have n1 : G.2 o 1 ≠ G.2 h 1 := fun e => by rw [e] at u1; omega
    rw [(x _ (hWF (G.2 o 1) (by rw [u1]; omega)).1 n1).2] at q1
    exact (rp o ho').1 hr gh gl q0 q1 i hi (fun e => absurd e q) hp
theorem va_eq {L : List Nat} {f : py_F} {v a0 a1 a2 a3 a4 a5 a6 a7 : Nat} {l n : Int32} (h : py_at L f v (.inr (9, [.ref a0, .ref a1, .ref a2, .ref a3, .ref a4, .ref a5, .ref a6, .ref a7, .int l, .int n]))) : va_l f v = l.toInt ∧ va_f f v = n.toInt := by
  unfold va_l va_f
  rw [h.2]
  exact ⟨rfl, rfl⟩
def rd_l (f : py_F) (h : Nat) : Int := va_l f (dr_v (f h))
def rd_f (f : py_F) (h : Nat) : Int := va_f f (dr_v (f h))
theorem rd_eq {L : List Nat} {f : py_F} {h q r : Nat} (hr : py_at L f h (.inr (10, [.ref q, .ref r]))) : rd_l f h = va_l f r ∧ rd_f f h = va_f f r := by
  have e : dr_v (f h) = r := by rw [hr.2]; rfl
  unfold rd_l rd_f
  rw [e]
  exact ⟨rfl, rfl⟩
/-! the tape's numbers -/
def tp_x (e : va_E) : Int × Int × Int := match e with
  | .inr (_, [_, .int l, .int a, .int n]) => (l.toInt, a.toInt, n.toInt)
  | _ => (0, 0, 0)
def tp_l (f : py_F) (t : Nat) : Int := (tp_x (f t)).1
def tp_a (f : py_F) (t : Nat) : Int := (tp_x (f t)).2.1
def tp_n (f : py_F) (t : Nat) : Int := (tp_x (f t)).2.2
theorem tp_eq {L : List Nat} {f : py_F} {t k q : Nat} {l a n : Int32} (h : py_at L f t (.inr (k, [.ref q, .int l, .int a, .int n]))) : tp_l f t = l.toInt ∧ tp_a f t = a.toInt ∧ tp_n f t = n.toInt := by
  unfold tp_l tp_a tp_n
  rw [h.2]
  exact ⟨rfl, rfl, rfl⟩
theorem st_LL_b {x z : Int32} (h : vp_in x 6) (e : z = st_LL.getD x.toNatClampNeg 0) : (x.toInt = 0 → z.toInt = 98) ∧ (x.toInt = 1 → z.toInt = 100) ∧ (x.toInt = 2 → z.toInt = 112) ∧ (x.toInt = 3 → z.toInt = 104) ∧ (x.toInt = 4 → z.toInt = 111) ∧ (x.toInt = 5 → z.toInt = 121) := by
  have k : ∀ n : Nat, n < 6 → (n = 0 → (st_LL.getD n 0).toInt = 98) ∧ (n = 1 → (st_LL.getD n 0).toInt = 100) ∧ (n = 2 → (st_LL.getD n 0).toInt = 112) ∧ (n = 3 → (st_LL.getD n 0).toInt = 104) ∧ (n = 4 → (st_LL.getD n 0).toInt = 111) ∧ (n = 5 → (st_LL.getD n 0).toInt = 121) := by decide +kernel
  obtain ⟨hx, h8⟩ := st_nat h
  obtain ⟨k1, k2, k3, k4, k5, k6⟩ := k _ h8
  rw [e]
  exact ⟨fun q => k1 (by omega), fun q => k2 (by omega), fun q => k3 (by omega), fun q => k4 (by omega), fun q => k5 (by omega), fun q => k6 (by omega)⟩
theorem st_VL_b {x z : Int32} (h : vp_in x 8) (e : z = st_VL.getD x.toNatClampNeg 0) : (x.toInt = 0 → z.toInt = 104) ∧ (x.toInt = 1 → z.toInt = 102) ∧ (x.toInt = 2 → z.toInt = 100) ∧ (x.toInt = 3 → z.toInt = 115) ∧ (x.toInt = 4 → z.toInt = 112) ∧ (x.toInt = 5 → z.toInt = 97) ∧ (x.toInt = 6 → z.toInt = 98) ∧ (x.toInt = 7 → z.toInt = 116) := by
  have k : ∀ n : Nat, n < 8 → (n = 0 → (st_VL.getD n 0).toInt = 104) ∧ (n = 1 → (st_VL.getD n 0).toInt = 102) ∧ (n = 2 → (st_VL.getD n 0).toInt = 100) ∧ (n = 3 → (st_VL.getD n 0).toInt = 115) ∧ (n = 4 → (st_VL.getD n 0).toInt = 112) ∧ (n = 5 → (st_VL.getD n 0).toInt = 97) ∧ (n = 6 → (st_VL.getD n 0).toInt = 98) ∧ (n = 7 → (st_VL.getD n 0).toInt = 116) := by decide +kernel
  obtain ⟨hx, h8⟩ := st_nat h
  obtain ⟨k0, k1, k2, k3, k4, k5, k6, k7⟩ := k _ h8
  rw [e]
  exact ⟨fun q => k0 (by omega), fun q => k1 (by omega), fun q => k2 (by omega), fun q => k3 (by omega), fun q => k4 (by omega), fun q => k5 (by omega), fun q => k6 (by omega), fun q => k7 (by omega)⟩
theorem st_LE_b {x z : Int32} (h : vp_in x 8) (e : z = st_LE.getD x.toNatClampNeg 0) : (x.toInt = 0 → z.toInt = 1) ∧ (x.toInt = 1 → z.toInt = 0) ∧ (x.toInt = 2 → z.toInt = 0) ∧ (x.toInt = 3 → z.toInt = 0) ∧ (x.toInt = 4 → z.toInt = 1) ∧ (x.toInt = 5 → z.toInt = 0) ∧ (x.toInt = 6 → z.toInt = 0) ∧ (x.toInt = 7 → z.toInt = 0) := by
  have k : ∀ n : Nat, n < 8 → (n = 0 → (st_LE.getD n 0).toInt = 1) ∧ (n = 1 → (st_LE.getD n 0).toInt = 0) ∧ (n = 2 → (st_LE.getD n 0).toInt = 0) ∧ (n = 3 → (st_LE.getD n 0).toInt = 0) ∧ (n = 4 → (st_LE.getD n 0).toInt = 1) ∧ (n = 5 → (st_LE.getD n 0).toInt = 0) ∧ (n = 6 → (st_LE.getD n 0).toInt = 0) ∧ (n = 7 → (st_LE.getD n 0).toInt = 0) := by decide +kernel
  obtain ⟨hx, h8⟩ := st_nat h
  obtain ⟨k0, k1, k2, k3, k4, k5, k6, k7⟩ := k _ h8
  rw [e]
  exact ⟨fun q => k0 (by omega), fun q => k1 (by omega), fun q => k2 (by omega), fun q => k3 (by omega), fun q => k4 (by omega), fun q => k5 (by omega), fun q => k6 (by omega), fun q => k7 (by omega)⟩
theorem st_MO_b {x z : Int32} (h : vp_in x 8) (e : z = st_MO.getD x.toNatClampNeg 0) : (x.toInt = 0 → z.toInt = 4) ∧ (x.toInt = 1 → z.toInt = 99) ∧ (x.toInt = 2 → z.toInt = 50) ∧ (x.toInt = 3 → z.toInt = 1) ∧ (x.toInt = 4 → z.toInt = 12) ∧ (x.toInt = 5 → z.toInt = 7) ∧ (x.toInt = 6 → z.toInt = 100) ∧ (x.toInt = 7 → z.toInt = 100) := by
  have k : ∀ n : Nat, n < 8 → (n = 0 → (st_MO.getD n 0).toInt = 4) ∧ (n = 1 → (st_MO.getD n 0).toInt = 99) ∧ (n = 2 → (st_MO.getD n 0).toInt = 50) ∧ (n = 3 → (st_MO.getD n 0).toInt = 1) ∧ (n = 4 → (st_MO.getD n 0).toInt = 12) ∧ (n = 5 → (st_MO.getD n 0).toInt = 7) ∧ (n = 6 → (st_MO.getD n 0).toInt = 100) ∧ (n = 7 → (st_MO.getD n 0).toInt = 100) := by decide +kernel
  obtain ⟨hx, h8⟩ := st_nat h
  obtain ⟨k0, k1, k2, k3, k4, k5, k6, k7⟩ := k _ h8
  rw [e]
  exact ⟨fun q => k0 (by omega), fun q => k1 (by omega), fun q => k2 (by omega), fun q => k3 (by omega), fun q => k4 (by omega), fun q => k5 (by omega), fun q => k6 (by omega), fun q => k7 (by omega)⟩
theorem st_US_b {x z : Int32} (h : vp_in x 8) (e : z = st_US.getD x.toNatClampNeg 0) : (x.toInt = 0 → z.toInt = 2) ∧ (x.toInt = 1 → z.toInt = 20) ∧ (x.toInt = 2 → z.toInt = 5) ∧ (x.toInt = 3 → z.toInt = 0) ∧ (x.toInt = 4 → z.toInt = 4) ∧ (x.toInt = 5 → z.toInt = 0) ∧ (x.toInt = 6 → z.toInt = 30) ∧ (x.toInt = 7 → z.toInt = 5) := by
  have k : ∀ n : Nat, n < 8 → (n = 0 → (st_US.getD n 0).toInt = 2) ∧ (n = 1 → (st_US.getD n 0).toInt = 20) ∧ (n = 2 → (st_US.getD n 0).toInt = 5) ∧ (n = 3 → (st_US.getD n 0).toInt = 0) ∧ (n = 4 → (st_US.getD n 0).toInt = 4) ∧ (n = 5 → (st_US.getD n 0).toInt = 0) ∧ (n = 6 → (st_US.getD n 0).toInt = 30) ∧ (n = 7 → (st_US.getD n 0).toInt = 5) := by decide +kernel
  obtain ⟨hx, h8⟩ := st_nat h
  obtain ⟨k0, k1, k2, k3, k4, k5, k6, k7⟩ := k _ h8
  rw [e]
  exact ⟨fun q => k0 (by omega), fun q => k1 (by omega), fun q => k2 (by omega), fun q => k3 (by omega), fun q => k4 (by omega), fun q => k5 (by omega), fun q => k6 (by omega), fun q => k7 (by omega)⟩
theorem ti_in {x : Int32} {n : Nat} (h1 : 0 ≤ x.toInt) (h2 : x.toInt < n) : vp_in x n := vp_in_iff.mpr ⟨h1, h2⟩
theorem ti_at {n : Nat} {lo hi : Int} {g : Nat → Int32} {x y : Int32} (h : wf_in n lo hi g) (hi2 : vp_in x n) (e : y = g x.toNatClampNeg) : lo ≤ y.toInt ∧ y.toInt ≤ hi := by
  rw [e]
  exact h _ (Nat.not_le.mp fun q => hi2 (Or.inr q))
