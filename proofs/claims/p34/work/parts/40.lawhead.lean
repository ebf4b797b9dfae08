/-! the reference's law: codes in the order in which they are reckoned -/
def rn (g v : Nat → Int32) (D : Int) : Nat → Nat → Int → Int → Prop
  | 0, _, h, h1 => h = h1
  | n + 1, i, h, h1 => if (g i).toInt = 0 ∨ (g i).toInt = 1 then h < D ∧ ((g i).toInt = 1 → 0 ≤ (v i).toInt ∧ (v i).toInt ≤ 5) ∧ rn g v D n (i + 1) (h + 1) h1 else if (g i).toInt = 9 then 1 ≤ h ∧ rn g v D n (i + 1) h h1 else 2 ≤ h ∧ rn g v D n (i + 1) (h - 1) h1
theorem rn_app {g v : Nat → Int32} {D : Int} (n : Nat) {k i : Nat} {h h1 h2 : Int} (a : rn g v D n i h h1) (b : rn g v D k (i + n) h1 h2) : rn g v D (n + k) i h h2 := by
  induction n generalizing i h with
  | zero =>
    have e : h = h1 := a
    subst e
    rw [Nat.zero_add]
    exact b
  | succ n ih =>
    rw [show n + 1 + k = (n + k) + 1 by omega]
    have b2 : rn g v D k (i + 1 + n) h1 h2 := by rw [show i + 1 + n = i + (n + 1) by omega]; exact b
    unfold rn at a ⊢
    split
    · rename_i q
      rw [if_pos q] at a
      exact ⟨a.1, a.2.1, ih a.2.2 b2⟩
    · rename_i q
      rw [if_neg q] at a
      split
      · rename_i q2
        rw [if_pos q2] at a
        exact ⟨a.1, ih a.2 b2⟩
      · rename_i q2
        rw [if_neg q2] at a
        exact ⟨a.1, ih a.2 b2⟩
theorem rn_shift {g v : Nat → Int32} {D D1 b : Int} (hb : 0 ≤ b) (hD : D + b ≤ D1) (n : Nat) {i : Nat} {h h1 : Int} (a : rn g v D n i h h1) : rn g v D1 n i (h + b) (h1 + b) := by
  induction n generalizing i h with
  | zero =>
    have e : h = h1 := a
    subst e
    rfl
  | succ n ih =>
    unfold rn at a ⊢
    split
    · rename_i q
      rw [if_pos q] at a
      refine ⟨by omega, a.2.1, ?_⟩
      have := ih a.2.2
      rw [show h + b + 1 = h + 1 + b by omega]
      exact this
    · rename_i q
      rw [if_neg q] at a
      split
      · rename_i q2
        rw [if_pos q2] at a
        exact ⟨by omega, ih a.2⟩
      · rename_i q2
        rw [if_neg q2] at a
        refine ⟨by omega, ?_⟩
        have := ih a.2
        rw [show h + b - 1 = h - 1 + b by omega]
        exact this
theorem rn_cong {g v g1 v1 : Nat → Int32} {D : Int} (n : Nat) {i : Nat} {h h1 : Int} (e : ∀ j : Nat, i ≤ j → j < i + n → g1 j = g j ∧ v1 j = v j) (a : rn g v D n i h h1) : rn g1 v1 D n i h h1 := by
  induction n generalizing i h with
  | zero => exact a
  | succ n ih =>
    obtain ⟨e1, e2⟩ := e i (Nat.le_refl i) (by omega)
    have e3 : ∀ j : Nat, i + 1 ≤ j → j < i + 1 + n → g1 j = g j ∧ v1 j = v j := fun j q1 q2 => e j (by omega) (by omega)
    unfold rn at a ⊢
    rw [e1, e2]
    split
    · rename_i q
      rw [if_pos q] at a
      exact ⟨a.1, a.2.1, ih e3 a.2.2⟩
    · rename_i q
      rw [if_neg q] at a
      split
      · rename_i q2
        rw [if_pos q2] at a
        exact ⟨a.1, ih e3 a.2⟩
      · rename_i q2
        rw [if_neg q2] at a
        exact ⟨a.1, ih e3 a.2⟩
/-- how many codes the text has now; where the next one goes -/
def cdv (f : py_F) (G : wf_G) (m : Nat) : Int := arz f (G.2 m 8) (mi f m 14)
def cbs (f : py_F) (G : wf_G) (m : Nat) : Nat := (340 * mi f m 14 + cdv f G m).toNat
theorem cdv_kp {f f1 : py_F} {G : wf_G} {m : Nat} (e : f1 (G.2 m 8) = f (G.2 m 8)) (e14 : mi f1 m 14 = mi f m 14) : cdv f1 G m = cdv f G m := by
  unfold cdv
  rw [e14, arz_kp e]
theorem cdv_ld {L L1 : List Nat} {f : py_F} {G : wf_G} {m n k : Nat} {xs : List Value} {c : ClassId} {g : Nat → Int32} {x i : Int32} (hr : py_at L1 f m (.inr (k, xs))) (h14 : xs[14]? = some (.int i)) (h : py_at L f (G.2 m 8) (.inl (c, n, .inl g))) (e : x = g i.toNatClampNeg) : cdv f G m = x.toInt := by
  unfold cdv
  rw [mi_row hr 14 h14, arz_ld h e]
/-- the text's code has grown by a piece that takes the height h0 to h1, unless something is wrong -/
def TR (f0 f1 : py_F) (G : wf_G) (m : Nat) (D h0 h1 : Int) : Prop := (0 ≤ mi f0 m 14 ∧ 0 ≤ cdv f0 G m ∧ mi f1 m 14 = mi f0 m 14 ∧ cdv f0 G m ≤ cdv f1 G m) ∧ (∀ i : Nat, i < cbs f0 G m → gfn f1 (G.2 m 6) i = gfn f0 (G.2 m 6) i ∧ gfn f1 (G.2 m 7) i = gfn f0 (G.2 m 7) i) ∧ (mi f1 m 4 = -1 → rn (gfn f1 (G.2 m 6)) (gfn f1 (G.2 m 7)) D (cdv f1 G m - cdv f0 G m).toNat (cbs f0 G m) h0 h1)
theorem TR.refl {f : py_F} {G : wf_G} {m : Nat} {D h : Int} (h14 : 0 ≤ mi f m 14) (hc : 0 ≤ cdv f G m) : TR f f G m D h h := ⟨⟨h14, hc, rfl, Int.le_refl _⟩, fun _ _ => ⟨rfl, rfl⟩, fun _ => by rw [Int.sub_self]; rfl⟩
theorem TR.trans {f0 f1 f2 : py_F} {G : wf_G} {m : Nat} {D h0 h1 h2 : Int} (a : TR f0 f1 G m D h0 h1) (b : TR f1 f2 G m D h1 h2) (hw : mi f2 m 4 = -1 → mi f1 m 4 = -1) : TR f0 f2 G m D h0 h2 := by
  obtain ⟨⟨a1, a2, a3, a4⟩, a5, a6⟩ := a
  obtain ⟨⟨b1, b2, b3, b4⟩, b5, b6⟩ := b
  have hb : cbs f1 G m = cbs f0 G m + (cdv f1 G m - cdv f0 G m).toNat := by
    unfold cbs
    omega
  refine ⟨⟨a1, a2, by omega, by omega⟩, fun i hi => ?_, fun q => ?_⟩
  · obtain ⟨x1, x2⟩ := b5 i (by omega)
    obtain ⟨y1, y2⟩ := a5 i hi
    exact ⟨x1.trans y1, x2.trans y2⟩
  · have r1 := a6 (hw q)
    have r2 := b6 q
    have r3 := rn_cong (g1 := gfn f2 (G.2 m 6)) (v1 := gfn f2 (G.2 m 7)) _ (fun j q1 q2 => b5 j (by omega)) r1
    rw [hb] at r2
    have r4 := rn_app _ r3 r2
    rw [show (cdv f2 G m - cdv f0 G m).toNat = (cdv f1 G m - cdv f0 G m).toNat + (cdv f2 G m - cdv f1 G m).toNat by omega]
    exact r4
theorem TR.lift {f0 f1 : py_F} {G : wf_G} {m : Nat} {D D1 h0 h1 k0 k1 b : Int} (a : TR f0 f1 G m D h0 h1) (hb : 0 ≤ b) (hD : D + b ≤ D1) (e0 : k0 = h0 + b) (e1 : k1 = h1 + b) : TR f0 f1 G m D1 k0 k1 := by
  subst e0
  subst e1
  exact ⟨a.1, a.2.1, fun q => rn_shift hb hD _ (a.2.2 q)⟩
/-- the codes stay -/
theorem TR.same {f0 f1 f2 : py_F} {G : wf_G} {m : Nat} {D h0 h1 : Int} (a : TR f0 f1 G m D h0 h1) (e6 : f2 (G.2 m 6) = f1 (G.2 m 6)) (e7 : f2 (G.2 m 7) = f1 (G.2 m 7)) (e8 : f2 (G.2 m 8) = f1 (G.2 m 8)) (e14 : mi f2 m 14 = mi f1 m 14) (hw : mi f2 m 4 = -1 → mi f1 m 4 = -1) : TR f0 f2 G m D h0 h1 := by
  obtain ⟨⟨a1, a2, a3, a4⟩, a5, a6⟩ := a
  have ec := cdv_kp e8 e14
  refine ⟨⟨a1, a2, by omega, by omega⟩, fun i hi => ?_, fun q => ?_⟩
  · rw [gfn_kp e6, gfn_kp e7]
    exact a5 i hi
  · rw [gfn_kp e6, gfn_kp e7, ec]
    exact a6 (hw q)
theorem TR.wrong {f0 f1 : py_F} {G : wf_G} {m : Nat} {D D1 h0 h1 k0 k1 : Int} (a : TR f0 f1 G m D h0 h1) (hw : mi f1 m 4 ≠ -1) : TR f0 f1 G m D1 k0 k1 := ⟨a.1, a.2.1, fun q => absurd q hw⟩
theorem TR.kp {G : wf_G} {ws js : List Nat} {own : Bool} {f0 f1 f2 : py_F} {m : Nat} {D h0 h1 : Int} (a : TR f0 f1 G m D h0 h1) (hG : GT G) (Tm : G.1 m = 13) (kp : KP G ws own f1 f2) (fk : FK js f1 f2 m) (hc : 41 ∉ ws ∧ 42 ∉ ws ∧ 43 ∉ ws ∧ 14 ∉ js) (hw : mi f2 m 4 = -1 → mi f1 m 4 = -1) : TR f0 f2 G m D h0 h1 := a.same (kp_f kp (wt12_6 hG Tm) (by decide) hc.1 (fun _ => by decide)) (kp_f kp (wt12_7 hG Tm) (by decide) hc.2.1 (fun _ => by decide)) (kp_f kp (wt12_8 hG Tm) (by decide) hc.2.2.1 (fun _ => by decide)) (fk_mi fk 14 (by decide) hc.2.2.2) hw
/-- a write to the reference's own row -/
theorem TR.own {E : py_E} {G : wf_G} {L : List Nat} {f0 f1 f2 : py_F} {m : Nat} {D h0 h1 : Int} (a : TR f0 f1 G m D h0 h1) (hG : GT G) (hWF : WF E G L f1) (Tm : G.1 m = 13) (x : py_ext L f1 L f2 m) (e14 : mi f2 m 14 = mi f1 m 14) (hw : mi f2 m 4 = -1 → mi f1 m 4 = -1) : TR f0 f2 G m D h0 h1 := a.same (x _ (hWF _ (by rw [wt12_6 hG Tm]; decide)).1 (wf_ne (wt12_6 hG Tm) Tm (by decide))).2 (x _ (hWF _ (by rw [wt12_7 hG Tm]; decide)).1 (wf_ne (wt12_7 hG Tm) Tm (by decide))).2 (x _ (hWF _ (by rw [wt12_8 hG Tm]; decide)).1 (wf_ne (wt12_8 hG Tm) Tm (by decide))).2 e14 hw
theorem cdv_own {E : py_E} {G : wf_G} {L : List Nat} {f1 f2 : py_F} {m : Nat} (hG : GT G) (hWF : WF E G L f1) (Tm : G.1 m = 13) (x : py_ext L f1 L f2 m) (e14 : mi f2 m 14 = mi f1 m 14) : cdv f2 G m = cdv f1 G m := cdv_kp (x _ (hWF _ (by rw [wt12_8 hG Tm]; decide)).1 (wf_ne (wt12_8 hG Tm) Tm (by decide))).2 e14
theorem cdv_k {G : wf_G} {ws js : List Nat} {own : Bool} {f1 f2 : py_F} {m : Nat} (hG : GT G) (Tm : G.1 m = 13) (kp : KP G ws own f1 f2) (fk : FK js f1 f2 m) (hc : 43 ∉ ws ∧ 14 ∉ js) : cdv f2 G m = cdv f1 G m := cdv_kp (kp_f kp (wt12_8 hG Tm) (by decide) hc.1 (fun _ => by decide)) (fk_mi fk 14 (by decide) hc.2)
/-- one code is put -/
def PT (f f1 : py_F) (G : wf_G) (m : Nat) (a b : Int32) : Prop := 0 ≤ mi f m 14 ∧ 0 ≤ cdv f G m ∧ mi f1 m 14 = mi f m 14 ∧ mi f1 m 4 = mi f m 4 ∧ cdv f1 G m = cdv f G m + 1 ∧ gfn f1 (G.2 m 6) = upd (gfn f (G.2 m 6)) (cbs f G m) a ∧ gfn f1 (G.2 m 7) = upd (gfn f (G.2 m 7)) (cbs f G m) b
theorem PT.tr {f f1 : py_F} {G : wf_G} {m : Nat} {a b : Int32} {D h h1 : Int} (p : PT f f1 G m a b) (q : ((a.toInt = 0 ∨ a.toInt = 1) ∧ h < D ∧ h1 = h + 1 ∧ (a.toInt = 1 → 0 ≤ b.toInt ∧ b.toInt ≤ 5)) ∨ (a.toInt = 9 ∧ 1 ≤ h ∧ h1 = h) ∨ (a.toInt ≠ 0 ∧ a.toInt ≠ 1 ∧ a.toInt ≠ 9 ∧ 2 ≤ h ∧ h1 = h - 1)) : TR f f1 G m D h h1 := by
  obtain ⟨p1, p2, p3, p4, p5, p6, p7⟩ := p
  refine ⟨⟨p1, p2, p3, by omega⟩, fun i hi => ?_, fun _ => ?_⟩
  · rw [p6, p7, upd_off _ _ (by omega), upd_off _ _ (by omega)]
    exact ⟨rfl, rfl⟩
  · rw [show (cdv f1 G m - cdv f G m).toNat = 0 + 1 by omega]
    unfold rn
    rw [p6, p7, upd_at, upd_at]
    rcases q with ⟨q1, q2, q3, q4⟩ | ⟨q1, q2, q3⟩ | ⟨q1, q2, q3, q4, q5⟩
    · rw [if_pos q1]
      exact ⟨q2, q4, q3.symm⟩
    · rw [if_neg (by omega), if_pos q1]
      exact ⟨q2, q3.symm⟩
    · rw [if_neg (by omega), if_neg q3]
      exact ⟨q4, q5.symm⟩
theorem pt_of {G : wf_G} {L1 L2 L3 L4 L5 L6 : List Nat} {f f1 f2 f3 : py_F} {m n1 n2 n3 : Nat} {c : ClassId} {g1 g2 g3 : Nat → Int32} {i t a b x y : Int32} (p1 : py_at L1 f (G.2 m 6) (.inl (c, n1, .inl g1))) (q1 : py_at L2 f1 (G.2 m 6) (.inl (c, n1, .inl (upd g1 i.toNatClampNeg a)))) (e17 : f1 (G.2 m 7) = f (G.2 m 7)) (e18 : f1 (G.2 m 8) = f (G.2 m 8)) (p2 : py_at L3 f1 (G.2 m 7) (.inl (c, n2, .inl g2))) (q2 : py_at L4 f2 (G.2 m 7) (.inl (c, n2, .inl (upd g2 i.toNatClampNeg b)))) (e26 : f2 (G.2 m 6) = f1 (G.2 m 6)) (e28 : f2 (G.2 m 8) = f1 (G.2 m 8)) (p3 : py_at L5 f2 (G.2 m 8) (.inl (c, n3, .inl g3))) (q3 : py_at L6 f3 (G.2 m 8) (.inl (c, n3, .inl (upd g3 t.toNatClampNeg y)))) (e36 : f3 (G.2 m 6) = f2 (G.2 m 6)) (e37 : f3 (G.2 m 7) = f2 (G.2 m 7)) (t14 : mi f m 14 = t.toInt) (t0 : 0 ≤ t.toInt) (s14 : mi f3 m 14 = mi f m 14) (s4 : mi f3 m 4 = mi f m 4) (hx : cdv f G m = x.toInt) (hi : i.toInt = 340 * t.toInt + x.toInt) (hx0 : 0 ≤ x.toInt) (hy : y.toInt = x.toInt + 1) : PT f f3 G m a b := by
  have hb : cbs f G m = i.toNatClampNeg := by
    have e1 : i.toNatClampNeg = i.toInt.toNat := rfl
    unfold cbs
    rw [t14, hx, e1, hi]
  refine ⟨by omega, by omega, s14, s4, ?_, ?_, ?_⟩
  · rw [show cdv f3 G m = y.toInt by unfold cdv; rw [s14, t14]; exact (arz_up p3 q3 t0).1]
    omega
  · rw [gfn_kp e36, gfn_kp e26, gfn_eq q1, hb, gfn_eq p1]
  · rw [gfn_kp e37, gfn_eq q2, hb, ← gfn_eq p2, gfn_kp e17]
theorem cdv_rng {E : py_E} {G : wf_G} {L : List Nat} {f : py_F} {m : Nat} (hG : GT G) (hWF : WF E G L f) (Tm : G.1 m = 13) (h0 : 0 ≤ mi f m 14) (h4 : mi f m 14 ≤ 4) : 0 ≤ cdv f G m ∧ cdv f G m ≤ 340 := by
  obtain ⟨g, hg, hi⟩ := wf_arr (n := 5) (lo := 0) (hi := 340) hWF (wt12_8 hG Tm) (by decide) (fun _ => rfl)
  unfold cdv arz
  rw [hg.2]
  exact hi _ (by omega)
/-! a clause of the reference's law -/
def clv (f : py_F) (G : wf_G) (m : Nat) : Int := arz f (G.2 m 9) (mi f m 14)
theorem clv_kp {f f1 : py_F} {G : wf_G} {m : Nat} (e : f1 (G.2 m 9) = f (G.2 m 9)) (e14 : mi f1 m 14 = mi f m 14) : clv f1 G m = clv f G m := by
  unfold clv
  rw [e14, arz_kp e]
theorem clv_k {G : wf_G} {ws js : List Nat} {own : Bool} {f1 f2 : py_F} {m : Nat} (hG : GT G) (Tm : G.1 m = 13) (kp : KP G ws own f1 f2) (fk : FK js f1 f2 m) (hc : 44 ∉ ws ∧ 14 ∉ js) : clv f2 G m = clv f1 G m := clv_kp (kp_f kp (wt12_9 hG Tm) (by decide) hc.1 (fun _ => by decide)) (fk_mi fk 14 (by decide) hc.2)
theorem clv_own {E : py_E} {G : wf_G} {L : List Nat} {f1 f2 : py_F} {m : Nat} (hG : GT G) (hWF : WF E G L f1) (Tm : G.1 m = 13) (x : py_ext L f1 L f2 m) (e14 : mi f2 m 14 = mi f1 m 14) : clv f2 G m = clv f1 G m := clv_kp (x _ (hWF _ (by rw [wt12_9 hG Tm]; decide)).1 (wf_ne (wt12_9 hG Tm) Tm (by decide))).2 e14
theorem clv_rng {E : py_E} {G : wf_G} {L : List Nat} {f : py_F} {m : Nat} (hG : GT G) (hWF : WF E G L f) (Tm : G.1 m = 13) (h0 : 0 ≤ mi f m 14) (h4 : mi f m 14 ≤ 4) : 0 ≤ clv f G m ∧ clv f G m ≤ 90 := by
  obtain ⟨g, hg, hi⟩ := wf_arr (n := 5) (lo := 0) (hi := 90) hWF (wt12_9 hG Tm) (by decide) (fun _ => rfl)
  unfold clv arz
  rw [hg.2]
  exact hi _ (by omega)
theorem clv_ld {L L1 : List Nat} {f : py_F} {G : wf_G} {m n k : Nat} {xs : List Value} {c : ClassId} {g : Nat → Int32} {x i : Int32} (hr : py_at L1 f m (.inr (k, xs))) (h14 : xs[14]? = some (.int i)) (h : py_at L f (G.2 m 9) (.inl (c, n, .inl g))) (e : x = g i.toNatClampNeg) : clv f G m = x.toInt := by
  unfold clv
  rw [mi_row hr 14 h14, arz_ld h e]
/-- a row but for one place -/
def AX (f f1 : py_F) (t : Nat) (K : Int) : Prop := ∀ i : Int, 0 ≤ i → i ≠ K → arz f1 t i = arz f t i
theorem AX.refl {f : py_F} {t : Nat} {K : Int} : AX f f t K := fun _ _ _ => rfl
theorem AX.same {f f1 f2 : py_F} {t : Nat} {K : Int} (h : AX f f1 t K) (e : f2 t = f1 t) : AX f f2 t K := fun i a b => (arz_kp e i).trans (h i a b)
theorem AX.up {L1 L2 : List Nat} {f f1 f2 : py_F} {t n : Nat} {c : ClassId} {g : Nat → Int32} {i v : Int32} {K : Int} (h : AX f f1 t K) (p : py_at L1 f1 t (.inl (c, n, .inl g))) (p' : py_at L2 f2 t (.inl (c, n, .inl (upd g i.toNatClampNeg v)))) (h0 : 0 ≤ i.toInt) (hi : i.toInt = K) : AX f f2 t K := fun j a b => ((arz_up p p' h0).2 j a (by omega)).trans (h j a b)
/-- the codes so far, whatever comes behind -/
def TP (f0 f1 : py_F) (G : wf_G) (m : Nat) : Prop := (0 ≤ mi f0 m 14 ∧ 0 ≤ cdv f0 G m ∧ mi f1 m 14 = mi f0 m 14 ∧ cdv f0 G m ≤ cdv f1 G m) ∧ (∀ i : Nat, i < cbs f0 G m → gfn f1 (G.2 m 6) i = gfn f0 (G.2 m 6) i ∧ gfn f1 (G.2 m 7) i = gfn f0 (G.2 m 7) i)
theorem TR.tp {f0 f1 : py_F} {G : wf_G} {m : Nat} {D h0 h1 : Int} (a : TR f0 f1 G m D h0 h1) : TP f0 f1 G m := ⟨a.1, a.2.1⟩
theorem TP.trans {f0 f1 f2 : py_F} {G : wf_G} {m : Nat} (a : TP f0 f1 G m) (b : TP f1 f2 G m) : TP f0 f2 G m := by
  obtain ⟨⟨a1, a2, a3, a4⟩, a5⟩ := a
  obtain ⟨⟨b1, b2, b3, b4⟩, b5⟩ := b
  have hb : cbs f0 G m ≤ cbs f1 G m := by
    unfold cbs
    omega
  refine ⟨⟨a1, a2, by omega, by omega⟩, fun i hi => ?_⟩
  obtain ⟨x1, x2⟩ := b5 i (by omega)
  obtain ⟨y1, y2⟩ := a5 i hi
  exact ⟨x1.trans y1, x2.trans y2⟩
theorem TP.same {f0 f1 f2 : py_F} {G : wf_G} {m : Nat} (a : TP f0 f1 G m) (e6 : f2 (G.2 m 6) = f1 (G.2 m 6)) (e7 : f2 (G.2 m 7) = f1 (G.2 m 7)) (ec : cdv f2 G m = cdv f1 G m) (e14 : mi f2 m 14 = mi f1 m 14) : TP f0 f2 G m := by
  obtain ⟨⟨a1, a2, a3, a4⟩, a5⟩ := a
  refine ⟨⟨a1, a2, by omega, by omega⟩, fun i hi => ?_⟩
  rw [gfn_kp e6, gfn_kp e7]
  exact a5 i hi
/-- clause k of text n can be reckoned -/
def CO (f : py_F) (G : wf_G) (m : Nat) (n k : Int) : Prop := 0 ≤ arz f (G.2 m 10) k ∧ arz f (G.2 m 10) k ≤ arz f (G.2 m 11) k ∧ arz f (G.2 m 11) k ≤ arz f (G.2 m 12) k ∧ arz f (G.2 m 12) k ≤ 340 ∧ (arz f (G.2 m 10) k = arz f (G.2 m 11) k ∨ rn (gfn f (G.2 m 6)) (gfn f (G.2 m 7)) 80 (arz f (G.2 m 11) k - arz f (G.2 m 10) k).toNat (340 * n + arz f (G.2 m 10) k).toNat 0 1) ∧ rn (gfn f (G.2 m 6)) (gfn f (G.2 m 7)) 80 (arz f (G.2 m 12) k - arz f (G.2 m 11) k).toNat (340 * n + arz f (G.2 m 11) k).toNat 0 1
theorem CO.keep {f f1 : py_F} {G : wf_G} {m : Nat} {n k : Int} (h : CO f G m n k) (hn : 0 ≤ n) (e10 : arz f1 (G.2 m 10) k = arz f (G.2 m 10) k) (e11 : arz f1 (G.2 m 11) k = arz f (G.2 m 11) k) (e12 : arz f1 (G.2 m 12) k = arz f (G.2 m 12) k) (hb : ∀ i : Nat, (i : Int) < 340 * n + arz f (G.2 m 12) k → gfn f1 (G.2 m 6) i = gfn f (G.2 m 6) i ∧ gfn f1 (G.2 m 7) i = gfn f (G.2 m 7) i) : CO f1 G m n k := by
  obtain ⟨h1, h2, h3, h4, h5, h6⟩ := h
  unfold CO
  rw [e10, e11, e12]
  refine ⟨h1, h2, h3, h4, ?_, ?_⟩
  · rcases h5 with h5 | h5
    · exact Or.inl h5
    · exact Or.inr (rn_cong _ (fun j q1 q2 => hb j (by omega)) h5)
  · exact rn_cong _ (fun j q1 q2 => hb j (by omega)) h6
/-- all clauses of text n -/
def LV (f : py_F) (G : wf_G) (m : Nat) (n : Int) : Prop := ∀ c : Int, 0 ≤ c → c < arz f (G.2 m 9) n → CO f G m n (90 * n + c)
/-- a clause is read: what stands before it stays -/
def CX (f f1 : py_F) (G : wf_G) (m : Nat) : Prop := TP f f1 G m ∧ AX f f1 (G.2 m 10) (90 * mi f m 14 + clv f G m) ∧ AX f f1 (G.2 m 11) (90 * mi f m 14 + clv f G m) ∧ AX f f1 (G.2 m 12) (90 * mi f m 14 + clv f G m) ∧ AX f f1 (G.2 m 9) (mi f m 14) ∧ clv f G m ≤ clv f1 G m
theorem CX.lv {f f1 : py_F} {G : wf_G} {m : Nat} {n : Int} (x : CX f f1 G m) (h : LV f G m n) (h0 : 0 ≤ n) (hn : n < mi f m 14) (hc : 0 ≤ clv f G m) (h90 : arz f (G.2 m 9) n ≤ 90) : LV f1 G m n := by
  obtain ⟨⟨⟨a1, a2, a3, a4⟩, a5⟩, x10, x11, x12, x9, -⟩ := x
  intro c c0 c1
  rw [x9 n h0 (by omega)] at c1
  have hco := h c c0 c1
  refine hco.keep h0 (x10 _ (by omega) (by omega)) (x11 _ (by omega) (by omega)) (x12 _ (by omega) (by omega)) (fun i hi => a5 i ?_)
  have := hco.2.2.2.1
  unfold cbs
  omega
/-- the clauses of this text so far, their codes among those put -/
def LC (f : py_F) (G : wf_G) (m : Nat) : Prop := ∀ c : Int, 0 ≤ c → c < clv f G m → CO f G m (mi f m 14) (90 * mi f m 14 + c) ∧ arz f (G.2 m 12) (90 * mi f m 14 + c) ≤ cdv f G m
theorem LC.cx {f f1 : py_F} {G : wf_G} {m : Nat} (h : LC f G m) (x : CX f f1 G m) (hc : clv f1 G m ≤ clv f G m + 1) (c0 : 0 ≤ clv f G m) (hk : clv f1 G m = clv f G m + 1 → CO f1 G m (mi f m 14) (90 * mi f m 14 + clv f G m) ∧ arz f1 (G.2 m 12) (90 * mi f m 14 + clv f G m) ≤ cdv f1 G m) : LC f1 G m := by
  obtain ⟨⟨⟨a1, a2, a3, a4⟩, a5⟩, x10, x11, x12, x9, x13⟩ := x
  intro c k0 k1
  rw [a3]
  by_cases e : c = clv f G m
  · rw [e]
    exact hk (by omega)
  · obtain ⟨q1, q2⟩ := h c k0 (by omega)
    rw [x12 _ (by omega) (by omega)]
    refine ⟨q1.keep a1 (x10 _ (by omega) (by omega)) (x11 _ (by omega) (by omega)) (x12 _ (by omega) (by omega)) (fun i hi => a5 i ?_), by omega⟩
    unfold cbs
    omega
theorem LC.zero {f : py_F} {G : wf_G} {m : Nat} (h : clv f G m ≤ 0) : LC f G m := fun c c0 c1 => absurd c1 (by omega)
theorem LC.lv {f : py_F} {G : wf_G} {m : Nat} (h : LC f G m) : LV f G m (mi f m 14) := fun c c0 c1 => (h c c0 c1).1
theorem LC.same {f f1 : py_F} {G : wf_G} {m : Nat} (h : LC f G m) (e6 : f1 (G.2 m 6) = f (G.2 m 6)) (e7 : f1 (G.2 m 7) = f (G.2 m 7)) (e10 : f1 (G.2 m 10) = f (G.2 m 10)) (e11 : f1 (G.2 m 11) = f (G.2 m 11)) (e12 : f1 (G.2 m 12) = f (G.2 m 12)) (ec : cdv f1 G m = cdv f G m) (ek : clv f1 G m = clv f G m) (e14 : mi f1 m 14 = mi f m 14) : LC f1 G m := by
  intro c k0 k1
  rw [e14, arz_kp e12, ec]
  obtain ⟨q1, q2⟩ := h c k0 (by omega)
  refine ⟨?_, q2⟩
  unfold CO at q1 ⊢
  rw [arz_kp e10, arz_kp e11, arz_kp e12, gfn_kp e6, gfn_kp e7]
  exact q1
theorem LV.same {f f1 : py_F} {G : wf_G} {m : Nat} {n : Int} (h : LV f G m n) (e6 : f1 (G.2 m 6) = f (G.2 m 6)) (e7 : f1 (G.2 m 7) = f (G.2 m 7)) (e9 : arz f1 (G.2 m 9) n = arz f (G.2 m 9) n) (e10 : f1 (G.2 m 10) = f (G.2 m 10)) (e11 : f1 (G.2 m 11) = f (G.2 m 11)) (e12 : f1 (G.2 m 12) = f (G.2 m 12)) : LV f1 G m n := by
  intro c k0 k1
  rw [e9] at k1
  have q1 := h c k0 k1
  unfold CO at q1 ⊢
  rw [arz_kp e10, arz_kp e11, arz_kp e12, gfn_kp e6, gfn_kp e7]
  exact q1
/-- what the law's texts are -/
def LK (ws : List Nat) : Prop := 41 ∉ ws ∧ 42 ∉ ws ∧ 44 ∉ ws ∧ 45 ∉ ws ∧ 46 ∉ ws ∧ 47 ∉ ws
theorem LV.kp {G : wf_G} {ws : List Nat} {own : Bool} {f f1 : py_F} {m : Nat} {n : Int} (h : LV f G m n) (hG : GT G) (Tm : G.1 m = 13) (kp : KP G ws own f f1) (hc : LK ws) : LV f1 G m n := h.same (kp_f kp (wt12_6 hG Tm) (by decide) hc.1 (fun _ => by decide)) (kp_f kp (wt12_7 hG Tm) (by decide) hc.2.1 (fun _ => by decide)) (arz_kp (kp_f kp (wt12_9 hG Tm) (by decide) hc.2.2.1 (fun _ => by decide)) _) (kp_f kp (wt12_10 hG Tm) (by decide) hc.2.2.2.1 (fun _ => by decide)) (kp_f kp (wt12_11 hG Tm) (by decide) hc.2.2.2.2.1 (fun _ => by decide)) (kp_f kp (wt12_12 hG Tm) (by decide) hc.2.2.2.2.2 (fun _ => by decide))
theorem co_a {f f1 : py_F} {G : wf_G} {m : Nat} {K : Int} (a : TR f f1 G m 80 0 1) (hw : mi f1 m 4 = -1) (v10 : arz f1 (G.2 m 10) K = cdv f G m) (v11 : arz f1 (G.2 m 11) K = cdv f G m) (v12 : arz f1 (G.2 m 12) K = cdv f1 G m) (h340 : cdv f1 G m ≤ 340) : CO f1 G m (mi f m 14) K := by
  obtain ⟨⟨a1, a2, a3, a4⟩, a5, a6⟩ := a
  unfold CO
  rw [v10, v11, v12]
  exact ⟨a2, Int.le_refl _, a4, h340, Or.inl rfl, a6 hw⟩
theorem co_b {f fs f1 : py_F} {G : wf_G} {m : Nat} {K : Int} (a : TR f fs G m 80 0 1) (b : TR fs f1 G m 80 0 1) (hs : mi fs m 4 = -1) (hw : mi f1 m 4 = -1) (v10 : arz f1 (G.2 m 10) K = cdv f G m) (v11 : arz f1 (G.2 m 11) K = cdv fs G m) (v12 : arz f1 (G.2 m 12) K = cdv f1 G m) (h340 : cdv f1 G m ≤ 340) : CO f1 G m (mi f m 14) K := by
  obtain ⟨⟨a1, a2, a3, a4⟩, a5, a6⟩ := a
  obtain ⟨⟨b1, b2, b3, b4⟩, b5, b6⟩ := b
  unfold CO
  rw [v10, v11, v12]
  refine ⟨a2, a4, b4, h340, Or.inr ?_, ?_⟩
  · exact rn_cong _ (fun j q1 q2 => b5 j (by unfold cbs; omega)) (a6 hs)
  · have := b6 hw
    unfold cbs at this
    rw [a3] at this
    exact this
theorem arz9_rng {E : py_E} {G : wf_G} {L : List Nat} {f : py_F} {m : Nat} {n : Int} (hG : GT G) (hWF : WF E G L f) (Tm : G.1 m = 13) (h0 : 0 ≤ n) (h4 : n ≤ 4) : 0 ≤ arz f (G.2 m 9) n ∧ arz f (G.2 m 9) n ≤ 90 := by
  obtain ⟨g, hg, hi⟩ := wf_arr (n := 5) (lo := 0) (hi := 90) hWF (wt12_9 hG Tm) (by decide) (fun _ => rfl)
  unfold arz
  rw [hg.2]
  exact hi _ (by omega)
/-- the texts ahead of n -/
def LB (f : py_F) (G : wf_G) (m : Nat) (f1 : py_F) (n : Int) : Prop := ∀ k : Int, 0 ≤ k → k < n → LV f G m k → LV f1 G m k
theorem LB.refl {f : py_F} {G : wf_G} {m : Nat} {n : Int} : LB f G m f n := fun _ _ _ h => h
theorem LB.cx {E : py_E} {L : List Nat} {f f1 f2 : py_F} {G : wf_G} {m : Nat} {n : Int} (h : LB f G m f1 n) (hG : GT G) (hWF : WF E G L f1) (Tm : G.1 m = 13) (x : CX f1 f2 G m) (hn : n = mi f1 m 14) (h4 : mi f1 m 14 ≤ 4) (h0 : 0 ≤ mi f1 m 14) : LB f G m f2 n := fun k k0 k1 q => x.lv (h k k0 k1 q) k0 (by omega) (clv_rng hG hWF Tm h0 h4).1 (arz9_rng hG hWF Tm k0 (by omega)).2
theorem LB.ax {f f1 f2 : py_F} {G : wf_G} {m : Nat} {n : Int} (h : LB f G m f1 n) (e6 : f2 (G.2 m 6) = f1 (G.2 m 6)) (e7 : f2 (G.2 m 7) = f1 (G.2 m 7)) (x9 : AX f1 f2 (G.2 m 9) n) (e10 : f2 (G.2 m 10) = f1 (G.2 m 10)) (e11 : f2 (G.2 m 11) = f1 (G.2 m 11)) (e12 : f2 (G.2 m 12) = f1 (G.2 m 12)) : LB f G m f2 n := fun k k0 k1 q => (h k k0 k1 q).same e6 e7 (x9 k k0 (by omega)) e10 e11 e12
theorem LB.kp {G : wf_G} {ws : List Nat} {own : Bool} {f f1 f2 : py_F} {m : Nat} {n : Int} (h : LB f G m f1 n) (hG : GT G) (Tm : G.1 m = 13) (kp : KP G ws own f1 f2) (hc : LK ws) : LB f G m f2 n := fun k k0 k1 q => (h k k0 k1 q).kp hG Tm kp hc
theorem LC.kp {G : wf_G} {ws js : List Nat} {own : Bool} {f f1 : py_F} {m : Nat} (h : LC f G m) (hG : GT G) (Tm : G.1 m = 13) (kp : KP G ws own f f1) (fk : FK js f f1 m) (hc : LK ws) (hd : 43 ∉ ws ∧ 14 ∉ js) : LC f1 G m := h.same (kp_f kp (wt12_6 hG Tm) (by decide) hc.1 (fun _ => by decide)) (kp_f kp (wt12_7 hG Tm) (by decide) hc.2.1 (fun _ => by decide)) (kp_f kp (wt12_10 hG Tm) (by decide) hc.2.2.2.1 (fun _ => by decide)) (kp_f kp (wt12_11 hG Tm) (by decide) hc.2.2.2.2.1 (fun _ => by decide)) (kp_f kp (wt12_12 hG Tm) (by decide) hc.2.2.2.2.2 (fun _ => by decide)) (cdv_k hG Tm kp fk hd) (clv_k hG Tm kp fk ⟨hc.2.2.1, hd.2⟩) (fk_mi fk 14 (by decide) hd.2)
theorem LC.own {E : py_E} {G : wf_G} {L : List Nat} {f f1 : py_F} {m : Nat} (h : LC f G m) (hG : GT G) (hWF : WF E G L f) (Tm : G.1 m = 13) (x : py_ext L f L f1 m) (e14 : mi f1 m 14 = mi f m 14) : LC f1 G m := by
  have c : ∀ (a k : Nat), G.1 a = k → k ≠ 0 → k ≠ 13 → f1 a = f a := fun a k ha h0 h13 => (x a (hWF a (by rw [ha]; exact h0)).1 (wf_ne ha Tm h13)).2
  exact h.same (c _ _ (wt12_6 hG Tm) (by decide) (by decide)) (c _ _ (wt12_7 hG Tm) (by decide) (by decide)) (c _ _ (wt12_10 hG Tm) (by decide) (by decide)) (c _ _ (wt12_11 hG Tm) (by decide) (by decide)) (c _ _ (wt12_12 hG Tm) (by decide) (by decide)) (cdv_own hG hWF Tm x e14) (clv_own hG hWF Tm x e14) e14
theorem LK.of {ws : List Nat} (h : 41 ∉ ws ∧ 42 ∉ ws ∧ 44 ∉ ws ∧ 45 ∉ ws ∧ 46 ∉ ws ∧ 47 ∉ ws) : LK ws := h
/-- one step of reckoning -/
theorem arz_gfn (f : py_F) (t : Nat) (k : Int) : arz f t k = (gfn f t k.toNat).toInt := by
  unfold arz gfn
  generalize f t = ee
  rcases ee with ⟨c, n, g | h⟩ | q
  · rfl
  · rfl
  · rfl
theorem rn_step {f : py_F} {t v : Nat} {D k h h1 : Int} {n n1 : Nat} (a : rn (gfn f t) (gfn f v) D n k.toNat h h1) (hn : n = n1 + 1) (k0 : 0 ≤ k) : ((arz f t k = 0 ∨ arz f t k = 1) → h < D) ∧ (arz f t k = 1 → 0 ≤ arz f v k ∧ arz f v k ≤ 5) ∧ (arz f t k = 9 → 1 ≤ h) ∧ (arz f t k ≠ 0 → arz f t k ≠ 1 → arz f t k ≠ 9 → 2 ≤ h) ∧ ((arz f t k = 0 ∨ arz f t k = 1) → rn (gfn f t) (gfn f v) D n1 (k + 1).toNat (h + 1) h1) ∧ (arz f t k = 9 → rn (gfn f t) (gfn f v) D n1 (k + 1).toNat h h1) ∧ (arz f t k ≠ 0 → arz f t k ≠ 1 → arz f t k ≠ 9 → rn (gfn f t) (gfn f v) D n1 (k + 1).toNat (h - 1) h1) := by
  subst hn
  rw [arz_gfn, arz_gfn, show (k + 1).toNat = k.toNat + 1 by omega]
  unfold rn at a
  by_cases q : (gfn f t k.toNat).toInt = 0 ∨ (gfn f t k.toNat).toInt = 1
  · rw [if_pos q] at a
    exact ⟨fun _ => a.1, a.2.1, fun z => by omega, fun z1 z2 => by omega, fun _ => a.2.2, fun z => by omega, fun z1 z2 => by omega⟩
  · rw [if_neg q] at a
    by_cases q2 : (gfn f t k.toNat).toInt = 9
    · rw [if_pos q2] at a
      exact ⟨fun z => absurd z q, fun z => absurd (Or.inr z) q, fun _ => a.1, fun z1 z2 z3 => absurd q2 z3, fun z => absurd z q, fun _ => a.2, fun z1 z2 z3 => absurd q2 z3⟩
    · rw [if_neg q2] at a
      exact ⟨fun z => absurd z q, fun z => absurd (Or.inr z) q, fun z => absurd z q2, fun _ _ _ => a.1, fun z => absurd z q, fun z => absurd z q2, fun _ _ _ => a.2⟩
/-- the law that holds is told, and what is told can be reckoned -/
def GM (f : py_F) (G : wf_G) (m : Nat) : Prop := mi f m 31 < mi f m 13 ∧ ∀ n : Int, 0 ≤ n → n < mi f m 13 → LV f G m n
theorem GM.kp {G : wf_G} {ws js : List Nat} {own : Bool} {f f1 : py_F} {m : Nat} (h : GM f G m) (hG : GT G) (Tm : G.1 m = 13) (kp : KP G ws own f f1) (fk : FK js f f1 m) (hc : LK ws) (hd : 13 ∉ js ∧ 31 ∉ js) : GM f1 G m := ⟨by rw [fk_mi fk 31 (by decide) hd.2, fk_mi fk 13 (by decide) hd.1]; exact h.1, fun n n0 n1 => (h.2 n n0 (by rw [← fk_mi fk 13 (by decide) hd.1]; exact n1)).kp hG Tm kp hc⟩
theorem GM.kps {G : wf_G} {ws : List Nat} {own : Bool} {f f1 : py_F} {m : Nat} (h : GM f G m) (hG : GT G) (Tm : G.1 m = 13) (kp : KP G ws own f f1) (hc : LK ws) (hd : 13 ∉ ws) : GM f1 G m := h.kp (js := []) hG Tm kp (FK.refl.same (kp_f kp Tm (by decide) hd (fun _ => by decide))) hc (by decide)
theorem GM.own {E : py_E} {G : wf_G} {L : List Nat} {f f1 : py_F} {m : Nat} (h : GM f G m) (hG : GT G) (hWF : WF E G L f) (Tm : G.1 m = 13) (x : py_ext L f L f1 m) (e13 : mi f1 m 13 = mi f m 13) (e31 : mi f1 m 31 = mi f m 31) : GM f1 G m := by
  have c : ∀ (a k : Nat), G.1 a = k → k ≠ 0 → k ≠ 13 → f1 a = f a := fun a k ha h0 h13 => (x a (hWF a (by rw [ha]; exact h0)).1 (wf_ne ha Tm h13)).2
  refine ⟨by rw [e13, e31]; exact h.1, fun n n0 n1 => (h.2 n n0 (by rw [← e13]; exact n1)).same (c _ _ (wt12_6 hG Tm) (by decide) (by decide)) (c _ _ (wt12_7 hG Tm) (by decide) (by decide)) (arz_kp (c _ _ (wt12_9 hG Tm) (by decide) (by decide)) _) (c _ _ (wt12_10 hG Tm) (by decide) (by decide)) (c _ _ (wt12_11 hG Tm) (by decide) (by decide)) (c _ _ (wt12_12 hG Tm) (by decide) (by decide))⟩
theorem GM.hold {f : py_F} {G : wf_G} {m : Nat} {a : Int} (h : GM f G m) (ha : a = mi f m 31 ∧ -1 ≤ a) (hn : a ≠ -1) : LV f G m a := h.2 a (by omega) (by have := h.1; omega)
theorem LV.own {E : py_E} {G : wf_G} {L : List Nat} {f f1 : py_F} {m : Nat} {n : Int} (h : LV f G m n) (hG : GT G) (hWF : WF E G L f) (Tm : G.1 m = 13) (x : py_ext L f L f1 m) : LV f1 G m n := by
  have c : ∀ (a k : Nat), G.1 a = k → k ≠ 0 → k ≠ 13 → f1 a = f a := fun a k ha h0 h13 => (x a (hWF a (by rw [ha]; exact h0)).1 (wf_ne ha Tm h13)).2
  exact h.same (c _ _ (wt12_6 hG Tm) (by decide) (by decide)) (c _ _ (wt12_7 hG Tm) (by decide) (by decide)) (arz_kp (c _ _ (wt12_9 hG Tm) (by decide) (by decide)) _) (c _ _ (wt12_10 hG Tm) (by decide) (by decide)) (c _ _ (wt12_11 hG Tm) (by decide) (by decide)) (c _ _ (wt12_12 hG Tm) (by decide) (by decide))
theorem GM.told {E : py_E} {G : wf_G} {L : List Nat} {f f1 : py_F} {m : Nat} {n : Int} {P : Prop} (h : GM f G m) (hl : P → LV f G m n) (hp : P) (hG : GT G) (hWF : WF E G L f) (Tm : G.1 m = 13) (x : py_ext L f L f1 m) (e13 : mi f1 m 13 = mi f m 13 + 1 ∧ n = mi f m 13) (e31 : mi f1 m 31 = mi f m 31) : GM f1 G m := by
  refine ⟨by have := h.1; omega, fun k k0 k1 => ?_⟩
  by_cases e : k = n
  · subst e
    exact (hl hp).own hG hWF Tm x
  · exact (h.2 k k0 (by omega)).own hG hWF Tm x
theorem GM.held {E : py_E} {G : wf_G} {L : List Nat} {f f1 : py_F} {m : Nat} (h : GM f G m) (hG : GT G) (hWF : WF E G L f) (Tm : G.1 m = 13) (x : py_ext L f L f1 m) (e13 : mi f1 m 13 = mi f m 13) (hlt : mi f1 m 31 < mi f1 m 13) : GM f1 G m := ⟨hlt, fun k k0 k1 => (h.2 k k0 (by omega)).own hG hWF Tm x⟩
theorem GM.lb {f f1 : py_F} {G : wf_G} {m : Nat} {n : Int} (h : GM f G m) (b : LB f G m f1 n) (e31 : mi f1 m 31 = mi f m 31) (e13 : mi f1 m 13 = mi f m 13) (hn : mi f m 13 ≤ n) : GM f1 G m := ⟨by have := h.1; omega, fun k k0 k1 => b k k0 (by omega) (h.2 k k0 (by omega))⟩
