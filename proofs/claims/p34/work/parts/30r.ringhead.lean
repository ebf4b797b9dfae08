def bt (x : Int32) (i : Nat) : Bool := x.toBitVec.getLsbD i
theorem b_ext {x y : Int32} (h : ∀ i, i < 32 → bt x i = bt y i) : x = y := Int32.toBitVec_inj.mp (BitVec.eq_of_getLsbD_eq (fun i hi => h i hi))
theorem b_or (x y : Int32) (i : Nat) : bt (x ||| y) i = (bt x i || bt y i) := by unfold bt; rw [Int32.toBitVec_or, BitVec.getLsbD_or]
theorem b_and (x y : Int32) (i : Nat) : bt (x &&& y) i = (bt x i && bt y i) := by unfold bt; rw [Int32.toBitVec_and, BitVec.getLsbD_and]
theorem b_0 (i : Nat) : bt 0 i = false := BitVec.getLsbD_zero
theorem s_l : ∀ n, n < 32 → ((nI n &&& 31).toBitVec.smod 32).toNat = n := by decide +kernel
theorem b_shl (n : Nat) (hn : n < 32) (x : Int32) {i : Nat} (hi : i < 32) : bt (x <<< (nI n &&& 31)) i = (decide (n ≤ i) && bt x (i - n)) := by
  unfold bt
  rw [Int32.toBitVec_shiftLeft]
  show (x.toBitVec <<< ((nI n &&& 31).toBitVec.smod 32).toNat).getLsbD i = _
  rw [s_l n hn, BitVec.getLsbD_shiftLeft]
  rcases Nat.lt_or_ge i n with h | h
  · simp [h, Nat.not_le.mpr h]
  · simp [hi, h, Nat.not_lt.mpr h]
theorem b_sshr (n : Nat) (hn : n < 32) (x : Int32) {i : Nat} (hi : i < 32) : bt (x >>> (nI n &&& 31)) i = if n + i < 32 then bt x (n + i) else bt x 31 := by
  unfold bt
  rw [Int32.toBitVec_shiftRight]
  show (x.toBitVec.sshiftRight ((nI n &&& 31).toBitVec.smod 32).toNat).getLsbD i = _
  rw [s_l n hn, BitVec.getLsbD_sshiftRight, BitVec.msb_eq_getLsbD_last]
  simp [hi]

theorem b_1 : ∀ i, i < 32 → bt 1 i = decide (i = 0) := by decide +kernel
/-- a bit of a set of families -/
def HB (S k : Int32) : Prop := (S >>> (k &&& 31)) &&& 1 = 1
theorem hb_n (n : Nat) (hn : n < 10) (S : Int32) : ((S >>> (nI n &&& 31)) &&& 1 = 1) ↔ bt S n = true := by
  constructor
  · intro h
    have h1 : bt ((S >>> (nI n &&& 31)) &&& 1) 0 = bt 1 0 := by rw [h]
    rw [b_and, b_sshr n (by omega) S (by omega), if_pos (by omega), b_1 0 (by omega)] at h1
    simpa using h1
  · intro h
    apply b_ext
    intro i hi
    rw [b_and, b_sshr n (by omega) S hi, b_1 i hi]
    by_cases hz : i = 0
    · subst hz
      rw [if_pos (by omega)]
      simpa using h
    · simp [hz]
theorem hb_bt {S k : Int32} (h0 : 0 ≤ k.toInt) (h9 : k.toInt ≤ 9) : HB S k ↔ bt S k.toInt.toNat = true := by
  rcases ti_ten k h0 h9 with rfl | rfl | rfl | rfl | rfl | rfl | rfl | rfl | rfl | rfl
  · exact hb_n 0 (by omega) S
  · exact hb_n 1 (by omega) S
  · exact hb_n 2 (by omega) S
  · exact hb_n 3 (by omega) S
  · exact hb_n 4 (by omega) S
  · exact hb_n 5 (by omega) S
  · exact hb_n 6 (by omega) S
  · exact hb_n 7 (by omega) S
  · exact hb_n 8 (by omega) S
  · exact hb_n 9 (by omega) S
theorem bt_one (k : Nat) (hk : k < 10) {i : Nat} (hi : i < 32) : bt ((1 : Int32) <<< (nI k &&& 31)) i = decide (i = k) := by
  rw [b_shl k (by omega) 1 hi]
  by_cases h : k ≤ i
  · rw [b_1 (i - k) (by omega)]
    by_cases h2 : i = k
    · subst h2
      simp
    · have h3 : ¬ i - k = 0 := by omega
      simp [h2, h3]
  · have h2 : ¬ i = k := by omega
    simp [h, h2]
theorem bt_set {S k : Int32} (h0 : 0 ≤ k.toInt) (h9 : k.toInt ≤ 9) {i : Nat} (hi : i < 32) : bt (S ||| ((1 : Int32) <<< (k &&& 31))) i = (bt S i || decide (i = k.toInt.toNat)) := by
  rw [b_or]
  rcases ti_ten k h0 h9 with rfl | rfl | rfl | rfl | rfl | rfl | rfl | rfl | rfl | rfl
  · rw [show bt ((1 : Int32) <<< ((0 : Int32) &&& 31)) i = _ from bt_one 0 (by omega) hi]; rfl
  · rw [show bt ((1 : Int32) <<< ((1 : Int32) &&& 31)) i = _ from bt_one 1 (by omega) hi]; rfl
  · rw [show bt ((1 : Int32) <<< ((2 : Int32) &&& 31)) i = _ from bt_one 2 (by omega) hi]; rfl
  · rw [show bt ((1 : Int32) <<< ((3 : Int32) &&& 31)) i = _ from bt_one 3 (by omega) hi]; rfl
  · rw [show bt ((1 : Int32) <<< ((4 : Int32) &&& 31)) i = _ from bt_one 4 (by omega) hi]; rfl
  · rw [show bt ((1 : Int32) <<< ((5 : Int32) &&& 31)) i = _ from bt_one 5 (by omega) hi]; rfl
  · rw [show bt ((1 : Int32) <<< ((6 : Int32) &&& 31)) i = _ from bt_one 6 (by omega) hi]; rfl
  · rw [show bt ((1 : Int32) <<< ((7 : Int32) &&& 31)) i = _ from bt_one 7 (by omega) hi]; rfl
  · rw [show bt ((1 : Int32) <<< ((8 : Int32) &&& 31)) i = _ from bt_one 8 (by omega) hi]; rfl
  · rw [show bt ((1 : Int32) <<< ((9 : Int32) &&& 31)) i = _ from bt_one 9 (by omega) hi]; rfl
theorem hb_or {S k c : Int32} (h0 : 0 ≤ k.toInt) (h9 : k.toInt ≤ 9) (c0 : 0 ≤ c.toInt) (c9 : c.toInt ≤ 9) : HB (S ||| ((1 : Int32) <<< (k &&& 31))) c ↔ HB S c ∨ c = k := by
  rw [hb_bt c0 c9, hb_bt c0 c9, bt_set h0 h9 (by omega)]
  constructor
  · intro h
    rw [Bool.or_eq_true] at h
    rcases h with h | h
    · exact Or.inl h
    · exact Or.inr (Int32.toInt_inj.mp (by have := of_decide_eq_true h; omega))
  · rintro (h | h)
    · rw [h]; rfl
    · subst h
      simp
theorem hb_zero {c : Int32} (c0 : 0 ≤ c.toInt) (c9 : c.toInt ≤ 9) : ¬ HB 0 c := by
  rw [hb_bt c0 c9, b_0]
  decide
/-- how many of the first n bits are set -/
def pn (S : Int32) : Nat → Nat
  | 0 => 0
  | n + 1 => pn S n + if bt S n = true then 1 else 0
theorem pn_le (S : Int32) (n : Nat) : pn S n ≤ n := by
  induction n with
  | zero => exact Nat.le_refl 0
  | succ n ih =>
    unfold pn
    split <;> omega
theorem pn_or {S S1 : Int32} {k : Nat} (hk : bt S k = false) (n : Nat) (hn : n ≤ 32) (h : ∀ i, i < 32 → bt S1 i = (bt S i || decide (i = k))) : pn S1 n = pn S n + if k < n then 1 else 0 := by
  induction n with
  | zero => simp [pn]
  | succ n ih =>
    have ih2 := ih (by omega)
    unfold pn
    rw [ih2, h n (by omega)]
    by_cases e : n = k
    · subst e
      simp [hk]
    · by_cases q : bt S n = true
      · simp [q]
        split <;> split <;> omega
      · simp [q, e]
        split <;> split <;> omega
theorem pn_step {S S1 k : Int32} (h0 : 0 ≤ k.toInt) (h9 : k.toInt ≤ 9) (hn : ¬ HB S k) (e : S1 = S ||| ((1 : Int32) <<< (k &&& 31))) : pn S1 10 = pn S 10 + 1 ∧ pn S1 10 ≤ 10 := by
  subst e
  have hb : bt S k.toInt.toNat = false := by
    rw [hb_bt h0 h9] at hn
    simpa using hn
  have h1 := pn_or hb 10 (by omega) (fun i hi => bt_set h0 h9 hi)
  rw [if_pos (by omega)] at h1
  exact ⟨h1, pn_le _ _⟩
/-- a set that is left by nobody -/
def CL (f : py_F) (G : wf_G) (m : Nat) (S : Int32) : Prop := ∀ c : Int32, 0 ≤ c.toInt → c.toInt ≤ 9 → HB S c → ∃ d : Int32, 0 ≤ d.toInt ∧ d.toInt ≤ 9 ∧ NX f G m c.toInt d.toInt ∧ HB S d
def CLx (f : py_F) (G : wf_G) (m : Nat) (S k : Int32) : Prop := ∀ c : Int32, 0 ≤ c.toInt → c.toInt ≤ 9 → HB S c → ∃ d : Int32, 0 ≤ d.toInt ∧ d.toInt ≤ 9 ∧ NX f G m c.toInt d.toInt ∧ (HB S d ∨ d = k)
theorem clx_zero {f : py_F} {G : wf_G} {m : Nat} {k : Int32} : CLx f G m 0 k := fun c c0 c9 h => absurd h (hb_zero c0 c9)
theorem clx_step {f : py_F} {G : wf_G} {m : Nat} {S S1 k d x : Int32} (h : CLx f G m S k) (h0 : 0 ≤ k.toInt) (h9 : k.toInt ≤ 9) (d0 : 0 ≤ d.toInt) (d9 : d.toInt ≤ 9) (hn : NX f G m k.toInt d.toInt) (ex : x = (1 : Int32) <<< (k &&& 31)) (e : S1 = S ||| x) : CLx f G m S1 d := by
  subst ex
  subst e
  intro c c0 c9 hc
  rcases (hb_or h0 h9 c0 c9).mp hc with hc | hc
  · obtain ⟨b, b0, b9, hb, h2⟩ := h c c0 c9 hc
    exact ⟨b, b0, b9, hb, Or.inl ((hb_or h0 h9 b0 b9).mpr h2)⟩
  · subst hc
    exact ⟨d, d0, d9, hn, Or.inr rfl⟩
theorem clx_close {f : py_F} {G : wf_G} {m : Nat} {S k : Int32} (h : CLx f G m S k) (hk : HB S k) : CL f G m S := by
  intro c c0 c9 hc
  obtain ⟨b, b0, b9, hb, h2⟩ := h c c0 c9 hc
  rcases h2 with h2 | h2
  · exact ⟨b, b0, b9, hb, h2⟩
  · subst h2
    exact ⟨b, b0, b9, hb, hk⟩
theorem NX.ws {f : py_F} {G : wf_G} {m : Nat} {a r : Int} (h : NX f G m a r) (hr : r ≠ -1) : 0 ≤ r ∧ WS f G m r ∧ nw f G m r 1 = WT f G m a := by
  rcases h with ⟨h1, -⟩ | ⟨h1, -, h3, h4, -⟩
  · exact absurd h1 hr
  · exact ⟨h1, h3, h4⟩
theorem NX.lt {f : py_F} {G : wf_G} {m : Nat} {a r : Int} (h : NX f G m a r) (h0 : 0 ≤ mi f m 25) : r < mi f m 25 := by
  rcases h with ⟨h1, -⟩ | ⟨-, h2, -⟩
  · omega
  · exact h2
/-- what stays as long as no family is told anything -/
def SM (f f1 : py_F) (G : wf_G) (m : Nat) : Prop := f1 (G.2 m 26) = f (G.2 m 26) ∧ f1 (G.2 m 21) = f (G.2 m 21) ∧ mi f1 m 24 = mi f m 24 ∧ mi f1 m 25 = mi f m 25
theorem SM.refl {f : py_F} {G : wf_G} {m : Nat} : SM f f G m := ⟨rfl, rfl, rfl, rfl⟩
theorem mi_kp {f f1 : py_F} {m : Nat} (e : f1 m = f m) (j : Nat) : mi f1 m j = mi f m j := by
  unfold mi mx
  rw [e]
theorem SM.kp {G : wf_G} {ws : List Nat} {own : Bool} {f f1 f2 : py_F} {m : Nat} (h : SM f f1 G m) (hG : GT G) (Tm : G.1 m = 13) (kp : KP G ws own f1 f2) (hc : 55 ∉ ws ∧ 52 ∉ ws ∧ 13 ∉ ws) : SM f f2 G m := by
  have e := kp_f kp Tm (by decide) hc.2.2 (fun _ => by decide)
  exact ⟨(kp_f kp (wt12_26 hG Tm) (by decide) hc.1 (fun _ => by decide)).trans h.1, (kp_f kp (wt12_21 hG Tm) (by decide) hc.2.1 (fun _ => by decide)).trans h.2.1, (mi_kp e 24).trans h.2.2.1, (mi_kp e 25).trans h.2.2.2⟩
theorem nw_sm {f f1 : py_F} {G : wf_G} {m : Nat} (h : SM f f1 G m) (a k : Int) : nw f1 G m a k = nw f G m a k := arz_kp h.1 _
theorem wt_sm {f f1 : py_F} {G : wf_G} {m : Nat} (h : SM f f1 G m) (a : Int) : WT f1 G m a = WT f G m a := by
  unfold WT WB lr
  rw [nw_sm h, nw_sm h, h.2.2.1, arz_kp h.2.1]
theorem ws_sm {f f1 : py_F} {G : wf_G} {m : Nat} (h : SM f f1 G m) (a : Int) : WS f1 G m a ↔ WS f G m a := by
  unfold WS
  rw [wt_sm h, nw_sm h]
theorem nx_sm {f f1 : py_F} {G : wf_G} {m : Nat} (h : SM f f1 G m) {a r : Int} (q : NX f1 G m a r) : NX f G m a r := by
  unfold NX at q ⊢
  simp only [ws_sm h, nw_sm h, wt_sm h, h.2.2.2] at q
  exact q
/-- one on the ring: the next one -/
theorem cl_next {f f1 : py_F} {G : wf_G} {m : Nat} {S k r : Int32} (hcl : CL f G m S) (hsm : SM f f1 G m) (h0 : 0 ≤ k.toInt) (h9 : k.toInt ≤ 9) (hk : HB S k) (hn : NX f1 G m k.toInt r.toInt) : 0 ≤ r.toInt ∧ HB S r ∧ WS f G m r.toInt ∧ nw f1 G m r.toInt 1 = WT f G m k.toInt := by
  obtain ⟨d, d0, d9, hd, hs⟩ := hcl k h0 h9 hk
  have hn2 := nx_sm hsm hn
  have e : r = d := Int32.toInt_inj.mp (hn2.uniq hd)
  subst e
  obtain ⟨-, q2, q3⟩ := hn2.ws (by omega)
  exact ⟨d0, hs, q2, by rw [nw_sm hsm]; exact q3⟩
/-- how many of the first n want -/
def wsb (f : py_F) (G : wf_G) (m : Nat) (a : Int) : Nat := if nw f G m a 1 = -1 then 0 else if WT f G m a = nw f G m a 1 then 0 else 1
theorem wsb_1 {f : py_F} {G : wf_G} {m : Nat} {a : Int} (h : WS f G m a) : wsb f G m a = 1 := by
  unfold wsb
  rw [if_neg h.1, if_neg h.2]
theorem wsb_le (f : py_F) (G : wf_G) (m : Nat) (a : Int) : wsb f G m a ≤ 1 := by
  unfold wsb
  split
  · omega
  · split <;> omega
def wn (f : py_F) (G : wf_G) (m : Nat) : Nat → Nat
  | 0 => 0
  | n + 1 => wn f G m n + wsb f G m n
theorem wn_le {f f1 : py_F} {G : wf_G} {m : Nat} (n : Nat) (h : ∀ i : Nat, i < n → wsb f1 G m i ≤ wsb f G m i) : wn f1 G m n ≤ wn f G m n := by
  induction n with
  | zero => exact Nat.le_refl 0
  | succ n ih =>
    have h1 := ih (fun i hi => h i (by omega))
    have h2 := h n (by omega)
    unfold wn
    omega
theorem wn_lt {f f1 : py_F} {G : wf_G} {m : Nat} (n : Nat) (h : ∀ i : Nat, i < n → wsb f1 G m i ≤ wsb f G m i) {k : Nat} (hk : k < n) (hl : wsb f1 G m k < wsb f G m k) : wn f1 G m n < wn f G m n := by
  induction n with
  | zero => omega
  | succ n ih =>
    unfold wn
    by_cases e : k = n
    · subst e
      have h1 := wn_le k (fun i hi => h i (by omega))
      omega
    · have h1 := ih (fun i hi => h i (by omega)) (by omega)
      have h2 := h n (by omega)
      omega
/-- the rows that wanting rests on, but the families' own -/
def SL (f f1 : py_F) (G : wf_G) (m : Nat) : Prop := f1 (G.2 m 21) = f (G.2 m 21) ∧ mi f1 m 24 = mi f m 24 ∧ mi f1 m 25 = mi f m 25
theorem SL.refl {f : py_F} {G : wf_G} {m : Nat} : SL f f G m := ⟨rfl, rfl, rfl⟩
theorem SL.trans {f f1 f2 : py_F} {G : wf_G} {m : Nat} (h : SL f f1 G m) (h2 : SL f1 f2 G m) : SL f f2 G m := ⟨h2.1.trans h.1, h2.2.1.trans h.2.1, h2.2.2.trans h.2.2⟩
theorem SL.of {G : wf_G} {ws js : List Nat} {own : Bool} {f f1 : py_F} {m : Nat} (hG : GT G) (Tm : G.1 m = 13) (kp : KP G ws own f f1) (fk : FK js f f1 m) (hc : 52 ∉ ws ∧ 24 ∉ js ∧ 25 ∉ js) : SL f f1 G m := ⟨kp_f kp (wt12_21 hG Tm) (by decide) hc.1 (fun _ => by decide), fk_mi fk 24 (by decide) hc.2.1, fk_mi fk 25 (by decide) hc.2.2⟩
theorem wb_sl {f f1 : py_F} {G : wf_G} {m : Nat} (h : SL f f1 G m) (a d : Int32) : WB f1 G m a d = WB f G m a d := by
  unfold WB lr
  rw [arz_kp h.1, h.2.1]
/-- who has gone where it wanted to go wants no more -/
theorem ws_gone {f f1 : py_F} {G : wf_G} {m : Nat} {a : Int} (h : SL f f1 G m) (hw : WS f G m a) (hr : nw f1 G m a 1 = WT f G m a) (hd : nw f1 G m a 3 = 0) : wsb f1 G m a = 0 := by
  unfold wsb
  by_cases hz : nw f1 G m a 1 = -1
  · rw [if_pos hz]
  · rw [if_neg hz]
    have h1 : WT f1 G m a = nw f1 G m a 1 := by
      unfold WT
      rw [if_neg hz, wb_sl h, hr, hd]
      obtain ⟨w1, w2⟩ := hw
      unfold WT at w2 hr ⊢
      rw [if_neg w1] at w2 hr ⊢
      unfold WB at w2 hr ⊢
      by_cases hb : lr f G m (Int32.ofInt (nw f G m a 1)).toInt 3 = 1
      · rw [if_pos hb] at w2
        exfalso
        apply w2
        unfold nw arz
        split
        · rw [Int32.ofInt_toInt]
        · rfl
      · rw [if_neg hb] at hr ⊢
        generalize hv : max 0 (min (mi f m 24 - 1) (Int32.ofInt (nw f G m a 1) + Int32.ofInt (nw f G m a 3)).toInt) = v at hr ⊢
        have hlo := Int32.le_toInt (Int32.ofInt (nw f G m a 1) + Int32.ofInt (nw f G m a 3))
        have hhi := Int32.toInt_le (Int32.ofInt (nw f G m a 1) + Int32.ofInt (nw f G m a 3))
        have hv0 : 0 ≤ v := by omega
        have hv1 : v ≤ 2147483647 := by
          have : (Int32.ofInt (nw f G m a 1) + Int32.ofInt (nw f G m a 3)).toInt ≤ 2147483647 := hhi
          omega
        have hv2 : v ≤ mi f m 24 - 1 ∨ v = 0 := by omega
        have ev : (Int32.ofInt v).toInt = v := by
          have hs : Int32.size = 4294967296 := rfl
          rw [Int32.toInt_ofInt]
          exact Int.bmod_eq_of_le (by omega) (by omega)
        have ez : (Int32.ofInt v + Int32.ofInt 0).toInt = v := by
          rw [Int32.toInt_add, ev]
          rw [show (Int32.ofInt 0).toInt = 0 from rfl, Int.add_zero]
          exact Int.bmod_eq_of_le (by omega) (by omega)
        rw [ev, ez]
        split
        · rfl
        · omega
    rw [if_pos h1]
theorem wsb_same {f f1 : py_F} {G : wf_G} {m : Nat} {a : Int} (h : SL f f1 G m) (h1 : nw f1 G m a 1 = nw f G m a 1) (h3 : nw f1 G m a 3 = nw f G m a 3) : wsb f1 G m a = wsb f G m a := by
  unfold wsb WT
  rw [h1, h3, wb_sl h]
theorem SM.fk {G : wf_G} {ws js : List Nat} {own : Bool} {f f1 f2 : py_F} {m : Nat} (h : SM f f1 G m) (hG : GT G) (Tm : G.1 m = 13) (kp : KP G ws own f1 f2) (fk : FK js f1 f2 m) (hc : 55 ∉ ws ∧ 52 ∉ ws ∧ 24 ∉ js ∧ 25 ∉ js) : SM f f2 G m := ⟨(kp_f kp (wt12_26 hG Tm) (by decide) hc.1 (fun _ => by decide)).trans h.1, (kp_f kp (wt12_21 hG Tm) (by decide) hc.2.1 (fun _ => by decide)).trans h.2.1, (fk_mi fk 24 (by decide) hc.2.2.1).trans h.2.2.1, (fk_mi fk 25 (by decide) hc.2.2.2).trans h.2.2.2⟩
theorem SM.toL {G : wf_G} {f f1 : py_F} {m : Nat} (h : SM f f1 G m) : SL f f1 G m := ⟨h.2.1, h.2.2.1, h.2.2.2⟩
/-- what the ring's first round has written -/
def TV (f f1 : py_F) (G : wf_G) (m : Nat) (S : Int32) : Prop := ∀ c : Int32, 0 ≤ c.toInt → c.toInt ≤ 9 → HB S c → WS f G m c.toInt ∧ arz f1 (G.2 m 36) c.toInt = WT f G m c.toInt
theorem TV.zero {f f1 : py_F} {G : wf_G} {m : Nat} : TV f f1 G m 0 := fun c c0 c9 h => absurd h (hb_zero c0 c9)
theorem TV.kp {f f1 f2 : py_F} {G : wf_G} {m : Nat} {S : Int32} (h : TV f f1 G m S) (e : f2 (G.2 m 36) = f1 (G.2 m 36)) : TV f f2 G m S := fun c c0 c9 hc => ⟨(h c c0 c9 hc).1, by rw [arz_kp e]; exact (h c c0 c9 hc).2⟩
theorem TV.step {f f1 f2 : py_F} {L1 L2 : List Nat} {G : wf_G} {m n : Nat} {c : ClassId} {g : Nat → Int32} {S S1 k x v : Int32} (h : TV f f1 G m S) (h0 : 0 ≤ k.toInt) (h9 : k.toInt ≤ 9) (ex : x = (1 : Int32) <<< (k &&& 31)) (e : S1 = S ||| x) (p : py_at L1 f1 (G.2 m 36) (.inl (c, n, .inl g))) (p' : py_at L2 f2 (G.2 m 36) (.inl (c, n, .inl (upd g k.toNatClampNeg v)))) (hw : WS f G m k.toInt) (hv : v.toInt = WT f G m k.toInt) : TV f f2 G m S1 := by
  subst ex
  subst e
  obtain ⟨u1, u2⟩ := arz_up p p' h0
  intro c c0 c9 hc
  by_cases hz : c = k
  · subst hz
    exact ⟨hw, by rw [u1]; exact hv⟩
  · rcases (hb_or h0 h9 c0 c9).mp hc with hc | hc
    · exact ⟨(h c c0 c9 hc).1, by rw [u2 _ c0 (fun q => hz (Int32.toInt_inj.mp q))]; exact (h c c0 c9 hc).2⟩
    · exact absurd hc hz
/-- the ring's second round, up to n: who is of the ring has gone -/
def TN (fS f1 : py_F) (G : wf_G) (m : Nat) (S : Int32) (n : Int) : Prop := ∀ c : Int32, 0 ≤ c.toInt → c.toInt ≤ 9 → (c.toInt < n ∧ HB S c → nw f1 G m c.toInt 1 = arz fS (G.2 m 36) c.toInt ∧ nw f1 G m c.toInt 3 = 0) ∧ (¬ (c.toInt < n ∧ HB S c) → nw f1 G m c.toInt 1 = nw fS G m c.toInt 1 ∧ nw f1 G m c.toInt 3 = nw fS G m c.toInt 3)
theorem TN.zero {fS : py_F} {G : wf_G} {m : Nat} {S : Int32} {n : Int} (hn : n ≤ 0) : TN fS fS G m S n := fun c c0 c9 => ⟨fun h => absurd h.1 (by omega), fun _ => ⟨rfl, rfl⟩⟩
theorem TN.skip {fS f1 : py_F} {G : wf_G} {m : Nat} {S k : Int32} {n n1 : Int} (h : TN fS f1 G m S n) (hn : n = k.toInt) (h1 : n1 = n + 1) (hk : ¬ HB S k) : TN fS f1 G m S n1 := by
  intro c c0 c9
  obtain ⟨q1, q2⟩ := h c c0 c9
  have hne : HB S c → c.toInt ≠ n := fun hc e => hk (by have : c = k := Int32.toInt_inj.mp (by omega); subst this; exact hc)
  refine ⟨fun hc => q1 ⟨by have := hne hc.2; omega, hc.2⟩, fun hc => q2 (fun hz => hc ⟨by omega, hz.2⟩)⟩
theorem tl3 {f0 f1 f2 f3 : py_F} {G : wf_G} {m : Nat} {k v h : Int} (t1 : TL f0 f1 G m k 1 v) (t2 : TL f1 f2 G m k 2 h) (t3 : TL f2 f3 G m k 3 0) (hk : 0 ≤ k) : nw f3 G m k 1 = v ∧ nw f3 G m k 3 = 0 ∧ ∀ i : Int, 0 ≤ i → i ≠ k → nw f3 G m i 1 = nw f0 G m i 1 ∧ nw f3 G m i 3 = nw f0 G m i 3 := by
  refine ⟨?_, t3.1, fun i i0 hi => ⟨?_, ?_⟩⟩
  · rw [t3.2 k 1 hk (by omega) (by omega) (Or.inr (by omega)), t2.2 k 1 hk (by omega) (by omega) (Or.inr (by omega)), t1.1]
  · rw [t3.2 i 1 i0 (by omega) (by omega) (Or.inl hi), t2.2 i 1 i0 (by omega) (by omega) (Or.inl hi), t1.2 i 1 i0 (by omega) (by omega) (Or.inl hi)]
  · rw [t3.2 i 3 i0 (by omega) (by omega) (Or.inl hi), t2.2 i 3 i0 (by omega) (by omega) (Or.inl hi), t1.2 i 3 i0 (by omega) (by omega) (Or.inl hi)]
theorem TN.step {fS f0 f1 f2 f3 : py_F} {G : wf_G} {m : Nat} {S k : Int32} {n n1 v h : Int} (q : TN fS f0 G m S n) (hn : n = k.toInt) (h1 : n1 = n + 1) (h0 : 0 ≤ k.toInt) (hk : HB S k) (t1 : TL f0 f1 G m k.toInt 1 v) (t2 : TL f1 f2 G m k.toInt 2 h) (t3 : TL f2 f3 G m k.toInt 3 0) (hv : v = arz fS (G.2 m 36) k.toInt) : TN fS f3 G m S n1 := by
  obtain ⟨u1, u2, u3⟩ := tl3 t1 t2 t3 h0
  intro c c0 c9
  by_cases hz : c = k
  · subst hz
    exact ⟨fun _ => ⟨by rw [u1, hv], u2⟩, fun hc => absurd ⟨by omega, hk⟩ hc⟩
  · have hne : c.toInt ≠ k.toInt := fun e => hz (Int32.toInt_inj.mp e)
    obtain ⟨q1, q2⟩ := q c c0 c9
    obtain ⟨w1, w2⟩ := u3 _ c0 hne
    rw [w1, w2]
    exact ⟨fun hc => q1 ⟨by omega, hc.2⟩, fun hc => q2 (fun hy => hc ⟨by omega, hy.2⟩)⟩
theorem i_of {i : Nat} (h : i < 10) : (Int32.ofInt (i : Int)).toInt = i := by
  have hs : Int32.size = 4294967296 := rfl
  rw [Int32.toInt_ofInt]
  exact Int.bmod_eq_of_le (by omega) (by omega)
theorem SL.of2 {G : wf_G} {ws js : List Nat} {own : Bool} {f fS f1 : py_F} {m : Nat} (hG : GT G) (Tm : G.1 m = 13) (kp : KP G ws own fS f1) (k0 : FK js f fS m) (k1 : FK js f f1 m) (hc : 52 ∉ ws ∧ 24 ∉ js ∧ 25 ∉ js) : SL fS f1 G m := ⟨kp_f kp (wt12_21 hG Tm) (by decide) hc.1 (fun _ => by decide), (fk_mi k1 24 (by decide) hc.2.1).trans (fk_mi k0 24 (by decide) hc.2.1).symm, (fk_mi k1 25 (by decide) hc.2.2).trans (fk_mi k0 25 (by decide) hc.2.2).symm⟩
/-- behind the ring fewer want -/
theorem turn_end {f fS f1 : py_F} {G : wf_G} {m : Nat} {S a : Int32} {n : Int} (hm : SM f fS G m) (hl : SL fS f1 G m) (tv : TV f fS G m S) (tn : TN fS f1 G m S n) (hn : mi f m 25 ≤ n) (h10 : mi f m 25 ≤ 10) (a0 : 0 ≤ a.toInt) (a9 : a.toInt ≤ 9) (ha : HB S a) (hlt : a.toInt < mi f m 25) : wn f1 G m (mi f m 25).toNat < wn f G m (mi f m 25).toNat := by
  have hsl : SL f f1 G m := hm.toL.trans hl
  have key : ∀ c : Int32, 0 ≤ c.toInt → c.toInt ≤ 9 → c.toInt < n → wsb f1 G m c.toInt ≤ wsb f G m c.toInt ∧ (HB S c → wsb f1 G m c.toInt < wsb f G m c.toInt) := by
    intro c c0 c9 cn
    obtain ⟨q1, q2⟩ := tn c c0 c9
    by_cases hc : HB S c
    · obtain ⟨w1, w2⟩ := tv c c0 c9 hc
      obtain ⟨z1, z2⟩ := q1 ⟨cn, hc⟩
      have g1 := ws_gone hsl w1 (by rw [z1, w2]) z2
      have g2 := wsb_1 w1
      exact ⟨by omega, fun _ => by omega⟩
    · obtain ⟨z1, z2⟩ := q2 (fun hy => hc hy.2)
      have g1 := wsb_same hsl (by rw [z1, nw_sm hm]) (by rw [z2, nw_sm hm])
      exact ⟨by omega, fun hy => absurd hy hc⟩
  have hN : ((mi f m 25).toNat : Int) ≤ 10 := by omega
  refine wn_lt _ (fun i hi => ?_) (k := a.toInt.toNat) (by omega) ?_
  · have e := i_of (i := i) (by omega)
    have := (key (Int32.ofInt i) (by omega) (by omega) (by omega)).1
    rw [e] at this
    exact this
  · have := (key a a0 a9 (by omega)).2 ha
    rw [show ((a.toInt.toNat : Nat) : Int) = a.toInt by omega]
    exact this
/-- behind one's going into an empty hut fewer want -/
theorem gone_end {f f0 f1 f2 f3 : py_F} {G : wf_G} {m : Nat} {k v h : Int} (hm : SM f f0 G m) (hl : SL f0 f3 G m) (t1 : TL f0 f1 G m k 1 v) (t2 : TL f1 f2 G m k 2 h) (t3 : TL f2 f3 G m k 3 0) (k0 : 0 ≤ k) (hlt : k < mi f m 25) (hw : WS f G m k) (hv : v = WT f G m k) : wn f3 G m (mi f m 25).toNat < wn f G m (mi f m 25).toNat := by
  obtain ⟨u1, u2, u3⟩ := tl3 t1 t2 t3 k0
  have hsl : SL f f3 G m := hm.toL.trans hl
  have key : ∀ i : Int, 0 ≤ i → wsb f3 G m i ≤ wsb f G m i ∧ (i = k → wsb f3 G m i < wsb f G m i) := by
    intro i i0
    by_cases e : i = k
    · subst e
      have g1 := ws_gone hsl hw (by rw [u1, hv]) u2
      have g2 := wsb_1 hw
      exact ⟨by omega, fun _ => by omega⟩
    · obtain ⟨w1, w2⟩ := u3 i i0 e
      have g1 := wsb_same hsl (by rw [w1, nw_sm hm]) (by rw [w2, nw_sm hm])
      exact ⟨by omega, fun q => absurd q e⟩
  refine wn_lt _ (fun i hi => (key i (by omega)).1) (k := k.toNat) (by omega) ?_
  rw [show ((k.toNat : Nat) : Int) = k by omega]
  exact (key k k0).2 rfl
theorem EH.sm {f f1 : py_F} {G : wf_G} {m : Nat} {v : Int} (h : SM f f1 G m) (q : EH f G m v) : EH f1 G m v := by
  obtain ⟨x, x0, x1, x2⟩ := q
  refine ⟨x, x0, by unfold lr at x1 ⊢; rw [arz_kp h.2.1]; exact x1, fun hi => x2 ?_⟩
  obtain ⟨i, i0, i1, i2, i3⟩ := hi
  exact ⟨i, i0, by rw [← h.2.2.2]; exact i1, by rw [← nw_sm h]; exact i2, by rw [← nw_sm h]; exact i3⟩
