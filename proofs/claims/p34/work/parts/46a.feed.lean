/-! the bytes of words -/
abbrev fb_S : Type := rs_B × Int
def fb_b (x s : Int32) : Int32 := (x.toUInt32 >>> (s.toUInt32 &&& Int32.toUInt32 31)).toInt32 &&& 255
def fb_ap (st : fb_S) (z : Int32) : fb_S := if z = 0 then st else (upd st.1 st.2.toNat z, st.2 + 1)
def fb_c (z : Int32) : Int := if z = 0 then 0 else 1
def fb_w (st : fb_S) (x : Int32) : fb_S := fb_ap (fb_ap (fb_ap (fb_ap st (fb_b x 24)) (fb_b x 16)) (fb_b x 8)) (fb_b x 0)
def fb_cw (x : Int32) : Int := fb_c (fb_b x 24) + fb_c (fb_b x 16) + fb_c (fb_b x 8) + fb_c (fb_b x 0)
/-- .. down to the shift s -/
def fb_p (st : fb_S) (x : Int32) (s : Int) : fb_S := if s = 24 then st else if s = 16 then fb_ap st (fb_b x 24) else if s = 8 then fb_ap (fb_ap st (fb_b x 24)) (fb_b x 16) else if s = 0 then fb_ap (fb_ap (fb_ap st (fb_b x 24)) (fb_b x 16)) (fb_b x 8) else fb_w st x
def fb_pc (x : Int32) (s : Int) : Int := if s = 24 then 0 else if s = 16 then fb_c (fb_b x 24) else if s = 8 then fb_c (fb_b x 24) + fb_c (fb_b x 16) else if s = 0 then fb_c (fb_b x 24) + fb_c (fb_b x 16) + fb_c (fb_b x 8) else fb_cw x
theorem fb_c_eq (z : Int32) : (z.toInt = 0 ∧ fb_c z = 0) ∨ (z.toInt ≠ 0 ∧ fb_c z = 1) := by
  by_cases e : z = 0
  · exact Or.inl ⟨by rw [e]; rfl, if_pos e⟩
  · exact Or.inr ⟨fun q => e (Int32.toInt_inj.mp q), if_neg e⟩
theorem fb_s_in {s : Int32} (h : s.toInt = 24 ∨ s.toInt = 16 ∨ s.toInt = 8 ∨ s.toInt = 0) : s = 24 ∨ s = 16 ∨ s = 8 ∨ s = 0 := by
  rcases h with h | h | h | h
  · exact Or.inl (Int32.toInt_inj.mp h)
  · exact Or.inr (Or.inl (Int32.toInt_inj.mp h))
  · exact Or.inr (Or.inr (Or.inl (Int32.toInt_inj.mp h)))
  · exact Or.inr (Or.inr (Or.inr (Int32.toInt_inj.mp h)))
theorem fb_pc_s {x s : Int32} (h : s.toInt = 24 ∨ s.toInt = 16 ∨ s.toInt = 8 ∨ s.toInt = 0) : fb_pc x (s.toInt - 8) = fb_pc x s.toInt + fb_c (fb_b x s) := by
  rcases fb_s_in h with e | e | e | e
  · subst e
    show fb_c (fb_b x 24) = 0 + fb_c (fb_b x 24)
    omega
  · subst e
    rfl
  · subst e
    rfl
  · subst e
    rfl
theorem fb_p_s {st : fb_S} {x s : Int32} (h : s.toInt = 24 ∨ s.toInt = 16 ∨ s.toInt = 8 ∨ s.toInt = 0) : fb_p st x (s.toInt - 8) = fb_ap (fb_p st x s.toInt) (fb_b x s) := by
  rcases fb_s_in h with e | e | e | e
  · subst e
    rfl
  · subst e
    rfl
  · subst e
    rfl
  · subst e
    rfl
theorem fb_pc_le {x s : Int32} (h : s.toInt = 24 ∨ s.toInt = 16 ∨ s.toInt = 8 ∨ s.toInt = 0) : 0 ≤ fb_pc x s.toInt ∧ fb_pc x s.toInt + fb_c (fb_b x s) ≤ fb_cw x := by
  have h1 := fb_c_eq (fb_b x 24)
  have h2 := fb_c_eq (fb_b x 16)
  have h3 := fb_c_eq (fb_b x 8)
  have h4 := fb_c_eq (fb_b x 0)
  have hw : fb_cw x = fb_c (fb_b x 24) + fb_c (fb_b x 16) + fb_c (fb_b x 8) + fb_c (fb_b x 0) := rfl
  rcases fb_s_in h with e | e | e | e
  · subst e
    have e1 : fb_pc x (24 : Int32).toInt = 0 := rfl
    omega
  · subst e
    have e1 : fb_pc x (16 : Int32).toInt = fb_c (fb_b x 24) := rfl
    omega
  · subst e
    have e1 : fb_pc x (8 : Int32).toInt = fb_c (fb_b x 24) + fb_c (fb_b x 16) := rfl
    omega
  · subst e
    have e1 : fb_pc x (0 : Int32).toInt = fb_c (fb_b x 24) + fb_c (fb_b x 16) + fb_c (fb_b x 8) := rfl
    omega
theorem fb_cw_le (x : Int32) : 0 ≤ fb_cw x ∧ fb_cw x ≤ 4 := by
  have h1 := fb_c_eq (fb_b x 24)
  have h2 := fb_c_eq (fb_b x 16)
  have h3 := fb_c_eq (fb_b x 8)
  have h4 := fb_c_eq (fb_b x 0)
  have hw : fb_cw x = fb_c (fb_b x 24) + fb_c (fb_b x 16) + fb_c (fb_b x 8) + fb_c (fb_b x 0) := rfl
  omega
theorem fb_pc_st {x s z : Int32} {c c2 s2 : Int} (hs : s.toInt = 24 ∨ s.toInt = 16 ∨ s.toInt = 8 ∨ s.toInt = 0) (hz : z = fb_b x s) (hc : c = fb_pc x s.toInt) (h2 : s2 = s.toInt - 8) (h : (z.toInt = 0 ∧ c2 = c) ∨ (z.toInt ≠ 0 ∧ c2 = c + 1)) : c2 = fb_pc x s2 := by
  have h3 := fb_c_eq z
  rw [h2, fb_pc_s hs, ← hc, ← hz]
  omega
theorem fb_p_st {st : fb_S} {x s z : Int32} {g g2 : rs_B} {n n2 s2 : Int} (hs : s.toInt = 24 ∨ s.toInt = 16 ∨ s.toInt = 8 ∨ s.toInt = 0) (hz : z = fb_b x s) (hc : (g, n) = fb_p st x s.toInt) (h2 : s2 = s.toInt - 8) (h : (z.toInt = 0 ∧ g2 = g ∧ n2 = n) ∨ (z.toInt ≠ 0 ∧ g2 = upd g n.toNat z ∧ n2 = n + 1)) : (g2, n2) = fb_p st x s2 := by
  rw [h2, fb_p_s hs, ← hc, ← hz]
  rcases h with ⟨a, b, c⟩ | ⟨a, b, c⟩
  · have e : z = 0 := Int32.toInt_inj.mp a
    rw [b, c]
    exact (if_pos e).symm
  · have e : ¬ z = 0 := fun q => a (by rw [q]; rfl)
    rw [b, c]
    exact (if_neg e).symm
theorem ti_byte {x z : Int32} (e : z = x &&& 255) : 0 ≤ z.toInt ∧ z.toInt ≤ 255 := by
  subst e
  have h : (x &&& 255).toBitVec.toNat ≤ 255 := by
    rw [Int32.toBitVec_and]
    exact Nat.le_trans (by rw [BitVec.toNat_and]; exact Nat.and_le_right) (by decide)
  have h2 : (x &&& 255).toInt = (x &&& 255).toBitVec.toNat := by
    show (x &&& 255).toBitVec.toInt = _
    exact BitVec.toInt_eq_toNat_of_lt (by omega)
  rw [h2]
  omega
theorem fb_b_rng (x s : Int32) : 0 ≤ (fb_b x s).toInt ∧ (fb_b x s).toInt ≤ 255 := ti_byte rfl
/-- every byte is one of 1 .. -/
def rs_tp (g : rs_B) (n : Int) : Prop := ∀ p : Int, 0 ≤ p → p < n → 1 ≤ rs_v g n p
theorem rs_tp.tb {g : rs_B} {n : Int} (h : rs_tp g n) : rs_tb g n := fun p a b => by
  have := h p a b
  omega
theorem rs_tp.nn {g : rs_B} {n : Int} (h : rs_tp g n) : rs_nn g n := fun p a b => by
  have := h p a b
  omega
theorem rs_tp.le {g : rs_B} {n m : Int} (h : rs_tp g n) (hm : m ≤ n) : rs_tp g m := fun p a b => by
  have h1 := h p a (by omega)
  rw [rs_v_in (by omega)] at h1
  rw [rs_v_in b]
  exact h1
theorem fb_ap_tp {st : fb_S} {z : Int32} (h : rs_tp st.1 st.2) (h0 : 0 ≤ st.2) (hz : 0 ≤ z.toInt) : rs_tp (fb_ap st z).1 (fb_ap st z).2 ∧ 0 ≤ (fb_ap st z).2 := by
  unfold fb_ap
  by_cases e : z = 0
  · rw [if_pos e]
    exact ⟨h, h0⟩
  · rw [if_neg e]
    refine ⟨fun p a b => ?_, show 0 ≤ st.2 + 1 by omega⟩
    have b2 : p < st.2 + 1 := b
    have hz2 : z.toInt ≠ 0 := fun q => e (Int32.toInt_inj.mp q)
    rw [rs_v_in b]
    show 1 ≤ (upd st.1 st.2.toNat z p.toNat).toInt
    by_cases q : p = st.2
    · rw [q, upd_at]
      omega
    · rw [upd_off _ _ (show p.toNat ≠ st.2.toNat by omega)]
      have h1 := h p a (by omega)
      rw [rs_v_in (by omega)] at h1
      exact h1
theorem fb_w_tp {st : fb_S} {x : Int32} (h : rs_tp st.1 st.2 ∧ 0 ≤ st.2) : rs_tp (fb_w st x).1 (fb_w st x).2 ∧ 0 ≤ (fb_w st x).2 := by
  have h1 := fb_ap_tp h.1 h.2 (fb_b_rng x 24).1
  have h2 := fb_ap_tp h1.1 h1.2 (fb_b_rng x 16).1
  have h3 := fb_ap_tp h2.1 h2.2 (fb_b_rng x 8).1
  exact fb_ap_tp h3.1 h3.2 (fb_b_rng x 0).1
def fb_5 (st : fb_S) (a b q d v : Int32) : fb_S := fb_w (fb_w (fb_w (fb_w (fb_w st a) b) q) d) v
def fb_C (a b q d v : Int32) : Int := fb_cw a + fb_cw b + fb_cw q + fb_cw d + fb_cw v
theorem fb_5_tp {st : fb_S} {a b q d v : Int32} (h : rs_tp st.1 st.2 ∧ 0 ≤ st.2) : rs_tp (fb_5 st a b q d v).1 (fb_5 st a b q d v).2 ∧ 0 ≤ (fb_5 st a b q d v).2 := fb_w_tp (fb_w_tp (fb_w_tp (fb_w_tp (fb_w_tp h))))
/-- what feeding does: g, n before; r the answer; g2, n2 behind -/
def FDC (g : rs_B) (n : Int) (a b q d v : Int32) (r : Int) (g2 : rs_B) (n2 : Int) : Prop := (160 < n + fb_C a b q d v ∧ r = -1 ∧ g2 = g ∧ n2 = n) ∨ (n + fb_C a b q d v ≤ 160 ∧ r = n2 ∧ g2 = (fb_5 (g, n) a b q d v).1 ∧ n2 = (fb_5 (g, n) a b q d v).2)
