/-! the bytes of five words -/
def by6 (a b q d v k : Int32) : Int32 := ((if k < 4 then a else if k < 8 then b else if k < 12 then q else if k < 16 then d else v) >>> (((24 : Int32) - 8 * (k - k / 4 * 4)) &&& 31)) &&& 255
def cn6 (a b q d v : Int32) : Nat → Nat
  | 0 => 0
  | n + 1 => cn6 a b q d v n + if by6 a b q d v (Int32.ofNat n) = 0 then 0 else 1
theorem cn6_le (a b q d v : Int32) (n : Nat) : cn6 a b q d v n ≤ n := by
  induction n with
  | zero => exact Nat.le_refl 0
  | succ n ih =>
    unfold cn6
    split <;> omega
theorem cn6_mono (a b q d v : Int32) {n k : Nat} (h : n ≤ k) : cn6 a b q d v n ≤ cn6 a b q d v k := by
  induction k with
  | zero =>
    have : n = 0 := by omega
    subst this
    exact Nat.le_refl _
  | succ k ih =>
    by_cases e : n = k + 1
    · subst e
      exact Nat.le_refl _
    · have := ih (by omega)
      rw [show cn6 a b q d v (k + 1) = cn6 a b q d v k + if by6 a b q d v (Int32.ofNat k) = 0 then 0 else 1 from rfl]
      omega
theorem i_nat2 {k : Int32} (h0 : 0 ≤ k.toInt) : Int32.ofNat k.toInt.toNat = k := by
  apply Int32.toInt_inj.mp
  have h1 := Int32.toInt_le k
  have hm : Int32.maxValue.toInt = 2147483647 := rfl
  have hs : Int32.size = 4294967296 := rfl
  have h2 : (Int32.ofNat k.toInt.toNat).toInt = ((k.toInt.toNat : Nat) : Int).bmod Int32.size := by
    rw [Int32.toInt_ofNat']
  rw [h2, Int.bmod_eq_of_le (by omega) (by omega)]
  omega
theorem cn6_0 {a b q d v k r : Int32} {n : Int} (h0 : 0 ≤ k.toInt) (hr : r = by6 a b q d v k) (hz : r.toInt = 0) (hn : n = k.toInt + 1) : cn6 a b q d v n.toNat = cn6 a b q d v k.toInt.toNat := by
  have e : r = 0 := Int32.toInt_inj.mp hz
  rw [show n.toNat = k.toInt.toNat + 1 by omega]
  show cn6 a b q d v k.toInt.toNat + (if by6 a b q d v (Int32.ofNat k.toInt.toNat) = 0 then 0 else 1) = _
  rw [i_nat2 h0, if_pos (hr.symm.trans e), Nat.add_zero]
theorem cn6_1 {a b q d v k r : Int32} {n : Int} (h0 : 0 ≤ k.toInt) (h20 : k.toInt < 20) (hr : r = by6 a b q d v k) (hz : r.toInt ≠ 0) (hn : n = k.toInt + 1) : cn6 a b q d v n.toNat = cn6 a b q d v k.toInt.toNat + 1 ∧ cn6 a b q d v n.toNat ≤ cn6 a b q d v 20 := by
  have e : ¬ r = 0 := fun q => hz (by rw [q]; rfl)
  have hm := cn6_mono a b q d v (n := n.toNat) (k := 20) (by omega)
  refine ⟨?_, hm⟩
  rw [show n.toNat = k.toInt.toNat + 1 by omega]
  show cn6 a b q d v k.toInt.toNat + (if by6 a b q d v (Int32.ofNat k.toInt.toNat) = 0 then 0 else 1) = _
  rw [i_nat2 h0, if_neg (fun q => e (hr.trans q))]
/-! the reference's bytes are the same ones -/
theorem sh_eq24 (x : Int32) : (x >>> ((24 : Int32) &&& 31)) &&& 255 = fb_b x 24 := by
  apply Int32.toBitVec_inj.mp
  show x.toBitVec.sshiftRight 24 &&& 255#32 = (x.toBitVec >>> 24) &&& 255#32
  apply BitVec.eq_of_getLsbD_eq
  intro i hi
  have hf : ∀ j : Nat, j < 32 → 8 ≤ j → (255#32).getLsbD j = false := by decide
  rw [BitVec.getLsbD_and, BitVec.getLsbD_and, BitVec.getLsbD_sshiftRight, BitVec.getLsbD_ushiftRight]
  by_cases h8 : i < 8
  · rw [if_pos (show 24 + i < 32 by omega), show decide (32 ≤ i) = false from decide_eq_false (by omega), Bool.not_false, Bool.true_and]
  · rw [hf i hi (by omega), Bool.and_false, Bool.and_false]
theorem sh_eq16 (x : Int32) : (x >>> ((16 : Int32) &&& 31)) &&& 255 = fb_b x 16 := by
  apply Int32.toBitVec_inj.mp
  show x.toBitVec.sshiftRight 16 &&& 255#32 = (x.toBitVec >>> 16) &&& 255#32
  apply BitVec.eq_of_getLsbD_eq
  intro i hi
  have hf : ∀ j : Nat, j < 32 → 8 ≤ j → (255#32).getLsbD j = false := by decide
  rw [BitVec.getLsbD_and, BitVec.getLsbD_and, BitVec.getLsbD_sshiftRight, BitVec.getLsbD_ushiftRight]
  by_cases h8 : i < 8
  · rw [if_pos (show 16 + i < 32 by omega), show decide (32 ≤ i) = false from decide_eq_false (by omega), Bool.not_false, Bool.true_and]
  · rw [hf i hi (by omega), Bool.and_false, Bool.and_false]
theorem sh_eq8 (x : Int32) : (x >>> ((8 : Int32) &&& 31)) &&& 255 = fb_b x 8 := by
  apply Int32.toBitVec_inj.mp
  show x.toBitVec.sshiftRight 8 &&& 255#32 = (x.toBitVec >>> 8) &&& 255#32
  apply BitVec.eq_of_getLsbD_eq
  intro i hi
  have hf : ∀ j : Nat, j < 32 → 8 ≤ j → (255#32).getLsbD j = false := by decide
  rw [BitVec.getLsbD_and, BitVec.getLsbD_and, BitVec.getLsbD_sshiftRight, BitVec.getLsbD_ushiftRight]
  by_cases h8 : i < 8
  · rw [if_pos (show 8 + i < 32 by omega), show decide (32 ≤ i) = false from decide_eq_false (by omega), Bool.not_false, Bool.true_and]
  · rw [hf i hi (by omega), Bool.and_false, Bool.and_false]
theorem sh_eq0 (x : Int32) : (x >>> ((0 : Int32) &&& 31)) &&& 255 = fb_b x 0 := by
  apply Int32.toBitVec_inj.mp
  show x.toBitVec.sshiftRight 0 &&& 255#32 = (x.toBitVec >>> 0) &&& 255#32
  apply BitVec.eq_of_getLsbD_eq
  intro i hi
  have hf : ∀ j : Nat, j < 32 → 8 ≤ j → (255#32).getLsbD j = false := by decide
  rw [BitVec.getLsbD_and, BitVec.getLsbD_and, BitVec.getLsbD_sshiftRight, BitVec.getLsbD_ushiftRight]
  by_cases h8 : i < 8
  · rw [if_pos (show 0 + i < 32 by omega), show decide (32 ≤ i) = false from decide_eq_false (by omega), Bool.not_false, Bool.true_and]
  · rw [hf i hi (by omega), Bool.and_false, Bool.and_false]
theorem by6_0 (a b q d v : Int32) : by6 a b q d v 0 = fb_b a 24 := by
  unfold by6
  rw [if_pos (show (0 : Int32) < 4 by decide)]
  rw [show ((24 : Int32) - 8 * (0 - 0 / 4 * 4)) &&& 31 = (24 : Int32) &&& 31 by decide]
  exact sh_eq24 a
theorem by6_1 (a b q d v : Int32) : by6 a b q d v 1 = fb_b a 16 := by
  unfold by6
  rw [if_pos (show (1 : Int32) < 4 by decide)]
  rw [show ((24 : Int32) - 8 * (1 - 1 / 4 * 4)) &&& 31 = (16 : Int32) &&& 31 by decide]
  exact sh_eq16 a
theorem by6_2 (a b q d v : Int32) : by6 a b q d v 2 = fb_b a 8 := by
  unfold by6
  rw [if_pos (show (2 : Int32) < 4 by decide)]
  rw [show ((24 : Int32) - 8 * (2 - 2 / 4 * 4)) &&& 31 = (8 : Int32) &&& 31 by decide]
  exact sh_eq8 a
theorem by6_3 (a b q d v : Int32) : by6 a b q d v 3 = fb_b a 0 := by
  unfold by6
  rw [if_pos (show (3 : Int32) < 4 by decide)]
  rw [show ((24 : Int32) - 8 * (3 - 3 / 4 * 4)) &&& 31 = (0 : Int32) &&& 31 by decide]
  exact sh_eq0 a
theorem by6_4 (a b q d v : Int32) : by6 a b q d v 4 = fb_b b 24 := by
  unfold by6
  rw [if_neg (show ¬ (4 : Int32) < 4 by decide)]
  rw [if_pos (show (4 : Int32) < 8 by decide)]
  rw [show ((24 : Int32) - 8 * (4 - 4 / 4 * 4)) &&& 31 = (24 : Int32) &&& 31 by decide]
  exact sh_eq24 b
theorem by6_5 (a b q d v : Int32) : by6 a b q d v 5 = fb_b b 16 := by
  unfold by6
  rw [if_neg (show ¬ (5 : Int32) < 4 by decide)]
  rw [if_pos (show (5 : Int32) < 8 by decide)]
  rw [show ((24 : Int32) - 8 * (5 - 5 / 4 * 4)) &&& 31 = (16 : Int32) &&& 31 by decide]
  exact sh_eq16 b
theorem by6_6 (a b q d v : Int32) : by6 a b q d v 6 = fb_b b 8 := by
  unfold by6
  rw [if_neg (show ¬ (6 : Int32) < 4 by decide)]
  rw [if_pos (show (6 : Int32) < 8 by decide)]
  rw [show ((24 : Int32) - 8 * (6 - 6 / 4 * 4)) &&& 31 = (8 : Int32) &&& 31 by decide]
  exact sh_eq8 b
theorem by6_7 (a b q d v : Int32) : by6 a b q d v 7 = fb_b b 0 := by
  unfold by6
  rw [if_neg (show ¬ (7 : Int32) < 4 by decide)]
  rw [if_pos (show (7 : Int32) < 8 by decide)]
  rw [show ((24 : Int32) - 8 * (7 - 7 / 4 * 4)) &&& 31 = (0 : Int32) &&& 31 by decide]
  exact sh_eq0 b
theorem by6_8 (a b q d v : Int32) : by6 a b q d v 8 = fb_b q 24 := by
  unfold by6
  rw [if_neg (show ¬ (8 : Int32) < 4 by decide)]
  rw [if_neg (show ¬ (8 : Int32) < 8 by decide)]
  rw [if_pos (show (8 : Int32) < 12 by decide)]
  rw [show ((24 : Int32) - 8 * (8 - 8 / 4 * 4)) &&& 31 = (24 : Int32) &&& 31 by decide]
  exact sh_eq24 q
theorem by6_9 (a b q d v : Int32) : by6 a b q d v 9 = fb_b q 16 := by
  unfold by6
  rw [if_neg (show ¬ (9 : Int32) < 4 by decide)]
  rw [if_neg (show ¬ (9 : Int32) < 8 by decide)]
  rw [if_pos (show (9 : Int32) < 12 by decide)]
  rw [show ((24 : Int32) - 8 * (9 - 9 / 4 * 4)) &&& 31 = (16 : Int32) &&& 31 by decide]
  exact sh_eq16 q
theorem by6_10 (a b q d v : Int32) : by6 a b q d v 10 = fb_b q 8 := by
  unfold by6
  rw [if_neg (show ¬ (10 : Int32) < 4 by decide)]
  rw [if_neg (show ¬ (10 : Int32) < 8 by decide)]
  rw [if_pos (show (10 : Int32) < 12 by decide)]
  rw [show ((24 : Int32) - 8 * (10 - 10 / 4 * 4)) &&& 31 = (8 : Int32) &&& 31 by decide]
  exact sh_eq8 q
theorem by6_11 (a b q d v : Int32) : by6 a b q d v 11 = fb_b q 0 := by
  unfold by6
  rw [if_neg (show ¬ (11 : Int32) < 4 by decide)]
  rw [if_neg (show ¬ (11 : Int32) < 8 by decide)]
  rw [if_pos (show (11 : Int32) < 12 by decide)]
  rw [show ((24 : Int32) - 8 * (11 - 11 / 4 * 4)) &&& 31 = (0 : Int32) &&& 31 by decide]
  exact sh_eq0 q
theorem by6_12 (a b q d v : Int32) : by6 a b q d v 12 = fb_b d 24 := by
  unfold by6
  rw [if_neg (show ¬ (12 : Int32) < 4 by decide)]
  rw [if_neg (show ¬ (12 : Int32) < 8 by decide)]
  rw [if_neg (show ¬ (12 : Int32) < 12 by decide)]
  rw [if_pos (show (12 : Int32) < 16 by decide)]
  rw [show ((24 : Int32) - 8 * (12 - 12 / 4 * 4)) &&& 31 = (24 : Int32) &&& 31 by decide]
  exact sh_eq24 d
theorem by6_13 (a b q d v : Int32) : by6 a b q d v 13 = fb_b d 16 := by
  unfold by6
  rw [if_neg (show ¬ (13 : Int32) < 4 by decide)]
  rw [if_neg (show ¬ (13 : Int32) < 8 by decide)]
  rw [if_neg (show ¬ (13 : Int32) < 12 by decide)]
  rw [if_pos (show (13 : Int32) < 16 by decide)]
  rw [show ((24 : Int32) - 8 * (13 - 13 / 4 * 4)) &&& 31 = (16 : Int32) &&& 31 by decide]
  exact sh_eq16 d
theorem by6_14 (a b q d v : Int32) : by6 a b q d v 14 = fb_b d 8 := by
  unfold by6
  rw [if_neg (show ¬ (14 : Int32) < 4 by decide)]
  rw [if_neg (show ¬ (14 : Int32) < 8 by decide)]
  rw [if_neg (show ¬ (14 : Int32) < 12 by decide)]
  rw [if_pos (show (14 : Int32) < 16 by decide)]
  rw [show ((24 : Int32) - 8 * (14 - 14 / 4 * 4)) &&& 31 = (8 : Int32) &&& 31 by decide]
  exact sh_eq8 d
theorem by6_15 (a b q d v : Int32) : by6 a b q d v 15 = fb_b d 0 := by
  unfold by6
  rw [if_neg (show ¬ (15 : Int32) < 4 by decide)]
  rw [if_neg (show ¬ (15 : Int32) < 8 by decide)]
  rw [if_neg (show ¬ (15 : Int32) < 12 by decide)]
  rw [if_pos (show (15 : Int32) < 16 by decide)]
  rw [show ((24 : Int32) - 8 * (15 - 15 / 4 * 4)) &&& 31 = (0 : Int32) &&& 31 by decide]
  exact sh_eq0 d
theorem by6_16 (a b q d v : Int32) : by6 a b q d v 16 = fb_b v 24 := by
  unfold by6
  rw [if_neg (show ¬ (16 : Int32) < 4 by decide)]
  rw [if_neg (show ¬ (16 : Int32) < 8 by decide)]
  rw [if_neg (show ¬ (16 : Int32) < 12 by decide)]
  rw [if_neg (show ¬ (16 : Int32) < 16 by decide)]
  rw [show ((24 : Int32) - 8 * (16 - 16 / 4 * 4)) &&& 31 = (24 : Int32) &&& 31 by decide]
  exact sh_eq24 v
theorem by6_17 (a b q d v : Int32) : by6 a b q d v 17 = fb_b v 16 := by
  unfold by6
  rw [if_neg (show ¬ (17 : Int32) < 4 by decide)]
  rw [if_neg (show ¬ (17 : Int32) < 8 by decide)]
  rw [if_neg (show ¬ (17 : Int32) < 12 by decide)]
  rw [if_neg (show ¬ (17 : Int32) < 16 by decide)]
  rw [show ((24 : Int32) - 8 * (17 - 17 / 4 * 4)) &&& 31 = (16 : Int32) &&& 31 by decide]
  exact sh_eq16 v
theorem by6_18 (a b q d v : Int32) : by6 a b q d v 18 = fb_b v 8 := by
  unfold by6
  rw [if_neg (show ¬ (18 : Int32) < 4 by decide)]
  rw [if_neg (show ¬ (18 : Int32) < 8 by decide)]
  rw [if_neg (show ¬ (18 : Int32) < 12 by decide)]
  rw [if_neg (show ¬ (18 : Int32) < 16 by decide)]
  rw [show ((24 : Int32) - 8 * (18 - 18 / 4 * 4)) &&& 31 = (8 : Int32) &&& 31 by decide]
  exact sh_eq8 v
theorem by6_19 (a b q d v : Int32) : by6 a b q d v 19 = fb_b v 0 := by
  unfold by6
  rw [if_neg (show ¬ (19 : Int32) < 4 by decide)]
  rw [if_neg (show ¬ (19 : Int32) < 8 by decide)]
  rw [if_neg (show ¬ (19 : Int32) < 12 by decide)]
  rw [if_neg (show ¬ (19 : Int32) < 16 by decide)]
  rw [show ((24 : Int32) - 8 * (19 - 19 / 4 * 4)) &&& 31 = (0 : Int32) &&& 31 by decide]
  exact sh_eq0 v
/-- the first k of the twenty -/
def fa6 (a b q d v : Int32) (st : fb_S) : Nat → fb_S
  | 0 => st
  | k + 1 => fb_ap (fa6 a b q d v st k) (by6 a b q d v (Int32.ofNat k))
theorem fa6_20 (a b q d v : Int32) (st : fb_S) : fa6 a b q d v st 20 = fb_5 st a b q d v := by
  show fb_ap (fb_ap (fb_ap (fb_ap (fb_ap (fb_ap (fb_ap (fb_ap (fb_ap (fb_ap (fb_ap (fb_ap (fb_ap (fb_ap (fb_ap (fb_ap (fb_ap (fb_ap (fb_ap (fb_ap (st) (by6 a b q d v 0)) (by6 a b q d v 1)) (by6 a b q d v 2)) (by6 a b q d v 3)) (by6 a b q d v 4)) (by6 a b q d v 5)) (by6 a b q d v 6)) (by6 a b q d v 7)) (by6 a b q d v 8)) (by6 a b q d v 9)) (by6 a b q d v 10)) (by6 a b q d v 11)) (by6 a b q d v 12)) (by6 a b q d v 13)) (by6 a b q d v 14)) (by6 a b q d v 15)) (by6 a b q d v 16)) (by6 a b q d v 17)) (by6 a b q d v 18)) (by6 a b q d v 19) = _
  rw [by6_0, by6_1, by6_2, by6_3, by6_4]
  rw [by6_5, by6_6, by6_7, by6_8, by6_9]
  rw [by6_10, by6_11, by6_12, by6_13, by6_14]
  rw [by6_15, by6_16, by6_17, by6_18, by6_19]
  rfl
theorem cn6_20 (a b q d v : Int32) : ((cn6 a b q d v 20 : Nat) : Int) = fb_C a b q d v := by
  have h : ∀ z : Int32, (((if z = 0 then 0 else 1 : Nat)) : Int) = fb_c z := fun z => by
    unfold fb_c
    by_cases e : z = 0
    · rw [if_pos e, if_pos e]
      rfl
    · rw [if_neg e, if_neg e]
      rfl
  have e : cn6 a b q d v 20 = 0 + (if by6 a b q d v 0 = 0 then 0 else 1) + (if by6 a b q d v 1 = 0 then 0 else 1) + (if by6 a b q d v 2 = 0 then 0 else 1) + (if by6 a b q d v 3 = 0 then 0 else 1) + (if by6 a b q d v 4 = 0 then 0 else 1) + (if by6 a b q d v 5 = 0 then 0 else 1) + (if by6 a b q d v 6 = 0 then 0 else 1) + (if by6 a b q d v 7 = 0 then 0 else 1) + (if by6 a b q d v 8 = 0 then 0 else 1) + (if by6 a b q d v 9 = 0 then 0 else 1) + (if by6 a b q d v 10 = 0 then 0 else 1) + (if by6 a b q d v 11 = 0 then 0 else 1) + (if by6 a b q d v 12 = 0 then 0 else 1) + (if by6 a b q d v 13 = 0 then 0 else 1) + (if by6 a b q d v 14 = 0 then 0 else 1) + (if by6 a b q d v 15 = 0 then 0 else 1) + (if by6 a b q d v 16 = 0 then 0 else 1) + (if by6 a b q d v 17 = 0 then 0 else 1) + (if by6 a b q d v 18 = 0 then 0 else 1) + (if by6 a b q d v 19 = 0 then 0 else 1) := rfl
  rw [e]
  rw [by6_0, by6_1, by6_2, by6_3, by6_4]
  rw [by6_5, by6_6, by6_7, by6_8, by6_9]
  rw [by6_10, by6_11, by6_12, by6_13, by6_14]
  rw [by6_15, by6_16, by6_17, by6_18, by6_19]
  have h0 := h (fb_b a 24)
  have h1 := h (fb_b a 16)
  have h2 := h (fb_b a 8)
  have h3 := h (fb_b a 0)
  have h4 := h (fb_b b 24)
  have h5 := h (fb_b b 16)
  have h6 := h (fb_b b 8)
  have h7 := h (fb_b b 0)
  have h8 := h (fb_b q 24)
  have h9 := h (fb_b q 16)
  have h10 := h (fb_b q 8)
  have h11 := h (fb_b q 0)
  have h12 := h (fb_b d 24)
  have h13 := h (fb_b d 16)
  have h14 := h (fb_b d 8)
  have h15 := h (fb_b d 0)
  have h16 := h (fb_b v 24)
  have h17 := h (fb_b v 16)
  have h18 := h (fb_b v 8)
  have h19 := h (fb_b v 0)
  unfold fb_C fb_cw
  omega
theorem fa6_n {a b q d v : Int32} {st : fb_S} (k : Nat) : (fa6 a b q d v st k).2 = st.2 + ((cn6 a b q d v k : Nat) : Int) := by
  induction k with
  | zero => exact (Int.add_zero _).symm
  | succ k ih =>
    show (fb_ap (fa6 a b q d v st k) (by6 a b q d v (Int32.ofNat k))).2 = st.2 + (((cn6 a b q d v k + if by6 a b q d v (Int32.ofNat k) = 0 then 0 else 1 : Nat)) : Int)
    unfold fb_ap
    by_cases e : by6 a b q d v (Int32.ofNat k) = 0
    · rw [if_pos e, if_pos e]
      exact ih
    · rw [if_neg e, if_neg e]
      show (fa6 a b q d v st k).2 + 1 = _
      omega
/-- a row holds the bytes so far -/
theorem AG.skip {f f1 : py_F} {t : Nat} {a b q d v k r : Int32} {st : fb_S} {n : Int} (h : AG f t (fa6 a b q d v st k.toInt.toNat).1 (fa6 a b q d v st k.toInt.toNat).2) (e : f1 t = f t) (h0 : 0 ≤ k.toInt) (hr : r = by6 a b q d v k) (hz : r.toInt = 0) (hn : n = k.toInt + 1) : AG f1 t (fa6 a b q d v st n.toNat).1 (fa6 a b q d v st n.toNat).2 := by
  have er : r = 0 := Int32.toInt_inj.mp hz
  have e2 : fa6 a b q d v st n.toNat = fa6 a b q d v st k.toInt.toNat := by
    rw [show n.toNat = k.toInt.toNat + 1 by omega]
    show fb_ap (fa6 a b q d v st k.toInt.toNat) (by6 a b q d v (Int32.ofNat k.toInt.toNat)) = _
    rw [i_nat2 h0, ← hr]
    exact if_pos er
  rw [e2]
  exact h.kp e
theorem AG.app {L1 L2 : List Nat} {f f1 : py_F} {t n1 : Nat} {c : ClassId} {g : Nat → Int32} {a b q d v k r i : Int32} {st : fb_S} {n : Int} (h : AG f t (fa6 a b q d v st k.toInt.toNat).1 (fa6 a b q d v st k.toInt.toNat).2) (p1 : py_at L1 f t (.inl (c, n1, .inl g))) (p2 : py_at L2 f1 t (.inl (c, n1, .inl (upd g i.toNatClampNeg r)))) (hi : i.toInt = (fa6 a b q d v st k.toInt.toNat).2) (i0 : 0 ≤ i.toInt) (h0 : 0 ≤ k.toInt) (hr : r = by6 a b q d v k) (hz : r.toInt ≠ 0) (hn : n = k.toInt + 1) : AG f1 t (fa6 a b q d v st n.toNat).1 (fa6 a b q d v st n.toNat).2 := by
  have er : ¬ r = 0 := fun e => hz (by rw [e]; rfl)
  have e2 : fa6 a b q d v st n.toNat = (upd (fa6 a b q d v st k.toInt.toNat).1 (fa6 a b q d v st k.toInt.toNat).2.toNat r, (fa6 a b q d v st k.toInt.toNat).2 + 1) := by
    rw [show n.toNat = k.toInt.toNat + 1 by omega]
    show fb_ap (fa6 a b q d v st k.toInt.toNat) (by6 a b q d v (Int32.ofNat k.toInt.toNat)) = _
    rw [i_nat2 h0, ← hr]
    exact if_neg er
  rw [e2]
  intro p pa pb
  have pb2 : p < (fa6 a b q d v st k.toInt.toNat).2 + 1 := pb
  have hu := gfn_up p1 p2 hi
  rw [hu]
  show upd (gfn f t) (fa6 a b q d v st k.toInt.toNat).2.toNat r p.toNat = upd (fa6 a b q d v st k.toInt.toNat).1 (fa6 a b q d v st k.toInt.toNat).2.toNat r p.toNat
  by_cases z : p = (fa6 a b q d v st k.toInt.toNat).2
  · rw [z, upd_at, upd_at]
  · rw [upd_off _ _ (show p.toNat ≠ (fa6 a b q d v st k.toInt.toNat).2.toNat by omega), upd_off _ _ (show p.toNat ≠ (fa6 a b q d v st k.toInt.toNat).2.toNat by omega)]
    exact h p pa (by omega)
theorem AG.le {f : py_F} {t : Nat} {gb : rs_B} {nb m : Int} (h : AG f t gb nb) (hm : m ≤ nb) : AG f t gb m := fun p a b => h p a (by omega)
def FDR (f1 : py_F) (G : wf_G) (u : Nat) (gb : rs_B) (nb : Int) (a b q d v : Int32) (r : Int) : Prop := (160 < nb + fb_C a b q d v ∧ r = -1 ∧ mi f1 u 2 = nb ∧ AG f1 (G.2 u 1) gb nb) ∨ (nb + fb_C a b q d v ≤ 160 ∧ r = (fb_5 (gb, nb) a b q d v).2 ∧ mi f1 u 2 = (fb_5 (gb, nb) a b q d v).2 ∧ AG f1 (G.2 u 1) (fb_5 (gb, nb) a b q d v).1 (fb_5 (gb, nb) a b q d v).2)
