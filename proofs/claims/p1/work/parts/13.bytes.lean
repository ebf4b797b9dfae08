def bt (x : Int32) (i : Nat) : Bool := x.toBitVec.getLsbD i
theorem b_ext {x y : Int32} (h : ∀ i, i < 32 → bt x i = bt y i) : x = y := Int32.toBitVec_inj.mp (BitVec.eq_of_getLsbD_eq (fun i hi => h i hi))
theorem b_or (x y : Int32) (i : Nat) : bt (x ||| y) i = (bt x i || bt y i) := by unfold bt; rw [Int32.toBitVec_or, BitVec.getLsbD_or]
theorem b_and (x y : Int32) (i : Nat) : bt (x &&& y) i = (bt x i && bt y i) := by unfold bt; rw [Int32.toBitVec_and, BitVec.getLsbD_and]
theorem b_xor (x y : Int32) (i : Nat) : bt (x ^^^ y) i = (bt x i ^^ bt y i) := by unfold bt; rw [Int32.toBitVec_xor, BitVec.getLsbD_xor]
theorem b_big {x : Int32} {i : Nat} (h : 32 ≤ i) : bt x i = false := BitVec.getLsbD_of_ge _ _ h
theorem b_255 (i : Nat) : bt 255 i = decide (i < 8) := by
  rcases Nat.lt_or_ge i 32 with h | h
  · exact (by decide +kernel : ∀ i, i < 32 → bt 255 i = decide (i < 8)) i h
  · rw [b_big h, decide_eq_false (by omega)]
theorem b_65535 (i : Nat) : bt 65535 i = decide (i < 16) := by
  rcases Nat.lt_or_ge i 32 with h | h
  · exact (by decide +kernel : ∀ i, i < 32 → bt 65535 i = decide (i < 16)) i h
  · rw [b_big h, decide_eq_false (by omega)]
theorem b_m1 : ∀ i, i < 32 → bt (-1) i = true := by decide +kernel
theorem b_0 (i : Nat) : bt 0 i = false := BitVec.getLsbD_zero
theorem s_l : ∀ n, n < 32 → ((nI n &&& 31).toBitVec.smod 32).toNat = n := by decide +kernel
theorem s_u : ∀ n, n < 32 → (((nI n).toUInt32 &&& Int32.toUInt32 31).toBitVec % 32).toNat = n := by decide +kernel
theorem b_shl (n : Nat) (hn : n < 32) (x : Int32) {i : Nat} (hi : i < 32) : bt (x <<< (nI n &&& 31)) i = (decide (n ≤ i) && bt x (i - n)) := by
  unfold bt
  rw [Int32.toBitVec_shiftLeft]
  show (x.toBitVec <<< ((nI n &&& 31).toBitVec.smod 32).toNat).getLsbD i = _
  rw [s_l n hn, BitVec.getLsbD_shiftLeft]
  rcases Nat.lt_or_ge i n with h | h
  · simp [h, Nat.not_le.mpr h]
  · simp [hi, h, Nat.not_lt.mpr h]
theorem b_ushr (n : Nat) (hn : n < 32) (x : Int32) (i : Nat) : bt ((x.toUInt32 >>> ((nI n).toUInt32 &&& Int32.toUInt32 31)).toInt32) i = bt x (n + i) := by
  show (x.toUInt32 >>> ((nI n).toUInt32 &&& Int32.toUInt32 31)).toBitVec.getLsbD i = x.toUInt32.toBitVec.getLsbD (n + i)
  rw [UInt32.toBitVec_shiftRight]
  show (x.toUInt32.toBitVec >>> (((nI n).toUInt32 &&& Int32.toUInt32 31).toBitVec % 32).toNat).getLsbD i = _
  rw [s_u n hn, BitVec.getLsbD_ushiftRight]
theorem b_sshr (n : Nat) (hn : n < 32) (x : Int32) {i : Nat} (hi : i < 32) : bt (x >>> (nI n &&& 31)) i = if n + i < 32 then bt x (n + i) else bt x 31 := by
  unfold bt
  rw [Int32.toBitVec_shiftRight]
  show (x.toBitVec.sshiftRight ((nI n &&& 31).toBitVec.smod 32).toNat).getLsbD i = _
  rw [s_l n hn, BitVec.getLsbD_sshiftRight, BitVec.msb_eq_getLsbD_last]
  simp [hi]
theorem fd_bit (w : Int32) (n : Nat) (hn : n ≤ 24) : (w >>> (nI n &&& 31)) &&& 255 = ((w.toUInt32 >>> ((nI n).toUInt32 &&& Int32.toUInt32 31)).toInt32) &&& 255 := by
  apply b_ext
  intro i hi
  rw [b_and, b_and, b_sshr n (by omega) w hi, b_ushr n (by omega) w i, b_255]
  by_cases h : i < 8
  · rw [if_pos (by omega)]
  · simp [h]
/-- the byte of a word that lies n bits up -/
def fd_b (w : Int32) (n : Nat) : Int32 := ((w.toUInt32 >>> ((nI n).toUInt32 &&& Int32.toUInt32 31)).toInt32) &&& 255
def fd_c (x : Int32) : Nat := if x = 0 then 0 else 1
theorem fd_c1 {x : Int32} (h : ¬ x = 0) : fd_c x = 1 := if_neg h
theorem fd_c0 {x : Int32} (h : x = 0) : fd_c x = 0 := if_pos h
theorem fd_cl (x : Int32) : fd_c x ≤ 1 := by unfold fd_c; split <;> omega
/-- how many bytes of a word aren't 0 -/
def fd_n (w : Int32) : Nat := fd_c (fd_b w 24) + fd_c (fd_b w 16) + fd_c (fd_b w 8) + fd_c (fd_b w 0)
theorem fd_nl (w : Int32) : fd_n w ≤ 4 := by
  have h1 := fd_cl (fd_b w 24)
  have h2 := fd_cl (fd_b w 16)
  have h3 := fd_cl (fd_b w 8)
  have h4 := fd_cl (fd_b w 0)
  unfold fd_n
  omega
/-- the byte at place i of five words -/
def fd_w (a b q d v : Int32) (i : Nat) : Int32 := fd_b (if i < 4 then a else if i < 8 then b else if i < 12 then q else if i < 16 then d else v) (24 - 8 * (i % 4))
def fd_cnt (a b q d v : Int32) : Nat → Nat
  | 0 => 0
  | j + 1 => fd_cnt a b q d v j + fd_c (fd_w a b q d v j)
theorem fd_cle (a b q d v : Int32) (j : Nat) : fd_cnt a b q d v j ≤ j := by
  induction j with
  | zero => exact Nat.le_refl 0
  | succ j ih =>
    have h := fd_cl (fd_w a b q d v j)
    unfold fd_cnt
    omega
theorem fd_all (a b q d v : Int32) : fd_cnt a b q d v 20 = fd_n a + fd_n b + fd_n q + fd_n d + fd_n v := by
  have h : fd_cnt a b q d v 20 = 0 + fd_c (fd_b a 24) + fd_c (fd_b a 16) + fd_c (fd_b a 8) + fd_c (fd_b a 0) + fd_c (fd_b b 24) + fd_c (fd_b b 16) + fd_c (fd_b b 8) + fd_c (fd_b b 0) + fd_c (fd_b q 24) + fd_c (fd_b q 16) + fd_c (fd_b q 8) + fd_c (fd_b q 0) + fd_c (fd_b d 24) + fd_c (fd_b d 16) + fd_c (fd_b d 8) + fd_c (fd_b d 0) + fd_c (fd_b v 24) + fd_c (fd_b v 16) + fd_c (fd_b v 8) + fd_c (fd_b v 0) := rfl
  rw [h]
  unfold fd_n
  omega
theorem ext2_at {L L' : List Nat} {f f' : py_F} {a a2 b : Nat} {e : va_E} (h : py_at L f b e) (x : py_ext2 L f L' f' a a2) (h1 : b ≠ a) (h2 : b ≠ a2) : py_at L' f' b e := by
  obtain ⟨m, q⟩ := x b h.1 h1 h2
  exact ⟨m, q.trans h.2⟩
