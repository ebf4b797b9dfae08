/-! READING: what both readers do, as functions of the bytes g, how many there are n, and a place p. An answer: how it went (1 well, 0 not), and the place -/
abbrev rs_B : Type := Nat → Int32
abbrev rs_R : Type := Int × Int
/-- the byte at p; 0 at the end -/
def rs_v (g : rs_B) (n p : Int) : Int := if p < n then (g p.toNat).toInt else 0
theorem rs_v_in {g : rs_B} {n p : Int} (h : p < n) : rs_v g n p = (g p.toNat).toInt := if_pos h
theorem rs_v_out {g : rs_B} {n p : Int} (h : ¬ p < n) : rs_v g n p = 0 := if_neg h
theorem rs_v_lt {g : rs_B} {n p : Int} (h : rs_v g n p ≠ 0) : p < n := by
  by_cases q : p < n
  · exact q
  · exact absurd (rs_v_out q) h
def rs_skf (g : rs_B) (n : Int) : Nat → Int → Int
  | 0, p => p
  | k + 1, p => if rs_v g n p = 32 then rs_skf g n k (p + 1) else p
/-- behind the blanks -/
def rs_sk (g : rs_B) (n p : Int) : Int := rs_skf g n (n - p).toNat p
theorem rs_sk_step {g : rs_B} {n p : Int} (h : rs_v g n p = 32) : rs_sk g n p = rs_sk g n (p + 1) := by
  have hl : p < n := rs_v_lt (g := g) (by omega)
  unfold rs_sk
  rw [show (n - p).toNat = (n - (p + 1)).toNat + 1 by omega]
  show (if rs_v g n p = 32 then rs_skf g n (n - (p + 1)).toNat (p + 1) else p) = _
  rw [if_pos h]
theorem rs_sk_stop {g : rs_B} {n p : Int} (h : rs_v g n p ≠ 32) : rs_sk g n p = p := by
  unfold rs_sk
  cases (n - p).toNat with
  | zero => rfl
  | succ k =>
    show (if rs_v g n p = 32 then rs_skf g n k (p + 1) else p) = p
    rw [if_neg h]
theorem rs_skf_ge (g : rs_B) (n : Int) (k : Nat) (p : Int) : p ≤ rs_skf g n k p := by
  induction k generalizing p with
  | zero => exact Int.le_refl p
  | succ k ih =>
    show p ≤ (if rs_v g n p = 32 then rs_skf g n k (p + 1) else p)
    split
    · have := ih (p + 1)
      omega
    · exact Int.le_refl p
theorem rs_sk_ge (g : rs_B) (n p : Int) : p ≤ rs_sk g n p := rs_skf_ge g n _ p
theorem rs_sk_nb (g : rs_B) (n p : Int) : rs_v g n (rs_sk g n p) ≠ 32 := by
  have key : ∀ (k : Nat) (p : Int), (n - p).toNat ≤ k → rs_v g n (rs_sk g n p) ≠ 32 := by
    intro k
    induction k with
    | zero =>
      intro p hk q
      have h1 := rs_v_lt (g := g) (n := n) (p := rs_sk g n p) (by omega)
      have h2 := rs_sk_ge g n p
      omega
    | succ k ih =>
      intro p hk
      by_cases q : rs_v g n p = 32
      · have hl : p < n := rs_v_lt (g := g) (by omega)
        rw [rs_sk_step q]
        exact ih (p + 1) (by omega)
      · rw [rs_sk_stop q]
        exact q
  exact key _ p (Nat.le_refl _)
theorem rs_sk_idem (g : rs_B) (n p : Int) : rs_sk g n (rs_sk g n p) = rs_sk g n p := rs_sk_stop (rs_sk_nb g n p)
/-- of which sort of chain a sign is -/
def rs_co (c : Int) : Int := if c = 124 then 0 else if c = 38 then 1 else if c = 43 then 2 else if c = 45 then 2 else if c = 42 then 3 else if c = 47 then 3 else if c = 59 then 4 else -1
theorem rs_co_eq (c : Int) : (rs_co c = 0 ↔ c = 124) ∧ (rs_co c = 1 ↔ c = 38) ∧ (rs_co c = 2 ↔ (c = 43 ∨ c = 45)) ∧ (rs_co c = 3 ↔ (c = 42 ∨ c = 47)) ∧ (rs_co c = 4 ↔ c = 59) ∧ -1 ≤ rs_co c ∧ rs_co c ≤ 4 := by
  unfold rs_co
  split <;> (try split) <;> (try split) <;> (try split) <;> (try split) <;> (try split) <;> (try split) <;> omega
/-- parts of a chain with signs of the sort k between, from p on -/
def rs_lp (part : Int → rs_R) (k : Int) (g : rs_B) (n : Int) (p : Int) : rs_R :=
  if (part p).1 = 0 then part p
  else if rs_co (rs_v g n (rs_sk g n (part p).2)) = k ∧ p ≤ rs_sk g n (part p).2 ∧ rs_sk g n (part p).2 < n then rs_lp part k g n (rs_sk g n (part p).2 + 1)
  else (1, rs_sk g n (part p).2)
termination_by (n - p).toNat
decreasing_by omega
/-- behind a part that is read -/
def rs_af (part : Int → rs_R) (k : Int) (g : rs_B) (n : Int) (w : rs_R) : rs_R :=
  if w.1 = 0 then w
  else if rs_co (rs_v g n (rs_sk g n w.2)) = k ∧ rs_sk g n w.2 < n then rs_lp part k g n (rs_sk g n w.2 + 1)
  else (1, rs_sk g n w.2)
theorem rs_lp_af {part : Int → rs_R} {k : Int} {g : rs_B} {n p : Int} (h : (part p).1 ≠ 0 → p ≤ (part p).2) : rs_lp part k g n p = rs_af part k g n (part p) := by
  rw [rs_lp]
  unfold rs_af
  by_cases q : (part p).1 = 0
  · rw [if_pos q, if_pos q]
  · rw [if_neg q, if_neg q]
    have h1 := h q
    have h2 := rs_sk_ge g n (part p).2
    by_cases r : rs_co (rs_v g n (rs_sk g n (part p).2)) = k ∧ rs_sk g n (part p).2 < n
    · rw [if_pos ⟨r.1, by omega, r.2⟩, if_pos r]
    · rw [if_neg (fun z => r ⟨z.1, z.2.2⟩), if_neg r]
theorem rs_af_0 {part : Int → rs_R} {k : Int} {g : rs_B} {n : Int} {w : rs_R} (h : w.1 = 0) : rs_af part k g n w = w := if_pos h
theorem rs_af_1 {part : Int → rs_R} {k : Int} {g : rs_B} {n : Int} {w : rs_R} (h : w.1 ≠ 0) (h2 : rs_co (rs_v g n (rs_sk g n w.2)) = k) (h3 : 0 ≤ k) : rs_af part k g n w = rs_lp part k g n (rs_sk g n w.2 + 1) := by
  unfold rs_af
  have h4 : rs_sk g n w.2 < n := rs_v_lt (fun e => by rw [e] at h2; have z : rs_co 0 = -1 := by decide
                                                      omega)
  rw [if_neg h, if_pos ⟨h2, h4⟩]
theorem rs_af_e {part : Int → rs_R} {k : Int} {g : rs_B} {n : Int} {w : rs_R} (h : w.1 ≠ 0) (h2 : rs_co (rs_v g n (rs_sk g n w.2)) ≠ k) : rs_af part k g n w = (1, rs_sk g n w.2) := by
  unfold rs_af
  rw [if_neg h, if_neg (fun z => h2 z.1)]
/-- is it a digit -/
def rs_d (c : Int) : Int := if 48 ≤ c ∧ c ≤ 57 then 1 else 0
theorem rs_d_eq (c : Int) : (rs_d c = 1 ∧ 48 ≤ c ∧ c ≤ 57) ∨ (rs_d c = 0 ∧ (c < 48 ∨ 57 < c)) := by
  unfold rs_d
  split <;> omega
/-- digits, k at most: what they say, and the place behind them -/
def rs_nm (g : rs_B) (n : Int) : Nat → Int → Int → Int × Int
  | 0, q, v => (v, q)
  | k + 1, q, v => if rs_d (rs_v g n q) = 1 then rs_nm g n k (q + 1) (10 * v + rs_v g n q - 48) else (v, q)
theorem rs_nm_on {g : rs_B} {n : Int} {k : Nat} {q v : Int} (h : rs_d (rs_v g n q) = 1) : rs_nm g n (k + 1) q v = rs_nm g n k (q + 1) (10 * v + rs_v g n q - 48) := if_pos h
theorem rs_nm_end {g : rs_B} {n : Int} {k : Nat} {q v : Int} (h : rs_d (rs_v g n q) = 0) : rs_nm g n k q v = (v, q) := by
  cases k with
  | zero => rfl
  | succ k => exact if_neg (by omega)
/-- a number of m digits at most, from q on -/
def rs_num (g : rs_B) (n : Int) (m : Nat) (q : Int) : rs_R := if q < (rs_nm g n m q 0).2 ∧ rs_d (rs_v g n (rs_nm g n m q 0).2) = 0 then (1, (rs_nm g n m q 0).2) else (0, (rs_nm g n m q 0).2)
/-- which of a law's letters c is -/
def rs_lt (c : Int) : Int := if c = 98 then 0 else if c = 100 then 1 else if c = 112 then 2 else if c = 104 then 3 else if c = 111 then 4 else if c = 121 then 5 else -1
theorem rs_lt_eq (c : Int) : (rs_lt c = -1 ↔ (c ≠ 98 ∧ c ≠ 100 ∧ c ≠ 112 ∧ c ≠ 104 ∧ c ≠ 111 ∧ c ≠ 121)) ∧ -1 ≤ rs_lt c ∧ rs_lt c ≤ 5 := by
  unfold rs_lt
  split <;> (try split) <;> (try split) <;> (try split) <;> (try split) <;> (try split) <;> omega
/-- behind an inner piece its closing sign -/
def rs_cl (g : rs_B) (n close : Int) (w : rs_R) : rs_R := if w.1 = 0 then w else if rs_v g n (rs_sk g n w.2) = close then (1, rs_sk g n w.2 + 1) else (0, rs_sk g n w.2)
theorem rs_cl_0 {g : rs_B} {n c : Int} {w : rs_R} (h : w.1 = 0) : rs_cl g n c w = w := if_pos h
theorem rs_cl_1 {g : rs_B} {n c : Int} {w : rs_R} (h : w.1 ≠ 0) (h2 : rs_v g n (rs_sk g n w.2) = c) : rs_cl g n c w = (1, rs_sk g n w.2 + 1) := by
  unfold rs_cl
  rw [if_neg h, if_pos h2]
theorem rs_cl_e {g : rs_B} {n c : Int} {w : rs_R} (h : w.1 ≠ 0) (h2 : rs_v g n (rs_sk g n w.2) ≠ c) : rs_cl g n c w = (0, rs_sk g n w.2) := by
  unfold rs_cl
  rw [if_neg h, if_neg h2]
/-- an atom; e: how many more may stand within; sm: a sum within -/
def rs_atf (g : rs_B) (n : Int) (e : Nat) (sm : Int → rs_R) (p : Int) : rs_R :=
  if rs_v g n (rs_sk g n p) = 91 then (if e = 0 then (0, rs_sk g n p) else rs_cl g n 93 (sm (rs_sk g n p + 1)))
  else if rs_lt (rs_v g n (rs_sk g n p)) ≠ -1 then (1, rs_sk g n p + 1) else rs_num g n 4 (rs_sk g n p)
def rs_smf (g : rs_B) (n : Int) (e : Nat) (sm : Int → rs_R) (p : Int) : rs_R := rs_lp (rs_lp (rs_atf g n e sm) 3 g n) 2 g n p
def rs_sm (g : rs_B) (n : Int) : Nat → Int → rs_R
  | 0 => rs_smf g n 0 (fun p => (0, p))
  | e + 1 => rs_smf g n (e + 1) (rs_sm g n e)
def rs_at (g : rs_B) (n : Int) (e : Nat) : Int → rs_R := rs_atf g n e (rs_sm g n (e - 1))
def rs_tm (g : rs_B) (n : Int) (e : Nat) : Int → rs_R := rs_lp (rs_at g n e) 3 g n
theorem rs_sm_eq (g : rs_B) (n : Int) (e : Nat) : rs_sm g n e = rs_lp (rs_tm g n e) 2 g n := by
  cases e with
  | zero =>
    have h : rs_atf g n 0 (fun p => (0, p)) = rs_at g n 0 := by
      funext p
      unfold rs_at rs_atf
      rw [if_pos rfl, if_pos rfl]
    show (fun p => rs_lp (rs_lp (rs_atf g n 0 (fun p => (0, p))) 3 g n) 2 g n p) = _
    rw [h]
    rfl
  | succ e => rfl
theorem rs_at_n0 {g : rs_B} {n : Int} {e : Nat} {p : Int} (h : rs_v g n (rs_sk g n p) = 91) (he : (e : Int) = 0) : rs_at g n e p = (0, rs_sk g n p) := by
  unfold rs_at rs_atf
  rw [if_pos h, if_pos (by omega)]
theorem rs_at_n {g : rs_B} {n : Int} {e : Nat} {p : Int} (h : rs_v g n (rs_sk g n p) = 91) (he : 1 ≤ (e : Int)) : rs_at g n e p = rs_cl g n 93 (rs_sm g n (e - 1) (rs_sk g n p + 1)) := by
  unfold rs_at rs_atf
  rw [if_pos h, if_neg (by omega)]
theorem rs_at_l {g : rs_B} {n : Int} {e : Nat} {p : Int} (h : rs_lt (rs_v g n (rs_sk g n p)) ≠ -1) : rs_at g n e p = (1, rs_sk g n p + 1) := by
  unfold rs_at rs_atf
  rw [if_neg (fun q => h (by rw [q]; decide)), if_pos h]
theorem rs_at_m {g : rs_B} {n : Int} {e : Nat} {p : Int} (h : rs_v g n (rs_sk g n p) ≠ 91) (h2 : rs_lt (rs_v g n (rs_sk g n p)) = -1) : rs_at g n e p = rs_num g n 4 (rs_sk g n p) := by
  unfold rs_at rs_atf
  rw [if_neg h, if_neg (fun q => q h2)]
theorem rs_num_1 {g : rs_B} {n : Int} {m : Nat} {q : Int} (h : q < (rs_nm g n m q 0).2) (h2 : rs_d (rs_v g n (rs_nm g n m q 0).2) = 0) : rs_num g n m q = (1, (rs_nm g n m q 0).2) := if_pos ⟨h, h2⟩
theorem rs_num_0 {g : rs_B} {n : Int} {m : Nat} {q : Int} (h : ¬ (q < (rs_nm g n m q 0).2 ∧ rs_d (rs_v g n (rs_nm g n m q 0).2) = 0)) : rs_num g n m q = (0, (rs_nm g n m q 0).2) := if_neg h
/-- a comparison behind a sum that is read -/
def rs_cmp (g : rs_B) (n : Int) (e : Nat) (q : Int) : rs_R := if rs_v g n (rs_sk g n q) = 61 ∨ rs_v g n (rs_sk g n q) = 60 ∨ rs_v g n (rs_sk g n q) = 62 then rs_sm g n e (rs_sk g n q + 1) else (0, rs_sk g n q)
theorem rs_cmp_1 {g : rs_B} {n : Int} {e : Nat} {q : Int} (h : rs_v g n (rs_sk g n q) = 61 ∨ rs_v g n (rs_sk g n q) = 60 ∨ rs_v g n (rs_sk g n q) = 62) : rs_cmp g n e q = rs_sm g n e (rs_sk g n q + 1) := if_pos h
theorem rs_cmp_0 {g : rs_B} {n : Int} {e : Nat} {q : Int} (h : ¬ (rs_v g n (rs_sk g n q) = 61 ∨ rs_v g n (rs_sk g n q) = 60 ∨ rs_v g n (rs_sk g n q) = 62)) : rs_cmp g n e q = (0, rs_sk g n q) := if_neg h
/-- and on with h where it went well -/
def rs_th (h : Int → rs_R) (w : rs_R) : rs_R := if w.1 = 0 then w else h w.2
theorem rs_th_0 {h : Int → rs_R} {w : rs_R} (q : w.1 = 0) : rs_th h w = w := if_pos q
theorem rs_th_1 {h : Int → rs_R} {w : rs_R} (q : w.1 ≠ 0) : rs_th h w = h w.2 := if_neg q
def rs_unf (g : rs_B) (n : Int) (e : Nat) (un : Int → rs_R) (p : Int) : rs_R :=
  if rs_v g n (rs_sk g n p) = 33 then (if e = 0 then (0, rs_sk g n p) else un (rs_sk g n p + 1))
  else if rs_v g n (rs_sk g n p) = 40 then (if e = 0 then (0, rs_sk g n p) else rs_cl g n 41 (rs_lp (rs_lp un 1 g n) 0 g n (rs_sk g n p + 1)))
  else rs_th (rs_cmp g n e) (rs_sm g n e (rs_sk g n p))
def rs_un (g : rs_B) (n : Int) : Nat → Int → rs_R
  | 0 => rs_unf g n 0 (fun p => (0, p))
  | e + 1 => rs_unf g n (e + 1) (rs_un g n e)
def rs_tr (g : rs_B) (n : Int) (e : Nat) : Int → rs_R := rs_lp (rs_un g n e) 1 g n
def rs_cd (g : rs_B) (n : Int) (e : Nat) : Int → rs_R := rs_lp (rs_tr g n e) 0 g n
theorem rs_un_eq (g : rs_B) (n : Int) (e : Nat) (p : Int) : rs_un g n e p = rs_unf g n e (rs_un g n (e - 1)) p := by
  cases e with
  | zero =>
    show rs_unf g n 0 (fun p => (0, p)) p = _
    unfold rs_unf
    rw [if_pos rfl, if_pos rfl, if_pos rfl, if_pos rfl]
  | succ e => rfl
theorem rs_un_b0 {g : rs_B} {n : Int} {e : Nat} {p : Int} (h : rs_v g n (rs_sk g n p) = 33 ∨ rs_v g n (rs_sk g n p) = 40) (he : (e : Int) = 0) : rs_un g n e p = (0, rs_sk g n p) := by
  rw [rs_un_eq]
  unfold rs_unf
  by_cases q : rs_v g n (rs_sk g n p) = 33
  · rw [if_pos q, if_pos (by omega)]
  · rw [if_neg q, if_pos (h.resolve_left q), if_pos (by omega)]
theorem rs_un_n {g : rs_B} {n : Int} {e : Nat} {p : Int} (h : rs_v g n (rs_sk g n p) = 33) (he : 1 ≤ (e : Int)) : rs_un g n e p = rs_un g n (e - 1) (rs_sk g n p + 1) := by
  rw [rs_un_eq]
  unfold rs_unf
  rw [if_pos h, if_neg (by omega)]
theorem rs_un_p {g : rs_B} {n : Int} {e : Nat} {p : Int} (h : rs_v g n (rs_sk g n p) = 40) (he : 1 ≤ (e : Int)) : rs_un g n e p = rs_cl g n 41 (rs_cd g n (e - 1) (rs_sk g n p + 1)) := by
  rw [rs_un_eq]
  unfold rs_unf
  rw [if_neg (by omega), if_pos h, if_neg (by omega)]
  rfl
theorem rs_un_s {g : rs_B} {n : Int} {e : Nat} {p : Int} (h : rs_v g n (rs_sk g n p) ≠ 33) (h2 : rs_v g n (rs_sk g n p) ≠ 40) : rs_un g n e p = rs_th (rs_cmp g n e) (rs_sm g n e (rs_sk g n p)) := by
  rw [rs_un_eq]
  unfold rs_unf
  rw [if_neg h, if_neg h2]
/-- a condition whose first sum is read -/
def rs_cb (g : rs_B) (n : Int) (e : Nat) (t : Int) : rs_R := rs_af (rs_tr g n e) 0 g n (rs_af (rs_un g n e) 1 g n (rs_cmp g n e t))
/-- what stands behind a condition -/
def rs_tl (g : rs_B) (n : Int) (q : Int) : rs_R := if rs_v g n (rs_sk g n q) = 63 then rs_sm g n 6 (rs_sk g n q + 1) else (0, rs_sk g n q)
theorem rs_tl_1 {g : rs_B} {n q : Int} (h : rs_v g n (rs_sk g n q) = 63) : rs_tl g n q = rs_sm g n 6 (rs_sk g n q + 1) := if_pos h
theorem rs_tl_0 {g : rs_B} {n q : Int} (h : rs_v g n (rs_sk g n q) ≠ 63) : rs_tl g n q = (0, rs_sk g n q) := if_neg h
/-- behind the sum with which a clause begins -/
def rs_sc (g : rs_B) (n : Int) (r : Int) : rs_R := if rs_v g n (rs_sk g n r) = 61 ∨ rs_v g n (rs_sk g n r) = 60 ∨ rs_v g n (rs_sk g n r) = 62 then rs_th (rs_tl g n) (rs_cb g n 6 (rs_sk g n r)) else (1, rs_sk g n r)
theorem rs_sc_1 {g : rs_B} {n r : Int} (h : rs_v g n (rs_sk g n r) = 61 ∨ rs_v g n (rs_sk g n r) = 60 ∨ rs_v g n (rs_sk g n r) = 62) : rs_sc g n r = rs_th (rs_tl g n) (rs_cb g n 6 (rs_sk g n r)) := if_pos h
theorem rs_sc_0 {g : rs_B} {n r : Int} (h : ¬ (rs_v g n (rs_sk g n r) = 61 ∨ rs_v g n (rs_sk g n r) = 60 ∨ rs_v g n (rs_sk g n r) = 62)) : rs_sc g n r = (1, rs_sk g n r) := if_neg h
/-- behind y and : -/
def rs_bd (g : rs_B) (n : Int) (s : Int) : rs_R := if rs_v g n s = 33 ∨ rs_v g n s = 40 then rs_th (rs_tl g n) (rs_cd g n 6 s) else rs_th (rs_sc g n) (rs_sm g n 6 s)
theorem rs_bd_c {g : rs_B} {n s : Int} (h : rs_v g n s = 33 ∨ rs_v g n s = 40) : rs_bd g n s = rs_th (rs_tl g n) (rs_cd g n 6 s) := if_pos h
theorem rs_bd_s {g : rs_B} {n s : Int} (h : ¬ (rs_v g n s = 33 ∨ rs_v g n s = 40)) : rs_bd g n s = rs_th (rs_sc g n) (rs_sm g n 6 s) := if_neg h
def rs_ca (g : rs_B) (n : Int) (p : Int) : rs_R := if rs_v g n (rs_sk g n p) = 121 then (if rs_v g n (rs_sk g n (rs_sk g n p + 1)) = 58 then rs_bd g n (rs_sk g n (rs_sk g n (rs_sk g n p + 1) + 1)) else (0, rs_sk g n (rs_sk g n p + 1))) else (0, rs_sk g n p)
theorem rs_ca_y {g : rs_B} {n p : Int} (h : rs_v g n (rs_sk g n p) ≠ 121) : rs_ca g n p = (0, rs_sk g n p) := if_neg h
theorem rs_ca_d {g : rs_B} {n p : Int} (h : rs_v g n (rs_sk g n p) = 121) (h2 : rs_v g n (rs_sk g n (rs_sk g n p + 1)) ≠ 58) : rs_ca g n p = (0, rs_sk g n (rs_sk g n p + 1)) := by
  unfold rs_ca
  rw [if_pos h, if_neg h2]
theorem rs_ca_b {g : rs_B} {n p : Int} (h : rs_v g n (rs_sk g n p) = 121) (h2 : rs_v g n (rs_sk g n (rs_sk g n p + 1)) = 58) : rs_ca g n p = rs_bd g n (rs_sk g n (rs_sk g n (rs_sk g n p + 1) + 1)) := by
  unfold rs_ca
  rw [if_pos h, if_pos h2]
/-- the FAULT of a text -/
def rs_flt (n : Int) (w : rs_R) : Int := if w.1 = 0 then w.2 else if w.2 < n then w.2 else -1
theorem rs_flt_0 {n : Int} {w : rs_R} (h : w.1 = 0) : rs_flt n w = w.2 := if_pos h
theorem rs_flt_1 {n : Int} {w : rs_R} (h : w.1 ≠ 0) (h2 : w.2 < n) : rs_flt n w = w.2 := by
  unfold rs_flt
  rw [if_neg h, if_pos h2]
theorem rs_flt_e {n : Int} {w : rs_R} (h : w.1 ≠ 0) (h2 : ¬ w.2 < n) : rs_flt n w = -1 := by
  unfold rs_flt
  rw [if_neg h, if_neg h2]
def rs_lw (g : rs_B) (n : Int) : rs_R := rs_lp (rs_ca g n) 4 g n 0
def rs_law (g : rs_B) (n : Int) : Int := rs_flt n (rs_lw g n)
/-- how an answer and a place tell it -/
theorem rs_eq {w : rs_R} {a b r t : Int} (e : w = (a, b)) (h : r = a) (h2 : t = b) : r = w.1 ∧ t = w.2 := by
  subst e
  exact ⟨h, h2⟩
theorem rs_eqw {w w2 : rs_R} {r t : Int} (e : w = w2) (h : r = w2.1) (h2 : t = w2.2) : r = w.1 ∧ t = w.2 := by
  subst e
  exact ⟨h, h2⟩
theorem rs_e0 {w w2 : rs_R} (e : w = w2) : w.1 = w2.1 ∧ w.2 = w2.2 := by
  subst e
  exact ⟨rfl, rfl⟩
/-! a row of ints, as a function -/
def gfn (f : py_F) (t : Nat) : Nat → Int32 := match f t with
  | .inl (_, _, .inl g) => g
  | _ => fun _ => 0
theorem gfn_eq {L : List Nat} {f : py_F} {t n : Nat} {c : ClassId} {g : Nat → Int32} (h : py_at L f t (.inl (c, n, .inl g))) : gfn f t = g := by
  unfold gfn
  rw [h.2]
theorem gfn_kp {f f1 : py_F} {t : Nat} (h : f1 t = f t) : gfn f1 t = gfn f t := by
  unfold gfn
  rw [h]
/-- what is loaded out of a row of bytes -/
theorem rs_vl {L : List Nat} {f : py_F} {t n : Nat} {c : ClassId} {g : Nat → Int32} {gb : rs_B} {nb p : Int} {x i : Int32} (hTB : gfn f t = gb) (h : py_at L f t (.inl (c, n, .inl g))) (e : x = g i.toNatClampNeg) (hp : i.toInt = p) (hlt : p < nb) : rs_v gb nb p = x.toInt := by
  rw [rs_v_in hlt, ← hTB, gfn_eq h, e, ← hp]
  rfl
theorem rs_sk_on {g : rs_B} {n a b s : Int} (h : rs_sk g n a = s) (hv : rs_v g n a = 32) (hb : b = a + 1) : rs_sk g n b = s := by
  rw [hb, ← rs_sk_step hv]
  exact h
/-- a number so far: how many digits, and its value -/
def rs_rb (q v : Int) : Prop := (q = 0 ∧ v = 0) ∨ (q = 1 ∧ 0 ≤ v ∧ v ≤ 9) ∨ (q = 2 ∧ 0 ≤ v ∧ v ≤ 99) ∨ (q = 3 ∧ 0 ≤ v ∧ v ≤ 999) ∨ (q = 4 ∧ 0 ≤ v ∧ v ≤ 9999)
theorem rs_rb_0 {q v : Int} (h : q = 0) (h2 : v = 0) : rs_rb q v := Or.inl ⟨h, h2⟩
theorem rs_rb_le {q v : Int} (h : rs_rb q v) : 0 ≤ v ∧ v ≤ 9999 ∧ (q ≤ 3 → v ≤ 999) := by
  unfold rs_rb at h
  omega
theorem rs_rb_on {q v c q2 v2 : Int} (h : rs_rb q v) (hq : q ≤ 3) (h1 : 48 ≤ c) (h2 : c ≤ 57) (e : q2 = q + 1) (e2 : v2 = 10 * v + c - 48) : rs_rb q2 v2 := by
  unfold rs_rb at h ⊢
  omega
theorem rs_nm_st {g : rs_B} {n q v q2 v2 : Int} {k k2 : Nat} {W : Int × Int} (h : W = rs_nm g n k q v) (hd : rs_d (rs_v g n q) = 1) (hk : k = k2 + 1) (hq : q2 = q + 1) (hv : v2 = 10 * v + rs_v g n q - 48) : W = rs_nm g n k2 q2 v2 := by
  subst hk hq hv
  rw [h, rs_nm_on hd]
theorem rs_nm_fin {g : rs_B} {n q v : Int} {k : Nat} {W : Int × Int} (h : W = rs_nm g n k q v) (hk : k = 0 ∨ rs_d (rs_v g n q) = 0) : W = (v, q) := by
  rcases hk with hk | hk
  · subst hk
    exact h
  · rw [h, rs_nm_end hk]
theorem rs_num_y {g : rs_B} {n q v b : Int} {m : Nat} (h : rs_nm g n m q 0 = (v, b)) (h1 : q < b) (h2 : rs_d (rs_v g n b) = 0) : rs_num g n m q = (1, b) := by
  have e : (rs_nm g n m q 0).2 = b := by rw [h]
  rw [rs_num_1 (by rw [e]; exact h1) (by rw [e]; exact h2), e]
theorem rs_num_z {g : rs_B} {n q v b : Int} {m : Nat} (h : rs_nm g n m q 0 = (v, b)) (h1 : ¬ (q < b ∧ rs_d (rs_v g n b) = 0)) : rs_num g n m q = (0, b) := by
  have e : (rs_nm g n m q 0).2 = b := by rw [h]
  rw [rs_num_0 (by rw [e]; exact h1), e]
/-- a number within lo and hi -/
def rv_num (g : rs_B) (n : Int) (m : Nat) (lo hi q : Int) : rs_R := if (rs_num g n m q).1 = 0 then rs_num g n m q else if (rs_nm g n m q 0).1 < lo ∨ hi < (rs_nm g n m q 0).1 then (0, (rs_num g n m q).2 - 1) else (1, (rs_num g n m q).2)
theorem rv_num_0 {g : rs_B} {n lo hi q : Int} {m : Nat} (h : (rs_num g n m q).1 = 0) : rv_num g n m lo hi q = rs_num g n m q := if_pos h
theorem rv_num_o {g : rs_B} {n lo hi q : Int} {m : Nat} (h : (rs_num g n m q).1 ≠ 0) (h2 : (rs_nm g n m q 0).1 < lo ∨ hi < (rs_nm g n m q 0).1) : rv_num g n m lo hi q = (0, (rs_num g n m q).2 - 1) := by
  unfold rv_num
  rw [if_neg h, if_pos h2]
theorem rv_num_i {g : rs_B} {n lo hi q : Int} {m : Nat} (h : (rs_num g n m q).1 ≠ 0) (h2 : ¬ ((rs_nm g n m q 0).1 < lo ∨ hi < (rs_nm g n m q 0).1)) : rv_num g n m lo hi q = (1, (rs_num g n m q).2) := by
  unfold rv_num
  rw [if_neg h, if_neg h2]
/-- what is nested behind the sign a at p -/
def rs_ns (g : rs_B) (n : Int) (e : Nat) (a p : Int) : rs_R := if e = 0 then (0, p) else if a = 33 then rs_un g n (e - 1) (p + 1) else if a = 40 then rs_cl g n 41 (rs_cd g n (e - 1) (p + 1)) else rs_cl g n 93 (rs_sm g n (e - 1) (p + 1))
theorem rs_ns_0 {g : rs_B} {n a p : Int} {e : Nat} (he : (e : Int) = 0) : rs_ns g n e a p = (0, p) := if_pos (by omega)
theorem rs_ns_n {g : rs_B} {n a p : Int} {e : Nat} (he : 1 ≤ (e : Int)) (h : a = 33) : rs_ns g n e a p = rs_un g n (e - 1) (p + 1) := by
  unfold rs_ns
  rw [if_neg (by omega), if_pos h]
theorem rs_ns_p {g : rs_B} {n a p : Int} {e : Nat} (he : 1 ≤ (e : Int)) (h : a = 40) : rs_ns g n e a p = rs_cl g n 41 (rs_cd g n (e - 1) (p + 1)) := by
  unfold rs_ns
  rw [if_neg (by omega), if_neg (by omega), if_pos h]
theorem rs_ns_b {g : rs_B} {n a p : Int} {e : Nat} (he : 1 ≤ (e : Int)) (h : a ≠ 33) (h2 : a ≠ 40) : rs_ns g n e a p = rs_cl g n 93 (rs_sm g n (e - 1) (p + 1)) := by
  unfold rs_ns
  rw [if_neg (by omega), if_neg h, if_neg h2]
theorem rs_at_ns {g : rs_B} {n p a : Int} {e : Nat} (h : rs_v g n (rs_sk g n p) = a) (ha : a = 91) : rs_at g n e p = rs_ns g n e a (rs_sk g n p) := by
  subst ha
  by_cases he : (e : Int) = 0
  · rw [rs_at_n0 h he, rs_ns_0 he]
  · rw [rs_at_n h (by omega), rs_ns_b (by omega) (by decide) (by decide)]
theorem rs_un_ns {g : rs_B} {n p a : Int} {e : Nat} (h : rs_v g n (rs_sk g n p) = a) (ha : a = 33 ∨ a = 40) : rs_un g n e p = rs_ns g n e a (rs_sk g n p) := by
  subst h
  by_cases he : (e : Int) = 0
  · rw [rs_un_b0 ha he, rs_ns_0 he]
  · rcases ha with ha | ha
    · rw [rs_un_n ha (by omega), rs_ns_n (by omega) ha]
    · rw [rs_un_p ha (by omega), rs_ns_p (by omega) ha]
theorem rs_at_mm {g : rs_B} {n p : Int} {e : Nat} (h : rs_v g n (rs_sk g n p) ≠ 91) (h2 : rs_lt (rs_v g n (rs_sk g n p)) = -1) : rs_at g n e p = rs_num g n 4 (rs_sk g n (rs_sk g n p)) := by
  rw [rs_at_m h h2, rs_sk_idem]
/-- begun (b = 1): the sum with which it begins is read -/
def rs_unb (g : rs_B) (n : Int) (e : Nat) (b p : Int) : rs_R := if b = 1 then rs_cmp g n e p else rs_un g n e p
def rs_trb (g : rs_B) (n : Int) (e : Nat) (b p : Int) : rs_R := if b = 1 then rs_af (rs_un g n e) 1 g n (rs_cmp g n e p) else rs_tr g n e p
def rs_cdb (g : rs_B) (n : Int) (e : Nat) (b p : Int) : rs_R := if b = 1 then rs_cb g n e p else rs_cd g n e p
theorem rs_unb_0 {g : rs_B} {n b p : Int} {e : Nat} (h : b = 0) : rs_unb g n e b p = rs_un g n e p := if_neg (by omega)
theorem rs_unb_1 {g : rs_B} {n b p : Int} {e : Nat} (h : b = 1) : rs_unb g n e b p = rs_cmp g n e p := if_pos h
theorem rs_trb_0 {g : rs_B} {n b p : Int} {e : Nat} (h : b = 0) : rs_trb g n e b p = rs_lp (rs_un g n e) 1 g n p := if_neg (by omega)
theorem rs_trb_1 {g : rs_B} {n b p : Int} {e : Nat} (h : b = 1) : rs_trb g n e b p = rs_af (rs_un g n e) 1 g n (rs_unb g n e 1 p) := by
  rw [rs_unb_1 rfl]
  exact if_pos h
theorem rs_cdb_0 {g : rs_B} {n b p : Int} {e : Nat} (h : b = 0) : rs_cdb g n e b p = rs_lp (rs_tr g n e) 0 g n p := if_neg (by omega)
theorem rs_cdb_1 {g : rs_B} {n b p : Int} {e : Nat} (h : b = 1) : rs_cdb g n e b p = rs_af (rs_tr g n e) 0 g n (rs_trb g n e 1 p) := by
  rw [rs_trb_1 rfl, rs_unb_1 rfl]
  exact if_pos h
theorem rs_unb_n {g : rs_B} {n p : Int} {e : Nat} : rs_unb g n e 0 p = rs_un g n e p := if_neg (by decide)
theorem rs_trb_n {g : rs_B} {n p : Int} {e : Nat} : rs_trb g n e 0 p = rs_tr g n e p := if_neg (by decide)
/-- on with a chain behind a sign of its own -/
theorem rs_af_on {part : Int → rs_R} {k : Int} {g : rs_B} {n q : Int} {w X : rs_R} (hX : X = rs_af part k g n w) (h : w.1 ≠ 0) (h2 : rs_co (rs_v g n (rs_sk g n w.2)) = k) (h3 : 0 ≤ k) (hq : q = rs_sk g n w.2 + 1) : X = rs_lp part k g n q := by
  rw [hX, rs_af_1 h h2 h3, hq]
theorem rs_lp_eq {part : Int → rs_R} {k : Int} {g : rs_B} {n p : Int} {X : rs_R} (hX : X = rs_lp part k g n p) (h : p ≤ (part p).2) : X = rs_af part k g n (part p) := hX.trans (rs_lp_af (fun _ => h))
theorem rs_lp_eb {part : Int → rs_R} {k : Int} {g : rs_B} {n p : Int} {X w : rs_R} (hX : X = rs_lp part k g n p) (e : w = part p) (h : p ≤ w.2) : X = rs_af part k g n w := by
  subst e
  exact rs_lp_eq hX h
theorem rs_tr_1 {g : rs_B} {n p : Int} {e : Nat} {X : rs_R} (h : X = rs_lp (rs_un g n e) 1 g n p) : X = rs_tr g n e p := h
theorem rs_pq {g : rs_B} {n a b : Int} {F : Int → rs_R} (h : a = b) : F a = F b := by rw [h]
theorem rs_ns_nb {g : rs_B} {n a p : Int} {e : Nat} (he : 1 ≤ (e : Int)) (h : a = 33) : rs_ns g n e a p = rs_unb g n (e - 1) 0 (p + 1) := by
  rw [rs_ns_n he h, rs_unb_n]
theorem rs_cdb_n {g : rs_B} {n p : Int} {e : Nat} : rs_cdb g n e 0 p = rs_cd g n e p := if_neg (by decide)
theorem rs_ns_pb {g : rs_B} {n a p : Int} {e : Nat} (he : 1 ≤ (e : Int)) (h : a = 40) : rs_ns g n e a p = rs_cl g n 41 (rs_cdb g n (e - 1) 0 (p + 1)) := by
  rw [rs_ns_p he h, rs_cdb_n]
theorem rs_sc_c {g : rs_B} {n r : Int} (h : rs_v g n (rs_sk g n r) = 61 ∨ rs_v g n (rs_sk g n r) = 60 ∨ rs_v g n (rs_sk g n r) = 62) : rs_sc g n r = rs_th (rs_tl g n) (rs_cdb g n 6 1 (rs_sk g n r)) := rs_sc_1 h
theorem rs_bd_cc {g : rs_B} {n s : Int} (h : rs_v g n s = 33 ∨ rs_v g n s = 40) : rs_bd g n s = rs_th (rs_tl g n) (rs_cdb g n 6 0 s) := by
  rw [rs_bd_c h, rs_cdb_n]
theorem rs_lp_pr {part : Int → rs_R} {k : Int} {g : rs_B} {n p r q : Int} {X : rs_R} (hX : X = rs_lp part k g n p) (h1 : r = (part p).1) (h2 : q = (part p).2) (h : p ≤ q) : X = rs_af part k g n (r, q) := by
  subst h1 h2
  exact rs_lp_eq hX h
theorem rs_af_onp {part : Int → rs_R} {k : Int} {g : rs_B} {n r q q2 : Int} {X : rs_R} (hX : X = rs_af part k g n (r, q)) (h : r ≠ 0) (h2 : rs_co (rs_v g n (rs_sk g n q)) = k) (h3 : 0 ≤ k) (hq : q2 = rs_sk g n q + 1) : X = rs_lp part k g n q2 := rs_af_on hX h h2 h3 hq
/-- no byte of a text is 0 -/
def rs_tb (g : rs_B) (n : Int) : Prop := ∀ p : Int, 0 ≤ p → p < n → rs_v g n p ≠ 0
theorem rs_law_0 {g : rs_B} {n r q x : Int} (h : rs_lw g n = rs_af (rs_ca g n) 4 g n (r, q)) (hr : r = 0) (hx : x = q) : x = rs_law g n := by
  unfold rs_law
  rw [h, rs_af_0 hr, rs_flt_0 hr, hx]
theorem rs_law_p {g : rs_B} {n r q x : Int} (h : rs_lw g n = rs_af (rs_ca g n) 4 g n (r, q)) (hr : r ≠ 0) (h2 : rs_v g n (rs_sk g n q) ≠ 59) (h3 : rs_v g n (rs_sk g n q) ≠ 0) (hx : x = rs_sk g n q) : x = rs_law g n := by
  unfold rs_law
  have hz := rs_co_eq (rs_v g n (rs_sk g n q))
  rw [h, rs_af_e hr (by show rs_co (rs_v g n (rs_sk g n q)) ≠ 4; omega), rs_flt_1 (show (1 : Int) ≠ 0 by decide) (rs_v_lt h3), hx]
theorem rs_law_e {g : rs_B} {n r q x : Int} (tb : rs_tb g n) (h : rs_lw g n = rs_af (rs_ca g n) 4 g n (r, q)) (hr : r ≠ 0) (h0 : 0 ≤ q) (h3 : rs_v g n (rs_sk g n q) = 0) (hx : x = -1) : x = rs_law g n := by
  unfold rs_law
  have hz := rs_co_eq (rs_v g n (rs_sk g n q))
  have hg := rs_sk_ge g n q
  rw [h, rs_af_e hr (by show rs_co (rs_v g n (rs_sk g n q)) ≠ 4; omega), rs_flt_e (show (1 : Int) ≠ 0 by decide) (fun hl => tb (rs_sk g n q) (by omega) hl h3), hx]
theorem rs_nm_ge (g : rs_B) (n : Int) (k : Nat) (q v : Int) : q ≤ (rs_nm g n k q v).2 := by
  induction k generalizing q v with
  | zero => exact Int.le_refl q
  | succ k ih =>
    show q ≤ (if rs_d (rs_v g n q) = 1 then rs_nm g n k (q + 1) (10 * v + rs_v g n q - 48) else (v, q)).2
    split
    · have := ih (q + 1) (10 * v + rs_v g n q - 48)
      omega
    · exact Int.le_refl q
theorem rs_nm_gt {g : rs_B} {n : Int} {k : Nat} {q v x b : Int} (h : rs_d (rs_v g n q) = 1) (e : rs_nm g n (k + 1) q v = (x, b)) : q < b := by
  rw [rs_nm_on h] at e
  have := rs_nm_ge g n k (q + 1) (10 * v + rs_v g n q - 48)
  rw [e] at this
  have z : q + 1 ≤ b := this
  omega
/-- a reader's state, told by an answer -/
theorem rm_1 {X : rs_R} {q a : Int} (e : X = (1, q)) (h : a = q) : X.1 ≠ 0 ∧ a = X.2 := by
  subst e
  exact ⟨(show (1 : Int) ≠ 0 by decide), h⟩
theorem rm_0 {X : rs_R} {q a : Int} (e : X = (0, q)) (h : a = q) : X.1 = 0 ∧ a = X.2 := by
  subst e
  exact ⟨rfl, h⟩
theorem rm_w1 {X W : rs_R} {a : Int} (e : X = W) (h : W.1 ≠ 0 ∧ a = W.2) : X.1 ≠ 0 ∧ a = X.2 := by
  subst e
  exact h
theorem rm_w0 {X W : rs_R} {a : Int} (e : X = W) (h : W.1 = 0 ∧ a = W.2) : X.1 = 0 ∧ a = X.2 := by
  subst e
  exact h
theorem rs_af_w1 {part : Int → rs_R} {k : Int} {g : rs_B} {n a : Int} {X w : rs_R} (hX : X = rs_af part k g n w) (h : w.1 ≠ 0) (h2 : a = w.2) : X = rs_af part k g n (1, a) := by
  subst h2
  rw [hX]
  unfold rs_af
  rw [if_neg h, if_neg (show ¬ (1 : Int) = 0 by decide)]
theorem rs_af_w0 {part : Int → rs_R} {k : Int} {g : rs_B} {n a : Int} {X w : rs_R} (hX : X = rs_af part k g n w) (h : w.1 = 0) (h2 : a = w.2) : X = (0, a) := by
  subst h2
  rw [hX, rs_af_0 h]
  exact Prod.ext h rfl
theorem rs_af_ep {part : Int → rs_R} {k : Int} {g : rs_B} {n q : Int} {X : rs_R} (hX : X = rs_af part k g n (1, q)) (h2 : rs_co (rs_v g n (rs_sk g n q)) ≠ k) : X = (1, rs_sk g n q) := by
  rw [hX]
  exact rs_af_e (w := (1, q)) (show (1 : Int) ≠ 0 by decide) h2
theorem rs_sk_a {g : rs_B} {n a q : Int} (h : a = rs_sk g n q) : rs_sk g n a = a := by
  rw [h, rs_sk_idem]
theorem rs_af_sk1 {part : Int → rs_R} {k : Int} {g : rs_B} {n a : Int} {X w : rs_R} (hX : X = rs_af part k g n w) (h : w.1 ≠ 0) (ha : a = rs_sk g n w.2) : X = rs_af part k g n (1, a) := by
  rw [hX, ha]
  unfold rs_af
  rw [if_neg h, if_neg (show ¬ (1 : Int) = 0 by decide)]
  show (if rs_co (rs_v g n (rs_sk g n w.2)) = k ∧ rs_sk g n w.2 < n then rs_lp part k g n (rs_sk g n w.2 + 1) else (1, rs_sk g n w.2)) = (if rs_co (rs_v g n (rs_sk g n (rs_sk g n w.2))) = k ∧ rs_sk g n (rs_sk g n w.2) < n then rs_lp part k g n (rs_sk g n (rs_sk g n w.2) + 1) else (1, rs_sk g n (rs_sk g n w.2)))
  rw [rs_sk_idem]
theorem rs_af_z {part : Int → rs_R} {k : Int} {g : rs_B} {n a : Int} {X w : rs_R} (hX : X = rs_af part k g n w) (h : w.1 ≠ 0) (hv : rs_v g n (rs_sk g n w.2) = 0) (hk : 0 ≤ k) (ha : a = rs_sk g n w.2) : X = (1, a) := by
  have hz := rs_co_eq (rs_v g n (rs_sk g n w.2))
  rw [hX, ha]
  exact rs_af_e h (by omega)
theorem rs_num_dd {g : rs_B} {n q : Int} {m : Nat} (h : rs_d (rs_v g n q) = 0) : rs_num g n m q = (0, q) := rs_num_z (rs_nm_end h) (by omega)
theorem rs_cd_eq {g : rs_B} {n p : Int} {e : Nat} (h1 : (rs_un g n e p).1 ≠ 0 → p ≤ (rs_un g n e p).2) (h2 : (rs_af (rs_un g n e) 1 g n (rs_un g n e p)).1 ≠ 0 → p ≤ (rs_af (rs_un g n e) 1 g n (rs_un g n e p)).2) : rs_cd g n e p = rs_af (rs_tr g n e) 0 g n (rs_af (rs_un g n e) 1 g n (rs_un g n e p)) := by
  have e1 : rs_tr g n e p = rs_af (rs_un g n e) 1 g n (rs_un g n e p) := rs_lp_af h1
  unfold rs_cd
  rw [rs_lp_af (by rw [e1]; exact h2), e1]
theorem rs_sm_eqp (g : rs_B) (n : Int) (e : Nat) (p : Int) : rs_sm g n e p = rs_lp (rs_tm g n e) 2 g n p := by
  rw [rs_sm_eq]
theorem rs_lp_eq1 {part : Int → rs_R} {k : Int} {g : rs_B} {n p : Int} {X w : rs_R} (hX : X = rs_lp part k g n p) (e : part p = w) (h : w.1 ≠ 0 → p ≤ w.2) : X = rs_af part k g n w := by
  subst e
  exact hX.trans (rs_lp_af h)
theorem rs_sc_w {g : rs_B} {n r : Int} (h : rs_v g n (rs_sk g n r) = 61 ∨ rs_v g n (rs_sk g n r) = 60 ∨ rs_v g n (rs_sk g n r) = 62) : rs_sc g n r = rs_th (rs_tl g n) (rs_af (rs_tr g n 6) 0 g n (rs_af (rs_un g n 6) 1 g n (rs_cmp g n 6 (rs_sk g n r)))) := rs_sc_1 h
theorem rs_p1 {c a b : Int} (h : a = b) : ((c, a) : rs_R) = (c, b) := by rw [h]
theorem rs_w0 {w : rs_R} {a : Int} (h : w.1 = 0) (h2 : a = w.2) : w = (0, a) := by
  subst h2
  exact Prod.ext h rfl
theorem rs_law_m0 {g : rs_B} {n a r : Int} (h : rs_lw g n = (0, a)) (hr : r = a) : r = rs_law g n := by
  unfold rs_law
  rw [h, hr]
  rfl
theorem rs_law_m1 {g : rs_B} {n a r : Int} (h : rs_lw g n = (1, a)) (ha : a < n) (hr : r = a) : r = rs_law g n := by
  unfold rs_law
  rw [h, hr]
  exact (rs_flt_1 (w := (1, a)) (show (1 : Int) ≠ 0 by decide) ha).symm
theorem rs_law_me {g : rs_B} {n a r : Int} (h : rs_lw g n = (1, a)) (ha : n ≤ a) (hr : r = -1) : r = rs_law g n := by
  unfold rs_law
  rw [h, hr]
  exact (rs_flt_e (w := (1, a)) (show (1 : Int) ≠ 0 by decide) (show ¬ a < n by omega)).symm
/-- a row holds the bytes, as far as the text goes -/
def AG (f : py_F) (t : Nat) (gb : rs_B) (nb : Int) : Prop := ∀ p : Int, 0 ≤ p → p < nb → gfn f t p.toNat = gb p.toNat
theorem AG.kp {f f1 : py_F} {t : Nat} {gb : rs_B} {nb : Int} (h : AG f t gb nb) (e : f1 t = f t) : AG f1 t gb nb := fun p a b => by
  rw [gfn_kp e]
  exact h p a b
theorem rs_vm {L : List Nat} {f : py_F} {t n : Nat} {c : ClassId} {g : Nat → Int32} {gb : rs_B} {nb p : Int} {x i : Int32} (hMB : AG f t gb nb) (h : py_at L f t (.inl (c, n, .inl g))) (e : x = g i.toNatClampNeg) (hp : i.toInt = p) (h0 : 0 ≤ p) (hlt : p < nb) : rs_v gb nb p = x.toInt := by
  rw [rs_v_in hlt, ← hMB p h0 hlt, gfn_eq h, e, ← hp]
  rfl
/-! READING A VALLEY -/
def rv_lx (c : Int) : Int := if c = 104 then 0 else if c = 102 then 1 else if c = 100 then 2 else if c = 115 then 3 else -1
def rv_fx (c : Int) : Int := if c = 112 then 0 else if c = 97 then 1 else if c = 98 then 2 else if c = 116 then 3 else -1
/-- which item a letter is: of a level (t = 1) h f d s, of a family (t = 0) p a b t -/
def rv_ix (t c : Int) : Int := if t = 1 then rv_lx c else rv_fx c
theorem rv_ix_eq (t c : Int) (ht : t = 1 ∨ t = 0) : -1 ≤ rv_ix t c ∧ rv_ix t c ≤ 3 ∧ (t = 1 → (rv_ix t c = 0 ↔ c = 104) ∧ (rv_ix t c = 1 ↔ c = 102) ∧ (rv_ix t c = 2 ↔ c = 100) ∧ (rv_ix t c = 3 ↔ c = 115)) ∧ (t = 0 → (rv_ix t c = 0 ↔ c = 112) ∧ (rv_ix t c = 1 ↔ c = 97) ∧ (rv_ix t c = 2 ↔ c = 98) ∧ (rv_ix t c = 3 ↔ c = 116)) := by
  rcases ht with ht | ht
  · subst ht
    have e : rv_ix 1 c = rv_lx c := if_pos rfl
    rw [e]
    unfold rv_lx
    split <;> (try split) <;> (try split) <;> (try split) <;> omega
  · subst ht
    have e : rv_ix 0 c = rv_fx c := if_neg (by decide)
    rw [e]
    unfold rv_fx
    split <;> (try split) <;> (try split) <;> (try split) <;> omega
def rv_lo (i : Int) : Int := if i = 0 then 1 else 0
def rv_hi (t i : Int) : Int := if t = 1 then (if i = 0 then 4 else if i = 1 then 99 else if i = 2 then 50 else 1) else (if i = 0 then 12 else if i = 1 then 7 else 100)
/-- has the mask m the item k -/
def rv_hs (m k : Int) : Int := if k = 0 then m % 2 else if k = 1 then m / 2 % 2 else if k = 2 then m / 4 % 2 else m / 8 % 2
def rv_ad (m k : Int) : Int := if k = 0 then m + 1 else if k = 1 then m + 2 else if k = 2 then m + 4 else m + 8
def rv_pc (m : Int) : Int := m % 2 + m / 2 % 2 + m / 4 % 2 + m / 8 % 2
theorem rv_ad_eq {m k : Int} (h0 : 0 ≤ m) (h1 : m ≤ 15) (k0 : 0 ≤ k) (k3 : k ≤ 3) (h : rv_hs m k ≠ 1) : 0 ≤ rv_ad m k ∧ rv_ad m k ≤ 15 ∧ rv_pc (rv_ad m k) = rv_pc m + 1 := by
  unfold rv_hs at h
  unfold rv_ad rv_pc
  have hk : k = 0 ∨ k = 1 ∨ k = 2 ∨ k = 3 := by omega
  rcases hk with hk | hk | hk | hk
  · subst hk
    rw [if_pos rfl] at h
    rw [if_pos rfl]
    omega
  · subst hk
    rw [if_neg (by decide), if_pos rfl] at h
    rw [if_neg (by decide), if_pos rfl]
    omega
  · subst hk
    rw [if_neg (by decide), if_neg (by decide), if_pos rfl] at h
    rw [if_neg (by decide), if_neg (by decide), if_pos rfl]
    omega
  · subst hk
    rw [if_neg (by decide), if_neg (by decide), if_neg (by decide)] at h
    rw [if_neg (by decide), if_neg (by decide), if_neg (by decide)]
    omega
theorem rv_pc_le {m : Int} (h0 : 0 ≤ m) (h1 : m ≤ 15) : 0 ≤ rv_pc m ∧ rv_pc m ≤ 4 := by
  unfold rv_pc
  omega
/-- the items from p on: m which were there, x and y items 0 and 1 so far. An answer: 1 well, 0 not, 2 stopped at a letter that was there; the place; the items -/
def rv_it (g : rs_B) (n t : Int) (m x y p : Int) : rs_R × rs_R :=
  if rv_ix t (rs_v g n (rs_sk g n p)) = -1 then ((1, rs_sk g n p), (x, y))
  else if rv_hs m (rv_ix t (rs_v g n (rs_sk g n p))) = 1 then ((2, rs_sk g n p), (x, y))
  else if (rv_num g n 3 (rv_lo (rv_ix t (rs_v g n (rs_sk g n p)))) (rv_hi t (rv_ix t (rs_v g n (rs_sk g n p)))) (rs_sk g n (rs_sk g n p + 1))).1 = 0 then (rv_num g n 3 (rv_lo (rv_ix t (rs_v g n (rs_sk g n p)))) (rv_hi t (rv_ix t (rs_v g n (rs_sk g n p)))) (rs_sk g n (rs_sk g n p + 1)), (x, y))
  else if p < (rv_num g n 3 (rv_lo (rv_ix t (rs_v g n (rs_sk g n p)))) (rv_hi t (rv_ix t (rs_v g n (rs_sk g n p)))) (rs_sk g n (rs_sk g n p + 1))).2 ∧ p < n then
    rv_it g n t (rv_ad m (rv_ix t (rs_v g n (rs_sk g n p)))) (if rv_ix t (rs_v g n (rs_sk g n p)) = 0 then (rs_nm g n 3 (rs_sk g n (rs_sk g n p + 1)) 0).1 else x) (if rv_ix t (rs_v g n (rs_sk g n p)) = 1 then (rs_nm g n 3 (rs_sk g n (rs_sk g n p + 1)) 0).1 else y) (rv_num g n 3 (rv_lo (rv_ix t (rs_v g n (rs_sk g n p)))) (rv_hi t (rv_ix t (rs_v g n (rs_sk g n p)))) (rs_sk g n (rs_sk g n p + 1))).2
  else ((0, p), (x, y))
termination_by (n - p).toNat
decreasing_by omega
theorem rv_it_e {g : rs_B} {n t m x y p : Int} {X : rs_R × rs_R} (h : X = rv_it g n t m x y p) (hk : rv_ix t (rs_v g n (rs_sk g n p)) = -1) : X = ((1, rs_sk g n p), (x, y)) := by
  rw [h, rv_it, if_pos hk]
theorem rv_it_r {g : rs_B} {n t m x y p k : Int} {X : rs_R × rs_R} (h : X = rv_it g n t m x y p) (ek : rv_ix t (rs_v g n (rs_sk g n p)) = k) (hk : k ≠ -1) (hm : rv_hs m k = 1) : X = ((2, rs_sk g n p), (x, y)) := by
  subst ek
  rw [h, rv_it, if_neg hk, if_pos hm]
theorem rv_it_f {g : rs_B} {n t m x y p k lo hi : Int} {X : rs_R × rs_R} {w : rs_R} (h : X = rv_it g n t m x y p) (ek : rv_ix t (rs_v g n (rs_sk g n p)) = k) (hk : k ≠ -1) (hm : rv_hs m k ≠ 1) (el : lo = rv_lo k) (eh : hi = rv_hi t k) (ew : w = rv_num g n 3 lo hi (rs_sk g n (rs_sk g n p + 1))) (hw : w.1 = 0) : X = (w, (x, y)) := by
  subst ek el eh ew
  rw [h, rv_it, if_neg hk, if_neg hm, if_pos hw]
theorem rv_it_g {g : rs_B} {n t m x y p k lo hi v m2 x2 y2 p2 : Int} {X : rs_R × rs_R} {w : rs_R} (h : X = rv_it g n t m x y p) (ek : rv_ix t (rs_v g n (rs_sk g n p)) = k) (hk : k ≠ -1) (hm : rv_hs m k ≠ 1) (el : lo = rv_lo k) (eh : hi = rv_hi t k) (ew : w = rv_num g n 3 lo hi (rs_sk g n (rs_sk g n p + 1))) (hw : w.1 ≠ 0) (hp : p < w.2) (hn : p < n) (em : m2 = rv_ad m k) (ev : v = (rs_nm g n 3 (rs_sk g n (rs_sk g n p + 1)) 0).1) (ex : (k = 0 ∧ x2 = v) ∨ (k ≠ 0 ∧ x2 = x)) (ey : (k = 1 ∧ y2 = v) ∨ (k ≠ 1 ∧ y2 = y)) (ep : p2 = w.2) : X = rv_it g n t m2 x2 y2 p2 := by
  subst ek el eh ew em ev ep
  rw [h, rv_it, if_neg hk, if_neg hm, if_neg hw, if_pos ⟨hp, hn⟩]
  congr 1
  · rcases ex with ⟨a, b⟩ | ⟨a, b⟩
    · rw [if_pos a, b]
    · rw [if_neg a, b]
  · rcases ey with ⟨a, b⟩ | ⟨a, b⟩
    · rw [if_pos a, b]
    · rw [if_neg a, b]
/-- the items of a clause: each as usual, then what is told -/
def rv_is (g : rs_B) (n t p : Int) : rs_R × rs_R := rv_it g n t 0 (if t = 1 then 2 else 4) (if t = 1 then 20 else 0) p
theorem rv_is_1 (g : rs_B) (n p : Int) : rv_is g n 1 p = rv_it g n 1 0 2 20 p := rfl
theorem rv_is_0 (g : rs_B) (n p : Int) : rv_is g n 0 p = rv_it g n 0 0 4 0 p := rfl
theorem rv_num_d {g : rs_B} {n lo hi q : Int} {m : Nat} (h : rs_d (rs_v g n q) = 0) : rv_num g n m lo hi q = (0, q) := by
  have e : rs_num g n m q = (0, q) := rs_num_z (rs_nm_end h) (by omega)
  rw [rv_num_0 (by rw [e]), e]
theorem rv_num_b {g : rs_B} {n lo hi q v b : Int} {m : Nat} (h : rs_nm g n m q 0 = (v, b)) (h1 : rs_d (rs_v g n b) = 1) : rv_num g n m lo hi q = (0, b) := by
  have e : rs_num g n m q = (0, b) := rs_num_z h (by omega)
  rw [rv_num_0 (by rw [e]), e]
theorem rv_num_ob {g : rs_B} {n lo hi q v b : Int} {m : Nat} (h : rs_nm g n m q 0 = (v, b)) (h0 : q < b) (h1 : rs_d (rs_v g n b) = 0) (h2 : v < lo ∨ hi < v) : rv_num g n m lo hi q = (0, b - 1) := by
  have e : rs_num g n m q = (1, b) := rs_num_y h h0 h1
  rw [rv_num_o (by rw [e]; exact (show (1 : Int) ≠ 0 by decide)) (by rw [h]; exact h2), e]
theorem rv_num_ib {g : rs_B} {n lo hi q v b : Int} {m : Nat} (h : rs_nm g n m q 0 = (v, b)) (h0 : q < b) (h1 : rs_d (rs_v g n b) = 0) (h2 : ¬ (v < lo ∨ hi < v)) : rv_num g n m lo hi q = (1, b) := by
  have e : rs_num g n m q = (1, b) := rs_num_y h h0 h1
  rw [rv_num_i (by rw [e]; exact (show (1 : Int) ≠ 0 by decide)) (by rw [h]; exact h2), e]
