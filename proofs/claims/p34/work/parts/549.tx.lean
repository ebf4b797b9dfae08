/-- what telling does: k laws before; r the answer; n2, k2 behind -/
def TX (g : rs_B) (n k a r n2 k2 : Int) : Prop := (a = 0 ∧ ∃ z : Int, RVF g n z ∧ ((z = -1 ∧ r = rv_fm g n ∧ n2 = 0 ∧ k2 = k) ∨ (z ≠ -1 ∧ r = -1 ∧ n2 = n ∧ k2 = k))) ∨ (a = 1 ∧ ((k < 4 ∧ rs_law g n = -1 ∧ r = k ∧ n2 = 0 ∧ k2 = k + 1) ∨ (k < 4 ∧ rs_law g n ≠ -1 ∧ r = -1 ∧ n2 = n ∧ k2 = k) ∨ (4 ≤ k ∧ r = -1 ∧ n2 = n ∧ k2 = k))) ∨ (a ≠ 0 ∧ a ≠ 1 ∧ r = -1 ∧ n2 = n ∧ k2 = k)
theorem TX.eq {g : rs_B} {n k a r1 n1 k1 r2 n2 k2 : Int} (h1 : TX g n k a r1 n1 k1) (h2 : TX g n k a r2 n2 k2) : r1 = r2 ∧ n1 = n2 ∧ k1 = k2 := by
  rcases h1 with ⟨a1, z1, b1, c1⟩ | ⟨a1, c1⟩ | ⟨a1, c1⟩
  · rcases h2 with ⟨a2, z2, b2, c2⟩ | ⟨a2, c2⟩ | ⟨a2, c2⟩
    · have e := RVF.eq b1 b2
      omega
    · omega
    · omega
  · rcases h2 with ⟨a2, z2, b2, c2⟩ | ⟨a2, c2⟩ | ⟨a2, c2⟩ <;> omega
  · rcases h2 with ⟨a2, z2, b2, c2⟩ | ⟨a2, c2⟩ | ⟨a2, c2⟩ <;> omega
theorem TX.le {g : rs_B} {n k a r n2 k2 : Int} (h : TX g n k a r n2 k2) (h0 : 0 ≤ n) : 0 ≤ n2 ∧ n2 ≤ n := by
  rcases h with ⟨a1, z1, b1, c1⟩ | ⟨a1, c1⟩ | ⟨a1, c1⟩ <;> omega
