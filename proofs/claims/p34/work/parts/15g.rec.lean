theorem rd_step (l : Launch) (E : py_E) (G : wf_G) (hG : GT G) (wb wc : Int) (hwb : 0 ≤ wb) (hc : wc = wb + 1) (fr lo fu lu f0 l0 f2 l2 : Nat) (hfr : 10 ≤ fr) (hlo : 300 ≤ lo) (a0 : fu ≤ fr) (a1 : lu ≤ lo) (a2 : f0 ≤ fr) (a3 : l0 ≤ lo) (a4 : f2 ≤ fr) (a5 : l2 ≤ lo) (hu : P_unit l E G wc fu lu) (h0 : P_chain0 l E G wc f0 l0) (h2 : P_chain2 l E G wc f2 l2) : P_unit l E G wb (fr + 5) (lo + 300) ∧ P_chain0 l E G wb (fr + 7) (lo + 420) ∧ P_chain2 l E G wb (fr + 4) (lo + 240) := by
  subst hc
  have g_nested : P_nested l E G wb (fr + 1) (lo + 60) := k_nested l E G hG wb (by omega) (fr) (lo) (by omega) (by omega) _ _ (by omega) (by omega) hu _ _ (by omega) (by omega) h0 _ _ (by omega) (by omega) h2
  have g_atom : P_atom l E G wb (fr + 2) (lo + 120) := k_atom l E G hG wb (by omega) (fr + 1) (lo + 60) (by omega) (by omega) _ _ (by omega) (by omega) g_nested
  have g_chain3 : P_chain3 l E G wb (fr + 3) (lo + 180) := k_chain3 l E G hG wb (by omega) (fr + 2) (lo + 120) (by omega) (by omega) _ _ (by omega) (by omega) g_atom
  have g_chain2 : P_chain2 l E G wb (fr + 4) (lo + 240) := k_chain2 l E G hG wb (by omega) (fr + 3) (lo + 180) (by omega) (by omega) _ _ (by omega) (by omega) g_chain3
  have g_unit : P_unit l E G wb (fr + 5) (lo + 300) := k_unit l E G hG wb (by omega) (fr + 4) (lo + 240) (by omega) (by omega) _ _ (by omega) (by omega) g_nested _ _ (by omega) (by omega) g_chain2
  have g_chain1 : P_chain1 l E G wb (fr + 6) (lo + 360) := k_chain1 l E G hG wb (by omega) (fr + 5) (lo + 300) (by omega) (by omega) _ _ (by omega) (by omega) g_unit
  have g_chain0 : P_chain0 l E G wb (fr + 7) (lo + 420) := k_chain0 l E G hG wb (by omega) (fr + 6) (lo + 360) (by omega) (by omega) _ _ (by omega) (by omega) g_chain1
  exact ⟨g_unit, g_chain0, g_chain2⟩
theorem rd_all (l : Launch) (E : py_E) (G : wf_G) (hG : GT G) : P_unit l E G 0 57 3120 ∧ P_chain0 l E G 0 59 3240 ∧ P_chain2 l E G 0 56 3060 := by
  have v_unit : P_unit l E G 7 10 300 := fun L f sz h t i b gb nb pb eb bb hWF Th Tt Bb hp0 hp1 hp2 hp3 hp4 hq0 => absurd hp0.1 (by omega)
  have v_chain0 : P_chain0 l E G 7 10 300 := fun L f sz h t i b gb nb pb eb bb hWF Th Tt Bb hp0 hp1 hp2 hp3 hp4 hq0 => absurd hp0.1 (by omega)
  have v_chain2 : P_chain2 l E G 7 10 300 := fun L f sz h t i b gb nb pb eb hWF Th Tt Bb hp0 hp1 hp2 hp3 hq0 => absurd hp0.1 (by omega)
  have s6 := rd_step l E G hG 6 7 (by omega) rfl 10 300 _ _ _ _ _ _ (by omega) (by omega) (by omega) (by omega) (by omega) (by omega) (by omega) (by omega) v_unit v_chain0 v_chain2
  have s5 := rd_step l E G hG 5 6 (by omega) rfl 17 720 _ _ _ _ _ _ (by omega) (by omega) (by omega) (by omega) (by omega) (by omega) (by omega) (by omega) s6.1 s6.2.1 s6.2.2
  have s4 := rd_step l E G hG 4 5 (by omega) rfl 24 1140 _ _ _ _ _ _ (by omega) (by omega) (by omega) (by omega) (by omega) (by omega) (by omega) (by omega) s5.1 s5.2.1 s5.2.2
  have s3 := rd_step l E G hG 3 4 (by omega) rfl 31 1560 _ _ _ _ _ _ (by omega) (by omega) (by omega) (by omega) (by omega) (by omega) (by omega) (by omega) s4.1 s4.2.1 s4.2.2
  have s2 := rd_step l E G hG 2 3 (by omega) rfl 38 1980 _ _ _ _ _ _ (by omega) (by omega) (by omega) (by omega) (by omega) (by omega) (by omega) (by omega) s3.1 s3.2.1 s3.2.2
  have s1 := rd_step l E G hG 1 2 (by omega) rfl 45 2400 _ _ _ _ _ _ (by omega) (by omega) (by omega) (by omega) (by omega) (by omega) (by omega) (by omega) s2.1 s2.2.1 s2.2.2
  have s0 := rd_step l E G hG 0 1 (by omega) rfl 52 2820 _ _ _ _ _ _ (by omega) (by omega) (by omega) (by omega) (by omega) (by omega) (by omega) (by omega) s1.1 s1.2.1 s1.2.2
  exact s0
theorem rd_chain0 (l : Launch) (E : py_E) (G : wf_G) (hG : GT G) : P_chain0 l E G 0 59 3240 := (rd_all l E G hG).2.1
theorem rd_chain2 (l : Launch) (E : py_E) (G : wf_G) (hG : GT G) : P_chain2 l E G 0 56 3060 := (rd_all l E G hG).2.2
