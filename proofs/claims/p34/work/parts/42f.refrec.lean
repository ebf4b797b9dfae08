theorem rq_step (l : Launch) (E : py_E) (G : wf_G) (hG : GT G) (wb wc : Int) (hwb : 0 ≤ wb) (hwc : wc = wb + 1) (fr lo fs ls fu lu fc lc : Nat) (hfr : 10 ≤ fr) (hlo : 300 ≤ lo) (a0 : fs ≤ fr) (a1 : ls ≤ lo) (a2 : fu ≤ fr) (a3 : lu ≤ lo) (a4 : fc ≤ fr) (a5 : lc ≤ lo) (hs : Q_sum l E G wc fs ls) (hu : Q_unit l E G wc fu lu) (hc : Q_condition l E G wc fc lc) : Q_sum l E G wb (fr + 3) (lo + 180) ∧ Q_compare l E G wb (fr + 4) (lo + 240) ∧ Q_unit l E G wb (fr + 5) (lo + 300) ∧ Q_goOnAnd l E G wb (fr + 6) (lo + 360) ∧ Q_goOnOr l E G wb (fr + 7) (lo + 420) ∧ Q_condition l E G wb (fr + 8) (lo + 480) := by
  subst hwc
  have g_atom : Q_atom l E G wb (fr + 1) (lo + 60) := q_atom l E G hG wb (by omega) (fr + 0) (lo + 0) (by omega) (by omega) _ _ (by omega) (by omega) hs
  have g_term : Q_term l E G wb (fr + 2) (lo + 120) := q_term l E G hG wb (by omega) (fr + 1) (lo + 60) (by omega) (by omega) _ _ (by omega) (by omega) g_atom
  have g_sum : Q_sum l E G wb (fr + 3) (lo + 180) := q_sum l E G hG wb (by omega) (fr + 2) (lo + 120) (by omega) (by omega) _ _ (by omega) (by omega) g_term
  have g_compare : Q_compare l E G wb (fr + 4) (lo + 240) := q_compare l E G hG wb (by omega) (fr + 3) (lo + 180) (by omega) (by omega) _ _ (by omega) (by omega) g_sum
  have g_unit : Q_unit l E G wb (fr + 5) (lo + 300) := q_unit l E G hG wb (by omega) (fr + 4) (lo + 240) (by omega) (by omega) _ _ (by omega) (by omega) hu _ _ (by omega) (by omega) hc _ _ (by omega) (by omega) g_sum _ _ (by omega) (by omega) g_compare
  have g_goOnAnd : Q_goOnAnd l E G wb (fr + 6) (lo + 360) := q_goOnAnd l E G hG wb (by omega) (fr + 5) (lo + 300) (by omega) (by omega) _ _ (by omega) (by omega) g_unit
  have g_goOnOr : Q_goOnOr l E G wb (fr + 7) (lo + 420) := q_goOnOr l E G hG wb (by omega) (fr + 6) (lo + 360) (by omega) (by omega) _ _ (by omega) (by omega) g_unit _ _ (by omega) (by omega) g_goOnAnd
  have g_condition : Q_condition l E G wb (fr + 8) (lo + 480) := q_condition l E G hG wb (by omega) (fr + 7) (lo + 420) (by omega) (by omega) _ _ (by omega) (by omega) g_unit _ _ (by omega) (by omega) g_goOnAnd _ _ (by omega) (by omega) g_goOnOr
  exact ⟨g_sum, g_compare, g_unit, g_goOnAnd, g_goOnOr, g_condition⟩
theorem rq_all (l : Launch) (E : py_E) (G : wf_G) (hG : GT G) : Q_sum l E G 0 61 3360 ∧ Q_compare l E G 0 62 3420 ∧ Q_unit l E G 0 63 3480 ∧ Q_goOnAnd l E G 0 64 3540 ∧ Q_goOnOr l E G 0 65 3600 ∧ Q_condition l E G 0 66 3660 := by
  have v_sum : Q_sum l E G 7 10 300 := fun L f sz u gb nb pb eb hWF Tu hp0 hp1 hp2 hq0 => absurd hp0.2.1 (by omega)
  have v_unit : Q_unit l E G 7 10 300 := fun L f sz u gb nb pb eb hWF Tu hp0 hp1 hp2 hq0 => absurd hp0.2.1 (by omega)
  have v_condition : Q_condition l E G 7 10 300 := fun L f sz u gb nb pb eb hWF Tu hp0 hp1 hp2 hq0 => absurd hp0.2.1 (by omega)
  have s6 := rq_step l E G hG 6 7 (by omega) rfl 10 300 _ _ _ _ _ _ (by omega) (by omega) (by omega) (by omega) (by omega) (by omega) (by omega) (by omega) v_sum v_unit v_condition
  have s5 := rq_step l E G hG 5 6 (by omega) rfl 18 780 _ _ _ _ _ _ (by omega) (by omega) (by omega) (by omega) (by omega) (by omega) (by omega) (by omega) s6.1 s6.2.2.1 s6.2.2.2.2.2
  have s4 := rq_step l E G hG 4 5 (by omega) rfl 26 1260 _ _ _ _ _ _ (by omega) (by omega) (by omega) (by omega) (by omega) (by omega) (by omega) (by omega) s5.1 s5.2.2.1 s5.2.2.2.2.2
  have s3 := rq_step l E G hG 3 4 (by omega) rfl 34 1740 _ _ _ _ _ _ (by omega) (by omega) (by omega) (by omega) (by omega) (by omega) (by omega) (by omega) s4.1 s4.2.2.1 s4.2.2.2.2.2
  have s2 := rq_step l E G hG 2 3 (by omega) rfl 42 2220 _ _ _ _ _ _ (by omega) (by omega) (by omega) (by omega) (by omega) (by omega) (by omega) (by omega) s3.1 s3.2.2.1 s3.2.2.2.2.2
  have s1 := rq_step l E G hG 1 2 (by omega) rfl 50 2700 _ _ _ _ _ _ (by omega) (by omega) (by omega) (by omega) (by omega) (by omega) (by omega) (by omega) s2.1 s2.2.2.1 s2.2.2.2.2.2
  have s0 := rq_step l E G hG 0 1 (by omega) rfl 58 3180 _ _ _ _ _ _ (by omega) (by omega) (by omega) (by omega) (by omega) (by omega) (by omega) (by omega) s1.1 s1.2.2.1 s1.2.2.2.2.2
  exact s0
theorem rq_sum (l : Launch) (E : py_E) (G : wf_G) (hG : GT G) : Q_sum l E G 0 61 3360 := (rq_all l E G hG).1
theorem rq_compare (l : Launch) (E : py_E) (G : wf_G) (hG : GT G) : Q_compare l E G 0 62 3420 := (rq_all l E G hG).2.1
theorem rq_unit (l : Launch) (E : py_E) (G : wf_G) (hG : GT G) : Q_unit l E G 0 63 3480 := (rq_all l E G hG).2.2.1
theorem rq_goOnAnd (l : Launch) (E : py_E) (G : wf_G) (hG : GT G) : Q_goOnAnd l E G 0 64 3540 := (rq_all l E G hG).2.2.2.1
theorem rq_goOnOr (l : Launch) (E : py_E) (G : wf_G) (hG : GT G) : Q_goOnOr l E G 0 65 3600 := (rq_all l E G hG).2.2.2.2.1
theorem rq_condition (l : Launch) (E : py_E) (G : wf_G) (hG : GT G) : Q_condition l E G 0 66 3660 := (rq_all l E G hG).2.2.2.2.2
