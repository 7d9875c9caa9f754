/-! 994: tuning to another, the mean, what is off (printed by wip/whole/p994.py) -/
def q_sT0 : List Nat := [f_m_isRelay, f_m_counts, f_m_isOpen, f_m_closedSince, f_m_winds, f_m_begun, f_m_speaks] ++ q_bT
theorem q_stA_off {q : Nat} {I : e_I} (h : ¬ I f_m_recording 0 = 114) : s_eqN q_bT I (q_stA q I) := by
  have e : q_stK q I = I := if_neg (fun u => h u.2)
  unfold q_stA
  rw [e]
  exact s_eqN.qstB
theorem q_runA_off {np : Nat} {I : e_I} (h : ¬ I f_m_recording 0 = 114) : s_eqN q_bT I (s_run q_stA 0 np I) :=
  s_run_ind (P := fun I I' => ¬ I f_m_recording 0 = 114 → s_eqN q_bT I I') (fun _ _ => s_eqN.rfl') (fun {x y z} (u : ¬ x f_m_recording 0 = 114 → s_eqN q_bT x y) (v : ¬ y f_m_recording 0 = 114 → s_eqN q_bT y z) (h : ¬ x f_m_recording 0 = 114) => (u h).trans (v (by rw [u h f_m_recording (by decide)]; exact h))) (fun i I h => q_stA_off h) np 0 I h
/-- nothing is recorded: what settles touches -/
theorem q_st_off {nk nr np : Nat} {a : e_I × e_Jt} (h : ¬ a.1 f_m_recording 0 = 114) : s_eqN q_sT0 a.1 (q_st nk nr np a).1 := by
  have e1 : s_eqN q_sT0 a.1 (q_rc nk nr np a.1) := s_eqN.qrc.mono (by decide)
  have h1 : ¬ q_rc nk nr np a.1 f_m_recording 0 = 114 := by rw [e1 f_m_recording (by decide)]; exact h
  have e2 : s_eqN q_sT0 (q_rc nk nr np a.1) _ := (q_runA_off (np := np) h1).mono (by decide)
  have e3 : s_eqN q_sT0 _ (s_run q_mv 0 np (s_run q_stA 0 np (q_rc nk nr np a.1))) := (s_eqN.run s_eqN.qmv _ _ _).mono (by decide)
  have e4 : s_eqN q_sT0 _ (q_bws nk np (s_run q_mv 0 np (s_run q_stA 0 np (q_rc nk nr np a.1)))) := s_eqN.qbws.mono (by decide)
  exact (((e1.trans e2).trans e3).trans e4).trans ((s_eqN.runP s_eqN.qsp _ _ _).mono (by decide))
theorem q_tc_off {nk nr np i : Nat} {a : e_I × e_Jt} (h : ¬ a.1 f_m_recording 0 = 114) : s_eqN (f_m_tick :: q_sT0) a.1 (q_tc nk nr np i a).1 := by
  have e1 : s_eqN (f_m_tick :: q_sT0) a.1 (s_up a.1 f_m_tick 0 (a.1 f_m_tick 0 + 1)) := s_eqN.up (by decide)
  exact e1.trans ((q_st_off (a := (s_up a.1 f_m_tick 0 (a.1 f_m_tick 0 + 1), a.2)) (by show ¬ s_up a.1 f_m_tick 0 (a.1 f_m_tick 0 + 1) f_m_recording 0 = 114; rw [s_up_n (by decide)]; exact h)).mono (by decide))
theorem q_tcs_off {nk nr np i n : Nat} {a : e_I × e_Jt} (h : ¬ a.1 f_m_recording 0 = 114) : s_eqN (f_m_tick :: q_sT0) a.1 (s_run (q_tc nk nr np) i n a).1 :=
  s_run_ind (P := fun (a b : e_I × e_Jt) => ¬ a.1 f_m_recording 0 = 114 → s_eqN (f_m_tick :: q_sT0) a.1 b.1) (fun _ _ => s_eqN.rfl') (fun {x y z} (u : ¬ x.1 f_m_recording 0 = 114 → s_eqN (f_m_tick :: q_sT0) x.1 y.1) (v : ¬ y.1 f_m_recording 0 = 114 → s_eqN (f_m_tick :: q_sT0) y.1 z.1) h => (u h).trans (v (by rw [u h f_m_recording (by decide)]; exact h))) (fun i a h => q_tc_off h) n i a h
theorem q_mdv_off {I : e_I} {x y z : Int32} (h : ¬ I f_m_recording 0 = 107) : s_eqN [f_m_isDown, f_m_wentDown] I (q_mdv I x y z) := by
  unfold q_mdv
  split
  · exact s_eqN.rfl'
  · exact s_eqN.qmd1
