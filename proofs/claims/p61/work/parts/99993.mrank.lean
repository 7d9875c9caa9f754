/-! 99993: ranks of the second implementation (printed by wip/whole/p99993.py) -/
def q_rkf (I : e_I) (np i nr : Nat) : e_I := fun F j => if F = f_m_rankOf ∧ np ≤ j ∧ j < np + i then nI nr else I F j
theorem q_rkf_F {I : e_I} {np i nr F : Nat} (h : F ≠ f_m_rankOf) : q_rkf I np i nr F = I F := by
  funext j
  exact if_neg (fun z => h z.1)
/-- the ints with a rank more -/
def q_rkI (I : e_I) (nr np lo m : Nat) (x3 x4 x5 x6 x7 : Int32) : e_I := s_adI (s_up (q_rkf (s_IMRANK I nr (nI lo) (nI (lo + m)) x3 x4 x5 x6 x7 (nI np) 0) np (m + 1) nr) f_m_pipes 0 (nI (np + (m + 1)))) 2 nr
def q_rF : List Nat := [f_mr_lowest, f_mr_highest, f_mr_wind, f_mr_division, f_mr_delay, f_mr_rest, f_mr_power, f_mr_base, f_mr_heat, f_m_rankOf, f_m_pipes, f_l_modCount, f_l_size]
theorem s_IMRANK_i {I : e_I} {r F i : Nat} {x0 x1 x2 x3 x4 x5 x6 x7 x8 : Int32} (h : i ≠ r) : s_IMRANK I r x0 x1 x2 x3 x4 x5 x6 x7 x8 F i = I F i := by
  unfold s_IMRANK
  rw [s_up_i h, s_up_i h, s_up_i h, s_up_i h, s_up_i h, s_up_i h, s_up_i h, s_up_i h, s_up_i h]
theorem s_IMRANK_e {I : e_I} {r : Nat} {x0 x1 x2 x3 x4 x5 x6 x7 x8 : Int32} : s_eqN q_rF I (s_IMRANK I r x0 x1 x2 x3 x4 x5 x6 x7 x8) := ((((((((s_eqN.up (by decide)).trans (s_eqN.up (by decide))).trans (s_eqN.up (by decide))).trans (s_eqN.up (by decide))).trans (s_eqN.up (by decide))).trans (s_eqN.up (by decide))).trans (s_eqN.up (by decide))).trans (s_eqN.up (by decide))).trans (s_eqN.up (by decide))
theorem q_rkf_e {I : e_I} {np i nr : Nat} : s_eqN q_rF I (q_rkf I np i nr) := fun F hF => q_rkf_F (fun z => by rw [z] at hF; exact absurd hF (by decide))
theorem s_adI_e {I : e_I} {l n : Nat} : s_eqN q_rF I (s_adI I l n) := (s_eqN.up (by decide)).trans (s_eqN.up (by decide))
theorem q_rkI_e {I : e_I} {nr np lo m : Nat} {x3 x4 x5 x6 x7 : Int32} : s_eqN q_rF I (q_rkI I nr np lo m x3 x4 x5 x6 x7) := ((s_IMRANK_e.trans q_rkf_e).trans (s_eqN.up (by decide))).trans s_adI_e
theorem q_rkI_mr {I : e_I} {nr np lo m F : Nat} {x3 x4 x5 x6 x7 : Int32} (h : F ≠ f_m_rankOf ∧ F ≠ f_m_pipes ∧ F ≠ f_l_size ∧ F ≠ f_l_modCount) : q_rkI I nr np lo m x3 x4 x5 x6 x7 F = s_IMRANK I nr (nI lo) (nI (lo + m)) x3 x4 x5 x6 x7 (nI np) 0 F := by
  unfold q_rkI
  rw [s_adI_F h.2.2.1 h.2.2.2]
  funext i
  rw [s_up_F h.2.1, q_rkf_F h.1]
theorem q_rkI_l {I : e_I} {nr np lo m l : Nat} {x3 x4 x5 x6 x7 : Int32} (h : l ≠ 2) : q_rkI I nr np lo m x3 x4 x5 x6 x7 f_l_size l = I f_l_size l := by
  unfold q_rkI
  rw [s_adI_n h, s_up_F (by decide), q_rkf_F (by decide)]
  unfold s_IMRANK
  rw [s_up_F (by decide), s_up_F (by decide), s_up_F (by decide), s_up_F (by decide), s_up_F (by decide), s_up_F (by decide), s_up_F (by decide), s_up_F (by decide), s_up_F (by decide)]
