theorem h_tcE {nk nr np : Nat} (i : Nat) (a : e_I × e_Jt) : q_e (f_m_tick :: q_sT) a.1 (q_tc nk nr np i a).1 := by
  have e := q_st_e (nk := nk) (nr := nr) (np := np) (a := (s_up a.1 f_m_tick 0 (a.1 f_m_tick 0 + 1), a.2))
  exact (q_e.up (by decide) (by decide)).trans (e.mono (by decide))
theorem h_tcsE {nk nr np k i : Nat} {a : e_I × e_Jt} : q_e (f_m_tick :: q_sT) a.1 (s_run (q_tc nk nr np) i k a).1 := s_run_ind (P := fun a b : e_I × e_Jt => q_e (f_m_tick :: q_sT) a.1 b.1) (fun _ => q_e.rfl') (fun u v => u.trans v) h_tcE k i a
theorem h_tcJ1 {nk nr np : Nat} (i : Nat) (a : e_I × e_Jt) : v_eqJ [j_m_allBegun, j_m_ended] a.2 (q_tc nk nr np i a).2 := v_qstJ (b := (s_up a.1 f_m_tick 0 (a.1 f_m_tick 0 + 1), a.2))
theorem h_tcJ {nk nr np k i : Nat} {a : e_I × e_Jt} : v_eqJ [j_m_allBegun, j_m_ended] a.2 (s_run (q_tc nk nr np) i k a).2 := v_eqJ.run h_tcJ1 k i a
