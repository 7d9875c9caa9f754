/-! 99991: frames of the second implementation (printed by wip/whole/p99991.py) -/
/-- the frames stand -/
def q_F (p : e_Sp) (I : e_I) : Prop := q_O p I ∧ ∀ g, g < 4 → ∃ m, m ≤ 20 ∧ s_La p I (8 + g) m ∧ ∀ j, j < 64 → p.2.1 T_MFRAME (64 * g + j) = decide (j < m)
/-- the ints and longs as a frame joins, as one leaves -/
def q_fmI (I : e_I) (g t m : Nat) : e_I := s_adF (s_IMFRAME I (64 * g + m) 0) g t m
def q_fmJ (I : e_I) (J : e_Jt) (nk g t m : Nat) : e_Jt := s_rnJ (s_run (q_keJ j_mf_knobs j_mf_drawn (s_IMFRAME I (64 * g + m) 0) (64 * g + m)) 0 nk (s_JMFRAME J (64 * g + m) 0 0)) (s_ri (64 * g) t m)
def q_cuI (I : e_I) (g t m : Nat) : e_I := s_up (s_rnI (s_up I f_l_modCount (8 + g) (I f_l_modCount (8 + g) + 1)) (s_rj (64 * g) t m)) f_l_size (8 + g) (nI m)
def q_cuJ (J : e_Jt) (g t m : Nat) : e_Jt := s_rnJ J (s_rj (64 * g) t m)
