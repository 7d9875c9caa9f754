def q_mI0 (I : e_I) : e_I := q_ug 7 48 (q_ug 6 32 (q_ul 4 (q_uk 3 (q_iC (q_iB (q_iA I))))))
def q_mI (I : e_I) : e_I := s_fill (s_fill (s_fill (s_fill (q_mI0 I) f_m_reversible 16 (-1)) f_m_operation 16 45) f_m_fault 1280 45) f_m_closedSince 1280 (-1000000)
def q_mJ (J : e_Jt) : e_Jt := q_ugJ 7 48 (q_ugJ 6 32 J)
