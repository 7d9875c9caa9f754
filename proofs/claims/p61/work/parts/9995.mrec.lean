def q_re0 (I : e_I) (x : Int32) : e_I := s_up (s_up I f_m_thrown 0 0) f_m_recording 0 x
def q_reK (I : e_I) (x : Int32) : e_I := s_up (s_up (s_up (q_re0 I x) f_l_modCount 4 (q_re0 I x f_l_modCount 4 + 1)) f_l_size 4 0) f_m_kindKept 0 x
