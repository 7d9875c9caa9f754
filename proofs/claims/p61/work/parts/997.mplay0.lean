/-! 997: playing, its start (printed by wip/whole/p997.py) -/
def q_pbI (I : e_I) : e_I := s_up I f_m_recording 0 45
def q_pb0 (nk nr np : Nat) (I : e_I) (J : e_Jt) : e_I × e_Jt := if I f_m_kindKept 0 = 107 then (q_an (q_st nk nr np ((q_lf (q_pbI I)).1, J)).1, (q_st nk nr np ((q_lf (q_pbI I)).1, J)).2) else (q_pbI I, J)
