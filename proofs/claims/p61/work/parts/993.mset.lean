/-! 993: hunts, tunings, means, settings (printed by wip/whole/p993.py) -/
def q_hu (I : e_I) (b m : Nat) : Int32 := 1 + if q_hf I b (b + m) = true then q_ti9 I 7 b (b + m) else 0
/-- tuned to another -/
def q_tto (I : e_I) (q1 q2 : Nat) : e_I := s_up I f_m_tuning q1 (q_cl (I f_m_tuning q1 + q_pt I q2 - q_pt I q1))
/-- all keys are lifted -/
def q_lfK (dd kk : Nat) (a : e_I × Int32) : e_I × Int32 := (q_mdv a.1 (nI dd) (nI kk) 0, a.2 + if a.1 f_m_isDown (s_kn (nI dd) (nI kk)) = 0 then 0 else 1)
def q_lfD (dd : Nat) (a : e_I × Int32) : e_I × Int32 := s_run (q_lfK dd) 0 (s_kcn (nI dd)) a
def q_lf (I : e_I) : e_I × Int32 := s_run q_lfD 0 3 (I, 0)
