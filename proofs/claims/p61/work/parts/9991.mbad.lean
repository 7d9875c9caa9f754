/-! 9991: bad steps (printed by wip/whole/p9991.py) -/
def q_bsC (I : e_I) (u x y z : Int32) (i j : Nat) : Bool := (!decide (q_vo u x y z (nI i) = I f_m_chord i) && !decide (q_vo u x y z (nI j) = I f_m_chord j)) && (s_pfc (s_abs (I f_m_chord j - I f_m_chord i)) && (s_pfc (s_abs (q_vo u x y z (nI j) - q_vo u x y z (nI i))) && decide (s_r12 (s_abs (I f_m_chord j - I f_m_chord i)) = s_r12 (s_abs (q_vo u x y z (nI j) - q_vo u x y z (nI i))))))
def q_bsJ (I : e_I) (u x y z : Int32) (i j : Nat) (n : Int32) : Int32 := n + bI (q_bsC I u x y z i j)
def q_bsI (I : e_I) (u x y z : Int32) (i : Nat) (n : Int32) : Int32 := s_run (q_bsJ I u x y z i) (i + 1) (4 - (i + 1)) n
def q_bs (I : e_I) (u x y z : Int32) : Int32 := if I f_m_hasChord 0 = 0 then 0 else s_run (q_bsI I u x y z) 0 4 0
