/-! 998: chords of the second implementation, small things (printed by wip/whole/p998.py) -/
def q_cs1 (x : Int32) : Int32 := if x < 3 then 2 * x else 2 * x - 1
def q_cs2 (I : e_I) (x : Int32) : Int32 := if I f_m_isMajor 0 = 0 ∧ (x = 2 ∨ x = 5 ∨ x = 6) then q_cs1 x - 1 else q_cs1 x
/-- the class of a step of the scale -/
def q_cla (I : e_I) (x : Int32) : Int32 := s_r12 (I f_m_tonic 0 + q_cs2 I (x - x / 7 * 7))
def q_stp (ch x : Int32) : Int32 := if x = 0 then (if ch = 52 then 3 else 2) else if x = 1 then (if ch = 53 ∨ ch = 55 then 4 else 5) else if ch = 55 then 6 else 0
def q_vo (u x y z n : Int32) : Int32 := if n = 0 then u else if n = 1 then x else if n = 2 then y else z
def q_fa (I : e_I) (x y z : Int32) : Int32 := if I f_m_hasChord 0 = 0 then s_abs (x - 24) + s_abs (y - 28) + s_abs (z - 31) else s_abs (x - I f_m_chord 1) + s_abs (y - I f_m_chord 2) + s_abs (z - I f_m_chord 3)
