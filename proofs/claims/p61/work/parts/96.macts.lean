abbrev q_an (I : e_I) : e_I := s_up I f_m_thrown 0 0
/-- the place of a pipe -/
abbrev q_pi (I : e_I) (x y : Int32) : Nat := (q_pp I x y).toNatClampNeg
def q_ro (I : e_I) (q : Nat) : Int32 := I f_m_counts q + bI (decide (I f_m_isHeld q ≠ 0))
def q_asf (I : e_I) (q : Nat) (u : Int32) : Int32 := u + bI (decide (I f_m_speaks q ≠ 0))
def q_asp (I : e_I) (np : Nat) : Int32 := s_run (q_asf I) 0 np 0
