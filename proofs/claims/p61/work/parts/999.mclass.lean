/-! 999: three keys of the classes asked (printed by wip/whole/p999.py) -/
def q_acS (I : e_I) (x y z u ch : Int32) (i : Nat) (a : Bool) : Bool := a && (decide (s_r12 (36 + x) = q_cla I (u + q_stp ch (nI i))) || (decide (s_r12 (36 + y) = q_cla I (u + q_stp ch (nI i))) || decide (s_r12 (36 + z) = q_cla I (u + q_stp ch (nI i)))))
def q_ac (I : e_I) (x y z u ch : Int32) : Bool := s_run (q_acS I x y z u ch) 0 3 true
