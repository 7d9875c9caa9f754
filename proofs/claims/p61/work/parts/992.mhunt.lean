/-! 992: crossing, hunting, tuning, means, setting (printed by wip/whole/p992.py) -/
def q_cr (I : e_I) (k : Nat) (y z : Int32) : e_I := s_up (s_up I f_mk_wires (k * 61 + y.toNatClampNeg) (I f_mk_wires (k * 61 + z.toNatClampNeg))) f_mk_wires (k * 61 + z.toNatClampNeg) (I f_mk_wires (k * 61 + y.toNatClampNeg))
def q_crf (I : e_I) (k i : Nat) (u : Int32) : Int32 := u + if I f_mk_wires (k * 61 + i) = nI i then 0 else 1
def q_crn (I : e_I) (k : Nat) : Int32 := s_run (q_crf I k) 0 61 0
def q_hfs (I : e_I) (q : Nat) (h : Bool) : Bool := h || decide (I f_m_fault q ≠ 45)
def q_hf (I : e_I) (u v : Nat) : Bool := s_run (q_hfs I) u (v + 1 - u) false
def q_ti9 (I : e_I) : Nat → Nat → Nat → Int32
  | 0, _, _ => 0
  | k + 1, u, v => if u = v then 0 else (if q_hf I u (u + (v - u) / 2) = true then 2 + q_ti9 I k u (u + (v - u) / 2) else 1) + (if q_hf I (u + (v - u) / 2 + 1) v = true then q_ti9 I k (u + (v - u) / 2 + 1) v else 0)
def q_cl (x : Int32) : Int32 := if 50 < x then 50 else if x < -50 then -50 else x
def q_mps (I : e_I) (q : Nat) (u : Int64) : Int64 := u + if I f_m_speaks q ≠ 0 then (q_pt I q).toInt64 else 0
