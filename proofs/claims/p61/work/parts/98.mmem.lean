/-! 98: the second implementation's memory (printed by wip/whole/p98.py) -/
def q_ps (x y : Int32) : Bool := if x = -1 then decide (0 ≤ y ∧ y ≤ 7) else decide (0 ≤ x ∧ x ≤ 2) && decide (0 ≤ y ∧ y ≤ 3)
def q_kp (I : e_I) (x y : Int32) : Nat := if x = -1 then (8 * I f_m_level 0 + y).toNatClampNeg else 32 + (4 * (3 * I f_m_level 0 + x) + y).toNatClampNeg
abbrev q_ri (I : e_I) (x : Int32) : Nat := (4 * I f_m_level 0 + x).toNatClampNeg
def q_b0 (y : Int64) (i : Nat) : Bool := decide (lg_cmp ((y >>> ((nI i).toInt64 &&& 63)) &&& 1) 0 = 0)
def q_keJ (kn dn : Nat) (I : e_I) (j i : Nat) (J : e_Jt) : e_Jt := s_up (s_up J kn j (J kn j ||| s_b1 i)) dn j (s_up J kn j (J kn j ||| s_b1 i) dn j ||| if I f_mk_isDrawn i = 0 then 0 else s_b1 i)
/-- knobs move as kept -/
def q_mvS (y z : Int64) (i : Nat) (a : e_I × Int32) : e_I × Int32 := if q_b0 y i = false ∧ a.1 f_mk_isLocked i = 0 ∧ ¬ a.1 f_mk_isDrawn i = bI (s_bt z i) then (s_up a.1 f_mk_isDrawn i (bI (s_bt z i)), a.2 + 1) else a
def q_mt (nk : Nat) (y z : Int64) (I : e_I) : e_I × Int32 := s_run (q_mvS y z) 0 nk (I, 0)
def q_seF (I : e_I) (x : Int32) (j i : Nat) (J : e_Jt) : e_Jt := if (if x = -1 then ¬ I f_mk_isIn i = 0 else I f_mk_kind i = 115 ∧ I f_mk_division i = x) then q_keJ j_mg_knobs j_mg_drawn I j i J else J
def q_nx (I : e_I) : Int32 := I f_m_next 0 + 1 - (I f_m_next 0 + 1) / 8 * 8
