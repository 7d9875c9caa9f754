/-- the pitch of a pipe -/
def q_no (I : e_I) (q : Nat) : Int32 := I f_mr_lowest (q_rk I q) + nI q - I f_mr_base (q_rk I q)
def q_pt (I : e_I) (q : Nat) : Int32 := 100 * q_no I q + I f_m_temper (q_no I q - q_no I q / 12 * 12).toNatClampNeg + I f_m_tuning q + I f_m_heat 0 * I f_mr_heat (q_rk I q) / 10 - (100 - I f_m_winds (I f_mr_division (q_rk I q)).toNatClampNeg) / 10
def q_ld (I : e_I) (q : Nat) (u : Int32) : Int32 := u + if I f_m_speaks q ≠ 0 then I f_mr_power (q_rk I q) * I f_m_box (I f_mr_division (q_rk I q)).toNatClampNeg / 10 else 0
