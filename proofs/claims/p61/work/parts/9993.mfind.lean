/-! 9993: the best three keys (printed by wip/whole/p9993.py) -/
def q_fiC (u st ch : Int32) (i j k : Nat) (a : e_I × Int32 × Int32) : e_I × Int32 × Int32 := if q_ac a.1 (nI i) (nI j) (nI k) st ch = true ∧ ¬ a.2.1 < q_bs a.1 u (nI i) (nI j) (nI k) ∧ (q_bs a.1 u (nI i) (nI j) (nI k) = a.2.1 → q_fa a.1 (nI i) (nI j) (nI k) < a.2.2) then (s_up (s_up (s_up a.1 f_m_best 0 (nI i)) f_m_best 1 (nI j)) f_m_best 2 (nI k), q_bs a.1 u (nI i) (nI j) (nI k), q_fa a.1 (nI i) (nI j) (nI k)) else a
def q_fiB (u st ch : Int32) (i j : Nat) (a : e_I × Int32 × Int32) : e_I × Int32 × Int32 := s_run (q_fiC u st ch i j) (j + 1) (min 48 (i + 12) + 1 - (j + 1)) a
def q_fiA (u st ch : Int32) (i : Nat) (a : e_I × Int32 × Int32) : e_I × Int32 × Int32 := s_run (q_fiB u st ch i) (i + 1) (min 48 (i + 12) + 1 - (i + 1)) a
/-- the best three keys: the state, how many bad steps, how far -/
def q_fi (I : e_I) (u st ch : Int32) : e_I × Int32 × Int32 := s_run (q_fiA u st ch) 12 37 (I, 99, 0)
