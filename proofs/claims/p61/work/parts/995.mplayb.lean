/-! 995: what was recorded is played (printed by wip/whole/p995.py) -/
/-- what is recorded can be played: its ticks are t 0, t 1 .. -/
def q_Kp (I : e_I) (t : Nat → Nat) (n : Nat) : Prop := (∀ j, j < n → t j < 2147480000 ∧ I f_mt_tick j = nI (t j)) ∧ (∀ j, j + 1 < n → t j ≤ t (j + 1)) ∧ (∀ j, j < n → I f_mt_is j = 0 ∨ I f_mt_is j = 1) ∧ (I f_m_kindKept 0 = 107 → ∀ j, j < n → s_isk (I f_mt_division j) (I f_mt_at j)) ∧ (¬ I f_m_kindKept 0 = 107 → ∀ j, j < n → s_ix (I f_mt_at j) (I f_mt_at j).toNatClampNeg 1280)
def q_pbT (t : Nat → Nat) (nk nr np j : Nat) (a : e_I × e_Jt) : e_I × e_Jt := s_run (q_tc nk nr np) 0 (t j - t (j - 1)) a
def q_pbE (j : Nat) (I : e_I) : e_I := if I f_m_kindKept 0 = 107 then q_mdv I (I f_mt_division j) (I f_mt_at j) (I f_mt_is j) else s_up I f_m_isHeld (I f_mt_at j).toNatClampNeg (I f_mt_is j)
def q_pbS (t : Nat → Nat) (nk nr np j : Nat) (a : e_I × e_Jt) : e_I × e_Jt := q_st nk nr np (q_pbE j (q_pbT t nk nr np j a).1, (q_pbT t nk nr np j a).2)
def q_pT : List Nat := [f_m_tick, f_m_isDown, f_m_wentDown, f_m_isHeld] ++ q_sT0
theorem q_bo.tcs {nk nr np n i : Nat} {a : e_I × e_Jt} (h : q_bo a.1 f_m_isRelay) : q_bo (s_run (q_tc nk nr np) i n a).1 f_m_isRelay := s_run_pr (P := fun (a : e_I × e_Jt) => q_bo a.1 f_m_isRelay) (fun _ a h => q_bo.st (a := (s_up a.1 f_m_tick 0 (a.1 f_m_tick 0 + 1), a.2)) (h.eqN (s_eqN.up (T := [f_m_tick]) (by decide)) (by decide))) n i a h
