/-! 99992: chords are realised by the second implementation (printed by wip/whole/p99992.py) -/
/-- the step of the scale that a key is of; 7 if of none -/
def q_s7 (I : e_I) (u : Int32) : Nat → Nat → Nat
  | 0, i => i
  | n + 1, i => if q_cla I (nI i) = s_r12 (36 + u) then i else q_s7 I u n (i + 1)
def q_bk (I : e_I) : Prop := ∀ n, n < 3 → s_isk 1 (I f_m_best n)
def q_rz0 (u : Int32) (i : Nat) (I : e_I) : e_I := if nI i = u then I else q_mdv I 0 (nI i) 0
def q_rz1 (i : Nat) (I : e_I) : e_I := if nI i = I f_m_best 0 ∨ nI i = I f_m_best 1 ∨ nI i = I f_m_best 2 then I else q_mdv I 1 (nI i) 0
def q_rz2 (i : Nat) (I : e_I) : e_I := s_up (q_mdv I 1 (I f_m_best i) 1) f_m_chord (i + 1) (q_mdv I 1 (I f_m_best i) 1 f_m_best i)
def q_rz (I : e_I) (u : Int32) : e_I := s_up (s_up (s_run q_rz2 0 3 (q_mdv (s_run q_rz1 0 61 (s_run (q_rz0 u) 0 32 I)) 0 u 1)) f_m_chord 0 u) f_m_hasChord 0 1
theorem q_i0 {i : Nat} (h : i < 32) : s_isk 0 (nI i) := by
  have := q_ki (dv := 0) (i := i) (by decide) (by show i < 32; exact h)
  rw [nI_0] at this
  exact this
theorem q_i1 {i : Nat} (h : i < 61) : s_isk 1 (nI i) := q_ki (dv := 1) (i := i) (by decide) (by show i < 61; exact h)
theorem q_bk.mdv {I : e_I} {x y z : Int32} (h : q_bk I) : q_bk (q_mdv I x y z) := by
  unfold q_bk
  rw [show q_mdv I x y z f_m_best = I f_m_best from q_mdv_e.F (by decide)]
  exact h
