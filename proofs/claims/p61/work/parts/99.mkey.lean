/-- a key is put -/
def q_md1 (I : e_I) (x y z : Int32) : e_I := if z = 0 then s_up I f_m_isDown (s_kn x y) z else s_up (s_up I f_m_isDown (s_kn x y) z) f_m_wentDown (s_kn x y) (I f_m_tick 0)
def q_mdv (I : e_I) (x y z : Int32) : e_I := if I f_m_isDown (s_kn x y) = z then I else if I f_m_recording 0 = 107 then q_ka (q_md1 I x y z) (I f_l_size 4).toNatClampNeg x y z else q_md1 I x y z
def q_mT : List Nat := [f_m_isDown, f_m_wentDown] ++ q_kT9
theorem s_eqN.qmd1 {I : e_I} {x y z : Int32} : s_eqN [f_m_isDown, f_m_wentDown] I (q_md1 I x y z) := by
  unfold q_md1
  split
  · exact s_eqN.up (by decide)
  · exact (s_eqN.up (by decide)).trans (s_eqN.up (by decide))
theorem q_mdv_e {I : e_I} {x y z : Int32} : q_e q_mT I (q_mdv I x y z) := by
  unfold q_mdv
  split
  · exact q_e.rfl'
  · split
    · exact (q_e.of s_eqN.qmd1 (by decide) (by decide)).trans (q_ka_e.mono (by decide))
    · exact q_e.of s_eqN.qmd1 (by decide) (by decide)
theorem q_bo.md1 {I : e_I} {x y z : Int32} (h : q_bo I f_m_isDown) (hz : z = 0 ∨ z = 1) : q_bo (q_md1 I x y z) f_m_isDown := by
  unfold q_md1
  split
  · exact h.up hz
  · exact (h.up hz).eqN (s_eqN.up (T := [f_m_wentDown]) (by decide)) (by decide)
theorem q_bo.mdv {I : e_I} {x y z : Int32} (h : q_bo I f_m_isDown) (hz : z = 0 ∨ z = 1) : q_bo (q_mdv I x y z) f_m_isDown := by
  unfold q_mdv
  split
  · exact h
  · split
    · unfold q_bo; rw [q_ka_e.F (F := f_m_isDown) (by decide)]; exact h.md1 hz
    · exact h.md1 hz
theorem s_run_l {α : Type} {f : Nat → α → α} : ∀ n i a, s_run f i (n + 1) a = f (i + n) (s_run f i n a)
  | 0, _, _ => rfl
  | n + 1, i, a => by
    show s_run f (i + 1) (n + 1) (f i a) = f (i + (n + 1)) (s_run f (i + 1) n (f i a))
    rw [s_run_l n (i + 1), show i + 1 + n = i + (n + 1) by omega]
/-- a tick -/
def q_tc (nk nr np : Nat) (_ : Nat) (a : e_I × e_Jt) : e_I × e_Jt := q_st nk nr np (s_up a.1 f_m_tick 0 (a.1 f_m_tick 0 + 1), a.2)
