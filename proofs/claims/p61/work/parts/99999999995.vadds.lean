/-! 99999999995: how much one settling adds -/
def v_tg (M : e_I) (q : Nat) : Nat := if q_is M q ≠ M f_m_isCalled q then 1 else 0
theorem v_adds {M : e_I} {n np : Nat} (hn : M f_l_size 4 = nI n) (hb : n + np < 2147483648) (hr : M f_m_recording 0 = 114) : ∀ i, i ≤ np → s_run q_stA 0 i M f_l_size 4 = nI (n + s_sum i (v_tg M)) ∧ s_sum i (v_tg M) ≤ i := by
  intro i
  induction i with
  | zero => exact fun _ => ⟨hn, Nat.le_refl _⟩
  | succ i ih =>
    intro hi
    obtain ⟨h1, h2⟩ := ih (by omega)
    have hE1 : s_eqN (q_bT ++ v_qA) M (s_run q_stA 0 i M) := s_eqN.run v_stAN _ _ _
    have a2 : s_run q_stA 0 i M f_m_isCalled i = M f_m_isCalled i := by rw [v_stAr i _ _ (by decide), if_neg (Nat.lt_irrefl _)]
    rw [s_run_l, Nat.zero_add]
    generalize s_run q_stA 0 i M = B at *
    have a4 : q_is B i = q_is M i := by unfold q_is; rw [v_S_fix hE1 (by decide)]
    have hS : ∀ X, q_stB i (q_is B i) X f_l_size 4 = X f_l_size 4 := fun X => by rw [s_eqN.qstB _ (by decide)]
    show q_stB i (q_is B i) (q_stK i B) f_l_size 4 = nI (n + (s_sum i (v_tg M) + v_tg M i)) ∧ s_sum i (v_tg M) + v_tg M i ≤ i + 1
    have et : v_tg M i = if q_is M i ≠ M f_m_isCalled i then 1 else 0 := rfl
    rw [hS, et]
    generalize s_sum i (v_tg M) = S at *
    unfold q_stK
    by_cases c : q_is M i ≠ M f_m_isCalled i
    · rw [if_pos ⟨by rw [a4, a2]; exact c, by rw [hE1 _ (by decide)]; exact hr⟩, if_pos c, q_ka_n, h1, nI_clamp (by omega)]
      exact ⟨rfl, by omega⟩
    · rw [if_neg (fun z => c (by rw [← a4, ← a2]; exact z.1)), if_neg c]
      exact ⟨h1, by omega⟩
/-- behind settling -/
theorem v_addsS {nk nr np n : Nat} {I : e_I} {J : e_Jt} (hn : I f_l_size 4 = nI n) (hb : n + np < 2147483648) (hr : I f_m_recording 0 = 114) : (q_st nk nr np (I, J)).1 f_l_size 4 = nI (n + s_sum np (v_tg (q_rc nk nr np I))) := by
  have e0 : q_st nk nr np (I, J) = s_run q_sp 0 np (q_bws nk np (s_run q_mv 0 np (s_run q_stA 0 np (q_rc nk nr np I))), J) := rfl
  have hE : s_eqN [f_m_isRelay, f_m_counts] I (q_rc nk nr np I) := s_eqN.qrc
  rw [e0]
  have k := v_adds (M := q_rc nk nr np I) (n := n) (np := np) (by rw [hE _ (by decide)]; exact hn) hb (by rw [hE _ (by decide)]; exact hr) np (Nat.le_refl _)
  generalize s_run q_stA 0 np (q_rc nk nr np I) = M at *
  have k1 : s_eqN v_oT M (s_run q_mv 0 np M) := s_eqN.run s_eqN.qmv _ _ _
  have k2 : s_eqN [f_m_winds] (s_run q_mv 0 np M) (q_bws nk np (s_run q_mv 0 np M)) := s_eqN.qbws
  have k3 : s_eqN [f_m_begun, f_m_speaks] (q_bws nk np (s_run q_mv 0 np M)) (s_run q_sp 0 np (q_bws nk np (s_run q_mv 0 np M), J)).1 := s_eqN.runP s_eqN.qsp _ _ (q_bws nk np (s_run q_mv 0 np M), J)
  rw [k3 _ (by decide), k2 _ (by decide), k1 _ (by decide)]
  exact k.1
