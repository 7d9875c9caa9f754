/-! 9992: ranks and keepings of the second implementation are made (printed by wip/whole/p9992.py) -/
set_option maxRecDepth 100000 in
set_option maxHeartbeats 400000 in
theorem c_X12_init {X : e_XT} {d : Nat} {p : e_Sp} {I : e_I} {J : e_Jt} {c : Nat × Nat} {w : e_Rw1} {Q : e_Rt → e_SS → Prop} {b : Nat} {f : Nat → Value} (k : Q (.inl none) (p, I, J, c, s_rw w b (16, 0, f))) : s_c X (d + 0) 207 [.ref b] (p, I, J, c, s_rw w b (16, 0, f)) Q := by
  refine m_X12_init (Nat.le_of_ble_eq_true rfl) ?_
  show s_w _ _ _ 0 _ _ _ _
  refine w_op (pc' := 1) dX12_init_0 rfl ?_
  refine w_objinit (by decide) rfl (Nat.le_of_ble_eq_true rfl) dX12_init_1 ?_
  exact w_return dX12_init_4 ⟨rfl, k⟩

set_option maxRecDepth 100000 in
set_option maxHeartbeats 400000 in
theorem c_X15_init {X : e_XT} {d : Nat} {p : e_Sp} {I : e_I} {J : e_Jt} {c : Nat × Nat} {w : e_Rw1} {Q : e_Rt → e_SS → Prop} {b : Nat} {f : Nat → Value} {x0 x1 x2 x3 x4 x5 x6 x7 : Int32} (k : Q (.inl none) (p, I, J, c, s_rw w b (19, 0, (s_fu (s_fu (s_fu (s_fu (s_fu (s_fu (s_fu (s_fu f 0 (.int x0)) 1 (.int x1)) 2 (.int x2)) 3 (.int x3)) 4 (.int x4)) 5 (.int x5)) 6 (.int x6)) 7 (.int x7))))) : s_c X (d + 0) 210 [.ref b, .int x0, .int x1, .int x2, .int x3, .int x4, .int x5, .int x6, .int x7] (p, I, J, c, s_rw w b (19, 0, f)) Q := by
  refine m_X15_init (Nat.le_of_ble_eq_true rfl) ?_
  show s_w _ _ _ 0 _ _ _ _
  refine w_op (pc' := 1) dX15_init_0 rfl ?_
  refine w_objinit (by decide) rfl (Nat.le_of_ble_eq_true rfl) dX15_init_1 ?_
  refine w_op (pc' := 5) dX15_init_4 rfl ?_
  refine w_op (pc' := 6) dX15_init_5 rfl ?_
  refine t_putR dX15_init_6 rfl rfl (Or.inr ⟨rfl, rfl, rfl⟩) ?_
  refine w_op (pc' := 10) dX15_init_9 rfl ?_
  refine w_op (pc' := 11) dX15_init_10 rfl ?_
  refine t_putR dX15_init_11 rfl rfl (Or.inr ⟨rfl, rfl, rfl⟩) ?_
  refine w_op (pc' := 15) dX15_init_14 rfl ?_
  refine w_op (pc' := 16) dX15_init_15 rfl ?_
  refine t_putR dX15_init_16 rfl rfl (Or.inr ⟨rfl, rfl, rfl⟩) ?_
  refine w_op (pc' := 20) dX15_init_19 rfl ?_
  refine w_op (pc' := 22) dX15_init_20 rfl ?_
  refine t_putR dX15_init_22 rfl rfl (Or.inr ⟨rfl, rfl, rfl⟩) ?_
  refine w_op (pc' := 26) dX15_init_25 rfl ?_
  refine w_op (pc' := 28) dX15_init_26 rfl ?_
  refine t_putR dX15_init_28 rfl rfl (Or.inr ⟨rfl, rfl, rfl⟩) ?_
  refine w_op (pc' := 32) dX15_init_31 rfl ?_
  refine w_op (pc' := 34) dX15_init_32 rfl ?_
  refine t_putR dX15_init_34 rfl rfl (Or.inr ⟨rfl, rfl, rfl⟩) ?_
  refine w_op (pc' := 38) dX15_init_37 rfl ?_
  refine w_op (pc' := 40) dX15_init_38 rfl ?_
  refine t_putR dX15_init_40 rfl rfl (Or.inr ⟨rfl, rfl, rfl⟩) ?_
  refine w_op (pc' := 44) dX15_init_43 rfl ?_
  refine w_op (pc' := 46) dX15_init_44 rfl ?_
  refine t_putR dX15_init_46 rfl rfl (Or.inr ⟨rfl, rfl, rfl⟩) ?_
  exact w_return dX15_init_49 ⟨rfl, k⟩

