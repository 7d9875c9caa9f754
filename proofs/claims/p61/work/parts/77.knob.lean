/-! 77: couplers and knobs are made (printed by wip/whole/p77.py) -/
set_option maxRecDepth 100000 in
set_option maxHeartbeats 4000000 in
theorem c_X2_init {X : e_XT} {d : Nat} {p : e_Sp} {I : e_I} {J : e_Jt} {c : Nat × Nat} {w : e_Rw1} {Q : e_Rt → e_SS → Prop} {b : Nat} {f : Nat → Value} {x y z t : Int32} (ht : vp_nar .char t = t) (k : Q (.inl none) (p, I, J, c, s_rw w b (6, 0, (s_fu (s_fu (s_fu (s_fu f 0 (.int x)) 1 (.int y)) 2 (.int z)) 3 (.int t))))) : s_c X (d + 0) 46 [.ref b, .int x, .int y, .int z, .int t] (p, I, J, c, s_rw w b (6, 0, f)) Q := by
  refine m_X2_init (Nat.le_of_ble_eq_true rfl) ?_
  show s_w _ _ _ 0 _ _ _ _
  refine w_op (pc' := 1) dX2_init_0 rfl ?_
  refine w_objinit (by decide) rfl (Nat.le_of_ble_eq_true rfl) dX2_init_1 ?_
  refine w_op (pc' := 5) dX2_init_4 rfl ?_
  refine w_op (pc' := 6) dX2_init_5 rfl ?_
  refine t_putR dX2_init_6 rfl rfl (Or.inr ⟨rfl, rfl, rfl⟩) ?_
  refine w_op (pc' := 10) dX2_init_9 rfl ?_
  refine w_op (pc' := 11) dX2_init_10 rfl ?_
  refine t_putR dX2_init_11 rfl rfl (Or.inr ⟨rfl, rfl, rfl⟩) ?_
  refine w_op (pc' := 15) dX2_init_14 rfl ?_
  refine w_op (pc' := 16) dX2_init_15 rfl ?_
  refine t_putR dX2_init_16 rfl rfl (Or.inr ⟨rfl, rfl, rfl⟩) ?_
  refine w_op (pc' := 20) dX2_init_19 rfl ?_
  refine w_op (pc' := 22) dX2_init_20 rfl ?_
  refine t_putR dX2_init_22 rfl (s_ckc (by first | assumption | decide +kernel)) (Or.inr ⟨rfl, rfl, rfl⟩) ?_
  exact w_return dX2_init_25 ⟨rfl, k⟩
set_option maxRecDepth 100000 in
set_option maxHeartbeats 4000000 in
theorem c_X4_initC {X : e_XT} {d : Nat} {p : e_Sp} {I : e_I} {J : e_Jt} {c : Nat × Nat} {w : e_Rw1} {Q : e_Rt → e_SS → Prop} {b : Nat} {f : Nat → Value} {e : Nat} {x y : Int32} (ht : vp_nar .char x = x) (k : Q (.inl none) (p, I, J, c, s_rw w b (8, 0, (s_fu (s_fu (s_fu (s_fu (s_fu (s_fu f 6 (.int 1)) 7 (.int (-1))) 0 (.int x)) 1 (.int y)) 2 .null) 3 (.ref e))))) : s_c X (d + 0) 58 [.ref b, .int x, .int y, .null, .ref e] (p, I, J, c, s_rw w b (8, 0, f)) Q := by
  refine m_X4_init (Nat.le_of_ble_eq_true rfl) ?_
  show s_w _ _ _ 0 _ _ _ _
  refine w_op (pc' := 1) dX4_init_0 rfl ?_
  refine w_objinit (by decide) rfl (Nat.le_of_ble_eq_true rfl) dX4_init_1 ?_
  refine w_op (pc' := 5) dX4_init_4 rfl ?_
  refine w_iconst (v := 1) dX4_init_5 rfl ?_
  refine t_putR dX4_init_6 rfl (s_ckb (by first | exact Or.inl rfl | exact Or.inr rfl | assumption)) (Or.inr ⟨rfl, rfl, rfl⟩) ?_
  refine w_op (pc' := 10) dX4_init_9 rfl ?_
  refine w_iconst (v := (-1)) dX4_init_10 rfl ?_
  refine t_putR dX4_init_11 rfl rfl (Or.inr ⟨rfl, rfl, rfl⟩) ?_
  refine w_op (pc' := 15) dX4_init_14 rfl ?_
  refine w_op (pc' := 16) dX4_init_15 rfl ?_
  refine t_putR dX4_init_16 rfl (s_ckc (by first | assumption | decide +kernel)) (Or.inr ⟨rfl, rfl, rfl⟩) ?_
  refine w_op (pc' := 20) dX4_init_19 rfl ?_
  refine w_op (pc' := 21) dX4_init_20 rfl ?_
  refine t_putR dX4_init_21 rfl rfl (Or.inr ⟨rfl, rfl, rfl⟩) ?_
  refine w_op (pc' := 25) dX4_init_24 rfl ?_
  refine w_op (pc' := 26) dX4_init_25 rfl ?_
  refine t_putR dX4_init_26 rfl rfl (Or.inr ⟨rfl, rfl, rfl⟩) ?_
  refine w_op (pc' := 30) dX4_init_29 rfl ?_
  refine w_op (pc' := 32) dX4_init_30 rfl ?_
  refine t_putR dX4_init_32 rfl rfl (Or.inr ⟨rfl, rfl, rfl⟩) ?_
  exact w_return dX4_init_35 ⟨rfl, k⟩
set_option maxRecDepth 100000 in
set_option maxHeartbeats 4000000 in
theorem c_X4_initS {X : e_XT} {d : Nat} {p : e_Sp} {I : e_I} {J : e_Jt} {c : Nat × Nat} {w : e_Rw1} {Q : e_Rt → e_SS → Prop} {b : Nat} {f : Nat → Value} {e : Nat} {x y : Int32} (ht : vp_nar .char x = x) (k : Q (.inl none) (p, I, J, c, s_rw w b (8, 0, (s_fu (s_fu (s_fu (s_fu (s_fu (s_fu f 6 (.int 1)) 7 (.int (-1))) 0 (.int x)) 1 (.int y)) 2 (.ref e)) 3 .null)))) : s_c X (d + 0) 58 [.ref b, .int x, .int y, .ref e, .null] (p, I, J, c, s_rw w b (8, 0, f)) Q := by
  refine m_X4_init (Nat.le_of_ble_eq_true rfl) ?_
  show s_w _ _ _ 0 _ _ _ _
  refine w_op (pc' := 1) dX4_init_0 rfl ?_
  refine w_objinit (by decide) rfl (Nat.le_of_ble_eq_true rfl) dX4_init_1 ?_
  refine w_op (pc' := 5) dX4_init_4 rfl ?_
  refine w_iconst (v := 1) dX4_init_5 rfl ?_
  refine t_putR dX4_init_6 rfl (s_ckb (by first | exact Or.inl rfl | exact Or.inr rfl | assumption)) (Or.inr ⟨rfl, rfl, rfl⟩) ?_
  refine w_op (pc' := 10) dX4_init_9 rfl ?_
  refine w_iconst (v := (-1)) dX4_init_10 rfl ?_
  refine t_putR dX4_init_11 rfl rfl (Or.inr ⟨rfl, rfl, rfl⟩) ?_
  refine w_op (pc' := 15) dX4_init_14 rfl ?_
  refine w_op (pc' := 16) dX4_init_15 rfl ?_
  refine t_putR dX4_init_16 rfl (s_ckc (by first | assumption | decide +kernel)) (Or.inr ⟨rfl, rfl, rfl⟩) ?_
  refine w_op (pc' := 20) dX4_init_19 rfl ?_
  refine w_op (pc' := 21) dX4_init_20 rfl ?_
  refine t_putR dX4_init_21 rfl rfl (Or.inr ⟨rfl, rfl, rfl⟩) ?_
  refine w_op (pc' := 25) dX4_init_24 rfl ?_
  refine w_op (pc' := 26) dX4_init_25 rfl ?_
  refine t_putR dX4_init_26 rfl rfl (Or.inr ⟨rfl, rfl, rfl⟩) ?_
  refine w_op (pc' := 30) dX4_init_29 rfl ?_
  refine w_op (pc' := 32) dX4_init_30 rfl ?_
  refine t_putR dX4_init_32 rfl rfl (Or.inr ⟨rfl, rfl, rfl⟩) ?_
  exact w_return dX4_init_35 ⟨rfl, k⟩
set_option maxRecDepth 100000 in
set_option maxHeartbeats 4000000 in
theorem c_X4_initT {X : e_XT} {d : Nat} {p : e_Sp} {I : e_I} {J : e_Jt} {c : Nat × Nat} {w : e_Rw1} {Q : e_Rt → e_SS → Prop} {b : Nat} {f : Nat → Value} {x y : Int32} (ht : vp_nar .char x = x) (k : Q (.inl none) (p, I, J, c, s_rw w b (8, 0, (s_fu (s_fu (s_fu (s_fu (s_fu (s_fu f 6 (.int 1)) 7 (.int (-1))) 0 (.int x)) 1 (.int y)) 2 .null) 3 .null)))) : s_c X (d + 0) 58 [.ref b, .int x, .int y, .null, .null] (p, I, J, c, s_rw w b (8, 0, f)) Q := by
  refine m_X4_init (Nat.le_of_ble_eq_true rfl) ?_
  show s_w _ _ _ 0 _ _ _ _
  refine w_op (pc' := 1) dX4_init_0 rfl ?_
  refine w_objinit (by decide) rfl (Nat.le_of_ble_eq_true rfl) dX4_init_1 ?_
  refine w_op (pc' := 5) dX4_init_4 rfl ?_
  refine w_iconst (v := 1) dX4_init_5 rfl ?_
  refine t_putR dX4_init_6 rfl (s_ckb (by first | exact Or.inl rfl | exact Or.inr rfl | assumption)) (Or.inr ⟨rfl, rfl, rfl⟩) ?_
  refine w_op (pc' := 10) dX4_init_9 rfl ?_
  refine w_iconst (v := (-1)) dX4_init_10 rfl ?_
  refine t_putR dX4_init_11 rfl rfl (Or.inr ⟨rfl, rfl, rfl⟩) ?_
  refine w_op (pc' := 15) dX4_init_14 rfl ?_
  refine w_op (pc' := 16) dX4_init_15 rfl ?_
  refine t_putR dX4_init_16 rfl (s_ckc (by first | assumption | decide +kernel)) (Or.inr ⟨rfl, rfl, rfl⟩) ?_
  refine w_op (pc' := 20) dX4_init_19 rfl ?_
  refine w_op (pc' := 21) dX4_init_20 rfl ?_
  refine t_putR dX4_init_21 rfl rfl (Or.inr ⟨rfl, rfl, rfl⟩) ?_
  refine w_op (pc' := 25) dX4_init_24 rfl ?_
  refine w_op (pc' := 26) dX4_init_25 rfl ?_
  refine t_putR dX4_init_26 rfl rfl (Or.inr ⟨rfl, rfl, rfl⟩) ?_
  refine w_op (pc' := 30) dX4_init_29 rfl ?_
  refine w_op (pc' := 32) dX4_init_30 rfl ?_
  refine t_putR dX4_init_32 rfl rfl (Or.inr ⟨rfl, rfl, rfl⟩) ?_
  exact w_return dX4_init_35 ⟨rfl, k⟩
set_option maxRecDepth 100000 in
set_option maxHeartbeats 4000000 in
theorem c_X6_init {X : e_XT} {d : Nat} {p : e_Sp} {I : e_I} {J : e_Jt} {c : Nat × Nat} {w : e_Rw1} {Q : e_Rt → e_SS → Prop} {b : Nat} {f : Nat → Value}  (k : Q (.inl none) (p, I, J, c, s_rw w b (10, 0, (s_fu (s_fu f 5 (.int (-5))) 6 (.int 45))))) : s_c X (d + 0) 81 [.ref b] (p, I, J, c, s_rw w b (10, 0, f)) Q := by
  refine m_X6_init (Nat.le_of_ble_eq_true rfl) ?_
  show s_w _ _ _ 0 _ _ _ _
  refine w_op (pc' := 1) dX6_init_0 rfl ?_
  refine w_objinit (by decide) rfl (Nat.le_of_ble_eq_true rfl) dX6_init_1 ?_
  refine w_op (pc' := 5) dX6_init_4 rfl ?_
  refine w_bipush (v := (-5)) dX6_init_5 rfl ?_
  refine t_putR dX6_init_7 rfl rfl (Or.inr ⟨rfl, rfl, rfl⟩) ?_
  refine w_op (pc' := 11) dX6_init_10 rfl ?_
  refine w_bipush (v := 45) dX6_init_11 rfl ?_
  refine t_putR dX6_init_13 rfl (s_ckc (by first | assumption | decide +kernel)) (Or.inr ⟨rfl, rfl, rfl⟩) ?_
  exact w_return dX6_init_16 ⟨rfl, k⟩
