/-! 99999999999991: the wrappers of the law (printed by wip/p61/mk7.py) -/
abbrev tb_L_rank : List (Nat × Value) := [(0, .int (-78)), (1, .int (-79))]
theorem ct_L_rank : ∀ E v, (E, v) ∈ tb_L_rank → l_ct K_L_rank 12 E v := by
  intro E v h
  rcases List.mem_cons.mp h with h | h
  · cases h
    exact ⟨[], [(0, 15, 21, 22)], 0, 15, 16, 18, 20, 8, 595, by decide, rfl, by decide, by decide, by decide, List.forall_mem_nil _, .inr ⟨dL_rank_16, rfl⟩, by decide, .inl ⟨_, dL_rank_18, dL_rank_20, by decide⟩⟩
  cases List.mem_singleton.mp h
  exact ⟨[(0, 15, 16, 20)], [], 0, 15, 21, 23, 22, 8, 596, by decide, rfl, by decide, by decide, by decide, List.forall_mem_cons.mpr ⟨⟨by decide, 0, 595, by decide, by decide, by decide⟩, List.forall_mem_nil _⟩, .inr ⟨dL_rank_21, rfl⟩, by decide, .inl ⟨_, dL_rank_23, dL_rank_25, by decide⟩⟩
theorem cr_L_rank : ∀ E v, (E, v) ∈ tb_L_rank → e_rcr (some FieldType.int) (.inl (some v)) = true := by
  intro E v h
  rcases List.mem_cons.mp h with h | h
  · cases h
    rfl
  cases List.mem_singleton.mp h
  rfl
set_option maxRecDepth 100000 in
theorem c_L_rank {X : e_XT} {d : Nat} {p : e_Sp} {I : e_I} {J : e_Jt} {c : Nat × Nat} {w : e_Rw1} {Q : e_Rt → e_SS → Prop} {x1 x2 x3 x4 x5 x6 x7 : Int32} (hp : s_ok p) (h : s_c X d 143 [.ref (p.1 T_HALL 0), .int x1, .int x2, .int x3, .int x4, .int x5, .int x6, .int x7] (p, I, J, c, w) (l_Ri tb_L_rank Q)) : s_c X (d + 1) 399 [.ref (p.1 T_HALL 0), .int x1, .int x2, .int x3, .int x4, .int x5, .int x6, .int x7] (p, I, J, c, w) Q := by
  refine m_L_rank (Nat.le_of_ble_eq_true rfl) ?_
  show s_w _ _ _ 0 _ _ _ _
  refine w_op (pc' := 1) dL_rank_0 rfl ?_
  refine w_op (pc' := 2) dL_rank_1 rfl ?_
  refine w_op (pc' := 3) dL_rank_2 rfl ?_
  refine w_op (pc' := 4) dL_rank_3 rfl ?_
  refine w_op (pc' := 6) dL_rank_4 rfl ?_
  refine w_op (pc' := 8) dL_rank_6 rfl ?_
  refine w_op (pc' := 10) dL_rank_8 rfl ?_
  refine w_op (pc' := 12) dL_rank_10 rfl ?_
  refine w_callC (t := T_HALL) (As := [_, _, _, _, _, _, _]) (rest := []) (tb := tb_L_rank) dL_rank_12 rfl rM_X11_rank (by decide) rfl rfl (by decide) (by decide) (Nat.le_of_ble_eq_true rfl) rfl (hp.1 _ rfl) rfl ct_L_rank h ?_
  exact l_cI cr_L_rank dL_rank_15
abbrev tb_L_stop : List (Nat × Value) := [(2, .int (-77)), (1, .int (-79))]
theorem ct_L_stop : ∀ E v, (E, v) ∈ tb_L_stop → l_ct K_L_stop 2 E v := by
  intro E v h
  rcases List.mem_cons.mp h with h | h
  · cases h
    exact ⟨[], [(0, 5, 10, 22)], 0, 5, 6, 7, 28, 2, 893, by decide, rfl, by decide, by decide, by decide, List.forall_mem_nil _, .inl ⟨2, rfl, dL_stop_6, rfl⟩, by decide, .inl ⟨_, dL_stop_7, dL_stop_9, by decide⟩⟩
  cases List.mem_singleton.mp h
  exact ⟨[(0, 5, 6, 28)], [], 0, 5, 10, 11, 22, 2, 596, by decide, rfl, by decide, by decide, by decide, List.forall_mem_cons.mpr ⟨⟨by decide, 2, 893, by decide, by decide, by decide⟩, List.forall_mem_nil _⟩, .inl ⟨2, rfl, dL_stop_10, rfl⟩, by decide, .inl ⟨_, dL_stop_11, dL_stop_13, by decide⟩⟩
theorem cr_L_stop : ∀ E v, (E, v) ∈ tb_L_stop → e_rcr (some FieldType.int) (.inl (some v)) = true := by
  intro E v h
  rcases List.mem_cons.mp h with h | h
  · cases h
    rfl
  cases List.mem_singleton.mp h
  rfl
set_option maxRecDepth 100000 in
theorem c_L_stop {X : e_XT} {d : Nat} {p : e_Sp} {I : e_I} {J : e_Jt} {c : Nat × Nat} {w : e_Rw1} {Q : e_Rt → e_SS → Prop} {x1 : Int32} (hp : s_ok p) (h : s_c X d 145 [.ref (p.1 T_HALL 0), .int x1] (p, I, J, c, w) (l_Ri tb_L_stop Q)) : s_c X (d + 1) 400 [.ref (p.1 T_HALL 0), .int x1] (p, I, J, c, w) Q := by
  refine m_L_stop (Nat.le_of_ble_eq_true rfl) ?_
  show s_w _ _ _ 0 _ _ _ _
  refine w_op (pc' := 1) dL_stop_0 rfl ?_
  refine w_op (pc' := 2) dL_stop_1 rfl ?_
  refine w_callC (t := T_HALL) (As := [_]) (rest := []) (tb := tb_L_stop) dL_stop_2 rfl rM_X11_stop (by decide) rfl rfl (by decide) (by decide) (Nat.le_of_ble_eq_true rfl) rfl (hp.1 _ rfl) rfl ct_L_stop h ?_
  exact l_cI cr_L_stop dL_stop_5
abbrev tb_L_row : List (Nat × Value) := [(2, .int (-77)), (0, .int (-78)), (3, .int (-76)), (1, .int (-79))]
theorem ct_L_row : ∀ E v, (E, v) ∈ tb_L_row → l_ct K_L_row 8 E v := by
  intro E v h
  rcases List.mem_cons.mp h with h | h
  · cases h
    exact ⟨[], [(0, 11, 17, 20), (0, 11, 22, 34), (0, 11, 27, 22)], 0, 11, 12, 14, 28, 6, 893, by decide, rfl, by decide, by decide, by decide, List.forall_mem_nil _, .inr ⟨dL_row_12, rfl⟩, by decide, .inl ⟨_, dL_row_14, dL_row_16, by decide⟩⟩
  rcases List.mem_cons.mp h with h | h
  · cases h
    exact ⟨[(0, 11, 12, 28)], [(0, 11, 22, 34), (0, 11, 27, 22)], 0, 11, 17, 19, 20, 6, 595, by decide, rfl, by decide, by decide, by decide, List.forall_mem_cons.mpr ⟨⟨by decide, 2, 893, by decide, by decide, by decide⟩, List.forall_mem_nil _⟩, .inr ⟨dL_row_17, rfl⟩, by decide, .inl ⟨_, dL_row_19, dL_row_21, by decide⟩⟩
  rcases List.mem_cons.mp h with h | h
  · cases h
    exact ⟨[(0, 11, 12, 28), (0, 11, 17, 20)], [(0, 11, 27, 22)], 0, 11, 22, 24, 34, 6, 985, by decide, rfl, by decide, by decide, by decide, List.forall_mem_cons.mpr ⟨⟨by decide, 2, 893, by decide, by decide, by decide⟩, List.forall_mem_cons.mpr ⟨⟨by decide, 0, 595, by decide, by decide, by decide⟩, List.forall_mem_nil _⟩⟩, .inr ⟨dL_row_22, rfl⟩, by decide, .inl ⟨_, dL_row_24, dL_row_26, by decide⟩⟩
  cases List.mem_singleton.mp h
  exact ⟨[(0, 11, 12, 28), (0, 11, 17, 20), (0, 11, 22, 34)], [], 0, 11, 27, 29, 22, 6, 596, by decide, rfl, by decide, by decide, by decide, List.forall_mem_cons.mpr ⟨⟨by decide, 2, 893, by decide, by decide, by decide⟩, List.forall_mem_cons.mpr ⟨⟨by decide, 0, 595, by decide, by decide, by decide⟩, List.forall_mem_cons.mpr ⟨⟨by decide, 3, 985, by decide, by decide, by decide⟩, List.forall_mem_nil _⟩⟩⟩, .inr ⟨dL_row_27, rfl⟩, by decide, .inl ⟨_, dL_row_29, dL_row_31, by decide⟩⟩
theorem cr_L_row : ∀ E v, (E, v) ∈ tb_L_row → e_rcr (some FieldType.int) (.inl (some v)) = true := by
  intro E v h
  rcases List.mem_cons.mp h with h | h
  · cases h
    rfl
  rcases List.mem_cons.mp h with h | h
  · cases h
    rfl
  rcases List.mem_cons.mp h with h | h
  · cases h
    rfl
  cases List.mem_singleton.mp h
  rfl
set_option maxRecDepth 100000 in
theorem c_L_row {X : e_XT} {d : Nat} {p : e_Sp} {I : e_I} {J : e_Jt} {c : Nat × Nat} {w : e_Rw1} {Q : e_Rt → e_SS → Prop} {x1 x2 x3 x4 x5 : Int32} (hp : s_ok p) (h : s_c X d 149 [.ref (p.1 T_HALL 0), .int x1, .int x2, .int x3, .int x4, .int x5] (p, I, J, c, w) (l_Ri tb_L_row Q)) : s_c X (d + 1) 401 [.ref (p.1 T_HALL 0), .int x1, .int x2, .int x3, .int x4, .int x5] (p, I, J, c, w) Q := by
  refine m_L_row (Nat.le_of_ble_eq_true rfl) ?_
  show s_w _ _ _ 0 _ _ _ _
  refine w_op (pc' := 1) dL_row_0 rfl ?_
  refine w_op (pc' := 2) dL_row_1 rfl ?_
  refine w_op (pc' := 3) dL_row_2 rfl ?_
  refine w_op (pc' := 4) dL_row_3 rfl ?_
  refine w_op (pc' := 6) dL_row_4 rfl ?_
  refine w_op (pc' := 8) dL_row_6 rfl ?_
  refine w_callC (t := T_HALL) (As := [_, _, _, _, _]) (rest := []) (tb := tb_L_row) dL_row_8 rfl rM_X11_row (by decide) rfl rfl (by decide) (by decide) (Nat.le_of_ble_eq_true rfl) rfl (hp.1 _ rfl) rfl ct_L_row h ?_
  exact l_cI cr_L_row dL_row_11
abbrev tb_L_coupler : List (Nat × Value) := [(2, .int (-77)), (0, .int (-78)), (1, .int (-79))]
theorem ct_L_coupler : ∀ E v, (E, v) ∈ tb_L_coupler → l_ct K_L_coupler 6 E v := by
  intro E v h
  rcases List.mem_cons.mp h with h | h
  · cases h
    exact ⟨[], [(0, 9, 15, 20), (0, 9, 20, 22)], 0, 9, 10, 12, 28, 5, 893, by decide, rfl, by decide, by decide, by decide, List.forall_mem_nil _, .inr ⟨dL_coupler_10, rfl⟩, by decide, .inl ⟨_, dL_coupler_12, dL_coupler_14, by decide⟩⟩
  rcases List.mem_cons.mp h with h | h
  · cases h
    exact ⟨[(0, 9, 10, 28)], [(0, 9, 20, 22)], 0, 9, 15, 17, 20, 5, 595, by decide, rfl, by decide, by decide, by decide, List.forall_mem_cons.mpr ⟨⟨by decide, 2, 893, by decide, by decide, by decide⟩, List.forall_mem_nil _⟩, .inr ⟨dL_coupler_15, rfl⟩, by decide, .inl ⟨_, dL_coupler_17, dL_coupler_19, by decide⟩⟩
  cases List.mem_singleton.mp h
  exact ⟨[(0, 9, 10, 28), (0, 9, 15, 20)], [], 0, 9, 20, 22, 22, 5, 596, by decide, rfl, by decide, by decide, by decide, List.forall_mem_cons.mpr ⟨⟨by decide, 2, 893, by decide, by decide, by decide⟩, List.forall_mem_cons.mpr ⟨⟨by decide, 0, 595, by decide, by decide, by decide⟩, List.forall_mem_nil _⟩⟩, .inr ⟨dL_coupler_20, rfl⟩, by decide, .inl ⟨_, dL_coupler_22, dL_coupler_24, by decide⟩⟩
theorem cr_L_coupler : ∀ E v, (E, v) ∈ tb_L_coupler → e_rcr (some FieldType.int) (.inl (some v)) = true := by
  intro E v h
  rcases List.mem_cons.mp h with h | h
  · cases h
    rfl
  rcases List.mem_cons.mp h with h | h
  · cases h
    rfl
  cases List.mem_singleton.mp h
  rfl
set_option maxRecDepth 100000 in
theorem c_L_coupler {X : e_XT} {d : Nat} {p : e_Sp} {I : e_I} {J : e_Jt} {c : Nat × Nat} {w : e_Rw1} {Q : e_Rt → e_SS → Prop} {x1 x2 x3 x4 : Int32} (hp : s_ok p) (h : s_c X d 154 [.ref (p.1 T_HALL 0), .int x1, .int x2, .int x3, .int x4] (p, I, J, c, w) (l_Ri tb_L_coupler Q)) : s_c X (d + 1) 402 [.ref (p.1 T_HALL 0), .int x1, .int x2, .int x3, .int x4] (p, I, J, c, w) Q := by
  refine m_L_coupler (Nat.le_of_ble_eq_true rfl) ?_
  show s_w _ _ _ 0 _ _ _ _
  refine w_op (pc' := 1) dL_coupler_0 rfl ?_
  refine w_op (pc' := 2) dL_coupler_1 rfl ?_
  refine w_op (pc' := 3) dL_coupler_2 rfl ?_
  refine w_op (pc' := 4) dL_coupler_3 rfl ?_
  refine w_op (pc' := 6) dL_coupler_4 rfl ?_
  refine w_callC (t := T_HALL) (As := [_, _, _, _]) (rest := []) (tb := tb_L_coupler) dL_coupler_6 rfl rM_X11_coupler (by decide) rfl rfl (by decide) (by decide) (Nat.le_of_ble_eq_true rfl) rfl (hp.1 _ rfl) rfl ct_L_coupler h ?_
  exact l_cI cr_L_coupler dL_coupler_9
abbrev tb_L_tremulant : List (Nat × Value) := [(2, .int (-77)), (1, .int (-79))]
theorem ct_L_tremulant : ∀ E v, (E, v) ∈ tb_L_tremulant → l_ct K_L_tremulant 2 E v := by
  intro E v h
  rcases List.mem_cons.mp h with h | h
  · cases h
    exact ⟨[], [(0, 5, 10, 22)], 0, 5, 6, 7, 28, 2, 893, by decide, rfl, by decide, by decide, by decide, List.forall_mem_nil _, .inl ⟨2, rfl, dL_tremulant_6, rfl⟩, by decide, .inl ⟨_, dL_tremulant_7, dL_tremulant_9, by decide⟩⟩
  cases List.mem_singleton.mp h
  exact ⟨[(0, 5, 6, 28)], [], 0, 5, 10, 11, 22, 2, 596, by decide, rfl, by decide, by decide, by decide, List.forall_mem_cons.mpr ⟨⟨by decide, 2, 893, by decide, by decide, by decide⟩, List.forall_mem_nil _⟩, .inl ⟨2, rfl, dL_tremulant_10, rfl⟩, by decide, .inl ⟨_, dL_tremulant_11, dL_tremulant_13, by decide⟩⟩
theorem cr_L_tremulant : ∀ E v, (E, v) ∈ tb_L_tremulant → e_rcr (some FieldType.int) (.inl (some v)) = true := by
  intro E v h
  rcases List.mem_cons.mp h with h | h
  · cases h
    rfl
  cases List.mem_singleton.mp h
  rfl
set_option maxRecDepth 100000 in
theorem c_L_tremulant {X : e_XT} {d : Nat} {p : e_Sp} {I : e_I} {J : e_Jt} {c : Nat × Nat} {w : e_Rw1} {Q : e_Rt → e_SS → Prop} {x1 : Int32} (hp : s_ok p) (h : s_c X d 155 [.ref (p.1 T_HALL 0), .int x1] (p, I, J, c, w) (l_Ri tb_L_tremulant Q)) : s_c X (d + 1) 403 [.ref (p.1 T_HALL 0), .int x1] (p, I, J, c, w) Q := by
  refine m_L_tremulant (Nat.le_of_ble_eq_true rfl) ?_
  show s_w _ _ _ 0 _ _ _ _
  refine w_op (pc' := 1) dL_tremulant_0 rfl ?_
  refine w_op (pc' := 2) dL_tremulant_1 rfl ?_
  refine w_callC (t := T_HALL) (As := [_]) (rest := []) (tb := tb_L_tremulant) dL_tremulant_2 rfl rM_X11_tremulant (by decide) rfl rfl (by decide) (by decide) (Nat.le_of_ble_eq_true rfl) rfl (hp.1 _ rfl) rfl ct_L_tremulant h ?_
  exact l_cI cr_L_tremulant dL_tremulant_5
abbrev tb_L_pass : List (Nat × Value) := [(0, .int (-78))]
theorem ct_L_pass : ∀ E v, (E, v) ∈ tb_L_pass → l_ct K_L_pass 2 E v := by
  intro E v h
  cases List.mem_singleton.mp h
  exact ⟨[], [], 0, 5, 6, 7, 20, 2, 595, by decide, rfl, by decide, by decide, by decide, List.forall_mem_nil _, .inl ⟨2, rfl, dL_pass_6, rfl⟩, by decide, .inl ⟨_, dL_pass_7, dL_pass_9, by decide⟩⟩
theorem cr_L_pass : ∀ E v, (E, v) ∈ tb_L_pass → e_rcr (some FieldType.int) (.inl (some v)) = true := by
  intro E v h
  cases List.mem_singleton.mp h
  rfl
set_option maxRecDepth 100000 in
theorem c_L_pass {X : e_XT} {d : Nat} {p : e_Sp} {I : e_I} {J : e_Jt} {c : Nat × Nat} {w : e_Rw1} {Q : e_Rt → e_SS → Prop} {x1 : Int32} (hp : s_ok p) (h : s_c X d 165 [.ref (p.1 T_HALL 0), .int x1] (p, I, J, c, w) (l_Ri tb_L_pass Q)) : s_c X (d + 1) 404 [.ref (p.1 T_HALL 0), .int x1] (p, I, J, c, w) Q := by
  refine m_L_pass (Nat.le_of_ble_eq_true rfl) ?_
  show s_w _ _ _ 0 _ _ _ _
  refine w_op (pc' := 1) dL_pass_0 rfl ?_
  refine w_op (pc' := 2) dL_pass_1 rfl ?_
  refine w_callC (t := T_HALL) (As := [_]) (rest := []) (tb := tb_L_pass) dL_pass_2 rfl rM_X11_pass (by decide) rfl rfl (by decide) (by decide) (Nat.le_of_ble_eq_true rfl) rfl (hp.1 _ rfl) rfl ct_L_pass h ?_
  exact l_cI cr_L_pass dL_pass_5
abbrev tb_L_key : List (Nat × Value) := [(2, .int (-77))]
theorem ct_L_key : ∀ E v, (E, v) ∈ tb_L_key → l_ct K_L_key 4 E v := by
  intro E v h
  cases List.mem_singleton.mp h
  exact ⟨[], [], 0, 15, 16, 18, 28, 4, 893, by decide, rfl, by decide, by decide, by decide, List.forall_mem_nil _, .inr ⟨dL_key_16, rfl⟩, by decide, .inl ⟨_, dL_key_18, dL_key_20, by decide⟩⟩
theorem cr_L_key : ∀ E v, (E, v) ∈ tb_L_key → e_rcr (some FieldType.int) (.inl (some v)) = true := by
  intro E v h
  cases List.mem_singleton.mp h
  rfl
set_option maxRecDepth 100000 in
theorem c_L_key {X : e_XT} {d : Nat} {p : e_Sp} {I : e_I} {J : e_Jt} {c : Nat × Nat} {w : e_Rw1} {Q : e_Rt → e_SS → Prop} {x1 x2 x3 : Int32} (hp : s_ok p) (h : s_c X d 162 [.ref (p.1 T_HALL 0), .int x1, .int x2, .int x3] (p, I, J, c, w) (l_Rb tb_L_key Q)) : s_c X (d + 1) 406 [.ref (p.1 T_HALL 0), .int x1, .int x2, .int x3] (p, I, J, c, w) Q := by
  refine m_L_key (Nat.le_of_ble_eq_true rfl) ?_
  show s_w _ _ _ 0 _ _ _ _
  refine w_op (pc' := 1) dL_key_0 rfl ?_
  refine w_op (pc' := 2) dL_key_1 rfl ?_
  refine w_op (pc' := 3) dL_key_2 rfl ?_
  refine w_op (pc' := 4) dL_key_3 rfl ?_
  refine w_callC (t := T_HALL) (As := [_, _, _]) (rest := []) (tb := tb_L_key) dL_key_4 rfl rM_X11_key (by decide) rfl rfl (by decide) (by decide) (Nat.le_of_ble_eq_true rfl) rfl (hp.1 _ rfl) rfl ct_L_key h ?_
  exact l_cB cr_L_key dL_key_7 dL_key_10 dL_key_11 dL_key_14 dL_key_15
abbrev tb_L_isDown : List (Nat × Value) := [(2, .int (-77))]
theorem ct_L_isDown : ∀ E v, (E, v) ∈ tb_L_isDown → l_ct K_L_isDown 3 E v := by
  intro E v h
  cases List.mem_singleton.mp h
  exact ⟨[], [], 0, 14, 15, 16, 28, 3, 893, by decide, rfl, by decide, by decide, by decide, List.forall_mem_nil _, .inl ⟨3, rfl, dL_isDown_15, rfl⟩, by decide, .inl ⟨_, dL_isDown_16, dL_isDown_18, by decide⟩⟩
theorem cr_L_isDown : ∀ E v, (E, v) ∈ tb_L_isDown → e_rcr (some FieldType.int) (.inl (some v)) = true := by
  intro E v h
  cases List.mem_singleton.mp h
  rfl
set_option maxRecDepth 100000 in
theorem c_L_isDown {X : e_XT} {d : Nat} {p : e_Sp} {I : e_I} {J : e_Jt} {c : Nat × Nat} {w : e_Rw1} {Q : e_Rt → e_SS → Prop} {x1 x2 : Int32} (hp : s_ok p) (h : s_c X d 164 [.ref (p.1 T_HALL 0), .int x1, .int x2] (p, I, J, c, w) (l_Rb tb_L_isDown Q)) : s_c X (d + 1) 407 [.ref (p.1 T_HALL 0), .int x1, .int x2] (p, I, J, c, w) Q := by
  refine m_L_isDown (Nat.le_of_ble_eq_true rfl) ?_
  show s_w _ _ _ 0 _ _ _ _
  refine w_op (pc' := 1) dL_isDown_0 rfl ?_
  refine w_op (pc' := 2) dL_isDown_1 rfl ?_
  refine w_op (pc' := 3) dL_isDown_2 rfl ?_
  refine w_callC (t := T_HALL) (As := [_, _]) (rest := []) (tb := tb_L_isDown) dL_isDown_3 rfl rM_X11_isDown (by decide) rfl rfl (by decide) (by decide) (Nat.le_of_ble_eq_true rfl) rfl (hp.1 _ rfl) rfl ct_L_isDown h ?_
  exact l_cB cr_L_isDown dL_isDown_6 dL_isDown_9 dL_isDown_10 dL_isDown_13 dL_isDown_14
abbrev tb_L_draw : List (Nat × Value) := [(2, .int (-77))]
theorem ct_L_draw : ∀ E v, (E, v) ∈ tb_L_draw → l_ct K_L_draw 3 E v := by
  intro E v h
  cases List.mem_singleton.mp h
  exact ⟨[], [], 0, 14, 15, 16, 28, 3, 893, by decide, rfl, by decide, by decide, by decide, List.forall_mem_nil _, .inl ⟨3, rfl, dL_draw_15, rfl⟩, by decide, .inl ⟨_, dL_draw_16, dL_draw_18, by decide⟩⟩
theorem cr_L_draw : ∀ E v, (E, v) ∈ tb_L_draw → e_rcr (some FieldType.int) (.inl (some v)) = true := by
  intro E v h
  cases List.mem_singleton.mp h
  rfl
set_option maxRecDepth 100000 in
theorem c_L_draw {X : e_XT} {d : Nat} {p : e_Sp} {I : e_I} {J : e_Jt} {c : Nat × Nat} {w : e_Rw1} {Q : e_Rt → e_SS → Prop} {x1 x2 : Int32} (hp : s_ok p) (h : s_c X d 156 [.ref (p.1 T_HALL 0), .int x1, .int x2] (p, I, J, c, w) (l_Rb tb_L_draw Q)) : s_c X (d + 1) 408 [.ref (p.1 T_HALL 0), .int x1, .int x2] (p, I, J, c, w) Q := by
  refine m_L_draw (Nat.le_of_ble_eq_true rfl) ?_
  show s_w _ _ _ 0 _ _ _ _
  refine w_op (pc' := 1) dL_draw_0 rfl ?_
  refine w_op (pc' := 2) dL_draw_1 rfl ?_
  refine w_op (pc' := 3) dL_draw_2 rfl ?_
  refine w_callC (t := T_HALL) (As := [_, _]) (rest := []) (tb := tb_L_draw) dL_draw_3 rfl rM_X11_draw (by decide) rfl rfl (by decide) (by decide) (Nat.le_of_ble_eq_true rfl) rfl (hp.1 _ rfl) rfl ct_L_draw h ?_
  exact l_cB cr_L_draw dL_draw_6 dL_draw_9 dL_draw_10 dL_draw_13 dL_draw_14
abbrev tb_L_isDrawn : List (Nat × Value) := [(2, .int (-77))]
theorem ct_L_isDrawn : ∀ E v, (E, v) ∈ tb_L_isDrawn → l_ct K_L_isDrawn 2 E v := by
  intro E v h
  cases List.mem_singleton.mp h
  exact ⟨[], [], 0, 13, 14, 15, 28, 2, 893, by decide, rfl, by decide, by decide, by decide, List.forall_mem_nil _, .inl ⟨2, rfl, dL_isDrawn_14, rfl⟩, by decide, .inl ⟨_, dL_isDrawn_15, dL_isDrawn_17, by decide⟩⟩
theorem cr_L_isDrawn : ∀ E v, (E, v) ∈ tb_L_isDrawn → e_rcr (some FieldType.int) (.inl (some v)) = true := by
  intro E v h
  cases List.mem_singleton.mp h
  rfl
set_option maxRecDepth 100000 in
theorem c_L_isDrawn {X : e_XT} {d : Nat} {p : e_Sp} {I : e_I} {J : e_Jt} {c : Nat × Nat} {w : e_Rw1} {Q : e_Rt → e_SS → Prop} {x1 : Int32} (hp : s_ok p) (h : s_c X d 157 [.ref (p.1 T_HALL 0), .int x1] (p, I, J, c, w) (l_Rb tb_L_isDrawn Q)) : s_c X (d + 1) 409 [.ref (p.1 T_HALL 0), .int x1] (p, I, J, c, w) Q := by
  refine m_L_isDrawn (Nat.le_of_ble_eq_true rfl) ?_
  show s_w _ _ _ 0 _ _ _ _
  refine w_op (pc' := 1) dL_isDrawn_0 rfl ?_
  refine w_op (pc' := 2) dL_isDrawn_1 rfl ?_
  refine w_callC (t := T_HALL) (As := [_]) (rest := []) (tb := tb_L_isDrawn) dL_isDrawn_2 rfl rM_X11_isDrawn (by decide) rfl rfl (by decide) (by decide) (Nat.le_of_ble_eq_true rfl) rfl (hp.1 _ rfl) rfl ct_L_isDrawn h ?_
  exact l_cB cr_L_isDrawn dL_isDrawn_5 dL_isDrawn_8 dL_isDrawn_9 dL_isDrawn_12 dL_isDrawn_13
abbrev tb_L_set : List (Nat × Value) := [(2, .int (-77)), (3, .int (-76))]
theorem ct_L_set : ∀ E v, (E, v) ∈ tb_L_set → l_ct K_L_set 3 E v := by
  intro E v h
  rcases List.mem_cons.mp h with h | h
  · cases h
    exact ⟨[], [(0, 6, 11, 34)], 0, 6, 7, 8, 28, 3, 893, by decide, rfl, by decide, by decide, by decide, List.forall_mem_nil _, .inl ⟨3, rfl, dL_set_7, rfl⟩, by decide, .inl ⟨_, dL_set_8, dL_set_10, by decide⟩⟩
  cases List.mem_singleton.mp h
  exact ⟨[(0, 6, 7, 28)], [], 0, 6, 11, 12, 34, 3, 985, by decide, rfl, by decide, by decide, by decide, List.forall_mem_cons.mpr ⟨⟨by decide, 2, 893, by decide, by decide, by decide⟩, List.forall_mem_nil _⟩, .inl ⟨3, rfl, dL_set_11, rfl⟩, by decide, .inl ⟨_, dL_set_12, dL_set_14, by decide⟩⟩
theorem cr_L_set : ∀ E v, (E, v) ∈ tb_L_set → e_rcr (some FieldType.int) (.inl (some v)) = true := by
  intro E v h
  rcases List.mem_cons.mp h with h | h
  · cases h
    rfl
  cases List.mem_singleton.mp h
  rfl
set_option maxRecDepth 100000 in
theorem c_L_set {X : e_XT} {d : Nat} {p : e_Sp} {I : e_I} {J : e_Jt} {c : Nat × Nat} {w : e_Rw1} {Q : e_Rt → e_SS → Prop} {x1 x2 : Int32} (hp : s_ok p) (h : s_c X d 187 [.ref (p.1 T_HALL 0), .int x1, .int x2] (p, I, J, c, w) (l_Ri tb_L_set Q)) : s_c X (d + 1) 410 [.ref (p.1 T_HALL 0), .int x1, .int x2] (p, I, J, c, w) Q := by
  refine m_L_set (Nat.le_of_ble_eq_true rfl) ?_
  show s_w _ _ _ 0 _ _ _ _
  refine w_op (pc' := 1) dL_set_0 rfl ?_
  refine w_op (pc' := 2) dL_set_1 rfl ?_
  refine w_op (pc' := 3) dL_set_2 rfl ?_
  refine w_callC (t := T_HALL) (As := [_, _]) (rest := []) (tb := tb_L_set) dL_set_3 rfl rM_X11_set (by decide) rfl rfl (by decide) (by decide) (Nat.le_of_ble_eq_true rfl) rfl (hp.1 _ rfl) rfl ct_L_set h ?_
  exact l_cI cr_L_set dL_set_6
abbrev tb_L_push : List (Nat × Value) := [(2, .int (-77)), (4, .int (-75))]
theorem ct_L_push : ∀ E v, (E, v) ∈ tb_L_push → l_ct K_L_push 3 E v := by
  intro E v h
  rcases List.mem_cons.mp h with h | h
  · cases h
    exact ⟨[], [(0, 6, 11, 129)], 0, 6, 7, 8, 28, 3, 893, by decide, rfl, by decide, by decide, by decide, List.forall_mem_nil _, .inl ⟨3, rfl, dL_push_7, rfl⟩, by decide, .inl ⟨_, dL_push_8, dL_push_10, by decide⟩⟩
  cases List.mem_singleton.mp h
  exact ⟨[(0, 6, 7, 28)], [], 0, 6, 11, 12, 129, 3, 1188, by decide, rfl, by decide, by decide, by decide, List.forall_mem_cons.mpr ⟨⟨by decide, 2, 893, by decide, by decide, by decide⟩, List.forall_mem_nil _⟩, .inl ⟨3, rfl, dL_push_11, rfl⟩, by decide, .inl ⟨_, dL_push_12, dL_push_14, by decide⟩⟩
theorem cr_L_push : ∀ E v, (E, v) ∈ tb_L_push → e_rcr (some FieldType.int) (.inl (some v)) = true := by
  intro E v h
  rcases List.mem_cons.mp h with h | h
  · cases h
    rfl
  cases List.mem_singleton.mp h
  rfl
set_option maxRecDepth 100000 in
theorem c_L_push {X : e_XT} {d : Nat} {p : e_Sp} {I : e_I} {J : e_Jt} {c : Nat × Nat} {w : e_Rw1} {Q : e_Rt → e_SS → Prop} {x1 x2 : Int32} (hp : s_ok p) (h : s_c X d 189 [.ref (p.1 T_HALL 0), .int x1, .int x2] (p, I, J, c, w) (l_Ri tb_L_push Q)) : s_c X (d + 1) 411 [.ref (p.1 T_HALL 0), .int x1, .int x2] (p, I, J, c, w) Q := by
  refine m_L_push (Nat.le_of_ble_eq_true rfl) ?_
  show s_w _ _ _ 0 _ _ _ _
  refine w_op (pc' := 1) dL_push_0 rfl ?_
  refine w_op (pc' := 2) dL_push_1 rfl ?_
  refine w_op (pc' := 3) dL_push_2 rfl ?_
  refine w_callC (t := T_HALL) (As := [_, _]) (rest := []) (tb := tb_L_push) dL_push_3 rfl rM_X11_push (by decide) rfl rfl (by decide) (by decide) (Nat.le_of_ble_eq_true rfl) rfl (hp.1 _ rfl) rfl ct_L_push h ?_
  exact l_cI cr_L_push dL_push_6
abbrev tb_L_lock : List (Nat × Value) := [(2, .int (-77))]
theorem ct_L_lock : ∀ E v, (E, v) ∈ tb_L_lock → l_ct K_L_lock 3 E v := by
  intro E v h
  cases List.mem_singleton.mp h
  exact ⟨[], [], 0, 14, 15, 16, 28, 3, 893, by decide, rfl, by decide, by decide, by decide, List.forall_mem_nil _, .inl ⟨3, rfl, dL_lock_15, rfl⟩, by decide, .inl ⟨_, dL_lock_16, dL_lock_18, by decide⟩⟩
theorem cr_L_lock : ∀ E v, (E, v) ∈ tb_L_lock → e_rcr (some FieldType.int) (.inl (some v)) = true := by
  intro E v h
  cases List.mem_singleton.mp h
  rfl
set_option maxRecDepth 100000 in
theorem c_L_lock {X : e_XT} {d : Nat} {p : e_Sp} {I : e_I} {J : e_Jt} {c : Nat × Nat} {w : e_Rw1} {Q : e_Rt → e_SS → Prop} {x1 x2 : Int32} (hp : s_ok p) (h : s_c X d 159 [.ref (p.1 T_HALL 0), .int x1, .int x2] (p, I, J, c, w) (l_Rb tb_L_lock Q)) : s_c X (d + 1) 412 [.ref (p.1 T_HALL 0), .int x1, .int x2] (p, I, J, c, w) Q := by
  refine m_L_lock (Nat.le_of_ble_eq_true rfl) ?_
  show s_w _ _ _ 0 _ _ _ _
  refine w_op (pc' := 1) dL_lock_0 rfl ?_
  refine w_op (pc' := 2) dL_lock_1 rfl ?_
  refine w_op (pc' := 3) dL_lock_2 rfl ?_
  refine w_callC (t := T_HALL) (As := [_, _]) (rest := []) (tb := tb_L_lock) dL_lock_3 rfl rM_X11_lock (by decide) rfl rfl (by decide) (by decide) (Nat.le_of_ble_eq_true rfl) rfl (hp.1 _ rfl) rfl ct_L_lock h ?_
  exact l_cB cr_L_lock dL_lock_6 dL_lock_9 dL_lock_10 dL_lock_13 dL_lock_14
abbrev tb_L_scope : List (Nat × Value) := [(2, .int (-77))]
theorem ct_L_scope : ∀ E v, (E, v) ∈ tb_L_scope → l_ct K_L_scope 3 E v := by
  intro E v h
  cases List.mem_singleton.mp h
  exact ⟨[], [], 0, 14, 15, 16, 28, 3, 893, by decide, rfl, by decide, by decide, by decide, List.forall_mem_nil _, .inl ⟨3, rfl, dL_scope_15, rfl⟩, by decide, .inl ⟨_, dL_scope_16, dL_scope_18, by decide⟩⟩
theorem cr_L_scope : ∀ E v, (E, v) ∈ tb_L_scope → e_rcr (some FieldType.int) (.inl (some v)) = true := by
  intro E v h
  cases List.mem_singleton.mp h
  rfl
set_option maxRecDepth 100000 in
theorem c_L_scope {X : e_XT} {d : Nat} {p : e_Sp} {I : e_I} {J : e_Jt} {c : Nat × Nat} {w : e_Rw1} {Q : e_Rt → e_SS → Prop} {x1 x2 : Int32} (hp : s_ok p) (h : s_c X d 186 [.ref (p.1 T_HALL 0), .int x1, .int x2] (p, I, J, c, w) (l_Rb tb_L_scope Q)) : s_c X (d + 1) 413 [.ref (p.1 T_HALL 0), .int x1, .int x2] (p, I, J, c, w) Q := by
  refine m_L_scope (Nat.le_of_ble_eq_true rfl) ?_
  show s_w _ _ _ 0 _ _ _ _
  refine w_op (pc' := 1) dL_scope_0 rfl ?_
  refine w_op (pc' := 2) dL_scope_1 rfl ?_
  refine w_op (pc' := 3) dL_scope_2 rfl ?_
  refine w_callC (t := T_HALL) (As := [_, _]) (rest := []) (tb := tb_L_scope) dL_scope_3 rfl rM_X11_scope (by decide) rfl rfl (by decide) (by decide) (Nat.le_of_ble_eq_true rfl) rfl (hp.1 _ rfl) rfl ct_L_scope h ?_
  exact l_cB cr_L_scope dL_scope_6 dL_scope_9 dL_scope_10 dL_scope_13 dL_scope_14
abbrev tb_L_frame : List (Nat × Value) := [(2, .int (-77)), (1, .int (-79))]
theorem ct_L_frame : ∀ E v, (E, v) ∈ tb_L_frame → l_ct K_L_frame 2 E v := by
  intro E v h
  rcases List.mem_cons.mp h with h | h
  · cases h
    exact ⟨[], [(0, 5, 10, 22)], 0, 5, 6, 7, 28, 2, 893, by decide, rfl, by decide, by decide, by decide, List.forall_mem_nil _, .inl ⟨2, rfl, dL_frame_6, rfl⟩, by decide, .inl ⟨_, dL_frame_7, dL_frame_9, by decide⟩⟩
  cases List.mem_singleton.mp h
  exact ⟨[(0, 5, 6, 28)], [], 0, 5, 10, 11, 22, 2, 596, by decide, rfl, by decide, by decide, by decide, List.forall_mem_cons.mpr ⟨⟨by decide, 2, 893, by decide, by decide, by decide⟩, List.forall_mem_nil _⟩, .inl ⟨2, rfl, dL_frame_10, rfl⟩, by decide, .inl ⟨_, dL_frame_11, dL_frame_13, by decide⟩⟩
theorem cr_L_frame : ∀ E v, (E, v) ∈ tb_L_frame → e_rcr (some FieldType.int) (.inl (some v)) = true := by
  intro E v h
  rcases List.mem_cons.mp h with h | h
  · cases h
    rfl
  cases List.mem_singleton.mp h
  rfl
set_option maxRecDepth 100000 in
theorem c_L_frame {X : e_XT} {d : Nat} {p : e_Sp} {I : e_I} {J : e_Jt} {c : Nat × Nat} {w : e_Rw1} {Q : e_Rt → e_SS → Prop} {x1 : Int32} (hp : s_ok p) (h : s_c X d 193 [.ref (p.1 T_HALL 0), .int x1] (p, I, J, c, w) (l_Ri tb_L_frame Q)) : s_c X (d + 1) 414 [.ref (p.1 T_HALL 0), .int x1] (p, I, J, c, w) Q := by
  refine m_L_frame (Nat.le_of_ble_eq_true rfl) ?_
  show s_w _ _ _ 0 _ _ _ _
  refine w_op (pc' := 1) dL_frame_0 rfl ?_
  refine w_op (pc' := 2) dL_frame_1 rfl ?_
  refine w_callC (t := T_HALL) (As := [_]) (rest := []) (tb := tb_L_frame) dL_frame_2 rfl rM_X11_frame (by decide) rfl rfl (by decide) (by decide) (Nat.le_of_ble_eq_true rfl) rfl (hp.1 _ rfl) rfl ct_L_frame h ?_
  exact l_cI cr_L_frame dL_frame_5
abbrev tb_L_turnTo : List (Nat × Value) := [(2, .int (-77))]
theorem ct_L_turnTo : ∀ E v, (E, v) ∈ tb_L_turnTo → l_ct K_L_turnTo 2 E v := by
  intro E v h
  cases List.mem_singleton.mp h
  exact ⟨[], [], 0, 5, 6, 7, 28, 2, 893, by decide, rfl, by decide, by decide, by decide, List.forall_mem_nil _, .inl ⟨2, rfl, dL_turnTo_6, rfl⟩, by decide, .inl ⟨_, dL_turnTo_7, dL_turnTo_9, by decide⟩⟩
theorem cr_L_turnTo : ∀ E v, (E, v) ∈ tb_L_turnTo → e_rcr (some FieldType.int) (.inl (some v)) = true := by
  intro E v h
  cases List.mem_singleton.mp h
  rfl
set_option maxRecDepth 100000 in
theorem c_L_turnTo {X : e_XT} {d : Nat} {p : e_Sp} {I : e_I} {J : e_Jt} {c : Nat × Nat} {w : e_Rw1} {Q : e_Rt → e_SS → Prop} {x1 : Int32} (hp : s_ok p) (h : s_c X d 196 [.ref (p.1 T_HALL 0), .int x1] (p, I, J, c, w) (l_Ri tb_L_turnTo Q)) : s_c X (d + 1) 415 [.ref (p.1 T_HALL 0), .int x1] (p, I, J, c, w) Q := by
  refine m_L_turnTo (Nat.le_of_ble_eq_true rfl) ?_
  show s_w _ _ _ 0 _ _ _ _
  refine w_op (pc' := 1) dL_turnTo_0 rfl ?_
  refine w_op (pc' := 2) dL_turnTo_1 rfl ?_
  refine w_callC (t := T_HALL) (As := [_]) (rest := []) (tb := tb_L_turnTo) dL_turnTo_2 rfl rM_X11_turnTo (by decide) rfl rfl (by decide) (by decide) (Nat.le_of_ble_eq_true rfl) rfl (hp.1 _ rfl) rfl ct_L_turnTo h ?_
  exact l_cI cr_L_turnTo dL_turnTo_5
abbrev tb_L_wire : List (Nat × Value) := [(2, .int (-77)), (0, .int (-78))]
theorem ct_L_wire : ∀ E v, (E, v) ∈ tb_L_wire → l_ct K_L_wire 6 E v := by
  intro E v h
  rcases List.mem_cons.mp h with h | h
  · cases h
    exact ⟨[], [(0, 17, 23, 20)], 0, 17, 18, 20, 28, 5, 893, by decide, rfl, by decide, by decide, by decide, List.forall_mem_nil _, .inr ⟨dL_wire_18, rfl⟩, by decide, .inl ⟨_, dL_wire_20, dL_wire_22, by decide⟩⟩
  cases List.mem_singleton.mp h
  exact ⟨[(0, 17, 18, 28)], [], 0, 17, 23, 25, 20, 5, 595, by decide, rfl, by decide, by decide, by decide, List.forall_mem_cons.mpr ⟨⟨by decide, 2, 893, by decide, by decide, by decide⟩, List.forall_mem_nil _⟩, .inr ⟨dL_wire_23, rfl⟩, by decide, .inl ⟨_, dL_wire_25, dL_wire_27, by decide⟩⟩
theorem cr_L_wire : ∀ E v, (E, v) ∈ tb_L_wire → e_rcr (some FieldType.int) (.inl (some v)) = true := by
  intro E v h
  rcases List.mem_cons.mp h with h | h
  · cases h
    rfl
  cases List.mem_singleton.mp h
  rfl
set_option maxRecDepth 100000 in
theorem c_L_wire {X : e_XT} {d : Nat} {p : e_Sp} {I : e_I} {J : e_Jt} {c : Nat × Nat} {w : e_Rw1} {Q : e_Rt → e_SS → Prop} {x1 x2 x3 x4 : Int32} (hp : s_ok p) (h : s_c X d 197 [.ref (p.1 T_HALL 0), .int x1, .int x2, .int x3, .int x4] (p, I, J, c, w) (l_Rb tb_L_wire Q)) : s_c X (d + 1) 416 [.ref (p.1 T_HALL 0), .int x1, .int x2, .int x3, .int x4] (p, I, J, c, w) Q := by
  refine m_L_wire (Nat.le_of_ble_eq_true rfl) ?_
  show s_w _ _ _ 0 _ _ _ _
  refine w_op (pc' := 1) dL_wire_0 rfl ?_
  refine w_op (pc' := 2) dL_wire_1 rfl ?_
  refine w_op (pc' := 3) dL_wire_2 rfl ?_
  refine w_op (pc' := 4) dL_wire_3 rfl ?_
  refine w_op (pc' := 6) dL_wire_4 rfl ?_
  refine w_callC (t := T_HALL) (As := [_, _, _, _]) (rest := []) (tb := tb_L_wire) dL_wire_6 rfl rM_X11_wire (by decide) rfl rfl (by decide) (by decide) (Nat.le_of_ble_eq_true rfl) rfl (hp.1 _ rfl) rfl ct_L_wire h ?_
  exact l_cB cr_L_wire dL_wire_9 dL_wire_12 dL_wire_13 dL_wire_16 dL_wire_17
abbrev tb_L_isOnRelay : List (Nat × Value) := [(2, .int (-77))]
theorem ct_L_isOnRelay : ∀ E v, (E, v) ∈ tb_L_isOnRelay → l_ct K_L_isOnRelay 2 E v := by
  intro E v h
  cases List.mem_singleton.mp h
  exact ⟨[], [], 0, 13, 14, 15, 28, 2, 893, by decide, rfl, by decide, by decide, by decide, List.forall_mem_nil _, .inl ⟨2, rfl, dL_isOnRelay_14, rfl⟩, by decide, .inl ⟨_, dL_isOnRelay_15, dL_isOnRelay_17, by decide⟩⟩
theorem cr_L_isOnRelay : ∀ E v, (E, v) ∈ tb_L_isOnRelay → e_rcr (some FieldType.int) (.inl (some v)) = true := by
  intro E v h
  cases List.mem_singleton.mp h
  rfl
set_option maxRecDepth 100000 in
theorem c_L_isOnRelay {X : e_XT} {d : Nat} {p : e_Sp} {I : e_I} {J : e_Jt} {c : Nat × Nat} {w : e_Rw1} {Q : e_Rt → e_SS → Prop} {x1 : Int32} (hp : s_ok p) (h : s_c X d 199 [.ref (p.1 T_HALL 0), .int x1] (p, I, J, c, w) (l_Rb tb_L_isOnRelay Q)) : s_c X (d + 1) 417 [.ref (p.1 T_HALL 0), .int x1] (p, I, J, c, w) Q := by
  refine m_L_isOnRelay (Nat.le_of_ble_eq_true rfl) ?_
  show s_w _ _ _ 0 _ _ _ _
  refine w_op (pc' := 1) dL_isOnRelay_0 rfl ?_
  refine w_op (pc' := 2) dL_isOnRelay_1 rfl ?_
  refine w_callC (t := T_HALL) (As := [_]) (rest := []) (tb := tb_L_isOnRelay) dL_isOnRelay_2 rfl rM_X11_isOnRelay (by decide) rfl rfl (by decide) (by decide) (Nat.le_of_ble_eq_true rfl) rfl (hp.1 _ rfl) rfl ct_L_isOnRelay h ?_
  exact l_cB cr_L_isOnRelay dL_isOnRelay_5 dL_isOnRelay_8 dL_isOnRelay_9 dL_isOnRelay_12 dL_isOnRelay_13
abbrev tb_L_drive : List (Nat × Value) := [(2, .int (-77))]
theorem ct_L_drive : ∀ E v, (E, v) ∈ tb_L_drive → l_ct K_L_drive 3 E v := by
  intro E v h
  cases List.mem_singleton.mp h
  exact ⟨[], [], 0, 6, 7, 8, 28, 3, 893, by decide, rfl, by decide, by decide, by decide, List.forall_mem_nil _, .inl ⟨3, rfl, dL_drive_7, rfl⟩, by decide, .inl ⟨_, dL_drive_8, dL_drive_10, by decide⟩⟩
theorem cr_L_drive : ∀ E v, (E, v) ∈ tb_L_drive → e_rcr (some FieldType.int) (.inl (some v)) = true := by
  intro E v h
  cases List.mem_singleton.mp h
  rfl
set_option maxRecDepth 100000 in
theorem c_L_drive {X : e_XT} {d : Nat} {p : e_Sp} {I : e_I} {J : e_Jt} {c : Nat × Nat} {w : e_Rw1} {Q : e_Rt → e_SS → Prop} {x1 x2 : Int32} (hp : s_ok p) (h : s_c X d 200 [.ref (p.1 T_HALL 0), .int x1, .int x2] (p, I, J, c, w) (l_Ri tb_L_drive Q)) : s_c X (d + 1) 418 [.ref (p.1 T_HALL 0), .int x1, .int x2] (p, I, J, c, w) Q := by
  refine m_L_drive (Nat.le_of_ble_eq_true rfl) ?_
  show s_w _ _ _ 0 _ _ _ _
  refine w_op (pc' := 1) dL_drive_0 rfl ?_
  refine w_op (pc' := 2) dL_drive_1 rfl ?_
  refine w_op (pc' := 3) dL_drive_2 rfl ?_
  refine w_callC (t := T_HALL) (As := [_, _]) (rest := []) (tb := tb_L_drive) dL_drive_3 rfl rM_X11_drive (by decide) rfl rfl (by decide) (by decide) (Nat.le_of_ble_eq_true rfl) rfl (hp.1 _ rfl) rfl ct_L_drive h ?_
  exact l_cI cr_L_drive dL_drive_6
abbrev tb_L_setReversible : List (Nat × Value) := [(2, .int (-77)), (3, .int (-76))]
theorem ct_L_setReversible : ∀ E v, (E, v) ∈ tb_L_setReversible → l_ct K_L_setReversible 3 E v := by
  intro E v h
  rcases List.mem_cons.mp h with h | h
  · cases h
    exact ⟨[], [(0, 6, 11, 34)], 0, 6, 7, 8, 28, 3, 893, by decide, rfl, by decide, by decide, by decide, List.forall_mem_nil _, .inl ⟨3, rfl, dL_setReversible_7, rfl⟩, by decide, .inl ⟨_, dL_setReversible_8, dL_setReversible_10, by decide⟩⟩
  cases List.mem_singleton.mp h
  exact ⟨[(0, 6, 7, 28)], [], 0, 6, 11, 12, 34, 3, 985, by decide, rfl, by decide, by decide, by decide, List.forall_mem_cons.mpr ⟨⟨by decide, 2, 893, by decide, by decide, by decide⟩, List.forall_mem_nil _⟩, .inl ⟨3, rfl, dL_setReversible_11, rfl⟩, by decide, .inl ⟨_, dL_setReversible_12, dL_setReversible_14, by decide⟩⟩
theorem cr_L_setReversible : ∀ E v, (E, v) ∈ tb_L_setReversible → e_rcr (some FieldType.int) (.inl (some v)) = true := by
  intro E v h
  rcases List.mem_cons.mp h with h | h
  · cases h
    rfl
  cases List.mem_singleton.mp h
  rfl
set_option maxRecDepth 100000 in
theorem c_L_setReversible {X : e_XT} {d : Nat} {p : e_Sp} {I : e_I} {J : e_Jt} {c : Nat × Nat} {w : e_Rw1} {Q : e_Rt → e_SS → Prop} {x1 x2 : Int32} (hp : s_ok p) (h : s_c X d 190 [.ref (p.1 T_HALL 0), .int x1, .int x2] (p, I, J, c, w) (l_Ri tb_L_setReversible Q)) : s_c X (d + 1) 419 [.ref (p.1 T_HALL 0), .int x1, .int x2] (p, I, J, c, w) Q := by
  refine m_L_setReversible (Nat.le_of_ble_eq_true rfl) ?_
  show s_w _ _ _ 0 _ _ _ _
  refine w_op (pc' := 1) dL_setReversible_0 rfl ?_
  refine w_op (pc' := 2) dL_setReversible_1 rfl ?_
  refine w_op (pc' := 3) dL_setReversible_2 rfl ?_
  refine w_callC (t := T_HALL) (As := [_, _]) (rest := []) (tb := tb_L_setReversible) dL_setReversible_3 rfl rM_X11_setReversible (by decide) rfl rfl (by decide) (by decide) (Nat.le_of_ble_eq_true rfl) rfl (hp.1 _ rfl) rfl ct_L_setReversible h ?_
  exact l_cI cr_L_setReversible dL_setReversible_6
abbrev tb_L_pushReversible : List (Nat × Value) := [(2, .int (-77)), (4, .int (-75))]
theorem ct_L_pushReversible : ∀ E v, (E, v) ∈ tb_L_pushReversible → l_ct K_L_pushReversible 2 E v := by
  intro E v h
  rcases List.mem_cons.mp h with h | h
  · cases h
    exact ⟨[], [(0, 13, 18, 129)], 0, 13, 14, 15, 28, 2, 893, by decide, rfl, by decide, by decide, by decide, List.forall_mem_nil _, .inl ⟨2, rfl, dL_pushReversible_14, rfl⟩, by decide, .inl ⟨_, dL_pushReversible_15, dL_pushReversible_17, by decide⟩⟩
  cases List.mem_singleton.mp h
  exact ⟨[(0, 13, 14, 28)], [], 0, 13, 18, 19, 129, 2, 1188, by decide, rfl, by decide, by decide, by decide, List.forall_mem_cons.mpr ⟨⟨by decide, 2, 893, by decide, by decide, by decide⟩, List.forall_mem_nil _⟩, .inl ⟨2, rfl, dL_pushReversible_18, rfl⟩, by decide, .inl ⟨_, dL_pushReversible_19, dL_pushReversible_21, by decide⟩⟩
theorem cr_L_pushReversible : ∀ E v, (E, v) ∈ tb_L_pushReversible → e_rcr (some FieldType.int) (.inl (some v)) = true := by
  intro E v h
  rcases List.mem_cons.mp h with h | h
  · cases h
    rfl
  cases List.mem_singleton.mp h
  rfl
set_option maxRecDepth 100000 in
theorem c_L_pushReversible {X : e_XT} {d : Nat} {p : e_Sp} {I : e_I} {J : e_Jt} {c : Nat × Nat} {w : e_Rw1} {Q : e_Rt → e_SS → Prop} {x1 : Int32} (hp : s_ok p) (h : s_c X d 192 [.ref (p.1 T_HALL 0), .int x1] (p, I, J, c, w) (l_Rb tb_L_pushReversible Q)) : s_c X (d + 1) 420 [.ref (p.1 T_HALL 0), .int x1] (p, I, J, c, w) Q := by
  refine m_L_pushReversible (Nat.le_of_ble_eq_true rfl) ?_
  show s_w _ _ _ 0 _ _ _ _
  refine w_op (pc' := 1) dL_pushReversible_0 rfl ?_
  refine w_op (pc' := 2) dL_pushReversible_1 rfl ?_
  refine w_callC (t := T_HALL) (As := [_]) (rest := []) (tb := tb_L_pushReversible) dL_pushReversible_2 rfl rM_X11_pushReversible (by decide) rfl rfl (by decide) (by decide) (Nat.le_of_ble_eq_true rfl) rfl (hp.1 _ rfl) rfl ct_L_pushReversible h ?_
  exact l_cB cr_L_pushReversible dL_pushReversible_5 dL_pushReversible_8 dL_pushReversible_9 dL_pushReversible_12 dL_pushReversible_13
abbrev tb_L_realise : List (Nat × Value) := [(2, .int (-77)), (0, .int (-78)), (3, .int (-76))]
theorem ct_L_realise : ∀ E v, (E, v) ∈ tb_L_realise → l_ct K_L_realise 3 E v := by
  intro E v h
  rcases List.mem_cons.mp h with h | h
  · cases h
    exact ⟨[], [(0, 6, 11, 20), (0, 6, 15, 34)], 0, 6, 7, 8, 28, 3, 893, by decide, rfl, by decide, by decide, by decide, List.forall_mem_nil _, .inl ⟨3, rfl, dL_realise_7, rfl⟩, by decide, .inl ⟨_, dL_realise_8, dL_realise_10, by decide⟩⟩
  rcases List.mem_cons.mp h with h | h
  · cases h
    exact ⟨[(0, 6, 7, 28)], [(0, 6, 15, 34)], 0, 6, 11, 12, 20, 3, 595, by decide, rfl, by decide, by decide, by decide, List.forall_mem_cons.mpr ⟨⟨by decide, 2, 893, by decide, by decide, by decide⟩, List.forall_mem_nil _⟩, .inl ⟨3, rfl, dL_realise_11, rfl⟩, by decide, .inl ⟨_, dL_realise_12, dL_realise_14, by decide⟩⟩
  cases List.mem_singleton.mp h
  exact ⟨[(0, 6, 7, 28), (0, 6, 11, 20)], [], 0, 6, 15, 16, 34, 3, 985, by decide, rfl, by decide, by decide, by decide, List.forall_mem_cons.mpr ⟨⟨by decide, 2, 893, by decide, by decide, by decide⟩, List.forall_mem_cons.mpr ⟨⟨by decide, 0, 595, by decide, by decide, by decide⟩, List.forall_mem_nil _⟩⟩, .inl ⟨3, rfl, dL_realise_15, rfl⟩, by decide, .inl ⟨_, dL_realise_16, dL_realise_18, by decide⟩⟩
theorem cr_L_realise : ∀ E v, (E, v) ∈ tb_L_realise → e_rcr (some FieldType.int) (.inl (some v)) = true := by
  intro E v h
  rcases List.mem_cons.mp h with h | h
  · cases h
    rfl
  rcases List.mem_cons.mp h with h | h
  · cases h
    rfl
  cases List.mem_singleton.mp h
  rfl
set_option maxRecDepth 100000 in
theorem c_L_realise {X : e_XT} {d : Nat} {p : e_Sp} {I : e_I} {J : e_Jt} {c : Nat × Nat} {w : e_Rw1} {Q : e_Rt → e_SS → Prop} {x1 x2 : Int32} (hp : s_ok p) (h : s_c X d 204 [.ref (p.1 T_HALL 0), .int x1, .int x2] (p, I, J, c, w) (l_Ri tb_L_realise Q)) : s_c X (d + 1) 421 [.ref (p.1 T_HALL 0), .int x1, .int x2] (p, I, J, c, w) Q := by
  refine m_L_realise (Nat.le_of_ble_eq_true rfl) ?_
  show s_w _ _ _ 0 _ _ _ _
  refine w_op (pc' := 1) dL_realise_0 rfl ?_
  refine w_op (pc' := 2) dL_realise_1 rfl ?_
  refine w_op (pc' := 3) dL_realise_2 rfl ?_
  refine w_callC (t := T_HALL) (As := [_, _]) (rest := []) (tb := tb_L_realise) dL_realise_3 rfl rM_X11_realise (by decide) rfl rfl (by decide) (by decide) (Nat.le_of_ble_eq_true rfl) rfl (hp.1 _ rfl) rfl ct_L_realise h ?_
  exact l_cI cr_L_realise dL_realise_6
abbrev tb_L_record : List (Nat × Value) := [(0, .int (-78))]
theorem ct_L_record : ∀ E v, (E, v) ∈ tb_L_record → l_ct K_L_record 2 E v := by
  intro E v h
  cases List.mem_singleton.mp h
  exact ⟨[], [], 0, 5, 6, 7, 20, 2, 595, by decide, rfl, by decide, by decide, by decide, List.forall_mem_nil _, .inl ⟨2, rfl, dL_record_6, rfl⟩, by decide, .inl ⟨_, dL_record_7, dL_record_9, by decide⟩⟩
theorem cr_L_record : ∀ E v, (E, v) ∈ tb_L_record → e_rcr (some FieldType.int) (.inl (some v)) = true := by
  intro E v h
  cases List.mem_singleton.mp h
  rfl
set_option maxRecDepth 100000 in
theorem c_L_record {X : e_XT} {d : Nat} {p : e_Sp} {I : e_I} {J : e_Jt} {c : Nat × Nat} {w : e_Rw1} {Q : e_Rt → e_SS → Prop} {x1 : Int32} (hp : s_ok p) (h : s_c X d 201 [.ref (p.1 T_HALL 0), .int x1] (p, I, J, c, w) (l_Ri tb_L_record Q)) : s_c X (d + 1) 422 [.ref (p.1 T_HALL 0), .int x1] (p, I, J, c, w) Q := by
  refine m_L_record (Nat.le_of_ble_eq_true rfl) ?_
  show s_w _ _ _ 0 _ _ _ _
  refine w_op (pc' := 1) dL_record_0 rfl ?_
  refine w_op (pc' := 2) dL_record_1 rfl ?_
  refine w_callC (t := T_HALL) (As := [_]) (rest := []) (tb := tb_L_record) dL_record_2 rfl rM_X11_record (by decide) rfl rfl (by decide) (by decide) (Nat.le_of_ble_eq_true rfl) rfl (hp.1 _ rfl) rfl ct_L_record h ?_
  exact l_cI cr_L_record dL_record_5
abbrev tb_L_playBack : List (Nat × Value) := [(4, .int (-75))]
theorem ct_L_playBack : ∀ E v, (E, v) ∈ tb_L_playBack → l_ct K_L_playBack 1 E v := by
  intro E v h
  cases List.mem_singleton.mp h
  exact ⟨[], [], 0, 4, 5, 6, 129, 1, 1188, by decide, rfl, by decide, by decide, by decide, List.forall_mem_nil _, .inl ⟨1, rfl, dL_playBack_5, rfl⟩, by decide, .inl ⟨_, dL_playBack_6, dL_playBack_8, by decide⟩⟩
theorem cr_L_playBack : ∀ E v, (E, v) ∈ tb_L_playBack → e_rcr (some FieldType.int) (.inl (some v)) = true := by
  intro E v h
  cases List.mem_singleton.mp h
  rfl
set_option maxRecDepth 100000 in
theorem c_L_playBack {X : e_XT} {d : Nat} {p : e_Sp} {I : e_I} {J : e_Jt} {c : Nat × Nat} {w : e_Rw1} {Q : e_Rt → e_SS → Prop} (hp : s_ok p) (h : s_c X d 202 [.ref (p.1 T_HALL 0)] (p, I, J, c, w) (l_Ri tb_L_playBack Q)) : s_c X (d + 1) 423 [.ref (p.1 T_HALL 0)] (p, I, J, c, w) Q := by
  refine m_L_playBack (Nat.le_of_ble_eq_true rfl) ?_
  show s_w _ _ _ 0 _ _ _ _
  refine w_op (pc' := 1) dL_playBack_0 rfl ?_
  refine w_callC (t := T_HALL) (As := []) (rest := []) (tb := tb_L_playBack) dL_playBack_1 rfl rM_X11_playBack (by decide) rfl rfl (by decide) (by decide) (Nat.le_of_ble_eq_true rfl) rfl (hp.1 _ rfl) rfl ct_L_playBack h ?_
  exact l_cI cr_L_playBack dL_playBack_4
abbrev tb_L_fault : List (Nat × Value) := [(2, .int (-77)), (0, .int (-78))]
theorem ct_L_fault : ∀ E v, (E, v) ∈ tb_L_fault → l_ct K_L_fault 4 E v := by
  intro E v h
  rcases List.mem_cons.mp h with h | h
  · cases h
    exact ⟨[], [(0, 7, 13, 20)], 0, 7, 8, 10, 28, 4, 893, by decide, rfl, by decide, by decide, by decide, List.forall_mem_nil _, .inr ⟨dL_fault_8, rfl⟩, by decide, .inl ⟨_, dL_fault_10, dL_fault_12, by decide⟩⟩
  cases List.mem_singleton.mp h
  exact ⟨[(0, 7, 8, 28)], [], 0, 7, 13, 15, 20, 4, 595, by decide, rfl, by decide, by decide, by decide, List.forall_mem_cons.mpr ⟨⟨by decide, 2, 893, by decide, by decide, by decide⟩, List.forall_mem_nil _⟩, .inr ⟨dL_fault_13, rfl⟩, by decide, .inl ⟨_, dL_fault_15, dL_fault_17, by decide⟩⟩
theorem cr_L_fault : ∀ E v, (E, v) ∈ tb_L_fault → e_rcr (some FieldType.int) (.inl (some v)) = true := by
  intro E v h
  rcases List.mem_cons.mp h with h | h
  · cases h
    rfl
  cases List.mem_singleton.mp h
  rfl
set_option maxRecDepth 100000 in
theorem c_L_fault {X : e_XT} {d : Nat} {p : e_Sp} {I : e_I} {J : e_Jt} {c : Nat × Nat} {w : e_Rw1} {Q : e_Rt → e_SS → Prop} {x1 x2 x3 : Int32} (hp : s_ok p) (h : s_c X d 180 [.ref (p.1 T_HALL 0), .int x1, .int x2, .int x3] (p, I, J, c, w) (l_Ri tb_L_fault Q)) : s_c X (d + 1) 424 [.ref (p.1 T_HALL 0), .int x1, .int x2, .int x3] (p, I, J, c, w) Q := by
  refine m_L_fault (Nat.le_of_ble_eq_true rfl) ?_
  show s_w _ _ _ 0 _ _ _ _
  refine w_op (pc' := 1) dL_fault_0 rfl ?_
  refine w_op (pc' := 2) dL_fault_1 rfl ?_
  refine w_op (pc' := 3) dL_fault_2 rfl ?_
  refine w_op (pc' := 4) dL_fault_3 rfl ?_
  refine w_callC (t := T_HALL) (As := [_, _, _]) (rest := []) (tb := tb_L_fault) dL_fault_4 rfl rM_X11_fault (by decide) rfl rfl (by decide) (by decide) (Nat.le_of_ble_eq_true rfl) rfl (hp.1 _ rfl) rfl ct_L_fault h ?_
  exact l_cI cr_L_fault dL_fault_7
abbrev tb_L_hunt : List (Nat × Value) := [(2, .int (-77))]
theorem ct_L_hunt : ∀ E v, (E, v) ∈ tb_L_hunt → l_ct K_L_hunt 2 E v := by
  intro E v h
  cases List.mem_singleton.mp h
  exact ⟨[], [], 0, 5, 6, 7, 28, 2, 893, by decide, rfl, by decide, by decide, by decide, List.forall_mem_nil _, .inl ⟨2, rfl, dL_hunt_6, rfl⟩, by decide, .inl ⟨_, dL_hunt_7, dL_hunt_9, by decide⟩⟩
theorem cr_L_hunt : ∀ E v, (E, v) ∈ tb_L_hunt → e_rcr (some FieldType.int) (.inl (some v)) = true := by
  intro E v h
  cases List.mem_singleton.mp h
  rfl
set_option maxRecDepth 100000 in
theorem c_L_hunt {X : e_XT} {d : Nat} {p : e_Sp} {I : e_I} {J : e_Jt} {c : Nat × Nat} {w : e_Rw1} {Q : e_Rt → e_SS → Prop} {x1 : Int32} (hp : s_ok p) (h : s_c X d 181 [.ref (p.1 T_HALL 0), .int x1] (p, I, J, c, w) (l_Ri tb_L_hunt Q)) : s_c X (d + 1) 425 [.ref (p.1 T_HALL 0), .int x1] (p, I, J, c, w) Q := by
  refine m_L_hunt (Nat.le_of_ble_eq_true rfl) ?_
  show s_w _ _ _ 0 _ _ _ _
  refine w_op (pc' := 1) dL_hunt_0 rfl ?_
  refine w_op (pc' := 2) dL_hunt_1 rfl ?_
  refine w_callC (t := T_HALL) (As := [_]) (rest := []) (tb := tb_L_hunt) dL_hunt_2 rfl rM_X11_hunt (by decide) rfl rfl (by decide) (by decide) (Nat.le_of_ble_eq_true rfl) rfl (hp.1 _ rfl) rfl ct_L_hunt h ?_
  exact l_cI cr_L_hunt dL_hunt_5
abbrev tb_L_crescendo : List (Nat × Value) := [(0, .int (-78))]
theorem ct_L_crescendo : ∀ E v, (E, v) ∈ tb_L_crescendo → l_ct K_L_crescendo 2 E v := by
  intro E v h
  cases List.mem_singleton.mp h
  exact ⟨[], [], 0, 5, 6, 7, 20, 2, 595, by decide, rfl, by decide, by decide, by decide, List.forall_mem_nil _, .inl ⟨2, rfl, dL_crescendo_6, rfl⟩, by decide, .inl ⟨_, dL_crescendo_7, dL_crescendo_9, by decide⟩⟩
theorem cr_L_crescendo : ∀ E v, (E, v) ∈ tb_L_crescendo → e_rcr (some FieldType.int) (.inl (some v)) = true := by
  intro E v h
  cases List.mem_singleton.mp h
  rfl
set_option maxRecDepth 100000 in
theorem c_L_crescendo {X : e_XT} {d : Nat} {p : e_Sp} {I : e_I} {J : e_Jt} {c : Nat × Nat} {w : e_Rw1} {Q : e_Rt → e_SS → Prop} {x1 : Int32} (hp : s_ok p) (h : s_c X d 161 [.ref (p.1 T_HALL 0), .int x1] (p, I, J, c, w) (l_Ri tb_L_crescendo Q)) : s_c X (d + 1) 426 [.ref (p.1 T_HALL 0), .int x1] (p, I, J, c, w) Q := by
  refine m_L_crescendo (Nat.le_of_ble_eq_true rfl) ?_
  show s_w _ _ _ 0 _ _ _ _
  refine w_op (pc' := 1) dL_crescendo_0 rfl ?_
  refine w_op (pc' := 2) dL_crescendo_1 rfl ?_
  refine w_callC (t := T_HALL) (As := [_]) (rest := []) (tb := tb_L_crescendo) dL_crescendo_2 rfl rM_X11_crescendo (by decide) rfl rfl (by decide) (by decide) (Nat.le_of_ble_eq_true rfl) rfl (hp.1 _ rfl) rfl ct_L_crescendo h ?_
  exact l_cI cr_L_crescendo dL_crescendo_5
abbrev tb_L_stage : List (Nat × Value) := [(2, .int (-77)), (0, .int (-78)), (3, .int (-76))]
theorem ct_L_stage : ∀ E v, (E, v) ∈ tb_L_stage → l_ct K_L_stage 3 E v := by
  intro E v h
  rcases List.mem_cons.mp h with h | h
  · cases h
    exact ⟨[], [(0, 6, 11, 20), (0, 6, 15, 34)], 0, 6, 7, 8, 28, 3, 893, by decide, rfl, by decide, by decide, by decide, List.forall_mem_nil _, .inl ⟨3, rfl, dL_stage_7, rfl⟩, by decide, .inl ⟨_, dL_stage_8, dL_stage_10, by decide⟩⟩
  rcases List.mem_cons.mp h with h | h
  · cases h
    exact ⟨[(0, 6, 7, 28)], [(0, 6, 15, 34)], 0, 6, 11, 12, 20, 3, 595, by decide, rfl, by decide, by decide, by decide, List.forall_mem_cons.mpr ⟨⟨by decide, 2, 893, by decide, by decide, by decide⟩, List.forall_mem_nil _⟩, .inl ⟨3, rfl, dL_stage_11, rfl⟩, by decide, .inl ⟨_, dL_stage_12, dL_stage_14, by decide⟩⟩
  cases List.mem_singleton.mp h
  exact ⟨[(0, 6, 7, 28), (0, 6, 11, 20)], [], 0, 6, 15, 16, 34, 3, 985, by decide, rfl, by decide, by decide, by decide, List.forall_mem_cons.mpr ⟨⟨by decide, 2, 893, by decide, by decide, by decide⟩, List.forall_mem_cons.mpr ⟨⟨by decide, 0, 595, by decide, by decide, by decide⟩, List.forall_mem_nil _⟩⟩, .inl ⟨3, rfl, dL_stage_15, rfl⟩, by decide, .inl ⟨_, dL_stage_16, dL_stage_18, by decide⟩⟩
theorem cr_L_stage : ∀ E v, (E, v) ∈ tb_L_stage → e_rcr (some FieldType.int) (.inl (some v)) = true := by
  intro E v h
  rcases List.mem_cons.mp h with h | h
  · cases h
    rfl
  rcases List.mem_cons.mp h with h | h
  · cases h
    rfl
  cases List.mem_singleton.mp h
  rfl
set_option maxRecDepth 100000 in
theorem c_L_stage {X : e_XT} {d : Nat} {p : e_Sp} {I : e_I} {J : e_Jt} {c : Nat × Nat} {w : e_Rw1} {Q : e_Rt → e_SS → Prop} {x1 x2 : Int32} (hp : s_ok p) (h : s_c X d 160 [.ref (p.1 T_HALL 0), .int x1, .int x2] (p, I, J, c, w) (l_Ri tb_L_stage Q)) : s_c X (d + 1) 427 [.ref (p.1 T_HALL 0), .int x1, .int x2] (p, I, J, c, w) Q := by
  refine m_L_stage (Nat.le_of_ble_eq_true rfl) ?_
  show s_w _ _ _ 0 _ _ _ _
  refine w_op (pc' := 1) dL_stage_0 rfl ?_
  refine w_op (pc' := 2) dL_stage_1 rfl ?_
  refine w_op (pc' := 3) dL_stage_2 rfl ?_
  refine w_callC (t := T_HALL) (As := [_, _]) (rest := []) (tb := tb_L_stage) dL_stage_3 rfl rM_X11_stage (by decide) rfl rfl (by decide) (by decide) (Nat.le_of_ble_eq_true rfl) rfl (hp.1 _ rfl) rfl ct_L_stage h ?_
  exact l_cI cr_L_stage dL_stage_6
abbrev tb_L_tune : List (Nat × Value) := [(2, .int (-77)), (0, .int (-78))]
theorem ct_L_tune : ∀ E v, (E, v) ∈ tb_L_tune → l_ct K_L_tune 4 E v := by
  intro E v h
  rcases List.mem_cons.mp h with h | h
  · cases h
    exact ⟨[], [(0, 7, 13, 20)], 0, 7, 8, 10, 28, 4, 893, by decide, rfl, by decide, by decide, by decide, List.forall_mem_nil _, .inr ⟨dL_tune_8, rfl⟩, by decide, .inl ⟨_, dL_tune_10, dL_tune_12, by decide⟩⟩
  cases List.mem_singleton.mp h
  exact ⟨[(0, 7, 8, 28)], [], 0, 7, 13, 15, 20, 4, 595, by decide, rfl, by decide, by decide, by decide, List.forall_mem_cons.mpr ⟨⟨by decide, 2, 893, by decide, by decide, by decide⟩, List.forall_mem_nil _⟩, .inr ⟨dL_tune_13, rfl⟩, by decide, .inl ⟨_, dL_tune_15, dL_tune_17, by decide⟩⟩
theorem cr_L_tune : ∀ E v, (E, v) ∈ tb_L_tune → e_rcr (some FieldType.int) (.inl (some v)) = true := by
  intro E v h
  rcases List.mem_cons.mp h with h | h
  · cases h
    rfl
  cases List.mem_singleton.mp h
  rfl
set_option maxRecDepth 100000 in
theorem c_L_tune {X : e_XT} {d : Nat} {p : e_Sp} {I : e_I} {J : e_Jt} {c : Nat × Nat} {w : e_Rw1} {Q : e_Rt → e_SS → Prop} {x1 x2 x3 : Int32} (hp : s_ok p) (h : s_c X d 176 [.ref (p.1 T_HALL 0), .int x1, .int x2, .int x3] (p, I, J, c, w) (l_Ri tb_L_tune Q)) : s_c X (d + 1) 428 [.ref (p.1 T_HALL 0), .int x1, .int x2, .int x3] (p, I, J, c, w) Q := by
  refine m_L_tune (Nat.le_of_ble_eq_true rfl) ?_
  show s_w _ _ _ 0 _ _ _ _
  refine w_op (pc' := 1) dL_tune_0 rfl ?_
  refine w_op (pc' := 2) dL_tune_1 rfl ?_
  refine w_op (pc' := 3) dL_tune_2 rfl ?_
  refine w_op (pc' := 4) dL_tune_3 rfl ?_
  refine w_callC (t := T_HALL) (As := [_, _, _]) (rest := []) (tb := tb_L_tune) dL_tune_4 rfl rM_X11_tune (by decide) rfl rfl (by decide) (by decide) (Nat.le_of_ble_eq_true rfl) rfl (hp.1 _ rfl) rfl ct_L_tune h ?_
  exact l_cI cr_L_tune dL_tune_7
abbrev tb_L_tuneTo : List (Nat × Value) := [(2, .int (-77))]
theorem ct_L_tuneTo : ∀ E v, (E, v) ∈ tb_L_tuneTo → l_ct K_L_tuneTo 6 E v := by
  intro E v h
  cases List.mem_singleton.mp h
  exact ⟨[], [], 0, 9, 10, 12, 28, 5, 893, by decide, rfl, by decide, by decide, by decide, List.forall_mem_nil _, .inr ⟨dL_tuneTo_10, rfl⟩, by decide, .inl ⟨_, dL_tuneTo_12, dL_tuneTo_14, by decide⟩⟩
theorem cr_L_tuneTo : ∀ E v, (E, v) ∈ tb_L_tuneTo → e_rcr (some FieldType.int) (.inl (some v)) = true := by
  intro E v h
  cases List.mem_singleton.mp h
  rfl
set_option maxRecDepth 100000 in
theorem c_L_tuneTo {X : e_XT} {d : Nat} {p : e_Sp} {I : e_I} {J : e_Jt} {c : Nat × Nat} {w : e_Rw1} {Q : e_Rt → e_SS → Prop} {x1 x2 x3 x4 : Int32} (hp : s_ok p) (h : s_c X d 177 [.ref (p.1 T_HALL 0), .int x1, .int x2, .int x3, .int x4] (p, I, J, c, w) (l_Ri tb_L_tuneTo Q)) : s_c X (d + 1) 429 [.ref (p.1 T_HALL 0), .int x1, .int x2, .int x3, .int x4] (p, I, J, c, w) Q := by
  refine m_L_tuneTo (Nat.le_of_ble_eq_true rfl) ?_
  show s_w _ _ _ 0 _ _ _ _
  refine w_op (pc' := 1) dL_tuneTo_0 rfl ?_
  refine w_op (pc' := 2) dL_tuneTo_1 rfl ?_
  refine w_op (pc' := 3) dL_tuneTo_2 rfl ?_
  refine w_op (pc' := 4) dL_tuneTo_3 rfl ?_
  refine w_op (pc' := 6) dL_tuneTo_4 rfl ?_
  refine w_callC (t := T_HALL) (As := [_, _, _, _]) (rest := []) (tb := tb_L_tuneTo) dL_tuneTo_6 rfl rM_X11_tuneTo (by decide) rfl rfl (by decide) (by decide) (Nat.le_of_ble_eq_true rfl) rfl (hp.1 _ rfl) rfl ct_L_tuneTo h ?_
  exact l_cI cr_L_tuneTo dL_tuneTo_9
abbrev tb_L_supply : List (Nat × Value) := [(2, .int (-77)), (0, .int (-78))]
theorem ct_L_supply : ∀ E v, (E, v) ∈ tb_L_supply → l_ct K_L_supply 3 E v := by
  intro E v h
  rcases List.mem_cons.mp h with h | h
  · cases h
    exact ⟨[], [(0, 6, 11, 20)], 0, 6, 7, 8, 28, 3, 893, by decide, rfl, by decide, by decide, by decide, List.forall_mem_nil _, .inl ⟨3, rfl, dL_supply_7, rfl⟩, by decide, .inl ⟨_, dL_supply_8, dL_supply_10, by decide⟩⟩
  cases List.mem_singleton.mp h
  exact ⟨[(0, 6, 7, 28)], [], 0, 6, 11, 12, 20, 3, 595, by decide, rfl, by decide, by decide, by decide, List.forall_mem_cons.mpr ⟨⟨by decide, 2, 893, by decide, by decide, by decide⟩, List.forall_mem_nil _⟩, .inl ⟨3, rfl, dL_supply_11, rfl⟩, by decide, .inl ⟨_, dL_supply_12, dL_supply_14, by decide⟩⟩
theorem cr_L_supply : ∀ E v, (E, v) ∈ tb_L_supply → e_rcr (some FieldType.int) (.inl (some v)) = true := by
  intro E v h
  rcases List.mem_cons.mp h with h | h
  · cases h
    rfl
  cases List.mem_singleton.mp h
  rfl
set_option maxRecDepth 100000 in
theorem c_L_supply {X : e_XT} {d : Nat} {p : e_Sp} {I : e_I} {J : e_Jt} {c : Nat × Nat} {w : e_Rw1} {Q : e_Rt → e_SS → Prop} {x1 x2 : Int32} (hp : s_ok p) (h : s_c X d 172 [.ref (p.1 T_HALL 0), .int x1, .int x2] (p, I, J, c, w) (l_Ri tb_L_supply Q)) : s_c X (d + 1) 430 [.ref (p.1 T_HALL 0), .int x1, .int x2] (p, I, J, c, w) Q := by
  refine m_L_supply (Nat.le_of_ble_eq_true rfl) ?_
  show s_w _ _ _ 0 _ _ _ _
  refine w_op (pc' := 1) dL_supply_0 rfl ?_
  refine w_op (pc' := 2) dL_supply_1 rfl ?_
  refine w_op (pc' := 3) dL_supply_2 rfl ?_
  refine w_callC (t := T_HALL) (As := [_, _]) (rest := []) (tb := tb_L_supply) dL_supply_3 rfl rM_X11_supply (by decide) rfl rfl (by decide) (by decide) (Nat.le_of_ble_eq_true rfl) rfl (hp.1 _ rfl) rfl ct_L_supply h ?_
  exact l_cI cr_L_supply dL_supply_6
abbrev tb_L_wind : List (Nat × Value) := [(2, .int (-77))]
theorem ct_L_wind : ∀ E v, (E, v) ∈ tb_L_wind → l_ct K_L_wind 2 E v := by
  intro E v h
  cases List.mem_singleton.mp h
  exact ⟨[], [], 0, 5, 6, 7, 28, 2, 893, by decide, rfl, by decide, by decide, by decide, List.forall_mem_nil _, .inl ⟨2, rfl, dL_wind_6, rfl⟩, by decide, .inl ⟨_, dL_wind_7, dL_wind_9, by decide⟩⟩
theorem cr_L_wind : ∀ E v, (E, v) ∈ tb_L_wind → e_rcr (some FieldType.int) (.inl (some v)) = true := by
  intro E v h
  cases List.mem_singleton.mp h
  rfl
set_option maxRecDepth 100000 in
theorem c_L_wind {X : e_XT} {d : Nat} {p : e_Sp} {I : e_I} {J : e_Jt} {c : Nat × Nat} {w : e_Rw1} {Q : e_Rt → e_SS → Prop} {x1 : Int32} (hp : s_ok p) (h : s_c X d 173 [.ref (p.1 T_HALL 0), .int x1] (p, I, J, c, w) (l_Ri tb_L_wind Q)) : s_c X (d + 1) 433 [.ref (p.1 T_HALL 0), .int x1] (p, I, J, c, w) Q := by
  refine m_L_wind (Nat.le_of_ble_eq_true rfl) ?_
  show s_w _ _ _ 0 _ _ _ _
  refine w_op (pc' := 1) dL_wind_0 rfl ?_
  refine w_op (pc' := 2) dL_wind_1 rfl ?_
  refine w_callC (t := T_HALL) (As := [_]) (rest := []) (tb := tb_L_wind) dL_wind_2 rfl rM_X11_wind (by decide) rfl rfl (by decide) (by decide) (Nat.le_of_ble_eq_true rfl) rfl (hp.1 _ rfl) rfl ct_L_wind h ?_
  exact l_cI cr_L_wind dL_wind_5
abbrev tb_L_reasons : List (Nat × Value) := [(2, .int (-77))]
theorem ct_L_reasons : ∀ E v, (E, v) ∈ tb_L_reasons → l_ct K_L_reasons 3 E v := by
  intro E v h
  cases List.mem_singleton.mp h
  exact ⟨[], [], 0, 6, 7, 8, 28, 3, 893, by decide, rfl, by decide, by decide, by decide, List.forall_mem_nil _, .inl ⟨3, rfl, dL_reasons_7, rfl⟩, by decide, .inl ⟨_, dL_reasons_8, dL_reasons_10, by decide⟩⟩
theorem cr_L_reasons : ∀ E v, (E, v) ∈ tb_L_reasons → e_rcr (some FieldType.int) (.inl (some v)) = true := by
  intro E v h
  cases List.mem_singleton.mp h
  rfl
set_option maxRecDepth 100000 in
theorem c_L_reasons {X : e_XT} {d : Nat} {p : e_Sp} {I : e_I} {J : e_Jt} {c : Nat × Nat} {w : e_Rw1} {Q : e_Rt → e_SS → Prop} {x1 x2 : Int32} (hp : s_ok p) (h : s_c X d 166 [.ref (p.1 T_HALL 0), .int x1, .int x2] (p, I, J, c, w) (l_Ri tb_L_reasons Q)) : s_c X (d + 1) 434 [.ref (p.1 T_HALL 0), .int x1, .int x2] (p, I, J, c, w) Q := by
  refine m_L_reasons (Nat.le_of_ble_eq_true rfl) ?_
  show s_w _ _ _ 0 _ _ _ _
  refine w_op (pc' := 1) dL_reasons_0 rfl ?_
  refine w_op (pc' := 2) dL_reasons_1 rfl ?_
  refine w_op (pc' := 3) dL_reasons_2 rfl ?_
  refine w_callC (t := T_HALL) (As := [_, _]) (rest := []) (tb := tb_L_reasons) dL_reasons_3 rfl rM_X11_reasons (by decide) rfl rfl (by decide) (by decide) (Nat.le_of_ble_eq_true rfl) rfl (hp.1 _ rfl) rfl ct_L_reasons h ?_
  exact l_cI cr_L_reasons dL_reasons_6
abbrev tb_L_speaks : List (Nat × Value) := [(2, .int (-77))]
theorem ct_L_speaks : ∀ E v, (E, v) ∈ tb_L_speaks → l_ct K_L_speaks 3 E v := by
  intro E v h
  cases List.mem_singleton.mp h
  exact ⟨[], [], 0, 14, 15, 16, 28, 3, 893, by decide, rfl, by decide, by decide, by decide, List.forall_mem_nil _, .inl ⟨3, rfl, dL_speaks_15, rfl⟩, by decide, .inl ⟨_, dL_speaks_16, dL_speaks_18, by decide⟩⟩
theorem cr_L_speaks : ∀ E v, (E, v) ∈ tb_L_speaks → e_rcr (some FieldType.int) (.inl (some v)) = true := by
  intro E v h
  cases List.mem_singleton.mp h
  rfl
set_option maxRecDepth 100000 in
theorem c_L_speaks {X : e_XT} {d : Nat} {p : e_Sp} {I : e_I} {J : e_Jt} {c : Nat × Nat} {w : e_Rw1} {Q : e_Rt → e_SS → Prop} {x1 x2 : Int32} (hp : s_ok p) (h : s_c X d 170 [.ref (p.1 T_HALL 0), .int x1, .int x2] (p, I, J, c, w) (l_Rb tb_L_speaks Q)) : s_c X (d + 1) 435 [.ref (p.1 T_HALL 0), .int x1, .int x2] (p, I, J, c, w) Q := by
  refine m_L_speaks (Nat.le_of_ble_eq_true rfl) ?_
  show s_w _ _ _ 0 _ _ _ _
  refine w_op (pc' := 1) dL_speaks_0 rfl ?_
  refine w_op (pc' := 2) dL_speaks_1 rfl ?_
  refine w_op (pc' := 3) dL_speaks_2 rfl ?_
  refine w_callC (t := T_HALL) (As := [_, _]) (rest := []) (tb := tb_L_speaks) dL_speaks_3 rfl rM_X11_speaks (by decide) rfl rfl (by decide) (by decide) (Nat.le_of_ble_eq_true rfl) rfl (hp.1 _ rfl) rfl ct_L_speaks h ?_
  exact l_cB cr_L_speaks dL_speaks_6 dL_speaks_9 dL_speaks_10 dL_speaks_13 dL_speaks_14
abbrev tb_L_begun : List (Nat × Value) := [(2, .int (-77))]
theorem ct_L_begun : ∀ E v, (E, v) ∈ tb_L_begun → l_ct K_L_begun 3 E v := by
  intro E v h
  cases List.mem_singleton.mp h
  exact ⟨[], [], 0, 6, 7, 8, 28, 3, 893, by decide, rfl, by decide, by decide, by decide, List.forall_mem_nil _, .inl ⟨3, rfl, dL_begun_7, rfl⟩, by decide, .inl ⟨_, dL_begun_8, dL_begun_10, by decide⟩⟩
theorem cr_L_begun : ∀ E v, (E, v) ∈ tb_L_begun → e_rcr (some FieldType.int) (.inl (some v)) = true := by
  intro E v h
  cases List.mem_singleton.mp h
  rfl
set_option maxRecDepth 100000 in
theorem c_L_begun {X : e_XT} {d : Nat} {p : e_Sp} {I : e_I} {J : e_Jt} {c : Nat × Nat} {w : e_Rw1} {Q : e_Rt → e_SS → Prop} {x1 x2 : Int32} (hp : s_ok p) (h : s_c X d 171 [.ref (p.1 T_HALL 0), .int x1, .int x2] (p, I, J, c, w) (l_Ri tb_L_begun Q)) : s_c X (d + 1) 436 [.ref (p.1 T_HALL 0), .int x1, .int x2] (p, I, J, c, w) Q := by
  refine m_L_begun (Nat.le_of_ble_eq_true rfl) ?_
  show s_w _ _ _ 0 _ _ _ _
  refine w_op (pc' := 1) dL_begun_0 rfl ?_
  refine w_op (pc' := 2) dL_begun_1 rfl ?_
  refine w_op (pc' := 3) dL_begun_2 rfl ?_
  refine w_callC (t := T_HALL) (As := [_, _]) (rest := []) (tb := tb_L_begun) dL_begun_3 rfl rM_X11_begun (by decide) rfl rfl (by decide) (by decide) (Nat.le_of_ble_eq_true rfl) rfl (hp.1 _ rfl) rfl ct_L_begun h ?_
  exact l_cI cr_L_begun dL_begun_6
abbrev tb_L_reasonsAnew : List (Nat × Value) := [(2, .int (-77))]
theorem ct_L_reasonsAnew : ∀ E v, (E, v) ∈ tb_L_reasonsAnew → l_ct K_L_reasonsAnew 3 E v := by
  intro E v h
  cases List.mem_singleton.mp h
  exact ⟨[], [], 0, 6, 7, 8, 28, 3, 893, by decide, rfl, by decide, by decide, by decide, List.forall_mem_nil _, .inl ⟨3, rfl, dL_reasonsAnew_7, rfl⟩, by decide, .inl ⟨_, dL_reasonsAnew_8, dL_reasonsAnew_10, by decide⟩⟩
theorem cr_L_reasonsAnew : ∀ E v, (E, v) ∈ tb_L_reasonsAnew → e_rcr (some FieldType.int) (.inl (some v)) = true := by
  intro E v h
  cases List.mem_singleton.mp h
  rfl
set_option maxRecDepth 100000 in
theorem c_L_reasonsAnew {X : e_XT} {d : Nat} {p : e_Sp} {I : e_I} {J : e_Jt} {c : Nat × Nat} {w : e_Rw1} {Q : e_Rt → e_SS → Prop} {x1 x2 : Int32} (hp : s_ok p) (h : s_c X d 168 [.ref (p.1 T_HALL 0), .int x1, .int x2] (p, I, J, c, w) (l_Ri tb_L_reasonsAnew Q)) : s_c X (d + 1) 437 [.ref (p.1 T_HALL 0), .int x1, .int x2] (p, I, J, c, w) Q := by
  refine m_L_reasonsAnew (Nat.le_of_ble_eq_true rfl) ?_
  show s_w _ _ _ 0 _ _ _ _
  refine w_op (pc' := 1) dL_reasonsAnew_0 rfl ?_
  refine w_op (pc' := 2) dL_reasonsAnew_1 rfl ?_
  refine w_op (pc' := 3) dL_reasonsAnew_2 rfl ?_
  refine w_callC (t := T_HALL) (As := [_, _]) (rest := []) (tb := tb_L_reasonsAnew) dL_reasonsAnew_3 rfl rM_X11_reasonsAnew (by decide) rfl rfl (by decide) (by decide) (Nat.le_of_ble_eq_true rfl) rfl (hp.1 _ rfl) rfl ct_L_reasonsAnew h ?_
  exact l_cI cr_L_reasonsAnew dL_reasonsAnew_6
abbrev tb_L_pitch : List (Nat × Value) := [(2, .int (-77))]
theorem ct_L_pitch : ∀ E v, (E, v) ∈ tb_L_pitch → l_ct K_L_pitch 3 E v := by
  intro E v h
  cases List.mem_singleton.mp h
  exact ⟨[], [], 0, 6, 7, 8, 28, 3, 893, by decide, rfl, by decide, by decide, by decide, List.forall_mem_nil _, .inl ⟨3, rfl, dL_pitch_7, rfl⟩, by decide, .inl ⟨_, dL_pitch_8, dL_pitch_10, by decide⟩⟩
theorem cr_L_pitch : ∀ E v, (E, v) ∈ tb_L_pitch → e_rcr (some FieldType.int) (.inl (some v)) = true := by
  intro E v h
  cases List.mem_singleton.mp h
  rfl
set_option maxRecDepth 100000 in
theorem c_L_pitch {X : e_XT} {d : Nat} {p : e_Sp} {I : e_I} {J : e_Jt} {c : Nat × Nat} {w : e_Rw1} {Q : e_Rt → e_SS → Prop} {x1 x2 : Int32} (hp : s_ok p) (h : s_c X d 179 [.ref (p.1 T_HALL 0), .int x1, .int x2] (p, I, J, c, w) (l_Ri tb_L_pitch Q)) : s_c X (d + 1) 438 [.ref (p.1 T_HALL 0), .int x1, .int x2] (p, I, J, c, w) Q := by
  refine m_L_pitch (Nat.le_of_ble_eq_true rfl) ?_
  show s_w _ _ _ 0 _ _ _ _
  refine w_op (pc' := 1) dL_pitch_0 rfl ?_
  refine w_op (pc' := 2) dL_pitch_1 rfl ?_
  refine w_op (pc' := 3) dL_pitch_2 rfl ?_
  refine w_callC (t := T_HALL) (As := [_, _]) (rest := []) (tb := tb_L_pitch) dL_pitch_3 rfl rM_X11_pitch (by decide) rfl rfl (by decide) (by decide) (Nat.le_of_ble_eq_true rfl) rfl (hp.1 _ rfl) rfl ct_L_pitch h ?_
  exact l_cI cr_L_pitch dL_pitch_6
abbrev tb_L_speakingShare : List (Nat × Value) := []
theorem ct_L_speakingShare : ∀ E v, (E, v) ∈ tb_L_speakingShare → l_ct K_L_speakingShare 1 E v := by
  intro E v h
  cases h
theorem cr_L_speakingShare : ∀ E v, (E, v) ∈ tb_L_speakingShare → e_rcr (some FieldType.float) (.inl (some v)) = true := by
  intro E v h
  cases h
set_option maxRecDepth 100000 in
theorem c_L_speakingShare {X : e_XT} {d : Nat} {p : e_Sp} {I : e_I} {J : e_Jt} {c : Nat × Nat} {w : e_Rw1} {Q : e_Rt → e_SS → Prop} (hp : s_ok p) (h : s_c X d 205 [.ref (p.1 T_HALL 0)] (p, I, J, c, w) (l_Rf tb_L_speakingShare Q)) : s_c X (d + 1) 439 [.ref (p.1 T_HALL 0)] (p, I, J, c, w) Q := by
  refine m_L_speakingShare (Nat.le_of_ble_eq_true rfl) ?_
  show s_w _ _ _ 0 _ _ _ _
  refine w_op (pc' := 1) dL_speakingShare_0 rfl ?_
  refine w_callC (t := T_HALL) (As := []) (rest := []) (tb := tb_L_speakingShare) dL_speakingShare_1 rfl rM_X11_speakingShare (by decide) rfl rfl (by decide) (by decide) (Nat.le_of_ble_eq_true rfl) rfl (hp.1 _ rfl) rfl ct_L_speakingShare h ?_
  exact l_cF cr_L_speakingShare dL_speakingShare_4
abbrev tb_L_meanPitch : List (Nat × Value) := [(5, .double 13858279740860792832)]
theorem ct_L_meanPitch : ∀ E v, (E, v) ∈ tb_L_meanPitch → l_ct K_L_meanPitch 1 E v := by
  intro E v h
  cases List.mem_singleton.mp h
  exact ⟨[], [], 0, 4, 5, 6, 169, 1, 1655, by decide, rfl, by decide, by decide, by decide, List.forall_mem_nil _, .inl ⟨1, rfl, dL_meanPitch_5, rfl⟩, by decide, .inr ⟨dL_meanPitch_6, dL_meanPitch_9, rfl⟩⟩
theorem cr_L_meanPitch : ∀ E v, (E, v) ∈ tb_L_meanPitch → e_rcr (some FieldType.double) (.inl (some v)) = true := by
  intro E v h
  cases List.mem_singleton.mp h
  rfl
set_option maxRecDepth 100000 in
theorem c_L_meanPitch {X : e_XT} {d : Nat} {p : e_Sp} {I : e_I} {J : e_Jt} {c : Nat × Nat} {w : e_Rw1} {Q : e_Rt → e_SS → Prop} (hp : s_ok p) (h : s_c X d 206 [.ref (p.1 T_HALL 0)] (p, I, J, c, w) (l_Rd tb_L_meanPitch Q)) : s_c X (d + 1) 440 [.ref (p.1 T_HALL 0)] (p, I, J, c, w) Q := by
  refine m_L_meanPitch (Nat.le_of_ble_eq_true rfl) ?_
  show s_w _ _ _ 0 _ _ _ _
  refine w_op (pc' := 1) dL_meanPitch_0 rfl ?_
  refine w_callC (t := T_HALL) (As := []) (rest := []) (tb := tb_L_meanPitch) dL_meanPitch_1 rfl rM_X11_meanPitch (by decide) rfl rfl (by decide) (by decide) (Nat.le_of_ble_eq_true rfl) rfl (hp.1 _ rfl) rfl ct_L_meanPitch h ?_
  exact l_cD cr_L_meanPitch dL_meanPitch_4
abbrev tb_L_isOn : List (Nat × Value) := [(2, .int (-77)), (3, .int (-76))]
theorem ct_L_isOn : ∀ E v, (E, v) ∈ tb_L_isOn → l_ct K_L_isOn 2 E v := by
  intro E v h
  rcases List.mem_cons.mp h with h | h
  · cases h
    exact ⟨[], [(0, 13, 18, 34)], 0, 13, 14, 15, 28, 2, 893, by decide, rfl, by decide, by decide, by decide, List.forall_mem_nil _, .inl ⟨2, rfl, dL_isOn_14, rfl⟩, by decide, .inl ⟨_, dL_isOn_15, dL_isOn_17, by decide⟩⟩
  cases List.mem_singleton.mp h
  exact ⟨[(0, 13, 14, 28)], [], 0, 13, 18, 19, 34, 2, 985, by decide, rfl, by decide, by decide, by decide, List.forall_mem_cons.mpr ⟨⟨by decide, 2, 893, by decide, by decide, by decide⟩, List.forall_mem_nil _⟩, .inl ⟨2, rfl, dL_isOn_18, rfl⟩, by decide, .inl ⟨_, dL_isOn_19, dL_isOn_21, by decide⟩⟩
theorem cr_L_isOn : ∀ E v, (E, v) ∈ tb_L_isOn → e_rcr (some FieldType.int) (.inl (some v)) = true := by
  intro E v h
  rcases List.mem_cons.mp h with h | h
  · cases h
    rfl
  cases List.mem_singleton.mp h
  rfl
set_option maxRecDepth 100000 in
theorem c_L_isOn {X : e_XT} {d : Nat} {p : e_Sp} {I : e_I} {J : e_Jt} {c : Nat × Nat} {w : e_Rw1} {Q : e_Rt → e_SS → Prop} {x1 : Int32} (hp : s_ok p) (h : s_c X d 158 [.ref (p.1 T_HALL 0), .int x1] (p, I, J, c, w) (l_Rb tb_L_isOn Q)) : s_c X (d + 1) 442 [.ref (p.1 T_HALL 0), .int x1] (p, I, J, c, w) Q := by
  refine m_L_isOn (Nat.le_of_ble_eq_true rfl) ?_
  show s_w _ _ _ 0 _ _ _ _
  refine w_op (pc' := 1) dL_isOn_0 rfl ?_
  refine w_op (pc' := 2) dL_isOn_1 rfl ?_
  refine w_callC (t := T_HALL) (As := [_]) (rest := []) (tb := tb_L_isOn) dL_isOn_2 rfl rM_X11_isOn (by decide) rfl rfl (by decide) (by decide) (Nat.le_of_ble_eq_true rfl) rfl (hp.1 _ rfl) rfl ct_L_isOn h ?_
  exact l_cB cr_L_isOn dL_isOn_5 dL_isOn_8 dL_isOn_9 dL_isOn_12 dL_isOn_13
abbrev tb_L_isOpen : List (Nat × Value) := [(2, .int (-77))]
theorem ct_L_isOpen : ∀ E v, (E, v) ∈ tb_L_isOpen → l_ct K_L_isOpen 3 E v := by
  intro E v h
  cases List.mem_singleton.mp h
  exact ⟨[], [], 0, 14, 15, 16, 28, 3, 893, by decide, rfl, by decide, by decide, by decide, List.forall_mem_nil _, .inl ⟨3, rfl, dL_isOpen_15, rfl⟩, by decide, .inl ⟨_, dL_isOpen_16, dL_isOpen_18, by decide⟩⟩
theorem cr_L_isOpen : ∀ E v, (E, v) ∈ tb_L_isOpen → e_rcr (some FieldType.int) (.inl (some v)) = true := by
  intro E v h
  cases List.mem_singleton.mp h
  rfl
set_option maxRecDepth 100000 in
theorem c_L_isOpen {X : e_XT} {d : Nat} {p : e_Sp} {I : e_I} {J : e_Jt} {c : Nat × Nat} {w : e_Rw1} {Q : e_Rt → e_SS → Prop} {x1 x2 : Int32} (hp : s_ok p) (h : s_c X d 169 [.ref (p.1 T_HALL 0), .int x1, .int x2] (p, I, J, c, w) (l_Rb tb_L_isOpen Q)) : s_c X (d + 1) 444 [.ref (p.1 T_HALL 0), .int x1, .int x2] (p, I, J, c, w) Q := by
  refine m_L_isOpen (Nat.le_of_ble_eq_true rfl) ?_
  show s_w _ _ _ 0 _ _ _ _
  refine w_op (pc' := 1) dL_isOpen_0 rfl ?_
  refine w_op (pc' := 2) dL_isOpen_1 rfl ?_
  refine w_op (pc' := 3) dL_isOpen_2 rfl ?_
  refine w_callC (t := T_HALL) (As := [_, _]) (rest := []) (tb := tb_L_isOpen) dL_isOpen_3 rfl rM_X11_isOpen (by decide) rfl rfl (by decide) (by decide) (Nat.le_of_ble_eq_true rfl) rfl (hp.1 _ rfl) rfl ct_L_isOpen h ?_
  exact l_cB cr_L_isOpen dL_isOpen_6 dL_isOpen_9 dL_isOpen_10 dL_isOpen_13 dL_isOpen_14
abbrev tb_L_cross : List (Nat × Value) := [(2, .int (-77)), (0, .int (-78)), (3, .int (-76))]
theorem ct_L_cross : ∀ E v, (E, v) ∈ tb_L_cross → l_ct K_L_cross 4 E v := by
  intro E v h
  rcases List.mem_cons.mp h with h | h
  · cases h
    exact ⟨[], [(0, 7, 13, 20), (0, 7, 18, 34)], 0, 7, 8, 10, 28, 4, 893, by decide, rfl, by decide, by decide, by decide, List.forall_mem_nil _, .inr ⟨dL_cross_8, rfl⟩, by decide, .inl ⟨_, dL_cross_10, dL_cross_12, by decide⟩⟩
  rcases List.mem_cons.mp h with h | h
  · cases h
    exact ⟨[(0, 7, 8, 28)], [(0, 7, 18, 34)], 0, 7, 13, 15, 20, 4, 595, by decide, rfl, by decide, by decide, by decide, List.forall_mem_cons.mpr ⟨⟨by decide, 2, 893, by decide, by decide, by decide⟩, List.forall_mem_nil _⟩, .inr ⟨dL_cross_13, rfl⟩, by decide, .inl ⟨_, dL_cross_15, dL_cross_17, by decide⟩⟩
  cases List.mem_singleton.mp h
  exact ⟨[(0, 7, 8, 28), (0, 7, 13, 20)], [], 0, 7, 18, 20, 34, 4, 985, by decide, rfl, by decide, by decide, by decide, List.forall_mem_cons.mpr ⟨⟨by decide, 2, 893, by decide, by decide, by decide⟩, List.forall_mem_cons.mpr ⟨⟨by decide, 0, 595, by decide, by decide, by decide⟩, List.forall_mem_nil _⟩⟩, .inr ⟨dL_cross_18, rfl⟩, by decide, .inl ⟨_, dL_cross_20, dL_cross_22, by decide⟩⟩
theorem cr_L_cross : ∀ E v, (E, v) ∈ tb_L_cross → e_rcr (some FieldType.int) (.inl (some v)) = true := by
  intro E v h
  rcases List.mem_cons.mp h with h | h
  · cases h
    rfl
  rcases List.mem_cons.mp h with h | h
  · cases h
    rfl
  cases List.mem_singleton.mp h
  rfl
set_option maxRecDepth 100000 in
theorem c_L_cross {X : e_XT} {d : Nat} {p : e_Sp} {I : e_I} {J : e_Jt} {c : Nat × Nat} {w : e_Rw1} {Q : e_Rt → e_SS → Prop} {x1 x2 x3 : Int32} (hp : s_ok p) (h : s_c X d 153 [.ref (p.1 T_HALL 0), .int x1, .int x2, .int x3] (p, I, J, c, w) (l_Ri tb_L_cross Q)) : s_c X (d + 1) 446 [.ref (p.1 T_HALL 0), .int x1, .int x2, .int x3] (p, I, J, c, w) Q := by
  refine m_L_cross (Nat.le_of_ble_eq_true rfl) ?_
  show s_w _ _ _ 0 _ _ _ _
  refine w_op (pc' := 1) dL_cross_0 rfl ?_
  refine w_op (pc' := 2) dL_cross_1 rfl ?_
  refine w_op (pc' := 3) dL_cross_2 rfl ?_
  refine w_op (pc' := 4) dL_cross_3 rfl ?_
  refine w_callC (t := T_HALL) (As := [_, _, _]) (rest := []) (tb := tb_L_cross) dL_cross_4 rfl rM_X11_cross (by decide) rfl rfl (by decide) (by decide) (Nat.le_of_ble_eq_true rfl) rfl (hp.1 _ rfl) rfl ct_L_cross h ?_
  exact l_cI cr_L_cross dL_cross_7
abbrev tb_L_box : List (Nat × Value) := [(0, .int (-78))]
theorem ct_L_box : ∀ E v, (E, v) ∈ tb_L_box → l_ct K_L_box 3 E v := by
  intro E v h
  cases List.mem_singleton.mp h
  exact ⟨[], [], 0, 6, 7, 8, 20, 3, 595, by decide, rfl, by decide, by decide, by decide, List.forall_mem_nil _, .inl ⟨3, rfl, dL_box_7, rfl⟩, by decide, .inl ⟨_, dL_box_8, dL_box_10, by decide⟩⟩
theorem cr_L_box : ∀ E v, (E, v) ∈ tb_L_box → e_rcr (some FieldType.int) (.inl (some v)) = true := by
  intro E v h
  cases List.mem_singleton.mp h
  rfl
set_option maxRecDepth 100000 in
theorem c_L_box {X : e_XT} {d : Nat} {p : e_Sp} {I : e_I} {J : e_Jt} {c : Nat × Nat} {w : e_Rw1} {Q : e_Rt → e_SS → Prop} {x1 x2 : Int32} (hp : s_ok p) (h : s_c X d 174 [.ref (p.1 T_HALL 0), .int x1, .int x2] (p, I, J, c, w) (l_Ri tb_L_box Q)) : s_c X (d + 1) 447 [.ref (p.1 T_HALL 0), .int x1, .int x2] (p, I, J, c, w) Q := by
  refine m_L_box (Nat.le_of_ble_eq_true rfl) ?_
  show s_w _ _ _ 0 _ _ _ _
  refine w_op (pc' := 1) dL_box_0 rfl ?_
  refine w_op (pc' := 2) dL_box_1 rfl ?_
  refine w_op (pc' := 3) dL_box_2 rfl ?_
  refine w_callC (t := T_HALL) (As := [_, _]) (rest := []) (tb := tb_L_box) dL_box_3 rfl rM_X11_box (by decide) rfl rfl (by decide) (by decide) (Nat.le_of_ble_eq_true rfl) rfl (hp.1 _ rfl) rfl ct_L_box h ?_
  exact l_cI cr_L_box dL_box_6
