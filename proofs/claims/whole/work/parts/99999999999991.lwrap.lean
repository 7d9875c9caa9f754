/-! 99999999999991: the wrappers of the law (printed by wip/whole/p9999999999999.py) -/
abbrev tb_L_rank : List (Nat × Int) := [(0, 1), (1, 2)]
theorem ct_L_rank : ∀ E n, (E, n) ∈ tb_L_rank → l_ct K_L_rank 15 E n := by
  intro E n h
  rcases List.mem_cons.mp h with h | h
  · cases h
    exact ⟨[], [(0, 20, 27, 15)], 0, 20, 23, 25, 13, 9, 840, by decide, rfl, by decide, by decide, by decide, List.forall_mem_nil _, .inr ⟨dL_rank_23, rfl⟩, by decide, dL_rank_25, dL_rank_26⟩
  cases List.mem_singleton.mp h
  exact ⟨[(0, 20, 23, 13)], [], 0, 20, 27, 29, 15, 9, 841, by decide, rfl, by decide, by decide, by decide, List.forall_mem_cons.mpr ⟨⟨by decide, 0, 840, by decide, by decide, by decide⟩, List.forall_mem_nil _⟩, .inr ⟨dL_rank_27, rfl⟩, by decide, dL_rank_29, dL_rank_30⟩
set_option maxRecDepth 100000 in
theorem c_L_rank {X : e_XT} {d : Nat} {p : e_Sp} {I : e_I} {J : e_Jt} {c : Nat × Nat} {w : e_Rw1} {Q : e_Rt → e_SS → Prop} {ao : Nat} {x1 x2 x3 x4 x5 x6 x7 : Int32} (hp : s_ok p) (h : s_c X d 143 [.ref (p.1 T_HALL 0), .int x1, .int x2, .int x3, .int x4, .int x5, .int x6, .int x7] (p, I, J, c, w) (l_Wi ao tb_L_rank Q)) : s_c X (d + 1) 323 [.ref (p.1 T_HALL 0), .int x1, .int x2, .int x3, .int x4, .int x5, .int x6, .int x7, .ref ao] (p, I, J, c, w) Q := by
  refine m_L_rank (Nat.le_of_ble_eq_true rfl) ?_
  show s_w _ _ _ 0 _ _ _ _
  refine w_op (pc' := 2) dL_rank_0 rfl ?_
  refine w_op (pc' := 3) dL_rank_2 rfl ?_
  refine w_op (pc' := 4) dL_rank_3 rfl ?_
  refine w_op (pc' := 5) dL_rank_4 rfl ?_
  refine w_op (pc' := 6) dL_rank_5 rfl ?_
  refine w_op (pc' := 7) dL_rank_6 rfl ?_
  refine w_op (pc' := 9) dL_rank_7 rfl ?_
  refine w_op (pc' := 11) dL_rank_9 rfl ?_
  refine w_op (pc' := 13) dL_rank_11 rfl ?_
  refine w_op (pc' := 15) dL_rank_13 rfl ?_
  refine w_callC (t := T_HALL) (As := [_, _, _, _, _, _, _]) (tb := tb_L_rank) dL_rank_15 rfl rM_X11_rank (by decide) rfl rfl (by decide) (by decide) (Nat.le_of_ble_eq_true rfl) rfl (hp.1 _ rfl) rfl ct_L_rank h ?_
  exact l_cI (g := 31) dL_rank_18 dL_rank_19 dL_rank_20 (by decide) dL_rank_31 dL_rank_32
abbrev tb_L_stop : List (Nat × Int) := [(2, 1), (1, 2)]
theorem ct_L_stop : ∀ E n, (E, n) ∈ tb_L_stop → l_ct K_L_stop 4 E n := by
  intro E n h
  rcases List.mem_cons.mp h with h | h
  · cases h
    exact ⟨[], [(0, 9, 15, 15)], 0, 9, 12, 13, 21, 3, 1036, by decide, rfl, by decide, by decide, by decide, List.forall_mem_nil _, .inl ⟨3, rfl, dL_stop_12, rfl⟩, by decide, dL_stop_13, dL_stop_14⟩
  cases List.mem_singleton.mp h
  exact ⟨[(0, 9, 12, 21)], [], 0, 9, 15, 16, 15, 3, 841, by decide, rfl, by decide, by decide, by decide, List.forall_mem_cons.mpr ⟨⟨by decide, 2, 1036, by decide, by decide, by decide⟩, List.forall_mem_nil _⟩, .inl ⟨3, rfl, dL_stop_15, rfl⟩, by decide, dL_stop_16, dL_stop_17⟩
set_option maxRecDepth 100000 in
theorem c_L_stop {X : e_XT} {d : Nat} {p : e_Sp} {I : e_I} {J : e_Jt} {c : Nat × Nat} {w : e_Rw1} {Q : e_Rt → e_SS → Prop} {ao : Nat} {x1 : Int32} (hp : s_ok p) (h : s_c X d 145 [.ref (p.1 T_HALL 0), .int x1] (p, I, J, c, w) (l_Wi ao tb_L_stop Q)) : s_c X (d + 1) 324 [.ref (p.1 T_HALL 0), .int x1, .ref ao] (p, I, J, c, w) Q := by
  refine m_L_stop (Nat.le_of_ble_eq_true rfl) ?_
  show s_w _ _ _ 0 _ _ _ _
  refine w_op (pc' := 1) dL_stop_0 rfl ?_
  refine w_op (pc' := 2) dL_stop_1 rfl ?_
  refine w_op (pc' := 3) dL_stop_2 rfl ?_
  refine w_op (pc' := 4) dL_stop_3 rfl ?_
  refine w_callC (t := T_HALL) (As := [_]) (tb := tb_L_stop) dL_stop_4 rfl rM_X11_stop (by decide) rfl rfl (by decide) (by decide) (Nat.le_of_ble_eq_true rfl) rfl (hp.1 _ rfl) rfl ct_L_stop h ?_
  exact l_cI (g := 18) dL_stop_7 dL_stop_8 dL_stop_9 (by decide) dL_stop_18 dL_stop_19
abbrev tb_L_row : List (Nat × Int) := [(2, 1), (0, 2), (3, 3), (1, 4)]
theorem ct_L_row : ∀ E n, (E, n) ∈ tb_L_row → l_ct K_L_row 11 E n := by
  intro E n h
  rcases List.mem_cons.mp h with h | h
  · cases h
    exact ⟨[], [(0, 16, 23, 13), (0, 16, 27, 27), (0, 16, 31, 15)], 0, 16, 19, 21, 21, 7, 1036, by decide, rfl, by decide, by decide, by decide, List.forall_mem_nil _, .inr ⟨dL_row_19, rfl⟩, by decide, dL_row_21, dL_row_22⟩
  rcases List.mem_cons.mp h with h | h
  · cases h
    exact ⟨[(0, 16, 19, 21)], [(0, 16, 27, 27), (0, 16, 31, 15)], 0, 16, 23, 25, 13, 7, 840, by decide, rfl, by decide, by decide, by decide, List.forall_mem_cons.mpr ⟨⟨by decide, 2, 1036, by decide, by decide, by decide⟩, List.forall_mem_nil _⟩, .inr ⟨dL_row_23, rfl⟩, by decide, dL_row_25, dL_row_26⟩
  rcases List.mem_cons.mp h with h | h
  · cases h
    exact ⟨[(0, 16, 19, 21), (0, 16, 23, 13)], [(0, 16, 31, 15)], 0, 16, 27, 29, 27, 7, 1128, by decide, rfl, by decide, by decide, by decide, List.forall_mem_cons.mpr ⟨⟨by decide, 2, 1036, by decide, by decide, by decide⟩, List.forall_mem_cons.mpr ⟨⟨by decide, 0, 840, by decide, by decide, by decide⟩, List.forall_mem_nil _⟩⟩, .inr ⟨dL_row_27, rfl⟩, by decide, dL_row_29, dL_row_30⟩
  cases List.mem_singleton.mp h
  exact ⟨[(0, 16, 19, 21), (0, 16, 23, 13), (0, 16, 27, 27)], [], 0, 16, 31, 33, 15, 7, 841, by decide, rfl, by decide, by decide, by decide, List.forall_mem_cons.mpr ⟨⟨by decide, 2, 1036, by decide, by decide, by decide⟩, List.forall_mem_cons.mpr ⟨⟨by decide, 0, 840, by decide, by decide, by decide⟩, List.forall_mem_cons.mpr ⟨⟨by decide, 3, 1128, by decide, by decide, by decide⟩, List.forall_mem_nil _⟩⟩⟩, .inr ⟨dL_row_31, rfl⟩, by decide, dL_row_33, dL_row_34⟩
set_option maxRecDepth 100000 in
theorem c_L_row {X : e_XT} {d : Nat} {p : e_Sp} {I : e_I} {J : e_Jt} {c : Nat × Nat} {w : e_Rw1} {Q : e_Rt → e_SS → Prop} {ao : Nat} {x1 x2 x3 x4 x5 : Int32} (hp : s_ok p) (h : s_c X d 149 [.ref (p.1 T_HALL 0), .int x1, .int x2, .int x3, .int x4, .int x5] (p, I, J, c, w) (l_Wi ao tb_L_row Q)) : s_c X (d + 1) 325 [.ref (p.1 T_HALL 0), .int x1, .int x2, .int x3, .int x4, .int x5, .ref ao] (p, I, J, c, w) Q := by
  refine m_L_row (Nat.le_of_ble_eq_true rfl) ?_
  show s_w _ _ _ 0 _ _ _ _
  refine w_op (pc' := 2) dL_row_0 rfl ?_
  refine w_op (pc' := 3) dL_row_2 rfl ?_
  refine w_op (pc' := 4) dL_row_3 rfl ?_
  refine w_op (pc' := 5) dL_row_4 rfl ?_
  refine w_op (pc' := 6) dL_row_5 rfl ?_
  refine w_op (pc' := 7) dL_row_6 rfl ?_
  refine w_op (pc' := 9) dL_row_7 rfl ?_
  refine w_op (pc' := 11) dL_row_9 rfl ?_
  refine w_callC (t := T_HALL) (As := [_, _, _, _, _]) (tb := tb_L_row) dL_row_11 rfl rM_X11_row (by decide) rfl rfl (by decide) (by decide) (Nat.le_of_ble_eq_true rfl) rfl (hp.1 _ rfl) rfl ct_L_row h ?_
  exact l_cI (g := 35) dL_row_14 dL_row_15 dL_row_16 (by decide) dL_row_35 dL_row_36
abbrev tb_L_cross : List (Nat × Int) := [(2, 1), (0, 2), (3, 3)]
theorem ct_L_cross : ∀ E n, (E, n) ∈ tb_L_cross → l_ct K_L_cross 7 E n := by
  intro E n h
  rcases List.mem_cons.mp h with h | h
  · cases h
    exact ⟨[], [(0, 12, 19, 13), (0, 12, 23, 27)], 0, 12, 15, 17, 21, 5, 1036, by decide, rfl, by decide, by decide, by decide, List.forall_mem_nil _, .inr ⟨dL_cross_15, rfl⟩, by decide, dL_cross_17, dL_cross_18⟩
  rcases List.mem_cons.mp h with h | h
  · cases h
    exact ⟨[(0, 12, 15, 21)], [(0, 12, 23, 27)], 0, 12, 19, 21, 13, 5, 840, by decide, rfl, by decide, by decide, by decide, List.forall_mem_cons.mpr ⟨⟨by decide, 2, 1036, by decide, by decide, by decide⟩, List.forall_mem_nil _⟩, .inr ⟨dL_cross_19, rfl⟩, by decide, dL_cross_21, dL_cross_22⟩
  cases List.mem_singleton.mp h
  exact ⟨[(0, 12, 15, 21), (0, 12, 19, 13)], [], 0, 12, 23, 25, 27, 5, 1128, by decide, rfl, by decide, by decide, by decide, List.forall_mem_cons.mpr ⟨⟨by decide, 2, 1036, by decide, by decide, by decide⟩, List.forall_mem_cons.mpr ⟨⟨by decide, 0, 840, by decide, by decide, by decide⟩, List.forall_mem_nil _⟩⟩, .inr ⟨dL_cross_23, rfl⟩, by decide, dL_cross_25, dL_cross_26⟩
set_option maxRecDepth 100000 in
theorem c_L_cross {X : e_XT} {d : Nat} {p : e_Sp} {I : e_I} {J : e_Jt} {c : Nat × Nat} {w : e_Rw1} {Q : e_Rt → e_SS → Prop} {ao : Nat} {x1 x2 x3 : Int32} (hp : s_ok p) (h : s_c X d 153 [.ref (p.1 T_HALL 0), .int x1, .int x2, .int x3] (p, I, J, c, w) (l_Wi ao tb_L_cross Q)) : s_c X (d + 1) 326 [.ref (p.1 T_HALL 0), .int x1, .int x2, .int x3, .ref ao] (p, I, J, c, w) Q := by
  refine m_L_cross (Nat.le_of_ble_eq_true rfl) ?_
  show s_w _ _ _ 0 _ _ _ _
  refine w_op (pc' := 2) dL_cross_0 rfl ?_
  refine w_op (pc' := 3) dL_cross_2 rfl ?_
  refine w_op (pc' := 4) dL_cross_3 rfl ?_
  refine w_op (pc' := 5) dL_cross_4 rfl ?_
  refine w_op (pc' := 6) dL_cross_5 rfl ?_
  refine w_op (pc' := 7) dL_cross_6 rfl ?_
  refine w_callC (t := T_HALL) (As := [_, _, _]) (tb := tb_L_cross) dL_cross_7 rfl rM_X11_cross (by decide) rfl rfl (by decide) (by decide) (Nat.le_of_ble_eq_true rfl) rfl (hp.1 _ rfl) rfl ct_L_cross h ?_
  exact l_cI (g := 27) dL_cross_10 dL_cross_11 dL_cross_12 (by decide) dL_cross_27 dL_cross_28
abbrev tb_L_coupler : List (Nat × Int) := [(2, 1), (0, 2), (1, 3)]
theorem ct_L_coupler : ∀ E n, (E, n) ∈ tb_L_coupler → l_ct K_L_coupler 9 E n := by
  intro E n h
  rcases List.mem_cons.mp h with h | h
  · cases h
    exact ⟨[], [(0, 14, 21, 13), (0, 14, 25, 15)], 0, 14, 17, 19, 21, 6, 1036, by decide, rfl, by decide, by decide, by decide, List.forall_mem_nil _, .inr ⟨dL_coupler_17, rfl⟩, by decide, dL_coupler_19, dL_coupler_20⟩
  rcases List.mem_cons.mp h with h | h
  · cases h
    exact ⟨[(0, 14, 17, 21)], [(0, 14, 25, 15)], 0, 14, 21, 23, 13, 6, 840, by decide, rfl, by decide, by decide, by decide, List.forall_mem_cons.mpr ⟨⟨by decide, 2, 1036, by decide, by decide, by decide⟩, List.forall_mem_nil _⟩, .inr ⟨dL_coupler_21, rfl⟩, by decide, dL_coupler_23, dL_coupler_24⟩
  cases List.mem_singleton.mp h
  exact ⟨[(0, 14, 17, 21), (0, 14, 21, 13)], [], 0, 14, 25, 27, 15, 6, 841, by decide, rfl, by decide, by decide, by decide, List.forall_mem_cons.mpr ⟨⟨by decide, 2, 1036, by decide, by decide, by decide⟩, List.forall_mem_cons.mpr ⟨⟨by decide, 0, 840, by decide, by decide, by decide⟩, List.forall_mem_nil _⟩⟩, .inr ⟨dL_coupler_25, rfl⟩, by decide, dL_coupler_27, dL_coupler_28⟩
set_option maxRecDepth 100000 in
theorem c_L_coupler {X : e_XT} {d : Nat} {p : e_Sp} {I : e_I} {J : e_Jt} {c : Nat × Nat} {w : e_Rw1} {Q : e_Rt → e_SS → Prop} {ao : Nat} {x1 x2 x3 x4 : Int32} (hp : s_ok p) (h : s_c X d 154 [.ref (p.1 T_HALL 0), .int x1, .int x2, .int x3, .int x4] (p, I, J, c, w) (l_Wi ao tb_L_coupler Q)) : s_c X (d + 1) 327 [.ref (p.1 T_HALL 0), .int x1, .int x2, .int x3, .int x4, .ref ao] (p, I, J, c, w) Q := by
  refine m_L_coupler (Nat.le_of_ble_eq_true rfl) ?_
  show s_w _ _ _ 0 _ _ _ _
  refine w_op (pc' := 2) dL_coupler_0 rfl ?_
  refine w_op (pc' := 3) dL_coupler_2 rfl ?_
  refine w_op (pc' := 4) dL_coupler_3 rfl ?_
  refine w_op (pc' := 5) dL_coupler_4 rfl ?_
  refine w_op (pc' := 6) dL_coupler_5 rfl ?_
  refine w_op (pc' := 7) dL_coupler_6 rfl ?_
  refine w_op (pc' := 9) dL_coupler_7 rfl ?_
  refine w_callC (t := T_HALL) (As := [_, _, _, _]) (tb := tb_L_coupler) dL_coupler_9 rfl rM_X11_coupler (by decide) rfl rfl (by decide) (by decide) (Nat.le_of_ble_eq_true rfl) rfl (hp.1 _ rfl) rfl ct_L_coupler h ?_
  exact l_cI (g := 29) dL_coupler_12 dL_coupler_13 dL_coupler_14 (by decide) dL_coupler_29 dL_coupler_30
abbrev tb_L_tremulant : List (Nat × Int) := [(2, 1), (1, 2)]
theorem ct_L_tremulant : ∀ E n, (E, n) ∈ tb_L_tremulant → l_ct K_L_tremulant 4 E n := by
  intro E n h
  rcases List.mem_cons.mp h with h | h
  · cases h
    exact ⟨[], [(0, 9, 15, 15)], 0, 9, 12, 13, 21, 3, 1036, by decide, rfl, by decide, by decide, by decide, List.forall_mem_nil _, .inl ⟨3, rfl, dL_tremulant_12, rfl⟩, by decide, dL_tremulant_13, dL_tremulant_14⟩
  cases List.mem_singleton.mp h
  exact ⟨[(0, 9, 12, 21)], [], 0, 9, 15, 16, 15, 3, 841, by decide, rfl, by decide, by decide, by decide, List.forall_mem_cons.mpr ⟨⟨by decide, 2, 1036, by decide, by decide, by decide⟩, List.forall_mem_nil _⟩, .inl ⟨3, rfl, dL_tremulant_15, rfl⟩, by decide, dL_tremulant_16, dL_tremulant_17⟩
set_option maxRecDepth 100000 in
theorem c_L_tremulant {X : e_XT} {d : Nat} {p : e_Sp} {I : e_I} {J : e_Jt} {c : Nat × Nat} {w : e_Rw1} {Q : e_Rt → e_SS → Prop} {ao : Nat} {x1 : Int32} (hp : s_ok p) (h : s_c X d 155 [.ref (p.1 T_HALL 0), .int x1] (p, I, J, c, w) (l_Wi ao tb_L_tremulant Q)) : s_c X (d + 1) 328 [.ref (p.1 T_HALL 0), .int x1, .ref ao] (p, I, J, c, w) Q := by
  refine m_L_tremulant (Nat.le_of_ble_eq_true rfl) ?_
  show s_w _ _ _ 0 _ _ _ _
  refine w_op (pc' := 1) dL_tremulant_0 rfl ?_
  refine w_op (pc' := 2) dL_tremulant_1 rfl ?_
  refine w_op (pc' := 3) dL_tremulant_2 rfl ?_
  refine w_op (pc' := 4) dL_tremulant_3 rfl ?_
  refine w_callC (t := T_HALL) (As := [_]) (tb := tb_L_tremulant) dL_tremulant_4 rfl rM_X11_tremulant (by decide) rfl rfl (by decide) (by decide) (Nat.le_of_ble_eq_true rfl) rfl (hp.1 _ rfl) rfl ct_L_tremulant h ?_
  exact l_cI (g := 18) dL_tremulant_7 dL_tremulant_8 dL_tremulant_9 (by decide) dL_tremulant_18 dL_tremulant_19
abbrev tb_L_draw : List (Nat × Int) := [(2, 1)]
theorem ct_L_draw : ∀ E n, (E, n) ∈ tb_L_draw → l_ct K_L_draw 5 E n := by
  intro E n h
  cases List.mem_singleton.mp h
  exact ⟨[], [], 0, 17, 20, 22, 21, 4, 1036, by decide, rfl, by decide, by decide, by decide, List.forall_mem_nil _, .inr ⟨dL_draw_20, rfl⟩, by decide, dL_draw_22, dL_draw_23⟩
set_option maxRecDepth 100000 in
theorem c_L_draw {X : e_XT} {d : Nat} {p : e_Sp} {I : e_I} {J : e_Jt} {c : Nat × Nat} {w : e_Rw1} {Q : e_Rt → e_SS → Prop} {ao : Nat} {x1 x2 : Int32} (hp : s_ok p) (h : s_c X d 156 [.ref (p.1 T_HALL 0), .int x1, .int x2] (p, I, J, c, w) (l_Wb ao tb_L_draw Q)) : s_c X (d + 1) 329 [.ref (p.1 T_HALL 0), .int x1, .int x2, .ref ao] (p, I, J, c, w) Q := by
  refine m_L_draw (Nat.le_of_ble_eq_true rfl) ?_
  show s_w _ _ _ 0 _ _ _ _
  refine w_op (pc' := 1) dL_draw_0 rfl ?_
  refine w_op (pc' := 2) dL_draw_1 rfl ?_
  refine w_op (pc' := 3) dL_draw_2 rfl ?_
  refine w_op (pc' := 4) dL_draw_3 rfl ?_
  refine w_op (pc' := 5) dL_draw_4 rfl ?_
  refine w_callC (t := T_HALL) (As := [_, _]) (tb := tb_L_draw) dL_draw_5 rfl rM_X11_draw (by decide) rfl rfl (by decide) (by decide) (Nat.le_of_ble_eq_true rfl) rfl (hp.1 _ rfl) rfl ct_L_draw h ?_
  exact l_cB (g := 24) dL_draw_8 dL_draw_11 dL_draw_12 dL_draw_15 dL_draw_16 dL_draw_17 (by decide) dL_draw_24 dL_draw_25
abbrev tb_L_isDrawn : List (Nat × Int) := [(2, 1)]
theorem ct_L_isDrawn : ∀ E n, (E, n) ∈ tb_L_isDrawn → l_ct K_L_isDrawn 4 E n := by
  intro E n h
  cases List.mem_singleton.mp h
  exact ⟨[], [], 0, 16, 19, 20, 21, 3, 1036, by decide, rfl, by decide, by decide, by decide, List.forall_mem_nil _, .inl ⟨3, rfl, dL_isDrawn_19, rfl⟩, by decide, dL_isDrawn_20, dL_isDrawn_21⟩
set_option maxRecDepth 100000 in
theorem c_L_isDrawn {X : e_XT} {d : Nat} {p : e_Sp} {I : e_I} {J : e_Jt} {c : Nat × Nat} {w : e_Rw1} {Q : e_Rt → e_SS → Prop} {ao : Nat} {x1 : Int32} (hp : s_ok p) (h : s_c X d 157 [.ref (p.1 T_HALL 0), .int x1] (p, I, J, c, w) (l_Wb ao tb_L_isDrawn Q)) : s_c X (d + 1) 330 [.ref (p.1 T_HALL 0), .int x1, .ref ao] (p, I, J, c, w) Q := by
  refine m_L_isDrawn (Nat.le_of_ble_eq_true rfl) ?_
  show s_w _ _ _ 0 _ _ _ _
  refine w_op (pc' := 1) dL_isDrawn_0 rfl ?_
  refine w_op (pc' := 2) dL_isDrawn_1 rfl ?_
  refine w_op (pc' := 3) dL_isDrawn_2 rfl ?_
  refine w_op (pc' := 4) dL_isDrawn_3 rfl ?_
  refine w_callC (t := T_HALL) (As := [_]) (tb := tb_L_isDrawn) dL_isDrawn_4 rfl rM_X11_isDrawn (by decide) rfl rfl (by decide) (by decide) (Nat.le_of_ble_eq_true rfl) rfl (hp.1 _ rfl) rfl ct_L_isDrawn h ?_
  exact l_cB (g := 22) dL_isDrawn_7 dL_isDrawn_10 dL_isDrawn_11 dL_isDrawn_14 dL_isDrawn_15 dL_isDrawn_16 (by decide) dL_isDrawn_22 dL_isDrawn_23
abbrev tb_L_isOn : List (Nat × Int) := [(2, 1), (3, 2)]
theorem ct_L_isOn : ∀ E n, (E, n) ∈ tb_L_isOn → l_ct K_L_isOn 4 E n := by
  intro E n h
  rcases List.mem_cons.mp h with h | h
  · cases h
    exact ⟨[], [(0, 16, 22, 27)], 0, 16, 19, 20, 21, 3, 1036, by decide, rfl, by decide, by decide, by decide, List.forall_mem_nil _, .inl ⟨3, rfl, dL_isOn_19, rfl⟩, by decide, dL_isOn_20, dL_isOn_21⟩
  cases List.mem_singleton.mp h
  exact ⟨[(0, 16, 19, 21)], [], 0, 16, 22, 23, 27, 3, 1128, by decide, rfl, by decide, by decide, by decide, List.forall_mem_cons.mpr ⟨⟨by decide, 2, 1036, by decide, by decide, by decide⟩, List.forall_mem_nil _⟩, .inl ⟨3, rfl, dL_isOn_22, rfl⟩, by decide, dL_isOn_23, dL_isOn_24⟩
set_option maxRecDepth 100000 in
theorem c_L_isOn {X : e_XT} {d : Nat} {p : e_Sp} {I : e_I} {J : e_Jt} {c : Nat × Nat} {w : e_Rw1} {Q : e_Rt → e_SS → Prop} {ao : Nat} {x1 : Int32} (hp : s_ok p) (h : s_c X d 158 [.ref (p.1 T_HALL 0), .int x1] (p, I, J, c, w) (l_Wb ao tb_L_isOn Q)) : s_c X (d + 1) 331 [.ref (p.1 T_HALL 0), .int x1, .ref ao] (p, I, J, c, w) Q := by
  refine m_L_isOn (Nat.le_of_ble_eq_true rfl) ?_
  show s_w _ _ _ 0 _ _ _ _
  refine w_op (pc' := 1) dL_isOn_0 rfl ?_
  refine w_op (pc' := 2) dL_isOn_1 rfl ?_
  refine w_op (pc' := 3) dL_isOn_2 rfl ?_
  refine w_op (pc' := 4) dL_isOn_3 rfl ?_
  refine w_callC (t := T_HALL) (As := [_]) (tb := tb_L_isOn) dL_isOn_4 rfl rM_X11_isOn (by decide) rfl rfl (by decide) (by decide) (Nat.le_of_ble_eq_true rfl) rfl (hp.1 _ rfl) rfl ct_L_isOn h ?_
  exact l_cB (g := 25) dL_isOn_7 dL_isOn_10 dL_isOn_11 dL_isOn_14 dL_isOn_15 dL_isOn_16 (by decide) dL_isOn_25 dL_isOn_26
abbrev tb_L_lock : List (Nat × Int) := [(2, 1)]
theorem ct_L_lock : ∀ E n, (E, n) ∈ tb_L_lock → l_ct K_L_lock 5 E n := by
  intro E n h
  cases List.mem_singleton.mp h
  exact ⟨[], [], 0, 17, 20, 22, 21, 4, 1036, by decide, rfl, by decide, by decide, by decide, List.forall_mem_nil _, .inr ⟨dL_lock_20, rfl⟩, by decide, dL_lock_22, dL_lock_23⟩
set_option maxRecDepth 100000 in
theorem c_L_lock {X : e_XT} {d : Nat} {p : e_Sp} {I : e_I} {J : e_Jt} {c : Nat × Nat} {w : e_Rw1} {Q : e_Rt → e_SS → Prop} {ao : Nat} {x1 x2 : Int32} (hp : s_ok p) (h : s_c X d 159 [.ref (p.1 T_HALL 0), .int x1, .int x2] (p, I, J, c, w) (l_Wb ao tb_L_lock Q)) : s_c X (d + 1) 332 [.ref (p.1 T_HALL 0), .int x1, .int x2, .ref ao] (p, I, J, c, w) Q := by
  refine m_L_lock (Nat.le_of_ble_eq_true rfl) ?_
  show s_w _ _ _ 0 _ _ _ _
  refine w_op (pc' := 1) dL_lock_0 rfl ?_
  refine w_op (pc' := 2) dL_lock_1 rfl ?_
  refine w_op (pc' := 3) dL_lock_2 rfl ?_
  refine w_op (pc' := 4) dL_lock_3 rfl ?_
  refine w_op (pc' := 5) dL_lock_4 rfl ?_
  refine w_callC (t := T_HALL) (As := [_, _]) (tb := tb_L_lock) dL_lock_5 rfl rM_X11_lock (by decide) rfl rfl (by decide) (by decide) (Nat.le_of_ble_eq_true rfl) rfl (hp.1 _ rfl) rfl ct_L_lock h ?_
  exact l_cB (g := 24) dL_lock_8 dL_lock_11 dL_lock_12 dL_lock_15 dL_lock_16 dL_lock_17 (by decide) dL_lock_24 dL_lock_25
abbrev tb_L_stage : List (Nat × Int) := [(2, 1), (0, 2), (3, 3)]
theorem ct_L_stage : ∀ E n, (E, n) ∈ tb_L_stage → l_ct K_L_stage 5 E n := by
  intro E n h
  rcases List.mem_cons.mp h with h | h
  · cases h
    exact ⟨[], [(0, 10, 17, 13), (0, 10, 21, 27)], 0, 10, 13, 15, 21, 4, 1036, by decide, rfl, by decide, by decide, by decide, List.forall_mem_nil _, .inr ⟨dL_stage_13, rfl⟩, by decide, dL_stage_15, dL_stage_16⟩
  rcases List.mem_cons.mp h with h | h
  · cases h
    exact ⟨[(0, 10, 13, 21)], [(0, 10, 21, 27)], 0, 10, 17, 19, 13, 4, 840, by decide, rfl, by decide, by decide, by decide, List.forall_mem_cons.mpr ⟨⟨by decide, 2, 1036, by decide, by decide, by decide⟩, List.forall_mem_nil _⟩, .inr ⟨dL_stage_17, rfl⟩, by decide, dL_stage_19, dL_stage_20⟩
  cases List.mem_singleton.mp h
  exact ⟨[(0, 10, 13, 21), (0, 10, 17, 13)], [], 0, 10, 21, 23, 27, 4, 1128, by decide, rfl, by decide, by decide, by decide, List.forall_mem_cons.mpr ⟨⟨by decide, 2, 1036, by decide, by decide, by decide⟩, List.forall_mem_cons.mpr ⟨⟨by decide, 0, 840, by decide, by decide, by decide⟩, List.forall_mem_nil _⟩⟩, .inr ⟨dL_stage_21, rfl⟩, by decide, dL_stage_23, dL_stage_24⟩
set_option maxRecDepth 100000 in
theorem c_L_stage {X : e_XT} {d : Nat} {p : e_Sp} {I : e_I} {J : e_Jt} {c : Nat × Nat} {w : e_Rw1} {Q : e_Rt → e_SS → Prop} {ao : Nat} {x1 x2 : Int32} (hp : s_ok p) (h : s_c X d 160 [.ref (p.1 T_HALL 0), .int x1, .int x2] (p, I, J, c, w) (l_Wi ao tb_L_stage Q)) : s_c X (d + 1) 333 [.ref (p.1 T_HALL 0), .int x1, .int x2, .ref ao] (p, I, J, c, w) Q := by
  refine m_L_stage (Nat.le_of_ble_eq_true rfl) ?_
  show s_w _ _ _ 0 _ _ _ _
  refine w_op (pc' := 1) dL_stage_0 rfl ?_
  refine w_op (pc' := 2) dL_stage_1 rfl ?_
  refine w_op (pc' := 3) dL_stage_2 rfl ?_
  refine w_op (pc' := 4) dL_stage_3 rfl ?_
  refine w_op (pc' := 5) dL_stage_4 rfl ?_
  refine w_callC (t := T_HALL) (As := [_, _]) (tb := tb_L_stage) dL_stage_5 rfl rM_X11_stage (by decide) rfl rfl (by decide) (by decide) (Nat.le_of_ble_eq_true rfl) rfl (hp.1 _ rfl) rfl ct_L_stage h ?_
  exact l_cI (g := 25) dL_stage_8 dL_stage_9 dL_stage_10 (by decide) dL_stage_25 dL_stage_26
abbrev tb_L_crescendo : List (Nat × Int) := [(0, 1)]
theorem ct_L_crescendo : ∀ E n, (E, n) ∈ tb_L_crescendo → l_ct K_L_crescendo 4 E n := by
  intro E n h
  cases List.mem_singleton.mp h
  exact ⟨[], [], 0, 9, 12, 13, 13, 3, 840, by decide, rfl, by decide, by decide, by decide, List.forall_mem_nil _, .inl ⟨3, rfl, dL_crescendo_12, rfl⟩, by decide, dL_crescendo_13, dL_crescendo_14⟩
set_option maxRecDepth 100000 in
theorem c_L_crescendo {X : e_XT} {d : Nat} {p : e_Sp} {I : e_I} {J : e_Jt} {c : Nat × Nat} {w : e_Rw1} {Q : e_Rt → e_SS → Prop} {ao : Nat} {x1 : Int32} (hp : s_ok p) (h : s_c X d 161 [.ref (p.1 T_HALL 0), .int x1] (p, I, J, c, w) (l_Wi ao tb_L_crescendo Q)) : s_c X (d + 1) 334 [.ref (p.1 T_HALL 0), .int x1, .ref ao] (p, I, J, c, w) Q := by
  refine m_L_crescendo (Nat.le_of_ble_eq_true rfl) ?_
  show s_w _ _ _ 0 _ _ _ _
  refine w_op (pc' := 1) dL_crescendo_0 rfl ?_
  refine w_op (pc' := 2) dL_crescendo_1 rfl ?_
  refine w_op (pc' := 3) dL_crescendo_2 rfl ?_
  refine w_op (pc' := 4) dL_crescendo_3 rfl ?_
  refine w_callC (t := T_HALL) (As := [_]) (tb := tb_L_crescendo) dL_crescendo_4 rfl rM_X11_crescendo (by decide) rfl rfl (by decide) (by decide) (Nat.le_of_ble_eq_true rfl) rfl (hp.1 _ rfl) rfl ct_L_crescendo h ?_
  exact l_cI (g := 15) dL_crescendo_7 dL_crescendo_8 dL_crescendo_9 (by decide) dL_crescendo_15 dL_crescendo_16
abbrev tb_L_key : List (Nat × Int) := [(2, 1)]
theorem ct_L_key : ∀ E n, (E, n) ∈ tb_L_key → l_ct K_L_key 7 E n := by
  intro E n h
  cases List.mem_singleton.mp h
  exact ⟨[], [], 0, 19, 22, 24, 21, 5, 1036, by decide, rfl, by decide, by decide, by decide, List.forall_mem_nil _, .inr ⟨dL_key_22, rfl⟩, by decide, dL_key_24, dL_key_25⟩
set_option maxRecDepth 100000 in
theorem c_L_key {X : e_XT} {d : Nat} {p : e_Sp} {I : e_I} {J : e_Jt} {c : Nat × Nat} {w : e_Rw1} {Q : e_Rt → e_SS → Prop} {ao : Nat} {x1 x2 x3 : Int32} (hp : s_ok p) (h : s_c X d 162 [.ref (p.1 T_HALL 0), .int x1, .int x2, .int x3] (p, I, J, c, w) (l_Wb ao tb_L_key Q)) : s_c X (d + 1) 335 [.ref (p.1 T_HALL 0), .int x1, .int x2, .int x3, .ref ao] (p, I, J, c, w) Q := by
  refine m_L_key (Nat.le_of_ble_eq_true rfl) ?_
  show s_w _ _ _ 0 _ _ _ _
  refine w_op (pc' := 2) dL_key_0 rfl ?_
  refine w_op (pc' := 3) dL_key_2 rfl ?_
  refine w_op (pc' := 4) dL_key_3 rfl ?_
  refine w_op (pc' := 5) dL_key_4 rfl ?_
  refine w_op (pc' := 6) dL_key_5 rfl ?_
  refine w_op (pc' := 7) dL_key_6 rfl ?_
  refine w_callC (t := T_HALL) (As := [_, _, _]) (tb := tb_L_key) dL_key_7 rfl rM_X11_key (by decide) rfl rfl (by decide) (by decide) (Nat.le_of_ble_eq_true rfl) rfl (hp.1 _ rfl) rfl ct_L_key h ?_
  exact l_cB (g := 26) dL_key_10 dL_key_13 dL_key_14 dL_key_17 dL_key_18 dL_key_19 (by decide) dL_key_26 dL_key_27
abbrev tb_L_isDown : List (Nat × Int) := [(2, 1)]
theorem ct_L_isDown : ∀ E n, (E, n) ∈ tb_L_isDown → l_ct K_L_isDown 5 E n := by
  intro E n h
  cases List.mem_singleton.mp h
  exact ⟨[], [], 0, 17, 20, 22, 21, 4, 1036, by decide, rfl, by decide, by decide, by decide, List.forall_mem_nil _, .inr ⟨dL_isDown_20, rfl⟩, by decide, dL_isDown_22, dL_isDown_23⟩
set_option maxRecDepth 100000 in
theorem c_L_isDown {X : e_XT} {d : Nat} {p : e_Sp} {I : e_I} {J : e_Jt} {c : Nat × Nat} {w : e_Rw1} {Q : e_Rt → e_SS → Prop} {ao : Nat} {x1 x2 : Int32} (hp : s_ok p) (h : s_c X d 164 [.ref (p.1 T_HALL 0), .int x1, .int x2] (p, I, J, c, w) (l_Wb ao tb_L_isDown Q)) : s_c X (d + 1) 336 [.ref (p.1 T_HALL 0), .int x1, .int x2, .ref ao] (p, I, J, c, w) Q := by
  refine m_L_isDown (Nat.le_of_ble_eq_true rfl) ?_
  show s_w _ _ _ 0 _ _ _ _
  refine w_op (pc' := 1) dL_isDown_0 rfl ?_
  refine w_op (pc' := 2) dL_isDown_1 rfl ?_
  refine w_op (pc' := 3) dL_isDown_2 rfl ?_
  refine w_op (pc' := 4) dL_isDown_3 rfl ?_
  refine w_op (pc' := 5) dL_isDown_4 rfl ?_
  refine w_callC (t := T_HALL) (As := [_, _]) (tb := tb_L_isDown) dL_isDown_5 rfl rM_X11_isDown (by decide) rfl rfl (by decide) (by decide) (Nat.le_of_ble_eq_true rfl) rfl (hp.1 _ rfl) rfl ct_L_isDown h ?_
  exact l_cB (g := 24) dL_isDown_8 dL_isDown_11 dL_isDown_12 dL_isDown_15 dL_isDown_16 dL_isDown_17 (by decide) dL_isDown_24 dL_isDown_25
abbrev tb_L_pass : List (Nat × Int) := [(0, 1)]
theorem ct_L_pass : ∀ E n, (E, n) ∈ tb_L_pass → l_ct K_L_pass 4 E n := by
  intro E n h
  cases List.mem_singleton.mp h
  exact ⟨[], [], 0, 9, 12, 13, 13, 3, 840, by decide, rfl, by decide, by decide, by decide, List.forall_mem_nil _, .inl ⟨3, rfl, dL_pass_12, rfl⟩, by decide, dL_pass_13, dL_pass_14⟩
set_option maxRecDepth 100000 in
theorem c_L_pass {X : e_XT} {d : Nat} {p : e_Sp} {I : e_I} {J : e_Jt} {c : Nat × Nat} {w : e_Rw1} {Q : e_Rt → e_SS → Prop} {ao : Nat} {x1 : Int32} (hp : s_ok p) (h : s_c X d 165 [.ref (p.1 T_HALL 0), .int x1] (p, I, J, c, w) (l_Wi ao tb_L_pass Q)) : s_c X (d + 1) 337 [.ref (p.1 T_HALL 0), .int x1, .ref ao] (p, I, J, c, w) Q := by
  refine m_L_pass (Nat.le_of_ble_eq_true rfl) ?_
  show s_w _ _ _ 0 _ _ _ _
  refine w_op (pc' := 1) dL_pass_0 rfl ?_
  refine w_op (pc' := 2) dL_pass_1 rfl ?_
  refine w_op (pc' := 3) dL_pass_2 rfl ?_
  refine w_op (pc' := 4) dL_pass_3 rfl ?_
  refine w_callC (t := T_HALL) (As := [_]) (tb := tb_L_pass) dL_pass_4 rfl rM_X11_pass (by decide) rfl rfl (by decide) (by decide) (Nat.le_of_ble_eq_true rfl) rfl (hp.1 _ rfl) rfl ct_L_pass h ?_
  exact l_cI (g := 15) dL_pass_7 dL_pass_8 dL_pass_9 (by decide) dL_pass_15 dL_pass_16
abbrev tb_L_reasons : List (Nat × Int) := [(2, 1)]
theorem ct_L_reasons : ∀ E n, (E, n) ∈ tb_L_reasons → l_ct K_L_reasons 5 E n := by
  intro E n h
  cases List.mem_singleton.mp h
  exact ⟨[], [], 0, 10, 13, 15, 21, 4, 1036, by decide, rfl, by decide, by decide, by decide, List.forall_mem_nil _, .inr ⟨dL_reasons_13, rfl⟩, by decide, dL_reasons_15, dL_reasons_16⟩
set_option maxRecDepth 100000 in
theorem c_L_reasons {X : e_XT} {d : Nat} {p : e_Sp} {I : e_I} {J : e_Jt} {c : Nat × Nat} {w : e_Rw1} {Q : e_Rt → e_SS → Prop} {ao : Nat} {x1 x2 : Int32} (hp : s_ok p) (h : s_c X d 166 [.ref (p.1 T_HALL 0), .int x1, .int x2] (p, I, J, c, w) (l_Wi ao tb_L_reasons Q)) : s_c X (d + 1) 338 [.ref (p.1 T_HALL 0), .int x1, .int x2, .ref ao] (p, I, J, c, w) Q := by
  refine m_L_reasons (Nat.le_of_ble_eq_true rfl) ?_
  show s_w _ _ _ 0 _ _ _ _
  refine w_op (pc' := 1) dL_reasons_0 rfl ?_
  refine w_op (pc' := 2) dL_reasons_1 rfl ?_
  refine w_op (pc' := 3) dL_reasons_2 rfl ?_
  refine w_op (pc' := 4) dL_reasons_3 rfl ?_
  refine w_op (pc' := 5) dL_reasons_4 rfl ?_
  refine w_callC (t := T_HALL) (As := [_, _]) (tb := tb_L_reasons) dL_reasons_5 rfl rM_X11_reasons (by decide) rfl rfl (by decide) (by decide) (Nat.le_of_ble_eq_true rfl) rfl (hp.1 _ rfl) rfl ct_L_reasons h ?_
  exact l_cI (g := 17) dL_reasons_8 dL_reasons_9 dL_reasons_10 (by decide) dL_reasons_17 dL_reasons_18
abbrev tb_L_reasonsAnew : List (Nat × Int) := [(2, 1)]
theorem ct_L_reasonsAnew : ∀ E n, (E, n) ∈ tb_L_reasonsAnew → l_ct K_L_reasonsAnew 5 E n := by
  intro E n h
  cases List.mem_singleton.mp h
  exact ⟨[], [], 0, 10, 13, 15, 21, 4, 1036, by decide, rfl, by decide, by decide, by decide, List.forall_mem_nil _, .inr ⟨dL_reasonsAnew_13, rfl⟩, by decide, dL_reasonsAnew_15, dL_reasonsAnew_16⟩
set_option maxRecDepth 100000 in
theorem c_L_reasonsAnew {X : e_XT} {d : Nat} {p : e_Sp} {I : e_I} {J : e_Jt} {c : Nat × Nat} {w : e_Rw1} {Q : e_Rt → e_SS → Prop} {ao : Nat} {x1 x2 : Int32} (hp : s_ok p) (h : s_c X d 168 [.ref (p.1 T_HALL 0), .int x1, .int x2] (p, I, J, c, w) (l_Wi ao tb_L_reasonsAnew Q)) : s_c X (d + 1) 339 [.ref (p.1 T_HALL 0), .int x1, .int x2, .ref ao] (p, I, J, c, w) Q := by
  refine m_L_reasonsAnew (Nat.le_of_ble_eq_true rfl) ?_
  show s_w _ _ _ 0 _ _ _ _
  refine w_op (pc' := 1) dL_reasonsAnew_0 rfl ?_
  refine w_op (pc' := 2) dL_reasonsAnew_1 rfl ?_
  refine w_op (pc' := 3) dL_reasonsAnew_2 rfl ?_
  refine w_op (pc' := 4) dL_reasonsAnew_3 rfl ?_
  refine w_op (pc' := 5) dL_reasonsAnew_4 rfl ?_
  refine w_callC (t := T_HALL) (As := [_, _]) (tb := tb_L_reasonsAnew) dL_reasonsAnew_5 rfl rM_X11_reasonsAnew (by decide) rfl rfl (by decide) (by decide) (Nat.le_of_ble_eq_true rfl) rfl (hp.1 _ rfl) rfl ct_L_reasonsAnew h ?_
  exact l_cI (g := 17) dL_reasonsAnew_8 dL_reasonsAnew_9 dL_reasonsAnew_10 (by decide) dL_reasonsAnew_17 dL_reasonsAnew_18
abbrev tb_L_isOpen : List (Nat × Int) := [(2, 1)]
theorem ct_L_isOpen : ∀ E n, (E, n) ∈ tb_L_isOpen → l_ct K_L_isOpen 5 E n := by
  intro E n h
  cases List.mem_singleton.mp h
  exact ⟨[], [], 0, 17, 20, 22, 21, 4, 1036, by decide, rfl, by decide, by decide, by decide, List.forall_mem_nil _, .inr ⟨dL_isOpen_20, rfl⟩, by decide, dL_isOpen_22, dL_isOpen_23⟩
set_option maxRecDepth 100000 in
theorem c_L_isOpen {X : e_XT} {d : Nat} {p : e_Sp} {I : e_I} {J : e_Jt} {c : Nat × Nat} {w : e_Rw1} {Q : e_Rt → e_SS → Prop} {ao : Nat} {x1 x2 : Int32} (hp : s_ok p) (h : s_c X d 169 [.ref (p.1 T_HALL 0), .int x1, .int x2] (p, I, J, c, w) (l_Wb ao tb_L_isOpen Q)) : s_c X (d + 1) 340 [.ref (p.1 T_HALL 0), .int x1, .int x2, .ref ao] (p, I, J, c, w) Q := by
  refine m_L_isOpen (Nat.le_of_ble_eq_true rfl) ?_
  show s_w _ _ _ 0 _ _ _ _
  refine w_op (pc' := 1) dL_isOpen_0 rfl ?_
  refine w_op (pc' := 2) dL_isOpen_1 rfl ?_
  refine w_op (pc' := 3) dL_isOpen_2 rfl ?_
  refine w_op (pc' := 4) dL_isOpen_3 rfl ?_
  refine w_op (pc' := 5) dL_isOpen_4 rfl ?_
  refine w_callC (t := T_HALL) (As := [_, _]) (tb := tb_L_isOpen) dL_isOpen_5 rfl rM_X11_isOpen (by decide) rfl rfl (by decide) (by decide) (Nat.le_of_ble_eq_true rfl) rfl (hp.1 _ rfl) rfl ct_L_isOpen h ?_
  exact l_cB (g := 24) dL_isOpen_8 dL_isOpen_11 dL_isOpen_12 dL_isOpen_15 dL_isOpen_16 dL_isOpen_17 (by decide) dL_isOpen_24 dL_isOpen_25
abbrev tb_L_speaks : List (Nat × Int) := [(2, 1)]
theorem ct_L_speaks : ∀ E n, (E, n) ∈ tb_L_speaks → l_ct K_L_speaks 5 E n := by
  intro E n h
  cases List.mem_singleton.mp h
  exact ⟨[], [], 0, 17, 20, 22, 21, 4, 1036, by decide, rfl, by decide, by decide, by decide, List.forall_mem_nil _, .inr ⟨dL_speaks_20, rfl⟩, by decide, dL_speaks_22, dL_speaks_23⟩
set_option maxRecDepth 100000 in
theorem c_L_speaks {X : e_XT} {d : Nat} {p : e_Sp} {I : e_I} {J : e_Jt} {c : Nat × Nat} {w : e_Rw1} {Q : e_Rt → e_SS → Prop} {ao : Nat} {x1 x2 : Int32} (hp : s_ok p) (h : s_c X d 170 [.ref (p.1 T_HALL 0), .int x1, .int x2] (p, I, J, c, w) (l_Wb ao tb_L_speaks Q)) : s_c X (d + 1) 341 [.ref (p.1 T_HALL 0), .int x1, .int x2, .ref ao] (p, I, J, c, w) Q := by
  refine m_L_speaks (Nat.le_of_ble_eq_true rfl) ?_
  show s_w _ _ _ 0 _ _ _ _
  refine w_op (pc' := 1) dL_speaks_0 rfl ?_
  refine w_op (pc' := 2) dL_speaks_1 rfl ?_
  refine w_op (pc' := 3) dL_speaks_2 rfl ?_
  refine w_op (pc' := 4) dL_speaks_3 rfl ?_
  refine w_op (pc' := 5) dL_speaks_4 rfl ?_
  refine w_callC (t := T_HALL) (As := [_, _]) (tb := tb_L_speaks) dL_speaks_5 rfl rM_X11_speaks (by decide) rfl rfl (by decide) (by decide) (Nat.le_of_ble_eq_true rfl) rfl (hp.1 _ rfl) rfl ct_L_speaks h ?_
  exact l_cB (g := 24) dL_speaks_8 dL_speaks_11 dL_speaks_12 dL_speaks_15 dL_speaks_16 dL_speaks_17 (by decide) dL_speaks_24 dL_speaks_25
abbrev tb_L_begun : List (Nat × Int) := [(2, 1)]
theorem ct_L_begun : ∀ E n, (E, n) ∈ tb_L_begun → l_ct K_L_begun 5 E n := by
  intro E n h
  cases List.mem_singleton.mp h
  exact ⟨[], [], 0, 10, 13, 15, 21, 4, 1036, by decide, rfl, by decide, by decide, by decide, List.forall_mem_nil _, .inr ⟨dL_begun_13, rfl⟩, by decide, dL_begun_15, dL_begun_16⟩
set_option maxRecDepth 100000 in
theorem c_L_begun {X : e_XT} {d : Nat} {p : e_Sp} {I : e_I} {J : e_Jt} {c : Nat × Nat} {w : e_Rw1} {Q : e_Rt → e_SS → Prop} {ao : Nat} {x1 x2 : Int32} (hp : s_ok p) (h : s_c X d 171 [.ref (p.1 T_HALL 0), .int x1, .int x2] (p, I, J, c, w) (l_Wi ao tb_L_begun Q)) : s_c X (d + 1) 342 [.ref (p.1 T_HALL 0), .int x1, .int x2, .ref ao] (p, I, J, c, w) Q := by
  refine m_L_begun (Nat.le_of_ble_eq_true rfl) ?_
  show s_w _ _ _ 0 _ _ _ _
  refine w_op (pc' := 1) dL_begun_0 rfl ?_
  refine w_op (pc' := 2) dL_begun_1 rfl ?_
  refine w_op (pc' := 3) dL_begun_2 rfl ?_
  refine w_op (pc' := 4) dL_begun_3 rfl ?_
  refine w_op (pc' := 5) dL_begun_4 rfl ?_
  refine w_callC (t := T_HALL) (As := [_, _]) (tb := tb_L_begun) dL_begun_5 rfl rM_X11_begun (by decide) rfl rfl (by decide) (by decide) (Nat.le_of_ble_eq_true rfl) rfl (hp.1 _ rfl) rfl ct_L_begun h ?_
  exact l_cI (g := 17) dL_begun_8 dL_begun_9 dL_begun_10 (by decide) dL_begun_17 dL_begun_18
abbrev tb_L_supply : List (Nat × Int) := [(2, 1), (0, 2)]
theorem ct_L_supply : ∀ E n, (E, n) ∈ tb_L_supply → l_ct K_L_supply 5 E n := by
  intro E n h
  rcases List.mem_cons.mp h with h | h
  · cases h
    exact ⟨[], [(0, 10, 17, 13)], 0, 10, 13, 15, 21, 4, 1036, by decide, rfl, by decide, by decide, by decide, List.forall_mem_nil _, .inr ⟨dL_supply_13, rfl⟩, by decide, dL_supply_15, dL_supply_16⟩
  cases List.mem_singleton.mp h
  exact ⟨[(0, 10, 13, 21)], [], 0, 10, 17, 19, 13, 4, 840, by decide, rfl, by decide, by decide, by decide, List.forall_mem_cons.mpr ⟨⟨by decide, 2, 1036, by decide, by decide, by decide⟩, List.forall_mem_nil _⟩, .inr ⟨dL_supply_17, rfl⟩, by decide, dL_supply_19, dL_supply_20⟩
set_option maxRecDepth 100000 in
theorem c_L_supply {X : e_XT} {d : Nat} {p : e_Sp} {I : e_I} {J : e_Jt} {c : Nat × Nat} {w : e_Rw1} {Q : e_Rt → e_SS → Prop} {ao : Nat} {x1 x2 : Int32} (hp : s_ok p) (h : s_c X d 172 [.ref (p.1 T_HALL 0), .int x1, .int x2] (p, I, J, c, w) (l_Wi ao tb_L_supply Q)) : s_c X (d + 1) 343 [.ref (p.1 T_HALL 0), .int x1, .int x2, .ref ao] (p, I, J, c, w) Q := by
  refine m_L_supply (Nat.le_of_ble_eq_true rfl) ?_
  show s_w _ _ _ 0 _ _ _ _
  refine w_op (pc' := 1) dL_supply_0 rfl ?_
  refine w_op (pc' := 2) dL_supply_1 rfl ?_
  refine w_op (pc' := 3) dL_supply_2 rfl ?_
  refine w_op (pc' := 4) dL_supply_3 rfl ?_
  refine w_op (pc' := 5) dL_supply_4 rfl ?_
  refine w_callC (t := T_HALL) (As := [_, _]) (tb := tb_L_supply) dL_supply_5 rfl rM_X11_supply (by decide) rfl rfl (by decide) (by decide) (Nat.le_of_ble_eq_true rfl) rfl (hp.1 _ rfl) rfl ct_L_supply h ?_
  exact l_cI (g := 21) dL_supply_8 dL_supply_9 dL_supply_10 (by decide) dL_supply_21 dL_supply_22
abbrev tb_L_wind : List (Nat × Int) := [(2, 1)]
theorem ct_L_wind : ∀ E n, (E, n) ∈ tb_L_wind → l_ct K_L_wind 4 E n := by
  intro E n h
  cases List.mem_singleton.mp h
  exact ⟨[], [], 0, 9, 12, 13, 21, 3, 1036, by decide, rfl, by decide, by decide, by decide, List.forall_mem_nil _, .inl ⟨3, rfl, dL_wind_12, rfl⟩, by decide, dL_wind_13, dL_wind_14⟩
set_option maxRecDepth 100000 in
theorem c_L_wind {X : e_XT} {d : Nat} {p : e_Sp} {I : e_I} {J : e_Jt} {c : Nat × Nat} {w : e_Rw1} {Q : e_Rt → e_SS → Prop} {ao : Nat} {x1 : Int32} (hp : s_ok p) (h : s_c X d 173 [.ref (p.1 T_HALL 0), .int x1] (p, I, J, c, w) (l_Wi ao tb_L_wind Q)) : s_c X (d + 1) 344 [.ref (p.1 T_HALL 0), .int x1, .ref ao] (p, I, J, c, w) Q := by
  refine m_L_wind (Nat.le_of_ble_eq_true rfl) ?_
  show s_w _ _ _ 0 _ _ _ _
  refine w_op (pc' := 1) dL_wind_0 rfl ?_
  refine w_op (pc' := 2) dL_wind_1 rfl ?_
  refine w_op (pc' := 3) dL_wind_2 rfl ?_
  refine w_op (pc' := 4) dL_wind_3 rfl ?_
  refine w_callC (t := T_HALL) (As := [_]) (tb := tb_L_wind) dL_wind_4 rfl rM_X11_wind (by decide) rfl rfl (by decide) (by decide) (Nat.le_of_ble_eq_true rfl) rfl (hp.1 _ rfl) rfl ct_L_wind h ?_
  exact l_cI (g := 15) dL_wind_7 dL_wind_8 dL_wind_9 (by decide) dL_wind_15 dL_wind_16
abbrev tb_L_box : List (Nat × Int) := [(0, 1)]
theorem ct_L_box : ∀ E n, (E, n) ∈ tb_L_box → l_ct K_L_box 5 E n := by
  intro E n h
  cases List.mem_singleton.mp h
  exact ⟨[], [], 0, 10, 13, 15, 13, 4, 840, by decide, rfl, by decide, by decide, by decide, List.forall_mem_nil _, .inr ⟨dL_box_13, rfl⟩, by decide, dL_box_15, dL_box_16⟩
set_option maxRecDepth 100000 in
theorem c_L_box {X : e_XT} {d : Nat} {p : e_Sp} {I : e_I} {J : e_Jt} {c : Nat × Nat} {w : e_Rw1} {Q : e_Rt → e_SS → Prop} {ao : Nat} {x1 x2 : Int32} (hp : s_ok p) (h : s_c X d 174 [.ref (p.1 T_HALL 0), .int x1, .int x2] (p, I, J, c, w) (l_Wi ao tb_L_box Q)) : s_c X (d + 1) 345 [.ref (p.1 T_HALL 0), .int x1, .int x2, .ref ao] (p, I, J, c, w) Q := by
  refine m_L_box (Nat.le_of_ble_eq_true rfl) ?_
  show s_w _ _ _ 0 _ _ _ _
  refine w_op (pc' := 1) dL_box_0 rfl ?_
  refine w_op (pc' := 2) dL_box_1 rfl ?_
  refine w_op (pc' := 3) dL_box_2 rfl ?_
  refine w_op (pc' := 4) dL_box_3 rfl ?_
  refine w_op (pc' := 5) dL_box_4 rfl ?_
  refine w_callC (t := T_HALL) (As := [_, _]) (tb := tb_L_box) dL_box_5 rfl rM_X11_box (by decide) rfl rfl (by decide) (by decide) (Nat.le_of_ble_eq_true rfl) rfl (hp.1 _ rfl) rfl ct_L_box h ?_
  exact l_cI (g := 17) dL_box_8 dL_box_9 dL_box_10 (by decide) dL_box_17 dL_box_18
abbrev tb_L_temper : List (Nat × Int) := [(0, 1)]
theorem ct_L_temper : ∀ E n, (E, n) ∈ tb_L_temper → l_ct K_L_temper 5 E n := by
  intro E n h
  cases List.mem_singleton.mp h
  exact ⟨[], [], 0, 10, 13, 15, 13, 4, 840, by decide, rfl, by decide, by decide, by decide, List.forall_mem_nil _, .inr ⟨dL_temper_13, rfl⟩, by decide, dL_temper_15, dL_temper_16⟩
set_option maxRecDepth 100000 in
theorem c_L_temper {X : e_XT} {d : Nat} {p : e_Sp} {I : e_I} {J : e_Jt} {c : Nat × Nat} {w : e_Rw1} {Q : e_Rt → e_SS → Prop} {ao : Nat} {x1 x2 : Int32} (hp : s_ok p) (h : s_c X d 175 [.ref (p.1 T_HALL 0), .int x1, .int x2] (p, I, J, c, w) (l_Wi ao tb_L_temper Q)) : s_c X (d + 1) 346 [.ref (p.1 T_HALL 0), .int x1, .int x2, .ref ao] (p, I, J, c, w) Q := by
  refine m_L_temper (Nat.le_of_ble_eq_true rfl) ?_
  show s_w _ _ _ 0 _ _ _ _
  refine w_op (pc' := 1) dL_temper_0 rfl ?_
  refine w_op (pc' := 2) dL_temper_1 rfl ?_
  refine w_op (pc' := 3) dL_temper_2 rfl ?_
  refine w_op (pc' := 4) dL_temper_3 rfl ?_
  refine w_op (pc' := 5) dL_temper_4 rfl ?_
  refine w_callC (t := T_HALL) (As := [_, _]) (tb := tb_L_temper) dL_temper_5 rfl rM_X11_temper (by decide) rfl rfl (by decide) (by decide) (Nat.le_of_ble_eq_true rfl) rfl (hp.1 _ rfl) rfl ct_L_temper h ?_
  exact l_cI (g := 17) dL_temper_8 dL_temper_9 dL_temper_10 (by decide) dL_temper_17 dL_temper_18
abbrev tb_L_tune : List (Nat × Int) := [(2, 1), (0, 2)]
theorem ct_L_tune : ∀ E n, (E, n) ∈ tb_L_tune → l_ct K_L_tune 7 E n := by
  intro E n h
  rcases List.mem_cons.mp h with h | h
  · cases h
    exact ⟨[], [(0, 12, 19, 13)], 0, 12, 15, 17, 21, 5, 1036, by decide, rfl, by decide, by decide, by decide, List.forall_mem_nil _, .inr ⟨dL_tune_15, rfl⟩, by decide, dL_tune_17, dL_tune_18⟩
  cases List.mem_singleton.mp h
  exact ⟨[(0, 12, 15, 21)], [], 0, 12, 19, 21, 13, 5, 840, by decide, rfl, by decide, by decide, by decide, List.forall_mem_cons.mpr ⟨⟨by decide, 2, 1036, by decide, by decide, by decide⟩, List.forall_mem_nil _⟩, .inr ⟨dL_tune_19, rfl⟩, by decide, dL_tune_21, dL_tune_22⟩
set_option maxRecDepth 100000 in
theorem c_L_tune {X : e_XT} {d : Nat} {p : e_Sp} {I : e_I} {J : e_Jt} {c : Nat × Nat} {w : e_Rw1} {Q : e_Rt → e_SS → Prop} {ao : Nat} {x1 x2 x3 : Int32} (hp : s_ok p) (h : s_c X d 176 [.ref (p.1 T_HALL 0), .int x1, .int x2, .int x3] (p, I, J, c, w) (l_Wi ao tb_L_tune Q)) : s_c X (d + 1) 347 [.ref (p.1 T_HALL 0), .int x1, .int x2, .int x3, .ref ao] (p, I, J, c, w) Q := by
  refine m_L_tune (Nat.le_of_ble_eq_true rfl) ?_
  show s_w _ _ _ 0 _ _ _ _
  refine w_op (pc' := 2) dL_tune_0 rfl ?_
  refine w_op (pc' := 3) dL_tune_2 rfl ?_
  refine w_op (pc' := 4) dL_tune_3 rfl ?_
  refine w_op (pc' := 5) dL_tune_4 rfl ?_
  refine w_op (pc' := 6) dL_tune_5 rfl ?_
  refine w_op (pc' := 7) dL_tune_6 rfl ?_
  refine w_callC (t := T_HALL) (As := [_, _, _]) (tb := tb_L_tune) dL_tune_7 rfl rM_X11_tune (by decide) rfl rfl (by decide) (by decide) (Nat.le_of_ble_eq_true rfl) rfl (hp.1 _ rfl) rfl ct_L_tune h ?_
  exact l_cI (g := 23) dL_tune_10 dL_tune_11 dL_tune_12 (by decide) dL_tune_23 dL_tune_24
abbrev tb_L_tuneTo : List (Nat × Int) := [(2, 1)]
theorem ct_L_tuneTo : ∀ E n, (E, n) ∈ tb_L_tuneTo → l_ct K_L_tuneTo 9 E n := by
  intro E n h
  cases List.mem_singleton.mp h
  exact ⟨[], [], 0, 14, 17, 19, 21, 6, 1036, by decide, rfl, by decide, by decide, by decide, List.forall_mem_nil _, .inr ⟨dL_tuneTo_17, rfl⟩, by decide, dL_tuneTo_19, dL_tuneTo_20⟩
set_option maxRecDepth 100000 in
theorem c_L_tuneTo {X : e_XT} {d : Nat} {p : e_Sp} {I : e_I} {J : e_Jt} {c : Nat × Nat} {w : e_Rw1} {Q : e_Rt → e_SS → Prop} {ao : Nat} {x1 x2 x3 x4 : Int32} (hp : s_ok p) (h : s_c X d 177 [.ref (p.1 T_HALL 0), .int x1, .int x2, .int x3, .int x4] (p, I, J, c, w) (l_Wi ao tb_L_tuneTo Q)) : s_c X (d + 1) 348 [.ref (p.1 T_HALL 0), .int x1, .int x2, .int x3, .int x4, .ref ao] (p, I, J, c, w) Q := by
  refine m_L_tuneTo (Nat.le_of_ble_eq_true rfl) ?_
  show s_w _ _ _ 0 _ _ _ _
  refine w_op (pc' := 2) dL_tuneTo_0 rfl ?_
  refine w_op (pc' := 3) dL_tuneTo_2 rfl ?_
  refine w_op (pc' := 4) dL_tuneTo_3 rfl ?_
  refine w_op (pc' := 5) dL_tuneTo_4 rfl ?_
  refine w_op (pc' := 6) dL_tuneTo_5 rfl ?_
  refine w_op (pc' := 7) dL_tuneTo_6 rfl ?_
  refine w_op (pc' := 9) dL_tuneTo_7 rfl ?_
  refine w_callC (t := T_HALL) (As := [_, _, _, _]) (tb := tb_L_tuneTo) dL_tuneTo_9 rfl rM_X11_tuneTo (by decide) rfl rfl (by decide) (by decide) (Nat.le_of_ble_eq_true rfl) rfl (hp.1 _ rfl) rfl ct_L_tuneTo h ?_
  exact l_cI (g := 21) dL_tuneTo_12 dL_tuneTo_13 dL_tuneTo_14 (by decide) dL_tuneTo_21 dL_tuneTo_22
abbrev tb_L_heat : List (Nat × Int) := [(2, 1), (0, 2)]
theorem ct_L_heat : ∀ E n, (E, n) ∈ tb_L_heat → l_ct K_L_heat 7 E n := by
  intro E n h
  rcases List.mem_cons.mp h with h | h
  · cases h
    exact ⟨[], [(0, 12, 19, 13)], 0, 12, 15, 17, 21, 5, 1036, by decide, rfl, by decide, by decide, by decide, List.forall_mem_nil _, .inr ⟨dL_heat_15, rfl⟩, by decide, dL_heat_17, dL_heat_18⟩
  cases List.mem_singleton.mp h
  exact ⟨[(0, 12, 15, 21)], [], 0, 12, 19, 21, 13, 5, 840, by decide, rfl, by decide, by decide, by decide, List.forall_mem_cons.mpr ⟨⟨by decide, 2, 1036, by decide, by decide, by decide⟩, List.forall_mem_nil _⟩, .inr ⟨dL_heat_19, rfl⟩, by decide, dL_heat_21, dL_heat_22⟩
set_option maxRecDepth 100000 in
theorem c_L_heat {X : e_XT} {d : Nat} {p : e_Sp} {I : e_I} {J : e_Jt} {c : Nat × Nat} {w : e_Rw1} {Q : e_Rt → e_SS → Prop} {ao : Nat} {x1 x2 x3 : Int32} (hp : s_ok p) (h : s_c X d 178 [.ref (p.1 T_HALL 0), .int x1, .int x2, .int x3] (p, I, J, c, w) (l_Wi ao tb_L_heat Q)) : s_c X (d + 1) 349 [.ref (p.1 T_HALL 0), .int x1, .int x2, .int x3, .ref ao] (p, I, J, c, w) Q := by
  refine m_L_heat (Nat.le_of_ble_eq_true rfl) ?_
  show s_w _ _ _ 0 _ _ _ _
  refine w_op (pc' := 2) dL_heat_0 rfl ?_
  refine w_op (pc' := 3) dL_heat_2 rfl ?_
  refine w_op (pc' := 4) dL_heat_3 rfl ?_
  refine w_op (pc' := 5) dL_heat_4 rfl ?_
  refine w_op (pc' := 6) dL_heat_5 rfl ?_
  refine w_op (pc' := 7) dL_heat_6 rfl ?_
  refine w_callC (t := T_HALL) (As := [_, _, _]) (tb := tb_L_heat) dL_heat_7 rfl rM_X11_heat (by decide) rfl rfl (by decide) (by decide) (Nat.le_of_ble_eq_true rfl) rfl (hp.1 _ rfl) rfl ct_L_heat h ?_
  exact l_cI (g := 23) dL_heat_10 dL_heat_11 dL_heat_12 (by decide) dL_heat_23 dL_heat_24
abbrev tb_L_pitch : List (Nat × Int) := [(2, 1)]
theorem ct_L_pitch : ∀ E n, (E, n) ∈ tb_L_pitch → l_ct K_L_pitch 5 E n := by
  intro E n h
  cases List.mem_singleton.mp h
  exact ⟨[], [], 0, 10, 13, 15, 21, 4, 1036, by decide, rfl, by decide, by decide, by decide, List.forall_mem_nil _, .inr ⟨dL_pitch_13, rfl⟩, by decide, dL_pitch_15, dL_pitch_16⟩
set_option maxRecDepth 100000 in
theorem c_L_pitch {X : e_XT} {d : Nat} {p : e_Sp} {I : e_I} {J : e_Jt} {c : Nat × Nat} {w : e_Rw1} {Q : e_Rt → e_SS → Prop} {ao : Nat} {x1 x2 : Int32} (hp : s_ok p) (h : s_c X d 179 [.ref (p.1 T_HALL 0), .int x1, .int x2] (p, I, J, c, w) (l_Wi ao tb_L_pitch Q)) : s_c X (d + 1) 350 [.ref (p.1 T_HALL 0), .int x1, .int x2, .ref ao] (p, I, J, c, w) Q := by
  refine m_L_pitch (Nat.le_of_ble_eq_true rfl) ?_
  show s_w _ _ _ 0 _ _ _ _
  refine w_op (pc' := 1) dL_pitch_0 rfl ?_
  refine w_op (pc' := 2) dL_pitch_1 rfl ?_
  refine w_op (pc' := 3) dL_pitch_2 rfl ?_
  refine w_op (pc' := 4) dL_pitch_3 rfl ?_
  refine w_op (pc' := 5) dL_pitch_4 rfl ?_
  refine w_callC (t := T_HALL) (As := [_, _]) (tb := tb_L_pitch) dL_pitch_5 rfl rM_X11_pitch (by decide) rfl rfl (by decide) (by decide) (Nat.le_of_ble_eq_true rfl) rfl (hp.1 _ rfl) rfl ct_L_pitch h ?_
  exact l_cI (g := 17) dL_pitch_8 dL_pitch_9 dL_pitch_10 (by decide) dL_pitch_17 dL_pitch_18
abbrev tb_L_fault : List (Nat × Int) := [(2, 1), (0, 2)]
theorem ct_L_fault : ∀ E n, (E, n) ∈ tb_L_fault → l_ct K_L_fault 7 E n := by
  intro E n h
  rcases List.mem_cons.mp h with h | h
  · cases h
    exact ⟨[], [(0, 12, 19, 13)], 0, 12, 15, 17, 21, 5, 1036, by decide, rfl, by decide, by decide, by decide, List.forall_mem_nil _, .inr ⟨dL_fault_15, rfl⟩, by decide, dL_fault_17, dL_fault_18⟩
  cases List.mem_singleton.mp h
  exact ⟨[(0, 12, 15, 21)], [], 0, 12, 19, 21, 13, 5, 840, by decide, rfl, by decide, by decide, by decide, List.forall_mem_cons.mpr ⟨⟨by decide, 2, 1036, by decide, by decide, by decide⟩, List.forall_mem_nil _⟩, .inr ⟨dL_fault_19, rfl⟩, by decide, dL_fault_21, dL_fault_22⟩
set_option maxRecDepth 100000 in
theorem c_L_fault {X : e_XT} {d : Nat} {p : e_Sp} {I : e_I} {J : e_Jt} {c : Nat × Nat} {w : e_Rw1} {Q : e_Rt → e_SS → Prop} {ao : Nat} {x1 x2 x3 : Int32} (hp : s_ok p) (h : s_c X d 180 [.ref (p.1 T_HALL 0), .int x1, .int x2, .int x3] (p, I, J, c, w) (l_Wi ao tb_L_fault Q)) : s_c X (d + 1) 351 [.ref (p.1 T_HALL 0), .int x1, .int x2, .int x3, .ref ao] (p, I, J, c, w) Q := by
  refine m_L_fault (Nat.le_of_ble_eq_true rfl) ?_
  show s_w _ _ _ 0 _ _ _ _
  refine w_op (pc' := 2) dL_fault_0 rfl ?_
  refine w_op (pc' := 3) dL_fault_2 rfl ?_
  refine w_op (pc' := 4) dL_fault_3 rfl ?_
  refine w_op (pc' := 5) dL_fault_4 rfl ?_
  refine w_op (pc' := 6) dL_fault_5 rfl ?_
  refine w_op (pc' := 7) dL_fault_6 rfl ?_
  refine w_callC (t := T_HALL) (As := [_, _, _]) (tb := tb_L_fault) dL_fault_7 rfl rM_X11_fault (by decide) rfl rfl (by decide) (by decide) (Nat.le_of_ble_eq_true rfl) rfl (hp.1 _ rfl) rfl ct_L_fault h ?_
  exact l_cI (g := 23) dL_fault_10 dL_fault_11 dL_fault_12 (by decide) dL_fault_23 dL_fault_24
abbrev tb_L_hunt : List (Nat × Int) := [(2, 1)]
theorem ct_L_hunt : ∀ E n, (E, n) ∈ tb_L_hunt → l_ct K_L_hunt 4 E n := by
  intro E n h
  cases List.mem_singleton.mp h
  exact ⟨[], [], 0, 9, 12, 13, 21, 3, 1036, by decide, rfl, by decide, by decide, by decide, List.forall_mem_nil _, .inl ⟨3, rfl, dL_hunt_12, rfl⟩, by decide, dL_hunt_13, dL_hunt_14⟩
set_option maxRecDepth 100000 in
theorem c_L_hunt {X : e_XT} {d : Nat} {p : e_Sp} {I : e_I} {J : e_Jt} {c : Nat × Nat} {w : e_Rw1} {Q : e_Rt → e_SS → Prop} {ao : Nat} {x1 : Int32} (hp : s_ok p) (h : s_c X d 181 [.ref (p.1 T_HALL 0), .int x1] (p, I, J, c, w) (l_Wi ao tb_L_hunt Q)) : s_c X (d + 1) 352 [.ref (p.1 T_HALL 0), .int x1, .ref ao] (p, I, J, c, w) Q := by
  refine m_L_hunt (Nat.le_of_ble_eq_true rfl) ?_
  show s_w _ _ _ 0 _ _ _ _
  refine w_op (pc' := 1) dL_hunt_0 rfl ?_
  refine w_op (pc' := 2) dL_hunt_1 rfl ?_
  refine w_op (pc' := 3) dL_hunt_2 rfl ?_
  refine w_op (pc' := 4) dL_hunt_3 rfl ?_
  refine w_callC (t := T_HALL) (As := [_]) (tb := tb_L_hunt) dL_hunt_4 rfl rM_X11_hunt (by decide) rfl rfl (by decide) (by decide) (Nat.le_of_ble_eq_true rfl) rfl (hp.1 _ rfl) rfl ct_L_hunt h ?_
  exact l_cI (g := 15) dL_hunt_7 dL_hunt_8 dL_hunt_9 (by decide) dL_hunt_15 dL_hunt_16
abbrev tb_L_guest : List (Nat × Int) := [(0, 1)]
theorem ct_L_guest : ∀ E n, (E, n) ∈ tb_L_guest → l_ct K_L_guest 4 E n := by
  intro E n h
  cases List.mem_singleton.mp h
  exact ⟨[], [], 0, 9, 12, 13, 13, 3, 840, by decide, rfl, by decide, by decide, by decide, List.forall_mem_nil _, .inl ⟨3, rfl, dL_guest_12, rfl⟩, by decide, dL_guest_13, dL_guest_14⟩
set_option maxRecDepth 100000 in
theorem c_L_guest {X : e_XT} {d : Nat} {p : e_Sp} {I : e_I} {J : e_Jt} {c : Nat × Nat} {w : e_Rw1} {Q : e_Rt → e_SS → Prop} {ao : Nat} {x1 : Int32} (hp : s_ok p) (h : s_c X d 182 [.ref (p.1 T_HALL 0), .int x1] (p, I, J, c, w) (l_Wi ao tb_L_guest Q)) : s_c X (d + 1) 353 [.ref (p.1 T_HALL 0), .int x1, .ref ao] (p, I, J, c, w) Q := by
  refine m_L_guest (Nat.le_of_ble_eq_true rfl) ?_
  show s_w _ _ _ 0 _ _ _ _
  refine w_op (pc' := 1) dL_guest_0 rfl ?_
  refine w_op (pc' := 2) dL_guest_1 rfl ?_
  refine w_op (pc' := 3) dL_guest_2 rfl ?_
  refine w_op (pc' := 4) dL_guest_3 rfl ?_
  refine w_callC (t := T_HALL) (As := [_]) (tb := tb_L_guest) dL_guest_4 rfl rM_X11_guest (by decide) rfl rfl (by decide) (by decide) (Nat.le_of_ble_eq_true rfl) rfl (hp.1 _ rfl) rfl ct_L_guest h ?_
  exact l_cI (g := 15) dL_guest_7 dL_guest_8 dL_guest_9 (by decide) dL_guest_15 dL_guest_16
abbrev tb_L_claim : List (Nat × Int) := [(3, 1)]
theorem ct_L_claim : ∀ E n, (E, n) ∈ tb_L_claim → l_ct K_L_claim 4 E n := by
  intro E n h
  cases List.mem_singleton.mp h
  exact ⟨[], [], 0, 16, 19, 20, 27, 3, 1128, by decide, rfl, by decide, by decide, by decide, List.forall_mem_nil _, .inl ⟨3, rfl, dL_claim_19, rfl⟩, by decide, dL_claim_20, dL_claim_21⟩
set_option maxRecDepth 100000 in
theorem c_L_claim {X : e_XT} {d : Nat} {p : e_Sp} {I : e_I} {J : e_Jt} {c : Nat × Nat} {w : e_Rw1} {Q : e_Rt → e_SS → Prop} {ao : Nat} {x1 : Int32} (hp : s_ok p) (h : s_c X d 183 [.ref (p.1 T_HALL 0), .int x1] (p, I, J, c, w) (l_Wb ao tb_L_claim Q)) : s_c X (d + 1) 354 [.ref (p.1 T_HALL 0), .int x1, .ref ao] (p, I, J, c, w) Q := by
  refine m_L_claim (Nat.le_of_ble_eq_true rfl) ?_
  show s_w _ _ _ 0 _ _ _ _
  refine w_op (pc' := 1) dL_claim_0 rfl ?_
  refine w_op (pc' := 2) dL_claim_1 rfl ?_
  refine w_op (pc' := 3) dL_claim_2 rfl ?_
  refine w_op (pc' := 4) dL_claim_3 rfl ?_
  refine w_callC (t := T_HALL) (As := [_]) (tb := tb_L_claim) dL_claim_4 rfl rM_X11_claim (by decide) rfl rfl (by decide) (by decide) (Nat.le_of_ble_eq_true rfl) rfl (hp.1 _ rfl) rfl ct_L_claim h ?_
  exact l_cB (g := 22) dL_claim_7 dL_claim_10 dL_claim_11 dL_claim_14 dL_claim_15 dL_claim_16 (by decide) dL_claim_22 dL_claim_23
abbrev tb_L_level : List (Nat × Int) := [(0, 1)]
theorem ct_L_level : ∀ E n, (E, n) ∈ tb_L_level → l_ct K_L_level 4 E n := by
  intro E n h
  cases List.mem_singleton.mp h
  exact ⟨[], [], 0, 9, 12, 13, 13, 3, 840, by decide, rfl, by decide, by decide, by decide, List.forall_mem_nil _, .inl ⟨3, rfl, dL_level_12, rfl⟩, by decide, dL_level_13, dL_level_14⟩
set_option maxRecDepth 100000 in
theorem c_L_level {X : e_XT} {d : Nat} {p : e_Sp} {I : e_I} {J : e_Jt} {c : Nat × Nat} {w : e_Rw1} {Q : e_Rt → e_SS → Prop} {ao : Nat} {x1 : Int32} (hp : s_ok p) (h : s_c X d 185 [.ref (p.1 T_HALL 0), .int x1] (p, I, J, c, w) (l_Wi ao tb_L_level Q)) : s_c X (d + 1) 355 [.ref (p.1 T_HALL 0), .int x1, .ref ao] (p, I, J, c, w) Q := by
  refine m_L_level (Nat.le_of_ble_eq_true rfl) ?_
  show s_w _ _ _ 0 _ _ _ _
  refine w_op (pc' := 1) dL_level_0 rfl ?_
  refine w_op (pc' := 2) dL_level_1 rfl ?_
  refine w_op (pc' := 3) dL_level_2 rfl ?_
  refine w_op (pc' := 4) dL_level_3 rfl ?_
  refine w_callC (t := T_HALL) (As := [_]) (tb := tb_L_level) dL_level_4 rfl rM_X11_level (by decide) rfl rfl (by decide) (by decide) (Nat.le_of_ble_eq_true rfl) rfl (hp.1 _ rfl) rfl ct_L_level h ?_
  exact l_cI (g := 15) dL_level_7 dL_level_8 dL_level_9 (by decide) dL_level_15 dL_level_16
abbrev tb_L_scope : List (Nat × Int) := [(2, 1)]
theorem ct_L_scope : ∀ E n, (E, n) ∈ tb_L_scope → l_ct K_L_scope 5 E n := by
  intro E n h
  cases List.mem_singleton.mp h
  exact ⟨[], [], 0, 17, 20, 22, 21, 4, 1036, by decide, rfl, by decide, by decide, by decide, List.forall_mem_nil _, .inr ⟨dL_scope_20, rfl⟩, by decide, dL_scope_22, dL_scope_23⟩
set_option maxRecDepth 100000 in
theorem c_L_scope {X : e_XT} {d : Nat} {p : e_Sp} {I : e_I} {J : e_Jt} {c : Nat × Nat} {w : e_Rw1} {Q : e_Rt → e_SS → Prop} {ao : Nat} {x1 x2 : Int32} (hp : s_ok p) (h : s_c X d 186 [.ref (p.1 T_HALL 0), .int x1, .int x2] (p, I, J, c, w) (l_Wb ao tb_L_scope Q)) : s_c X (d + 1) 356 [.ref (p.1 T_HALL 0), .int x1, .int x2, .ref ao] (p, I, J, c, w) Q := by
  refine m_L_scope (Nat.le_of_ble_eq_true rfl) ?_
  show s_w _ _ _ 0 _ _ _ _
  refine w_op (pc' := 1) dL_scope_0 rfl ?_
  refine w_op (pc' := 2) dL_scope_1 rfl ?_
  refine w_op (pc' := 3) dL_scope_2 rfl ?_
  refine w_op (pc' := 4) dL_scope_3 rfl ?_
  refine w_op (pc' := 5) dL_scope_4 rfl ?_
  refine w_callC (t := T_HALL) (As := [_, _]) (tb := tb_L_scope) dL_scope_5 rfl rM_X11_scope (by decide) rfl rfl (by decide) (by decide) (Nat.le_of_ble_eq_true rfl) rfl (hp.1 _ rfl) rfl ct_L_scope h ?_
  exact l_cB (g := 24) dL_scope_8 dL_scope_11 dL_scope_12 dL_scope_15 dL_scope_16 dL_scope_17 (by decide) dL_scope_24 dL_scope_25
abbrev tb_L_set : List (Nat × Int) := [(2, 1), (3, 2)]
theorem ct_L_set : ∀ E n, (E, n) ∈ tb_L_set → l_ct K_L_set 5 E n := by
  intro E n h
  rcases List.mem_cons.mp h with h | h
  · cases h
    exact ⟨[], [(0, 10, 17, 27)], 0, 10, 13, 15, 21, 4, 1036, by decide, rfl, by decide, by decide, by decide, List.forall_mem_nil _, .inr ⟨dL_set_13, rfl⟩, by decide, dL_set_15, dL_set_16⟩
  cases List.mem_singleton.mp h
  exact ⟨[(0, 10, 13, 21)], [], 0, 10, 17, 19, 27, 4, 1128, by decide, rfl, by decide, by decide, by decide, List.forall_mem_cons.mpr ⟨⟨by decide, 2, 1036, by decide, by decide, by decide⟩, List.forall_mem_nil _⟩, .inr ⟨dL_set_17, rfl⟩, by decide, dL_set_19, dL_set_20⟩
set_option maxRecDepth 100000 in
theorem c_L_set {X : e_XT} {d : Nat} {p : e_Sp} {I : e_I} {J : e_Jt} {c : Nat × Nat} {w : e_Rw1} {Q : e_Rt → e_SS → Prop} {ao : Nat} {x1 x2 : Int32} (hp : s_ok p) (h : s_c X d 187 [.ref (p.1 T_HALL 0), .int x1, .int x2] (p, I, J, c, w) (l_Wi ao tb_L_set Q)) : s_c X (d + 1) 357 [.ref (p.1 T_HALL 0), .int x1, .int x2, .ref ao] (p, I, J, c, w) Q := by
  refine m_L_set (Nat.le_of_ble_eq_true rfl) ?_
  show s_w _ _ _ 0 _ _ _ _
  refine w_op (pc' := 1) dL_set_0 rfl ?_
  refine w_op (pc' := 2) dL_set_1 rfl ?_
  refine w_op (pc' := 3) dL_set_2 rfl ?_
  refine w_op (pc' := 4) dL_set_3 rfl ?_
  refine w_op (pc' := 5) dL_set_4 rfl ?_
  refine w_callC (t := T_HALL) (As := [_, _]) (tb := tb_L_set) dL_set_5 rfl rM_X11_set (by decide) rfl rfl (by decide) (by decide) (Nat.le_of_ble_eq_true rfl) rfl (hp.1 _ rfl) rfl ct_L_set h ?_
  exact l_cI (g := 21) dL_set_8 dL_set_9 dL_set_10 (by decide) dL_set_21 dL_set_22
abbrev tb_L_push : List (Nat × Int) := [(2, 1), (4, 2)]
theorem ct_L_push : ∀ E n, (E, n) ∈ tb_L_push → l_ct K_L_push 5 E n := by
  intro E n h
  rcases List.mem_cons.mp h with h | h
  · cases h
    exact ⟨[], [(0, 10, 17, 138)], 0, 10, 13, 15, 21, 4, 1036, by decide, rfl, by decide, by decide, by decide, List.forall_mem_nil _, .inr ⟨dL_push_13, rfl⟩, by decide, dL_push_15, dL_push_16⟩
  cases List.mem_singleton.mp h
  exact ⟨[(0, 10, 13, 21)], [], 0, 10, 17, 19, 138, 4, 1513, by decide, rfl, by decide, by decide, by decide, List.forall_mem_cons.mpr ⟨⟨by decide, 2, 1036, by decide, by decide, by decide⟩, List.forall_mem_nil _⟩, .inr ⟨dL_push_17, rfl⟩, by decide, dL_push_19, dL_push_20⟩
set_option maxRecDepth 100000 in
theorem c_L_push {X : e_XT} {d : Nat} {p : e_Sp} {I : e_I} {J : e_Jt} {c : Nat × Nat} {w : e_Rw1} {Q : e_Rt → e_SS → Prop} {ao : Nat} {x1 x2 : Int32} (hp : s_ok p) (h : s_c X d 189 [.ref (p.1 T_HALL 0), .int x1, .int x2] (p, I, J, c, w) (l_Wi ao tb_L_push Q)) : s_c X (d + 1) 358 [.ref (p.1 T_HALL 0), .int x1, .int x2, .ref ao] (p, I, J, c, w) Q := by
  refine m_L_push (Nat.le_of_ble_eq_true rfl) ?_
  show s_w _ _ _ 0 _ _ _ _
  refine w_op (pc' := 1) dL_push_0 rfl ?_
  refine w_op (pc' := 2) dL_push_1 rfl ?_
  refine w_op (pc' := 3) dL_push_2 rfl ?_
  refine w_op (pc' := 4) dL_push_3 rfl ?_
  refine w_op (pc' := 5) dL_push_4 rfl ?_
  refine w_callC (t := T_HALL) (As := [_, _]) (tb := tb_L_push) dL_push_5 rfl rM_X11_push (by decide) rfl rfl (by decide) (by decide) (Nat.le_of_ble_eq_true rfl) rfl (hp.1 _ rfl) rfl ct_L_push h ?_
  exact l_cI (g := 21) dL_push_8 dL_push_9 dL_push_10 (by decide) dL_push_21 dL_push_22
abbrev tb_L_setReversible : List (Nat × Int) := [(2, 1), (3, 2)]
theorem ct_L_setReversible : ∀ E n, (E, n) ∈ tb_L_setReversible → l_ct K_L_setReversible 5 E n := by
  intro E n h
  rcases List.mem_cons.mp h with h | h
  · cases h
    exact ⟨[], [(0, 10, 17, 27)], 0, 10, 13, 15, 21, 4, 1036, by decide, rfl, by decide, by decide, by decide, List.forall_mem_nil _, .inr ⟨dL_setReversible_13, rfl⟩, by decide, dL_setReversible_15, dL_setReversible_16⟩
  cases List.mem_singleton.mp h
  exact ⟨[(0, 10, 13, 21)], [], 0, 10, 17, 19, 27, 4, 1128, by decide, rfl, by decide, by decide, by decide, List.forall_mem_cons.mpr ⟨⟨by decide, 2, 1036, by decide, by decide, by decide⟩, List.forall_mem_nil _⟩, .inr ⟨dL_setReversible_17, rfl⟩, by decide, dL_setReversible_19, dL_setReversible_20⟩
set_option maxRecDepth 100000 in
theorem c_L_setReversible {X : e_XT} {d : Nat} {p : e_Sp} {I : e_I} {J : e_Jt} {c : Nat × Nat} {w : e_Rw1} {Q : e_Rt → e_SS → Prop} {ao : Nat} {x1 x2 : Int32} (hp : s_ok p) (h : s_c X d 190 [.ref (p.1 T_HALL 0), .int x1, .int x2] (p, I, J, c, w) (l_Wi ao tb_L_setReversible Q)) : s_c X (d + 1) 359 [.ref (p.1 T_HALL 0), .int x1, .int x2, .ref ao] (p, I, J, c, w) Q := by
  refine m_L_setReversible (Nat.le_of_ble_eq_true rfl) ?_
  show s_w _ _ _ 0 _ _ _ _
  refine w_op (pc' := 1) dL_setReversible_0 rfl ?_
  refine w_op (pc' := 2) dL_setReversible_1 rfl ?_
  refine w_op (pc' := 3) dL_setReversible_2 rfl ?_
  refine w_op (pc' := 4) dL_setReversible_3 rfl ?_
  refine w_op (pc' := 5) dL_setReversible_4 rfl ?_
  refine w_callC (t := T_HALL) (As := [_, _]) (tb := tb_L_setReversible) dL_setReversible_5 rfl rM_X11_setReversible (by decide) rfl rfl (by decide) (by decide) (Nat.le_of_ble_eq_true rfl) rfl (hp.1 _ rfl) rfl ct_L_setReversible h ?_
  exact l_cI (g := 21) dL_setReversible_8 dL_setReversible_9 dL_setReversible_10 (by decide) dL_setReversible_21 dL_setReversible_22
abbrev tb_L_pushReversible : List (Nat × Int) := [(2, 1), (4, 2)]
theorem ct_L_pushReversible : ∀ E n, (E, n) ∈ tb_L_pushReversible → l_ct K_L_pushReversible 4 E n := by
  intro E n h
  rcases List.mem_cons.mp h with h | h
  · cases h
    exact ⟨[], [(0, 16, 22, 138)], 0, 16, 19, 20, 21, 3, 1036, by decide, rfl, by decide, by decide, by decide, List.forall_mem_nil _, .inl ⟨3, rfl, dL_pushReversible_19, rfl⟩, by decide, dL_pushReversible_20, dL_pushReversible_21⟩
  cases List.mem_singleton.mp h
  exact ⟨[(0, 16, 19, 21)], [], 0, 16, 22, 23, 138, 3, 1513, by decide, rfl, by decide, by decide, by decide, List.forall_mem_cons.mpr ⟨⟨by decide, 2, 1036, by decide, by decide, by decide⟩, List.forall_mem_nil _⟩, .inl ⟨3, rfl, dL_pushReversible_22, rfl⟩, by decide, dL_pushReversible_23, dL_pushReversible_24⟩
set_option maxRecDepth 100000 in
theorem c_L_pushReversible {X : e_XT} {d : Nat} {p : e_Sp} {I : e_I} {J : e_Jt} {c : Nat × Nat} {w : e_Rw1} {Q : e_Rt → e_SS → Prop} {ao : Nat} {x1 : Int32} (hp : s_ok p) (h : s_c X d 192 [.ref (p.1 T_HALL 0), .int x1] (p, I, J, c, w) (l_Wb ao tb_L_pushReversible Q)) : s_c X (d + 1) 360 [.ref (p.1 T_HALL 0), .int x1, .ref ao] (p, I, J, c, w) Q := by
  refine m_L_pushReversible (Nat.le_of_ble_eq_true rfl) ?_
  show s_w _ _ _ 0 _ _ _ _
  refine w_op (pc' := 1) dL_pushReversible_0 rfl ?_
  refine w_op (pc' := 2) dL_pushReversible_1 rfl ?_
  refine w_op (pc' := 3) dL_pushReversible_2 rfl ?_
  refine w_op (pc' := 4) dL_pushReversible_3 rfl ?_
  refine w_callC (t := T_HALL) (As := [_]) (tb := tb_L_pushReversible) dL_pushReversible_4 rfl rM_X11_pushReversible (by decide) rfl rfl (by decide) (by decide) (Nat.le_of_ble_eq_true rfl) rfl (hp.1 _ rfl) rfl ct_L_pushReversible h ?_
  exact l_cB (g := 25) dL_pushReversible_7 dL_pushReversible_10 dL_pushReversible_11 dL_pushReversible_14 dL_pushReversible_15 dL_pushReversible_16 (by decide) dL_pushReversible_25 dL_pushReversible_26
abbrev tb_L_frame : List (Nat × Int) := [(2, 1), (1, 2)]
theorem ct_L_frame : ∀ E n, (E, n) ∈ tb_L_frame → l_ct K_L_frame 4 E n := by
  intro E n h
  rcases List.mem_cons.mp h with h | h
  · cases h
    exact ⟨[], [(0, 9, 15, 15)], 0, 9, 12, 13, 21, 3, 1036, by decide, rfl, by decide, by decide, by decide, List.forall_mem_nil _, .inl ⟨3, rfl, dL_frame_12, rfl⟩, by decide, dL_frame_13, dL_frame_14⟩
  cases List.mem_singleton.mp h
  exact ⟨[(0, 9, 12, 21)], [], 0, 9, 15, 16, 15, 3, 841, by decide, rfl, by decide, by decide, by decide, List.forall_mem_cons.mpr ⟨⟨by decide, 2, 1036, by decide, by decide, by decide⟩, List.forall_mem_nil _⟩, .inl ⟨3, rfl, dL_frame_15, rfl⟩, by decide, dL_frame_16, dL_frame_17⟩
set_option maxRecDepth 100000 in
theorem c_L_frame {X : e_XT} {d : Nat} {p : e_Sp} {I : e_I} {J : e_Jt} {c : Nat × Nat} {w : e_Rw1} {Q : e_Rt → e_SS → Prop} {ao : Nat} {x1 : Int32} (hp : s_ok p) (h : s_c X d 193 [.ref (p.1 T_HALL 0), .int x1] (p, I, J, c, w) (l_Wi ao tb_L_frame Q)) : s_c X (d + 1) 361 [.ref (p.1 T_HALL 0), .int x1, .ref ao] (p, I, J, c, w) Q := by
  refine m_L_frame (Nat.le_of_ble_eq_true rfl) ?_
  show s_w _ _ _ 0 _ _ _ _
  refine w_op (pc' := 1) dL_frame_0 rfl ?_
  refine w_op (pc' := 2) dL_frame_1 rfl ?_
  refine w_op (pc' := 3) dL_frame_2 rfl ?_
  refine w_op (pc' := 4) dL_frame_3 rfl ?_
  refine w_callC (t := T_HALL) (As := [_]) (tb := tb_L_frame) dL_frame_4 rfl rM_X11_frame (by decide) rfl rfl (by decide) (by decide) (Nat.le_of_ble_eq_true rfl) rfl (hp.1 _ rfl) rfl ct_L_frame h ?_
  exact l_cI (g := 18) dL_frame_7 dL_frame_8 dL_frame_9 (by decide) dL_frame_18 dL_frame_19
abbrev tb_L_cut : List (Nat × Int) := [(2, 1)]
theorem ct_L_cut : ∀ E n, (E, n) ∈ tb_L_cut → l_ct K_L_cut 4 E n := by
  intro E n h
  cases List.mem_singleton.mp h
  exact ⟨[], [], 0, 9, 12, 13, 21, 3, 1036, by decide, rfl, by decide, by decide, by decide, List.forall_mem_nil _, .inl ⟨3, rfl, dL_cut_12, rfl⟩, by decide, dL_cut_13, dL_cut_14⟩
set_option maxRecDepth 100000 in
theorem c_L_cut {X : e_XT} {d : Nat} {p : e_Sp} {I : e_I} {J : e_Jt} {c : Nat × Nat} {w : e_Rw1} {Q : e_Rt → e_SS → Prop} {ao : Nat} {x1 : Int32} (hp : s_ok p) (h : s_c X d 194 [.ref (p.1 T_HALL 0), .int x1] (p, I, J, c, w) (l_Wi ao tb_L_cut Q)) : s_c X (d + 1) 362 [.ref (p.1 T_HALL 0), .int x1, .ref ao] (p, I, J, c, w) Q := by
  refine m_L_cut (Nat.le_of_ble_eq_true rfl) ?_
  show s_w _ _ _ 0 _ _ _ _
  refine w_op (pc' := 1) dL_cut_0 rfl ?_
  refine w_op (pc' := 2) dL_cut_1 rfl ?_
  refine w_op (pc' := 3) dL_cut_2 rfl ?_
  refine w_op (pc' := 4) dL_cut_3 rfl ?_
  refine w_callC (t := T_HALL) (As := [_]) (tb := tb_L_cut) dL_cut_4 rfl rM_X11_cut (by decide) rfl rfl (by decide) (by decide) (Nat.le_of_ble_eq_true rfl) rfl (hp.1 _ rfl) rfl ct_L_cut h ?_
  exact l_cI (g := 15) dL_cut_7 dL_cut_8 dL_cut_9 (by decide) dL_cut_15 dL_cut_16
abbrev tb_L_turnTo : List (Nat × Int) := [(2, 1)]
theorem ct_L_turnTo : ∀ E n, (E, n) ∈ tb_L_turnTo → l_ct K_L_turnTo 4 E n := by
  intro E n h
  cases List.mem_singleton.mp h
  exact ⟨[], [], 0, 9, 12, 13, 21, 3, 1036, by decide, rfl, by decide, by decide, by decide, List.forall_mem_nil _, .inl ⟨3, rfl, dL_turnTo_12, rfl⟩, by decide, dL_turnTo_13, dL_turnTo_14⟩
set_option maxRecDepth 100000 in
theorem c_L_turnTo {X : e_XT} {d : Nat} {p : e_Sp} {I : e_I} {J : e_Jt} {c : Nat × Nat} {w : e_Rw1} {Q : e_Rt → e_SS → Prop} {ao : Nat} {x1 : Int32} (hp : s_ok p) (h : s_c X d 196 [.ref (p.1 T_HALL 0), .int x1] (p, I, J, c, w) (l_Wi ao tb_L_turnTo Q)) : s_c X (d + 1) 363 [.ref (p.1 T_HALL 0), .int x1, .ref ao] (p, I, J, c, w) Q := by
  refine m_L_turnTo (Nat.le_of_ble_eq_true rfl) ?_
  show s_w _ _ _ 0 _ _ _ _
  refine w_op (pc' := 1) dL_turnTo_0 rfl ?_
  refine w_op (pc' := 2) dL_turnTo_1 rfl ?_
  refine w_op (pc' := 3) dL_turnTo_2 rfl ?_
  refine w_op (pc' := 4) dL_turnTo_3 rfl ?_
  refine w_callC (t := T_HALL) (As := [_]) (tb := tb_L_turnTo) dL_turnTo_4 rfl rM_X11_turnTo (by decide) rfl rfl (by decide) (by decide) (Nat.le_of_ble_eq_true rfl) rfl (hp.1 _ rfl) rfl ct_L_turnTo h ?_
  exact l_cI (g := 15) dL_turnTo_7 dL_turnTo_8 dL_turnTo_9 (by decide) dL_turnTo_15 dL_turnTo_16
abbrev tb_L_wire : List (Nat × Int) := [(2, 1), (0, 2)]
theorem ct_L_wire : ∀ E n, (E, n) ∈ tb_L_wire → l_ct K_L_wire 9 E n := by
  intro E n h
  rcases List.mem_cons.mp h with h | h
  · cases h
    exact ⟨[], [(0, 21, 28, 13)], 0, 21, 24, 26, 21, 6, 1036, by decide, rfl, by decide, by decide, by decide, List.forall_mem_nil _, .inr ⟨dL_wire_24, rfl⟩, by decide, dL_wire_26, dL_wire_27⟩
  cases List.mem_singleton.mp h
  exact ⟨[(0, 21, 24, 21)], [], 0, 21, 28, 30, 13, 6, 840, by decide, rfl, by decide, by decide, by decide, List.forall_mem_cons.mpr ⟨⟨by decide, 2, 1036, by decide, by decide, by decide⟩, List.forall_mem_nil _⟩, .inr ⟨dL_wire_28, rfl⟩, by decide, dL_wire_30, dL_wire_31⟩
set_option maxRecDepth 100000 in
theorem c_L_wire {X : e_XT} {d : Nat} {p : e_Sp} {I : e_I} {J : e_Jt} {c : Nat × Nat} {w : e_Rw1} {Q : e_Rt → e_SS → Prop} {ao : Nat} {x1 x2 x3 x4 : Int32} (hp : s_ok p) (h : s_c X d 197 [.ref (p.1 T_HALL 0), .int x1, .int x2, .int x3, .int x4] (p, I, J, c, w) (l_Wb ao tb_L_wire Q)) : s_c X (d + 1) 364 [.ref (p.1 T_HALL 0), .int x1, .int x2, .int x3, .int x4, .ref ao] (p, I, J, c, w) Q := by
  refine m_L_wire (Nat.le_of_ble_eq_true rfl) ?_
  show s_w _ _ _ 0 _ _ _ _
  refine w_op (pc' := 2) dL_wire_0 rfl ?_
  refine w_op (pc' := 3) dL_wire_2 rfl ?_
  refine w_op (pc' := 4) dL_wire_3 rfl ?_
  refine w_op (pc' := 5) dL_wire_4 rfl ?_
  refine w_op (pc' := 6) dL_wire_5 rfl ?_
  refine w_op (pc' := 7) dL_wire_6 rfl ?_
  refine w_op (pc' := 9) dL_wire_7 rfl ?_
  refine w_callC (t := T_HALL) (As := [_, _, _, _]) (tb := tb_L_wire) dL_wire_9 rfl rM_X11_wire (by decide) rfl rfl (by decide) (by decide) (Nat.le_of_ble_eq_true rfl) rfl (hp.1 _ rfl) rfl ct_L_wire h ?_
  exact l_cB (g := 32) dL_wire_12 dL_wire_15 dL_wire_16 dL_wire_19 dL_wire_20 dL_wire_21 (by decide) dL_wire_32 dL_wire_33
abbrev tb_L_isOnRelay : List (Nat × Int) := [(2, 1)]
theorem ct_L_isOnRelay : ∀ E n, (E, n) ∈ tb_L_isOnRelay → l_ct K_L_isOnRelay 4 E n := by
  intro E n h
  cases List.mem_singleton.mp h
  exact ⟨[], [], 0, 16, 19, 20, 21, 3, 1036, by decide, rfl, by decide, by decide, by decide, List.forall_mem_nil _, .inl ⟨3, rfl, dL_isOnRelay_19, rfl⟩, by decide, dL_isOnRelay_20, dL_isOnRelay_21⟩
set_option maxRecDepth 100000 in
theorem c_L_isOnRelay {X : e_XT} {d : Nat} {p : e_Sp} {I : e_I} {J : e_Jt} {c : Nat × Nat} {w : e_Rw1} {Q : e_Rt → e_SS → Prop} {ao : Nat} {x1 : Int32} (hp : s_ok p) (h : s_c X d 199 [.ref (p.1 T_HALL 0), .int x1] (p, I, J, c, w) (l_Wb ao tb_L_isOnRelay Q)) : s_c X (d + 1) 365 [.ref (p.1 T_HALL 0), .int x1, .ref ao] (p, I, J, c, w) Q := by
  refine m_L_isOnRelay (Nat.le_of_ble_eq_true rfl) ?_
  show s_w _ _ _ 0 _ _ _ _
  refine w_op (pc' := 1) dL_isOnRelay_0 rfl ?_
  refine w_op (pc' := 2) dL_isOnRelay_1 rfl ?_
  refine w_op (pc' := 3) dL_isOnRelay_2 rfl ?_
  refine w_op (pc' := 4) dL_isOnRelay_3 rfl ?_
  refine w_callC (t := T_HALL) (As := [_]) (tb := tb_L_isOnRelay) dL_isOnRelay_4 rfl rM_X11_isOnRelay (by decide) rfl rfl (by decide) (by decide) (Nat.le_of_ble_eq_true rfl) rfl (hp.1 _ rfl) rfl ct_L_isOnRelay h ?_
  exact l_cB (g := 22) dL_isOnRelay_7 dL_isOnRelay_10 dL_isOnRelay_11 dL_isOnRelay_14 dL_isOnRelay_15 dL_isOnRelay_16 (by decide) dL_isOnRelay_22 dL_isOnRelay_23
abbrev tb_L_drive : List (Nat × Int) := [(2, 1)]
theorem ct_L_drive : ∀ E n, (E, n) ∈ tb_L_drive → l_ct K_L_drive 5 E n := by
  intro E n h
  cases List.mem_singleton.mp h
  exact ⟨[], [], 0, 10, 13, 15, 21, 4, 1036, by decide, rfl, by decide, by decide, by decide, List.forall_mem_nil _, .inr ⟨dL_drive_13, rfl⟩, by decide, dL_drive_15, dL_drive_16⟩
set_option maxRecDepth 100000 in
theorem c_L_drive {X : e_XT} {d : Nat} {p : e_Sp} {I : e_I} {J : e_Jt} {c : Nat × Nat} {w : e_Rw1} {Q : e_Rt → e_SS → Prop} {ao : Nat} {x1 x2 : Int32} (hp : s_ok p) (h : s_c X d 200 [.ref (p.1 T_HALL 0), .int x1, .int x2] (p, I, J, c, w) (l_Wi ao tb_L_drive Q)) : s_c X (d + 1) 366 [.ref (p.1 T_HALL 0), .int x1, .int x2, .ref ao] (p, I, J, c, w) Q := by
  refine m_L_drive (Nat.le_of_ble_eq_true rfl) ?_
  show s_w _ _ _ 0 _ _ _ _
  refine w_op (pc' := 1) dL_drive_0 rfl ?_
  refine w_op (pc' := 2) dL_drive_1 rfl ?_
  refine w_op (pc' := 3) dL_drive_2 rfl ?_
  refine w_op (pc' := 4) dL_drive_3 rfl ?_
  refine w_op (pc' := 5) dL_drive_4 rfl ?_
  refine w_callC (t := T_HALL) (As := [_, _]) (tb := tb_L_drive) dL_drive_5 rfl rM_X11_drive (by decide) rfl rfl (by decide) (by decide) (Nat.le_of_ble_eq_true rfl) rfl (hp.1 _ rfl) rfl ct_L_drive h ?_
  exact l_cI (g := 17) dL_drive_8 dL_drive_9 dL_drive_10 (by decide) dL_drive_17 dL_drive_18
abbrev tb_L_record : List (Nat × Int) := [(0, 1)]
theorem ct_L_record : ∀ E n, (E, n) ∈ tb_L_record → l_ct K_L_record 4 E n := by
  intro E n h
  cases List.mem_singleton.mp h
  exact ⟨[], [], 0, 9, 12, 13, 13, 3, 840, by decide, rfl, by decide, by decide, by decide, List.forall_mem_nil _, .inl ⟨3, rfl, dL_record_12, rfl⟩, by decide, dL_record_13, dL_record_14⟩
set_option maxRecDepth 100000 in
theorem c_L_record {X : e_XT} {d : Nat} {p : e_Sp} {I : e_I} {J : e_Jt} {c : Nat × Nat} {w : e_Rw1} {Q : e_Rt → e_SS → Prop} {ao : Nat} {x1 : Int32} (hp : s_ok p) (h : s_c X d 201 [.ref (p.1 T_HALL 0), .int x1] (p, I, J, c, w) (l_Wi ao tb_L_record Q)) : s_c X (d + 1) 367 [.ref (p.1 T_HALL 0), .int x1, .ref ao] (p, I, J, c, w) Q := by
  refine m_L_record (Nat.le_of_ble_eq_true rfl) ?_
  show s_w _ _ _ 0 _ _ _ _
  refine w_op (pc' := 1) dL_record_0 rfl ?_
  refine w_op (pc' := 2) dL_record_1 rfl ?_
  refine w_op (pc' := 3) dL_record_2 rfl ?_
  refine w_op (pc' := 4) dL_record_3 rfl ?_
  refine w_callC (t := T_HALL) (As := [_]) (tb := tb_L_record) dL_record_4 rfl rM_X11_record (by decide) rfl rfl (by decide) (by decide) (Nat.le_of_ble_eq_true rfl) rfl (hp.1 _ rfl) rfl ct_L_record h ?_
  exact l_cI (g := 15) dL_record_7 dL_record_8 dL_record_9 (by decide) dL_record_15 dL_record_16
abbrev tb_L_playBack : List (Nat × Int) := [(4, 1)]
theorem ct_L_playBack : ∀ E n, (E, n) ∈ tb_L_playBack → l_ct K_L_playBack 3 E n := by
  intro E n h
  cases List.mem_singleton.mp h
  exact ⟨[], [], 0, 8, 11, 12, 138, 2, 1513, by decide, rfl, by decide, by decide, by decide, List.forall_mem_nil _, .inl ⟨2, rfl, dL_playBack_11, rfl⟩, by decide, dL_playBack_12, dL_playBack_13⟩
set_option maxRecDepth 100000 in
theorem c_L_playBack {X : e_XT} {d : Nat} {p : e_Sp} {I : e_I} {J : e_Jt} {c : Nat × Nat} {w : e_Rw1} {Q : e_Rt → e_SS → Prop} {ao : Nat} (hp : s_ok p) (h : s_c X d 202 [.ref (p.1 T_HALL 0)] (p, I, J, c, w) (l_Wi ao tb_L_playBack Q)) : s_c X (d + 1) 368 [.ref (p.1 T_HALL 0), .ref ao] (p, I, J, c, w) Q := by
  refine m_L_playBack (Nat.le_of_ble_eq_true rfl) ?_
  show s_w _ _ _ 0 _ _ _ _
  refine w_op (pc' := 1) dL_playBack_0 rfl ?_
  refine w_op (pc' := 2) dL_playBack_1 rfl ?_
  refine w_op (pc' := 3) dL_playBack_2 rfl ?_
  refine w_callC (t := T_HALL) (As := []) (tb := tb_L_playBack) dL_playBack_3 rfl rM_X11_playBack (by decide) rfl rfl (by decide) (by decide) (Nat.le_of_ble_eq_true rfl) rfl (hp.1 _ rfl) rfl ct_L_playBack h ?_
  exact l_cI (g := 14) dL_playBack_6 dL_playBack_7 dL_playBack_8 (by decide) dL_playBack_14 dL_playBack_15
abbrev tb_L_scale : List (Nat × Int) := [(0, 1)]
theorem ct_L_scale : ∀ E n, (E, n) ∈ tb_L_scale → l_ct K_L_scale 5 E n := by
  intro E n h
  cases List.mem_singleton.mp h
  exact ⟨[], [], 0, 10, 13, 15, 13, 4, 840, by decide, rfl, by decide, by decide, by decide, List.forall_mem_nil _, .inr ⟨dL_scale_13, rfl⟩, by decide, dL_scale_15, dL_scale_16⟩
set_option maxRecDepth 100000 in
theorem c_L_scale {X : e_XT} {d : Nat} {p : e_Sp} {I : e_I} {J : e_Jt} {c : Nat × Nat} {w : e_Rw1} {Q : e_Rt → e_SS → Prop} {ao : Nat} {x1 x2 : Int32} (hp : s_ok p) (h : s_c X d 203 [.ref (p.1 T_HALL 0), .int x1, .int x2] (p, I, J, c, w) (l_Wi ao tb_L_scale Q)) : s_c X (d + 1) 369 [.ref (p.1 T_HALL 0), .int x1, .int x2, .ref ao] (p, I, J, c, w) Q := by
  refine m_L_scale (Nat.le_of_ble_eq_true rfl) ?_
  show s_w _ _ _ 0 _ _ _ _
  refine w_op (pc' := 1) dL_scale_0 rfl ?_
  refine w_op (pc' := 2) dL_scale_1 rfl ?_
  refine w_op (pc' := 3) dL_scale_2 rfl ?_
  refine w_op (pc' := 4) dL_scale_3 rfl ?_
  refine w_op (pc' := 5) dL_scale_4 rfl ?_
  refine w_callC (t := T_HALL) (As := [_, _]) (tb := tb_L_scale) dL_scale_5 rfl rM_X11_scale (by decide) rfl rfl (by decide) (by decide) (Nat.le_of_ble_eq_true rfl) rfl (hp.1 _ rfl) rfl ct_L_scale h ?_
  exact l_cI (g := 17) dL_scale_8 dL_scale_9 dL_scale_10 (by decide) dL_scale_17 dL_scale_18
abbrev tb_L_realise : List (Nat × Int) := [(2, 1), (0, 2), (3, 3)]
theorem ct_L_realise : ∀ E n, (E, n) ∈ tb_L_realise → l_ct K_L_realise 5 E n := by
  intro E n h
  rcases List.mem_cons.mp h with h | h
  · cases h
    exact ⟨[], [(0, 10, 17, 13), (0, 10, 21, 27)], 0, 10, 13, 15, 21, 4, 1036, by decide, rfl, by decide, by decide, by decide, List.forall_mem_nil _, .inr ⟨dL_realise_13, rfl⟩, by decide, dL_realise_15, dL_realise_16⟩
  rcases List.mem_cons.mp h with h | h
  · cases h
    exact ⟨[(0, 10, 13, 21)], [(0, 10, 21, 27)], 0, 10, 17, 19, 13, 4, 840, by decide, rfl, by decide, by decide, by decide, List.forall_mem_cons.mpr ⟨⟨by decide, 2, 1036, by decide, by decide, by decide⟩, List.forall_mem_nil _⟩, .inr ⟨dL_realise_17, rfl⟩, by decide, dL_realise_19, dL_realise_20⟩
  cases List.mem_singleton.mp h
  exact ⟨[(0, 10, 13, 21), (0, 10, 17, 13)], [], 0, 10, 21, 23, 27, 4, 1128, by decide, rfl, by decide, by decide, by decide, List.forall_mem_cons.mpr ⟨⟨by decide, 2, 1036, by decide, by decide, by decide⟩, List.forall_mem_cons.mpr ⟨⟨by decide, 0, 840, by decide, by decide, by decide⟩, List.forall_mem_nil _⟩⟩, .inr ⟨dL_realise_21, rfl⟩, by decide, dL_realise_23, dL_realise_24⟩
set_option maxRecDepth 100000 in
theorem c_L_realise {X : e_XT} {d : Nat} {p : e_Sp} {I : e_I} {J : e_Jt} {c : Nat × Nat} {w : e_Rw1} {Q : e_Rt → e_SS → Prop} {ao : Nat} {x1 x2 : Int32} (hp : s_ok p) (h : s_c X d 204 [.ref (p.1 T_HALL 0), .int x1, .int x2] (p, I, J, c, w) (l_Wi ao tb_L_realise Q)) : s_c X (d + 1) 370 [.ref (p.1 T_HALL 0), .int x1, .int x2, .ref ao] (p, I, J, c, w) Q := by
  refine m_L_realise (Nat.le_of_ble_eq_true rfl) ?_
  show s_w _ _ _ 0 _ _ _ _
  refine w_op (pc' := 1) dL_realise_0 rfl ?_
  refine w_op (pc' := 2) dL_realise_1 rfl ?_
  refine w_op (pc' := 3) dL_realise_2 rfl ?_
  refine w_op (pc' := 4) dL_realise_3 rfl ?_
  refine w_op (pc' := 5) dL_realise_4 rfl ?_
  refine w_callC (t := T_HALL) (As := [_, _]) (tb := tb_L_realise) dL_realise_5 rfl rM_X11_realise (by decide) rfl rfl (by decide) (by decide) (Nat.le_of_ble_eq_true rfl) rfl (hp.1 _ rfl) rfl ct_L_realise h ?_
  exact l_cI (g := 25) dL_realise_8 dL_realise_9 dL_realise_10 (by decide) dL_realise_25 dL_realise_26
abbrev tb_L_speakingShare : List (Nat × Int) := [(5, 1)]
theorem ct_L_speakingShare : ∀ E n, (E, n) ∈ tb_L_speakingShare → l_ct K_L_speakingShare 3 E n := by
  intro E n h
  cases List.mem_singleton.mp h
  exact ⟨[], [], 0, 8, 11, 12, 185, 2, 1790, by decide, rfl, by decide, by decide, by decide, List.forall_mem_nil _, .inl ⟨2, rfl, dL_speakingShare_11, rfl⟩, by decide, dL_speakingShare_12, dL_speakingShare_13⟩
set_option maxRecDepth 100000 in
theorem c_L_speakingShare {X : e_XT} {d : Nat} {p : e_Sp} {I : e_I} {J : e_Jt} {c : Nat × Nat} {w : e_Rw1} {Q : e_Rt → e_SS → Prop} {ao : Nat} (hp : s_ok p) (h : s_c X d 205 [.ref (p.1 T_HALL 0)] (p, I, J, c, w) (l_Wf ao tb_L_speakingShare Q)) : s_c X (d + 1) 371 [.ref (p.1 T_HALL 0), .ref ao] (p, I, J, c, w) Q := by
  refine m_L_speakingShare (Nat.le_of_ble_eq_true rfl) ?_
  show s_w _ _ _ 0 _ _ _ _
  refine w_op (pc' := 1) dL_speakingShare_0 rfl ?_
  refine w_op (pc' := 2) dL_speakingShare_1 rfl ?_
  refine w_op (pc' := 3) dL_speakingShare_2 rfl ?_
  refine w_callC (t := T_HALL) (As := []) (tb := tb_L_speakingShare) dL_speakingShare_3 rfl rM_X11_speakingShare (by decide) rfl rfl (by decide) (by decide) (Nat.le_of_ble_eq_true rfl) rfl (hp.1 _ rfl) rfl ct_L_speakingShare h ?_
  exact l_cF (g := 14) dL_speakingShare_6 dL_speakingShare_7 dL_speakingShare_8 (by decide) dL_speakingShare_14 dL_speakingShare_15
abbrev tb_L_meanPitch : List (Nat × Int) := [(5, 1)]
theorem ct_L_meanPitch : ∀ E n, (E, n) ∈ tb_L_meanPitch → l_ct K_L_meanPitch 3 E n := by
  intro E n h
  cases List.mem_singleton.mp h
  exact ⟨[], [], 0, 7, 10, 11, 185, 2, 1790, by decide, rfl, by decide, by decide, by decide, List.forall_mem_nil _, .inl ⟨2, rfl, dL_meanPitch_10, rfl⟩, by decide, dL_meanPitch_11, dL_meanPitch_12⟩
set_option maxRecDepth 100000 in
theorem c_L_meanPitch {X : e_XT} {d : Nat} {p : e_Sp} {I : e_I} {J : e_Jt} {c : Nat × Nat} {w : e_Rw1} {Q : e_Rt → e_SS → Prop} {ao : Nat} (hp : s_ok p) (h : s_c X d 206 [.ref (p.1 T_HALL 0)] (p, I, J, c, w) (l_Wd ao tb_L_meanPitch Q)) : s_c X (d + 1) 372 [.ref (p.1 T_HALL 0), .ref ao] (p, I, J, c, w) Q := by
  refine m_L_meanPitch (Nat.le_of_ble_eq_true rfl) ?_
  show s_w _ _ _ 0 _ _ _ _
  refine w_op (pc' := 1) dL_meanPitch_0 rfl ?_
  refine w_op (pc' := 2) dL_meanPitch_1 rfl ?_
  refine w_op (pc' := 3) dL_meanPitch_2 rfl ?_
  refine w_callC (t := T_HALL) (As := []) (tb := tb_L_meanPitch) dL_meanPitch_3 rfl rM_X11_meanPitch (by decide) rfl rfl (by decide) (by decide) (Nat.le_of_ble_eq_true rfl) rfl (hp.1 _ rfl) rfl ct_L_meanPitch h ?_
  exact l_cD (g := 13) dL_meanPitch_6 dL_meanPitch_7 (by decide) dL_meanPitch_13 dL_meanPitch_14
