/-! 9999999999999997m: the law's acts and questions (printed by wip/p61/mkm.py) -/
set_option maxRecDepth 100000 in
set_option maxHeartbeats 1600000 in
theorem c_acts {X : e_XT} {d T e ax k9 : Nat} {p : e_Sp} {I : e_I} {J : e_Jt} {c : Nat × Nat} {w : e_Rw1} {Q : e_Rt → e_SS → Prop} (hX0 : (X 0).1 < 2147483648) (hX : v_X X) (hk : k9 + 4 < 100000) (hT : T + 7 ≤ 500) (he : e ≤ 390) (h : z_O T e ax (p, I, J, c, w)) (kk : ∀ p' c' A JA, z_O (T + 6) 0 ax (p', A, JA, c', w) → Q (.inl (some (.int 1))) (p', A, JA, c', w)) : s_c X (d + 13) 405 [.ref ax, .ref (e_xb + 0), .int (nI k9)] (p, I, J, c, w) Q := by
  have hcc : c.1 < e_xb := h.c (by omega)
  refine m_L_acts (Nat.le_of_ble_eq_true rfl) ?_
  show s_w X (d + 13) K_L_acts 0 [some (.ref ax), some (.ref (e_xb + 0)), some (.int (nI k9)), none, none, none, none, none, none] [] (p, I, J, c, w) _
  refine w_op (K := K_L_acts) (pc' := 1) (ll' := [some (.ref ax), some (.ref (e_xb + 0)), some (.int (nI k9)), none, none, none, none, none, none]) (st' := [.ref (e_xb + 0)]) dL_acts_0 rfl ?_
  refine w_op (K := K_L_acts) (pc' := 2) (ll' := [some (.ref ax), some (.ref (e_xb + 0)), some (.int (nI k9)), none, none, none, none, none, none]) (st' := [.int (nI k9), .ref (e_xb + 0)]) dL_acts_1 rfl ?_
  refine w_iconst (K := K_L_acts) (v := (nI 1)) dL_acts_2 rfl ?_
  refine w_op (K := K_L_acts) (pc' := 4) (ll' := [some (.ref ax), some (.ref (e_xb + 0)), some (.int (nI k9)), none, none, none, none, none, none]) (st' := [.int ((nI k9) + (nI 1)), .ref (e_xb + 0)]) dL_acts_3 rfl ?_
  rw [nI_add]
  refine w_bipush (K := K_L_acts) (v := (nI 30)) dL_acts_4 rfl ?_
  refine t_callS (K := K_L_acts) (As := [.ref (e_xb + 0), .int (nI (k9 + 1)), .int (nI 30)]) (rest := []) dL_acts_6 rfl rM_L_pick (by decide) rfl rfl (by decide) (Nat.le_of_ble_eq_true rfl) (c_pick (d := d + 11) hX0 hcc (by omega) (by decide) (by decide) (fun a9 ha9 => ?_))
  show s_w _ _ _ 9 _ _ _ _
  refine w_op (K := K_L_acts) (pc' := 10) (ll' := [some (.ref ax), some (.ref (e_xb + 0)), some (.int (nI k9)), some (.int (nI a9)), none, none, none, none, none]) (st' := []) dL_acts_9 rfl ?_
  refine w_op (K := K_L_acts) (pc' := 11) (ll' := [some (.ref ax), some (.ref (e_xb + 0)), some (.int (nI k9)), some (.int (nI a9)), none, none, none, none, none]) (st' := [.ref (e_xb + 0)]) dL_acts_10 rfl ?_
  refine w_op (K := K_L_acts) (pc' := 12) (ll' := [some (.ref ax), some (.ref (e_xb + 0)), some (.int (nI k9)), some (.int (nI a9)), none, none, none, none, none]) (st' := [.int (nI k9), .ref (e_xb + 0)]) dL_acts_11 rfl ?_
  refine w_iconst (K := K_L_acts) (v := (nI 2)) dL_acts_12 rfl ?_
  refine w_op (K := K_L_acts) (pc' := 14) (ll' := [some (.ref ax), some (.ref (e_xb + 0)), some (.int (nI k9)), some (.int (nI a9)), none, none, none, none, none]) (st' := [.int ((nI k9) + (nI 2)), .ref (e_xb + 0)]) dL_acts_13 rfl ?_
  rw [nI_add]
  refine w_iconst (K := K_L_acts) (v := (nI 3)) dL_acts_14 rfl ?_
  refine t_callS (K := K_L_acts) (As := [.ref (e_xb + 0), .int (nI (k9 + 2)), .int (nI 3)]) (rest := []) dL_acts_15 rfl rM_L_pick (by decide) rfl rfl (by decide) (Nat.le_of_ble_eq_true rfl) (c_pick (d := d + 11) hX0 hcc (by omega) (by decide) (by decide) (fun b9 hb9 => ?_))
  show s_w _ _ _ 18 _ _ _ _
  refine w_op (K := K_L_acts) (pc' := 20) (ll' := [some (.ref ax), some (.ref (e_xb + 0)), some (.int (nI k9)), some (.int (nI a9)), some (.int (nI b9)), none, none, none, none]) (st' := []) dL_acts_18 rfl ?_
  refine w_op (K := K_L_acts) (pc' := 21) (ll' := [some (.ref ax), some (.ref (e_xb + 0)), some (.int (nI k9)), some (.int (nI a9)), some (.int (nI b9)), none, none, none, none]) (st' := [.ref (e_xb + 0)]) dL_acts_20 rfl ?_
  refine w_op (K := K_L_acts) (pc' := 22) (ll' := [some (.ref ax), some (.ref (e_xb + 0)), some (.int (nI k9)), some (.int (nI a9)), some (.int (nI b9)), none, none, none, none]) (st' := [.int (nI k9), .ref (e_xb + 0)]) dL_acts_21 rfl ?_
  refine w_iconst (K := K_L_acts) (v := (nI 3)) dL_acts_22 rfl ?_
  refine w_op (K := K_L_acts) (pc' := 24) (ll' := [some (.ref ax), some (.ref (e_xb + 0)), some (.int (nI k9)), some (.int (nI a9)), some (.int (nI b9)), none, none, none, none]) (st' := [.int ((nI k9) + (nI 3)), .ref (e_xb + 0)]) dL_acts_23 rfl ?_
  rw [nI_add]
  refine w_bipush (K := K_L_acts) (v := (nI 9)) dL_acts_24 rfl ?_
  refine t_callS (K := K_L_acts) (As := [.ref (e_xb + 0), .int (nI (k9 + 3)), .int (nI 9)]) (rest := []) dL_acts_26 rfl rM_L_pick (by decide) rfl rfl (by decide) (Nat.le_of_ble_eq_true rfl) (c_pick (d := d + 11) hX0 hcc (by omega) (by decide) (by decide) (fun c9 hc9 => ?_))
  show s_w _ _ _ 29 _ _ _ _
  refine w_op (K := K_L_acts) (pc' := 31) (ll' := [some (.ref ax), some (.ref (e_xb + 0)), some (.int (nI k9)), some (.int (nI a9)), some (.int (nI b9)), some (.int (nI c9)), none, none, none]) (st' := []) dL_acts_29 rfl ?_
  refine w_op (K := K_L_acts) (pc' := 32) (ll' := [some (.ref ax), some (.ref (e_xb + 0)), some (.int (nI k9)), some (.int (nI a9)), some (.int (nI b9)), some (.int (nI c9)), none, none, none]) (st' := [.ref (e_xb + 0)]) dL_acts_31 rfl ?_
  refine w_op (K := K_L_acts) (pc' := 33) (ll' := [some (.ref ax), some (.ref (e_xb + 0)), some (.int (nI k9)), some (.int (nI a9)), some (.int (nI b9)), some (.int (nI c9)), none, none, none]) (st' := [.int (nI k9), .ref (e_xb + 0)]) dL_acts_32 rfl ?_
  refine w_bipush (K := K_L_acts) (v := (nI 20)) dL_acts_33 rfl ?_
  refine t_callS (K := K_L_acts) (As := [.ref (e_xb + 0), .int (nI k9), .int (nI 20)]) (rest := []) dL_acts_35 rfl rM_L_pick (by decide) rfl rfl (by decide) (Nat.le_of_ble_eq_true rfl) (c_pick (d := d + 11) hX0 hcc (by omega) (by decide) (by decide) (fun v9 hv9 => ?_))
  show s_w _ _ _ 38 _ _ _ _
  rcases (show v9 = 0 ∨ v9 = 1 ∨ v9 = 2 ∨ v9 = 3 ∨ v9 = 4 ∨ v9 = 5 ∨ v9 = 6 ∨ v9 = 7 ∨ v9 = 8 ∨ v9 = 9 ∨ v9 = 10 ∨ v9 = 11 ∨ v9 = 12 ∨ v9 = 13 ∨ v9 = 14 ∨ v9 = 15 ∨ v9 = 16 ∨ v9 = 17 ∨ v9 = 18 ∨ v9 = 19 by omega) with rfl | rfl | rfl | rfl | rfl | rfl | rfl | rfl | rfl | rfl | rfl | rfl | rfl | rfl | rfl | rfl | rfl | rfl | rfl | rfl
  · exact w_op (K := K_L_acts) (pc' := 128) (ll' := [some (.ref ax), some (.ref (e_xb + 0)), some (.int (nI k9)), some (.int (nI a9)), some (.int (nI b9)), some (.int (nI c9)), none, none, none]) (st' := []) dL_acts_38 rfl (ac_128 hT he h ha9 hb9 hc9 hX kk)
  · exact w_op (K := K_L_acts) (pc' := 128) (ll' := [some (.ref ax), some (.ref (e_xb + 0)), some (.int (nI k9)), some (.int (nI a9)), some (.int (nI b9)), some (.int (nI c9)), none, none, none]) (st' := []) dL_acts_38 rfl (ac_128 hT he h ha9 hb9 hc9 hX kk)
  · exact w_op (K := K_L_acts) (pc' := 128) (ll' := [some (.ref ax), some (.ref (e_xb + 0)), some (.int (nI k9)), some (.int (nI a9)), some (.int (nI b9)), some (.int (nI c9)), none, none, none]) (st' := []) dL_acts_38 rfl (ac_128 hT he h ha9 hb9 hc9 hX kk)
  · exact w_op (K := K_L_acts) (pc' := 128) (ll' := [some (.ref ax), some (.ref (e_xb + 0)), some (.int (nI k9)), some (.int (nI a9)), some (.int (nI b9)), some (.int (nI c9)), none, none, none]) (st' := []) dL_acts_38 rfl (ac_128 hT he h ha9 hb9 hc9 hX kk)
  · exact w_op (K := K_L_acts) (pc' := 176) (ll' := [some (.ref ax), some (.ref (e_xb + 0)), some (.int (nI k9)), some (.int (nI a9)), some (.int (nI b9)), some (.int (nI c9)), none, none, none]) (st' := []) dL_acts_38 rfl (ac_176 hT he h ha9 hb9 hc9 hX kk)
  · exact w_op (K := K_L_acts) (pc' := 176) (ll' := [some (.ref ax), some (.ref (e_xb + 0)), some (.int (nI k9)), some (.int (nI a9)), some (.int (nI b9)), some (.int (nI c9)), none, none, none]) (st' := []) dL_acts_38 rfl (ac_176 hT he h ha9 hb9 hc9 hX kk)
  · exact w_op (K := K_L_acts) (pc' := 176) (ll' := [some (.ref ax), some (.ref (e_xb + 0)), some (.int (nI k9)), some (.int (nI a9)), some (.int (nI b9)), some (.int (nI c9)), none, none, none]) (st' := []) dL_acts_38 rfl (ac_176 hT he h ha9 hb9 hc9 hX kk)
  · exact w_op (K := K_L_acts) (pc' := 222) (ll' := [some (.ref ax), some (.ref (e_xb + 0)), some (.int (nI k9)), some (.int (nI a9)), some (.int (nI b9)), some (.int (nI c9)), none, none, none]) (st' := []) dL_acts_38 rfl (ac_222 hT he h ha9 hb9 hc9 hX kk)
  · exact w_op (K := K_L_acts) (pc' := 239) (ll' := [some (.ref ax), some (.ref (e_xb + 0)), some (.int (nI k9)), some (.int (nI a9)), some (.int (nI b9)), some (.int (nI c9)), none, none, none]) (st' := []) dL_acts_38 rfl (ac_239 hT he h ha9 hb9 hc9 hX kk)
  · exact w_op (K := K_L_acts) (pc' := 273) (ll' := [some (.ref ax), some (.ref (e_xb + 0)), some (.int (nI k9)), some (.int (nI a9)), some (.int (nI b9)), some (.int (nI c9)), none, none, none]) (st' := []) dL_acts_38 rfl (ac_273 hT he h ha9 hb9 hc9 hX kk)
  · exact w_op (K := K_L_acts) (pc' := 389) (ll' := [some (.ref ax), some (.ref (e_xb + 0)), some (.int (nI k9)), some (.int (nI a9)), some (.int (nI b9)), some (.int (nI c9)), none, none, none]) (st' := []) dL_acts_38 rfl (ac_389 hT he h ha9 hb9 hc9 hX kk)
  · exact w_op (K := K_L_acts) (pc' := 413) (ll' := [some (.ref ax), some (.ref (e_xb + 0)), some (.int (nI k9)), some (.int (nI a9)), some (.int (nI b9)), some (.int (nI c9)), none, none, none]) (st' := []) dL_acts_38 rfl (ac_413 hT he h ha9 hb9 hc9 hX kk)
  · exact w_op (K := K_L_acts) (pc' := 466) (ll' := [some (.ref ax), some (.ref (e_xb + 0)), some (.int (nI k9)), some (.int (nI a9)), some (.int (nI b9)), some (.int (nI c9)), none, none, none]) (st' := []) dL_acts_38 rfl (ac_466 hT he h ha9 hb9 hc9 hX kk)
  · exact w_op (K := K_L_acts) (pc' := 493) (ll' := [some (.ref ax), some (.ref (e_xb + 0)), some (.int (nI k9)), some (.int (nI a9)), some (.int (nI b9)), some (.int (nI c9)), none, none, none]) (st' := []) dL_acts_38 rfl (ac_493 hT he h ha9 hb9 hc9 hX kk)
  · exact w_op (K := K_L_acts) (pc' := 544) (ll' := [some (.ref ax), some (.ref (e_xb + 0)), some (.int (nI k9)), some (.int (nI a9)), some (.int (nI b9)), some (.int (nI c9)), none, none, none]) (st' := []) dL_acts_38 rfl (ac_544 hT he h ha9 hb9 hc9 hX kk)
  · exact w_op (K := K_L_acts) (pc' := 572) (ll' := [some (.ref ax), some (.ref (e_xb + 0)), some (.int (nI k9)), some (.int (nI a9)), some (.int (nI b9)), some (.int (nI c9)), none, none, none]) (st' := []) dL_acts_38 rfl (ac_572 hT he h ha9 hb9 hc9 hX kk)
  · exact w_op (K := K_L_acts) (pc' := 611) (ll' := [some (.ref ax), some (.ref (e_xb + 0)), some (.int (nI k9)), some (.int (nI a9)), some (.int (nI b9)), some (.int (nI c9)), none, none, none]) (st' := []) dL_acts_38 rfl (ac_611 hT he h ha9 hb9 hc9 hX kk)
  · exact w_op (K := K_L_acts) (pc' := 647) (ll' := [some (.ref ax), some (.ref (e_xb + 0)), some (.int (nI k9)), some (.int (nI a9)), some (.int (nI b9)), some (.int (nI c9)), none, none, none]) (st' := []) dL_acts_38 rfl (ac_647 hT he h ha9 hb9 hc9 hX kk)
  · exact w_op (K := K_L_acts) (pc' := 677) (ll' := [some (.ref ax), some (.ref (e_xb + 0)), some (.int (nI k9)), some (.int (nI a9)), some (.int (nI b9)), some (.int (nI c9)), none, none, none]) (st' := []) dL_acts_38 rfl (ac_677 hT he h ha9 hb9 hc9 hX kk)
  · exact w_op (K := K_L_acts) (pc' := 739) (ll' := [some (.ref ax), some (.ref (e_xb + 0)), some (.int (nI k9)), some (.int (nI a9)), some (.int (nI b9)), some (.int (nI c9)), none, none, none]) (st' := []) dL_acts_38 rfl (ac_739 hT he h ha9 hb9 hc9 hX kk)

