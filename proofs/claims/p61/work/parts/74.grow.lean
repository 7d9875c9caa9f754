/-! 74: lists: copyOf, grow, add (printed by wip/whole/p74.py) -/
theorem nI_sh1 {n : Nat} (h : n < 2147483648) : nI n >>> ((1 : Int32) &&& 31) = nI (n / 2) := by
  have e : ((1 : Int32) &&& 31) = 1 := by decide
  rw [e]
  apply Int32.toInt_inj.mp
  rw [nI_toInt (by omega)]
  show (BitVec.sshiftRight' (nI n).toBitVec (BitVec.smod (1 : Int32).toBitVec 32)).toInt = _
  rw [BitVec.toInt_sshiftRight', show (BitVec.smod (1 : Int32).toBitVec 32).toNat = 1 by decide, show (nI n).toBitVec.toInt = (n : Int) from nI_toInt h, Int.shiftRight_eq_div_pow]
  rfl
set_option maxRecDepth 100000 in
set_option maxHeartbeats 4000000 in
theorem c_copyOf3 {X : e_XT} {d : Nat} {p : e_Sp} {I : e_I} {J : e_Jt} {c : Nat × Nat} {w : e_Rw1} {Q : e_Rt → e_SS → Prop} {l n m : Nat} (hl : p.2.1 T_LIST l = true) (hA : p.2.1 T_LARR l = true) (hsz : I f_l_size l = nI n) (hn : p.2.2.1 T_LARR l = n) (hnm : n ≤ m) (hm : m * 8 ≤ 536870912) (hc : c.1 < e_xb) (k : ∀ b, s_fr (p, I, J, c, w) b → Q (.inl (some (.ref b))) (p, I, J, (c.1 + 1, c.2 + m), fun b' => if b' = b then some (105, m, fun s => if s < n then .ref (p.1 (e_elT l) (e_elI l s)) else .null) else w b')) : s_c X (d + 1) 377 [.ref (p.1 T_LARR l), .int (nI m), .ref (e_xb + 9)] (p, I, J, c, w) Q := by
  refine m_J7_copyOf_6403c (Nat.le_of_ble_eq_true rfl) ?_
  show s_w _ _ _ 0 _ _ _ _
  refine w_op (pc' := 1) dJ7_copyOf_6403c_0 rfl ?_
  refine w_ldcM rfl dJ7_copyOf_6403c_1 ?_
  refine w_acmpne (t := 13) (by decide) dJ7_copyOf_6403c_3 ?_
  refine w_op (pc' := 7) dJ7_copyOf_6403c_6 rfl ?_
  refine w_anewarr (n := m) (ci := 24) dJ7_copyOf_6403c_7 rfl (Or.inr rfl) ⟨nI_pos' (by omega), nI_clamp (by omega)⟩ hm hc (fun b hb => ?_)
  refine w_show (S' := (p, I, J, (c.1 + 1, c.2 + m), fun b' => if b' = b then some (105, m, fun _ => .null) else w b')) rfl ?_
  refine w_goto (t := 24) dJ7_copyOf_6403c_10 (by decide) ?_
  refine w_op (pc' := 25) (ll' := [_, _, _, _]) dJ7_copyOf_6403c_24 rfl ?_
  refine w_op (pc' := 26) dJ7_copyOf_6403c_25 rfl ?_
  refine w_iconst (v := 0) dJ7_copyOf_6403c_26 rfl ?_
  refine w_op (pc' := 28) dJ7_copyOf_6403c_27 rfl ?_
  refine w_iconst (v := 0) dJ7_copyOf_6403c_28 rfl ?_
  refine w_op (pc' := 30) dJ7_copyOf_6403c_29 rfl ?_
  refine t_alen dJ7_copyOf_6403c_30 (by decide) hA ?_
  rw [show s_ln p T_LARR l = n from hn]
  refine w_op (pc' := 32) dJ7_copyOf_6403c_31 rfl ?_
  refine t_callS (As := [_, _]) dJ7_copyOf_6403c_32 rfl rM_J9_min_7cf53 (by decide) rfl rfl (by decide) (Nat.le_of_ble_eq_true rfl) (c_min ?_)
  show s_w _ _ _ 35 _ _ _ _
  rw [show s_min (nI n) (nI m) = nI n from if_neg (nI_nlt hnm (by omega))]
  refine w_copyL (l := l) (n := n) (m := m) (f := fun _ => .null) (by decide) rfl (by decide) dJ7_copyOf_6403c_35 hl hA hsz hn (by omega) (if_pos rfl) hnm ?_
  refine w_show (S' := (p, I, J, (c.1 + 1, c.2 + m), fun b' => if b' = b then some (105, m, fun s => if s < n then .ref (p.1 (e_elT l) (e_elI l s)) else .null) else w b')) ?_ ?_
  · congr 4; funext b'; by_cases e : b' = b <;> simp [e]
  refine w_op (pc' := 39) dJ7_copyOf_6403c_38 rfl ?_
  exact w_areturn dJ7_copyOf_6403c_39 ⟨rfl, k b hb⟩
set_option maxRecDepth 100000 in
set_option maxHeartbeats 4000000 in
theorem c_copyOfL {X : e_XT} {d : Nat} {p : e_Sp} {I : e_I} {J : e_Jt} {c : Nat × Nat} {w : e_Rw1} {Q : e_Rt → e_SS → Prop} {l n m : Nat} (hl : p.2.1 T_LIST l = true) (hA : p.2.1 T_LARR l = true) (hsz : I f_l_size l = nI n) (hn : p.2.2.1 T_LARR l = n) (hnm : n ≤ m) (hm : m * 8 ≤ 536870912) (hc : c.1 < e_xb) (k : ∀ b, s_fr (p, I, J, c, w) b → Q (.inl (some (.ref b))) (p, I, J, (c.1 + 1, c.2 + m), fun b' => if b' = b then some (105, m, fun s => if s < n then .ref (p.1 (e_elT l) (e_elI l s)) else .null) else w b')) : s_c X (d + 2) 376 [.ref (p.1 T_LARR l), .int (nI m)] (p, I, J, c, w) Q := by
  refine m_J7_copyOf_1904c (Nat.le_of_ble_eq_true rfl) ?_
  show s_w _ _ _ 0 _ _ _ _
  refine w_op (pc' := 1) dJ7_copyOf_1904c_0 rfl ?_
  refine w_op (pc' := 2) dJ7_copyOf_1904c_1 rfl ?_
  refine w_op (pc' := 3) dJ7_copyOf_1904c_2 rfl ?_
  refine w_getC rfl hA (Nat.le_of_ble_eq_true rfl) dJ7_copyOf_1904c_3 ?_
  refine t_callS (As := [_, _, _]) dJ7_copyOf_1904c_6 rfl rM_J7_copyOf_6403c (by decide) rfl rfl (by decide) (Nat.le_of_ble_eq_true rfl) (c_copyOf3 hl hA hsz hn hnm hm hc (fun b hb => ?_))
  show s_w _ _ _ 9 _ _ _ _
  exact w_areturn dJ7_copyOf_1904c_9 ⟨rfl, k b hb⟩
set_option maxRecDepth 100000 in
set_option maxHeartbeats 4000000 in
theorem c_growA {X : e_XT} {d : Nat} {p : e_Sp} {I : e_I} {J : e_Jt} {c : Nat × Nat} {w : e_Rw1} {Q : e_Rt → e_SS → Prop} {l n : Nat} (hl : p.2.1 T_LIST l = true) (hsz : I f_l_size l = nI n) (hn4 : n < 40000000) (hX : (X 8).1 = 0) (hc : c.1 < e_xb) (h0 : n = 0) (hE : p.1 T_LARR l = e_xb + 8) (k : ∀ b, s_fr (p, I, J, c, w) b → Q (.inl (some (.ref b))) (s_pv p T_LARR l b (s_cap n), I, J, (c.1 + 1, c.2 + s_cap n), w)) : s_c X (d + 3) 4 [.ref (p.1 T_LIST l), .int (nI (n + 1))] (p, I, J, c, w) Q := by
  subst h0
  refine m_Jx4a65c_grow_92f84 (Nat.le_of_ble_eq_true rfl) ?_
  show s_w _ _ _ 0 _ _ _ _
  refine w_op (pc' := 1) dJx4a65c_grow_92f84_0 rfl ?_
  refine t_getG1 (G := g_l_arr) dJx4a65c_grow_92f84_1 rfl rfl (by decide) rfl (fun _ => rfl) hl ?_
  rw [hE]
  refine t_xlen dJx4a65c_grow_92f84_4 (by decide) hc ?_
  rw [hX]
  refine w_op (pc' := 6) (ll' := [_, _, _, _]) dJx4a65c_grow_92f84_5 rfl ?_
  refine w_op (pc' := 7) dJx4a65c_grow_92f84_6 rfl ?_
  refine w_ifgt (t := 20) dJx4a65c_grow_92f84_7 (by decide) (fun c7 => absurd c7 (by decide)) (fun c7 => ?_)
  refine w_op (pc' := 11) dJx4a65c_grow_92f84_10 rfl ?_
  refine t_getG1 (G := g_l_arr) dJx4a65c_grow_92f84_11 rfl rfl (by decide) rfl (fun _ => rfl) hl ?_
  rw [hE]
  refine w_gets dJx4a65c_grow_92f84_14 rfl ?_
  refine w_acmpeq (t := 45) (by decide) dJx4a65c_grow_92f84_17 ?_
  refine w_op (pc' := 46) dJx4a65c_grow_92f84_45 rfl ?_
  refine w_bipush (v := 10) dJx4a65c_grow_92f84_46 rfl ?_
  refine w_op (pc' := 49) dJx4a65c_grow_92f84_48 rfl ?_
  refine t_callS (As := [_, _]) dJx4a65c_grow_92f84_49 rfl rM_J9_max_7cf53 (by decide) rfl rfl (by decide) (Nat.le_of_ble_eq_true rfl) (c_max ?_)
  show s_w _ _ _ 52 _ _ _ _
  rw [show s_max 10 (nI (0 + 1)) = nI 10 from s_max_nI 10 1 (by decide) (by decide)]
  refine w_anewarr (n := 10) (ci := 24) dJx4a65c_grow_92f84_52 rfl (Or.inr rfl) ⟨nI_pos' (by omega), nI_clamp (by omega)⟩ (by decide) hc (fun b hb => ?_)
  refine w_show (S' := (p, I, J, (c.1 + 1, c.2 + 10), fun b' => if b' = b then some (105, 10, fun _ => .null) else w b')) rfl ?_
  refine w_op (pc' := 56) dJx4a65c_grow_92f84_55 rfl ?_
  refine w_putLarr (l := l) (m := 10) dJx4a65c_grow_92f84_56 rfl hl hb.1 (by rw [hsz]; decide) (fun j hj => by rw [hsz] at hj; exact absurd hj (Nat.not_lt_zero _)) ?_
  exact w_areturn dJx4a65c_grow_92f84_59 ⟨rfl, k b hb⟩
set_option maxRecDepth 100000 in
set_option maxHeartbeats 4000000 in
theorem c_growB {X : e_XT} {d : Nat} {p : e_Sp} {I : e_I} {J : e_Jt} {c : Nat × Nat} {w : e_Rw1} {Q : e_Rt → e_SS → Prop} {l n : Nat} (hl : p.2.1 T_LIST l = true) (hsz : I f_l_size l = nI n) (hn4 : n < 40000000) (hX : (X 8).1 = 0) (hc : c.1 < e_xb) (h10 : 10 ≤ n) (hA : p.2.1 T_LARR l = true) (hn : p.2.2.1 T_LARR l = n) (k : ∀ b, s_fr (p, I, J, c, w) b → Q (.inl (some (.ref b))) (s_pv p T_LARR l b (s_cap n), I, J, (c.1 + 1, c.2 + s_cap n), w)) : s_c X (d + 3) 4 [.ref (p.1 T_LIST l), .int (nI (n + 1))] (p, I, J, c, w) Q := by
  have hcap : s_cap n = n + n / 2 := if_neg (by omega)
  refine m_Jx4a65c_grow_92f84 (Nat.le_of_ble_eq_true rfl) ?_
  show s_w _ _ _ 0 _ _ _ _
  refine w_op (pc' := 1) dJx4a65c_grow_92f84_0 rfl ?_
  refine t_getG1 (G := g_l_arr) dJx4a65c_grow_92f84_1 rfl rfl (by decide) rfl (fun _ => rfl) hl ?_
  refine t_alen dJx4a65c_grow_92f84_4 (by decide) hA ?_
  rw [show s_ln p T_LARR l = n from hn]
  refine w_op (pc' := 6) (ll' := [_, _, _, _]) dJx4a65c_grow_92f84_5 rfl ?_
  refine w_op (pc' := 7) dJx4a65c_grow_92f84_6 rfl ?_
  refine w_ifgt (t := 20) dJx4a65c_grow_92f84_7 (by decide) (fun c7 => ?_) (fun c7 => absurd (nI_lt (a := 0) (b := n) (by omega) (by omega)) c7)
  refine w_op (pc' := 21) dJx4a65c_grow_92f84_20 rfl ?_
  refine w_op (pc' := 22) dJx4a65c_grow_92f84_21 rfl ?_
  refine w_op (pc' := 23) dJx4a65c_grow_92f84_22 rfl ?_
  refine w_op (pc' := 24) dJx4a65c_grow_92f84_23 rfl ?_
  refine w_op (pc' := 25) dJx4a65c_grow_92f84_24 rfl ?_
  refine w_iconst (v := 1) dJx4a65c_grow_92f84_25 rfl ?_
  refine w_op (pc' := 27) dJx4a65c_grow_92f84_26 rfl ?_
  refine t_callS (As := [_, _, _]) dJx4a65c_grow_92f84_27 rfl rM_J8_newLength_cabcc (by decide) rfl rfl (by decide) (Nat.le_of_ble_eq_true rfl) ?_
  rw [show nI (n + 1) - nI n = nI 1 by rw [← nI_add, Int32.add_comm, Int32.add_sub_cancel], show nI n >>> ((1 : Int32) &&& 31) = nI (n / 2) from nI_sh1 (by omega)]
  refine c_newLength (by omega) (by omega) ?_
  show s_w _ _ _ 30 _ _ _ _
  rw [← hcap]
  refine w_op (pc' := 31) (ll' := [_, _, _, _]) dJx4a65c_grow_92f84_30 rfl ?_
  refine w_op (pc' := 32) dJx4a65c_grow_92f84_31 rfl ?_
  refine w_op (pc' := 33) dJx4a65c_grow_92f84_32 rfl ?_
  refine t_getG1 (G := g_l_arr) dJx4a65c_grow_92f84_33 rfl rfl (by decide) rfl (fun _ => rfl) hl ?_
  refine w_op (pc' := 37) dJx4a65c_grow_92f84_36 rfl ?_
  refine t_callS (As := [_, _]) dJx4a65c_grow_92f84_37 rfl rM_J7_copyOf_1904c (by decide) rfl rfl (by decide) (Nat.le_of_ble_eq_true rfl) (c_copyOfL hl hA hsz hn (by omega) (by omega) hc (fun b hb => ?_))
  show s_w _ _ _ 40 _ _ _ _
  refine w_op (pc' := 41) dJx4a65c_grow_92f84_40 rfl ?_
  refine w_putLarr (l := l) (m := s_cap n) dJx4a65c_grow_92f84_41 rfl hl hb.1 (by rw [hsz, nI_clamp (by omega)]; omega) (fun j hj => by rw [hsz, nI_clamp (by omega)] at hj; exact if_pos hj) ?_
  exact w_areturn dJx4a65c_grow_92f84_44 ⟨rfl, k b hb⟩
