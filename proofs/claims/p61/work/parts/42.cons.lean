/-! 42: keys and console, what is read (printed by wip/whole/p42.py) -/
theorem s_ixo {x : Int32} {N : Nat} (h0 : 0 ≤ x) (h1 : x < nI N) (hN : N < 2147483648) : s_ix x x.toNatClampNeg N := by
  obtain ⟨j, hj, rfl⟩ := s_nat h0 h1 hN
  exact ⟨h0, rfl, by rw [nI_clamp (by omega)]; exact hj⟩
/-- the class' knobs and ranks: their number, their things -/
def s_C (p : e_Sp) (I : e_I) (nk nr : Nat) : Prop := s_ok p ∧ (nk ≤ 40 ∧ I f_l_size 1 = nI nk) ∧ (nr ≤ 10 ∧ I f_l_size 0 = nI nr) ∧
  (∀ k, k < nk → p.2.1 T_KNOB k = true ∧ (p.2.1 T_STOP k = true ↔ I f_k_kind k = 115) ∧ (p.2.1 T_COUP k = true ↔ (I f_k_kind k = 117 ∨ I f_k_kind k = 99)) ∧ ∃ dv, dv < 3 ∧ I f_k_division k = nI dv) ∧
  (∀ r, r < nr → p.2.1 T_RANK r = true)
theorem s_C.kn {p : e_Sp} {I : e_I} {nk nr k : Nat} (h : s_C p I nk nr) (hk : k < nk) : p.2.1 T_KNOB k = true := (h.2.2.2.1 k hk).1
theorem s_C.st {p : e_Sp} {I : e_I} {nk nr k : Nat} (h : s_C p I nk nr) (hk : k < nk) : p.2.1 T_STOP k = true ↔ I f_k_kind k = 115 := (h.2.2.2.1 k hk).2.1
theorem s_C.co {p : e_Sp} {I : e_I} {nk nr k : Nat} (h : s_C p I nk nr) (hk : k < nk) : p.2.1 T_COUP k = true ↔ (I f_k_kind k = 117 ∨ I f_k_kind k = 99) := (h.2.2.2.1 k hk).2.2.1
def s_lo (I : e_I) (x : Int32) : Int32 := if x < 0 ∨ 3 ≤ x then -1 else I f_a_lowest x.toNatClampNeg
def s_hi (I : e_I) (x : Int32) : Int32 := if x < 0 ∨ 3 ≤ x then -1 else I f_a_highest x.toNatClampNeg
def s_tk (I : e_I) (x y : Int32) : Int32 := if s_idx x y < 0 then -1 else I f_a_pressedAt (s_kn x y)
def s_any3 (I : e_I) : Bool := decide (0 ≤ I f_a_lowest 0) || (decide (0 ≤ I f_a_lowest 1) || decide (0 ≤ I f_a_lowest 2))
/-- a relay is on, by its number -/
def s_ro (I : e_I) (x : Int32) : Bool := decide (0 ≤ x) && (decide (x < 16) && decide (I f_a_relaysOn x.toNatClampNeg ≠ 0))
/-- a knob counts as drawn -/
def s_dr (I : e_I) (k : Nat) : Bool := decide (I f_k_isOut k ≠ 0) || s_ro I (I f_k_relay k)
def s_so (I : e_I) (k : Nat) : Bool := decide (I f_k_kind k = 115) && (decide (I f_isTutti 0 ≠ 0) || (s_dr I k || (decide (0 < I f_s_stage k) && decide (I f_s_stage k ≤ I f_crescendo 0))))
def s_isco (I : e_I) (k : Nat) : Bool := decide (I f_k_kind k = 117) || decide (I f_k_kind k = 99)
def s_wy (I : e_I) (k : Nat) : Bool := s_isco I k && (s_dr I k == decide (I f_k_kind k = 99))
def s_cmb (op : Int32) (a b : Int32) : Bool := if op = 38 then decide (a ≠ 0) && decide (b ≠ 0) else if op = 124 then decide (a ≠ 0) || decide (b ≠ 0) else if op = 94 then decide (a ≠ b) else decide (op = 33) && decide (a = 0)
/-- a coupler takes a key -/
def s_tks (I : e_I) (j : Nat) (y now : Int32) : Bool := s_dn I (I f_c_from j) y && (if I f_c_kind j = 109 then decide (y = s_hi I (I f_c_from j)) else if I f_c_kind j = 98 then decide (y = s_lo I (I f_c_from j)) else decide (I f_c_kind j = 97) || decide (s_tk I (I f_c_from j) y = now))
def s_src (I : e_I) (nk : Nat) (x : Int32) : Bool := if 400 ≤ x then s_ro I (x - 400) else if 100 ≤ x then s_dn I (x / 100 - 1) (x - x / 100 * 100) else decide (0 ≤ x) && (decide (x < nI nk) && decide (I f_k_isOut x.toNatClampNeg ≠ 0))
set_option maxRecDepth 100000 in
set_option maxHeartbeats 4000000 in
theorem c_X3_lowestOf {X : e_XT} {d : Nat} {p : e_Sp} {I : e_I} {J : e_Jt} {c : Nat × Nat} {w : e_Rw1} {Q : e_Rt → e_SS → Prop} {x : Int32} (hp : s_ok p) (k : Q (.inl (some (.int (s_lo I x)))) (p, I, J, c, w)) : s_c X (d + 0) 53 [.ref (p.1 T_KEYS 0), .int x] (p, I, J, c, w) Q := by
  refine m_X3_lowestOf (Nat.le_of_ble_eq_true rfl) ?_
  show s_w _ _ _ 0 _ _ _ _
  refine w_op (pc' := 1) dX3_lowestOf_0 rfl ?_
  refine w_iflt (t := 9) dX3_lowestOf_1 (by decide) (fun c1 => ?_) (fun c1 => ?_)
  · refine w_iconst (v := (-1)) dX3_lowestOf_9 rfl ?_
    refine w_goto (t := 19) dX3_lowestOf_10 (by decide) ?_
    exact w_ireturn dX3_lowestOf_19 ⟨rfl, s_eqi (by unfold s_lo; grind) k⟩
  · refine w_op (pc' := 5) dX3_lowestOf_4 rfl ?_
    refine w_iconst (v := 3) dX3_lowestOf_5 rfl ?_
    refine w_icmplt (t := 13) dX3_lowestOf_6 (by decide) (fun c6 => ?_) (fun c6 => ?_)
    · refine w_op (pc' := 14) dX3_lowestOf_13 rfl ?_
      refine t_getG0 (G := g_y_lowest) dX3_lowestOf_14 rfl rfl (by decide) rfl (fun _ => rfl) (hp.1 _ rfl) ?_
      refine w_op (pc' := 18) dX3_lowestOf_17 rfl ?_
      refine t_iald0 (F := f_a_lowest) dX3_lowestOf_18 rfl (by decide) rfl (hp.1 _ rfl) (s_ixo (N := 3) (Int32.not_lt.mp c1) c6 (by decide)) (s_ixo (N := 3) (Int32.not_lt.mp c1) c6 (by decide)).2.2 ?_
      exact w_ireturn dX3_lowestOf_19 ⟨rfl, s_eqi (by unfold s_lo; grind) k⟩
    · refine w_iconst (v := (-1)) dX3_lowestOf_9 rfl ?_
      refine w_goto (t := 19) dX3_lowestOf_10 (by decide) ?_
      exact w_ireturn dX3_lowestOf_19 ⟨rfl, s_eqi (by unfold s_lo; grind) k⟩
set_option maxRecDepth 100000 in
set_option maxHeartbeats 4000000 in
theorem c_X3_highestOf {X : e_XT} {d : Nat} {p : e_Sp} {I : e_I} {J : e_Jt} {c : Nat × Nat} {w : e_Rw1} {Q : e_Rt → e_SS → Prop} {x : Int32} (hp : s_ok p) (k : Q (.inl (some (.int (s_hi I x)))) (p, I, J, c, w)) : s_c X (d + 0) 52 [.ref (p.1 T_KEYS 0), .int x] (p, I, J, c, w) Q := by
  refine m_X3_highestOf (Nat.le_of_ble_eq_true rfl) ?_
  show s_w _ _ _ 0 _ _ _ _
  refine w_op (pc' := 1) dX3_highestOf_0 rfl ?_
  refine w_iflt (t := 9) dX3_highestOf_1 (by decide) (fun c1 => ?_) (fun c1 => ?_)
  · refine w_iconst (v := (-1)) dX3_highestOf_9 rfl ?_
    refine w_goto (t := 19) dX3_highestOf_10 (by decide) ?_
    exact w_ireturn dX3_highestOf_19 ⟨rfl, s_eqi (by unfold s_hi; grind) k⟩
  · refine w_op (pc' := 5) dX3_highestOf_4 rfl ?_
    refine w_iconst (v := 3) dX3_highestOf_5 rfl ?_
    refine w_icmplt (t := 13) dX3_highestOf_6 (by decide) (fun c6 => ?_) (fun c6 => ?_)
    · refine w_op (pc' := 14) dX3_highestOf_13 rfl ?_
      refine t_getG0 (G := g_y_highest) dX3_highestOf_14 rfl rfl (by decide) rfl (fun _ => rfl) (hp.1 _ rfl) ?_
      refine w_op (pc' := 18) dX3_highestOf_17 rfl ?_
      refine t_iald0 (F := f_a_highest) dX3_highestOf_18 rfl (by decide) rfl (hp.1 _ rfl) (s_ixo (N := 3) (Int32.not_lt.mp c1) c6 (by decide)) (s_ixo (N := 3) (Int32.not_lt.mp c1) c6 (by decide)).2.2 ?_
      exact w_ireturn dX3_highestOf_19 ⟨rfl, s_eqi (by unfold s_hi; grind) k⟩
    · refine w_iconst (v := (-1)) dX3_highestOf_9 rfl ?_
      refine w_goto (t := 19) dX3_highestOf_10 (by decide) ?_
      exact w_ireturn dX3_highestOf_19 ⟨rfl, s_eqi (by unfold s_hi; grind) k⟩
set_option maxRecDepth 100000 in
set_option maxHeartbeats 4000000 in
theorem c_X3_tickOf {X : e_XT} {d : Nat} {p : e_Sp} {I : e_I} {J : e_Jt} {c : Nat × Nat} {w : e_Rw1} {Q : e_Rt → e_SS → Prop} {x y : Int32} (hp : s_ok p) (k : Q (.inl (some (.int (s_tk I x y)))) (p, I, J, c, w)) : s_c X (d + 1) 54 [.ref (p.1 T_KEYS 0), .int x, .int y] (p, I, J, c, w) Q := by
  refine m_X3_tickOf (Nat.le_of_ble_eq_true rfl) ?_
  show s_w _ _ _ 0 _ _ _ _
  refine w_op (pc' := 1) dX3_tickOf_0 rfl ?_
  refine w_op (pc' := 2) dX3_tickOf_1 rfl ?_
  refine t_callS (As := [_, _]) dX3_tickOf_2 rfl rM_X3_indexOf (by decide) rfl rfl (by decide) (Nat.le_of_ble_eq_true rfl) (c_X3_indexOf ?_)
  show s_w _ _ _ 5 _ _ _ _
  refine w_op (pc' := 6) (ll' := [_, _, _, _]) dX3_tickOf_5 rfl ?_
  refine w_op (pc' := 7) dX3_tickOf_6 rfl ?_
  refine w_ifge (t := 14) dX3_tickOf_7 (by decide) (fun c7 => ?_) (fun c7 => ?_)
  · refine w_op (pc' := 15) dX3_tickOf_14 rfl ?_
    refine t_getG0 (G := g_y_pressedAt) dX3_tickOf_15 rfl rfl (by decide) rfl (fun _ => rfl) (hp.1 _ rfl) ?_
    refine w_op (pc' := 19) dX3_tickOf_18 rfl ?_
    refine t_iald0 (F := f_a_pressedAt) dX3_tickOf_19 rfl (by decide) rfl (hp.1 _ rfl) (s_idx_ix (s_isk_nn (Int32.not_lt.mpr c7))) (s_isk.lt (s_isk_nn (Int32.not_lt.mpr c7))) ?_
    exact w_ireturn dX3_tickOf_20 ⟨rfl, s_eqi (by unfold s_tk; grind) k⟩
  · refine w_iconst (v := (-1)) dX3_tickOf_10 rfl ?_
    refine w_goto (t := 20) dX3_tickOf_11 (by decide) ?_
    exact w_ireturn dX3_tickOf_20 ⟨rfl, s_eqi (by unfold s_tk; grind) k⟩
set_option maxRecDepth 100000 in
set_option maxHeartbeats 4000000 in
theorem c_X3_isAnyPressed {X : e_XT} {d : Nat} {p : e_Sp} {I : e_I} {J : e_Jt} {c : Nat × Nat} {w : e_Rw1} {Q : e_Rt → e_SS → Prop} (hp : s_ok p) (k : Q (.inl (some (.int (bI (s_any3 I))))) (p, I, J, c, w)) : s_c X (d + 0) 51 [.ref (p.1 T_KEYS 0)] (p, I, J, c, w) Q := by
  refine m_X3_isAnyPressed (Nat.le_of_ble_eq_true rfl) ?_
  show s_w _ _ _ 0 _ _ _ _
  refine w_op (pc' := 1) dX3_isAnyPressed_0 rfl ?_
  refine t_getG0 (G := g_y_lowest) dX3_isAnyPressed_1 rfl rfl (by decide) rfl (fun _ => rfl) (hp.1 _ rfl) ?_
  refine w_iconst (v := 0) dX3_isAnyPressed_4 rfl ?_
  refine t_iald0 (F := f_a_lowest) dX3_isAnyPressed_5 rfl (by decide) rfl (hp.1 _ rfl) (s_ix.nI (n := 0) (N := 3) (by decide) (by decide)) (by decide) ?_
  refine w_ifge (t := 27) dX3_isAnyPressed_6 (by decide) (fun c6 => ?_) (fun c6 => ?_)
  · refine w_iconst (v := 1) dX3_isAnyPressed_27 rfl ?_
    refine w_goto (t := 32) dX3_isAnyPressed_28 (by decide) ?_
    exact w_ireturn dX3_isAnyPressed_32 ⟨s_rcb (by first | exact Or.inl rfl | exact Or.inr rfl | exact bI_or _), s_eqi (by unfold s_any3; grind) k⟩
  · refine w_op (pc' := 10) dX3_isAnyPressed_9 rfl ?_
    refine t_getG0 (G := g_y_lowest) dX3_isAnyPressed_10 rfl rfl (by decide) rfl (fun _ => rfl) (hp.1 _ rfl) ?_
    refine w_iconst (v := 1) dX3_isAnyPressed_13 rfl ?_
    refine t_iald0 (F := f_a_lowest) dX3_isAnyPressed_14 rfl (by decide) rfl (hp.1 _ rfl) (s_ix.nI (n := 1) (N := 3) (by decide) (by decide)) (by decide) ?_
    refine w_ifge (t := 27) dX3_isAnyPressed_15 (by decide) (fun c15 => ?_) (fun c15 => ?_)
    · refine w_iconst (v := 1) dX3_isAnyPressed_27 rfl ?_
      refine w_goto (t := 32) dX3_isAnyPressed_28 (by decide) ?_
      exact w_ireturn dX3_isAnyPressed_32 ⟨s_rcb (by first | exact Or.inl rfl | exact Or.inr rfl | exact bI_or _), s_eqi (by unfold s_any3; grind) k⟩
    · refine w_op (pc' := 19) dX3_isAnyPressed_18 rfl ?_
      refine t_getG0 (G := g_y_lowest) dX3_isAnyPressed_19 rfl rfl (by decide) rfl (fun _ => rfl) (hp.1 _ rfl) ?_
      refine w_iconst (v := 2) dX3_isAnyPressed_22 rfl ?_
      refine t_iald0 (F := f_a_lowest) dX3_isAnyPressed_23 rfl (by decide) rfl (hp.1 _ rfl) (s_ix.nI (n := 2) (N := 3) (by decide) (by decide)) (by decide) ?_
      refine w_iflt (t := 31) dX3_isAnyPressed_24 (by decide) (fun c24 => ?_) (fun c24 => ?_)
      · refine w_iconst (v := 0) dX3_isAnyPressed_31 rfl ?_
        exact w_ireturn dX3_isAnyPressed_32 ⟨s_rcb (by first | exact Or.inl rfl | exact Or.inr rfl | exact bI_or _), s_eqi (by unfold s_any3; grind) k⟩
      · refine w_iconst (v := 1) dX3_isAnyPressed_27 rfl ?_
        refine w_goto (t := 32) dX3_isAnyPressed_28 (by decide) ?_
        exact w_ireturn dX3_isAnyPressed_32 ⟨s_rcb (by first | exact Or.inl rfl | exact Or.inr rfl | exact bI_or _), s_eqi (by unfold s_any3; grind) k⟩
set_option maxRecDepth 100000 in
set_option maxHeartbeats 4000000 in
theorem c_X0_isRelayOn {X : e_XT} {d : Nat} {p : e_Sp} {I : e_I} {J : e_Jt} {c : Nat × Nat} {w : e_Rw1} {Q : e_Rt → e_SS → Prop} {x : Int32} (hp : s_ok p) (k : Q (.inl (some (.int (bI (s_ro I x))))) (p, I, J, c, w)) : s_c X (d + 0) 18 [.ref (p.1 T_CONS 0), .int x] (p, I, J, c, w) Q := by
  refine m_X0_isRelayOn (Nat.le_of_ble_eq_true rfl) ?_
  show s_w _ _ _ 0 _ _ _ _
  refine w_op (pc' := 1) dX0_isRelayOn_0 rfl ?_
  refine w_iflt (t := 23) dX0_isRelayOn_1 (by decide) (fun c1 => ?_) (fun c1 => ?_)
  · refine w_iconst (v := 0) dX0_isRelayOn_23 rfl ?_
    exact w_ireturn dX0_isRelayOn_24 ⟨s_rcb (by first | exact Or.inl rfl | exact Or.inr rfl | exact bI_or _), s_eqi (by unfold s_ro; grind) k⟩
  · refine w_op (pc' := 5) dX0_isRelayOn_4 rfl ?_
    refine w_bipush (v := 16) dX0_isRelayOn_5 rfl ?_
    refine w_icmpge (t := 23) dX0_isRelayOn_7 (by decide) (fun c7 => ?_) (fun c7 => ?_)
    · refine w_iconst (v := 0) dX0_isRelayOn_23 rfl ?_
      exact w_ireturn dX0_isRelayOn_24 ⟨s_rcb (by first | exact Or.inl rfl | exact Or.inr rfl | exact bI_or _), s_eqi (by unfold s_ro; grind) k⟩
    · refine w_op (pc' := 11) dX0_isRelayOn_10 rfl ?_
      refine t_getG0 (G := g_n_relaysOn) dX0_isRelayOn_11 rfl rfl (by decide) rfl (fun _ => rfl) (hp.1 _ rfl) ?_
      refine w_op (pc' := 15) dX0_isRelayOn_14 rfl ?_
      refine t_bald0 (F := f_a_relaysOn) dX0_isRelayOn_15 rfl (by decide) rfl (hp.1 _ rfl) (s_ixo (N := 16) (Int32.not_lt.mp c1) (Int32.not_le.mp c7) (by decide)) (s_ixo (N := 16) (Int32.not_lt.mp c1) (Int32.not_le.mp c7) (by decide)).2.2 ?_
      refine w_ifeq (t := 23) dX0_isRelayOn_16 (by decide) (fun c16 => ?_) (fun c16 => ?_)
      · refine w_iconst (v := 0) dX0_isRelayOn_23 rfl ?_
        exact w_ireturn dX0_isRelayOn_24 ⟨s_rcb (by first | exact Or.inl rfl | exact Or.inr rfl | exact bI_or _), s_eqi (by unfold s_ro; grind) k⟩
      · refine w_iconst (v := 1) dX0_isRelayOn_19 rfl ?_
        refine w_goto (t := 24) dX0_isRelayOn_20 (by decide) ?_
        exact w_ireturn dX0_isRelayOn_24 ⟨s_rcb (by first | exact Or.inl rfl | exact Or.inr rfl | exact bI_or _), s_eqi (by unfold s_ro; grind) k⟩
set_option maxRecDepth 100000 in
set_option maxHeartbeats 4000000 in
theorem c_X0_countsAsDrawn {X : e_XT} {d : Nat} {p : e_Sp} {I : e_I} {J : e_Jt} {c : Nat × Nat} {w : e_Rw1} {Q : e_Rt → e_SS → Prop} {j : Nat} (hp : s_ok p) (hj : p.2.1 T_KNOB j = true) (k : Q (.inl (some (.int (bI (s_dr I j))))) (p, I, J, c, w)) : s_c X (d + 0) 22 [.ref (p.1 T_CONS 0), .ref (p.1 T_KNOB j)] (p, I, J, c, w) Q := by
  refine m_X0_countsAsDrawn (Nat.le_of_ble_eq_true rfl) ?_
  show s_w _ _ _ 0 _ _ _ _
  refine w_op (pc' := 1) dX0_countsAsDrawn_0 rfl ?_
  refine t_getI (F := f_k_relay) dX0_countsAsDrawn_1 rfl rfl (by decide) rfl ⟨rfl, fun _ => rfl⟩ (by assumption) ?_
  refine w_op (pc' := 5) (ll' := [_, _, _]) dX0_countsAsDrawn_4 rfl ?_
  refine w_op (pc' := 6) dX0_countsAsDrawn_5 rfl ?_
  refine t_getI (F := f_k_isOut) dX0_countsAsDrawn_6 rfl rfl (by decide) rfl ⟨rfl, fun _ => rfl⟩ (by assumption) ?_
  refine w_ifne (t := 31) dX0_countsAsDrawn_9 (by decide) (fun c9 => ?_) (fun c9 => ?_)
  · refine w_iconst (v := 1) dX0_countsAsDrawn_31 rfl ?_
    refine w_goto (t := 36) dX0_countsAsDrawn_32 (by decide) ?_
    exact w_ireturn dX0_countsAsDrawn_36 ⟨s_rcb (by first | exact Or.inl rfl | exact Or.inr rfl | exact bI_or _), s_eqi (by unfold s_dr s_ro; grind) k⟩
  · refine w_op (pc' := 13) dX0_countsAsDrawn_12 rfl ?_
    refine w_iflt (t := 35) dX0_countsAsDrawn_13 (by decide) (fun c13 => ?_) (fun c13 => ?_)
    · refine w_iconst (v := 0) dX0_countsAsDrawn_35 rfl ?_
      exact w_ireturn dX0_countsAsDrawn_36 ⟨s_rcb (by first | exact Or.inl rfl | exact Or.inr rfl | exact bI_or _), s_eqi (by unfold s_dr s_ro; grind) k⟩
    · refine w_op (pc' := 17) dX0_countsAsDrawn_16 rfl ?_
      refine w_bipush (v := 16) dX0_countsAsDrawn_17 rfl ?_
      refine w_icmpge (t := 35) dX0_countsAsDrawn_19 (by decide) (fun c19 => ?_) (fun c19 => ?_)
      · refine w_iconst (v := 0) dX0_countsAsDrawn_35 rfl ?_
        exact w_ireturn dX0_countsAsDrawn_36 ⟨s_rcb (by first | exact Or.inl rfl | exact Or.inr rfl | exact bI_or _), s_eqi (by unfold s_dr s_ro; grind) k⟩
      · refine w_op (pc' := 23) dX0_countsAsDrawn_22 rfl ?_
        refine t_getG0 (G := g_n_relaysOn) dX0_countsAsDrawn_23 rfl rfl (by decide) rfl (fun _ => rfl) (hp.1 _ rfl) ?_
        refine w_op (pc' := 27) dX0_countsAsDrawn_26 rfl ?_
        refine t_bald0 (F := f_a_relaysOn) dX0_countsAsDrawn_27 rfl (by decide) rfl (hp.1 _ rfl) (s_ixo (N := 16) (Int32.not_lt.mp c13) (Int32.not_le.mp c19) (by decide)) (s_ixo (N := 16) (Int32.not_lt.mp c13) (Int32.not_le.mp c19) (by decide)).2.2 ?_
        refine w_ifeq (t := 35) dX0_countsAsDrawn_28 (by decide) (fun c28 => ?_) (fun c28 => ?_)
        · refine w_iconst (v := 0) dX0_countsAsDrawn_35 rfl ?_
          exact w_ireturn dX0_countsAsDrawn_36 ⟨s_rcb (by first | exact Or.inl rfl | exact Or.inr rfl | exact bI_or _), s_eqi (by unfold s_dr s_ro; grind) k⟩
        · refine w_iconst (v := 1) dX0_countsAsDrawn_31 rfl ?_
          refine w_goto (t := 36) dX0_countsAsDrawn_32 (by decide) ?_
          exact w_ireturn dX0_countsAsDrawn_36 ⟨s_rcb (by first | exact Or.inl rfl | exact Or.inr rfl | exact bI_or _), s_eqi (by unfold s_dr s_ro; grind) k⟩
set_option maxRecDepth 100000 in
set_option maxHeartbeats 4000000 in
theorem c_X0_isSounding {X : e_XT} {d : Nat} {p : e_Sp} {I : e_I} {J : e_Jt} {c : Nat × Nat} {w : e_Rw1} {Q : e_Rt → e_SS → Prop} {j : Nat} (hp : s_ok p) (hj : p.2.1 T_KNOB j = true) (hs : p.2.1 T_STOP j = true ↔ I f_k_kind j = 115) (k : Q (.inl (some (.int (bI (s_so I j))))) (p, I, J, c, w)) : s_c X (d + 1) 23 [.ref (p.1 T_CONS 0), .ref (p.1 T_KNOB j)] (p, I, J, c, w) Q := by
  refine m_X0_isSounding (Nat.le_of_ble_eq_true rfl) ?_
  show s_w _ _ _ 0 _ _ _ _
  refine w_op (pc' := 1) dX0_isSounding_0 rfl ?_
  refine t_getStop dX0_isSounding_1 rfl (by assumption) ?_
  by_cases z1 : p.2.1 T_STOP (j) = true
  · rw [if_pos z1]
    refine w_op (pc' := 5) (ll' := [_, _, _]) dX0_isSounding_4 rfl ?_
    refine w_op (pc' := 6) dX0_isSounding_5 rfl ?_
    refine w_ifnonnull_t (t := 11) dX0_isSounding_6 (by decide) ?_
    refine w_op (pc' := 12) dX0_isSounding_11 rfl ?_
    refine t_getI (F := f_isTutti) dX0_isSounding_12 rfl rfl (by decide) rfl ⟨rfl, fun _ => rfl⟩ (hp.1 _ rfl) ?_
    refine w_ifne (t := 44) dX0_isSounding_15 (by decide) (fun c15 => ?_) (fun c15 => ?_)
    · refine w_iconst (v := 1) dX0_isSounding_44 rfl ?_
      refine w_goto (t := 49) dX0_isSounding_45 (by decide) ?_
      exact w_ireturn dX0_isSounding_49 ⟨s_rcb (by first | exact Or.inl rfl | exact Or.inr rfl | exact bI_or _), s_eqi (by unfold s_so; grind) k⟩
    · refine w_op (pc' := 19) dX0_isSounding_18 rfl ?_
      refine w_op (pc' := 20) dX0_isSounding_19 rfl ?_
      refine t_callV (t := T_CONS) (As := [_]) dX0_isSounding_20 rfl rM_X0_countsAsDrawn (by decide) rfl rfl (by decide) (by decide) (Nat.le_of_ble_eq_true rfl) rfl (hp.1 _ rfl) (c_X0_countsAsDrawn hp (by assumption) ?_)
      show s_w _ _ _ 23 _ _ _ _
      refine w_ifne (t := 44) dX0_isSounding_23 (by decide) (fun c23 => ?_) (fun c23 => ?_)
      · refine w_iconst (v := 1) dX0_isSounding_44 rfl ?_
        refine w_goto (t := 49) dX0_isSounding_45 (by decide) ?_
        exact w_ireturn dX0_isSounding_49 ⟨s_rcb (by first | exact Or.inl rfl | exact Or.inr rfl | exact bI_or _), s_eqi (by unfold s_so; grind) k⟩
      · refine w_op (pc' := 27) dX0_isSounding_26 rfl ?_
        refine t_getI (F := f_s_stage) dX0_isSounding_27 rfl rfl (by decide) rfl ⟨rfl, fun _ => rfl⟩ (by assumption) ?_
        refine w_ifle (t := 48) dX0_isSounding_30 (by decide) (fun c30 => ?_) (fun c30 => ?_)
        · refine w_iconst (v := 0) dX0_isSounding_48 rfl ?_
          exact w_ireturn dX0_isSounding_49 ⟨s_rcb (by first | exact Or.inl rfl | exact Or.inr rfl | exact bI_or _), s_eqi (by unfold s_so; grind) k⟩
        · refine w_op (pc' := 34) dX0_isSounding_33 rfl ?_
          refine t_getI (F := f_crescendo) dX0_isSounding_34 rfl rfl (by decide) rfl ⟨rfl, fun _ => rfl⟩ (hp.1 _ rfl) ?_
          refine w_op (pc' := 38) dX0_isSounding_37 rfl ?_
          refine t_getI (F := f_s_stage) dX0_isSounding_38 rfl rfl (by decide) rfl ⟨rfl, fun _ => rfl⟩ (by assumption) ?_
          refine w_icmplt (t := 48) dX0_isSounding_41 (by decide) (fun c41 => ?_) (fun c41 => ?_)
          · refine w_iconst (v := 0) dX0_isSounding_48 rfl ?_
            exact w_ireturn dX0_isSounding_49 ⟨s_rcb (by first | exact Or.inl rfl | exact Or.inr rfl | exact bI_or _), s_eqi (by unfold s_so; grind) k⟩
          · refine w_iconst (v := 1) dX0_isSounding_44 rfl ?_
            refine w_goto (t := 49) dX0_isSounding_45 (by decide) ?_
            exact w_ireturn dX0_isSounding_49 ⟨s_rcb (by first | exact Or.inl rfl | exact Or.inr rfl | exact bI_or _), s_eqi (by unfold s_so; grind) k⟩
  · rw [if_neg z1]
    refine w_op (pc' := 5) (ll' := [_, _, _]) dX0_isSounding_4 rfl ?_
    refine w_op (pc' := 6) dX0_isSounding_5 rfl ?_
    refine w_ifnonnull_f dX0_isSounding_6 ?_
    refine w_iconst (v := 0) dX0_isSounding_9 rfl ?_
    exact w_ireturn dX0_isSounding_10 ⟨s_rcb (by first | exact Or.inl rfl | exact Or.inr rfl | exact bI_or _), s_eqi (by unfold s_so; grind) k⟩
set_option maxRecDepth 100000 in
set_option maxHeartbeats 4000000 in
theorem c_X0_isWay {X : e_XT} {d : Nat} {p : e_Sp} {I : e_I} {J : e_Jt} {c : Nat × Nat} {w : e_Rw1} {Q : e_Rt → e_SS → Prop} {j : Nat} (hp : s_ok p) (hj : p.2.1 T_KNOB j = true) (hs : p.2.1 T_COUP j = true ↔ (I f_k_kind j = 117 ∨ I f_k_kind j = 99)) (k : Q (.inl (some (.int (bI (s_wy I j))))) (p, I, J, c, w)) : s_c X (d + 1) 21 [.ref (p.1 T_CONS 0), .ref (p.1 T_KNOB j)] (p, I, J, c, w) Q := by
  refine m_X0_isWay (Nat.le_of_ble_eq_true rfl) ?_
  show s_w _ _ _ 0 _ _ _ _
  refine w_op (pc' := 1) dX0_isWay_0 rfl ?_
  refine t_getCoup dX0_isWay_1 rfl (by assumption) ?_
  by_cases z1 : p.2.1 T_COUP (j) = true
  · rw [if_pos z1]
    refine w_ifnull_f dX0_isWay_4 ?_
    refine w_op (pc' := 8) dX0_isWay_7 rfl ?_
    refine w_op (pc' := 9) dX0_isWay_8 rfl ?_
    refine t_callV (t := T_CONS) (As := [_]) dX0_isWay_9 rfl rM_X0_countsAsDrawn (by decide) rfl rfl (by decide) (by decide) (Nat.le_of_ble_eq_true rfl) rfl (hp.1 _ rfl) (c_X0_countsAsDrawn hp (by assumption) ?_)
    show s_w _ _ _ 12 _ _ _ _
    refine w_op (pc' := 13) dX0_isWay_12 rfl ?_
    refine t_getI (F := f_k_kind) dX0_isWay_13 rfl rfl (by decide) rfl ⟨rfl, fun _ => rfl⟩ (by assumption) ?_
    refine w_bipush (v := 99) dX0_isWay_16 rfl ?_
    refine w_icmpne (t := 25) dX0_isWay_18 (by decide) (fun c18 => ?_) (fun c18 => ?_)
    · refine w_iconst (v := 0) dX0_isWay_25 rfl ?_
      refine w_icmpne (t := 33) dX0_isWay_26 (by decide) (fun c26 => ?_) (fun c26 => ?_)
      · refine w_iconst (v := 0) dX0_isWay_33 rfl ?_
        exact w_ireturn dX0_isWay_34 ⟨s_rcb (by first | exact Or.inl rfl | exact Or.inr rfl | exact bI_or _), s_eqi (by unfold s_wy s_isco; grind) k⟩
      · refine w_iconst (v := 1) dX0_isWay_29 rfl ?_
        refine w_goto (t := 34) dX0_isWay_30 (by decide) ?_
        exact w_ireturn dX0_isWay_34 ⟨s_rcb (by first | exact Or.inl rfl | exact Or.inr rfl | exact bI_or _), s_eqi (by unfold s_wy s_isco; grind) k⟩
    · refine w_iconst (v := 1) dX0_isWay_21 rfl ?_
      refine w_goto (t := 26) dX0_isWay_22 (by decide) ?_
      refine w_icmpne (t := 33) dX0_isWay_26 (by decide) (fun c26 => ?_) (fun c26 => ?_)
      · refine w_iconst (v := 0) dX0_isWay_33 rfl ?_
        exact w_ireturn dX0_isWay_34 ⟨s_rcb (by first | exact Or.inl rfl | exact Or.inr rfl | exact bI_or _), s_eqi (by unfold s_wy s_isco; grind) k⟩
      · refine w_iconst (v := 1) dX0_isWay_29 rfl ?_
        refine w_goto (t := 34) dX0_isWay_30 (by decide) ?_
        exact w_ireturn dX0_isWay_34 ⟨s_rcb (by first | exact Or.inl rfl | exact Or.inr rfl | exact bI_or _), s_eqi (by unfold s_wy s_isco; grind) k⟩
  · rw [if_neg z1]
    refine w_ifnull_t (t := 33) dX0_isWay_4 (by decide) ?_
    refine w_iconst (v := 0) dX0_isWay_33 rfl ?_
    exact w_ireturn dX0_isWay_34 ⟨s_rcb (by first | exact Or.inl rfl | exact Or.inr rfl | exact bI_or _), s_eqi (by unfold s_wy s_isco; grind) k⟩
set_option maxRecDepth 100000 in
set_option maxHeartbeats 4000000 in
theorem c_X0_combines {X : e_XT} {d : Nat} {p : e_Sp} {I : e_I} {J : e_Jt} {c : Nat × Nat} {w : e_Rw1} {Q : e_Rt → e_SS → Prop} {x y z : Int32} (k : Q (.inl (some (.int (bI (s_cmb x y z))))) (p, I, J, c, w)) : s_c X (d + 0) 20 [.int x, .int y, .int z] (p, I, J, c, w) Q := by
  refine m_X0_combines (Nat.le_of_ble_eq_true rfl) ?_
  show s_w _ _ _ 0 _ _ _ _
  refine w_op (pc' := 1) dX0_combines_0 rfl ?_
  refine w_bipush (v := 38) dX0_combines_1 rfl ?_
  refine w_icmpne (t := 20) dX0_combines_3 (by decide) (fun c3 => ?_) (fun c3 => ?_)
  · refine w_op (pc' := 21) dX0_combines_20 rfl ?_
    refine w_bipush (v := 124) dX0_combines_21 rfl ?_
    refine w_icmpne (t := 40) dX0_combines_23 (by decide) (fun c23 => ?_) (fun c23 => ?_)
    · refine w_op (pc' := 41) dX0_combines_40 rfl ?_
      refine w_bipush (v := 94) dX0_combines_41 rfl ?_
      refine w_icmpne (t := 57) dX0_combines_43 (by decide) (fun c43 => ?_) (fun c43 => ?_)
      · refine w_op (pc' := 58) dX0_combines_57 rfl ?_
        refine w_bipush (v := 33) dX0_combines_58 rfl ?_
        refine w_icmpne (t := 71) dX0_combines_60 (by decide) (fun c60 => ?_) (fun c60 => ?_)
        · refine w_iconst (v := 0) dX0_combines_71 rfl ?_
          exact w_ireturn dX0_combines_72 ⟨s_rcb (by first | exact Or.inl rfl | exact Or.inr rfl | exact bI_or _), s_eqi (by unfold s_cmb; grind) k⟩
        · refine w_op (pc' := 64) dX0_combines_63 rfl ?_
          refine w_ifne (t := 71) dX0_combines_64 (by decide) (fun c64 => ?_) (fun c64 => ?_)
          · refine w_iconst (v := 0) dX0_combines_71 rfl ?_
            exact w_ireturn dX0_combines_72 ⟨s_rcb (by first | exact Or.inl rfl | exact Or.inr rfl | exact bI_or _), s_eqi (by unfold s_cmb; grind) k⟩
          · refine w_iconst (v := 1) dX0_combines_67 rfl ?_
            refine w_goto (t := 72) dX0_combines_68 (by decide) ?_
            exact w_ireturn dX0_combines_72 ⟨s_rcb (by first | exact Or.inl rfl | exact Or.inr rfl | exact bI_or _), s_eqi (by unfold s_cmb; grind) k⟩
      · refine w_op (pc' := 47) dX0_combines_46 rfl ?_
        refine w_op (pc' := 48) dX0_combines_47 rfl ?_
        refine w_icmpeq (t := 55) dX0_combines_48 (by decide) (fun c48 => ?_) (fun c48 => ?_)
        · refine w_iconst (v := 0) dX0_combines_55 rfl ?_
          exact w_ireturn dX0_combines_56 ⟨s_rcb (by first | exact Or.inl rfl | exact Or.inr rfl | exact bI_or _), s_eqi (by unfold s_cmb; grind) k⟩
        · refine w_iconst (v := 1) dX0_combines_51 rfl ?_
          refine w_goto (t := 56) dX0_combines_52 (by decide) ?_
          exact w_ireturn dX0_combines_56 ⟨s_rcb (by first | exact Or.inl rfl | exact Or.inr rfl | exact bI_or _), s_eqi (by unfold s_cmb; grind) k⟩
    · refine w_op (pc' := 27) dX0_combines_26 rfl ?_
      refine w_ifne (t := 34) dX0_combines_27 (by decide) (fun c27 => ?_) (fun c27 => ?_)
      · refine w_iconst (v := 1) dX0_combines_34 rfl ?_
        refine w_goto (t := 39) dX0_combines_35 (by decide) ?_
        exact w_ireturn dX0_combines_39 ⟨s_rcb (by first | exact Or.inl rfl | exact Or.inr rfl | exact bI_or _), s_eqi (by unfold s_cmb; grind) k⟩
      · refine w_op (pc' := 31) dX0_combines_30 rfl ?_
        refine w_ifeq (t := 38) dX0_combines_31 (by decide) (fun c31 => ?_) (fun c31 => ?_)
        · refine w_iconst (v := 0) dX0_combines_38 rfl ?_
          exact w_ireturn dX0_combines_39 ⟨s_rcb (by first | exact Or.inl rfl | exact Or.inr rfl | exact bI_or _), s_eqi (by unfold s_cmb; grind) k⟩
        · refine w_iconst (v := 1) dX0_combines_34 rfl ?_
          refine w_goto (t := 39) dX0_combines_35 (by decide) ?_
          exact w_ireturn dX0_combines_39 ⟨s_rcb (by first | exact Or.inl rfl | exact Or.inr rfl | exact bI_or _), s_eqi (by unfold s_cmb; grind) k⟩
  · refine w_op (pc' := 7) dX0_combines_6 rfl ?_
    refine w_ifeq (t := 18) dX0_combines_7 (by decide) (fun c7 => ?_) (fun c7 => ?_)
    · refine w_iconst (v := 0) dX0_combines_18 rfl ?_
      exact w_ireturn dX0_combines_19 ⟨s_rcb (by first | exact Or.inl rfl | exact Or.inr rfl | exact bI_or _), s_eqi (by unfold s_cmb; grind) k⟩
    · refine w_op (pc' := 11) dX0_combines_10 rfl ?_
      refine w_ifeq (t := 18) dX0_combines_11 (by decide) (fun c11 => ?_) (fun c11 => ?_)
      · refine w_iconst (v := 0) dX0_combines_18 rfl ?_
        exact w_ireturn dX0_combines_19 ⟨s_rcb (by first | exact Or.inl rfl | exact Or.inr rfl | exact bI_or _), s_eqi (by unfold s_cmb; grind) k⟩
      · refine w_iconst (v := 1) dX0_combines_14 rfl ?_
        refine w_goto (t := 19) dX0_combines_15 (by decide) ?_
        exact w_ireturn dX0_combines_19 ⟨s_rcb (by first | exact Or.inl rfl | exact Or.inr rfl | exact bI_or _), s_eqi (by unfold s_cmb; grind) k⟩
set_option maxRecDepth 100000 in
set_option maxHeartbeats 4000000 in
theorem c_X2_takes {X : e_XT} {d : Nat} {p : e_Sp} {I : e_I} {J : e_Jt} {c : Nat × Nat} {w : e_Rw1} {Q : e_Rt → e_SS → Prop} {j : Nat} {y z : Int32} (hp : s_ok p) (hj : p.2.1 T_COUP j = true) (k : Q (.inl (some (.int (bI (s_tks I j y z))))) (p, I, J, c, w)) : s_c X (d + 2) 47 [.ref (p.1 T_COUP j), .int y, .ref (p.1 T_KEYS 0), .int z] (p, I, J, c, w) Q := by
  refine m_X2_takes (Nat.le_of_ble_eq_true rfl) ?_
  show s_w _ _ _ 0 _ _ _ _
  refine w_op (pc' := 1) dX2_takes_0 rfl ?_
  refine w_op (pc' := 2) dX2_takes_1 rfl ?_
  refine t_getI (F := f_c_from) dX2_takes_2 rfl rfl (by decide) rfl ⟨rfl, fun _ => rfl⟩ (by assumption) ?_
  refine w_op (pc' := 6) dX2_takes_5 rfl ?_
  refine t_callV (t := T_KEYS) (As := [_, _]) dX2_takes_6 rfl rM_X3_isPressed (by decide) rfl rfl (by decide) (by decide) (Nat.le_of_ble_eq_true rfl) rfl (hp.1 _ rfl) (c_X3_isPressed hp ?_)
  show s_w _ _ _ 9 _ _ _ _
  refine w_ifne (t := 14) dX2_takes_9 (by decide) (fun c9 => ?_) (fun c9 => ?_)
  · refine w_op (pc' := 15) dX2_takes_14 rfl ?_
    refine t_getI (F := f_c_kind) dX2_takes_15 rfl rfl (by decide) rfl ⟨rfl, fun _ => rfl⟩ (by assumption) ?_
    refine w_bipush (v := 109) dX2_takes_18 rfl ?_
    refine w_icmpne (t := 41) dX2_takes_20 (by decide) (fun c20 => ?_) (fun c20 => ?_)
    · refine w_op (pc' := 42) dX2_takes_41 rfl ?_
      refine t_getI (F := f_c_kind) dX2_takes_42 rfl rfl (by decide) rfl ⟨rfl, fun _ => rfl⟩ (by assumption) ?_
      refine w_bipush (v := 98) dX2_takes_45 rfl ?_
      refine w_icmpne (t := 68) dX2_takes_47 (by decide) (fun c47 => ?_) (fun c47 => ?_)
      · refine w_op (pc' := 69) dX2_takes_68 rfl ?_
        refine t_getI (F := f_c_kind) dX2_takes_69 rfl rfl (by decide) rfl ⟨rfl, fun _ => rfl⟩ (by assumption) ?_
        refine w_bipush (v := 97) dX2_takes_72 rfl ?_
        refine w_icmpeq (t := 90) dX2_takes_74 (by decide) (fun c74 => ?_) (fun c74 => ?_)
        · refine w_iconst (v := 1) dX2_takes_90 rfl ?_
          refine w_goto (t := 95) dX2_takes_91 (by decide) ?_
          exact w_ireturn dX2_takes_95 ⟨s_rcb (by first | exact Or.inl rfl | exact Or.inr rfl | exact bI_or _), s_eqi (by unfold s_tks; grind) k⟩
        · refine w_op (pc' := 78) dX2_takes_77 rfl ?_
          refine w_op (pc' := 79) dX2_takes_78 rfl ?_
          refine t_getI (F := f_c_from) dX2_takes_79 rfl rfl (by decide) rfl ⟨rfl, fun _ => rfl⟩ (by assumption) ?_
          refine w_op (pc' := 83) dX2_takes_82 rfl ?_
          refine t_callV (t := T_KEYS) (As := [_, _]) dX2_takes_83 rfl rM_X3_tickOf (by decide) rfl rfl (by decide) (by decide) (Nat.le_of_ble_eq_true rfl) rfl (hp.1 _ rfl) (c_X3_tickOf hp ?_)
          show s_w _ _ _ 86 _ _ _ _
          refine w_op (pc' := 87) dX2_takes_86 rfl ?_
          refine w_icmpne (t := 94) dX2_takes_87 (by decide) (fun c87 => ?_) (fun c87 => ?_)
          · refine w_iconst (v := 0) dX2_takes_94 rfl ?_
            exact w_ireturn dX2_takes_95 ⟨s_rcb (by first | exact Or.inl rfl | exact Or.inr rfl | exact bI_or _), s_eqi (by unfold s_tks; grind) k⟩
          · refine w_iconst (v := 1) dX2_takes_90 rfl ?_
            refine w_goto (t := 95) dX2_takes_91 (by decide) ?_
            exact w_ireturn dX2_takes_95 ⟨s_rcb (by first | exact Or.inl rfl | exact Or.inr rfl | exact bI_or _), s_eqi (by unfold s_tks; grind) k⟩
      · refine w_op (pc' := 51) dX2_takes_50 rfl ?_
        refine w_op (pc' := 52) dX2_takes_51 rfl ?_
        refine w_op (pc' := 53) dX2_takes_52 rfl ?_
        refine t_getI (F := f_c_from) dX2_takes_53 rfl rfl (by decide) rfl ⟨rfl, fun _ => rfl⟩ (by assumption) ?_
        refine t_callV (t := T_KEYS) (As := [_]) dX2_takes_56 rfl rM_X3_lowestOf (by decide) rfl rfl (by decide) (by decide) (Nat.le_of_ble_eq_true rfl) rfl (hp.1 _ rfl) (c_X3_lowestOf hp ?_)
        show s_w _ _ _ 59 _ _ _ _
        refine w_icmpne (t := 66) dX2_takes_59 (by decide) (fun c59 => ?_) (fun c59 => ?_)
        · refine w_iconst (v := 0) dX2_takes_66 rfl ?_
          exact w_ireturn dX2_takes_67 ⟨s_rcb (by first | exact Or.inl rfl | exact Or.inr rfl | exact bI_or _), s_eqi (by unfold s_tks; grind) k⟩
        · refine w_iconst (v := 1) dX2_takes_62 rfl ?_
          refine w_goto (t := 67) dX2_takes_63 (by decide) ?_
          exact w_ireturn dX2_takes_67 ⟨s_rcb (by first | exact Or.inl rfl | exact Or.inr rfl | exact bI_or _), s_eqi (by unfold s_tks; grind) k⟩
    · refine w_op (pc' := 24) dX2_takes_23 rfl ?_
      refine w_op (pc' := 25) dX2_takes_24 rfl ?_
      refine w_op (pc' := 26) dX2_takes_25 rfl ?_
      refine t_getI (F := f_c_from) dX2_takes_26 rfl rfl (by decide) rfl ⟨rfl, fun _ => rfl⟩ (by assumption) ?_
      refine t_callV (t := T_KEYS) (As := [_]) dX2_takes_29 rfl rM_X3_highestOf (by decide) rfl rfl (by decide) (by decide) (Nat.le_of_ble_eq_true rfl) rfl (hp.1 _ rfl) (c_X3_highestOf hp ?_)
      show s_w _ _ _ 32 _ _ _ _
      refine w_icmpne (t := 39) dX2_takes_32 (by decide) (fun c32 => ?_) (fun c32 => ?_)
      · refine w_iconst (v := 0) dX2_takes_39 rfl ?_
        exact w_ireturn dX2_takes_40 ⟨s_rcb (by first | exact Or.inl rfl | exact Or.inr rfl | exact bI_or _), s_eqi (by unfold s_tks; grind) k⟩
      · refine w_iconst (v := 1) dX2_takes_35 rfl ?_
        refine w_goto (t := 40) dX2_takes_36 (by decide) ?_
        exact w_ireturn dX2_takes_40 ⟨s_rcb (by first | exact Or.inl rfl | exact Or.inr rfl | exact bI_or _), s_eqi (by unfold s_tks; grind) k⟩
  · refine w_iconst (v := 0) dX2_takes_12 rfl ?_
    exact w_ireturn dX2_takes_13 ⟨s_rcb (by first | exact Or.inl rfl | exact Or.inr rfl | exact bI_or _), s_eqi (by unfold s_tks; grind) k⟩
