/-! 97: the second implementation's acts, a second part (printed by wip/whole/p97.py) -/
def q_lv (I : e_I) : Prop := s_ix (I f_m_level 0) (I f_m_level 0).toNatClampNeg 4
abbrev q_l (I : e_I) : Nat := (I f_m_level 0).toNatClampNeg
def q_ot (I : e_I) : Bool := decide (I f_m_claimed (q_l I) ≠ -1) && decide (I f_m_claimed (q_l I) ≠ I f_m_guest 0)
theorem bI_t {c : Prop} [Decidable c] (h : c) : bI (decide c) = 1 := by rw [decide_eq_true h]; rfl
theorem bI_f {c : Prop} [Decidable c] (h : ¬ c) : bI (decide c) = 0 := by rw [decide_eq_false h]; rfl
/-- the pitch of a pipe -/
def q_no (I : e_I) (q : Nat) : Int32 := I f_mr_lowest (q_rk I q) + nI q - I f_mr_base (q_rk I q)
def q_pt (I : e_I) (q : Nat) : Int32 := 100 * q_no I q + I f_m_temper (q_no I q - q_no I q / 12 * 12).toNatClampNeg + I f_m_tuning q + I f_m_heat 0 * I f_mr_heat (q_rk I q) / 10 - (100 - I f_m_winds (I f_mr_division (q_rk I q)).toNatClampNeg) / 10
def q_ld (I : e_I) (q : Nat) (u : Int32) : Int32 := u + if I f_m_speaks q ≠ 0 then I f_mr_power (q_rk I q) * I f_m_box (I f_mr_division (q_rk I q)).toNatClampNeg / 10 else 0
theorem q_ip_n {p : e_Sp} {I : e_I} {nk nr np : Nat} {x y : Int32} (hM : q_D p I nk nr np) (h : q_ip I nr x y = true) : q_pi I x y < np ∧ q_pp I x y = nI (q_pi I x y) := by
  have h1 := q_ip_ix hM h
  refine ⟨h1.2.2, ?_⟩
  obtain ⟨j, hj, e⟩ := nI_of (Int32.not_lt.mpr h1.1)
  show q_pp I x y = nI (q_pp I x y).toNatClampNeg
  rw [e, nI_clamp hj]

set_option maxRecDepth 100000 in
set_option maxHeartbeats 800000 in
theorem c_X16_supply {X : e_XT} {d : Nat} {p : e_Sp} {I : e_I} {J : e_Jt} {c : Nat × Nat} {w : e_Rw1} {Q : e_Rt → e_SS → Prop} {nk nr np a b n : Nat} (hG : q_G p I c nk nr np a b n) (hX : (X 8).1 = 0) {x y : Int32} (k : (0 ≤ x ∧ x ≤ 2) → (0 ≤ y ∧ y ≤ 999) → ∀ p' c' n', q_X p p' → q_L p' (q_st nk nr np (s_up I f_m_supply x.toNatClampNeg y, J)).1 c' a b n' → n' ≤ n + np → Q (.inl (some (.int (I f_m_supply x.toNatClampNeg)))) (p', q_an (q_st nk nr np (s_up I f_m_supply x.toNatClampNeg y, J)).1, (q_st nk nr np (s_up I f_m_supply x.toNatClampNeg y, J)).2, c', w)) (kx : ¬ (0 ≤ x ∧ x ≤ 2) → Q (.inl (some (.int 0))) (p, q_fl I 1, J, c, w)) (kx2 : (0 ≤ x ∧ x ≤ 2) → ¬ (0 ≤ y ∧ y ≤ 999) → Q (.inl (some (.int 0))) (p, q_fl I 2, J, c, w)) : s_c X (d + 10) 272 [.ref (p.1 T_MODEL 0), .int x, .int y] (p, I, J, c, w) Q := by
  have hM := hG.1
  have hp := hM.1
  have hk40 := hM.2.1
  have hr10 := hM.2.2.1
  have hnp := hM.2.2.2.1
  refine m_X16_supply (Nat.le_of_ble_eq_true rfl) ?_
  show s_w _ _ _ 0 _ _ _ _
  refine w_op (pc' := 1) dX16_supply_0 rfl ?_
  refine t_callS (As := [_]) dX16_supply_1 rfl rM_X16_isDivision (by decide) rfl rfl (by decide) (Nat.le_of_ble_eq_true rfl) (c_X16_isDivision ?_)
  show s_w _ _ _ 4 _ _ _ _
  refine w_ifne (t := 13) dX16_supply_4 (by decide) (fun c4 => ?_) (fun c4 => ?_)
  · have hd := of_decide_eq_true (bI_n0.mp c4)
    have hix : s_ix x x.toNatClampNeg 3 := s_ixr (N := 2) hd.1 hd.2 (by decide)
    refine w_op (pc' := 14) dX16_supply_13 rfl ?_
    refine w_iconst (v := 0) dX16_supply_14 rfl ?_
    refine w_sipush (v := 999) dX16_supply_15 rfl ?_
    refine t_callS (As := [_, _, _]) dX16_supply_18 rfl rM_X16_in (by decide) rfl rfl (by decide) (Nat.le_of_ble_eq_true rfl) (c_X16_in ?_)
    show s_w _ _ _ 21 _ _ _ _
    refine w_ifne (t := 30) dX16_supply_21 (by decide) (fun c21 => ?_) (fun c21 => ?_)
    · refine w_op (pc' := 31) dX16_supply_30 rfl ?_
      refine t_getG0 (G := g_m_supply) dX16_supply_31 rfl rfl (by decide) rfl (fun _ => rfl) (hp.1 _ rfl) ?_
      refine w_op (pc' := 35) dX16_supply_34 rfl ?_
      refine t_iald0 (F := f_m_supply) dX16_supply_35 rfl (by decide) rfl (hp.1 _ rfl) hix hix.2.2 ?_
      refine w_op (pc' := 37) (ll' := [_, _, _, _]) dX16_supply_36 rfl ?_
      refine w_op (pc' := 38) dX16_supply_37 rfl ?_
      refine t_getG0 (G := g_m_supply) dX16_supply_38 rfl rfl (by decide) rfl (fun _ => rfl) (hp.1 _ rfl) ?_
      refine w_op (pc' := 42) dX16_supply_41 rfl ?_
      refine w_op (pc' := 43) dX16_supply_42 rfl ?_
      refine t_iast0 (F := f_m_supply) dX16_supply_43 rfl (by decide) (by decide) rfl (hp.1 _ rfl) hix hix.2.2 ?_
      refine w_op (pc' := 45) dX16_supply_44 rfl ?_
      refine w_op (pc' := 46) dX16_supply_45 rfl ?_
      refine t_callV (t := T_MODEL) (As := [_]) dX16_supply_46 rfl rM_X16_settled (by decide) rfl rfl (by decide) (by decide) (Nat.le_of_ble_eq_true rfl) rfl (hp.1 _ rfl) (c_X16_settled (hG.up (by decide)) hX (fun p1 c1 n1 x1 hL1 hn1 => ?_))
      show s_w _ _ _ 49 _ _ _ _
      exact w_ireturn dX16_supply_49 ⟨rfl, k hd (of_decide_eq_true (bI_n0.mp c21)) p1 c1 n1 x1 hL1 hn1⟩
    · refine w_op (pc' := 25) dX16_supply_24 rfl ?_
      refine w_iconst (v := 2) dX16_supply_25 rfl ?_
      refine t_callV (t := T_MODEL) (As := [_]) dX16_supply_26 rfl rM_X16_fails (by decide) rfl rfl (by decide) (by decide) (Nat.le_of_ble_eq_true rfl) rfl (hp.1 _ rfl) (c_X16_fails hp ?_)
      show s_w _ _ _ 29 _ _ _ _
      exact w_ireturn dX16_supply_29 ⟨rfl, kx2 hd (of_decide_eq_false (bI_0.mp c21))⟩
  · refine w_op (pc' := 8) dX16_supply_7 rfl ?_
    refine w_iconst (v := 1) dX16_supply_8 rfl ?_
    refine t_callV (t := T_MODEL) (As := [_]) dX16_supply_9 rfl rM_X16_fails (by decide) rfl rfl (by decide) (by decide) (Nat.le_of_ble_eq_true rfl) rfl (hp.1 _ rfl) (c_X16_fails hp ?_)
    show s_w _ _ _ 12 _ _ _ _
    exact w_ireturn dX16_supply_12 ⟨rfl, kx (of_decide_eq_false (bI_0.mp c4))⟩

set_option maxRecDepth 100000 in
set_option maxHeartbeats 800000 in
theorem c_X16_wind {X : e_XT} {d : Nat} {p : e_Sp} {I : e_I} {J : e_Jt} {c : Nat × Nat} {w : e_Rw1} {Q : e_Rt → e_SS → Prop} {nk nr np a b n : Nat} (hG : q_G p I c nk nr np a b n) (hX : (X 8).1 = 0) {x : Int32} (k : (0 ≤ x ∧ x ≤ 2) → Q (.inl (some (.int (q_bws nk np I f_m_winds x.toNatClampNeg)))) (p, q_an (q_bws nk np I), J, c, w)) (kx : ¬ (0 ≤ x ∧ x ≤ 2) → Q (.inl (some (.int 0))) (p, q_fl I 1, J, c, w)) : s_c X (d + 5) 273 [.ref (p.1 T_MODEL 0), .int x] (p, I, J, c, w) Q := by
  have hM := hG.1
  have hp := hM.1
  have hk40 := hM.2.1
  have hr10 := hM.2.2.1
  have hnp := hM.2.2.2.1
  refine m_X16_wind (Nat.le_of_ble_eq_true rfl) ?_
  show s_w _ _ _ 0 _ _ _ _
  refine w_op (pc' := 1) dX16_wind_0 rfl ?_
  refine t_callS (As := [_]) dX16_wind_1 rfl rM_X16_isDivision (by decide) rfl rfl (by decide) (Nat.le_of_ble_eq_true rfl) (c_X16_isDivision ?_)
  show s_w _ _ _ 4 _ _ _ _
  refine w_ifne (t := 13) dX16_wind_4 (by decide) (fun c4 => ?_) (fun c4 => ?_)
  · have hd := of_decide_eq_true (bI_n0.mp c4)
    have hix : s_ix x x.toNatClampNeg 3 := s_ixr (N := 2) hd.1 hd.2 (by decide)
    refine w_op (pc' := 14) dX16_wind_13 rfl ?_
    refine t_callV (t := T_MODEL) (As := []) dX16_wind_14 rfl rM_X16_blows (by decide) rfl rfl (by decide) (by decide) (Nat.le_of_ble_eq_true rfl) rfl (hp.1 _ rfl) (c_X16_blows hM ?_)
    show s_w _ _ _ 17 _ _ _ _
    refine w_op (pc' := 18) dX16_wind_17 rfl ?_
    refine w_op (pc' := 19) dX16_wind_18 rfl ?_
    refine t_getG0 (G := g_m_winds) dX16_wind_19 rfl rfl (by decide) rfl (fun _ => rfl) (hp.1 _ rfl) ?_
    refine w_op (pc' := 23) dX16_wind_22 rfl ?_
    refine t_iald0 (F := f_m_winds) dX16_wind_23 rfl (by decide) rfl (hp.1 _ rfl) hix hix.2.2 ?_
    refine t_callV (t := T_MODEL) (As := [_]) dX16_wind_24 rfl rM_X16_answer (by decide) rfl rfl (by decide) (by decide) (Nat.le_of_ble_eq_true rfl) rfl (hp.1 _ rfl) (c_X16_answer hp ?_)
    show s_w _ _ _ 27 _ _ _ _
    exact w_ireturn dX16_wind_27 ⟨rfl, k hd⟩
  · refine w_op (pc' := 8) dX16_wind_7 rfl ?_
    refine w_iconst (v := 1) dX16_wind_8 rfl ?_
    refine t_callV (t := T_MODEL) (As := [_]) dX16_wind_9 rfl rM_X16_fails (by decide) rfl rfl (by decide) (by decide) (Nat.le_of_ble_eq_true rfl) rfl (hp.1 _ rfl) (c_X16_fails hp ?_)
    show s_w _ _ _ 12 _ _ _ _
    exact w_ireturn dX16_wind_12 ⟨rfl, kx (of_decide_eq_false (bI_0.mp c4))⟩

set_option maxRecDepth 100000 in
set_option maxHeartbeats 800000 in
theorem c_X16_box {X : e_XT} {d : Nat} {p : e_Sp} {I : e_I} {J : e_Jt} {c : Nat × Nat} {w : e_Rw1} {Q : e_Rt → e_SS → Prop} {nk nr np a b n : Nat} (hG : q_G p I c nk nr np a b n) (hX : (X 8).1 = 0) {x y : Int32} (k : ((1 ≤ x ∧ x ≤ 2) ∧ (0 ≤ y ∧ y ≤ 10)) → ∀ p' c' n', q_X p p' → q_L p' (q_st nk nr np (s_up I f_m_box x.toNatClampNeg y, J)).1 c' a b n' → n' ≤ n + np → Q (.inl (some (.int (I f_m_box x.toNatClampNeg)))) (p', q_an (q_st nk nr np (s_up I f_m_box x.toNatClampNeg y, J)).1, (q_st nk nr np (s_up I f_m_box x.toNatClampNeg y, J)).2, c', w)) (kx : ¬ ((1 ≤ x ∧ x ≤ 2) ∧ (0 ≤ y ∧ y ≤ 10)) → Q (.inl (some (.int 0))) (p, q_fl I 1, J, c, w)) : s_c X (d + 10) 274 [.ref (p.1 T_MODEL 0), .int x, .int y] (p, I, J, c, w) Q := by
  have hM := hG.1
  have hp := hM.1
  have hk40 := hM.2.1
  have hr10 := hM.2.2.1
  have hnp := hM.2.2.2.1
  refine m_X16_box (Nat.le_of_ble_eq_true rfl) ?_
  show s_w _ _ _ 0 _ _ _ _
  refine w_op (pc' := 1) dX16_box_0 rfl ?_
  refine w_iconst (v := 1) dX16_box_1 rfl ?_
  refine w_iconst (v := 2) dX16_box_2 rfl ?_
  refine t_callS (As := [_, _, _]) dX16_box_3 rfl rM_X16_in (by decide) rfl rfl (by decide) (Nat.le_of_ble_eq_true rfl) (c_X16_in ?_)
  show s_w _ _ _ 6 _ _ _ _
  refine w_ifeq (t := 19) dX16_box_6 (by decide) (fun c6 => ?_) (fun c6 => ?_)
  · refine w_op (pc' := 20) dX16_box_19 rfl ?_
    refine w_iconst (v := 1) dX16_box_20 rfl ?_
    refine t_callV (t := T_MODEL) (As := [_]) dX16_box_21 rfl rM_X16_fails (by decide) rfl rfl (by decide) (by decide) (Nat.le_of_ble_eq_true rfl) rfl (hp.1 _ rfl) (c_X16_fails hp ?_)
    show s_w _ _ _ 24 _ _ _ _
    exact w_ireturn dX16_box_24 ⟨rfl, kx (fun u => (of_decide_eq_false (bI_0.mp c6)) u.1)⟩
  · refine w_op (pc' := 10) dX16_box_9 rfl ?_
    refine w_iconst (v := 0) dX16_box_10 rfl ?_
    refine w_bipush (v := 10) dX16_box_11 rfl ?_
    refine t_callS (As := [_, _, _]) dX16_box_13 rfl rM_X16_in (by decide) rfl rfl (by decide) (Nat.le_of_ble_eq_true rfl) (c_X16_in ?_)
    show s_w _ _ _ 16 _ _ _ _
    refine w_ifne (t := 25) dX16_box_16 (by decide) (fun c16 => ?_) (fun c16 => ?_)
    · have hd := of_decide_eq_true (bI_n0.mp c6)
      have hix : s_ix x x.toNatClampNeg 3 := s_ixr1 (N := 2) hd.1 hd.2 (by decide)
      refine w_op (pc' := 26) dX16_box_25 rfl ?_
      refine t_getG0 (G := g_m_box) dX16_box_26 rfl rfl (by decide) rfl (fun _ => rfl) (hp.1 _ rfl) ?_
      refine w_op (pc' := 30) dX16_box_29 rfl ?_
      refine t_iald0 (F := f_m_box) dX16_box_30 rfl (by decide) rfl (hp.1 _ rfl) hix hix.2.2 ?_
      refine w_op (pc' := 32) (ll' := [_, _, _, _]) dX16_box_31 rfl ?_
      refine w_op (pc' := 33) dX16_box_32 rfl ?_
      refine t_getG0 (G := g_m_box) dX16_box_33 rfl rfl (by decide) rfl (fun _ => rfl) (hp.1 _ rfl) ?_
      refine w_op (pc' := 37) dX16_box_36 rfl ?_
      refine w_op (pc' := 38) dX16_box_37 rfl ?_
      refine t_iast0 (F := f_m_box) dX16_box_38 rfl (by decide) (by decide) rfl (hp.1 _ rfl) hix hix.2.2 ?_
      refine w_op (pc' := 40) dX16_box_39 rfl ?_
      refine w_op (pc' := 41) dX16_box_40 rfl ?_
      refine t_callV (t := T_MODEL) (As := [_]) dX16_box_41 rfl rM_X16_settled (by decide) rfl rfl (by decide) (by decide) (Nat.le_of_ble_eq_true rfl) rfl (hp.1 _ rfl) (c_X16_settled (hG.up (by decide)) hX (fun p1 c1 n1 x1 hL1 hn1 => ?_))
      show s_w _ _ _ 44 _ _ _ _
      exact w_ireturn dX16_box_44 ⟨rfl, k ⟨(of_decide_eq_true (bI_n0.mp c6)), (of_decide_eq_true (bI_n0.mp c16))⟩ p1 c1 n1 x1 hL1 hn1⟩
    · refine w_op (pc' := 20) dX16_box_19 rfl ?_
      refine w_iconst (v := 1) dX16_box_20 rfl ?_
      refine t_callV (t := T_MODEL) (As := [_]) dX16_box_21 rfl rM_X16_fails (by decide) rfl rfl (by decide) (by decide) (Nat.le_of_ble_eq_true rfl) rfl (hp.1 _ rfl) (c_X16_fails hp ?_)
      show s_w _ _ _ 24 _ _ _ _
      exact w_ireturn dX16_box_24 ⟨rfl, kx (fun u => (of_decide_eq_false (bI_0.mp c16)) u.2)⟩

set_option maxRecDepth 100000 in
set_option maxHeartbeats 800000 in
theorem c_X16_temper {X : e_XT} {d : Nat} {p : e_Sp} {I : e_I} {J : e_Jt} {c : Nat × Nat} {w : e_Rw1} {Q : e_Rt → e_SS → Prop} {nk nr np a b n : Nat} (hG : q_G p I c nk nr np a b n) (hX : (X 8).1 = 0) {x y : Int32} (k : ((0 ≤ x ∧ x ≤ 11) ∧ (-50 ≤ y ∧ y ≤ 50)) → ∀ p' c' n', q_X p p' → q_L p' (q_st nk nr np (s_up I f_m_temper x.toNatClampNeg y, J)).1 c' a b n' → n' ≤ n + np → Q (.inl (some (.int (I f_m_temper x.toNatClampNeg)))) (p', q_an (q_st nk nr np (s_up I f_m_temper x.toNatClampNeg y, J)).1, (q_st nk nr np (s_up I f_m_temper x.toNatClampNeg y, J)).2, c', w)) (kx : ¬ ((0 ≤ x ∧ x ≤ 11) ∧ (-50 ≤ y ∧ y ≤ 50)) → Q (.inl (some (.int 0))) (p, q_fl I 1, J, c, w)) : s_c X (d + 10) 276 [.ref (p.1 T_MODEL 0), .int x, .int y] (p, I, J, c, w) Q := by
  have hM := hG.1
  have hp := hM.1
  have hk40 := hM.2.1
  have hr10 := hM.2.2.1
  have hnp := hM.2.2.2.1
  refine m_X16_temper (Nat.le_of_ble_eq_true rfl) ?_
  show s_w _ _ _ 0 _ _ _ _
  refine w_op (pc' := 1) dX16_temper_0 rfl ?_
  refine w_iconst (v := 0) dX16_temper_1 rfl ?_
  refine w_bipush (v := 11) dX16_temper_2 rfl ?_
  refine t_callS (As := [_, _, _]) dX16_temper_4 rfl rM_X16_in (by decide) rfl rfl (by decide) (Nat.le_of_ble_eq_true rfl) (c_X16_in ?_)
  show s_w _ _ _ 7 _ _ _ _
  refine w_ifeq (t := 21) dX16_temper_7 (by decide) (fun c7 => ?_) (fun c7 => ?_)
  · refine w_op (pc' := 22) dX16_temper_21 rfl ?_
    refine w_iconst (v := 1) dX16_temper_22 rfl ?_
    refine t_callV (t := T_MODEL) (As := [_]) dX16_temper_23 rfl rM_X16_fails (by decide) rfl rfl (by decide) (by decide) (Nat.le_of_ble_eq_true rfl) rfl (hp.1 _ rfl) (c_X16_fails hp ?_)
    show s_w _ _ _ 26 _ _ _ _
    exact w_ireturn dX16_temper_26 ⟨rfl, kx (fun u => (of_decide_eq_false (bI_0.mp c7)) u.1)⟩
  · refine w_op (pc' := 11) dX16_temper_10 rfl ?_
    refine w_bipush (v := (-50)) dX16_temper_11 rfl ?_
    refine w_bipush (v := 50) dX16_temper_13 rfl ?_
    refine t_callS (As := [_, _, _]) dX16_temper_15 rfl rM_X16_in (by decide) rfl rfl (by decide) (Nat.le_of_ble_eq_true rfl) (c_X16_in ?_)
    show s_w _ _ _ 18 _ _ _ _
    refine w_ifne (t := 27) dX16_temper_18 (by decide) (fun c18 => ?_) (fun c18 => ?_)
    · have hd := of_decide_eq_true (bI_n0.mp c7)
      have hix : s_ix x x.toNatClampNeg 12 := s_ixr (N := 11) hd.1 hd.2 (by decide)
      refine w_op (pc' := 28) dX16_temper_27 rfl ?_
      refine t_getG0 (G := g_m_temper) dX16_temper_28 rfl rfl (by decide) rfl (fun _ => rfl) (hp.1 _ rfl) ?_
      refine w_op (pc' := 32) dX16_temper_31 rfl ?_
      refine t_iald0 (F := f_m_temper) dX16_temper_32 rfl (by decide) rfl (hp.1 _ rfl) hix hix.2.2 ?_
      refine w_op (pc' := 34) (ll' := [_, _, _, _]) dX16_temper_33 rfl ?_
      refine w_op (pc' := 35) dX16_temper_34 rfl ?_
      refine t_getG0 (G := g_m_temper) dX16_temper_35 rfl rfl (by decide) rfl (fun _ => rfl) (hp.1 _ rfl) ?_
      refine w_op (pc' := 39) dX16_temper_38 rfl ?_
      refine w_op (pc' := 40) dX16_temper_39 rfl ?_
      refine t_iast0 (F := f_m_temper) dX16_temper_40 rfl (by decide) (by decide) rfl (hp.1 _ rfl) hix hix.2.2 ?_
      refine w_op (pc' := 42) dX16_temper_41 rfl ?_
      refine w_op (pc' := 43) dX16_temper_42 rfl ?_
      refine t_callV (t := T_MODEL) (As := [_]) dX16_temper_43 rfl rM_X16_settled (by decide) rfl rfl (by decide) (by decide) (Nat.le_of_ble_eq_true rfl) rfl (hp.1 _ rfl) (c_X16_settled (hG.up (by decide)) hX (fun p1 c1 n1 x1 hL1 hn1 => ?_))
      show s_w _ _ _ 46 _ _ _ _
      exact w_ireturn dX16_temper_46 ⟨rfl, k ⟨(of_decide_eq_true (bI_n0.mp c7)), (of_decide_eq_true (bI_n0.mp c18))⟩ p1 c1 n1 x1 hL1 hn1⟩
    · refine w_op (pc' := 22) dX16_temper_21 rfl ?_
      refine w_iconst (v := 1) dX16_temper_22 rfl ?_
      refine t_callV (t := T_MODEL) (As := [_]) dX16_temper_23 rfl rM_X16_fails (by decide) rfl rfl (by decide) (by decide) (Nat.le_of_ble_eq_true rfl) rfl (hp.1 _ rfl) (c_X16_fails hp ?_)
      show s_w _ _ _ 26 _ _ _ _
      exact w_ireturn dX16_temper_26 ⟨rfl, kx (fun u => (of_decide_eq_false (bI_0.mp c18)) u.2)⟩

set_option maxRecDepth 100000 in
set_option maxHeartbeats 800000 in
theorem c_X16_tune {X : e_XT} {d : Nat} {p : e_Sp} {I : e_I} {J : e_Jt} {c : Nat × Nat} {w : e_Rw1} {Q : e_Rt → e_SS → Prop} {nk nr np a b n : Nat} (hG : q_G p I c nk nr np a b n) (hX : (X 8).1 = 0) {x y z : Int32} (k : q_ip I nr x y = true → (-50 ≤ z ∧ z ≤ 50) → ∀ p' c' n', q_X p p' → q_L p' (q_st nk nr np (s_up I f_m_tuning (q_pi I x y) z, J)).1 c' a b n' → n' ≤ n + np → Q (.inl (some (.int (I f_m_tuning (q_pi I x y))))) (p', q_an (q_st nk nr np (s_up I f_m_tuning (q_pi I x y) z, J)).1, (q_st nk nr np (s_up I f_m_tuning (q_pi I x y) z, J)).2, c', w)) (kx : q_ip I nr x y = false → Q (.inl (some (.int 0))) (p, q_fl I 1, J, c, w)) (kx2 : q_ip I nr x y = true → ¬ (-50 ≤ z ∧ z ≤ 50) → Q (.inl (some (.int 0))) (p, q_fl I 2, J, c, w)) : s_c X (d + 10) 277 [.ref (p.1 T_MODEL 0), .int x, .int y, .int z] (p, I, J, c, w) Q := by
  have hM := hG.1
  have hp := hM.1
  have hk40 := hM.2.1
  have hr10 := hM.2.2.1
  have hnp := hM.2.2.2.1
  refine m_X16_tune (Nat.le_of_ble_eq_true rfl) ?_
  show s_w _ _ _ 0 _ _ _ _
  refine w_op (pc' := 1) dX16_tune_0 rfl ?_
  refine w_op (pc' := 2) dX16_tune_1 rfl ?_
  refine w_op (pc' := 3) dX16_tune_2 rfl ?_
  refine t_callV (t := T_MODEL) (As := [_, _]) dX16_tune_3 rfl rM_X16_isPipe (by decide) rfl rfl (by decide) (by decide) (Nat.le_of_ble_eq_true rfl) rfl (hp.1 _ rfl) (c_X16_isPipe hM ?_)
  show s_w _ _ _ 6 _ _ _ _
  refine w_ifne (t := 15) dX16_tune_6 (by decide) (fun c6 => ?_) (fun c6 => ?_)
  · have h6 := bI_n0.mp c6
    have hx2 := q_ip_x h6
    have hix := q_ip_i hM h6
    refine w_op (pc' := 16) dX16_tune_15 rfl ?_
    refine w_bipush (v := (-50)) dX16_tune_16 rfl ?_
    refine w_bipush (v := 50) dX16_tune_18 rfl ?_
    refine t_callS (As := [_, _, _]) dX16_tune_20 rfl rM_X16_in (by decide) rfl rfl (by decide) (Nat.le_of_ble_eq_true rfl) (c_X16_in ?_)
    show s_w _ _ _ 23 _ _ _ _
    refine w_ifne (t := 32) dX16_tune_23 (by decide) (fun c23 => ?_) (fun c23 => ?_)
    · refine w_op (pc' := 33) dX16_tune_32 rfl ?_
      refine t_getG0 (G := g_m_tuning) dX16_tune_33 rfl rfl (by decide) rfl (fun _ => rfl) (hp.1 _ rfl) ?_
      refine w_op (pc' := 37) dX16_tune_36 rfl ?_
      refine w_op (pc' := 38) dX16_tune_37 rfl ?_
      refine w_op (pc' := 39) dX16_tune_38 rfl ?_
      refine t_callV (t := T_MODEL) (As := [_, _]) dX16_tune_39 rfl rM_X16_pipe (by decide) rfl rfl (by decide) (by decide) (Nat.le_of_ble_eq_true rfl) rfl (hp.1 _ rfl) (c_X16_pipe hM hx2 ?_)
      show s_w _ _ _ 42 _ _ _ _
      refine t_iald0 (F := f_m_tuning) dX16_tune_42 rfl (by decide) rfl (hp.1 _ rfl) hix hix.2.2 ?_
      refine w_op (pc' := 45) (ll' := [_, _, _, _, _]) dX16_tune_43 rfl ?_
      refine w_op (pc' := 46) dX16_tune_45 rfl ?_
      refine t_getG0 (G := g_m_tuning) dX16_tune_46 rfl rfl (by decide) rfl (fun _ => rfl) (hp.1 _ rfl) ?_
      refine w_op (pc' := 50) dX16_tune_49 rfl ?_
      refine w_op (pc' := 51) dX16_tune_50 rfl ?_
      refine w_op (pc' := 52) dX16_tune_51 rfl ?_
      refine t_callV (t := T_MODEL) (As := [_, _]) dX16_tune_52 rfl rM_X16_pipe (by decide) rfl rfl (by decide) (by decide) (Nat.le_of_ble_eq_true rfl) rfl (hp.1 _ rfl) (c_X16_pipe hM hx2 ?_)
      show s_w _ _ _ 55 _ _ _ _
      refine w_op (pc' := 56) dX16_tune_55 rfl ?_
      refine t_iast0 (F := f_m_tuning) dX16_tune_56 rfl (by decide) (by decide) rfl (hp.1 _ rfl) hix hix.2.2 ?_
      refine w_op (pc' := 58) dX16_tune_57 rfl ?_
      refine w_op (pc' := 60) dX16_tune_58 rfl ?_
      refine t_callV (t := T_MODEL) (As := [_]) dX16_tune_60 rfl rM_X16_settled (by decide) rfl rfl (by decide) (by decide) (Nat.le_of_ble_eq_true rfl) rfl (hp.1 _ rfl) (c_X16_settled (hG.up (by decide)) hX (fun p1 c1 n1 x1 hL1 hn1 => ?_))
      show s_w _ _ _ 63 _ _ _ _
      exact w_ireturn dX16_tune_63 ⟨rfl, k h6 (of_decide_eq_true (bI_n0.mp c23)) p1 c1 n1 x1 hL1 hn1⟩
    · refine w_op (pc' := 27) dX16_tune_26 rfl ?_
      refine w_iconst (v := 2) dX16_tune_27 rfl ?_
      refine t_callV (t := T_MODEL) (As := [_]) dX16_tune_28 rfl rM_X16_fails (by decide) rfl rfl (by decide) (by decide) (Nat.le_of_ble_eq_true rfl) rfl (hp.1 _ rfl) (c_X16_fails hp ?_)
      show s_w _ _ _ 31 _ _ _ _
      exact w_ireturn dX16_tune_31 ⟨rfl, kx2 h6 (of_decide_eq_false (bI_0.mp c23))⟩
  · refine w_op (pc' := 10) dX16_tune_9 rfl ?_
    refine w_iconst (v := 1) dX16_tune_10 rfl ?_
    refine t_callV (t := T_MODEL) (As := [_]) dX16_tune_11 rfl rM_X16_fails (by decide) rfl rfl (by decide) (by decide) (Nat.le_of_ble_eq_true rfl) rfl (hp.1 _ rfl) (c_X16_fails hp ?_)
    show s_w _ _ _ 14 _ _ _ _
    exact w_ireturn dX16_tune_14 ⟨rfl, kx (bI_0.mp c6)⟩

set_option maxRecDepth 100000 in
set_option maxHeartbeats 800000 in
theorem c_X16_heat {X : e_XT} {d : Nat} {p : e_Sp} {I : e_I} {J : e_Jt} {c : Nat × Nat} {w : e_Rw1} {Q : e_Rt → e_SS → Prop} {nk nr np a b n : Nat} (hG : q_G p I c nk nr np a b n) (hX : (X 8).1 = 0) {x y z : Int32} (k : ∀ r, r < nr → y = nI r → ((-20 ≤ x ∧ x ≤ 20) ∧ (-9 ≤ z ∧ z ≤ 9)) → ∀ p' c' n', q_X p p' → q_L p' (q_st nk nr np (s_up (s_up I f_m_heat 0 x) f_mr_heat r z, J)).1 c' a b n' → n' ≤ n + np → Q (.inl (some (.int (I f_m_heat 0)))) (p', q_an (q_st nk nr np (s_up (s_up I f_m_heat 0 x) f_mr_heat r z, J)).1, (q_st nk nr np (s_up (s_up I f_m_heat 0 x) f_mr_heat r z, J)).2, c', w)) (kx : ¬ (0 ≤ y ∧ y < nI nr) → Q (.inl (some (.int 0))) (p, q_fl I 1, J, c, w)) (kx2 : (0 ≤ y ∧ y < nI nr) → ¬ ((-20 ≤ x ∧ x ≤ 20) ∧ (-9 ≤ z ∧ z ≤ 9)) → Q (.inl (some (.int 0))) (p, q_fl I 2, J, c, w)) : s_c X (d + 10) 280 [.ref (p.1 T_MODEL 0), .int x, .int y, .int z] (p, I, J, c, w) Q := by
  have hM := hG.1
  have hp := hM.1
  have hk40 := hM.2.1
  have hr10 := hM.2.2.1
  have hnp := hM.2.2.2.1
  refine m_X16_heat (Nat.le_of_ble_eq_true rfl) ?_
  show s_w _ _ _ 0 _ _ _ _
  refine w_op (pc' := 1) dX16_heat_0 rfl ?_
  refine w_op (pc' := 2) dX16_heat_1 rfl ?_
  refine t_callV (t := T_MODEL) (As := [_]) dX16_heat_2 rfl rM_X16_isRank (by decide) rfl rfl (by decide) (by decide) (Nat.le_of_ble_eq_true rfl) rfl (hp.1 _ rfl) (c_X16_isRank hM ?_)
  show s_w _ _ _ 5 _ _ _ _
  refine w_ifne (t := 14) dX16_heat_5 (by decide) (fun c5 => ?_) (fun c5 => ?_)
  · have hx := of_decide_eq_true (bI_n0.mp c5)
    obtain ⟨r, hr, rfl⟩ := s_nat hx.1 hx.2 (by omega)
    have hv := (hM.2.2.2.2.2.1 r hr).1
    have e9 : s_up I f_m_heat 0 x f_l_size 2 = nI nr := (s_up_n (by decide)).trans hr10.2
    refine w_op (pc' := 15) dX16_heat_14 rfl ?_
    refine w_bipush (v := (-20)) dX16_heat_15 rfl ?_
    refine w_bipush (v := 20) dX16_heat_17 rfl ?_
    refine t_callS (As := [_, _, _]) dX16_heat_19 rfl rM_X16_in (by decide) rfl rfl (by decide) (Nat.le_of_ble_eq_true rfl) (c_X16_in ?_)
    show s_w _ _ _ 22 _ _ _ _
    refine w_ifeq (t := 36) dX16_heat_22 (by decide) (fun c22 => ?_) (fun c22 => ?_)
    · refine w_op (pc' := 37) dX16_heat_36 rfl ?_
      refine w_iconst (v := 2) dX16_heat_37 rfl ?_
      refine t_callV (t := T_MODEL) (As := [_]) dX16_heat_38 rfl rM_X16_fails (by decide) rfl rfl (by decide) (by decide) (Nat.le_of_ble_eq_true rfl) rfl (hp.1 _ rfl) (c_X16_fails hp ?_)
      show s_w _ _ _ 41 _ _ _ _
      exact w_ireturn dX16_heat_41 ⟨rfl, kx2 hx (fun u => (of_decide_eq_false (bI_0.mp c22)) u.1)⟩
    · refine w_op (pc' := 26) dX16_heat_25 rfl ?_
      refine w_bipush (v := (-9)) dX16_heat_26 rfl ?_
      refine w_bipush (v := 9) dX16_heat_28 rfl ?_
      refine t_callS (As := [_, _, _]) dX16_heat_30 rfl rM_X16_in (by decide) rfl rfl (by decide) (Nat.le_of_ble_eq_true rfl) (c_X16_in ?_)
      show s_w _ _ _ 33 _ _ _ _
      refine w_ifne (t := 42) dX16_heat_33 (by decide) (fun c33 => ?_) (fun c33 => ?_)
      · refine w_op (pc' := 43) dX16_heat_42 rfl ?_
        refine t_getI (F := f_m_heat) dX16_heat_43 rfl rfl (by decide) rfl ⟨rfl, fun _ => rfl⟩ (hp.1 _ rfl) ?_
        refine w_op (pc' := 48) (ll' := [_, _, _, _, _]) dX16_heat_46 rfl ?_
        refine w_op (pc' := 49) dX16_heat_48 rfl ?_
        refine w_op (pc' := 50) dX16_heat_49 rfl ?_
        refine t_putI (F := f_m_heat) dX16_heat_50 rfl rfl (by decide) (by decide) rfl rfl (Or.inl rfl) (hp.1 _ rfl) ?_
        refine w_op (pc' := 54) dX16_heat_53 rfl ?_
        refine t_getG0 (G := g_m_list0) dX16_heat_54 rfl rfl (by decide) rfl (fun _ => rfl) (hp.1 _ rfl) ?_
        refine w_op (pc' := 58) dX16_heat_57 rfl ?_
        refine t_callV (t := T_LIST) (As := [_]) dX16_heat_58 rfl rM_Jx4a65c_get_915e3 (by decide) rfl rfl (by decide) (by decide) (Nat.le_of_ble_eq_true rfl) rfl (hp.2 _ (by decide)) (c_get2 hp e9 (by omega) hr ?_)
        show s_w _ _ _ 61 _ _ _ _
        refine t_chk dX16_heat_61 rfl rfl (by decide) (by assumption) ?_
        refine w_op (pc' := 65) dX16_heat_64 rfl ?_
        refine t_putI (F := f_mr_heat) dX16_heat_65 rfl rfl (by decide) (by decide) rfl rfl (Or.inl rfl) (by assumption) ?_
        refine w_op (pc' := 69) dX16_heat_68 rfl ?_
        refine w_op (pc' := 71) dX16_heat_69 rfl ?_
        refine t_callV (t := T_MODEL) (As := [_]) dX16_heat_71 rfl rM_X16_settled (by decide) rfl rfl (by decide) (by decide) (Nat.le_of_ble_eq_true rfl) rfl (hp.1 _ rfl) (c_X16_settled ((hG.up (by decide)).up (by decide)) hX (fun p1 c1 n1 x1 hL1 hn1 => ?_))
        show s_w _ _ _ 74 _ _ _ _
        exact w_ireturn dX16_heat_74 ⟨rfl, k r hr rfl ⟨(of_decide_eq_true (bI_n0.mp c22)), (of_decide_eq_true (bI_n0.mp c33))⟩ p1 c1 n1 x1 hL1 hn1⟩
      · refine w_op (pc' := 37) dX16_heat_36 rfl ?_
        refine w_iconst (v := 2) dX16_heat_37 rfl ?_
        refine t_callV (t := T_MODEL) (As := [_]) dX16_heat_38 rfl rM_X16_fails (by decide) rfl rfl (by decide) (by decide) (Nat.le_of_ble_eq_true rfl) rfl (hp.1 _ rfl) (c_X16_fails hp ?_)
        show s_w _ _ _ 41 _ _ _ _
        exact w_ireturn dX16_heat_41 ⟨rfl, kx2 hx (fun u => (of_decide_eq_false (bI_0.mp c33)) u.2)⟩
  · refine w_op (pc' := 9) dX16_heat_8 rfl ?_
    refine w_iconst (v := 1) dX16_heat_9 rfl ?_
    refine t_callV (t := T_MODEL) (As := [_]) dX16_heat_10 rfl rM_X16_fails (by decide) rfl rfl (by decide) (by decide) (Nat.le_of_ble_eq_true rfl) rfl (hp.1 _ rfl) (c_X16_fails hp ?_)
    show s_w _ _ _ 13 _ _ _ _
    exact w_ireturn dX16_heat_13 ⟨rfl, kx (of_decide_eq_false (bI_0.mp c5))⟩

set_option maxRecDepth 100000 in
set_option maxHeartbeats 800000 in
theorem c_X16_guest {X : e_XT} {d : Nat} {p : e_Sp} {I : e_I} {J : e_Jt} {c : Nat × Nat} {w : e_Rw1} {Q : e_Rt → e_SS → Prop} {nk nr np a b n : Nat} (hG : q_G p I c nk nr np a b n) (hX : (X 8).1 = 0) {x : Int32} (k : (0 ≤ x ∧ x ≤ 3) → ∀ p' c' n', q_X p p' → q_L p' (q_st nk nr np (s_up I f_m_guest 0 x, J)).1 c' a b n' → n' ≤ n + np → Q (.inl (some (.int (I f_m_guest 0)))) (p', q_an (q_st nk nr np (s_up I f_m_guest 0 x, J)).1, (q_st nk nr np (s_up I f_m_guest 0 x, J)).2, c', w)) (kx : ¬ (0 ≤ x ∧ x ≤ 3) → Q (.inl (some (.int 0))) (p, q_fl I 1, J, c, w)) : s_c X (d + 10) 286 [.ref (p.1 T_MODEL 0), .int x] (p, I, J, c, w) Q := by
  have hM := hG.1
  have hp := hM.1
  have hk40 := hM.2.1
  have hr10 := hM.2.2.1
  have hnp := hM.2.2.2.1
  refine m_X16_guest (Nat.le_of_ble_eq_true rfl) ?_
  show s_w _ _ _ 0 _ _ _ _
  refine w_op (pc' := 1) dX16_guest_0 rfl ?_
  refine w_iconst (v := 0) dX16_guest_1 rfl ?_
  refine w_iconst (v := 3) dX16_guest_2 rfl ?_
  refine t_callS (As := [_, _, _]) dX16_guest_3 rfl rM_X16_in (by decide) rfl rfl (by decide) (Nat.le_of_ble_eq_true rfl) (c_X16_in ?_)
  show s_w _ _ _ 6 _ _ _ _
  refine w_ifne (t := 15) dX16_guest_6 (by decide) (fun c6 => ?_) (fun c6 => ?_)
  · refine w_op (pc' := 16) dX16_guest_15 rfl ?_
    refine t_getI (F := f_m_guest) dX16_guest_16 rfl rfl (by decide) rfl ⟨rfl, fun _ => rfl⟩ (hp.1 _ rfl) ?_
    refine w_op (pc' := 20) (ll' := [_, _, _]) dX16_guest_19 rfl ?_
    refine w_op (pc' := 21) dX16_guest_20 rfl ?_
    refine w_op (pc' := 22) dX16_guest_21 rfl ?_
    refine t_putI (F := f_m_guest) dX16_guest_22 rfl rfl (by decide) (by decide) rfl rfl (Or.inl rfl) (hp.1 _ rfl) ?_
    refine w_op (pc' := 26) dX16_guest_25 rfl ?_
    refine w_op (pc' := 27) dX16_guest_26 rfl ?_
    refine t_callV (t := T_MODEL) (As := [_]) dX16_guest_27 rfl rM_X16_settled (by decide) rfl rfl (by decide) (by decide) (Nat.le_of_ble_eq_true rfl) rfl (hp.1 _ rfl) (c_X16_settled (hG.up (by decide)) hX (fun p1 c1 n1 x1 hL1 hn1 => ?_))
    show s_w _ _ _ 30 _ _ _ _
    exact w_ireturn dX16_guest_30 ⟨rfl, k (of_decide_eq_true (bI_n0.mp c6)) p1 c1 n1 x1 hL1 hn1⟩
  · refine w_op (pc' := 10) dX16_guest_9 rfl ?_
    refine w_iconst (v := 1) dX16_guest_10 rfl ?_
    refine t_callV (t := T_MODEL) (As := [_]) dX16_guest_11 rfl rM_X16_fails (by decide) rfl rfl (by decide) (by decide) (Nat.le_of_ble_eq_true rfl) rfl (hp.1 _ rfl) (c_X16_fails hp ?_)
    show s_w _ _ _ 14 _ _ _ _
    exact w_ireturn dX16_guest_14 ⟨rfl, kx (of_decide_eq_false (bI_0.mp c6))⟩

set_option maxRecDepth 100000 in
set_option maxHeartbeats 800000 in
theorem c_X16_level {X : e_XT} {d : Nat} {p : e_Sp} {I : e_I} {J : e_Jt} {c : Nat × Nat} {w : e_Rw1} {Q : e_Rt → e_SS → Prop} {nk nr np a b n : Nat} (hG : q_G p I c nk nr np a b n) (hX : (X 8).1 = 0) {x : Int32} (k : (0 ≤ x ∧ x ≤ 3) → ∀ p' c' n', q_X p p' → q_L p' (q_st nk nr np (s_up I f_m_level 0 x, J)).1 c' a b n' → n' ≤ n + np → Q (.inl (some (.int (I f_m_level 0)))) (p', q_an (q_st nk nr np (s_up I f_m_level 0 x, J)).1, (q_st nk nr np (s_up I f_m_level 0 x, J)).2, c', w)) (kx : ¬ (0 ≤ x ∧ x ≤ 3) → Q (.inl (some (.int 0))) (p, q_fl I 1, J, c, w)) : s_c X (d + 10) 289 [.ref (p.1 T_MODEL 0), .int x] (p, I, J, c, w) Q := by
  have hM := hG.1
  have hp := hM.1
  have hk40 := hM.2.1
  have hr10 := hM.2.2.1
  have hnp := hM.2.2.2.1
  refine m_X16_level (Nat.le_of_ble_eq_true rfl) ?_
  show s_w _ _ _ 0 _ _ _ _
  refine w_op (pc' := 1) dX16_level_0 rfl ?_
  refine w_iconst (v := 0) dX16_level_1 rfl ?_
  refine w_iconst (v := 3) dX16_level_2 rfl ?_
  refine t_callS (As := [_, _, _]) dX16_level_3 rfl rM_X16_in (by decide) rfl rfl (by decide) (Nat.le_of_ble_eq_true rfl) (c_X16_in ?_)
  show s_w _ _ _ 6 _ _ _ _
  refine w_ifne (t := 15) dX16_level_6 (by decide) (fun c6 => ?_) (fun c6 => ?_)
  · refine w_op (pc' := 16) dX16_level_15 rfl ?_
    refine t_getI (F := f_m_level) dX16_level_16 rfl rfl (by decide) rfl ⟨rfl, fun _ => rfl⟩ (hp.1 _ rfl) ?_
    refine w_op (pc' := 20) (ll' := [_, _, _]) dX16_level_19 rfl ?_
    refine w_op (pc' := 21) dX16_level_20 rfl ?_
    refine w_op (pc' := 22) dX16_level_21 rfl ?_
    refine t_putI (F := f_m_level) dX16_level_22 rfl rfl (by decide) (by decide) rfl rfl (Or.inl rfl) (hp.1 _ rfl) ?_
    refine w_op (pc' := 26) dX16_level_25 rfl ?_
    refine w_op (pc' := 27) dX16_level_26 rfl ?_
    refine t_callV (t := T_MODEL) (As := [_]) dX16_level_27 rfl rM_X16_settled (by decide) rfl rfl (by decide) (by decide) (Nat.le_of_ble_eq_true rfl) rfl (hp.1 _ rfl) (c_X16_settled (hG.up (by decide)) hX (fun p1 c1 n1 x1 hL1 hn1 => ?_))
    show s_w _ _ _ 30 _ _ _ _
    exact w_ireturn dX16_level_30 ⟨rfl, k (of_decide_eq_true (bI_n0.mp c6)) p1 c1 n1 x1 hL1 hn1⟩
  · refine w_op (pc' := 10) dX16_level_9 rfl ?_
    refine w_iconst (v := 1) dX16_level_10 rfl ?_
    refine t_callV (t := T_MODEL) (As := [_]) dX16_level_11 rfl rM_X16_fails (by decide) rfl rfl (by decide) (by decide) (Nat.le_of_ble_eq_true rfl) rfl (hp.1 _ rfl) (c_X16_fails hp ?_)
    show s_w _ _ _ 14 _ _ _ _
    exact w_ireturn dX16_level_14 ⟨rfl, kx (of_decide_eq_false (bI_0.mp c6))⟩

set_option maxRecDepth 100000 in
set_option maxHeartbeats 800000 in
theorem c_X16_scope {X : e_XT} {d : Nat} {p : e_Sp} {I : e_I} {J : e_Jt} {c : Nat × Nat} {w : e_Rw1} {Q : e_Rt → e_SS → Prop} {nk nr np a b n : Nat} (hG : q_G p I c nk nr np a b n) (hX : (X 8).1 = 0) {x y : Int32} (hy : y = 0 ∨ y = 1) (hb : q_bo I f_mk_isIn) (k : ∀ kk, kk < nk → x = nI kk → ∀ p' c' n', q_X p p' → q_L p' (q_st nk nr np (s_up I f_mk_isIn kk y, J)).1 c' a b n' → n' ≤ n + np → Q (.inl (some (.int (I f_mk_isIn kk)))) (p', q_an (q_st nk nr np (s_up I f_mk_isIn kk y, J)).1, (q_st nk nr np (s_up I f_mk_isIn kk y, J)).2, c', w)) (kx : ¬ (0 ≤ x ∧ x < nI nk) → Q (.inl (some (.int 0))) (p, q_fl I 1, J, c, w)) : s_c X (d + 10) 290 [.ref (p.1 T_MODEL 0), .int x, .int y] (p, I, J, c, w) Q := by
  have hM := hG.1
  have hp := hM.1
  have hk40 := hM.2.1
  have hr10 := hM.2.2.1
  have hnp := hM.2.2.2.1
  refine m_X16_scope (Nat.le_of_ble_eq_true rfl) ?_
  show s_w _ _ _ 0 _ _ _ _
  refine w_op (pc' := 1) dX16_scope_0 rfl ?_
  refine w_op (pc' := 2) dX16_scope_1 rfl ?_
  refine t_callV (t := T_MODEL) (As := [_]) dX16_scope_2 rfl rM_X16_isKnob (by decide) rfl rfl (by decide) (by decide) (Nat.le_of_ble_eq_true rfl) rfl (hp.1 _ rfl) (c_X16_isKnob hM ?_)
  show s_w _ _ _ 5 _ _ _ _
  refine w_ifne (t := 14) dX16_scope_5 (by decide) (fun c5 => ?_) (fun c5 => ?_)
  · have hx := of_decide_eq_true (bI_n0.mp c5)
    obtain ⟨kk, hk, rfl⟩ := s_nat hx.1 hx.2 (by omega)
    have hK := hM.2.2.2.2.1 kk hk
    have hv := hK.1
    refine w_op (pc' := 15) dX16_scope_14 rfl ?_
    refine t_getG0 (G := g_m_list1) dX16_scope_15 rfl rfl (by decide) rfl (fun _ => rfl) (hp.1 _ rfl) ?_
    refine w_op (pc' := 19) dX16_scope_18 rfl ?_
    refine t_callV (t := T_LIST) (As := [_]) dX16_scope_19 rfl rM_Jx4a65c_get_915e3 (by decide) rfl rfl (by decide) (by decide) (Nat.le_of_ble_eq_true rfl) rfl (hp.2 _ (by decide)) (c_get3 hp hk40.2 (by omega) hk ?_)
    show s_w _ _ _ 22 _ _ _ _
    refine t_chk dX16_scope_22 rfl rfl (by decide) (by assumption) ?_
    refine t_getI (F := f_mk_isIn) dX16_scope_25 rfl rfl (by decide) rfl ⟨rfl, fun _ => rfl⟩ (by assumption) ?_
    refine w_op (pc' := 29) (ll' := [_, _, _, _]) dX16_scope_28 rfl ?_
    refine w_op (pc' := 30) dX16_scope_29 rfl ?_
    refine t_getG0 (G := g_m_list1) dX16_scope_30 rfl rfl (by decide) rfl (fun _ => rfl) (hp.1 _ rfl) ?_
    refine w_op (pc' := 34) dX16_scope_33 rfl ?_
    refine t_callV (t := T_LIST) (As := [_]) dX16_scope_34 rfl rM_Jx4a65c_get_915e3 (by decide) rfl rfl (by decide) (by decide) (Nat.le_of_ble_eq_true rfl) rfl (hp.2 _ (by decide)) (c_get3 hp hk40.2 (by omega) hk ?_)
    show s_w _ _ _ 37 _ _ _ _
    refine t_chk dX16_scope_37 rfl rfl (by decide) (by assumption) ?_
    refine w_op (pc' := 41) dX16_scope_40 rfl ?_
    refine t_putI (F := f_mk_isIn) dX16_scope_41 rfl rfl (by decide) (by decide) rfl (s_ckb hy) (Or.inl rfl) (by assumption) ?_
    refine w_op (pc' := 45) dX16_scope_44 rfl ?_
    refine w_op (pc' := 46) dX16_scope_45 rfl ?_
    refine t_callV (t := T_MODEL) (As := [_]) dX16_scope_46 rfl rM_X16_settledSo (by decide) rfl rfl (by decide) (by decide) (Nat.le_of_ble_eq_true rfl) rfl (hp.1 _ rfl) (c_X16_settledSo (hG.up (by decide)) hX (hb kk) (fun p1 c1 n1 x1 hL1 hn1 => ?_))
    show s_w _ _ _ 49 _ _ _ _
    exact w_ireturn dX16_scope_49 ⟨s_rcb (hb kk), k kk hk rfl p1 c1 n1 x1 hL1 hn1⟩
  · refine w_op (pc' := 9) dX16_scope_8 rfl ?_
    refine w_iconst (v := 1) dX16_scope_9 rfl ?_
    refine t_callV (t := T_MODEL) (As := [_]) dX16_scope_10 rfl rM_X16_refuses (by decide) rfl rfl (by decide) (by decide) (Nat.le_of_ble_eq_true rfl) rfl (hp.1 _ rfl) (c_X16_refuses hp ?_)
    show s_w _ _ _ 13 _ _ _ _
    exact w_ireturn dX16_scope_13 ⟨s_rcb (Or.inl rfl), kx (of_decide_eq_false (bI_0.mp c5))⟩

set_option maxRecDepth 100000 in
set_option maxHeartbeats 800000 in
theorem c_X16_isOthers {X : e_XT} {d : Nat} {p : e_Sp} {I : e_I} {J : e_Jt} {c : Nat × Nat} {w : e_Rw1} {Q : e_Rt → e_SS → Prop} (hp : s_ok p) (hlv : q_lv I) (k : Q (.inl (some (.int (bI (q_ot I))))) (p, I, J, c, w)) : s_c X (d + 0) 288 [.ref (p.1 T_MODEL 0)] (p, I, J, c, w) Q := by
  refine m_X16_isOthers (Nat.le_of_ble_eq_true rfl) ?_
  show s_w _ _ _ 0 _ _ _ _
  refine w_op (pc' := 1) dX16_isOthers_0 rfl ?_
  refine t_getG0 (G := g_m_claimed) dX16_isOthers_1 rfl rfl (by decide) rfl (fun _ => rfl) (hp.1 _ rfl) ?_
  refine w_op (pc' := 5) dX16_isOthers_4 rfl ?_
  refine t_getI (F := f_m_level) dX16_isOthers_5 rfl rfl (by decide) rfl ⟨rfl, fun _ => rfl⟩ (hp.1 _ rfl) ?_
  refine t_iald0 (F := f_m_claimed) dX16_isOthers_8 rfl (by decide) rfl (hp.1 _ rfl) hlv hlv.2.2 ?_
  refine w_iconst (v := (-1)) dX16_isOthers_9 rfl ?_
  refine w_icmpeq (t := 33) dX16_isOthers_10 (by decide) (fun c10 => ?_) (fun c10 => ?_)
  · refine w_iconst (v := 0) dX16_isOthers_33 rfl ?_
    exact w_ireturn dX16_isOthers_34 ⟨s_rcb (by first | exact Or.inl rfl | exact Or.inr rfl | exact bI_or _), s_eqi (by unfold q_ot; grind) k⟩
  · refine w_op (pc' := 14) dX16_isOthers_13 rfl ?_
    refine t_getG0 (G := g_m_claimed) dX16_isOthers_14 rfl rfl (by decide) rfl (fun _ => rfl) (hp.1 _ rfl) ?_
    refine w_op (pc' := 18) dX16_isOthers_17 rfl ?_
    refine t_getI (F := f_m_level) dX16_isOthers_18 rfl rfl (by decide) rfl ⟨rfl, fun _ => rfl⟩ (hp.1 _ rfl) ?_
    refine t_iald0 (F := f_m_claimed) dX16_isOthers_21 rfl (by decide) rfl (hp.1 _ rfl) hlv hlv.2.2 ?_
    refine w_op (pc' := 23) dX16_isOthers_22 rfl ?_
    refine t_getI (F := f_m_guest) dX16_isOthers_23 rfl rfl (by decide) rfl ⟨rfl, fun _ => rfl⟩ (hp.1 _ rfl) ?_
    refine w_icmpeq (t := 33) dX16_isOthers_26 (by decide) (fun c26 => ?_) (fun c26 => ?_)
    · refine w_iconst (v := 0) dX16_isOthers_33 rfl ?_
      exact w_ireturn dX16_isOthers_34 ⟨s_rcb (by first | exact Or.inl rfl | exact Or.inr rfl | exact bI_or _), s_eqi (by unfold q_ot; grind) k⟩
    · refine w_iconst (v := 1) dX16_isOthers_29 rfl ?_
      refine w_goto (t := 34) dX16_isOthers_30 (by decide) ?_
      exact w_ireturn dX16_isOthers_34 ⟨s_rcb (by first | exact Or.inl rfl | exact Or.inr rfl | exact bI_or _), s_eqi (by unfold q_ot; grind) k⟩

set_option maxRecDepth 100000 in
set_option maxHeartbeats 800000 in
theorem c_X16_claim {X : e_XT} {d : Nat} {p : e_Sp} {I : e_I} {J : e_Jt} {c : Nat × Nat} {w : e_Rw1} {Q : e_Rt → e_SS → Prop} {nk nr np a b n : Nat} (hG : q_G p I c nk nr np a b n) (hX : (X 8).1 = 0) {x : Int32} (hlv : q_lv I) (k : q_ot I = false → ∀ p' c' n', q_X p p' → q_L p' (q_st nk nr np (s_up I f_m_claimed (q_l I) (if x = 0 then -1 else I f_m_guest 0), J)).1 c' a b n' → n' ≤ n + np → Q (.inl (some (.int (bI (decide (I f_m_claimed (q_l I) = I f_m_guest 0)))))) (p', q_an (q_st nk nr np (s_up I f_m_claimed (q_l I) (if x = 0 then -1 else I f_m_guest 0), J)).1, (q_st nk nr np (s_up I f_m_claimed (q_l I) (if x = 0 then -1 else I f_m_guest 0), J)).2, c', w)) (kx : q_ot I = true → Q (.inl (some (.int 0))) (p, q_fl I 1, J, c, w)) : s_c X (d + 10) 287 [.ref (p.1 T_MODEL 0), .int x] (p, I, J, c, w) Q := by
  have hM := hG.1
  have hp := hM.1
  have hk40 := hM.2.1
  have hr10 := hM.2.2.1
  have hnp := hM.2.2.2.1
  refine m_X16_claim (Nat.le_of_ble_eq_true rfl) ?_
  show s_w _ _ _ 0 _ _ _ _
  refine w_op (pc' := 1) dX16_claim_0 rfl ?_
  refine t_callV (t := T_MODEL) (As := []) dX16_claim_1 rfl rM_X16_isOthers (by decide) rfl rfl (by decide) (by decide) (Nat.le_of_ble_eq_true rfl) rfl (hp.1 _ rfl) (c_X16_isOthers hp hlv ?_)
  show s_w _ _ _ 4 _ _ _ _
  refine w_ifeq (t := 13) dX16_claim_4 (by decide) (fun c4 => ?_) (fun c4 => ?_)
  · refine w_op (pc' := 14) dX16_claim_13 rfl ?_
    refine t_getG0 (G := g_m_claimed) dX16_claim_14 rfl rfl (by decide) rfl (fun _ => rfl) (hp.1 _ rfl) ?_
    refine w_op (pc' := 18) dX16_claim_17 rfl ?_
    refine t_getI (F := f_m_level) dX16_claim_18 rfl rfl (by decide) rfl ⟨rfl, fun _ => rfl⟩ (hp.1 _ rfl) ?_
    refine t_iald0 (F := f_m_claimed) dX16_claim_21 rfl (by decide) rfl (hp.1 _ rfl) hlv hlv.2.2 ?_
    refine w_op (pc' := 23) dX16_claim_22 rfl ?_
    refine t_getI (F := f_m_guest) dX16_claim_23 rfl rfl (by decide) rfl ⟨rfl, fun _ => rfl⟩ (hp.1 _ rfl) ?_
    refine w_icmpne (t := 33) dX16_claim_26 (by decide) (fun c26 => ?_) (fun c26 => ?_)
    · refine w_iconst (v := 0) dX16_claim_33 rfl ?_
      refine w_op (pc' := 35) (ll' := [_, _, _]) dX16_claim_34 rfl ?_
      refine w_op (pc' := 36) dX16_claim_35 rfl ?_
      refine t_getG0 (G := g_m_claimed) dX16_claim_36 rfl rfl (by decide) rfl (fun _ => rfl) (hp.1 _ rfl) ?_
      refine w_op (pc' := 40) dX16_claim_39 rfl ?_
      refine t_getI (F := f_m_level) dX16_claim_40 rfl rfl (by decide) rfl ⟨rfl, fun _ => rfl⟩ (hp.1 _ rfl) ?_
      refine w_op (pc' := 44) dX16_claim_43 rfl ?_
      refine w_ifeq (t := 54) dX16_claim_44 (by decide) (fun c44 => ?_) (fun c44 => ?_)
      · refine w_iconst (v := (-1)) dX16_claim_54 rfl ?_
        refine t_iast0 (F := f_m_claimed) dX16_claim_55 rfl (by decide) (by decide) rfl (hp.1 _ rfl) hlv hlv.2.2 ?_
        refine w_op (pc' := 57) dX16_claim_56 rfl ?_
        refine w_op (pc' := 58) dX16_claim_57 rfl ?_
        refine t_callV (t := T_MODEL) (As := [_]) dX16_claim_58 rfl rM_X16_settledSo (by decide) rfl rfl (by decide) (by decide) (Nat.le_of_ble_eq_true rfl) rfl (hp.1 _ rfl) (c_X16_settledSo (hG.up (by decide)) hX (by first | exact Or.inl rfl | exact Or.inr rfl) (fun p1 c1 n1 x1 hL1 hn1 => ?_))
        show s_w _ _ _ 61 _ _ _ _
        exact w_ireturn dX16_claim_61 ⟨s_rcb (by first | exact Or.inl rfl | exact Or.inr rfl), (by have k9 := k (bI_0.mp c4); rw [if_pos c44, bI_f c26] at k9; exact k9 p1 c1 n1 x1 hL1 hn1)⟩
      · refine w_op (pc' := 48) dX16_claim_47 rfl ?_
        refine t_getI (F := f_m_guest) dX16_claim_48 rfl rfl (by decide) rfl ⟨rfl, fun _ => rfl⟩ (hp.1 _ rfl) ?_
        refine w_goto (t := 55) dX16_claim_51 (by decide) ?_
        refine t_iast0 (F := f_m_claimed) dX16_claim_55 rfl (by decide) (by decide) rfl (hp.1 _ rfl) hlv hlv.2.2 ?_
        refine w_op (pc' := 57) dX16_claim_56 rfl ?_
        refine w_op (pc' := 58) dX16_claim_57 rfl ?_
        refine t_callV (t := T_MODEL) (As := [_]) dX16_claim_58 rfl rM_X16_settledSo (by decide) rfl rfl (by decide) (by decide) (Nat.le_of_ble_eq_true rfl) rfl (hp.1 _ rfl) (c_X16_settledSo (hG.up (by decide)) hX (by first | exact Or.inl rfl | exact Or.inr rfl) (fun p1 c1 n1 x1 hL1 hn1 => ?_))
        show s_w _ _ _ 61 _ _ _ _
        exact w_ireturn dX16_claim_61 ⟨s_rcb (by first | exact Or.inl rfl | exact Or.inr rfl), (by have k9 := k (bI_0.mp c4); rw [if_neg c44, bI_f c26] at k9; exact k9 p1 c1 n1 x1 hL1 hn1)⟩
    · refine w_iconst (v := 1) dX16_claim_29 rfl ?_
      refine w_goto (t := 34) dX16_claim_30 (by decide) ?_
      refine w_op (pc' := 35) (ll' := [_, _, _]) dX16_claim_34 rfl ?_
      refine w_op (pc' := 36) dX16_claim_35 rfl ?_
      refine t_getG0 (G := g_m_claimed) dX16_claim_36 rfl rfl (by decide) rfl (fun _ => rfl) (hp.1 _ rfl) ?_
      refine w_op (pc' := 40) dX16_claim_39 rfl ?_
      refine t_getI (F := f_m_level) dX16_claim_40 rfl rfl (by decide) rfl ⟨rfl, fun _ => rfl⟩ (hp.1 _ rfl) ?_
      refine w_op (pc' := 44) dX16_claim_43 rfl ?_
      refine w_ifeq (t := 54) dX16_claim_44 (by decide) (fun c44 => ?_) (fun c44 => ?_)
      · refine w_iconst (v := (-1)) dX16_claim_54 rfl ?_
        refine t_iast0 (F := f_m_claimed) dX16_claim_55 rfl (by decide) (by decide) rfl (hp.1 _ rfl) hlv hlv.2.2 ?_
        refine w_op (pc' := 57) dX16_claim_56 rfl ?_
        refine w_op (pc' := 58) dX16_claim_57 rfl ?_
        refine t_callV (t := T_MODEL) (As := [_]) dX16_claim_58 rfl rM_X16_settledSo (by decide) rfl rfl (by decide) (by decide) (Nat.le_of_ble_eq_true rfl) rfl (hp.1 _ rfl) (c_X16_settledSo (hG.up (by decide)) hX (by first | exact Or.inl rfl | exact Or.inr rfl) (fun p1 c1 n1 x1 hL1 hn1 => ?_))
        show s_w _ _ _ 61 _ _ _ _
        exact w_ireturn dX16_claim_61 ⟨s_rcb (by first | exact Or.inl rfl | exact Or.inr rfl), (by have k9 := k (bI_0.mp c4); rw [if_pos c44, bI_t c26] at k9; exact k9 p1 c1 n1 x1 hL1 hn1)⟩
      · refine w_op (pc' := 48) dX16_claim_47 rfl ?_
        refine t_getI (F := f_m_guest) dX16_claim_48 rfl rfl (by decide) rfl ⟨rfl, fun _ => rfl⟩ (hp.1 _ rfl) ?_
        refine w_goto (t := 55) dX16_claim_51 (by decide) ?_
        refine t_iast0 (F := f_m_claimed) dX16_claim_55 rfl (by decide) (by decide) rfl (hp.1 _ rfl) hlv hlv.2.2 ?_
        refine w_op (pc' := 57) dX16_claim_56 rfl ?_
        refine w_op (pc' := 58) dX16_claim_57 rfl ?_
        refine t_callV (t := T_MODEL) (As := [_]) dX16_claim_58 rfl rM_X16_settledSo (by decide) rfl rfl (by decide) (by decide) (Nat.le_of_ble_eq_true rfl) rfl (hp.1 _ rfl) (c_X16_settledSo (hG.up (by decide)) hX (by first | exact Or.inl rfl | exact Or.inr rfl) (fun p1 c1 n1 x1 hL1 hn1 => ?_))
        show s_w _ _ _ 61 _ _ _ _
        exact w_ireturn dX16_claim_61 ⟨s_rcb (by first | exact Or.inl rfl | exact Or.inr rfl), (by have k9 := k (bI_0.mp c4); rw [if_neg c44, bI_t c26] at k9; exact k9 p1 c1 n1 x1 hL1 hn1)⟩
  · refine w_op (pc' := 8) dX16_claim_7 rfl ?_
    refine w_iconst (v := 1) dX16_claim_8 rfl ?_
    refine t_callV (t := T_MODEL) (As := [_]) dX16_claim_9 rfl rM_X16_refuses (by decide) rfl rfl (by decide) (by decide) (Nat.le_of_ble_eq_true rfl) rfl (hp.1 _ rfl) (c_X16_refuses hp ?_)
    show s_w _ _ _ 12 _ _ _ _
    exact w_ireturn dX16_claim_12 ⟨s_rcb (Or.inl rfl), kx (bI_n0.mp c4)⟩

set_option maxRecDepth 100000 in
set_option maxHeartbeats 800000 in
theorem c_X16_isOnRelay {X : e_XT} {d : Nat} {p : e_Sp} {I : e_I} {J : e_Jt} {c : Nat × Nat} {w : e_Rw1} {Q : e_Rt → e_SS → Prop} {nk nr np a b n : Nat} (hG : q_G p I c nk nr np a b n) (hX : (X 8).1 = 0) {x : Int32} (k : (0 ≤ x ∧ x ≤ 15) → Q (.inl (some (.int (q_rel nk I f_m_isRelay x.toNatClampNeg)))) (p, q_an (q_rel nk I), J, c, w)) (kx : ¬ (0 ≤ x ∧ x ≤ 15) → Q (.inl (some (.int 0))) (p, q_fl I 1, J, c, w)) : s_c X (d + 5) 305 [.ref (p.1 T_MODEL 0), .int x] (p, I, J, c, w) Q := by
  have hM := hG.1
  have hp := hM.1
  have hk40 := hM.2.1
  have hr10 := hM.2.2.1
  have hnp := hM.2.2.2.1
  refine m_X16_isOnRelay (Nat.le_of_ble_eq_true rfl) ?_
  show s_w _ _ _ 0 _ _ _ _
  refine w_op (pc' := 1) dX16_isOnRelay_0 rfl ?_
  refine w_iconst (v := 0) dX16_isOnRelay_1 rfl ?_
  refine w_bipush (v := 15) dX16_isOnRelay_2 rfl ?_
  refine t_callS (As := [_, _, _]) dX16_isOnRelay_4 rfl rM_X16_in (by decide) rfl rfl (by decide) (Nat.le_of_ble_eq_true rfl) (c_X16_in ?_)
  show s_w _ _ _ 7 _ _ _ _
  refine w_ifne (t := 16) dX16_isOnRelay_7 (by decide) (fun c7 => ?_) (fun c7 => ?_)
  · have hd := of_decide_eq_true (bI_n0.mp c7)
    have hix : s_ix x x.toNatClampNeg 16 := s_ixr (N := 15) hd.1 hd.2 (by decide)
    refine w_op (pc' := 17) dX16_isOnRelay_16 rfl ?_
    refine t_callV (t := T_MODEL) (As := []) dX16_isOnRelay_17 rfl rM_X16_relays (by decide) rfl rfl (by decide) (by decide) (Nat.le_of_ble_eq_true rfl) rfl (hp.1 _ rfl) (c_X16_relays hM hG.2.2.1 hG.2.2.2.1 hG.2.2.2.2.1 ?_)
    show s_w _ _ _ 20 _ _ _ _
    refine w_op (pc' := 21) dX16_isOnRelay_20 rfl ?_
    refine w_op (pc' := 22) dX16_isOnRelay_21 rfl ?_
    refine t_getG0 (G := g_m_isRelay) dX16_isOnRelay_22 rfl rfl (by decide) rfl (fun _ => rfl) (hp.1 _ rfl) ?_
    refine w_op (pc' := 26) dX16_isOnRelay_25 rfl ?_
    refine t_bald0 (F := f_m_isRelay) dX16_isOnRelay_26 rfl (by decide) rfl (hp.1 _ rfl) hix hix.2.2 ?_
    refine t_callV (t := T_MODEL) (As := [_]) dX16_isOnRelay_27 rfl rM_X16_says (by decide) rfl rfl (by decide) (by decide) (Nat.le_of_ble_eq_true rfl) rfl (hp.1 _ rfl) (c_X16_says hp (hG.2.2.2.2.1.rel _) ?_)
    show s_w _ _ _ 30 _ _ _ _
    exact w_ireturn dX16_isOnRelay_30 ⟨s_rcb (hG.2.2.2.2.1.rel _), k hd⟩
  · refine w_op (pc' := 11) dX16_isOnRelay_10 rfl ?_
    refine w_iconst (v := 1) dX16_isOnRelay_11 rfl ?_
    refine t_callV (t := T_MODEL) (As := [_]) dX16_isOnRelay_12 rfl rM_X16_refuses (by decide) rfl rfl (by decide) (by decide) (Nat.le_of_ble_eq_true rfl) rfl (hp.1 _ rfl) (c_X16_refuses hp ?_)
    show s_w _ _ _ 15 _ _ _ _
    exact w_ireturn dX16_isOnRelay_15 ⟨s_rcb (Or.inl rfl), kx (of_decide_eq_false (bI_0.mp c7))⟩

set_option maxRecDepth 100000 in
set_option maxHeartbeats 800000 in
theorem c_X16_recorded {X : e_XT} {d : Nat} {p : e_Sp} {I : e_I} {J : e_Jt} {c : Nat × Nat} {w : e_Rw1} {Q : e_Rt → e_SS → Prop} (hp : s_ok p) (k : Q (.inl (some (.int (I f_l_size 4)))) (p, q_an I, J, c, w)) : s_c X (d + 2) 308 [.ref (p.1 T_MODEL 0)] (p, I, J, c, w) Q := by
  refine m_X16_recorded (Nat.le_of_ble_eq_true rfl) ?_
  show s_w _ _ _ 0 _ _ _ _
  refine w_op (pc' := 1) dX16_recorded_0 rfl ?_
  refine w_op (pc' := 2) dX16_recorded_1 rfl ?_
  refine t_getG0 (G := g_m_list2) dX16_recorded_2 rfl rfl (by decide) rfl (fun _ => rfl) (hp.1 _ rfl) ?_
  refine t_callV (t := T_LIST) (As := []) dX16_recorded_5 rfl rM_Jx4a65c_size_8abf5 (by decide) rfl rfl (by decide) (by decide) (Nat.le_of_ble_eq_true rfl) rfl (hp.2 _ (by decide)) (c_size (hp.2 _ (by decide)) ?_)
  show s_w _ _ _ 8 _ _ _ _
  refine t_callV (t := T_MODEL) (As := [_]) dX16_recorded_8 rfl rM_X16_answer (by decide) rfl rfl (by decide) (by decide) (Nat.le_of_ble_eq_true rfl) rfl (hp.1 _ rfl) (c_X16_answer hp ?_)
  show s_w _ _ _ 11 _ _ _ _
  exact w_ireturn dX16_recorded_11 ⟨rfl, k⟩

set_option maxRecDepth 100000 in
set_option maxHeartbeats 800000 in
theorem c_X16_scale {X : e_XT} {d : Nat} {p : e_Sp} {I : e_I} {J : e_Jt} {c : Nat × Nat} {w : e_Rw1} {Q : e_Rt → e_SS → Prop} {nk nr np a b n : Nat} (hG : q_G p I c nk nr np a b n) (hX : (X 8).1 = 0) {x y : Int32} (hy : y = 0 ∨ y = 1) (k : (0 ≤ x ∧ x ≤ 11) → ∀ p' c' n', q_X p p' → q_L p' (q_st nk nr np (s_up (s_up (s_up I f_m_tonic 0 x) f_m_isMajor 0 y) f_m_hasChord 0 0, J)).1 c' a b n' → n' ≤ n + np → Q (.inl (some (.int (I f_m_tonic 0)))) (p', q_an (q_st nk nr np (s_up (s_up (s_up I f_m_tonic 0 x) f_m_isMajor 0 y) f_m_hasChord 0 0, J)).1, (q_st nk nr np (s_up (s_up (s_up I f_m_tonic 0 x) f_m_isMajor 0 y) f_m_hasChord 0 0, J)).2, c', w)) (kx : ¬ (0 ≤ x ∧ x ≤ 11) → Q (.inl (some (.int 0))) (p, q_fl I 1, J, c, w)) : s_c X (d + 10) 310 [.ref (p.1 T_MODEL 0), .int x, .int y] (p, I, J, c, w) Q := by
  have hM := hG.1
  have hp := hM.1
  have hk40 := hM.2.1
  have hr10 := hM.2.2.1
  have hnp := hM.2.2.2.1
  refine m_X16_scale (Nat.le_of_ble_eq_true rfl) ?_
  show s_w _ _ _ 0 _ _ _ _
  refine w_op (pc' := 1) dX16_scale_0 rfl ?_
  refine w_iconst (v := 0) dX16_scale_1 rfl ?_
  refine w_bipush (v := 11) dX16_scale_2 rfl ?_
  refine t_callS (As := [_, _, _]) dX16_scale_4 rfl rM_X16_in (by decide) rfl rfl (by decide) (Nat.le_of_ble_eq_true rfl) (c_X16_in ?_)
  show s_w _ _ _ 7 _ _ _ _
  refine w_ifne (t := 16) dX16_scale_7 (by decide) (fun c7 => ?_) (fun c7 => ?_)
  · refine w_op (pc' := 17) dX16_scale_16 rfl ?_
    refine t_getI (F := f_m_tonic) dX16_scale_17 rfl rfl (by decide) rfl ⟨rfl, fun _ => rfl⟩ (hp.1 _ rfl) ?_
    refine w_op (pc' := 21) (ll' := [_, _, _, _]) dX16_scale_20 rfl ?_
    refine w_op (pc' := 22) dX16_scale_21 rfl ?_
    refine w_op (pc' := 23) dX16_scale_22 rfl ?_
    refine t_putI (F := f_m_tonic) dX16_scale_23 rfl rfl (by decide) (by decide) rfl rfl (Or.inl rfl) (hp.1 _ rfl) ?_
    refine w_op (pc' := 27) dX16_scale_26 rfl ?_
    refine w_op (pc' := 28) dX16_scale_27 rfl ?_
    refine t_putI (F := f_m_isMajor) dX16_scale_28 rfl rfl (by decide) (by decide) rfl (s_ckb hy) (Or.inl rfl) (hp.1 _ rfl) ?_
    refine w_op (pc' := 32) dX16_scale_31 rfl ?_
    refine w_iconst (v := 0) dX16_scale_32 rfl ?_
    refine t_putI (F := f_m_hasChord) dX16_scale_33 rfl rfl (by decide) (by decide) rfl (s_ckb (by first | exact Or.inl rfl | exact Or.inr rfl | assumption)) (Or.inl rfl) (hp.1 _ rfl) ?_
    refine w_op (pc' := 37) dX16_scale_36 rfl ?_
    refine w_op (pc' := 38) dX16_scale_37 rfl ?_
    refine t_callV (t := T_MODEL) (As := [_]) dX16_scale_38 rfl rM_X16_settled (by decide) rfl rfl (by decide) (by decide) (Nat.le_of_ble_eq_true rfl) rfl (hp.1 _ rfl) (c_X16_settled (((hG.up (by decide)).up (by decide)).up (by decide)) hX (fun p1 c1 n1 x1 hL1 hn1 => ?_))
    show s_w _ _ _ 41 _ _ _ _
    exact w_ireturn dX16_scale_41 ⟨rfl, k (of_decide_eq_true (bI_n0.mp c7)) p1 c1 n1 x1 hL1 hn1⟩
  · refine w_op (pc' := 11) dX16_scale_10 rfl ?_
    refine w_iconst (v := 1) dX16_scale_11 rfl ?_
    refine t_callV (t := T_MODEL) (As := [_]) dX16_scale_12 rfl rM_X16_fails (by decide) rfl rfl (by decide) (by decide) (Nat.le_of_ble_eq_true rfl) rfl (hp.1 _ rfl) (c_X16_fails hp ?_)
    show s_w _ _ _ 15 _ _ _ _
    exact w_ireturn dX16_scale_15 ⟨rfl, kx (of_decide_eq_false (bI_0.mp c7))⟩

set_option maxRecDepth 100000 in
set_option maxHeartbeats 800000 in
theorem c_X16_isTrue {X : e_XT} {d : Nat} {p : e_Sp} {I : e_I} {J : e_Jt} {c : Nat × Nat} {w : e_Rw1} {Q : e_Rt → e_SS → Prop} (hp : s_ok p) (k : Q (.inl (some (.int (1)))) (p, q_an I, J, c, w)) : s_c X (d + 1) 322 [.ref (p.1 T_MODEL 0)] (p, I, J, c, w) Q := by
  refine m_X16_isTrue (Nat.le_of_ble_eq_true rfl) ?_
  show s_w _ _ _ 0 _ _ _ _
  refine w_op (pc' := 1) dX16_isTrue_0 rfl ?_
  refine w_iconst (v := 1) dX16_isTrue_1 rfl ?_
  refine t_callV (t := T_MODEL) (As := [_]) dX16_isTrue_2 rfl rM_X16_says (by decide) rfl rfl (by decide) (by decide) (Nat.le_of_ble_eq_true rfl) rfl (hp.1 _ rfl) (c_X16_says hp (Or.inr rfl) ?_)
  show s_w _ _ _ 5 _ _ _ _
  exact w_ireturn dX16_isTrue_5 ⟨s_rcb (Or.inr rfl), k⟩

set_option maxRecDepth 100000 in
set_option maxHeartbeats 800000 in
theorem c_X16_pitchOf {X : e_XT} {d : Nat} {p : e_Sp} {I : e_I} {J : e_Jt} {c : Nat × Nat} {w : e_Rw1} {Q : e_Rt → e_SS → Prop} {nk nr np : Nat} (hM : q_D p I nk nr np) {q : Nat} (hq : q < np) (k : Q (.inl (some (.int (q_pt I q)))) (p, I, J, c, w)) : s_c X (d + 3) 279 [.ref (p.1 T_MODEL 0), .int (nI q)] (p, I, J, c, w) Q := by
  have hp := hM.1
  have hk40 := hM.2.1
  have hr10 := hM.2.2.1
  have hnp := hM.2.2.2.1
  obtain ⟨r, b9, hr, er, eb, hbq⟩ := hM.2.2.2.2.2.2 q hq
  have erk : q_rk I q = r := by unfold q_rk; rw [er, nI_clamp (by omega)]
  obtain ⟨hv, lo, nn, bb, dv, elo, -, ebb, edv, hlo, hbn, hdv⟩ := hM.2.2.2.2.2.1 r hr
  have hix : s_ix (I f_mr_division r) (I f_mr_division r).toNatClampNeg 3 := by rw [edv, nI_clamp (by omega)]; exact s_ix.nI hdv (by decide)
  have h0 : 0 ≤ I f_mr_lowest r + nI q - I f_mr_base r := by rw [elo, eb, nI_add, nI_sub (by omega)]; exact nI_pos' (by omega)
  have h12 := s_mod12 h0
  have hqx : s_ix (nI q) q 1280 := s_ix.nI (by omega) (by decide)
  refine m_X16_pitchOf (Nat.le_of_ble_eq_true rfl) ?_
  show s_w _ _ _ 0 _ _ _ _
  refine w_op (pc' := 1) dX16_pitchOf_0 rfl ?_
  refine t_getG0 (G := g_m_list0) dX16_pitchOf_1 rfl rfl (by decide) rfl (fun _ => rfl) (hp.1 _ rfl) ?_
  refine w_op (pc' := 5) dX16_pitchOf_4 rfl ?_
  refine t_getG0 (G := g_m_rankOf) dX16_pitchOf_5 rfl rfl (by decide) rfl (fun _ => rfl) (hp.1 _ rfl) ?_
  refine w_op (pc' := 9) dX16_pitchOf_8 rfl ?_
  refine t_iald0 (F := f_m_rankOf) dX16_pitchOf_9 rfl (by decide) rfl (hp.1 _ rfl) hqx hqx.2.2 ?_
  rw [er]
  refine t_callV (t := T_LIST) (As := [_]) dX16_pitchOf_10 rfl rM_Jx4a65c_get_915e3 (by decide) rfl rfl (by decide) (by decide) (Nat.le_of_ble_eq_true rfl) rfl (hp.2 _ (by decide)) (c_get2 hp hr10.2 (by omega) hr ?_)
  show s_w _ _ _ 13 _ _ _ _
  refine t_chk dX16_pitchOf_13 rfl rfl (by decide) (by assumption) ?_
  refine w_op (pc' := 17) (ll' := [_, _, _, _]) dX16_pitchOf_16 rfl ?_
  refine w_op (pc' := 18) dX16_pitchOf_17 rfl ?_
  refine t_getI (F := f_mr_lowest) dX16_pitchOf_18 rfl rfl (by decide) rfl ⟨rfl, fun _ => rfl⟩ (by assumption) ?_
  refine w_op (pc' := 22) dX16_pitchOf_21 rfl ?_
  refine w_op (pc' := 23) dX16_pitchOf_22 rfl ?_
  refine w_op (pc' := 24) dX16_pitchOf_23 rfl ?_
  refine t_getI (F := f_mr_base) dX16_pitchOf_24 rfl rfl (by decide) rfl ⟨rfl, fun _ => rfl⟩ (by assumption) ?_
  refine w_op (pc' := 28) dX16_pitchOf_27 rfl ?_
  refine w_op (pc' := 29) (ll' := [_, _, _, _]) dX16_pitchOf_28 rfl ?_
  refine w_bipush (v := 100) dX16_pitchOf_29 rfl ?_
  refine w_op (pc' := 32) dX16_pitchOf_31 rfl ?_
  refine w_op (pc' := 33) dX16_pitchOf_32 rfl ?_
  refine w_op (pc' := 34) dX16_pitchOf_33 rfl ?_
  refine t_getG0 (G := g_m_temper) dX16_pitchOf_34 rfl rfl (by decide) rfl (fun _ => rfl) (hp.1 _ rfl) ?_
  refine w_op (pc' := 38) dX16_pitchOf_37 rfl ?_
  refine w_bipush (v := 12) dX16_pitchOf_38 rfl ?_
  refine w_op (pc' := 41) dX16_pitchOf_40 (by rfl) ?_
  refine t_iald0 (F := f_m_temper) dX16_pitchOf_41 rfl (by decide) rfl (hp.1 _ rfl) h12 h12.2.2 ?_
  refine w_op (pc' := 43) dX16_pitchOf_42 rfl ?_
  refine w_op (pc' := 44) dX16_pitchOf_43 rfl ?_
  refine t_getG0 (G := g_m_tuning) dX16_pitchOf_44 rfl rfl (by decide) rfl (fun _ => rfl) (hp.1 _ rfl) ?_
  refine w_op (pc' := 48) dX16_pitchOf_47 rfl ?_
  refine t_iald0 (F := f_m_tuning) dX16_pitchOf_48 rfl (by decide) rfl (hp.1 _ rfl) hqx hqx.2.2 ?_
  refine w_op (pc' := 50) dX16_pitchOf_49 rfl ?_
  refine w_op (pc' := 51) dX16_pitchOf_50 rfl ?_
  refine t_getI (F := f_m_heat) dX16_pitchOf_51 rfl rfl (by decide) rfl ⟨rfl, fun _ => rfl⟩ (hp.1 _ rfl) ?_
  refine w_op (pc' := 55) dX16_pitchOf_54 rfl ?_
  refine t_getI (F := f_mr_heat) dX16_pitchOf_55 rfl rfl (by decide) rfl ⟨rfl, fun _ => rfl⟩ (by assumption) ?_
  refine w_op (pc' := 59) dX16_pitchOf_58 rfl ?_
  refine w_bipush (v := 10) dX16_pitchOf_59 rfl ?_
  refine w_op (pc' := 62) dX16_pitchOf_61 (by rfl) ?_
  refine w_op (pc' := 63) dX16_pitchOf_62 rfl ?_
  refine w_bipush (v := 100) dX16_pitchOf_63 rfl ?_
  refine w_op (pc' := 66) dX16_pitchOf_65 rfl ?_
  refine t_getG0 (G := g_m_winds) dX16_pitchOf_66 rfl rfl (by decide) rfl (fun _ => rfl) (hp.1 _ rfl) ?_
  refine w_op (pc' := 70) dX16_pitchOf_69 rfl ?_
  refine t_getI (F := f_mr_division) dX16_pitchOf_70 rfl rfl (by decide) rfl ⟨rfl, fun _ => rfl⟩ (by assumption) ?_
  refine t_iald0 (F := f_m_winds) dX16_pitchOf_73 rfl (by decide) rfl (hp.1 _ rfl) hix hix.2.2 ?_
  refine w_op (pc' := 75) dX16_pitchOf_74 rfl ?_
  refine w_bipush (v := 10) dX16_pitchOf_75 rfl ?_
  refine w_op (pc' := 78) dX16_pitchOf_77 (by rfl) ?_
  refine w_op (pc' := 79) dX16_pitchOf_78 rfl ?_
  exact w_ireturn dX16_pitchOf_79 ⟨rfl, s_eqi (by unfold q_pt q_no; rw [erk]) k⟩

set_option maxRecDepth 100000 in
set_option maxHeartbeats 800000 in
theorem c_X16_pitch {X : e_XT} {d : Nat} {p : e_Sp} {I : e_I} {J : e_Jt} {c : Nat × Nat} {w : e_Rw1} {Q : e_Rt → e_SS → Prop} {nk nr np a b n : Nat} (hG : q_G p I c nk nr np a b n) (hX : (X 8).1 = 0) {x y : Int32} (k : q_ip I nr x y = true → Q (.inl (some (.int (q_pt (q_bws nk np I) (q_pi I x y))))) (p, q_an (q_bws nk np I), J, c, w)) (kx : q_ip I nr x y = false → Q (.inl (some (.int 0))) (p, q_fl I 1, J, c, w)) : s_c X (d + 5) 281 [.ref (p.1 T_MODEL 0), .int x, .int y] (p, I, J, c, w) Q := by
  have hM := hG.1
  have hp := hM.1
  have hk40 := hM.2.1
  have hr10 := hM.2.2.1
  have hnp := hM.2.2.2.1
  refine m_X16_pitch (Nat.le_of_ble_eq_true rfl) ?_
  show s_w _ _ _ 0 _ _ _ _
  refine w_op (pc' := 1) dX16_pitch_0 rfl ?_
  refine w_op (pc' := 2) dX16_pitch_1 rfl ?_
  refine w_op (pc' := 3) dX16_pitch_2 rfl ?_
  refine t_callV (t := T_MODEL) (As := [_, _]) dX16_pitch_3 rfl rM_X16_isPipe (by decide) rfl rfl (by decide) (by decide) (Nat.le_of_ble_eq_true rfl) rfl (hp.1 _ rfl) (c_X16_isPipe hM ?_)
  show s_w _ _ _ 6 _ _ _ _
  refine w_ifne (t := 15) dX16_pitch_6 (by decide) (fun c6 => ?_) (fun c6 => ?_)
  · have h6 := bI_n0.mp c6
    have hx2 := q_ip_x h6
    have hix := q_ip_i hM h6
    have hqn := q_ip_n hM h6
    refine w_op (pc' := 16) dX16_pitch_15 rfl ?_
    refine t_callV (t := T_MODEL) (As := []) dX16_pitch_16 rfl rM_X16_blows (by decide) rfl rfl (by decide) (by decide) (Nat.le_of_ble_eq_true rfl) rfl (hp.1 _ rfl) (c_X16_blows hM ?_)
    show s_w _ _ _ 19 _ _ _ _
    have hM1 := hM.eqN (s_eqN.qbws (nk := nk) (np := np)) (by decide)
    have e9 : q_pp (q_bws nk np I) = q_pp I := q_pp_eq s_eqN.qbws (by decide) (by decide)
    refine w_op (pc' := 20) dX16_pitch_19 rfl ?_
    refine w_op (pc' := 21) dX16_pitch_20 rfl ?_
    refine w_op (pc' := 22) dX16_pitch_21 rfl ?_
    refine w_op (pc' := 23) dX16_pitch_22 rfl ?_
    refine w_op (pc' := 24) dX16_pitch_23 rfl ?_
    refine t_callV (t := T_MODEL) (As := [_, _]) dX16_pitch_24 rfl rM_X16_pipe (by decide) rfl rfl (by decide) (by decide) (Nat.le_of_ble_eq_true rfl) rfl (hp.1 _ rfl) (c_X16_pipe hM1 hx2 ?_)
    show s_w _ _ _ 27 _ _ _ _
    rw [e9, hqn.2]
    refine t_callV (t := T_MODEL) (As := [_]) dX16_pitch_27 rfl rM_X16_pitchOf (by decide) rfl rfl (by decide) (by decide) (Nat.le_of_ble_eq_true rfl) rfl (hp.1 _ rfl) (c_X16_pitchOf hM1 hqn.1 ?_)
    show s_w _ _ _ 30 _ _ _ _
    refine t_callV (t := T_MODEL) (As := [_]) dX16_pitch_30 rfl rM_X16_answer (by decide) rfl rfl (by decide) (by decide) (Nat.le_of_ble_eq_true rfl) rfl (hp.1 _ rfl) (c_X16_answer hp ?_)
    show s_w _ _ _ 33 _ _ _ _
    exact w_ireturn dX16_pitch_33 ⟨rfl, k h6⟩
  · refine w_op (pc' := 10) dX16_pitch_9 rfl ?_
    refine w_iconst (v := 1) dX16_pitch_10 rfl ?_
    refine t_callV (t := T_MODEL) (As := [_]) dX16_pitch_11 rfl rM_X16_fails (by decide) rfl rfl (by decide) (by decide) (Nat.le_of_ble_eq_true rfl) rfl (hp.1 _ rfl) (c_X16_fails hp ?_)
    show s_w _ _ _ 14 _ _ _ _
    exact w_ireturn dX16_pitch_14 ⟨rfl, kx (bI_0.mp c6)⟩

set_option maxRecDepth 100000 in
set_option maxHeartbeats 800000 in
theorem l_X16_loudness {X : e_XT} {d : Nat} {p : e_Sp} {I : e_I} {J : e_Jt} {c : Nat × Nat} {w : e_Rw1} {Q : e_Rt → e_SS → Prop} {nk nr np : Nat} (hM : q_D p I nk nr np) {r : Int32} (k : Q (.inl (some (.int (r)))) (p, q_an I, J, c, w)) : ∀ (n : Nat) (i : Nat) (u : Int32), (h1 : i ≤ np) → (hr : s_run (q_ld I) i (np - i) u = r) → (hn : np - i < n) → s_w X (d + 3) K_X16_loudness 4 [some (.ref (p.1 T_MODEL 0)), some (.int u), some (.int (nI i))] [] (p, I, J, c, w) (fun r S' => e_rcr (some FieldType.int) r = true ∧ Q r S') := by
  intro n
  induction n with
  | zero =>
    intro i u h1 hr hn
    exact absurd hn (Nat.not_lt_zero _)
  | succ n ih =>
    intro i u h1 hr hn
    have hp := hM.1
    have hr10 := hM.2.2.1
    have hnp := hM.2.2.2.1
    refine w_op (pc' := 5) dX16_loudness_4 rfl ?_
    refine w_op (pc' := 6) dX16_loudness_5 rfl ?_
    refine t_getI (F := f_m_pipes) dX16_loudness_6 rfl rfl (by decide) rfl ⟨rfl, fun _ => rfl⟩ (hp.1 _ rfl) ?_
    rw [hnp.2]
    refine w_icmpge (t := 81) dX16_loudness_9 (by decide) (fun c9 => ?_) (fun c9 => ?_)
    · have hi := (nI_leI (by omega) (by omega)).mp c9
      rw [s_run_z hi] at hr
      refine w_op (pc' := 82) dX16_loudness_81 rfl ?_
      refine w_op (pc' := 83) dX16_loudness_82 rfl ?_
      refine t_callV (t := T_MODEL) (As := [_]) dX16_loudness_83 rfl rM_X16_answer (by decide) rfl rfl (by decide) (by decide) (Nat.le_of_ble_eq_true rfl) rfl (hp.1 _ rfl) (c_X16_answer hp ?_)
      show s_w _ _ _ 86 _ _ _ _
      exact w_ireturn dX16_loudness_86 ⟨rfl, by subst hr; exact k⟩
    · have hi : i < np := Nat.lt_of_not_le (fun z => c9 ((nI_leI (by omega) (by omega)).mpr z))
      obtain ⟨rr, b9, hr2, er, -⟩ := hM.2.2.2.2.2.2 i hi
      have erk : q_rk I i = rr := by unfold q_rk; rw [er, nI_clamp (by omega)]
      obtain ⟨hv, lo, nn, bb, dv, -, -, -, edv, -, -, hdv⟩ := hM.2.2.2.2.2.1 rr hr2
      have hix : s_ix (I f_mr_division rr) (I f_mr_division rr).toNatClampNeg 3 := by rw [edv, nI_clamp (by omega)]; exact s_ix.nI hdv (by decide)
      refine w_op (pc' := 13) dX16_loudness_12 rfl ?_
      refine w_op (pc' := 14) dX16_loudness_13 rfl ?_
      refine t_getG0 (G := g_m_speaks) dX16_loudness_14 rfl rfl (by decide) rfl (fun _ => rfl) (hp.1 _ rfl) ?_
      refine w_op (pc' := 18) dX16_loudness_17 rfl ?_
      refine t_bald0 (F := f_m_speaks) dX16_loudness_18 rfl (by decide) rfl (hp.1 _ rfl) (show s_ix _ _ 1280 from s_ix.nI (by omega) (by decide)) (show i < 1280 by omega) ?_
      refine w_ifeq (t := 72) dX16_loudness_19 (by decide) (fun c19 => ?_) (fun c19 => ?_)
      · refine w_iconst (v := 0) dX16_loudness_72 rfl ?_
        refine w_op (pc' := 74) dX16_loudness_73 rfl ?_
        refine w_op (pc' := 75) (ll' := [_, _, _]) dX16_loudness_74 rfl ?_
        refine w_op (pc' := 78) (ll' := [_, _, _]) dX16_loudness_75 rfl ?_
        refine w_goto (t := 4) dX16_loudness_78 (by decide) ?_
        rw [show nI i + Int32.ofInt 1 = nI (i + 1) from nI_1 i]
        have ef : q_ld I i u = _ := congrArg (u + ·) (if_neg (fun z => z c19))
        rw [s_run_s hi, ef] at hr
        exact ih (i + 1) _ (by omega) hr (by omega)
      · refine w_op (pc' := 23) dX16_loudness_22 rfl ?_
        refine t_getG0 (G := g_m_list0) dX16_loudness_23 rfl rfl (by decide) rfl (fun _ => rfl) (hp.1 _ rfl) ?_
        refine w_op (pc' := 27) dX16_loudness_26 rfl ?_
        refine t_getG0 (G := g_m_rankOf) dX16_loudness_27 rfl rfl (by decide) rfl (fun _ => rfl) (hp.1 _ rfl) ?_
        refine w_op (pc' := 31) dX16_loudness_30 rfl ?_
        refine t_iald0 (F := f_m_rankOf) dX16_loudness_31 rfl (by decide) rfl (hp.1 _ rfl) (show s_ix _ _ 1280 from s_ix.nI (by omega) (by decide)) (show i < 1280 by omega) ?_
        rw [er]
        refine t_callV (t := T_LIST) (As := [_]) dX16_loudness_32 rfl rM_Jx4a65c_get_915e3 (by decide) rfl rfl (by decide) (by decide) (Nat.le_of_ble_eq_true rfl) rfl (hp.2 _ (by decide)) (c_get2 hp hr10.2 (by omega) hr2 ?_)
        show s_w _ _ _ 35 _ _ _ _
        refine t_chk dX16_loudness_35 rfl rfl (by decide) (by assumption) ?_
        refine t_getI (F := f_mr_power) dX16_loudness_38 rfl rfl (by decide) rfl ⟨rfl, fun _ => rfl⟩ (by assumption) ?_
        refine w_op (pc' := 42) dX16_loudness_41 rfl ?_
        refine t_getG0 (G := g_m_box) dX16_loudness_42 rfl rfl (by decide) rfl (fun _ => rfl) (hp.1 _ rfl) ?_
        refine w_op (pc' := 46) dX16_loudness_45 rfl ?_
        refine t_getG0 (G := g_m_list0) dX16_loudness_46 rfl rfl (by decide) rfl (fun _ => rfl) (hp.1 _ rfl) ?_
        refine w_op (pc' := 50) dX16_loudness_49 rfl ?_
        refine t_getG0 (G := g_m_rankOf) dX16_loudness_50 rfl rfl (by decide) rfl (fun _ => rfl) (hp.1 _ rfl) ?_
        refine w_op (pc' := 54) dX16_loudness_53 rfl ?_
        refine t_iald0 (F := f_m_rankOf) dX16_loudness_54 rfl (by decide) rfl (hp.1 _ rfl) (show s_ix _ _ 1280 from s_ix.nI (by omega) (by decide)) (show i < 1280 by omega) ?_
        rw [er]
        refine t_callV (t := T_LIST) (As := [_]) dX16_loudness_55 rfl rM_Jx4a65c_get_915e3 (by decide) rfl rfl (by decide) (by decide) (Nat.le_of_ble_eq_true rfl) rfl (hp.2 _ (by decide)) (c_get2 hp hr10.2 (by omega) hr2 ?_)
        show s_w _ _ _ 58 _ _ _ _
        refine t_chk dX16_loudness_58 rfl rfl (by decide) (by assumption) ?_
        refine t_getI (F := f_mr_division) dX16_loudness_61 rfl rfl (by decide) rfl ⟨rfl, fun _ => rfl⟩ (by assumption) ?_
        refine t_iald0 (F := f_m_box) dX16_loudness_64 rfl (by decide) rfl (hp.1 _ rfl) hix hix.2.2 ?_
        refine w_op (pc' := 66) dX16_loudness_65 rfl ?_
        refine w_bipush (v := 10) dX16_loudness_66 rfl ?_
        refine w_op (pc' := 69) dX16_loudness_68 (by rfl) ?_
        refine w_goto (t := 73) dX16_loudness_69 (by decide) ?_
        refine w_op (pc' := 74) dX16_loudness_73 rfl ?_
        refine w_op (pc' := 75) (ll' := [_, _, _]) dX16_loudness_74 rfl ?_
        refine w_op (pc' := 78) (ll' := [_, _, _]) dX16_loudness_75 rfl ?_
        refine w_goto (t := 4) dX16_loudness_78 (by decide) ?_
        rw [show nI i + Int32.ofInt 1 = nI (i + 1) from nI_1 i]
        have ef : q_ld I i u = _ := congrArg (u + ·) (if_pos c19)
        rw [s_run_s hi, ef, erk] at hr
        exact ih (i + 1) _ (by omega) hr (by omega)
set_option maxRecDepth 100000 in
set_option maxHeartbeats 800000 in
theorem c_X16_loudness {X : e_XT} {d : Nat} {p : e_Sp} {I : e_I} {J : e_Jt} {c : Nat × Nat} {w : e_Rw1} {Q : e_Rt → e_SS → Prop} {nk nr np : Nat} (hM : q_D p I nk nr np) (k : Q (.inl (some (.int (s_run (q_ld I) 0 np 0)))) (p, q_an I, J, c, w)) : s_c X (d + 3) 275 [.ref (p.1 T_MODEL 0)] (p, I, J, c, w) Q := by
  refine m_X16_loudness (Nat.le_of_ble_eq_true rfl) ?_
  show s_w _ _ _ 0 _ _ _ _
  refine w_iconst (v := 0) dX16_loudness_0 rfl ?_
  refine w_op (pc' := 2) (ll' := [_, _, _]) dX16_loudness_1 rfl ?_
  refine w_iconst (v := 0) dX16_loudness_2 rfl ?_
  refine w_op (pc' := 4) (ll' := [_, _, _]) dX16_loudness_3 rfl ?_
  exact l_X16_loudness hM k (np + 1) 0 _ (Nat.zero_le _) rfl (by omega)

set_option maxRecDepth 100000 in
set_option maxHeartbeats 800000 in
theorem c_X16_fault {X : e_XT} {d : Nat} {p : e_Sp} {I : e_I} {J : e_Jt} {c : Nat × Nat} {w : e_Rw1} {Q : e_Rt → e_SS → Prop} {nk nr np a b n : Nat} (hG : q_G p I c nk nr np a b n) (hX : (X 8).1 = 0) {x y z : Int32} (hzc : vp_nar .char z = z) (hc : ∀ q, vp_nar .char (I f_m_fault q) = I f_m_fault q) (k : q_ip I nr x y = true → (z = 99 ∨ z = 100 ∨ z = 45) → ∀ p' c' n', q_X p p' → q_L p' (q_st nk nr np (s_up (s_up I f_m_thrown 0 0) f_m_fault (q_pi I x y) z, J)).1 c' a b n' → n' ≤ n + np → Q (.inl (some (.int (I f_m_fault (q_pi I x y))))) (p', (q_st nk nr np (s_up (s_up I f_m_thrown 0 0) f_m_fault (q_pi I x y) z, J)).1, (q_st nk nr np (s_up (s_up I f_m_thrown 0 0) f_m_fault (q_pi I x y) z, J)).2, c', w)) (kx : q_ip I nr x y = false → Q (.inl (some (.int 0))) (p, q_fl I 1, J, c, w)) (kx2 : q_ip I nr x y = true → ¬ (z = 99 ∨ z = 100 ∨ z = 45) → Q (.inl (some (.int 0))) (p, q_fl I 2, J, c, w)) : s_c X (d + 9) 282 [.ref (p.1 T_MODEL 0), .int x, .int y, .int z] (p, I, J, c, w) Q := by
  have hM := hG.1
  have hp := hM.1
  have hk40 := hM.2.1
  have hr10 := hM.2.2.1
  have hnp := hM.2.2.2.1
  refine m_X16_fault (Nat.le_of_ble_eq_true rfl) ?_
  show s_w _ _ _ 0 _ _ _ _
  refine w_op (pc' := 1) dX16_fault_0 rfl ?_
  refine w_op (pc' := 2) dX16_fault_1 rfl ?_
  refine w_op (pc' := 3) dX16_fault_2 rfl ?_
  refine w_op (pc' := 4) dX16_fault_3 rfl ?_
  refine t_callV (t := T_MODEL) (As := [_, _]) dX16_fault_4 rfl rM_X16_isPipe (by decide) rfl rfl (by decide) (by decide) (Nat.le_of_ble_eq_true rfl) rfl (hp.1 _ rfl) (c_X16_isPipe hM ?_)
  show s_w _ _ _ 7 _ _ _ _
  refine w_ifne (t := 14) dX16_fault_7 (by decide) (fun c7 => ?_) (fun c7 => ?_)
  · refine w_op (pc' := 15) dX16_fault_14 rfl ?_
    refine w_bipush (v := 99) dX16_fault_15 rfl ?_
    refine w_icmpeq (t := 36) dX16_fault_17 (by decide) (fun c17 => ?_) (fun c17 => ?_)
    · refine w_iconst (v := 0) dX16_fault_36 rfl ?_
      refine t_putI (F := f_m_thrown) dX16_fault_37 rfl rfl (by decide) (by decide) rfl rfl (Or.inl rfl) (hp.1 _ rfl) ?_
      refine w_op (pc' := 41) dX16_fault_40 rfl ?_
      refine t_getI (F := f_m_thrown) dX16_fault_41 rfl rfl (by decide) rfl ⟨rfl, fun _ => rfl⟩ (hp.1 _ rfl) ?_
      rw [s_up_s]
      refine w_ifle (t := 49) dX16_fault_44 (by decide) (fun c44 => ?_) (fun c44 => ?_)
      · have h6 := bI_n0.mp c7
        have hx2 := q_ip_x h6
        have hix := q_ip_i hM h6
        have hz : (z = 99 ∨ z = 100 ∨ z = 45) := by first | exact Or.inl c17 | exact Or.inr (Or.inl c23) | exact Or.inr (Or.inr c29)
        have hM1 : q_D p (s_up I f_m_thrown 0 0) nk nr np := hM.eqN (s_eqN.up (T := [f_m_thrown]) (by decide)) (by decide)
        have hG1 := (hG.up (F := f_m_thrown) (i := 0) (x := 0) (by decide)).up (F := f_m_fault) (i := q_pi I x y) (x := z) (by decide)
        have e9 : q_pp (s_up I f_m_thrown 0 0) = q_pp I := q_pp_eq (s_eqN.up (T := [f_m_thrown]) (by decide)) (by decide) (by decide)
        refine w_op (pc' := 50) dX16_fault_49 rfl ?_
        refine t_getG0 (G := g_m_fault) dX16_fault_50 rfl rfl (by decide) rfl (fun _ => rfl) (hp.1 _ rfl) ?_
        refine w_op (pc' := 54) dX16_fault_53 rfl ?_
        refine w_op (pc' := 55) dX16_fault_54 rfl ?_
        refine w_op (pc' := 56) dX16_fault_55 rfl ?_
        refine t_callV (t := T_MODEL) (As := [_, _]) dX16_fault_56 rfl rM_X16_pipe (by decide) rfl rfl (by decide) (by decide) (Nat.le_of_ble_eq_true rfl) rfl (hp.1 _ rfl) (c_X16_pipe hM1 hx2 ?_)
        show s_w _ _ _ 59 _ _ _ _
        rw [e9]
        refine t_cald0 (F := f_m_fault) dX16_fault_59 rfl (by decide) rfl (hp.1 _ rfl) hix hix.2.2 ?_
        refine w_op (pc' := 62) (ll' := [_, _, _, _, _]) dX16_fault_60 rfl ?_
        refine w_op (pc' := 63) dX16_fault_62 rfl ?_
        refine t_getG0 (G := g_m_fault) dX16_fault_63 rfl rfl (by decide) rfl (fun _ => rfl) (hp.1 _ rfl) ?_
        refine w_op (pc' := 67) dX16_fault_66 rfl ?_
        refine w_op (pc' := 68) dX16_fault_67 rfl ?_
        refine w_op (pc' := 69) dX16_fault_68 rfl ?_
        refine t_callV (t := T_MODEL) (As := [_, _]) dX16_fault_69 rfl rM_X16_pipe (by decide) rfl rfl (by decide) (by decide) (Nat.le_of_ble_eq_true rfl) rfl (hp.1 _ rfl) (c_X16_pipe hM1 hx2 ?_)
        show s_w _ _ _ 72 _ _ _ _
        rw [e9]
        refine w_op (pc' := 73) dX16_fault_72 rfl ?_
        refine t_cast0 (F := f_m_fault) dX16_fault_73 rfl (by decide) (by decide) rfl (hp.1 _ rfl) hix hix.2.2 hzc ?_
        refine w_op (pc' := 75) dX16_fault_74 rfl ?_
        refine t_callV (t := T_MODEL) (As := []) dX16_fault_75 rfl rM_X16_settles (by decide) rfl rfl (by decide) (by decide) (Nat.le_of_ble_eq_true rfl) rfl (hp.1 _ rfl) (c_X16_settles hG1.1 hG1.2.1 hG1.2.2.1 hG1.2.2.2.1 hG1.2.2.2.2.1 hG1.2.2.2.2.2.1 hX hG1.2.2.2.2.2.2.1 hG1.2.2.2.2.2.2.2 (fun p1 c1 n1 x1 hL1 hn1 => ?_))
        show s_w _ _ _ 78 _ _ _ _
        refine w_op (pc' := 80) dX16_fault_78 rfl ?_
        exact w_ireturn dX16_fault_80 ⟨s_rcc (hc _), k h6 hz p1 c1 n1 x1 hL1 hn1⟩
      · refine w_iconst (v := 0) dX16_fault_47 rfl ?_
        exact w_ireturn dX16_fault_48 (absurd c44 (by decide))
    · refine w_op (pc' := 21) dX16_fault_20 rfl ?_
      refine w_bipush (v := 100) dX16_fault_21 rfl ?_
      refine w_icmpeq (t := 36) dX16_fault_23 (by decide) (fun c23 => ?_) (fun c23 => ?_)
      · refine w_iconst (v := 0) dX16_fault_36 rfl ?_
        refine t_putI (F := f_m_thrown) dX16_fault_37 rfl rfl (by decide) (by decide) rfl rfl (Or.inl rfl) (hp.1 _ rfl) ?_
        refine w_op (pc' := 41) dX16_fault_40 rfl ?_
        refine t_getI (F := f_m_thrown) dX16_fault_41 rfl rfl (by decide) rfl ⟨rfl, fun _ => rfl⟩ (hp.1 _ rfl) ?_
        rw [s_up_s]
        refine w_ifle (t := 49) dX16_fault_44 (by decide) (fun c44 => ?_) (fun c44 => ?_)
        · have h6 := bI_n0.mp c7
          have hx2 := q_ip_x h6
          have hix := q_ip_i hM h6
          have hz : (z = 99 ∨ z = 100 ∨ z = 45) := by first | exact Or.inl c17 | exact Or.inr (Or.inl c23) | exact Or.inr (Or.inr c29)
          have hM1 : q_D p (s_up I f_m_thrown 0 0) nk nr np := hM.eqN (s_eqN.up (T := [f_m_thrown]) (by decide)) (by decide)
          have hG1 := (hG.up (F := f_m_thrown) (i := 0) (x := 0) (by decide)).up (F := f_m_fault) (i := q_pi I x y) (x := z) (by decide)
          have e9 : q_pp (s_up I f_m_thrown 0 0) = q_pp I := q_pp_eq (s_eqN.up (T := [f_m_thrown]) (by decide)) (by decide) (by decide)
          refine w_op (pc' := 50) dX16_fault_49 rfl ?_
          refine t_getG0 (G := g_m_fault) dX16_fault_50 rfl rfl (by decide) rfl (fun _ => rfl) (hp.1 _ rfl) ?_
          refine w_op (pc' := 54) dX16_fault_53 rfl ?_
          refine w_op (pc' := 55) dX16_fault_54 rfl ?_
          refine w_op (pc' := 56) dX16_fault_55 rfl ?_
          refine t_callV (t := T_MODEL) (As := [_, _]) dX16_fault_56 rfl rM_X16_pipe (by decide) rfl rfl (by decide) (by decide) (Nat.le_of_ble_eq_true rfl) rfl (hp.1 _ rfl) (c_X16_pipe hM1 hx2 ?_)
          show s_w _ _ _ 59 _ _ _ _
          rw [e9]
          refine t_cald0 (F := f_m_fault) dX16_fault_59 rfl (by decide) rfl (hp.1 _ rfl) hix hix.2.2 ?_
          refine w_op (pc' := 62) (ll' := [_, _, _, _, _]) dX16_fault_60 rfl ?_
          refine w_op (pc' := 63) dX16_fault_62 rfl ?_
          refine t_getG0 (G := g_m_fault) dX16_fault_63 rfl rfl (by decide) rfl (fun _ => rfl) (hp.1 _ rfl) ?_
          refine w_op (pc' := 67) dX16_fault_66 rfl ?_
          refine w_op (pc' := 68) dX16_fault_67 rfl ?_
          refine w_op (pc' := 69) dX16_fault_68 rfl ?_
          refine t_callV (t := T_MODEL) (As := [_, _]) dX16_fault_69 rfl rM_X16_pipe (by decide) rfl rfl (by decide) (by decide) (Nat.le_of_ble_eq_true rfl) rfl (hp.1 _ rfl) (c_X16_pipe hM1 hx2 ?_)
          show s_w _ _ _ 72 _ _ _ _
          rw [e9]
          refine w_op (pc' := 73) dX16_fault_72 rfl ?_
          refine t_cast0 (F := f_m_fault) dX16_fault_73 rfl (by decide) (by decide) rfl (hp.1 _ rfl) hix hix.2.2 hzc ?_
          refine w_op (pc' := 75) dX16_fault_74 rfl ?_
          refine t_callV (t := T_MODEL) (As := []) dX16_fault_75 rfl rM_X16_settles (by decide) rfl rfl (by decide) (by decide) (Nat.le_of_ble_eq_true rfl) rfl (hp.1 _ rfl) (c_X16_settles hG1.1 hG1.2.1 hG1.2.2.1 hG1.2.2.2.1 hG1.2.2.2.2.1 hG1.2.2.2.2.2.1 hX hG1.2.2.2.2.2.2.1 hG1.2.2.2.2.2.2.2 (fun p1 c1 n1 x1 hL1 hn1 => ?_))
          show s_w _ _ _ 78 _ _ _ _
          refine w_op (pc' := 80) dX16_fault_78 rfl ?_
          exact w_ireturn dX16_fault_80 ⟨s_rcc (hc _), k h6 hz p1 c1 n1 x1 hL1 hn1⟩
        · refine w_iconst (v := 0) dX16_fault_47 rfl ?_
          exact w_ireturn dX16_fault_48 (absurd c44 (by decide))
      · refine w_op (pc' := 27) dX16_fault_26 rfl ?_
        refine w_bipush (v := 45) dX16_fault_27 rfl ?_
        refine w_icmpeq (t := 36) dX16_fault_29 (by decide) (fun c29 => ?_) (fun c29 => ?_)
        · refine w_iconst (v := 0) dX16_fault_36 rfl ?_
          refine t_putI (F := f_m_thrown) dX16_fault_37 rfl rfl (by decide) (by decide) rfl rfl (Or.inl rfl) (hp.1 _ rfl) ?_
          refine w_op (pc' := 41) dX16_fault_40 rfl ?_
          refine t_getI (F := f_m_thrown) dX16_fault_41 rfl rfl (by decide) rfl ⟨rfl, fun _ => rfl⟩ (hp.1 _ rfl) ?_
          rw [s_up_s]
          refine w_ifle (t := 49) dX16_fault_44 (by decide) (fun c44 => ?_) (fun c44 => ?_)
          · have h6 := bI_n0.mp c7
            have hx2 := q_ip_x h6
            have hix := q_ip_i hM h6
            have hz : (z = 99 ∨ z = 100 ∨ z = 45) := by first | exact Or.inl c17 | exact Or.inr (Or.inl c23) | exact Or.inr (Or.inr c29)
            have hM1 : q_D p (s_up I f_m_thrown 0 0) nk nr np := hM.eqN (s_eqN.up (T := [f_m_thrown]) (by decide)) (by decide)
            have hG1 := (hG.up (F := f_m_thrown) (i := 0) (x := 0) (by decide)).up (F := f_m_fault) (i := q_pi I x y) (x := z) (by decide)
            have e9 : q_pp (s_up I f_m_thrown 0 0) = q_pp I := q_pp_eq (s_eqN.up (T := [f_m_thrown]) (by decide)) (by decide) (by decide)
            refine w_op (pc' := 50) dX16_fault_49 rfl ?_
            refine t_getG0 (G := g_m_fault) dX16_fault_50 rfl rfl (by decide) rfl (fun _ => rfl) (hp.1 _ rfl) ?_
            refine w_op (pc' := 54) dX16_fault_53 rfl ?_
            refine w_op (pc' := 55) dX16_fault_54 rfl ?_
            refine w_op (pc' := 56) dX16_fault_55 rfl ?_
            refine t_callV (t := T_MODEL) (As := [_, _]) dX16_fault_56 rfl rM_X16_pipe (by decide) rfl rfl (by decide) (by decide) (Nat.le_of_ble_eq_true rfl) rfl (hp.1 _ rfl) (c_X16_pipe hM1 hx2 ?_)
            show s_w _ _ _ 59 _ _ _ _
            rw [e9]
            refine t_cald0 (F := f_m_fault) dX16_fault_59 rfl (by decide) rfl (hp.1 _ rfl) hix hix.2.2 ?_
            refine w_op (pc' := 62) (ll' := [_, _, _, _, _]) dX16_fault_60 rfl ?_
            refine w_op (pc' := 63) dX16_fault_62 rfl ?_
            refine t_getG0 (G := g_m_fault) dX16_fault_63 rfl rfl (by decide) rfl (fun _ => rfl) (hp.1 _ rfl) ?_
            refine w_op (pc' := 67) dX16_fault_66 rfl ?_
            refine w_op (pc' := 68) dX16_fault_67 rfl ?_
            refine w_op (pc' := 69) dX16_fault_68 rfl ?_
            refine t_callV (t := T_MODEL) (As := [_, _]) dX16_fault_69 rfl rM_X16_pipe (by decide) rfl rfl (by decide) (by decide) (Nat.le_of_ble_eq_true rfl) rfl (hp.1 _ rfl) (c_X16_pipe hM1 hx2 ?_)
            show s_w _ _ _ 72 _ _ _ _
            rw [e9]
            refine w_op (pc' := 73) dX16_fault_72 rfl ?_
            refine t_cast0 (F := f_m_fault) dX16_fault_73 rfl (by decide) (by decide) rfl (hp.1 _ rfl) hix hix.2.2 hzc ?_
            refine w_op (pc' := 75) dX16_fault_74 rfl ?_
            refine t_callV (t := T_MODEL) (As := []) dX16_fault_75 rfl rM_X16_settles (by decide) rfl rfl (by decide) (by decide) (Nat.le_of_ble_eq_true rfl) rfl (hp.1 _ rfl) (c_X16_settles hG1.1 hG1.2.1 hG1.2.2.1 hG1.2.2.2.1 hG1.2.2.2.2.1 hG1.2.2.2.2.2.1 hX hG1.2.2.2.2.2.2.1 hG1.2.2.2.2.2.2.2 (fun p1 c1 n1 x1 hL1 hn1 => ?_))
            show s_w _ _ _ 78 _ _ _ _
            refine w_op (pc' := 80) dX16_fault_78 rfl ?_
            exact w_ireturn dX16_fault_80 ⟨s_rcc (hc _), k h6 hz p1 c1 n1 x1 hL1 hn1⟩
          · refine w_iconst (v := 0) dX16_fault_47 rfl ?_
            exact w_ireturn dX16_fault_48 (absurd c44 (by decide))
        · refine w_iconst (v := 2) dX16_fault_32 rfl ?_
          refine w_goto (t := 37) dX16_fault_33 (by decide) ?_
          refine t_putI (F := f_m_thrown) dX16_fault_37 rfl rfl (by decide) (by decide) rfl rfl (Or.inl rfl) (hp.1 _ rfl) ?_
          refine w_op (pc' := 41) dX16_fault_40 rfl ?_
          refine t_getI (F := f_m_thrown) dX16_fault_41 rfl rfl (by decide) rfl ⟨rfl, fun _ => rfl⟩ (hp.1 _ rfl) ?_
          rw [s_up_s]
          refine w_ifle (t := 49) dX16_fault_44 (by decide) (fun c44 => ?_) (fun c44 => ?_)
          · exact absurd c44 (by decide)
          · refine w_iconst (v := 0) dX16_fault_47 rfl ?_
            exact w_ireturn dX16_fault_48 ⟨s_rcc (by decide +kernel), kx2 (bI_n0.mp c7) (fun u => u.elim c17 (fun u => u.elim c23 c29))⟩
  · refine w_iconst (v := 1) dX16_fault_10 rfl ?_
    refine w_goto (t := 37) dX16_fault_11 (by decide) ?_
    refine t_putI (F := f_m_thrown) dX16_fault_37 rfl rfl (by decide) (by decide) rfl rfl (Or.inl rfl) (hp.1 _ rfl) ?_
    refine w_op (pc' := 41) dX16_fault_40 rfl ?_
    refine t_getI (F := f_m_thrown) dX16_fault_41 rfl rfl (by decide) rfl ⟨rfl, fun _ => rfl⟩ (hp.1 _ rfl) ?_
    rw [s_up_s]
    refine w_ifle (t := 49) dX16_fault_44 (by decide) (fun c44 => ?_) (fun c44 => ?_)
    · exact absurd c44 (by decide)
    · refine w_iconst (v := 0) dX16_fault_47 rfl ?_
      exact w_ireturn dX16_fault_48 ⟨s_rcc (by decide +kernel), kx (bI_0.mp c7)⟩

