/-! 96: the second implementation's acts, a first part (printed by wip/whole/p96.py) -/
/-- it stands, and may settle -/
def q_G (p : e_Sp) (I : e_I) (c : Nat × Nat) (nk nr np a b n : Nat) : Prop := q_D p I nk nr np ∧ 3 ≤ nk ∧ q_S I ∧ q_bo I f_m_isDown ∧ q_bo I f_m_isRelay ∧ q_L p I c a b n ∧ a + n + 100000000 < 4294960000 ∧ n + 1280 < 39999999
def q_gs : List Nat := q_ms ++ [f_m_operation, f_m_first, f_m_second, f_m_isDown, f_m_isRelay]
def q_fr3 (T : List Nat) : Bool := q_gs.all (fun F => !T.contains F)
theorem q_G.eqN {T : List Nat} {p : e_Sp} {I I' : e_I} {c : Nat × Nat} {nk nr np a b n : Nat} (h : q_G p I c nk nr np a b n) (e : s_eqN T I I') (hT : q_fr3 T = true) : q_G p I' c nk nr np a b n := by
  have hf : ∀ F, F ∈ q_gs → T.contains F = false := fun F hF => by have := List.all_eq_true.mp hT F hF; simpa using this
  obtain ⟨h1, h2, h3, h4, h5, h6, h7⟩ := h
  exact ⟨h1.eqN e (List.all_eq_true.mpr (fun F hF => by rw [hf F (List.mem_append_left _ hF)]; rfl)), h2, h3.eqN e (hf _ (by decide)) (hf _ (by decide)) (hf _ (by decide)), h4.eqN e (hf _ (by decide)), h5.eqN e (hf _ (by decide)), h6.eq (congrFun (e _ (hf f_l_size (by decide))) 4), h7⟩
theorem q_G.up {p : e_Sp} {I : e_I} {c : Nat × Nat} {nk nr np a b n F i : Nat} {x : Int32} (h : q_G p I c nk nr np a b n) (hF : q_fr3 [F] = true) : q_G p (s_up I F i x) c nk nr np a b n := h.eqN (s_eqN.up (by simp)) hF
abbrev q_an (I : e_I) : e_I := s_up I f_m_thrown 0 0
abbrev q_fl (I : e_I) (x : Int32) : e_I := s_up I f_m_thrown 0 x
theorem q_ip_x {I : e_I} {nr : Nat} {x y : Int32} (h : q_ip I nr x y = true) : 0 ≤ x ∧ x < nI nr := by unfold q_ip at h; rw [Bool.and_eq_true] at h; exact of_decide_eq_true h.1
theorem q_ip_i {p : e_Sp} {I : e_I} {nk nr np : Nat} {x y : Int32} (hM : q_D p I nk nr np) (h : q_ip I nr x y = true) : s_ix (q_pp I x y) (q_pp I x y).toNatClampNeg 1280 := by
  have h1 := q_ip_ix hM h
  exact ⟨h1.1, h1.2.1, Nat.lt_of_lt_of_le h1.2.2 hM.2.2.2.1.1⟩
theorem q_ip_eq {T : List Nat} {I I' : e_I} (e : s_eqN T I I') (h1 : T.contains f_mr_lowest = false) (h2 : T.contains f_mr_highest = false) : q_ip I' = q_ip I := by
  funext nr x y; unfold q_ip; rw [e _ h1, e _ h2]
theorem q_pp_eq {T : List Nat} {I I' : e_I} (e : s_eqN T I I') (h1 : T.contains f_mr_lowest = false) (h2 : T.contains f_mr_base = false) : q_pp I' = q_pp I := by
  funext x y; unfold q_pp; rw [e _ h1, e _ h2]
/-- the place of a pipe -/
abbrev q_pi (I : e_I) (x y : Int32) : Nat := (q_pp I x y).toNatClampNeg
def q_ro (I : e_I) (q : Nat) : Int32 := I f_m_counts q + bI (decide (I f_m_isHeld q ≠ 0))
def q_asf (I : e_I) (q : Nat) (u : Int32) : Int32 := u + bI (decide (I f_m_speaks q ≠ 0))
def q_asp (I : e_I) (np : Nat) : Int32 := s_run (q_asf I) 0 np 0

set_option maxRecDepth 100000 in
set_option maxHeartbeats 800000 in
theorem c_X16_thrown {X : e_XT} {d : Nat} {p : e_Sp} {I : e_I} {J : e_Jt} {c : Nat × Nat} {w : e_Rw1} {Q : e_Rt → e_SS → Prop} (hp : s_ok p) (k : Q (.inl (some (.int (I f_m_thrown 0)))) (p, I, J, c, w)) : s_c X (d + 0) 213 [.ref (p.1 T_MODEL 0)] (p, I, J, c, w) Q := by
  refine m_X16_thrown (Nat.le_of_ble_eq_true rfl) ?_
  show s_w _ _ _ 0 _ _ _ _
  refine w_op (pc' := 1) dX16_thrown_0 rfl ?_
  refine t_getI (F := f_m_thrown) dX16_thrown_1 rfl rfl (by decide) rfl ⟨rfl, fun _ => rfl⟩ (hp.1 _ rfl) ?_
  exact w_ireturn dX16_thrown_4 ⟨rfl, k⟩

set_option maxRecDepth 100000 in
set_option maxHeartbeats 800000 in
theorem c_X16_settled {X : e_XT} {d : Nat} {p : e_Sp} {I : e_I} {J : e_Jt} {c : Nat × Nat} {w : e_Rw1} {Q : e_Rt → e_SS → Prop} {nk nr np a b n : Nat} (hG : q_G p I c nk nr np a b n) (hX : (X 8).1 = 0) {x : Int32} (k : ∀ p' c' n', q_X p p' → q_L p' (q_st nk nr np (I, J)).1 c' a b n' → n' ≤ n + np → Q (.inl (some (.int (x)))) (p', q_an (q_st nk nr np (I, J)).1, (q_st nk nr np (I, J)).2, c', w)) : s_c X (d + 9) 218 [.ref (p.1 T_MODEL 0), .int x] (p, I, J, c, w) Q := by
  have hM := hG.1
  have hp := hM.1
  have hk40 := hM.2.1
  have hr10 := hM.2.2.1
  have hnp := hM.2.2.2.1
  refine m_X16_settled (Nat.le_of_ble_eq_true rfl) ?_
  show s_w _ _ _ 0 _ _ _ _
  refine w_op (pc' := 1) dX16_settled_0 rfl ?_
  refine t_callV (t := T_MODEL) (As := []) dX16_settled_1 rfl rM_X16_settles (by decide) rfl rfl (by decide) (by decide) (Nat.le_of_ble_eq_true rfl) rfl (hp.1 _ rfl) (c_X16_settles hM hG.2.1 hG.2.2.1 hG.2.2.2.1 hG.2.2.2.2.1 hG.2.2.2.2.2.1 hX hG.2.2.2.2.2.2.1 hG.2.2.2.2.2.2.2 (fun p1 c1 n1 x1 hL1 hn1 => ?_))
  show s_w _ _ _ 4 _ _ _ _
  have hp1 := (hM.e x1 (q_e.rfl' (T := [])) (by decide)).1
  rw [← x1.a (t := T_MODEL) (i := 0) (by decide)]
  refine w_op (pc' := 5) dX16_settled_4 rfl ?_
  refine w_op (pc' := 6) dX16_settled_5 rfl ?_
  refine t_callV (t := T_MODEL) (As := [_]) dX16_settled_6 rfl rM_X16_answer (by decide) rfl rfl (by decide) (by decide) (Nat.le_of_ble_eq_true rfl) rfl (hp1.1 _ rfl) (c_X16_answer hp1 ?_)
  show s_w _ _ _ 9 _ _ _ _
  exact w_ireturn dX16_settled_9 ⟨rfl, k p1 c1 n1 x1 hL1 hn1⟩

set_option maxRecDepth 100000 in
set_option maxHeartbeats 800000 in
theorem c_X16_settledSo {X : e_XT} {d : Nat} {p : e_Sp} {I : e_I} {J : e_Jt} {c : Nat × Nat} {w : e_Rw1} {Q : e_Rt → e_SS → Prop} {nk nr np a b n : Nat} (hG : q_G p I c nk nr np a b n) (hX : (X 8).1 = 0) {x : Int32} (hx : x = 0 ∨ x = 1) (k : ∀ p' c' n', q_X p p' → q_L p' (q_st nk nr np (I, J)).1 c' a b n' → n' ≤ n + np → Q (.inl (some (.int (x)))) (p', q_an (q_st nk nr np (I, J)).1, (q_st nk nr np (I, J)).2, c', w)) : s_c X (d + 9) 249 [.ref (p.1 T_MODEL 0), .int x] (p, I, J, c, w) Q := by
  have hM := hG.1
  have hp := hM.1
  have hk40 := hM.2.1
  have hr10 := hM.2.2.1
  have hnp := hM.2.2.2.1
  refine m_X16_settledSo (Nat.le_of_ble_eq_true rfl) ?_
  show s_w _ _ _ 0 _ _ _ _
  refine w_op (pc' := 1) dX16_settledSo_0 rfl ?_
  refine t_callV (t := T_MODEL) (As := []) dX16_settledSo_1 rfl rM_X16_settles (by decide) rfl rfl (by decide) (by decide) (Nat.le_of_ble_eq_true rfl) rfl (hp.1 _ rfl) (c_X16_settles hM hG.2.1 hG.2.2.1 hG.2.2.2.1 hG.2.2.2.2.1 hG.2.2.2.2.2.1 hX hG.2.2.2.2.2.2.1 hG.2.2.2.2.2.2.2 (fun p1 c1 n1 x1 hL1 hn1 => ?_))
  show s_w _ _ _ 4 _ _ _ _
  have hp1 := (hM.e x1 (q_e.rfl' (T := [])) (by decide)).1
  rw [← x1.a (t := T_MODEL) (i := 0) (by decide)]
  refine w_op (pc' := 5) dX16_settledSo_4 rfl ?_
  refine w_op (pc' := 6) dX16_settledSo_5 rfl ?_
  refine t_callV (t := T_MODEL) (As := [_]) dX16_settledSo_6 rfl rM_X16_says (by decide) rfl rfl (by decide) (by decide) (Nat.le_of_ble_eq_true rfl) rfl (hp1.1 _ rfl) (c_X16_says hp1 hx ?_)
  show s_w _ _ _ 9 _ _ _ _
  exact w_ireturn dX16_settledSo_9 ⟨s_rcb hx, k p1 c1 n1 x1 hL1 hn1⟩

set_option maxRecDepth 100000 in
set_option maxHeartbeats 800000 in
theorem c_X16_draw {X : e_XT} {d : Nat} {p : e_Sp} {I : e_I} {J : e_Jt} {c : Nat × Nat} {w : e_Rw1} {Q : e_Rt → e_SS → Prop} {nk nr np a b n : Nat} (hG : q_G p I c nk nr np a b n) (hX : (X 8).1 = 0) {x y : Int32} (hy : y = 0 ∨ y = 1) (hb : q_bo I f_mk_isDrawn) (k : ∀ kk, kk < nk → x = nI kk → ∀ p' c' n', q_X p p' → q_L p' (q_st nk nr np (s_up I f_mk_isDrawn kk y, J)).1 c' a b n' → n' ≤ n + np → Q (.inl (some (.int (I f_mk_isDrawn kk)))) (p', q_an (q_st nk nr np (s_up I f_mk_isDrawn kk y, J)).1, (q_st nk nr np (s_up I f_mk_isDrawn kk y, J)).2, c', w)) (kx : ¬ (0 ≤ x ∧ x < nI nk) → Q (.inl (some (.int 0))) (p, q_fl I 1, J, c, w)) : s_c X (d + 10) 247 [.ref (p.1 T_MODEL 0), .int x, .int y] (p, I, J, c, w) Q := by
  have hM := hG.1
  have hp := hM.1
  have hk40 := hM.2.1
  have hr10 := hM.2.2.1
  have hnp := hM.2.2.2.1
  refine m_X16_draw (Nat.le_of_ble_eq_true rfl) ?_
  show s_w _ _ _ 0 _ _ _ _
  refine w_op (pc' := 1) dX16_draw_0 rfl ?_
  refine w_op (pc' := 2) dX16_draw_1 rfl ?_
  refine t_callV (t := T_MODEL) (As := [_]) dX16_draw_2 rfl rM_X16_isKnob (by decide) rfl rfl (by decide) (by decide) (Nat.le_of_ble_eq_true rfl) rfl (hp.1 _ rfl) (c_X16_isKnob hM ?_)
  show s_w _ _ _ 5 _ _ _ _
  refine w_ifne (t := 14) dX16_draw_5 (by decide) (fun c5 => ?_) (fun c5 => ?_)
  · have hx := of_decide_eq_true (bI_n0.mp c5)
    obtain ⟨kk, hk, rfl⟩ := s_nat hx.1 hx.2 (by omega)
    have hK := hM.2.2.2.2.1 kk hk
    have hv := hK.1
    refine w_op (pc' := 15) dX16_draw_14 rfl ?_
    refine t_getG0 (G := g_m_list1) dX16_draw_15 rfl rfl (by decide) rfl (fun _ => rfl) (hp.1 _ rfl) ?_
    refine w_op (pc' := 19) dX16_draw_18 rfl ?_
    refine t_callV (t := T_LIST) (As := [_]) dX16_draw_19 rfl rM_Jx4a65c_get_915e3 (by decide) rfl rfl (by decide) (by decide) (Nat.le_of_ble_eq_true rfl) rfl (hp.2 _ (by decide)) (c_get3 hp hk40.2 (by omega) hk ?_)
    show s_w _ _ _ 22 _ _ _ _
    refine t_chk dX16_draw_22 rfl rfl (by decide) (by assumption) ?_
    refine t_getI (F := f_mk_isDrawn) dX16_draw_25 rfl rfl (by decide) rfl ⟨rfl, fun _ => rfl⟩ (by assumption) ?_
    refine w_op (pc' := 29) (ll' := [_, _, _, _]) dX16_draw_28 rfl ?_
    refine w_op (pc' := 30) dX16_draw_29 rfl ?_
    refine t_getG0 (G := g_m_list1) dX16_draw_30 rfl rfl (by decide) rfl (fun _ => rfl) (hp.1 _ rfl) ?_
    refine w_op (pc' := 34) dX16_draw_33 rfl ?_
    refine t_callV (t := T_LIST) (As := [_]) dX16_draw_34 rfl rM_Jx4a65c_get_915e3 (by decide) rfl rfl (by decide) (by decide) (Nat.le_of_ble_eq_true rfl) rfl (hp.2 _ (by decide)) (c_get3 hp hk40.2 (by omega) hk ?_)
    show s_w _ _ _ 37 _ _ _ _
    refine t_chk dX16_draw_37 rfl rfl (by decide) (by assumption) ?_
    refine w_op (pc' := 41) dX16_draw_40 rfl ?_
    refine t_putI (F := f_mk_isDrawn) dX16_draw_41 rfl rfl (by decide) (by decide) rfl (s_ckb hy) (Or.inl rfl) (by assumption) ?_
    refine w_op (pc' := 45) dX16_draw_44 rfl ?_
    refine w_op (pc' := 46) dX16_draw_45 rfl ?_
    refine t_callV (t := T_MODEL) (As := [_]) dX16_draw_46 rfl rM_X16_settledSo (by decide) rfl rfl (by decide) (by decide) (Nat.le_of_ble_eq_true rfl) rfl (hp.1 _ rfl) (c_X16_settledSo (hG.up (by decide)) hX (hb kk) (fun p1 c1 n1 x1 hL1 hn1 => ?_))
    show s_w _ _ _ 49 _ _ _ _
    exact w_ireturn dX16_draw_49 ⟨s_rcb (hb kk), k kk hk rfl p1 c1 n1 x1 hL1 hn1⟩
  · refine w_op (pc' := 9) dX16_draw_8 rfl ?_
    refine w_iconst (v := 1) dX16_draw_9 rfl ?_
    refine t_callV (t := T_MODEL) (As := [_]) dX16_draw_10 rfl rM_X16_refuses (by decide) rfl rfl (by decide) (by decide) (Nat.le_of_ble_eq_true rfl) rfl (hp.1 _ rfl) (c_X16_refuses hp ?_)
    show s_w _ _ _ 13 _ _ _ _
    exact w_ireturn dX16_draw_13 ⟨s_rcb (Or.inl rfl), kx (of_decide_eq_false (bI_0.mp c5))⟩

set_option maxRecDepth 100000 in
set_option maxHeartbeats 800000 in
theorem c_X16_lock {X : e_XT} {d : Nat} {p : e_Sp} {I : e_I} {J : e_Jt} {c : Nat × Nat} {w : e_Rw1} {Q : e_Rt → e_SS → Prop} {nk nr np a b n : Nat} (hG : q_G p I c nk nr np a b n) (hX : (X 8).1 = 0) {x y : Int32} (hy : y = 0 ∨ y = 1) (hb : q_bo I f_mk_isLocked) (k : ∀ kk, kk < nk → x = nI kk → ∀ p' c' n', q_X p p' → q_L p' (q_st nk nr np (s_up I f_mk_isLocked kk y, J)).1 c' a b n' → n' ≤ n + np → Q (.inl (some (.int (I f_mk_isLocked kk)))) (p', q_an (q_st nk nr np (s_up I f_mk_isLocked kk y, J)).1, (q_st nk nr np (s_up I f_mk_isLocked kk y, J)).2, c', w)) (kx : ¬ (0 ≤ x ∧ x < nI nk) → Q (.inl (some (.int 0))) (p, q_fl I 1, J, c, w)) : s_c X (d + 10) 253 [.ref (p.1 T_MODEL 0), .int x, .int y] (p, I, J, c, w) Q := by
  have hM := hG.1
  have hp := hM.1
  have hk40 := hM.2.1
  have hr10 := hM.2.2.1
  have hnp := hM.2.2.2.1
  refine m_X16_lock (Nat.le_of_ble_eq_true rfl) ?_
  show s_w _ _ _ 0 _ _ _ _
  refine w_op (pc' := 1) dX16_lock_0 rfl ?_
  refine w_op (pc' := 2) dX16_lock_1 rfl ?_
  refine t_callV (t := T_MODEL) (As := [_]) dX16_lock_2 rfl rM_X16_isKnob (by decide) rfl rfl (by decide) (by decide) (Nat.le_of_ble_eq_true rfl) rfl (hp.1 _ rfl) (c_X16_isKnob hM ?_)
  show s_w _ _ _ 5 _ _ _ _
  refine w_ifne (t := 14) dX16_lock_5 (by decide) (fun c5 => ?_) (fun c5 => ?_)
  · have hx := of_decide_eq_true (bI_n0.mp c5)
    obtain ⟨kk, hk, rfl⟩ := s_nat hx.1 hx.2 (by omega)
    have hK := hM.2.2.2.2.1 kk hk
    have hv := hK.1
    refine w_op (pc' := 15) dX16_lock_14 rfl ?_
    refine t_getG0 (G := g_m_list1) dX16_lock_15 rfl rfl (by decide) rfl (fun _ => rfl) (hp.1 _ rfl) ?_
    refine w_op (pc' := 19) dX16_lock_18 rfl ?_
    refine t_callV (t := T_LIST) (As := [_]) dX16_lock_19 rfl rM_Jx4a65c_get_915e3 (by decide) rfl rfl (by decide) (by decide) (Nat.le_of_ble_eq_true rfl) rfl (hp.2 _ (by decide)) (c_get3 hp hk40.2 (by omega) hk ?_)
    show s_w _ _ _ 22 _ _ _ _
    refine t_chk dX16_lock_22 rfl rfl (by decide) (by assumption) ?_
    refine t_getI (F := f_mk_isLocked) dX16_lock_25 rfl rfl (by decide) rfl ⟨rfl, fun _ => rfl⟩ (by assumption) ?_
    refine w_op (pc' := 29) (ll' := [_, _, _, _]) dX16_lock_28 rfl ?_
    refine w_op (pc' := 30) dX16_lock_29 rfl ?_
    refine t_getG0 (G := g_m_list1) dX16_lock_30 rfl rfl (by decide) rfl (fun _ => rfl) (hp.1 _ rfl) ?_
    refine w_op (pc' := 34) dX16_lock_33 rfl ?_
    refine t_callV (t := T_LIST) (As := [_]) dX16_lock_34 rfl rM_Jx4a65c_get_915e3 (by decide) rfl rfl (by decide) (by decide) (Nat.le_of_ble_eq_true rfl) rfl (hp.2 _ (by decide)) (c_get3 hp hk40.2 (by omega) hk ?_)
    show s_w _ _ _ 37 _ _ _ _
    refine t_chk dX16_lock_37 rfl rfl (by decide) (by assumption) ?_
    refine w_op (pc' := 41) dX16_lock_40 rfl ?_
    refine t_putI (F := f_mk_isLocked) dX16_lock_41 rfl rfl (by decide) (by decide) rfl (s_ckb hy) (Or.inl rfl) (by assumption) ?_
    refine w_op (pc' := 45) dX16_lock_44 rfl ?_
    refine w_op (pc' := 46) dX16_lock_45 rfl ?_
    refine t_callV (t := T_MODEL) (As := [_]) dX16_lock_46 rfl rM_X16_settledSo (by decide) rfl rfl (by decide) (by decide) (Nat.le_of_ble_eq_true rfl) rfl (hp.1 _ rfl) (c_X16_settledSo (hG.up (by decide)) hX (hb kk) (fun p1 c1 n1 x1 hL1 hn1 => ?_))
    show s_w _ _ _ 49 _ _ _ _
    exact w_ireturn dX16_lock_49 ⟨s_rcb (hb kk), k kk hk rfl p1 c1 n1 x1 hL1 hn1⟩
  · refine w_op (pc' := 9) dX16_lock_8 rfl ?_
    refine w_iconst (v := 1) dX16_lock_9 rfl ?_
    refine t_callV (t := T_MODEL) (As := [_]) dX16_lock_10 rfl rM_X16_refuses (by decide) rfl rfl (by decide) (by decide) (Nat.le_of_ble_eq_true rfl) rfl (hp.1 _ rfl) (c_X16_refuses hp ?_)
    show s_w _ _ _ 13 _ _ _ _
    exact w_ireturn dX16_lock_13 ⟨s_rcb (Or.inl rfl), kx (of_decide_eq_false (bI_0.mp c5))⟩

set_option maxRecDepth 100000 in
set_option maxHeartbeats 800000 in
theorem c_X16_isDrawn {X : e_XT} {d : Nat} {p : e_Sp} {I : e_I} {J : e_Jt} {c : Nat × Nat} {w : e_Rw1} {Q : e_Rt → e_SS → Prop} {nk nr np : Nat} (hM : q_D p I nk nr np) {x : Int32} (hb : q_bo I f_mk_isDrawn) (k : ∀ kk, kk < nk → x = nI kk → Q (.inl (some (.int (I f_mk_isDrawn kk)))) (p, q_an I, J, c, w)) (kx : ¬ (0 ≤ x ∧ x < nI nk) → Q (.inl (some (.int 0))) (p, q_fl I 1, J, c, w)) : s_c X (d + 3) 251 [.ref (p.1 T_MODEL 0), .int x] (p, I, J, c, w) Q := by
  have hp := hM.1
  have hk40 := hM.2.1
  have hr10 := hM.2.2.1
  refine m_X16_isDrawn (Nat.le_of_ble_eq_true rfl) ?_
  show s_w _ _ _ 0 _ _ _ _
  refine w_op (pc' := 1) dX16_isDrawn_0 rfl ?_
  refine w_op (pc' := 2) dX16_isDrawn_1 rfl ?_
  refine t_callV (t := T_MODEL) (As := [_]) dX16_isDrawn_2 rfl rM_X16_isKnob (by decide) rfl rfl (by decide) (by decide) (Nat.le_of_ble_eq_true rfl) rfl (hp.1 _ rfl) (c_X16_isKnob hM ?_)
  show s_w _ _ _ 5 _ _ _ _
  refine w_ifeq (t := 29) dX16_isDrawn_5 (by decide) (fun c5 => ?_) (fun c5 => ?_)
  · refine w_op (pc' := 30) dX16_isDrawn_29 rfl ?_
    refine w_iconst (v := 1) dX16_isDrawn_30 rfl ?_
    refine t_callV (t := T_MODEL) (As := [_]) dX16_isDrawn_31 rfl rM_X16_refuses (by decide) rfl rfl (by decide) (by decide) (Nat.le_of_ble_eq_true rfl) rfl (hp.1 _ rfl) (c_X16_refuses hp ?_)
    show s_w _ _ _ 34 _ _ _ _
    exact w_ireturn dX16_isDrawn_34 ⟨s_rcb (Or.inl rfl), kx (of_decide_eq_false (bI_0.mp c5))⟩
  · have hx := of_decide_eq_true (bI_n0.mp c5)
    obtain ⟨kk, hk, rfl⟩ := s_nat hx.1 hx.2 (by omega)
    have hK := hM.2.2.2.2.1 kk hk
    have hv := hK.1
    refine w_op (pc' := 9) dX16_isDrawn_8 rfl ?_
    refine w_op (pc' := 10) dX16_isDrawn_9 rfl ?_
    refine t_getG0 (G := g_m_list1) dX16_isDrawn_10 rfl rfl (by decide) rfl (fun _ => rfl) (hp.1 _ rfl) ?_
    refine w_op (pc' := 14) dX16_isDrawn_13 rfl ?_
    refine t_callV (t := T_LIST) (As := [_]) dX16_isDrawn_14 rfl rM_Jx4a65c_get_915e3 (by decide) rfl rfl (by decide) (by decide) (Nat.le_of_ble_eq_true rfl) rfl (hp.2 _ (by decide)) (c_get3 hp hk40.2 (by omega) hk ?_)
    show s_w _ _ _ 17 _ _ _ _
    refine t_chk dX16_isDrawn_17 rfl rfl (by decide) (by assumption) ?_
    refine t_getI (F := f_mk_isDrawn) dX16_isDrawn_20 rfl rfl (by decide) rfl ⟨rfl, fun _ => rfl⟩ (by assumption) ?_
    refine t_callV (t := T_MODEL) (As := [_]) dX16_isDrawn_23 rfl rM_X16_says (by decide) rfl rfl (by decide) (by decide) (Nat.le_of_ble_eq_true rfl) rfl (hp.1 _ rfl) (c_X16_says hp (hb kk) ?_)
    show s_w _ _ _ 26 _ _ _ _
    refine w_goto (t := 34) dX16_isDrawn_26 (by decide) ?_
    exact w_ireturn dX16_isDrawn_34 ⟨s_rcb (hb kk), k kk hk rfl⟩

set_option maxRecDepth 100000 in
set_option maxHeartbeats 800000 in
theorem c_X16_isOn {X : e_XT} {d : Nat} {p : e_Sp} {I : e_I} {J : e_Jt} {c : Nat × Nat} {w : e_Rw1} {Q : e_Rt → e_SS → Prop} {nk nr np a b n : Nat} (hG : q_G p I c nk nr np a b n) (hX : (X 8).1 = 0) {x : Int32} (k : ∀ kk, kk < nk → x = nI kk → I f_mk_kind kk = 115 → Q (.inl (some (.int (bI (q_so (q_rel nk I) kk))))) (p, q_an (q_rel nk I), J, c, w)) (kx : ¬ (0 ≤ x ∧ x < nI nk) → Q (.inl (some (.int 0))) (p, q_fl I 1, J, c, w)) (kx2 : ∀ kk, kk < nk → x = nI kk → ¬ I f_mk_kind kk = 115 → Q (.inl (some (.int 0))) (p, q_fl I 2, J, c, w)) : s_c X (d + 5) 252 [.ref (p.1 T_MODEL 0), .int x] (p, I, J, c, w) Q := by
  have hM := hG.1
  have hp := hM.1
  have hk40 := hM.2.1
  have hr10 := hM.2.2.1
  have hnp := hM.2.2.2.1
  refine m_X16_isOn (Nat.le_of_ble_eq_true rfl) ?_
  show s_w _ _ _ 0 _ _ _ _
  refine w_op (pc' := 1) dX16_isOn_0 rfl ?_
  refine w_op (pc' := 2) dX16_isOn_1 rfl ?_
  refine t_callV (t := T_MODEL) (As := [_]) dX16_isOn_2 rfl rM_X16_isKnob (by decide) rfl rfl (by decide) (by decide) (Nat.le_of_ble_eq_true rfl) rfl (hp.1 _ rfl) (c_X16_isKnob hM ?_)
  show s_w _ _ _ 5 _ _ _ _
  refine w_ifne (t := 14) dX16_isOn_5 (by decide) (fun c5 => ?_) (fun c5 => ?_)
  · have hx := of_decide_eq_true (bI_n0.mp c5)
    obtain ⟨kk, hk, rfl⟩ := s_nat hx.1 hx.2 (by omega)
    have hK := hM.2.2.2.2.1 kk hk
    have hv := hK.1
    refine w_op (pc' := 15) dX16_isOn_14 rfl ?_
    refine w_op (pc' := 16) dX16_isOn_15 rfl ?_
    refine t_callV (t := T_MODEL) (As := [_]) dX16_isOn_16 rfl rM_X16_isStop (by decide) rfl rfl (by decide) (by decide) (Nat.le_of_ble_eq_true rfl) rfl (hp.1 _ rfl) (c_X16_isStop hM hk ?_)
    show s_w _ _ _ 19 _ _ _ _
    refine w_ifne (t := 28) dX16_isOn_19 (by decide) (fun c19 => ?_) (fun c19 => ?_)
    · refine w_op (pc' := 29) dX16_isOn_28 rfl ?_
      refine t_callV (t := T_MODEL) (As := []) dX16_isOn_29 rfl rM_X16_relays (by decide) rfl rfl (by decide) (by decide) (Nat.le_of_ble_eq_true rfl) rfl (hp.1 _ rfl) (c_X16_relays hM hG.2.2.1 hG.2.2.2.1 hG.2.2.2.2.1 ?_)
      show s_w _ _ _ 32 _ _ _ _
      have hM1 := hM.eqN (s_eqN.qrel (nk := nk)) (by decide)
      have hk40 := hM1.2.1
      have hK := hM1.2.2.2.2.1 kk hk
      refine w_op (pc' := 33) dX16_isOn_32 rfl ?_
      refine w_op (pc' := 34) dX16_isOn_33 rfl ?_
      refine w_op (pc' := 35) dX16_isOn_34 rfl ?_
      refine t_getG0 (G := g_m_list1) dX16_isOn_35 rfl rfl (by decide) rfl (fun _ => rfl) (hp.1 _ rfl) ?_
      refine w_op (pc' := 39) dX16_isOn_38 rfl ?_
      refine t_callV (t := T_LIST) (As := [_]) dX16_isOn_39 rfl rM_Jx4a65c_get_915e3 (by decide) rfl rfl (by decide) (by decide) (Nat.le_of_ble_eq_true rfl) rfl (hp.2 _ (by decide)) (c_get3 hp hk40.2 (by omega) hk ?_)
      show s_w _ _ _ 42 _ _ _ _
      refine t_chk dX16_isOn_42 rfl rfl (by decide) (by assumption) ?_
      refine t_callV (t := T_MODEL) (As := [_]) dX16_isOn_45 rfl rM_X16_sounds (by decide) rfl rfl (by decide) (by decide) (Nat.le_of_ble_eq_true rfl) rfl (hp.1 _ rfl) (c_X16_sounds hp hK ?_)
      show s_w _ _ _ 48 _ _ _ _
      refine t_callV (t := T_MODEL) (As := [_]) dX16_isOn_48 rfl rM_X16_says (by decide) rfl rfl (by decide) (by decide) (Nat.le_of_ble_eq_true rfl) rfl (hp.1 _ rfl) (c_X16_says hp (bI_or _) ?_)
      show s_w _ _ _ 51 _ _ _ _
      exact w_ireturn dX16_isOn_51 ⟨s_rcb (bI_or _), k kk hk rfl (of_decide_eq_true (bI_n0.mp c19))⟩
    · refine w_op (pc' := 23) dX16_isOn_22 rfl ?_
      refine w_iconst (v := 2) dX16_isOn_23 rfl ?_
      refine t_callV (t := T_MODEL) (As := [_]) dX16_isOn_24 rfl rM_X16_refuses (by decide) rfl rfl (by decide) (by decide) (Nat.le_of_ble_eq_true rfl) rfl (hp.1 _ rfl) (c_X16_refuses hp ?_)
      show s_w _ _ _ 27 _ _ _ _
      exact w_ireturn dX16_isOn_27 ⟨s_rcb (Or.inl rfl), kx2 kk hk rfl (of_decide_eq_false (bI_0.mp c19))⟩
  · refine w_op (pc' := 9) dX16_isOn_8 rfl ?_
    refine w_iconst (v := 1) dX16_isOn_9 rfl ?_
    refine t_callV (t := T_MODEL) (As := [_]) dX16_isOn_10 rfl rM_X16_refuses (by decide) rfl rfl (by decide) (by decide) (Nat.le_of_ble_eq_true rfl) rfl (hp.1 _ rfl) (c_X16_refuses hp ?_)
    show s_w _ _ _ 13 _ _ _ _
    exact w_ireturn dX16_isOn_13 ⟨s_rcb (Or.inl rfl), kx (of_decide_eq_false (bI_0.mp c5))⟩

set_option maxRecDepth 100000 in
set_option maxHeartbeats 800000 in
theorem c_X16_stage {X : e_XT} {d : Nat} {p : e_Sp} {I : e_I} {J : e_Jt} {c : Nat × Nat} {w : e_Rw1} {Q : e_Rt → e_SS → Prop} {nk nr np a b n : Nat} (hG : q_G p I c nk nr np a b n) (hX : (X 8).1 = 0) {x y : Int32} (k : ∀ kk, kk < nk → x = nI kk → (0 ≤ y ∧ y ≤ 9) → I f_mk_kind kk = 115 → ∀ p' c' n', q_X p p' → q_L p' (q_st nk nr np (s_up I f_mk_stage kk y, J)).1 c' a b n' → n' ≤ n + np → Q (.inl (some (.int (I f_mk_stage kk)))) (p', q_an (q_st nk nr np (s_up I f_mk_stage kk y, J)).1, (q_st nk nr np (s_up I f_mk_stage kk y, J)).2, c', w)) (kx : ¬ (0 ≤ x ∧ x < nI nk) → Q (.inl (some (.int 0))) (p, q_fl I 1, J, c, w)) (kx2 : (0 ≤ x ∧ x < nI nk) → ¬ (0 ≤ y ∧ y ≤ 9) → Q (.inl (some (.int 0))) (p, q_fl I 2, J, c, w)) (kx3 : ∀ kk, kk < nk → x = nI kk → (0 ≤ y ∧ y ≤ 9) → ¬ I f_mk_kind kk = 115 → Q (.inl (some (.int 0))) (p, q_fl I 3, J, c, w)) : s_c X (d + 10) 254 [.ref (p.1 T_MODEL 0), .int x, .int y] (p, I, J, c, w) Q := by
  have hM := hG.1
  have hp := hM.1
  have hk40 := hM.2.1
  have hr10 := hM.2.2.1
  have hnp := hM.2.2.2.1
  refine m_X16_stage (Nat.le_of_ble_eq_true rfl) ?_
  show s_w _ _ _ 0 _ _ _ _
  refine w_op (pc' := 1) dX16_stage_0 rfl ?_
  refine w_op (pc' := 2) dX16_stage_1 rfl ?_
  refine t_callV (t := T_MODEL) (As := [_]) dX16_stage_2 rfl rM_X16_isKnob (by decide) rfl rfl (by decide) (by decide) (Nat.le_of_ble_eq_true rfl) rfl (hp.1 _ rfl) (c_X16_isKnob hM ?_)
  show s_w _ _ _ 5 _ _ _ _
  refine w_ifne (t := 14) dX16_stage_5 (by decide) (fun c5 => ?_) (fun c5 => ?_)
  · have hx := of_decide_eq_true (bI_n0.mp c5)
    obtain ⟨kk, hk, rfl⟩ := s_nat hx.1 hx.2 (by omega)
    have hK := hM.2.2.2.2.1 kk hk
    have hv := hK.1
    refine w_op (pc' := 15) dX16_stage_14 rfl ?_
    refine w_iconst (v := 0) dX16_stage_15 rfl ?_
    refine w_bipush (v := 9) dX16_stage_16 rfl ?_
    refine t_callS (As := [_, _, _]) dX16_stage_18 rfl rM_X16_in (by decide) rfl rfl (by decide) (Nat.le_of_ble_eq_true rfl) (c_X16_in ?_)
    show s_w _ _ _ 21 _ _ _ _
    refine w_ifne (t := 30) dX16_stage_21 (by decide) (fun c21 => ?_) (fun c21 => ?_)
    · refine w_op (pc' := 31) dX16_stage_30 rfl ?_
      refine w_op (pc' := 32) dX16_stage_31 rfl ?_
      refine t_callV (t := T_MODEL) (As := [_]) dX16_stage_32 rfl rM_X16_isStop (by decide) rfl rfl (by decide) (by decide) (Nat.le_of_ble_eq_true rfl) rfl (hp.1 _ rfl) (c_X16_isStop hM hk ?_)
      show s_w _ _ _ 35 _ _ _ _
      refine w_ifne (t := 44) dX16_stage_35 (by decide) (fun c35 => ?_) (fun c35 => ?_)
      · refine w_op (pc' := 45) dX16_stage_44 rfl ?_
        refine t_getG0 (G := g_m_list1) dX16_stage_45 rfl rfl (by decide) rfl (fun _ => rfl) (hp.1 _ rfl) ?_
        refine w_op (pc' := 49) dX16_stage_48 rfl ?_
        refine t_callV (t := T_LIST) (As := [_]) dX16_stage_49 rfl rM_Jx4a65c_get_915e3 (by decide) rfl rfl (by decide) (by decide) (Nat.le_of_ble_eq_true rfl) rfl (hp.2 _ (by decide)) (c_get3 hp hk40.2 (by omega) hk ?_)
        show s_w _ _ _ 52 _ _ _ _
        refine t_chk dX16_stage_52 rfl rfl (by decide) (by assumption) ?_
        refine t_getI (F := f_mk_stage) dX16_stage_55 rfl rfl (by decide) rfl ⟨rfl, fun _ => rfl⟩ (by assumption) ?_
        refine w_op (pc' := 59) (ll' := [_, _, _, _]) dX16_stage_58 rfl ?_
        refine w_op (pc' := 60) dX16_stage_59 rfl ?_
        refine t_getG0 (G := g_m_list1) dX16_stage_60 rfl rfl (by decide) rfl (fun _ => rfl) (hp.1 _ rfl) ?_
        refine w_op (pc' := 64) dX16_stage_63 rfl ?_
        refine t_callV (t := T_LIST) (As := [_]) dX16_stage_64 rfl rM_Jx4a65c_get_915e3 (by decide) rfl rfl (by decide) (by decide) (Nat.le_of_ble_eq_true rfl) rfl (hp.2 _ (by decide)) (c_get3 hp hk40.2 (by omega) hk ?_)
        show s_w _ _ _ 67 _ _ _ _
        refine t_chk dX16_stage_67 rfl rfl (by decide) (by assumption) ?_
        refine w_op (pc' := 71) dX16_stage_70 rfl ?_
        refine t_putI (F := f_mk_stage) dX16_stage_71 rfl rfl (by decide) (by decide) rfl rfl (Or.inl rfl) (by assumption) ?_
        refine w_op (pc' := 75) dX16_stage_74 rfl ?_
        refine w_op (pc' := 76) dX16_stage_75 rfl ?_
        refine t_callV (t := T_MODEL) (As := [_]) dX16_stage_76 rfl rM_X16_settled (by decide) rfl rfl (by decide) (by decide) (Nat.le_of_ble_eq_true rfl) rfl (hp.1 _ rfl) (c_X16_settled (hG.up (by decide)) hX (fun p1 c1 n1 x1 hL1 hn1 => ?_))
        show s_w _ _ _ 79 _ _ _ _
        exact w_ireturn dX16_stage_79 ⟨rfl, k kk hk rfl (of_decide_eq_true (bI_n0.mp c21)) (of_decide_eq_true (bI_n0.mp c35)) p1 c1 n1 x1 hL1 hn1⟩
      · refine w_op (pc' := 39) dX16_stage_38 rfl ?_
        refine w_iconst (v := 3) dX16_stage_39 rfl ?_
        refine t_callV (t := T_MODEL) (As := [_]) dX16_stage_40 rfl rM_X16_fails (by decide) rfl rfl (by decide) (by decide) (Nat.le_of_ble_eq_true rfl) rfl (hp.1 _ rfl) (c_X16_fails hp ?_)
        show s_w _ _ _ 43 _ _ _ _
        exact w_ireturn dX16_stage_43 ⟨rfl, kx3 kk hk rfl (of_decide_eq_true (bI_n0.mp c21)) (of_decide_eq_false (bI_0.mp c35))⟩
    · refine w_op (pc' := 25) dX16_stage_24 rfl ?_
      refine w_iconst (v := 2) dX16_stage_25 rfl ?_
      refine t_callV (t := T_MODEL) (As := [_]) dX16_stage_26 rfl rM_X16_fails (by decide) rfl rfl (by decide) (by decide) (Nat.le_of_ble_eq_true rfl) rfl (hp.1 _ rfl) (c_X16_fails hp ?_)
      show s_w _ _ _ 29 _ _ _ _
      exact w_ireturn dX16_stage_29 ⟨rfl, kx2 hx (of_decide_eq_false (bI_0.mp c21))⟩
  · refine w_op (pc' := 9) dX16_stage_8 rfl ?_
    refine w_iconst (v := 1) dX16_stage_9 rfl ?_
    refine t_callV (t := T_MODEL) (As := [_]) dX16_stage_10 rfl rM_X16_fails (by decide) rfl rfl (by decide) (by decide) (Nat.le_of_ble_eq_true rfl) rfl (hp.1 _ rfl) (c_X16_fails hp ?_)
    show s_w _ _ _ 13 _ _ _ _
    exact w_ireturn dX16_stage_13 ⟨rfl, kx (of_decide_eq_false (bI_0.mp c5))⟩

set_option maxRecDepth 100000 in
set_option maxHeartbeats 800000 in
theorem c_X16_crescendo {X : e_XT} {d : Nat} {p : e_Sp} {I : e_I} {J : e_Jt} {c : Nat × Nat} {w : e_Rw1} {Q : e_Rt → e_SS → Prop} {nk nr np a b n : Nat} (hG : q_G p I c nk nr np a b n) (hX : (X 8).1 = 0) {x : Int32} (k : (0 ≤ x ∧ x ≤ 9) → ∀ p' c' n', q_X p p' → q_L p' (q_st nk nr np (s_up I f_m_crescendo 0 x, J)).1 c' a b n' → n' ≤ n + np → Q (.inl (some (.int (I f_m_crescendo 0)))) (p', q_an (q_st nk nr np (s_up I f_m_crescendo 0 x, J)).1, (q_st nk nr np (s_up I f_m_crescendo 0 x, J)).2, c', w)) (kx : ¬ (0 ≤ x ∧ x ≤ 9) → Q (.inl (some (.int 0))) (p, q_fl I 1, J, c, w)) : s_c X (d + 10) 255 [.ref (p.1 T_MODEL 0), .int x] (p, I, J, c, w) Q := by
  have hM := hG.1
  have hp := hM.1
  have hk40 := hM.2.1
  have hr10 := hM.2.2.1
  have hnp := hM.2.2.2.1
  refine m_X16_crescendo (Nat.le_of_ble_eq_true rfl) ?_
  show s_w _ _ _ 0 _ _ _ _
  refine w_op (pc' := 1) dX16_crescendo_0 rfl ?_
  refine w_iconst (v := 0) dX16_crescendo_1 rfl ?_
  refine w_bipush (v := 9) dX16_crescendo_2 rfl ?_
  refine t_callS (As := [_, _, _]) dX16_crescendo_4 rfl rM_X16_in (by decide) rfl rfl (by decide) (Nat.le_of_ble_eq_true rfl) (c_X16_in ?_)
  show s_w _ _ _ 7 _ _ _ _
  refine w_ifne (t := 16) dX16_crescendo_7 (by decide) (fun c7 => ?_) (fun c7 => ?_)
  · refine w_op (pc' := 17) dX16_crescendo_16 rfl ?_
    refine t_getI (F := f_m_crescendo) dX16_crescendo_17 rfl rfl (by decide) rfl ⟨rfl, fun _ => rfl⟩ (hp.1 _ rfl) ?_
    refine w_op (pc' := 21) (ll' := [_, _, _]) dX16_crescendo_20 rfl ?_
    refine w_op (pc' := 22) dX16_crescendo_21 rfl ?_
    refine w_op (pc' := 23) dX16_crescendo_22 rfl ?_
    refine t_putI (F := f_m_crescendo) dX16_crescendo_23 rfl rfl (by decide) (by decide) rfl rfl (Or.inl rfl) (hp.1 _ rfl) ?_
    refine w_op (pc' := 27) dX16_crescendo_26 rfl ?_
    refine w_op (pc' := 28) dX16_crescendo_27 rfl ?_
    refine t_callV (t := T_MODEL) (As := [_]) dX16_crescendo_28 rfl rM_X16_settled (by decide) rfl rfl (by decide) (by decide) (Nat.le_of_ble_eq_true rfl) rfl (hp.1 _ rfl) (c_X16_settled (hG.up (by decide)) hX (fun p1 c1 n1 x1 hL1 hn1 => ?_))
    show s_w _ _ _ 31 _ _ _ _
    exact w_ireturn dX16_crescendo_31 ⟨rfl, k (of_decide_eq_true (bI_n0.mp c7)) p1 c1 n1 x1 hL1 hn1⟩
  · refine w_op (pc' := 11) dX16_crescendo_10 rfl ?_
    refine w_iconst (v := 1) dX16_crescendo_11 rfl ?_
    refine t_callV (t := T_MODEL) (As := [_]) dX16_crescendo_12 rfl rM_X16_fails (by decide) rfl rfl (by decide) (by decide) (Nat.le_of_ble_eq_true rfl) rfl (hp.1 _ rfl) (c_X16_fails hp ?_)
    show s_w _ _ _ 15 _ _ _ _
    exact w_ireturn dX16_crescendo_15 ⟨rfl, kx (of_decide_eq_false (bI_0.mp c7))⟩

set_option maxRecDepth 100000 in
set_option maxHeartbeats 800000 in
theorem c_X16_tutti {X : e_XT} {d : Nat} {p : e_Sp} {I : e_I} {J : e_Jt} {c : Nat × Nat} {w : e_Rw1} {Q : e_Rt → e_SS → Prop} {nk nr np a b n : Nat} (hG : q_G p I c nk nr np a b n) (hX : (X 8).1 = 0) {x : Int32} (hy : x = 0 ∨ x = 1) (hb : q_bo I f_m_isTutti) (k : ∀ p' c' n', q_X p p' → q_L p' (q_st nk nr np (s_up I f_m_isTutti 0 x, J)).1 c' a b n' → n' ≤ n + np → Q (.inl (some (.int (I f_m_isTutti 0)))) (p', q_an (q_st nk nr np (s_up I f_m_isTutti 0 x, J)).1, (q_st nk nr np (s_up I f_m_isTutti 0 x, J)).2, c', w)) : s_c X (d + 10) 256 [.ref (p.1 T_MODEL 0), .int x] (p, I, J, c, w) Q := by
  have hM := hG.1
  have hp := hM.1
  have hk40 := hM.2.1
  have hr10 := hM.2.2.1
  have hnp := hM.2.2.2.1
  refine m_X16_tutti (Nat.le_of_ble_eq_true rfl) ?_
  show s_w _ _ _ 0 _ _ _ _
  refine w_op (pc' := 1) dX16_tutti_0 rfl ?_
  refine t_getI (F := f_m_isTutti) dX16_tutti_1 rfl rfl (by decide) rfl ⟨rfl, fun _ => rfl⟩ (hp.1 _ rfl) ?_
  refine w_op (pc' := 5) (ll' := [_, _, _]) dX16_tutti_4 rfl ?_
  refine w_op (pc' := 6) dX16_tutti_5 rfl ?_
  refine w_op (pc' := 7) dX16_tutti_6 rfl ?_
  refine t_putI (F := f_m_isTutti) dX16_tutti_7 rfl rfl (by decide) (by decide) rfl (s_ckb hy) (Or.inl rfl) (hp.1 _ rfl) ?_
  refine w_op (pc' := 11) dX16_tutti_10 rfl ?_
  refine w_op (pc' := 12) dX16_tutti_11 rfl ?_
  refine t_callV (t := T_MODEL) (As := [_]) dX16_tutti_12 rfl rM_X16_settledSo (by decide) rfl rfl (by decide) (by decide) (Nat.le_of_ble_eq_true rfl) rfl (hp.1 _ rfl) (c_X16_settledSo (hG.up (by decide)) hX (hb 0) (fun p1 c1 n1 x1 hL1 hn1 => ?_))
  show s_w _ _ _ 15 _ _ _ _
  exact w_ireturn dX16_tutti_15 ⟨s_rcb (hb 0), k p1 c1 n1 x1 hL1 hn1⟩

set_option maxRecDepth 100000 in
set_option maxHeartbeats 800000 in
theorem c_X16_isDown {X : e_XT} {d : Nat} {p : e_Sp} {I : e_I} {J : e_Jt} {c : Nat × Nat} {w : e_Rw1} {Q : e_Rt → e_SS → Prop} (hp : s_ok p) {x y : Int32} (hb : q_bo I f_m_isDown) (k : s_isk x y → Q (.inl (some (.int (I f_m_isDown (s_kn x y))))) (p, q_an I, J, c, w)) (kx : ¬ s_isk x y → Q (.inl (some (.int 0))) (p, q_fl I 1, J, c, w)) : s_c X (d + 3) 259 [.ref (p.1 T_MODEL 0), .int x, .int y] (p, I, J, c, w) Q := by
  refine m_X16_isDown (Nat.le_of_ble_eq_true rfl) ?_
  show s_w _ _ _ 0 _ _ _ _
  refine w_op (pc' := 1) dX16_isDown_0 rfl ?_
  refine w_op (pc' := 2) dX16_isDown_1 rfl ?_
  refine t_callS (As := [_, _]) dX16_isDown_2 rfl rM_X16_isKey (by decide) rfl rfl (by decide) (Nat.le_of_ble_eq_true rfl) (c_X16_isKey ?_)
  show s_w _ _ _ 5 _ _ _ _
  refine w_ifeq (t := 25) dX16_isDown_5 (by decide) (fun c5 => ?_) (fun c5 => ?_)
  · refine w_op (pc' := 26) dX16_isDown_25 rfl ?_
    refine w_iconst (v := 1) dX16_isDown_26 rfl ?_
    refine t_callV (t := T_MODEL) (As := [_]) dX16_isDown_27 rfl rM_X16_refuses (by decide) rfl rfl (by decide) (by decide) (Nat.le_of_ble_eq_true rfl) rfl (hp.1 _ rfl) (c_X16_refuses hp ?_)
    show s_w _ _ _ 30 _ _ _ _
    exact w_ireturn dX16_isDown_30 ⟨s_rcb (Or.inl rfl), kx (of_decide_eq_false (bI_0.mp c5))⟩
  · have hq := of_decide_eq_true (bI_n0.mp c5)
    refine w_op (pc' := 9) dX16_isDown_8 rfl ?_
    refine w_op (pc' := 10) dX16_isDown_9 rfl ?_
    refine t_getG0 (G := g_m_isDown) dX16_isDown_10 rfl rfl (by decide) rfl (fun _ => rfl) (hp.1 _ rfl) ?_
    refine w_op (pc' := 14) dX16_isDown_13 rfl ?_
    refine w_op (pc' := 15) dX16_isDown_14 rfl ?_
    refine t_callS (As := [_, _]) dX16_isDown_15 rfl rM_X16_spot (by decide) rfl rfl (by decide) (Nat.le_of_ble_eq_true rfl) (c_X16_spot hq ?_)
    show s_w _ _ _ 18 _ _ _ _
    refine t_bald0 (F := f_m_isDown) dX16_isDown_18 rfl (by decide) rfl (hp.1 _ rfl) (show s_ix _ _ 183 from s_ix.nI hq.lt (by decide)) hq.lt ?_
    refine t_callV (t := T_MODEL) (As := [_]) dX16_isDown_19 rfl rM_X16_says (by decide) rfl rfl (by decide) (by decide) (Nat.le_of_ble_eq_true rfl) rfl (hp.1 _ rfl) (c_X16_says hp (hb _) ?_)
    show s_w _ _ _ 22 _ _ _ _
    refine w_goto (t := 30) dX16_isDown_22 (by decide) ?_
    exact w_ireturn dX16_isDown_30 ⟨s_rcb (hb _), k hq⟩

set_option maxRecDepth 100000 in
set_option maxHeartbeats 800000 in
theorem c_X16_reasonsOf {X : e_XT} {d : Nat} {p : e_Sp} {I : e_I} {J : e_Jt} {c : Nat × Nat} {w : e_Rw1} {Q : e_Rt → e_SS → Prop} (hp : s_ok p) {x : Int32} {q : Nat} (hx : s_ix x q 1280) (k : Q (.inl (some (.int (q_ro I q)))) (p, I, J, c, w)) : s_c X (d + 0) 264 [.ref (p.1 T_MODEL 0), .int x] (p, I, J, c, w) Q := by
  refine m_X16_reasonsOf (Nat.le_of_ble_eq_true rfl) ?_
  show s_w _ _ _ 0 _ _ _ _
  refine w_op (pc' := 1) dX16_reasonsOf_0 rfl ?_
  refine t_getG0 (G := g_m_counts) dX16_reasonsOf_1 rfl rfl (by decide) rfl (fun _ => rfl) (hp.1 _ rfl) ?_
  refine w_op (pc' := 5) dX16_reasonsOf_4 rfl ?_
  refine t_iald0 (F := f_m_counts) dX16_reasonsOf_5 rfl (by decide) rfl (hp.1 _ rfl) hx hx.2.2 ?_
  refine w_op (pc' := 7) dX16_reasonsOf_6 rfl ?_
  refine t_getG0 (G := g_m_isHeld) dX16_reasonsOf_7 rfl rfl (by decide) rfl (fun _ => rfl) (hp.1 _ rfl) ?_
  refine w_op (pc' := 11) dX16_reasonsOf_10 rfl ?_
  refine t_bald0 (F := f_m_isHeld) dX16_reasonsOf_11 rfl (by decide) rfl (hp.1 _ rfl) hx hx.2.2 ?_
  refine w_ifeq (t := 19) dX16_reasonsOf_12 (by decide) (fun c12 => ?_) (fun c12 => ?_)
  · refine w_iconst (v := 0) dX16_reasonsOf_19 rfl ?_
    refine w_op (pc' := 21) dX16_reasonsOf_20 rfl ?_
    exact w_ireturn dX16_reasonsOf_21 ⟨rfl, s_eqi (by unfold q_ro; grind) k⟩
  · refine w_iconst (v := 1) dX16_reasonsOf_15 rfl ?_
    refine w_goto (t := 20) dX16_reasonsOf_16 (by decide) ?_
    refine w_op (pc' := 21) dX16_reasonsOf_20 rfl ?_
    exact w_ireturn dX16_reasonsOf_21 ⟨rfl, s_eqi (by unfold q_ro; grind) k⟩

set_option maxRecDepth 100000 in
set_option maxHeartbeats 800000 in
theorem c_X16_reasons {X : e_XT} {d : Nat} {p : e_Sp} {I : e_I} {J : e_Jt} {c : Nat × Nat} {w : e_Rw1} {Q : e_Rt → e_SS → Prop} {nk nr np : Nat} (hM : q_D p I nk nr np) {x y : Int32} (k : q_ip I nr x y = true → Q (.inl (some (.int (q_ro I (q_pi I x y))))) (p, q_an I, J, c, w)) (kx : q_ip I nr x y = false → Q (.inl (some (.int 0))) (p, q_fl I 1, J, c, w)) : s_c X (d + 4) 263 [.ref (p.1 T_MODEL 0), .int x, .int y] (p, I, J, c, w) Q := by
  have hp := hM.1
  have hk40 := hM.2.1
  have hr10 := hM.2.2.1
  refine m_X16_reasons (Nat.le_of_ble_eq_true rfl) ?_
  show s_w _ _ _ 0 _ _ _ _
  refine w_op (pc' := 1) dX16_reasons_0 rfl ?_
  refine w_op (pc' := 2) dX16_reasons_1 rfl ?_
  refine w_op (pc' := 3) dX16_reasons_2 rfl ?_
  refine t_callV (t := T_MODEL) (As := [_, _]) dX16_reasons_3 rfl rM_X16_isPipe (by decide) rfl rfl (by decide) (by decide) (Nat.le_of_ble_eq_true rfl) rfl (hp.1 _ rfl) (c_X16_isPipe hM ?_)
  show s_w _ _ _ 6 _ _ _ _
  refine w_ifeq (t := 26) dX16_reasons_6 (by decide) (fun c6 => ?_) (fun c6 => ?_)
  · refine w_op (pc' := 27) dX16_reasons_26 rfl ?_
    refine w_iconst (v := 1) dX16_reasons_27 rfl ?_
    refine t_callV (t := T_MODEL) (As := [_]) dX16_reasons_28 rfl rM_X16_fails (by decide) rfl rfl (by decide) (by decide) (Nat.le_of_ble_eq_true rfl) rfl (hp.1 _ rfl) (c_X16_fails hp ?_)
    show s_w _ _ _ 31 _ _ _ _
    exact w_ireturn dX16_reasons_31 ⟨rfl, kx (bI_0.mp c6)⟩
  · have h6 := bI_n0.mp c6
    have hx2 := q_ip_x h6
    have hix := q_ip_i hM h6
    refine w_op (pc' := 10) dX16_reasons_9 rfl ?_
    refine w_op (pc' := 11) dX16_reasons_10 rfl ?_
    refine w_op (pc' := 12) dX16_reasons_11 rfl ?_
    refine w_op (pc' := 13) dX16_reasons_12 rfl ?_
    refine w_op (pc' := 14) dX16_reasons_13 rfl ?_
    refine t_callV (t := T_MODEL) (As := [_, _]) dX16_reasons_14 rfl rM_X16_pipe (by decide) rfl rfl (by decide) (by decide) (Nat.le_of_ble_eq_true rfl) rfl (hp.1 _ rfl) (c_X16_pipe hM hx2 ?_)
    show s_w _ _ _ 17 _ _ _ _
    refine t_callV (t := T_MODEL) (As := [_]) dX16_reasons_17 rfl rM_X16_reasonsOf (by decide) rfl rfl (by decide) (by decide) (Nat.le_of_ble_eq_true rfl) rfl (hp.1 _ rfl) (c_X16_reasonsOf hp hix ?_)
    show s_w _ _ _ 20 _ _ _ _
    refine t_callV (t := T_MODEL) (As := [_]) dX16_reasons_20 rfl rM_X16_answer (by decide) rfl rfl (by decide) (by decide) (Nat.le_of_ble_eq_true rfl) rfl (hp.1 _ rfl) (c_X16_answer hp ?_)
    show s_w _ _ _ 23 _ _ _ _
    refine w_goto (t := 31) dX16_reasons_23 (by decide) ?_
    exact w_ireturn dX16_reasons_31 ⟨rfl, k h6⟩

set_option maxRecDepth 100000 in
set_option maxHeartbeats 800000 in
theorem c_X16_reasonsAnew {X : e_XT} {d : Nat} {p : e_Sp} {I : e_I} {J : e_Jt} {c : Nat × Nat} {w : e_Rw1} {Q : e_Rt → e_SS → Prop} {nk nr np a b n : Nat} (hG : q_G p I c nk nr np a b n) (hX : (X 8).1 = 0) {x y : Int32} (k : q_ip I nr x y = true → Q (.inl (some (.int (q_ro (q_rc nk nr np I) (q_pi I x y))))) (p, q_an (q_rc nk nr np I), J, c, w)) (kx : q_ip I nr x y = false → Q (.inl (some (.int 0))) (p, q_fl I 1, J, c, w)) : s_c X (d + 6) 265 [.ref (p.1 T_MODEL 0), .int x, .int y] (p, I, J, c, w) Q := by
  have hM := hG.1
  have hp := hM.1
  have hk40 := hM.2.1
  have hr10 := hM.2.2.1
  have hnp := hM.2.2.2.1
  refine m_X16_reasonsAnew (Nat.le_of_ble_eq_true rfl) ?_
  show s_w _ _ _ 0 _ _ _ _
  refine w_op (pc' := 1) dX16_reasonsAnew_0 rfl ?_
  refine w_op (pc' := 2) dX16_reasonsAnew_1 rfl ?_
  refine w_op (pc' := 3) dX16_reasonsAnew_2 rfl ?_
  refine t_callV (t := T_MODEL) (As := [_, _]) dX16_reasonsAnew_3 rfl rM_X16_isPipe (by decide) rfl rfl (by decide) (by decide) (Nat.le_of_ble_eq_true rfl) rfl (hp.1 _ rfl) (c_X16_isPipe hM ?_)
  show s_w _ _ _ 6 _ _ _ _
  refine w_ifne (t := 15) dX16_reasonsAnew_6 (by decide) (fun c6 => ?_) (fun c6 => ?_)
  · have h6 := bI_n0.mp c6
    have hx2 := q_ip_x h6
    have hix := q_ip_i hM h6
    refine w_op (pc' := 16) dX16_reasonsAnew_15 rfl ?_
    refine t_callV (t := T_MODEL) (As := []) dX16_reasonsAnew_16 rfl rM_X16_reckons (by decide) rfl rfl (by decide) (by decide) (Nat.le_of_ble_eq_true rfl) rfl (hp.1 _ rfl) (c_X16_reckons hM hG.2.1 hG.2.2.1 hG.2.2.2.1 hG.2.2.2.2.1 ?_)
    show s_w _ _ _ 19 _ _ _ _
    have hM1 := hM.eqN (s_eqN.qrc (nk := nk) (nr := nr) (np := np)) (by decide)
    have e9 : q_pp (q_rc nk nr np I) = q_pp I := q_pp_eq s_eqN.qrc (by decide) (by decide)
    refine w_op (pc' := 20) dX16_reasonsAnew_19 rfl ?_
    refine w_op (pc' := 21) dX16_reasonsAnew_20 rfl ?_
    refine w_op (pc' := 22) dX16_reasonsAnew_21 rfl ?_
    refine w_op (pc' := 23) dX16_reasonsAnew_22 rfl ?_
    refine w_op (pc' := 24) dX16_reasonsAnew_23 rfl ?_
    refine t_callV (t := T_MODEL) (As := [_, _]) dX16_reasonsAnew_24 rfl rM_X16_pipe (by decide) rfl rfl (by decide) (by decide) (Nat.le_of_ble_eq_true rfl) rfl (hp.1 _ rfl) (c_X16_pipe hM1 hx2 ?_)
    show s_w _ _ _ 27 _ _ _ _
    rw [e9]
    refine t_callV (t := T_MODEL) (As := [_]) dX16_reasonsAnew_27 rfl rM_X16_reasonsOf (by decide) rfl rfl (by decide) (by decide) (Nat.le_of_ble_eq_true rfl) rfl (hp.1 _ rfl) (c_X16_reasonsOf hp hix ?_)
    show s_w _ _ _ 30 _ _ _ _
    refine t_callV (t := T_MODEL) (As := [_]) dX16_reasonsAnew_30 rfl rM_X16_answer (by decide) rfl rfl (by decide) (by decide) (Nat.le_of_ble_eq_true rfl) rfl (hp.1 _ rfl) (c_X16_answer hp ?_)
    show s_w _ _ _ 33 _ _ _ _
    exact w_ireturn dX16_reasonsAnew_33 ⟨rfl, k h6⟩
  · refine w_op (pc' := 10) dX16_reasonsAnew_9 rfl ?_
    refine w_iconst (v := 1) dX16_reasonsAnew_10 rfl ?_
    refine t_callV (t := T_MODEL) (As := [_]) dX16_reasonsAnew_11 rfl rM_X16_fails (by decide) rfl rfl (by decide) (by decide) (Nat.le_of_ble_eq_true rfl) rfl (hp.1 _ rfl) (c_X16_fails hp ?_)
    show s_w _ _ _ 14 _ _ _ _
    exact w_ireturn dX16_reasonsAnew_14 ⟨rfl, kx (bI_0.mp c6)⟩

set_option maxRecDepth 100000 in
set_option maxHeartbeats 800000 in
theorem c_X16_isOpen {X : e_XT} {d : Nat} {p : e_Sp} {I : e_I} {J : e_Jt} {c : Nat × Nat} {w : e_Rw1} {Q : e_Rt → e_SS → Prop} {nk nr np : Nat} (hM : q_D p I nk nr np) {x y : Int32} (hb : q_bo I f_m_isOpen) (k : q_ip I nr x y = true → Q (.inl (some (.int (I f_m_isOpen (q_pi I x y))))) (p, q_an I, J, c, w)) (kx : q_ip I nr x y = false → Q (.inl (some (.int 0))) (p, q_fl I 1, J, c, w)) : s_c X (d + 4) 266 [.ref (p.1 T_MODEL 0), .int x, .int y] (p, I, J, c, w) Q := by
  have hp := hM.1
  have hk40 := hM.2.1
  have hr10 := hM.2.2.1
  refine m_X16_isOpen (Nat.le_of_ble_eq_true rfl) ?_
  show s_w _ _ _ 0 _ _ _ _
  refine w_op (pc' := 1) dX16_isOpen_0 rfl ?_
  refine w_op (pc' := 2) dX16_isOpen_1 rfl ?_
  refine w_op (pc' := 3) dX16_isOpen_2 rfl ?_
  refine t_callV (t := T_MODEL) (As := [_, _]) dX16_isOpen_3 rfl rM_X16_isPipe (by decide) rfl rfl (by decide) (by decide) (Nat.le_of_ble_eq_true rfl) rfl (hp.1 _ rfl) (c_X16_isPipe hM ?_)
  show s_w _ _ _ 6 _ _ _ _
  refine w_ifeq (t := 27) dX16_isOpen_6 (by decide) (fun c6 => ?_) (fun c6 => ?_)
  · refine w_op (pc' := 28) dX16_isOpen_27 rfl ?_
    refine w_iconst (v := 1) dX16_isOpen_28 rfl ?_
    refine t_callV (t := T_MODEL) (As := [_]) dX16_isOpen_29 rfl rM_X16_refuses (by decide) rfl rfl (by decide) (by decide) (Nat.le_of_ble_eq_true rfl) rfl (hp.1 _ rfl) (c_X16_refuses hp ?_)
    show s_w _ _ _ 32 _ _ _ _
    exact w_ireturn dX16_isOpen_32 ⟨s_rcb (Or.inl rfl), kx (bI_0.mp c6)⟩
  · have h6 := bI_n0.mp c6
    have hx2 := q_ip_x h6
    have hix := q_ip_i hM h6
    refine w_op (pc' := 10) dX16_isOpen_9 rfl ?_
    refine w_op (pc' := 11) dX16_isOpen_10 rfl ?_
    refine t_getG0 (G := g_m_isOpen) dX16_isOpen_11 rfl rfl (by decide) rfl (fun _ => rfl) (hp.1 _ rfl) ?_
    refine w_op (pc' := 15) dX16_isOpen_14 rfl ?_
    refine w_op (pc' := 16) dX16_isOpen_15 rfl ?_
    refine w_op (pc' := 17) dX16_isOpen_16 rfl ?_
    refine t_callV (t := T_MODEL) (As := [_, _]) dX16_isOpen_17 rfl rM_X16_pipe (by decide) rfl rfl (by decide) (by decide) (Nat.le_of_ble_eq_true rfl) rfl (hp.1 _ rfl) (c_X16_pipe hM hx2 ?_)
    show s_w _ _ _ 20 _ _ _ _
    refine t_bald0 (F := f_m_isOpen) dX16_isOpen_20 rfl (by decide) rfl (hp.1 _ rfl) hix hix.2.2 ?_
    refine t_callV (t := T_MODEL) (As := [_]) dX16_isOpen_21 rfl rM_X16_says (by decide) rfl rfl (by decide) (by decide) (Nat.le_of_ble_eq_true rfl) rfl (hp.1 _ rfl) (c_X16_says hp (hb _) ?_)
    show s_w _ _ _ 24 _ _ _ _
    refine w_goto (t := 32) dX16_isOpen_24 (by decide) ?_
    exact w_ireturn dX16_isOpen_32 ⟨s_rcb (hb _), k h6⟩

set_option maxRecDepth 100000 in
set_option maxHeartbeats 800000 in
theorem c_X16_speaks {X : e_XT} {d : Nat} {p : e_Sp} {I : e_I} {J : e_Jt} {c : Nat × Nat} {w : e_Rw1} {Q : e_Rt → e_SS → Prop} {nk nr np : Nat} (hM : q_D p I nk nr np) {x y : Int32} (hb : q_bo I f_m_speaks) (k : q_ip I nr x y = true → Q (.inl (some (.int (I f_m_speaks (q_pi I x y))))) (p, q_an I, J, c, w)) (kx : q_ip I nr x y = false → Q (.inl (some (.int 0))) (p, q_fl I 1, J, c, w)) : s_c X (d + 4) 267 [.ref (p.1 T_MODEL 0), .int x, .int y] (p, I, J, c, w) Q := by
  have hp := hM.1
  have hk40 := hM.2.1
  have hr10 := hM.2.2.1
  refine m_X16_speaks (Nat.le_of_ble_eq_true rfl) ?_
  show s_w _ _ _ 0 _ _ _ _
  refine w_op (pc' := 1) dX16_speaks_0 rfl ?_
  refine w_op (pc' := 2) dX16_speaks_1 rfl ?_
  refine w_op (pc' := 3) dX16_speaks_2 rfl ?_
  refine t_callV (t := T_MODEL) (As := [_, _]) dX16_speaks_3 rfl rM_X16_isPipe (by decide) rfl rfl (by decide) (by decide) (Nat.le_of_ble_eq_true rfl) rfl (hp.1 _ rfl) (c_X16_isPipe hM ?_)
  show s_w _ _ _ 6 _ _ _ _
  refine w_ifeq (t := 27) dX16_speaks_6 (by decide) (fun c6 => ?_) (fun c6 => ?_)
  · refine w_op (pc' := 28) dX16_speaks_27 rfl ?_
    refine w_iconst (v := 1) dX16_speaks_28 rfl ?_
    refine t_callV (t := T_MODEL) (As := [_]) dX16_speaks_29 rfl rM_X16_refuses (by decide) rfl rfl (by decide) (by decide) (Nat.le_of_ble_eq_true rfl) rfl (hp.1 _ rfl) (c_X16_refuses hp ?_)
    show s_w _ _ _ 32 _ _ _ _
    exact w_ireturn dX16_speaks_32 ⟨s_rcb (Or.inl rfl), kx (bI_0.mp c6)⟩
  · have h6 := bI_n0.mp c6
    have hx2 := q_ip_x h6
    have hix := q_ip_i hM h6
    refine w_op (pc' := 10) dX16_speaks_9 rfl ?_
    refine w_op (pc' := 11) dX16_speaks_10 rfl ?_
    refine t_getG0 (G := g_m_speaks) dX16_speaks_11 rfl rfl (by decide) rfl (fun _ => rfl) (hp.1 _ rfl) ?_
    refine w_op (pc' := 15) dX16_speaks_14 rfl ?_
    refine w_op (pc' := 16) dX16_speaks_15 rfl ?_
    refine w_op (pc' := 17) dX16_speaks_16 rfl ?_
    refine t_callV (t := T_MODEL) (As := [_, _]) dX16_speaks_17 rfl rM_X16_pipe (by decide) rfl rfl (by decide) (by decide) (Nat.le_of_ble_eq_true rfl) rfl (hp.1 _ rfl) (c_X16_pipe hM hx2 ?_)
    show s_w _ _ _ 20 _ _ _ _
    refine t_bald0 (F := f_m_speaks) dX16_speaks_20 rfl (by decide) rfl (hp.1 _ rfl) hix hix.2.2 ?_
    refine t_callV (t := T_MODEL) (As := [_]) dX16_speaks_21 rfl rM_X16_says (by decide) rfl rfl (by decide) (by decide) (Nat.le_of_ble_eq_true rfl) rfl (hp.1 _ rfl) (c_X16_says hp (hb _) ?_)
    show s_w _ _ _ 24 _ _ _ _
    refine w_goto (t := 32) dX16_speaks_24 (by decide) ?_
    exact w_ireturn dX16_speaks_32 ⟨s_rcb (hb _), k h6⟩

set_option maxRecDepth 100000 in
set_option maxHeartbeats 800000 in
theorem c_X16_begun {X : e_XT} {d : Nat} {p : e_Sp} {I : e_I} {J : e_Jt} {c : Nat × Nat} {w : e_Rw1} {Q : e_Rt → e_SS → Prop} {nk nr np : Nat} (hM : q_D p I nk nr np) {x y : Int32} (k : q_ip I nr x y = true → Q (.inl (some (.int (I f_m_begun (q_pi I x y))))) (p, q_an I, J, c, w)) (kx : q_ip I nr x y = false → Q (.inl (some (.int 0))) (p, q_fl I 1, J, c, w)) : s_c X (d + 4) 270 [.ref (p.1 T_MODEL 0), .int x, .int y] (p, I, J, c, w) Q := by
  have hp := hM.1
  have hk40 := hM.2.1
  have hr10 := hM.2.2.1
  refine m_X16_begun (Nat.le_of_ble_eq_true rfl) ?_
  show s_w _ _ _ 0 _ _ _ _
  refine w_op (pc' := 1) dX16_begun_0 rfl ?_
  refine w_op (pc' := 2) dX16_begun_1 rfl ?_
  refine w_op (pc' := 3) dX16_begun_2 rfl ?_
  refine t_callV (t := T_MODEL) (As := [_, _]) dX16_begun_3 rfl rM_X16_isPipe (by decide) rfl rfl (by decide) (by decide) (Nat.le_of_ble_eq_true rfl) rfl (hp.1 _ rfl) (c_X16_isPipe hM ?_)
  show s_w _ _ _ 6 _ _ _ _
  refine w_ifeq (t := 27) dX16_begun_6 (by decide) (fun c6 => ?_) (fun c6 => ?_)
  · refine w_op (pc' := 28) dX16_begun_27 rfl ?_
    refine w_iconst (v := 1) dX16_begun_28 rfl ?_
    refine t_callV (t := T_MODEL) (As := [_]) dX16_begun_29 rfl rM_X16_fails (by decide) rfl rfl (by decide) (by decide) (Nat.le_of_ble_eq_true rfl) rfl (hp.1 _ rfl) (c_X16_fails hp ?_)
    show s_w _ _ _ 32 _ _ _ _
    exact w_ireturn dX16_begun_32 ⟨rfl, kx (bI_0.mp c6)⟩
  · have h6 := bI_n0.mp c6
    have hx2 := q_ip_x h6
    have hix := q_ip_i hM h6
    refine w_op (pc' := 10) dX16_begun_9 rfl ?_
    refine w_op (pc' := 11) dX16_begun_10 rfl ?_
    refine t_getG0 (G := g_m_begun) dX16_begun_11 rfl rfl (by decide) rfl (fun _ => rfl) (hp.1 _ rfl) ?_
    refine w_op (pc' := 15) dX16_begun_14 rfl ?_
    refine w_op (pc' := 16) dX16_begun_15 rfl ?_
    refine w_op (pc' := 17) dX16_begun_16 rfl ?_
    refine t_callV (t := T_MODEL) (As := [_, _]) dX16_begun_17 rfl rM_X16_pipe (by decide) rfl rfl (by decide) (by decide) (Nat.le_of_ble_eq_true rfl) rfl (hp.1 _ rfl) (c_X16_pipe hM hx2 ?_)
    show s_w _ _ _ 20 _ _ _ _
    refine t_iald0 (F := f_m_begun) dX16_begun_20 rfl (by decide) rfl (hp.1 _ rfl) hix hix.2.2 ?_
    refine t_callV (t := T_MODEL) (As := [_]) dX16_begun_21 rfl rM_X16_answer (by decide) rfl rfl (by decide) (by decide) (Nat.le_of_ble_eq_true rfl) rfl (hp.1 _ rfl) (c_X16_answer hp ?_)
    show s_w _ _ _ 24 _ _ _ _
    refine w_goto (t := 32) dX16_begun_24 (by decide) ?_
    exact w_ireturn dX16_begun_32 ⟨rfl, k h6⟩

set_option maxRecDepth 100000 in
set_option maxHeartbeats 800000 in
theorem l_X16_allSpeaking {X : e_XT} {d : Nat} {p : e_Sp} {I : e_I} {J : e_Jt} {c : Nat × Nat} {w : e_Rw1} {Q : e_Rt → e_SS → Prop} {nk nr np : Nat} (hM : q_D p I nk nr np) {r : Int32} (k : Q (.inl (some (.int (r)))) (p, I, J, c, w)) : ∀ (n : Nat) (i : Nat) (u : Int32), (h1 : i ≤ np) → (hr : s_run (q_asf I) i (np - i) u = r) → (hn : np - i < n) → s_w X (d + 0) K_X16_allSpeaking 4 [some (.ref (p.1 T_MODEL 0)), some (.int u), some (.int (nI i))] [] (p, I, J, c, w) (fun r S' => e_rcr (some FieldType.int) r = true ∧ Q r S') := by
  intro n
  induction n with
  | zero =>
    intro i u h1 hr hn
    exact absurd hn (Nat.not_lt_zero _)
  | succ n ih =>
    intro i u h1 hr hn
    have hp := hM.1
    have hnp := hM.2.2.2.1
    refine w_op (pc' := 5) dX16_allSpeaking_4 rfl ?_
    refine w_op (pc' := 6) dX16_allSpeaking_5 rfl ?_
    refine t_getI (F := f_m_pipes) dX16_allSpeaking_6 rfl rfl (by decide) rfl ⟨rfl, fun _ => rfl⟩ (hp.1 _ rfl) ?_
    rw [hnp.2]
    refine w_icmpge (t := 35) dX16_allSpeaking_9 (by decide) (fun c9 => ?_) (fun c9 => ?_)
    · have hi := (nI_leI (by omega) (by omega)).mp c9
      rw [s_run_z hi] at hr
      refine w_op (pc' := 36) dX16_allSpeaking_35 rfl ?_
      exact w_ireturn dX16_allSpeaking_36 ⟨rfl, by subst hr; exact k⟩
    · have hi : i < np := Nat.lt_of_not_le (fun z => c9 ((nI_leI (by omega) (by omega)).mpr z))
      refine w_op (pc' := 13) dX16_allSpeaking_12 rfl ?_
      refine w_op (pc' := 14) dX16_allSpeaking_13 rfl ?_
      refine t_getG0 (G := g_m_speaks) dX16_allSpeaking_14 rfl rfl (by decide) rfl (fun _ => rfl) (hp.1 _ rfl) ?_
      refine w_op (pc' := 18) dX16_allSpeaking_17 rfl ?_
      refine t_bald0 (F := f_m_speaks) dX16_allSpeaking_18 rfl (by decide) rfl (hp.1 _ rfl) (show s_ix _ _ 1280 from s_ix.nI (by omega) (by decide)) (show i < 1280 by omega) ?_
      refine w_ifeq (t := 26) dX16_allSpeaking_19 (by decide) (fun c19 => ?_) (fun c19 => ?_)
      · refine w_iconst (v := 0) dX16_allSpeaking_26 rfl ?_
        refine w_op (pc' := 28) dX16_allSpeaking_27 rfl ?_
        refine w_op (pc' := 29) (ll' := [_, _, _]) dX16_allSpeaking_28 rfl ?_
        refine w_op (pc' := 32) (ll' := [_, _, _]) dX16_allSpeaking_29 rfl ?_
        refine w_goto (t := 4) dX16_allSpeaking_32 (by decide) ?_
        rw [show nI i + Int32.ofInt 1 = nI (i + 1) from nI_1 i]
        have ef : q_asf I i u = _ := congrArg (u + ·) (show bI (decide (I f_m_speaks i ≠ 0)) = 0 by grind)
        rw [s_run_s hi, ef] at hr
        exact ih (i + 1) _ (by omega) hr (by omega)
      · refine w_iconst (v := 1) dX16_allSpeaking_22 rfl ?_
        refine w_goto (t := 27) dX16_allSpeaking_23 (by decide) ?_
        refine w_op (pc' := 28) dX16_allSpeaking_27 rfl ?_
        refine w_op (pc' := 29) (ll' := [_, _, _]) dX16_allSpeaking_28 rfl ?_
        refine w_op (pc' := 32) (ll' := [_, _, _]) dX16_allSpeaking_29 rfl ?_
        refine w_goto (t := 4) dX16_allSpeaking_32 (by decide) ?_
        rw [show nI i + Int32.ofInt 1 = nI (i + 1) from nI_1 i]
        have ef : q_asf I i u = _ := congrArg (u + ·) (show bI (decide (I f_m_speaks i ≠ 0)) = 1 by grind)
        rw [s_run_s hi, ef] at hr
        exact ih (i + 1) _ (by omega) hr (by omega)
set_option maxRecDepth 100000 in
set_option maxHeartbeats 800000 in
theorem c_X16_allSpeaking {X : e_XT} {d : Nat} {p : e_Sp} {I : e_I} {J : e_Jt} {c : Nat × Nat} {w : e_Rw1} {Q : e_Rt → e_SS → Prop} {nk nr np : Nat} (hM : q_D p I nk nr np) (k : Q (.inl (some (.int (q_asp I np)))) (p, I, J, c, w)) : s_c X (d + 0) 269 [.ref (p.1 T_MODEL 0)] (p, I, J, c, w) Q := by
  refine m_X16_allSpeaking (Nat.le_of_ble_eq_true rfl) ?_
  show s_w _ _ _ 0 _ _ _ _
  refine w_iconst (v := 0) dX16_allSpeaking_0 rfl ?_
  refine w_op (pc' := 2) (ll' := [_, _, _]) dX16_allSpeaking_1 rfl ?_
  refine w_iconst (v := 0) dX16_allSpeaking_2 rfl ?_
  refine w_op (pc' := 4) (ll' := [_, _, _]) dX16_allSpeaking_3 rfl ?_
  exact l_X16_allSpeaking hM k (np + 1) 0 _ (Nat.zero_le _) rfl (by omega)

set_option maxRecDepth 100000 in
set_option maxHeartbeats 800000 in
theorem c_X16_speaking {X : e_XT} {d : Nat} {p : e_Sp} {I : e_I} {J : e_Jt} {c : Nat × Nat} {w : e_Rw1} {Q : e_Rt → e_SS → Prop} {nk nr np : Nat} (hM : q_D p I nk nr np) (k : Q (.inl (some (.int (q_asp I np)))) (p, q_an I, J, c, w)) : s_c X (d + 1) 268 [.ref (p.1 T_MODEL 0)] (p, I, J, c, w) Q := by
  have hp := hM.1
  have hk40 := hM.2.1
  have hr10 := hM.2.2.1
  refine m_X16_speaking (Nat.le_of_ble_eq_true rfl) ?_
  show s_w _ _ _ 0 _ _ _ _
  refine w_op (pc' := 1) dX16_speaking_0 rfl ?_
  refine w_op (pc' := 2) dX16_speaking_1 rfl ?_
  refine t_callV (t := T_MODEL) (As := []) dX16_speaking_2 rfl rM_X16_allSpeaking (by decide) rfl rfl (by decide) (by decide) (Nat.le_of_ble_eq_true rfl) rfl (hp.1 _ rfl) (c_X16_allSpeaking hM ?_)
  show s_w _ _ _ 5 _ _ _ _
  refine t_callV (t := T_MODEL) (As := [_]) dX16_speaking_5 rfl rM_X16_answer (by decide) rfl rfl (by decide) (by decide) (Nat.le_of_ble_eq_true rfl) rfl (hp.1 _ rfl) (c_X16_answer hp ?_)
  show s_w _ _ _ 8 _ _ _ _
  exact w_ireturn dX16_speaking_8 ⟨rfl, k⟩

set_option maxRecDepth 100000 in
set_option maxHeartbeats 800000 in
theorem c_X16_ended {X : e_XT} {d : Nat} {p : e_Sp} {I : e_I} {J : e_Jt} {c : Nat × Nat} {w : e_Rw1} {Q : e_Rt → e_SS → Prop} (hp : s_ok p) (k : Q (.inl (some (.long (J j_m_ended 0)))) (p, q_an I, J, c, w)) : s_c X (d + 0) 271 [.ref (p.1 T_MODEL 0)] (p, I, J, c, w) Q := by
  refine m_X16_ended (Nat.le_of_ble_eq_true rfl) ?_
  show s_w _ _ _ 0 _ _ _ _
  refine w_op (pc' := 1) dX16_ended_0 rfl ?_
  refine w_iconst (v := 0) dX16_ended_1 rfl ?_
  refine t_putI (F := f_m_thrown) dX16_ended_2 rfl rfl (by decide) (by decide) rfl rfl (Or.inl rfl) (hp.1 _ rfl) ?_
  refine w_op (pc' := 6) dX16_ended_5 rfl ?_
  refine t_getJ (F := j_m_ended) dX16_ended_6 rfl rfl (by decide) rfl (fun _ => rfl) (hp.1 _ rfl) ?_
  exact w_lreturn dX16_ended_9 ⟨rfl, k⟩

