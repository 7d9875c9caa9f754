/-! 65: public calls, a first part (printed by wip/whole/p65.py) -/
theorem s_ixr {x : Int32} {N : Nat} (h0 : 0 ≤ x) (h1 : x ≤ nI N) (hN : N < 2147483647) : s_ix x x.toNatClampNeg (N + 1) := by
  have h := Int32.le_iff_toInt_le.mp h0
  have h2 := Int32.le_iff_toInt_le.mp h1
  rw [nI_toInt (by omega)] at h2
  refine ⟨h0, rfl, ?_⟩
  show x.toInt.toNat < _
  omega
theorem s_ixr1 {x : Int32} {N : Nat} (h0 : 1 ≤ x) (h1 : x ≤ nI N) (hN : N < 2147483647) : s_ix x x.toNatClampNeg (N + 1) := s_ixr (Int32.le_trans (by decide) h0) h1 hN
theorem s_dvx {x : Int32} (h : s_isdv x = true) : s_ix x x.toNatClampNeg 3 := by
  have h2 : 0 ≤ x ∧ x < 3 := by
    unfold s_isdv at h
    simpa using h
  exact s_ixo h2.1 h2.2 (by decide)
set_option maxRecDepth 100000 in
set_option maxHeartbeats 4000000 in
theorem c_X11_tutti {X : e_XT} {d : Nat} {p : e_Sp} {I : e_I} {J : e_Jt} {c : Nat × Nat} {w : e_Rw1} {Q : e_Rt → e_SS → Prop} {nk nr : Nat} (hD : s_D p I nk nr) {a b : Nat} (hT : s_Tp p I c a b) {y : Int32} (hy : y = 0 ∨ y = 1) (hb : I f_isTutti 0 = 0 ∨ I f_isTutti 0 = 1) (k : ∀ p' c', s_D p' (s_stl p nk nr (s_up I f_isTutti 0 y, J)).1 nk nr → s_xt p p' → s_Tp p' (s_stl p nk nr (s_up I f_isTutti 0 y, J)).1 c' a b → Q (.inl (some (.int (I f_isTutti 0)))) (p', (s_stl p nk nr (s_up I f_isTutti 0 y, J)).1, (s_stl p nk nr (s_up I f_isTutti 0 y, J)).2, c', w)) : s_c X (d + 7) 133 [.ref (p.1 T_HALL 0), .int y] (p, I, J, c, w) Q := by
  have hC := hD.1
  have hp := hC.1
  refine m_X11_tutti (Nat.le_of_ble_eq_true rfl) ?_
  show s_w _ _ _ 0 _ _ _ _
  refine w_op (pc' := 1) dX11_tutti_0 rfl ?_
  refine t_getG0 (G := g_h_CONS) dX11_tutti_1 rfl rfl (by decide) rfl (fun _ => rfl) (hp.1 _ rfl) ?_
  refine t_getI (F := f_isTutti) dX11_tutti_4 rfl rfl (by decide) rfl ⟨rfl, fun _ => rfl⟩ (hp.1 _ rfl) ?_
  refine w_op (pc' := 8) (ll' := [_, _, _]) dX11_tutti_7 rfl ?_
  refine w_op (pc' := 9) dX11_tutti_8 rfl ?_
  refine t_getG0 (G := g_h_CONS) dX11_tutti_9 rfl rfl (by decide) rfl (fun _ => rfl) (hp.1 _ rfl) ?_
  refine w_op (pc' := 13) dX11_tutti_12 rfl ?_
  refine t_putI (F := f_isTutti) dX11_tutti_13 rfl rfl (by decide) (by decide) rfl (s_ckb (by first | exact Or.inl rfl | exact Or.inr rfl | assumption)) (Or.inl rfl) (hp.1 _ rfl) ?_
  refine w_op (pc' := 17) dX11_tutti_16 rfl ?_
  refine t_getG0 (G := g_h_WORKS) dX11_tutti_17 rfl rfl (by decide) rfl (fun _ => rfl) (hp.1 _ rfl) ?_
  refine t_callV (t := T_WORKS) (As := []) dX11_tutti_20 rfl rM_X10_settle (by decide) rfl rfl (by decide) (by decide) (Nat.le_of_ble_eq_true rfl) rfl (hp.1 _ rfl) (c_X10_settle (hD.eq (s_eqC.up (by decide))) (hT.eq (s_eqT.up (by decide))) (fun p1 c1 hD1 hx1 hT1 => ?_))
  show s_w _ _ _ 23 _ _ _ _
  rw [show p.1 T_HALL = p1.1 T_HALL from (hx1.1 T_HALL rfl).1.symm]
  have hp := hD1.1.1
  refine w_op (pc' := 24) dX11_tutti_23 rfl ?_
  exact w_ireturn dX11_tutti_24 ⟨s_rcb hb, k p1 c1 hD1 hx1 hT1⟩
set_option maxRecDepth 100000 in
set_option maxHeartbeats 4000000 in
theorem c_X11_lift {X : e_XT} {d : Nat} {p : e_Sp} {I : e_I} {J : e_Jt} {c : Nat × Nat} {w : e_Rw1} {Q : e_Rt → e_SS → Prop} {nk nr : Nat} (hD : s_D p I nk nr) {a b : Nat} (hT : s_Tp p I c a b) (k : ∀ p' c', s_D p' (s_stl p nk nr ((s_rla I).1, J)).1 nk nr → s_xt p p' → s_Tp p' (s_stl p nk nr ((s_rla I).1, J)).1 c' a b → Q (.inl (some (.int (s_rla I).2))) (p', (s_stl p nk nr ((s_rla I).1, J)).1, (s_stl p nk nr ((s_rla I).1, J)).2, c', w)) : s_c X (d + 8) 134 [.ref (p.1 T_HALL 0)] (p, I, J, c, w) Q := by
  have hC := hD.1
  have hp := hC.1
  refine m_X11_lift (Nat.le_of_ble_eq_true rfl) ?_
  show s_w _ _ _ 0 _ _ _ _
  refine w_op (pc' := 1) dX11_lift_0 rfl ?_
  refine t_getG0 (G := g_h_WORKS) dX11_lift_1 rfl rfl (by decide) rfl (fun _ => rfl) (hp.1 _ rfl) ?_
  refine t_callV (t := T_WORKS) (As := []) dX11_lift_4 rfl rM_X10_releaseAll (by decide) rfl rfl (by decide) (by decide) (Nat.le_of_ble_eq_true rfl) rfl (hp.1 _ rfl) (c_X10_releaseAll hD hT (fun p1 c1 hD1 hx1 hT1 => ?_))
  show s_w _ _ _ 7 _ _ _ _
  exact w_ireturn dX11_lift_7 ⟨rfl, k p1 c1 hD1 hx1 hT1⟩
set_option maxRecDepth 100000 in
set_option maxHeartbeats 4000000 in
theorem c_X11_speaking {X : e_XT} {d : Nat} {p : e_Sp} {I : e_I} {J : e_Jt} {c : Nat × Nat} {w : e_Rw1} {Q : e_Rt → e_SS → Prop} (hp : s_ok p) (k : Q (.inl (some (.int (I f_speakers 0)))) (p, I, J, c, w)) : s_c X (d + 0) 135 [.ref (p.1 T_HALL 0)] (p, I, J, c, w) Q := by
  refine m_X11_speaking (Nat.le_of_ble_eq_true rfl) ?_
  show s_w _ _ _ 0 _ _ _ _
  refine w_op (pc' := 1) dX11_speaking_0 rfl ?_
  refine t_getG0 (G := g_h_WORKS) dX11_speaking_1 rfl rfl (by decide) rfl (fun _ => rfl) (hp.1 _ rfl) ?_
  refine t_getI (F := f_speakers) dX11_speaking_4 rfl rfl (by decide) rfl ⟨rfl, fun _ => rfl⟩ (hp.1 _ rfl) ?_
  exact w_ireturn dX11_speaking_7 ⟨rfl, k⟩
set_option maxRecDepth 100000 in
set_option maxHeartbeats 4000000 in
theorem c_X11_ended {X : e_XT} {d : Nat} {p : e_Sp} {I : e_I} {J : e_Jt} {c : Nat × Nat} {w : e_Rw1} {Q : e_Rt → e_SS → Prop} (hp : s_ok p) (k : Q (.inl (some (.long (J j_allEnds 0)))) (p, I, J, c, w)) : s_c X (d + 0) 136 [.ref (p.1 T_HALL 0)] (p, I, J, c, w) Q := by
  refine m_X11_ended (Nat.le_of_ble_eq_true rfl) ?_
  show s_w _ _ _ 0 _ _ _ _
  refine w_op (pc' := 1) dX11_ended_0 rfl ?_
  refine t_getG0 (G := g_h_WORKS) dX11_ended_1 rfl rfl (by decide) rfl (fun _ => rfl) (hp.1 _ rfl) ?_
  refine t_getJ (F := j_allEnds) dX11_ended_4 rfl rfl (by decide) rfl (fun _ => rfl) (hp.1 _ rfl) ?_
  exact w_lreturn dX11_ended_7 ⟨rfl, k⟩
set_option maxRecDepth 100000 in
set_option maxHeartbeats 4000000 in
theorem c_X11_loudness {X : e_XT} {d : Nat} {p : e_Sp} {I : e_I} {J : e_Jt} {c : Nat × Nat} {w : e_Rw1} {Q : e_Rt → e_SS → Prop} {nk nr : Nat} (hD : s_D p I nk nr) (k : Q (.inl (some (.int (s_als p I nr)))) (p, I, J, c, w)) : s_c X (d + 4) 137 [.ref (p.1 T_HALL 0)] (p, I, J, c, w) Q := by
  have hC := hD.1
  have hp := hC.1
  refine m_X11_loudness (Nat.le_of_ble_eq_true rfl) ?_
  show s_w _ _ _ 0 _ _ _ _
  refine w_op (pc' := 1) dX11_loudness_0 rfl ?_
  refine t_getG0 (G := g_h_WORKS) dX11_loudness_1 rfl rfl (by decide) rfl (fun _ => rfl) (hp.1 _ rfl) ?_
  refine t_callV (t := T_WORKS) (As := []) dX11_loudness_4 rfl rM_X10_allLoudness (by decide) rfl rfl (by decide) (by decide) (Nat.le_of_ble_eq_true rfl) rfl (hp.1 _ rfl) (c_X10_allLoudness hD ?_)
  show s_w _ _ _ 7 _ _ _ _
  exact w_ireturn dX11_loudness_7 ⟨rfl, k⟩
set_option maxRecDepth 100000 in
set_option maxHeartbeats 4000000 in
theorem c_X11_isTrue {X : e_XT} {d : Nat} {p : e_Sp} {I : e_I} {J : e_Jt} {c : Nat × Nat} {w : e_Rw1} {Q : e_Rt → e_SS → Prop} {nk nr : Nat} (hD : s_D p I nk nr) (k : Q (.inl (some (.int (bI (s_con p I nk nr))))) (p, I, J, c, w)) : s_c X (d + 6) 142 [.ref (p.1 T_HALL 0)] (p, I, J, c, w) Q := by
  have hC := hD.1
  have hp := hC.1
  refine m_X11_isTrue (Nat.le_of_ble_eq_true rfl) ?_
  show s_w _ _ _ 0 _ _ _ _
  refine w_op (pc' := 1) dX11_isTrue_0 rfl ?_
  refine t_getG0 (G := g_h_WORKS) dX11_isTrue_1 rfl rfl (by decide) rfl (fun _ => rfl) (hp.1 _ rfl) ?_
  refine t_callV (t := T_WORKS) (As := []) dX11_isTrue_4 rfl rM_X10_isConsistent (by decide) rfl rfl (by decide) (by decide) (Nat.le_of_ble_eq_true rfl) rfl (hp.1 _ rfl) (c_X10_isConsistent hD ?_)
  show s_w _ _ _ 7 _ _ _ _
  exact w_ireturn dX11_isTrue_7 ⟨s_rcb (bI_or _), k⟩
set_option maxRecDepth 100000 in
set_option maxHeartbeats 4000000 in
theorem c_X11_recorded {X : e_XT} {d : Nat} {p : e_Sp} {I : e_I} {J : e_Jt} {c : Nat × Nat} {w : e_Rw1} {Q : e_Rt → e_SS → Prop} (hp : s_ok p) (k : Q (.inl (some (.int (I f_tsize 0)))) (p, I, J, c, w)) : s_c X (d + 0) 141 [.ref (p.1 T_HALL 0)] (p, I, J, c, w) Q := by
  refine m_X11_recorded (Nat.le_of_ble_eq_true rfl) ?_
  show s_w _ _ _ 0 _ _ _ _
  refine w_op (pc' := 1) dX11_recorded_0 rfl ?_
  refine t_getG0 (G := g_h_TAPE) dX11_recorded_1 rfl rfl (by decide) rfl (fun _ => rfl) (hp.1 _ rfl) ?_
  refine t_getI (F := f_tsize) dX11_recorded_4 rfl rfl (by decide) rfl ⟨rfl, fun _ => rfl⟩ (hp.1 _ rfl) ?_
  exact w_ireturn dX11_recorded_7 ⟨rfl, k⟩
set_option maxRecDepth 100000 in
set_option maxHeartbeats 4000000 in
theorem c_X11_isDrawn {X : e_XT} {d : Nat} {p : e_Sp} {I : e_I} {J : e_Jt} {c : Nat × Nat} {w : e_Rw1} {Q : e_Rt → e_SS → Prop} {nk nr : Nat} (hC : s_C p I nk nr) {x : Int32} (hb : ∀ j, j < nk → I f_k_isOut j = 0 ∨ I f_k_isOut j = 1) (k : ∀ j, j < nk → x = nI j → Q (.inl (some (.int (I f_k_isOut j)))) (p, I, J, c, w)) (kx : (x < 0 ∨ nI nk ≤ x) → Q (.inr 2) (p, I, J, (c.1 + 1, c.2 + 6), w)) : s_c X (d + 5) 157 [.ref (p.1 T_HALL 0), .int x] (p, I, J, c, w) Q := by
  have hp := hC.1
  refine m_X11_isDrawn (Nat.le_of_ble_eq_true rfl) ?_
  show s_w _ _ _ 0 _ _ _ _
  refine w_op (pc' := 1) dX11_isDrawn_0 rfl ?_
  refine w_op (pc' := 2) dX11_isDrawn_1 rfl ?_
  refine t_callV (t := T_HALL) (As := [_]) dX11_isDrawn_2 rfl rM_X11_needKnob (by decide) rfl rfl (by decide) (by decide) (Nat.le_of_ble_eq_true rfl) rfl (hp.1 _ rfl) (c_X11_needKnob hC (fun j hj hx hv => ?_) (fun hx => ?_))
  · show s_w _ _ _ 5 _ _ _ _
    refine t_getI (F := f_k_isOut) dX11_isDrawn_5 rfl rfl (by decide) rfl ⟨rfl, fun _ => rfl⟩ (by assumption) ?_
    exact w_ireturn dX11_isDrawn_8 ⟨s_rcb (hb j hj), k j hj hx⟩
  · exact ⟨rfl, rfl, kx hx⟩
set_option maxRecDepth 100000 in
set_option maxHeartbeats 4000000 in
theorem c_X11_isOn {X : e_XT} {d : Nat} {p : e_Sp} {I : e_I} {J : e_Jt} {c : Nat × Nat} {w : e_Rw1} {Q : e_Rt → e_SS → Prop} {nk nr : Nat} (hC : s_C p I nk nr) {x : Int32} (k : ∀ j, j < nk → x = nI j → I f_k_kind j = 115 → Q (.inl (some (.int (bI (s_so I j))))) (p, I, J, c, w)) (kx : (x < 0 ∨ nI nk ≤ x) → Q (.inr 2) (p, I, J, (c.1 + 1, c.2 + 6), w)) (kx3 : ∀ j, j < nk → x = nI j → ¬ I f_k_kind j = 115 → Q (.inr 3) (p, I, J, (c.1 + 1, c.2 + 6), w)) : s_c X (d + 5) 158 [.ref (p.1 T_HALL 0), .int x] (p, I, J, c, w) Q := by
  have hp := hC.1
  refine m_X11_isOn (Nat.le_of_ble_eq_true rfl) ?_
  show s_w _ _ _ 0 _ _ _ _
  refine w_op (pc' := 1) dX11_isOn_0 rfl ?_
  refine w_op (pc' := 2) dX11_isOn_1 rfl ?_
  refine t_callV (t := T_HALL) (As := [_]) dX11_isOn_2 rfl rM_X11_needKnob (by decide) rfl rfl (by decide) (by decide) (Nat.le_of_ble_eq_true rfl) rfl (hp.1 _ rfl) (c_X11_needKnob hC (fun j hj hx hv => ?_) (fun hx => ?_))
  · show s_w _ _ _ 5 _ _ _ _
    refine w_op (pc' := 6) (ll' := [_, _, _]) dX11_isOn_5 rfl ?_
    refine w_op (pc' := 7) dX11_isOn_6 rfl ?_
    refine t_callS (As := [_]) dX11_isOn_7 rfl rM_X11_needStop (by decide) rfl rfl (by decide) (Nat.le_of_ble_eq_true rfl) (c_X11_needStop hv (fun hs => ?_) (fun hs => ?_))
    · show s_w _ _ _ 10 _ _ _ _
      refine w_op (pc' := 11) dX11_isOn_10 rfl ?_
      refine w_op (pc' := 12) dX11_isOn_11 rfl ?_
      refine t_getG0 (G := g_h_CONS) dX11_isOn_12 rfl rfl (by decide) rfl (fun _ => rfl) (hp.1 _ rfl) ?_
      refine w_op (pc' := 16) dX11_isOn_15 rfl ?_
      refine t_callV (t := T_CONS) (As := [_]) dX11_isOn_16 rfl rM_X0_isSounding (by decide) rfl rfl (by decide) (by decide) (Nat.le_of_ble_eq_true rfl) rfl (hp.1 _ rfl) (c_X0_isSounding hp hv (hC.2.2.2.1 j hj).2.1 ?_)
      show s_w _ _ _ 19 _ _ _ _
      exact w_ireturn dX11_isOn_19 ⟨s_rcb (bI_or _), k j hj hx ((hC.2.2.2.1 j hj).2.1.mp hs)⟩
    · exact ⟨rfl, rfl, kx3 j hj hx (fun z => hs ((hC.2.2.2.1 j hj).2.1.mpr z))⟩
  · exact ⟨rfl, rfl, kx hx⟩
set_option maxRecDepth 100000 in
set_option maxHeartbeats 4000000 in
theorem c_X11_lock {X : e_XT} {d : Nat} {p : e_Sp} {I : e_I} {J : e_Jt} {c : Nat × Nat} {w : e_Rw1} {Q : e_Rt → e_SS → Prop} {nk nr : Nat} (hC : s_C p I nk nr) {x y : Int32} (hy : y = 0 ∨ y = 1) (hb : ∀ j, j < nk → I f_k_isLocked j = 0 ∨ I f_k_isLocked j = 1) (k : ∀ j, j < nk → x = nI j → Q (.inl (some (.int (I f_k_isLocked j)))) (p, s_up I f_k_isLocked j y, J, c, w)) (kx : (x < 0 ∨ nI nk ≤ x) → Q (.inr 2) (p, I, J, (c.1 + 1, c.2 + 6), w)) : s_c X (d + 5) 159 [.ref (p.1 T_HALL 0), .int x, .int y] (p, I, J, c, w) Q := by
  have hp := hC.1
  refine m_X11_lock (Nat.le_of_ble_eq_true rfl) ?_
  show s_w _ _ _ 0 _ _ _ _
  refine w_op (pc' := 1) dX11_lock_0 rfl ?_
  refine w_op (pc' := 2) dX11_lock_1 rfl ?_
  refine t_callV (t := T_HALL) (As := [_]) dX11_lock_2 rfl rM_X11_needKnob (by decide) rfl rfl (by decide) (by decide) (Nat.le_of_ble_eq_true rfl) rfl (hp.1 _ rfl) (c_X11_needKnob hC (fun j hj hx hv => ?_) (fun hx => ?_))
  · show s_w _ _ _ 5 _ _ _ _
    refine w_op (pc' := 6) (ll' := [_, _, _, _, _]) dX11_lock_5 rfl ?_
    refine w_op (pc' := 7) dX11_lock_6 rfl ?_
    refine t_getI (F := f_k_isLocked) dX11_lock_7 rfl rfl (by decide) rfl ⟨rfl, fun _ => rfl⟩ (by assumption) ?_
    refine w_op (pc' := 12) (ll' := [_, _, _, _, _]) dX11_lock_10 rfl ?_
    refine w_op (pc' := 13) dX11_lock_12 rfl ?_
    refine w_op (pc' := 14) dX11_lock_13 rfl ?_
    refine t_putI (F := f_k_isLocked) dX11_lock_14 rfl rfl (by decide) (by decide) rfl (s_ckb (by first | exact Or.inl rfl | exact Or.inr rfl | assumption)) (Or.inl rfl) (by assumption) ?_
    refine w_op (pc' := 19) dX11_lock_17 rfl ?_
    exact w_ireturn dX11_lock_19 ⟨s_rcb (hb j hj), k j hj hx⟩
  · exact ⟨rfl, rfl, kx hx⟩
set_option maxRecDepth 100000 in
set_option maxHeartbeats 4000000 in
theorem c_X11_scope {X : e_XT} {d : Nat} {p : e_Sp} {I : e_I} {J : e_Jt} {c : Nat × Nat} {w : e_Rw1} {Q : e_Rt → e_SS → Prop} {nk nr : Nat} (hC : s_C p I nk nr) {x y : Int32} (hy : y = 0 ∨ y = 1) (hb : ∀ j, j < nk → I f_k_isInScope j = 0 ∨ I f_k_isInScope j = 1) (k : ∀ j, j < nk → x = nI j → Q (.inl (some (.int (I f_k_isInScope j)))) (p, s_up I f_k_isInScope j y, J, c, w)) (kx : (x < 0 ∨ nI nk ≤ x) → Q (.inr 2) (p, I, J, (c.1 + 1, c.2 + 6), w)) : s_c X (d + 5) 186 [.ref (p.1 T_HALL 0), .int x, .int y] (p, I, J, c, w) Q := by
  have hp := hC.1
  refine m_X11_scope (Nat.le_of_ble_eq_true rfl) ?_
  show s_w _ _ _ 0 _ _ _ _
  refine w_op (pc' := 1) dX11_scope_0 rfl ?_
  refine w_op (pc' := 2) dX11_scope_1 rfl ?_
  refine t_callV (t := T_HALL) (As := [_]) dX11_scope_2 rfl rM_X11_needKnob (by decide) rfl rfl (by decide) (by decide) (Nat.le_of_ble_eq_true rfl) rfl (hp.1 _ rfl) (c_X11_needKnob hC (fun j hj hx hv => ?_) (fun hx => ?_))
  · show s_w _ _ _ 5 _ _ _ _
    refine w_op (pc' := 6) (ll' := [_, _, _, _, _]) dX11_scope_5 rfl ?_
    refine w_op (pc' := 7) dX11_scope_6 rfl ?_
    refine t_getI (F := f_k_isInScope) dX11_scope_7 rfl rfl (by decide) rfl ⟨rfl, fun _ => rfl⟩ (by assumption) ?_
    refine w_op (pc' := 12) (ll' := [_, _, _, _, _]) dX11_scope_10 rfl ?_
    refine w_op (pc' := 13) dX11_scope_12 rfl ?_
    refine w_op (pc' := 14) dX11_scope_13 rfl ?_
    refine t_putI (F := f_k_isInScope) dX11_scope_14 rfl rfl (by decide) (by decide) rfl (s_ckb (by first | exact Or.inl rfl | exact Or.inr rfl | assumption)) (Or.inl rfl) (by assumption) ?_
    refine w_op (pc' := 19) dX11_scope_17 rfl ?_
    exact w_ireturn dX11_scope_19 ⟨s_rcb (hb j hj), k j hj hx⟩
  · exact ⟨rfl, rfl, kx hx⟩
set_option maxRecDepth 100000 in
set_option maxHeartbeats 4000000 in
theorem c_X11_draw {X : e_XT} {d : Nat} {p : e_Sp} {I : e_I} {J : e_Jt} {c : Nat × Nat} {w : e_Rw1} {Q : e_Rt → e_SS → Prop} {nk nr : Nat} (hD : s_D p I nk nr) {a b : Nat} (hT : s_Tp p I c a b) {x y : Int32} (hy : y = 0 ∨ y = 1) (hb : ∀ j, j < nk → I f_k_isOut j = 0 ∨ I f_k_isOut j = 1) (k : ∀ j, j < nk → x = nI j → ∀ p' c', s_D p' (s_stl p nk nr (s_up I f_k_isOut j y, J)).1 nk nr → s_xt p p' → s_Tp p' (s_stl p nk nr (s_up I f_k_isOut j y, J)).1 c' a b → Q (.inl (some (.int (I f_k_isOut j)))) (p', (s_stl p nk nr (s_up I f_k_isOut j y, J)).1, (s_stl p nk nr (s_up I f_k_isOut j y, J)).2, c', w)) (kx : (x < 0 ∨ nI nk ≤ x) → Q (.inr 2) (p, I, J, (c.1 + 1, c.2 + 6), w)) : s_c X (d + 7) 156 [.ref (p.1 T_HALL 0), .int x, .int y] (p, I, J, c, w) Q := by
  have hC := hD.1
  have hp := hC.1
  refine m_X11_draw (Nat.le_of_ble_eq_true rfl) ?_
  show s_w _ _ _ 0 _ _ _ _
  refine w_op (pc' := 1) dX11_draw_0 rfl ?_
  refine w_op (pc' := 2) dX11_draw_1 rfl ?_
  refine t_callV (t := T_HALL) (As := [_]) dX11_draw_2 rfl rM_X11_needKnob (by decide) rfl rfl (by decide) (by decide) (Nat.le_of_ble_eq_true rfl) rfl (hp.1 _ rfl) (c_X11_needKnob hC (fun j hj hx hv => ?_) (fun hx => ?_))
  · show s_w _ _ _ 5 _ _ _ _
    refine w_op (pc' := 6) (ll' := [_, _, _, _, _]) dX11_draw_5 rfl ?_
    refine w_op (pc' := 7) dX11_draw_6 rfl ?_
    refine t_getI (F := f_k_isOut) dX11_draw_7 rfl rfl (by decide) rfl ⟨rfl, fun _ => rfl⟩ (by assumption) ?_
    refine w_op (pc' := 12) (ll' := [_, _, _, _, _]) dX11_draw_10 rfl ?_
    refine w_op (pc' := 13) dX11_draw_12 rfl ?_
    refine w_op (pc' := 14) dX11_draw_13 rfl ?_
    refine t_putI (F := f_k_isOut) dX11_draw_14 rfl rfl (by decide) (by decide) rfl (s_ckb (by first | exact Or.inl rfl | exact Or.inr rfl | assumption)) (Or.inl rfl) (by assumption) ?_
    refine w_op (pc' := 18) dX11_draw_17 rfl ?_
    refine t_getG0 (G := g_h_WORKS) dX11_draw_18 rfl rfl (by decide) rfl (fun _ => rfl) (hp.1 _ rfl) ?_
    refine t_callV (t := T_WORKS) (As := []) dX11_draw_21 rfl rM_X10_settle (by decide) rfl rfl (by decide) (by decide) (Nat.le_of_ble_eq_true rfl) rfl (hp.1 _ rfl) (c_X10_settle (hD.eq (s_eqC.up (by decide))) (hT.eq (s_eqT.up (by decide))) (fun p1 c1 hD1 hx1 hT1 => ?_))
    show s_w _ _ _ 24 _ _ _ _
    rw [show p.1 T_HALL = p1.1 T_HALL from (hx1.1 T_HALL rfl).1.symm]
    have hp := hD1.1.1
    refine w_op (pc' := 26) dX11_draw_24 rfl ?_
    exact w_ireturn dX11_draw_26 ⟨s_rcb (hb j hj), k j hj hx p1 c1 hD1 hx1 hT1⟩
  · exact ⟨rfl, rfl, kx hx⟩
set_option maxRecDepth 100000 in
set_option maxHeartbeats 4000000 in
theorem c_X11_stage {X : e_XT} {d : Nat} {p : e_Sp} {I : e_I} {J : e_Jt} {c : Nat × Nat} {w : e_Rw1} {Q : e_Rt → e_SS → Prop} {nk nr : Nat} (hD : s_D p I nk nr) {a b : Nat} (hT : s_Tp p I c a b) {x y : Int32} (k : ∀ j, j < nk → x = nI j → 0 ≤ y ∧ y ≤ 9 → I f_k_kind j = 115 → ∀ p' c', s_D p' (s_stl p nk nr (s_up I f_s_stage j y, J)).1 nk nr → s_xt p p' → s_Tp p' (s_stl p nk nr (s_up I f_s_stage j y, J)).1 c' a b → Q (.inl (some (.int (I f_s_stage j)))) (p', (s_stl p nk nr (s_up I f_s_stage j y, J)).1, (s_stl p nk nr (s_up I f_s_stage j y, J)).2, c', w)) (kx : (x < 0 ∨ nI nk ≤ x) → Q (.inr 2) (p, I, J, (c.1 + 1, c.2 + 6), w)) (kx0 : ∀ j, j < nk → x = nI j → ¬ (0 ≤ y ∧ y ≤ 9) → Q (.inr 0) (p, I, J, (c.1 + 1, c.2 + 6), w)) (kx3 : ∀ j, j < nk → x = nI j → 0 ≤ y ∧ y ≤ 9 → ¬ I f_k_kind j = 115 → Q (.inr 3) (p, I, J, (c.1 + 1, c.2 + 6), w)) : s_c X (d + 7) 160 [.ref (p.1 T_HALL 0), .int x, .int y] (p, I, J, c, w) Q := by
  have hC := hD.1
  have hp := hC.1
  refine m_X11_stage (Nat.le_of_ble_eq_true rfl) ?_
  show s_w _ _ _ 0 _ _ _ _
  refine w_op (pc' := 1) dX11_stage_0 rfl ?_
  refine w_op (pc' := 2) dX11_stage_1 rfl ?_
  refine t_callV (t := T_HALL) (As := [_]) dX11_stage_2 rfl rM_X11_needKnob (by decide) rfl rfl (by decide) (by decide) (Nat.le_of_ble_eq_true rfl) rfl (hp.1 _ rfl) (c_X11_needKnob hC (fun j hj hx hv => ?_) (fun hx => ?_))
  · show s_w _ _ _ 5 _ _ _ _
    refine w_op (pc' := 6) (ll' := [_, _, _, _, _, _]) dX11_stage_5 rfl ?_
    refine w_op (pc' := 7) dX11_stage_6 rfl ?_
    refine w_iconst (v := 0) dX11_stage_7 rfl ?_
    refine w_bipush (v := 9) dX11_stage_8 rfl ?_
    refine t_callS (As := [_, _, _]) dX11_stage_10 rfl rM_X11_needRange (by decide) rfl rfl (by decide) (Nat.le_of_ble_eq_true rfl) (c_X11_needRange (fun h0 => ?_) (fun h0 => ?_))
    · show s_w _ _ _ 13 _ _ _ _
      refine w_op (pc' := 14) dX11_stage_13 rfl ?_
      refine t_callS (As := [_]) dX11_stage_14 rfl rM_X11_needStop (by decide) rfl rfl (by decide) (Nat.le_of_ble_eq_true rfl) (c_X11_needStop hv (fun hs => ?_) (fun hs => ?_))
      · show s_w _ _ _ 17 _ _ _ _
        refine w_op (pc' := 19) (ll' := [_, _, _, _, _, _]) dX11_stage_17 rfl ?_
        refine w_op (pc' := 21) dX11_stage_19 rfl ?_
        refine t_getI (F := f_s_stage) dX11_stage_21 rfl rfl (by decide) rfl ⟨rfl, fun _ => rfl⟩ (by assumption) ?_
        refine w_op (pc' := 26) (ll' := [_, _, _, _, _, _]) dX11_stage_24 rfl ?_
        refine w_op (pc' := 28) dX11_stage_26 rfl ?_
        refine w_op (pc' := 29) dX11_stage_28 rfl ?_
        refine t_putI (F := f_s_stage) dX11_stage_29 rfl rfl (by decide) (by decide) rfl rfl (Or.inl rfl) (by assumption) ?_
        refine w_op (pc' := 33) dX11_stage_32 rfl ?_
        refine t_getG0 (G := g_h_WORKS) dX11_stage_33 rfl rfl (by decide) rfl (fun _ => rfl) (hp.1 _ rfl) ?_
        refine t_callV (t := T_WORKS) (As := []) dX11_stage_36 rfl rM_X10_settle (by decide) rfl rfl (by decide) (by decide) (Nat.le_of_ble_eq_true rfl) rfl (hp.1 _ rfl) (c_X10_settle (hD.eq (s_eqC.up (by decide))) (hT.eq (s_eqT.up (by decide))) (fun p1 c1 hD1 hx1 hT1 => ?_))
        show s_w _ _ _ 39 _ _ _ _
        rw [show p.1 T_HALL = p1.1 T_HALL from (hx1.1 T_HALL rfl).1.symm]
        have hp := hD1.1.1
        refine w_op (pc' := 41) dX11_stage_39 rfl ?_
        exact w_ireturn dX11_stage_41 ⟨rfl, k j hj hx h0 ((hC.2.2.2.1 j hj).2.1.mp hs) p1 c1 hD1 hx1 hT1⟩
      · exact ⟨rfl, rfl, kx3 j hj hx h0 (fun z => hs ((hC.2.2.2.1 j hj).2.1.mpr z))⟩
    · exact ⟨rfl, rfl, kx0 j hj hx h0⟩
  · exact ⟨rfl, rfl, kx hx⟩
set_option maxRecDepth 100000 in
set_option maxHeartbeats 4000000 in
theorem c_X11_crescendo {X : e_XT} {d : Nat} {p : e_Sp} {I : e_I} {J : e_Jt} {c : Nat × Nat} {w : e_Rw1} {Q : e_Rt → e_SS → Prop} {nk nr : Nat} (hD : s_D p I nk nr) {a b : Nat} (hT : s_Tp p I c a b) {y : Int32} (k : 0 ≤ y ∧ y ≤ 9 → ∀ p' c', s_D p' (s_stl p nk nr (s_up I f_crescendo 0 y, J)).1 nk nr → s_xt p p' → s_Tp p' (s_stl p nk nr (s_up I f_crescendo 0 y, J)).1 c' a b → Q (.inl (some (.int (I f_crescendo 0)))) (p', (s_stl p nk nr (s_up I f_crescendo 0 y, J)).1, (s_stl p nk nr (s_up I f_crescendo 0 y, J)).2, c', w)) (kx0 : ¬ (0 ≤ y ∧ y ≤ 9) → Q (.inr 0) (p, I, J, (c.1 + 1, c.2 + 6), w)) : s_c X (d + 7) 161 [.ref (p.1 T_HALL 0), .int y] (p, I, J, c, w) Q := by
  have hC := hD.1
  have hp := hC.1
  refine m_X11_crescendo (Nat.le_of_ble_eq_true rfl) ?_
  show s_w _ _ _ 0 _ _ _ _
  refine w_op (pc' := 1) dX11_crescendo_0 rfl ?_
  refine w_iconst (v := 0) dX11_crescendo_1 rfl ?_
  refine w_bipush (v := 9) dX11_crescendo_2 rfl ?_
  refine t_callS (As := [_, _, _]) dX11_crescendo_4 rfl rM_X11_needRange (by decide) rfl rfl (by decide) (Nat.le_of_ble_eq_true rfl) (c_X11_needRange (fun h0 => ?_) (fun h0 => ?_))
  · show s_w _ _ _ 7 _ _ _ _
    refine w_op (pc' := 8) dX11_crescendo_7 rfl ?_
    refine t_getG0 (G := g_h_CONS) dX11_crescendo_8 rfl rfl (by decide) rfl (fun _ => rfl) (hp.1 _ rfl) ?_
    refine t_getI (F := f_crescendo) dX11_crescendo_11 rfl rfl (by decide) rfl ⟨rfl, fun _ => rfl⟩ (hp.1 _ rfl) ?_
    refine w_op (pc' := 15) (ll' := [_, _, _]) dX11_crescendo_14 rfl ?_
    refine w_op (pc' := 16) dX11_crescendo_15 rfl ?_
    refine t_getG0 (G := g_h_CONS) dX11_crescendo_16 rfl rfl (by decide) rfl (fun _ => rfl) (hp.1 _ rfl) ?_
    refine w_op (pc' := 20) dX11_crescendo_19 rfl ?_
    refine t_putI (F := f_crescendo) dX11_crescendo_20 rfl rfl (by decide) (by decide) rfl rfl (Or.inl rfl) (hp.1 _ rfl) ?_
    refine w_op (pc' := 24) dX11_crescendo_23 rfl ?_
    refine t_getG0 (G := g_h_WORKS) dX11_crescendo_24 rfl rfl (by decide) rfl (fun _ => rfl) (hp.1 _ rfl) ?_
    refine t_callV (t := T_WORKS) (As := []) dX11_crescendo_27 rfl rM_X10_settle (by decide) rfl rfl (by decide) (by decide) (Nat.le_of_ble_eq_true rfl) rfl (hp.1 _ rfl) (c_X10_settle (hD.eq (s_eqC.up (by decide))) (hT.eq (s_eqT.up (by decide))) (fun p1 c1 hD1 hx1 hT1 => ?_))
    show s_w _ _ _ 30 _ _ _ _
    rw [show p.1 T_HALL = p1.1 T_HALL from (hx1.1 T_HALL rfl).1.symm]
    have hp := hD1.1.1
    refine w_op (pc' := 31) dX11_crescendo_30 rfl ?_
    exact w_ireturn dX11_crescendo_31 ⟨rfl, k h0 p1 c1 hD1 hx1 hT1⟩
  · exact ⟨rfl, rfl, kx0 h0⟩
set_option maxRecDepth 100000 in
set_option maxHeartbeats 4000000 in
theorem c_X11_key {X : e_XT} {d : Nat} {p : e_Sp} {I : e_I} {J : e_Jt} {c : Nat × Nat} {w : e_Rw1} {Q : e_Rt → e_SS → Prop} {nk nr : Nat} (hD : s_D p I nk nr) {a b : Nat} (hT : s_Tp p I c a b) {x y z : Int32} (hz : z = 0 ∨ z = 1) (k : s_isk x y → ∀ p' c', s_D p' (s_stl p nk nr (s_prk I x y z, J)).1 nk nr → s_xt p p' → s_Tp p' (s_stl p nk nr (s_prk I x y z, J)).1 c' a b → Q (.inl (some (.int (bI (s_dn I x y))))) (p', (s_stl p nk nr (s_prk I x y z, J)).1, (s_stl p nk nr (s_prk I x y z, J)).2, c', w)) (kx : ¬ s_isk x y → Q (.inr 2) (p, I, J, (c.1 + 1, c.2 + 6), w)) : s_c X (d + 7) 162 [.ref (p.1 T_HALL 0), .int x, .int y, .int z] (p, I, J, c, w) Q := by
  have hC := hD.1
  have hp := hC.1
  refine m_X11_key (Nat.le_of_ble_eq_true rfl) ?_
  show s_w _ _ _ 0 _ _ _ _
  refine w_op (pc' := 1) dX11_key_0 rfl ?_
  refine w_op (pc' := 2) dX11_key_1 rfl ?_
  refine t_callS (As := [_, _]) dX11_key_2 rfl rM_X11_needKey (by decide) rfl rfl (by decide) (Nat.le_of_ble_eq_true rfl) (c_X11_needKey (fun hy => ?_) (fun hy => ?_))
  · show s_w _ _ _ 5 _ _ _ _
    refine w_op (pc' := 6) dX11_key_5 rfl ?_
    refine t_getG0 (G := g_h_KEYS) dX11_key_6 rfl rfl (by decide) rfl (fun _ => rfl) (hp.1 _ rfl) ?_
    refine w_op (pc' := 10) dX11_key_9 rfl ?_
    refine w_op (pc' := 11) dX11_key_10 rfl ?_
    refine t_callV (t := T_KEYS) (As := [_, _]) dX11_key_11 rfl rM_X3_isPressed (by decide) rfl rfl (by decide) (by decide) (Nat.le_of_ble_eq_true rfl) rfl (hp.1 _ rfl) (c_X3_isPressed hp ?_)
    show s_w _ _ _ 14 _ _ _ _
    refine w_op (pc' := 16) (ll' := [_, _, _, _, _]) dX11_key_14 rfl ?_
    refine w_op (pc' := 17) dX11_key_16 rfl ?_
    refine t_getG0 (G := g_h_WORKS) dX11_key_17 rfl rfl (by decide) rfl (fun _ => rfl) (hp.1 _ rfl) ?_
    refine w_op (pc' := 21) dX11_key_20 rfl ?_
    refine w_op (pc' := 22) dX11_key_21 rfl ?_
    refine w_op (pc' := 23) dX11_key_22 rfl ?_
    refine t_callV (t := T_WORKS) (As := [_, _, _]) dX11_key_23 rfl rM_X10_pressKey (by decide) rfl rfl (by decide) (by decide) (Nat.le_of_ble_eq_true rfl) rfl (hp.1 _ rfl) (c_X10_pressKey hD hT hz (fun p1 c1 hD1 hx1 hT1 => ?_))
    show s_w _ _ _ 26 _ _ _ _
    rw [show p.1 T_HALL = p1.1 T_HALL from (hx1.1 T_HALL rfl).1.symm]
    have hp := hD1.1.1
    refine w_op (pc' := 27) dX11_key_26 rfl ?_
    refine t_getG0 (G := g_h_WORKS) dX11_key_27 rfl rfl (by decide) rfl (fun _ => rfl) (hp.1 _ rfl) ?_
    refine t_callV (t := T_WORKS) (As := []) dX11_key_30 rfl rM_X10_settle (by decide) rfl rfl (by decide) (by decide) (Nat.le_of_ble_eq_true rfl) rfl (hp.1 _ rfl) (c_X10_settle hD1 hT1 (fun p2 c2 hD2 hx2 hT2 => ?_))
    show s_w _ _ _ 33 _ _ _ _
    rw [s_stl.xt hx1] at hD2 hT2 ⊢
    refine w_op (pc' := 35) dX11_key_33 rfl ?_
    exact w_ireturn dX11_key_35 ⟨s_rcb (bI_or _), k hy p2 c2 hD2 (hx1.trans hx2) hT2⟩
  · exact ⟨rfl, rfl, kx hy⟩
set_option maxRecDepth 100000 in
set_option maxHeartbeats 4000000 in
theorem c_X11_isDown {X : e_XT} {d : Nat} {p : e_Sp} {I : e_I} {J : e_Jt} {c : Nat × Nat} {w : e_Rw1} {Q : e_Rt → e_SS → Prop} (hp : s_ok p) {x y : Int32} (k : s_isk x y → Q (.inl (some (.int (bI (s_dn I x y))))) (p, I, J, c, w)) (kx : ¬ s_isk x y → Q (.inr 2) (p, I, J, (c.1 + 1, c.2 + 6), w)) : s_c X (d + 2) 164 [.ref (p.1 T_HALL 0), .int x, .int y] (p, I, J, c, w) Q := by
  refine m_X11_isDown (Nat.le_of_ble_eq_true rfl) ?_
  show s_w _ _ _ 0 _ _ _ _
  refine w_op (pc' := 1) dX11_isDown_0 rfl ?_
  refine w_op (pc' := 2) dX11_isDown_1 rfl ?_
  refine t_callS (As := [_, _]) dX11_isDown_2 rfl rM_X11_needKey (by decide) rfl rfl (by decide) (Nat.le_of_ble_eq_true rfl) (c_X11_needKey (fun hy => ?_) (fun hy => ?_))
  · show s_w _ _ _ 5 _ _ _ _
    refine w_op (pc' := 6) dX11_isDown_5 rfl ?_
    refine t_getG0 (G := g_h_KEYS) dX11_isDown_6 rfl rfl (by decide) rfl (fun _ => rfl) (hp.1 _ rfl) ?_
    refine w_op (pc' := 10) dX11_isDown_9 rfl ?_
    refine w_op (pc' := 11) dX11_isDown_10 rfl ?_
    refine t_callV (t := T_KEYS) (As := [_, _]) dX11_isDown_11 rfl rM_X3_isPressed (by decide) rfl rfl (by decide) (by decide) (Nat.le_of_ble_eq_true rfl) rfl (hp.1 _ rfl) (c_X3_isPressed hp ?_)
    show s_w _ _ _ 14 _ _ _ _
    exact w_ireturn dX11_isDown_14 ⟨s_rcb (bI_or _), k hy⟩
  · exact ⟨rfl, rfl, kx hy⟩
set_option maxRecDepth 100000 in
set_option maxHeartbeats 4000000 in
theorem c_X11_pass {X : e_XT} {d : Nat} {p : e_Sp} {I : e_I} {J : e_Jt} {c : Nat × Nat} {w : e_Rw1} {Q : e_Rt → e_SS → Prop} {nk nr : Nat} (hD : s_D p I nk nr) {a b : Nat} (hT : s_Tp p I c a b) {y : Int32} (k : 1 ≤ y ∧ y ≤ 40 → ∀ p' c', s_D p' (s_run (s_tick p nk nr) 0 y.toNatClampNeg (I, J)).1 nk nr → s_xt p p' → s_Tp p' (s_run (s_tick p nk nr) 0 y.toNatClampNeg (I, J)).1 c' a b → Q (.inl (some (.int ((s_run (s_tick p nk nr) 0 y.toNatClampNeg (I, J)).1 f_now 0)))) (p', (s_run (s_tick p nk nr) 0 y.toNatClampNeg (I, J)).1, (s_run (s_tick p nk nr) 0 y.toNatClampNeg (I, J)).2, c', w)) (kx0 : ¬ (1 ≤ y ∧ y ≤ 40) → Q (.inr 0) (p, I, J, (c.1 + 1, c.2 + 6), w)) : s_c X (d + 8) 165 [.ref (p.1 T_HALL 0), .int y] (p, I, J, c, w) Q := by
  have hC := hD.1
  have hp := hC.1
  refine m_X11_pass (Nat.le_of_ble_eq_true rfl) ?_
  show s_w _ _ _ 0 _ _ _ _
  refine w_op (pc' := 1) dX11_pass_0 rfl ?_
  refine w_iconst (v := 1) dX11_pass_1 rfl ?_
  refine w_bipush (v := 40) dX11_pass_2 rfl ?_
  refine t_callS (As := [_, _, _]) dX11_pass_4 rfl rM_X11_needRange (by decide) rfl rfl (by decide) (Nat.le_of_ble_eq_true rfl) (c_X11_needRange (fun h0 => ?_) (fun h0 => ?_))
  · show s_w _ _ _ 7 _ _ _ _
    refine w_op (pc' := 8) dX11_pass_7 rfl ?_
    refine t_getG0 (G := g_h_WORKS) dX11_pass_8 rfl rfl (by decide) rfl (fun _ => rfl) (hp.1 _ rfl) ?_
    refine w_op (pc' := 12) dX11_pass_11 rfl ?_
    refine t_callV (t := T_WORKS) (As := [_]) dX11_pass_12 rfl rM_X10_passTicks (by decide) rfl rfl (by decide) (by decide) (Nat.le_of_ble_eq_true rfl) rfl (hp.1 _ rfl) (c_X10_passTicks hD hT (fun p1 c1 hD1 hx1 hT1 => ?_))
    show s_w _ _ _ 15 _ _ _ _
    rw [show p.1 T_HALL = p1.1 T_HALL from (hx1.1 T_HALL rfl).1.symm]
    have hp := hD1.1.1
    refine w_op (pc' := 16) dX11_pass_15 rfl ?_
    refine t_getG0 (G := g_h_WORKS) dX11_pass_16 rfl rfl (by decide) rfl (fun _ => rfl) (hp.1 _ rfl) ?_
    refine t_getI (F := f_now) dX11_pass_19 rfl rfl (by decide) rfl ⟨rfl, fun _ => rfl⟩ (hp.1 _ rfl) ?_
    exact w_ireturn dX11_pass_22 ⟨rfl, k h0 p1 c1 hD1 hx1 hT1⟩
  · exact ⟨rfl, rfl, kx0 h0⟩
set_option maxRecDepth 100000 in
set_option maxHeartbeats 4000000 in
theorem c_X11_reasons {X : e_XT} {d : Nat} {p : e_Sp} {I : e_I} {J : e_Jt} {c : Nat × Nat} {w : e_Rw1} {Q : e_Rt → e_SS → Prop} {nk nr : Nat} (hD : s_D p I nk nr) {x y : Int32} (k : ∀ j, s_pat p I nr x y = some j → Q (.inl (some (.int (s_ar I j)))) (p, I, J, c, w)) (kx : s_pat p I nr x y = none → Q (.inr 2) (p, I, J, (c.1 + 1, c.2 + 6), w)) : s_c X (d + 5) 166 [.ref (p.1 T_HALL 0), .int x, .int y] (p, I, J, c, w) Q := by
  have hC := hD.1
  have hp := hC.1
  refine m_X11_reasons (Nat.le_of_ble_eq_true rfl) ?_
  show s_w _ _ _ 0 _ _ _ _
  refine w_op (pc' := 1) dX11_reasons_0 rfl ?_
  refine w_op (pc' := 2) dX11_reasons_1 rfl ?_
  refine w_op (pc' := 3) dX11_reasons_2 rfl ?_
  refine t_callV (t := T_HALL) (As := [_, _]) dX11_reasons_3 rfl rM_X11_needPipe (by decide) rfl rfl (by decide) (by decide) (Nat.le_of_ble_eq_true rfl) rfl (hp.1 _ rfl) (c_X11_needPipe hD (fun j hj hvj => ?_) (fun hx => ?_))
  · show s_w _ _ _ 6 _ _ _ _
    refine t_callV (t := T_PIPE) (As := []) dX11_reasons_6 rfl rM_X6_allReasons (by decide) rfl rfl (by decide) (by decide) (Nat.le_of_ble_eq_true rfl) rfl (by assumption) (c_X6_allReasons hvj ?_)
    show s_w _ _ _ 9 _ _ _ _
    exact w_ireturn dX11_reasons_9 ⟨rfl, k j hj⟩
  · exact ⟨rfl, rfl, kx hx⟩
set_option maxRecDepth 100000 in
set_option maxHeartbeats 4000000 in
theorem c_X11_reasonsAnew {X : e_XT} {d : Nat} {p : e_Sp} {I : e_I} {J : e_Jt} {c : Nat × Nat} {w : e_Rw1} {Q : e_Rt → e_SS → Prop} {nk nr : Nat} (hD : s_D p I nk nr) {x y : Int32} (k : ∀ j, s_pat p I nr x y = some j → Q (.inl (some (.int (s_ral p I nk nr x y)))) (p, I, J, c, w)) (kx : s_pat p I nr x y = none → Q (.inr 2) (p, I, J, (c.1 + 1, c.2 + 6), w)) : s_c X (d + 5) 168 [.ref (p.1 T_HALL 0), .int x, .int y] (p, I, J, c, w) Q := by
  have hC := hD.1
  have hp := hC.1
  refine m_X11_reasonsAnew (Nat.le_of_ble_eq_true rfl) ?_
  show s_w _ _ _ 0 _ _ _ _
  refine w_op (pc' := 1) dX11_reasonsAnew_0 rfl ?_
  refine w_op (pc' := 2) dX11_reasonsAnew_1 rfl ?_
  refine w_op (pc' := 3) dX11_reasonsAnew_2 rfl ?_
  refine t_callV (t := T_HALL) (As := [_, _]) dX11_reasonsAnew_3 rfl rM_X11_needPipe (by decide) rfl rfl (by decide) (by decide) (Nat.le_of_ble_eq_true rfl) rfl (hp.1 _ rfl) (c_X11_needPipe hD (fun j hj hvj => ?_) (fun hx => ?_))
  · show s_w _ _ _ 6 _ _ _ _
    refine w_op (pc' := 7) dX11_reasonsAnew_6 rfl ?_
    refine w_op (pc' := 8) dX11_reasonsAnew_7 rfl ?_
    refine t_getG0 (G := g_h_WORKS) dX11_reasonsAnew_8 rfl rfl (by decide) rfl (fun _ => rfl) (hp.1 _ rfl) ?_
    refine w_op (pc' := 12) dX11_reasonsAnew_11 rfl ?_
    refine w_op (pc' := 13) dX11_reasonsAnew_12 rfl ?_
    refine t_callV (t := T_WORKS) (As := [_, _]) dX11_reasonsAnew_13 rfl rM_X10_reasonsAlone (by decide) rfl rfl (by decide) (by decide) (Nat.le_of_ble_eq_true rfl) rfl (hp.1 _ rfl) (c_X10_reasonsAlone hD ?_)
    show s_w _ _ _ 16 _ _ _ _
    exact w_ireturn dX11_reasonsAnew_16 ⟨rfl, k j hj⟩
  · exact ⟨rfl, rfl, kx hx⟩
set_option maxRecDepth 100000 in
set_option maxHeartbeats 4000000 in
theorem c_X11_isOpen {X : e_XT} {d : Nat} {p : e_Sp} {I : e_I} {J : e_Jt} {c : Nat × Nat} {w : e_Rw1} {Q : e_Rt → e_SS → Prop} {nk nr : Nat} (hD : s_D p I nk nr) {x y : Int32} (hb : ∀ j, I f_p_isOpened j = 0 ∨ I f_p_isOpened j = 1) (k : ∀ j, s_pat p I nr x y = some j → Q (.inl (some (.int (I f_p_isOpened j)))) (p, I, J, c, w)) (kx : s_pat p I nr x y = none → Q (.inr 2) (p, I, J, (c.1 + 1, c.2 + 6), w)) : s_c X (d + 5) 169 [.ref (p.1 T_HALL 0), .int x, .int y] (p, I, J, c, w) Q := by
  have hC := hD.1
  have hp := hC.1
  refine m_X11_isOpen (Nat.le_of_ble_eq_true rfl) ?_
  show s_w _ _ _ 0 _ _ _ _
  refine w_op (pc' := 1) dX11_isOpen_0 rfl ?_
  refine w_op (pc' := 2) dX11_isOpen_1 rfl ?_
  refine w_op (pc' := 3) dX11_isOpen_2 rfl ?_
  refine t_callV (t := T_HALL) (As := [_, _]) dX11_isOpen_3 rfl rM_X11_needPipe (by decide) rfl rfl (by decide) (by decide) (Nat.le_of_ble_eq_true rfl) rfl (hp.1 _ rfl) (c_X11_needPipe hD (fun j hj hvj => ?_) (fun hx => ?_))
  · show s_w _ _ _ 6 _ _ _ _
    refine t_getI (F := f_p_isOpened) dX11_isOpen_6 rfl rfl (by decide) rfl ⟨rfl, fun _ => rfl⟩ (by assumption) ?_
    exact w_ireturn dX11_isOpen_9 ⟨s_rcb (hb j), k j hj⟩
  · exact ⟨rfl, rfl, kx hx⟩
set_option maxRecDepth 100000 in
set_option maxHeartbeats 4000000 in
theorem c_X11_speaks {X : e_XT} {d : Nat} {p : e_Sp} {I : e_I} {J : e_Jt} {c : Nat × Nat} {w : e_Rw1} {Q : e_Rt → e_SS → Prop} {nk nr : Nat} (hD : s_D p I nk nr) {x y : Int32} (hb : ∀ j, I f_p_isSpeaking j = 0 ∨ I f_p_isSpeaking j = 1) (k : ∀ j, s_pat p I nr x y = some j → Q (.inl (some (.int (I f_p_isSpeaking j)))) (p, I, J, c, w)) (kx : s_pat p I nr x y = none → Q (.inr 2) (p, I, J, (c.1 + 1, c.2 + 6), w)) : s_c X (d + 5) 170 [.ref (p.1 T_HALL 0), .int x, .int y] (p, I, J, c, w) Q := by
  have hC := hD.1
  have hp := hC.1
  refine m_X11_speaks (Nat.le_of_ble_eq_true rfl) ?_
  show s_w _ _ _ 0 _ _ _ _
  refine w_op (pc' := 1) dX11_speaks_0 rfl ?_
  refine w_op (pc' := 2) dX11_speaks_1 rfl ?_
  refine w_op (pc' := 3) dX11_speaks_2 rfl ?_
  refine t_callV (t := T_HALL) (As := [_, _]) dX11_speaks_3 rfl rM_X11_needPipe (by decide) rfl rfl (by decide) (by decide) (Nat.le_of_ble_eq_true rfl) rfl (hp.1 _ rfl) (c_X11_needPipe hD (fun j hj hvj => ?_) (fun hx => ?_))
  · show s_w _ _ _ 6 _ _ _ _
    refine t_getI (F := f_p_isSpeaking) dX11_speaks_6 rfl rfl (by decide) rfl ⟨rfl, fun _ => rfl⟩ (by assumption) ?_
    exact w_ireturn dX11_speaks_9 ⟨s_rcb (hb j), k j hj⟩
  · exact ⟨rfl, rfl, kx hx⟩
set_option maxRecDepth 100000 in
set_option maxHeartbeats 4000000 in
theorem c_X11_begun {X : e_XT} {d : Nat} {p : e_Sp} {I : e_I} {J : e_Jt} {c : Nat × Nat} {w : e_Rw1} {Q : e_Rt → e_SS → Prop} {nk nr : Nat} (hD : s_D p I nk nr) {x y : Int32} (k : ∀ j, s_pat p I nr x y = some j → Q (.inl (some (.int (I f_p_begins j)))) (p, I, J, c, w)) (kx : s_pat p I nr x y = none → Q (.inr 2) (p, I, J, (c.1 + 1, c.2 + 6), w)) : s_c X (d + 5) 171 [.ref (p.1 T_HALL 0), .int x, .int y] (p, I, J, c, w) Q := by
  have hC := hD.1
  have hp := hC.1
  refine m_X11_begun (Nat.le_of_ble_eq_true rfl) ?_
  show s_w _ _ _ 0 _ _ _ _
  refine w_op (pc' := 1) dX11_begun_0 rfl ?_
  refine w_op (pc' := 2) dX11_begun_1 rfl ?_
  refine w_op (pc' := 3) dX11_begun_2 rfl ?_
  refine t_callV (t := T_HALL) (As := [_, _]) dX11_begun_3 rfl rM_X11_needPipe (by decide) rfl rfl (by decide) (by decide) (Nat.le_of_ble_eq_true rfl) rfl (hp.1 _ rfl) (c_X11_needPipe hD (fun j hj hvj => ?_) (fun hx => ?_))
  · show s_w _ _ _ 6 _ _ _ _
    refine t_getI (F := f_p_begins) dX11_begun_6 rfl rfl (by decide) rfl ⟨rfl, fun _ => rfl⟩ (by assumption) ?_
    exact w_ireturn dX11_begun_9 ⟨rfl, k j hj⟩
  · exact ⟨rfl, rfl, kx hx⟩
set_option maxRecDepth 100000 in
set_option maxHeartbeats 4000000 in
theorem c_X11_supply {X : e_XT} {d : Nat} {p : e_Sp} {I : e_I} {J : e_Jt} {c : Nat × Nat} {w : e_Rw1} {Q : e_Rt → e_SS → Prop} {nk nr : Nat} (hD : s_D p I nk nr) {a b : Nat} (hT : s_Tp p I c a b) {x y : Int32} (k : s_isdv x = true → 0 ≤ y ∧ y ≤ 999 → ∀ p' c', s_D p' (s_stl p nk nr (s_up I f_a_supplies x.toNatClampNeg y, J)).1 nk nr → s_xt p p' → s_Tp p' (s_stl p nk nr (s_up I f_a_supplies x.toNatClampNeg y, J)).1 c' a b → Q (.inl (some (.int (I f_a_supplies x.toNatClampNeg)))) (p', (s_stl p nk nr (s_up I f_a_supplies x.toNatClampNeg y, J)).1, (s_stl p nk nr (s_up I f_a_supplies x.toNatClampNeg y, J)).2, c', w)) (kx : s_isdv x = false → Q (.inr 2) (p, I, J, (c.1 + 1, c.2 + 6), w)) (kx0 : s_isdv x = true → ¬ (0 ≤ y ∧ y ≤ 999) → Q (.inr 0) (p, I, J, (c.1 + 1, c.2 + 6), w)) : s_c X (d + 7) 172 [.ref (p.1 T_HALL 0), .int x, .int y] (p, I, J, c, w) Q := by
  have hC := hD.1
  have hp := hC.1
  refine m_X11_supply (Nat.le_of_ble_eq_true rfl) ?_
  show s_w _ _ _ 0 _ _ _ _
  refine w_op (pc' := 1) dX11_supply_0 rfl ?_
  refine t_callS (As := [_]) dX11_supply_1 rfl rM_X11_needDivision (by decide) rfl rfl (by decide) (Nat.le_of_ble_eq_true rfl) (c_X11_needDivision (fun hd => ?_) (fun hd => ?_))
  · show s_w _ _ _ 4 _ _ _ _
    refine w_op (pc' := 5) dX11_supply_4 rfl ?_
    refine w_iconst (v := 0) dX11_supply_5 rfl ?_
    refine w_sipush (v := 999) dX11_supply_6 rfl ?_
    refine t_callS (As := [_, _, _]) dX11_supply_9 rfl rM_X11_needRange (by decide) rfl rfl (by decide) (Nat.le_of_ble_eq_true rfl) (c_X11_needRange (fun h0 => ?_) (fun h0 => ?_))
    · show s_w _ _ _ 12 _ _ _ _
      refine w_op (pc' := 13) dX11_supply_12 rfl ?_
      refine t_getG0 (G := g_h_WORKS) dX11_supply_13 rfl rfl (by decide) rfl (fun _ => rfl) (hp.1 _ rfl) ?_
      refine t_getG0 (G := g_w_supplies) dX11_supply_16 rfl rfl (by decide) rfl (fun _ => rfl) (hp.1 _ rfl) ?_
      refine w_op (pc' := 20) dX11_supply_19 rfl ?_
      refine t_iald0 (F := f_a_supplies) dX11_supply_20 rfl (by decide) rfl (hp.1 _ rfl) (s_dvx hd) (s_dvx hd).2.2 ?_
      refine w_op (pc' := 22) (ll' := [_, _, _, _]) dX11_supply_21 rfl ?_
      refine w_op (pc' := 23) dX11_supply_22 rfl ?_
      refine t_getG0 (G := g_h_WORKS) dX11_supply_23 rfl rfl (by decide) rfl (fun _ => rfl) (hp.1 _ rfl) ?_
      refine t_getG0 (G := g_w_supplies) dX11_supply_26 rfl rfl (by decide) rfl (fun _ => rfl) (hp.1 _ rfl) ?_
      refine w_op (pc' := 30) dX11_supply_29 rfl ?_
      refine w_op (pc' := 31) dX11_supply_30 rfl ?_
      refine t_iast0 (F := f_a_supplies) dX11_supply_31 rfl (by decide) (by decide) rfl (hp.1 _ rfl) (s_dvx hd) (s_dvx hd).2.2 ?_
      refine w_op (pc' := 33) dX11_supply_32 rfl ?_
      refine t_getG0 (G := g_h_WORKS) dX11_supply_33 rfl rfl (by decide) rfl (fun _ => rfl) (hp.1 _ rfl) ?_
      refine t_callV (t := T_WORKS) (As := []) dX11_supply_36 rfl rM_X10_settle (by decide) rfl rfl (by decide) (by decide) (Nat.le_of_ble_eq_true rfl) rfl (hp.1 _ rfl) (c_X10_settle (hD.eq (s_eqC.up (by decide))) (hT.eq (s_eqT.up (by decide))) (fun p1 c1 hD1 hx1 hT1 => ?_))
      show s_w _ _ _ 39 _ _ _ _
      rw [show p.1 T_HALL = p1.1 T_HALL from (hx1.1 T_HALL rfl).1.symm]
      have hp := hD1.1.1
      refine w_op (pc' := 40) dX11_supply_39 rfl ?_
      exact w_ireturn dX11_supply_40 ⟨rfl, k hd h0 p1 c1 hD1 hx1 hT1⟩
    · exact ⟨rfl, rfl, kx0 hd h0⟩
  · exact ⟨rfl, rfl, kx hd⟩
set_option maxRecDepth 100000 in
set_option maxHeartbeats 4000000 in
theorem c_X11_wind {X : e_XT} {d : Nat} {p : e_Sp} {I : e_I} {J : e_Jt} {c : Nat × Nat} {w : e_Rw1} {Q : e_Rt → e_SS → Prop} (hp : s_ok p) {x : Int32} (k : s_isdv x = true → Q (.inl (some (.int (I f_a_winds x.toNatClampNeg)))) (p, I, J, c, w)) (kx : s_isdv x = false → Q (.inr 2) (p, I, J, (c.1 + 1, c.2 + 6), w)) : s_c X (d + 2) 173 [.ref (p.1 T_HALL 0), .int x] (p, I, J, c, w) Q := by
  refine m_X11_wind (Nat.le_of_ble_eq_true rfl) ?_
  show s_w _ _ _ 0 _ _ _ _
  refine w_op (pc' := 1) dX11_wind_0 rfl ?_
  refine t_callS (As := [_]) dX11_wind_1 rfl rM_X11_needDivision (by decide) rfl rfl (by decide) (Nat.le_of_ble_eq_true rfl) (c_X11_needDivision (fun hd => ?_) (fun hd => ?_))
  · show s_w _ _ _ 4 _ _ _ _
    refine w_op (pc' := 5) dX11_wind_4 rfl ?_
    refine t_getG0 (G := g_h_WORKS) dX11_wind_5 rfl rfl (by decide) rfl (fun _ => rfl) (hp.1 _ rfl) ?_
    refine t_getG0 (G := g_w_winds) dX11_wind_8 rfl rfl (by decide) rfl (fun _ => rfl) (hp.1 _ rfl) ?_
    refine w_op (pc' := 12) dX11_wind_11 rfl ?_
    refine t_iald0 (F := f_a_winds) dX11_wind_12 rfl (by decide) rfl (hp.1 _ rfl) (s_dvx hd) (s_dvx hd).2.2 ?_
    exact w_ireturn dX11_wind_13 ⟨rfl, k hd⟩
  · exact ⟨rfl, rfl, kx hd⟩
set_option maxRecDepth 100000 in
set_option maxHeartbeats 4000000 in
theorem c_X11_box {X : e_XT} {d : Nat} {p : e_Sp} {I : e_I} {J : e_Jt} {c : Nat × Nat} {w : e_Rw1} {Q : e_Rt → e_SS → Prop} (hp : s_ok p) {x y : Int32} (k : 1 ≤ x ∧ x ≤ 2 → 0 ≤ y ∧ y ≤ 10 → Q (.inl (some (.int (I f_a_openings x.toNatClampNeg)))) (p, s_up I f_a_openings x.toNatClampNeg y, J, c, w)) (kx : ¬ (1 ≤ x ∧ x ≤ 2) → Q (.inr 0) (p, I, J, (c.1 + 1, c.2 + 6), w)) (kx0 : 1 ≤ x ∧ x ≤ 2 → ¬ (0 ≤ y ∧ y ≤ 10) → Q (.inr 0) (p, I, J, (c.1 + 1, c.2 + 6), w)) : s_c X (d + 1) 174 [.ref (p.1 T_HALL 0), .int x, .int y] (p, I, J, c, w) Q := by
  refine m_X11_box (Nat.le_of_ble_eq_true rfl) ?_
  show s_w _ _ _ 0 _ _ _ _
  refine w_op (pc' := 1) dX11_box_0 rfl ?_
  refine w_iconst (v := 1) dX11_box_1 rfl ?_
  refine w_iconst (v := 2) dX11_box_2 rfl ?_
  refine t_callS (As := [_, _, _]) dX11_box_3 rfl rM_X11_needRange (by decide) rfl rfl (by decide) (Nat.le_of_ble_eq_true rfl) (c_X11_needRange (fun h1 => ?_) (fun h1 => ?_))
  · show s_w _ _ _ 6 _ _ _ _
    refine w_op (pc' := 7) dX11_box_6 rfl ?_
    refine w_iconst (v := 0) dX11_box_7 rfl ?_
    refine w_bipush (v := 10) dX11_box_8 rfl ?_
    refine t_callS (As := [_, _, _]) dX11_box_10 rfl rM_X11_needRange (by decide) rfl rfl (by decide) (Nat.le_of_ble_eq_true rfl) (c_X11_needRange (fun h0 => ?_) (fun h0 => ?_))
    · show s_w _ _ _ 13 _ _ _ _
      refine w_op (pc' := 14) dX11_box_13 rfl ?_
      refine t_getG0 (G := g_h_WORKS) dX11_box_14 rfl rfl (by decide) rfl (fun _ => rfl) (hp.1 _ rfl) ?_
      refine t_getG0 (G := g_w_openings) dX11_box_17 rfl rfl (by decide) rfl (fun _ => rfl) (hp.1 _ rfl) ?_
      refine w_op (pc' := 21) dX11_box_20 rfl ?_
      refine t_iald0 (F := f_a_openings) dX11_box_21 rfl (by decide) rfl (hp.1 _ rfl) (s_ixr1 (N := 2) h1.1 h1.2 (by decide)) (s_ixr1 (N := 2) h1.1 h1.2 (by decide)).2.2 ?_
      refine w_op (pc' := 23) (ll' := [_, _, _, _]) dX11_box_22 rfl ?_
      refine w_op (pc' := 24) dX11_box_23 rfl ?_
      refine t_getG0 (G := g_h_WORKS) dX11_box_24 rfl rfl (by decide) rfl (fun _ => rfl) (hp.1 _ rfl) ?_
      refine t_getG0 (G := g_w_openings) dX11_box_27 rfl rfl (by decide) rfl (fun _ => rfl) (hp.1 _ rfl) ?_
      refine w_op (pc' := 31) dX11_box_30 rfl ?_
      refine w_op (pc' := 32) dX11_box_31 rfl ?_
      refine t_iast0 (F := f_a_openings) dX11_box_32 rfl (by decide) (by decide) rfl (hp.1 _ rfl) (s_ixr1 (N := 2) h1.1 h1.2 (by decide)) (s_ixr1 (N := 2) h1.1 h1.2 (by decide)).2.2 ?_
      refine w_op (pc' := 34) dX11_box_33 rfl ?_
      exact w_ireturn dX11_box_34 ⟨rfl, k h1 h0⟩
    · exact ⟨rfl, rfl, kx0 h1 h0⟩
  · exact ⟨rfl, rfl, kx h1⟩
set_option maxRecDepth 100000 in
set_option maxHeartbeats 4000000 in
theorem c_X11_tune {X : e_XT} {d : Nat} {p : e_Sp} {I : e_I} {J : e_Jt} {c : Nat × Nat} {w : e_Rw1} {Q : e_Rt → e_SS → Prop} {nk nr : Nat} (hD : s_D p I nk nr) {x y z : Int32} (k : ∀ j, s_pat p I nr x y = some j → -50 ≤ z ∧ z ≤ 50 → Q (.inl (some (.int (I f_p_tuning j)))) (p, s_up I f_p_tuning j z, J, c, w)) (kx : s_pat p I nr x y = none → Q (.inr 2) (p, I, J, (c.1 + 1, c.2 + 6), w)) (kx0 : ∀ j, s_pat p I nr x y = some j → ¬ (-50 ≤ z ∧ z ≤ 50) → Q (.inr 0) (p, I, J, (c.1 + 1, c.2 + 6), w)) : s_c X (d + 5) 176 [.ref (p.1 T_HALL 0), .int x, .int y, .int z] (p, I, J, c, w) Q := by
  have hC := hD.1
  have hp := hC.1
  refine m_X11_tune (Nat.le_of_ble_eq_true rfl) ?_
  show s_w _ _ _ 0 _ _ _ _
  refine w_op (pc' := 1) dX11_tune_0 rfl ?_
  refine w_op (pc' := 2) dX11_tune_1 rfl ?_
  refine w_op (pc' := 3) dX11_tune_2 rfl ?_
  refine t_callV (t := T_HALL) (As := [_, _]) dX11_tune_3 rfl rM_X11_needPipe (by decide) rfl rfl (by decide) (by decide) (Nat.le_of_ble_eq_true rfl) rfl (hp.1 _ rfl) (c_X11_needPipe hD (fun j hj hvj => ?_) (fun hx => ?_))
  · show s_w _ _ _ 6 _ _ _ _
    refine w_op (pc' := 8) (ll' := [_, _, _, _, _, _]) dX11_tune_6 rfl ?_
    refine w_op (pc' := 9) dX11_tune_8 rfl ?_
    refine w_bipush (v := (-50)) dX11_tune_9 rfl ?_
    refine w_bipush (v := 50) dX11_tune_11 rfl ?_
    refine t_callS (As := [_, _, _]) dX11_tune_13 rfl rM_X11_needRange (by decide) rfl rfl (by decide) (Nat.le_of_ble_eq_true rfl) (c_X11_needRange (fun h0 => ?_) (fun h0 => ?_))
    · show s_w _ _ _ 16 _ _ _ _
      refine w_op (pc' := 18) dX11_tune_16 rfl ?_
      refine t_getI (F := f_p_tuning) dX11_tune_18 rfl rfl (by decide) rfl ⟨rfl, fun _ => rfl⟩ (by assumption) ?_
      refine w_op (pc' := 23) (ll' := [_, _, _, _, _, _]) dX11_tune_21 rfl ?_
      refine w_op (pc' := 25) dX11_tune_23 rfl ?_
      refine w_op (pc' := 26) dX11_tune_25 rfl ?_
      refine t_putI (F := f_p_tuning) dX11_tune_26 rfl rfl (by decide) (by decide) rfl rfl (Or.inl rfl) (by assumption) ?_
      refine w_op (pc' := 31) dX11_tune_29 rfl ?_
      exact w_ireturn dX11_tune_31 ⟨rfl, k j hj h0⟩
    · exact ⟨rfl, rfl, kx0 j hj h0⟩
  · exact ⟨rfl, rfl, kx hx⟩
set_option maxRecDepth 100000 in
set_option maxHeartbeats 4000000 in
theorem c_X11_tuneTo {X : e_XT} {d : Nat} {p : e_Sp} {I : e_I} {J : e_Jt} {c : Nat × Nat} {w : e_Rw1} {Q : e_Rt → e_SS → Prop} {nk nr : Nat} (hD : s_D p I nk nr) {x y z t : Int32} (k : ∀ j, s_pat p I nr x y = some j → ∀ i, s_pat p I nr z t = some i → Q (.inl (some (.int (s_pit p (s_up I f_p_tuning j (s_max (-50) (s_min 50 (I f_p_tuning j + s_pit p I nr z t - s_pit p I nr x y)))) nr x y - s_pit p (s_up I f_p_tuning j (s_max (-50) (s_min 50 (I f_p_tuning j + s_pit p I nr z t - s_pit p I nr x y)))) nr z t)))) (p, (s_up I f_p_tuning j (s_max (-50) (s_min 50 (I f_p_tuning j + s_pit p I nr z t - s_pit p I nr x y)))), J, c, w)) (kx : s_pat p I nr x y = none → Q (.inr 2) (p, I, J, (c.1 + 1, c.2 + 6), w)) (kx2 : ∀ j, s_pat p I nr x y = some j → s_pat p I nr z t = none → Q (.inr 2) (p, I, J, (c.1 + 1, c.2 + 6), w)) : s_c X (d + 5) 177 [.ref (p.1 T_HALL 0), .int x, .int y, .int z, .int t] (p, I, J, c, w) Q := by
  have hC := hD.1
  have hp := hC.1
  refine m_X11_tuneTo (Nat.le_of_ble_eq_true rfl) ?_
  show s_w _ _ _ 0 _ _ _ _
  refine w_op (pc' := 1) dX11_tuneTo_0 rfl ?_
  refine w_op (pc' := 2) dX11_tuneTo_1 rfl ?_
  refine w_op (pc' := 3) dX11_tuneTo_2 rfl ?_
  refine t_callV (t := T_HALL) (As := [_, _]) dX11_tuneTo_3 rfl rM_X11_needPipe (by decide) rfl rfl (by decide) (by decide) (Nat.le_of_ble_eq_true rfl) rfl (hp.1 _ rfl) (c_X11_needPipe hD (fun j hj hvj => ?_) (fun hx => ?_))
  · show s_w _ _ _ 6 _ _ _ _
    refine w_op (pc' := 8) (ll' := [_, _, _, _, _, _, _]) dX11_tuneTo_6 rfl ?_
    refine w_op (pc' := 9) dX11_tuneTo_8 rfl ?_
    refine w_op (pc' := 10) dX11_tuneTo_9 rfl ?_
    refine w_op (pc' := 12) dX11_tuneTo_10 rfl ?_
    refine t_callV (t := T_HALL) (As := [_, _]) dX11_tuneTo_12 rfl rM_X11_needPipe (by decide) rfl rfl (by decide) (by decide) (Nat.le_of_ble_eq_true rfl) rfl (hp.1 _ rfl) (c_X11_needPipe hD (fun i hi hvi => ?_) (fun hx => ?_))
    · show s_w _ _ _ 15 _ _ _ _
      refine w_op (pc' := 16) dX11_tuneTo_15 rfl ?_
      refine w_op (pc' := 18) dX11_tuneTo_16 rfl ?_
      refine t_getI (F := f_p_tuning) dX11_tuneTo_18 rfl rfl (by decide) rfl ⟨rfl, fun _ => rfl⟩ (by assumption) ?_
      refine w_op (pc' := 22) dX11_tuneTo_21 rfl ?_
      refine t_getG0 (G := g_h_WORKS) dX11_tuneTo_22 rfl rfl (by decide) rfl (fun _ => rfl) (hp.1 _ rfl) ?_
      refine w_op (pc' := 26) dX11_tuneTo_25 rfl ?_
      refine w_op (pc' := 28) dX11_tuneTo_26 rfl ?_
      refine t_callV (t := T_WORKS) (As := [_, _]) dX11_tuneTo_28 rfl rM_X10_pitchOf (by decide) rfl rfl (by decide) (by decide) (Nat.le_of_ble_eq_true rfl) rfl (hp.1 _ rfl) (c_X10_pitchOf hD ?_)
      show s_w _ _ _ 31 _ _ _ _
      refine w_op (pc' := 32) dX11_tuneTo_31 rfl ?_
      refine w_op (pc' := 33) dX11_tuneTo_32 rfl ?_
      refine t_getG0 (G := g_h_WORKS) dX11_tuneTo_33 rfl rfl (by decide) rfl (fun _ => rfl) (hp.1 _ rfl) ?_
      refine w_op (pc' := 37) dX11_tuneTo_36 rfl ?_
      refine w_op (pc' := 38) dX11_tuneTo_37 rfl ?_
      refine t_callV (t := T_WORKS) (As := [_, _]) dX11_tuneTo_38 rfl rM_X10_pitchOf (by decide) rfl rfl (by decide) (by decide) (Nat.le_of_ble_eq_true rfl) rfl (hp.1 _ rfl) (c_X10_pitchOf hD ?_)
      show s_w _ _ _ 41 _ _ _ _
      refine w_op (pc' := 42) dX11_tuneTo_41 rfl ?_
      refine w_op (pc' := 44) (ll' := [_, _, _, _, _, _, _]) dX11_tuneTo_42 rfl ?_
      refine w_op (pc' := 46) dX11_tuneTo_44 rfl ?_
      refine w_bipush (v := (-50)) dX11_tuneTo_46 rfl ?_
      refine w_bipush (v := 50) dX11_tuneTo_48 rfl ?_
      refine w_op (pc' := 52) dX11_tuneTo_50 rfl ?_
      refine t_callS (As := [_, _]) dX11_tuneTo_52 rfl rM_J9_min_7cf53 (by decide) rfl rfl (by decide) (Nat.le_of_ble_eq_true rfl) (c_min ?_)
      show s_w _ _ _ 55 _ _ _ _
      refine t_callS (As := [_, _]) dX11_tuneTo_55 rfl rM_J9_max_7cf53 (by decide) rfl rfl (by decide) (Nat.le_of_ble_eq_true rfl) (c_max ?_)
      show s_w _ _ _ 58 _ _ _ _
      refine t_putI (F := f_p_tuning) dX11_tuneTo_58 rfl rfl (by decide) (by decide) rfl rfl (Or.inl rfl) (by assumption) ?_
      refine w_op (pc' := 62) dX11_tuneTo_61 rfl ?_
      refine t_getG0 (G := g_h_WORKS) dX11_tuneTo_62 rfl rfl (by decide) rfl (fun _ => rfl) (hp.1 _ rfl) ?_
      refine w_op (pc' := 66) dX11_tuneTo_65 rfl ?_
      refine w_op (pc' := 67) dX11_tuneTo_66 rfl ?_
      refine t_callV (t := T_WORKS) (As := [_, _]) dX11_tuneTo_67 rfl rM_X10_pitchOf (by decide) rfl rfl (by decide) (by decide) (Nat.le_of_ble_eq_true rfl) rfl (hp.1 _ rfl) (c_X10_pitchOf (hD.eq (s_eqC.up (by decide))) ?_)
      show s_w _ _ _ 70 _ _ _ _
      refine w_op (pc' := 71) dX11_tuneTo_70 rfl ?_
      refine t_getG0 (G := g_h_WORKS) dX11_tuneTo_71 rfl rfl (by decide) rfl (fun _ => rfl) (hp.1 _ rfl) ?_
      refine w_op (pc' := 75) dX11_tuneTo_74 rfl ?_
      refine w_op (pc' := 77) dX11_tuneTo_75 rfl ?_
      refine t_callV (t := T_WORKS) (As := [_, _]) dX11_tuneTo_77 rfl rM_X10_pitchOf (by decide) rfl rfl (by decide) (by decide) (Nat.le_of_ble_eq_true rfl) rfl (hp.1 _ rfl) (c_X10_pitchOf (hD.eq (s_eqC.up (by decide))) ?_)
      show s_w _ _ _ 80 _ _ _ _
      refine w_op (pc' := 81) dX11_tuneTo_80 rfl ?_
      exact w_ireturn dX11_tuneTo_81 ⟨rfl, k j hj i hi⟩
    · exact ⟨rfl, rfl, kx2 j hj hx⟩
  · exact ⟨rfl, rfl, kx hx⟩
set_option maxRecDepth 100000 in
set_option maxHeartbeats 4000000 in
theorem c_X11_pitch {X : e_XT} {d : Nat} {p : e_Sp} {I : e_I} {J : e_Jt} {c : Nat × Nat} {w : e_Rw1} {Q : e_Rt → e_SS → Prop} {nk nr : Nat} (hD : s_D p I nk nr) {x y : Int32} (k : ∀ j, s_pat p I nr x y = some j → Q (.inl (some (.int (s_pit p I nr x y)))) (p, I, J, c, w)) (kx : s_pat p I nr x y = none → Q (.inr 2) (p, I, J, (c.1 + 1, c.2 + 6), w)) : s_c X (d + 5) 179 [.ref (p.1 T_HALL 0), .int x, .int y] (p, I, J, c, w) Q := by
  have hC := hD.1
  have hp := hC.1
  refine m_X11_pitch (Nat.le_of_ble_eq_true rfl) ?_
  show s_w _ _ _ 0 _ _ _ _
  refine w_op (pc' := 1) dX11_pitch_0 rfl ?_
  refine w_op (pc' := 2) dX11_pitch_1 rfl ?_
  refine w_op (pc' := 3) dX11_pitch_2 rfl ?_
  refine t_callV (t := T_HALL) (As := [_, _]) dX11_pitch_3 rfl rM_X11_needPipe (by decide) rfl rfl (by decide) (by decide) (Nat.le_of_ble_eq_true rfl) rfl (hp.1 _ rfl) (c_X11_needPipe hD (fun j hj hvj => ?_) (fun hx => ?_))
  · show s_w _ _ _ 6 _ _ _ _
    refine w_op (pc' := 7) dX11_pitch_6 rfl ?_
    refine w_op (pc' := 8) dX11_pitch_7 rfl ?_
    refine t_getG0 (G := g_h_WORKS) dX11_pitch_8 rfl rfl (by decide) rfl (fun _ => rfl) (hp.1 _ rfl) ?_
    refine w_op (pc' := 12) dX11_pitch_11 rfl ?_
    refine w_op (pc' := 13) dX11_pitch_12 rfl ?_
    refine t_callV (t := T_WORKS) (As := [_, _]) dX11_pitch_13 rfl rM_X10_pitchOf (by decide) rfl rfl (by decide) (by decide) (Nat.le_of_ble_eq_true rfl) rfl (hp.1 _ rfl) (c_X10_pitchOf hD ?_)
    show s_w _ _ _ 16 _ _ _ _
    exact w_ireturn dX11_pitch_16 ⟨rfl, k j hj⟩
  · exact ⟨rfl, rfl, kx hx⟩
set_option maxRecDepth 100000 in
set_option maxHeartbeats 4000000 in
theorem c_X11_fault {X : e_XT} {d : Nat} {p : e_Sp} {I : e_I} {J : e_Jt} {c : Nat × Nat} {w : e_Rw1} {Q : e_Rt → e_SS → Prop} {nk nr : Nat} (hD : s_D p I nk nr) {a b : Nat} (hT : s_Tp p I c a b) {x y z : Int32} (hb : ∀ j, vp_nar .char (I f_p_fault j) = I f_p_fault j) (k : ∀ j, s_pat p I nr x y = some j → (z = 99 ∨ z = 100 ∨ z = 45) → ∀ p' c', s_D p' (s_stl p nk nr (s_up I f_p_fault j z, J)).1 nk nr → s_xt p p' → s_Tp p' (s_stl p nk nr (s_up I f_p_fault j z, J)).1 c' a b → Q (.inl (some (.int (I f_p_fault j)))) (p', (s_stl p nk nr (s_up I f_p_fault j z, J)).1, (s_stl p nk nr (s_up I f_p_fault j z, J)).2, c', w)) (kx : s_pat p I nr x y = none → Q (.inr 2) (p, I, J, (c.1 + 1, c.2 + 6), w)) (kx0 : ∀ j, s_pat p I nr x y = some j → ¬ (z = 99 ∨ z = 100 ∨ z = 45) → Q (.inr 0) (p, I, J, (c.1 + 1, c.2 + 6), w)) : s_c X (d + 7) 180 [.ref (p.1 T_HALL 0), .int x, .int y, .int z] (p, I, J, c, w) Q := by
  have hC := hD.1
  have hp := hC.1
  refine m_X11_fault (Nat.le_of_ble_eq_true rfl) ?_
  show s_w _ _ _ 0 _ _ _ _
  refine w_op (pc' := 1) dX11_fault_0 rfl ?_
  refine w_op (pc' := 2) dX11_fault_1 rfl ?_
  refine w_op (pc' := 3) dX11_fault_2 rfl ?_
  refine t_callV (t := T_HALL) (As := [_, _]) dX11_fault_3 rfl rM_X11_needPipe (by decide) rfl rfl (by decide) (by decide) (Nat.le_of_ble_eq_true rfl) rfl (hp.1 _ rfl) (c_X11_needPipe hD (fun j hj hvj => ?_) (fun hx => ?_))
  · show s_w _ _ _ 6 _ _ _ _
    refine w_op (pc' := 8) (ll' := [_, _, _, _, _, _]) dX11_fault_6 rfl ?_
    refine w_op (pc' := 9) dX11_fault_8 rfl ?_
    refine w_bipush (v := 99) dX11_fault_9 rfl ?_
    refine w_icmpeq (t := 37) dX11_fault_11 (by decide) (fun c11 => ?_) (fun c11 => ?_)
    · have hz : z = 99 ∨ z = 100 ∨ z = 45 := by first | exact Or.inl c11 | exact Or.inr (Or.inl c17) | exact Or.inr (Or.inr c23)
      have hzc : vp_nar .char z = z := by rcases hz with z1 | z1 | z1 <;> (rw [z1]; decide +kernel)
      refine w_op (pc' := 39) dX11_fault_37 rfl ?_
      refine t_getI (F := f_p_fault) dX11_fault_39 rfl rfl (by decide) rfl ⟨rfl, fun _ => rfl⟩ (by assumption) ?_
      refine w_op (pc' := 44) (ll' := [_, _, _, _, _, _]) dX11_fault_42 rfl ?_
      refine w_op (pc' := 46) dX11_fault_44 rfl ?_
      refine w_op (pc' := 47) dX11_fault_46 rfl ?_
      refine t_putI (F := f_p_fault) dX11_fault_47 rfl rfl (by decide) (by decide) rfl (s_ckc hzc) (Or.inl rfl) (by assumption) ?_
      refine w_op (pc' := 51) dX11_fault_50 rfl ?_
      refine t_getG0 (G := g_h_WORKS) dX11_fault_51 rfl rfl (by decide) rfl (fun _ => rfl) (hp.1 _ rfl) ?_
      refine t_callV (t := T_WORKS) (As := []) dX11_fault_54 rfl rM_X10_settle (by decide) rfl rfl (by decide) (by decide) (Nat.le_of_ble_eq_true rfl) rfl (hp.1 _ rfl) (c_X10_settle (hD.eq (s_eqC.up (by decide))) (hT.eq (s_eqT.up (by decide))) (fun p1 c1 hD1 hx1 hT1 => ?_))
      show s_w _ _ _ 57 _ _ _ _
      rw [show p.1 T_HALL = p1.1 T_HALL from (hx1.1 T_HALL rfl).1.symm]
      have hp := hD1.1.1
      refine w_op (pc' := 59) dX11_fault_57 rfl ?_
      exact w_ireturn dX11_fault_59 ⟨s_rcc (hb j), k j hj hz p1 c1 hD1 hx1 hT1⟩
    · refine w_op (pc' := 15) dX11_fault_14 rfl ?_
      refine w_bipush (v := 100) dX11_fault_15 rfl ?_
      refine w_icmpeq (t := 37) dX11_fault_17 (by decide) (fun c17 => ?_) (fun c17 => ?_)
      · have hz : z = 99 ∨ z = 100 ∨ z = 45 := by first | exact Or.inl c11 | exact Or.inr (Or.inl c17) | exact Or.inr (Or.inr c23)
        have hzc : vp_nar .char z = z := by rcases hz with z1 | z1 | z1 <;> (rw [z1]; decide +kernel)
        refine w_op (pc' := 39) dX11_fault_37 rfl ?_
        refine t_getI (F := f_p_fault) dX11_fault_39 rfl rfl (by decide) rfl ⟨rfl, fun _ => rfl⟩ (by assumption) ?_
        refine w_op (pc' := 44) (ll' := [_, _, _, _, _, _]) dX11_fault_42 rfl ?_
        refine w_op (pc' := 46) dX11_fault_44 rfl ?_
        refine w_op (pc' := 47) dX11_fault_46 rfl ?_
        refine t_putI (F := f_p_fault) dX11_fault_47 rfl rfl (by decide) (by decide) rfl (s_ckc hzc) (Or.inl rfl) (by assumption) ?_
        refine w_op (pc' := 51) dX11_fault_50 rfl ?_
        refine t_getG0 (G := g_h_WORKS) dX11_fault_51 rfl rfl (by decide) rfl (fun _ => rfl) (hp.1 _ rfl) ?_
        refine t_callV (t := T_WORKS) (As := []) dX11_fault_54 rfl rM_X10_settle (by decide) rfl rfl (by decide) (by decide) (Nat.le_of_ble_eq_true rfl) rfl (hp.1 _ rfl) (c_X10_settle (hD.eq (s_eqC.up (by decide))) (hT.eq (s_eqT.up (by decide))) (fun p1 c1 hD1 hx1 hT1 => ?_))
        show s_w _ _ _ 57 _ _ _ _
        rw [show p.1 T_HALL = p1.1 T_HALL from (hx1.1 T_HALL rfl).1.symm]
        have hp := hD1.1.1
        refine w_op (pc' := 59) dX11_fault_57 rfl ?_
        exact w_ireturn dX11_fault_59 ⟨s_rcc (hb j), k j hj hz p1 c1 hD1 hx1 hT1⟩
      · refine w_op (pc' := 21) dX11_fault_20 rfl ?_
        refine w_bipush (v := 45) dX11_fault_21 rfl ?_
        refine w_icmpeq (t := 37) dX11_fault_23 (by decide) (fun c23 => ?_) (fun c23 => ?_)
        · have hz : z = 99 ∨ z = 100 ∨ z = 45 := by first | exact Or.inl c11 | exact Or.inr (Or.inl c17) | exact Or.inr (Or.inr c23)
          have hzc : vp_nar .char z = z := by rcases hz with z1 | z1 | z1 <;> (rw [z1]; decide +kernel)
          refine w_op (pc' := 39) dX11_fault_37 rfl ?_
          refine t_getI (F := f_p_fault) dX11_fault_39 rfl rfl (by decide) rfl ⟨rfl, fun _ => rfl⟩ (by assumption) ?_
          refine w_op (pc' := 44) (ll' := [_, _, _, _, _, _]) dX11_fault_42 rfl ?_
          refine w_op (pc' := 46) dX11_fault_44 rfl ?_
          refine w_op (pc' := 47) dX11_fault_46 rfl ?_
          refine t_putI (F := f_p_fault) dX11_fault_47 rfl rfl (by decide) (by decide) rfl (s_ckc hzc) (Or.inl rfl) (by assumption) ?_
          refine w_op (pc' := 51) dX11_fault_50 rfl ?_
          refine t_getG0 (G := g_h_WORKS) dX11_fault_51 rfl rfl (by decide) rfl (fun _ => rfl) (hp.1 _ rfl) ?_
          refine t_callV (t := T_WORKS) (As := []) dX11_fault_54 rfl rM_X10_settle (by decide) rfl rfl (by decide) (by decide) (Nat.le_of_ble_eq_true rfl) rfl (hp.1 _ rfl) (c_X10_settle (hD.eq (s_eqC.up (by decide))) (hT.eq (s_eqT.up (by decide))) (fun p1 c1 hD1 hx1 hT1 => ?_))
          show s_w _ _ _ 57 _ _ _ _
          rw [show p.1 T_HALL = p1.1 T_HALL from (hx1.1 T_HALL rfl).1.symm]
          have hp := hD1.1.1
          refine w_op (pc' := 59) dX11_fault_57 rfl ?_
          exact w_ireturn dX11_fault_59 ⟨s_rcc (hb j), k j hj hz p1 c1 hD1 hx1 hT1⟩
        · exact w_thr0 (is := 258) (sp := 1533) (tx := "no such fault") (by decide) rfl rfl (by simp) dX11_fault_26 dX11_fault_29 (Or.inr ⟨dX11_fault_30, dX11_fault_33, dX11_fault_36⟩) ⟨rfl, kx0 j hj (fun z1 => z1.elim c11 (fun z2 => z2.elim c17 c23))⟩
  · exact ⟨rfl, rfl, kx hx⟩
set_option maxRecDepth 100000 in
set_option maxHeartbeats 4000000 in
theorem c_X11_hunt {X : e_XT} {d : Nat} {p : e_Sp} {I : e_I} {J : e_Jt} {c : Nat × Nat} {w : e_Rw1} {Q : e_Rt → e_SS → Prop} {nk nr : Nat} (hD : s_D p I nk nr) {x : Int32} (h1 : ∀ r, r < nr → 1 ≤ p.2.2.1 T_PARR r) (k : ∀ r, r < nr → x = nI r → Q (.inl (some (.int (s_tri p I r)))) (p, I, J, c, w)) (kx : (x < 0 ∨ nI nr ≤ x) → Q (.inr 2) (p, I, J, (c.1 + 1, c.2 + 6), w)) : s_c X (d + 10) 181 [.ref (p.1 T_HALL 0), .int x] (p, I, J, c, w) Q := by
  have hC := hD.1
  have hp := hC.1
  refine m_X11_hunt (Nat.le_of_ble_eq_true rfl) ?_
  show s_w _ _ _ 0 _ _ _ _
  refine w_op (pc' := 1) dX11_hunt_0 rfl ?_
  refine w_op (pc' := 2) dX11_hunt_1 rfl ?_
  refine t_callV (t := T_HALL) (As := [_]) dX11_hunt_2 rfl rM_X11_needRank (by decide) rfl rfl (by decide) (by decide) (Nat.le_of_ble_eq_true rfl) rfl (hp.1 _ rfl) (c_X11_needRank hD (fun r hr hx hR => ?_) (fun hx => ?_))
  · show s_w _ _ _ 5 _ _ _ _
    have hv := hR.1
    refine t_callV (t := T_RANK) (As := []) dX11_hunt_5 rfl rM_X7_trials (by decide) rfl rfl (by decide) (by decide) (Nat.le_of_ble_eq_true rfl) rfl (by assumption) (c_X7_trials hR (h1 r hr) ?_)
    show s_w _ _ _ 8 _ _ _ _
    exact w_ireturn dX11_hunt_8 ⟨rfl, k r hr hx⟩
  · exact ⟨rfl, rfl, kx hx⟩
