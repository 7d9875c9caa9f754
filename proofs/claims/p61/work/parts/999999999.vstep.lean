/-! 999999999: reversibles, the next piston -/
theorem v_btb {i j : Nat} (hi : i < 41) (hj : j < 41) : s_bt (s_b1 j) i = decide (i = j) := by
  have key : ∀ i j : Fin 41, s_bt (s_b1 j.val) i.val = decide (i.val = j.val) := by decide +kernel
  exact key ⟨i, hi⟩ ⟨j, hj⟩
theorem v_bt0 {i : Nat} (hi : i < 41) : s_bt 0 i = false := by
  have key : ∀ i : Fin 41, s_bt 0 i.val = false := by decide +kernel
  exact key ⟨i, hi⟩
theorem v_mtrev {I : e_I} {nk j : Nat} (hnk : nk ≤ 40) (hj : j < nk) (hb : I f_k_isOut j = 0 ∨ I f_k_isOut j = 1) : s_mt nk (s_b1 j) (s_rvZ I j) I = if I f_k_isLocked j = 0 then (s_up I f_k_isOut j (bI (decide (I f_k_isOut j = 0))), 1) else (I, 0) := by
  have hz : s_bt (s_rvZ I j) j = decide (I f_k_isOut j = 0) := by
    unfold s_rvZ
    by_cases c : I f_k_isOut j = 0
    · rw [if_pos c, v_btb (by omega) (by omega), decide_eq_true c, decide_eq_true rfl]
    · rw [if_neg c, v_bt0 (by omega), decide_eq_false c]
  have hne : ¬ I f_k_isOut j = bI (decide (I f_k_isOut j = 0)) := by
    rcases hb with w | w <;> rw [w] <;> decide
  have key : ∀ n, n ≤ nk → s_run (s_mtK (s_b1 j) (s_rvZ I j)) 0 n (I, 0) = if j < n ∧ I f_k_isLocked j = 0 then (s_up I f_k_isOut j (bI (decide (I f_k_isOut j = 0))), 1) else (I, 0) := by
    intro n
    induction n with
    | zero => intro _; rw [if_neg (fun w => Nat.not_lt_zero _ w.1)]; rfl
    | succ n ih =>
      intro hn
      rw [s_run_l, Nat.zero_add, ih (by omega)]
      unfold s_mtK
      rw [v_btb (i := n) (by omega) (by omega)]
      by_cases c : n = j
      · subst c
        rw [if_neg (show ¬ (n < n ∧ I f_k_isLocked n = 0) from fun w => Nat.lt_irrefl _ w.1), decide_eq_true rfl, hz]
        by_cases c2 : I f_k_isLocked n = 0
        · rw [if_pos ⟨rfl, c2, hne⟩, if_pos ⟨Nat.lt_succ_self _, c2⟩]; rfl
        · rw [if_neg (fun w => c2 w.2.1), if_neg (fun w => c2 w.2)]
      · rw [decide_eq_false c]
        by_cases c2 : j < n ∧ I f_k_isLocked j = 0
        · rw [if_pos c2, if_pos (show j < n + 1 ∧ I f_k_isLocked j = 0 from ⟨by omega, c2.2⟩)]
          exact if_neg (fun w => absurd w.1 (by decide))
        · rw [if_neg c2, if_neg (show ¬ (j < n + 1 ∧ I f_k_isLocked j = 0) from fun w => c2 ⟨by omega, w.2⟩)]
          exact if_neg (fun w => absurd w.1 (by decide))
  show s_run (s_mtK (s_b1 j) (s_rvZ I j)) 0 nk (I, 0) = _
  rw [key nk (Nat.le_refl _)]
  by_cases c : I f_k_isLocked j = 0
  · rw [if_pos ⟨hj, c⟩, if_pos c]
  · rw [if_neg (fun w => c w.2), if_neg c]
theorem a_pushReversible {p : e_Sp} {nk nr np n s m L j : Nat} {t : Nat → Nat} {I I' : e_I} {J J' : e_Jt} (hj : j < nk) (h : v_Sim p nk nr np n t s m L (I, J) (I', J')) (hL : L ≤ 2000) (hn : n + np ≤ 1000000) : (∃ n' t', n' ≤ n + np ∧ (¬ I' f_m_recording 0 = 114 → n' = n) ∧ v_Sim p nk nr np n' t' s m L (s_stl p nk nr ((s_mt nk (s_b1 j) (s_rvZ I j) I).1, J)) (q_st nk nr np (s_up I' f_mk_isDrawn j (bI (decide (bI (decide (I' f_mk_isLocked j = 0)) ≠ I' f_mk_isDrawn j))), J'))) ∧ bI (decide (0 < (s_mt nk (s_b1 j) (s_rvZ I j) I).2)) = bI (decide (I' f_mk_isLocked j = 0)) := by
  have hK := h.1.1.1.2.1
  have h5 := h.2.2.2.2.2.1
  have hb : I f_k_isOut j = 0 ∨ I f_k_isOut j = 1 := h5.1 f_k_isOut (by decide) j
  have ho : I f_k_isOut j = I' f_mk_isDrawn j := hK.out j hj
  have hl : I f_k_isLocked j = I' f_mk_isLocked j := h.2.1.2.2.2.2.2.1 j hj
  rw [v_mtrev hK.1.2 hj hb, hl]
  by_cases c : I' f_mk_isLocked j = 0
  · rw [if_pos c, decide_eq_true c]
    have ev : bI (decide (I f_k_isOut j = 0)) = bI (decide (bI true ≠ I' f_mk_isDrawn j)) := by
      rw [ho]
      rw [ho] at hb
      rcases hb with w | w <;> rw [w] <;> decide
    refine ⟨?_, by show bI (decide ((0 : Int32) < 1)) = bI true; decide⟩
    rw [ev]
    exact a_draw (bI_or _) h hL hn
  · rw [if_neg c, decide_eq_false c]
    have ev : bI (decide (bI false ≠ I' f_mk_isDrawn j)) = I f_k_isOut j := by
      rw [ho]
      rw [ho] at hb
      rcases hb with w | w <;> rw [w] <;> decide
    refine ⟨?_, by show bI (decide ((0 : Int32) < 0)) = bI false; decide⟩
    have := a_draw (j := j) (y := I f_k_isOut j) hb h hL hn
    rw [show s_up I f_k_isOut j (I f_k_isOut j) = I from v_upid rfl] at this
    rw [ev]
    exact this
theorem v_nxt {x : Nat} (hx : x < 8) : s_r8 (nI x + 1) = nI ((x + 1) % 8) := by
  have key : ∀ x : Fin 8, s_r8 (nI x.val + 1) = nI ((x.val + 1) % 8) := by decide +kernel
  exact key ⟨x, hx⟩
/-- the next piston: it is set -/
theorem a_step1 {p : e_Sp} {nk nr np n s m L : Nat} {t : Nat → Nat} {I I' : e_I} {J J' : e_Jt} {y z : Int64} (h : v_Sim p nk nr np n t s m L (I, J) (I', J')) (hL : L ≤ 2000) (hn : n + np ≤ 1000000) : (∃ n' t', n' ≤ n + np ∧ (¬ I' f_m_recording 0 = 114 → n' = n) ∧ v_Sim p nk nr np n' t' s m L (s_up (s_stl p nk nr ((s_mt nk y z I).1, J)).1 f_next 0 (s_nxt (s_stl p nk nr ((s_mt nk y z I).1, J)).1), (s_stl p nk nr ((s_mt nk y z I).1, J)).2) (q_st nk nr np (s_up (q_mt nk y z I').1 f_m_next 0 (q_nx (q_mt nk y z I').1), J'))) ∧ s_nxt (s_stl p nk nr ((s_mt nk y z I).1, J)).1 = q_nx (q_mt nk y z I').1 := by
  obtain ⟨⟨hR, hF, hX, hK⟩, z1, z2, z3, z4, z5, z6⟩ := h
  have hC := v_Cw.of hX z1.2.1
  dsimp only at z1 z2 z3 z4 z5 z6 hR hF hX hK hC
  obtain ⟨m1, e, e', m4, m5, m6⟩ := v_mt (y := y) (z := z) hR.1.2.1.out z1.2.2.2.2.2.1 (z5.1 f_k_isOut (by decide)) (z5.2.1 f_mk_isDrawn (by decide))
  generalize (s_mt nk y z I).1 = A at *
  generalize (q_mt nk y z I').1 = B at *
  obtain ⟨x, hx, n1, n2⟩ := z2.2.2.1
  have e2 : s_eqN [f_m_next] B (s_up B f_m_next 0 (q_nx B)) := s_eqN.up (by decide)
  have eB : s_eqN [f_mk_isDrawn, f_m_next] I' (s_up B f_m_next 0 (q_nx B)) := (e'.mono (by decide)).trans (e2.mono (by decide))
  have hqn : q_nx B = nI ((x + 1) % 8) := by
    show s_r8 (B f_m_next 0 + 1) = _
    rw [e' _ (by decide), n2, v_nxt hx]
  have hR1 : v_Rel p nk nr np n t s m A (s_up B f_m_next 0 (q_nx B)) J J' := hR.rkn e eB (by decide) (by decide) (hR.1.2.1.out' (A := A) (B := B) e e' m1 |>.N (s_eqN.rfl' (T := [])) e2 (by decide) (by decide)) (hR.1.2.2.N e eB (by decide) (by decide)) (hR.2.2.1.2.1.N e eB (by decide) (by decide))
  have hZ0 : v_Zs nk np s m n L (I, J) (I', J') := ⟨z1, z2, z3, z4, z5, z6⟩
  have hh : v_Rh np s m n (s_up B f_m_next 0 (q_nx B)) := (hZ0.rh hC hL hn).N eB (by decide)
  obtain ⟨n', t', k1, k2, k3⟩ := v_settleB hR1 hh (hK.N e eB (by decide) (by decide))
  have eS : s_eqN s_tST A (s_stl p nk nr (A, J)).1 := s_eqN.stl (a := (A, J))
  have eQ := (q_st_e (nk := nk) (nr := nr) (np := np) (a := (s_up B f_m_next 0 (q_nx B), J'))).1
  have hbS := v_boStl (p := p) (nk := nk) (nr := nr) (a := (A, J)) (z5.out e e' m5 m6).1
  have z5' := (z5.out e e' m5 m6).frame (s_eqN.rfl' (T := [])) e2 (by decide) (by decide)
  have z5s := v_Z5.settle (p := p) (nk := nk) (nr := nr) (nk' := nk) (nr' := nr) (np := np) (a := (A, J)) (b := (s_up B f_m_next 0 (q_nx B), J')) z5'
  have hjS : v_eqJ [j_allEnds] J (s_stl p nk nr (A, J)).2 := v_stlJ (a := (A, J))
  have hjQ : v_eqJ [j_m_allBegun, j_m_ended] J' (q_st nk nr np (s_up B f_m_next 0 (q_nx B), J')).2 := v_qstJ (b := (s_up B f_m_next 0 (q_nx B), J'))
  have hlQ := v_qsl (nk := nk) (nr := nr) (np := np) (b := (s_up B f_m_next 0 (q_nx B), J'))
  have hnx : (q_st nk nr np (s_up B f_m_next 0 (q_nx B), J')).1 f_m_next 0 = q_nx B := by
    rw [eQ _ (by decide)]
    show s_up B f_m_next 0 (q_nx B) f_m_next 0 = _
    exact s_up_s
  generalize s_stl p nk nr (A, J) = X at *
  generalize q_st nk nr np (s_up B f_m_next 0 (q_nx B), J') = Y at *
  dsimp only at eQ hlQ
  have hsn : s_nxt X.1 = nI ((x + 1) % 8) := by
    show s_r8 (X.1 f_next 0 + 1) = _
    rw [eS _ (by decide), e _ (by decide), n1, v_nxt hx]
  refine ⟨⟨n', t', k1, fun w => k2 (by rw [eB _ (by decide)]; exact w), ?_⟩, by rw [hsn, hqn]⟩
  have eN : s_eqN [f_next] X.1 (s_up X.1 f_next 0 (s_nxt X.1)) := s_eqN.up (by decide)
  have eX : s_eqN (f_next :: f_k_isOut :: s_tST) I (s_up X.1 f_next 0 (s_nxt X.1)) := ((e.mono (by decide)).trans (eS.mono (by decide))).trans (eN.mono (by decide))
  have eY : s_eqN (f_m_next :: f_mk_isDrawn :: f_l_size :: q_sT) I' Y.1 := (eB.mono (by decide)).trans (eQ.mono (by decide))
  have r0 : s_eqN [] Y.1 Y.1 := s_eqN.rfl'
  refine ⟨k3.N eN r0 (by decide) (by decide) rfl rfl rfl, z1.N eX eY (by decide) (by decide), ⟨?_, ?_, ⟨(x + 1) % 8, by omega, ?_, ?_⟩, ?_, ?_⟩, (z3.n (fun w => k2 (by rw [eB _ (by decide)]; exact w))).N eX eY (by decide) (by decide), z4.N eX eY (by decide) (by decide), z5s.frame eN r0 (by decide) (by decide), z6.N eX eY (by decide) (by decide) (fun l hl => ?_) hjS hjQ⟩
  · dsimp only; rw [eX _ (by decide), eY _ (by decide)]; exact z2.1
  · dsimp only; rw [eX _ (by decide), eY _ (by decide)]; exact z2.2.1
  · dsimp only; rw [s_up_s]; exact hsn
  · rw [hnx, hqn]
  · dsimp only; rw [eX _ (by decide), eY _ (by decide)]; exact z2.2.2.2.1
  · dsimp only; rw [eX _ (by decide), eY _ (by decide)]; exact z2.2.2.2.2
  · rw [hlQ l hl, s_up_F (by decide), e' _ (by decide)]
