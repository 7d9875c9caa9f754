/-! 68: public calls, a third part (printed by wip/whole/p68.py) -/
theorem s_hn.xt {p p' : e_Sp} (x : s_xt p p') : s_hn p' = s_hn p := by
  funext nr I
  have h : s_hnR p' = s_hnR p := by
    funext r I
    unfold s_hnR s_hnP
    rw [(x.1 T_PARR rfl).2.2, x.2.2.1]
  unfold s_hn
  rw [h]
def s_pbT (p : e_Sp) (nk nr i : Nat) (a : e_I × e_Jt) : e_I × e_Jt := s_run (s_tick p nk nr) 0 (s_tb0 a.1 (nI i)).toNatClampNeg a
def s_pbE (p : e_Sp) (nr : Nat) (isK : Bool) (i : Nat) (I : e_I) : e_I := if isK = true then s_prk I (s_hc0 I (nI i)) (s_lc0 I (nI i)) (bI (s_on0 I (nI i))) else match s_pat p I nr (s_hc0 I (nI i)) (s_lc0 I (nI i)) with
  | some j => s_up I f_p_isHeld j (bI (s_on0 I (nI i)))
  | none => I
def s_pbS (p : e_Sp) (nk nr : Nat) (isK : Bool) (i : Nat) (a : e_I × e_Jt) : e_I × e_Jt := s_stl p nk nr (s_pbE p nr isK i (s_pbT p nk nr i a).1, (s_pbT p nk nr i a).2)
theorem s_pbS.xt {p p' : e_Sp} (x : s_xt p p') : s_pbS p' = s_pbS p := by
  funext nk nr isK i a
  unfold s_pbS s_pbE s_pbT
  rw [s_stl.xt x, s_tick.xt x, s_pat.xt x]
theorem s_off.pbT {p : e_Sp} {nk nr i : Nat} {a : e_I × e_Jt} : s_off a.1 (s_pbT p nk nr i a).1 := s_off.runP s_off.tick _ _ _
/-- what is played back: the start, the end -/
def s_pb0 (p : e_Sp) (nk nr : Nat) (isK : Bool) (I : e_I) (J : e_Jt) : e_I × e_Jt := if isK = true then s_stl p nk nr ((s_rla (s_up I f_recording 0 45)).1, J) else (s_up I f_recording 0 45, J)
def s_pb1 (p : e_Sp) (nk nr : Nat) (a : e_I × e_Jt) : e_I × e_Jt := s_stl p nk nr (s_hn p nr a.1, a.2)
def s_pb (p : e_Sp) (nk nr z : Nat) (isK : Bool) (I : e_I) (J : e_Jt) : e_I × e_Jt := s_pb1 p nk nr (s_run (s_pbS p nk nr isK) 0 z (s_pb0 p nk nr isK I J))
theorem e_opF_some {i : Instr} {len pc nL : Nat} {ll : e_LL} {st : List Value} {z : Nat × e_LL × List Value} (hA : e_opA i len pc ll st = none) (hB : e_opB i len pc ll st = none) (hC : e_opC nL i len pc ll st = none) (hD : e_opD i len pc ll st = none) (hE : e_opE i len pc ll st = none) (hF : e_opF i len pc ll st = some z) : e_op nL i len pc ll st = some z := by
  unfold e_op
  rw [hA, hB, hC, hD, hE, hF]
def s_nxt (I : e_I) : Int32 := s_r8 (I f_next 0 + 1)
theorem s_frs_fc {I : e_I} {g : Nat} {v : Int32} (hg : g < 4) (h : I f_guest 0 = nI g) : s_frs (s_up I f_a_frameCounts g v) = v := by
  unfold s_frs
  rw [s_up_F (F' := f_guest) (by decide), h, nI_clamp (by omega), s_up_s]
set_option maxRecDepth 100000 in
set_option maxHeartbeats 4000000 in
theorem c_X11_push {X : e_XT} {d : Nat} {p : e_Sp} {I : e_I} {J : e_Jt} {c : Nat × Nat} {w : e_Rw1} {Q : e_Rt → e_SS → Prop} {nk nr : Nat} (hD : s_D p I nk nr) {a b : Nat} (hT : s_Tp p I c a b) (hM : s_Me I) {x y : Int32} (k : ¬ s_plo x y < 0 → s_isk5 I (s_plo x y) = true → ∀ p' c', s_D p' (s_stl p nk nr ((s_mt nk (s_kby j_a_kept I J (s_plo x y)) (s_kby j_a_drawn I J (s_plo x y)) I).1, J)).1 nk nr → s_xt p p' → s_Tp p' (s_stl p nk nr ((s_mt nk (s_kby j_a_kept I J (s_plo x y)) (s_kby j_a_drawn I J (s_plo x y)) I).1, J)).1 c' a b → Q (.inl (some (.int (s_mt nk (s_kby j_a_kept I J (s_plo x y)) (s_kby j_a_drawn I J (s_plo x y)) I).2))) (p', (s_stl p nk nr ((s_mt nk (s_kby j_a_kept I J (s_plo x y)) (s_kby j_a_drawn I J (s_plo x y)) I).1, J)).1, (s_stl p nk nr ((s_mt nk (s_kby j_a_kept I J (s_plo x y)) (s_kby j_a_drawn I J (s_plo x y)) I).1, J)).2, c', w)) (kx : s_plo x y < 0 → Q (.inr 2) (p, I, J, (c.1 + 1, c.2 + 6), w)) (kx4 : ¬ s_plo x y < 0 → s_isk5 I (s_plo x y) = false → Q (.inr 4) (p, I, J, (c.1 + 1, c.2 + 6), w)) : s_c X (d + 8) 189 [.ref (p.1 T_HALL 0), .int x, .int y] (p, I, J, c, w) Q := by
  have hC := hD.1
  have hp := hC.1
  refine m_X11_push (Nat.le_of_ble_eq_true rfl) ?_
  show s_w _ _ _ 0 _ _ _ _
  refine w_op (pc' := 1) dX11_push_0 rfl ?_
  refine w_op (pc' := 2) dX11_push_1 rfl ?_
  refine t_callS (As := [_, _]) dX11_push_2 rfl rM_X11_needPiston (by decide) rfl rfl (by decide) (Nat.le_of_ble_eq_true rfl) (c_X11_needPiston (fun hq => ?_) (fun hq => ?_))
  · show s_w _ _ _ 5 _ _ _ _
    refine w_op (pc' := 6) (ll' := [_, _, _, _]) dX11_push_5 rfl ?_
    refine w_op (pc' := 7) dX11_push_6 rfl ?_
    refine t_getG0 (G := g_h_MEM) dX11_push_7 rfl rfl (by decide) rfl (fun _ => rfl) (hp.1 _ rfl) ?_
    refine w_op (pc' := 11) dX11_push_10 rfl ?_
    refine t_callV (t := T_MEM) (As := [_]) dX11_push_11 rfl rM_X5_isKept (by decide) rfl rfl (by decide) (by decide) (Nat.le_of_ble_eq_true rfl) rfl (hp.1 _ rfl) (c_X5_isKept hp hM ?_)
    show s_w _ _ _ 14 _ _ _ _
    refine w_ifne (t := 28) dX11_push_14 (by decide) (fun c14 => ?_) (fun c14 => ?_)
    · refine w_op (pc' := 29) dX11_push_28 rfl ?_
      refine w_op (pc' := 30) dX11_push_29 rfl ?_
      refine t_getG0 (G := g_h_MEM) dX11_push_30 rfl rfl (by decide) rfl (fun _ => rfl) (hp.1 _ rfl) ?_
      refine w_op (pc' := 34) dX11_push_33 rfl ?_
      refine t_callV (t := T_MEM) (As := [_]) dX11_push_34 rfl rM_X5_keptBy (by decide) rfl rfl (by decide) (by decide) (Nat.le_of_ble_eq_true rfl) rfl (hp.1 _ rfl) (c_X5_keptBy hp hM ?_)
      show s_w _ _ _ 37 _ _ _ _
      refine w_op (pc' := 38) dX11_push_37 rfl ?_
      refine t_getG0 (G := g_h_MEM) dX11_push_38 rfl rfl (by decide) rfl (fun _ => rfl) (hp.1 _ rfl) ?_
      refine w_op (pc' := 42) dX11_push_41 rfl ?_
      refine t_callV (t := T_MEM) (As := [_]) dX11_push_42 rfl rM_X5_drawnBy (by decide) rfl rfl (by decide) (by decide) (Nat.le_of_ble_eq_true rfl) rfl (hp.1 _ rfl) (c_X5_drawnBy hp hM ?_)
      show s_w _ _ _ 45 _ _ _ _
      refine t_callV (t := T_HALL) (As := [_, _]) dX11_push_45 rfl rM_X11_moveKnobs (by decide) rfl rfl (by decide) (by decide) (Nat.le_of_ble_eq_true rfl) rfl (hp.1 _ rfl) (c_X11_moveKnobs hD hT (fun p1 c1 hD1 hx1 hT1 => ?_))
      show s_w _ _ _ 48 _ _ _ _
      exact w_ireturn dX11_push_48 ⟨rfl, k hq (bI_n0.mp c14) p1 c1 hD1 hx1 hT1⟩
    · exact w_throwN (is := 319) (sp := 1206) (tx := "the piston was not set in this level") (by decide) rfl rfl (by simp) dX11_push_17 dX11_push_20 dX11_push_21 dX11_push_24 dX11_push_27 ⟨rfl, kx4 hq (bI_0.mp c14)⟩
  · exact ⟨rfl, rfl, kx hq⟩
def s_rvZ (I : e_I) (j : Nat) : Int64 := if I f_k_isOut j = 0 then s_b1 j else 0
set_option maxRecDepth 100000 in
set_option maxHeartbeats 4000000 in
theorem c_X11_pushReversible {X : e_XT} {d : Nat} {p : e_Sp} {I : e_I} {J : e_Jt} {c : Nat × Nat} {w : e_Rw1} {Q : e_Rt → e_SS → Prop} {nk nr : Nat} (hD : s_D p I nk nr) {a b : Nat} (hT : s_Tp p I c a b) (hM : s_Me I) {x : Int32} (k : 0 ≤ x ∧ x < 4 → ∀ j, j < nk → s_rvk I x = nI j → ∀ p' c', s_D p' (s_stl p nk nr ((s_mt nk (s_b1 j) (s_rvZ I j) I).1, J)).1 nk nr → s_xt p p' → s_Tp p' (s_stl p nk nr ((s_mt nk (s_b1 j) (s_rvZ I j) I).1, J)).1 c' a b → Q (.inl (some (.int (bI (decide (0 < (s_mt nk (s_b1 j) (s_rvZ I j) I).2)))))) (p', (s_stl p nk nr ((s_mt nk (s_b1 j) (s_rvZ I j) I).1, J)).1, (s_stl p nk nr ((s_mt nk (s_b1 j) (s_rvZ I j) I).1, J)).2, c', w)) (kx : ¬ (0 ≤ x ∧ x < 4) → Q (.inr 2) (p, I, J, (c.1 + 1, c.2 + 6), w)) (kx4 : 0 ≤ x ∧ x < 4 → (s_rvk I x < 0 ∨ nI nk ≤ s_rvk I x) → Q (.inr 4) (p, I, J, (c.1 + 1, c.2 + 6), w)) : s_c X (d + 8) 192 [.ref (p.1 T_HALL 0), .int x] (p, I, J, c, w) Q := by
  have hC := hD.1
  have hp := hC.1
  refine m_X11_pushReversible (Nat.le_of_ble_eq_true rfl) ?_
  show s_w _ _ _ 0 _ _ _ _
  refine w_op (pc' := 1) dX11_pushReversible_0 rfl ?_
  refine t_callS (As := [_]) dX11_pushReversible_1 rfl rM_X11_needReversible (by decide) rfl rfl (by decide) (Nat.le_of_ble_eq_true rfl) (c_X11_needReversible (fun hq => ?_) (fun hq => ?_))
  · show s_w _ _ _ 4 _ _ _ _
    refine w_op (pc' := 5) dX11_pushReversible_4 rfl ?_
    refine t_getG0 (G := g_h_MEM) dX11_pushReversible_5 rfl rfl (by decide) rfl (fun _ => rfl) (hp.1 _ rfl) ?_
    refine w_op (pc' := 9) dX11_pushReversible_8 rfl ?_
    refine t_callV (t := T_MEM) (As := [_]) dX11_pushReversible_9 rfl rM_X5_reversibleKnob (by decide) rfl rfl (by decide) (by decide) (Nat.le_of_ble_eq_true rfl) rfl (hp.1 _ rfl) (c_X5_reversibleKnob hp hM ?_)
    show s_w _ _ _ 12 _ _ _ _
    refine w_op (pc' := 13) (ll' := [_, _, _, _]) dX11_pushReversible_12 rfl ?_
    refine w_op (pc' := 14) dX11_pushReversible_13 rfl ?_
    refine t_getG0 (G := g_h_CONS) dX11_pushReversible_14 rfl rfl (by decide) rfl (fun _ => rfl) (hp.1 _ rfl) ?_
    refine w_op (pc' := 18) dX11_pushReversible_17 rfl ?_
    refine t_callV (t := T_CONS) (As := [_]) dX11_pushReversible_18 rfl rM_X0_knobAt (by decide) rfl rfl (by decide) (by decide) (Nat.le_of_ble_eq_true rfl) rfl (hp.1 _ rfl) (c_X0_knobAt hC (fun j hj hx => ?_) (fun hx => ?_))
    · show s_w _ _ _ 21 _ _ _ _
      have hv := hC.kn hj
      rw [hx]
      refine w_op (pc' := 22) (ll' := [_, _, _, _]) dX11_pushReversible_21 rfl ?_
      refine w_op (pc' := 23) dX11_pushReversible_22 rfl ?_
      refine w_ifnonnull_t (t := 37) dX11_pushReversible_23 (by decide) ?_
      refine w_op (pc' := 38) dX11_pushReversible_37 rfl ?_
      refine w_op (pc' := 39) dX11_pushReversible_38 rfl ?_
      refine w_op (pc' := 40) dX11_pushReversible_39 rfl ?_
      refine w_op (pc' := 41) dX11_pushReversible_40 rfl ?_
      refine w_op (pc' := 42) dX11_pushReversible_41 rfl ?_
      refine t_getI (F := f_k_isOut) dX11_pushReversible_42 rfl rfl (by decide) rfl ⟨rfl, fun _ => rfl⟩ (by assumption) ?_
      refine w_ifeq (t := 52) dX11_pushReversible_45 (by decide) (fun c45 => ?_) (fun c45 => ?_)
      · refine w_op (pc' := 53) dX11_pushReversible_52 rfl ?_
        refine w_op (pc' := 54) dX11_pushReversible_53 rfl ?_
        refine w_op (pc' := 55) dX11_pushReversible_54 rfl ?_
        refine t_callV (t := T_HALL) (As := [_, _]) dX11_pushReversible_55 rfl rM_X11_moveKnobs (by decide) rfl rfl (by decide) (by decide) (Nat.le_of_ble_eq_true rfl) rfl (hp.1 _ rfl) (c_X11_moveKnobs hD hT (fun p1 c1 hD1 hx1 hT1 => ?_))
        show s_w _ _ _ 58 _ _ _ _
        refine w_ifle (t := 65) dX11_pushReversible_58 (by decide) (fun c58 => ?_) (fun c58 => ?_)
        · refine w_iconst (v := 0) dX11_pushReversible_65 rfl ?_
          exact w_ireturn dX11_pushReversible_66 ⟨s_rcb (by first | exact Or.inl rfl | exact Or.inr rfl), (by have k9 := k hq j hj hx; rw [show s_rvZ I j = _ from if_pos c45] at k9; exact s_eqi (congrArg bI (decide_eq_false (p := 0 < (s_mt nk (s_b1 j) (s_b1 j) I).2) (Int32.not_lt.mpr c58))) (k9 p1 c1 hD1 hx1 hT1))⟩
        · refine w_iconst (v := 1) dX11_pushReversible_61 rfl ?_
          refine w_goto (t := 66) dX11_pushReversible_62 (by decide) ?_
          exact w_ireturn dX11_pushReversible_66 ⟨s_rcb (by first | exact Or.inl rfl | exact Or.inr rfl), (by have k9 := k hq j hj hx; rw [show s_rvZ I j = _ from if_pos c45] at k9; exact s_eqi (congrArg bI (decide_eq_true (p := 0 < (s_mt nk (s_b1 j) (s_b1 j) I).2) (Int32.not_le.mp c58))) (k9 p1 c1 hD1 hx1 hT1))⟩
      · refine w_op (pc' := 49) dX11_pushReversible_48 rfl ?_
        refine w_goto (t := 55) dX11_pushReversible_49 (by decide) ?_
        refine t_callV (t := T_HALL) (As := [_, _]) dX11_pushReversible_55 rfl rM_X11_moveKnobs (by decide) rfl rfl (by decide) (by decide) (Nat.le_of_ble_eq_true rfl) rfl (hp.1 _ rfl) (c_X11_moveKnobs hD hT (fun p1 c1 hD1 hx1 hT1 => ?_))
        show s_w _ _ _ 58 _ _ _ _
        refine w_ifle (t := 65) dX11_pushReversible_58 (by decide) (fun c58 => ?_) (fun c58 => ?_)
        · refine w_iconst (v := 0) dX11_pushReversible_65 rfl ?_
          exact w_ireturn dX11_pushReversible_66 ⟨s_rcb (by first | exact Or.inl rfl | exact Or.inr rfl), (by have k9 := k hq j hj hx; rw [show s_rvZ I j = _ from if_neg c45] at k9; exact s_eqi (congrArg bI (decide_eq_false (p := 0 < (s_mt nk (s_b1 j) 0 I).2) (Int32.not_lt.mpr c58))) (k9 p1 c1 hD1 hx1 hT1))⟩
        · refine w_iconst (v := 1) dX11_pushReversible_61 rfl ?_
          refine w_goto (t := 66) dX11_pushReversible_62 (by decide) ?_
          exact w_ireturn dX11_pushReversible_66 ⟨s_rcb (by first | exact Or.inl rfl | exact Or.inr rfl), (by have k9 := k hq j hj hx; rw [show s_rvZ I j = _ from if_neg c45] at k9; exact s_eqi (congrArg bI (decide_eq_true (p := 0 < (s_mt nk (s_b1 j) 0 I).2) (Int32.not_le.mp c58))) (k9 p1 c1 hD1 hx1 hT1))⟩
    · show s_w _ _ _ 21 _ _ _ _
      refine w_op (pc' := 22) (ll' := [_, _, _, _]) dX11_pushReversible_21 rfl ?_
      refine w_op (pc' := 23) dX11_pushReversible_22 rfl ?_
      refine w_ifnonnull_f dX11_pushReversible_23 ?_
      exact w_throwN (is := 344) (sp := 1387) (tx := "the reversible was not set in this level") (by decide) rfl rfl (by simp) dX11_pushReversible_26 dX11_pushReversible_29 dX11_pushReversible_30 dX11_pushReversible_33 dX11_pushReversible_36 ⟨rfl, kx4 hq hx⟩
  · exact ⟨rfl, rfl, kx hq⟩
set_option maxRecDepth 100000 in
set_option maxHeartbeats 4000000 in
theorem c_X11_step {X : e_XT} {d : Nat} {p : e_Sp} {I : e_I} {J : e_Jt} {c : Nat × Nat} {w : e_Rw1} {Q : e_Rt → e_SS → Prop} {nk nr : Nat} (hD : s_D p I nk nr) {a b : Nat} (hT : s_Tp p I c a b) (hM : s_Me I) (k1 : s_isk5 I (s_plo (-1) (I f_next 0)) = true → ∀ p' c', s_D p' (s_stl p nk nr ((s_mt nk (s_kby j_a_kept I J (s_plo (-1) (I f_next 0))) (s_kby j_a_drawn I J (s_plo (-1) (I f_next 0))) I).1, J)).1 nk nr → s_xt p p' → s_Tp p' (s_stl p nk nr ((s_mt nk (s_kby j_a_kept I J (s_plo (-1) (I f_next 0))) (s_kby j_a_drawn I J (s_plo (-1) (I f_next 0))) I).1, J)).1 c' a b → Q (.inl (some (.int (s_nxt (s_stl p nk nr ((s_mt nk (s_kby j_a_kept I J (s_plo (-1) (I f_next 0))) (s_kby j_a_drawn I J (s_plo (-1) (I f_next 0))) I).1, J)).1)))) (p', s_up (s_stl p nk nr ((s_mt nk (s_kby j_a_kept I J (s_plo (-1) (I f_next 0))) (s_kby j_a_drawn I J (s_plo (-1) (I f_next 0))) I).1, J)).1 f_next 0 (s_nxt (s_stl p nk nr ((s_mt nk (s_kby j_a_kept I J (s_plo (-1) (I f_next 0))) (s_kby j_a_drawn I J (s_plo (-1) (I f_next 0))) I).1, J)).1), (s_stl p nk nr ((s_mt nk (s_kby j_a_kept I J (s_plo (-1) (I f_next 0))) (s_kby j_a_drawn I J (s_plo (-1) (I f_next 0))) I).1, J)).2, c', w)) (k2 : s_isk5 I (s_plo (-1) (I f_next 0)) = false → Q (.inl (some (.int (s_nxt I)))) (p, s_up I f_next 0 (s_nxt I), J, c, w)) : s_c X (d + 8) 138 [.ref (p.1 T_HALL 0)] (p, I, J, c, w) Q := by
  have hC := hD.1
  have hp := hC.1
  refine m_X11_step (Nat.le_of_ble_eq_true rfl) ?_
  show s_w _ _ _ 0 _ _ _ _
  refine w_iconst (v := (-1)) dX11_step_0 rfl ?_
  refine w_op (pc' := 2) dX11_step_1 rfl ?_
  refine t_getG0 (G := g_h_MEM) dX11_step_2 rfl rfl (by decide) rfl (fun _ => rfl) (hp.1 _ rfl) ?_
  refine t_getI (F := f_next) dX11_step_5 rfl rfl (by decide) rfl ⟨rfl, fun _ => rfl⟩ (hp.1 _ rfl) ?_
  refine t_callS (As := [_, _]) dX11_step_8 rfl rM_X5_placeOf (by decide) rfl rfl (by decide) (Nat.le_of_ble_eq_true rfl) (c_X5_placeOf ?_)
  show s_w _ _ _ 11 _ _ _ _
  refine w_op (pc' := 12) (ll' := [_, _]) dX11_step_11 rfl ?_
  refine w_op (pc' := 13) dX11_step_12 rfl ?_
  refine t_getG0 (G := g_h_MEM) dX11_step_13 rfl rfl (by decide) rfl (fun _ => rfl) (hp.1 _ rfl) ?_
  refine w_op (pc' := 17) dX11_step_16 rfl ?_
  refine t_callV (t := T_MEM) (As := [_]) dX11_step_17 rfl rM_X5_isKept (by decide) rfl rfl (by decide) (by decide) (Nat.le_of_ble_eq_true rfl) rfl (hp.1 _ rfl) (c_X5_isKept hp hM ?_)
  show s_w _ _ _ 20 _ _ _ _
  refine w_ifeq (t := 44) dX11_step_20 (by decide) (fun c20 => ?_) (fun c20 => ?_)
  · refine w_op (pc' := 45) dX11_step_44 rfl ?_
    refine t_getG0 (G := g_h_MEM) dX11_step_45 rfl rfl (by decide) rfl (fun _ => rfl) (hp.1 _ rfl) ?_
    refine w_op (pc' := 49) dX11_step_48 rfl ?_
    refine t_getG0 (G := g_h_MEM) dX11_step_49 rfl rfl (by decide) rfl (fun _ => rfl) (hp.1 _ rfl) ?_
    refine t_getI (F := f_next) dX11_step_52 rfl rfl (by decide) rfl ⟨rfl, fun _ => rfl⟩ (hp.1 _ rfl) ?_
    refine w_iconst (v := 1) dX11_step_55 rfl ?_
    refine w_op (pc' := 57) dX11_step_56 rfl ?_
    refine w_bipush (v := 8) dX11_step_57 rfl ?_
    refine w_op (pc' := 60) dX11_step_59 (by rfl) ?_
    refine t_putI (F := f_next) dX11_step_60 rfl rfl (by decide) (by decide) rfl rfl (Or.inl rfl) (hp.1 _ rfl) ?_
    refine w_op (pc' := 64) dX11_step_63 rfl ?_
    refine t_getG0 (G := g_h_MEM) dX11_step_64 rfl rfl (by decide) rfl (fun _ => rfl) (hp.1 _ rfl) ?_
    refine t_getI (F := f_next) dX11_step_67 rfl rfl (by decide) rfl ⟨rfl, fun _ => rfl⟩ (hp.1 _ rfl) ?_
    exact w_ireturn dX11_step_70 ⟨rfl, s_eqi s_up_s.symm (k2 (bI_0.mp c20))⟩
  · refine w_op (pc' := 24) dX11_step_23 rfl ?_
    refine w_op (pc' := 25) dX11_step_24 rfl ?_
    refine t_getG0 (G := g_h_MEM) dX11_step_25 rfl rfl (by decide) rfl (fun _ => rfl) (hp.1 _ rfl) ?_
    refine w_op (pc' := 29) dX11_step_28 rfl ?_
    refine t_callV (t := T_MEM) (As := [_]) dX11_step_29 rfl rM_X5_keptBy (by decide) rfl rfl (by decide) (by decide) (Nat.le_of_ble_eq_true rfl) rfl (hp.1 _ rfl) (c_X5_keptBy hp hM ?_)
    show s_w _ _ _ 32 _ _ _ _
    refine w_op (pc' := 33) dX11_step_32 rfl ?_
    refine t_getG0 (G := g_h_MEM) dX11_step_33 rfl rfl (by decide) rfl (fun _ => rfl) (hp.1 _ rfl) ?_
    refine w_op (pc' := 37) dX11_step_36 rfl ?_
    refine t_callV (t := T_MEM) (As := [_]) dX11_step_37 rfl rM_X5_drawnBy (by decide) rfl rfl (by decide) (by decide) (Nat.le_of_ble_eq_true rfl) rfl (hp.1 _ rfl) (c_X5_drawnBy hp hM ?_)
    show s_w _ _ _ 40 _ _ _ _
    refine t_callV (t := T_HALL) (As := [_, _]) dX11_step_40 rfl rM_X11_moveKnobs (by decide) rfl rfl (by decide) (by decide) (Nat.le_of_ble_eq_true rfl) rfl (hp.1 _ rfl) (c_X11_moveKnobs hD hT (fun p1 c1 hD1 hx1 hT1 => ?_))
    show s_w _ _ _ 43 _ _ _ _
    rw [show p.1 T_HALL = p1.1 T_HALL from (hx1.1 T_HALL rfl).1.symm]
    have hp := hD1.1.1
    refine w_op (pc' := 44) dX11_step_43 rfl ?_
    refine w_op (pc' := 45) dX11_step_44 rfl ?_
    refine t_getG0 (G := g_h_MEM) dX11_step_45 rfl rfl (by decide) rfl (fun _ => rfl) (hp.1 _ rfl) ?_
    refine w_op (pc' := 49) dX11_step_48 rfl ?_
    refine t_getG0 (G := g_h_MEM) dX11_step_49 rfl rfl (by decide) rfl (fun _ => rfl) (hp.1 _ rfl) ?_
    refine t_getI (F := f_next) dX11_step_52 rfl rfl (by decide) rfl ⟨rfl, fun _ => rfl⟩ (hp.1 _ rfl) ?_
    refine w_iconst (v := 1) dX11_step_55 rfl ?_
    refine w_op (pc' := 57) dX11_step_56 rfl ?_
    refine w_bipush (v := 8) dX11_step_57 rfl ?_
    refine w_op (pc' := 60) dX11_step_59 (by rfl) ?_
    refine t_putI (F := f_next) dX11_step_60 rfl rfl (by decide) (by decide) rfl rfl (Or.inl rfl) (hp.1 _ rfl) ?_
    refine w_op (pc' := 64) dX11_step_63 rfl ?_
    refine t_getG0 (G := g_h_MEM) dX11_step_64 rfl rfl (by decide) rfl (fun _ => rfl) (hp.1 _ rfl) ?_
    refine t_getI (F := f_next) dX11_step_67 rfl rfl (by decide) rfl ⟨rfl, fun _ => rfl⟩ (hp.1 _ rfl) ?_
    exact w_ireturn dX11_step_70 ⟨rfl, s_eqi s_up_s.symm (k1 (bI_n0.mp c20) p1 c1 hD1 hx1 hT1)⟩
set_option maxRecDepth 100000 in
set_option maxHeartbeats 4000000 in
theorem c_X11_frame {X : e_XT} {d : Nat} {p : e_Sp} {I : e_I} {J : e_Jt} {c : Nat × Nat} {w : e_Rw1} {Q : e_Rt → e_SS → Prop} {nk nr : Nat} (hC : s_C p I nk nr) (hM : s_Me I) {x : Int32} (k : 0 ≤ x ∧ x ≤ s_frs I → s_frs I < 20 → ∀ g e m, g < 4 → I f_guest 0 = nI g → I f_a_frameCounts g = nI m → m < 20 → e ≤ m → x = nI e → Q (.inl (some (.int (nI (m + 1))))) (p, s_up I f_a_frameCounts g (nI (m + 1)), s_up (s_up (s_cpJ (s_cpJ J j_a_frameKept (g * 20 + e) (g * 20 + e + 1) (m - e)) j_a_frameDrawn (g * 20 + e) (g * 20 + e + 1) (m - e)) j_a_frameKept (g * 20 + e) (s_b1 nk - 1)) j_a_frameDrawn (g * 20 + e) (s_da I nk (s_b1 nk - 1)), c, w)) (kx : ¬ (0 ≤ x ∧ x ≤ s_frs I) → Q (.inr 2) (p, I, J, (c.1 + 1, c.2 + 6), w)) (kx1 : 0 ≤ x ∧ x ≤ s_frs I → ¬ s_frs I < 20 → Q (.inr 1) (p, I, J, (c.1 + 1, c.2 + 6), w)) : s_c X (d + 4) 193 [.ref (p.1 T_HALL 0), .int x] (p, I, J, c, w) Q := by
  have hp := hC.1
  refine m_X11_frame (Nat.le_of_ble_eq_true rfl) ?_
  show s_w _ _ _ 0 _ _ _ _
  refine w_op (pc' := 1) dX11_frame_0 rfl ?_
  refine w_iflt (t := 15) dX11_frame_1 (by decide) (fun c1 => ?_) (fun c1 => ?_)
  · exact w_thr2 (is := 357) (sp := 1254) (tx := "no such place") (by decide) rfl rfl (by simp) dX11_frame_15 dX11_frame_18 (Or.inr ⟨dX11_frame_19, dX11_frame_22, dX11_frame_25⟩) ⟨rfl, kx (fun z => Int32.not_lt.mpr z.1 c1)⟩
  · refine w_op (pc' := 5) dX11_frame_4 rfl ?_
    refine w_op (pc' := 6) dX11_frame_5 rfl ?_
    refine t_getG0 (G := g_h_MEM) dX11_frame_6 rfl rfl (by decide) rfl (fun _ => rfl) (hp.1 _ rfl) ?_
    refine t_callV (t := T_MEM) (As := []) dX11_frame_9 rfl rM_X5_frames (by decide) rfl rfl (by decide) (by decide) (Nat.le_of_ble_eq_true rfl) rfl (hp.1 _ rfl) (c_X5_frames hp hM ?_)
    show s_w _ _ _ 12 _ _ _ _
    refine w_icmple (t := 26) dX11_frame_12 (by decide) (fun c12 => ?_) (fun c12 => ?_)
    · refine w_op (pc' := 27) dX11_frame_26 rfl ?_
      refine t_getG0 (G := g_h_MEM) dX11_frame_27 rfl rfl (by decide) rfl (fun _ => rfl) (hp.1 _ rfl) ?_
      refine t_callV (t := T_MEM) (As := []) dX11_frame_30 rfl rM_X5_frames (by decide) rfl rfl (by decide) (by decide) (Nat.le_of_ble_eq_true rfl) rfl (hp.1 _ rfl) (c_X5_frames hp hM ?_)
      show s_w _ _ _ 33 _ _ _ _
      refine w_bipush (v := 20) dX11_frame_33 rfl ?_
      refine w_icmplt (t := 49) dX11_frame_35 (by decide) (fun c35 => ?_) (fun c35 => ?_)
      · refine w_op (pc' := 50) dX11_frame_49 rfl ?_
        refine t_getG0 (G := g_h_CONS) dX11_frame_50 rfl rfl (by decide) rfl (fun _ => rfl) (hp.1 _ rfl) ?_
        refine t_callV (t := T_CONS) (As := []) dX11_frame_53 rfl rM_X0_allKnobs (by decide) rfl rfl (by decide) (by decide) (Nat.le_of_ble_eq_true rfl) rfl (hp.1 _ rfl) (c_X0_allKnobs hC ?_)
        show s_w _ _ _ 56 _ _ _ _
        refine w_op (pc' := 57) (ll' := [_, _, _, _]) dX11_frame_56 rfl ?_
        refine w_op (pc' := 58) dX11_frame_57 rfl ?_
        refine t_getG0 (G := g_h_MEM) dX11_frame_58 rfl rfl (by decide) rfl (fun _ => rfl) (hp.1 _ rfl) ?_
        refine w_op (pc' := 62) dX11_frame_61 rfl ?_
        refine w_op (pc' := 63) dX11_frame_62 rfl ?_
        refine w_op (pc' := 64) dX11_frame_63 rfl ?_
        refine t_getG0 (G := g_h_CONS) dX11_frame_64 rfl rfl (by decide) rfl (fun _ => rfl) (hp.1 _ rfl) ?_
        refine w_op (pc' := 68) dX11_frame_67 rfl ?_
        refine t_callV (t := T_CONS) (As := [_]) dX11_frame_68 rfl rM_X0_drawnAmong (by decide) rfl rfl (by decide) (by decide) (Nat.le_of_ble_eq_true rfl) rfl (hp.1 _ rfl) (c_X0_drawnAmong hC ?_)
        show s_w _ _ _ 71 _ _ _ _
        refine t_callV (t := T_MEM) (As := [_, _, _]) dX11_frame_71 rfl rM_X5_insertFrame (by decide) rfl rfl (by decide) (by decide) (Nat.le_of_ble_eq_true rfl) rfl (hp.1 _ rfl) (c_X5_insertFrame hp hM (fun h9 => ?_) (fun g e m hg hgu hm hm20 hem hxe => ?_))
        · exact (h9.elim c1 (fun z => z.elim (fun u => Int32.not_lt.mpr c12 u) (fun u => Int32.not_lt.mpr u c35))).elim
        · show s_w _ _ _ 74 _ _ _ _
          refine w_op (pc' := 75) dX11_frame_74 rfl ?_
          refine t_getG0 (G := g_h_MEM) dX11_frame_75 rfl rfl (by decide) rfl (fun _ => rfl) (hp.1 _ rfl) ?_
          refine t_callV (t := T_MEM) (As := []) dX11_frame_78 rfl rM_X5_frames (by decide) rfl rfl (by decide) (by decide) (Nat.le_of_ble_eq_true rfl) rfl (hp.1 _ rfl) (c_X5_frames hp (hM.fc (by omega)) ?_)
          show s_w _ _ _ 81 _ _ _ _
          rw [s_frs_fc hg hgu]
          exact w_ireturn dX11_frame_81 ⟨rfl, k ⟨Int32.not_lt.mp c1, c12⟩ c35 g e m hg hgu hm hm20 hem hxe⟩
      · exact w_thr1 (is := 360) (sp := 1255) (tx := "there are 20 frames") (by decide) rfl rfl (by simp) dX11_frame_38 dX11_frame_41 (Or.inr ⟨dX11_frame_42, dX11_frame_45, dX11_frame_48⟩) ⟨rfl, kx1 ⟨Int32.not_lt.mp c1, c12⟩ c35⟩
    · exact w_thr2 (is := 357) (sp := 1254) (tx := "no such place") (by decide) rfl rfl (by simp) dX11_frame_15 dX11_frame_18 (Or.inr ⟨dX11_frame_19, dX11_frame_22, dX11_frame_25⟩) ⟨rfl, kx (fun z => c12 z.2)⟩
set_option maxRecDepth 100000 in
set_option maxHeartbeats 4000000 in
theorem c_X11_turnTo {X : e_XT} {d : Nat} {p : e_Sp} {I : e_I} {J : e_Jt} {c : Nat × Nat} {w : e_Rw1} {Q : e_Rt → e_SS → Prop} {nk nr : Nat} (hD : s_D p I nk nr) {a b : Nat} (hT : s_Tp p I c a b) (hM : s_Me I) {x : Int32} (k : 0 ≤ x ∧ x < s_frs I → ∀ p' c', s_D p' (s_stl p nk nr ((s_mt nk (s_kbf j_a_frameKept I J x) (s_kbf j_a_frameDrawn I J x) I).1, J)).1 nk nr → s_xt p p' → s_Tp p' (s_stl p nk nr ((s_mt nk (s_kbf j_a_frameKept I J x) (s_kbf j_a_frameDrawn I J x) I).1, J)).1 c' a b → Q (.inl (some (.int (s_mt nk (s_kbf j_a_frameKept I J x) (s_kbf j_a_frameDrawn I J x) I).2))) (p', (s_stl p nk nr ((s_mt nk (s_kbf j_a_frameKept I J x) (s_kbf j_a_frameDrawn I J x) I).1, J)).1, (s_stl p nk nr ((s_mt nk (s_kbf j_a_frameKept I J x) (s_kbf j_a_frameDrawn I J x) I).1, J)).2, c', w)) (kx : ¬ (0 ≤ x ∧ x < s_frs I) → Q (.inr 2) (p, I, J, (c.1 + 1, c.2 + 6), w)) : s_c X (d + 8) 196 [.ref (p.1 T_HALL 0), .int x] (p, I, J, c, w) Q := by
  have hC := hD.1
  have hp := hC.1
  refine m_X11_turnTo (Nat.le_of_ble_eq_true rfl) ?_
  show s_w _ _ _ 0 _ _ _ _
  refine w_op (pc' := 1) dX11_turnTo_0 rfl ?_
  refine w_op (pc' := 2) dX11_turnTo_1 rfl ?_
  refine t_callV (t := T_HALL) (As := [_]) dX11_turnTo_2 rfl rM_X11_needFrame (by decide) rfl rfl (by decide) (by decide) (Nat.le_of_ble_eq_true rfl) rfl (hp.1 _ rfl) (c_X11_needFrame hp hM (fun hq => ?_) (fun hq => ?_))
  · show s_w _ _ _ 5 _ _ _ _
    refine w_op (pc' := 6) dX11_turnTo_5 rfl ?_
    refine w_op (pc' := 7) dX11_turnTo_6 rfl ?_
    refine t_getG0 (G := g_h_MEM) dX11_turnTo_7 rfl rfl (by decide) rfl (fun _ => rfl) (hp.1 _ rfl) ?_
    refine w_op (pc' := 11) dX11_turnTo_10 rfl ?_
    refine t_callV (t := T_MEM) (As := [_]) dX11_turnTo_11 rfl rM_X5_keptByFrame (by decide) rfl rfl (by decide) (by decide) (Nat.le_of_ble_eq_true rfl) rfl (hp.1 _ rfl) (c_X5_keptByFrame hp hM ?_)
    show s_w _ _ _ 14 _ _ _ _
    refine w_op (pc' := 15) dX11_turnTo_14 rfl ?_
    refine t_getG0 (G := g_h_MEM) dX11_turnTo_15 rfl rfl (by decide) rfl (fun _ => rfl) (hp.1 _ rfl) ?_
    refine w_op (pc' := 19) dX11_turnTo_18 rfl ?_
    refine t_callV (t := T_MEM) (As := [_]) dX11_turnTo_19 rfl rM_X5_drawnByFrame (by decide) rfl rfl (by decide) (by decide) (Nat.le_of_ble_eq_true rfl) rfl (hp.1 _ rfl) (c_X5_drawnByFrame hp hM ?_)
    show s_w _ _ _ 22 _ _ _ _
    refine t_callV (t := T_HALL) (As := [_, _]) dX11_turnTo_22 rfl rM_X11_moveKnobs (by decide) rfl rfl (by decide) (by decide) (Nat.le_of_ble_eq_true rfl) rfl (hp.1 _ rfl) (c_X11_moveKnobs hD hT (fun p1 c1 hD1 hx1 hT1 => ?_))
    show s_w _ _ _ 25 _ _ _ _
    exact w_ireturn dX11_turnTo_25 ⟨rfl, k hq p1 c1 hD1 hx1 hT1⟩
  · exact ⟨rfl, rfl, kx hq⟩
set_option maxRecDepth 100000 in
set_option maxHeartbeats 4000000 in
theorem l_X11_wire {X : e_XT} {d : Nat} {p : e_Sp} {I : e_I} {J : e_Jt} {c : Nat × Nat} {w : e_Rw1} {Q : e_Rt → e_SS → Prop} {nk nr : Nat} (hD : s_D p I nk nr) {a b : Nat} (hT : s_Tp p I c a b) {x ch y z : Int32} {o5 : Option Value} (hch : vp_nar .char ch = ch) (k : (ch = 33 ∨ s_iss z x = true) → ∀ p' c', s_D p' (s_stl p nk nr (s_pw I x ch y z, J)).1 nk nr → s_xt p p' → s_Tp p' (s_stl p nk nr (s_pw I x ch y z, J)).1 c' a b → Q (.inl (some (.int (bI (s_ro (s_stl p nk nr (s_pw I x ch y z, J)).1 x))))) (p', (s_stl p nk nr (s_pw I x ch y z, J)).1, (s_stl p nk nr (s_pw I x ch y z, J)).2, c', w)) (kx2 : ¬ ch = 33 → s_iss z x = false → Q (.inr 0) (p, I, J, (c.1 + 1, c.2 + 6), w)) : s_w X (d + 7) K_X11_wire 59 [some (.ref (p.1 T_HALL 0)), some (.int x), some (.int ch), some (.int y), some (.int z), o5] [] (p, I, J, c, w) (fun r S' => e_rcr (some FieldType.boolean) r = true ∧ Q r S') := by
  have hC := hD.1
  have hp := hC.1
  refine w_op (pc' := 60) dX11_wire_59 rfl ?_
  refine w_bipush (v := 33) dX11_wire_60 rfl ?_
  refine w_icmpeq (t := 85) dX11_wire_62 (by decide) (fun c62 => ?_) (fun c62 => ?_)
  · refine w_op (pc' := 86) dX11_wire_85 rfl ?_
    refine t_getG0 (G := g_h_CONS) dX11_wire_86 rfl rfl (by decide) rfl (fun _ => rfl) (hp.1 _ rfl) ?_
    refine w_op (pc' := 90) dX11_wire_89 rfl ?_
    refine w_op (pc' := 91) dX11_wire_90 rfl ?_
    refine w_op (pc' := 92) dX11_wire_91 rfl ?_
    refine w_op (pc' := 94) dX11_wire_92 rfl ?_
    refine t_callV (t := T_CONS) (As := [_, _, _, _]) dX11_wire_94 rfl rM_X0_putWires (by decide) rfl rfl (by decide) (by decide) (Nat.le_of_ble_eq_true rfl) rfl (hp.1 _ rfl) (c_X0_putWires hC hch ?_)
    show s_w _ _ _ 97 _ _ _ _
    refine w_op (pc' := 98) dX11_wire_97 rfl ?_
    refine t_getG0 (G := g_h_WORKS) dX11_wire_98 rfl rfl (by decide) rfl (fun _ => rfl) (hp.1 _ rfl) ?_
    refine t_callV (t := T_WORKS) (As := []) dX11_wire_101 rfl rM_X10_settle (by decide) rfl rfl (by decide) (by decide) (Nat.le_of_ble_eq_true rfl) rfl (hp.1 _ rfl) (c_X10_settle (hD.eq s_eqC.pw) (hT.eq s_eqT.pw) (fun p1 c1 hD1 hx1 hT1 => ?_))
    show s_w _ _ _ 104 _ _ _ _
    rw [show p.1 T_HALL = p1.1 T_HALL from (hx1.1 T_HALL rfl).1.symm]
    have hp := hD1.1.1
    refine w_op (pc' := 105) dX11_wire_104 rfl ?_
    refine t_getG0 (G := g_h_CONS) dX11_wire_105 rfl rfl (by decide) rfl (fun _ => rfl) (hp.1 _ rfl) ?_
    refine w_op (pc' := 109) dX11_wire_108 rfl ?_
    refine t_callV (t := T_CONS) (As := [_]) dX11_wire_109 rfl rM_X0_isRelayOn (by decide) rfl rfl (by decide) (by decide) (Nat.le_of_ble_eq_true rfl) rfl (hp.1 _ rfl) (c_X0_isRelayOn hp ?_)
    show s_w _ _ _ 112 _ _ _ _
    exact w_ireturn dX11_wire_112 ⟨s_rcb (bI_or _), k (Or.inl c62) p1 c1 hD1 hx1 hT1⟩
  · refine w_op (pc' := 67) dX11_wire_65 rfl ?_
    refine w_op (pc' := 68) dX11_wire_67 rfl ?_
    refine t_callS (As := [_, _]) dX11_wire_68 rfl rM_X0_isSource (by decide) rfl rfl (by decide) (Nat.le_of_ble_eq_true rfl) (c_X0_isSource ?_)
    show s_w _ _ _ 71 _ _ _ _
    refine w_ifne (t := 85) dX11_wire_71 (by decide) (fun c71 => ?_) (fun c71 => ?_)
    · refine w_op (pc' := 86) dX11_wire_85 rfl ?_
      refine t_getG0 (G := g_h_CONS) dX11_wire_86 rfl rfl (by decide) rfl (fun _ => rfl) (hp.1 _ rfl) ?_
      refine w_op (pc' := 90) dX11_wire_89 rfl ?_
      refine w_op (pc' := 91) dX11_wire_90 rfl ?_
      refine w_op (pc' := 92) dX11_wire_91 rfl ?_
      refine w_op (pc' := 94) dX11_wire_92 rfl ?_
      refine t_callV (t := T_CONS) (As := [_, _, _, _]) dX11_wire_94 rfl rM_X0_putWires (by decide) rfl rfl (by decide) (by decide) (Nat.le_of_ble_eq_true rfl) rfl (hp.1 _ rfl) (c_X0_putWires hC hch ?_)
      show s_w _ _ _ 97 _ _ _ _
      refine w_op (pc' := 98) dX11_wire_97 rfl ?_
      refine t_getG0 (G := g_h_WORKS) dX11_wire_98 rfl rfl (by decide) rfl (fun _ => rfl) (hp.1 _ rfl) ?_
      refine t_callV (t := T_WORKS) (As := []) dX11_wire_101 rfl rM_X10_settle (by decide) rfl rfl (by decide) (by decide) (Nat.le_of_ble_eq_true rfl) rfl (hp.1 _ rfl) (c_X10_settle (hD.eq s_eqC.pw) (hT.eq s_eqT.pw) (fun p1 c1 hD1 hx1 hT1 => ?_))
      show s_w _ _ _ 104 _ _ _ _
      rw [show p.1 T_HALL = p1.1 T_HALL from (hx1.1 T_HALL rfl).1.symm]
      have hp := hD1.1.1
      refine w_op (pc' := 105) dX11_wire_104 rfl ?_
      refine t_getG0 (G := g_h_CONS) dX11_wire_105 rfl rfl (by decide) rfl (fun _ => rfl) (hp.1 _ rfl) ?_
      refine w_op (pc' := 109) dX11_wire_108 rfl ?_
      refine t_callV (t := T_CONS) (As := [_]) dX11_wire_109 rfl rM_X0_isRelayOn (by decide) rfl rfl (by decide) (by decide) (Nat.le_of_ble_eq_true rfl) rfl (hp.1 _ rfl) (c_X0_isRelayOn hp ?_)
      show s_w _ _ _ 112 _ _ _ _
      exact w_ireturn dX11_wire_112 ⟨s_rcb (bI_or _), k (Or.inr (bI_n0.mp c71)) p1 c1 hD1 hx1 hT1⟩
    · exact w_thr0 (is := 388) (sp := 1341) (tx := "no such second source") (by decide) rfl rfl (by simp) dX11_wire_74 dX11_wire_77 (Or.inr ⟨dX11_wire_78, dX11_wire_81, dX11_wire_84⟩) ⟨rfl, kx2 c62 (bI_0.mp c71)⟩
set_option maxRecDepth 100000 in
set_option maxHeartbeats 4000000 in
theorem c_X11_wire {X : e_XT} {d : Nat} {p : e_Sp} {I : e_I} {J : e_Jt} {c : Nat × Nat} {w : e_Rw1} {Q : e_Rt → e_SS → Prop} {nk nr : Nat} (hD : s_D p I nk nr) {a b : Nat} (hT : s_Tp p I c a b) {x ch y z : Int32} (hch : vp_nar .char ch = ch) (k : 0 ≤ x ∧ x < 16 → (ch = 38 ∨ ch = 124 ∨ ch = 94 ∨ ch = 33) → s_iss y x = true → (ch = 33 ∨ s_iss z x = true) → ∀ p' c', s_D p' (s_stl p nk nr (s_pw I x ch y z, J)).1 nk nr → s_xt p p' → s_Tp p' (s_stl p nk nr (s_pw I x ch y z, J)).1 c' a b → Q (.inl (some (.int (bI (s_ro (s_stl p nk nr (s_pw I x ch y z, J)).1 x))))) (p', (s_stl p nk nr (s_pw I x ch y z, J)).1, (s_stl p nk nr (s_pw I x ch y z, J)).2, c', w)) (kx : ¬ (0 ≤ x ∧ x < 16) → Q (.inr 2) (p, I, J, (c.1 + 1, c.2 + 6), w)) (kx0 : 0 ≤ x ∧ x < 16 → ¬ ((ch = 38 ∨ ch = 124 ∨ ch = 94 ∨ ch = 33) ∧ s_iss y x = true) → Q (.inr 0) (p, I, J, (c.1 + 1, c.2 + 6), w)) (kx2 : 0 ≤ x ∧ x < 16 → (ch = 38 ∨ ch = 124 ∨ ch = 94 ∨ ch = 33) → s_iss y x = true → ¬ ch = 33 → s_iss z x = false → Q (.inr 0) (p, I, J, (c.1 + 1, c.2 + 6), w)) : s_c X (d + 7) 197 [.ref (p.1 T_HALL 0), .int x, .int ch, .int y, .int z] (p, I, J, c, w) Q := by
  have hC := hD.1
  have hp := hC.1
  refine m_X11_wire (Nat.le_of_ble_eq_true rfl) ?_
  show s_w _ _ _ 0 _ _ _ _
  refine w_op (pc' := 1) dX11_wire_0 rfl ?_
  refine t_callS (As := [_]) dX11_wire_1 rfl rM_X11_needRelay (by decide) rfl rfl (by decide) (Nat.le_of_ble_eq_true rfl) (c_X11_needRelay (fun hq => ?_) (fun hq => ?_))
  · show s_w _ _ _ 4 _ _ _ _
    refine w_op (pc' := 5) dX11_wire_4 rfl ?_
    refine w_bipush (v := 38) dX11_wire_5 rfl ?_
    refine w_icmpeq (t := 28) dX11_wire_7 (by decide) (fun c7 => ?_) (fun c7 => ?_)
    · refine w_iconst (v := 1) dX11_wire_28 rfl ?_
      refine w_goto (t := 33) dX11_wire_29 (by decide) ?_
      refine w_op (pc' := 35) (ll' := [_, _, _, _, _, _]) dX11_wire_33 rfl ?_
      refine w_op (pc' := 37) dX11_wire_35 rfl ?_
      refine w_ifeq (t := 48) dX11_wire_37 (by decide) (fun c37 => ?_) (fun c37 => ?_)
      · exact absurd c37 (by decide)
      · refine w_op (pc' := 41) dX11_wire_40 rfl ?_
        refine w_op (pc' := 42) dX11_wire_41 rfl ?_
        refine t_callS (As := [_, _]) dX11_wire_42 rfl rM_X0_isSource (by decide) rfl rfl (by decide) (Nat.le_of_ble_eq_true rfl) (c_X0_isSource ?_)
        show s_w _ _ _ 45 _ _ _ _
        refine w_ifne (t := 59) dX11_wire_45 (by decide) (fun c45 => ?_) (fun c45 => ?_)
        · exact l_X11_wire hD hT hch (fun h5 => k hq (Or.inl c7) (bI_n0.mp c45) h5) (fun h5 h6 => kx2 hq (Or.inl c7) (bI_n0.mp c45) h5 h6)
        · exact w_thr0 (is := 386) (sp := 1340) (tx := "no such operation or first source") (by decide) rfl rfl (by simp) dX11_wire_48 dX11_wire_51 (Or.inr ⟨dX11_wire_52, dX11_wire_55, dX11_wire_58⟩) ⟨rfl, kx0 hq (fun u => by have := u.2; rw [bI_0.mp c45] at this; cases this)⟩
    · refine w_op (pc' := 11) dX11_wire_10 rfl ?_
      refine w_bipush (v := 124) dX11_wire_11 rfl ?_
      refine w_icmpeq (t := 28) dX11_wire_13 (by decide) (fun c13 => ?_) (fun c13 => ?_)
      · refine w_iconst (v := 1) dX11_wire_28 rfl ?_
        refine w_goto (t := 33) dX11_wire_29 (by decide) ?_
        refine w_op (pc' := 35) (ll' := [_, _, _, _, _, _]) dX11_wire_33 rfl ?_
        refine w_op (pc' := 37) dX11_wire_35 rfl ?_
        refine w_ifeq (t := 48) dX11_wire_37 (by decide) (fun c37 => ?_) (fun c37 => ?_)
        · exact absurd c37 (by decide)
        · refine w_op (pc' := 41) dX11_wire_40 rfl ?_
          refine w_op (pc' := 42) dX11_wire_41 rfl ?_
          refine t_callS (As := [_, _]) dX11_wire_42 rfl rM_X0_isSource (by decide) rfl rfl (by decide) (Nat.le_of_ble_eq_true rfl) (c_X0_isSource ?_)
          show s_w _ _ _ 45 _ _ _ _
          refine w_ifne (t := 59) dX11_wire_45 (by decide) (fun c45 => ?_) (fun c45 => ?_)
          · exact l_X11_wire hD hT hch (fun h5 => k hq (Or.inr (Or.inl c13)) (bI_n0.mp c45) h5) (fun h5 h6 => kx2 hq (Or.inr (Or.inl c13)) (bI_n0.mp c45) h5 h6)
          · exact w_thr0 (is := 386) (sp := 1340) (tx := "no such operation or first source") (by decide) rfl rfl (by simp) dX11_wire_48 dX11_wire_51 (Or.inr ⟨dX11_wire_52, dX11_wire_55, dX11_wire_58⟩) ⟨rfl, kx0 hq (fun u => by have := u.2; rw [bI_0.mp c45] at this; cases this)⟩
      · refine w_op (pc' := 17) dX11_wire_16 rfl ?_
        refine w_bipush (v := 94) dX11_wire_17 rfl ?_
        refine w_icmpeq (t := 28) dX11_wire_19 (by decide) (fun c19 => ?_) (fun c19 => ?_)
        · refine w_iconst (v := 1) dX11_wire_28 rfl ?_
          refine w_goto (t := 33) dX11_wire_29 (by decide) ?_
          refine w_op (pc' := 35) (ll' := [_, _, _, _, _, _]) dX11_wire_33 rfl ?_
          refine w_op (pc' := 37) dX11_wire_35 rfl ?_
          refine w_ifeq (t := 48) dX11_wire_37 (by decide) (fun c37 => ?_) (fun c37 => ?_)
          · exact absurd c37 (by decide)
          · refine w_op (pc' := 41) dX11_wire_40 rfl ?_
            refine w_op (pc' := 42) dX11_wire_41 rfl ?_
            refine t_callS (As := [_, _]) dX11_wire_42 rfl rM_X0_isSource (by decide) rfl rfl (by decide) (Nat.le_of_ble_eq_true rfl) (c_X0_isSource ?_)
            show s_w _ _ _ 45 _ _ _ _
            refine w_ifne (t := 59) dX11_wire_45 (by decide) (fun c45 => ?_) (fun c45 => ?_)
            · exact l_X11_wire hD hT hch (fun h5 => k hq (Or.inr (Or.inr (Or.inl c19))) (bI_n0.mp c45) h5) (fun h5 h6 => kx2 hq (Or.inr (Or.inr (Or.inl c19))) (bI_n0.mp c45) h5 h6)
            · exact w_thr0 (is := 386) (sp := 1340) (tx := "no such operation or first source") (by decide) rfl rfl (by simp) dX11_wire_48 dX11_wire_51 (Or.inr ⟨dX11_wire_52, dX11_wire_55, dX11_wire_58⟩) ⟨rfl, kx0 hq (fun u => by have := u.2; rw [bI_0.mp c45] at this; cases this)⟩
        · refine w_op (pc' := 23) dX11_wire_22 rfl ?_
          refine w_bipush (v := 33) dX11_wire_23 rfl ?_
          refine w_icmpne (t := 32) dX11_wire_25 (by decide) (fun c25 => ?_) (fun c25 => ?_)
          · refine w_iconst (v := 0) dX11_wire_32 rfl ?_
            refine w_op (pc' := 35) (ll' := [_, _, _, _, _, _]) dX11_wire_33 rfl ?_
            refine w_op (pc' := 37) dX11_wire_35 rfl ?_
            refine w_ifeq (t := 48) dX11_wire_37 (by decide) (fun c37 => ?_) (fun c37 => ?_)
            · exact w_thr0 (is := 386) (sp := 1340) (tx := "no such operation or first source") (by decide) rfl rfl (by simp) dX11_wire_48 dX11_wire_51 (Or.inr ⟨dX11_wire_52, dX11_wire_55, dX11_wire_58⟩) ⟨rfl, kx0 hq (fun u => u.1.elim c7 (fun v => v.elim c13 (fun v => v.elim c19 (fun v => c25 v))))⟩
            · exact absurd c37 (by decide)
          · refine w_iconst (v := 1) dX11_wire_28 rfl ?_
            refine w_goto (t := 33) dX11_wire_29 (by decide) ?_
            refine w_op (pc' := 35) (ll' := [_, _, _, _, _, _]) dX11_wire_33 rfl ?_
            refine w_op (pc' := 37) dX11_wire_35 rfl ?_
            refine w_ifeq (t := 48) dX11_wire_37 (by decide) (fun c37 => ?_) (fun c37 => ?_)
            · exact absurd c37 (by decide)
            · refine w_op (pc' := 41) dX11_wire_40 rfl ?_
              refine w_op (pc' := 42) dX11_wire_41 rfl ?_
              refine t_callS (As := [_, _]) dX11_wire_42 rfl rM_X0_isSource (by decide) rfl rfl (by decide) (Nat.le_of_ble_eq_true rfl) (c_X0_isSource ?_)
              show s_w _ _ _ 45 _ _ _ _
              refine w_ifne (t := 59) dX11_wire_45 (by decide) (fun c45 => ?_) (fun c45 => ?_)
              · exact l_X11_wire hD hT hch (fun h5 => k hq (Or.inr (Or.inr (Or.inr c25))) (bI_n0.mp c45) h5) (fun h5 h6 => kx2 hq (Or.inr (Or.inr (Or.inr c25))) (bI_n0.mp c45) h5 h6)
              · exact w_thr0 (is := 386) (sp := 1340) (tx := "no such operation or first source") (by decide) rfl rfl (by simp) dX11_wire_48 dX11_wire_51 (Or.inr ⟨dX11_wire_52, dX11_wire_55, dX11_wire_58⟩) ⟨rfl, kx0 hq (fun u => by have := u.2; rw [bI_0.mp c45] at this; cases this)⟩
  · exact ⟨rfl, rfl, kx hq⟩
set_option maxRecDepth 100000 in
set_option maxHeartbeats 4000000 in
theorem c_X11_isOnRelay {X : e_XT} {d : Nat} {p : e_Sp} {I : e_I} {J : e_Jt} {c : Nat × Nat} {w : e_Rw1} {Q : e_Rt → e_SS → Prop} (hp : s_ok p) {x : Int32} (k : 0 ≤ x ∧ x < 16 → Q (.inl (some (.int (bI (s_ro I x))))) (p, I, J, c, w)) (kx : ¬ (0 ≤ x ∧ x < 16) → Q (.inr 2) (p, I, J, (c.1 + 1, c.2 + 6), w)) : s_c X (d + 1) 199 [.ref (p.1 T_HALL 0), .int x] (p, I, J, c, w) Q := by
  refine m_X11_isOnRelay (Nat.le_of_ble_eq_true rfl) ?_
  show s_w _ _ _ 0 _ _ _ _
  refine w_op (pc' := 1) dX11_isOnRelay_0 rfl ?_
  refine t_callS (As := [_]) dX11_isOnRelay_1 rfl rM_X11_needRelay (by decide) rfl rfl (by decide) (Nat.le_of_ble_eq_true rfl) (c_X11_needRelay (fun hq => ?_) (fun hq => ?_))
  · show s_w _ _ _ 4 _ _ _ _
    refine w_op (pc' := 5) dX11_isOnRelay_4 rfl ?_
    refine t_getG0 (G := g_h_CONS) dX11_isOnRelay_5 rfl rfl (by decide) rfl (fun _ => rfl) (hp.1 _ rfl) ?_
    refine w_op (pc' := 9) dX11_isOnRelay_8 rfl ?_
    refine t_callV (t := T_CONS) (As := [_]) dX11_isOnRelay_9 rfl rM_X0_isRelayOn (by decide) rfl rfl (by decide) (by decide) (Nat.le_of_ble_eq_true rfl) rfl (hp.1 _ rfl) (c_X0_isRelayOn hp ?_)
    show s_w _ _ _ 12 _ _ _ _
    exact w_ireturn dX11_isOnRelay_12 ⟨s_rcb (bI_or _), k hq⟩
  · exact ⟨rfl, rfl, kx hq⟩
set_option maxRecDepth 100000 in
set_option maxHeartbeats 4000000 in
theorem c_X11_drive {X : e_XT} {d : Nat} {p : e_Sp} {I : e_I} {J : e_Jt} {c : Nat × Nat} {w : e_Rw1} {Q : e_Rt → e_SS → Prop} {nk nr : Nat} (hD : s_D p I nk nr) {a b : Nat} (hT : s_Tp p I c a b) {x y : Int32} (k : ∀ j, j < nk → x = nI j → (y = -1 ∨ (0 ≤ y ∧ y < 16)) → ∀ p' c', s_D p' (s_stl p nk nr (s_up I f_k_relay j y, J)).1 nk nr → s_xt p p' → s_Tp p' (s_stl p nk nr (s_up I f_k_relay j y, J)).1 c' a b → Q (.inl (some (.int (I f_k_relay j)))) (p', (s_stl p nk nr (s_up I f_k_relay j y, J)).1, (s_stl p nk nr (s_up I f_k_relay j y, J)).2, c', w)) (kx : (x < 0 ∨ nI nk ≤ x) → Q (.inr 2) (p, I, J, (c.1 + 1, c.2 + 6), w)) (kx2 : ∀ j, j < nk → x = nI j → ¬ y = -1 → ¬ (0 ≤ y ∧ y < 16) → Q (.inr 2) (p, I, J, (c.1 + 1, c.2 + 6), w)) : s_c X (d + 7) 200 [.ref (p.1 T_HALL 0), .int x, .int y] (p, I, J, c, w) Q := by
  have hC := hD.1
  have hp := hC.1
  refine m_X11_drive (Nat.le_of_ble_eq_true rfl) ?_
  show s_w _ _ _ 0 _ _ _ _
  refine w_op (pc' := 1) dX11_drive_0 rfl ?_
  refine w_op (pc' := 2) dX11_drive_1 rfl ?_
  refine t_callV (t := T_HALL) (As := [_]) dX11_drive_2 rfl rM_X11_needKnob (by decide) rfl rfl (by decide) (by decide) (Nat.le_of_ble_eq_true rfl) rfl (hp.1 _ rfl) (c_X11_needKnob hC (fun j hj hx hv => ?_) (fun hx => ?_))
  · show s_w _ _ _ 5 _ _ _ _
    refine w_op (pc' := 6) (ll' := [_, _, _, _, _]) dX11_drive_5 rfl ?_
    refine w_op (pc' := 7) dX11_drive_6 rfl ?_
    refine w_iconst (v := (-1)) dX11_drive_7 rfl ?_
    refine w_icmpeq (t := 15) dX11_drive_8 (by decide) (fun c8 => ?_) (fun c8 => ?_)
    · refine w_op (pc' := 16) dX11_drive_15 rfl ?_
      refine t_getI (F := f_k_relay) dX11_drive_16 rfl rfl (by decide) rfl ⟨rfl, fun _ => rfl⟩ (by assumption) ?_
      refine w_op (pc' := 21) (ll' := [_, _, _, _, _]) dX11_drive_19 rfl ?_
      refine w_op (pc' := 22) dX11_drive_21 rfl ?_
      refine w_op (pc' := 23) dX11_drive_22 rfl ?_
      refine t_putI (F := f_k_relay) dX11_drive_23 rfl rfl (by decide) (by decide) rfl rfl (Or.inl rfl) (by assumption) ?_
      refine w_op (pc' := 27) dX11_drive_26 rfl ?_
      refine t_getG0 (G := g_h_WORKS) dX11_drive_27 rfl rfl (by decide) rfl (fun _ => rfl) (hp.1 _ rfl) ?_
      refine t_callV (t := T_WORKS) (As := []) dX11_drive_30 rfl rM_X10_settle (by decide) rfl rfl (by decide) (by decide) (Nat.le_of_ble_eq_true rfl) rfl (hp.1 _ rfl) (c_X10_settle (hD.eq (s_eqC.up (by decide))) (hT.eq (s_eqT.up (by decide))) (fun p1 c1 hD1 hx1 hT1 => ?_))
      show s_w _ _ _ 33 _ _ _ _
      rw [show p.1 T_HALL = p1.1 T_HALL from (hx1.1 T_HALL rfl).1.symm]
      have hp := hD1.1.1
      refine w_op (pc' := 35) dX11_drive_33 rfl ?_
      exact w_ireturn dX11_drive_35 ⟨rfl, k j hj hx (Or.inl c8) p1 c1 hD1 hx1 hT1⟩
    · refine w_op (pc' := 12) dX11_drive_11 rfl ?_
      refine t_callS (As := [_]) dX11_drive_12 rfl rM_X11_needRelay (by decide) rfl rfl (by decide) (Nat.le_of_ble_eq_true rfl) (c_X11_needRelay (fun hq => ?_) (fun hq => ?_))
      · show s_w _ _ _ 15 _ _ _ _
        refine w_op (pc' := 16) dX11_drive_15 rfl ?_
        refine t_getI (F := f_k_relay) dX11_drive_16 rfl rfl (by decide) rfl ⟨rfl, fun _ => rfl⟩ (by assumption) ?_
        refine w_op (pc' := 21) (ll' := [_, _, _, _, _]) dX11_drive_19 rfl ?_
        refine w_op (pc' := 22) dX11_drive_21 rfl ?_
        refine w_op (pc' := 23) dX11_drive_22 rfl ?_
        refine t_putI (F := f_k_relay) dX11_drive_23 rfl rfl (by decide) (by decide) rfl rfl (Or.inl rfl) (by assumption) ?_
        refine w_op (pc' := 27) dX11_drive_26 rfl ?_
        refine t_getG0 (G := g_h_WORKS) dX11_drive_27 rfl rfl (by decide) rfl (fun _ => rfl) (hp.1 _ rfl) ?_
        refine t_callV (t := T_WORKS) (As := []) dX11_drive_30 rfl rM_X10_settle (by decide) rfl rfl (by decide) (by decide) (Nat.le_of_ble_eq_true rfl) rfl (hp.1 _ rfl) (c_X10_settle (hD.eq (s_eqC.up (by decide))) (hT.eq (s_eqT.up (by decide))) (fun p1 c1 hD1 hx1 hT1 => ?_))
        show s_w _ _ _ 33 _ _ _ _
        rw [show p.1 T_HALL = p1.1 T_HALL from (hx1.1 T_HALL rfl).1.symm]
        have hp := hD1.1.1
        refine w_op (pc' := 35) dX11_drive_33 rfl ?_
        exact w_ireturn dX11_drive_35 ⟨rfl, k j hj hx (Or.inr hq) p1 c1 hD1 hx1 hT1⟩
      · exact ⟨rfl, rfl, kx2 j hj hx c8 hq⟩
  · exact ⟨rfl, rfl, kx hx⟩
set_option maxRecDepth 100000 in
set_option maxHeartbeats 4000000 in
theorem c_X11_record {X : e_XT} {d : Nat} {p : e_Sp} {I : e_I} {J : e_Jt} {c : Nat × Nat} {w : e_Rw1} {Q : e_Rt → e_SS → Prop} (hp : s_ok p) {x : Int32} (hb : vp_nar .char (I f_recording 0) = I f_recording 0) (k1 : x = 45 → Q (.inl (some (.int (I f_recording 0)))) (p, s_up I f_recording 0 45, J, c, w)) (k2 : (x = 107 ∨ x = 114) → Q (.inl (some (.int (I f_recording 0)))) (p, s_up (s_up (s_up (s_up I f_recording 0 x) f_tkind 0 x) f_tsize 0 0) f_startedAt 0 (I f_now 0), J, c, w)) (kx : ¬ (x = 107 ∨ x = 114 ∨ x = 45) → Q (.inr 0) (p, I, J, (c.1 + 1, c.2 + 6), w)) : s_c X (d + 1) 201 [.ref (p.1 T_HALL 0), .int x] (p, I, J, c, w) Q := by
  refine m_X11_record (Nat.le_of_ble_eq_true rfl) ?_
  show s_w _ _ _ 0 _ _ _ _
  refine w_op (pc' := 1) dX11_record_0 rfl ?_
  refine w_bipush (v := 107) dX11_record_1 rfl ?_
  refine w_icmpeq (t := 29) dX11_record_3 (by decide) (fun c3 => ?_) (fun c3 => ?_)
  · have hz : x = 107 ∨ x = 114 ∨ x = 45 := by first | exact Or.inl c3 | exact Or.inr (Or.inl c9) | exact Or.inr (Or.inr c15)
    refine w_op (pc' := 30) dX11_record_29 rfl ?_
    refine t_getG0 (G := g_h_TAPE) dX11_record_30 rfl rfl (by decide) rfl (fun _ => rfl) (hp.1 _ rfl) ?_
    refine t_getI (F := f_recording) dX11_record_33 rfl rfl (by decide) rfl ⟨rfl, fun _ => rfl⟩ (hp.1 _ rfl) ?_
    refine w_op (pc' := 37) (ll' := [_, _, _]) dX11_record_36 rfl ?_
    refine w_op (pc' := 38) dX11_record_37 rfl ?_
    refine w_bipush (v := 45) dX11_record_38 rfl ?_
    refine w_icmpne (t := 55) dX11_record_40 (by decide) (fun c40 => ?_) (fun c40 => ?_)
    · refine w_op (pc' := 56) dX11_record_55 rfl ?_
      refine t_getG0 (G := g_h_TAPE) dX11_record_56 rfl rfl (by decide) rfl (fun _ => rfl) (hp.1 _ rfl) ?_
      refine w_op (pc' := 60) dX11_record_59 rfl ?_
      refine w_op (pc' := 61) dX11_record_60 rfl ?_
      refine t_getG0 (G := g_h_WORKS) dX11_record_61 rfl rfl (by decide) rfl (fun _ => rfl) (hp.1 _ rfl) ?_
      refine t_getI (F := f_now) dX11_record_64 rfl rfl (by decide) rfl ⟨rfl, fun _ => rfl⟩ (hp.1 _ rfl) ?_
      refine t_callV (t := T_TAPE) (As := [_, _]) dX11_record_67 rfl rM_X9_start (by decide) rfl rfl (by decide) (by decide) (Nat.le_of_ble_eq_true rfl) rfl (hp.1 _ rfl) (c_X9_start hp (by rcases hz with z1 | z1 | z1 <;> (rw [z1]; decide +kernel)) ?_)
      show s_w _ _ _ 70 _ _ _ _
      refine w_op (pc' := 71) dX11_record_70 rfl ?_
      exact w_ireturn dX11_record_71 ⟨s_rcc hb, k2 (hz.elim Or.inl (fun z => z.elim Or.inr (fun z => absurd z c40)))⟩
    · refine w_op (pc' := 44) dX11_record_43 rfl ?_
      refine t_getG0 (G := g_h_TAPE) dX11_record_44 rfl rfl (by decide) rfl (fun _ => rfl) (hp.1 _ rfl) ?_
      refine w_bipush (v := 45) dX11_record_47 rfl ?_
      refine t_putI (F := f_recording) dX11_record_49 rfl rfl (by decide) (by decide) rfl (s_ckc (by decide +kernel)) (Or.inl rfl) (hp.1 _ rfl) ?_
      refine w_goto (t := 70) dX11_record_52 (by decide) ?_
      refine w_op (pc' := 71) dX11_record_70 rfl ?_
      exact w_ireturn dX11_record_71 ⟨s_rcc hb, k1 c40⟩
  · refine w_op (pc' := 7) dX11_record_6 rfl ?_
    refine w_bipush (v := 114) dX11_record_7 rfl ?_
    refine w_icmpeq (t := 29) dX11_record_9 (by decide) (fun c9 => ?_) (fun c9 => ?_)
    · have hz : x = 107 ∨ x = 114 ∨ x = 45 := by first | exact Or.inl c3 | exact Or.inr (Or.inl c9) | exact Or.inr (Or.inr c15)
      refine w_op (pc' := 30) dX11_record_29 rfl ?_
      refine t_getG0 (G := g_h_TAPE) dX11_record_30 rfl rfl (by decide) rfl (fun _ => rfl) (hp.1 _ rfl) ?_
      refine t_getI (F := f_recording) dX11_record_33 rfl rfl (by decide) rfl ⟨rfl, fun _ => rfl⟩ (hp.1 _ rfl) ?_
      refine w_op (pc' := 37) (ll' := [_, _, _]) dX11_record_36 rfl ?_
      refine w_op (pc' := 38) dX11_record_37 rfl ?_
      refine w_bipush (v := 45) dX11_record_38 rfl ?_
      refine w_icmpne (t := 55) dX11_record_40 (by decide) (fun c40 => ?_) (fun c40 => ?_)
      · refine w_op (pc' := 56) dX11_record_55 rfl ?_
        refine t_getG0 (G := g_h_TAPE) dX11_record_56 rfl rfl (by decide) rfl (fun _ => rfl) (hp.1 _ rfl) ?_
        refine w_op (pc' := 60) dX11_record_59 rfl ?_
        refine w_op (pc' := 61) dX11_record_60 rfl ?_
        refine t_getG0 (G := g_h_WORKS) dX11_record_61 rfl rfl (by decide) rfl (fun _ => rfl) (hp.1 _ rfl) ?_
        refine t_getI (F := f_now) dX11_record_64 rfl rfl (by decide) rfl ⟨rfl, fun _ => rfl⟩ (hp.1 _ rfl) ?_
        refine t_callV (t := T_TAPE) (As := [_, _]) dX11_record_67 rfl rM_X9_start (by decide) rfl rfl (by decide) (by decide) (Nat.le_of_ble_eq_true rfl) rfl (hp.1 _ rfl) (c_X9_start hp (by rcases hz with z1 | z1 | z1 <;> (rw [z1]; decide +kernel)) ?_)
        show s_w _ _ _ 70 _ _ _ _
        refine w_op (pc' := 71) dX11_record_70 rfl ?_
        exact w_ireturn dX11_record_71 ⟨s_rcc hb, k2 (hz.elim Or.inl (fun z => z.elim Or.inr (fun z => absurd z c40)))⟩
      · refine w_op (pc' := 44) dX11_record_43 rfl ?_
        refine t_getG0 (G := g_h_TAPE) dX11_record_44 rfl rfl (by decide) rfl (fun _ => rfl) (hp.1 _ rfl) ?_
        refine w_bipush (v := 45) dX11_record_47 rfl ?_
        refine t_putI (F := f_recording) dX11_record_49 rfl rfl (by decide) (by decide) rfl (s_ckc (by decide +kernel)) (Or.inl rfl) (hp.1 _ rfl) ?_
        refine w_goto (t := 70) dX11_record_52 (by decide) ?_
        refine w_op (pc' := 71) dX11_record_70 rfl ?_
        exact w_ireturn dX11_record_71 ⟨s_rcc hb, k1 c40⟩
    · refine w_op (pc' := 13) dX11_record_12 rfl ?_
      refine w_bipush (v := 45) dX11_record_13 rfl ?_
      refine w_icmpeq (t := 29) dX11_record_15 (by decide) (fun c15 => ?_) (fun c15 => ?_)
      · have hz : x = 107 ∨ x = 114 ∨ x = 45 := by first | exact Or.inl c3 | exact Or.inr (Or.inl c9) | exact Or.inr (Or.inr c15)
        refine w_op (pc' := 30) dX11_record_29 rfl ?_
        refine t_getG0 (G := g_h_TAPE) dX11_record_30 rfl rfl (by decide) rfl (fun _ => rfl) (hp.1 _ rfl) ?_
        refine t_getI (F := f_recording) dX11_record_33 rfl rfl (by decide) rfl ⟨rfl, fun _ => rfl⟩ (hp.1 _ rfl) ?_
        refine w_op (pc' := 37) (ll' := [_, _, _]) dX11_record_36 rfl ?_
        refine w_op (pc' := 38) dX11_record_37 rfl ?_
        refine w_bipush (v := 45) dX11_record_38 rfl ?_
        refine w_icmpne (t := 55) dX11_record_40 (by decide) (fun c40 => ?_) (fun c40 => ?_)
        · refine w_op (pc' := 56) dX11_record_55 rfl ?_
          refine t_getG0 (G := g_h_TAPE) dX11_record_56 rfl rfl (by decide) rfl (fun _ => rfl) (hp.1 _ rfl) ?_
          refine w_op (pc' := 60) dX11_record_59 rfl ?_
          refine w_op (pc' := 61) dX11_record_60 rfl ?_
          refine t_getG0 (G := g_h_WORKS) dX11_record_61 rfl rfl (by decide) rfl (fun _ => rfl) (hp.1 _ rfl) ?_
          refine t_getI (F := f_now) dX11_record_64 rfl rfl (by decide) rfl ⟨rfl, fun _ => rfl⟩ (hp.1 _ rfl) ?_
          refine t_callV (t := T_TAPE) (As := [_, _]) dX11_record_67 rfl rM_X9_start (by decide) rfl rfl (by decide) (by decide) (Nat.le_of_ble_eq_true rfl) rfl (hp.1 _ rfl) (c_X9_start hp (by rcases hz with z1 | z1 | z1 <;> (rw [z1]; decide +kernel)) ?_)
          show s_w _ _ _ 70 _ _ _ _
          refine w_op (pc' := 71) dX11_record_70 rfl ?_
          exact w_ireturn dX11_record_71 ⟨s_rcc hb, k2 (hz.elim Or.inl (fun z => z.elim Or.inr (fun z => absurd z c40)))⟩
        · refine w_op (pc' := 44) dX11_record_43 rfl ?_
          refine t_getG0 (G := g_h_TAPE) dX11_record_44 rfl rfl (by decide) rfl (fun _ => rfl) (hp.1 _ rfl) ?_
          refine w_bipush (v := 45) dX11_record_47 rfl ?_
          refine t_putI (F := f_recording) dX11_record_49 rfl rfl (by decide) (by decide) rfl (s_ckc (by decide +kernel)) (Or.inl rfl) (hp.1 _ rfl) ?_
          refine w_goto (t := 70) dX11_record_52 (by decide) ?_
          refine w_op (pc' := 71) dX11_record_70 rfl ?_
          exact w_ireturn dX11_record_71 ⟨s_rcc hb, k1 c40⟩
      · exact w_thr0 (is := 400) (sp := 1474) (tx := "no such thing to record") (by decide) rfl rfl (by simp) dX11_record_18 dX11_record_21 (Or.inr ⟨dX11_record_22, dX11_record_25, dX11_record_28⟩) ⟨rfl, kx (fun z => z.elim c3 (fun z => z.elim c9 c15))⟩
set_option maxRecDepth 100000 in
set_option maxHeartbeats 4000000 in
theorem c_X11_realise {X : e_XT} {d : Nat} {p : e_Sp} {I : e_I} {J : e_Jt} {c : Nat × Nat} {w : e_Rw1} {Q : e_Rt → e_SS → Prop} {nk nr : Nat} (hD : s_D p I nk nr) {a b : Nat} (hT : s_Tp p I c a b) (hc : c.1 < e_xb) (hl : (X 6).1 = 7 ∧ (X 7).1 = 7) (hX : ∀ y, (X (s_fig y)).1 ≤ 100) {x y : Int32} (k : s_isk 0 x → ¬ nI (X (s_fig y)).1 = 0 → ¬ s_deg X I x < 0 → ∀ p' c', s_D p' (s_stl p nk nr (s_pch (s_cho X I (s_fig y) x), J)).1 nk nr → s_xt p p' → s_Tp p' (s_stl p nk nr (s_pch (s_cho X I (s_fig y) x), J)).1 c' a b → Q (.inl (some (.int (s_ch1 X I (s_fig y) x f_bestBad 0)))) (p', (s_stl p nk nr (s_pch (s_cho X I (s_fig y) x), J)).1, (s_stl p nk nr (s_pch (s_cho X I (s_fig y) x), J)).2, c', w)) (kx : ¬ s_isk 0 x → Q (.inr 2) (p, I, J, (c.1 + 1, c.2 + 6), w)) (kx0 : s_isk 0 x → nI (X (s_fig y)).1 = 0 → Q (.inr 0) (p, I, J, (c.1 + 1, c.2 + 6), w)) (kx3 : s_isk 0 x → ¬ nI (X (s_fig y)).1 = 0 → s_deg X I x < 0 → Q (.inr 3) (p, I, J, (c.1 + 1, c.2 + 6), w)) : s_c X (d + 8) 204 [.ref (p.1 T_HALL 0), .int x, .int y] (p, I, J, c, w) Q := by
  have hC := hD.1
  have hp := hC.1
  have hfg := s_fig_lt y
  refine m_X11_realise (Nat.le_of_ble_eq_true rfl) ?_
  show s_w _ _ _ 0 _ _ _ _
  refine w_iconst (v := 0) dX11_realise_0 rfl ?_
  refine w_op (pc' := 2) dX11_realise_1 rfl ?_
  refine t_callS (As := [_, _]) dX11_realise_2 rfl rM_X11_needKey (by decide) rfl rfl (by decide) (Nat.le_of_ble_eq_true rfl) (c_X11_needKey (fun hy => ?_) (fun hy => ?_))
  · show s_w _ _ _ 5 _ _ _ _
    refine w_op (pc' := 6) dX11_realise_5 rfl ?_
    refine t_callS (As := [_]) dX11_realise_6 rfl rM_X1_stepsOf (by decide) rfl rfl (by decide) (Nat.le_of_ble_eq_true rfl) (c_X1_stepsOf ?_)
    show s_w _ _ _ 9 _ _ _ _
    refine w_op (pc' := 10) (ll' := [_, _, _, _, _]) dX11_realise_9 rfl ?_
    refine w_op (pc' := 11) dX11_realise_10 rfl ?_
    refine t_xlen dX11_realise_11 (by omega) hc ?_
    refine w_ifne (t := 26) dX11_realise_12 (by decide) (fun c12 => ?_) (fun c12 => ?_)
    · refine w_op (pc' := 27) dX11_realise_26 rfl ?_
      refine t_getG0 (G := g_h_CONT) dX11_realise_27 rfl rfl (by decide) rfl (fun _ => rfl) (hp.1 _ rfl) ?_
      refine w_op (pc' := 31) dX11_realise_30 rfl ?_
      refine t_callV (t := T_CONT) (As := [_]) dX11_realise_31 rfl rM_X1_degreeOf (by decide) rfl rfl (by decide) (by decide) (Nat.le_of_ble_eq_true rfl) rfl (hp.1 _ rfl) (c_X1_degreeOf hp hc ⟨by omega, by omega⟩ ?_)
      show s_w _ _ _ 34 _ _ _ _
      refine w_ifge (t := 48) dX11_realise_34 (by decide) (fun c34 => ?_) (fun c34 => ?_)
      · refine w_op (pc' := 49) dX11_realise_48 rfl ?_
        refine t_getG0 (G := g_h_CONT) dX11_realise_49 rfl rfl (by decide) rfl (fun _ => rfl) (hp.1 _ rfl) ?_
        refine w_op (pc' := 53) dX11_realise_52 rfl ?_
        refine w_op (pc' := 54) dX11_realise_53 rfl ?_
        refine t_callV (t := T_CONT) (As := [_, _]) dX11_realise_54 rfl rM_X1_choose (by decide) rfl rfl (by decide) (by decide) (Nat.le_of_ble_eq_true rfl) rfl (hp.1 _ rfl) (c_X1_choose hp hc hl hfg (hX y) ?_)
        show s_w _ _ _ 57 _ _ _ _
        refine w_op (pc' := 59) (ll' := [_, _, _, _, _]) dX11_realise_57 rfl ?_
        refine w_op (pc' := 60) dX11_realise_59 rfl ?_
        refine t_getG0 (G := g_h_WORKS) dX11_realise_60 rfl rfl (by decide) rfl (fun _ => rfl) (hp.1 _ rfl) ?_
        refine w_op (pc' := 64) dX11_realise_63 rfl ?_
        refine t_getG0 (G := g_h_CONT) dX11_realise_64 rfl rfl (by decide) rfl (fun _ => rfl) (hp.1 _ rfl) ?_
        refine t_callV (t := T_WORKS) (As := [_]) dX11_realise_67 rfl rM_X10_pressChord (by decide) rfl rfl (by decide) (by decide) (Nat.le_of_ble_eq_true rfl) rfl (hp.1 _ rfl) (c_X10_pressChord (hD.eq s_eqC.cho) (hT.eq s_eqT.cho) (fun p1 c1 hD1 hx1 hT1 => ?_))
        show s_w _ _ _ 70 _ _ _ _
        refine w_op (pc' := 72) dX11_realise_70 rfl ?_
        exact w_ireturn dX11_realise_72 ⟨rfl, k hy c12 (Int32.not_lt.mpr c34) p1 c1 hD1 hx1 hT1⟩
      · exact w_thr3 (is := 457) (sp := 1418) (tx := "the key is not of the scale") (by decide) rfl rfl (by simp) dX11_realise_37 dX11_realise_40 (Or.inr ⟨dX11_realise_41, dX11_realise_44, dX11_realise_47⟩) ⟨rfl, kx3 hy c12 (Int32.not_le.mp c34)⟩
    · exact w_thr0 (is := 450) (sp := 1409) (tx := "no such figure") (by decide) rfl rfl (by simp) dX11_realise_15 dX11_realise_18 (Or.inr ⟨dX11_realise_19, dX11_realise_22, dX11_realise_25⟩) ⟨rfl, kx0 hy c12⟩
  · exact ⟨rfl, rfl, kx hy⟩
set_option maxRecDepth 100000 in
set_option maxHeartbeats 4000000 in
theorem c_X11_speakingShare {X : e_XT} {d : Nat} {p : e_Sp} {I : e_I} {J : e_Jt} {c : Nat × Nat} {w : e_Rw1} {Q : e_Rt → e_SS → Prop} {nk nr : Nat} (hD : s_D p I nk nr) (hn : ¬ s_aps p nr = 0 → e_n32 (FP.fdiv (FP.i2f (I f_speakers 0)) (FP.i2f (s_aps p nr))) = true) (k : ¬ s_aps p nr = 0 → Q (.inl (some (.float (FP.fdiv (FP.i2f (I f_speakers 0)) (FP.i2f (s_aps p nr)))))) (p, I, J, c, w)) (kx : s_aps p nr = 0 → Q (.inr 5) (p, I, J, (c.1 + 1, c.2 + 6), w)) : s_c X (d + 4) 205 [.ref (p.1 T_HALL 0)] (p, I, J, c, w) Q := by
  have hC := hD.1
  have hp := hC.1
  refine m_X11_speakingShare (Nat.le_of_ble_eq_true rfl) ?_
  show s_w _ _ _ 0 _ _ _ _
  refine w_op (pc' := 1) dX11_speakingShare_0 rfl ?_
  refine t_getG0 (G := g_h_WORKS) dX11_speakingShare_1 rfl rfl (by decide) rfl (fun _ => rfl) (hp.1 _ rfl) ?_
  refine t_callV (t := T_WORKS) (As := []) dX11_speakingShare_4 rfl rM_X10_allPipes (by decide) rfl rfl (by decide) (by decide) (Nat.le_of_ble_eq_true rfl) rfl (hp.1 _ rfl) (c_X10_allPipes hD ?_)
  show s_w _ _ _ 7 _ _ _ _
  refine w_op (pc' := 8) (ll' := [_, _]) dX11_speakingShare_7 rfl ?_
  refine w_op (pc' := 9) dX11_speakingShare_8 rfl ?_
  refine w_ifne (t := 23) dX11_speakingShare_9 (by decide) (fun c9 => ?_) (fun c9 => ?_)
  · refine w_op (pc' := 24) dX11_speakingShare_23 rfl ?_
    refine t_getG0 (G := g_h_WORKS) dX11_speakingShare_24 rfl rfl (by decide) rfl (fun _ => rfl) (hp.1 _ rfl) ?_
    refine t_getI (F := f_speakers) dX11_speakingShare_27 rfl rfl (by decide) rfl ⟨rfl, fun _ => rfl⟩ (hp.1 _ rfl) ?_
    refine w_op (pc' := 31) dX11_speakingShare_30 rfl ?_
    refine w_op (pc' := 32) dX11_speakingShare_31 rfl ?_
    refine w_op (pc' := 33) dX11_speakingShare_32 rfl ?_
    refine w_op (pc' := 34) dX11_speakingShare_33 (e_opF_some rfl rfl rfl rfl rfl (if_pos (hn c9))) ?_
    exact w_freturn dX11_speakingShare_34 ⟨rfl, k c9⟩
  · exact w_thr5 (is := 473) (sp := 1678) (tx := "there are no pipes") (by decide) rfl rfl (by simp) dX11_speakingShare_12 dX11_speakingShare_15 (Or.inr ⟨dX11_speakingShare_16, dX11_speakingShare_19, dX11_speakingShare_22⟩) ⟨rfl, kx c9⟩
set_option maxRecDepth 100000 in
set_option maxHeartbeats 4000000 in
theorem c_X11_meanPitch {X : e_XT} {d : Nat} {p : e_Sp} {I : e_I} {J : e_Jt} {c : Nat × Nat} {w : e_Rw1} {Q : e_Rt → e_SS → Prop} {nk nr : Nat} (hD : s_D p I nk nr) (hn : ¬ I f_speakers 0 = 0 → e_n64 (FP.ddiv (FP.i2d (s_pts p I nr)) (FP.i2d (I f_speakers 0))) = true) (k : ¬ I f_speakers 0 = 0 → Q (.inl (some (.double (FP.ddiv (FP.i2d (s_pts p I nr)) (FP.i2d (I f_speakers 0)))))) (p, I, J, c, w)) (kx : I f_speakers 0 = 0 → Q (.inr 5) (p, I, J, (c.1 + 1, c.2 + 6), w)) : s_c X (d + 6) 206 [.ref (p.1 T_HALL 0)] (p, I, J, c, w) Q := by
  have hC := hD.1
  have hp := hC.1
  refine m_X11_meanPitch (Nat.le_of_ble_eq_true rfl) ?_
  show s_w _ _ _ 0 _ _ _ _
  refine w_op (pc' := 1) dX11_meanPitch_0 rfl ?_
  refine t_getG0 (G := g_h_WORKS) dX11_meanPitch_1 rfl rfl (by decide) rfl (fun _ => rfl) (hp.1 _ rfl) ?_
  refine t_getI (F := f_speakers) dX11_meanPitch_4 rfl rfl (by decide) rfl ⟨rfl, fun _ => rfl⟩ (hp.1 _ rfl) ?_
  refine w_op (pc' := 8) (ll' := [_, _]) dX11_meanPitch_7 rfl ?_
  refine w_op (pc' := 9) dX11_meanPitch_8 rfl ?_
  refine w_ifne (t := 23) dX11_meanPitch_9 (by decide) (fun c9 => ?_) (fun c9 => ?_)
  · refine w_op (pc' := 24) dX11_meanPitch_23 rfl ?_
    refine t_getG0 (G := g_h_WORKS) dX11_meanPitch_24 rfl rfl (by decide) rfl (fun _ => rfl) (hp.1 _ rfl) ?_
    refine t_callV (t := T_WORKS) (As := []) dX11_meanPitch_27 rfl rM_X10_sumOfPitches (by decide) rfl rfl (by decide) (by decide) (Nat.le_of_ble_eq_true rfl) rfl (hp.1 _ rfl) (c_X10_sumOfPitches hD ?_)
    show s_w _ _ _ 30 _ _ _ _
    refine w_op (pc' := 31) dX11_meanPitch_30 rfl ?_
    refine w_op (pc' := 32) dX11_meanPitch_31 rfl ?_
    refine w_op (pc' := 33) dX11_meanPitch_32 rfl ?_
    refine w_op (pc' := 34) dX11_meanPitch_33 (e_opF_some rfl rfl rfl rfl rfl (if_pos (hn c9))) ?_
    exact w_dreturn dX11_meanPitch_34 ⟨rfl, k c9⟩
  · exact w_thr5 (is := 476) (sp := 1688) (tx := "no pipe speaks") (by decide) rfl rfl (by simp) dX11_meanPitch_12 dX11_meanPitch_15 (Or.inr ⟨dX11_meanPitch_16, dX11_meanPitch_19, dX11_meanPitch_22⟩) ⟨rfl, kx c9⟩
