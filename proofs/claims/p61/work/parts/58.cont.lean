/-! 58: the continuo's small methods (printed by wip/whole/p58.py) -/
def s_r12 (x : Int32) : Int32 := x - x / 12 * 12
def s_fig (x : Int32) : Nat := if x = 53 then 1 else if x = 54 then 2 else if x = 52 then 3 else if x = 55 then 4 else 5
def s_apt (x y z : Int32) : Bool := !decide (s_r12 (y - x) = 0) && (!decide (s_r12 (z - y) = 0) && !decide (s_r12 (z - x) = 0))
def s_pfc (b : Int32) : Bool := decide (s_r12 b = 7) || (decide (0 < b) && decide (s_r12 b = 0))
def s_agn (a b : Int32) : Bool := decide (0 < a) && decide (s_r12 a = s_r12 b)
def s_bst (I : e_I) (u v : Nat) : Bool := s_pfc (s_abs (I f_a_chord u - I f_a_chord v)) && (s_agn (s_abs (I f_a_trial u - I f_a_trial v)) (s_abs (I f_a_chord u - I f_a_chord v)) && (!decide (I f_a_trial u = I f_a_chord u) && !decide (I f_a_trial v = I f_a_chord v)))
def s_way (I : e_I) (x v y : Int32) : Int32 := s_abs (x - (if I f_hasChord 0 = 0 then y else s_cky I v))
set_option maxRecDepth 100000 in
set_option maxHeartbeats 4000000 in
theorem c_X1_stepsOf {X : e_XT} {d : Nat} {p : e_Sp} {I : e_I} {J : e_Jt} {c : Nat × Nat} {w : e_Rw1} {Q : e_Rt → e_SS → Prop} {x : Int32} (k : Q (.inl (some (.ref (e_xb + s_fig x)))) (p, I, J, c, w)) : s_c X (d + 0) 35 [.int x] (p, I, J, c, w) Q := by
  refine m_X1_stepsOf (Nat.le_of_ble_eq_true rfl) ?_
  show s_w _ _ _ 0 _ _ _ _
  refine w_op (pc' := 1) dX1_stepsOf_0 rfl ?_
  refine w_bipush (v := 53) dX1_stepsOf_1 rfl ?_
  refine w_icmpne (t := 10) dX1_stepsOf_3 (by decide) (fun c3 => ?_) (fun c3 => ?_)
  · refine w_op (pc' := 11) dX1_stepsOf_10 rfl ?_
    refine w_bipush (v := 54) dX1_stepsOf_11 rfl ?_
    refine w_icmpne (t := 20) dX1_stepsOf_13 (by decide) (fun c13 => ?_) (fun c13 => ?_)
    · refine w_op (pc' := 21) dX1_stepsOf_20 rfl ?_
      refine w_bipush (v := 52) dX1_stepsOf_21 rfl ?_
      refine w_icmpne (t := 30) dX1_stepsOf_23 (by decide) (fun c23 => ?_) (fun c23 => ?_)
      · refine w_op (pc' := 31) dX1_stepsOf_30 rfl ?_
        refine w_bipush (v := 55) dX1_stepsOf_31 rfl ?_
        refine w_icmpne (t := 42) dX1_stepsOf_33 (by decide) (fun c33 => ?_) (fun c33 => ?_)
        · refine w_gets dX1_stepsOf_42 rfl ?_
          exact w_areturn dX1_stepsOf_45 ⟨rfl, (by unfold s_fig at k; rw [if_neg c3, if_neg c13, if_neg c23, if_neg c33] at k; exact k)⟩
        · refine w_gets dX1_stepsOf_36 rfl ?_
          refine w_goto (t := 45) dX1_stepsOf_39 (by decide) ?_
          exact w_areturn dX1_stepsOf_45 ⟨rfl, (by unfold s_fig at k; rw [if_neg c3, if_neg c13, if_neg c23, if_pos c33] at k; exact k)⟩
      · refine w_gets dX1_stepsOf_26 rfl ?_
        exact w_areturn dX1_stepsOf_29 ⟨rfl, (by unfold s_fig at k; rw [if_neg c3, if_neg c13, if_pos c23] at k; exact k)⟩
    · refine w_gets dX1_stepsOf_16 rfl ?_
      exact w_areturn dX1_stepsOf_19 ⟨rfl, (by unfold s_fig at k; rw [if_neg c3, if_pos c13] at k; exact k)⟩
  · refine w_gets dX1_stepsOf_6 rfl ?_
    exact w_areturn dX1_stepsOf_9 ⟨rfl, (by unfold s_fig at k; rw [if_pos c3] at k; exact k)⟩
set_option maxRecDepth 100000 in
set_option maxHeartbeats 4000000 in
theorem c_X1_areApart {X : e_XT} {d : Nat} {p : e_Sp} {I : e_I} {J : e_Jt} {c : Nat × Nat} {w : e_Rw1} {Q : e_Rt → e_SS → Prop} {x y z : Int32} (k : Q (.inl (some (.int (bI (s_apt x y z))))) (p, I, J, c, w)) : s_c X (d + 0) 39 [.int x, .int y, .int z] (p, I, J, c, w) Q := by
  refine m_X1_areApart (Nat.le_of_ble_eq_true rfl) ?_
  show s_w _ _ _ 0 _ _ _ _
  refine w_op (pc' := 1) dX1_areApart_0 rfl ?_
  refine w_op (pc' := 2) dX1_areApart_1 rfl ?_
  refine w_op (pc' := 3) dX1_areApart_2 rfl ?_
  refine w_bipush (v := 12) dX1_areApart_3 rfl ?_
  refine w_op (pc' := 6) dX1_areApart_5 (by rfl) ?_
  refine w_ifeq (t := 31) dX1_areApart_6 (by decide) (fun c6 => ?_) (fun c6 => ?_)
  · refine w_iconst (v := 0) dX1_areApart_31 rfl ?_
    exact w_ireturn dX1_areApart_32 ⟨s_rcb (by first | exact Or.inl rfl | exact Or.inr rfl | exact bI_or _), s_eqi (by unfold s_apt s_r12; grind) k⟩
  · refine w_op (pc' := 10) dX1_areApart_9 rfl ?_
    refine w_op (pc' := 11) dX1_areApart_10 rfl ?_
    refine w_op (pc' := 12) dX1_areApart_11 rfl ?_
    refine w_bipush (v := 12) dX1_areApart_12 rfl ?_
    refine w_op (pc' := 15) dX1_areApart_14 (by rfl) ?_
    refine w_ifeq (t := 31) dX1_areApart_15 (by decide) (fun c15 => ?_) (fun c15 => ?_)
    · refine w_iconst (v := 0) dX1_areApart_31 rfl ?_
      exact w_ireturn dX1_areApart_32 ⟨s_rcb (by first | exact Or.inl rfl | exact Or.inr rfl | exact bI_or _), s_eqi (by unfold s_apt s_r12; grind) k⟩
    · refine w_op (pc' := 19) dX1_areApart_18 rfl ?_
      refine w_op (pc' := 20) dX1_areApart_19 rfl ?_
      refine w_op (pc' := 21) dX1_areApart_20 rfl ?_
      refine w_bipush (v := 12) dX1_areApart_21 rfl ?_
      refine w_op (pc' := 24) dX1_areApart_23 (by rfl) ?_
      refine w_ifeq (t := 31) dX1_areApart_24 (by decide) (fun c24 => ?_) (fun c24 => ?_)
      · refine w_iconst (v := 0) dX1_areApart_31 rfl ?_
        exact w_ireturn dX1_areApart_32 ⟨s_rcb (by first | exact Or.inl rfl | exact Or.inr rfl | exact bI_or _), s_eqi (by unfold s_apt s_r12; grind) k⟩
      · refine w_iconst (v := 1) dX1_areApart_27 rfl ?_
        refine w_goto (t := 32) dX1_areApart_28 (by decide) ?_
        exact w_ireturn dX1_areApart_32 ⟨s_rcb (by first | exact Or.inl rfl | exact Or.inr rfl | exact bI_or _), s_eqi (by unfold s_apt s_r12; grind) k⟩
set_option maxRecDepth 100000 in
set_option maxHeartbeats 4000000 in
theorem c_X1_isBadStep {X : e_XT} {d : Nat} {p : e_Sp} {I : e_I} {J : e_Jt} {c : Nat × Nat} {w : e_Rw1} {Q : e_Rt → e_SS → Prop} (hp : s_ok p) {u v : Nat} (hu : u < 4) (hv : v < 4) (k : Q (.inl (some (.int (bI (s_bst I u v))))) (p, I, J, c, w)) : s_c X (d + 1) 42 [.ref (p.1 T_CONT 0), .int (nI u), .int (nI v)] (p, I, J, c, w) Q := by
  refine m_X1_isBadStep (Nat.le_of_ble_eq_true rfl) ?_
  show s_w _ _ _ 0 _ _ _ _
  refine w_op (pc' := 1) dX1_isBadStep_0 rfl ?_
  refine t_getG0 (G := g_o_chord) dX1_isBadStep_1 rfl rfl (by decide) rfl (fun _ => rfl) (hp.1 _ rfl) ?_
  refine w_op (pc' := 5) dX1_isBadStep_4 rfl ?_
  refine t_iald0 (F := f_a_chord) dX1_isBadStep_5 rfl (by decide) rfl (hp.1 _ rfl) (s_ix.nI (N := 4) hu (by decide)) hu ?_
  refine w_op (pc' := 7) dX1_isBadStep_6 rfl ?_
  refine t_getG0 (G := g_o_chord) dX1_isBadStep_7 rfl rfl (by decide) rfl (fun _ => rfl) (hp.1 _ rfl) ?_
  refine w_op (pc' := 11) dX1_isBadStep_10 rfl ?_
  refine t_iald0 (F := f_a_chord) dX1_isBadStep_11 rfl (by decide) rfl (hp.1 _ rfl) (s_ix.nI (N := 4) hv (by decide)) hv ?_
  refine w_op (pc' := 13) dX1_isBadStep_12 rfl ?_
  refine t_callS (As := [_]) dX1_isBadStep_13 rfl rM_J9_abs_0f7a4 (by decide) rfl rfl (by decide) (Nat.le_of_ble_eq_true rfl) (c_abs ?_)
  show s_w _ _ _ 16 _ _ _ _
  refine w_op (pc' := 17) (ll' := [_, _, _, _, _, _, _]) dX1_isBadStep_16 rfl ?_
  refine w_op (pc' := 18) dX1_isBadStep_17 rfl ?_
  refine t_getG0 (G := g_o_trial) dX1_isBadStep_18 rfl rfl (by decide) rfl (fun _ => rfl) (hp.1 _ rfl) ?_
  refine w_op (pc' := 22) dX1_isBadStep_21 rfl ?_
  refine t_iald0 (F := f_a_trial) dX1_isBadStep_22 rfl (by decide) rfl (hp.1 _ rfl) (s_ix.nI (N := 4) hu (by decide)) hu ?_
  refine w_op (pc' := 24) dX1_isBadStep_23 rfl ?_
  refine t_getG0 (G := g_o_trial) dX1_isBadStep_24 rfl rfl (by decide) rfl (fun _ => rfl) (hp.1 _ rfl) ?_
  refine w_op (pc' := 28) dX1_isBadStep_27 rfl ?_
  refine t_iald0 (F := f_a_trial) dX1_isBadStep_28 rfl (by decide) rfl (hp.1 _ rfl) (s_ix.nI (N := 4) hv (by decide)) hv ?_
  refine w_op (pc' := 30) dX1_isBadStep_29 rfl ?_
  refine t_callS (As := [_]) dX1_isBadStep_30 rfl rM_J9_abs_0f7a4 (by decide) rfl rfl (by decide) (Nat.le_of_ble_eq_true rfl) (c_abs ?_)
  show s_w _ _ _ 33 _ _ _ _
  refine w_op (pc' := 35) (ll' := [_, _, _, _, _, _, _]) dX1_isBadStep_33 rfl ?_
  refine w_op (pc' := 36) dX1_isBadStep_35 rfl ?_
  refine w_bipush (v := 12) dX1_isBadStep_36 rfl ?_
  refine w_op (pc' := 39) dX1_isBadStep_38 (by rfl) ?_
  refine w_bipush (v := 7) dX1_isBadStep_39 rfl ?_
  refine w_icmpeq (t := 55) dX1_isBadStep_41 (by decide) (fun c41 => ?_) (fun c41 => ?_)
  · refine w_iconst (v := 1) dX1_isBadStep_55 rfl ?_
    refine w_goto (t := 60) dX1_isBadStep_56 (by decide) ?_
    refine w_op (pc' := 62) (ll' := [_, _, _, _, _, _, _]) dX1_isBadStep_60 rfl ?_
    refine w_op (pc' := 64) dX1_isBadStep_62 rfl ?_
    refine w_ifle (t := 83) dX1_isBadStep_64 (by decide) (fun c64 => ?_) (fun c64 => ?_)
    · refine w_iconst (v := 0) dX1_isBadStep_83 rfl ?_
      refine w_op (pc' := 86) (ll' := [_, _, _, _, _, _, _]) dX1_isBadStep_84 rfl ?_
      refine w_op (pc' := 88) dX1_isBadStep_86 rfl ?_
      refine w_ifeq (t := 130) dX1_isBadStep_88 (by decide) (fun c88 => ?_) (fun c88 => ?_)
      · exact absurd c88 (by decide)
      · refine w_op (pc' := 93) dX1_isBadStep_91 rfl ?_
        refine w_ifeq (t := 130) dX1_isBadStep_93 (by decide) (fun c93 => ?_) (fun c93 => ?_)
        · refine w_iconst (v := 0) dX1_isBadStep_130 rfl ?_
          exact w_ireturn dX1_isBadStep_131 ⟨s_rcb (by first | exact Or.inl rfl | exact Or.inr rfl | exact bI_or _), s_eqi (by have e1 : (s_pfc (s_abs (I f_a_chord u - I f_a_chord v)) = true) := (by unfold s_pfc s_r12; rw [decide_eq_true c41]; rfl); have e2 : (s_agn (s_abs (I f_a_trial u - I f_a_trial v)) (s_abs (I f_a_chord u - I f_a_chord v)) = false) := (by unfold s_agn; rw [decide_eq_false (Int32.not_lt.mpr c64)]; rfl); unfold s_bst; rw [e1, e2]; first | rfl | (simp [bI])) k⟩
        · exact absurd c93 (by decide)
    · refine w_op (pc' := 69) dX1_isBadStep_67 rfl ?_
      refine w_bipush (v := 12) dX1_isBadStep_69 rfl ?_
      refine w_op (pc' := 72) dX1_isBadStep_71 (by rfl) ?_
      refine w_op (pc' := 73) dX1_isBadStep_72 rfl ?_
      refine w_bipush (v := 12) dX1_isBadStep_73 rfl ?_
      refine w_op (pc' := 76) dX1_isBadStep_75 (by rfl) ?_
      refine w_icmpne (t := 83) dX1_isBadStep_76 (by decide) (fun c76 => ?_) (fun c76 => ?_)
      · refine w_iconst (v := 0) dX1_isBadStep_83 rfl ?_
        refine w_op (pc' := 86) (ll' := [_, _, _, _, _, _, _]) dX1_isBadStep_84 rfl ?_
        refine w_op (pc' := 88) dX1_isBadStep_86 rfl ?_
        refine w_ifeq (t := 130) dX1_isBadStep_88 (by decide) (fun c88 => ?_) (fun c88 => ?_)
        · exact absurd c88 (by decide)
        · refine w_op (pc' := 93) dX1_isBadStep_91 rfl ?_
          refine w_ifeq (t := 130) dX1_isBadStep_93 (by decide) (fun c93 => ?_) (fun c93 => ?_)
          · refine w_iconst (v := 0) dX1_isBadStep_130 rfl ?_
            exact w_ireturn dX1_isBadStep_131 ⟨s_rcb (by first | exact Or.inl rfl | exact Or.inr rfl | exact bI_or _), s_eqi (by have e1 : (s_pfc (s_abs (I f_a_chord u - I f_a_chord v)) = true) := (by unfold s_pfc s_r12; rw [decide_eq_true c41]; rfl); have e2 : (s_agn (s_abs (I f_a_trial u - I f_a_trial v)) (s_abs (I f_a_chord u - I f_a_chord v)) = false) := (by unfold s_agn s_r12; rw [decide_eq_false c76]; exact Bool.and_false _); unfold s_bst; rw [e1, e2]; first | rfl | (simp [bI])) k⟩
          · exact absurd c93 (by decide)
      · refine w_iconst (v := 1) dX1_isBadStep_79 rfl ?_
        refine w_goto (t := 84) dX1_isBadStep_80 (by decide) ?_
        refine w_op (pc' := 86) (ll' := [_, _, _, _, _, _, _]) dX1_isBadStep_84 rfl ?_
        refine w_op (pc' := 88) dX1_isBadStep_86 rfl ?_
        refine w_ifeq (t := 130) dX1_isBadStep_88 (by decide) (fun c88 => ?_) (fun c88 => ?_)
        · exact absurd c88 (by decide)
        · refine w_op (pc' := 93) dX1_isBadStep_91 rfl ?_
          refine w_ifeq (t := 130) dX1_isBadStep_93 (by decide) (fun c93 => ?_) (fun c93 => ?_)
          · exact absurd c93 (by decide)
          · refine w_op (pc' := 97) dX1_isBadStep_96 rfl ?_
            refine t_getG0 (G := g_o_trial) dX1_isBadStep_97 rfl rfl (by decide) rfl (fun _ => rfl) (hp.1 _ rfl) ?_
            refine w_op (pc' := 101) dX1_isBadStep_100 rfl ?_
            refine t_iald0 (F := f_a_trial) dX1_isBadStep_101 rfl (by decide) rfl (hp.1 _ rfl) (s_ix.nI (N := 4) hu (by decide)) hu ?_
            refine w_op (pc' := 103) dX1_isBadStep_102 rfl ?_
            refine t_getG0 (G := g_o_chord) dX1_isBadStep_103 rfl rfl (by decide) rfl (fun _ => rfl) (hp.1 _ rfl) ?_
            refine w_op (pc' := 107) dX1_isBadStep_106 rfl ?_
            refine t_iald0 (F := f_a_chord) dX1_isBadStep_107 rfl (by decide) rfl (hp.1 _ rfl) (s_ix.nI (N := 4) hu (by decide)) hu ?_
            refine w_icmpeq (t := 130) dX1_isBadStep_108 (by decide) (fun c108 => ?_) (fun c108 => ?_)
            · refine w_iconst (v := 0) dX1_isBadStep_130 rfl ?_
              exact w_ireturn dX1_isBadStep_131 ⟨s_rcb (by first | exact Or.inl rfl | exact Or.inr rfl | exact bI_or _), s_eqi (by have e1 : (s_pfc (s_abs (I f_a_chord u - I f_a_chord v)) = true) := (by unfold s_pfc s_r12; rw [decide_eq_true c41]; rfl); have e2 : (s_agn (s_abs (I f_a_trial u - I f_a_trial v)) (s_abs (I f_a_chord u - I f_a_chord v)) = true) := (by unfold s_agn s_r12; rw [decide_eq_true (Int32.not_le.mp c64), decide_eq_true c76]; rfl); unfold s_bst; rw [e1, e2, decide_eq_true c108]; first | rfl | (simp [bI])) k⟩
            · refine w_op (pc' := 112) dX1_isBadStep_111 rfl ?_
              refine t_getG0 (G := g_o_trial) dX1_isBadStep_112 rfl rfl (by decide) rfl (fun _ => rfl) (hp.1 _ rfl) ?_
              refine w_op (pc' := 116) dX1_isBadStep_115 rfl ?_
              refine t_iald0 (F := f_a_trial) dX1_isBadStep_116 rfl (by decide) rfl (hp.1 _ rfl) (s_ix.nI (N := 4) hv (by decide)) hv ?_
              refine w_op (pc' := 118) dX1_isBadStep_117 rfl ?_
              refine t_getG0 (G := g_o_chord) dX1_isBadStep_118 rfl rfl (by decide) rfl (fun _ => rfl) (hp.1 _ rfl) ?_
              refine w_op (pc' := 122) dX1_isBadStep_121 rfl ?_
              refine t_iald0 (F := f_a_chord) dX1_isBadStep_122 rfl (by decide) rfl (hp.1 _ rfl) (s_ix.nI (N := 4) hv (by decide)) hv ?_
              refine w_icmpeq (t := 130) dX1_isBadStep_123 (by decide) (fun c123 => ?_) (fun c123 => ?_)
              · refine w_iconst (v := 0) dX1_isBadStep_130 rfl ?_
                exact w_ireturn dX1_isBadStep_131 ⟨s_rcb (by first | exact Or.inl rfl | exact Or.inr rfl | exact bI_or _), s_eqi (by have e1 : (s_pfc (s_abs (I f_a_chord u - I f_a_chord v)) = true) := (by unfold s_pfc s_r12; rw [decide_eq_true c41]; rfl); have e2 : (s_agn (s_abs (I f_a_trial u - I f_a_trial v)) (s_abs (I f_a_chord u - I f_a_chord v)) = true) := (by unfold s_agn s_r12; rw [decide_eq_true (Int32.not_le.mp c64), decide_eq_true c76]; rfl); unfold s_bst; rw [e1, e2, decide_eq_false c108, decide_eq_true c123]; first | rfl | (simp [bI])) k⟩
              · refine w_iconst (v := 1) dX1_isBadStep_126 rfl ?_
                refine w_goto (t := 131) dX1_isBadStep_127 (by decide) ?_
                exact w_ireturn dX1_isBadStep_131 ⟨s_rcb (by first | exact Or.inl rfl | exact Or.inr rfl | exact bI_or _), s_eqi (by have e1 : (s_pfc (s_abs (I f_a_chord u - I f_a_chord v)) = true) := (by unfold s_pfc s_r12; rw [decide_eq_true c41]; rfl); have e2 : (s_agn (s_abs (I f_a_trial u - I f_a_trial v)) (s_abs (I f_a_chord u - I f_a_chord v)) = true) := (by unfold s_agn s_r12; rw [decide_eq_true (Int32.not_le.mp c64), decide_eq_true c76]; rfl); unfold s_bst; rw [e1, e2, decide_eq_false c108, decide_eq_false c123]; first | rfl | (simp [bI])) k⟩
  · refine w_op (pc' := 45) dX1_isBadStep_44 rfl ?_
    refine w_ifle (t := 59) dX1_isBadStep_45 (by decide) (fun c45 => ?_) (fun c45 => ?_)
    · refine w_iconst (v := 0) dX1_isBadStep_59 rfl ?_
      refine w_op (pc' := 62) (ll' := [_, _, _, _, _, _, _]) dX1_isBadStep_60 rfl ?_
      refine w_op (pc' := 64) dX1_isBadStep_62 rfl ?_
      refine w_ifle (t := 83) dX1_isBadStep_64 (by decide) (fun c64 => ?_) (fun c64 => ?_)
      · refine w_iconst (v := 0) dX1_isBadStep_83 rfl ?_
        refine w_op (pc' := 86) (ll' := [_, _, _, _, _, _, _]) dX1_isBadStep_84 rfl ?_
        refine w_op (pc' := 88) dX1_isBadStep_86 rfl ?_
        refine w_ifeq (t := 130) dX1_isBadStep_88 (by decide) (fun c88 => ?_) (fun c88 => ?_)
        · refine w_iconst (v := 0) dX1_isBadStep_130 rfl ?_
          exact w_ireturn dX1_isBadStep_131 ⟨s_rcb (by first | exact Or.inl rfl | exact Or.inr rfl | exact bI_or _), s_eqi (by have e1 : (s_pfc (s_abs (I f_a_chord u - I f_a_chord v)) = false) := (by unfold s_pfc s_r12; rw [decide_eq_false c41, decide_eq_false (Int32.not_lt.mpr c45)]; rfl); have e2 : (s_agn (s_abs (I f_a_trial u - I f_a_trial v)) (s_abs (I f_a_chord u - I f_a_chord v)) = false) := (by unfold s_agn; rw [decide_eq_false (Int32.not_lt.mpr c64)]; rfl); unfold s_bst; rw [e1, e2]; first | rfl | (simp [bI])) k⟩
        · exact absurd c88 (by decide)
      · refine w_op (pc' := 69) dX1_isBadStep_67 rfl ?_
        refine w_bipush (v := 12) dX1_isBadStep_69 rfl ?_
        refine w_op (pc' := 72) dX1_isBadStep_71 (by rfl) ?_
        refine w_op (pc' := 73) dX1_isBadStep_72 rfl ?_
        refine w_bipush (v := 12) dX1_isBadStep_73 rfl ?_
        refine w_op (pc' := 76) dX1_isBadStep_75 (by rfl) ?_
        refine w_icmpne (t := 83) dX1_isBadStep_76 (by decide) (fun c76 => ?_) (fun c76 => ?_)
        · refine w_iconst (v := 0) dX1_isBadStep_83 rfl ?_
          refine w_op (pc' := 86) (ll' := [_, _, _, _, _, _, _]) dX1_isBadStep_84 rfl ?_
          refine w_op (pc' := 88) dX1_isBadStep_86 rfl ?_
          refine w_ifeq (t := 130) dX1_isBadStep_88 (by decide) (fun c88 => ?_) (fun c88 => ?_)
          · refine w_iconst (v := 0) dX1_isBadStep_130 rfl ?_
            exact w_ireturn dX1_isBadStep_131 ⟨s_rcb (by first | exact Or.inl rfl | exact Or.inr rfl | exact bI_or _), s_eqi (by have e1 : (s_pfc (s_abs (I f_a_chord u - I f_a_chord v)) = false) := (by unfold s_pfc s_r12; rw [decide_eq_false c41, decide_eq_false (Int32.not_lt.mpr c45)]; rfl); have e2 : (s_agn (s_abs (I f_a_trial u - I f_a_trial v)) (s_abs (I f_a_chord u - I f_a_chord v)) = false) := (by unfold s_agn s_r12; rw [decide_eq_false c76]; exact Bool.and_false _); unfold s_bst; rw [e1, e2]; first | rfl | (simp [bI])) k⟩
          · exact absurd c88 (by decide)
        · refine w_iconst (v := 1) dX1_isBadStep_79 rfl ?_
          refine w_goto (t := 84) dX1_isBadStep_80 (by decide) ?_
          refine w_op (pc' := 86) (ll' := [_, _, _, _, _, _, _]) dX1_isBadStep_84 rfl ?_
          refine w_op (pc' := 88) dX1_isBadStep_86 rfl ?_
          refine w_ifeq (t := 130) dX1_isBadStep_88 (by decide) (fun c88 => ?_) (fun c88 => ?_)
          · refine w_iconst (v := 0) dX1_isBadStep_130 rfl ?_
            exact w_ireturn dX1_isBadStep_131 ⟨s_rcb (by first | exact Or.inl rfl | exact Or.inr rfl | exact bI_or _), s_eqi (by have e1 : (s_pfc (s_abs (I f_a_chord u - I f_a_chord v)) = false) := (by unfold s_pfc s_r12; rw [decide_eq_false c41, decide_eq_false (Int32.not_lt.mpr c45)]; rfl); have e2 : (s_agn (s_abs (I f_a_trial u - I f_a_trial v)) (s_abs (I f_a_chord u - I f_a_chord v)) = true) := (by unfold s_agn s_r12; rw [decide_eq_true (Int32.not_le.mp c64), decide_eq_true c76]; rfl); unfold s_bst; rw [e1, e2]; first | rfl | (simp [bI])) k⟩
          · exact absurd c88 (by decide)
    · refine w_op (pc' := 49) dX1_isBadStep_48 rfl ?_
      refine w_bipush (v := 12) dX1_isBadStep_49 rfl ?_
      refine w_op (pc' := 52) dX1_isBadStep_51 (by rfl) ?_
      refine w_ifne (t := 59) dX1_isBadStep_52 (by decide) (fun c52 => ?_) (fun c52 => ?_)
      · refine w_iconst (v := 0) dX1_isBadStep_59 rfl ?_
        refine w_op (pc' := 62) (ll' := [_, _, _, _, _, _, _]) dX1_isBadStep_60 rfl ?_
        refine w_op (pc' := 64) dX1_isBadStep_62 rfl ?_
        refine w_ifle (t := 83) dX1_isBadStep_64 (by decide) (fun c64 => ?_) (fun c64 => ?_)
        · refine w_iconst (v := 0) dX1_isBadStep_83 rfl ?_
          refine w_op (pc' := 86) (ll' := [_, _, _, _, _, _, _]) dX1_isBadStep_84 rfl ?_
          refine w_op (pc' := 88) dX1_isBadStep_86 rfl ?_
          refine w_ifeq (t := 130) dX1_isBadStep_88 (by decide) (fun c88 => ?_) (fun c88 => ?_)
          · refine w_iconst (v := 0) dX1_isBadStep_130 rfl ?_
            exact w_ireturn dX1_isBadStep_131 ⟨s_rcb (by first | exact Or.inl rfl | exact Or.inr rfl | exact bI_or _), s_eqi (by have e1 : (s_pfc (s_abs (I f_a_chord u - I f_a_chord v)) = false) := (by unfold s_pfc s_r12; rw [decide_eq_false c41, decide_eq_false c52]; exact Bool.and_false _); have e2 : (s_agn (s_abs (I f_a_trial u - I f_a_trial v)) (s_abs (I f_a_chord u - I f_a_chord v)) = false) := (by unfold s_agn; rw [decide_eq_false (Int32.not_lt.mpr c64)]; rfl); unfold s_bst; rw [e1, e2]; first | rfl | (simp [bI])) k⟩
          · exact absurd c88 (by decide)
        · refine w_op (pc' := 69) dX1_isBadStep_67 rfl ?_
          refine w_bipush (v := 12) dX1_isBadStep_69 rfl ?_
          refine w_op (pc' := 72) dX1_isBadStep_71 (by rfl) ?_
          refine w_op (pc' := 73) dX1_isBadStep_72 rfl ?_
          refine w_bipush (v := 12) dX1_isBadStep_73 rfl ?_
          refine w_op (pc' := 76) dX1_isBadStep_75 (by rfl) ?_
          refine w_icmpne (t := 83) dX1_isBadStep_76 (by decide) (fun c76 => ?_) (fun c76 => ?_)
          · refine w_iconst (v := 0) dX1_isBadStep_83 rfl ?_
            refine w_op (pc' := 86) (ll' := [_, _, _, _, _, _, _]) dX1_isBadStep_84 rfl ?_
            refine w_op (pc' := 88) dX1_isBadStep_86 rfl ?_
            refine w_ifeq (t := 130) dX1_isBadStep_88 (by decide) (fun c88 => ?_) (fun c88 => ?_)
            · refine w_iconst (v := 0) dX1_isBadStep_130 rfl ?_
              exact w_ireturn dX1_isBadStep_131 ⟨s_rcb (by first | exact Or.inl rfl | exact Or.inr rfl | exact bI_or _), s_eqi (by have e1 : (s_pfc (s_abs (I f_a_chord u - I f_a_chord v)) = false) := (by unfold s_pfc s_r12; rw [decide_eq_false c41, decide_eq_false c52]; exact Bool.and_false _); have e2 : (s_agn (s_abs (I f_a_trial u - I f_a_trial v)) (s_abs (I f_a_chord u - I f_a_chord v)) = false) := (by unfold s_agn s_r12; rw [decide_eq_false c76]; exact Bool.and_false _); unfold s_bst; rw [e1, e2]; first | rfl | (simp [bI])) k⟩
            · exact absurd c88 (by decide)
          · refine w_iconst (v := 1) dX1_isBadStep_79 rfl ?_
            refine w_goto (t := 84) dX1_isBadStep_80 (by decide) ?_
            refine w_op (pc' := 86) (ll' := [_, _, _, _, _, _, _]) dX1_isBadStep_84 rfl ?_
            refine w_op (pc' := 88) dX1_isBadStep_86 rfl ?_
            refine w_ifeq (t := 130) dX1_isBadStep_88 (by decide) (fun c88 => ?_) (fun c88 => ?_)
            · refine w_iconst (v := 0) dX1_isBadStep_130 rfl ?_
              exact w_ireturn dX1_isBadStep_131 ⟨s_rcb (by first | exact Or.inl rfl | exact Or.inr rfl | exact bI_or _), s_eqi (by have e1 : (s_pfc (s_abs (I f_a_chord u - I f_a_chord v)) = false) := (by unfold s_pfc s_r12; rw [decide_eq_false c41, decide_eq_false c52]; exact Bool.and_false _); have e2 : (s_agn (s_abs (I f_a_trial u - I f_a_trial v)) (s_abs (I f_a_chord u - I f_a_chord v)) = true) := (by unfold s_agn s_r12; rw [decide_eq_true (Int32.not_le.mp c64), decide_eq_true c76]; rfl); unfold s_bst; rw [e1, e2]; first | rfl | (simp [bI])) k⟩
            · exact absurd c88 (by decide)
      · refine w_iconst (v := 1) dX1_isBadStep_55 rfl ?_
        refine w_goto (t := 60) dX1_isBadStep_56 (by decide) ?_
        refine w_op (pc' := 62) (ll' := [_, _, _, _, _, _, _]) dX1_isBadStep_60 rfl ?_
        refine w_op (pc' := 64) dX1_isBadStep_62 rfl ?_
        refine w_ifle (t := 83) dX1_isBadStep_64 (by decide) (fun c64 => ?_) (fun c64 => ?_)
        · refine w_iconst (v := 0) dX1_isBadStep_83 rfl ?_
          refine w_op (pc' := 86) (ll' := [_, _, _, _, _, _, _]) dX1_isBadStep_84 rfl ?_
          refine w_op (pc' := 88) dX1_isBadStep_86 rfl ?_
          refine w_ifeq (t := 130) dX1_isBadStep_88 (by decide) (fun c88 => ?_) (fun c88 => ?_)
          · exact absurd c88 (by decide)
          · refine w_op (pc' := 93) dX1_isBadStep_91 rfl ?_
            refine w_ifeq (t := 130) dX1_isBadStep_93 (by decide) (fun c93 => ?_) (fun c93 => ?_)
            · refine w_iconst (v := 0) dX1_isBadStep_130 rfl ?_
              exact w_ireturn dX1_isBadStep_131 ⟨s_rcb (by first | exact Or.inl rfl | exact Or.inr rfl | exact bI_or _), s_eqi (by have e1 : (s_pfc (s_abs (I f_a_chord u - I f_a_chord v)) = true) := (by unfold s_pfc s_r12; rw [decide_eq_false c41, decide_eq_true (Int32.not_le.mp c45), decide_eq_true c52]; rfl); have e2 : (s_agn (s_abs (I f_a_trial u - I f_a_trial v)) (s_abs (I f_a_chord u - I f_a_chord v)) = false) := (by unfold s_agn; rw [decide_eq_false (Int32.not_lt.mpr c64)]; rfl); unfold s_bst; rw [e1, e2]; first | rfl | (simp [bI])) k⟩
            · exact absurd c93 (by decide)
        · refine w_op (pc' := 69) dX1_isBadStep_67 rfl ?_
          refine w_bipush (v := 12) dX1_isBadStep_69 rfl ?_
          refine w_op (pc' := 72) dX1_isBadStep_71 (by rfl) ?_
          refine w_op (pc' := 73) dX1_isBadStep_72 rfl ?_
          refine w_bipush (v := 12) dX1_isBadStep_73 rfl ?_
          refine w_op (pc' := 76) dX1_isBadStep_75 (by rfl) ?_
          refine w_icmpne (t := 83) dX1_isBadStep_76 (by decide) (fun c76 => ?_) (fun c76 => ?_)
          · refine w_iconst (v := 0) dX1_isBadStep_83 rfl ?_
            refine w_op (pc' := 86) (ll' := [_, _, _, _, _, _, _]) dX1_isBadStep_84 rfl ?_
            refine w_op (pc' := 88) dX1_isBadStep_86 rfl ?_
            refine w_ifeq (t := 130) dX1_isBadStep_88 (by decide) (fun c88 => ?_) (fun c88 => ?_)
            · exact absurd c88 (by decide)
            · refine w_op (pc' := 93) dX1_isBadStep_91 rfl ?_
              refine w_ifeq (t := 130) dX1_isBadStep_93 (by decide) (fun c93 => ?_) (fun c93 => ?_)
              · refine w_iconst (v := 0) dX1_isBadStep_130 rfl ?_
                exact w_ireturn dX1_isBadStep_131 ⟨s_rcb (by first | exact Or.inl rfl | exact Or.inr rfl | exact bI_or _), s_eqi (by have e1 : (s_pfc (s_abs (I f_a_chord u - I f_a_chord v)) = true) := (by unfold s_pfc s_r12; rw [decide_eq_false c41, decide_eq_true (Int32.not_le.mp c45), decide_eq_true c52]; rfl); have e2 : (s_agn (s_abs (I f_a_trial u - I f_a_trial v)) (s_abs (I f_a_chord u - I f_a_chord v)) = false) := (by unfold s_agn s_r12; rw [decide_eq_false c76]; exact Bool.and_false _); unfold s_bst; rw [e1, e2]; first | rfl | (simp [bI])) k⟩
              · exact absurd c93 (by decide)
          · refine w_iconst (v := 1) dX1_isBadStep_79 rfl ?_
            refine w_goto (t := 84) dX1_isBadStep_80 (by decide) ?_
            refine w_op (pc' := 86) (ll' := [_, _, _, _, _, _, _]) dX1_isBadStep_84 rfl ?_
            refine w_op (pc' := 88) dX1_isBadStep_86 rfl ?_
            refine w_ifeq (t := 130) dX1_isBadStep_88 (by decide) (fun c88 => ?_) (fun c88 => ?_)
            · exact absurd c88 (by decide)
            · refine w_op (pc' := 93) dX1_isBadStep_91 rfl ?_
              refine w_ifeq (t := 130) dX1_isBadStep_93 (by decide) (fun c93 => ?_) (fun c93 => ?_)
              · exact absurd c93 (by decide)
              · refine w_op (pc' := 97) dX1_isBadStep_96 rfl ?_
                refine t_getG0 (G := g_o_trial) dX1_isBadStep_97 rfl rfl (by decide) rfl (fun _ => rfl) (hp.1 _ rfl) ?_
                refine w_op (pc' := 101) dX1_isBadStep_100 rfl ?_
                refine t_iald0 (F := f_a_trial) dX1_isBadStep_101 rfl (by decide) rfl (hp.1 _ rfl) (s_ix.nI (N := 4) hu (by decide)) hu ?_
                refine w_op (pc' := 103) dX1_isBadStep_102 rfl ?_
                refine t_getG0 (G := g_o_chord) dX1_isBadStep_103 rfl rfl (by decide) rfl (fun _ => rfl) (hp.1 _ rfl) ?_
                refine w_op (pc' := 107) dX1_isBadStep_106 rfl ?_
                refine t_iald0 (F := f_a_chord) dX1_isBadStep_107 rfl (by decide) rfl (hp.1 _ rfl) (s_ix.nI (N := 4) hu (by decide)) hu ?_
                refine w_icmpeq (t := 130) dX1_isBadStep_108 (by decide) (fun c108 => ?_) (fun c108 => ?_)
                · refine w_iconst (v := 0) dX1_isBadStep_130 rfl ?_
                  exact w_ireturn dX1_isBadStep_131 ⟨s_rcb (by first | exact Or.inl rfl | exact Or.inr rfl | exact bI_or _), s_eqi (by have e1 : (s_pfc (s_abs (I f_a_chord u - I f_a_chord v)) = true) := (by unfold s_pfc s_r12; rw [decide_eq_false c41, decide_eq_true (Int32.not_le.mp c45), decide_eq_true c52]; rfl); have e2 : (s_agn (s_abs (I f_a_trial u - I f_a_trial v)) (s_abs (I f_a_chord u - I f_a_chord v)) = true) := (by unfold s_agn s_r12; rw [decide_eq_true (Int32.not_le.mp c64), decide_eq_true c76]; rfl); unfold s_bst; rw [e1, e2, decide_eq_true c108]; first | rfl | (simp [bI])) k⟩
                · refine w_op (pc' := 112) dX1_isBadStep_111 rfl ?_
                  refine t_getG0 (G := g_o_trial) dX1_isBadStep_112 rfl rfl (by decide) rfl (fun _ => rfl) (hp.1 _ rfl) ?_
                  refine w_op (pc' := 116) dX1_isBadStep_115 rfl ?_
                  refine t_iald0 (F := f_a_trial) dX1_isBadStep_116 rfl (by decide) rfl (hp.1 _ rfl) (s_ix.nI (N := 4) hv (by decide)) hv ?_
                  refine w_op (pc' := 118) dX1_isBadStep_117 rfl ?_
                  refine t_getG0 (G := g_o_chord) dX1_isBadStep_118 rfl rfl (by decide) rfl (fun _ => rfl) (hp.1 _ rfl) ?_
                  refine w_op (pc' := 122) dX1_isBadStep_121 rfl ?_
                  refine t_iald0 (F := f_a_chord) dX1_isBadStep_122 rfl (by decide) rfl (hp.1 _ rfl) (s_ix.nI (N := 4) hv (by decide)) hv ?_
                  refine w_icmpeq (t := 130) dX1_isBadStep_123 (by decide) (fun c123 => ?_) (fun c123 => ?_)
                  · refine w_iconst (v := 0) dX1_isBadStep_130 rfl ?_
                    exact w_ireturn dX1_isBadStep_131 ⟨s_rcb (by first | exact Or.inl rfl | exact Or.inr rfl | exact bI_or _), s_eqi (by have e1 : (s_pfc (s_abs (I f_a_chord u - I f_a_chord v)) = true) := (by unfold s_pfc s_r12; rw [decide_eq_false c41, decide_eq_true (Int32.not_le.mp c45), decide_eq_true c52]; rfl); have e2 : (s_agn (s_abs (I f_a_trial u - I f_a_trial v)) (s_abs (I f_a_chord u - I f_a_chord v)) = true) := (by unfold s_agn s_r12; rw [decide_eq_true (Int32.not_le.mp c64), decide_eq_true c76]; rfl); unfold s_bst; rw [e1, e2, decide_eq_false c108, decide_eq_true c123]; first | rfl | (simp [bI])) k⟩
                  · refine w_iconst (v := 1) dX1_isBadStep_126 rfl ?_
                    refine w_goto (t := 131) dX1_isBadStep_127 (by decide) ?_
                    exact w_ireturn dX1_isBadStep_131 ⟨s_rcb (by first | exact Or.inl rfl | exact Or.inr rfl | exact bI_or _), s_eqi (by have e1 : (s_pfc (s_abs (I f_a_chord u - I f_a_chord v)) = true) := (by unfold s_pfc s_r12; rw [decide_eq_false c41, decide_eq_true (Int32.not_le.mp c45), decide_eq_true c52]; rfl); have e2 : (s_agn (s_abs (I f_a_trial u - I f_a_trial v)) (s_abs (I f_a_chord u - I f_a_chord v)) = true) := (by unfold s_agn s_r12; rw [decide_eq_true (Int32.not_le.mp c64), decide_eq_true c76]; rfl); unfold s_bst; rw [e1, e2, decide_eq_false c108, decide_eq_false c123]; first | rfl | (simp [bI])) k⟩
set_option maxRecDepth 100000 in
set_option maxHeartbeats 4000000 in
theorem c_X1_way {X : e_XT} {d : Nat} {p : e_Sp} {I : e_I} {J : e_Jt} {c : Nat × Nat} {w : e_Rw1} {Q : e_Rt → e_SS → Prop} (hp : s_ok p) {x v y : Int32} (k : Q (.inl (some (.int (s_way I x v y)))) (p, I, J, c, w)) : s_c X (d + 1) 43 [.ref (p.1 T_CONT 0), .int x, .int v, .int y] (p, I, J, c, w) Q := by
  refine m_X1_way (Nat.le_of_ble_eq_true rfl) ?_
  show s_w _ _ _ 0 _ _ _ _
  refine w_op (pc' := 1) dX1_way_0 rfl ?_
  refine w_op (pc' := 2) dX1_way_1 rfl ?_
  refine t_getI (F := f_hasChord) dX1_way_2 rfl rfl (by decide) rfl ⟨rfl, fun _ => rfl⟩ (hp.1 _ rfl) ?_
  refine w_ifeq (t := 16) dX1_way_5 (by decide) (fun c5 => ?_) (fun c5 => ?_)
  · refine w_op (pc' := 17) dX1_way_16 rfl ?_
    refine w_op (pc' := 18) dX1_way_17 rfl ?_
    refine t_callS (As := [_]) dX1_way_18 rfl rM_J9_abs_0f7a4 (by decide) rfl rfl (by decide) (Nat.le_of_ble_eq_true rfl) (c_abs ?_)
    show s_w _ _ _ 21 _ _ _ _
    exact w_ireturn dX1_way_21 ⟨rfl, s_eqi (by unfold s_way; rw [if_pos c5]) k⟩
  · refine w_op (pc' := 9) dX1_way_8 rfl ?_
    refine w_op (pc' := 10) dX1_way_9 rfl ?_
    refine t_callV (t := T_CONT) (As := [_]) dX1_way_10 rfl rM_X1_keyOf (by decide) rfl rfl (by decide) (by decide) (Nat.le_of_ble_eq_true rfl) rfl (hp.1 _ rfl) (c_X1_keyOf hp ?_)
    show s_w _ _ _ 13 _ _ _ _
    refine w_goto (t := 17) dX1_way_13 (by decide) ?_
    refine w_op (pc' := 18) dX1_way_17 rfl ?_
    refine t_callS (As := [_]) dX1_way_18 rfl rM_J9_abs_0f7a4 (by decide) rfl rfl (by decide) (Nat.le_of_ble_eq_true rfl) (c_abs ?_)
    show s_w _ _ _ 21 _ _ _ _
    exact w_ireturn dX1_way_21 ⟨rfl, s_eqi (by unfold s_way; rw [if_neg c5]) k⟩
