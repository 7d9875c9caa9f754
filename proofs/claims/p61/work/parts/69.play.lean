/-! 69: playing back (printed by wip/whole/p69.py) -/
set_option maxRecDepth 100000 in
set_option maxHeartbeats 600000 in
theorem l_X11_playBack {X : e_XT} {d : Nat} {p : e_Sp} {I : e_I} {J : e_Jt} {c : Nat × Nat} {w : e_Rw1} {Q : e_Rt → e_SS → Prop} {nk nr a b z : Nat} {isK : Bool} {b0 : Int32} {R : e_I × e_Jt} {p0 : e_Sp} (hz31 : z < 2147483648) (k : ∀ p' c', s_D p' (s_pb1 p0 nk nr R).1 nk nr → s_xt p0 p' → s_Tp p' (s_pb1 p0 nk nr R).1 c' a b → Q (.inl (some (.int ((s_pb1 p0 nk nr R).1 f_allBegins 0 - b0)))) (p', (s_pb1 p0 nk nr R).1, (s_pb1 p0 nk nr R).2, c', w)) : ∀ (n : Nat) (i : Nat) (p : e_Sp) (I1 : e_I) (J1 : e_Jt) (c : Nat × Nat), (h1 : i ≤ z) → (hD : s_D p I1 nk nr) → (hT : s_Tp p I1 c a b) → (x0 : s_xt p0 p) → (hrec : I1 f_recording 0 = 45) → (hz : I1 f_tsize 0 = nI z) → (hr2 : s_run (s_pbS p nk nr isK) i (z - i) (I1, J1) = R) → (hn : z - i < n) → s_w X (d + 8) K_X11_playBack 70 [some (.ref (p.1 T_HALL 0)), some (.int b0), some (.int (bI isK)), some (.int (nI i))] [] (p, I1, J1, c, w) (fun r S' => e_rcr (some FieldType.int) r = true ∧ Q r S') := by
  intro n
  induction n with
  | zero =>
    intro i p I1 J1 c h1 hD hT x0 hrec hz hr2 hn
    exact absurd hn (Nat.not_lt_zero _)
  | succ n ih =>
    intro i p I1 J1 c h1 hD hT x0 hrec hz hr2 hn
    have hp := hD.1.1
    refine w_op (pc' := 71) dX11_playBack_70 rfl ?_
    refine w_op (pc' := 72) dX11_playBack_71 rfl ?_
    refine t_getG0 (G := g_h_TAPE) dX11_playBack_72 rfl rfl (by decide) rfl (fun _ => rfl) (hp.1 _ rfl) ?_
    refine t_getI (F := f_tsize) dX11_playBack_75 rfl rfl (by decide) rfl ⟨rfl, fun _ => rfl⟩ (hp.1 _ rfl) ?_
    rw [hz]
    refine w_icmpge (t := 178) dX11_playBack_78 (by decide) (fun c78 => ?_) (fun c78 => ?_)
    · have hi : z ≤ i := (nI_leI (a := z) (by omega) (by omega)).mp c78
      rw [s_run_z hi] at hr2
      subst hr2
      refine w_op (pc' := 179) dX11_playBack_178 rfl ?_
      refine t_getG0 (G := g_h_WORKS) dX11_playBack_179 rfl rfl (by decide) rfl (fun _ => rfl) (hp.1 _ rfl) ?_
      refine t_callV (t := T_WORKS) (As := []) dX11_playBack_182 rfl rM_X10_holdNone (by decide) rfl rfl (by decide) (by decide) (Nat.le_of_ble_eq_true rfl) rfl (hp.1 _ rfl) (c_X10_holdNone hD hT (fun p1 c1 hD1 hx1 hT1 => ?_))
      show s_w _ _ _ 185 _ _ _ _
      rw [show p.1 T_HALL = p1.1 T_HALL from (hx1.1 T_HALL rfl).1.symm]
      have hp := hD1.1.1
      refine w_op (pc' := 186) dX11_playBack_185 rfl ?_
      refine t_getG0 (G := g_h_WORKS) dX11_playBack_186 rfl rfl (by decide) rfl (fun _ => rfl) (hp.1 _ rfl) ?_
      refine t_getI (F := f_allBegins) dX11_playBack_189 rfl rfl (by decide) rfl ⟨rfl, fun _ => rfl⟩ (hp.1 _ rfl) ?_
      refine w_op (pc' := 193) dX11_playBack_192 rfl ?_
      refine w_op (pc' := 194) dX11_playBack_193 rfl ?_
      exact w_ireturn dX11_playBack_194 ⟨rfl, (by have e9 : s_stl p nk nr (s_hn p nr I1, J1) = s_pb1 p0 nk nr (I1, J1) := (by unfold s_pb1; rw [s_stl.xt x0, s_hn.xt x0]); rw [e9] at hD1 hT1 ⊢; exact k p1 c1 hD1 (x0.trans hx1) hT1)⟩
    · have hi : i < z := Nat.lt_of_not_le (fun z9 => c78 ((nI_leI (a := z) (by omega) (by omega)).mpr z9))
      refine w_op (pc' := 82) dX11_playBack_81 rfl ?_
      refine t_getG0 (G := g_h_WORKS) dX11_playBack_82 rfl rfl (by decide) rfl (fun _ => rfl) (hp.1 _ rfl) ?_
      refine w_op (pc' := 86) dX11_playBack_85 rfl ?_
      refine t_getG0 (G := g_h_TAPE) dX11_playBack_86 rfl rfl (by decide) rfl (fun _ => rfl) (hp.1 _ rfl) ?_
      refine w_op (pc' := 90) dX11_playBack_89 rfl ?_
      refine t_callV (t := T_TAPE) (As := [_]) dX11_playBack_90 rfl rM_X9_ticksBefore (by decide) rfl rfl (by decide) (by decide) (Nat.le_of_ble_eq_true rfl) rfl (hp.1 _ rfl) (c_X9_ticksBefore hp hT ?_)
      show s_w _ _ _ 93 _ _ _ _
      rw [s_tb_0 hT]
      refine t_callV (t := T_WORKS) (As := [_]) dX11_playBack_93 rfl rM_X10_passTicks (by decide) rfl rfl (by decide) (by decide) (Nat.le_of_ble_eq_true rfl) rfl (hp.1 _ rfl) (c_X10_passTicks hD hT (fun p1 c1 hD1 hx1 hT1 => ?_))
      show s_w _ _ _ 96 _ _ _ _
      rw [show p.1 T_HALL = p1.1 T_HALL from (hx1.1 T_HALL rfl).1.symm]
      have hp := hD1.1.1
      have ho1 := (s_off.pbT (p := p) (nk := nk) (nr := nr) (i := i) (a := (I1, J1))) hrec
      have eA : s_run (s_tick p nk nr) 0 (s_tb0 I1 (nI i)).toNatClampNeg (I1, J1) = s_pbT p nk nr i (I1, J1) := rfl
      rw [eA] at hD1 hT1 ⊢
      generalize eB : s_pbT p nk nr i (I1, J1) = A at hD1 hT1 ho1 ⊢
      refine w_op (pc' := 97) dX11_playBack_96 rfl ?_
      refine w_ifeq (t := 134) dX11_playBack_97 (by decide) (fun c97 => ?_) (fun c97 => ?_)
      · refine w_op (pc' := 135) dX11_playBack_134 rfl ?_
        refine t_getG0 (G := g_h_WORKS) dX11_playBack_135 rfl rfl (by decide) rfl (fun _ => rfl) (hp.1 _ rfl) ?_
        refine w_op (pc' := 139) dX11_playBack_138 rfl ?_
        refine t_getG0 (G := g_h_TAPE) dX11_playBack_139 rfl rfl (by decide) rfl (fun _ => rfl) (hp.1 _ rfl) ?_
        refine w_op (pc' := 143) dX11_playBack_142 rfl ?_
        refine t_callV (t := T_TAPE) (As := [_]) dX11_playBack_143 rfl rM_X9_highCodeAt (by decide) rfl rfl (by decide) (by decide) (Nat.le_of_ble_eq_true rfl) rfl (hp.1 _ rfl) (c_X9_highCodeAt hp hT1 ?_)
        show s_w _ _ _ 146 _ _ _ _
        rw [s_hc_0 hT1]
        refine w_op (pc' := 147) dX11_playBack_146 rfl ?_
        refine t_getG0 (G := g_h_TAPE) dX11_playBack_147 rfl rfl (by decide) rfl (fun _ => rfl) (hp.1 _ rfl) ?_
        refine w_op (pc' := 151) dX11_playBack_150 rfl ?_
        refine t_callV (t := T_TAPE) (As := [_]) dX11_playBack_151 rfl rM_X9_lowCodeAt (by decide) rfl rfl (by decide) (by decide) (Nat.le_of_ble_eq_true rfl) rfl (hp.1 _ rfl) (c_X9_lowCodeAt hp hT1 ?_)
        show s_w _ _ _ 154 _ _ _ _
        rw [s_lc_0 hT1]
        refine w_op (pc' := 155) dX11_playBack_154 rfl ?_
        refine t_getG0 (G := g_h_TAPE) dX11_playBack_155 rfl rfl (by decide) rfl (fun _ => rfl) (hp.1 _ rfl) ?_
        refine w_op (pc' := 159) dX11_playBack_158 rfl ?_
        refine t_callV (t := T_TAPE) (As := [_]) dX11_playBack_159 rfl rM_X9_isOnAt (by decide) rfl rfl (by decide) (by decide) (Nat.le_of_ble_eq_true rfl) rfl (hp.1 _ rfl) (c_X9_isOnAt hp hT1 ?_)
        show s_w _ _ _ 162 _ _ _ _
        rw [s_on_0 hT1]
        refine t_callV (t := T_WORKS) (As := [_, _, _]) dX11_playBack_162 rfl rM_X10_hold (by decide) rfl rfl (by decide) (by decide) (Nat.le_of_ble_eq_true rfl) rfl (hp.1 _ rfl) (c_X10_hold hD1 (bI_or _) (fun j hj => ?_) (fun hj => ?_))
        · show s_w _ _ _ 165 _ _ _ _
          refine w_op (pc' := 166) dX11_playBack_165 rfl ?_
          refine t_getG0 (G := g_h_WORKS) dX11_playBack_166 rfl rfl (by decide) rfl (fun _ => rfl) (hp.1 _ rfl) ?_
          refine t_callV (t := T_WORKS) (As := []) dX11_playBack_169 rfl rM_X10_settle (by decide) rfl rfl (by decide) (by decide) (Nat.le_of_ble_eq_true rfl) rfl (hp.1 _ rfl) (c_X10_settle (hD1.eq (s_eqC.up (by decide))) (hT1.eq (s_eqT.up (by decide))) (fun p3 c3 hD3 hx3 hT3 => ?_))
          show s_w _ _ _ 172 _ _ _ _
          rw [← (hx3.1 T_HALL rfl).1]
          have hp := hD3.1.1
          refine w_op (pc' := 175) (ll' := [_, _, _, _]) dX11_playBack_172 rfl ?_
          refine w_goto (t := 70) dX11_playBack_175 (by decide) ?_
          have eE : s_pbE p nr isK i A.1 = s_up A.1 f_p_isHeld j (bI (s_on0 A.1 (nI i))) := by rw [s_pat.xt hx1] at hj; unfold s_pbE; rw [if_neg (fun z => by rw [bI_0.mp c97] at z; cases z), hj]
          have ho7 : s_off A.1 (s_pbE p nr isK i A.1) := by rw [eE]; exact s_off.of (T := [f_p_isHeld]) (s_eqN.up (by decide)) (by decide)
          rw [show nI i + Int32.ofInt 1 = nI (i + 1) from nI_1 i]
          rw [s_stl.xt hx1] at hD3 hT3 ⊢
          have ho2 := ho7 ho1.1
          rw [← eE] at hD3 hT3 ⊢
          have ef : s_pbS p nk nr isK i (I1, J1) = s_stl p nk nr (s_pbE p nr isK i A.1, A.2) := by unfold s_pbS; rw [eB]
          have ho9 : s_off (s_pbE p nr isK i A.1) (s_stl p nk nr (s_pbE p nr isK i A.1, A.2)).1 := s_off.stl (a := (s_pbE p nr isK i A.1, A.2))
          rw [s_run_s hi, ef] at hr2
          have hxx := hx1.trans hx3
          generalize s_stl p nk nr (s_pbE p nr isK i A.1, A.2) = B at hD3 hT3 ho9 hr2 ⊢
          have ho3 := ho9 ho2.1
          exact ih (i + 1) p3 B.1 B.2 c3 (by omega) hD3 hT3 (x0.trans hxx) ho3.1 (ho3.2.1.trans (ho2.2.1.trans (ho1.2.1.trans hz))) (by rw [s_pbS.xt hxx]; exact hr2) (by omega)
        · show s_w _ _ _ 165 _ _ _ _
          refine w_op (pc' := 166) dX11_playBack_165 rfl ?_
          refine t_getG0 (G := g_h_WORKS) dX11_playBack_166 rfl rfl (by decide) rfl (fun _ => rfl) (hp.1 _ rfl) ?_
          refine t_callV (t := T_WORKS) (As := []) dX11_playBack_169 rfl rM_X10_settle (by decide) rfl rfl (by decide) (by decide) (Nat.le_of_ble_eq_true rfl) rfl (hp.1 _ rfl) (c_X10_settle hD1 hT1 (fun p3 c3 hD3 hx3 hT3 => ?_))
          show s_w _ _ _ 172 _ _ _ _
          rw [← (hx3.1 T_HALL rfl).1]
          have hp := hD3.1.1
          refine w_op (pc' := 175) (ll' := [_, _, _, _]) dX11_playBack_172 rfl ?_
          refine w_goto (t := 70) dX11_playBack_175 (by decide) ?_
          have eE : s_pbE p nr isK i A.1 = A.1 := by rw [s_pat.xt hx1] at hj; unfold s_pbE; rw [if_neg (fun z => by rw [bI_0.mp c97] at z; cases z), hj]
          have ho7 : s_off A.1 (s_pbE p nr isK i A.1) := by rw [eE]; exact s_off.rfl'
          rw [show nI i + Int32.ofInt 1 = nI (i + 1) from nI_1 i]
          rw [s_stl.xt hx1] at hD3 hT3 ⊢
          have ho2 := ho7 ho1.1
          rw [← eE] at hD3 hT3 ⊢
          have ef : s_pbS p nk nr isK i (I1, J1) = s_stl p nk nr (s_pbE p nr isK i A.1, A.2) := by unfold s_pbS; rw [eB]
          have ho9 : s_off (s_pbE p nr isK i A.1) (s_stl p nk nr (s_pbE p nr isK i A.1, A.2)).1 := s_off.stl (a := (s_pbE p nr isK i A.1, A.2))
          rw [s_run_s hi, ef] at hr2
          have hxx := hx1.trans hx3
          generalize s_stl p nk nr (s_pbE p nr isK i A.1, A.2) = B at hD3 hT3 ho9 hr2 ⊢
          have ho3 := ho9 ho2.1
          exact ih (i + 1) p3 B.1 B.2 c3 (by omega) hD3 hT3 (x0.trans hxx) ho3.1 (ho3.2.1.trans (ho2.2.1.trans (ho1.2.1.trans hz))) (by rw [s_pbS.xt hxx]; exact hr2) (by omega)
      · refine w_op (pc' := 101) dX11_playBack_100 rfl ?_
        refine t_getG0 (G := g_h_WORKS) dX11_playBack_101 rfl rfl (by decide) rfl (fun _ => rfl) (hp.1 _ rfl) ?_
        refine w_op (pc' := 105) dX11_playBack_104 rfl ?_
        refine t_getG0 (G := g_h_TAPE) dX11_playBack_105 rfl rfl (by decide) rfl (fun _ => rfl) (hp.1 _ rfl) ?_
        refine w_op (pc' := 109) dX11_playBack_108 rfl ?_
        refine t_callV (t := T_TAPE) (As := [_]) dX11_playBack_109 rfl rM_X9_highCodeAt (by decide) rfl rfl (by decide) (by decide) (Nat.le_of_ble_eq_true rfl) rfl (hp.1 _ rfl) (c_X9_highCodeAt hp hT1 ?_)
        show s_w _ _ _ 112 _ _ _ _
        rw [s_hc_0 hT1]
        refine w_op (pc' := 113) dX11_playBack_112 rfl ?_
        refine t_getG0 (G := g_h_TAPE) dX11_playBack_113 rfl rfl (by decide) rfl (fun _ => rfl) (hp.1 _ rfl) ?_
        refine w_op (pc' := 117) dX11_playBack_116 rfl ?_
        refine t_callV (t := T_TAPE) (As := [_]) dX11_playBack_117 rfl rM_X9_lowCodeAt (by decide) rfl rfl (by decide) (by decide) (Nat.le_of_ble_eq_true rfl) rfl (hp.1 _ rfl) (c_X9_lowCodeAt hp hT1 ?_)
        show s_w _ _ _ 120 _ _ _ _
        rw [s_lc_0 hT1]
        refine w_op (pc' := 121) dX11_playBack_120 rfl ?_
        refine t_getG0 (G := g_h_TAPE) dX11_playBack_121 rfl rfl (by decide) rfl (fun _ => rfl) (hp.1 _ rfl) ?_
        refine w_op (pc' := 125) dX11_playBack_124 rfl ?_
        refine t_callV (t := T_TAPE) (As := [_]) dX11_playBack_125 rfl rM_X9_isOnAt (by decide) rfl rfl (by decide) (by decide) (Nat.le_of_ble_eq_true rfl) rfl (hp.1 _ rfl) (c_X9_isOnAt hp hT1 ?_)
        show s_w _ _ _ 128 _ _ _ _
        rw [s_on_0 hT1]
        refine t_callV (t := T_WORKS) (As := [_, _, _]) dX11_playBack_128 rfl rM_X10_pressKey (by decide) rfl rfl (by decide) (by decide) (Nat.le_of_ble_eq_true rfl) rfl (hp.1 _ rfl) (c_X10_pressKey hD1 hT1 (bI_or _) (fun p2 c2 hD2 hx2 hT2 => ?_))
        show s_w _ _ _ 131 _ _ _ _
        rw [show p1.1 T_HALL = p2.1 T_HALL from (hx2.1 T_HALL rfl).1.symm]
        have hp := hD2.1.1
        refine w_goto (t := 165) dX11_playBack_131 (by decide) ?_
        refine w_op (pc' := 166) dX11_playBack_165 rfl ?_
        refine t_getG0 (G := g_h_WORKS) dX11_playBack_166 rfl rfl (by decide) rfl (fun _ => rfl) (hp.1 _ rfl) ?_
        refine t_callV (t := T_WORKS) (As := []) dX11_playBack_169 rfl rM_X10_settle (by decide) rfl rfl (by decide) (by decide) (Nat.le_of_ble_eq_true rfl) rfl (hp.1 _ rfl) (c_X10_settle hD2 hT2 (fun p3 c3 hD3 hx3 hT3 => ?_))
        show s_w _ _ _ 172 _ _ _ _
        rw [← (hx3.1 T_HALL rfl).1]
        have hp := hD3.1.1
        refine w_op (pc' := 175) (ll' := [_, _, _, _]) dX11_playBack_172 rfl ?_
        refine w_goto (t := 70) dX11_playBack_175 (by decide) ?_
        have eE : s_pbE p nr isK i A.1 = s_prk A.1 (s_hc0 A.1 (nI i)) (s_lc0 A.1 (nI i)) (bI (s_on0 A.1 (nI i))) := if_pos (bI_n0.mp c97)
        have ho7 : s_off A.1 (s_pbE p nr isK i A.1) := by rw [eE]; exact s_off.prk
        rw [show nI i + Int32.ofInt 1 = nI (i + 1) from nI_1 i]
        rw [s_stl.xt (hx1.trans hx2)] at hD3 hT3 ⊢
        have ho2 := ho7 ho1.1
        rw [← eE] at hD3 hT3 ⊢
        have ef : s_pbS p nk nr isK i (I1, J1) = s_stl p nk nr (s_pbE p nr isK i A.1, A.2) := by unfold s_pbS; rw [eB]
        have ho9 : s_off (s_pbE p nr isK i A.1) (s_stl p nk nr (s_pbE p nr isK i A.1, A.2)).1 := s_off.stl (a := (s_pbE p nr isK i A.1, A.2))
        rw [s_run_s hi, ef] at hr2
        have hxx := (hx1.trans hx2).trans hx3
        generalize s_stl p nk nr (s_pbE p nr isK i A.1, A.2) = B at hD3 hT3 ho9 hr2 ⊢
        have ho3 := ho9 ho2.1
        exact ih (i + 1) p3 B.1 B.2 c3 (by omega) hD3 hT3 (x0.trans hxx) ho3.1 (ho3.2.1.trans (ho2.2.1.trans (ho1.2.1.trans hz))) (by rw [s_pbS.xt hxx]; exact hr2) (by omega)
set_option maxRecDepth 100000 in
set_option maxHeartbeats 600000 in
theorem c_X11_playBack {X : e_XT} {d : Nat} {p : e_Sp} {I : e_I} {J : e_Jt} {c : Nat × Nat} {w : e_Rw1} {Q : e_Rt → e_SS → Prop} {nk nr : Nat} (hD : s_D p I nk nr) {a b : Nat} (hT : s_Tp p I c a b) (k : ¬ I f_tsize 0 = 0 → ∀ z, z < 2147483648 → I f_tsize 0 = nI z → ∀ p' c', s_D p' (s_pb p nk nr z (decide (I f_tkind 0 = 107)) I J).1 nk nr → s_xt p p' → s_Tp p' (s_pb p nk nr z (decide (I f_tkind 0 = 107)) I J).1 c' a b → Q (.inl (some (.int ((s_pb p nk nr z (decide (I f_tkind 0 = 107)) I J).1 f_allBegins 0 - I f_allBegins 0)))) (p', (s_pb p nk nr z (decide (I f_tkind 0 = 107)) I J).1, (s_pb p nk nr z (decide (I f_tkind 0 = 107)) I J).2, c', w)) (kx : I f_tsize 0 = 0 → Q (.inr 4) (p, I, J, (c.1 + 1, c.2 + 6), w)) : s_c X (d + 8) 202 [.ref (p.1 T_HALL 0)] (p, I, J, c, w) Q := by
  have hC := hD.1
  have hp := hC.1
  obtain ⟨z, hz, hzl⟩ := hT.2.2.1
  have hz31 : z < 2147483648 := by (obtain ⟨k8, e1, e2, -⟩ := hT.2.1; have := s_pow12 e2; omega)
  refine m_X11_playBack (Nat.le_of_ble_eq_true rfl) ?_
  show s_w _ _ _ 0 _ _ _ _
  refine w_op (pc' := 1) dX11_playBack_0 rfl ?_
  refine t_getG0 (G := g_h_TAPE) dX11_playBack_1 rfl rfl (by decide) rfl (fun _ => rfl) (hp.1 _ rfl) ?_
  refine t_getI (F := f_tsize) dX11_playBack_4 rfl rfl (by decide) rfl ⟨rfl, fun _ => rfl⟩ (hp.1 _ rfl) ?_
  refine w_ifne (t := 21) dX11_playBack_7 (by decide) (fun c7 => ?_) (fun c7 => ?_)
  · refine w_op (pc' := 22) dX11_playBack_21 rfl ?_
    refine t_getG0 (G := g_h_WORKS) dX11_playBack_22 rfl rfl (by decide) rfl (fun _ => rfl) (hp.1 _ rfl) ?_
    refine t_getI (F := f_allBegins) dX11_playBack_25 rfl rfl (by decide) rfl ⟨rfl, fun _ => rfl⟩ (hp.1 _ rfl) ?_
    refine w_op (pc' := 29) (ll' := [_, _, _, _]) dX11_playBack_28 rfl ?_
    refine w_op (pc' := 30) dX11_playBack_29 rfl ?_
    refine t_getG0 (G := g_h_TAPE) dX11_playBack_30 rfl rfl (by decide) rfl (fun _ => rfl) (hp.1 _ rfl) ?_
    refine t_getI (F := f_tkind) dX11_playBack_33 rfl rfl (by decide) rfl ⟨rfl, fun _ => rfl⟩ (hp.1 _ rfl) ?_
    refine w_bipush (v := 107) dX11_playBack_36 rfl ?_
    refine w_icmpne (t := 45) dX11_playBack_38 (by decide) (fun c38 => ?_) (fun c38 => ?_)
    · refine w_iconst (v := 0) dX11_playBack_45 rfl ?_
      refine w_op (pc' := 47) (ll' := [_, _, _, _]) dX11_playBack_46 rfl ?_
      refine w_op (pc' := 48) dX11_playBack_47 rfl ?_
      refine t_getG0 (G := g_h_TAPE) dX11_playBack_48 rfl rfl (by decide) rfl (fun _ => rfl) (hp.1 _ rfl) ?_
      refine w_bipush (v := 45) dX11_playBack_51 rfl ?_
      refine t_putI (F := f_recording) dX11_playBack_53 rfl rfl (by decide) (by decide) rfl (s_ckc (by decide +kernel)) (Or.inl rfl) (hp.1 _ rfl) ?_
      refine w_op (pc' := 57) dX11_playBack_56 rfl ?_
      refine w_ifeq (t := 68) dX11_playBack_57 (by decide) (fun c57 => ?_) (fun c57 => ?_)
      · refine w_iconst (v := 0) dX11_playBack_68 rfl ?_
        refine w_op (pc' := 70) (ll' := [_, _, _, _]) dX11_playBack_69 rfl ?_
        have hK : decide (I f_tkind 0 = 107) = false := decide_eq_false c38
        have e0 : s_pb0 p nk nr (decide (I f_tkind 0 = 107)) I J = (s_up I f_recording 0 45, J) := if_neg (fun z9 => by rw [hK] at z9; cases z9)
        have k9 := k c7 z hz31 hz
        unfold s_pb at k9
        rw [e0] at k9
        rw [hK] at k9
        exact l_X11_playBack (I := I) (J := J) (c := c) (p := p) (isK := false) (p0 := p) hz31 k9 (z + 1) 0 p _ J c (Nat.zero_le _) (hD.eq (s_eqC.up (by decide))) (hT.eq (s_eqT.up (by decide))) s_xt.rfl' s_up_s ((s_up_F (by decide)).trans hz) rfl (by omega)
      · exact absurd c57 (by decide)
    · refine w_iconst (v := 1) dX11_playBack_41 rfl ?_
      refine w_goto (t := 46) dX11_playBack_42 (by decide) ?_
      refine w_op (pc' := 47) (ll' := [_, _, _, _]) dX11_playBack_46 rfl ?_
      refine w_op (pc' := 48) dX11_playBack_47 rfl ?_
      refine t_getG0 (G := g_h_TAPE) dX11_playBack_48 rfl rfl (by decide) rfl (fun _ => rfl) (hp.1 _ rfl) ?_
      refine w_bipush (v := 45) dX11_playBack_51 rfl ?_
      refine t_putI (F := f_recording) dX11_playBack_53 rfl rfl (by decide) (by decide) rfl (s_ckc (by decide +kernel)) (Or.inl rfl) (hp.1 _ rfl) ?_
      refine w_op (pc' := 57) dX11_playBack_56 rfl ?_
      refine w_ifeq (t := 68) dX11_playBack_57 (by decide) (fun c57 => ?_) (fun c57 => ?_)
      · exact absurd c57 (by decide)
      · refine w_op (pc' := 61) dX11_playBack_60 rfl ?_
        refine t_getG0 (G := g_h_WORKS) dX11_playBack_61 rfl rfl (by decide) rfl (fun _ => rfl) (hp.1 _ rfl) ?_
        refine t_callV (t := T_WORKS) (As := []) dX11_playBack_64 rfl rM_X10_releaseAll (by decide) rfl rfl (by decide) (by decide) (Nat.le_of_ble_eq_true rfl) rfl (hp.1 _ rfl) (c_X10_releaseAll (hD.eq (s_eqC.up (by decide))) (hT.eq (s_eqT.up (by decide))) (fun p1 c1 hD1 hx1 hT1 => ?_))
        show s_w _ _ _ 67 _ _ _ _
        rw [show p.1 T_HALL = p1.1 T_HALL from (hx1.1 T_HALL rfl).1.symm]
        have hp := hD1.1.1
        refine w_op (pc' := 68) dX11_playBack_67 rfl ?_
        refine w_iconst (v := 0) dX11_playBack_68 rfl ?_
        refine w_op (pc' := 70) (ll' := [_, _, _, _]) dX11_playBack_69 rfl ?_
        have hK : decide (I f_tkind 0 = 107) = true := decide_eq_true c38
        have ho8 : s_off (s_up I f_recording 0 45) (s_rla (s_up I f_recording 0 45)).1 := s_off.rla
        have ho := ho8 s_up_s
        have e0 : s_pb0 p nk nr (decide (I f_tkind 0 = 107)) I J = s_stl p nk nr ((s_rla (s_up I f_recording 0 45)).1, J) := if_pos hK
        have k9 := k c7 z hz31 hz
        unfold s_pb at k9
        rw [e0] at k9
        rw [hK] at k9
        have ho5 := ho.2.1.trans ((s_up_F (by decide)).trans hz)
        have ho6 := ho.1
        clear ho ho8 e0 k
        generalize (s_rla (s_up I f_recording 0 45)).1 = C at hD1 hT1 ho5 ho6 k9 ⊢
        have ho9 : s_off C (s_stl p nk nr (C, J)).1 := s_off.stl (a := (C, J))
        generalize s_stl p nk nr (C, J) = B at hD1 hT1 ho9 k9 ⊢
        have ho2 := ho9 ho6
        exact l_X11_playBack (I := I) (J := J) (c := c) (p := p) (isK := true) (p0 := p) hz31 k9 (z + 1) 0 p1 B.1 B.2 c1 (Nat.zero_le _) hD1 hT1 hx1 ho2.1 (ho2.2.1.trans ho5) (by rw [s_pbS.xt hx1]; rfl) (by omega)
  · exact w_throwN (is := 413) (sp := 1490) (tx := "nothing was recorded") (by decide) rfl rfl (by simp) dX11_playBack_10 dX11_playBack_13 dX11_playBack_14 dX11_playBack_17 dX11_playBack_20 ⟨rfl, kx c7⟩
