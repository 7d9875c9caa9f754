/-! 994: tuning to another, the mean, what is off (printed by wip/whole/p994.py) -/
def q_sT0 : List Nat := [f_m_isRelay, f_m_counts, f_m_isOpen, f_m_closedSince, f_m_winds, f_m_begun, f_m_speaks] ++ q_bT
theorem q_stA_off {q : Nat} {I : e_I} (h : ¬ I f_m_recording 0 = 114) : s_eqN q_bT I (q_stA q I) := by
  have e : q_stK q I = I := if_neg (fun u => h u.2)
  unfold q_stA
  rw [e]
  exact s_eqN.qstB
theorem q_runA_off {np : Nat} {I : e_I} (h : ¬ I f_m_recording 0 = 114) : s_eqN q_bT I (s_run q_stA 0 np I) :=
  s_run_ind (P := fun I I' => ¬ I f_m_recording 0 = 114 → s_eqN q_bT I I') (fun _ _ => s_eqN.rfl') (fun {x y z} (u : ¬ x f_m_recording 0 = 114 → s_eqN q_bT x y) (v : ¬ y f_m_recording 0 = 114 → s_eqN q_bT y z) (h : ¬ x f_m_recording 0 = 114) => (u h).trans (v (by rw [u h f_m_recording (by decide)]; exact h))) (fun i I h => q_stA_off h) np 0 I h
/-- nothing is recorded: what settles touches -/
theorem q_st_off {nk nr np : Nat} {a : e_I × e_Jt} (h : ¬ a.1 f_m_recording 0 = 114) : s_eqN q_sT0 a.1 (q_st nk nr np a).1 := by
  have e1 : s_eqN q_sT0 a.1 (q_rc nk nr np a.1) := s_eqN.qrc.mono (by decide)
  have h1 : ¬ q_rc nk nr np a.1 f_m_recording 0 = 114 := by rw [e1 f_m_recording (by decide)]; exact h
  have e2 : s_eqN q_sT0 (q_rc nk nr np a.1) _ := (q_runA_off (np := np) h1).mono (by decide)
  have e3 : s_eqN q_sT0 _ (s_run q_mv 0 np (s_run q_stA 0 np (q_rc nk nr np a.1))) := (s_eqN.run s_eqN.qmv _ _ _).mono (by decide)
  have e4 : s_eqN q_sT0 _ (q_bws nk np (s_run q_mv 0 np (s_run q_stA 0 np (q_rc nk nr np a.1)))) := s_eqN.qbws.mono (by decide)
  exact (((e1.trans e2).trans e3).trans e4).trans ((s_eqN.runP s_eqN.qsp _ _ _).mono (by decide))
theorem q_tc_off {nk nr np i : Nat} {a : e_I × e_Jt} (h : ¬ a.1 f_m_recording 0 = 114) : s_eqN (f_m_tick :: q_sT0) a.1 (q_tc nk nr np i a).1 := by
  have e1 : s_eqN (f_m_tick :: q_sT0) a.1 (s_up a.1 f_m_tick 0 (a.1 f_m_tick 0 + 1)) := s_eqN.up (by decide)
  exact e1.trans ((q_st_off (a := (s_up a.1 f_m_tick 0 (a.1 f_m_tick 0 + 1), a.2)) (by show ¬ s_up a.1 f_m_tick 0 (a.1 f_m_tick 0 + 1) f_m_recording 0 = 114; rw [s_up_n (by decide)]; exact h)).mono (by decide))
theorem q_tcs_off {nk nr np i n : Nat} {a : e_I × e_Jt} (h : ¬ a.1 f_m_recording 0 = 114) : s_eqN (f_m_tick :: q_sT0) a.1 (s_run (q_tc nk nr np) i n a).1 :=
  s_run_ind (P := fun (a b : e_I × e_Jt) => ¬ a.1 f_m_recording 0 = 114 → s_eqN (f_m_tick :: q_sT0) a.1 b.1) (fun _ _ => s_eqN.rfl') (fun {x y z} (u : ¬ x.1 f_m_recording 0 = 114 → s_eqN (f_m_tick :: q_sT0) x.1 y.1) (v : ¬ y.1 f_m_recording 0 = 114 → s_eqN (f_m_tick :: q_sT0) y.1 z.1) h => (u h).trans (v (by rw [u h f_m_recording (by decide)]; exact h))) (fun i a h => q_tc_off h) n i a h
theorem q_mdv_off {I : e_I} {x y z : Int32} (h : ¬ I f_m_recording 0 = 107) : s_eqN [f_m_isDown, f_m_wentDown] I (q_mdv I x y z) := by
  unfold q_mdv
  split
  · exact s_eqN.rfl'
  · exact s_eqN.qmd1

set_option maxRecDepth 100000 in
set_option maxHeartbeats 800000 in
theorem l_X16_tuneTo {X : e_XT} {d : Nat} {p : e_Sp} {J : e_Jt} {c : Nat × Nat} {w : e_Rw1} {Q : e_Rt → e_SS → Prop} {I2 : e_I} {nk nr np a b n q1 q2 : Nat} {x y z t : Int32} {o6 : Option Value} (hG2 : q_G p I2 c nk nr np a b n) (hX : (X 8).1 = 0) (ha9 : a + n + 100003000 < 4294960000) (hn9 : n + 3000 < 39999999) (hq1 : q1 < np) (hq2 : q2 < np) (hz : 0 ≤ z ∧ z < nI nr) (hzt : q_pp I2 z t = nI q2) (k : ∀ p' c' n', q_X p p' → q_L p' (q_st nk nr np (I2, J)).1 c' a b n' → n' ≤ n + np → Q (.inl (some (.int (q_pt (q_st nk nr np (I2, J)).1 q1 - q_pt (q_st nk nr np (I2, J)).1 q2)))) (p', q_an (q_st nk nr np (I2, J)).1, (q_st nk nr np (I2, J)).2, c', w)) : s_w X (d + 9) K_X16_tuneTo 98 [some (.ref (p.1 T_MODEL 0)), some (.int x), some (.int y), some (.int z), some (.int t), some (.int (nI q1)), o6] [] (p, I2, J, c, w) (fun r S' => e_rcr (some .int) r = true ∧ Q r S') := by
  have hp := hG2.1.1
  have hnp := hG2.1.2.2.2.1.1
  refine w_op (pc' := 99) dX16_tuneTo_98 rfl ?_
  refine t_callV (t := T_MODEL) (As := []) dX16_tuneTo_99 rfl rM_X16_settles (by decide) rfl rfl (by decide) (by decide) (Nat.le_of_ble_eq_true rfl) rfl (hp.1 _ rfl) (c_X16_settles hG2.1 hG2.2.1 hG2.2.2.1 hG2.2.2.2.1 hG2.2.2.2.2.1 hG2.2.2.2.2.2.1 hX hG2.2.2.2.2.2.2.1 hG2.2.2.2.2.2.2.2 (fun p1 c1 n1 x1 hL1 hn1 => ?_))
  show s_w _ _ _ 102 _ _ _ _
  rw [← x1.a (t := T_MODEL) (i := 0) (by decide)]
  have hG3 := hG2.st x1 hL1 (by omega) (by omega)
  have hM := hG3.1
  have hp := hM.1
  have e9 : q_pp (q_st nk nr np (I2, J)).1 = q_pp I2 := q_pp_eq (q_st_e (a := (I2, J))).1 (by decide) (by decide)
  generalize hst : q_st nk nr np (I2, J) = st at *
  refine w_op (pc' := 103) dX16_tuneTo_102 rfl ?_
  refine w_op (pc' := 104) dX16_tuneTo_103 rfl ?_
  refine w_op (pc' := 106) dX16_tuneTo_104 rfl ?_
  refine t_callV (t := T_MODEL) (As := [_]) dX16_tuneTo_106 rfl rM_X16_pitchOf (by decide) rfl rfl (by decide) (by decide) (Nat.le_of_ble_eq_true rfl) rfl (hp.1 _ rfl) (c_X16_pitchOf hM hq1 ?_)
  show s_w _ _ _ 109 _ _ _ _
  refine w_op (pc' := 110) dX16_tuneTo_109 rfl ?_
  refine w_op (pc' := 111) dX16_tuneTo_110 rfl ?_
  refine w_op (pc' := 112) dX16_tuneTo_111 rfl ?_
  refine w_op (pc' := 114) dX16_tuneTo_112 rfl ?_
  refine t_callV (t := T_MODEL) (As := [_, _]) dX16_tuneTo_114 rfl rM_X16_pipe (by decide) rfl rfl (by decide) (by decide) (Nat.le_of_ble_eq_true rfl) rfl (hp.1 _ rfl) (c_X16_pipe hM hz ?_)
  show s_w _ _ _ 117 _ _ _ _
  rw [e9, hzt]
  refine t_callV (t := T_MODEL) (As := [_]) dX16_tuneTo_117 rfl rM_X16_pitchOf (by decide) rfl rfl (by decide) (by decide) (Nat.le_of_ble_eq_true rfl) rfl (hp.1 _ rfl) (c_X16_pitchOf hM hq2 ?_)
  show s_w _ _ _ 120 _ _ _ _
  refine w_op (pc' := 121) dX16_tuneTo_120 rfl ?_
  refine t_callV (t := T_MODEL) (As := [_]) dX16_tuneTo_121 rfl rM_X16_answer (by decide) rfl rfl (by decide) (by decide) (Nat.le_of_ble_eq_true rfl) rfl (hp.1 _ rfl) (c_X16_answer hp ?_)
  show s_w _ _ _ 124 _ _ _ _
  exact w_ireturn dX16_tuneTo_124 ⟨rfl, k p1 c1 n1 x1 hL1 hn1⟩

set_option maxRecDepth 100000 in
set_option maxHeartbeats 800000 in
theorem c_X16_tuneTo {X : e_XT} {d : Nat} {p : e_Sp} {I : e_I} {J : e_Jt} {c : Nat × Nat} {w : e_Rw1} {Q : e_Rt → e_SS → Prop} {nk nr np a b n : Nat} (hG : q_G p I c nk nr np a b n) (hX : (X 8).1 = 0) (ha9 : a + n + 100003000 < 4294960000) (hn9 : n + 3000 < 39999999) {x y z t : Int32} (k : q_ip I nr x y = true → q_ip I nr z t = true → ∀ p' c' n', q_X p p' → q_L p' (q_st nk nr np ((q_tto (q_bws nk np I) (q_pi I x y) (q_pi I z t)), J)).1 c' a b n' → n' ≤ n + np → Q (.inl (some (.int (q_pt (q_st nk nr np ((q_tto (q_bws nk np I) (q_pi I x y) (q_pi I z t)), J)).1 (q_pi I x y) - q_pt (q_st nk nr np ((q_tto (q_bws nk np I) (q_pi I x y) (q_pi I z t)), J)).1 (q_pi I z t))))) (p', q_an (q_st nk nr np ((q_tto (q_bws nk np I) (q_pi I x y) (q_pi I z t)), J)).1, (q_st nk nr np ((q_tto (q_bws nk np I) (q_pi I x y) (q_pi I z t)), J)).2, c', w)) (kx : ¬ (q_ip I nr x y = true ∧ q_ip I nr z t = true) → Q (.inl (some (.int 0))) (p, q_fl I 1, J, c, w)) : s_c X (d + 9) 278 [.ref (p.1 T_MODEL 0), .int x, .int y, .int z, .int t] (p, I, J, c, w) Q := by
  have hM := hG.1
  have hp := hM.1
  have hk40 := hM.2.1
  have hr10 := hM.2.2.1
  have hnp := hM.2.2.2.1
  refine m_X16_tuneTo (Nat.le_of_ble_eq_true rfl) ?_
  show s_w _ _ _ 0 _ _ _ _
  refine w_op (pc' := 1) dX16_tuneTo_0 rfl ?_
  refine w_op (pc' := 2) dX16_tuneTo_1 rfl ?_
  refine w_op (pc' := 3) dX16_tuneTo_2 rfl ?_
  refine t_callV (t := T_MODEL) (As := [_, _]) dX16_tuneTo_3 rfl rM_X16_isPipe (by decide) rfl rfl (by decide) (by decide) (Nat.le_of_ble_eq_true rfl) rfl (hp.1 _ rfl) (c_X16_isPipe hM ?_)
  show s_w _ _ _ 6 _ _ _ _
  refine w_ifeq (t := 19) dX16_tuneTo_6 (by decide) (fun c6 => ?_) (fun c6 => ?_)
  · refine w_op (pc' := 20) dX16_tuneTo_19 rfl ?_
    refine w_iconst (v := 1) dX16_tuneTo_20 rfl ?_
    refine t_callV (t := T_MODEL) (As := [_]) dX16_tuneTo_21 rfl rM_X16_fails (by decide) rfl rfl (by decide) (by decide) (Nat.le_of_ble_eq_true rfl) rfl (hp.1 _ rfl) (c_X16_fails hp ?_)
    show s_w _ _ _ 24 _ _ _ _
    exact w_ireturn dX16_tuneTo_24 ⟨rfl, kx (fun u => by have u1 := u.1; rw [bI_0.mp c6] at u1; cases u1)⟩
  · refine w_op (pc' := 10) dX16_tuneTo_9 rfl ?_
    refine w_op (pc' := 11) dX16_tuneTo_10 rfl ?_
    refine w_op (pc' := 13) dX16_tuneTo_11 rfl ?_
    refine t_callV (t := T_MODEL) (As := [_, _]) dX16_tuneTo_13 rfl rM_X16_isPipe (by decide) rfl rfl (by decide) (by decide) (Nat.le_of_ble_eq_true rfl) rfl (hp.1 _ rfl) (c_X16_isPipe hM ?_)
    show s_w _ _ _ 16 _ _ _ _
    refine w_ifne (t := 25) dX16_tuneTo_16 (by decide) (fun c16 => ?_) (fun c16 => ?_)
    · have h6 := bI_n0.mp c6
      have hx2 := q_ip_x h6
      have hx3 := q_ip_n hM h6
      have h7 := bI_n0.mp c16
      have hz2 := q_ip_x h7
      have hz3 := q_ip_n hM h7
      have hix : s_ix (nI (q_pi I x y)) (q_pi I x y) 1280 := s_ix.nI (by omega) (by decide)
      refine w_op (pc' := 26) dX16_tuneTo_25 rfl ?_
      refine t_callV (t := T_MODEL) (As := []) dX16_tuneTo_26 rfl rM_X16_blows (by decide) rfl rfl (by decide) (by decide) (Nat.le_of_ble_eq_true rfl) rfl (hp.1 _ rfl) (c_X16_blows hM ?_)
      show s_w _ _ _ 29 _ _ _ _
      have hM1 := hM.eqN (s_eqN.qbws (nk := nk) (np := np)) (by decide)
      have e9 : q_pp (q_bws nk np I) = q_pp I := q_pp_eq s_eqN.qbws (by decide) (by decide)
      refine w_op (pc' := 30) dX16_tuneTo_29 rfl ?_
      refine w_op (pc' := 31) dX16_tuneTo_30 rfl ?_
      refine w_op (pc' := 32) dX16_tuneTo_31 rfl ?_
      refine t_callV (t := T_MODEL) (As := [_, _]) dX16_tuneTo_32 rfl rM_X16_pipe (by decide) rfl rfl (by decide) (by decide) (Nat.le_of_ble_eq_true rfl) rfl (hp.1 _ rfl) (c_X16_pipe hM1 hx2 ?_)
      show s_w _ _ _ 35 _ _ _ _
      rw [e9, hx3.2]
      refine w_op (pc' := 37) (ll' := [_, _, _, _, _, _, _]) dX16_tuneTo_35 rfl ?_
      refine w_op (pc' := 38) dX16_tuneTo_37 rfl ?_
      refine t_getG0 (G := g_m_tuning) dX16_tuneTo_38 rfl rfl (by decide) rfl (fun _ => rfl) (hp.1 _ rfl) ?_
      refine w_op (pc' := 43) dX16_tuneTo_41 rfl ?_
      refine t_iald0 (F := f_m_tuning) dX16_tuneTo_43 rfl (by decide) rfl (hp.1 _ rfl) hix hix.2.2 ?_
      refine w_op (pc' := 45) dX16_tuneTo_44 rfl ?_
      refine w_op (pc' := 46) dX16_tuneTo_45 rfl ?_
      refine w_op (pc' := 47) dX16_tuneTo_46 rfl ?_
      refine w_op (pc' := 49) dX16_tuneTo_47 rfl ?_
      refine t_callV (t := T_MODEL) (As := [_, _]) dX16_tuneTo_49 rfl rM_X16_pipe (by decide) rfl rfl (by decide) (by decide) (Nat.le_of_ble_eq_true rfl) rfl (hp.1 _ rfl) (c_X16_pipe hM1 hz2 ?_)
      show s_w _ _ _ 52 _ _ _ _
      rw [e9, hz3.2]
      refine t_callV (t := T_MODEL) (As := [_]) dX16_tuneTo_52 rfl rM_X16_pitchOf (by decide) rfl rfl (by decide) (by decide) (Nat.le_of_ble_eq_true rfl) rfl (hp.1 _ rfl) (c_X16_pitchOf hM1 hz3.1 ?_)
      show s_w _ _ _ 55 _ _ _ _
      refine w_op (pc' := 56) dX16_tuneTo_55 rfl ?_
      refine w_op (pc' := 57) dX16_tuneTo_56 rfl ?_
      refine w_op (pc' := 59) dX16_tuneTo_57 rfl ?_
      refine t_callV (t := T_MODEL) (As := [_]) dX16_tuneTo_59 rfl rM_X16_pitchOf (by decide) rfl rfl (by decide) (by decide) (Nat.le_of_ble_eq_true rfl) rfl (hp.1 _ rfl) (c_X16_pitchOf hM1 hx3.1 ?_)
      show s_w _ _ _ 62 _ _ _ _
      refine w_op (pc' := 63) dX16_tuneTo_62 rfl ?_
      refine w_op (pc' := 65) (ll' := [_, _, _, _, _, _, _]) dX16_tuneTo_63 rfl ?_
      refine w_op (pc' := 66) dX16_tuneTo_65 rfl ?_
      refine t_getG0 (G := g_m_tuning) dX16_tuneTo_66 rfl rfl (by decide) rfl (fun _ => rfl) (hp.1 _ rfl) ?_
      refine w_op (pc' := 71) dX16_tuneTo_69 rfl ?_
      refine w_op (pc' := 73) dX16_tuneTo_71 rfl ?_
      refine w_bipush (v := 50) dX16_tuneTo_73 rfl ?_
      refine w_icmple (t := 83) dX16_tuneTo_75 (by decide) (fun c75 => ?_) (fun c75 => ?_)
      · refine w_op (pc' := 85) dX16_tuneTo_83 rfl ?_
        refine w_bipush (v := (-50)) dX16_tuneTo_85 rfl ?_
        refine w_icmpge (t := 95) dX16_tuneTo_87 (by decide) (fun c87 => ?_) (fun c87 => ?_)
        · refine w_op (pc' := 97) dX16_tuneTo_95 rfl ?_
          refine t_iast0 (F := f_m_tuning) dX16_tuneTo_97 rfl (by decide) (by decide) rfl (hp.1 _ rfl) hix hix.2.2 ?_
          have ec : (q_tto (q_bws nk np I) (q_pi I x y) (q_pi I z t)) = s_up (q_bws nk np I) f_m_tuning (q_pi I x y) (q_bws nk np I f_m_tuning (q_pi I x y) + q_pt (q_bws nk np I) (q_pi I z t) - q_pt (q_bws nk np I) (q_pi I x y)) := by unfold q_tto q_cl; rw [if_neg (Int32.not_lt.mpr c75), if_neg (Int32.not_lt.mpr c87)]
          rw [← ec]
          have hG1 := hG.eqN (s_eqN.qbws (nk := nk) (np := np)) (by decide)
          have hG2 : q_G p (q_tto (q_bws nk np I) (q_pi I x y) (q_pi I z t)) c nk nr np a b n := hG1.up (by decide)
          have e8 : q_pp (q_tto (q_bws nk np I) (q_pi I x y) (q_pi I z t)) = q_pp I := (q_pp_eq (s_eqN.up (T := [f_m_tuning]) (by decide)) (by decide) (by decide)).trans e9
          exact l_X16_tuneTo hG2 hX ha9 hn9 hx3.1 hz3.1 hz2 (by rw [e8]; exact hz3.2) (k h6 h7)
        · refine w_bipush (v := (-50)) dX16_tuneTo_90 rfl ?_
          refine w_goto (t := 97) dX16_tuneTo_92 (by decide) ?_
          refine t_iast0 (F := f_m_tuning) dX16_tuneTo_97 rfl (by decide) (by decide) rfl (hp.1 _ rfl) hix hix.2.2 ?_
          have ec : (q_tto (q_bws nk np I) (q_pi I x y) (q_pi I z t)) = s_up (q_bws nk np I) f_m_tuning (q_pi I x y) (-50) := by unfold q_tto q_cl; rw [if_neg (Int32.not_lt.mpr c75), if_pos (Int32.not_le.mp c87)]
          rw [← ec]
          have hG1 := hG.eqN (s_eqN.qbws (nk := nk) (np := np)) (by decide)
          have hG2 : q_G p (q_tto (q_bws nk np I) (q_pi I x y) (q_pi I z t)) c nk nr np a b n := hG1.up (by decide)
          have e8 : q_pp (q_tto (q_bws nk np I) (q_pi I x y) (q_pi I z t)) = q_pp I := (q_pp_eq (s_eqN.up (T := [f_m_tuning]) (by decide)) (by decide) (by decide)).trans e9
          exact l_X16_tuneTo hG2 hX ha9 hn9 hx3.1 hz3.1 hz2 (by rw [e8]; exact hz3.2) (k h6 h7)
      · refine w_bipush (v := 50) dX16_tuneTo_78 rfl ?_
        refine w_goto (t := 97) dX16_tuneTo_80 (by decide) ?_
        refine t_iast0 (F := f_m_tuning) dX16_tuneTo_97 rfl (by decide) (by decide) rfl (hp.1 _ rfl) hix hix.2.2 ?_
        have ec : (q_tto (q_bws nk np I) (q_pi I x y) (q_pi I z t)) = s_up (q_bws nk np I) f_m_tuning (q_pi I x y) 50 := by unfold q_tto q_cl; rw [if_pos (Int32.not_le.mp c75)]
        rw [← ec]
        have hG1 := hG.eqN (s_eqN.qbws (nk := nk) (np := np)) (by decide)
        have hG2 : q_G p (q_tto (q_bws nk np I) (q_pi I x y) (q_pi I z t)) c nk nr np a b n := hG1.up (by decide)
        have e8 : q_pp (q_tto (q_bws nk np I) (q_pi I x y) (q_pi I z t)) = q_pp I := (q_pp_eq (s_eqN.up (T := [f_m_tuning]) (by decide)) (by decide) (by decide)).trans e9
        exact l_X16_tuneTo hG2 hX ha9 hn9 hx3.1 hz3.1 hz2 (by rw [e8]; exact hz3.2) (k h6 h7)
    · refine w_op (pc' := 20) dX16_tuneTo_19 rfl ?_
      refine w_iconst (v := 1) dX16_tuneTo_20 rfl ?_
      refine t_callV (t := T_MODEL) (As := [_]) dX16_tuneTo_21 rfl rM_X16_fails (by decide) rfl rfl (by decide) (by decide) (Nat.le_of_ble_eq_true rfl) rfl (hp.1 _ rfl) (c_X16_fails hp ?_)
      show s_w _ _ _ 24 _ _ _ _
      exact w_ireturn dX16_tuneTo_24 ⟨rfl, kx (fun u => by have u1 := u.2; rw [bI_0.mp c16] at u1; cases u1)⟩

set_option maxRecDepth 100000 in
set_option maxHeartbeats 800000 in
theorem l_X16_meanPitch {X : e_XT} {d : Nat} {p : e_Sp} {I : e_I} {J : e_Jt} {c : Nat × Nat} {w : e_Rw1} {Q : e_Rt → e_SS → Prop} {nk nr np : Nat} (hM : q_D p I nk nr np) {m9 : Int32} {r : Int64} (hn : e_n64 (FP.ddiv (FP.l2d r) (FP.i2d m9)) = true) (k : Q (.inl (some (.double (FP.ddiv (FP.l2d r) (FP.i2d m9))))) (p, I, J, c, w)) : ∀ (n : Nat) (i : Nat) (u : Int64) (o3 : Option Value), (h1 : i ≤ np) → (hr : s_run (q_mps I) i (np - i) u = r) → (hn : np - i < n) → s_w X (d + 4) K_X16_meanPitch 33 [some (.ref (p.1 T_MODEL 0)), some (.int m9), some (.long u), o3, some (.int (nI i))] [] (p, I, J, c, w) (fun r S' => e_rcr (some FieldType.double) r = true ∧ Q r S') := by
  intro n
  induction n with
  | zero =>
    intro i u o3 h1 hr hn
    exact absurd hn (Nat.not_lt_zero _)
  | succ n ih =>
    intro i u o3 h1 hr hn
    have hp := hM.1
    have hnp := hM.2.2.2.1
    refine w_op (pc' := 35) dX16_meanPitch_33 rfl ?_
    refine w_op (pc' := 36) dX16_meanPitch_35 rfl ?_
    refine t_getI (F := f_m_pipes) dX16_meanPitch_36 rfl rfl (by decide) rfl ⟨rfl, fun _ => rfl⟩ (hp.1 _ rfl) ?_
    rw [hnp.2]
    refine w_icmpge (t := 72) dX16_meanPitch_39 (by decide) (fun c39 => ?_) (fun c39 => ?_)
    · have hi := (nI_leI (by omega) (by omega)).mp c39
      rw [s_run_z hi] at hr
      subst hr
      refine w_op (pc' := 73) dX16_meanPitch_72 rfl ?_
      refine w_op (pc' := 74) dX16_meanPitch_73 rfl ?_
      refine w_op (pc' := 75) dX16_meanPitch_74 rfl ?_
      refine w_op (pc' := 76) dX16_meanPitch_75 rfl ?_
      refine w_op (pc' := 77) dX16_meanPitch_76 (e_opF_some rfl rfl rfl rfl rfl (if_pos hn)) ?_
      exact w_dreturn dX16_meanPitch_77 ⟨rfl, k⟩
    · have hi : i < np := Nat.lt_of_not_le (fun z => c39 ((nI_leI (by omega) (by omega)).mpr z))
      refine w_op (pc' := 43) dX16_meanPitch_42 rfl ?_
      refine w_op (pc' := 44) dX16_meanPitch_43 rfl ?_
      refine t_getG0 (G := g_m_speaks) dX16_meanPitch_44 rfl rfl (by decide) rfl (fun _ => rfl) (hp.1 _ rfl) ?_
      refine w_op (pc' := 49) dX16_meanPitch_47 rfl ?_
      refine t_bald0 (F := f_m_speaks) dX16_meanPitch_49 rfl (by decide) rfl (hp.1 _ rfl) (show s_ix _ _ 1280 from s_ix.nI (by omega) (by decide)) (show i < 1280 by omega) ?_
      refine w_ifeq (t := 63) dX16_meanPitch_50 (by decide) (fun c50 => ?_) (fun c50 => ?_)
      · refine w_op (pc' := 64) dX16_meanPitch_63 rfl ?_
        refine w_op (pc' := 65) dX16_meanPitch_64 rfl ?_
        refine w_op (pc' := 66) (ll' := [_, _, _, _, _]) dX16_meanPitch_65 rfl ?_
        refine w_op (pc' := 69) (ll' := [_, _, _, _, _]) dX16_meanPitch_66 rfl ?_
        refine w_goto (t := 33) dX16_meanPitch_69 (by decide) ?_
        rw [show nI i + Int32.ofInt 1 = nI (i + 1) from nI_1 i]
        have ef : q_mps I i u = _ := congrArg (u + ·) (if_neg (fun z => z c50))
        rw [s_run_s hi, ef] at hr
        exact ih (i + 1) _ _ (by omega) hr (by omega)
      · refine w_op (pc' := 54) dX16_meanPitch_53 rfl ?_
        refine w_op (pc' := 56) dX16_meanPitch_54 rfl ?_
        refine t_callV (t := T_MODEL) (As := [_]) dX16_meanPitch_56 rfl rM_X16_pitchOf (by decide) rfl rfl (by decide) (by decide) (Nat.le_of_ble_eq_true rfl) rfl (hp.1 _ rfl) (c_X16_pitchOf hM hi ?_)
        show s_w _ _ _ 59 _ _ _ _
        refine w_op (pc' := 60) dX16_meanPitch_59 rfl ?_
        refine w_goto (t := 64) dX16_meanPitch_60 (by decide) ?_
        refine w_op (pc' := 65) dX16_meanPitch_64 rfl ?_
        refine w_op (pc' := 66) (ll' := [_, _, _, _, _]) dX16_meanPitch_65 rfl ?_
        refine w_op (pc' := 69) (ll' := [_, _, _, _, _]) dX16_meanPitch_66 rfl ?_
        refine w_goto (t := 33) dX16_meanPitch_69 (by decide) ?_
        rw [show nI i + Int32.ofInt 1 = nI (i + 1) from nI_1 i]
        have ef : q_mps I i u = _ := congrArg (u + ·) (if_pos c50)
        rw [s_run_s hi, ef] at hr
        exact ih (i + 1) _ _ (by omega) hr (by omega)
set_option maxRecDepth 100000 in
set_option maxHeartbeats 800000 in
theorem c_X16_meanPitch {X : e_XT} {d : Nat} {p : e_Sp} {I : e_I} {J : e_Jt} {c : Nat × Nat} {w : e_Rw1} {Q : e_Rt → e_SS → Prop} {nk nr np a b n : Nat} (hG : q_G p I c nk nr np a b n) (hX : (X 8).1 = 0) (hn : ¬ q_asp I np = 0 → e_n64 (FP.ddiv (FP.l2d (s_run (q_mps (q_bws nk np (q_an I))) 0 np 0)) (FP.i2d (q_asp I np))) = true) (k : ¬ q_asp I np = 0 → Q (.inl (some (.double (FP.ddiv (FP.l2d (s_run (q_mps (q_bws nk np (q_an I))) 0 np 0)) (FP.i2d (q_asp I np)))))) (p, (q_bws nk np (q_an I)), J, c, w)) (kx : q_asp I np = 0 → Q (.inl (some (.double FP.dconst0))) (p, q_fl I 1, J, c, w)) : s_c X (d + 5) 321 [.ref (p.1 T_MODEL 0)] (p, I, J, c, w) Q := by
  have hM := hG.1
  have hp := hM.1
  have hk40 := hM.2.1
  have hr10 := hM.2.2.1
  have hnp := hM.2.2.2.1
  have hM0 : q_D p (q_an I) nk nr np := hM.eqN (s_eqN.up (T := [f_m_thrown]) (by decide)) (by decide)
  refine m_X16_meanPitch (Nat.le_of_ble_eq_true rfl) ?_
  show s_w _ _ _ 0 _ _ _ _
  refine w_op (pc' := 1) dX16_meanPitch_0 rfl ?_
  refine t_callV (t := T_MODEL) (As := []) dX16_meanPitch_1 rfl rM_X16_allSpeaking (by decide) rfl rfl (by decide) (by decide) (Nat.le_of_ble_eq_true rfl) rfl (hp.1 _ rfl) (c_X16_allSpeaking hM ?_)
  show s_w _ _ _ 4 _ _ _ _
  refine w_op (pc' := 5) (ll' := [_, _, _, _, _]) dX16_meanPitch_4 rfl ?_
  refine w_op (pc' := 6) dX16_meanPitch_5 rfl ?_
  refine w_op (pc' := 7) dX16_meanPitch_6 rfl ?_
  refine w_ifne (t := 14) dX16_meanPitch_7 (by decide) (fun c7 => ?_) (fun c7 => ?_)
  · refine w_iconst (v := 0) dX16_meanPitch_14 rfl ?_
    refine t_putI (F := f_m_thrown) dX16_meanPitch_15 rfl rfl (by decide) (by decide) rfl rfl (Or.inl rfl) (hp.1 _ rfl) ?_
    refine w_op (pc' := 19) dX16_meanPitch_18 rfl ?_
    refine w_ifne (t := 24) dX16_meanPitch_19 (by decide) (fun c19 => ?_) (fun c19 => ?_)
    · refine w_op (pc' := 25) dX16_meanPitch_24 rfl ?_
      refine t_callV (t := T_MODEL) (As := []) dX16_meanPitch_25 rfl rM_X16_blows (by decide) rfl rfl (by decide) (by decide) (Nat.le_of_ble_eq_true rfl) rfl (hp.1 _ rfl) (c_X16_blows hM0 ?_)
      show s_w _ _ _ 28 _ _ _ _
      refine w_op (pc' := 29) dX16_meanPitch_28 rfl ?_
      refine w_op (pc' := 30) (ll' := [_, _, _, _, _]) dX16_meanPitch_29 rfl ?_
      refine w_iconst (v := 0) dX16_meanPitch_30 rfl ?_
      refine w_op (pc' := 33) (ll' := [_, _, _, _, _]) dX16_meanPitch_31 rfl ?_
      exact l_X16_meanPitch (hM0.eqN s_eqN.qbws (by decide)) (hn c7) (k c7) (np + 1) 0 _ _ (Nat.zero_le _) rfl (by omega)
    · exact absurd c19 c7
  · refine w_iconst (v := 1) dX16_meanPitch_10 rfl ?_
    refine w_goto (t := 15) dX16_meanPitch_11 (by decide) ?_
    refine t_putI (F := f_m_thrown) dX16_meanPitch_15 rfl rfl (by decide) (by decide) rfl rfl (Or.inl rfl) (hp.1 _ rfl) ?_
    refine w_op (pc' := 19) dX16_meanPitch_18 rfl ?_
    refine w_ifne (t := 24) dX16_meanPitch_19 (by decide) (fun c19 => ?_) (fun c19 => ?_)
    · exact absurd c7 c19
    · refine w_op (pc' := 23) dX16_meanPitch_22 rfl ?_
      exact w_dreturn dX16_meanPitch_23 ⟨rfl, kx c7⟩

