/-! 997: playing, its start (printed by wip/whole/p997.py) -/
def q_pbI (I : e_I) : e_I := s_up I f_m_recording 0 45
def q_pb0 (nk nr np : Nat) (I : e_I) (J : e_Jt) : e_I × e_Jt := if I f_m_kindKept 0 = 107 then (q_an (q_st nk nr np ((q_lf (q_pbI I)).1, J)).1, (q_st nk nr np ((q_lf (q_pbI I)).1, J)).2) else (q_pbI I, J)
theorem q_pbL_off {nk nr np : Nat} {I I2 : e_I} {J : e_Jt} (e1 : s_eqN [f_m_isDown, f_m_wentDown] I I2) (h : I f_m_recording 0 = 45) : s_eqN (f_m_thrown :: q_pT) I (q_an (q_st nk nr np (I2, J)).1) := by
  have h1 : ¬ (I2, J).1 f_m_recording 0 = 114 := by show ¬ I2 f_m_recording 0 = 114; rw [e1 f_m_recording (by decide), h]; decide
  have e2 : s_eqN q_sT0 I2 (q_st nk nr np (I2, J)).1 := q_st_off h1
  have e3 : s_eqN (f_m_thrown :: q_pT) I2 (q_st nk nr np (I2, J)).1 := e2.mono (by decide)
  have e4 : s_eqN (f_m_thrown :: q_pT) I I2 := e1.mono (by decide)
  exact (e4.trans e3).trans (s_eqN.up (by decide))
theorem q_G.pbL {p p1 : e_Sp} {I I2 : e_I} {J : e_Jt} {c c1 : Nat × Nat} {nk nr np a b n n1 : Nat} (h : q_G p I c nk nr np a b n) (e1 : s_eqN [f_m_isDown, f_m_wentDown] I I2) (hr : I f_m_recording 0 = 45) (hb : q_bo I2 f_m_isDown) (x1 : q_X p p1) (hL1 : q_L p1 (q_st nk nr np (I2, J)).1 c1 a b n1) : q_G p1 (q_an (q_st nk nr np (I2, J)).1) c1 nk nr np a b n := by
  have e := q_pbL_off (nk := nk) (nr := nr) (np := np) (J := J) e1 hr
  have hb9 : q_bo (q_st nk nr np (I2, J)).1 f_m_isDown := by unfold q_bo; rw [(q_st_e (nk := nk) (nr := nr) (np := np) (a := (I2, J))).F (F := f_m_isDown) (by decide)]; exact hb
  have hr9 : q_bo (q_st nk nr np (I2, J)).1 f_m_isRelay := q_bo.st (a := (I2, J)) (h.2.2.2.2.1.eqN e1 (by decide))
  generalize (q_st nk nr np (I2, J)).1 = I3 at *
  exact h.off x1 e (by decide) (by decide) (hb9.eqN (s_eqN.up (T := [f_m_thrown]) (by decide)) (by decide)) (hr9.eqN (s_eqN.up (T := [f_m_thrown]) (by decide)) (by decide)) (hL1.eq (s_up_n (by decide)))

set_option maxRecDepth 100000 in
set_option maxHeartbeats 400000 in
theorem lt_X16_playBack {X : e_XT} {d : Nat} {p : e_Sp} {I : e_I} {J : e_Jt} {c : Nat × Nat} {w : e_Rw1} {Q : e_Rt → e_SS → Prop} {nk nr np a b n0 : Nat} (hG : q_G p I c nk nr np a b n0) (hX : (X 8).1 = 0) {t : Nat → Nat} (h0 : 0 < n0) (hrec : I f_m_recording 0 = 45) (hK : q_Kp I t n0) {b0 : Int64} {o3 o4 o5 : Option Value} (k : ∀ p' c' n', q_X p p' → q_L p' (q_pb1 nk nr np (s_run (q_pbS t nk nr np) 0 n0 (I, J))).1 c' a b n' → n' ≤ n0 + np → Q (.inl (some (.int ((q_pb1 nk nr np (s_run (q_pbS t nk nr np) 0 n0 (I, J))).2 j_m_allBegun 0 - b0).toInt32))) (p', q_an (q_pb1 nk nr np (s_run (q_pbS t nk nr np) 0 n0 (I, J))).1, (q_pb1 nk nr np (s_run (q_pbS t nk nr np) 0 n0 (I, J))).2, c', w)) : s_w X (d + 11) K_X16_playBack 41 [some (.ref (p.1 T_MODEL 0)), some (.long b0), none, o3, o4, o5] [] (p, I, J, c, w) (fun r S' => e_rcr (some .int) r = true ∧ Q r S') := by
  have hp := hG.1.1
  have hsz : I f_l_size 4 = nI n0 := hG.2.2.2.2.2.1.n
  have hn9 := hG.2.2.2.2.2.2.2
  have hv : p.2.1 T_MKEPT 0 = true := (hG.2.2.2.2.2.1.2.1 0).trans (decide_eq_true h0)
  refine w_op (pc' := 42) dX16_playBack_41 rfl ?_
  refine t_getG0 (G := g_m_list2) dX16_playBack_42 rfl rfl (by decide) rfl (fun _ => rfl) (hp.1 _ rfl) ?_
  refine w_iconst (v := 0) dX16_playBack_45 rfl ?_
  refine t_callV (t := T_LIST) (As := [_]) dX16_playBack_46 rfl rM_Jx4a65c_get_915e3 (by decide) rfl rfl (by decide) (by decide) (Nat.le_of_ble_eq_true rfl) rfl (hp.2 _ (by decide)) (c_get40 hp hsz (by omega) h0 ?_)
  show s_w _ _ _ 49 _ _ _ _
  refine t_chk dX16_playBack_49 rfl rfl (by decide) hv ?_
  refine t_getI (F := f_mt_tick) dX16_playBack_52 rfl rfl (by decide) rfl ⟨rfl, fun _ => rfl⟩ hv ?_
  rw [(hK.1 0 h0).2]
  refine w_op (pc' := 56) (ll' := [_, _, _, _, _, _]) dX16_playBack_55 rfl ?_
  refine w_iconst (v := 0) dX16_playBack_56 rfl ?_
  refine w_op (pc' := 59) (ll' := [_, _, _, _, _, _]) dX16_playBack_57 rfl ?_
  have h9 := l_X16_playBack (d := d + 1) (c := c) (p := p) (J := J) (w := w) (Q := Q) (b0 := b0) (t := t) hX h0 hrec hK k (n0 + 1) 0 p I J c o5 (Nat.zero_le _) q_X.rfl' hG s_eqN.rfl' rfl (by omega)
  rw [nI_0] at h9
  exact h9

set_option maxRecDepth 100000 in
set_option maxHeartbeats 400000 in
theorem c_X16_playBack {X : e_XT} {d : Nat} {p : e_Sp} {I : e_I} {J : e_Jt} {c : Nat × Nat} {w : e_Rw1} {Q : e_Rt → e_SS → Prop} {nk nr np a b n0 : Nat} (hG : q_G p I c nk nr np a b n0) (hX : (X 8).1 = 0) {t : Nat → Nat} (ha9 : a + n0 + 100003000 < 4294960000) (hn9 : n0 + 3000 < 39999999) (hK : q_Kp I t n0) (k : 0 < n0 → ∀ p' c' n', q_X p p' → q_L p' (q_pb1 nk nr np (s_run (q_pbS t nk nr np) 0 n0 (q_pb0 nk nr np I J))).1 c' a b n' → n' ≤ n0 + np → Q (.inl (some (.int ((q_pb1 nk nr np (s_run (q_pbS t nk nr np) 0 n0 (q_pb0 nk nr np I J))).2 j_m_allBegun 0 - J j_m_allBegun 0).toInt32))) (p', q_an (q_pb1 nk nr np (s_run (q_pbS t nk nr np) 0 n0 (q_pb0 nk nr np I J))).1, (q_pb1 nk nr np (s_run (q_pbS t nk nr np) 0 n0 (q_pb0 nk nr np I J))).2, c', w)) (kx : n0 = 0 → Q (.inl (some (.int 0))) (p, q_fl I 1, J, c, w)) : s_c X (d + 11) 309 [.ref (p.1 T_MODEL 0)] (p, I, J, c, w) Q := by
  have hp := hG.1.1
  have hsz : I f_l_size 4 = nI n0 := hG.2.2.2.2.2.1.n
  have hG0 : q_G p (q_pbI I) c nk nr np a b n0 := hG.up (by decide)
  have hK0 : q_Kp (q_pbI I) t n0 := hK.eqN (s_eqN.up (T := [f_m_recording]) (by decide)) (by decide)
  refine m_X16_playBack (Nat.le_of_ble_eq_true rfl) ?_
  show s_w _ _ _ 0 _ _ _ _
  refine w_op (pc' := 1) dX16_playBack_0 rfl ?_
  refine t_getG0 (G := g_m_list2) dX16_playBack_1 rfl rfl (by decide) rfl (fun _ => rfl) (hp.1 _ rfl) ?_
  refine t_callV (t := T_LIST) (As := []) dX16_playBack_4 rfl rM_Jx4a65c_isEmpty_aae02 (by decide) rfl rfl (by decide) (by decide) (Nat.le_of_ble_eq_true rfl) rfl (hp.2 _ (by decide)) (c_isEmpty (hp.2 _ (by decide)) ?_)
  show s_w _ _ _ 7 _ _ _ _
  refine w_ifeq (t := 16) dX16_playBack_7 (by decide) (fun c7 => ?_) (fun c7 => ?_)
  · have h0 : 0 < n0 := by
      rcases Nat.eq_zero_or_pos n0 with z | z
      · exact absurd (show I f_l_size 4 = 0 by rw [hsz, z]; rfl) (of_decide_eq_false (bI_0.mp c7))
      · exact z
    refine w_op (pc' := 17) dX16_playBack_16 rfl ?_
    refine w_bipush (v := 45) dX16_playBack_17 rfl ?_
    refine t_putI (F := f_m_recording) dX16_playBack_19 rfl rfl (by decide) (by decide) rfl (s_ckc (by decide +kernel)) (Or.inl rfl) (hp.1 _ rfl) ?_
    refine w_op (pc' := 23) dX16_playBack_22 rfl ?_
    refine t_getJ (F := j_m_allBegun) dX16_playBack_23 rfl rfl (by decide) rfl (fun _ => rfl) (hp.1 _ rfl) ?_
    refine w_op (pc' := 27) (ll' := [_, _, _, _, _, _]) dX16_playBack_26 rfl ?_
    refine w_op (pc' := 28) dX16_playBack_27 rfl ?_
    refine t_getI (F := f_m_kindKept) dX16_playBack_28 rfl rfl (by decide) rfl ⟨rfl, fun _ => rfl⟩ (hp.1 _ rfl) ?_
    refine w_bipush (v := 107) dX16_playBack_31 rfl ?_
    refine w_icmpne (t := 41) dX16_playBack_33 (by decide) (fun c33 => ?_) (fun c33 => ?_)
    · have e0 : q_pb0 nk nr np I J = (q_pbI I, J) := if_neg c33
      rw [e0] at k
      exact lt_X16_playBack (I := q_pbI I) hG0 hX h0 s_up_s hK0 (k h0)
    · refine w_op (pc' := 37) dX16_playBack_36 rfl ?_
      refine t_callV (t := T_MODEL) (As := []) dX16_playBack_37 rfl rM_X16_lift (by decide) rfl rfl (by decide) (by decide) (Nat.le_of_ble_eq_true rfl) rfl (hp.1 _ rfl) (c_X16_lift hG0 hX ha9 hn9 (fun p1 c1 n1 x1 hL1 hn1 => ?_))
      show s_w _ _ _ 40 _ _ _ _
      rw [← x1.a (t := T_MODEL) (i := 0) (by decide)]
      have e1 : s_eqN [f_m_isDown, f_m_wentDown] (q_pbI I) (q_lf (q_pbI I)).1 := q_lf_off (by rw [show q_pbI I f_m_recording 0 = 45 from s_up_s]; decide)
      have hb : q_bo (q_lf (q_pbI I)).1 f_m_isDown := hG0.2.2.2.1.lf
      have hL1 : q_L p1 (q_st nk nr np ((q_lf (q_pbI I)).1, J)).1 c1 a b n1 := hL1
      rw [show q_lf (s_up I f_m_recording 0 45) = q_lf (q_pbI I) from rfl]
      generalize hI2 : (q_lf (q_pbI I)).1 = I2 at e1 hb hL1 ⊢
      refine w_op (pc' := 41) dX16_playBack_40 rfl ?_
      have e0 : q_pb0 nk nr np I J = (q_an (q_st nk nr np (I2, J)).1, (q_st nk nr np (I2, J)).2) := (if_pos c33).trans (by rw [hI2])
      rw [e0] at k
      have hG1 := hG0.pbL e1 s_up_s hb x1 hL1
      have e3 := q_pbL_off (nk := nk) (nr := nr) (np := np) (J := J) e1 (show q_pbI I f_m_recording 0 = 45 from s_up_s)
      have hK1 := hK0.eqN e3 (by decide)
      have hr1 : q_an (q_st nk nr np (I2, J)).1 f_m_recording 0 = 45 := by rw [e3 f_m_recording (by decide)]; exact s_up_s
      generalize q_st nk nr np (I2, J) = st at *
      exact lt_X16_playBack (J := st.2) hG1 hX h0 hr1 hK1 (fun p2 c2 n2 x2 hL2 hn2 => k h0 p2 c2 n2 (x1.trans x2) hL2 hn2)
  · have hz : n0 = 0 := by have h7 := (of_decide_eq_true (bI_n0.mp c7)); rw [hsz] at h7; exact (nI_eq (a := n0) (b := 0) (by omega) (by decide)).mp h7
    refine w_op (pc' := 11) dX16_playBack_10 rfl ?_
    refine w_iconst (v := 1) dX16_playBack_11 rfl ?_
    refine t_callV (t := T_MODEL) (As := [_]) dX16_playBack_12 rfl rM_X16_fails (by decide) rfl rfl (by decide) (by decide) (Nat.le_of_ble_eq_true rfl) rfl (hp.1 _ rfl) (c_X16_fails hp ?_)
    show s_w _ _ _ 15 _ _ _ _
    exact w_ireturn dX16_playBack_15 ⟨rfl, kx hz⟩

