/-! 993: hunts, tunings, means, settings (printed by wip/whole/p993.py) -/
def q_hu (I : e_I) (b m : Nat) : Int32 := 1 + if q_hf I b (b + m) = true then q_ti9 I 7 b (b + m) else 0
/-- tuned to another -/
def q_tto (I : e_I) (q1 q2 : Nat) : e_I := s_up I f_m_tuning q1 (q_cl (I f_m_tuning q1 + q_pt I q2 - q_pt I q1))
/-- all keys are lifted -/
def q_lfK (dd kk : Nat) (a : e_I × Int32) : e_I × Int32 := (q_mdv a.1 (nI dd) (nI kk) 0, a.2 + if a.1 f_m_isDown (s_kn (nI dd) (nI kk)) = 0 then 0 else 1)
def q_lfD (dd : Nat) (a : e_I × Int32) : e_I × Int32 := s_run (q_lfK dd) 0 (s_kcn (nI dd)) a
def q_lf (I : e_I) : e_I × Int32 := s_run q_lfD 0 3 (I, 0)

set_option maxRecDepth 100000 in
set_option maxHeartbeats 800000 in
theorem c_X15_pipes {X : e_XT} {d : Nat} {p : e_Sp} {I : e_I} {J : e_Jt} {c : Nat × Nat} {w : e_Rw1} {Q : e_Rt → e_SS → Prop} {r : Nat} (hv : p.2.1 T_MRANK r = true) (k : Q (.inl (some (.int (I f_mr_highest r - I f_mr_lowest r + 1)))) (p, I, J, c, w)) : s_c X (d + 0) 211 [.ref (p.1 T_MRANK r)] (p, I, J, c, w) Q := by
  refine m_X15_pipes (Nat.le_of_ble_eq_true rfl) ?_
  show s_w _ _ _ 0 _ _ _ _
  refine w_op (pc' := 1) dX15_pipes_0 rfl ?_
  refine t_getI (F := f_mr_highest) dX15_pipes_1 rfl rfl (by decide) rfl ⟨rfl, fun _ => rfl⟩ (by assumption) ?_
  refine w_op (pc' := 5) dX15_pipes_4 rfl ?_
  refine t_getI (F := f_mr_lowest) dX15_pipes_5 rfl rfl (by decide) rfl ⟨rfl, fun _ => rfl⟩ (by assumption) ?_
  refine w_op (pc' := 9) dX15_pipes_8 rfl ?_
  refine w_iconst (v := 1) dX15_pipes_9 rfl ?_
  refine w_op (pc' := 11) dX15_pipes_10 rfl ?_
  exact w_ireturn dX15_pipes_11 ⟨rfl, k⟩

set_option maxRecDepth 100000 in
set_option maxHeartbeats 800000 in
theorem c_X16_hunt {X : e_XT} {d : Nat} {p : e_Sp} {I : e_I} {J : e_Jt} {c : Nat × Nat} {w : e_Rw1} {Q : e_Rt → e_SS → Prop} {nk nr np : Nat} (hM : q_D p I nk nr np) {x : Int32} (k : ∀ r lo m b9, r < nr → x = nI r → I f_mr_lowest r = nI lo → I f_mr_highest r = nI (lo + m) → I f_mr_base r = nI b9 → m ≤ 127 → b9 + m < np → Q (.inl (some (.int (q_hu I b9 m)))) (p, q_an I, J, c, w)) (kx : ¬ (0 ≤ x ∧ x < nI nr) → Q (.inl (some (.int 0))) (p, q_fl I 1, J, c, w)) : s_c X (d + 9) 283 [.ref (p.1 T_MODEL 0), .int x] (p, I, J, c, w) Q := by
  have hp := hM.1
  have hk40 := hM.2.1
  have hr10 := hM.2.2.1
  have hnp := hM.2.2.2.1
  refine m_X16_hunt (Nat.le_of_ble_eq_true rfl) ?_
  show s_w _ _ _ 0 _ _ _ _
  refine w_op (pc' := 1) dX16_hunt_0 rfl ?_
  refine w_op (pc' := 2) dX16_hunt_1 rfl ?_
  refine t_callV (t := T_MODEL) (As := [_]) dX16_hunt_2 rfl rM_X16_isRank (by decide) rfl rfl (by decide) (by decide) (Nat.le_of_ble_eq_true rfl) rfl (hp.1 _ rfl) (c_X16_isRank hM ?_)
  show s_w _ _ _ 5 _ _ _ _
  refine w_ifne (t := 14) dX16_hunt_5 (by decide) (fun c5 => ?_) (fun c5 => ?_)
  · have hx := of_decide_eq_true (bI_n0.mp c5)
    obtain ⟨r, hr, rfl⟩ := s_nat hx.1 hx.2 (by omega)
    obtain ⟨hv, lo, m, b9, dv, elo, ehi, eb, edv, hlm, hbm, hdv⟩ := hM.2.2.2.2.2.1 r hr
    refine w_op (pc' := 15) dX16_hunt_14 rfl ?_
    refine t_getG0 (G := g_m_list0) dX16_hunt_15 rfl rfl (by decide) rfl (fun _ => rfl) (hp.1 _ rfl) ?_
    refine w_op (pc' := 19) dX16_hunt_18 rfl ?_
    refine t_callV (t := T_LIST) (As := [_]) dX16_hunt_19 rfl rM_Jx4a65c_get_915e3 (by decide) rfl rfl (by decide) (by decide) (Nat.le_of_ble_eq_true rfl) rfl (hp.2 _ (by decide)) (c_get2 hp hr10.2 (by omega) hr ?_)
    show s_w _ _ _ 22 _ _ _ _
    refine t_chk dX16_hunt_22 rfl rfl (by decide) (by assumption) ?_
    refine t_getI (F := f_mr_base) dX16_hunt_25 rfl rfl (by decide) rfl ⟨rfl, fun _ => rfl⟩ (by assumption) ?_
    rw [eb]
    refine w_op (pc' := 29) (ll' := [_, _, _, _]) dX16_hunt_28 rfl ?_
    refine w_op (pc' := 30) dX16_hunt_29 rfl ?_
    refine w_op (pc' := 31) dX16_hunt_30 rfl ?_
    refine t_getG0 (G := g_m_list0) dX16_hunt_31 rfl rfl (by decide) rfl (fun _ => rfl) (hp.1 _ rfl) ?_
    refine w_op (pc' := 35) dX16_hunt_34 rfl ?_
    refine t_callV (t := T_LIST) (As := [_]) dX16_hunt_35 rfl rM_Jx4a65c_get_915e3 (by decide) rfl rfl (by decide) (by decide) (Nat.le_of_ble_eq_true rfl) rfl (hp.2 _ (by decide)) (c_get2 hp hr10.2 (by omega) hr ?_)
    show s_w _ _ _ 38 _ _ _ _
    refine t_chk dX16_hunt_38 rfl rfl (by decide) (by assumption) ?_
    refine t_callV (t := T_MRANK) (As := []) dX16_hunt_41 rfl rM_X15_pipes (by decide) rfl rfl (by decide) (by decide) (Nat.le_of_ble_eq_true rfl) rfl (by assumption) (c_X15_pipes hv ?_)
    show s_w _ _ _ 44 _ _ _ _
    have eto : nI b9 + (I f_mr_highest r - I f_mr_lowest r + 1) - 1 = nI (b9 + m) := by
      rw [ehi, elo, nI_sub (by omega), show lo + m - lo = m by omega, nI_1, nI_add, show b9 + (m + 1) = b9 + m + 1 by omega]; exact nI_pred _
    refine w_op (pc' := 45) dX16_hunt_44 rfl ?_
    refine w_iconst (v := 1) dX16_hunt_45 rfl ?_
    refine w_op (pc' := 47) dX16_hunt_46 rfl ?_
    refine w_op (pc' := 48) (ll' := [_, _, _, _]) dX16_hunt_47 rfl ?_
    rw [eto]
    refine w_op (pc' := 49) dX16_hunt_48 rfl ?_
    refine w_iconst (v := 1) dX16_hunt_49 rfl ?_
    refine w_op (pc' := 51) dX16_hunt_50 rfl ?_
    refine w_op (pc' := 52) dX16_hunt_51 rfl ?_
    refine w_op (pc' := 53) dX16_hunt_52 rfl ?_
    refine t_callV (t := T_MODEL) (As := [_, _]) dX16_hunt_53 rfl rM_X16_hasFault (by decide) rfl rfl (by decide) (by decide) (Nat.le_of_ble_eq_true rfl) rfl (hp.1 _ rfl) (c_X16_hasFault hp (by omega) (by omega) ?_)
    show s_w _ _ _ 56 _ _ _ _
    refine w_ifeq (t := 68) dX16_hunt_56 (by decide) (fun c56 => ?_) (fun c56 => ?_)
    · refine w_iconst (v := 0) dX16_hunt_68 rfl ?_
      refine w_op (pc' := 70) dX16_hunt_69 rfl ?_
      refine t_callV (t := T_MODEL) (As := [_]) dX16_hunt_70 rfl rM_X16_answer (by decide) rfl rfl (by decide) (by decide) (Nat.le_of_ble_eq_true rfl) rfl (hp.1 _ rfl) (c_X16_answer hp ?_)
      show s_w _ _ _ 73 _ _ _ _
      exact w_ireturn dX16_hunt_73 ⟨rfl, (by have k9 := k r lo m b9 hr rfl elo ehi eb (by omega) hbm; unfold q_hu at k9; rw [if_neg (fun u => by rw [bI_0.mp c56] at u; cases u)] at k9; exact k9)⟩
    · refine w_op (pc' := 60) dX16_hunt_59 rfl ?_
      refine w_op (pc' := 61) dX16_hunt_60 rfl ?_
      refine w_op (pc' := 62) dX16_hunt_61 rfl ?_
      refine t_callV (t := T_MODEL) (As := [_, _]) dX16_hunt_62 rfl rM_X16_trials (by decide) rfl rfl (by decide) (by decide) (Nat.le_of_ble_eq_true rfl) rfl (hp.1 _ rfl) (c_X16_trials hp 7 _ _ _ _ (by omega) (by omega) (by omega) ?_)
      show s_w _ _ _ 65 _ _ _ _
      refine w_goto (t := 69) dX16_hunt_65 (by decide) ?_
      refine w_op (pc' := 70) dX16_hunt_69 rfl ?_
      refine t_callV (t := T_MODEL) (As := [_]) dX16_hunt_70 rfl rM_X16_answer (by decide) rfl rfl (by decide) (by decide) (Nat.le_of_ble_eq_true rfl) rfl (hp.1 _ rfl) (c_X16_answer hp ?_)
      show s_w _ _ _ 73 _ _ _ _
      exact w_ireturn dX16_hunt_73 ⟨rfl, (by have k9 := k r lo m b9 hr rfl elo ehi eb (by omega) hbm; unfold q_hu at k9; rw [if_pos (bI_n0.mp c56)] at k9; exact k9)⟩
  · refine w_op (pc' := 9) dX16_hunt_8 rfl ?_
    refine w_iconst (v := 1) dX16_hunt_9 rfl ?_
    refine t_callV (t := T_MODEL) (As := [_]) dX16_hunt_10 rfl rM_X16_fails (by decide) rfl rfl (by decide) (by decide) (Nat.le_of_ble_eq_true rfl) rfl (hp.1 _ rfl) (c_X16_fails hp ?_)
    show s_w _ _ _ 13 _ _ _ _
    exact w_ireturn dX16_hunt_13 ⟨rfl, kx (of_decide_eq_false (bI_0.mp c5))⟩

theorem q_np0 {p : e_Sp} {I : e_I} {nk nr np : Nat} (hM : q_D p I nk nr np) : I f_m_pipes 0 = nI np := hM.2.2.2.1.2
set_option maxRecDepth 100000 in
set_option maxHeartbeats 800000 in
theorem c_X16_speakingShare {X : e_XT} {d : Nat} {p : e_Sp} {I : e_I} {J : e_Jt} {c : Nat × Nat} {w : e_Rw1} {Q : e_Rt → e_SS → Prop} {nk nr np : Nat} (hM : q_D p I nk nr np) (hn : ¬ I f_m_pipes 0 = 0 → e_n32 (FP.fdiv (FP.i2f (q_asp (q_an I) np)) (FP.i2f (I f_m_pipes 0))) = true) (k : ¬ I f_m_pipes 0 = 0 → Q (.inl (some (.float (FP.fdiv (FP.i2f (q_asp (q_an I) np)) (FP.i2f (I f_m_pipes 0)))))) (p, q_an I, J, c, w)) (kx : I f_m_pipes 0 = 0 → Q (.inl (some (.float FP.fconst0))) (p, q_fl I 1, J, c, w)) : s_c X (d + 1) 320 [.ref (p.1 T_MODEL 0)] (p, I, J, c, w) Q := by
  have hp := hM.1
  have hk40 := hM.2.1
  have hr10 := hM.2.2.1
  have hM0 : q_D p (q_an I) nk nr np := hM.eqN (s_eqN.up (T := [f_m_thrown]) (by decide)) (by decide)
  refine m_X16_speakingShare (Nat.le_of_ble_eq_true rfl) ?_
  show s_w _ _ _ 0 _ _ _ _
  refine w_op (pc' := 1) dX16_speakingShare_0 rfl ?_
  refine w_op (pc' := 2) dX16_speakingShare_1 rfl ?_
  refine t_getI (F := f_m_pipes) dX16_speakingShare_2 rfl rfl (by decide) rfl ⟨rfl, fun _ => rfl⟩ (hp.1 _ rfl) ?_
  refine w_ifne (t := 12) dX16_speakingShare_5 (by decide) (fun c5 => ?_) (fun c5 => ?_)
  · refine w_iconst (v := 0) dX16_speakingShare_12 rfl ?_
    refine t_putI (F := f_m_thrown) dX16_speakingShare_13 rfl rfl (by decide) (by decide) rfl rfl (Or.inl rfl) (hp.1 _ rfl) ?_
    refine w_op (pc' := 17) dX16_speakingShare_16 rfl ?_
    refine t_getI (F := f_m_pipes) dX16_speakingShare_17 rfl rfl (by decide) rfl ⟨rfl, fun _ => rfl⟩ (hp.1 _ rfl) ?_
    rw [s_up_n (by decide)]
    refine w_ifne (t := 27) dX16_speakingShare_20 (by decide) (fun c20 => ?_) (fun c20 => ?_)
    · refine w_op (pc' := 28) dX16_speakingShare_27 rfl ?_
      refine t_callV (t := T_MODEL) (As := []) dX16_speakingShare_28 rfl rM_X16_allSpeaking (by decide) rfl rfl (by decide) (by decide) (Nat.le_of_ble_eq_true rfl) rfl (hp.1 _ rfl) (c_X16_allSpeaking hM0 ?_)
      show s_w _ _ _ 31 _ _ _ _
      refine w_op (pc' := 32) dX16_speakingShare_31 rfl ?_
      refine w_op (pc' := 33) dX16_speakingShare_32 rfl ?_
      refine t_getI (F := f_m_pipes) dX16_speakingShare_33 rfl rfl (by decide) rfl ⟨rfl, fun _ => rfl⟩ (hp.1 _ rfl) ?_
      refine w_op (pc' := 37) dX16_speakingShare_36 rfl ?_
      refine w_op (pc' := 38) dX16_speakingShare_37 (e_opF_some rfl rfl rfl rfl rfl (if_pos (hn c5))) ?_
      exact w_freturn dX16_speakingShare_38 ⟨rfl, k c5⟩
    · exact absurd c20 c5
  · refine w_iconst (v := 1) dX16_speakingShare_8 rfl ?_
    refine w_goto (t := 13) dX16_speakingShare_9 (by decide) ?_
    refine t_putI (F := f_m_thrown) dX16_speakingShare_13 rfl rfl (by decide) (by decide) rfl rfl (Or.inl rfl) (hp.1 _ rfl) ?_
    refine w_op (pc' := 17) dX16_speakingShare_16 rfl ?_
    refine t_getI (F := f_m_pipes) dX16_speakingShare_17 rfl rfl (by decide) rfl ⟨rfl, fun _ => rfl⟩ (hp.1 _ rfl) ?_
    rw [s_up_n (by decide)]
    refine w_ifne (t := 27) dX16_speakingShare_20 (by decide) (fun c20 => ?_) (fun c20 => ?_)
    · exact absurd c5 c20
    · refine w_op (pc' := 24) dX16_speakingShare_23 rfl ?_
      refine w_goto (t := 38) dX16_speakingShare_24 (by decide) ?_
      exact w_freturn dX16_speakingShare_38 ⟨rfl, kx c5⟩

set_option maxRecDepth 100000 in
set_option maxHeartbeats 800000 in
theorem l_X16_set {X : e_XT} {d : Nat} {p : e_Sp} {I : e_I} {J : e_Jt} {c : Nat × Nat} {w : e_Rw1} {Q : e_Rt → e_SS → Prop} {nk nr np a b n : Nat} (hG : q_G p I c nk nr np a b n) (hX : (X 8).1 = 0) {x y : Int32} {j : Nat} (hv : p.2.1 T_MKEEP j = true) {R : e_Jt} (k : ∀ p' c' n', q_X p p' → q_L p' (q_st nk nr np (I, R)).1 c' a b n' → n' ≤ n + np → Q (.inl (some (.int (s_bc (R j_mg_drawn j))))) (p', q_an (q_st nk nr np (I, R)).1, (q_st nk nr np (I, R)).2, c', w)) : ∀ (n : Nat) (i : Nat) (J1 : e_Jt) (o5 : Option Value), (h1 : i ≤ nk) → (hr : s_run (q_seF I x j) i (nk - i) J1 = R) → (hn : nk - i < n) → s_w X (d + 10) K_X16_set 52 [some (.ref (p.1 T_MODEL 0)), some (.int x), some (.int y), some (.ref (p.1 T_MKEEP j)), some (.int (nI i)), o5] [] (p, I, J1, c, w) (fun r S' => e_rcr (some FieldType.int) r = true ∧ Q r S') := by
  intro n
  induction n with
  | zero =>
    intro i J1 o5 h1 hr hn
    exact absurd hn (Nat.not_lt_zero _)
  | succ n ih =>
    intro i J1 o5 h1 hr hn
    have hM := hG.1
    have hp := hM.1
    have hk40 := hM.2.1
    refine w_op (pc' := 54) dX16_set_52 rfl ?_
    refine w_op (pc' := 55) dX16_set_54 rfl ?_
    refine t_getG0 (G := g_m_list1) dX16_set_55 rfl rfl (by decide) rfl (fun _ => rfl) (hp.1 _ rfl) ?_
    refine t_callV (t := T_LIST) (As := []) dX16_set_58 rfl rM_Jx4a65c_size_8abf5 (by decide) rfl rfl (by decide) (by decide) (Nat.le_of_ble_eq_true rfl) rfl (hp.2 _ (by decide)) (c_size (hp.2 _ (by decide)) ?_)
    show s_w _ _ _ 61 _ _ _ _
    rw [hk40.2]
    refine w_icmpge (t := 126) dX16_set_61 (by decide) (fun c61 => ?_) (fun c61 => ?_)
    · have hi := (nI_leI (by omega) (by omega)).mp c61
      rw [s_run_z hi] at hr
      subst hr
      refine w_op (pc' := 127) dX16_set_126 rfl ?_
      refine w_op (pc' := 128) dX16_set_127 rfl ?_
      refine t_getJ (F := j_mg_drawn) dX16_set_128 rfl rfl (by decide) rfl (fun _ => rfl) hv ?_
      refine t_callS (As := [_]) dX16_set_131 rfl rM_J13_bitCount_95d88 (by decide) rfl rfl (by decide) (Nat.le_of_ble_eq_true rfl) (c_bitCount ?_)
      show s_w _ _ _ 134 _ _ _ _
      refine t_callV (t := T_MODEL) (As := [_]) dX16_set_134 rfl rM_X16_settled (by decide) rfl rfl (by decide) (by decide) (Nat.le_of_ble_eq_true rfl) rfl (hp.1 _ rfl) (c_X16_settled hG hX (fun p1 c1 n1 x1 hL1 hn1 => ?_))
      show s_w _ _ _ 137 _ _ _ _
      exact w_ireturn dX16_set_137 ⟨rfl, k p1 c1 n1 x1 hL1 hn1⟩
    · have hi : i < nk := Nat.lt_of_not_le (fun t => c61 ((nI_leI (by omega) (by omega)).mpr t))
      have hv2 := (hM.2.2.2.2.1 i hi).1
      refine w_op (pc' := 65) dX16_set_64 rfl ?_
      refine t_getG0 (G := g_m_list1) dX16_set_65 rfl rfl (by decide) rfl (fun _ => rfl) (hp.1 _ rfl) ?_
      refine w_op (pc' := 70) dX16_set_68 rfl ?_
      refine t_callV (t := T_LIST) (As := [_]) dX16_set_70 rfl rM_Jx4a65c_get_915e3 (by decide) rfl rfl (by decide) (by decide) (Nat.le_of_ble_eq_true rfl) rfl (hp.2 _ (by decide)) (c_get3 hp hk40.2 (by omega) hi ?_)
      show s_w _ _ _ 73 _ _ _ _
      refine t_chk dX16_set_73 rfl rfl (by decide) hv2 ?_
      refine w_op (pc' := 78) (ll' := [_, _, _, _, _, _]) dX16_set_76 rfl ?_
      refine w_op (pc' := 79) dX16_set_78 rfl ?_
      refine w_iconst (v := (-1)) dX16_set_79 rfl ?_
      refine w_icmpne (t := 94) dX16_set_80 (by decide) (fun c80 => ?_) (fun c80 => ?_)
      · refine w_op (pc' := 96) dX16_set_94 rfl ?_
        refine t_getI (F := f_mk_kind) dX16_set_96 rfl rfl (by decide) rfl ⟨rfl, fun _ => rfl⟩ hv2 ?_
        refine w_bipush (v := 115) dX16_set_99 rfl ?_
        refine w_icmpne (t := 120) dX16_set_101 (by decide) (fun c101 => ?_) (fun c101 => ?_)
        · refine w_op (pc' := 123) (ll' := [_, _, _, _, _, _]) dX16_set_120 rfl ?_
          refine w_goto (t := 52) dX16_set_123 (by decide) ?_
          rw [show nI i + Int32.ofInt 1 = nI (i + 1) from nI_1 i]
          have ef : q_seF I x j i J1 = J1 := if_neg (by rw [if_neg c80]; exact fun u => c101 u.1)
          rw [s_run_s hi, ef] at hr
          exact ih (i + 1) _ _ (by omega) hr (by omega)
        · refine w_op (pc' := 106) dX16_set_104 rfl ?_
          refine t_getI (F := f_mk_division) dX16_set_106 rfl rfl (by decide) rfl ⟨rfl, fun _ => rfl⟩ hv2 ?_
          refine w_op (pc' := 110) dX16_set_109 rfl ?_
          refine w_icmpne (t := 120) dX16_set_110 (by decide) (fun c110 => ?_) (fun c110 => ?_)
          · refine w_op (pc' := 123) (ll' := [_, _, _, _, _, _]) dX16_set_120 rfl ?_
            refine w_goto (t := 52) dX16_set_123 (by decide) ?_
            rw [show nI i + Int32.ofInt 1 = nI (i + 1) from nI_1 i]
            have ef : q_seF I x j i J1 = J1 := if_neg (by rw [if_neg c80]; exact fun u => c110 u.2)
            rw [s_run_s hi, ef] at hr
            exact ih (i + 1) _ _ (by omega) hr (by omega)
          · refine w_op (pc' := 114) dX16_set_113 rfl ?_
            refine w_op (pc' := 115) dX16_set_114 rfl ?_
            refine w_op (pc' := 117) dX16_set_115 rfl ?_
            refine t_callV (t := T_MODEL) (As := [_, _]) dX16_set_117 rfl rM_X16_keeps (by decide) rfl rfl (by decide) (by decide) (Nat.le_of_ble_eq_true rfl) rfl (hp.1 _ rfl) (c_X16_keeps hM hv hi ?_)
            show s_w _ _ _ 120 _ _ _ _
            refine w_op (pc' := 123) (ll' := [_, _, _, _, _, _]) dX16_set_120 rfl ?_
            refine w_goto (t := 52) dX16_set_123 (by decide) ?_
            rw [show nI i + Int32.ofInt 1 = nI (i + 1) from nI_1 i]
            have ef : q_seF I x j i J1 = q_keJ j_mg_knobs j_mg_drawn I j i J1 := if_pos (by rw [if_neg c80]; exact ⟨c101, c110⟩)
            rw [s_run_s hi, ef] at hr
            exact ih (i + 1) _ _ (by omega) hr (by omega)
      · refine w_op (pc' := 85) dX16_set_83 rfl ?_
        refine t_getI (F := f_mk_isIn) dX16_set_85 rfl rfl (by decide) rfl ⟨rfl, fun _ => rfl⟩ hv2 ?_
        refine w_ifeq (t := 120) dX16_set_88 (by decide) (fun c88 => ?_) (fun c88 => ?_)
        · refine w_op (pc' := 123) (ll' := [_, _, _, _, _, _]) dX16_set_120 rfl ?_
          refine w_goto (t := 52) dX16_set_123 (by decide) ?_
          rw [show nI i + Int32.ofInt 1 = nI (i + 1) from nI_1 i]
          have ef : q_seF I x j i J1 = J1 := if_neg (by rw [if_pos c80]; exact fun u => u c88)
          rw [s_run_s hi, ef] at hr
          exact ih (i + 1) _ _ (by omega) hr (by omega)
        · refine w_goto (t := 113) dX16_set_91 (by decide) ?_
          refine w_op (pc' := 114) dX16_set_113 rfl ?_
          refine w_op (pc' := 115) dX16_set_114 rfl ?_
          refine w_op (pc' := 117) dX16_set_115 rfl ?_
          refine t_callV (t := T_MODEL) (As := [_, _]) dX16_set_117 rfl rM_X16_keeps (by decide) rfl rfl (by decide) (by decide) (Nat.le_of_ble_eq_true rfl) rfl (hp.1 _ rfl) (c_X16_keeps hM hv hi ?_)
          show s_w _ _ _ 120 _ _ _ _
          refine w_op (pc' := 123) (ll' := [_, _, _, _, _, _]) dX16_set_120 rfl ?_
          refine w_goto (t := 52) dX16_set_123 (by decide) ?_
          rw [show nI i + Int32.ofInt 1 = nI (i + 1) from nI_1 i]
          have ef : q_seF I x j i J1 = q_keJ j_mg_knobs j_mg_drawn I j i J1 := if_pos (by rw [if_pos c80]; exact c88)
          rw [s_run_s hi, ef] at hr
          exact ih (i + 1) _ _ (by omega) hr (by omega)
set_option maxRecDepth 100000 in
set_option maxHeartbeats 800000 in
theorem c_X16_set {X : e_XT} {d : Nat} {p : e_Sp} {I : e_I} {J : e_Jt} {c : Nat × Nat} {w : e_Rw1} {Q : e_Rt → e_SS → Prop} {nk nr np a b n : Nat} (hG : q_G p I c nk nr np a b n) (hX : (X 8).1 = 0) (hKM : q_M p I) {x y : Int32} (k : q_ps x y = true → q_ot I = false → ∀ p' c' n', q_X p p' → q_L p' (q_st nk nr np ((s_up I f_mg_isSet (q_kp I x y) 1), (s_run (q_seF (s_up I f_mg_isSet (q_kp I x y) 1) x (q_kp I x y)) 0 nk (s_up (s_up J j_mg_knobs (q_kp I x y) 0) j_mg_drawn (q_kp I x y) 0)))).1 c' a b n' → n' ≤ n + np → Q (.inl (some (.int (s_bc ((s_run (q_seF (s_up I f_mg_isSet (q_kp I x y) 1) x (q_kp I x y)) 0 nk (s_up (s_up J j_mg_knobs (q_kp I x y) 0) j_mg_drawn (q_kp I x y) 0)) j_mg_drawn (q_kp I x y)))))) (p', q_an (q_st nk nr np ((s_up I f_mg_isSet (q_kp I x y) 1), (s_run (q_seF (s_up I f_mg_isSet (q_kp I x y) 1) x (q_kp I x y)) 0 nk (s_up (s_up J j_mg_knobs (q_kp I x y) 0) j_mg_drawn (q_kp I x y) 0)))).1, (q_st nk nr np ((s_up I f_mg_isSet (q_kp I x y) 1), (s_run (q_seF (s_up I f_mg_isSet (q_kp I x y) 1) x (q_kp I x y)) 0 nk (s_up (s_up J j_mg_knobs (q_kp I x y) 0) j_mg_drawn (q_kp I x y) 0)))).2, c', w)) (kx : q_ps x y = false → Q (.inl (some (.int 0))) (p, q_fl I 1, J, c, w)) (kx2 : q_ps x y = true → q_ot I = true → Q (.inl (some (.int 0))) (p, q_fl I 2, J, c, w)) : s_c X (d + 10) 291 [.ref (p.1 T_MODEL 0), .int x, .int y] (p, I, J, c, w) Q := by
  have hM := hG.1
  have hp := hM.1
  have hk40 := hM.2.1
  have hr10 := hM.2.2.1
  have hnp := hM.2.2.2.1
  refine m_X16_set (Nat.le_of_ble_eq_true rfl) ?_
  show s_w _ _ _ 0 _ _ _ _
  refine w_op (pc' := 1) dX16_set_0 rfl ?_
  refine w_op (pc' := 2) dX16_set_1 rfl ?_
  refine t_callS (As := [_, _]) dX16_set_2 rfl rM_X16_isPiston (by decide) rfl rfl (by decide) (Nat.le_of_ble_eq_true rfl) (c_X16_isPiston ?_)
  show s_w _ _ _ 5 _ _ _ _
  refine w_ifne (t := 14) dX16_set_5 (by decide) (fun c5 => ?_) (fun c5 => ?_)
  · have hq : q_ps x y = true := bI_n0.mp c5
    have hv := hKM.1 _ (q_kp_lt hKM.2.2.2 hq)
    refine w_op (pc' := 15) dX16_set_14 rfl ?_
    refine t_callV (t := T_MODEL) (As := []) dX16_set_15 rfl rM_X16_isOthers (by decide) rfl rfl (by decide) (by decide) (Nat.le_of_ble_eq_true rfl) rfl (hp.1 _ rfl) (c_X16_isOthers hp hKM.2.2.2 ?_)
    show s_w _ _ _ 18 _ _ _ _
    refine w_ifeq (t := 27) dX16_set_18 (by decide) (fun c18 => ?_) (fun c18 => ?_)
    · refine w_op (pc' := 28) dX16_set_27 rfl ?_
      refine w_op (pc' := 29) dX16_set_28 rfl ?_
      refine w_op (pc' := 30) dX16_set_29 rfl ?_
      refine t_callV (t := T_MODEL) (As := [_, _]) dX16_set_30 rfl rM_X16_keeping (by decide) rfl rfl (by decide) (by decide) (Nat.le_of_ble_eq_true rfl) rfl (hp.1 _ rfl) (c_X16_keeping hp hKM hq ?_)
      show s_w _ _ _ 33 _ _ _ _
      refine w_op (pc' := 34) (ll' := [_, _, _, _, _, _]) dX16_set_33 rfl ?_
      refine w_op (pc' := 35) dX16_set_34 rfl ?_
      refine w_op (pc' := 36) dX16_set_35 rfl ?_
      refine t_putJ (F := j_mg_knobs) dX16_set_36 rfl rfl (by decide) rfl rfl (Or.inl rfl) hv ?_
      refine w_op (pc' := 40) dX16_set_39 rfl ?_
      refine w_op (pc' := 41) dX16_set_40 rfl ?_
      refine t_putJ (F := j_mg_drawn) dX16_set_41 rfl rfl (by decide) rfl rfl (Or.inl rfl) hv ?_
      refine w_op (pc' := 45) dX16_set_44 rfl ?_
      refine w_iconst (v := 1) dX16_set_45 rfl ?_
      refine t_putI (F := f_mg_isSet) dX16_set_46 rfl rfl (by decide) (by decide) rfl (s_ckb (by decide)) (Or.inl rfl) hv ?_
      refine w_iconst (v := 0) dX16_set_49 rfl ?_
      refine w_op (pc' := 52) (ll' := [_, _, _, _, _, _]) dX16_set_50 rfl ?_
      exact l_X16_set (J := J) (hG.up (by decide)) hX hv (k hq (bI_0.mp c18)) (nk + 1) 0 _ _ (Nat.zero_le _) rfl (by omega)
    · refine w_op (pc' := 22) dX16_set_21 rfl ?_
      refine w_iconst (v := 2) dX16_set_22 rfl ?_
      refine t_callV (t := T_MODEL) (As := [_]) dX16_set_23 rfl rM_X16_fails (by decide) rfl rfl (by decide) (by decide) (Nat.le_of_ble_eq_true rfl) rfl (hp.1 _ rfl) (c_X16_fails hp ?_)
      show s_w _ _ _ 26 _ _ _ _
      exact w_ireturn dX16_set_26 ⟨rfl, kx2 hq (bI_n0.mp c18)⟩
  · refine w_op (pc' := 9) dX16_set_8 rfl ?_
    refine w_iconst (v := 1) dX16_set_9 rfl ?_
    refine t_callV (t := T_MODEL) (As := [_]) dX16_set_10 rfl rM_X16_fails (by decide) rfl rfl (by decide) (by decide) (Nat.le_of_ble_eq_true rfl) rfl (hp.1 _ rfl) (c_X16_fails hp ?_)
    show s_w _ _ _ 13 _ _ _ _
    exact w_ireturn dX16_set_13 ⟨rfl, kx (bI_0.mp c5)⟩

set_option maxRecDepth 100000 in
set_option maxHeartbeats 800000 in
theorem l2_X16_lift {X : e_XT} {d : Nat} {p : e_Sp} {I : e_I} {J : e_Jt} {c : Nat × Nat} {w : e_Rw1} {Q : e_Rt → e_SS → Prop} {nk nr np a b n0 B : Nat} (hX : (X 8).1 = 0) {dd : Nat} (hd : dd < 3) (ha9 : a + n0 + B + 100002000 < 4294960000) (hn9 : n0 + B + 2000 < 39999999) {R : e_I × Int32} (hk : ∀ p1 c1 n1 o3, q_X p p1 → q_G p1 R.1 c1 nk nr np a b n1 → n1 ≤ n0 + B + 61 → s_w X (d + 9) K_X16_lift 43 [some (.ref (p1.1 T_MODEL 0)), some (.int R.2), some (.int (nI dd)), o3] [] (p1, R.1, J, c1, w) (fun r S' => e_rcr (some .int) r = true ∧ Q r S')) : ∀ (n : Nat) (i : Nat) (p1 : e_Sp) (I1 : e_I) (u : Int32) (c1 : Nat × Nat) (n1 : Nat), (h1 : i ≤ s_kcn (nI dd)) → (x1 : q_X p p1) → (hG1 : q_G p1 I1 c1 nk nr np a b n1) → (hn1 : n1 ≤ n0 + B + i) → (hr : s_run (q_lfK dd) i (s_kcn (nI dd) - i) (I1, u) = R) → (hn : s_kcn (nI dd) - i < n) → s_w X (d + 9) K_X16_lift 11 [some (.ref (p1.1 T_MODEL 0)), some (.int u), some (.int (nI dd)), some (.int (nI i))] [] (p1, I1, J, c1, w) (fun r S' => e_rcr (some FieldType.int) r = true ∧ Q r S') := by
  intro n
  induction n with
  | zero =>
    intro i p1 I1 u c1 n1 h1 x1 hG1 hn1 hr hn
    exact absurd hn (Nat.not_lt_zero _)
  | succ n ih =>
    intro i p1 I1 u c1 n1 h1 x1 hG1 hn1 hr hn
    have hp := hG1.1.1
    have h61 := s_kcn_le (nI dd)
    refine w_op (pc' := 12) dX16_lift_11 rfl ?_
    refine w_op (pc' := 13) dX16_lift_12 rfl ?_
    refine t_callS (As := [_]) dX16_lift_13 rfl rM_X16_keys (by decide) rfl rfl (by decide) (Nat.le_of_ble_eq_true rfl) (c_X16_keys ?_)
    show s_w _ _ _ 16 _ _ _ _
    refine w_icmpge (t := 43) dX16_lift_16 (by decide) (fun c16 => ?_) (fun c16 => ?_)
    · have hi := (nI_leI (by omega) (by omega)).mp c16
      rw [s_run_z hi] at hr; subst hr
      exact hk p1 c1 n1 _ x1 hG1 (by omega)
    · have hi : i < s_kcn (nI dd) := Nat.lt_of_not_le (fun t => c16 ((nI_leI (by omega) (by omega)).mpr t))
      have hq := q_ki hd hi
      refine w_op (pc' := 20) dX16_lift_19 rfl ?_
      refine w_op (pc' := 21) dX16_lift_20 rfl ?_
      refine w_op (pc' := 22) dX16_lift_21 rfl ?_
      refine w_op (pc' := 23) dX16_lift_22 rfl ?_
      refine w_iconst (v := 0) dX16_lift_23 rfl ?_
      refine t_callV (t := T_MODEL) (As := [_, _, _]) dX16_lift_24 rfl rM_X16_moved (by decide) rfl rfl (by decide) (by decide) (Nat.le_of_ble_eq_true rfl) rfl (hp.1 _ rfl) (c_X16_moved hp hq (Or.inl rfl) hG1.2.2.2.1 hG1.2.2.2.2.2.1 hX (by omega) (by omega) (fun p2 c2 n2 x2 hL2 hn2 => ?_))
      show s_w _ _ _ 27 _ _ _ _
      have hG2 := hG1.mdv (Or.inl rfl) x2 hL2 (by omega) (by omega)
      rw [← x2.a (t := T_MODEL) (i := 0) (by decide)]
      refine w_ifeq (t := 34) dX16_lift_27 (by decide) (fun c27 => ?_) (fun c27 => ?_)
      · refine w_iconst (v := 0) dX16_lift_34 rfl ?_
        refine w_op (pc' := 36) dX16_lift_35 rfl ?_
        refine w_op (pc' := 37) (ll' := [_, _, _, _]) dX16_lift_36 rfl ?_
        refine w_op (pc' := 40) (ll' := [_, _, _, _]) dX16_lift_37 rfl ?_
        refine w_goto (t := 11) dX16_lift_40 (by decide) ?_
        rw [show nI i + Int32.ofInt 1 = nI (i + 1) from nI_1 i]
        have ef : q_lfK dd i (I1, u) = _ := congrArg (fun z => (q_mdv I1 (nI dd) (nI i) 0, u + z)) (if_pos c27)
        rw [s_run_s hi, ef] at hr
        exact ih (i + 1) p2 _ _ c2 n2 (by omega) (x1.trans x2) hG2 (by omega) hr (by omega)
      · refine w_iconst (v := 1) dX16_lift_30 rfl ?_
        refine w_goto (t := 35) dX16_lift_31 (by decide) ?_
        refine w_op (pc' := 36) dX16_lift_35 rfl ?_
        refine w_op (pc' := 37) (ll' := [_, _, _, _]) dX16_lift_36 rfl ?_
        refine w_op (pc' := 40) (ll' := [_, _, _, _]) dX16_lift_37 rfl ?_
        refine w_goto (t := 11) dX16_lift_40 (by decide) ?_
        rw [show nI i + Int32.ofInt 1 = nI (i + 1) from nI_1 i]
        have ef : q_lfK dd i (I1, u) = _ := congrArg (fun z => (q_mdv I1 (nI dd) (nI i) 0, u + z)) (if_neg c27)
        rw [s_run_s hi, ef] at hr
        exact ih (i + 1) p2 _ _ c2 n2 (by omega) (x1.trans x2) hG2 (by omega) hr (by omega)
set_option maxRecDepth 100000 in
set_option maxHeartbeats 800000 in
theorem l_X16_lift {X : e_XT} {d : Nat} {p : e_Sp} {I : e_I} {J : e_Jt} {c : Nat × Nat} {w : e_Rw1} {Q : e_Rt → e_SS → Prop} {nk nr np a b n0 : Nat} (hG : q_G p I c nk nr np a b n0) (hX : (X 8).1 = 0) (ha9 : a + n0 + 100003000 < 4294960000) (hn9 : n0 + 3000 < 39999999) (k : ∀ p' c' n', q_X p p' → q_L p' (q_st nk nr np ((q_lf I).1, J)).1 c' a b n' → n' ≤ n0 + 183 + np → Q (.inl (some (.int (q_lf I).2))) (p', q_an (q_st nk nr np ((q_lf I).1, J)).1, (q_st nk nr np ((q_lf I).1, J)).2, c', w)) : ∀ (n : Nat) (i : Nat) (p1 : e_Sp) (I1 : e_I) (u : Int32) (c1 : Nat × Nat) (n1 : Nat) (o3 : Option Value), (h1 : i ≤ 3) → (x1 : q_X p p1) → (hG1 : q_G p1 I1 c1 nk nr np a b n1) → (hn1 : n1 ≤ n0 + 61 * i) → (hr : s_run q_lfD i (3 - i) (I1, u) = q_lf I) → (hn : 3 - i < n) → s_w X (d + 10) K_X16_lift 4 [some (.ref (p1.1 T_MODEL 0)), some (.int u), some (.int (nI i)), o3] [] (p1, I1, J, c1, w) (fun r S' => e_rcr (some FieldType.int) r = true ∧ Q r S') := by
  intro n
  induction n with
  | zero =>
    intro i p1 I1 u c1 n1 o3 h1 x1 hG1 hn1 hr hn
    exact absurd hn (Nat.not_lt_zero _)
  | succ n ih =>
    intro i p1 I1 u c1 n1 o3 h1 x1 hG1 hn1 hr hn
    have hp := hG1.1.1
    refine w_op (pc' := 5) dX16_lift_4 rfl ?_
    refine w_iconst (v := 3) dX16_lift_5 rfl ?_
    refine w_icmpge (t := 49) dX16_lift_6 (by decide) (fun c6 => ?_) (fun c6 => ?_)
    · have hi : 3 ≤ i := (nI_leI (a := 3) (by omega) (by omega)).mp c6
      rw [s_run_z hi] at hr
      refine w_op (pc' := 50) dX16_lift_49 rfl ?_
      refine w_op (pc' := 51) dX16_lift_50 rfl ?_
      refine t_callV (t := T_MODEL) (As := [_]) dX16_lift_51 rfl rM_X16_settled (by decide) rfl rfl (by decide) (by decide) (Nat.le_of_ble_eq_true rfl) rfl (hp.1 _ rfl) (c_X16_settled hG1 hX (fun p2 c2 n2 x2 hL2 hn2 => ?_))
      show s_w _ _ _ 54 _ _ _ _
      exact w_ireturn dX16_lift_54 ⟨rfl, (by have k9 := k p2 c2 n2 (x1.trans x2); rw [← hr] at k9; exact k9 hL2 (by omega))⟩
    · have hi : i < 3 := Nat.lt_of_not_le (fun t => c6 ((nI_leI (a := 3) (by omega) (by omega)).mpr t))
      refine w_iconst (v := 0) dX16_lift_9 rfl ?_
      refine w_op (pc' := 11) (ll' := [_, _, _, _]) dX16_lift_10 rfl ?_
      refine l2_X16_lift (p := p1) (I := I1) (c := c1) (J := J) (B := 61 * i) (n0 := n0) (a := a) (b := b) hX hi (by omega) (by omega) (R := q_lfD i (I1, u)) (fun p2 c2 n2 o3 x2 hG2 hn2 => ?_) (s_kcn (nI i) + 1) 0 p1 I1 u c1 n1 (Nat.zero_le _) q_X.rfl' hG1 (by omega) rfl (by omega)
      refine w_op (pc' := 46) (ll' := [_, _, _, _]) dX16_lift_43 rfl ?_
      refine w_goto (t := 4) dX16_lift_46 (by decide) ?_
      rw [show nI i + Int32.ofInt 1 = nI (i + 1) from nI_1 i]
      rw [s_run_s hi] at hr
      exact ih (i + 1) p2 _ _ c2 n2 _ (by omega) (x1.trans x2) hG2 (by omega) hr (by omega)
set_option maxRecDepth 100000 in
set_option maxHeartbeats 800000 in
theorem c_X16_lift {X : e_XT} {d : Nat} {p : e_Sp} {I : e_I} {J : e_Jt} {c : Nat × Nat} {w : e_Rw1} {Q : e_Rt → e_SS → Prop} {nk nr np a b n0 : Nat} (hG : q_G p I c nk nr np a b n0) (hX : (X 8).1 = 0) (ha9 : a + n0 + 100003000 < 4294960000) (hn9 : n0 + 3000 < 39999999) (k : ∀ p' c' n', q_X p p' → q_L p' (q_st nk nr np ((q_lf I).1, J)).1 c' a b n' → n' ≤ n0 + 183 + np → Q (.inl (some (.int (q_lf I).2))) (p', q_an (q_st nk nr np ((q_lf I).1, J)).1, (q_st nk nr np ((q_lf I).1, J)).2, c', w)) : s_c X (d + 10) 260 [.ref (p.1 T_MODEL 0)] (p, I, J, c, w) Q := by
  have hp := hG.1.1
  refine m_X16_lift (Nat.le_of_ble_eq_true rfl) ?_
  show s_w _ _ _ 0 _ _ _ _
  refine w_iconst (v := 0) dX16_lift_0 rfl ?_
  refine w_op (pc' := 2) (ll' := [_, _, _, _]) dX16_lift_1 rfl ?_
  refine w_iconst (v := 0) dX16_lift_2 rfl ?_
  refine w_op (pc' := 4) (ll' := [_, _, _, _]) dX16_lift_3 rfl ?_
  exact l_X16_lift (c := c) hG hX ha9 hn9 k 4 0 p I 0 c n0 _ (Nat.zero_le _) q_X.rfl' hG (by omega) rfl (by omega)

