/-! 992: crossing, hunting, tuning, means, setting (printed by wip/whole/p992.py) -/
def q_cr (I : e_I) (k : Nat) (y z : Int32) : e_I := s_up (s_up I f_mk_wires (k * 61 + y.toNatClampNeg) (I f_mk_wires (k * 61 + z.toNatClampNeg))) f_mk_wires (k * 61 + z.toNatClampNeg) (I f_mk_wires (k * 61 + y.toNatClampNeg))
def q_crf (I : e_I) (k i : Nat) (u : Int32) : Int32 := u + if I f_mk_wires (k * 61 + i) = nI i then 0 else 1
def q_crn (I : e_I) (k : Nat) : Int32 := s_run (q_crf I k) 0 61 0
def q_hfs (I : e_I) (q : Nat) (h : Bool) : Bool := h || decide (I f_m_fault q ≠ 45)
def q_hf (I : e_I) (u v : Nat) : Bool := s_run (q_hfs I) u (v + 1 - u) false
def q_ti9 (I : e_I) : Nat → Nat → Nat → Int32
  | 0, _, _ => 0
  | k + 1, u, v => if u = v then 0 else (if q_hf I u (u + (v - u) / 2) = true then 2 + q_ti9 I k u (u + (v - u) / 2) else 1) + (if q_hf I (u + (v - u) / 2 + 1) v = true then q_ti9 I k (u + (v - u) / 2 + 1) v else 0)
def q_cl (x : Int32) : Int32 := if 50 < x then 50 else if x < -50 then -50 else x
def q_mps (I : e_I) (q : Nat) (u : Int64) : Int64 := u + if I f_m_speaks q ≠ 0 then (q_pt I q).toInt64 else 0

set_option maxRecDepth 100000 in
set_option maxHeartbeats 800000 in
theorem l_X16_cross {X : e_XT} {d : Nat} {p : e_Sp} {I : e_I} {J : e_Jt} {c : Nat × Nat} {w : e_Rw1} {Q : e_Rt → e_SS → Prop} {nk nr np a b n : Nat} (hG : q_G p I c nk nr np a b n) (hX : (X 8).1 = 0) {kk : Nat} {x y z v r : Int32} (hk : kk < nk) (k : ∀ p' c' n', q_X p p' → q_L p' (q_st nk nr np (I, J)).1 c' a b n' → n' ≤ n + np → Q (.inl (some (.int (r)))) (p', q_an (q_st nk nr np (I, J)).1, (q_st nk nr np (I, J)).2, c', w)) : ∀ (n : Nat) (i : Nat) (u : Int32), (h1 : i ≤ 61) → (hr : s_run (q_crf I kk) i (61 - i) u = r) → (hn : 61 - i < n) → s_w X (d + 10) K_X16_cross 101 [some (.ref (p.1 T_MODEL 0)), some (.int x), some (.int y), some (.int z), some (.ref (p.1 T_K_wires kk)), some (.int v), some (.int u), some (.int (nI i))] [] (p, I, J, c, w) (fun r S' => e_rcr (some FieldType.int) r = true ∧ Q r S') := by
  intro n
  induction n with
  | zero =>
    intro i u h1 hr hn
    exact absurd hn (Nat.not_lt_zero _)
  | succ n ih =>
    intro i u h1 hr hn
    have hM := hG.1
    have hp := hM.1
    have hK := hM.2.2.2.2.1 kk hk
    refine w_op (pc' := 103) dX16_cross_101 rfl ?_
    refine w_bipush (v := 61) dX16_cross_103 rfl ?_
    refine w_icmpge (t := 134) dX16_cross_105 (by decide) (fun c105 => ?_) (fun c105 => ?_)
    · have hi : 61 ≤ i := (nI_leI (a := 61) (by omega) (by omega)).mp c105
      rw [s_run_z hi] at hr
      subst hr
      refine w_op (pc' := 135) dX16_cross_134 rfl ?_
      refine w_op (pc' := 137) dX16_cross_135 rfl ?_
      refine t_callV (t := T_MODEL) (As := [_]) dX16_cross_137 rfl rM_X16_settled (by decide) rfl rfl (by decide) (by decide) (Nat.le_of_ble_eq_true rfl) rfl (hp.1 _ rfl) (c_X16_settled hG hX (fun p1 c1 n1 x1 hL1 hn1 => ?_))
      show s_w _ _ _ 140 _ _ _ _
      exact w_ireturn dX16_cross_140 ⟨rfl, k p1 c1 n1 x1 hL1 hn1⟩
    · have hi : i < 61 := Nat.lt_of_not_le (fun t => c105 ((nI_leI (a := 61) (by omega) (by omega)).mpr t))
      refine w_op (pc' := 110) dX16_cross_108 rfl ?_
      refine w_op (pc' := 112) dX16_cross_110 rfl ?_
      refine w_op (pc' := 114) dX16_cross_112 rfl ?_
      refine t_iald (F := f_mk_wires) dX16_cross_114 rfl (by decide) rfl (hK.2.1 _ (by decide)) (s_ix.nI (N := 61) hi (by decide)) hi ?_
      refine w_op (pc' := 117) dX16_cross_115 rfl ?_
      refine w_icmpne (t := 124) dX16_cross_117 (by decide) (fun c117 => ?_) (fun c117 => ?_)
      · refine w_iconst (v := 1) dX16_cross_124 rfl ?_
        refine w_op (pc' := 126) dX16_cross_125 rfl ?_
        refine w_op (pc' := 128) (ll' := [_, _, _, _, _, _, _, _]) dX16_cross_126 rfl ?_
        refine w_op (pc' := 131) (ll' := [_, _, _, _, _, _, _, _]) dX16_cross_128 rfl ?_
        refine w_goto (t := 101) dX16_cross_131 (by decide) ?_
        rw [show nI i + Int32.ofInt 1 = nI (i + 1) from nI_1 i]
        have ef : q_crf I kk i u = _ := congrArg (u + ·) (if_neg c117)
        rw [s_run_s hi, ef] at hr
        exact ih (i + 1) _ (by omega) hr (by omega)
      · refine w_iconst (v := 0) dX16_cross_120 rfl ?_
        refine w_goto (t := 125) dX16_cross_121 (by decide) ?_
        refine w_op (pc' := 126) dX16_cross_125 rfl ?_
        refine w_op (pc' := 128) (ll' := [_, _, _, _, _, _, _, _]) dX16_cross_126 rfl ?_
        refine w_op (pc' := 131) (ll' := [_, _, _, _, _, _, _, _]) dX16_cross_128 rfl ?_
        refine w_goto (t := 101) dX16_cross_131 (by decide) ?_
        rw [show nI i + Int32.ofInt 1 = nI (i + 1) from nI_1 i]
        have ef : q_crf I kk i u = _ := congrArg (u + ·) (if_pos c117)
        rw [s_run_s hi, ef] at hr
        exact ih (i + 1) _ (by omega) hr (by omega)
set_option maxRecDepth 100000 in
set_option maxHeartbeats 800000 in
theorem c_X16_cross {X : e_XT} {d : Nat} {p : e_Sp} {I : e_I} {J : e_Jt} {c : Nat × Nat} {w : e_Rw1} {Q : e_Rt → e_SS → Prop} {nk nr np a b n : Nat} (hG : q_G p I c nk nr np a b n) (hX : (X 8).1 = 0) {x y z : Int32} (k : ∀ kk, kk < nk → x = nI kk → ((0 ≤ y ∧ y ≤ 60) ∧ (0 ≤ z ∧ z ≤ 60) ∧ ¬ y = z) → I f_mk_kind kk = 115 → ∀ p' c' n', q_X p p' → q_L p' (q_st nk nr np ((q_cr I kk y z), J)).1 c' a b n' → n' ≤ n + np → Q (.inl (some (.int (q_crn (q_cr I kk y z) kk)))) (p', q_an (q_st nk nr np ((q_cr I kk y z), J)).1, (q_st nk nr np ((q_cr I kk y z), J)).2, c', w)) (kx : ¬ (0 ≤ x ∧ x < nI nk) → Q (.inl (some (.int 0))) (p, q_fl I 1, J, c, w)) (kx2 : (0 ≤ x ∧ x < nI nk) → ¬ ((0 ≤ y ∧ y ≤ 60) ∧ (0 ≤ z ∧ z ≤ 60) ∧ ¬ y = z) → Q (.inl (some (.int 0))) (p, q_fl I 2, J, c, w)) (kx3 : ∀ kk, kk < nk → x = nI kk → ((0 ≤ y ∧ y ≤ 60) ∧ (0 ≤ z ∧ z ≤ 60) ∧ ¬ y = z) → ¬ I f_mk_kind kk = 115 → Q (.inl (some (.int 0))) (p, q_fl I 3, J, c, w)) : s_c X (d + 10) 244 [.ref (p.1 T_MODEL 0), .int x, .int y, .int z] (p, I, J, c, w) Q := by
  have hM := hG.1
  have hp := hM.1
  have hk40 := hM.2.1
  have hr10 := hM.2.2.1
  have hnp := hM.2.2.2.1
  refine m_X16_cross (Nat.le_of_ble_eq_true rfl) ?_
  show s_w _ _ _ 0 _ _ _ _
  refine w_op (pc' := 1) dX16_cross_0 rfl ?_
  refine w_op (pc' := 2) dX16_cross_1 rfl ?_
  refine t_callV (t := T_MODEL) (As := [_]) dX16_cross_2 rfl rM_X16_isKnob (by decide) rfl rfl (by decide) (by decide) (Nat.le_of_ble_eq_true rfl) rfl (hp.1 _ rfl) (c_X16_isKnob hM ?_)
  show s_w _ _ _ 5 _ _ _ _
  refine w_ifne (t := 14) dX16_cross_5 (by decide) (fun c5 => ?_) (fun c5 => ?_)
  · have hx := of_decide_eq_true (bI_n0.mp c5)
    obtain ⟨kk, hk, rfl⟩ := s_nat hx.1 hx.2 (by omega)
    have hK := hM.2.2.2.2.1 kk hk
    have hv := hK.1
    refine w_op (pc' := 15) dX16_cross_14 rfl ?_
    refine w_iconst (v := 0) dX16_cross_15 rfl ?_
    refine w_bipush (v := 60) dX16_cross_16 rfl ?_
    refine t_callS (As := [_, _, _]) dX16_cross_18 rfl rM_X16_in (by decide) rfl rfl (by decide) (Nat.le_of_ble_eq_true rfl) (c_X16_in ?_)
    show s_w _ _ _ 21 _ _ _ _
    refine w_ifeq (t := 39) dX16_cross_21 (by decide) (fun c21 => ?_) (fun c21 => ?_)
    · refine w_op (pc' := 40) dX16_cross_39 rfl ?_
      refine w_iconst (v := 2) dX16_cross_40 rfl ?_
      refine t_callV (t := T_MODEL) (As := [_]) dX16_cross_41 rfl rM_X16_fails (by decide) rfl rfl (by decide) (by decide) (Nat.le_of_ble_eq_true rfl) rfl (hp.1 _ rfl) (c_X16_fails hp ?_)
      show s_w _ _ _ 44 _ _ _ _
      exact w_ireturn dX16_cross_44 ⟨rfl, kx2 (of_decide_eq_true (bI_n0.mp c5)) (fun u => (of_decide_eq_false (bI_0.mp c21)) u.1)⟩
    · refine w_op (pc' := 25) dX16_cross_24 rfl ?_
      refine w_iconst (v := 0) dX16_cross_25 rfl ?_
      refine w_bipush (v := 60) dX16_cross_26 rfl ?_
      refine t_callS (As := [_, _, _]) dX16_cross_28 rfl rM_X16_in (by decide) rfl rfl (by decide) (Nat.le_of_ble_eq_true rfl) (c_X16_in ?_)
      show s_w _ _ _ 31 _ _ _ _
      refine w_ifeq (t := 39) dX16_cross_31 (by decide) (fun c31 => ?_) (fun c31 => ?_)
      · refine w_op (pc' := 40) dX16_cross_39 rfl ?_
        refine w_iconst (v := 2) dX16_cross_40 rfl ?_
        refine t_callV (t := T_MODEL) (As := [_]) dX16_cross_41 rfl rM_X16_fails (by decide) rfl rfl (by decide) (by decide) (Nat.le_of_ble_eq_true rfl) rfl (hp.1 _ rfl) (c_X16_fails hp ?_)
        show s_w _ _ _ 44 _ _ _ _
        exact w_ireturn dX16_cross_44 ⟨rfl, kx2 (of_decide_eq_true (bI_n0.mp c5)) (fun u => (of_decide_eq_false (bI_0.mp c31)) u.2.1)⟩
      · refine w_op (pc' := 35) dX16_cross_34 rfl ?_
        refine w_op (pc' := 36) dX16_cross_35 rfl ?_
        refine w_icmpne (t := 45) dX16_cross_36 (by decide) (fun c36 => ?_) (fun c36 => ?_)
        · refine w_op (pc' := 46) dX16_cross_45 rfl ?_
          refine w_op (pc' := 47) dX16_cross_46 rfl ?_
          refine t_callV (t := T_MODEL) (As := [_]) dX16_cross_47 rfl rM_X16_isStop (by decide) rfl rfl (by decide) (by decide) (Nat.le_of_ble_eq_true rfl) rfl (hp.1 _ rfl) (c_X16_isStop hM hk ?_)
          show s_w _ _ _ 50 _ _ _ _
          refine w_ifne (t := 59) dX16_cross_50 (by decide) (fun c50 => ?_) (fun c50 => ?_)
          · have hy := of_decide_eq_true (bI_n0.mp c21)
            have hz := of_decide_eq_true (bI_n0.mp c31)
            refine w_op (pc' := 60) dX16_cross_59 rfl ?_
            refine t_getG0 (G := g_m_list1) dX16_cross_60 rfl rfl (by decide) rfl (fun _ => rfl) (hp.1 _ rfl) ?_
            refine w_op (pc' := 64) dX16_cross_63 rfl ?_
            refine t_callV (t := T_LIST) (As := [_]) dX16_cross_64 rfl rM_Jx4a65c_get_915e3 (by decide) rfl rfl (by decide) (by decide) (Nat.le_of_ble_eq_true rfl) rfl (hp.2 _ (by decide)) (c_get3 hp hk40.2 (by omega) hk ?_)
            show s_w _ _ _ 67 _ _ _ _
            refine t_chk dX16_cross_67 rfl rfl (by decide) hK.1 ?_
            refine t_getG1 (G := g_mk_wires) dX16_cross_70 rfl rfl (by decide) rfl (fun _ => rfl) hK.1 ?_
            refine w_op (pc' := 75) (ll' := [_, _, _, _, _, _, _, _]) dX16_cross_73 rfl ?_
            refine w_op (pc' := 77) dX16_cross_75 rfl ?_
            refine w_op (pc' := 78) dX16_cross_77 rfl ?_
            refine t_iald (F := f_mk_wires) dX16_cross_78 rfl (by decide) rfl (hK.2.1 _ (by decide)) (show s_ix _ _ 61 from (s_ixr (N := 60) hy.1 hy.2 (by decide))) (s_ixr (N := 60) hy.1 hy.2 (by decide)).2.2 ?_
            refine w_op (pc' := 81) (ll' := [_, _, _, _, _, _, _, _]) dX16_cross_79 rfl ?_
            refine w_op (pc' := 83) dX16_cross_81 rfl ?_
            refine w_op (pc' := 84) dX16_cross_83 rfl ?_
            refine w_op (pc' := 86) dX16_cross_84 rfl ?_
            refine w_op (pc' := 87) dX16_cross_86 rfl ?_
            refine t_iald (F := f_mk_wires) dX16_cross_87 rfl (by decide) rfl (hK.2.1 _ (by decide)) (show s_ix _ _ 61 from (s_ixr (N := 60) hz.1 hz.2 (by decide))) (s_ixr (N := 60) hz.1 hz.2 (by decide)).2.2 ?_
            refine t_iast (F := f_mk_wires) dX16_cross_88 rfl (by decide) (by decide) rfl (hK.2.1 _ (by decide)) (show s_ix _ _ 61 from (s_ixr (N := 60) hy.1 hy.2 (by decide))) (s_ixr (N := 60) hy.1 hy.2 (by decide)).2.2 ?_
            refine w_op (pc' := 91) dX16_cross_89 rfl ?_
            refine w_op (pc' := 92) dX16_cross_91 rfl ?_
            refine w_op (pc' := 94) dX16_cross_92 rfl ?_
            refine t_iast (F := f_mk_wires) dX16_cross_94 rfl (by decide) (by decide) rfl (hK.2.1 _ (by decide)) (show s_ix _ _ 61 from (s_ixr (N := 60) hz.1 hz.2 (by decide))) (s_ixr (N := 60) hz.1 hz.2 (by decide)).2.2 ?_
            refine w_iconst (v := 0) dX16_cross_95 rfl ?_
            refine w_op (pc' := 98) (ll' := [_, _, _, _, _, _, _, _]) dX16_cross_96 rfl ?_
            refine w_iconst (v := 0) dX16_cross_98 rfl ?_
            refine w_op (pc' := 101) (ll' := [_, _, _, _, _, _, _, _]) dX16_cross_99 rfl ?_
            exact l_X16_cross (p := p) (I := (q_cr I kk y z)) ((hG.up (by decide)).up (by decide)) hX hk (k kk hk rfl ⟨(of_decide_eq_true (bI_n0.mp c21)), (of_decide_eq_true (bI_n0.mp c31)), c36⟩ (of_decide_eq_true (bI_n0.mp c50))) 62 0 _ (Nat.zero_le _) rfl (by omega)
          · refine w_op (pc' := 54) dX16_cross_53 rfl ?_
            refine w_iconst (v := 3) dX16_cross_54 rfl ?_
            refine t_callV (t := T_MODEL) (As := [_]) dX16_cross_55 rfl rM_X16_fails (by decide) rfl rfl (by decide) (by decide) (Nat.le_of_ble_eq_true rfl) rfl (hp.1 _ rfl) (c_X16_fails hp ?_)
            show s_w _ _ _ 58 _ _ _ _
            exact w_ireturn dX16_cross_58 ⟨rfl, kx3 kk hk rfl ⟨(of_decide_eq_true (bI_n0.mp c21)), (of_decide_eq_true (bI_n0.mp c31)), c36⟩ (of_decide_eq_false (bI_0.mp c50))⟩
        · refine w_op (pc' := 40) dX16_cross_39 rfl ?_
          refine w_iconst (v := 2) dX16_cross_40 rfl ?_
          refine t_callV (t := T_MODEL) (As := [_]) dX16_cross_41 rfl rM_X16_fails (by decide) rfl rfl (by decide) (by decide) (Nat.le_of_ble_eq_true rfl) rfl (hp.1 _ rfl) (c_X16_fails hp ?_)
          show s_w _ _ _ 44 _ _ _ _
          exact w_ireturn dX16_cross_44 ⟨rfl, kx2 (of_decide_eq_true (bI_n0.mp c5)) (fun u => u.2.2 c36)⟩
  · refine w_op (pc' := 9) dX16_cross_8 rfl ?_
    refine w_iconst (v := 1) dX16_cross_9 rfl ?_
    refine t_callV (t := T_MODEL) (As := [_]) dX16_cross_10 rfl rM_X16_fails (by decide) rfl rfl (by decide) (by decide) (Nat.le_of_ble_eq_true rfl) rfl (hp.1 _ rfl) (c_X16_fails hp ?_)
    show s_w _ _ _ 13 _ _ _ _
    exact w_ireturn dX16_cross_13 ⟨rfl, kx (of_decide_eq_false (bI_0.mp c5))⟩

set_option maxRecDepth 100000 in
set_option maxHeartbeats 800000 in
theorem l_X16_hasFault {X : e_XT} {d : Nat} {p : e_Sp} {I : e_I} {J : e_Jt} {c : Nat × Nat} {w : e_Rw1} {Q : e_Rt → e_SS → Prop} (hp : s_ok p) {u v : Nat} (hv : v < 1280) {r : Bool} (k : Q (.inl (some (.int (bI r)))) (p, I, J, c, w)) : ∀ (n : Nat) (i : Nat) (h : Bool), (h1 : i ≤ v + 1) → (hr : s_run (q_hfs I) i (v + 1 - i) h = r) → (hn : v + 1 - i < n) → s_w X (d + 0) K_X16_hasFault 5 [some (.ref (p.1 T_MODEL 0)), some (.int (nI u)), some (.int (nI v)), some (.int (bI h)), some (.int (nI i))] [] (p, I, J, c, w) (fun r S' => e_rcr (some FieldType.boolean) r = true ∧ Q r S') := by
  intro n
  induction n with
  | zero =>
    intro i h h1 hr hn
    exact absurd hn (Nat.not_lt_zero _)
  | succ n ih =>
    intro i h h1 hr hn
    refine w_op (pc' := 7) dX16_hasFault_5 rfl ?_
    refine w_op (pc' := 8) dX16_hasFault_7 rfl ?_
    refine w_icmpgt (t := 39) dX16_hasFault_8 (by decide) (fun c8 => ?_) (fun c8 => ?_)
    · have hi : v + 1 ≤ i := by have := (nI_ltI (by omega) (by omega)).mp c8; omega
      rw [s_run_z hi] at hr
      refine w_op (pc' := 40) dX16_hasFault_39 rfl ?_
      exact w_ireturn dX16_hasFault_40 ⟨s_rcb (bI_or _), by subst hr; exact k⟩
    · have hi : i < v + 1 := by have := (nI_leI (by omega) (by omega)).mp (Int32.not_lt.mp c8); omega
      refine w_op (pc' := 12) dX16_hasFault_11 rfl ?_
      refine w_ifne (t := 27) dX16_hasFault_12 (by decide) (fun c12 => ?_) (fun c12 => ?_)
      · refine w_iconst (v := 1) dX16_hasFault_27 rfl ?_
        refine w_goto (t := 32) dX16_hasFault_28 (by decide) ?_
        refine w_op (pc' := 33) (ll' := [_, _, _, _, _]) dX16_hasFault_32 rfl ?_
        refine w_op (pc' := 36) (ll' := [_, _, _, _, _]) dX16_hasFault_33 rfl ?_
        refine w_goto (t := 5) dX16_hasFault_36 (by decide) ?_
        rw [show nI i + Int32.ofInt 1 = nI (i + 1) from nI_1 i]
        have ef : q_hfs I i h = true := by unfold q_hfs; rw [bI_n0.mp c12]; rfl
        rw [s_run_s hi, ef] at hr
        exact ih (i + 1) true (by omega) hr (by omega)
      · refine w_op (pc' := 16) dX16_hasFault_15 rfl ?_
        refine t_getG0 (G := g_m_fault) dX16_hasFault_16 rfl rfl (by decide) rfl (fun _ => rfl) (hp.1 _ rfl) ?_
        refine w_op (pc' := 21) dX16_hasFault_19 rfl ?_
        refine t_cald0 (F := f_m_fault) dX16_hasFault_21 rfl (by decide) rfl (hp.1 _ rfl) (show s_ix _ _ 1280 from s_ix.nI (by omega) (by decide)) (show i < 1280 by omega) ?_
        refine w_bipush (v := 45) dX16_hasFault_22 rfl ?_
        refine w_icmpeq (t := 31) dX16_hasFault_24 (by decide) (fun c24 => ?_) (fun c24 => ?_)
        · refine w_iconst (v := 0) dX16_hasFault_31 rfl ?_
          refine w_op (pc' := 33) (ll' := [_, _, _, _, _]) dX16_hasFault_32 rfl ?_
          refine w_op (pc' := 36) (ll' := [_, _, _, _, _]) dX16_hasFault_33 rfl ?_
          refine w_goto (t := 5) dX16_hasFault_36 (by decide) ?_
          rw [show nI i + Int32.ofInt 1 = nI (i + 1) from nI_1 i]
          have ef : q_hfs I i h = false := by unfold q_hfs; rw [bI_0.mp c12]; simp [c24]
          rw [s_run_s hi, ef] at hr
          exact ih (i + 1) false (by omega) hr (by omega)
        · refine w_iconst (v := 1) dX16_hasFault_27 rfl ?_
          refine w_goto (t := 32) dX16_hasFault_28 (by decide) ?_
          refine w_op (pc' := 33) (ll' := [_, _, _, _, _]) dX16_hasFault_32 rfl ?_
          refine w_op (pc' := 36) (ll' := [_, _, _, _, _]) dX16_hasFault_33 rfl ?_
          refine w_goto (t := 5) dX16_hasFault_36 (by decide) ?_
          rw [show nI i + Int32.ofInt 1 = nI (i + 1) from nI_1 i]
          have ef : q_hfs I i h = true := by unfold q_hfs; rw [bI_0.mp c12]; simp [c24]
          rw [s_run_s hi, ef] at hr
          exact ih (i + 1) true (by omega) hr (by omega)
set_option maxRecDepth 100000 in
set_option maxHeartbeats 800000 in
theorem c_X16_hasFault {X : e_XT} {d : Nat} {p : e_Sp} {I : e_I} {J : e_Jt} {c : Nat × Nat} {w : e_Rw1} {Q : e_Rt → e_SS → Prop} (hp : s_ok p) {u v : Nat} (hv : v < 1280) (hu : u ≤ v + 1) (k : Q (.inl (some (.int (bI (q_hf I u v))))) (p, I, J, c, w)) : s_c X (d + 0) 284 [.ref (p.1 T_MODEL 0), .int (nI u), .int (nI v)] (p, I, J, c, w) Q := by
  refine m_X16_hasFault (Nat.le_of_ble_eq_true rfl) ?_
  show s_w _ _ _ 0 _ _ _ _
  refine w_iconst (v := 0) dX16_hasFault_0 rfl ?_
  refine w_op (pc' := 2) (ll' := [_, _, _, _, _]) dX16_hasFault_1 rfl ?_
  refine w_op (pc' := 3) dX16_hasFault_2 rfl ?_
  refine w_op (pc' := 5) (ll' := [_, _, _, _, _]) dX16_hasFault_3 rfl ?_
  exact l_X16_hasFault hp hv k (v + 2) u false hu rfl (by omega)

set_option maxRecDepth 100000 in
set_option maxHeartbeats 800000 in
theorem c_X16_trials {X : e_XT} {p : e_Sp} {I : e_I} {J : e_Jt} {c : Nat × Nat} {w : e_Rw1} (hp : s_ok p) : ∀ (k d u v : Nat) (Q : e_Rt → e_SS → Prop), u ≤ v → v < u + 2 ^ k → v < 1280 → Q (.inl (some (.int (q_ti9 I k u v)))) (p, I, J, c, w) → s_c X (d + k + 1) 285 [.ref (p.1 T_MODEL 0), .int (nI u), .int (nI v)] (p, I, J, c, w) Q := by
  intro k
  induction k with
  | zero =>
    intro d u v Q h1 h2 h3 kQ
    refine m_X16_trials (Nat.le_of_ble_eq_true rfl) ?_
    show s_w _ _ _ 0 _ _ _ _
    refine w_op (pc' := 1) dX16_trials_0 rfl ?_
    refine w_op (pc' := 2) dX16_trials_1 rfl ?_
    refine w_icmpne (t := 7) dX16_trials_2 (by decide) (fun c2 => ?_) (fun c2 => ?_)
    · exact absurd (show nI u = nI v by rw [show u = v by rw [Nat.pow_zero] at h2; omega]) c2
    · refine w_iconst (v := 0) dX16_trials_5 rfl ?_
      exact w_ireturn dX16_trials_6 ⟨rfl, kQ⟩
  | succ k ih =>
    intro d u v Q h1 h2 h3 kQ
    have hpw : 2 ^ (k + 1) = 2 * 2 ^ k := by rw [Nat.pow_succ]; omega
    show s_c X (d + k + 1 + 1) _ _ _ _
    refine m_X16_trials (Nat.le_of_ble_eq_true rfl) ?_
    show s_w _ _ _ 0 _ _ _ _
    refine w_op (pc' := 1) dX16_trials_0 rfl ?_
    refine w_op (pc' := 2) dX16_trials_1 rfl ?_
    refine w_icmpne (t := 7) dX16_trials_2 (by decide) (fun c2 => ?_) (fun c2 => ?_)
    · have hne : ¬ u = v := fun z => c2 (by rw [z])
      have hmid : nI u + (nI v - nI u) / 2 = nI (u + (v - u) / 2) := by
        rw [nI_sub (by omega), nI_div2 (by omega), nI_add]
      refine w_op (pc' := 8) dX16_trials_7 rfl ?_
      refine w_op (pc' := 9) dX16_trials_8 rfl ?_
      refine w_op (pc' := 10) dX16_trials_9 rfl ?_
      refine w_op (pc' := 11) dX16_trials_10 rfl ?_
      refine w_iconst (v := 2) dX16_trials_11 rfl ?_
      refine w_op (pc' := 13) dX16_trials_12 (by rfl) ?_
      refine w_op (pc' := 14) dX16_trials_13 rfl ?_
      rw [hmid]
      refine w_op (pc' := 15) (ll' := [_, _, _, _, _, _, _]) dX16_trials_14 rfl ?_
      refine w_op (pc' := 16) dX16_trials_15 rfl ?_
      refine w_op (pc' := 17) dX16_trials_16 rfl ?_
      refine w_op (pc' := 18) dX16_trials_17 rfl ?_
      refine t_callV (t := T_MODEL) (As := [_, _]) dX16_trials_18 rfl rM_X16_hasFault (by decide) rfl rfl (by decide) (by decide) (Nat.le_of_ble_eq_true rfl) rfl (hp.1 _ rfl) (c_X16_hasFault hp (by omega) (by omega) ?_)
      show s_w _ _ _ 21 _ _ _ _
      refine w_op (pc' := 23) (ll' := [_, _, _, _, _, _, _]) dX16_trials_21 rfl ?_
      refine w_op (pc' := 24) dX16_trials_23 rfl ?_
      refine w_op (pc' := 25) dX16_trials_24 rfl ?_
      refine w_iconst (v := 1) dX16_trials_25 rfl ?_
      refine w_op (pc' := 27) dX16_trials_26 rfl ?_
      refine w_op (pc' := 28) dX16_trials_27 rfl ?_
      rw [show nI (u + (v - u) / 2) + 1 = nI ((u + (v - u) / 2) + 1) from nI_1 _]
      refine t_callV (t := T_MODEL) (As := [_, _]) dX16_trials_28 rfl rM_X16_hasFault (by decide) rfl rfl (by decide) (by decide) (Nat.le_of_ble_eq_true rfl) rfl (hp.1 _ rfl) (c_X16_hasFault hp (by omega) (by omega) ?_)
      show s_w _ _ _ 31 _ _ _ _
      refine w_op (pc' := 33) (ll' := [_, _, _, _, _, _, _]) dX16_trials_31 rfl ?_
      refine w_op (pc' := 35) dX16_trials_33 rfl ?_
      refine w_ifeq (t := 49) dX16_trials_35 (by decide) (fun c35 => ?_) (fun c35 => ?_)
      · refine w_iconst (v := 1) dX16_trials_49 rfl ?_
        refine w_op (pc' := 52) (ll' := [_, _, _, _, _, _, _]) dX16_trials_50 rfl ?_
        refine w_op (pc' := 54) dX16_trials_52 rfl ?_
        refine w_op (pc' := 56) dX16_trials_54 rfl ?_
        refine w_ifeq (t := 70) dX16_trials_56 (by decide) (fun c56 => ?_) (fun c56 => ?_)
        · refine w_iconst (v := 0) dX16_trials_70 rfl ?_
          refine w_op (pc' := 72) dX16_trials_71 rfl ?_
          exact w_ireturn dX16_trials_72 ⟨rfl, s_eqi (by show (if u = v then 0 else _) = _; rw [if_neg hne, if_neg (fun z => by rw [bI_0.mp c35] at z; cases z), if_neg (fun z => by rw [bI_0.mp c56] at z; cases z)]; all_goals grind) kQ⟩
        · refine w_op (pc' := 60) dX16_trials_59 rfl ?_
          refine w_op (pc' := 61) dX16_trials_60 rfl ?_
          refine w_iconst (v := 1) dX16_trials_61 rfl ?_
          refine w_op (pc' := 63) dX16_trials_62 rfl ?_
          refine w_op (pc' := 64) dX16_trials_63 rfl ?_
          rw [show nI (u + (v - u) / 2) + 1 = nI ((u + (v - u) / 2) + 1) from nI_1 _]
          refine t_callV (t := T_MODEL) (As := [_, _]) dX16_trials_64 rfl rM_X16_trials (by decide) rfl rfl (by decide) (by decide) (Nat.le_of_ble_eq_true rfl) rfl (hp.1 _ rfl) (ih _ _ _ _ (by omega) (by omega) (by omega) ?_)
          show s_w _ _ _ 67 _ _ _ _
          refine w_goto (t := 71) dX16_trials_67 (by decide) ?_
          refine w_op (pc' := 72) dX16_trials_71 rfl ?_
          exact w_ireturn dX16_trials_72 ⟨rfl, s_eqi (by show (if u = v then 0 else _) = _; rw [if_neg hne, if_neg (fun z => by rw [bI_0.mp c35] at z; cases z), if_pos (bI_n0.mp c56)]; all_goals grind) kQ⟩
      · refine w_iconst (v := 2) dX16_trials_38 rfl ?_
        refine w_op (pc' := 40) dX16_trials_39 rfl ?_
        refine w_op (pc' := 41) dX16_trials_40 rfl ?_
        refine w_op (pc' := 42) dX16_trials_41 rfl ?_
        refine t_callV (t := T_MODEL) (As := [_, _]) dX16_trials_42 rfl rM_X16_trials (by decide) rfl rfl (by decide) (by decide) (Nat.le_of_ble_eq_true rfl) rfl (hp.1 _ rfl) (ih _ _ _ _ (by omega) (by omega) (by omega) ?_)
        show s_w _ _ _ 45 _ _ _ _
        refine w_op (pc' := 46) dX16_trials_45 rfl ?_
        refine w_goto (t := 50) dX16_trials_46 (by decide) ?_
        refine w_op (pc' := 52) (ll' := [_, _, _, _, _, _, _]) dX16_trials_50 rfl ?_
        refine w_op (pc' := 54) dX16_trials_52 rfl ?_
        refine w_op (pc' := 56) dX16_trials_54 rfl ?_
        refine w_ifeq (t := 70) dX16_trials_56 (by decide) (fun c56 => ?_) (fun c56 => ?_)
        · refine w_iconst (v := 0) dX16_trials_70 rfl ?_
          refine w_op (pc' := 72) dX16_trials_71 rfl ?_
          exact w_ireturn dX16_trials_72 ⟨rfl, s_eqi (by show (if u = v then 0 else _) = _; rw [if_neg hne, if_pos (bI_n0.mp c35), if_neg (fun z => by rw [bI_0.mp c56] at z; cases z)]; all_goals grind) kQ⟩
        · refine w_op (pc' := 60) dX16_trials_59 rfl ?_
          refine w_op (pc' := 61) dX16_trials_60 rfl ?_
          refine w_iconst (v := 1) dX16_trials_61 rfl ?_
          refine w_op (pc' := 63) dX16_trials_62 rfl ?_
          refine w_op (pc' := 64) dX16_trials_63 rfl ?_
          rw [show nI (u + (v - u) / 2) + 1 = nI ((u + (v - u) / 2) + 1) from nI_1 _]
          refine t_callV (t := T_MODEL) (As := [_, _]) dX16_trials_64 rfl rM_X16_trials (by decide) rfl rfl (by decide) (by decide) (Nat.le_of_ble_eq_true rfl) rfl (hp.1 _ rfl) (ih _ _ _ _ (by omega) (by omega) (by omega) ?_)
          show s_w _ _ _ 67 _ _ _ _
          refine w_goto (t := 71) dX16_trials_67 (by decide) ?_
          refine w_op (pc' := 72) dX16_trials_71 rfl ?_
          exact w_ireturn dX16_trials_72 ⟨rfl, s_eqi (by show (if u = v then 0 else _) = _; rw [if_neg hne, if_pos (bI_n0.mp c35), if_pos (bI_n0.mp c56)]; all_goals grind) kQ⟩
    · refine w_iconst (v := 0) dX16_trials_5 rfl ?_
      exact w_ireturn dX16_trials_6 ⟨rfl, s_eqi (if_pos ((nI_eq (by omega) (by omega)).mp c2)) kQ⟩

