/-! 48: answers of the works (printed by wip/whole/p48.py) -/
/-- the reasons of one pipe -/
def s_raR (I : e_I) (nk k : Nat) (x y : Int32) (n : Nat) (a : Int32) : Int32 := if s_isk (I f_k_division k) (if s_rk I k (nI n) = x then s_ky I k (nI n) y else -1) ∧ s_so I k = true then a + nI (s_wo I nk (I f_k_division k) (if s_rk I k (nI n) = x then s_ky I k (nI n) y else -1) (I f_now 0)) else a
def s_raK (I : e_I) (nk : Nat) (x y : Int32) (k : Nat) (a : Int32) : Int32 := if I f_k_kind k = 115 then s_run (s_raR I nk k x y) 0 (I f_s_rows k).toNatClampNeg a else a
def s_ra0 (p : e_Sp) (I : e_I) (nr : Nat) (x y : Int32) : Int32 := match s_pat p I nr x y with
  | some j => if I f_p_isHeld j = 0 then 0 else 1
  | none => 0
def s_ral (p : e_Sp) (I : e_I) (nk nr : Nat) (x y : Int32) : Int32 := s_run (s_raK I nk x y) 0 nk (s_ra0 p I nr x y)
/-- what isTrue looks at -/
def s_bad (p : e_Sp) (I : e_I) (nk nr r n : Nat) : Bool := !decide (I f_p_begins (p.2.2.2.2 r + n) = I f_p_ends (p.2.2.2.2 r + n) + (if I f_p_isSpeaking (p.2.2.2.2 r + n) = 0 then 0 else 1)) || !decide (s_ar I (p.2.2.2.2 r + n) = s_ral p I nk nr (nI r) (I f_r_lowest r + nI n))
def s_con (p : e_Sp) (I : e_I) (nk nr : Nat) : Bool := !s_ex nr (fun r => s_ex (p.2.2.1 T_PARR r) (s_bad p I nk nr r))
set_option maxRecDepth 100000 in
set_option maxHeartbeats 4000000 in
theorem c_X10_hold {X : e_XT} {d : Nat} {p : e_Sp} {I : e_I} {J : e_Jt} {c : Nat × Nat} {w : e_Rw1} {Q : e_Rt → e_SS → Prop} {nk nr : Nat} (hD : s_D p I nk nr) {x y b : Int32} (hb : b = 0 ∨ b = 1) (k1 : ∀ j, s_pat p I nr x y = some j → Q (.inl none) (p, s_up I f_p_isHeld j b, J, c, w)) (k2 : s_pat p I nr x y = none → Q (.inl none) (p, I, J, c, w)) : s_c X (d + 4) 127 [.ref (p.1 T_WORKS 0), .int x, .int y, .int b] (p, I, J, c, w) Q := by
  have hC := hD.1
  have hp := hC.1
  have hn40 := hC.2.1.1
  have hk40 := hC.2.1.2
  have hn10 := hC.2.2.1.1
  have hr10 := hC.2.2.1.2
  refine m_X10_hold (Nat.le_of_ble_eq_true rfl) ?_
  show s_w _ _ _ 0 _ _ _ _
  refine w_op (pc' := 1) dX10_hold_0 rfl ?_
  refine w_op (pc' := 2) dX10_hold_1 rfl ?_
  refine w_op (pc' := 3) dX10_hold_2 rfl ?_
  refine t_callV (t := T_WORKS) (As := [_, _]) dX10_hold_3 rfl rM_X10_pipeAt (by decide) rfl rfl (by decide) (by decide) (Nat.le_of_ble_eq_true rfl) rfl (hp.1 _ rfl) (c_X10_pipeAt hD (fun j hj hv => ?_) (fun hx => ?_))
  · show s_w _ _ _ 6 _ _ _ _
    refine w_op (pc' := 8) (ll' := [_, _, _, _, _]) dX10_hold_6 rfl ?_
    refine w_op (pc' := 10) dX10_hold_8 rfl ?_
    refine w_ifnull_f dX10_hold_10 ?_
    refine w_op (pc' := 15) dX10_hold_13 rfl ?_
    refine w_op (pc' := 16) dX10_hold_15 rfl ?_
    refine t_putI (F := f_p_isHeld) dX10_hold_16 rfl rfl (by decide) (by decide) rfl (s_ckb (by first | exact Or.inl rfl | exact Or.inr rfl | assumption)) (Or.inl rfl) (by assumption) ?_
    exact w_return dX10_hold_19 ⟨rfl, k1 j hj⟩
  · show s_w _ _ _ 6 _ _ _ _
    refine w_op (pc' := 8) (ll' := [_, _, _, _, _]) dX10_hold_6 rfl ?_
    refine w_op (pc' := 10) dX10_hold_8 rfl ?_
    refine w_ifnull_t (t := 19) dX10_hold_10 (by decide) ?_
    exact w_return dX10_hold_19 ⟨rfl, k2 hx⟩
set_option maxRecDepth 100000 in
set_option maxHeartbeats 4000000 in
theorem c_X10_pitchOf {X : e_XT} {d : Nat} {p : e_Sp} {I : e_I} {J : e_Jt} {c : Nat × Nat} {w : e_Rw1} {Q : e_Rt → e_SS → Prop} {nk nr : Nat} (hD : s_D p I nk nr) {x y : Int32} (k : Q (.inl (some (.int (s_pit p I nr x y)))) (p, I, J, c, w)) : s_c X (d + 4) 126 [.ref (p.1 T_WORKS 0), .int x, .int y] (p, I, J, c, w) Q := by
  have hC := hD.1
  have hp := hC.1
  have hn40 := hC.2.1.1
  have hk40 := hC.2.1.2
  have hn10 := hC.2.2.1.1
  have hr10 := hC.2.2.1.2
  refine m_X10_pitchOf (Nat.le_of_ble_eq_true rfl) ?_
  show s_w _ _ _ 0 _ _ _ _
  refine w_op (pc' := 1) dX10_pitchOf_0 rfl ?_
  refine w_op (pc' := 2) dX10_pitchOf_1 rfl ?_
  refine t_callV (t := T_WORKS) (As := [_]) dX10_pitchOf_2 rfl rM_X10_rankAt (by decide) rfl rfl (by decide) (by decide) (Nat.le_of_ble_eq_true rfl) rfl (hp.1 _ rfl) (c_X10_rankAt hD (fun r hr hx => ?_) (fun hx => ?_))
  · show s_w _ _ _ 5 _ _ _ _
    refine w_op (pc' := 6) (ll' := [_, _, _, _, _, _]) dX10_pitchOf_5 rfl ?_
    refine w_op (pc' := 7) dX10_pitchOf_6 rfl ?_
    refine w_op (pc' := 8) dX10_pitchOf_7 rfl ?_
    refine w_op (pc' := 9) dX10_pitchOf_8 rfl ?_
    refine t_callV (t := T_WORKS) (As := [_, _]) dX10_pitchOf_9 rfl rM_X10_pipeAt (by decide) rfl rfl (by decide) (by decide) (Nat.le_of_ble_eq_true rfl) rfl (hp.1 _ rfl) (c_X10_pipeAt hD (fun j hj hv => ?_) (fun hx9 => ?_))
    · show s_w _ _ _ 12 _ _ _ _
      refine w_op (pc' := 14) (ll' := [_, _, _, _, _, _]) dX10_pitchOf_12 rfl ?_
      refine w_op (pc' := 15) dX10_pitchOf_14 rfl ?_
      refine w_ifnull_f dX10_pitchOf_15 ?_
      refine w_op (pc' := 20) dX10_pitchOf_18 rfl ?_
      refine w_ifnull_f dX10_pitchOf_20 ?_
      refine w_op (pc' := 24) dX10_pitchOf_23 rfl ?_
      refine w_ifge (t := 29) dX10_pitchOf_24 (by decide) (fun c24 => ?_) (fun c24 => ?_)
      · have hc := nI_clamp (n := r) (by omega)
        have hdv := (hD.2.1 r hr).dv
        refine w_bipush (v := 100) dX10_pitchOf_29 rfl ?_
        refine w_op (pc' := 32) dX10_pitchOf_31 rfl ?_
        refine t_getG0 (G := g_w_winds) dX10_pitchOf_32 rfl rfl (by decide) rfl (fun _ => rfl) (hp.1 _ rfl) ?_
        refine w_op (pc' := 36) dX10_pitchOf_35 rfl ?_
        refine t_getI (F := f_r_division) dX10_pitchOf_36 rfl rfl (by decide) rfl ⟨rfl, fun _ => rfl⟩ (hD.rk hr) ?_
        refine t_iald0 (F := f_a_winds) dX10_pitchOf_39 rfl (by decide) rfl (hp.1 _ rfl) hdv hdv.2.2 ?_
        refine w_op (pc' := 41) dX10_pitchOf_40 rfl ?_
        refine w_op (pc' := 43) (ll' := [_, _, _, _, _, _]) dX10_pitchOf_41 rfl ?_
        refine w_bipush (v := 100) dX10_pitchOf_43 rfl ?_
        refine w_op (pc' := 46) dX10_pitchOf_45 rfl ?_
        refine w_op (pc' := 47) dX10_pitchOf_46 rfl ?_
        refine w_op (pc' := 48) dX10_pitchOf_47 rfl ?_
        refine t_getG0 (G := g_w_temperings) dX10_pitchOf_48 rfl rfl (by decide) rfl (fun _ => rfl) (hp.1 _ rfl) ?_
        refine w_op (pc' := 52) dX10_pitchOf_51 rfl ?_
        refine w_bipush (v := 12) dX10_pitchOf_52 rfl ?_
        refine w_op (pc' := 55) dX10_pitchOf_54 (by rfl) ?_
        refine t_iald0 (F := f_a_temperings) dX10_pitchOf_55 rfl (by decide) rfl (hp.1 _ rfl) (s_mod12 c24) (s_mod12 c24).2.2 ?_
        refine w_op (pc' := 57) dX10_pitchOf_56 rfl ?_
        refine w_op (pc' := 59) dX10_pitchOf_57 rfl ?_
        refine t_getI (F := f_p_tuning) dX10_pitchOf_59 rfl rfl (by decide) rfl ⟨rfl, fun _ => rfl⟩ (by assumption) ?_
        refine w_op (pc' := 63) dX10_pitchOf_62 rfl ?_
        refine w_op (pc' := 64) dX10_pitchOf_63 rfl ?_
        refine t_getI (F := f_heat) dX10_pitchOf_64 rfl rfl (by decide) rfl ⟨rfl, fun _ => rfl⟩ (hp.1 _ rfl) ?_
        refine w_op (pc' := 68) dX10_pitchOf_67 rfl ?_
        refine t_getI (F := f_r_heatNumber) dX10_pitchOf_68 rfl rfl (by decide) rfl ⟨rfl, fun _ => rfl⟩ (hD.rk hr) ?_
        refine w_op (pc' := 72) dX10_pitchOf_71 rfl ?_
        refine w_bipush (v := 10) dX10_pitchOf_72 rfl ?_
        refine w_op (pc' := 75) dX10_pitchOf_74 (by rfl) ?_
        refine w_op (pc' := 76) dX10_pitchOf_75 rfl ?_
        refine w_op (pc' := 78) dX10_pitchOf_76 rfl ?_
        refine w_bipush (v := 10) dX10_pitchOf_78 rfl ?_
        refine w_op (pc' := 81) dX10_pitchOf_80 (by rfl) ?_
        refine w_op (pc' := 82) dX10_pitchOf_81 rfl ?_
        exact w_ireturn dX10_pitchOf_82 ⟨rfl, s_eqi (by subst hx; unfold s_pit; rw [hj]; show (if _ then _ else _) = _; rw [if_neg (Int32.not_lt.mpr c24), hc]) k⟩
      · refine w_iconst (v := 0) dX10_pitchOf_27 rfl ?_
        exact w_ireturn dX10_pitchOf_28 ⟨rfl, s_eqi (by unfold s_pit; rw [hj]; exact if_pos (Int32.not_le.mp c24)) k⟩
    · show s_w _ _ _ 12 _ _ _ _
      refine w_op (pc' := 14) (ll' := [_, _, _, _, _, _]) dX10_pitchOf_12 rfl ?_
      refine w_op (pc' := 15) dX10_pitchOf_14 rfl ?_
      refine w_ifnull_f dX10_pitchOf_15 ?_
      refine w_op (pc' := 20) dX10_pitchOf_18 rfl ?_
      refine w_ifnull_t (t := 27) dX10_pitchOf_20 (by decide) ?_
      refine w_iconst (v := 0) dX10_pitchOf_27 rfl ?_
      exact w_ireturn dX10_pitchOf_28 ⟨rfl, s_eqi (by unfold s_pit; rw [hx9]) k⟩
  · show s_w _ _ _ 5 _ _ _ _
    refine w_op (pc' := 6) (ll' := [_, _, _, _, _, _]) dX10_pitchOf_5 rfl ?_
    refine w_op (pc' := 7) dX10_pitchOf_6 rfl ?_
    refine w_op (pc' := 8) dX10_pitchOf_7 rfl ?_
    refine w_op (pc' := 9) dX10_pitchOf_8 rfl ?_
    refine t_callV (t := T_WORKS) (As := [_, _]) dX10_pitchOf_9 rfl rM_X10_pipeAt (by decide) rfl rfl (by decide) (by decide) (Nat.le_of_ble_eq_true rfl) rfl (hp.1 _ rfl) (c_X10_pipeAt hD (fun j hj hv => ?_) (fun hx9 => ?_))
    · show s_w _ _ _ 12 _ _ _ _
      refine w_op (pc' := 14) (ll' := [_, _, _, _, _, _]) dX10_pitchOf_12 rfl ?_
      refine w_op (pc' := 15) dX10_pitchOf_14 rfl ?_
      refine w_ifnull_t (t := 27) dX10_pitchOf_15 (by decide) ?_
      refine w_iconst (v := 0) dX10_pitchOf_27 rfl ?_
      exact w_ireturn dX10_pitchOf_28 (by unfold s_pat at hj; rw [if_neg (fun z => hx.elim (fun u => Int32.not_lt.mpr z.1 u) (fun u => Int32.not_lt.mpr u z.2))] at hj; cases hj)
    · show s_w _ _ _ 12 _ _ _ _
      refine w_op (pc' := 14) (ll' := [_, _, _, _, _, _]) dX10_pitchOf_12 rfl ?_
      refine w_op (pc' := 15) dX10_pitchOf_14 rfl ?_
      refine w_ifnull_t (t := 27) dX10_pitchOf_15 (by decide) ?_
      refine w_iconst (v := 0) dX10_pitchOf_27 rfl ?_
      exact w_ireturn dX10_pitchOf_28 ⟨rfl, s_eqi (by unfold s_pit; rw [hx9]) k⟩
set_option maxRecDepth 100000 in
set_option maxHeartbeats 4000000 in
theorem l2_X10_sumOfPitches {X : e_XT} {d : Nat} {p : e_Sp} {I : e_I} {J : e_Jt} {c : Nat × Nat} {w : e_Rw1} {Q : e_Rt → e_SS → Prop} {nk nr : Nat} (hD : s_D p I nk nr) {r : Nat} {R : Int32} (hr : r < nr) (hk : ∀ o4, s_w X (d + 5) K_X10_sumOfPitches 78 [some (.ref (p.1 T_WORKS 0)), some (.int R), some (.int (nI r)), some (.ref (p.1 T_RANK r)), o4] [] (p, I, J, c, w) (fun r S' => e_rcr (some .int) r = true ∧ Q r S')) : ∀ (n : Nat) (i : Nat) (a : Int32), (h1 : i ≤ p.2.2.1 T_PARR r) → (hf : s_run (s_ptP p I nr r) i (p.2.2.1 T_PARR r - i) a = R) → (hn : p.2.2.1 T_PARR r - i < n) → s_w X (d + 5) K_X10_sumOfPitches 30 [some (.ref (p.1 T_WORKS 0)), some (.int a), some (.int (nI r)), some (.ref (p.1 T_RANK r)), some (.int (nI i))] [] (p, I, J, c, w) (fun r S' => e_rcr (some FieldType.int) r = true ∧ Q r S') := by
  intro n
  induction n with
  | zero =>
    intro i a h1 hf hn
    exact absurd hn (Nat.not_lt_zero _)
  | succ n ih =>
    intro i a h1 hf hn
    have hC := hD.1
    have hp := hC.1
    have hn40 := hC.2.1.1
    have hk40 := hC.2.1.2
    have hn10 := hC.2.2.1.1
    have hr10 := hC.2.2.1.2
    have hR := hD.2.1 r hr
    obtain ⟨lo, elo, hlo⟩ := hR.2.2.2.1
    refine w_op (pc' := 32) dX10_sumOfPitches_30 rfl ?_
    refine w_op (pc' := 33) dX10_sumOfPitches_32 rfl ?_
    refine t_getG1 (G := g_r_pipes) dX10_sumOfPitches_33 rfl rfl (by decide) rfl (fun _ => rfl) hR.1 ?_
    refine t_alen dX10_sumOfPitches_36 (by decide) hR.2.1 ?_
    refine w_icmpge (t := 78) dX10_sumOfPitches_37 (by decide) (fun c37 => ?_) (fun c37 => ?_)
    · have hi : p.2.2.1 T_PARR r ≤ i := (nI_leI (a := p.2.2.1 T_PARR r) (by omega) (by omega)).mp c37
      rw [s_run_z hi] at hf; subst hf; exact hk _
    · have hi : i < p.2.2.1 T_PARR r := Nat.lt_of_not_le (fun z => c37 ((nI_leI (a := p.2.2.1 T_PARR r) (by omega) (by omega)).mpr z))
      refine w_op (pc' := 41) dX10_sumOfPitches_40 rfl ?_
      refine w_op (pc' := 42) dX10_sumOfPitches_41 rfl ?_
      refine t_getG1 (G := g_r_pipes) dX10_sumOfPitches_42 rfl rfl (by decide) rfl (fun _ => rfl) hR.1 ?_
      refine w_op (pc' := 47) dX10_sumOfPitches_45 rfl ?_
      refine t_aaldP dX10_sumOfPitches_47 hR.1 (s_ix.nI hi (by omega)) ?_
      refine t_getI (F := f_p_isSpeaking) dX10_sumOfPitches_48 rfl rfl (by decide) rfl ⟨rfl, fun _ => rfl⟩ (hR.2.2.1 i hi) ?_
      refine w_ifeq (t := 69) dX10_sumOfPitches_51 (by decide) (fun c51 => ?_) (fun c51 => ?_)
      · refine w_iconst (v := 0) dX10_sumOfPitches_69 rfl ?_
        refine w_op (pc' := 71) dX10_sumOfPitches_70 rfl ?_
        refine w_op (pc' := 72) (ll' := [_, _, _, _, _]) dX10_sumOfPitches_71 rfl ?_
        refine w_op (pc' := 75) (ll' := [_, _, _, _, _]) dX10_sumOfPitches_72 rfl ?_
        refine w_goto (t := 30) dX10_sumOfPitches_75 (by decide) ?_
        rw [show nI i + Int32.ofInt 1 = nI (i + 1) from nI_1 i]
        have ef : s_ptP p I nr r i a = a + 0 := congrArg (a + ·) (if_pos c51)
        rw [s_run_s hi, ef] at hf
        exact ih (i + 1) _ (by omega) hf (by omega)
      · refine w_op (pc' := 55) dX10_sumOfPitches_54 rfl ?_
        refine w_op (pc' := 56) dX10_sumOfPitches_55 rfl ?_
        refine w_op (pc' := 57) dX10_sumOfPitches_56 rfl ?_
        refine t_getI (F := f_r_lowest) dX10_sumOfPitches_57 rfl rfl (by decide) rfl ⟨rfl, fun _ => rfl⟩ hR.1 ?_
        refine w_op (pc' := 62) dX10_sumOfPitches_60 rfl ?_
        refine w_op (pc' := 63) dX10_sumOfPitches_62 rfl ?_
        refine t_callV (t := T_WORKS) (As := [_, _]) dX10_sumOfPitches_63 rfl rM_X10_pitchOf (by decide) rfl rfl (by decide) (by decide) (Nat.le_of_ble_eq_true rfl) rfl (hp.1 _ rfl) (c_X10_pitchOf hD ?_)
        show s_w _ _ _ 66 _ _ _ _
        refine w_goto (t := 70) dX10_sumOfPitches_66 (by decide) ?_
        refine w_op (pc' := 71) dX10_sumOfPitches_70 rfl ?_
        refine w_op (pc' := 72) (ll' := [_, _, _, _, _]) dX10_sumOfPitches_71 rfl ?_
        refine w_op (pc' := 75) (ll' := [_, _, _, _, _]) dX10_sumOfPitches_72 rfl ?_
        refine w_goto (t := 30) dX10_sumOfPitches_75 (by decide) ?_
        rw [show nI i + Int32.ofInt 1 = nI (i + 1) from nI_1 i]
        have ef : s_ptP p I nr r i a = a + _ := congrArg (a + ·) (if_neg c51)
        rw [s_run_s hi, ef] at hf
        exact ih (i + 1) _ (by omega) hf (by omega)
set_option maxRecDepth 100000 in
set_option maxHeartbeats 4000000 in
theorem l_X10_sumOfPitches {X : e_XT} {d : Nat} {p : e_Sp} {I : e_I} {J : e_Jt} {c : Nat × Nat} {w : e_Rw1} {Q : e_Rt → e_SS → Prop} {nk nr : Nat} (hD : s_D p I nk nr) {R : Int32} (k : Q (.inl (some (.int (R)))) (p, I, J, c, w)) : ∀ (n : Nat) (i : Nat) (a : Int32) (o3 o4 : Option Value), (h1 : i ≤ nr) → (hf : s_run (s_ptR p I nr) i (nr - i) a = R) → (hn : nr - i < n) → s_w X (d + 5) K_X10_sumOfPitches 4 [some (.ref (p.1 T_WORKS 0)), some (.int a), some (.int (nI i)), o3, o4] [] (p, I, J, c, w) (fun r S' => e_rcr (some FieldType.int) r = true ∧ Q r S') := by
  intro n
  induction n with
  | zero =>
    intro i a o3 o4 h1 hf hn
    exact absurd hn (Nat.not_lt_zero _)
  | succ n ih =>
    intro i a o3 o4 h1 hf hn
    have hC := hD.1
    have hp := hC.1
    have hn40 := hC.2.1.1
    have hk40 := hC.2.1.2
    have hn10 := hC.2.2.1.1
    have hr10 := hC.2.2.1.2
    refine w_op (pc' := 5) dX10_sumOfPitches_4 rfl ?_
    refine w_op (pc' := 6) dX10_sumOfPitches_5 rfl ?_
    refine t_getG0 (G := g_w_ranks) dX10_sumOfPitches_6 rfl rfl (by decide) rfl (fun _ => rfl) (hp.1 _ rfl) ?_
    refine t_callV (t := T_LIST) (As := []) dX10_sumOfPitches_9 rfl rM_Jx4a65c_size_8abf5 (by decide) rfl rfl (by decide) (by decide) (Nat.le_of_ble_eq_true rfl) rfl (hp.2 _ (by decide)) (c_size (hp.2 _ (by decide)) ?_)
    show s_w _ _ _ 12 _ _ _ _
    rw [hr10]
    refine w_icmpge (t := 84) dX10_sumOfPitches_12 (by decide) (fun c12 => ?_) (fun c12 => ?_)
    · have hi : nr ≤ i := (nI_leI (a := nr) (by omega) (by omega)).mp c12
      refine w_op (pc' := 85) dX10_sumOfPitches_84 rfl ?_
      exact w_ireturn dX10_sumOfPitches_85 ⟨rfl, by rw [s_run_z hi] at hf; subst hf; exact k⟩
    · have hi : i < nr := Nat.lt_of_not_le (fun z => c12 ((nI_leI (a := nr) (by omega) (by omega)).mpr z))
      refine w_op (pc' := 16) dX10_sumOfPitches_15 rfl ?_
      refine t_getG0 (G := g_w_ranks) dX10_sumOfPitches_16 rfl rfl (by decide) rfl (fun _ => rfl) (hp.1 _ rfl) ?_
      refine w_op (pc' := 20) dX10_sumOfPitches_19 rfl ?_
      refine t_callV (t := T_LIST) (As := [_]) dX10_sumOfPitches_20 rfl rM_Jx4a65c_get_915e3 (by decide) rfl rfl (by decide) (by decide) (Nat.le_of_ble_eq_true rfl) rfl (hp.2 _ (by decide)) (c_get0 hp hr10 (by omega) hi ?_)
      show s_w _ _ _ 23 _ _ _ _
      refine t_chk dX10_sumOfPitches_23 rfl rfl (by decide) (hD.rk hi) ?_
      refine w_op (pc' := 27) (ll' := [_, _, _, _, _]) dX10_sumOfPitches_26 rfl ?_
      refine w_iconst (v := 0) dX10_sumOfPitches_27 rfl ?_
      refine w_op (pc' := 30) (ll' := [_, _, _, _, _]) dX10_sumOfPitches_28 rfl ?_
      refine l2_X10_sumOfPitches hD hi (fun o4 => ?_) (p.2.2.1 T_PARR i + 1) 0 _ (Nat.zero_le _) rfl (by omega)
      refine w_op (pc' := 81) (ll' := [_, _, _, _, _]) dX10_sumOfPitches_78 rfl ?_
      refine w_goto (t := 4) dX10_sumOfPitches_81 (by decide) ?_
      rw [show nI i + Int32.ofInt 1 = nI (i + 1) from nI_1 i]
      exact ih (i + 1) _ _ _ (by omega) ((s_run_s hi).symm.trans hf) (by omega)
set_option maxRecDepth 100000 in
set_option maxHeartbeats 4000000 in
theorem c_X10_sumOfPitches {X : e_XT} {d : Nat} {p : e_Sp} {I : e_I} {J : e_Jt} {c : Nat × Nat} {w : e_Rw1} {Q : e_Rt → e_SS → Prop} {nk nr : Nat} (hD : s_D p I nk nr) (k : Q (.inl (some (.int (s_pts p I nr)))) (p, I, J, c, w)) : s_c X (d + 5) 131 [.ref (p.1 T_WORKS 0)] (p, I, J, c, w) Q := by
  refine m_X10_sumOfPitches (Nat.le_of_ble_eq_true rfl) ?_
  show s_w _ _ _ 0 _ _ _ _
  refine w_iconst (v := 0) dX10_sumOfPitches_0 rfl ?_
  refine w_op (pc' := 2) (ll' := [_, _, _, _, _]) dX10_sumOfPitches_1 rfl ?_
  refine w_iconst (v := 0) dX10_sumOfPitches_2 rfl ?_
  refine w_op (pc' := 4) (ll' := [_, _, _, _, _]) dX10_sumOfPitches_3 rfl ?_
  exact l_X10_sumOfPitches hD k (nr + 1) 0 _ _ _ (Nat.zero_le _) rfl (by have := hD.1.2.2.1.1; omega)
set_option maxRecDepth 100000 in
set_option maxHeartbeats 4000000 in
theorem l2_X10_allLoudness {X : e_XT} {d : Nat} {p : e_Sp} {I : e_I} {J : e_Jt} {c : Nat × Nat} {w : e_Rw1} {Q : e_Rt → e_SS → Prop} {nk nr : Nat} (hD : s_D p I nk nr) {r : Nat} {R ld : Int32} (hr : r < nr) (hk : ∀ o7 o8, s_w X (d + 3) K_X10_allLoudness 97 [some (.ref (p.1 T_WORKS 0)), some (.int R), some (.int (nI r)), some (.ref (p.1 T_RANK r)), some (.int ld), some (.ref (p.1 T_PARR r)), some (.int (nI (p.2.2.1 T_PARR r))), o7, o8] [] (p, I, J, c, w) (fun r S' => e_rcr (some .int) r = true ∧ Q r S')) : ∀ (n : Nat) (i : Nat) (a : Int32) (o8 : Option Value), (h1 : i ≤ p.2.2.1 T_PARR r) → (hf : s_run (s_alP p I ld r) i (p.2.2.1 T_PARR r - i) a = R) → (hn : p.2.2.1 T_PARR r - i < n) → s_w X (d + 3) K_X10_allLoudness 60 [some (.ref (p.1 T_WORKS 0)), some (.int a), some (.int (nI r)), some (.ref (p.1 T_RANK r)), some (.int ld), some (.ref (p.1 T_PARR r)), some (.int (nI (p.2.2.1 T_PARR r))), some (.int (nI i)), o8] [] (p, I, J, c, w) (fun r S' => e_rcr (some FieldType.int) r = true ∧ Q r S') := by
  intro n
  induction n with
  | zero =>
    intro i a o8 h1 hf hn
    exact absurd hn (Nat.not_lt_zero _)
  | succ n ih =>
    intro i a o8 h1 hf hn
    have hC := hD.1
    have hp := hC.1
    have hn40 := hC.2.1.1
    have hk40 := hC.2.1.2
    have hn10 := hC.2.2.1.1
    have hr10 := hC.2.2.1.2
    have hR := hD.2.1 r hr
    obtain ⟨lo, elo, hlo⟩ := hR.2.2.2.1
    refine w_op (pc' := 62) dX10_allLoudness_60 rfl ?_
    refine w_op (pc' := 64) dX10_allLoudness_62 rfl ?_
    refine w_icmpge (t := 97) dX10_allLoudness_64 (by decide) (fun c64 => ?_) (fun c64 => ?_)
    · have hi : p.2.2.1 T_PARR r ≤ i := (nI_leI (a := p.2.2.1 T_PARR r) (by omega) (by omega)).mp c64
      rw [s_run_z hi] at hf; subst hf; exact hk _ _
    · have hi : i < p.2.2.1 T_PARR r := Nat.lt_of_not_le (fun z => c64 ((nI_leI (a := p.2.2.1 T_PARR r) (by omega) (by omega)).mpr z))
      refine w_op (pc' := 69) dX10_allLoudness_67 rfl ?_
      refine w_op (pc' := 71) dX10_allLoudness_69 rfl ?_
      refine t_aaldP dX10_allLoudness_71 hR.1 (s_ix.nI hi (by omega)) ?_
      refine w_op (pc' := 74) (ll' := [_, _, _, _, _, _, _, _, _]) dX10_allLoudness_72 rfl ?_
      refine w_op (pc' := 75) dX10_allLoudness_74 rfl ?_
      refine w_op (pc' := 77) dX10_allLoudness_75 rfl ?_
      refine t_getI (F := f_p_isSpeaking) dX10_allLoudness_77 rfl rfl (by decide) rfl ⟨rfl, fun _ => rfl⟩ (hR.2.2.1 i hi) ?_
      refine w_ifeq (t := 88) dX10_allLoudness_80 (by decide) (fun c80 => ?_) (fun c80 => ?_)
      · refine w_iconst (v := 0) dX10_allLoudness_88 rfl ?_
        refine w_op (pc' := 90) dX10_allLoudness_89 rfl ?_
        refine w_op (pc' := 91) (ll' := [_, _, _, _, _, _, _, _, _]) dX10_allLoudness_90 rfl ?_
        refine w_op (pc' := 94) (ll' := [_, _, _, _, _, _, _, _, _]) dX10_allLoudness_91 rfl ?_
        refine w_goto (t := 60) dX10_allLoudness_94 (by decide) ?_
        rw [show nI i + Int32.ofInt 1 = nI (i + 1) from nI_1 i]
        have ef : s_alP p I ld r i a = a + 0 := congrArg (a + ·) (if_pos c80)
        rw [s_run_s hi, ef] at hf
        exact ih (i + 1) _ _ (by omega) hf (by omega)
      · refine w_op (pc' := 85) dX10_allLoudness_83 rfl ?_
        refine w_goto (t := 89) dX10_allLoudness_85 (by decide) ?_
        refine w_op (pc' := 90) dX10_allLoudness_89 rfl ?_
        refine w_op (pc' := 91) (ll' := [_, _, _, _, _, _, _, _, _]) dX10_allLoudness_90 rfl ?_
        refine w_op (pc' := 94) (ll' := [_, _, _, _, _, _, _, _, _]) dX10_allLoudness_91 rfl ?_
        refine w_goto (t := 60) dX10_allLoudness_94 (by decide) ?_
        rw [show nI i + Int32.ofInt 1 = nI (i + 1) from nI_1 i]
        have ef : s_alP p I ld r i a = a + _ := congrArg (a + ·) (if_neg c80)
        rw [s_run_s hi, ef] at hf
        exact ih (i + 1) _ _ (by omega) hf (by omega)
set_option maxRecDepth 100000 in
set_option maxHeartbeats 4000000 in
theorem l_X10_allLoudness {X : e_XT} {d : Nat} {p : e_Sp} {I : e_I} {J : e_Jt} {c : Nat × Nat} {w : e_Rw1} {Q : e_Rt → e_SS → Prop} {nk nr : Nat} (hD : s_D p I nk nr) {R : Int32} (k : Q (.inl (some (.int (R)))) (p, I, J, c, w)) : ∀ (n : Nat) (i : Nat) (a : Int32) (o3 o4 o5 o6 o7 o8 : Option Value), (h1 : i ≤ nr) → (hf : s_run (s_alR p I) i (nr - i) a = R) → (hn : nr - i < n) → s_w X (d + 3) K_X10_allLoudness 4 [some (.ref (p.1 T_WORKS 0)), some (.int a), some (.int (nI i)), o3, o4, o5, o6, o7, o8] [] (p, I, J, c, w) (fun r S' => e_rcr (some FieldType.int) r = true ∧ Q r S') := by
  intro n
  induction n with
  | zero =>
    intro i a o3 o4 o5 o6 o7 o8 h1 hf hn
    exact absurd hn (Nat.not_lt_zero _)
  | succ n ih =>
    intro i a o3 o4 o5 o6 o7 o8 h1 hf hn
    have hC := hD.1
    have hp := hC.1
    have hn40 := hC.2.1.1
    have hk40 := hC.2.1.2
    have hn10 := hC.2.2.1.1
    have hr10 := hC.2.2.1.2
    refine w_op (pc' := 5) dX10_allLoudness_4 rfl ?_
    refine w_op (pc' := 6) dX10_allLoudness_5 rfl ?_
    refine t_getG0 (G := g_w_ranks) dX10_allLoudness_6 rfl rfl (by decide) rfl (fun _ => rfl) (hp.1 _ rfl) ?_
    refine t_callV (t := T_LIST) (As := []) dX10_allLoudness_9 rfl rM_Jx4a65c_size_8abf5 (by decide) rfl rfl (by decide) (by decide) (Nat.le_of_ble_eq_true rfl) rfl (hp.2 _ (by decide)) (c_size (hp.2 _ (by decide)) ?_)
    show s_w _ _ _ 12 _ _ _ _
    rw [hr10]
    refine w_icmpge (t := 103) dX10_allLoudness_12 (by decide) (fun c12 => ?_) (fun c12 => ?_)
    · have hi : nr ≤ i := (nI_leI (a := nr) (by omega) (by omega)).mp c12
      refine w_op (pc' := 104) dX10_allLoudness_103 rfl ?_
      exact w_ireturn dX10_allLoudness_104 ⟨rfl, by rw [s_run_z hi] at hf; subst hf; exact k⟩
    · have hi : i < nr := Nat.lt_of_not_le (fun z => c12 ((nI_leI (a := nr) (by omega) (by omega)).mpr z))
      refine w_op (pc' := 16) dX10_allLoudness_15 rfl ?_
      refine t_getG0 (G := g_w_ranks) dX10_allLoudness_16 rfl rfl (by decide) rfl (fun _ => rfl) (hp.1 _ rfl) ?_
      refine w_op (pc' := 20) dX10_allLoudness_19 rfl ?_
      refine t_callV (t := T_LIST) (As := [_]) dX10_allLoudness_20 rfl rM_Jx4a65c_get_915e3 (by decide) rfl rfl (by decide) (by decide) (Nat.le_of_ble_eq_true rfl) rfl (hp.2 _ (by decide)) (c_get0 hp hr10 (by omega) hi ?_)
      show s_w _ _ _ 23 _ _ _ _
      refine t_chk dX10_allLoudness_23 rfl rfl (by decide) (hD.rk hi) ?_
      refine w_op (pc' := 27) (ll' := [_, _, _, _, _, _, _, _, _]) dX10_allLoudness_26 rfl ?_
      refine w_op (pc' := 28) dX10_allLoudness_27 rfl ?_
      refine t_getI (F := f_r_power) dX10_allLoudness_28 rfl rfl (by decide) rfl ⟨rfl, fun _ => rfl⟩ (hD.rk hi) ?_
      refine w_op (pc' := 32) dX10_allLoudness_31 rfl ?_
      refine t_getG0 (G := g_w_openings) dX10_allLoudness_32 rfl rfl (by decide) rfl (fun _ => rfl) (hp.1 _ rfl) ?_
      refine w_op (pc' := 36) dX10_allLoudness_35 rfl ?_
      refine t_getI (F := f_r_division) dX10_allLoudness_36 rfl rfl (by decide) rfl ⟨rfl, fun _ => rfl⟩ (hD.rk hi) ?_
      refine t_iald0 (F := f_a_openings) dX10_allLoudness_39 rfl (by decide) rfl (hp.1 _ rfl) (hD.2.1 i hi).dv (hD.2.1 i hi).dv.2.2 ?_
      refine w_op (pc' := 41) dX10_allLoudness_40 rfl ?_
      refine w_bipush (v := 10) dX10_allLoudness_41 rfl ?_
      refine w_op (pc' := 44) dX10_allLoudness_43 (by rfl) ?_
      refine w_op (pc' := 46) (ll' := [_, _, _, _, _, _, _, _, _]) dX10_allLoudness_44 rfl ?_
      refine w_op (pc' := 47) dX10_allLoudness_46 rfl ?_
      refine t_getG1 (G := g_r_pipes) dX10_allLoudness_47 rfl rfl (by decide) rfl (fun _ => rfl) (hD.rk hi) ?_
      refine w_op (pc' := 52) (ll' := [_, _, _, _, _, _, _, _, _]) dX10_allLoudness_50 rfl ?_
      refine w_op (pc' := 54) dX10_allLoudness_52 rfl ?_
      refine t_alen dX10_allLoudness_54 (by decide) (hD.2.1 i hi).2.1 ?_
      refine w_op (pc' := 57) (ll' := [_, _, _, _, _, _, _, _, _]) dX10_allLoudness_55 rfl ?_
      refine w_iconst (v := 0) dX10_allLoudness_57 rfl ?_
      refine w_op (pc' := 60) (ll' := [_, _, _, _, _, _, _, _, _]) dX10_allLoudness_58 rfl ?_
      refine l2_X10_allLoudness hD hi (fun o7 o8 => ?_) (p.2.2.1 T_PARR i + 1) 0 _ _ (Nat.zero_le _) rfl (by omega)
      refine w_op (pc' := 100) (ll' := [_, _, _, _, _, _, _, _, _]) dX10_allLoudness_97 rfl ?_
      refine w_goto (t := 4) dX10_allLoudness_100 (by decide) ?_
      rw [show nI i + Int32.ofInt 1 = nI (i + 1) from nI_1 i]
      exact ih (i + 1) _ _ _ _ _ _ _ (by omega) ((s_run_s hi).symm.trans hf) (by omega)
set_option maxRecDepth 100000 in
set_option maxHeartbeats 4000000 in
theorem c_X10_allLoudness {X : e_XT} {d : Nat} {p : e_Sp} {I : e_I} {J : e_Jt} {c : Nat × Nat} {w : e_Rw1} {Q : e_Rt → e_SS → Prop} {nk nr : Nat} (hD : s_D p I nk nr) (k : Q (.inl (some (.int (s_als p I nr)))) (p, I, J, c, w)) : s_c X (d + 3) 119 [.ref (p.1 T_WORKS 0)] (p, I, J, c, w) Q := by
  refine m_X10_allLoudness (Nat.le_of_ble_eq_true rfl) ?_
  show s_w _ _ _ 0 _ _ _ _
  refine w_iconst (v := 0) dX10_allLoudness_0 rfl ?_
  refine w_op (pc' := 2) (ll' := [_, _, _, _, _, _, _, _, _]) dX10_allLoudness_1 rfl ?_
  refine w_iconst (v := 0) dX10_allLoudness_2 rfl ?_
  refine w_op (pc' := 4) (ll' := [_, _, _, _, _, _, _, _, _]) dX10_allLoudness_3 rfl ?_
  exact l_X10_allLoudness hD k (nr + 1) 0 _ _ _ _ _ _ _ (Nat.zero_le _) rfl (by have := hD.1.2.2.1.1; omega)
set_option maxRecDepth 100000 in
set_option maxHeartbeats 4000000 in
theorem l_X10_allPipes {X : e_XT} {d : Nat} {p : e_Sp} {I : e_I} {J : e_Jt} {c : Nat × Nat} {w : e_Rw1} {Q : e_Rt → e_SS → Prop} {nk nr : Nat} (hD : s_D p I nk nr) {R : Int32} (k : Q (.inl (some (.int (R)))) (p, I, J, c, w)) : ∀ (n : Nat) (i : Nat) (a : Int32), (h1 : i ≤ nr) → (hf : s_run (fun r a => a + nI (p.2.2.1 T_PARR r)) i (nr - i) a = R) → (hn : nr - i < n) → s_w X (d + 3) K_X10_allPipes 4 [some (.ref (p.1 T_WORKS 0)), some (.int a), some (.int (nI i))] [] (p, I, J, c, w) (fun r S' => e_rcr (some FieldType.int) r = true ∧ Q r S') := by
  intro n
  induction n with
  | zero =>
    intro i a h1 hf hn
    exact absurd hn (Nat.not_lt_zero _)
  | succ n ih =>
    intro i a h1 hf hn
    have hC := hD.1
    have hp := hC.1
    have hn40 := hC.2.1.1
    have hk40 := hC.2.1.2
    have hn10 := hC.2.2.1.1
    have hr10 := hC.2.2.1.2
    refine w_op (pc' := 5) dX10_allPipes_4 rfl ?_
    refine w_op (pc' := 6) dX10_allPipes_5 rfl ?_
    refine t_getG0 (G := g_w_ranks) dX10_allPipes_6 rfl rfl (by decide) rfl (fun _ => rfl) (hp.1 _ rfl) ?_
    refine t_callV (t := T_LIST) (As := []) dX10_allPipes_9 rfl rM_Jx4a65c_size_8abf5 (by decide) rfl rfl (by decide) (by decide) (Nat.le_of_ble_eq_true rfl) rfl (hp.2 _ (by decide)) (c_size (hp.2 _ (by decide)) ?_)
    show s_w _ _ _ 12 _ _ _ _
    rw [hr10]
    refine w_icmpge (t := 39) dX10_allPipes_12 (by decide) (fun c12 => ?_) (fun c12 => ?_)
    · have hi : nr ≤ i := (nI_leI (a := nr) (by omega) (by omega)).mp c12
      refine w_op (pc' := 40) dX10_allPipes_39 rfl ?_
      exact w_ireturn dX10_allPipes_40 ⟨rfl, by rw [s_run_z hi] at hf; subst hf; exact k⟩
    · have hi : i < nr := Nat.lt_of_not_le (fun z => c12 ((nI_leI (a := nr) (by omega) (by omega)).mpr z))
      refine w_op (pc' := 16) dX10_allPipes_15 rfl ?_
      refine w_op (pc' := 17) dX10_allPipes_16 rfl ?_
      refine t_getG0 (G := g_w_ranks) dX10_allPipes_17 rfl rfl (by decide) rfl (fun _ => rfl) (hp.1 _ rfl) ?_
      refine w_op (pc' := 21) dX10_allPipes_20 rfl ?_
      refine t_callV (t := T_LIST) (As := [_]) dX10_allPipes_21 rfl rM_Jx4a65c_get_915e3 (by decide) rfl rfl (by decide) (by decide) (Nat.le_of_ble_eq_true rfl) rfl (hp.2 _ (by decide)) (c_get0 hp hr10 (by omega) hi ?_)
      show s_w _ _ _ 24 _ _ _ _
      refine t_chk dX10_allPipes_24 rfl rfl (by decide) (hD.rk hi) ?_
      refine t_getG1 (G := g_r_pipes) dX10_allPipes_27 rfl rfl (by decide) rfl (fun _ => rfl) (hD.rk hi) ?_
      refine t_alen dX10_allPipes_30 (by decide) (hD.2.1 i hi).2.1 ?_
      refine w_op (pc' := 32) dX10_allPipes_31 rfl ?_
      refine w_op (pc' := 33) (ll' := [_, _, _]) dX10_allPipes_32 rfl ?_
      refine w_op (pc' := 36) (ll' := [_, _, _]) dX10_allPipes_33 rfl ?_
      refine w_goto (t := 4) dX10_allPipes_36 (by decide) ?_
      rw [show nI i + Int32.ofInt 1 = nI (i + 1) from nI_1 i]
      exact ih (i + 1) _ (by omega) ((s_run_s hi).symm.trans hf) (by omega)
set_option maxRecDepth 100000 in
set_option maxHeartbeats 4000000 in
theorem c_X10_allPipes {X : e_XT} {d : Nat} {p : e_Sp} {I : e_I} {J : e_Jt} {c : Nat × Nat} {w : e_Rw1} {Q : e_Rt → e_SS → Prop} {nk nr : Nat} (hD : s_D p I nk nr) (k : Q (.inl (some (.int (s_aps p nr)))) (p, I, J, c, w)) : s_c X (d + 3) 130 [.ref (p.1 T_WORKS 0)] (p, I, J, c, w) Q := by
  refine m_X10_allPipes (Nat.le_of_ble_eq_true rfl) ?_
  show s_w _ _ _ 0 _ _ _ _
  refine w_iconst (v := 0) dX10_allPipes_0 rfl ?_
  refine w_op (pc' := 2) (ll' := [_, _, _]) dX10_allPipes_1 rfl ?_
  refine w_iconst (v := 0) dX10_allPipes_2 rfl ?_
  refine w_op (pc' := 4) (ll' := [_, _, _]) dX10_allPipes_3 rfl ?_
  exact l_X10_allPipes hD k (nr + 1) 0 _ (Nat.zero_le _) rfl (by have := hD.1.2.2.1.1; omega)
set_option maxRecDepth 100000 in
set_option maxHeartbeats 4000000 in
theorem l2n_X10_reasonsAlone {X : e_XT} {d : Nat} {p : e_Sp} {I : e_I} {J : e_Jt} {c : Nat × Nat} {w : e_Rw1} {Q : e_Rt → e_SS → Prop} {nk nr : Nat} (hD : s_D p I nk nr) {kk : Nat} {x y R : Int32} (hkk : kk < nk) (h115 : I f_k_kind kk = 115) (hv : p.2.1 T_STOP kk = true) (hk : ∀ o8 o9, s_w X (d + 4) K_X10_reasonsAlone 168 [some (.ref (p.1 T_WORKS 0)), some (.int x), some (.int y), some .null, some (.int R), some (.int (nI kk)), some (.ref (p.1 T_KNOB kk)), some (.ref (p.1 T_STOP kk)), o8, o9] [] (p, I, J, c, w) (fun r S' => e_rcr (some .int) r = true ∧ Q r S')) : ∀ (n : Nat) (i : Nat) (a : Int32) (o9 : Option Value), (h1 : i ≤ (I f_s_rows kk).toNatClampNeg) → (hf : s_run (s_raR I nk kk x y) i ((I f_s_rows kk).toNatClampNeg - i) a = R) → (hn : (I f_s_rows kk).toNatClampNeg - i < n) → s_w X (d + 4) K_X10_reasonsAlone 70 [some (.ref (p.1 T_WORKS 0)), some (.int x), some (.int y), some .null, some (.int a), some (.int (nI kk)), some (.ref (p.1 T_KNOB kk)), some (.ref (p.1 T_STOP kk)), some (.int (nI i)), o9] [] (p, I, J, c, w) (fun r S' => e_rcr (some FieldType.int) r = true ∧ Q r S') := by
  intro n
  induction n with
  | zero =>
    intro i a o9 h1 hf hn
    exact absurd hn (Nat.not_lt_zero _)
  | succ n ih =>
    intro i a o9 h1 hf hn
    have hC := hD.1
    have hp := hC.1
    have hn40 := hC.2.1.1
    have hk40 := hC.2.1.2
    have hn10 := hC.2.2.1.1
    have hr10 := hC.2.2.1.2
    have hS := hD.2.2.2 kk hkk h115
    obtain ⟨m4, hm4, hrows⟩ := hS.2
    have hmr : (I f_s_rows kk).toNatClampNeg = m4 := by rw [hrows, nI_clamp (by omega)]
    refine w_op (pc' := 72) dX10_reasonsAlone_70 rfl ?_
    refine w_ifnull_f dX10_reasonsAlone_72 ?_
    refine w_op (pc' := 77) dX10_reasonsAlone_75 rfl ?_
    refine w_op (pc' := 79) dX10_reasonsAlone_77 rfl ?_
    refine t_getI (F := f_s_rows) dX10_reasonsAlone_79 rfl rfl (by decide) rfl ⟨rfl, fun _ => rfl⟩ hv ?_
    refine w_icmpge (t := 168) dX10_reasonsAlone_82 (by decide) (fun c82 => ?_) (fun c82 => ?_)
    · rw [hrows] at c82
      have hi : m4 ≤ i := (nI_leI (a := m4) (by omega) (by omega)).mp c82
      rw [s_run_z (by omega)] at hf; subst hf; exact hk _ _
    · rw [hrows] at c82
      have hi : i < (I f_s_rows kk).toNatClampNeg := Nat.lt_of_not_le (fun z => c82 ((nI_leI (a := m4) (by omega) (by omega)).mpr (by omega)))
      refine w_op (pc' := 87) dX10_reasonsAlone_85 rfl ?_
      refine w_op (pc' := 89) dX10_reasonsAlone_87 rfl ?_
      refine t_callV (t := T_STOP) (As := [_]) dX10_reasonsAlone_89 rfl rM_X8_rankOf (by decide) rfl rfl (by decide) (by decide) (Nat.le_of_ble_eq_true rfl) rfl hv (c_X8_rankOf hv hS.1 ?_)
      show s_w _ _ _ 92 _ _ _ _
      refine w_op (pc' := 93) dX10_reasonsAlone_92 rfl ?_
      refine w_icmpne (t := 107) dX10_reasonsAlone_93 (by decide) (fun c93 => ?_) (fun c93 => ?_)
      · refine w_iconst (v := (-1)) dX10_reasonsAlone_107 rfl ?_
        refine w_op (pc' := 110) (ll' := [_, _, _, _, _, _, _, _, _, _]) dX10_reasonsAlone_108 rfl ?_
        refine w_op (pc' := 112) dX10_reasonsAlone_110 rfl ?_
        refine t_getI (F := f_k_division) dX10_reasonsAlone_112 rfl rfl (by decide) rfl ⟨rfl, fun _ => rfl⟩ (hC.kn hkk) ?_
        refine w_op (pc' := 117) dX10_reasonsAlone_115 rfl ?_
        refine t_callS (As := [_, _]) dX10_reasonsAlone_117 rfl rM_X3_indexOf (by decide) rfl rfl (by decide) (Nat.le_of_ble_eq_true rfl) (c_X3_indexOf ?_)
        show s_w _ _ _ 120 _ _ _ _
        refine w_iflt (t := 162) dX10_reasonsAlone_120 (by decide) (fun c120 => ?_) (fun c120 => ?_)
        · refine w_op (pc' := 165) (ll' := [_, _, _, _, _, _, _, _, _, _]) dX10_reasonsAlone_162 rfl ?_
          refine w_goto (t := 70) dX10_reasonsAlone_165 (by decide) ?_
          rw [show nI i + Int32.ofInt 1 = nI (i + 1) from nI_1 i]
          have ek : (if s_rk I kk (nI i) = x then s_ky I kk (nI i) y else -1) = -1 := if_neg c93
          have ef : s_raR I nk kk x y i a = a := by unfold s_raR; rw [ek]; exact if_neg (fun z => s_idx_neg.mp c120 z.1)
          rw [s_run_s hi, ef] at hf
          exact ih (i + 1) _ _ (by omega) hf (by omega)
        · refine w_op (pc' := 124) dX10_reasonsAlone_123 rfl ?_
          refine t_getG0 (G := g_w_CONS) dX10_reasonsAlone_124 rfl rfl (by decide) rfl (fun _ => rfl) (hp.1 _ rfl) ?_
          refine w_op (pc' := 129) dX10_reasonsAlone_127 rfl ?_
          refine t_callV (t := T_CONS) (As := [_]) dX10_reasonsAlone_129 rfl rM_X0_isSounding (by decide) rfl rfl (by decide) (by decide) (Nat.le_of_ble_eq_true rfl) rfl (hp.1 _ rfl) (c_X0_isSounding hp (hC.kn hkk) (hC.st hkk) ?_)
          show s_w _ _ _ 132 _ _ _ _
          refine w_ifeq (t := 162) dX10_reasonsAlone_132 (by decide) (fun c132 => ?_) (fun c132 => ?_)
          · refine w_op (pc' := 165) (ll' := [_, _, _, _, _, _, _, _, _, _]) dX10_reasonsAlone_162 rfl ?_
            refine w_goto (t := 70) dX10_reasonsAlone_165 (by decide) ?_
            rw [show nI i + Int32.ofInt 1 = nI (i + 1) from nI_1 i]
            have ek : (if s_rk I kk (nI i) = x then s_ky I kk (nI i) y else -1) = -1 := if_neg c93
            have ef : s_raR I nk kk x y i a = a := by unfold s_raR; exact if_neg (fun z => by have z2 := z.2; rw [bI_0.mp c132] at z2; cases z2)
            rw [s_run_s hi, ef] at hf
            exact ih (i + 1) _ _ (by omega) hf (by omega)
          · refine w_op (pc' := 137) dX10_reasonsAlone_135 rfl ?_
            refine w_op (pc' := 138) dX10_reasonsAlone_137 rfl ?_
            refine t_getG0 (G := g_w_CONS) dX10_reasonsAlone_138 rfl rfl (by decide) rfl (fun _ => rfl) (hp.1 _ rfl) ?_
            refine w_op (pc' := 143) dX10_reasonsAlone_141 rfl ?_
            refine t_getI (F := f_k_division) dX10_reasonsAlone_143 rfl rfl (by decide) rfl ⟨rfl, fun _ => rfl⟩ (hC.kn hkk) ?_
            refine w_op (pc' := 148) dX10_reasonsAlone_146 rfl ?_
            refine w_op (pc' := 149) dX10_reasonsAlone_148 rfl ?_
            refine t_getG0 (G := g_w_KEYS) dX10_reasonsAlone_149 rfl rfl (by decide) rfl (fun _ => rfl) (hp.1 _ rfl) ?_
            refine w_op (pc' := 153) dX10_reasonsAlone_152 rfl ?_
            refine t_getI (F := f_now) dX10_reasonsAlone_153 rfl rfl (by decide) rfl ⟨rfl, fun _ => rfl⟩ (hp.1 _ rfl) ?_
            refine t_callV (t := T_CONS) (As := [_, _, _, _]) dX10_reasonsAlone_156 rfl rM_X0_waysOf (by decide) rfl rfl (by decide) (by decide) (Nat.le_of_ble_eq_true rfl) rfl (hp.1 _ rfl) (c_X0_waysOf hC ?_)
            show s_w _ _ _ 159 _ _ _ _
            refine w_op (pc' := 160) dX10_reasonsAlone_159 rfl ?_
            refine w_op (pc' := 162) (ll' := [_, _, _, _, _, _, _, _, _, _]) dX10_reasonsAlone_160 rfl ?_
            refine w_op (pc' := 165) (ll' := [_, _, _, _, _, _, _, _, _, _]) dX10_reasonsAlone_162 rfl ?_
            refine w_goto (t := 70) dX10_reasonsAlone_165 (by decide) ?_
            rw [show nI i + Int32.ofInt 1 = nI (i + 1) from nI_1 i]
            have ek : (if s_rk I kk (nI i) = x then s_ky I kk (nI i) y else -1) = -1 := if_neg c93
            have ef : s_raR I nk kk x y i a = a + nI (s_wo I nk (I f_k_division kk) (-1) (I f_now 0)) := by unfold s_raR; rw [ek]; exact if_pos ⟨s_isk_nn c120, bI_n0.mp c132⟩
            rw [s_run_s hi, ef] at hf
            exact ih (i + 1) _ _ (by omega) hf (by omega)
      · refine w_op (pc' := 98) dX10_reasonsAlone_96 rfl ?_
        refine w_op (pc' := 100) dX10_reasonsAlone_98 rfl ?_
        refine w_op (pc' := 101) dX10_reasonsAlone_100 rfl ?_
        refine t_callV (t := T_STOP) (As := [_, _]) dX10_reasonsAlone_101 rfl rM_X8_keyOf (by decide) rfl rfl (by decide) (by decide) (Nat.le_of_ble_eq_true rfl) rfl hv (c_X8_keyOf hv hS.1 ?_)
        show s_w _ _ _ 104 _ _ _ _
        refine w_goto (t := 108) dX10_reasonsAlone_104 (by decide) ?_
        refine w_op (pc' := 110) (ll' := [_, _, _, _, _, _, _, _, _, _]) dX10_reasonsAlone_108 rfl ?_
        refine w_op (pc' := 112) dX10_reasonsAlone_110 rfl ?_
        refine t_getI (F := f_k_division) dX10_reasonsAlone_112 rfl rfl (by decide) rfl ⟨rfl, fun _ => rfl⟩ (hC.kn hkk) ?_
        refine w_op (pc' := 117) dX10_reasonsAlone_115 rfl ?_
        refine t_callS (As := [_, _]) dX10_reasonsAlone_117 rfl rM_X3_indexOf (by decide) rfl rfl (by decide) (Nat.le_of_ble_eq_true rfl) (c_X3_indexOf ?_)
        show s_w _ _ _ 120 _ _ _ _
        refine w_iflt (t := 162) dX10_reasonsAlone_120 (by decide) (fun c120 => ?_) (fun c120 => ?_)
        · refine w_op (pc' := 165) (ll' := [_, _, _, _, _, _, _, _, _, _]) dX10_reasonsAlone_162 rfl ?_
          refine w_goto (t := 70) dX10_reasonsAlone_165 (by decide) ?_
          rw [show nI i + Int32.ofInt 1 = nI (i + 1) from nI_1 i]
          have ek : (if s_rk I kk (nI i) = x then s_ky I kk (nI i) y else -1) = s_ky I kk (nI i) y := if_pos c93
          have ef : s_raR I nk kk x y i a = a := by unfold s_raR; rw [ek]; exact if_neg (fun z => s_idx_neg.mp c120 z.1)
          rw [s_run_s hi, ef] at hf
          exact ih (i + 1) _ _ (by omega) hf (by omega)
        · refine w_op (pc' := 124) dX10_reasonsAlone_123 rfl ?_
          refine t_getG0 (G := g_w_CONS) dX10_reasonsAlone_124 rfl rfl (by decide) rfl (fun _ => rfl) (hp.1 _ rfl) ?_
          refine w_op (pc' := 129) dX10_reasonsAlone_127 rfl ?_
          refine t_callV (t := T_CONS) (As := [_]) dX10_reasonsAlone_129 rfl rM_X0_isSounding (by decide) rfl rfl (by decide) (by decide) (Nat.le_of_ble_eq_true rfl) rfl (hp.1 _ rfl) (c_X0_isSounding hp (hC.kn hkk) (hC.st hkk) ?_)
          show s_w _ _ _ 132 _ _ _ _
          refine w_ifeq (t := 162) dX10_reasonsAlone_132 (by decide) (fun c132 => ?_) (fun c132 => ?_)
          · refine w_op (pc' := 165) (ll' := [_, _, _, _, _, _, _, _, _, _]) dX10_reasonsAlone_162 rfl ?_
            refine w_goto (t := 70) dX10_reasonsAlone_165 (by decide) ?_
            rw [show nI i + Int32.ofInt 1 = nI (i + 1) from nI_1 i]
            have ek : (if s_rk I kk (nI i) = x then s_ky I kk (nI i) y else -1) = s_ky I kk (nI i) y := if_pos c93
            have ef : s_raR I nk kk x y i a = a := by unfold s_raR; exact if_neg (fun z => by have z2 := z.2; rw [bI_0.mp c132] at z2; cases z2)
            rw [s_run_s hi, ef] at hf
            exact ih (i + 1) _ _ (by omega) hf (by omega)
          · refine w_op (pc' := 137) dX10_reasonsAlone_135 rfl ?_
            refine w_op (pc' := 138) dX10_reasonsAlone_137 rfl ?_
            refine t_getG0 (G := g_w_CONS) dX10_reasonsAlone_138 rfl rfl (by decide) rfl (fun _ => rfl) (hp.1 _ rfl) ?_
            refine w_op (pc' := 143) dX10_reasonsAlone_141 rfl ?_
            refine t_getI (F := f_k_division) dX10_reasonsAlone_143 rfl rfl (by decide) rfl ⟨rfl, fun _ => rfl⟩ (hC.kn hkk) ?_
            refine w_op (pc' := 148) dX10_reasonsAlone_146 rfl ?_
            refine w_op (pc' := 149) dX10_reasonsAlone_148 rfl ?_
            refine t_getG0 (G := g_w_KEYS) dX10_reasonsAlone_149 rfl rfl (by decide) rfl (fun _ => rfl) (hp.1 _ rfl) ?_
            refine w_op (pc' := 153) dX10_reasonsAlone_152 rfl ?_
            refine t_getI (F := f_now) dX10_reasonsAlone_153 rfl rfl (by decide) rfl ⟨rfl, fun _ => rfl⟩ (hp.1 _ rfl) ?_
            refine t_callV (t := T_CONS) (As := [_, _, _, _]) dX10_reasonsAlone_156 rfl rM_X0_waysOf (by decide) rfl rfl (by decide) (by decide) (Nat.le_of_ble_eq_true rfl) rfl (hp.1 _ rfl) (c_X0_waysOf hC ?_)
            show s_w _ _ _ 159 _ _ _ _
            refine w_op (pc' := 160) dX10_reasonsAlone_159 rfl ?_
            refine w_op (pc' := 162) (ll' := [_, _, _, _, _, _, _, _, _, _]) dX10_reasonsAlone_160 rfl ?_
            refine w_op (pc' := 165) (ll' := [_, _, _, _, _, _, _, _, _, _]) dX10_reasonsAlone_162 rfl ?_
            refine w_goto (t := 70) dX10_reasonsAlone_165 (by decide) ?_
            rw [show nI i + Int32.ofInt 1 = nI (i + 1) from nI_1 i]
            have ek : (if s_rk I kk (nI i) = x then s_ky I kk (nI i) y else -1) = s_ky I kk (nI i) y := if_pos c93
            have ef : s_raR I nk kk x y i a = a + nI (s_wo I nk (I f_k_division kk) (s_ky I kk (nI i) y) (I f_now 0)) := by unfold s_raR; rw [ek]; exact if_pos ⟨s_isk_nn c120, bI_n0.mp c132⟩
            rw [s_run_s hi, ef] at hf
            exact ih (i + 1) _ _ (by omega) hf (by omega)
set_option maxRecDepth 100000 in
set_option maxHeartbeats 4000000 in
theorem ln_X10_reasonsAlone {X : e_XT} {d : Nat} {p : e_Sp} {I : e_I} {J : e_Jt} {c : Nat × Nat} {w : e_Rw1} {Q : e_Rt → e_SS → Prop} {nk nr : Nat} (hD : s_D p I nk nr) {x y R : Int32} (k : Q (.inl (some (.int (R)))) (p, I, J, c, w)) : ∀ (n : Nat) (i : Nat) (a : Int32) (o6 o7 o8 o9 : Option Value), (h1 : i ≤ nk) → (hf : s_run (s_raK I nk x y) i (nk - i) a = R) → (hn : nk - i < n) → s_w X (d + 4) K_X10_reasonsAlone 28 [some (.ref (p.1 T_WORKS 0)), some (.int x), some (.int y), some .null, some (.int a), some (.int (nI i)), o6, o7, o8, o9] [] (p, I, J, c, w) (fun r S' => e_rcr (some FieldType.int) r = true ∧ Q r S') := by
  intro n
  induction n with
  | zero =>
    intro i a o6 o7 o8 o9 h1 hf hn
    exact absurd hn (Nat.not_lt_zero _)
  | succ n ih =>
    intro i a o6 o7 o8 o9 h1 hf hn
    have hC := hD.1
    have hp := hC.1
    have hn40 := hC.2.1.1
    have hk40 := hC.2.1.2
    have hn10 := hC.2.2.1.1
    have hr10 := hC.2.2.1.2
    refine w_op (pc' := 30) dX10_reasonsAlone_28 rfl ?_
    refine w_op (pc' := 31) dX10_reasonsAlone_30 rfl ?_
    refine t_getG0 (G := g_w_CONS) dX10_reasonsAlone_31 rfl rfl (by decide) rfl (fun _ => rfl) (hp.1 _ rfl) ?_
    refine t_getG0 (G := g_n_knobs) dX10_reasonsAlone_34 rfl rfl (by decide) rfl (fun _ => rfl) (hp.1 _ rfl) ?_
    refine t_callV (t := T_LIST) (As := []) dX10_reasonsAlone_37 rfl rM_Jx4a65c_size_8abf5 (by decide) rfl rfl (by decide) (by decide) (Nat.le_of_ble_eq_true rfl) rfl (hp.2 _ (by decide)) (c_size (hp.2 _ (by decide)) ?_)
    show s_w _ _ _ 40 _ _ _ _
    rw [hk40]
    refine w_icmpge (t := 174) dX10_reasonsAlone_40 (by decide) (fun c40 => ?_) (fun c40 => ?_)
    · have hi : nk ≤ i := (nI_leI (a := nk) (by omega) (by omega)).mp c40
      refine w_op (pc' := 176) dX10_reasonsAlone_174 rfl ?_
      exact w_ireturn dX10_reasonsAlone_176 ⟨rfl, by rw [s_run_z hi] at hf; subst hf; exact k⟩
    · have hi : i < nk := Nat.lt_of_not_le (fun z => c40 ((nI_leI (a := nk) (by omega) (by omega)).mpr z))
      refine w_op (pc' := 44) dX10_reasonsAlone_43 rfl ?_
      refine t_getG0 (G := g_w_CONS) dX10_reasonsAlone_44 rfl rfl (by decide) rfl (fun _ => rfl) (hp.1 _ rfl) ?_
      refine t_getG0 (G := g_n_knobs) dX10_reasonsAlone_47 rfl rfl (by decide) rfl (fun _ => rfl) (hp.1 _ rfl) ?_
      refine w_op (pc' := 52) dX10_reasonsAlone_50 rfl ?_
      refine t_callV (t := T_LIST) (As := [_]) dX10_reasonsAlone_52 rfl rM_Jx4a65c_get_915e3 (by decide) rfl rfl (by decide) (by decide) (Nat.le_of_ble_eq_true rfl) rfl (hp.2 _ (by decide)) (c_get1 hp hk40 (by omega) hi ?_)
      show s_w _ _ _ 55 _ _ _ _
      refine t_chk dX10_reasonsAlone_55 rfl rfl (by decide) (hC.kn hi) ?_
      refine w_op (pc' := 60) (ll' := [_, _, _, _, _, _, _, _, _, _]) dX10_reasonsAlone_58 rfl ?_
      refine w_op (pc' := 62) dX10_reasonsAlone_60 rfl ?_
      refine t_getStop dX10_reasonsAlone_62 rfl (hC.kn hi) ?_
      by_cases z62 : p.2.1 T_STOP (i) = true
      · rw [if_pos z62]
        refine w_op (pc' := 67) (ll' := [_, _, _, _, _, _, _, _, _, _]) dX10_reasonsAlone_65 rfl ?_
        refine w_iconst (v := 0) dX10_reasonsAlone_67 rfl ?_
        refine w_op (pc' := 70) (ll' := [_, _, _, _, _, _, _, _, _, _]) dX10_reasonsAlone_68 rfl ?_
        have h115 := (hC.st hi).mp z62
        have ef : s_raK I nk x y i a = _ := if_pos h115
        rw [s_run_s hi, ef] at hf
        refine l2n_X10_reasonsAlone hD hi h115 z62 (fun o8 o9 => ?_) ((I f_s_rows i).toNatClampNeg + 1) 0 _ _ (Nat.zero_le _) rfl (by omega)
        refine w_op (pc' := 171) (ll' := [_, _, _, _, _, _, _, _, _, _]) dX10_reasonsAlone_168 rfl ?_
        refine w_goto (t := 28) dX10_reasonsAlone_171 (by decide) ?_
        rw [show nI i + Int32.ofInt 1 = nI (i + 1) from nI_1 i]
        exact ih (i + 1) _ _ _ _ _ (by omega) hf (by omega)
      · rw [if_neg z62]
        refine w_op (pc' := 67) (ll' := [_, _, _, _, _, _, _, _, _, _]) dX10_reasonsAlone_65 rfl ?_
        refine w_iconst (v := 0) dX10_reasonsAlone_67 rfl ?_
        refine w_op (pc' := 70) (ll' := [_, _, _, _, _, _, _, _, _, _]) dX10_reasonsAlone_68 rfl ?_
        refine w_op (pc' := 72) dX10_reasonsAlone_70 rfl ?_
        refine w_ifnull_t (t := 168) dX10_reasonsAlone_72 (by decide) ?_
        refine w_op (pc' := 171) (ll' := [_, _, _, _, _, _, _, _, _, _]) dX10_reasonsAlone_168 rfl ?_
        refine w_goto (t := 28) dX10_reasonsAlone_171 (by decide) ?_
        rw [show nI i + Int32.ofInt 1 = nI (i + 1) from nI_1 i]
        have ef : s_raK I nk x y i a = a := if_neg (fun z => z62 ((hC.st hi).mpr z))
        rw [s_run_s hi, ef] at hf
        exact ih (i + 1) _ _ _ _ _ (by omega) hf (by omega)
set_option maxRecDepth 100000 in
set_option maxHeartbeats 4000000 in
theorem l2r_X10_reasonsAlone {X : e_XT} {d : Nat} {p : e_Sp} {I : e_I} {J : e_Jt} {c : Nat × Nat} {w : e_Rw1} {Q : e_Rt → e_SS → Prop} {nk nr : Nat} (hD : s_D p I nk nr) {kk : Nat} {x y R : Int32} {zz : Nat} (hkk : kk < nk) (h115 : I f_k_kind kk = 115) (hv : p.2.1 T_STOP kk = true) (hk : ∀ o8 o9, s_w X (d + 4) K_X10_reasonsAlone 168 [some (.ref (p.1 T_WORKS 0)), some (.int x), some (.int y), some (.ref zz), some (.int R), some (.int (nI kk)), some (.ref (p.1 T_KNOB kk)), some (.ref (p.1 T_STOP kk)), o8, o9] [] (p, I, J, c, w) (fun r S' => e_rcr (some .int) r = true ∧ Q r S')) : ∀ (n : Nat) (i : Nat) (a : Int32) (o9 : Option Value), (h1 : i ≤ (I f_s_rows kk).toNatClampNeg) → (hf : s_run (s_raR I nk kk x y) i ((I f_s_rows kk).toNatClampNeg - i) a = R) → (hn : (I f_s_rows kk).toNatClampNeg - i < n) → s_w X (d + 4) K_X10_reasonsAlone 70 [some (.ref (p.1 T_WORKS 0)), some (.int x), some (.int y), some (.ref zz), some (.int a), some (.int (nI kk)), some (.ref (p.1 T_KNOB kk)), some (.ref (p.1 T_STOP kk)), some (.int (nI i)), o9] [] (p, I, J, c, w) (fun r S' => e_rcr (some FieldType.int) r = true ∧ Q r S') := by
  intro n
  induction n with
  | zero =>
    intro i a o9 h1 hf hn
    exact absurd hn (Nat.not_lt_zero _)
  | succ n ih =>
    intro i a o9 h1 hf hn
    have hC := hD.1
    have hp := hC.1
    have hn40 := hC.2.1.1
    have hk40 := hC.2.1.2
    have hn10 := hC.2.2.1.1
    have hr10 := hC.2.2.1.2
    have hS := hD.2.2.2 kk hkk h115
    obtain ⟨m4, hm4, hrows⟩ := hS.2
    have hmr : (I f_s_rows kk).toNatClampNeg = m4 := by rw [hrows, nI_clamp (by omega)]
    refine w_op (pc' := 72) dX10_reasonsAlone_70 rfl ?_
    refine w_ifnull_f dX10_reasonsAlone_72 ?_
    refine w_op (pc' := 77) dX10_reasonsAlone_75 rfl ?_
    refine w_op (pc' := 79) dX10_reasonsAlone_77 rfl ?_
    refine t_getI (F := f_s_rows) dX10_reasonsAlone_79 rfl rfl (by decide) rfl ⟨rfl, fun _ => rfl⟩ hv ?_
    refine w_icmpge (t := 168) dX10_reasonsAlone_82 (by decide) (fun c82 => ?_) (fun c82 => ?_)
    · rw [hrows] at c82
      have hi : m4 ≤ i := (nI_leI (a := m4) (by omega) (by omega)).mp c82
      rw [s_run_z (by omega)] at hf; subst hf; exact hk _ _
    · rw [hrows] at c82
      have hi : i < (I f_s_rows kk).toNatClampNeg := Nat.lt_of_not_le (fun z => c82 ((nI_leI (a := m4) (by omega) (by omega)).mpr (by omega)))
      refine w_op (pc' := 87) dX10_reasonsAlone_85 rfl ?_
      refine w_op (pc' := 89) dX10_reasonsAlone_87 rfl ?_
      refine t_callV (t := T_STOP) (As := [_]) dX10_reasonsAlone_89 rfl rM_X8_rankOf (by decide) rfl rfl (by decide) (by decide) (Nat.le_of_ble_eq_true rfl) rfl hv (c_X8_rankOf hv hS.1 ?_)
      show s_w _ _ _ 92 _ _ _ _
      refine w_op (pc' := 93) dX10_reasonsAlone_92 rfl ?_
      refine w_icmpne (t := 107) dX10_reasonsAlone_93 (by decide) (fun c93 => ?_) (fun c93 => ?_)
      · refine w_iconst (v := (-1)) dX10_reasonsAlone_107 rfl ?_
        refine w_op (pc' := 110) (ll' := [_, _, _, _, _, _, _, _, _, _]) dX10_reasonsAlone_108 rfl ?_
        refine w_op (pc' := 112) dX10_reasonsAlone_110 rfl ?_
        refine t_getI (F := f_k_division) dX10_reasonsAlone_112 rfl rfl (by decide) rfl ⟨rfl, fun _ => rfl⟩ (hC.kn hkk) ?_
        refine w_op (pc' := 117) dX10_reasonsAlone_115 rfl ?_
        refine t_callS (As := [_, _]) dX10_reasonsAlone_117 rfl rM_X3_indexOf (by decide) rfl rfl (by decide) (Nat.le_of_ble_eq_true rfl) (c_X3_indexOf ?_)
        show s_w _ _ _ 120 _ _ _ _
        refine w_iflt (t := 162) dX10_reasonsAlone_120 (by decide) (fun c120 => ?_) (fun c120 => ?_)
        · refine w_op (pc' := 165) (ll' := [_, _, _, _, _, _, _, _, _, _]) dX10_reasonsAlone_162 rfl ?_
          refine w_goto (t := 70) dX10_reasonsAlone_165 (by decide) ?_
          rw [show nI i + Int32.ofInt 1 = nI (i + 1) from nI_1 i]
          have ek : (if s_rk I kk (nI i) = x then s_ky I kk (nI i) y else -1) = -1 := if_neg c93
          have ef : s_raR I nk kk x y i a = a := by unfold s_raR; rw [ek]; exact if_neg (fun z => s_idx_neg.mp c120 z.1)
          rw [s_run_s hi, ef] at hf
          exact ih (i + 1) _ _ (by omega) hf (by omega)
        · refine w_op (pc' := 124) dX10_reasonsAlone_123 rfl ?_
          refine t_getG0 (G := g_w_CONS) dX10_reasonsAlone_124 rfl rfl (by decide) rfl (fun _ => rfl) (hp.1 _ rfl) ?_
          refine w_op (pc' := 129) dX10_reasonsAlone_127 rfl ?_
          refine t_callV (t := T_CONS) (As := [_]) dX10_reasonsAlone_129 rfl rM_X0_isSounding (by decide) rfl rfl (by decide) (by decide) (Nat.le_of_ble_eq_true rfl) rfl (hp.1 _ rfl) (c_X0_isSounding hp (hC.kn hkk) (hC.st hkk) ?_)
          show s_w _ _ _ 132 _ _ _ _
          refine w_ifeq (t := 162) dX10_reasonsAlone_132 (by decide) (fun c132 => ?_) (fun c132 => ?_)
          · refine w_op (pc' := 165) (ll' := [_, _, _, _, _, _, _, _, _, _]) dX10_reasonsAlone_162 rfl ?_
            refine w_goto (t := 70) dX10_reasonsAlone_165 (by decide) ?_
            rw [show nI i + Int32.ofInt 1 = nI (i + 1) from nI_1 i]
            have ek : (if s_rk I kk (nI i) = x then s_ky I kk (nI i) y else -1) = -1 := if_neg c93
            have ef : s_raR I nk kk x y i a = a := by unfold s_raR; exact if_neg (fun z => by have z2 := z.2; rw [bI_0.mp c132] at z2; cases z2)
            rw [s_run_s hi, ef] at hf
            exact ih (i + 1) _ _ (by omega) hf (by omega)
          · refine w_op (pc' := 137) dX10_reasonsAlone_135 rfl ?_
            refine w_op (pc' := 138) dX10_reasonsAlone_137 rfl ?_
            refine t_getG0 (G := g_w_CONS) dX10_reasonsAlone_138 rfl rfl (by decide) rfl (fun _ => rfl) (hp.1 _ rfl) ?_
            refine w_op (pc' := 143) dX10_reasonsAlone_141 rfl ?_
            refine t_getI (F := f_k_division) dX10_reasonsAlone_143 rfl rfl (by decide) rfl ⟨rfl, fun _ => rfl⟩ (hC.kn hkk) ?_
            refine w_op (pc' := 148) dX10_reasonsAlone_146 rfl ?_
            refine w_op (pc' := 149) dX10_reasonsAlone_148 rfl ?_
            refine t_getG0 (G := g_w_KEYS) dX10_reasonsAlone_149 rfl rfl (by decide) rfl (fun _ => rfl) (hp.1 _ rfl) ?_
            refine w_op (pc' := 153) dX10_reasonsAlone_152 rfl ?_
            refine t_getI (F := f_now) dX10_reasonsAlone_153 rfl rfl (by decide) rfl ⟨rfl, fun _ => rfl⟩ (hp.1 _ rfl) ?_
            refine t_callV (t := T_CONS) (As := [_, _, _, _]) dX10_reasonsAlone_156 rfl rM_X0_waysOf (by decide) rfl rfl (by decide) (by decide) (Nat.le_of_ble_eq_true rfl) rfl (hp.1 _ rfl) (c_X0_waysOf hC ?_)
            show s_w _ _ _ 159 _ _ _ _
            refine w_op (pc' := 160) dX10_reasonsAlone_159 rfl ?_
            refine w_op (pc' := 162) (ll' := [_, _, _, _, _, _, _, _, _, _]) dX10_reasonsAlone_160 rfl ?_
            refine w_op (pc' := 165) (ll' := [_, _, _, _, _, _, _, _, _, _]) dX10_reasonsAlone_162 rfl ?_
            refine w_goto (t := 70) dX10_reasonsAlone_165 (by decide) ?_
            rw [show nI i + Int32.ofInt 1 = nI (i + 1) from nI_1 i]
            have ek : (if s_rk I kk (nI i) = x then s_ky I kk (nI i) y else -1) = -1 := if_neg c93
            have ef : s_raR I nk kk x y i a = a + nI (s_wo I nk (I f_k_division kk) (-1) (I f_now 0)) := by unfold s_raR; rw [ek]; exact if_pos ⟨s_isk_nn c120, bI_n0.mp c132⟩
            rw [s_run_s hi, ef] at hf
            exact ih (i + 1) _ _ (by omega) hf (by omega)
      · refine w_op (pc' := 98) dX10_reasonsAlone_96 rfl ?_
        refine w_op (pc' := 100) dX10_reasonsAlone_98 rfl ?_
        refine w_op (pc' := 101) dX10_reasonsAlone_100 rfl ?_
        refine t_callV (t := T_STOP) (As := [_, _]) dX10_reasonsAlone_101 rfl rM_X8_keyOf (by decide) rfl rfl (by decide) (by decide) (Nat.le_of_ble_eq_true rfl) rfl hv (c_X8_keyOf hv hS.1 ?_)
        show s_w _ _ _ 104 _ _ _ _
        refine w_goto (t := 108) dX10_reasonsAlone_104 (by decide) ?_
        refine w_op (pc' := 110) (ll' := [_, _, _, _, _, _, _, _, _, _]) dX10_reasonsAlone_108 rfl ?_
        refine w_op (pc' := 112) dX10_reasonsAlone_110 rfl ?_
        refine t_getI (F := f_k_division) dX10_reasonsAlone_112 rfl rfl (by decide) rfl ⟨rfl, fun _ => rfl⟩ (hC.kn hkk) ?_
        refine w_op (pc' := 117) dX10_reasonsAlone_115 rfl ?_
        refine t_callS (As := [_, _]) dX10_reasonsAlone_117 rfl rM_X3_indexOf (by decide) rfl rfl (by decide) (Nat.le_of_ble_eq_true rfl) (c_X3_indexOf ?_)
        show s_w _ _ _ 120 _ _ _ _
        refine w_iflt (t := 162) dX10_reasonsAlone_120 (by decide) (fun c120 => ?_) (fun c120 => ?_)
        · refine w_op (pc' := 165) (ll' := [_, _, _, _, _, _, _, _, _, _]) dX10_reasonsAlone_162 rfl ?_
          refine w_goto (t := 70) dX10_reasonsAlone_165 (by decide) ?_
          rw [show nI i + Int32.ofInt 1 = nI (i + 1) from nI_1 i]
          have ek : (if s_rk I kk (nI i) = x then s_ky I kk (nI i) y else -1) = s_ky I kk (nI i) y := if_pos c93
          have ef : s_raR I nk kk x y i a = a := by unfold s_raR; rw [ek]; exact if_neg (fun z => s_idx_neg.mp c120 z.1)
          rw [s_run_s hi, ef] at hf
          exact ih (i + 1) _ _ (by omega) hf (by omega)
        · refine w_op (pc' := 124) dX10_reasonsAlone_123 rfl ?_
          refine t_getG0 (G := g_w_CONS) dX10_reasonsAlone_124 rfl rfl (by decide) rfl (fun _ => rfl) (hp.1 _ rfl) ?_
          refine w_op (pc' := 129) dX10_reasonsAlone_127 rfl ?_
          refine t_callV (t := T_CONS) (As := [_]) dX10_reasonsAlone_129 rfl rM_X0_isSounding (by decide) rfl rfl (by decide) (by decide) (Nat.le_of_ble_eq_true rfl) rfl (hp.1 _ rfl) (c_X0_isSounding hp (hC.kn hkk) (hC.st hkk) ?_)
          show s_w _ _ _ 132 _ _ _ _
          refine w_ifeq (t := 162) dX10_reasonsAlone_132 (by decide) (fun c132 => ?_) (fun c132 => ?_)
          · refine w_op (pc' := 165) (ll' := [_, _, _, _, _, _, _, _, _, _]) dX10_reasonsAlone_162 rfl ?_
            refine w_goto (t := 70) dX10_reasonsAlone_165 (by decide) ?_
            rw [show nI i + Int32.ofInt 1 = nI (i + 1) from nI_1 i]
            have ek : (if s_rk I kk (nI i) = x then s_ky I kk (nI i) y else -1) = s_ky I kk (nI i) y := if_pos c93
            have ef : s_raR I nk kk x y i a = a := by unfold s_raR; exact if_neg (fun z => by have z2 := z.2; rw [bI_0.mp c132] at z2; cases z2)
            rw [s_run_s hi, ef] at hf
            exact ih (i + 1) _ _ (by omega) hf (by omega)
          · refine w_op (pc' := 137) dX10_reasonsAlone_135 rfl ?_
            refine w_op (pc' := 138) dX10_reasonsAlone_137 rfl ?_
            refine t_getG0 (G := g_w_CONS) dX10_reasonsAlone_138 rfl rfl (by decide) rfl (fun _ => rfl) (hp.1 _ rfl) ?_
            refine w_op (pc' := 143) dX10_reasonsAlone_141 rfl ?_
            refine t_getI (F := f_k_division) dX10_reasonsAlone_143 rfl rfl (by decide) rfl ⟨rfl, fun _ => rfl⟩ (hC.kn hkk) ?_
            refine w_op (pc' := 148) dX10_reasonsAlone_146 rfl ?_
            refine w_op (pc' := 149) dX10_reasonsAlone_148 rfl ?_
            refine t_getG0 (G := g_w_KEYS) dX10_reasonsAlone_149 rfl rfl (by decide) rfl (fun _ => rfl) (hp.1 _ rfl) ?_
            refine w_op (pc' := 153) dX10_reasonsAlone_152 rfl ?_
            refine t_getI (F := f_now) dX10_reasonsAlone_153 rfl rfl (by decide) rfl ⟨rfl, fun _ => rfl⟩ (hp.1 _ rfl) ?_
            refine t_callV (t := T_CONS) (As := [_, _, _, _]) dX10_reasonsAlone_156 rfl rM_X0_waysOf (by decide) rfl rfl (by decide) (by decide) (Nat.le_of_ble_eq_true rfl) rfl (hp.1 _ rfl) (c_X0_waysOf hC ?_)
            show s_w _ _ _ 159 _ _ _ _
            refine w_op (pc' := 160) dX10_reasonsAlone_159 rfl ?_
            refine w_op (pc' := 162) (ll' := [_, _, _, _, _, _, _, _, _, _]) dX10_reasonsAlone_160 rfl ?_
            refine w_op (pc' := 165) (ll' := [_, _, _, _, _, _, _, _, _, _]) dX10_reasonsAlone_162 rfl ?_
            refine w_goto (t := 70) dX10_reasonsAlone_165 (by decide) ?_
            rw [show nI i + Int32.ofInt 1 = nI (i + 1) from nI_1 i]
            have ek : (if s_rk I kk (nI i) = x then s_ky I kk (nI i) y else -1) = s_ky I kk (nI i) y := if_pos c93
            have ef : s_raR I nk kk x y i a = a + nI (s_wo I nk (I f_k_division kk) (s_ky I kk (nI i) y) (I f_now 0)) := by unfold s_raR; rw [ek]; exact if_pos ⟨s_isk_nn c120, bI_n0.mp c132⟩
            rw [s_run_s hi, ef] at hf
            exact ih (i + 1) _ _ (by omega) hf (by omega)
set_option maxRecDepth 100000 in
set_option maxHeartbeats 4000000 in
theorem lr_X10_reasonsAlone {X : e_XT} {d : Nat} {p : e_Sp} {I : e_I} {J : e_Jt} {c : Nat × Nat} {w : e_Rw1} {Q : e_Rt → e_SS → Prop} {nk nr : Nat} (hD : s_D p I nk nr) {x y R : Int32} {zz : Nat} (k : Q (.inl (some (.int (R)))) (p, I, J, c, w)) : ∀ (n : Nat) (i : Nat) (a : Int32) (o6 o7 o8 o9 : Option Value), (h1 : i ≤ nk) → (hf : s_run (s_raK I nk x y) i (nk - i) a = R) → (hn : nk - i < n) → s_w X (d + 4) K_X10_reasonsAlone 28 [some (.ref (p.1 T_WORKS 0)), some (.int x), some (.int y), some (.ref zz), some (.int a), some (.int (nI i)), o6, o7, o8, o9] [] (p, I, J, c, w) (fun r S' => e_rcr (some FieldType.int) r = true ∧ Q r S') := by
  intro n
  induction n with
  | zero =>
    intro i a o6 o7 o8 o9 h1 hf hn
    exact absurd hn (Nat.not_lt_zero _)
  | succ n ih =>
    intro i a o6 o7 o8 o9 h1 hf hn
    have hC := hD.1
    have hp := hC.1
    have hn40 := hC.2.1.1
    have hk40 := hC.2.1.2
    have hn10 := hC.2.2.1.1
    have hr10 := hC.2.2.1.2
    refine w_op (pc' := 30) dX10_reasonsAlone_28 rfl ?_
    refine w_op (pc' := 31) dX10_reasonsAlone_30 rfl ?_
    refine t_getG0 (G := g_w_CONS) dX10_reasonsAlone_31 rfl rfl (by decide) rfl (fun _ => rfl) (hp.1 _ rfl) ?_
    refine t_getG0 (G := g_n_knobs) dX10_reasonsAlone_34 rfl rfl (by decide) rfl (fun _ => rfl) (hp.1 _ rfl) ?_
    refine t_callV (t := T_LIST) (As := []) dX10_reasonsAlone_37 rfl rM_Jx4a65c_size_8abf5 (by decide) rfl rfl (by decide) (by decide) (Nat.le_of_ble_eq_true rfl) rfl (hp.2 _ (by decide)) (c_size (hp.2 _ (by decide)) ?_)
    show s_w _ _ _ 40 _ _ _ _
    rw [hk40]
    refine w_icmpge (t := 174) dX10_reasonsAlone_40 (by decide) (fun c40 => ?_) (fun c40 => ?_)
    · have hi : nk ≤ i := (nI_leI (a := nk) (by omega) (by omega)).mp c40
      refine w_op (pc' := 176) dX10_reasonsAlone_174 rfl ?_
      exact w_ireturn dX10_reasonsAlone_176 ⟨rfl, by rw [s_run_z hi] at hf; subst hf; exact k⟩
    · have hi : i < nk := Nat.lt_of_not_le (fun z => c40 ((nI_leI (a := nk) (by omega) (by omega)).mpr z))
      refine w_op (pc' := 44) dX10_reasonsAlone_43 rfl ?_
      refine t_getG0 (G := g_w_CONS) dX10_reasonsAlone_44 rfl rfl (by decide) rfl (fun _ => rfl) (hp.1 _ rfl) ?_
      refine t_getG0 (G := g_n_knobs) dX10_reasonsAlone_47 rfl rfl (by decide) rfl (fun _ => rfl) (hp.1 _ rfl) ?_
      refine w_op (pc' := 52) dX10_reasonsAlone_50 rfl ?_
      refine t_callV (t := T_LIST) (As := [_]) dX10_reasonsAlone_52 rfl rM_Jx4a65c_get_915e3 (by decide) rfl rfl (by decide) (by decide) (Nat.le_of_ble_eq_true rfl) rfl (hp.2 _ (by decide)) (c_get1 hp hk40 (by omega) hi ?_)
      show s_w _ _ _ 55 _ _ _ _
      refine t_chk dX10_reasonsAlone_55 rfl rfl (by decide) (hC.kn hi) ?_
      refine w_op (pc' := 60) (ll' := [_, _, _, _, _, _, _, _, _, _]) dX10_reasonsAlone_58 rfl ?_
      refine w_op (pc' := 62) dX10_reasonsAlone_60 rfl ?_
      refine t_getStop dX10_reasonsAlone_62 rfl (hC.kn hi) ?_
      by_cases z62 : p.2.1 T_STOP (i) = true
      · rw [if_pos z62]
        refine w_op (pc' := 67) (ll' := [_, _, _, _, _, _, _, _, _, _]) dX10_reasonsAlone_65 rfl ?_
        refine w_iconst (v := 0) dX10_reasonsAlone_67 rfl ?_
        refine w_op (pc' := 70) (ll' := [_, _, _, _, _, _, _, _, _, _]) dX10_reasonsAlone_68 rfl ?_
        have h115 := (hC.st hi).mp z62
        have ef : s_raK I nk x y i a = _ := if_pos h115
        rw [s_run_s hi, ef] at hf
        refine l2r_X10_reasonsAlone hD hi h115 z62 (fun o8 o9 => ?_) ((I f_s_rows i).toNatClampNeg + 1) 0 _ _ (Nat.zero_le _) rfl (by omega)
        refine w_op (pc' := 171) (ll' := [_, _, _, _, _, _, _, _, _, _]) dX10_reasonsAlone_168 rfl ?_
        refine w_goto (t := 28) dX10_reasonsAlone_171 (by decide) ?_
        rw [show nI i + Int32.ofInt 1 = nI (i + 1) from nI_1 i]
        exact ih (i + 1) _ _ _ _ _ (by omega) hf (by omega)
      · rw [if_neg z62]
        refine w_op (pc' := 67) (ll' := [_, _, _, _, _, _, _, _, _, _]) dX10_reasonsAlone_65 rfl ?_
        refine w_iconst (v := 0) dX10_reasonsAlone_67 rfl ?_
        refine w_op (pc' := 70) (ll' := [_, _, _, _, _, _, _, _, _, _]) dX10_reasonsAlone_68 rfl ?_
        refine w_op (pc' := 72) dX10_reasonsAlone_70 rfl ?_
        refine w_ifnull_t (t := 168) dX10_reasonsAlone_72 (by decide) ?_
        refine w_op (pc' := 171) (ll' := [_, _, _, _, _, _, _, _, _, _]) dX10_reasonsAlone_168 rfl ?_
        refine w_goto (t := 28) dX10_reasonsAlone_171 (by decide) ?_
        rw [show nI i + Int32.ofInt 1 = nI (i + 1) from nI_1 i]
        have ef : s_raK I nk x y i a = a := if_neg (fun z => z62 ((hC.st hi).mpr z))
        rw [s_run_s hi, ef] at hf
        exact ih (i + 1) _ _ _ _ _ (by omega) hf (by omega)
set_option maxRecDepth 100000 in
set_option maxHeartbeats 4000000 in
theorem c_X10_reasonsAlone {X : e_XT} {d : Nat} {p : e_Sp} {I : e_I} {J : e_Jt} {c : Nat × Nat} {w : e_Rw1} {Q : e_Rt → e_SS → Prop} {nk nr : Nat} (hD : s_D p I nk nr) {x y : Int32} (k : Q (.inl (some (.int (s_ral p I nk nr x y)))) (p, I, J, c, w)) : s_c X (d + 4) 121 [.ref (p.1 T_WORKS 0), .int x, .int y] (p, I, J, c, w) Q := by
  have hC := hD.1
  have hp := hC.1
  have hn40 := hC.2.1.1
  have hk40 := hC.2.1.2
  have hn10 := hC.2.2.1.1
  have hr10 := hC.2.2.1.2
  refine m_X10_reasonsAlone (Nat.le_of_ble_eq_true rfl) ?_
  show s_w _ _ _ 0 _ _ _ _
  refine w_op (pc' := 1) dX10_reasonsAlone_0 rfl ?_
  refine w_op (pc' := 2) dX10_reasonsAlone_1 rfl ?_
  refine w_op (pc' := 3) dX10_reasonsAlone_2 rfl ?_
  refine t_callV (t := T_WORKS) (As := [_, _]) dX10_reasonsAlone_3 rfl rM_X10_pipeAt (by decide) rfl rfl (by decide) (by decide) (Nat.le_of_ble_eq_true rfl) rfl (hp.1 _ rfl) (c_X10_pipeAt hD (fun j hj hv => ?_) (fun hx => ?_))
  · show s_w _ _ _ 6 _ _ _ _
    refine w_op (pc' := 7) (ll' := [_, _, _, _, _, _, _, _, _, _]) dX10_reasonsAlone_6 rfl ?_
    refine w_op (pc' := 8) dX10_reasonsAlone_7 rfl ?_
    refine w_ifnull_f dX10_reasonsAlone_8 ?_
    refine w_op (pc' := 12) dX10_reasonsAlone_11 rfl ?_
    refine t_getI (F := f_p_isHeld) dX10_reasonsAlone_12 rfl rfl (by decide) rfl ⟨rfl, fun _ => rfl⟩ (by assumption) ?_
    refine w_ifeq (t := 22) dX10_reasonsAlone_15 (by decide) (fun c15 => ?_) (fun c15 => ?_)
    · refine w_iconst (v := 0) dX10_reasonsAlone_22 rfl ?_
      refine w_op (pc' := 25) (ll' := [_, _, _, _, _, _, _, _, _, _]) dX10_reasonsAlone_23 rfl ?_
      refine w_iconst (v := 0) dX10_reasonsAlone_25 rfl ?_
      refine w_op (pc' := 28) (ll' := [_, _, _, _, _, _, _, _, _, _]) dX10_reasonsAlone_26 rfl ?_
      have e0 : s_ra0 p I nr x y = 0 := by unfold s_ra0; rw [hj]; exact if_pos c15
      exact lr_X10_reasonsAlone hD k (nk + 1) 0 _ _ _ _ _ (Nat.zero_le _) (by rw [← e0]; rfl) (by omega)
    · refine w_iconst (v := 1) dX10_reasonsAlone_18 rfl ?_
      refine w_goto (t := 23) dX10_reasonsAlone_19 (by decide) ?_
      refine w_op (pc' := 25) (ll' := [_, _, _, _, _, _, _, _, _, _]) dX10_reasonsAlone_23 rfl ?_
      refine w_iconst (v := 0) dX10_reasonsAlone_25 rfl ?_
      refine w_op (pc' := 28) (ll' := [_, _, _, _, _, _, _, _, _, _]) dX10_reasonsAlone_26 rfl ?_
      have e0 : s_ra0 p I nr x y = 1 := by unfold s_ra0; rw [hj]; exact if_neg c15
      exact lr_X10_reasonsAlone hD k (nk + 1) 0 _ _ _ _ _ (Nat.zero_le _) (by rw [← e0]; rfl) (by omega)
  · show s_w _ _ _ 6 _ _ _ _
    refine w_op (pc' := 7) (ll' := [_, _, _, _, _, _, _, _, _, _]) dX10_reasonsAlone_6 rfl ?_
    refine w_op (pc' := 8) dX10_reasonsAlone_7 rfl ?_
    refine w_ifnull_t (t := 22) dX10_reasonsAlone_8 (by decide) ?_
    refine w_iconst (v := 0) dX10_reasonsAlone_22 rfl ?_
    refine w_op (pc' := 25) (ll' := [_, _, _, _, _, _, _, _, _, _]) dX10_reasonsAlone_23 rfl ?_
    refine w_iconst (v := 0) dX10_reasonsAlone_25 rfl ?_
    refine w_op (pc' := 28) (ll' := [_, _, _, _, _, _, _, _, _, _]) dX10_reasonsAlone_26 rfl ?_
    have e0 : s_ra0 p I nr x y = 0 := by unfold s_ra0; rw [hx]
    exact ln_X10_reasonsAlone hD k (nk + 1) 0 _ _ _ _ _ (Nat.zero_le _) (by rw [← e0]; rfl) (by omega)
set_option maxRecDepth 100000 in
set_option maxHeartbeats 4000000 in
theorem l2_X10_isConsistent {X : e_XT} {d : Nat} {p : e_Sp} {I : e_I} {J : e_Jt} {c : Nat × Nat} {w : e_Rw1} {Q : e_Rt → e_SS → Prop} {nk nr : Nat} (hD : s_D p I nk nr) {r : Nat} (hr : r < nr) (kx : s_ex (p.2.2.1 T_PARR r) (s_bad p I nk nr r) = true → Q (.inl (some (.int 0))) (p, I, J, c, w)) (hk : ∀ o3 o4 o5, s_ex (p.2.2.1 T_PARR r) (s_bad p I nk nr r) = false → s_w X (d + 5) K_X10_isConsistent 102 [some (.ref (p.1 T_WORKS 0)), some (.int (nI r)), some (.ref (p.1 T_RANK r)), o3, o4, o5] [] (p, I, J, c, w) (fun r S' => e_rcr (some .boolean) r = true ∧ Q r S')) : ∀ (n : Nat) (i : Nat) (o4 o5 : Option Value), (h1 : i ≤ p.2.2.1 T_PARR r) → (hf : s_ex i (s_bad p I nk nr r) = false) → (hn : p.2.2.1 T_PARR r - i < n) → s_w X (d + 5) K_X10_isConsistent 27 [some (.ref (p.1 T_WORKS 0)), some (.int (nI r)), some (.ref (p.1 T_RANK r)), some (.int (nI i)), o4, o5] [] (p, I, J, c, w) (fun r S' => e_rcr (some FieldType.boolean) r = true ∧ Q r S') := by
  intro n
  induction n with
  | zero =>
    intro i o4 o5 h1 hf hn
    exact absurd hn (Nat.not_lt_zero _)
  | succ n ih =>
    intro i o4 o5 h1 hf hn
    have hC := hD.1
    have hp := hC.1
    have hn40 := hC.2.1.1
    have hk40 := hC.2.1.2
    have hn10 := hC.2.2.1.1
    have hr10 := hC.2.2.1.2
    have hR := hD.2.1 r hr
    obtain ⟨lo, elo, hlo⟩ := hR.2.2.2.1
    refine w_op (pc' := 28) dX10_isConsistent_27 rfl ?_
    refine w_op (pc' := 29) dX10_isConsistent_28 rfl ?_
    refine t_getG1 (G := g_r_pipes) dX10_isConsistent_29 rfl rfl (by decide) rfl (fun _ => rfl) hR.1 ?_
    refine t_alen dX10_isConsistent_32 (by decide) hR.2.1 ?_
    refine w_icmpge (t := 102) dX10_isConsistent_33 (by decide) (fun c33 => ?_) (fun c33 => ?_)
    · have hi : p.2.2.1 T_PARR r ≤ i := (nI_leI (a := p.2.2.1 T_PARR r) (by omega) (by omega)).mp c33
      obtain rfl : i = p.2.2.1 T_PARR r := by omega
      exact hk _ _ _ hf
    · have hi : i < p.2.2.1 T_PARR r := Nat.lt_of_not_le (fun z => c33 ((nI_leI (a := p.2.2.1 T_PARR r) (by omega) (by omega)).mpr z))
      refine w_op (pc' := 37) dX10_isConsistent_36 rfl ?_
      refine t_getG1 (G := g_r_pipes) dX10_isConsistent_37 rfl rfl (by decide) rfl (fun _ => rfl) hR.1 ?_
      refine w_op (pc' := 41) dX10_isConsistent_40 rfl ?_
      refine t_aaldP dX10_isConsistent_41 hR.1 (s_ix.nI hi (by omega)) ?_
      refine w_op (pc' := 44) (ll' := [_, _, _, _, _, _]) dX10_isConsistent_42 rfl ?_
      refine w_op (pc' := 46) dX10_isConsistent_44 rfl ?_
      refine t_getI (F := f_p_isSpeaking) dX10_isConsistent_46 rfl rfl (by decide) rfl ⟨rfl, fun _ => rfl⟩ (hR.2.2.1 i hi) ?_
      refine w_ifeq (t := 56) dX10_isConsistent_49 (by decide) (fun c49 => ?_) (fun c49 => ?_)
      · refine w_iconst (v := 0) dX10_isConsistent_56 rfl ?_
        refine w_op (pc' := 59) (ll' := [_, _, _, _, _, _]) dX10_isConsistent_57 rfl ?_
        refine w_op (pc' := 61) dX10_isConsistent_59 rfl ?_
        refine t_getI (F := f_p_begins) dX10_isConsistent_61 rfl rfl (by decide) rfl ⟨rfl, fun _ => rfl⟩ (hR.2.2.1 i hi) ?_
        refine w_op (pc' := 66) dX10_isConsistent_64 rfl ?_
        refine t_getI (F := f_p_ends) dX10_isConsistent_66 rfl rfl (by decide) rfl ⟨rfl, fun _ => rfl⟩ (hR.2.2.1 i hi) ?_
        refine w_op (pc' := 71) dX10_isConsistent_69 rfl ?_
        refine w_op (pc' := 72) dX10_isConsistent_71 rfl ?_
        refine w_icmpne (t := 94) dX10_isConsistent_72 (by decide) (fun c72 => ?_) (fun c72 => ?_)
        · refine w_iconst (v := 0) dX10_isConsistent_94 rfl ?_
          exact w_ireturn dX10_isConsistent_95 ⟨s_rcb (Or.inl rfl), kx (s_ex_iff.mpr ⟨i, hi, by unfold s_bad; rw [if_pos c49, decide_eq_false c72]; rfl⟩)⟩
        · refine w_op (pc' := 77) dX10_isConsistent_75 rfl ?_
          refine t_callV (t := T_PIPE) (As := []) dX10_isConsistent_77 rfl rM_X6_allReasons (by decide) rfl rfl (by decide) (by decide) (Nat.le_of_ble_eq_true rfl) rfl (hR.2.2.1 i hi) (c_X6_allReasons (hR.2.2.1 i hi) ?_)
          show s_w _ _ _ 80 _ _ _ _
          refine w_op (pc' := 81) dX10_isConsistent_80 rfl ?_
          refine w_op (pc' := 82) dX10_isConsistent_81 rfl ?_
          refine w_op (pc' := 83) dX10_isConsistent_82 rfl ?_
          refine t_getI (F := f_r_lowest) dX10_isConsistent_83 rfl rfl (by decide) rfl ⟨rfl, fun _ => rfl⟩ hR.1 ?_
          refine w_op (pc' := 87) dX10_isConsistent_86 rfl ?_
          refine w_op (pc' := 88) dX10_isConsistent_87 rfl ?_
          refine t_callV (t := T_WORKS) (As := [_, _]) dX10_isConsistent_88 rfl rM_X10_reasonsAlone (by decide) rfl rfl (by decide) (by decide) (Nat.le_of_ble_eq_true rfl) rfl (hp.1 _ rfl) (c_X10_reasonsAlone hD ?_)
          show s_w _ _ _ 91 _ _ _ _
          refine w_icmpeq (t := 96) dX10_isConsistent_91 (by decide) (fun c91 => ?_) (fun c91 => ?_)
          · refine w_op (pc' := 99) (ll' := [_, _, _, _, _, _]) dX10_isConsistent_96 rfl ?_
            refine w_goto (t := 27) dX10_isConsistent_99 (by decide) ?_
            rw [show nI i + Int32.ofInt 1 = nI (i + 1) from nI_1 i]
            refine ih (i + 1) _ _ (by omega) ?_ (by omega)
            show (_ || _) = false
            rw [hf, Bool.false_or]
            unfold s_bad
            rw [if_pos c49, decide_eq_true c72, decide_eq_true c91]; rfl
          · refine w_iconst (v := 0) dX10_isConsistent_94 rfl ?_
            exact w_ireturn dX10_isConsistent_95 ⟨s_rcb (Or.inl rfl), kx (s_ex_iff.mpr ⟨i, hi, by unfold s_bad; rw [if_pos c49, decide_eq_false c91]; exact Bool.or_true _⟩)⟩
      · refine w_iconst (v := 1) dX10_isConsistent_52 rfl ?_
        refine w_goto (t := 57) dX10_isConsistent_53 (by decide) ?_
        refine w_op (pc' := 59) (ll' := [_, _, _, _, _, _]) dX10_isConsistent_57 rfl ?_
        refine w_op (pc' := 61) dX10_isConsistent_59 rfl ?_
        refine t_getI (F := f_p_begins) dX10_isConsistent_61 rfl rfl (by decide) rfl ⟨rfl, fun _ => rfl⟩ (hR.2.2.1 i hi) ?_
        refine w_op (pc' := 66) dX10_isConsistent_64 rfl ?_
        refine t_getI (F := f_p_ends) dX10_isConsistent_66 rfl rfl (by decide) rfl ⟨rfl, fun _ => rfl⟩ (hR.2.2.1 i hi) ?_
        refine w_op (pc' := 71) dX10_isConsistent_69 rfl ?_
        refine w_op (pc' := 72) dX10_isConsistent_71 rfl ?_
        refine w_icmpne (t := 94) dX10_isConsistent_72 (by decide) (fun c72 => ?_) (fun c72 => ?_)
        · refine w_iconst (v := 0) dX10_isConsistent_94 rfl ?_
          exact w_ireturn dX10_isConsistent_95 ⟨s_rcb (Or.inl rfl), kx (s_ex_iff.mpr ⟨i, hi, by unfold s_bad; rw [if_neg c49, decide_eq_false c72]; rfl⟩)⟩
        · refine w_op (pc' := 77) dX10_isConsistent_75 rfl ?_
          refine t_callV (t := T_PIPE) (As := []) dX10_isConsistent_77 rfl rM_X6_allReasons (by decide) rfl rfl (by decide) (by decide) (Nat.le_of_ble_eq_true rfl) rfl (hR.2.2.1 i hi) (c_X6_allReasons (hR.2.2.1 i hi) ?_)
          show s_w _ _ _ 80 _ _ _ _
          refine w_op (pc' := 81) dX10_isConsistent_80 rfl ?_
          refine w_op (pc' := 82) dX10_isConsistent_81 rfl ?_
          refine w_op (pc' := 83) dX10_isConsistent_82 rfl ?_
          refine t_getI (F := f_r_lowest) dX10_isConsistent_83 rfl rfl (by decide) rfl ⟨rfl, fun _ => rfl⟩ hR.1 ?_
          refine w_op (pc' := 87) dX10_isConsistent_86 rfl ?_
          refine w_op (pc' := 88) dX10_isConsistent_87 rfl ?_
          refine t_callV (t := T_WORKS) (As := [_, _]) dX10_isConsistent_88 rfl rM_X10_reasonsAlone (by decide) rfl rfl (by decide) (by decide) (Nat.le_of_ble_eq_true rfl) rfl (hp.1 _ rfl) (c_X10_reasonsAlone hD ?_)
          show s_w _ _ _ 91 _ _ _ _
          refine w_icmpeq (t := 96) dX10_isConsistent_91 (by decide) (fun c91 => ?_) (fun c91 => ?_)
          · refine w_op (pc' := 99) (ll' := [_, _, _, _, _, _]) dX10_isConsistent_96 rfl ?_
            refine w_goto (t := 27) dX10_isConsistent_99 (by decide) ?_
            rw [show nI i + Int32.ofInt 1 = nI (i + 1) from nI_1 i]
            refine ih (i + 1) _ _ (by omega) ?_ (by omega)
            show (_ || _) = false
            rw [hf, Bool.false_or]
            unfold s_bad
            rw [if_neg c49, decide_eq_true c72, decide_eq_true c91]; rfl
          · refine w_iconst (v := 0) dX10_isConsistent_94 rfl ?_
            exact w_ireturn dX10_isConsistent_95 ⟨s_rcb (Or.inl rfl), kx (s_ex_iff.mpr ⟨i, hi, by unfold s_bad; rw [if_neg c49, decide_eq_false c91]; exact Bool.or_true _⟩)⟩
set_option maxRecDepth 100000 in
set_option maxHeartbeats 4000000 in
theorem l_X10_isConsistent {X : e_XT} {d : Nat} {p : e_Sp} {I : e_I} {J : e_Jt} {c : Nat × Nat} {w : e_Rw1} {Q : e_Rt → e_SS → Prop} {nk nr : Nat} (hD : s_D p I nk nr) (k : Q (.inl (some (.int (bI (s_con p I nk nr))))) (p, I, J, c, w)) : ∀ (n : Nat) (i : Nat) (o2 o3 o4 o5 : Option Value), (h1 : i ≤ nr) → (hf : s_ex i (fun r => s_ex (p.2.2.1 T_PARR r) (s_bad p I nk nr r)) = false) → (hn : nr - i < n) → s_w X (d + 5) K_X10_isConsistent 2 [some (.ref (p.1 T_WORKS 0)), some (.int (nI i)), o2, o3, o4, o5] [] (p, I, J, c, w) (fun r S' => e_rcr (some FieldType.boolean) r = true ∧ Q r S') := by
  intro n
  induction n with
  | zero =>
    intro i o2 o3 o4 o5 h1 hf hn
    exact absurd hn (Nat.not_lt_zero _)
  | succ n ih =>
    intro i o2 o3 o4 o5 h1 hf hn
    have hC := hD.1
    have hp := hC.1
    have hn40 := hC.2.1.1
    have hk40 := hC.2.1.2
    have hn10 := hC.2.2.1.1
    have hr10 := hC.2.2.1.2
    refine w_op (pc' := 3) dX10_isConsistent_2 rfl ?_
    refine w_op (pc' := 4) dX10_isConsistent_3 rfl ?_
    refine t_getG0 (G := g_w_ranks) dX10_isConsistent_4 rfl rfl (by decide) rfl (fun _ => rfl) (hp.1 _ rfl) ?_
    refine t_callV (t := T_LIST) (As := []) dX10_isConsistent_7 rfl rM_Jx4a65c_size_8abf5 (by decide) rfl rfl (by decide) (by decide) (Nat.le_of_ble_eq_true rfl) rfl (hp.2 _ (by decide)) (c_size (hp.2 _ (by decide)) ?_)
    show s_w _ _ _ 10 _ _ _ _
    rw [hr10]
    refine w_icmpge (t := 108) dX10_isConsistent_10 (by decide) (fun c10 => ?_) (fun c10 => ?_)
    · have hi : nr ≤ i := (nI_leI (a := nr) (by omega) (by omega)).mp c10
      refine w_iconst (v := 1) dX10_isConsistent_108 rfl ?_
      exact w_ireturn dX10_isConsistent_109 ⟨s_rcb (Or.inr rfl), s_eqi (by obtain rfl : i = nr := (by omega); rw [show s_con p I nk i = true from (by unfold s_con; rw [hf]; rfl)]; rfl) k⟩
    · have hi : i < nr := Nat.lt_of_not_le (fun z => c10 ((nI_leI (a := nr) (by omega) (by omega)).mpr z))
      refine w_op (pc' := 14) dX10_isConsistent_13 rfl ?_
      refine t_getG0 (G := g_w_ranks) dX10_isConsistent_14 rfl rfl (by decide) rfl (fun _ => rfl) (hp.1 _ rfl) ?_
      refine w_op (pc' := 18) dX10_isConsistent_17 rfl ?_
      refine t_callV (t := T_LIST) (As := [_]) dX10_isConsistent_18 rfl rM_Jx4a65c_get_915e3 (by decide) rfl rfl (by decide) (by decide) (Nat.le_of_ble_eq_true rfl) rfl (hp.2 _ (by decide)) (c_get0 hp hr10 (by omega) hi ?_)
      show s_w _ _ _ 21 _ _ _ _
      refine t_chk dX10_isConsistent_21 rfl rfl (by decide) (hD.rk hi) ?_
      refine w_op (pc' := 25) (ll' := [_, _, _, _, _, _]) dX10_isConsistent_24 rfl ?_
      refine w_iconst (v := 0) dX10_isConsistent_25 rfl ?_
      refine w_op (pc' := 27) (ll' := [_, _, _, _, _, _]) dX10_isConsistent_26 rfl ?_
      refine l2_X10_isConsistent hD hi (fun hb => ?_) (fun o3 o4 o5 hb => ?_) (p.2.2.1 T_PARR i + 1) 0 _ _ (Nat.zero_le _) rfl (by omega)
      · exact s_eqi (by rw [show s_con p I nk nr = false from (by unfold s_con; rw [s_ex_iff.mpr ⟨i, hi, hb⟩]; rfl)]; rfl) k
      refine w_op (pc' := 105) (ll' := [_, _, _, _, _, _]) dX10_isConsistent_102 rfl ?_
      refine w_goto (t := 2) dX10_isConsistent_105 (by decide) ?_
      rw [show nI i + Int32.ofInt 1 = nI (i + 1) from nI_1 i]
      refine ih (i + 1) _ _ _ _ (by omega) ?_ (by omega)
      show (_ || s_ex (p.2.2.1 T_PARR i) (s_bad p I nk nr i)) = false
      rw [hf, hb]; rfl
set_option maxRecDepth 100000 in
set_option maxHeartbeats 4000000 in
theorem c_X10_isConsistent {X : e_XT} {d : Nat} {p : e_Sp} {I : e_I} {J : e_Jt} {c : Nat × Nat} {w : e_Rw1} {Q : e_Rt → e_SS → Prop} {nk nr : Nat} (hD : s_D p I nk nr) (k : Q (.inl (some (.int (bI (s_con p I nk nr))))) (p, I, J, c, w)) : s_c X (d + 5) 120 [.ref (p.1 T_WORKS 0)] (p, I, J, c, w) Q := by
  refine m_X10_isConsistent (Nat.le_of_ble_eq_true rfl) ?_
  show s_w _ _ _ 0 _ _ _ _
  refine w_iconst (v := 0) dX10_isConsistent_0 rfl ?_
  refine w_op (pc' := 2) (ll' := [_, _, _, _, _, _]) dX10_isConsistent_1 rfl ?_
  exact l_X10_isConsistent hD k (nr + 1) 0 _ _ _ _ (Nat.zero_le _) rfl (by have := hD.1.2.2.1.1; omega)
