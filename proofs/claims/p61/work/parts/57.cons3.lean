/-! 57: the console's rest (printed by wip/whole/p57.py) -/
def s_b1 (i : Nat) : Int64 := 1 <<< ((nI i).toInt64 &&& 63)
def s_bt (y : Int64) (i : Nat) : Bool := decide (lg_cmp ((y >>> ((nI i).toInt64 &&& 63)) &&& 1) 1 = 0)
def s_mtK (y z : Int64) (i : Nat) (a : e_I × Int32) : e_I × Int32 := if s_bt y i = true ∧ a.1 f_k_isLocked i = 0 ∧ ¬ a.1 f_k_isOut i = bI (s_bt z i) then (s_up a.1 f_k_isOut i (bI (s_bt z i)), a.2 + 1) else a
def s_mt (nk : Nat) (y z : Int64) (I : e_I) : e_I × Int32 := s_run (s_mtK y z) 0 nk (I, 0)
theorem s_eqC.mtK {y z : Int64} (i : Nat) (a : e_I × Int32) : s_eqC a.1 (s_mtK y z i a).1 := by
  unfold s_mtK
  split
  · exact s_eqC.up (by decide)
  · exact s_eqC.rfl'
theorem s_eqT.mtK {y z : Int64} (i : Nat) (a : e_I × Int32) : s_eqT a.1 (s_mtK y z i a).1 := by
  unfold s_mtK
  split
  · exact s_eqT.up (by decide)
  · exact s_eqT.rfl'
def s_ksK (I : e_I) (i : Nat) (a : Int64) : Int64 := if I f_k_isInScope i = 0 then a else a ||| s_b1 i
def s_ks (I : e_I) (nk : Nat) : Int64 := s_run (s_ksK I) 0 nk 0
def s_sfK (I : e_I) (x : Int32) (i : Nat) (a : Int64) : Int64 := if I f_k_kind i = 115 ∧ I f_k_division i = x then a ||| s_b1 i else a
def s_sof (I : e_I) (nk : Nat) (x : Int32) : Int64 := s_run (s_sfK I x) 0 nk 0
def s_daK (I : e_I) (i : Nat) (a : Int64) : Int64 := if I f_k_isOut i = 0 then a else a ||| s_b1 i
def s_da (I : e_I) (nk : Nat) (y : Int64) : Int64 := s_run (s_daK I) 0 nk 0 &&& y
def s_iss (x y : Int32) : Bool := if 400 ≤ x then decide (x - 400 < y) else decide (0 ≤ x) && (decide (x < 100) || !decide (s_idx (x / 100 - 1) (x - x / 100 * 100) < 0))
def s_pw (I : e_I) (x ch y z : Int32) : e_I := if 0 ≤ x ∧ x < 16 then s_up (s_up (s_up I f_a_operations x.toNatClampNeg ch) f_a_sources x.toNatClampNeg y) f_a_others x.toNatClampNeg z else I
set_option maxRecDepth 100000 in
set_option maxHeartbeats 4000000 in
theorem l_X0_moveTo {X : e_XT} {d : Nat} {p : e_Sp} {I : e_I} {J : e_Jt} {c : Nat × Nat} {w : e_Rw1} {Q : e_Rt → e_SS → Prop} {nk nr : Nat} (hC : s_C p I nk nr) {y z : Int64} {R : e_I × Int32} (k : Q (.inl (some (.int R.2))) (p, R.1, J, c, w)) : ∀ (n : Nat) (i : Nat) (I1 : e_I) (a2 : Int32) (o7 o8 : Option Value), (h1 : i ≤ nk) → (e : s_eqC I I1) → (hr : s_run (s_mtK y z) i (nk - i) (I1, a2) = R) → (hn : nk - i < n) → s_w X (d + 3) K_X0_moveTo 6 [some (.ref (p.1 T_CONS 0)), some (.long y), none, some (.long z), none, some (.int a2), some (.int (nI i)), o7, o8] [] (p, I1, J, c, w) (fun r S' => e_rcr (some FieldType.int) r = true ∧ Q r S') := by
  intro n
  induction n with
  | zero =>
    intro i I1 a2 o7 o8 h1 e hr hn
    exact absurd hn (Nat.not_lt_zero _)
  | succ n ih =>
    intro i I1 a2 o7 o8 h1 e hr hn
    have hC1 := hC.eq e
    have hp := hC1.1
    have hn40 := hC1.2.1.1
    have hk40 := hC1.2.1.2
    refine w_op (pc' := 8) dX0_moveTo_6 rfl ?_
    refine w_op (pc' := 9) dX0_moveTo_8 rfl ?_
    refine t_getG0 (G := g_n_knobs) dX0_moveTo_9 rfl rfl (by decide) rfl (fun _ => rfl) (hp.1 _ rfl) ?_
    refine t_callV (t := T_LIST) (As := []) dX0_moveTo_12 rfl rM_Jx4a65c_size_8abf5 (by decide) rfl rfl (by decide) (by decide) (Nat.le_of_ble_eq_true rfl) rfl (hp.2 _ (by decide)) (c_size (hp.2 _ (by decide)) ?_)
    show s_w _ _ _ 15 _ _ _ _
    rw [hk40]
    refine w_icmpge (t := 95) dX0_moveTo_15 (by decide) (fun c15 => ?_) (fun c15 => ?_)
    · have hi : nk ≤ i := (nI_leI (a := nk) (by omega) (by omega)).mp c15
      refine w_op (pc' := 97) dX0_moveTo_95 rfl ?_
      exact w_ireturn dX0_moveTo_97 ⟨rfl, by rw [s_run_z hi] at hr; subst hr; exact k⟩
    · have hi : i < nk := Nat.lt_of_not_le (fun z => c15 ((nI_leI (a := nk) (by omega) (by omega)).mpr z))
      refine w_op (pc' := 19) dX0_moveTo_18 rfl ?_
      refine t_getG0 (G := g_n_knobs) dX0_moveTo_19 rfl rfl (by decide) rfl (fun _ => rfl) (hp.1 _ rfl) ?_
      refine w_op (pc' := 24) dX0_moveTo_22 rfl ?_
      refine t_callV (t := T_LIST) (As := [_]) dX0_moveTo_24 rfl rM_Jx4a65c_get_915e3 (by decide) rfl rfl (by decide) (by decide) (Nat.le_of_ble_eq_true rfl) rfl (hp.2 _ (by decide)) (c_get1 hp hk40 (by omega) hi ?_)
      show s_w _ _ _ 27 _ _ _ _
      refine t_chk dX0_moveTo_27 rfl rfl (by decide) (hC1.kn hi) ?_
      refine w_op (pc' := 32) (ll' := [_, _, _, _, _, _, _, _, _]) dX0_moveTo_30 rfl ?_
      refine w_op (pc' := 33) dX0_moveTo_32 rfl ?_
      refine w_op (pc' := 35) dX0_moveTo_33 rfl ?_
      refine w_op (pc' := 36) dX0_moveTo_35 rfl ?_
      refine w_op (pc' := 37) dX0_moveTo_36 rfl ?_
      refine w_op (pc' := 38) dX0_moveTo_37 rfl ?_
      refine w_op (pc' := 39) dX0_moveTo_38 rfl ?_
      refine w_op (pc' := 40) dX0_moveTo_39 rfl ?_
      refine w_ifne (t := 47) dX0_moveTo_40 (by decide) (fun c40 => ?_) (fun c40 => ?_)
      · refine w_iconst (v := 0) dX0_moveTo_47 rfl ?_
        refine w_op (pc' := 50) (ll' := [_, _, _, _, _, _, _, _, _]) dX0_moveTo_48 rfl ?_
        refine w_op (pc' := 51) dX0_moveTo_50 rfl ?_
        refine w_op (pc' := 53) dX0_moveTo_51 rfl ?_
        refine w_op (pc' := 54) dX0_moveTo_53 rfl ?_
        refine w_op (pc' := 55) dX0_moveTo_54 rfl ?_
        refine w_op (pc' := 56) dX0_moveTo_55 rfl ?_
        refine w_op (pc' := 57) dX0_moveTo_56 rfl ?_
        refine w_op (pc' := 58) dX0_moveTo_57 rfl ?_
        refine w_ifne (t := 89) dX0_moveTo_58 (by decide) (fun c58 => ?_) (fun c58 => ?_)
        · refine w_op (pc' := 92) (ll' := [_, _, _, _, _, _, _, _, _]) dX0_moveTo_89 rfl ?_
          refine w_goto (t := 6) dX0_moveTo_92 (by decide) ?_
          rw [show nI i + Int32.ofInt 1 = nI (i + 1) from nI_1 i]
          have ez : s_bt z i = false := decide_eq_false c40
          have ef : s_mtK y z i (I1, a2) = (I1, a2) := by unfold s_mtK; rw [ez]; exact if_neg (fun u => c58 (of_decide_eq_true u.1))
          rw [s_run_s hi, ef] at hr
          exact ih (i + 1) _ _ _ _ (by omega) e hr (by omega)
        · refine w_op (pc' := 63) dX0_moveTo_61 rfl ?_
          refine t_getI (F := f_k_isLocked) dX0_moveTo_63 rfl rfl (by decide) rfl ⟨rfl, fun _ => rfl⟩ (hC1.kn hi) ?_
          refine w_ifne (t := 89) dX0_moveTo_66 (by decide) (fun c66 => ?_) (fun c66 => ?_)
          · refine w_op (pc' := 92) (ll' := [_, _, _, _, _, _, _, _, _]) dX0_moveTo_89 rfl ?_
            refine w_goto (t := 6) dX0_moveTo_92 (by decide) ?_
            rw [show nI i + Int32.ofInt 1 = nI (i + 1) from nI_1 i]
            have ez : s_bt z i = false := decide_eq_false c40
            have ef : s_mtK y z i (I1, a2) = (I1, a2) := by unfold s_mtK; rw [ez]; exact if_neg (fun u => c66 u.2.1)
            rw [s_run_s hi, ef] at hr
            exact ih (i + 1) _ _ _ _ (by omega) e hr (by omega)
          · refine w_op (pc' := 71) dX0_moveTo_69 rfl ?_
            refine t_getI (F := f_k_isOut) dX0_moveTo_71 rfl rfl (by decide) rfl ⟨rfl, fun _ => rfl⟩ (hC1.kn hi) ?_
            refine w_op (pc' := 76) dX0_moveTo_74 rfl ?_
            refine w_icmpeq (t := 89) dX0_moveTo_76 (by decide) (fun c76 => ?_) (fun c76 => ?_)
            · refine w_op (pc' := 92) (ll' := [_, _, _, _, _, _, _, _, _]) dX0_moveTo_89 rfl ?_
              refine w_goto (t := 6) dX0_moveTo_92 (by decide) ?_
              rw [show nI i + Int32.ofInt 1 = nI (i + 1) from nI_1 i]
              have ez : s_bt z i = false := decide_eq_false c40
              have ef : s_mtK y z i (I1, a2) = (I1, a2) := by unfold s_mtK; rw [ez]; exact if_neg (fun u => u.2.2 c76)
              rw [s_run_s hi, ef] at hr
              exact ih (i + 1) _ _ _ _ (by omega) e hr (by omega)
            · refine w_op (pc' := 81) dX0_moveTo_79 rfl ?_
              refine w_op (pc' := 83) dX0_moveTo_81 rfl ?_
              refine t_putI (F := f_k_isOut) dX0_moveTo_83 rfl rfl (by decide) (by decide) rfl (s_ckb (by first | exact Or.inl rfl | exact Or.inr rfl | assumption)) (Or.inl rfl) (hC1.kn hi) ?_
              refine w_op (pc' := 89) (ll' := [_, _, _, _, _, _, _, _, _]) dX0_moveTo_86 rfl ?_
              refine w_op (pc' := 92) (ll' := [_, _, _, _, _, _, _, _, _]) dX0_moveTo_89 rfl ?_
              refine w_goto (t := 6) dX0_moveTo_92 (by decide) ?_
              rw [show nI i + Int32.ofInt 1 = nI (i + 1) from nI_1 i]
              have ez : s_bt z i = false := decide_eq_false c40
              have ef : s_mtK y z i (I1, a2) = (s_up I1 f_k_isOut i 0, a2 + 1) := by unfold s_mtK; rw [ez]; exact if_pos ⟨decide_eq_true c58, c66, c76⟩
              rw [s_run_s hi, ef] at hr
              exact ih (i + 1) _ _ _ _ (by omega) (e.trans (s_eqC.up (by decide))) hr (by omega)
      · refine w_iconst (v := 1) dX0_moveTo_43 rfl ?_
        refine w_goto (t := 48) dX0_moveTo_44 (by decide) ?_
        refine w_op (pc' := 50) (ll' := [_, _, _, _, _, _, _, _, _]) dX0_moveTo_48 rfl ?_
        refine w_op (pc' := 51) dX0_moveTo_50 rfl ?_
        refine w_op (pc' := 53) dX0_moveTo_51 rfl ?_
        refine w_op (pc' := 54) dX0_moveTo_53 rfl ?_
        refine w_op (pc' := 55) dX0_moveTo_54 rfl ?_
        refine w_op (pc' := 56) dX0_moveTo_55 rfl ?_
        refine w_op (pc' := 57) dX0_moveTo_56 rfl ?_
        refine w_op (pc' := 58) dX0_moveTo_57 rfl ?_
        refine w_ifne (t := 89) dX0_moveTo_58 (by decide) (fun c58 => ?_) (fun c58 => ?_)
        · refine w_op (pc' := 92) (ll' := [_, _, _, _, _, _, _, _, _]) dX0_moveTo_89 rfl ?_
          refine w_goto (t := 6) dX0_moveTo_92 (by decide) ?_
          rw [show nI i + Int32.ofInt 1 = nI (i + 1) from nI_1 i]
          have ez : s_bt z i = true := decide_eq_true c40
          have ef : s_mtK y z i (I1, a2) = (I1, a2) := by unfold s_mtK; rw [ez]; exact if_neg (fun u => c58 (of_decide_eq_true u.1))
          rw [s_run_s hi, ef] at hr
          exact ih (i + 1) _ _ _ _ (by omega) e hr (by omega)
        · refine w_op (pc' := 63) dX0_moveTo_61 rfl ?_
          refine t_getI (F := f_k_isLocked) dX0_moveTo_63 rfl rfl (by decide) rfl ⟨rfl, fun _ => rfl⟩ (hC1.kn hi) ?_
          refine w_ifne (t := 89) dX0_moveTo_66 (by decide) (fun c66 => ?_) (fun c66 => ?_)
          · refine w_op (pc' := 92) (ll' := [_, _, _, _, _, _, _, _, _]) dX0_moveTo_89 rfl ?_
            refine w_goto (t := 6) dX0_moveTo_92 (by decide) ?_
            rw [show nI i + Int32.ofInt 1 = nI (i + 1) from nI_1 i]
            have ez : s_bt z i = true := decide_eq_true c40
            have ef : s_mtK y z i (I1, a2) = (I1, a2) := by unfold s_mtK; rw [ez]; exact if_neg (fun u => c66 u.2.1)
            rw [s_run_s hi, ef] at hr
            exact ih (i + 1) _ _ _ _ (by omega) e hr (by omega)
          · refine w_op (pc' := 71) dX0_moveTo_69 rfl ?_
            refine t_getI (F := f_k_isOut) dX0_moveTo_71 rfl rfl (by decide) rfl ⟨rfl, fun _ => rfl⟩ (hC1.kn hi) ?_
            refine w_op (pc' := 76) dX0_moveTo_74 rfl ?_
            refine w_icmpeq (t := 89) dX0_moveTo_76 (by decide) (fun c76 => ?_) (fun c76 => ?_)
            · refine w_op (pc' := 92) (ll' := [_, _, _, _, _, _, _, _, _]) dX0_moveTo_89 rfl ?_
              refine w_goto (t := 6) dX0_moveTo_92 (by decide) ?_
              rw [show nI i + Int32.ofInt 1 = nI (i + 1) from nI_1 i]
              have ez : s_bt z i = true := decide_eq_true c40
              have ef : s_mtK y z i (I1, a2) = (I1, a2) := by unfold s_mtK; rw [ez]; exact if_neg (fun u => u.2.2 c76)
              rw [s_run_s hi, ef] at hr
              exact ih (i + 1) _ _ _ _ (by omega) e hr (by omega)
            · refine w_op (pc' := 81) dX0_moveTo_79 rfl ?_
              refine w_op (pc' := 83) dX0_moveTo_81 rfl ?_
              refine t_putI (F := f_k_isOut) dX0_moveTo_83 rfl rfl (by decide) (by decide) rfl (s_ckb (by first | exact Or.inl rfl | exact Or.inr rfl | assumption)) (Or.inl rfl) (hC1.kn hi) ?_
              refine w_op (pc' := 89) (ll' := [_, _, _, _, _, _, _, _, _]) dX0_moveTo_86 rfl ?_
              refine w_op (pc' := 92) (ll' := [_, _, _, _, _, _, _, _, _]) dX0_moveTo_89 rfl ?_
              refine w_goto (t := 6) dX0_moveTo_92 (by decide) ?_
              rw [show nI i + Int32.ofInt 1 = nI (i + 1) from nI_1 i]
              have ez : s_bt z i = true := decide_eq_true c40
              have ef : s_mtK y z i (I1, a2) = (s_up I1 f_k_isOut i 1, a2 + 1) := by unfold s_mtK; rw [ez]; exact if_pos ⟨decide_eq_true c58, c66, c76⟩
              rw [s_run_s hi, ef] at hr
              exact ih (i + 1) _ _ _ _ (by omega) (e.trans (s_eqC.up (by decide))) hr (by omega)
set_option maxRecDepth 100000 in
set_option maxHeartbeats 4000000 in
theorem c_X0_moveTo {X : e_XT} {d : Nat} {p : e_Sp} {I : e_I} {J : e_Jt} {c : Nat × Nat} {w : e_Rw1} {Q : e_Rt → e_SS → Prop} {nk nr : Nat} (hC : s_C p I nk nr) {y z : Int64} (k : Q (.inl (some (.int (s_mt nk y z I).2))) (p, (s_mt nk y z I).1, J, c, w)) : s_c X (d + 3) 25 [.ref (p.1 T_CONS 0), .long y, .long z] (p, I, J, c, w) Q := by
  refine m_X0_moveTo (Nat.le_of_ble_eq_true rfl) ?_
  show s_w _ _ _ 0 _ _ _ _
  refine w_iconst (v := 0) dX0_moveTo_0 rfl ?_
  refine w_op (pc' := 3) (ll' := [_, _, _, _, _, _, _, _, _]) dX0_moveTo_1 rfl ?_
  refine w_iconst (v := 0) dX0_moveTo_3 rfl ?_
  refine w_op (pc' := 6) (ll' := [_, _, _, _, _, _, _, _, _]) dX0_moveTo_4 rfl ?_
  exact l_X0_moveTo hC k (nk + 1) 0 I 0 _ _ (Nat.zero_le _) s_eqC.rfl' rfl (by omega)
set_option maxRecDepth 100000 in
set_option maxHeartbeats 4000000 in
theorem l_X0_knobsInScope {X : e_XT} {d : Nat} {p : e_Sp} {I : e_I} {J : e_Jt} {c : Nat × Nat} {w : e_Rw1} {Q : e_Rt → e_SS → Prop} {nk nr : Nat} (hC : s_C p I nk nr) {R : Int64} (k : Q (.inl (some (.long (R)))) (p, I, J, c, w)) : ∀ (n : Nat) (i : Nat) (a : Int64), (h1 : i ≤ nk) → (hr : s_run (s_ksK I) i (nk - i) a = R) → (hn : nk - i < n) → s_w X (d + 3) K_X0_knobsInScope 4 [some (.ref (p.1 T_CONS 0)), some (.long a), none, some (.int (nI i))] [] (p, I, J, c, w) (fun r S' => e_rcr (some FieldType.long) r = true ∧ Q r S') := by
  intro n
  induction n with
  | zero =>
    intro i a h1 hr hn
    exact absurd hn (Nat.not_lt_zero _)
  | succ n ih =>
    intro i a h1 hr hn
    have hp := hC.1
    have hn40 := hC.2.1.1
    have hk40 := hC.2.1.2
    refine w_op (pc' := 5) dX0_knobsInScope_4 rfl ?_
    refine w_op (pc' := 6) dX0_knobsInScope_5 rfl ?_
    refine t_getG0 (G := g_n_knobs) dX0_knobsInScope_6 rfl rfl (by decide) rfl (fun _ => rfl) (hp.1 _ rfl) ?_
    refine t_callV (t := T_LIST) (As := []) dX0_knobsInScope_9 rfl rM_Jx4a65c_size_8abf5 (by decide) rfl rfl (by decide) (by decide) (Nat.le_of_ble_eq_true rfl) rfl (hp.2 _ (by decide)) (c_size (hp.2 _ (by decide)) ?_)
    show s_w _ _ _ 12 _ _ _ _
    rw [hk40]
    refine w_icmpge (t := 44) dX0_knobsInScope_12 (by decide) (fun c12 => ?_) (fun c12 => ?_)
    · have hi : nk ≤ i := (nI_leI (a := nk) (by omega) (by omega)).mp c12
      refine w_op (pc' := 45) dX0_knobsInScope_44 rfl ?_
      exact w_lreturn dX0_knobsInScope_45 ⟨rfl, by rw [s_run_z hi] at hr; subst hr; exact k⟩
    · have hi : i < nk := Nat.lt_of_not_le (fun z => c12 ((nI_leI (a := nk) (by omega) (by omega)).mpr z))
      refine w_op (pc' := 16) dX0_knobsInScope_15 rfl ?_
      refine t_getG0 (G := g_n_knobs) dX0_knobsInScope_16 rfl rfl (by decide) rfl (fun _ => rfl) (hp.1 _ rfl) ?_
      refine w_op (pc' := 20) dX0_knobsInScope_19 rfl ?_
      refine t_callV (t := T_LIST) (As := [_]) dX0_knobsInScope_20 rfl rM_Jx4a65c_get_915e3 (by decide) rfl rfl (by decide) (by decide) (Nat.le_of_ble_eq_true rfl) rfl (hp.2 _ (by decide)) (c_get1 hp hk40 (by omega) hi ?_)
      show s_w _ _ _ 23 _ _ _ _
      refine t_chk dX0_knobsInScope_23 rfl rfl (by decide) (hC.kn hi) ?_
      refine t_getI (F := f_k_isInScope) dX0_knobsInScope_26 rfl rfl (by decide) rfl ⟨rfl, fun _ => rfl⟩ (hC.kn hi) ?_
      refine w_ifeq (t := 38) dX0_knobsInScope_29 (by decide) (fun c29 => ?_) (fun c29 => ?_)
      · refine w_op (pc' := 41) (ll' := [_, _, _, _]) dX0_knobsInScope_38 rfl ?_
        refine w_goto (t := 4) dX0_knobsInScope_41 (by decide) ?_
        rw [show nI i + Int32.ofInt 1 = nI (i + 1) from nI_1 i]
        have ef : s_ksK I i a = a := if_pos c29
        rw [s_run_s hi, ef] at hr
        exact ih (i + 1) _ (by omega) hr (by omega)
      · refine w_op (pc' := 33) dX0_knobsInScope_32 rfl ?_
        refine w_op (pc' := 34) dX0_knobsInScope_33 rfl ?_
        refine w_op (pc' := 35) dX0_knobsInScope_34 rfl ?_
        refine w_op (pc' := 36) dX0_knobsInScope_35 rfl ?_
        refine w_op (pc' := 37) dX0_knobsInScope_36 rfl ?_
        refine w_op (pc' := 38) (ll' := [_, _, _, _]) dX0_knobsInScope_37 rfl ?_
        refine w_op (pc' := 41) (ll' := [_, _, _, _]) dX0_knobsInScope_38 rfl ?_
        refine w_goto (t := 4) dX0_knobsInScope_41 (by decide) ?_
        rw [show nI i + Int32.ofInt 1 = nI (i + 1) from nI_1 i]
        have ef : s_ksK I i a = a ||| s_b1 i := if_neg c29
        rw [s_run_s hi, ef] at hr
        exact ih (i + 1) _ (by omega) hr (by omega)
set_option maxRecDepth 100000 in
set_option maxHeartbeats 4000000 in
theorem c_X0_knobsInScope {X : e_XT} {d : Nat} {p : e_Sp} {I : e_I} {J : e_Jt} {c : Nat × Nat} {w : e_Rw1} {Q : e_Rt → e_SS → Prop} {nk nr : Nat} (hC : s_C p I nk nr) (k : Q (.inl (some (.long (s_ks I nk)))) (p, I, J, c, w)) : s_c X (d + 3) 27 [.ref (p.1 T_CONS 0)] (p, I, J, c, w) Q := by
  refine m_X0_knobsInScope (Nat.le_of_ble_eq_true rfl) ?_
  show s_w _ _ _ 0 _ _ _ _
  refine w_op (pc' := 1) dX0_knobsInScope_0 rfl ?_
  refine w_op (pc' := 2) (ll' := [_, _, _, _]) dX0_knobsInScope_1 rfl ?_
  refine w_iconst (v := 0) dX0_knobsInScope_2 rfl ?_
  refine w_op (pc' := 4) (ll' := [_, _, _, _]) dX0_knobsInScope_3 rfl ?_
  exact l_X0_knobsInScope hC k (nk + 1) 0 0 (Nat.zero_le _) rfl (by have := hC.2.1.1; omega)
set_option maxRecDepth 100000 in
set_option maxHeartbeats 4000000 in
theorem l_X0_stopsOf {X : e_XT} {d : Nat} {p : e_Sp} {I : e_I} {J : e_Jt} {c : Nat × Nat} {w : e_Rw1} {Q : e_Rt → e_SS → Prop} {nk nr : Nat} (hC : s_C p I nk nr) {x : Int32} {R : Int64} (k : Q (.inl (some (.long (R)))) (p, I, J, c, w)) : ∀ (n : Nat) (i : Nat) (a : Int64) (o5 : Option Value), (h1 : i ≤ nk) → (hr : s_run (s_sfK I x) i (nk - i) a = R) → (hn : nk - i < n) → s_w X (d + 3) K_X0_stopsOf 5 [some (.ref (p.1 T_CONS 0)), some (.int x), some (.long a), none, some (.int (nI i)), o5] [] (p, I, J, c, w) (fun r S' => e_rcr (some FieldType.long) r = true ∧ Q r S') := by
  intro n
  induction n with
  | zero =>
    intro i a o5 h1 hr hn
    exact absurd hn (Nat.not_lt_zero _)
  | succ n ih =>
    intro i a o5 h1 hr hn
    have hp := hC.1
    have hn40 := hC.2.1.1
    have hk40 := hC.2.1.2
    refine w_op (pc' := 7) dX0_stopsOf_5 rfl ?_
    refine w_op (pc' := 8) dX0_stopsOf_7 rfl ?_
    refine t_getG0 (G := g_n_knobs) dX0_stopsOf_8 rfl rfl (by decide) rfl (fun _ => rfl) (hp.1 _ rfl) ?_
    refine t_callV (t := T_LIST) (As := []) dX0_stopsOf_11 rfl rM_Jx4a65c_size_8abf5 (by decide) rfl rfl (by decide) (by decide) (Nat.le_of_ble_eq_true rfl) rfl (hp.2 _ (by decide)) (c_size (hp.2 _ (by decide)) ?_)
    show s_w _ _ _ 14 _ _ _ _
    rw [hk40]
    refine w_icmpge (t := 63) dX0_stopsOf_14 (by decide) (fun c14 => ?_) (fun c14 => ?_)
    · have hi : nk ≤ i := (nI_leI (a := nk) (by omega) (by omega)).mp c14
      refine w_op (pc' := 64) dX0_stopsOf_63 rfl ?_
      exact w_lreturn dX0_stopsOf_64 ⟨rfl, by rw [s_run_z hi] at hr; subst hr; exact k⟩
    · have hi : i < nk := Nat.lt_of_not_le (fun z => c14 ((nI_leI (a := nk) (by omega) (by omega)).mpr z))
      refine w_op (pc' := 18) dX0_stopsOf_17 rfl ?_
      refine t_getG0 (G := g_n_knobs) dX0_stopsOf_18 rfl rfl (by decide) rfl (fun _ => rfl) (hp.1 _ rfl) ?_
      refine w_op (pc' := 23) dX0_stopsOf_21 rfl ?_
      refine t_callV (t := T_LIST) (As := [_]) dX0_stopsOf_23 rfl rM_Jx4a65c_get_915e3 (by decide) rfl rfl (by decide) (by decide) (Nat.le_of_ble_eq_true rfl) rfl (hp.2 _ (by decide)) (c_get1 hp hk40 (by omega) hi ?_)
      show s_w _ _ _ 26 _ _ _ _
      refine t_chk dX0_stopsOf_26 rfl rfl (by decide) (hC.kn hi) ?_
      refine w_op (pc' := 31) (ll' := [_, _, _, _, _, _]) dX0_stopsOf_29 rfl ?_
      refine w_op (pc' := 33) dX0_stopsOf_31 rfl ?_
      refine t_getI (F := f_k_kind) dX0_stopsOf_33 rfl rfl (by decide) rfl ⟨rfl, fun _ => rfl⟩ (hC.kn hi) ?_
      refine w_bipush (v := 115) dX0_stopsOf_36 rfl ?_
      refine w_icmpne (t := 57) dX0_stopsOf_38 (by decide) (fun c38 => ?_) (fun c38 => ?_)
      · refine w_op (pc' := 60) (ll' := [_, _, _, _, _, _]) dX0_stopsOf_57 rfl ?_
        refine w_goto (t := 5) dX0_stopsOf_60 (by decide) ?_
        rw [show nI i + Int32.ofInt 1 = nI (i + 1) from nI_1 i]
        have ef : s_sfK I x i a = a := if_neg (fun z => c38 z.1)
        rw [s_run_s hi, ef] at hr
        exact ih (i + 1) _ _ (by omega) hr (by omega)
      · refine w_op (pc' := 43) dX0_stopsOf_41 rfl ?_
        refine t_getI (F := f_k_division) dX0_stopsOf_43 rfl rfl (by decide) rfl ⟨rfl, fun _ => rfl⟩ (hC.kn hi) ?_
        refine w_op (pc' := 47) dX0_stopsOf_46 rfl ?_
        refine w_icmpne (t := 57) dX0_stopsOf_47 (by decide) (fun c47 => ?_) (fun c47 => ?_)
        · refine w_op (pc' := 60) (ll' := [_, _, _, _, _, _]) dX0_stopsOf_57 rfl ?_
          refine w_goto (t := 5) dX0_stopsOf_60 (by decide) ?_
          rw [show nI i + Int32.ofInt 1 = nI (i + 1) from nI_1 i]
          have ef : s_sfK I x i a = a := if_neg (fun z => c47 z.2)
          rw [s_run_s hi, ef] at hr
          exact ih (i + 1) _ _ (by omega) hr (by omega)
        · refine w_op (pc' := 51) dX0_stopsOf_50 rfl ?_
          refine w_op (pc' := 52) dX0_stopsOf_51 rfl ?_
          refine w_op (pc' := 54) dX0_stopsOf_52 rfl ?_
          refine w_op (pc' := 55) dX0_stopsOf_54 rfl ?_
          refine w_op (pc' := 56) dX0_stopsOf_55 rfl ?_
          refine w_op (pc' := 57) (ll' := [_, _, _, _, _, _]) dX0_stopsOf_56 rfl ?_
          refine w_op (pc' := 60) (ll' := [_, _, _, _, _, _]) dX0_stopsOf_57 rfl ?_
          refine w_goto (t := 5) dX0_stopsOf_60 (by decide) ?_
          rw [show nI i + Int32.ofInt 1 = nI (i + 1) from nI_1 i]
          have ef : s_sfK I x i a = a ||| s_b1 i := if_pos ⟨c38, c47⟩
          rw [s_run_s hi, ef] at hr
          exact ih (i + 1) _ _ (by omega) hr (by omega)
set_option maxRecDepth 100000 in
set_option maxHeartbeats 4000000 in
theorem c_X0_stopsOf {X : e_XT} {d : Nat} {p : e_Sp} {I : e_I} {J : e_Jt} {c : Nat × Nat} {w : e_Rw1} {Q : e_Rt → e_SS → Prop} {nk nr : Nat} (hC : s_C p I nk nr) {x : Int32} (k : Q (.inl (some (.long (s_sof I nk x)))) (p, I, J, c, w)) : s_c X (d + 3) 28 [.ref (p.1 T_CONS 0), .int x] (p, I, J, c, w) Q := by
  refine m_X0_stopsOf (Nat.le_of_ble_eq_true rfl) ?_
  show s_w _ _ _ 0 _ _ _ _
  refine w_op (pc' := 1) dX0_stopsOf_0 rfl ?_
  refine w_op (pc' := 2) (ll' := [_, _, _, _, _, _]) dX0_stopsOf_1 rfl ?_
  refine w_iconst (v := 0) dX0_stopsOf_2 rfl ?_
  refine w_op (pc' := 5) (ll' := [_, _, _, _, _, _]) dX0_stopsOf_3 rfl ?_
  exact l_X0_stopsOf hC k (nk + 1) 0 0 _ (Nat.zero_le _) rfl (by have := hC.2.1.1; omega)
set_option maxRecDepth 100000 in
set_option maxHeartbeats 4000000 in
theorem l_X0_drawnAmong {X : e_XT} {d : Nat} {p : e_Sp} {I : e_I} {J : e_Jt} {c : Nat × Nat} {w : e_Rw1} {Q : e_Rt → e_SS → Prop} {nk nr : Nat} (hC : s_C p I nk nr) {y : Int64} {R : Int64} (k : Q (.inl (some (.long (R &&& y)))) (p, I, J, c, w)) : ∀ (n : Nat) (i : Nat) (a : Int64), (h1 : i ≤ nk) → (hr : s_run (s_daK I) i (nk - i) a = R) → (hn : nk - i < n) → s_w X (d + 3) K_X0_drawnAmong 5 [some (.ref (p.1 T_CONS 0)), some (.long y), none, some (.long a), none, some (.int (nI i))] [] (p, I, J, c, w) (fun r S' => e_rcr (some FieldType.long) r = true ∧ Q r S') := by
  intro n
  induction n with
  | zero =>
    intro i a h1 hr hn
    exact absurd hn (Nat.not_lt_zero _)
  | succ n ih =>
    intro i a h1 hr hn
    have hp := hC.1
    have hn40 := hC.2.1.1
    have hk40 := hC.2.1.2
    refine w_op (pc' := 7) dX0_drawnAmong_5 rfl ?_
    refine w_op (pc' := 8) dX0_drawnAmong_7 rfl ?_
    refine t_getG0 (G := g_n_knobs) dX0_drawnAmong_8 rfl rfl (by decide) rfl (fun _ => rfl) (hp.1 _ rfl) ?_
    refine t_callV (t := T_LIST) (As := []) dX0_drawnAmong_11 rfl rM_Jx4a65c_size_8abf5 (by decide) rfl rfl (by decide) (by decide) (Nat.le_of_ble_eq_true rfl) rfl (hp.2 _ (by decide)) (c_size (hp.2 _ (by decide)) ?_)
    show s_w _ _ _ 14 _ _ _ _
    rw [hk40]
    refine w_icmpge (t := 48) dX0_drawnAmong_14 (by decide) (fun c14 => ?_) (fun c14 => ?_)
    · have hi : nk ≤ i := (nI_leI (a := nk) (by omega) (by omega)).mp c14
      refine w_op (pc' := 49) dX0_drawnAmong_48 rfl ?_
      refine w_op (pc' := 50) dX0_drawnAmong_49 rfl ?_
      refine w_op (pc' := 51) dX0_drawnAmong_50 rfl ?_
      exact w_lreturn dX0_drawnAmong_51 ⟨rfl, by rw [s_run_z hi] at hr; subst hr; exact k⟩
    · have hi : i < nk := Nat.lt_of_not_le (fun z => c14 ((nI_leI (a := nk) (by omega) (by omega)).mpr z))
      refine w_op (pc' := 18) dX0_drawnAmong_17 rfl ?_
      refine t_getG0 (G := g_n_knobs) dX0_drawnAmong_18 rfl rfl (by decide) rfl (fun _ => rfl) (hp.1 _ rfl) ?_
      refine w_op (pc' := 23) dX0_drawnAmong_21 rfl ?_
      refine t_callV (t := T_LIST) (As := [_]) dX0_drawnAmong_23 rfl rM_Jx4a65c_get_915e3 (by decide) rfl rfl (by decide) (by decide) (Nat.le_of_ble_eq_true rfl) rfl (hp.2 _ (by decide)) (c_get1 hp hk40 (by omega) hi ?_)
      show s_w _ _ _ 26 _ _ _ _
      refine t_chk dX0_drawnAmong_26 rfl rfl (by decide) (hC.kn hi) ?_
      refine t_getI (F := f_k_isOut) dX0_drawnAmong_29 rfl rfl (by decide) rfl ⟨rfl, fun _ => rfl⟩ (hC.kn hi) ?_
      refine w_ifeq (t := 42) dX0_drawnAmong_32 (by decide) (fun c32 => ?_) (fun c32 => ?_)
      · refine w_op (pc' := 45) (ll' := [_, _, _, _, _, _]) dX0_drawnAmong_42 rfl ?_
        refine w_goto (t := 5) dX0_drawnAmong_45 (by decide) ?_
        rw [show nI i + Int32.ofInt 1 = nI (i + 1) from nI_1 i]
        have ef : s_daK I i a = a := if_pos c32
        rw [s_run_s hi, ef] at hr
        exact ih (i + 1) _ (by omega) hr (by omega)
      · refine w_op (pc' := 36) dX0_drawnAmong_35 rfl ?_
        refine w_op (pc' := 37) dX0_drawnAmong_36 rfl ?_
        refine w_op (pc' := 39) dX0_drawnAmong_37 rfl ?_
        refine w_op (pc' := 40) dX0_drawnAmong_39 rfl ?_
        refine w_op (pc' := 41) dX0_drawnAmong_40 rfl ?_
        refine w_op (pc' := 42) (ll' := [_, _, _, _, _, _]) dX0_drawnAmong_41 rfl ?_
        refine w_op (pc' := 45) (ll' := [_, _, _, _, _, _]) dX0_drawnAmong_42 rfl ?_
        refine w_goto (t := 5) dX0_drawnAmong_45 (by decide) ?_
        rw [show nI i + Int32.ofInt 1 = nI (i + 1) from nI_1 i]
        have ef : s_daK I i a = a ||| s_b1 i := if_neg c32
        rw [s_run_s hi, ef] at hr
        exact ih (i + 1) _ (by omega) hr (by omega)
set_option maxRecDepth 100000 in
set_option maxHeartbeats 4000000 in
theorem c_X0_drawnAmong {X : e_XT} {d : Nat} {p : e_Sp} {I : e_I} {J : e_Jt} {c : Nat × Nat} {w : e_Rw1} {Q : e_Rt → e_SS → Prop} {nk nr : Nat} (hC : s_C p I nk nr) {y : Int64} (k : Q (.inl (some (.long (s_da I nk y)))) (p, I, J, c, w)) : s_c X (d + 3) 29 [.ref (p.1 T_CONS 0), .long y] (p, I, J, c, w) Q := by
  refine m_X0_drawnAmong (Nat.le_of_ble_eq_true rfl) ?_
  show s_w _ _ _ 0 _ _ _ _
  refine w_op (pc' := 1) dX0_drawnAmong_0 rfl ?_
  refine w_op (pc' := 2) (ll' := [_, _, _, _, _, _]) dX0_drawnAmong_1 rfl ?_
  refine w_iconst (v := 0) dX0_drawnAmong_2 rfl ?_
  refine w_op (pc' := 5) (ll' := [_, _, _, _, _, _]) dX0_drawnAmong_3 rfl ?_
  exact l_X0_drawnAmong hC k (nk + 1) 0 0 (Nat.zero_le _) rfl (by have := hC.2.1.1; omega)
set_option maxRecDepth 100000 in
set_option maxHeartbeats 4000000 in
theorem c_X0_allKnobs {X : e_XT} {d : Nat} {p : e_Sp} {I : e_I} {J : e_Jt} {c : Nat × Nat} {w : e_Rw1} {Q : e_Rt → e_SS → Prop} {nk nr : Nat} (hC : s_C p I nk nr) (k : Q (.inl (some (.long (s_b1 nk - 1)))) (p, I, J, c, w)) : s_c X (d + 1) 30 [.ref (p.1 T_CONS 0)] (p, I, J, c, w) Q := by
  have hp := hC.1
  have hn40 := hC.2.1.1
  have hk40 := hC.2.1.2
  refine m_X0_allKnobs (Nat.le_of_ble_eq_true rfl) ?_
  show s_w _ _ _ 0 _ _ _ _
  refine w_op (pc' := 1) dX0_allKnobs_0 rfl ?_
  refine w_op (pc' := 2) dX0_allKnobs_1 rfl ?_
  refine t_getG0 (G := g_n_knobs) dX0_allKnobs_2 rfl rfl (by decide) rfl (fun _ => rfl) (hp.1 _ rfl) ?_
  refine t_callV (t := T_LIST) (As := []) dX0_allKnobs_5 rfl rM_Jx4a65c_size_8abf5 (by decide) rfl rfl (by decide) (by decide) (Nat.le_of_ble_eq_true rfl) rfl (hp.2 _ (by decide)) (c_size (hp.2 _ (by decide)) ?_)
  show s_w _ _ _ 8 _ _ _ _
  rw [hk40]
  refine w_op (pc' := 9) dX0_allKnobs_8 rfl ?_
  refine w_op (pc' := 10) dX0_allKnobs_9 rfl ?_
  refine w_op (pc' := 11) dX0_allKnobs_10 rfl ?_
  exact w_lreturn dX0_allKnobs_11 ⟨rfl, k⟩
set_option maxRecDepth 100000 in
set_option maxHeartbeats 4000000 in
theorem c_X0_isSource {X : e_XT} {d : Nat} {p : e_Sp} {I : e_I} {J : e_Jt} {c : Nat × Nat} {w : e_Rw1} {Q : e_Rt → e_SS → Prop} {x y : Int32} (k : Q (.inl (some (.int (bI (s_iss x y))))) (p, I, J, c, w)) : s_c X (d + 1) 31 [.int x, .int y] (p, I, J, c, w) Q := by
  refine m_X0_isSource (Nat.le_of_ble_eq_true rfl) ?_
  show s_w _ _ _ 0 _ _ _ _
  refine w_op (pc' := 1) dX0_isSource_0 rfl ?_
  refine w_sipush (v := 400) dX0_isSource_1 rfl ?_
  refine w_icmplt (t := 22) dX0_isSource_4 (by decide) (fun c4 => ?_) (fun c4 => ?_)
  · refine w_op (pc' := 23) dX0_isSource_22 rfl ?_
    refine w_iflt (t := 52) dX0_isSource_23 (by decide) (fun c23 => ?_) (fun c23 => ?_)
    · refine w_iconst (v := 0) dX0_isSource_52 rfl ?_
      exact w_ireturn dX0_isSource_53 ⟨s_rcb (by first | exact Or.inl rfl | exact Or.inr rfl | exact bI_or _), s_eqi (by unfold s_iss; grind) k⟩
    · refine w_op (pc' := 27) dX0_isSource_26 rfl ?_
      refine w_bipush (v := 100) dX0_isSource_27 rfl ?_
      refine w_icmplt (t := 48) dX0_isSource_29 (by decide) (fun c29 => ?_) (fun c29 => ?_)
      · refine w_iconst (v := 1) dX0_isSource_48 rfl ?_
        refine w_goto (t := 53) dX0_isSource_49 (by decide) ?_
        exact w_ireturn dX0_isSource_53 ⟨s_rcb (by first | exact Or.inl rfl | exact Or.inr rfl | exact bI_or _), s_eqi (by unfold s_iss; grind) k⟩
      · refine w_op (pc' := 33) dX0_isSource_32 rfl ?_
        refine w_bipush (v := 100) dX0_isSource_33 rfl ?_
        refine w_op (pc' := 36) dX0_isSource_35 (by rfl) ?_
        refine w_iconst (v := 1) dX0_isSource_36 rfl ?_
        refine w_op (pc' := 38) dX0_isSource_37 rfl ?_
        refine w_op (pc' := 39) dX0_isSource_38 rfl ?_
        refine w_bipush (v := 100) dX0_isSource_39 rfl ?_
        refine w_op (pc' := 42) dX0_isSource_41 (by rfl) ?_
        refine t_callS (As := [_, _]) dX0_isSource_42 rfl rM_X3_indexOf (by decide) rfl rfl (by decide) (Nat.le_of_ble_eq_true rfl) (c_X3_indexOf ?_)
        show s_w _ _ _ 45 _ _ _ _
        refine w_iflt (t := 52) dX0_isSource_45 (by decide) (fun c45 => ?_) (fun c45 => ?_)
        · refine w_iconst (v := 0) dX0_isSource_52 rfl ?_
          exact w_ireturn dX0_isSource_53 ⟨s_rcb (by first | exact Or.inl rfl | exact Or.inr rfl | exact bI_or _), s_eqi (by unfold s_iss; grind) k⟩
        · refine w_iconst (v := 1) dX0_isSource_48 rfl ?_
          refine w_goto (t := 53) dX0_isSource_49 (by decide) ?_
          exact w_ireturn dX0_isSource_53 ⟨s_rcb (by first | exact Or.inl rfl | exact Or.inr rfl | exact bI_or _), s_eqi (by unfold s_iss; grind) k⟩
  · refine w_op (pc' := 8) dX0_isSource_7 rfl ?_
    refine w_sipush (v := 400) dX0_isSource_8 rfl ?_
    refine w_op (pc' := 12) dX0_isSource_11 rfl ?_
    refine w_op (pc' := 13) dX0_isSource_12 rfl ?_
    refine w_icmpge (t := 20) dX0_isSource_13 (by decide) (fun c13 => ?_) (fun c13 => ?_)
    · refine w_iconst (v := 0) dX0_isSource_20 rfl ?_
      exact w_ireturn dX0_isSource_21 ⟨s_rcb (by first | exact Or.inl rfl | exact Or.inr rfl | exact bI_or _), s_eqi (by unfold s_iss; grind) k⟩
    · refine w_iconst (v := 1) dX0_isSource_16 rfl ?_
      refine w_goto (t := 21) dX0_isSource_17 (by decide) ?_
      exact w_ireturn dX0_isSource_21 ⟨s_rcb (by first | exact Or.inl rfl | exact Or.inr rfl | exact bI_or _), s_eqi (by unfold s_iss; grind) k⟩
set_option maxRecDepth 100000 in
set_option maxHeartbeats 4000000 in
theorem c_X0_putWires {X : e_XT} {d : Nat} {p : e_Sp} {I : e_I} {J : e_Jt} {c : Nat × Nat} {w : e_Rw1} {Q : e_Rt → e_SS → Prop} {nk nr : Nat} (hC : s_C p I nk nr) {x ch y z : Int32} (hch : vp_nar .char ch = ch) (k : Q (.inl none) (p, s_pw I x ch y z, J, c, w)) : s_c X (d + 0) 32 [.ref (p.1 T_CONS 0), .int x, .int ch, .int y, .int z] (p, I, J, c, w) Q := by
  have hp := hC.1
  have hn40 := hC.2.1.1
  have hk40 := hC.2.1.2
  refine m_X0_putWires (Nat.le_of_ble_eq_true rfl) ?_
  show s_w _ _ _ 0 _ _ _ _
  refine w_op (pc' := 1) dX0_putWires_0 rfl ?_
  refine w_iflt (t := 32) dX0_putWires_1 (by decide) (fun c1 => ?_) (fun c1 => ?_)
  · exact w_return dX0_putWires_32 ⟨rfl, (by unfold s_pw at k; rw [if_neg (fun u => Int32.not_lt.mpr u.1 c1)] at k; exact k)⟩
  · refine w_op (pc' := 5) dX0_putWires_4 rfl ?_
    refine w_bipush (v := 16) dX0_putWires_5 rfl ?_
    refine w_icmpge (t := 32) dX0_putWires_7 (by decide) (fun c7 => ?_) (fun c7 => ?_)
    · exact w_return dX0_putWires_32 ⟨rfl, (by unfold s_pw at k; rw [if_neg (fun u => Int32.not_lt.mpr c7 u.2)] at k; exact k)⟩
    · refine w_op (pc' := 11) dX0_putWires_10 rfl ?_
      refine t_getG0 (G := g_n_operations) dX0_putWires_11 rfl rfl (by decide) rfl (fun _ => rfl) (hp.1 _ rfl) ?_
      refine w_op (pc' := 15) dX0_putWires_14 rfl ?_
      refine w_op (pc' := 16) dX0_putWires_15 rfl ?_
      refine t_cast0 (F := f_a_operations) dX0_putWires_16 rfl (by decide) (by decide) rfl (hp.1 _ rfl) (s_ixo (N := 16) (Int32.not_lt.mp c1) (Int32.not_le.mp c7) (by decide)) (s_ixo (N := 16) (Int32.not_lt.mp c1) (Int32.not_le.mp c7) (by decide)).2.2 hch ?_
      refine w_op (pc' := 18) dX0_putWires_17 rfl ?_
      refine t_getG0 (G := g_n_sources) dX0_putWires_18 rfl rfl (by decide) rfl (fun _ => rfl) (hp.1 _ rfl) ?_
      refine w_op (pc' := 22) dX0_putWires_21 rfl ?_
      refine w_op (pc' := 23) dX0_putWires_22 rfl ?_
      refine t_iast0 (F := f_a_sources) dX0_putWires_23 rfl (by decide) (by decide) rfl (hp.1 _ rfl) (s_ixo (N := 16) (Int32.not_lt.mp c1) (Int32.not_le.mp c7) (by decide)) (s_ixo (N := 16) (Int32.not_lt.mp c1) (Int32.not_le.mp c7) (by decide)).2.2 ?_
      refine w_op (pc' := 25) dX0_putWires_24 rfl ?_
      refine t_getG0 (G := g_n_others) dX0_putWires_25 rfl rfl (by decide) rfl (fun _ => rfl) (hp.1 _ rfl) ?_
      refine w_op (pc' := 29) dX0_putWires_28 rfl ?_
      refine w_op (pc' := 31) dX0_putWires_29 rfl ?_
      refine t_iast0 (F := f_a_others) dX0_putWires_31 rfl (by decide) (by decide) rfl (hp.1 _ rfl) (s_ixo (N := 16) (Int32.not_lt.mp c1) (Int32.not_le.mp c7) (by decide)) (s_ixo (N := 16) (Int32.not_lt.mp c1) (Int32.not_le.mp c7) (by decide)).2.2 ?_
      exact w_return dX0_putWires_32 ⟨rfl, (by unfold s_pw at k; rw [if_pos ⟨Int32.not_lt.mp c1, Int32.not_le.mp c7⟩] at k; exact k)⟩
