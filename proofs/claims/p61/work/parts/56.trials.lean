/-! 56: trials of a hunt (printed by wip/whole/p56.py) -/
theorem nI_div2 {m : Nat} (h : m < 2147483648) : nI m / 2 = nI (m / 2) := by
  apply Int32.toInt_inj.mp
  rw [Int32.toInt_div_of_ne_right _ _ (by decide), nI_toInt h, nI_toInt (by omega), show (2 : Int32).toInt = 2 from rfl, Int.tdiv_eq_ediv_of_nonneg (by omega)]
  omega
def s_ti (p : e_Sp) (I : e_I) (r : Nat) : Nat → Nat → Nat → Int32 → Int32
  | 0, _, _, _ => 0
  | k + 1, u, v, x => if v ≤ u ∨ 40 < x then 0 else 1 + (if s_hf p I r u (u + (v - u) / 2) = true then 1 + s_ti p I r k u (u + (v - u) / 2) (x + 1) else 0) + (if s_hf p I r (u + (v - u) / 2 + 1) v = true then s_ti p I r k (u + (v - u) / 2 + 1) v (x + 1) else 0)
def s_tri (p : e_Sp) (I : e_I) (r : Nat) : Int32 := if s_hf p I r 0 (p.2.2.1 T_PARR r - 1) = true then 1 + s_ti p I r 7 0 (p.2.2.1 T_PARR r - 1) 0 else 1
set_option maxRecDepth 100000 in
set_option maxHeartbeats 4000000 in
theorem c_X7_trialsInside {X : e_XT} {p : e_Sp} {I : e_I} {J : e_Jt} {c : Nat × Nat} {w : e_Rw1} {r : Nat} (hR : s_Rk p I r) : ∀ (k d u v : Nat) (x : Int32) (Q : e_Rt → e_SS → Prop), v < u + 2 ^ k → u < 900 → v < 900 → Q (.inl (some (.int (s_ti p I r k u v x)))) (p, I, J, c, w) → s_c X (d + k + 1) 86 [.ref (p.1 T_PARR r), .int (nI u), .int (nI v), .int x] (p, I, J, c, w) Q := by
  intro k
  induction k with
  | zero =>
    intro d u v x Q h1 h2 h3 kQ
    refine m_X7_trialsInside (Nat.le_of_ble_eq_true rfl) ?_
    show s_w _ _ _ 0 _ _ _ _
    refine w_op (pc' := 1) dX7_trialsInside_0 rfl ?_
    refine w_op (pc' := 2) dX7_trialsInside_1 rfl ?_
    refine w_icmpge (t := 11) dX7_trialsInside_2 (by decide) (fun c2 => ?_) (fun c2 => ?_)
    · refine w_iconst (v := 0) dX7_trialsInside_11 rfl ?_
      exact w_ireturn dX7_trialsInside_12 ⟨rfl, kQ⟩
    · exact absurd ((nI_leI (by omega) (by omega)).mpr (by rw [Nat.pow_zero] at h1; omega)) c2
  | succ k ih =>
    intro d u v x Q h1 h2 h3 kQ
    have hpw : 2 ^ (k + 1) = 2 * 2 ^ k := by rw [Nat.pow_succ]; omega
    show s_c X (d + k + 1 + 1) _ _ _ _
    refine m_X7_trialsInside (Nat.le_of_ble_eq_true rfl) ?_
    show s_w _ _ _ 0 _ _ _ _
    refine w_op (pc' := 1) dX7_trialsInside_0 rfl ?_
    refine w_op (pc' := 2) dX7_trialsInside_1 rfl ?_
    refine w_icmpge (t := 11) dX7_trialsInside_2 (by decide) (fun c2 => ?_) (fun c2 => ?_)
    · refine w_iconst (v := 0) dX7_trialsInside_11 rfl ?_
      exact w_ireturn dX7_trialsInside_12 ⟨rfl, s_eqi (if_pos (Or.inl ((nI_leI (by omega) (by omega)).mp c2))) kQ⟩
    · refine w_op (pc' := 6) dX7_trialsInside_5 rfl ?_
      refine w_bipush (v := 40) dX7_trialsInside_6 rfl ?_
      refine w_icmple (t := 13) dX7_trialsInside_8 (by decide) (fun c8 => ?_) (fun c8 => ?_)
      · have hlt : u < v := Nat.lt_of_not_le (fun y => c2 ((nI_leI (by omega) (by omega)).mpr y))
        have hmid : nI u + (nI v - nI u) / 2 = nI (u + (v - u) / 2) := by
          rw [show nI v - nI u = nI (v - u) from (by have := nI_add (v - u) u; rw [show v - u + u = v by omega] at this; rw [← this]; grind), nI_div2 (by omega), nI_add]
        refine w_op (pc' := 14) dX7_trialsInside_13 rfl ?_
        refine w_op (pc' := 15) dX7_trialsInside_14 rfl ?_
        refine w_op (pc' := 16) dX7_trialsInside_15 rfl ?_
        refine w_op (pc' := 17) dX7_trialsInside_16 rfl ?_
        refine w_iconst (v := 2) dX7_trialsInside_17 rfl ?_
        refine w_op (pc' := 19) dX7_trialsInside_18 (by rfl) ?_
        refine w_op (pc' := 20) dX7_trialsInside_19 rfl ?_
        rw [hmid]
        refine w_op (pc' := 22) (ll' := [_, _, _, _, _, _]) dX7_trialsInside_20 rfl ?_
        refine w_iconst (v := 1) dX7_trialsInside_22 rfl ?_
        refine w_op (pc' := 25) (ll' := [_, _, _, _, _, _]) dX7_trialsInside_23 rfl ?_
        refine w_op (pc' := 26) dX7_trialsInside_25 rfl ?_
        refine w_op (pc' := 27) dX7_trialsInside_26 rfl ?_
        refine w_op (pc' := 29) dX7_trialsInside_27 rfl ?_
        refine t_callS (As := [_, _, _]) dX7_trialsInside_29 rfl rM_X7_hasFault (by decide) rfl rfl (by decide) (Nat.le_of_ble_eq_true rfl) (c_X7_hasFault hR (by omega) (by omega) ?_)
        show s_w _ _ _ 32 _ _ _ _
        refine w_ifeq (t := 52) dX7_trialsInside_32 (by decide) (fun c32 => ?_) (fun c32 => ?_)
        · refine w_op (pc' := 53) dX7_trialsInside_52 rfl ?_
          refine w_op (pc' := 55) dX7_trialsInside_53 rfl ?_
          refine w_iconst (v := 1) dX7_trialsInside_55 rfl ?_
          refine w_op (pc' := 57) dX7_trialsInside_56 rfl ?_
          rw [nI_1]
          refine w_op (pc' := 58) dX7_trialsInside_57 rfl ?_
          refine t_callS (As := [_, _, _]) dX7_trialsInside_58 rfl rM_X7_hasFault (by decide) rfl rfl (by decide) (Nat.le_of_ble_eq_true rfl) (c_X7_hasFault hR (by omega) (by omega) ?_)
          show s_w _ _ _ 61 _ _ _ _
          refine w_ifeq (t := 81) dX7_trialsInside_61 (by decide) (fun c61 => ?_) (fun c61 => ?_)
          · refine w_op (pc' := 83) dX7_trialsInside_81 rfl ?_
            exact w_ireturn dX7_trialsInside_83 ⟨rfl, s_eqi (by show (if v ≤ u ∨ 40 < x then 0 else _) = _; rw [if_neg (fun z => z.elim (fun y => c2 ((nI_leI (by omega) (by omega)).mpr y)) (fun y => Int32.not_lt.mpr c8 y)), if_neg (fun z => by rw [bI_0.mp c32] at z; cases z), if_neg (fun z => by rw [bI_0.mp c61] at z; cases z)]; all_goals grind) kQ⟩
          · refine w_op (pc' := 66) dX7_trialsInside_64 rfl ?_
            refine w_op (pc' := 67) dX7_trialsInside_66 rfl ?_
            refine w_op (pc' := 69) dX7_trialsInside_67 rfl ?_
            refine w_iconst (v := 1) dX7_trialsInside_69 rfl ?_
            refine w_op (pc' := 71) dX7_trialsInside_70 rfl ?_
            rw [nI_1]
            refine w_op (pc' := 72) dX7_trialsInside_71 rfl ?_
            refine w_op (pc' := 73) dX7_trialsInside_72 rfl ?_
            refine w_iconst (v := 1) dX7_trialsInside_73 rfl ?_
            refine w_op (pc' := 75) dX7_trialsInside_74 rfl ?_
            refine t_callS (As := [_, _, _, _]) dX7_trialsInside_75 rfl rM_X7_trialsInside (by decide) rfl rfl (by decide) (Nat.le_of_ble_eq_true rfl) (ih _ _ _ _ _ (by omega) (by omega) (by omega) ?_)
            show s_w _ _ _ 78 _ _ _ _
            refine w_op (pc' := 79) dX7_trialsInside_78 rfl ?_
            refine w_op (pc' := 81) (ll' := [_, _, _, _, _, _]) dX7_trialsInside_79 rfl ?_
            refine w_op (pc' := 83) dX7_trialsInside_81 rfl ?_
            exact w_ireturn dX7_trialsInside_83 ⟨rfl, s_eqi (by show (if v ≤ u ∨ 40 < x then 0 else _) = _; rw [if_neg (fun z => z.elim (fun y => c2 ((nI_leI (by omega) (by omega)).mpr y)) (fun y => Int32.not_lt.mpr c8 y)), if_neg (fun z => by rw [bI_0.mp c32] at z; cases z), if_pos (bI_n0.mp c61)]; all_goals grind) kQ⟩
        · refine w_op (pc' := 37) dX7_trialsInside_35 rfl ?_
          refine w_iconst (v := 1) dX7_trialsInside_37 rfl ?_
          refine w_op (pc' := 39) dX7_trialsInside_38 rfl ?_
          refine w_op (pc' := 40) dX7_trialsInside_39 rfl ?_
          refine w_op (pc' := 42) dX7_trialsInside_40 rfl ?_
          refine w_op (pc' := 43) dX7_trialsInside_42 rfl ?_
          refine w_iconst (v := 1) dX7_trialsInside_43 rfl ?_
          refine w_op (pc' := 45) dX7_trialsInside_44 rfl ?_
          refine t_callS (As := [_, _, _, _]) dX7_trialsInside_45 rfl rM_X7_trialsInside (by decide) rfl rfl (by decide) (Nat.le_of_ble_eq_true rfl) (ih _ _ _ _ _ (by omega) (by omega) (by omega) ?_)
          show s_w _ _ _ 48 _ _ _ _
          refine w_op (pc' := 49) dX7_trialsInside_48 rfl ?_
          refine w_op (pc' := 50) dX7_trialsInside_49 rfl ?_
          refine w_op (pc' := 52) (ll' := [_, _, _, _, _, _]) dX7_trialsInside_50 rfl ?_
          refine w_op (pc' := 53) dX7_trialsInside_52 rfl ?_
          refine w_op (pc' := 55) dX7_trialsInside_53 rfl ?_
          refine w_iconst (v := 1) dX7_trialsInside_55 rfl ?_
          refine w_op (pc' := 57) dX7_trialsInside_56 rfl ?_
          rw [nI_1]
          refine w_op (pc' := 58) dX7_trialsInside_57 rfl ?_
          refine t_callS (As := [_, _, _]) dX7_trialsInside_58 rfl rM_X7_hasFault (by decide) rfl rfl (by decide) (Nat.le_of_ble_eq_true rfl) (c_X7_hasFault hR (by omega) (by omega) ?_)
          show s_w _ _ _ 61 _ _ _ _
          refine w_ifeq (t := 81) dX7_trialsInside_61 (by decide) (fun c61 => ?_) (fun c61 => ?_)
          · refine w_op (pc' := 83) dX7_trialsInside_81 rfl ?_
            exact w_ireturn dX7_trialsInside_83 ⟨rfl, s_eqi (by show (if v ≤ u ∨ 40 < x then 0 else _) = _; rw [if_neg (fun z => z.elim (fun y => c2 ((nI_leI (by omega) (by omega)).mpr y)) (fun y => Int32.not_lt.mpr c8 y)), if_pos (bI_n0.mp c32), if_neg (fun z => by rw [bI_0.mp c61] at z; cases z)]; all_goals grind) kQ⟩
          · refine w_op (pc' := 66) dX7_trialsInside_64 rfl ?_
            refine w_op (pc' := 67) dX7_trialsInside_66 rfl ?_
            refine w_op (pc' := 69) dX7_trialsInside_67 rfl ?_
            refine w_iconst (v := 1) dX7_trialsInside_69 rfl ?_
            refine w_op (pc' := 71) dX7_trialsInside_70 rfl ?_
            rw [nI_1]
            refine w_op (pc' := 72) dX7_trialsInside_71 rfl ?_
            refine w_op (pc' := 73) dX7_trialsInside_72 rfl ?_
            refine w_iconst (v := 1) dX7_trialsInside_73 rfl ?_
            refine w_op (pc' := 75) dX7_trialsInside_74 rfl ?_
            refine t_callS (As := [_, _, _, _]) dX7_trialsInside_75 rfl rM_X7_trialsInside (by decide) rfl rfl (by decide) (Nat.le_of_ble_eq_true rfl) (ih _ _ _ _ _ (by omega) (by omega) (by omega) ?_)
            show s_w _ _ _ 78 _ _ _ _
            refine w_op (pc' := 79) dX7_trialsInside_78 rfl ?_
            refine w_op (pc' := 81) (ll' := [_, _, _, _, _, _]) dX7_trialsInside_79 rfl ?_
            refine w_op (pc' := 83) dX7_trialsInside_81 rfl ?_
            exact w_ireturn dX7_trialsInside_83 ⟨rfl, s_eqi (by show (if v ≤ u ∨ 40 < x then 0 else _) = _; rw [if_neg (fun z => z.elim (fun y => c2 ((nI_leI (by omega) (by omega)).mpr y)) (fun y => Int32.not_lt.mpr c8 y)), if_pos (bI_n0.mp c32), if_pos (bI_n0.mp c61)]; all_goals grind) kQ⟩
      · refine w_iconst (v := 0) dX7_trialsInside_11 rfl ?_
        exact w_ireturn dX7_trialsInside_12 ⟨rfl, s_eqi (if_pos (Or.inr (Int32.not_le.mp c8))) kQ⟩
theorem c_ti7 {X : e_XT} {d : Nat} {p : e_Sp} {I : e_I} {J : e_Jt} {c : Nat × Nat} {w : e_Rw1} {Q : e_Rt → e_SS → Prop} {r v : Nat} (hR : s_Rk p I r) (hv : v < 128) (k : Q (.inl (some (.int (s_ti p I r 7 0 v 0)))) (p, I, J, c, w)) : s_c X (d + 8) 86 [.ref (p.1 T_PARR r), .int 0, .int (nI v), .int 0] (p, I, J, c, w) Q := by
  have h := c_X7_trialsInside (X := X) (J := J) (c := c) (w := w) hR 7 d 0 v 0 Q (by omega) (by omega) (by omega) k
  rw [show d + 7 + 1 = d + 8 from rfl, nI_0] at h
  exact h
theorem c_hf0 {X : e_XT} {d : Nat} {p : e_Sp} {I : e_I} {J : e_Jt} {c : Nat × Nat} {w : e_Rw1} {Q : e_Rt → e_SS → Prop} {r v : Nat} (hR : s_Rk p I r) (hv : v < 1000) (k : Q (.inl (some (.int (bI (s_hf p I r 0 v))))) (p, I, J, c, w)) : s_c X (d + 1) 85 [.ref (p.1 T_PARR r), .int 0, .int (nI v)] (p, I, J, c, w) Q := by
  have h := c_X7_hasFault (X := X) (d := d) (J := J) (c := c) (w := w) (u := 0) hR (by omega) hv k
  rw [nI_0] at h
  exact h
set_option maxRecDepth 100000 in
set_option maxHeartbeats 4000000 in
theorem c_X7_trials {X : e_XT} {d : Nat} {p : e_Sp} {I : e_I} {J : e_Jt} {c : Nat × Nat} {w : e_Rw1} {Q : e_Rt → e_SS → Prop} {r : Nat} (hR : s_Rk p I r) (h1 : 1 ≤ p.2.2.1 T_PARR r) (k : Q (.inl (some (.int (s_tri p I r)))) (p, I, J, c, w)) : s_c X (d + 9) 84 [.ref (p.1 T_RANK r)] (p, I, J, c, w) Q := by
  obtain ⟨lo, elo, hlo⟩ := hR.2.2.2.1
  refine m_X7_trials (Nat.le_of_ble_eq_true rfl) ?_
  show s_w _ _ _ 0 _ _ _ _
  refine w_op (pc' := 1) dX7_trials_0 rfl ?_
  refine t_getG1 (G := g_r_pipes) dX7_trials_1 rfl rfl (by decide) rfl (fun _ => rfl) hR.1 ?_
  refine t_alen dX7_trials_4 (by decide) hR.2.1 ?_
  refine w_iconst (v := 1) dX7_trials_5 rfl ?_
  refine w_op (pc' := 7) dX7_trials_6 rfl ?_
  have hsub : nI (s_ln p T_PARR r) - 1 = nI (p.2.2.1 T_PARR r - 1) := by have := nI_1 (p.2.2.1 T_PARR r - 1); rw [show p.2.2.1 T_PARR r - 1 + 1 = p.2.2.1 T_PARR r by omega] at this; show nI (p.2.2.1 T_PARR r) - 1 = _; rw [← this]; grind
  rw [hsub]
  refine w_op (pc' := 8) (ll' := [_, _]) dX7_trials_7 rfl ?_
  refine w_op (pc' := 9) dX7_trials_8 rfl ?_
  refine t_getG1 (G := g_r_pipes) dX7_trials_9 rfl rfl (by decide) rfl (fun _ => rfl) hR.1 ?_
  refine w_iconst (v := 0) dX7_trials_12 rfl ?_
  refine w_op (pc' := 14) dX7_trials_13 rfl ?_
  refine t_callS (As := [_, _, _]) dX7_trials_14 rfl rM_X7_hasFault (by decide) rfl rfl (by decide) (Nat.le_of_ble_eq_true rfl) (c_hf0 hR (by omega) ?_)
  show s_w _ _ _ 17 _ _ _ _
  refine w_ifeq (t := 35) dX7_trials_17 (by decide) (fun c17 => ?_) (fun c17 => ?_)
  · refine w_iconst (v := 1) dX7_trials_35 rfl ?_
    exact w_ireturn dX7_trials_36 ⟨rfl, s_eqi (if_neg (fun z => by rw [bI_0.mp c17] at z; cases z)) k⟩
  · refine w_iconst (v := 1) dX7_trials_20 rfl ?_
    refine w_op (pc' := 22) dX7_trials_21 rfl ?_
    refine t_getG1 (G := g_r_pipes) dX7_trials_22 rfl rfl (by decide) rfl (fun _ => rfl) hR.1 ?_
    refine w_iconst (v := 0) dX7_trials_25 rfl ?_
    refine w_op (pc' := 27) dX7_trials_26 rfl ?_
    refine w_iconst (v := 0) dX7_trials_27 rfl ?_
    refine t_callS (As := [_, _, _, _]) dX7_trials_28 rfl rM_X7_trialsInside (by decide) rfl rfl (by decide) (Nat.le_of_ble_eq_true rfl) (c_ti7 hR (by omega) ?_)
    show s_w _ _ _ 31 _ _ _ _
    refine w_op (pc' := 32) dX7_trials_31 rfl ?_
    refine w_goto (t := 36) dX7_trials_32 (by decide) ?_
    exact w_ireturn dX7_trials_36 ⟨rfl, s_eqi (if_pos (bI_n0.mp c17)) k⟩
