/-! 83: ranks are made (printed by wip/whole/p83.py) -/
theorem s_rw_nn {w : e_Rw1} {a b : Nat} {o : Nat × Nat × (Nat → Value)} (h : s_rw w b o a = none) : a ≠ b ∧ w a = none := by
  have e : a ≠ b := fun z => by rw [z, s_rw_s] at h; cases h
  rw [s_rw_n e] at h
  exact ⟨e, h⟩
theorem s_min128 {n : Nat} (h : n ≤ 128) : s_min 128 (nI n) = nI n := by
  unfold s_min
  by_cases z : n < 128
  · exact if_pos ((nI_ltI (b := 128) (by omega) (by omega)).mpr z)
  · rw [if_neg (show ¬ nI n < (128 : Int32) from fun y => z ((nI_ltI (b := 128) (by omega) (by omega)).mp y)), show n = 128 by omega]; rfl
theorem s_max0 {n : Nat} (h : n ≤ 128) : s_max 0 (nI n) = nI n := by
  have := s_max_nI 0 n (by omega) (by omega)
  rw [Nat.max_eq_right (Nat.zero_le n)] at this
  exact this
theorem s_pw1 : ((List.range e_NI).all fun F => decide ((e_FI F).1 ≠ T_PIPE) || decide ((e_FI F).2.2 = 1)) = true := by decide +kernel
theorem s_isdv_n {n : Nat} (h : n < 3) : s_isdv (nI n) = true := by
  unfold s_isdv
  rw [decide_eq_true (nI_pos' (by omega)), decide_eq_true (show nI n < (3 : Int32) from (nI_ltI (b := 3) (by omega) (by omega)).mpr h)]
  rfl
set_option maxRecDepth 100000 in
set_option maxHeartbeats 4000000 in
theorem l_X7_init {X : e_XT} {d : Nat} {p : e_Sp} {I : e_I} {J : e_Jt} {c : Nat × Nat} {w : e_Rw1} {Q : e_Rt → e_SS → Prop} {b q bs n9 : Nat} {fb : Nat → Value} {p0 : e_Sp} {v1 v2 v3 : Value} (hqb : q ≠ b) (hf : fb 2 = .ref q) (hn128 : n9 ≤ 128) (hc : c.1 + n9 < e_xb) (k : ∀ p' g, s_xv (s_Np bs n9) p0 p' → (∀ k, k < n9 → p'.2.1 T_PIPE (bs + k) = true ∧ g k = .ref (p'.1 T_PIPE (bs + k))) → Q (.inl none) (p', s_pkI I bs n9, J, (c.1 + n9, c.2 + 11 * n9), s_rw (s_rw w q (106, n9, g)) b (11, 0, fb))) : ∀ (n : Nat) (i : Nat) (p : e_Sp) (g : Nat → Value), (h1 : i ≤ n9) → (hx : s_xv (s_Np bs n9) p0 p) → (hv : ∀ k, k < i → p.2.1 T_PIPE (bs + k) = true ∧ g k = .ref (p.1 T_PIPE (bs + k))) → (hn9 : ∀ k, i ≤ k → k < n9 → p.2.1 T_PIPE (bs + k) = false) → (hn : n9 - i < n) → s_w X (d + 1) K_X7_init 54 [some (.ref b), some v1, some v2, some v3, some (.int (nI n9)), some (.int (nI i))] [] (p, s_pkI I bs n9, J, (c.1 + i, c.2 + 11 * i), s_rw (s_rw w q (106, n9, g)) b (11, 0, fb)) (fun r S' => e_rcr (none) r = true ∧ Q r S') := by
  intro n
  induction n with
  | zero =>
    intro i p g h1 hx hv hn9 hn
    exact absurd hn (Nat.not_lt_zero _)
  | succ n ih =>
    intro i p g h1 hx hv hn9 hn
    refine w_op (pc' := 56) dX7_init_54 rfl ?_
    refine w_op (pc' := 58) dX7_init_56 rfl ?_
    refine w_icmpge (t := 81) dX7_init_58 (by decide) (fun c58 => ?_) (fun c58 => ?_)
    · exact w_return dX7_init_81 ⟨rfl, by have hi : n9 ≤ i := (nI_leI (a := n9) (by omega) (by omega)).mp c58; obtain rfl : i = n9 := (by omega); exact k p g hx hv⟩
    · have hi : i < n9 := Nat.lt_of_not_le (fun z => c58 ((nI_leI (a := n9) (by omega) (by omega)).mpr z))
      refine w_op (pc' := 62) dX7_init_61 rfl ?_
      refine t_getR (v := .ref q) dX7_init_62 rfl (by rw [hf]; rfl) ?_
      refine w_op (pc' := 67) dX7_init_65 rfl ?_
      refine t_new dX7_init_67 rfl (show c.1 + i < e_xb by omega) (fun a9 ha9 => ?_)
      refine w_op (pc' := 71) dX7_init_70 rfl ?_
      refine t_callI (As := []) dX7_init_71 rfl rM_X6_init (by decide) (by decide) rfl rfl rfl (Nat.le_of_ble_eq_true rfl) (c_X6_init ?_)
      refine ⟨rfl, ?_⟩
      obtain ⟨u1, u2⟩ := s_rw_nn ha9.1
      obtain ⟨u3, u4⟩ := s_rw_nn u2
      refine w_aastP (j := bs + i) (k := i) dX7_init_74 (s_ix.nI hi (by omega)) hqb u3 u1 u4 (hn9 i (Nat.le_refl _) hi) ⟨by omega, by omega⟩ ?_
      refine w_op (pc' := 78) (ll' := [_, _, _, _, _, _]) dX7_init_75 rfl ?_
      refine w_goto (t := 54) dX7_init_78 (by decide) ?_
      rw [show nI i + Int32.ofInt 1 = nI (i + 1) from nI_1 i]
      refine ih (i + 1) (s_pv p T_PIPE (bs + i) a9 0) (s_fu g i (.ref a9)) (by omega) (hx.trans (s_xv.pv (by simp [s_Np]; omega))) (fun k hk => ?_) (fun k h2 h3 => ?_) (by omega)
      · by_cases e : k = i
        · subst e; exact ⟨s_pv_v, by rw [s_pv_s]; exact if_pos rfl⟩
        · obtain ⟨w1, w2⟩ := hv k (by omega)
          exact ⟨s_pv_k w1, by rw [s_pv_n (fun z => e (by omega))]; exact (if_neg e).trans w2⟩
      · rw [s_pv_nv (fun z => by omega)]; exact hn9 k (by omega) h3
set_option maxRecDepth 100000 in
set_option maxHeartbeats 4000000 in
theorem c_X7_init {X : e_XT} {d : Nat} {p : e_Sp} {I : e_I} {J : e_Jt} {c : Nat × Nat} {w : e_Rw1} {Q : e_Rt → e_SS → Prop} {b bs lo hi dv : Nat} {f : Nat → Value} (hlh : lo ≤ hi) (hhi : hi ≤ 127) (hdv : dv < 3) (hN : ∀ k, k < hi - lo + 1 → p.2.1 T_PIPE (bs + k) = false) (hc : c.1 + 130 < e_xb) (k : ∀ p' q g, s_xv (s_Np bs (hi - lo + 1)) p p' → (∀ k, k < hi - lo + 1 → p'.2.1 T_PIPE (bs + k) = true ∧ g k = .ref (p'.1 T_PIPE (bs + k))) → q ≠ b → w q = none → Q (.inl none) (p', s_pkI I bs (hi - lo + 1), J, (c.1 + 1 + (hi - lo + 1), c.2 + (hi - lo + 1) + 11 * (hi - lo + 1)), s_rw (s_rw w q (106, hi - lo + 1, g)) b (11, 0, s_fu (s_fu (s_fu f 0 (.int (nI lo))) 1 (.int (nI dv))) 2 (.ref q)))) : s_c X (d + 1) 83 [.ref b, .int (nI lo), .int (nI hi), .int (nI dv)] (p, I, J, c, s_rw w b (11, 0, f)) Q := by
  refine m_X7_init (Nat.le_of_ble_eq_true rfl) ?_
  show s_w _ _ _ 0 _ _ _ _
  refine w_op (pc' := 1) dX7_init_0 rfl ?_
  refine w_objinit (by decide) rfl (Nat.le_of_ble_eq_true rfl) dX7_init_1 ?_
  refine w_op (pc' := 5) dX7_init_4 rfl ?_
  refine w_op (pc' := 6) dX7_init_5 rfl ?_
  refine t_putR dX7_init_6 rfl rfl (Or.inr ⟨rfl, rfl, rfl⟩) ?_
  refine w_op (pc' := 10) dX7_init_9 rfl ?_
  refine w_op (pc' := 11) dX7_init_10 rfl ?_
  refine t_callSh (As := [_]) dX7_init_11 rfl (by decide) (by decide) rM_X11_isDivision (by decide) rfl rfl (by decide) (Nat.le_of_ble_eq_true rfl) (c_X11_isDivision ?_)
  refine ⟨⟨_, rfl⟩, ?_⟩
  show s_w _ _ _ 14 _ _ _ _
  refine w_ifeq (t := 21) dX7_init_14 (by decide) (fun c14 => ?_) (fun c14 => ?_)
  · exact absurd c14 (by rw [s_isdv_n hdv]; decide)
  · refine w_op (pc' := 18) dX7_init_17 rfl ?_
    refine w_goto (t := 22) dX7_init_18 (by decide) ?_
    refine t_putR dX7_init_22 rfl rfl (Or.inr ⟨rfl, rfl, rfl⟩) ?_
    refine w_iconst (v := 0) dX7_init_25 rfl ?_
    refine w_sipush (v := 128) dX7_init_26 rfl ?_
    refine w_op (pc' := 30) dX7_init_29 rfl ?_
    refine w_op (pc' := 31) dX7_init_30 rfl ?_
    refine w_op (pc' := 32) dX7_init_31 rfl ?_
    refine w_iconst (v := 1) dX7_init_32 rfl ?_
    refine w_op (pc' := 34) dX7_init_33 rfl ?_
    rw [nI_sub hlh, nI_1]
    refine t_callS (As := [_, _]) dX7_init_34 rfl rM_J9_min_7cf53 (by decide) rfl rfl (by decide) (Nat.le_of_ble_eq_true rfl) (c_min ?_)
    show s_w _ _ _ 37 _ _ _ _
    rw [s_min128 (by omega)]
    refine t_callS (As := [_, _]) dX7_init_37 rfl rM_J9_max_7cf53 (by decide) rfl rfl (by decide) (Nat.le_of_ble_eq_true rfl) (c_max ?_)
    show s_w _ _ _ 40 _ _ _ _
    rw [s_max0 (by omega)]
    refine w_op (pc' := 42) (ll' := [_, _, _, _, _, _]) dX7_init_40 rfl ?_
    refine w_op (pc' := 43) dX7_init_42 rfl ?_
    refine w_op (pc' := 45) dX7_init_43 rfl ?_
    refine w_anewarr (n := hi - lo + 1) (ci := 10) dX7_init_45 rfl (Or.inl rfl) ⟨nI_pos' (by omega), nI_clamp (by omega)⟩ (by omega) (show c.1 < e_xb by omega) (fun q hq => ?_)
    have hq1 : s_rw w b (11, 0, (s_fu (s_fu f 0 (.int (nI lo))) 1 (.int (nI dv)))) q = none := hq.1
    obtain ⟨u1, u2⟩ := s_rw_nn hq1
    refine w_show (S' := (p, I, J, (c.1 + 1, c.2 + (hi - lo + 1)), s_rw (s_rw w b (11, 0, (s_fu (s_fu f 0 (.int (nI lo))) 1 (.int (nI dv))))) q (106, hi - lo + 1, s_nul))) rfl ?_
    rw [s_rw_c u1.symm]
    refine t_putR dX7_init_48 rfl rfl (Or.inr ⟨rfl, rfl, rfl⟩) ?_
    refine w_iconst (v := 0) dX7_init_51 rfl ?_
    refine w_op (pc' := 54) (ll' := [_, _, _, _, _, _]) dX7_init_52 rfl ?_
    refine w_ghost (S' := (p, s_pkI I bs (hi - lo + 1), J, (c.1 + 1, c.2 + (hi - lo + 1)), s_rw (s_rw w q (106, hi - lo + 1, s_nul)) b (11, 0, s_fu (s_fu (s_fu f 0 (.int (nI lo))) 1 (.int (nI dv))) 2 (.ref q)))) (fun h hs => hs.gI (fun F m hF hv => if_neg (fun z => ?_)) (fun _ _ _ _ => rfl)) ?_
    · rcases (Bool.or_eq_true _ _).mp (e_all s_pw1 hF) with e | e
      · exact of_decide_eq_true e z.1
      · rw [z.1, of_decide_eq_true e, Nat.div_one] at hv
        have := hN (m - bs) (by omega)
        rw [show bs + (m - bs) = m by omega, hv] at this
        cases this
    exact l_X7_init (p := p) (I := I) (J := J) (c := (c.1 + 1, c.2 + (hi - lo + 1))) (w := w) (p0 := p) u1 rfl (by omega) (show c.1 + 1 + (hi - lo + 1) < e_xb by omega) (fun p' g h2 h3 => k p' q g h2 h3 u1 u2) (hi - lo + 2) 0 p s_nul (Nat.zero_le _) s_xv.rfl' (fun k hk => absurd hk (Nat.not_lt_zero _)) (fun k _ hk => hN k hk) (by omega)
