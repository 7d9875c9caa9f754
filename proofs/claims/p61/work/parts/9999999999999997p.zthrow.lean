/-! 9999999999999997p: pallets behind ticks, calls that throw change nothing (printed by wip/p61/mkm.py) -/
set_option maxRecDepth 100000 in
set_option maxHeartbeats 400000 in
theorem aq_1 {X : e_XT} {d T e ax : Nat} {p : e_Sp} {I : e_I} {J : e_Jt} {c : Nat × Nat} {w : e_Rw1} {Q : e_Rt → e_SS → Prop} {np r9 y9 : Nat} {I' : e_I} {J' : e_Jt} {x4 : Option Value} (h : z_O T e ax (p, I, J, c, w)) (he : e ≤ 380) (hQ : z_Q p I J np I' J') (hop : ∀ q, q < np → I f_p_isOpened q = (if 0 < s_ar I q then 1 else 0)) (hr : r9 < 3) (hy : 36 ≤ y9 ∧ y9 < 78) (k : ∀ e2 c2 x4, e2 ≤ e + 1 → z_O T e2 ax (p, I, J, c2, w) → s_w X (d + 12) K_L_areQuiet 12 [some (.ref ax), some (.int 1), some (.int (nI (r9))), some (.int (nI (y9 + 1))), x4] [] (p, I, J, c2, w) Q) : s_w X (d + 12) K_L_areQuiet 12 [some (.ref ax), some (.int 1), some (.int (nI (r9))), some (.int (nI (y9))), x4] [] (p, I, J, c, w) Q := by
  refine w_op (K := K_L_areQuiet) (pc' := 13) (ll' := [some (.ref ax), some (.int 1), some (.int (nI (r9))), some (.int (nI (y9))), x4]) (st' := [.int (nI (y9))]) dL_areQuiet_12 rfl ?_
  refine w_bipush (K := K_L_areQuiet) (v := (nI 78)) dL_areQuiet_13 rfl ?_
  refine w_icmpge (K := K_L_areQuiet) (t := 64) dL_areQuiet_15 (by decide) (fun c15 => ?_) (fun c15 => ?_)
  · exact absurd ((nI_ltI (by omega) (by decide)).mpr hy.2) (Int32.not_lt.mpr c15)
  · refine w_op (K := K_L_areQuiet) (pc' := 19) (ll' := [some (.ref ax), some (.int 1), some (.int (nI (r9))), some (.int (nI (y9))), x4]) (st' := [.ref ax]) dL_areQuiet_18 rfl ?_
    refine w_op (K := K_L_areQuiet) (pc' := 20) (ll' := [some (.ref ax), some (.int 1), some (.int (nI (r9))), some (.int (nI (y9))), x4]) (st' := [.int (nI (r9)), .ref ax]) dL_areQuiet_19 rfl ?_
    refine w_op (K := K_L_areQuiet) (pc' := 21) (ll' := [some (.ref ax), some (.int 1), some (.int (nI (r9))), some (.int (nI (y9))), x4]) (st' := [.int (nI (y9)), .int (nI (r9)), .ref ax]) dL_areQuiet_20 rfl ?_
    refine t_callS (K := K_L_areQuiet) (As := [.ref ax, .int (nI (r9)), .int (nI (y9))]) (rest := []) dL_areQuiet_21 rfl rM_L_reasons (by decide) rfl rfl (by decide) (Nat.le_of_ble_eq_true rfl) (q_reasons_ h (by omega) (fun j hj => ?_) (fun hj h1 => ?_))
    · show s_w _ _ _ 24 _ _ _ _
      obtain ⟨e1, e2, e3⟩ := hQ.pt hj
      obtain ⟨k8, hk8, ek8, -⟩ := hQ.rs e3
      have ho := hop _ e3
      rw [ek8] at ho
      rw [ek8]
      refine w_op (K := K_L_areQuiet) (pc' := 26) (ll' := [some (.ref ax), some (.int 1), some (.int (nI (r9))), some (.int (nI (y9))), some (.int (nI k8))]) (st' := []) dL_areQuiet_24 rfl ?_
      refine w_op (K := K_L_areQuiet) (pc' := 27) (ll' := [some (.ref ax), some (.int 1), some (.int (nI (r9))), some (.int (nI (y9))), some (.int (nI k8))]) (st' := [.int 1]) dL_areQuiet_26 rfl ?_
      refine w_op (K := K_L_areQuiet) (pc' := 29) (ll' := [some (.ref ax), some (.int 1), some (.int (nI (r9))), some (.int (nI (y9))), some (.int (nI k8))]) (st' := [.int (nI k8), .int 1]) dL_areQuiet_27 rfl ?_
      refine w_iflt (K := K_L_areQuiet) (t := 51) dL_areQuiet_29 (by decide) (fun c29 => ?_) (fun c29 => ?_)
      · exact absurd c29 (nI_pos (by omega))
      · refine w_op (K := K_L_areQuiet) (pc' := 33) (ll' := [some (.ref ax), some (.int 1), some (.int (nI (r9))), some (.int (nI (y9))), some (.int (nI k8))]) (st' := [.ref ax, .int 1]) dL_areQuiet_32 rfl ?_
        refine w_op (K := K_L_areQuiet) (pc' := 34) (ll' := [some (.ref ax), some (.int 1), some (.int (nI (r9))), some (.int (nI (y9))), some (.int (nI k8))]) (st' := [.int (nI (r9)), .ref ax, .int 1]) dL_areQuiet_33 rfl ?_
        refine w_op (K := K_L_areQuiet) (pc' := 35) (ll' := [some (.ref ax), some (.int 1), some (.int (nI (r9))), some (.int (nI (y9))), some (.int (nI k8))]) (st' := [.int (nI (y9)), .int (nI (r9)), .ref ax, .int 1]) dL_areQuiet_34 rfl ?_
        refine t_callS (K := K_L_areQuiet) (As := [.ref ax, .int (nI (r9)), .int (nI (y9))]) (rest := [.int 1]) dL_areQuiet_35 rfl rM_L_isOpen (by decide) rfl rfl (by decide) (Nat.le_of_ble_eq_true rfl) (q_isOpen_ h (by omega) (h.bo rfl) (fun j2 hj2 => ?_) (fun hj2 _ => absurd (hj.symm.trans hj2) (by simp)))
        show s_w _ _ _ 38 _ _ _ _
        obtain rfl := Option.some.inj (hj.symm.trans hj2)
        rw [z_01 (h.bo rfl _), ho]
        refine w_op (K := K_L_areQuiet) (pc' := 40) (ll' := [some (.ref ax), some (.int 1), some (.int (nI (r9))), some (.int (nI (y9))), some (.int (nI k8))]) (st' := [.int (nI k8), .int (if 0 < nI k8 then 1 else 0), .int 1]) dL_areQuiet_38 rfl ?_
        refine w_ifle (K := K_L_areQuiet) (t := 47) dL_areQuiet_40 (by decide) (fun c40 => ?_) (fun c40 => ?_)
        · refine w_iconst (K := K_L_areQuiet) (v := 0) dL_areQuiet_47 rfl ?_
          refine w_icmpne (K := K_L_areQuiet) (t := 55) dL_areQuiet_48 (by decide) (fun c48 => ?_) (fun c48 => ?_)
          · exact absurd (if_neg (Int32.not_lt.mpr c40)) c48
          · refine w_iconst (K := K_L_areQuiet) (v := 1) dL_areQuiet_51 rfl ?_
            refine w_goto (K := K_L_areQuiet) (t := 56) dL_areQuiet_52 (by decide) ?_
            refine w_op (K := K_L_areQuiet) (pc' := 57) (ll' := [some (.ref ax), some (.int 1), some (.int (nI (r9))), some (.int (nI (y9))), some (.int (nI k8))]) (st' := [.int (1 &&& 1)]) dL_areQuiet_56 rfl ?_
            rw [show (1 : Int32) &&& 1 = 1 by decide]
            refine w_op (K := K_L_areQuiet) (pc' := 58) (ll' := [some (.ref ax), some (.int 1), some (.int (nI (r9))), some (.int (nI (y9))), some (.int (nI k8))]) (st' := []) dL_areQuiet_57 rfl ?_
            refine w_op (K := K_L_areQuiet) (pc' := 61) (ll' := [some (.ref ax), some (.int 1), some (.int (nI (r9))), some (.int ((nI (y9)) + 1)), some (.int (nI k8))]) (st' := []) dL_areQuiet_58 rfl ?_
            rw [show nI y9 + 1 = nI (y9 + 1) from nI_1 y9]
            refine w_goto (K := K_L_areQuiet) (t := 12) dL_areQuiet_61 (by decide) ?_
            exact k _ _ _ (by omega) h
        · refine w_iconst (K := K_L_areQuiet) (v := 1) dL_areQuiet_43 rfl ?_
          refine w_goto (K := K_L_areQuiet) (t := 48) dL_areQuiet_44 (by decide) ?_
          refine w_icmpne (K := K_L_areQuiet) (t := 55) dL_areQuiet_48 (by decide) (fun c48 => ?_) (fun c48 => ?_)
          · exact absurd (if_pos (Int32.not_le.mp c40)) c48
          · refine w_iconst (K := K_L_areQuiet) (v := 1) dL_areQuiet_51 rfl ?_
            refine w_goto (K := K_L_areQuiet) (t := 56) dL_areQuiet_52 (by decide) ?_
            refine w_op (K := K_L_areQuiet) (pc' := 57) (ll' := [some (.ref ax), some (.int 1), some (.int (nI (r9))), some (.int (nI (y9))), some (.int (nI k8))]) (st' := [.int (1 &&& 1)]) dL_areQuiet_56 rfl ?_
            rw [show (1 : Int32) &&& 1 = 1 by decide]
            refine w_op (K := K_L_areQuiet) (pc' := 58) (ll' := [some (.ref ax), some (.int 1), some (.int (nI (r9))), some (.int (nI (y9))), some (.int (nI k8))]) (st' := []) dL_areQuiet_57 rfl ?_
            refine w_op (K := K_L_areQuiet) (pc' := 61) (ll' := [some (.ref ax), some (.int 1), some (.int (nI (r9))), some (.int ((nI (y9)) + 1)), some (.int (nI k8))]) (st' := []) dL_areQuiet_58 rfl ?_
            rw [show nI y9 + 1 = nI (y9 + 1) from nI_1 y9]
            refine w_goto (K := K_L_areQuiet) (t := 12) dL_areQuiet_61 (by decide) ?_
            exact k _ _ _ (by omega) h
    · show s_w _ _ _ 24 _ _ _ _
      refine w_op (K := K_L_areQuiet) (pc' := 26) (ll' := [some (.ref ax), some (.int 1), some (.int (nI (r9))), some (.int (nI (y9))), some (.int (-77))]) (st' := []) dL_areQuiet_24 rfl ?_
      refine w_op (K := K_L_areQuiet) (pc' := 27) (ll' := [some (.ref ax), some (.int 1), some (.int (nI (r9))), some (.int (nI (y9))), some (.int (-77))]) (st' := [.int 1]) dL_areQuiet_26 rfl ?_
      refine w_op (K := K_L_areQuiet) (pc' := 29) (ll' := [some (.ref ax), some (.int 1), some (.int (nI (r9))), some (.int (nI (y9))), some (.int (-77))]) (st' := [.int (-77), .int 1]) dL_areQuiet_27 rfl ?_
      refine w_iflt (K := K_L_areQuiet) (t := 51) dL_areQuiet_29 (by decide) (fun c29 => ?_) (fun c29 => ?_)
      · refine w_iconst (K := K_L_areQuiet) (v := 1) dL_areQuiet_51 rfl ?_
        refine w_goto (K := K_L_areQuiet) (t := 56) dL_areQuiet_52 (by decide) ?_
        refine w_op (K := K_L_areQuiet) (pc' := 57) (ll' := [some (.ref ax), some (.int 1), some (.int (nI (r9))), some (.int (nI (y9))), some (.int (-77))]) (st' := [.int (1 &&& 1)]) dL_areQuiet_56 rfl ?_
        rw [show (1 : Int32) &&& 1 = 1 by decide]
        refine w_op (K := K_L_areQuiet) (pc' := 58) (ll' := [some (.ref ax), some (.int 1), some (.int (nI (r9))), some (.int (nI (y9))), some (.int (-77))]) (st' := []) dL_areQuiet_57 rfl ?_
        refine w_op (K := K_L_areQuiet) (pc' := 61) (ll' := [some (.ref ax), some (.int 1), some (.int (nI (r9))), some (.int ((nI (y9)) + 1)), some (.int (-77))]) (st' := []) dL_areQuiet_58 rfl ?_
        rw [show nI y9 + 1 = nI (y9 + 1) from nI_1 y9]
        refine w_goto (K := K_L_areQuiet) (t := 12) dL_areQuiet_61 (by decide) ?_
        exact k _ _ _ (by omega) h1
      · exact absurd (by decide) c29

theorem aq_y {X : e_XT} {d T ax : Nat} {p : e_Sp} {I : e_I} {J : e_Jt} {w : e_Rw1} {Q : e_Rt → e_SS → Prop} {np r9 : Nat} {I' : e_I} {J' : e_Jt} (hQ : z_Q p I J np I' J') (hop : ∀ q, q < np → I f_p_isOpened q = (if 0 < s_ar I q then 1 else 0)) (hr : r9 < 3) : ∀ u y9 e c x4, y9 + u = 78 → 36 ≤ y9 → e + u ≤ 380 → z_O T e ax (p, I, J, c, w) → (∀ e2 c2 x4, e2 ≤ e + u → z_O T e2 ax (p, I, J, c2, w) → s_w X (d + 12) K_L_areQuiet 12 [some (.ref ax), some (.int 1), some (.int (nI (r9))), some (.int (nI (78))), x4] [] (p, I, J, c2, w) Q) → s_w X (d + 12) K_L_areQuiet 12 [some (.ref ax), some (.int 1), some (.int (nI (r9))), some (.int (nI (y9))), x4] [] (p, I, J, c, w) Q := by
  intro u
  induction u with
  | zero =>
    intro y9 e c x4 h1 h2 h3 h k
    obtain rfl : y9 = 78 := by omega
    exact k e c x4 (by omega) h
  | succ u ih =>
    intro y9 e c x4 h1 h2 h3 h k
    refine aq_1 h (by omega) hQ hop hr ⟨h2, by omega⟩ (fun e2 c2 x8 he2 hO => ?_)
    exact ih (y9 + 1) e2 c2 x8 (by omega) (by omega) (by omega) hO (fun e3 c3 x9 he3 hO3 => k e3 c3 x9 (by omega) hO3)

set_option maxRecDepth 100000 in
set_option maxHeartbeats 400000 in
theorem aq_r {X : e_XT} {d T e ax : Nat} {p : e_Sp} {I : e_I} {J : e_Jt} {c : Nat × Nat} {w : e_Rw1} {Q : e_Rt → e_SS → Prop} {np r9 : Nat} {I' : e_I} {J' : e_Jt} {x3 x4 : Option Value} (h : z_O T e ax (p, I, J, c, w)) (he : e ≤ 330) (hQ : z_Q p I J np I' J') (hop : ∀ q, q < np → I f_p_isOpened q = (if 0 < s_ar I q then 1 else 0)) (hr : r9 < 3) (k : ∀ e2 c2 x3 x4, e2 ≤ e + 42 → z_O T e2 ax (p, I, J, c2, w) → s_w X (d + 12) K_L_areQuiet 4 [some (.ref ax), some (.int 1), some (.int (nI (r9 + 1))), x3, x4] [] (p, I, J, c2, w) Q) : s_w X (d + 12) K_L_areQuiet 4 [some (.ref ax), some (.int 1), some (.int (nI r9)), x3, x4] [] (p, I, J, c, w) Q := by
  refine w_op (K := K_L_areQuiet) (pc' := 5) (ll' := [some (.ref ax), some (.int 1), some (.int (nI r9)), x3, x4]) (st' := [.int (nI r9)]) dL_areQuiet_4 rfl ?_
  refine w_iconst (K := K_L_areQuiet) (v := (nI 3)) dL_areQuiet_5 rfl ?_
  refine w_icmpge (K := K_L_areQuiet) (t := 70) dL_areQuiet_6 (by decide) (fun c6 => ?_) (fun c6 => ?_)
  · exact absurd ((nI_ltI (by omega) (by decide)).mpr hr) (Int32.not_lt.mpr c6)
  · refine w_bipush (K := K_L_areQuiet) (v := (nI 36)) dL_areQuiet_9 rfl ?_
    refine w_op (K := K_L_areQuiet) (pc' := 12) (ll' := [some (.ref ax), some (.int 1), some (.int (nI r9)), some (.int (nI 36)), x4]) (st' := []) dL_areQuiet_11 rfl ?_
    refine aq_y hQ hop hr 42 36 e c x4 (by omega) (by omega) (by omega) h (fun e2 c2 x8 he2 h2 => ?_)
    refine w_op (K := K_L_areQuiet) (pc' := 13) (ll' := [some (.ref ax), some (.int 1), some (.int (nI (r9))), some (.int (nI (78))), x8]) (st' := [.int (nI (78))]) dL_areQuiet_12 rfl ?_
    refine w_bipush (K := K_L_areQuiet) (v := (nI 78)) dL_areQuiet_13 rfl ?_
    refine w_icmpge (K := K_L_areQuiet) (t := 64) dL_areQuiet_15 (by decide) (fun c15 => ?_) (fun c15 => ?_)
    · refine w_op (K := K_L_areQuiet) (pc' := 67) (ll' := [some (.ref ax), some (.int 1), some (.int ((nI (r9)) + 1)), some (.int (nI (78))), x8]) (st' := []) dL_areQuiet_64 rfl ?_
      rw [show nI r9 + 1 = nI (r9 + 1) from nI_1 r9]
      refine w_goto (K := K_L_areQuiet) (t := 4) dL_areQuiet_67 (by decide) ?_
      exact k _ _ _ _ (by omega) h2
    · exact absurd (Int32.le_refl _) c15

set_option maxRecDepth 100000 in
set_option maxHeartbeats 400000 in
theorem c_areQuiet {X : e_XT} {d T e ax : Nat} {p : e_Sp} {I : e_I} {J : e_Jt} {c : Nat × Nat} {w : e_Rw1} {Q : e_Rt → e_SS → Prop} {np : Nat} {I' : e_I} {J' : e_Jt} (h : z_O T e ax (p, I, J, c, w)) (he : e ≤ 200) (hQ : z_Q p I J np I' J') (hop : ∀ q, q < np → I f_p_isOpened q = (if 0 < s_ar I q then 1 else 0)) (kk : ∀ e2 c2, e2 ≤ e + 126 → z_O T e2 ax (p, I, J, c2, w) → Q (.inl (some (.int 1))) (p, I, J, c2, w)) : s_c X (d + 12) 443 [.ref ax] (p, I, J, c, w) Q := by
  refine m_L_areQuiet (Nat.le_of_ble_eq_true rfl) ?_
  show s_w X (d + 12) K_L_areQuiet 0 [some (.ref ax), none, none, none, none] [] (p, I, J, c, w) _
  refine w_iconst (K := K_L_areQuiet) (v := 1) dL_areQuiet_0 rfl ?_
  refine w_op (K := K_L_areQuiet) (pc' := 2) (ll' := [some (.ref ax), some (.int 1), none, none, none]) (st' := []) dL_areQuiet_1 rfl ?_
  refine w_iconst (K := K_L_areQuiet) (v := (nI 0)) dL_areQuiet_2 rfl ?_
  refine w_op (K := K_L_areQuiet) (pc' := 4) (ll' := [some (.ref ax), some (.int 1), some (.int (nI 0)), none, none]) (st' := []) dL_areQuiet_3 rfl ?_
  refine aq_r (r9 := 0) h (by omega) hQ hop (by decide) (fun e2 c2 x3 x4 he2 h2 => ?_)
  refine aq_r (r9 := 0 + 1) h2 (by omega) hQ hop (by decide) (fun e3 c3 x3 x4 he3 h3 => ?_)
  refine aq_r (r9 := 0 + 1 + 1) h3 (by omega) hQ hop (by decide) (fun e4 c4 x3 x4 he4 h4 => ?_)
  refine w_op (K := K_L_areQuiet) (pc' := 5) (ll' := [some (.ref ax), some (.int 1), some (.int (nI (0 + 1 + 1 + 1))), x3, x4]) (st' := [.int (nI (0 + 1 + 1 + 1))]) dL_areQuiet_4 rfl ?_
  refine w_iconst (K := K_L_areQuiet) (v := (nI 3)) dL_areQuiet_5 rfl ?_
  refine w_icmpge (K := K_L_areQuiet) (t := 70) dL_areQuiet_6 (by decide) (fun c6 => ?_) (fun c6 => ?_)
  · refine w_op (K := K_L_areQuiet) (pc' := 71) (ll' := [some (.ref ax), some (.int 1), some (.int (nI (0 + 1 + 1 + 1))), x3, x4]) (st' := [.int 1]) dL_areQuiet_70 rfl ?_
    refine w_ireturn (K := K_L_areQuiet) dL_areQuiet_71 ?_
    exact ⟨rfl, kk _ _ (by omega) h4⟩
  · exact absurd (Int32.le_refl _) c6

set_option maxRecDepth 100000 in
set_option maxHeartbeats 400000 in
theorem c_isThrown {X : e_XT} {d T e ax : Nat} {p : e_Sp} {I : e_I} {J : e_Jt} {c : Nat × Nat} {w : e_Rw1} {Q : e_Rt → e_SS → Prop} (hX : v_X X) (h : z_O T e ax (p, I, J, c, w)) (he : e ≤ 380) (kk : ∀ e2 c2, e2 ≤ e + 14 → z_O T e2 ax (p, I, J, c2, w) → Q (.inl (some (.int 1))) (p, I, J, c2, w)) : s_c X (d + 12) 445 [.ref ax] (p, I, J, c, w) Q := by
  refine m_L_isThrown (Nat.le_of_ble_eq_true rfl) ?_
  show s_w X (d + 12) K_L_isThrown 0 [some (.ref ax), none, none, none, none, none] [] (p, I, J, c, w) _
  refine w_op (K := K_L_isThrown) (pc' := 1) (ll' := [some (.ref ax), none, none, none, none, none]) (st' := [.ref ax]) dL_isThrown_0 rfl ?_
  refine l_callH (K := K_L_isThrown) (As := []) (rest := []) dL_isThrown_1 rfl rM_X11_speaking (by decide) rfl rfl (by decide) rfl (Nat.le_of_ble_eq_true rfl) h.hf (q_speaking_ h ?_)
  show s_w _ _ _ 4 _ _ _ _
  refine w_op (K := K_L_isThrown) (pc' := 5) (ll' := [some (.ref ax), some (.int (I f_speakers 0)), none, none, none, none]) (st' := []) dL_isThrown_4 rfl ?_
  refine w_op (K := K_L_isThrown) (pc' := 6) (ll' := [some (.ref ax), some (.int (I f_speakers 0)), none, none, none, none]) (st' := [.ref ax]) dL_isThrown_5 rfl ?_
  refine w_iconst (K := K_L_isThrown) (v := (nI 4)) dL_isThrown_6 rfl ?_
  refine t_callS (K := K_L_isThrown) (As := [.ref ax, .int (nI 4)]) (rest := []) dL_isThrown_7 rfl rM_L_isDrawn (by decide) rfl rfl (by decide) (Nat.le_of_ble_eq_true rfl) (q_isDrawn_ h (show 4 < 9 by decide) (fun j _ => h.bo rfl j) ?_)
  show s_w _ _ _ 10 _ _ _ _
  refine w_op (K := K_L_isThrown) (pc' := 11) (ll' := [some (.ref ax), some (.int (I f_speakers 0)), some (.int (if I f_k_isOut 4 = 0 then 0 else 1)), none, none, none]) (st' := []) dL_isThrown_10 rfl ?_
  refine w_op (K := K_L_isThrown) (pc' := 12) (ll' := [some (.ref ax), some (.int (I f_speakers 0)), some (.int (if I f_k_isOut 4 = 0 then 0 else 1)), none, none, none]) (st' := [.ref ax]) dL_isThrown_11 rfl ?_
  refine l_callH (K := K_L_isThrown) (As := []) (rest := []) dL_isThrown_12 rfl rM_X11_ended (by decide) rfl rfl (by decide) rfl (Nat.le_of_ble_eq_true rfl) h.hf (q_ended_ h ?_)
  show s_w _ _ _ 15 _ _ _ _
  refine w_op (K := K_L_isThrown) (pc' := 16) (ll' := [some (.ref ax), some (.int (I f_speakers 0)), some (.int (if I f_k_isOut 4 = 0 then 0 else 1)), some (.long (J j_allEnds 0)), none, none]) (st' := []) dL_isThrown_15 rfl ?_
  refine w_op (K := K_L_isThrown) (pc' := 17) (ll' := [some (.ref ax), some (.int (I f_speakers 0)), some (.int (if I f_k_isOut 4 = 0 then 0 else 1)), some (.long (J j_allEnds 0)), none, none]) (st' := [.ref ax]) dL_isThrown_16 rfl ?_
  refine w_iconst (K := K_L_isThrown) (v := 1) dL_isThrown_17 rfl ?_
  refine w_iconst (K := K_L_isThrown) (v := 0) dL_isThrown_18 rfl ?_
  refine w_iconst (K := K_L_isThrown) (v := 1) dL_isThrown_19 rfl ?_
  refine w_iconst (K := K_L_isThrown) (v := 0) dL_isThrown_20 rfl ?_
  refine w_iconst (K := K_L_isThrown) (v := 0) dL_isThrown_21 rfl ?_
  refine w_iconst (K := K_L_isThrown) (v := 0) dL_isThrown_22 rfl ?_
  refine w_iconst (K := K_L_isThrown) (v := 1) dL_isThrown_23 rfl ?_
  refine t_callS (K := K_L_isThrown) (As := [.ref ax, .int 1, .int 0, .int 1, .int 0, .int 0, .int 0, .int 1]) (rest := []) dL_isThrown_24 rfl rM_L_rank (by decide) rfl rfl (by decide) (Nat.le_of_ble_eq_true rfl) (qx_rank h (by omega) (fun h1 => ?_))
  show s_w _ _ _ 27 _ _ _ _
  refine w_bipush (K := K_L_isThrown) (v := (-78)) dL_isThrown_27 rfl ?_
  refine w_icmpne (K := K_L_isThrown) (t := 196) dL_isThrown_29 (by decide) (fun c29 => ?_) (fun c29 => ?_)
  · exact absurd rfl c29
  · refine w_op (K := K_L_isThrown) (pc' := 33) (ll' := [some (.ref ax), some (.int (I f_speakers 0)), some (.int (if I f_k_isOut 4 = 0 then 0 else 1)), some (.long (J j_allEnds 0)), none, none]) (st' := [.ref ax]) dL_isThrown_32 rfl ?_
    refine w_iconst (K := K_L_isThrown) (v := 0) dL_isThrown_33 rfl ?_
    refine w_iconst (K := K_L_isThrown) (v := 0) dL_isThrown_34 rfl ?_
    refine w_iconst (K := K_L_isThrown) (v := 0) dL_isThrown_35 rfl ?_
    refine w_iconst (K := K_L_isThrown) (v := 0) dL_isThrown_36 rfl ?_
    refine w_iconst (K := K_L_isThrown) (v := 0) dL_isThrown_37 rfl ?_
    refine t_callS (K := K_L_isThrown) (As := [.ref ax, .int 0, .int 0, .int 0, .int 0, .int 0]) (rest := []) dL_isThrown_38 rfl rM_L_row (by decide) rfl rfl (by decide) (Nat.le_of_ble_eq_true rfl) (qx_row h1 (by omega) (fun h2 => ?_))
    show s_w _ _ _ 41 _ _ _ _
    refine w_bipush (K := K_L_isThrown) (v := (-76)) dL_isThrown_41 rfl ?_
    refine w_icmpne (K := K_L_isThrown) (t := 196) dL_isThrown_43 (by decide) (fun c43 => ?_) (fun c43 => ?_)
    · exact absurd rfl c43
    · refine w_op (K := K_L_isThrown) (pc' := 47) (ll' := [some (.ref ax), some (.int (I f_speakers 0)), some (.int (if I f_k_isOut 4 = 0 then 0 else 1)), some (.long (J j_allEnds 0)), none, none]) (st' := [.ref ax]) dL_isThrown_46 rfl ?_
      refine w_iconst (K := K_L_isThrown) (v := 3) dL_isThrown_47 rfl ?_
      refine w_iconst (K := K_L_isThrown) (v := 1) dL_isThrown_48 rfl ?_
      refine w_iconst (K := K_L_isThrown) (v := 1) dL_isThrown_49 rfl ?_
      refine t_callS (K := K_L_isThrown) (As := [.ref ax, .int 3, .int 1, .int 1]) (rest := []) dL_isThrown_50 rfl rM_L_cross (by decide) rfl rfl (by decide) (Nat.le_of_ble_eq_true rfl) (qx_cross h2 (by omega) (fun h3 => ?_))
      show s_w _ _ _ 53 _ _ _ _
      refine w_bipush (K := K_L_isThrown) (v := (-78)) dL_isThrown_53 rfl ?_
      refine w_icmpne (K := K_L_isThrown) (t := 196) dL_isThrown_55 (by decide) (fun c55 => ?_) (fun c55 => ?_)
      · exact absurd rfl c55
      · refine w_op (K := K_L_isThrown) (pc' := 59) (ll' := [some (.ref ax), some (.int (I f_speakers 0)), some (.int (if I f_k_isOut 4 = 0 then 0 else 1)), some (.long (J j_allEnds 0)), none, none]) (st' := [.ref ax]) dL_isThrown_58 rfl ?_
        refine w_iconst (K := K_L_isThrown) (v := 0) dL_isThrown_59 rfl ?_
        refine w_iconst (K := K_L_isThrown) (v := 0) dL_isThrown_60 rfl ?_
        refine w_iconst (K := K_L_isThrown) (v := 0) dL_isThrown_61 rfl ?_
        refine w_bipush (K := K_L_isThrown) (v := 97) dL_isThrown_62 rfl ?_
        refine t_callS (K := K_L_isThrown) (As := [.ref ax, .int 0, .int 0, .int 0, .int 97]) (rest := []) dL_isThrown_64 rfl rM_L_coupler (by decide) rfl rfl (by decide) (Nat.le_of_ble_eq_true rfl) (qx_coupler h3 (by omega) (fun h4 => ?_))
        show s_w _ _ _ 67 _ _ _ _
        refine w_bipush (K := K_L_isThrown) (v := (-78)) dL_isThrown_67 rfl ?_
        refine w_icmpne (K := K_L_isThrown) (t := 196) dL_isThrown_69 (by decide) (fun c69 => ?_) (fun c69 => ?_)
        · exact absurd rfl c69
        · refine w_op (K := K_L_isThrown) (pc' := 73) (ll' := [some (.ref ax), some (.int (I f_speakers 0)), some (.int (if I f_k_isOut 4 = 0 then 0 else 1)), some (.long (J j_allEnds 0)), none, none]) (st' := [.ref ax]) dL_isThrown_72 rfl ?_
          refine w_bipush (K := K_L_isThrown) (v := 9) dL_isThrown_73 rfl ?_
          refine w_iconst (K := K_L_isThrown) (v := 1) dL_isThrown_75 rfl ?_
          refine t_callS (K := K_L_isThrown) (As := [.ref ax, .int 9, .int 1]) (rest := []) dL_isThrown_76 rfl rM_L_draw (by decide) rfl rfl (by decide) (Nat.le_of_ble_eq_true rfl) (qx_draw h4 (by omega) (fun h5 => ?_))
          show s_w _ _ _ 79 _ _ _ _
          refine w_bipush (K := K_L_isThrown) (v := (-77)) dL_isThrown_79 rfl ?_
          refine w_icmpne (K := K_L_isThrown) (t := 196) dL_isThrown_81 (by decide) (fun c81 => ?_) (fun c81 => ?_)
          · exact absurd rfl c81
          · refine w_op (K := K_L_isThrown) (pc' := 85) (ll' := [some (.ref ax), some (.int (I f_speakers 0)), some (.int (if I f_k_isOut 4 = 0 then 0 else 1)), some (.long (J j_allEnds 0)), none, none]) (st' := [.ref ax]) dL_isThrown_84 rfl ?_
            refine w_iconst (K := K_L_isThrown) (v := 0) dL_isThrown_85 rfl ?_
            refine w_bipush (K := K_L_isThrown) (v := 40) dL_isThrown_86 rfl ?_
            refine w_iconst (K := K_L_isThrown) (v := 1) dL_isThrown_88 rfl ?_
            refine t_callS (K := K_L_isThrown) (As := [.ref ax, .int 0, .int 40, .int 1]) (rest := []) dL_isThrown_89 rfl rM_L_key (by decide) rfl rfl (by decide) (Nat.le_of_ble_eq_true rfl) (qx_key h5 (by omega) (fun h6 => ?_))
            show s_w _ _ _ 92 _ _ _ _
            refine w_bipush (K := K_L_isThrown) (v := (-77)) dL_isThrown_92 rfl ?_
            refine w_icmpne (K := K_L_isThrown) (t := 196) dL_isThrown_94 (by decide) (fun c94 => ?_) (fun c94 => ?_)
            · exact absurd rfl c94
            · refine w_op (K := K_L_isThrown) (pc' := 98) (ll' := [some (.ref ax), some (.int (I f_speakers 0)), some (.int (if I f_k_isOut 4 = 0 then 0 else 1)), some (.long (J j_allEnds 0)), none, none]) (st' := [.ref ax]) dL_isThrown_97 rfl ?_
              refine w_iconst (K := K_L_isThrown) (v := 0) dL_isThrown_98 rfl ?_
              refine t_callS (K := K_L_isThrown) (As := [.ref ax, .int 0]) (rest := []) dL_isThrown_99 rfl rM_L_pass (by decide) rfl rfl (by decide) (Nat.le_of_ble_eq_true rfl) (qx_pass h6 (by omega) (fun h7 => ?_))
              show s_w _ _ _ 102 _ _ _ _
              refine w_bipush (K := K_L_isThrown) (v := (-78)) dL_isThrown_102 rfl ?_
              refine w_icmpne (K := K_L_isThrown) (t := 196) dL_isThrown_104 (by decide) (fun c104 => ?_) (fun c104 => ?_)
              · exact absurd rfl c104
              · refine w_op (K := K_L_isThrown) (pc' := 108) (ll' := [some (.ref ax), some (.int (I f_speakers 0)), some (.int (if I f_k_isOut 4 = 0 then 0 else 1)), some (.long (J j_allEnds 0)), none, none]) (st' := [.ref ax]) dL_isThrown_107 rfl ?_
                refine w_iconst (K := K_L_isThrown) (v := (-1)) dL_isThrown_108 rfl ?_
                refine w_bipush (K := K_L_isThrown) (v := 9) dL_isThrown_109 rfl ?_
                refine t_callS (K := K_L_isThrown) (As := [.ref ax, .int (-1), .int 9]) (rest := []) dL_isThrown_111 rfl rM_L_set (by decide) rfl rfl (by decide) (Nat.le_of_ble_eq_true rfl) (qx_set h7 (by omega) (fun h8 => ?_))
                show s_w _ _ _ 114 _ _ _ _
                refine w_bipush (K := K_L_isThrown) (v := (-77)) dL_isThrown_114 rfl ?_
                refine w_icmpne (K := K_L_isThrown) (t := 196) dL_isThrown_116 (by decide) (fun c116 => ?_) (fun c116 => ?_)
                · exact absurd rfl c116
                · refine w_op (K := K_L_isThrown) (pc' := 120) (ll' := [some (.ref ax), some (.int (I f_speakers 0)), some (.int (if I f_k_isOut 4 = 0 then 0 else 1)), some (.long (J j_allEnds 0)), none, none]) (st' := [.ref ax]) dL_isThrown_119 rfl ?_
                  refine w_bipush (K := K_L_isThrown) (v := 20) dL_isThrown_120 rfl ?_
                  refine t_callS (K := K_L_isThrown) (As := [.ref ax, .int 20]) (rest := []) dL_isThrown_122 rfl rM_L_turnTo (by decide) rfl rfl (by decide) (Nat.le_of_ble_eq_true rfl) (qx_turnTo h8 (by omega) (fun h9 => ?_))
                  show s_w _ _ _ 125 _ _ _ _
                  refine w_bipush (K := K_L_isThrown) (v := (-77)) dL_isThrown_125 rfl ?_
                  refine w_icmpne (K := K_L_isThrown) (t := 196) dL_isThrown_127 (by decide) (fun c127 => ?_) (fun c127 => ?_)
                  · exact absurd rfl c127
                  · refine w_op (K := K_L_isThrown) (pc' := 131) (ll' := [some (.ref ax), some (.int (I f_speakers 0)), some (.int (if I f_k_isOut 4 = 0 then 0 else 1)), some (.long (J j_allEnds 0)), none, none]) (st' := [.ref ax]) dL_isThrown_130 rfl ?_
                    refine w_iconst (K := K_L_isThrown) (v := 0) dL_isThrown_131 rfl ?_
                    refine w_bipush (K := K_L_isThrown) (v := 38) dL_isThrown_132 rfl ?_
                    refine w_sipush (K := K_L_isThrown) (v := 400) dL_isThrown_134 rfl ?_
                    refine w_iconst (K := K_L_isThrown) (v := 0) dL_isThrown_137 rfl ?_
                    refine t_callS (K := K_L_isThrown) (As := [.ref ax, .int 0, .int 38, .int 400, .int 0]) (rest := []) dL_isThrown_138 rfl rM_L_wire (by decide) rfl rfl (by decide) (Nat.le_of_ble_eq_true rfl) (qx_wire h9 (by omega) (fun h10 => ?_))
                    show s_w _ _ _ 141 _ _ _ _
                    refine w_bipush (K := K_L_isThrown) (v := (-78)) dL_isThrown_141 rfl ?_
                    refine w_icmpne (K := K_L_isThrown) (t := 196) dL_isThrown_143 (by decide) (fun c143 => ?_) (fun c143 => ?_)
                    · exact absurd rfl c143
                    · refine w_op (K := K_L_isThrown) (pc' := 147) (ll' := [some (.ref ax), some (.int (I f_speakers 0)), some (.int (if I f_k_isOut 4 = 0 then 0 else 1)), some (.long (J j_allEnds 0)), none, none]) (st' := [.ref ax]) dL_isThrown_146 rfl ?_
                      refine w_iconst (K := K_L_isThrown) (v := 0) dL_isThrown_147 rfl ?_
                      refine w_bipush (K := K_L_isThrown) (v := 16) dL_isThrown_148 rfl ?_
                      refine t_callS (K := K_L_isThrown) (As := [.ref ax, .int 0, .int 16]) (rest := []) dL_isThrown_150 rfl rM_L_drive (by decide) rfl rfl (by decide) (Nat.le_of_ble_eq_true rfl) (qx_drive h10 (by omega) (fun h11 => ?_))
                      show s_w _ _ _ 153 _ _ _ _
                      refine w_bipush (K := K_L_isThrown) (v := (-77)) dL_isThrown_153 rfl ?_
                      refine w_icmpne (K := K_L_isThrown) (t := 196) dL_isThrown_155 (by decide) (fun c155 => ?_) (fun c155 => ?_)
                      · exact absurd rfl c155
                      · refine w_op (K := K_L_isThrown) (pc' := 159) (ll' := [some (.ref ax), some (.int (I f_speakers 0)), some (.int (if I f_k_isOut 4 = 0 then 0 else 1)), some (.long (J j_allEnds 0)), none, none]) (st' := [.ref ax]) dL_isThrown_158 rfl ?_
                        refine w_bipush (K := K_L_isThrown) (v := 122) dL_isThrown_159 rfl ?_
                        refine t_callS (K := K_L_isThrown) (As := [.ref ax, .int 122]) (rest := []) dL_isThrown_161 rfl rM_L_record (by decide) rfl rfl (by decide) (Nat.le_of_ble_eq_true rfl) (qx_record h11 (by omega) (fun h12 => ?_))
                        show s_w _ _ _ 164 _ _ _ _
                        refine w_bipush (K := K_L_isThrown) (v := (-78)) dL_isThrown_164 rfl ?_
                        refine w_icmpne (K := K_L_isThrown) (t := 196) dL_isThrown_166 (by decide) (fun c166 => ?_) (fun c166 => ?_)
                        · exact absurd rfl c166
                        · refine w_op (K := K_L_isThrown) (pc' := 170) (ll' := [some (.ref ax), some (.int (I f_speakers 0)), some (.int (if I f_k_isOut 4 = 0 then 0 else 1)), some (.long (J j_allEnds 0)), none, none]) (st' := [.ref ax]) dL_isThrown_169 rfl ?_
                          refine w_iconst (K := K_L_isThrown) (v := 0) dL_isThrown_170 rfl ?_
                          refine w_bipush (K := K_L_isThrown) (v := 122) dL_isThrown_171 rfl ?_
                          refine t_callS (K := K_L_isThrown) (As := [.ref ax, .int 0, .int 122]) (rest := []) dL_isThrown_173 rfl rM_L_realise (by decide) rfl rfl (by decide) (Nat.le_of_ble_eq_true rfl) (qx_realise h12 (by omega) hX (fun h13 => ?_))
                          show s_w _ _ _ 176 _ _ _ _
                          refine w_bipush (K := K_L_isThrown) (v := (-78)) dL_isThrown_176 rfl ?_
                          refine w_icmpne (K := K_L_isThrown) (t := 196) dL_isThrown_178 (by decide) (fun c178 => ?_) (fun c178 => ?_)
                          · exact absurd rfl c178
                          · refine w_op (K := K_L_isThrown) (pc' := 182) (ll' := [some (.ref ax), some (.int (I f_speakers 0)), some (.int (if I f_k_isOut 4 = 0 then 0 else 1)), some (.long (J j_allEnds 0)), none, none]) (st' := [.ref ax]) dL_isThrown_181 rfl ?_
                            refine w_iconst (K := K_L_isThrown) (v := 0) dL_isThrown_182 rfl ?_
                            refine w_iconst (K := K_L_isThrown) (v := 1) dL_isThrown_183 rfl ?_
                            refine t_callS (K := K_L_isThrown) (As := [.ref ax, .int 0, .int 1]) (rest := []) dL_isThrown_184 rfl rM_L_box (by decide) rfl rfl (by decide) (Nat.le_of_ble_eq_true rfl) (qx_box h13 (by omega) (fun h14 => ?_))
                            show s_w _ _ _ 187 _ _ _ _
                            refine w_bipush (K := K_L_isThrown) (v := (-78)) dL_isThrown_187 rfl ?_
                            refine w_icmpne (K := K_L_isThrown) (t := 196) dL_isThrown_189 (by decide) (fun c189 => ?_) (fun c189 => ?_)
                            · exact absurd rfl c189
                            · refine w_iconst (K := K_L_isThrown) (v := 1) dL_isThrown_192 rfl ?_
                              refine w_goto (K := K_L_isThrown) (t := 197) dL_isThrown_193 (by decide) ?_
                              refine w_op (K := K_L_isThrown) (pc' := 199) (ll' := [some (.ref ax), some (.int (I f_speakers 0)), some (.int (if I f_k_isOut 4 = 0 then 0 else 1)), some (.long (J j_allEnds 0)), none, some (.int 1)]) (st' := []) dL_isThrown_197 rfl ?_
                              refine w_op (K := K_L_isThrown) (pc' := 201) (ll' := [some (.ref ax), some (.int (I f_speakers 0)), some (.int (if I f_k_isOut 4 = 0 then 0 else 1)), some (.long (J j_allEnds 0)), none, some (.int 1)]) (st' := [.int 1]) dL_isThrown_199 rfl ?_
                              refine w_ifeq (K := K_L_isThrown) (t := 234) dL_isThrown_201 (by decide) (fun c201 => ?_) (fun c201 => ?_)
                              · exact absurd c201 (by decide)
                              · refine w_op (K := K_L_isThrown) (pc' := 205) (ll' := [some (.ref ax), some (.int (I f_speakers 0)), some (.int (if I f_k_isOut 4 = 0 then 0 else 1)), some (.long (J j_allEnds 0)), none, some (.int 1)]) (st' := [.ref ax]) dL_isThrown_204 rfl ?_
                                refine l_callH (K := K_L_isThrown) (As := []) (rest := []) dL_isThrown_205 rfl rM_X11_speaking (by decide) rfl rfl (by decide) rfl (Nat.le_of_ble_eq_true rfl) h14.hf (q_speaking_ h14 ?_)
                                show s_w _ _ _ 208 _ _ _ _
                                refine w_op (K := K_L_isThrown) (pc' := 209) (ll' := [some (.ref ax), some (.int (I f_speakers 0)), some (.int (if I f_k_isOut 4 = 0 then 0 else 1)), some (.long (J j_allEnds 0)), none, some (.int 1)]) (st' := [.int (I f_speakers 0), .int (I f_speakers 0)]) dL_isThrown_208 rfl ?_
                                refine w_icmpne (K := K_L_isThrown) (t := 234) dL_isThrown_209 (by decide) (fun c209 => ?_) (fun c209 => ?_)
                                · exact absurd rfl c209
                                · refine w_op (K := K_L_isThrown) (pc' := 213) (ll' := [some (.ref ax), some (.int (I f_speakers 0)), some (.int (if I f_k_isOut 4 = 0 then 0 else 1)), some (.long (J j_allEnds 0)), none, some (.int 1)]) (st' := [.ref ax]) dL_isThrown_212 rfl ?_
                                  refine w_iconst (K := K_L_isThrown) (v := (nI 4)) dL_isThrown_213 rfl ?_
                                  refine t_callS (K := K_L_isThrown) (As := [.ref ax, .int (nI 4)]) (rest := []) dL_isThrown_214 rfl rM_L_isDrawn (by decide) rfl rfl (by decide) (Nat.le_of_ble_eq_true rfl) (q_isDrawn_ h14 (show 4 < 9 by decide) (fun j _ => h14.bo rfl j) ?_)
                                  show s_w _ _ _ 217 _ _ _ _
                                  refine w_op (K := K_L_isThrown) (pc' := 218) (ll' := [some (.ref ax), some (.int (I f_speakers 0)), some (.int (if I f_k_isOut 4 = 0 then 0 else 1)), some (.long (J j_allEnds 0)), none, some (.int 1)]) (st' := [.int (if I f_k_isOut 4 = 0 then 0 else 1), .int (if I f_k_isOut 4 = 0 then 0 else 1)]) dL_isThrown_217 rfl ?_
                                  refine w_icmpne (K := K_L_isThrown) (t := 234) dL_isThrown_218 (by decide) (fun c218 => ?_) (fun c218 => ?_)
                                  · exact absurd rfl c218
                                  · refine w_op (K := K_L_isThrown) (pc' := 222) (ll' := [some (.ref ax), some (.int (I f_speakers 0)), some (.int (if I f_k_isOut 4 = 0 then 0 else 1)), some (.long (J j_allEnds 0)), none, some (.int 1)]) (st' := [.ref ax]) dL_isThrown_221 rfl ?_
                                    refine l_callH (K := K_L_isThrown) (As := []) (rest := []) dL_isThrown_222 rfl rM_X11_ended (by decide) rfl rfl (by decide) rfl (Nat.le_of_ble_eq_true rfl) h14.hf (q_ended_ h14 ?_)
                                    show s_w _ _ _ 225 _ _ _ _
                                    refine w_op (K := K_L_isThrown) (pc' := 226) (ll' := [some (.ref ax), some (.int (I f_speakers 0)), some (.int (if I f_k_isOut 4 = 0 then 0 else 1)), some (.long (J j_allEnds 0)), none, some (.int 1)]) (st' := [.long (J j_allEnds 0), .long (J j_allEnds 0)]) dL_isThrown_225 rfl ?_
                                    refine w_op (K := K_L_isThrown) (pc' := 227) (ll' := [some (.ref ax), some (.int (I f_speakers 0)), some (.int (if I f_k_isOut 4 = 0 then 0 else 1)), some (.long (J j_allEnds 0)), none, some (.int 1)]) (st' := [.int _]) dL_isThrown_226 rfl ?_
                                    refine w_ifne (K := K_L_isThrown) (t := 234) dL_isThrown_227 (by decide) (fun c227 => ?_) (fun c227 => ?_)
                                    · exact absurd ((v_cmp0 _ _).mpr rfl) c227
                                    · refine w_iconst (K := K_L_isThrown) (v := 1) dL_isThrown_230 rfl ?_
                                      refine w_goto (K := K_L_isThrown) (t := 235) dL_isThrown_231 (by decide) ?_
                                      refine w_ireturn (K := K_L_isThrown) dL_isThrown_235 ?_
                                      exact ⟨rfl, kk _ _ (by omega) h14⟩

