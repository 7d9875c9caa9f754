/-! 9999999999999997o: the law's questions on knobs, calls that throw, pallets behind ticks (printed by wip/p61/mkm.py) -/
set_option maxRecDepth 100000 in
set_option maxHeartbeats 400000 in
theorem c_rankX {X : e_XT} {d : Nat} {p : e_Sp} {I : e_I} {J : e_Jt} {c : Nat × Nat} {w : e_Rw1} {Q : e_Rt → e_SS → Prop} (kx : Q (.inr 0) (p, I, J, (c.1 + 1, c.2 + 6), w)) : s_c X (d + 1) 143 [.ref (p.1 T_HALL 0), .int 1, .int 0, .int 1, .int 0, .int 0, .int 0, .int 1] (p, I, J, c, w) Q := by
  refine m_X11_rank (Nat.le_of_ble_eq_true rfl) ?_
  show s_w _ _ _ 0 _ _ _ _
  refine w_op (pc' := 1) dX11_rank_0 rfl ?_
  refine w_iconst (v := 0) dX11_rank_1 rfl ?_
  refine w_bipush (v := 127) dX11_rank_2 rfl ?_
  refine t_callS (As := [_, _, _]) dX11_rank_4 rfl rM_X11_needRange (by decide) rfl rfl (by decide) (Nat.le_of_ble_eq_true rfl) (c_X11_needRange (d := d) (fun h1 => ?_) (fun h1 => absurd (by decide) h1))
  show s_w _ _ _ 7 _ _ _ _
  refine w_op (pc' := 8) dX11_rank_7 rfl ?_
  refine w_op (pc' := 9) dX11_rank_8 rfl ?_
  refine w_bipush (v := 127) dX11_rank_9 rfl ?_
  refine t_callS (As := [_, _, _]) dX11_rank_11 rfl rM_X11_needRange (by decide) rfl rfl (by decide) (Nat.le_of_ble_eq_true rfl) (c_X11_needRange (d := d) (fun h2 => absurd h2 (by decide)) (fun h2 => ?_))
  exact ⟨rfl, rfl, kx⟩
set_option maxRecDepth 100000 in
set_option maxHeartbeats 400000 in
theorem c_couplerX {X : e_XT} {d : Nat} {p : e_Sp} {I : e_I} {J : e_Jt} {c : Nat × Nat} {w : e_Rw1} {Q : e_Rt → e_SS → Prop} (kx : Q (.inr 0) (p, I, J, (c.1 + 1, c.2 + 6), w)) : s_c X (d + 2) 154 [.ref (p.1 T_HALL 0), .int 0, .int 0, .int 0, .int 97] (p, I, J, c, w) Q := by
  refine m_X11_coupler (Nat.le_of_ble_eq_true rfl) ?_
  show s_w _ _ _ 0 _ _ _ _
  refine w_op (pc' := 1) dX11_coupler_0 rfl ?_
  refine t_callS (As := [_]) dX11_coupler_1 rfl rM_X11_needDivision (by decide) rfl rfl (by decide) (Nat.le_of_ble_eq_true rfl) (c_X11_needDivision (d := d) (fun hd => ?_) (fun hd => absurd hd (by decide)))
  show s_w _ _ _ 4 _ _ _ _
  refine w_op (pc' := 5) dX11_coupler_4 rfl ?_
  refine t_callS (As := [_]) dX11_coupler_5 rfl rM_X11_needDivision (by decide) rfl rfl (by decide) (Nat.le_of_ble_eq_true rfl) (c_X11_needDivision (d := d) (fun hd2 => ?_) (fun hd2 => absurd hd2 (by decide)))
  show s_w _ _ _ 8 _ _ _ _
  refine w_op (pc' := 9) dX11_coupler_8 rfl ?_
  refine w_bipush (v := (-12)) dX11_coupler_9 rfl ?_
  refine w_icmpeq (t := 24) dX11_coupler_11 (by decide) (fun c11 => absurd c11 (by decide)) (fun c11 => ?_)
  refine w_op (pc' := 15) dX11_coupler_14 rfl ?_
  refine w_ifeq (t := 24) dX11_coupler_15 (by decide) (fun c15 => ?_) (fun c15 => absurd rfl c15)
  refine w_iconst (v := 1) dX11_coupler_24 rfl ?_
  refine w_goto (t := 29) dX11_coupler_25 (by decide) ?_
  refine w_op (pc' := 31) (ll' := [_, _, _, _, _, _, _]) dX11_coupler_29 rfl ?_
  refine w_op (pc' := 33) dX11_coupler_31 rfl ?_
  refine w_bipush (v := 97) dX11_coupler_33 rfl ?_
  refine w_icmpeq (t := 59) dX11_coupler_35 (by decide) (fun c35 => ?_) (fun c35 => absurd rfl c35)
  refine w_iconst (v := 1) dX11_coupler_59 rfl ?_
  refine w_goto (t := 64) dX11_coupler_60 (by decide) ?_
  refine w_op (pc' := 66) (ll' := [_, _, _, _, _, _, _]) dX11_coupler_64 rfl ?_
  refine w_op (pc' := 68) dX11_coupler_66 rfl ?_
  refine w_ifeq (t := 85) dX11_coupler_68 (by decide) (fun c68 => absurd c68 (by decide)) (fun c68 => ?_)
  refine w_op (pc' := 73) dX11_coupler_71 rfl ?_
  refine w_ifeq (t := 85) dX11_coupler_73 (by decide) (fun c73 => absurd c73 (by decide)) (fun c73 => ?_)
  refine w_op (pc' := 77) dX11_coupler_76 rfl ?_
  refine w_op (pc' := 78) dX11_coupler_77 rfl ?_
  refine w_icmpne (t := 95) dX11_coupler_78 (by decide) (fun c78 => absurd rfl c78) (fun c78 => ?_)
  refine w_op (pc' := 82) dX11_coupler_81 rfl ?_
  refine w_ifne (t := 95) dX11_coupler_82 (by decide) (fun c82 => absurd rfl c82) (fun c82 => ?_)
  exact w_thr0 (is := 142) (sp := 1036) (tx := "no such coupler") (by decide) rfl rfl (by simp) dX11_coupler_85 dX11_coupler_88 (Or.inl ⟨dX11_coupler_89, dX11_coupler_91, dX11_coupler_94⟩) ⟨rfl, kx⟩
theorem z_n9 : ∀ jj, jj < 9 → ¬ (9 : Int32) = nI jj := by decide
set_option maxRecDepth 100000 in
set_option maxHeartbeats 400000 in
theorem qx_rank {X : e_XT} {d T e ax : Nat} {p : e_Sp} {I : e_I} {J : e_Jt} {c : Nat × Nat} {w : e_Rw1} {Q : e_Rt → e_SS → Prop} (h : z_O T e ax (p, I, J, c, w)) (he : e ≤ 400) (kx : z_O T (e + 1) ax (p, I, J, (c.1 + 1, c.2 + 6), w) → Q (.inl (some (.int (-78)))) (p, I, J, (c.1 + 1, c.2 + 6), w)) : s_c X (d + 11) 399 [.ref ax, .int (1), .int (0), .int (1), .int (0), .int (0), .int (0), .int (1)] (p, I, J, c, w) Q := by
  obtain ⟨⟨np, hD, hW, ⟨a, b, hTp, ha, hb⟩, hnp, n, t, s, m, I', J', hS, ⟨K, hK, hR⟩, hn, hm⟩, hF, hV, hax⟩ := id h
  dsimp only at hD hW hTp hS hF hV hax
  have h5 := hS.2.2.2.2.2.1
  have hc : c.1 < e_xb := h.c he
  rw [← hax]
  have EX := kx (h.ex he)
  exact c_L_rank (d := d + 10) hD.1.1 (c_rankX (d := d + 9) ⟨_, by decide, EX⟩)

set_option maxRecDepth 100000 in
set_option maxHeartbeats 400000 in
theorem qx_coupler {X : e_XT} {d T e ax : Nat} {p : e_Sp} {I : e_I} {J : e_Jt} {c : Nat × Nat} {w : e_Rw1} {Q : e_Rt → e_SS → Prop} (h : z_O T e ax (p, I, J, c, w)) (he : e ≤ 400) (kx : z_O T (e + 1) ax (p, I, J, (c.1 + 1, c.2 + 6), w) → Q (.inl (some (.int (-78)))) (p, I, J, (c.1 + 1, c.2 + 6), w)) : s_c X (d + 11) 402 [.ref ax, .int (0), .int (0), .int (0), .int (97)] (p, I, J, c, w) Q := by
  obtain ⟨⟨np, hD, hW, ⟨a, b, hTp, ha, hb⟩, hnp, n, t, s, m, I', J', hS, ⟨K, hK, hR⟩, hn, hm⟩, hF, hV, hax⟩ := id h
  dsimp only at hD hW hTp hS hF hV hax
  have h5 := hS.2.2.2.2.2.1
  have hc : c.1 < e_xb := h.c he
  rw [← hax]
  have EX := kx (h.ex he)
  exact c_L_coupler (d := d + 10) hD.1.1 (c_couplerX (d := d + 8) ⟨_, by decide, EX⟩)

set_option maxRecDepth 100000 in
set_option maxHeartbeats 400000 in
theorem qx_isDrawn {X : e_XT} {d T e ax : Nat} {p : e_Sp} {I : e_I} {J : e_Jt} {c : Nat × Nat} {w : e_Rw1} {Q : e_Rt → e_SS → Prop} (h : z_O T e ax (p, I, J, c, w)) (he : e ≤ 400) (kx : z_O T (e + 1) ax (p, I, J, (c.1 + 1, c.2 + 6), w) → Q (.inl (some (.int (-77)))) (p, I, J, (c.1 + 1, c.2 + 6), w)) : s_c X (d + 11) 409 [.ref ax, .int (9)] (p, I, J, c, w) Q := by
  obtain ⟨⟨np, hD, hW, ⟨a, b, hTp, ha, hb⟩, hnp, n, t, s, m, I', J', hS, ⟨K, hK, hR⟩, hn, hm⟩, hF, hV, hax⟩ := id h
  dsimp only at hD hW hTp hS hF hV hax
  have h5 := hS.2.2.2.2.2.1
  have hc : c.1 < e_xb := h.c he
  rw [← hax]
  have EX := kx (h.ex he)
  exact c_L_isDrawn (d := d + 10) hD.1.1 (c_X11_isDrawn (d := d + 5) hD.1 (fun j _ => h5.1 f_k_isOut rfl j) (fun jj hjj hxx => absurd hxx (z_n9 jj hjj)) (fun _ => ⟨_, by decide, EX⟩))

set_option maxRecDepth 100000 in
set_option maxHeartbeats 400000 in
theorem qx_draw {X : e_XT} {d T e ax : Nat} {p : e_Sp} {I : e_I} {J : e_Jt} {c : Nat × Nat} {w : e_Rw1} {Q : e_Rt → e_SS → Prop} (h : z_O T e ax (p, I, J, c, w)) (he : e ≤ 400) (kx : z_O T (e + 1) ax (p, I, J, (c.1 + 1, c.2 + 6), w) → Q (.inl (some (.int (-77)))) (p, I, J, (c.1 + 1, c.2 + 6), w)) : s_c X (d + 11) 408 [.ref ax, .int (9), .int (1)] (p, I, J, c, w) Q := by
  obtain ⟨⟨np, hD, hW, ⟨a, b, hTp, ha, hb⟩, hnp, n, t, s, m, I', J', hS, ⟨K, hK, hR⟩, hn, hm⟩, hF, hV, hax⟩ := id h
  dsimp only at hD hW hTp hS hF hV hax
  have h5 := hS.2.2.2.2.2.1
  have hc : c.1 < e_xb := h.c he
  rw [← hax]
  have EX := kx (h.ex he)
  exact c_L_draw (d := d + 10) hD.1.1 (c_X11_draw (d := d + 3) hD hTp (Or.inr rfl) (fun j _ => h5.1 f_k_isOut rfl j) (fun jj hjj hxx => absurd hxx (z_n9 jj hjj)) (fun _ => ⟨_, by decide, EX⟩))

set_option maxRecDepth 100000 in
set_option maxHeartbeats 400000 in
theorem qx_key {X : e_XT} {d T e ax : Nat} {p : e_Sp} {I : e_I} {J : e_Jt} {c : Nat × Nat} {w : e_Rw1} {Q : e_Rt → e_SS → Prop} (h : z_O T e ax (p, I, J, c, w)) (he : e ≤ 400) (kx : z_O T (e + 1) ax (p, I, J, (c.1 + 1, c.2 + 6), w) → Q (.inl (some (.int (-77)))) (p, I, J, (c.1 + 1, c.2 + 6), w)) : s_c X (d + 11) 406 [.ref ax, .int (0), .int (40), .int (1)] (p, I, J, c, w) Q := by
  obtain ⟨⟨np, hD, hW, ⟨a, b, hTp, ha, hb⟩, hnp, n, t, s, m, I', J', hS, ⟨K, hK, hR⟩, hn, hm⟩, hF, hV, hax⟩ := id h
  dsimp only at hD hW hTp hS hF hV hax
  have h5 := hS.2.2.2.2.2.1
  have hc : c.1 < e_xb := h.c he
  rw [← hax]
  have EX := kx (h.ex he)
  exact c_L_key (d := d + 10) hD.1.1 (c_X11_key (d := d + 3) hD hTp (Or.inr rfl) (fun z => absurd z (by decide)) (fun _ => ⟨_, by decide, EX⟩))

set_option maxRecDepth 100000 in
set_option maxHeartbeats 400000 in
theorem qx_pass {X : e_XT} {d T e ax : Nat} {p : e_Sp} {I : e_I} {J : e_Jt} {c : Nat × Nat} {w : e_Rw1} {Q : e_Rt → e_SS → Prop} (h : z_O T e ax (p, I, J, c, w)) (he : e ≤ 400) (kx : z_O T (e + 1) ax (p, I, J, (c.1 + 1, c.2 + 6), w) → Q (.inl (some (.int (-78)))) (p, I, J, (c.1 + 1, c.2 + 6), w)) : s_c X (d + 11) 404 [.ref ax, .int (0)] (p, I, J, c, w) Q := by
  obtain ⟨⟨np, hD, hW, ⟨a, b, hTp, ha, hb⟩, hnp, n, t, s, m, I', J', hS, ⟨K, hK, hR⟩, hn, hm⟩, hF, hV, hax⟩ := id h
  dsimp only at hD hW hTp hS hF hV hax
  have h5 := hS.2.2.2.2.2.1
  have hc : c.1 < e_xb := h.c he
  rw [← hax]
  have EX := kx (h.ex he)
  exact c_L_pass (d := d + 10) hD.1.1 (c_X11_pass (d := d + 2) hD hTp (fun z => absurd z (by decide)) (fun _ => ⟨_, by decide, EX⟩))

set_option maxRecDepth 100000 in
set_option maxHeartbeats 400000 in
theorem qx_set {X : e_XT} {d T e ax : Nat} {p : e_Sp} {I : e_I} {J : e_Jt} {c : Nat × Nat} {w : e_Rw1} {Q : e_Rt → e_SS → Prop} (h : z_O T e ax (p, I, J, c, w)) (he : e ≤ 400) (kx : z_O T (e + 1) ax (p, I, J, (c.1 + 1, c.2 + 6), w) → Q (.inl (some (.int (-77)))) (p, I, J, (c.1 + 1, c.2 + 6), w)) : s_c X (d + 11) 410 [.ref ax, .int (-1), .int (9)] (p, I, J, c, w) Q := by
  obtain ⟨⟨np, hD, hW, ⟨a, b, hTp, ha, hb⟩, hnp, n, t, s, m, I', J', hS, ⟨K, hK, hR⟩, hn, hm⟩, hF, hV, hax⟩ := id h
  dsimp only at hD hW hTp hS hF hV hax
  have h5 := hS.2.2.2.2.2.1
  have hc : c.1 < e_xb := h.c he
  rw [← hax]
  have EX := kx (h.ex he)
  exact c_L_set (d := d + 10) hD.1.1 (c_X11_set (d := d + 6) hD.1 (z_me hS) (fun z => absurd (by decide) z) (fun _ => ⟨_, by decide, EX⟩) (fun z => absurd (by decide) z))

set_option maxRecDepth 100000 in
set_option maxHeartbeats 400000 in
theorem qx_turnTo {X : e_XT} {d T e ax : Nat} {p : e_Sp} {I : e_I} {J : e_Jt} {c : Nat × Nat} {w : e_Rw1} {Q : e_Rt → e_SS → Prop} (h : z_O T e ax (p, I, J, c, w)) (he : e ≤ 400) (kx : z_O T (e + 1) ax (p, I, J, (c.1 + 1, c.2 + 6), w) → Q (.inl (some (.int (-77)))) (p, I, J, (c.1 + 1, c.2 + 6), w)) : s_c X (d + 11) 415 [.ref ax, .int (20)] (p, I, J, c, w) Q := by
  obtain ⟨⟨np, hD, hW, ⟨a, b, hTp, ha, hb⟩, hnp, n, t, s, m, I', J', hS, ⟨K, hK, hR⟩, hn, hm⟩, hF, hV, hax⟩ := id h
  dsimp only at hD hW hTp hS hF hV hax
  have h5 := hS.2.2.2.2.2.1
  have hc : c.1 < e_xb := h.c he
  rw [← hax]
  have EX := kx (h.ex he)
  exact c_L_turnTo (d := d + 10) hD.1.1 (c_X11_turnTo (d := d + 2) hD hTp (z_me hS) (fun z => absurd z.2 (by obtain ⟨⟨g, hg, eg⟩, -, h3⟩ := z_me hS; obtain ⟨m8, hm8, e8⟩ := h3 g hg; unfold s_frs; rw [eg, nI_clamp (by omega), e8]; exact Int32.not_lt.mpr (nI_le (b := 20) hm8 (by decide)))) (fun _ => ⟨_, by decide, EX⟩))

set_option maxRecDepth 100000 in
set_option maxHeartbeats 400000 in
theorem qx_wire {X : e_XT} {d T e ax : Nat} {p : e_Sp} {I : e_I} {J : e_Jt} {c : Nat × Nat} {w : e_Rw1} {Q : e_Rt → e_SS → Prop} (h : z_O T e ax (p, I, J, c, w)) (he : e ≤ 400) (kx : z_O T (e + 1) ax (p, I, J, (c.1 + 1, c.2 + 6), w) → Q (.inl (some (.int (-78)))) (p, I, J, (c.1 + 1, c.2 + 6), w)) : s_c X (d + 11) 416 [.ref ax, .int (0), .int (38), .int (400), .int (0)] (p, I, J, c, w) Q := by
  obtain ⟨⟨np, hD, hW, ⟨a, b, hTp, ha, hb⟩, hnp, n, t, s, m, I', J', hS, ⟨K, hK, hR⟩, hn, hm⟩, hF, hV, hax⟩ := id h
  dsimp only at hD hW hTp hS hF hV hax
  have h5 := hS.2.2.2.2.2.1
  have hc : c.1 < e_xb := h.c he
  rw [← hax]
  have EX := kx (h.ex he)
  exact c_L_wire (d := d + 10) hD.1.1 (c_X11_wire (d := d + 3) hD hTp (by decide) (fun _ _ z => absurd z (by decide)) (fun z => absurd (by decide) z) (fun _ _ => ⟨_, by decide, EX⟩) (fun _ _ z => absurd z (by decide)))

set_option maxRecDepth 100000 in
set_option maxHeartbeats 400000 in
theorem qx_drive {X : e_XT} {d T e ax : Nat} {p : e_Sp} {I : e_I} {J : e_Jt} {c : Nat × Nat} {w : e_Rw1} {Q : e_Rt → e_SS → Prop} (h : z_O T e ax (p, I, J, c, w)) (he : e ≤ 400) (kx : z_O T (e + 1) ax (p, I, J, (c.1 + 1, c.2 + 6), w) → Q (.inl (some (.int (-77)))) (p, I, J, (c.1 + 1, c.2 + 6), w)) : s_c X (d + 11) 418 [.ref ax, .int (0), .int (16)] (p, I, J, c, w) Q := by
  obtain ⟨⟨np, hD, hW, ⟨a, b, hTp, ha, hb⟩, hnp, n, t, s, m, I', J', hS, ⟨K, hK, hR⟩, hn, hm⟩, hF, hV, hax⟩ := id h
  dsimp only at hD hW hTp hS hF hV hax
  have h5 := hS.2.2.2.2.2.1
  have hc : c.1 < e_xb := h.c he
  rw [← hax]
  have EX := kx (h.ex he)
  exact c_L_drive (d := d + 10) hD.1.1 (c_X11_drive (d := d + 3) hD hTp (fun _ _ _ z => absurd z (by decide)) (fun z => absurd z (by decide)) (fun _ _ _ _ _ => ⟨_, by decide, EX⟩))

set_option maxRecDepth 100000 in
set_option maxHeartbeats 400000 in
theorem qx_record {X : e_XT} {d T e ax : Nat} {p : e_Sp} {I : e_I} {J : e_Jt} {c : Nat × Nat} {w : e_Rw1} {Q : e_Rt → e_SS → Prop} (h : z_O T e ax (p, I, J, c, w)) (he : e ≤ 400) (kx : z_O T (e + 1) ax (p, I, J, (c.1 + 1, c.2 + 6), w) → Q (.inl (some (.int (-78)))) (p, I, J, (c.1 + 1, c.2 + 6), w)) : s_c X (d + 11) 422 [.ref ax, .int (122)] (p, I, J, c, w) Q := by
  obtain ⟨⟨np, hD, hW, ⟨a, b, hTp, ha, hb⟩, hnp, n, t, s, m, I', J', hS, ⟨K, hK, hR⟩, hn, hm⟩, hF, hV, hax⟩ := id h
  dsimp only at hD hW hTp hS hF hV hax
  have h5 := hS.2.2.2.2.2.1
  have hc : c.1 < e_xb := h.c he
  rw [← hax]
  have EX := kx (h.ex he)
  exact c_L_record (d := d + 10) hD.1.1 (c_X11_record (d := d + 9) hD.1.1 (h5.2.2.2.2.1 0) (fun z => absurd z (by decide)) (fun z => absurd z (by decide)) (fun _ => ⟨_, by decide, EX⟩))

set_option maxRecDepth 100000 in
set_option maxHeartbeats 400000 in
theorem qx_realise {X : e_XT} {d T e ax : Nat} {p : e_Sp} {I : e_I} {J : e_Jt} {c : Nat × Nat} {w : e_Rw1} {Q : e_Rt → e_SS → Prop} (h : z_O T e ax (p, I, J, c, w)) (he : e ≤ 400) (hX : v_X X) (kx : z_O T (e + 1) ax (p, I, J, (c.1 + 1, c.2 + 6), w) → Q (.inl (some (.int (-78)))) (p, I, J, (c.1 + 1, c.2 + 6), w)) : s_c X (d + 11) 421 [.ref ax, .int (0), .int (122)] (p, I, J, c, w) Q := by
  obtain ⟨⟨np, hD, hW, ⟨a, b, hTp, ha, hb⟩, hnp, n, t, s, m, I', J', hS, ⟨K, hK, hR⟩, hn, hm⟩, hF, hV, hax⟩ := id h
  dsimp only at hD hW hTp hS hF hV hax
  have h5 := hS.2.2.2.2.2.1
  have hc : c.1 < e_xb := h.c he
  rw [← hax]
  have EX := kx (h.ex he)
  exact c_L_realise (d := d + 10) hD.1.1 (c_X11_realise (d := d + 2) hD hTp hc hX.2.2.1 (fun y => by
    rcases z_fig y with h | h | h | h | h
    · rw [h, (hX.1 1 (by decide) (by decide)).1]; decide
    · rw [h, (hX.1 2 (by decide) (by decide)).1]; decide
    · rw [h, (hX.1 3 (by decide) (by decide)).1]; decide
    · rw [h, (hX.1 4 (by decide) (by decide)).1]; decide
    · rw [h, hX.2.1]; decide) (fun _ z => absurd ((v_fig hX 122).1.mpr (by decide)) z) (fun z => absurd (by decide) z) (fun _ _ => ⟨_, by decide, EX⟩) (fun _ z => absurd ((v_fig hX 122).1.mpr (by decide)) z))

set_option maxRecDepth 100000 in
set_option maxHeartbeats 400000 in
theorem qx_box {X : e_XT} {d T e ax : Nat} {p : e_Sp} {I : e_I} {J : e_Jt} {c : Nat × Nat} {w : e_Rw1} {Q : e_Rt → e_SS → Prop} (h : z_O T e ax (p, I, J, c, w)) (he : e ≤ 400) (kx : z_O T (e + 1) ax (p, I, J, (c.1 + 1, c.2 + 6), w) → Q (.inl (some (.int (-78)))) (p, I, J, (c.1 + 1, c.2 + 6), w)) : s_c X (d + 11) 447 [.ref ax, .int (0), .int (1)] (p, I, J, c, w) Q := by
  obtain ⟨⟨np, hD, hW, ⟨a, b, hTp, ha, hb⟩, hnp, n, t, s, m, I', J', hS, ⟨K, hK, hR⟩, hn, hm⟩, hF, hV, hax⟩ := id h
  dsimp only at hD hW hTp hS hF hV hax
  have h5 := hS.2.2.2.2.2.1
  have hc : c.1 < e_xb := h.c he
  rw [← hax]
  have EX := kx (h.ex he)
  exact c_L_box (d := d + 10) hD.1.1 (c_X11_box (d := d + 9) hD.1.1 (fun z => absurd z (by decide)) (fun _ => ⟨_, by decide, EX⟩) (fun z => absurd z (by decide)))

set_option maxRecDepth 100000 in
set_option maxHeartbeats 400000 in
theorem qx_row {X : e_XT} {d T e ax : Nat} {p : e_Sp} {I : e_I} {J : e_Jt} {c : Nat × Nat} {w : e_Rw1} {Q : e_Rt → e_SS → Prop} (h : z_O T e ax (p, I, J, c, w)) (he : e ≤ 400) (kx : z_O T (e + 1) ax (p, I, J, (c.1 + 1, c.2 + 6), w) → Q (.inl (some (.int (-76)))) (p, I, J, (c.1 + 1, c.2 + 6), w)) : s_c X (d + 11) 401 [.ref ax, .int (0), .int (0), .int (0), .int (0), .int (0)] (p, I, J, c, w) Q := by
  obtain ⟨⟨np, hD, hW, ⟨a, b, hTp, ha, hb⟩, hnp, n, t, s, m, I', J', hS, ⟨K, hK, hR⟩, hn, hm⟩, hF, hV, hax⟩ := id h
  dsimp only at hD hW hTp hS hF hV hax
  have h5 := hS.2.2.2.2.2.1
  have hc : c.1 < e_xb := h.c he
  rw [← hax]
  have EX := kx (h.ex he)
  exact c_L_row (d := d + 10) hD.1.1 (c_X11_row (d := d + 3) hD hTp (fun jj hjj hxx _ _ _ _ _ _ hk => absurd ((hF.2.1 jj hjj).mp hk) (by have := h_kE hjj (show 0 < 9 by decide) (by decide) (show nI 0 = nI jj from hxx); omega)) (fun z => absurd z (by decide)) (fun _ _ _ z => absurd z (by decide)) (fun _ _ _ _ _ _ z => absurd (by decide) z) (fun _ _ _ _ _ _ _ z => absurd (by decide) z) (fun _ _ _ _ _ _ _ _ z => absurd (by decide) z) (fun _ _ _ _ _ _ _ _ _ _ => ⟨_, by decide, EX⟩) (fun jj hjj hxx _ _ _ _ _ _ hk => absurd ((hF.2.1 jj hjj).mp hk) (by have := h_kE hjj (show 0 < 9 by decide) (by decide) (show nI 0 = nI jj from hxx); omega)))

set_option maxRecDepth 100000 in
set_option maxHeartbeats 400000 in
theorem qx_cross {X : e_XT} {d T e ax : Nat} {p : e_Sp} {I : e_I} {J : e_Jt} {c : Nat × Nat} {w : e_Rw1} {Q : e_Rt → e_SS → Prop} (h : z_O T e ax (p, I, J, c, w)) (he : e ≤ 400) (kx : z_O T (e + 1) ax (p, I, J, (c.1 + 1, c.2 + 6), w) → Q (.inl (some (.int (-78)))) (p, I, J, (c.1 + 1, c.2 + 6), w)) : s_c X (d + 11) 446 [.ref ax, .int (3), .int (1), .int (1)] (p, I, J, c, w) Q := by
  obtain ⟨⟨np, hD, hW, ⟨a, b, hTp, ha, hb⟩, hnp, n, t, s, m, I', J', hS, ⟨K, hK, hR⟩, hn, hm⟩, hF, hV, hax⟩ := id h
  dsimp only at hD hW hTp hS hF hV hax
  have h5 := hS.2.2.2.2.2.1
  have hc : c.1 < e_xb := h.c he
  rw [← hax]
  have EX := kx (h.ex he)
  exact c_L_cross (d := d + 10) hD.1.1 (c_X11_cross (d := d + 3) hD hTp (fun _ _ _ _ _ z => absurd rfl z) (fun z => absurd z (by decide)) (fun _ _ _ z => absurd (by decide) z) (fun _ _ _ _ z => absurd (by decide) z) (fun _ _ _ _ _ _ => ⟨_, by decide, EX⟩) (fun _ _ _ _ _ z => absurd rfl z))

set_option maxRecDepth 100000 in
set_option maxHeartbeats 400000 in
theorem ak_1 {X : e_XT} {d T e ax : Nat} {p : e_Sp} {I : e_I} {J : e_Jt} {c : Nat × Nat} {w : e_Rw1} {Q : e_Rt → e_SS → Prop} {k9 : Nat} {x3 x4 : Option Value} (h : z_O T e ax (p, I, J, c, w)) (he : e ≤ 380) (hk : k9 < 9) (k : ∀ e2 c2 x3 x4, e2 ≤ e + 1 → z_O T e2 ax (p, I, J, c2, w) → s_w X (d + 12) K_L_areKnobs 4 [some (.ref ax), some (.int 1), some (.int (nI (k9 + 1))), x3, x4] [] (p, I, J, c2, w) Q) : s_w X (d + 12) K_L_areKnobs 4 [some (.ref ax), some (.int 1), some (.int (nI k9)), x3, x4] [] (p, I, J, c, w) Q := by
  obtain ⟨np, I', J', hQ⟩ := h.q
  have hF : z_F p I := h.2.1
  refine w_op (K := K_L_areKnobs) (pc' := 5) (ll' := [some (.ref ax), some (.int 1), some (.int (nI k9)), x3, x4]) (st' := [.int (nI k9)]) dL_areKnobs_4 rfl ?_
  refine w_bipush (K := K_L_areKnobs) (v := (nI 9)) dL_areKnobs_5 rfl ?_
  refine w_icmpge (K := K_L_areKnobs) (t := 68) dL_areKnobs_7 (by decide) (fun c7 => ?_) (fun c7 => ?_)
  · exact absurd ((nI_ltI (by omega) (by decide)).mpr hk) (Int32.not_lt.mpr c7)
  · refine w_op (K := K_L_areKnobs) (pc' := 11) (ll' := [some (.ref ax), some (.int 1), some (.int (nI k9)), x3, x4]) (st' := [.ref ax]) dL_areKnobs_10 rfl ?_
    refine w_op (K := K_L_areKnobs) (pc' := 12) (ll' := [some (.ref ax), some (.int 1), some (.int (nI k9)), x3, x4]) (st' := [.int (nI k9), .ref ax]) dL_areKnobs_11 rfl ?_
    refine t_callS (K := K_L_areKnobs) (As := [.ref ax, .int (nI k9)]) (rest := []) dL_areKnobs_12 rfl rM_L_isDrawn (by decide) rfl rfl (by decide) (Nat.le_of_ble_eq_true rfl) (q_isDrawn_ h hk (fun j _ => h.bo rfl j) ?_)
    show s_w _ _ _ 15 _ _ _ _
    refine w_op (K := K_L_areKnobs) (pc' := 16) (ll' := [some (.ref ax), some (.int 1), some (.int (nI k9)), some (.int _), x4]) (st' := []) dL_areKnobs_15 rfl ?_
    refine w_op (K := K_L_areKnobs) (pc' := 17) (ll' := [some (.ref ax), some (.int 1), some (.int (nI k9)), some (.int _), x4]) (st' := [.ref ax]) dL_areKnobs_16 rfl ?_
    refine w_op (K := K_L_areKnobs) (pc' := 18) (ll' := [some (.ref ax), some (.int 1), some (.int (nI k9)), some (.int _), x4]) (st' := [.int (nI k9), .ref ax]) dL_areKnobs_17 rfl ?_
    refine t_callS (K := K_L_areKnobs) (As := [.ref ax, .int (nI k9)]) (rest := []) dL_areKnobs_18 rfl rM_L_isOn (by decide) rfl rfl (by decide) (Nat.le_of_ble_eq_true rfl) (q_isOn_ h (by omega) hk (fun hy => ?_) (fun hy h1 => ?_))
    · show s_w _ _ _ 21 _ _ _ _
      have hy2 := (hF.2.1 k9 hk).mp hy
      refine w_op (K := K_L_areKnobs) (pc' := 23) (ll' := [some (.ref ax), some (.int 1), some (.int (nI k9)), some (.int _), some (.int _)]) (st' := []) dL_areKnobs_21 rfl ?_
      refine w_op (K := K_L_areKnobs) (pc' := 24) (ll' := [some (.ref ax), some (.int 1), some (.int (nI k9)), some (.int _), some (.int _)]) (st' := [.int 1]) dL_areKnobs_23 rfl ?_
      refine w_op (K := K_L_areKnobs) (pc' := 25) (ll' := [some (.ref ax), some (.int 1), some (.int (nI k9)), some (.int _), some (.int _)]) (st' := [.int (nI k9), .int 1]) dL_areKnobs_24 rfl ?_
      refine w_iconst (K := K_L_areKnobs) (v := (nI 3)) dL_areKnobs_25 rfl ?_
      refine w_icmplt (K := K_L_areKnobs) (t := 34) dL_areKnobs_26 (by decide) (fun c26 => ?_) (fun c26 => ?_)
      · exact absurd ((nI_ltI (by omega) (by decide)).mp c26) (by omega)
      · refine w_op (K := K_L_areKnobs) (pc' := 30) (ll' := [some (.ref ax), some (.int 1), some (.int (nI k9)), some (.int _), some (.int _)]) (st' := [.int (nI k9), .int 1]) dL_areKnobs_29 rfl ?_
        refine w_iconst (K := K_L_areKnobs) (v := (nI 5)) dL_areKnobs_30 rfl ?_
        refine w_icmple (K := K_L_areKnobs) (t := 49) dL_areKnobs_31 (by decide) (fun c31 => ?_) (fun c31 => ?_)
        · refine w_op (K := K_L_areKnobs) (pc' := 51) (ll' := [some (.ref ax), some (.int 1), some (.int (nI k9)), some (.int _), some (.int _)]) (st' := [.int _, .int 1]) dL_areKnobs_49 rfl ?_
          refine w_op (K := K_L_areKnobs) (pc' := 52) (ll' := [some (.ref ax), some (.int 1), some (.int (nI k9)), some (.int _), some (.int _)]) (st' := [.int _, .int _, .int 1]) dL_areKnobs_51 rfl ?_
          refine w_icmplt (K := K_L_areKnobs) (t := 59) dL_areKnobs_52 (by decide) (fun c52 => ?_) (fun c52 => ?_)
          · exact absurd c52 (Int32.not_lt.mpr (hQ.so hy2))
          · refine w_iconst (K := K_L_areKnobs) (v := 1) dL_areKnobs_55 rfl ?_
            refine w_goto (K := K_L_areKnobs) (t := 60) dL_areKnobs_56 (by decide) ?_
            refine w_op (K := K_L_areKnobs) (pc' := 61) (ll' := [some (.ref ax), some (.int 1), some (.int (nI k9)), some (.int _), some (.int _)]) (st' := [.int (1 &&& 1)]) dL_areKnobs_60 rfl ?_
            rw [show (1 : Int32) &&& 1 = 1 by decide]
            refine w_op (K := K_L_areKnobs) (pc' := 62) (ll' := [some (.ref ax), some (.int 1), some (.int (nI k9)), some (.int _), some (.int _)]) (st' := []) dL_areKnobs_61 rfl ?_
            refine w_op (K := K_L_areKnobs) (pc' := 65) (ll' := [some (.ref ax), some (.int 1), some (.int ((nI k9) + 1)), some (.int _), some (.int _)]) (st' := []) dL_areKnobs_62 rfl ?_
            rw [show nI k9 + 1 = nI (k9 + 1) from nI_1 k9]
            refine w_goto (K := K_L_areKnobs) (t := 4) dL_areKnobs_65 (by decide) ?_
            exact k _ _ _ _ (by omega) h
        · exact absurd (nI_le (a := k9) (b := 5) (by omega) (by decide)) c31
    · show s_w _ _ _ 21 _ _ _ _
      have hy2 := fun z => hy ((hF.2.1 k9 hk).mpr z)
      refine w_op (K := K_L_areKnobs) (pc' := 23) (ll' := [some (.ref ax), some (.int 1), some (.int (nI k9)), some (.int _), some (.int (-76))]) (st' := []) dL_areKnobs_21 rfl ?_
      refine w_op (K := K_L_areKnobs) (pc' := 24) (ll' := [some (.ref ax), some (.int 1), some (.int (nI k9)), some (.int _), some (.int (-76))]) (st' := [.int 1]) dL_areKnobs_23 rfl ?_
      refine w_op (K := K_L_areKnobs) (pc' := 25) (ll' := [some (.ref ax), some (.int 1), some (.int (nI k9)), some (.int _), some (.int (-76))]) (st' := [.int (nI k9), .int 1]) dL_areKnobs_24 rfl ?_
      refine w_iconst (K := K_L_areKnobs) (v := (nI 3)) dL_areKnobs_25 rfl ?_
      refine w_icmplt (K := K_L_areKnobs) (t := 34) dL_areKnobs_26 (by decide) (fun c26 => ?_) (fun c26 => ?_)
      · refine w_op (K := K_L_areKnobs) (pc' := 36) (ll' := [some (.ref ax), some (.int 1), some (.int (nI k9)), some (.int _), some (.int (-76))]) (st' := [.int (-76), .int 1]) dL_areKnobs_34 rfl ?_
        refine w_bipush (K := K_L_areKnobs) (v := (-76)) dL_areKnobs_36 rfl ?_
        refine w_icmpne (K := K_L_areKnobs) (t := 45) dL_areKnobs_38 (by decide) (fun c38 => ?_) (fun c38 => ?_)
        · exact absurd rfl c38
        · refine w_iconst (K := K_L_areKnobs) (v := 1) dL_areKnobs_41 rfl ?_
          refine w_goto (K := K_L_areKnobs) (t := 60) dL_areKnobs_42 (by decide) ?_
          refine w_op (K := K_L_areKnobs) (pc' := 61) (ll' := [some (.ref ax), some (.int 1), some (.int (nI k9)), some (.int _), some (.int (-76))]) (st' := [.int (1 &&& 1)]) dL_areKnobs_60 rfl ?_
          rw [show (1 : Int32) &&& 1 = 1 by decide]
          refine w_op (K := K_L_areKnobs) (pc' := 62) (ll' := [some (.ref ax), some (.int 1), some (.int (nI k9)), some (.int _), some (.int (-76))]) (st' := []) dL_areKnobs_61 rfl ?_
          refine w_op (K := K_L_areKnobs) (pc' := 65) (ll' := [some (.ref ax), some (.int 1), some (.int ((nI k9) + 1)), some (.int _), some (.int (-76))]) (st' := []) dL_areKnobs_62 rfl ?_
          rw [show nI k9 + 1 = nI (k9 + 1) from nI_1 k9]
          refine w_goto (K := K_L_areKnobs) (t := 4) dL_areKnobs_65 (by decide) ?_
          exact k _ _ _ _ (by omega) h1
      · refine w_op (K := K_L_areKnobs) (pc' := 30) (ll' := [some (.ref ax), some (.int 1), some (.int (nI k9)), some (.int _), some (.int (-76))]) (st' := [.int (nI k9), .int 1]) dL_areKnobs_29 rfl ?_
        refine w_iconst (K := K_L_areKnobs) (v := (nI 5)) dL_areKnobs_30 rfl ?_
        refine w_icmple (K := K_L_areKnobs) (t := 49) dL_areKnobs_31 (by decide) (fun c31 => ?_) (fun c31 => ?_)
        · exact absurd ⟨(show 3 ≤ k9 from by apply Decidable.byContradiction; intro z; exact c26 ((nI_ltI (by omega) (by decide)).mpr (by omega))), (show k9 < 6 from by apply Decidable.byContradiction; intro z; exact absurd c31 (Int32.not_le.mpr ((nI_ltI (a := 5) (by decide) (by omega)).mpr (by omega))))⟩ hy2
        · refine w_op (K := K_L_areKnobs) (pc' := 36) (ll' := [some (.ref ax), some (.int 1), some (.int (nI k9)), some (.int _), some (.int (-76))]) (st' := [.int (-76), .int 1]) dL_areKnobs_34 rfl ?_
          refine w_bipush (K := K_L_areKnobs) (v := (-76)) dL_areKnobs_36 rfl ?_
          refine w_icmpne (K := K_L_areKnobs) (t := 45) dL_areKnobs_38 (by decide) (fun c38 => ?_) (fun c38 => ?_)
          · exact absurd rfl c38
          · refine w_iconst (K := K_L_areKnobs) (v := 1) dL_areKnobs_41 rfl ?_
            refine w_goto (K := K_L_areKnobs) (t := 60) dL_areKnobs_42 (by decide) ?_
            refine w_op (K := K_L_areKnobs) (pc' := 61) (ll' := [some (.ref ax), some (.int 1), some (.int (nI k9)), some (.int _), some (.int (-76))]) (st' := [.int (1 &&& 1)]) dL_areKnobs_60 rfl ?_
            rw [show (1 : Int32) &&& 1 = 1 by decide]
            refine w_op (K := K_L_areKnobs) (pc' := 62) (ll' := [some (.ref ax), some (.int 1), some (.int (nI k9)), some (.int _), some (.int (-76))]) (st' := []) dL_areKnobs_61 rfl ?_
            refine w_op (K := K_L_areKnobs) (pc' := 65) (ll' := [some (.ref ax), some (.int 1), some (.int ((nI k9) + 1)), some (.int _), some (.int (-76))]) (st' := []) dL_areKnobs_62 rfl ?_
            rw [show nI k9 + 1 = nI (k9 + 1) from nI_1 k9]
            refine w_goto (K := K_L_areKnobs) (t := 4) dL_areKnobs_65 (by decide) ?_
            exact k _ _ _ _ (by omega) h1

theorem ak_n {X : e_XT} {d T ax : Nat} {p : e_Sp} {I : e_I} {J : e_Jt} {w : e_Rw1} {Q : e_Rt → e_SS → Prop} : ∀ u k9 e c x3 x4, k9 + u = 9 → e + u ≤ 380 → z_O T e ax (p, I, J, c, w) → (∀ e2 c2 x3 x4, e2 ≤ e + u → z_O T e2 ax (p, I, J, c2, w) → s_w X (d + 12) K_L_areKnobs 4 [some (.ref ax), some (.int 1), some (.int (nI 9)), x3, x4] [] (p, I, J, c2, w) Q) → s_w X (d + 12) K_L_areKnobs 4 [some (.ref ax), some (.int 1), some (.int (nI k9)), x3, x4] [] (p, I, J, c, w) Q := by
  intro u
  induction u with
  | zero =>
    intro k9 e c x3 x4 h1 h2 h k
    obtain rfl : k9 = 9 := by omega
    exact k e c x3 x4 (by omega) h
  | succ u ih =>
    intro k9 e c x3 x4 h1 h2 h k
    refine ak_1 h (by omega) (by omega) (fun e2 c2 y3 y4 he2 hO => ?_)
    exact ih (k9 + 1) e2 c2 y3 y4 (by omega) (by omega) hO (fun e3 c3 z3 z4 he3 hO3 => k e3 c3 z3 z4 (by omega) hO3)

set_option maxRecDepth 100000 in
set_option maxHeartbeats 400000 in
theorem c_areKnobs {X : e_XT} {d T e ax : Nat} {p : e_Sp} {I : e_I} {J : e_Jt} {c : Nat × Nat} {w : e_Rw1} {Q : e_Rt → e_SS → Prop} (h : z_O T e ax (p, I, J, c, w)) (he : e ≤ 360) (kk : ∀ e2 c2, e2 ≤ e + 10 → z_O T e2 ax (p, I, J, c2, w) → Q (.inl (some (.int 1))) (p, I, J, c2, w)) : s_c X (d + 12) 441 [.ref ax] (p, I, J, c, w) Q := by
  refine m_L_areKnobs (Nat.le_of_ble_eq_true rfl) ?_
  show s_w X (d + 12) K_L_areKnobs 0 [some (.ref ax), none, none, none, none] [] (p, I, J, c, w) _
  refine w_iconst (K := K_L_areKnobs) (v := 1) dL_areKnobs_0 rfl ?_
  refine w_op (K := K_L_areKnobs) (pc' := 2) (ll' := [some (.ref ax), some (.int 1), none, none, none]) (st' := []) dL_areKnobs_1 rfl ?_
  refine w_iconst (K := K_L_areKnobs) (v := (nI 0)) dL_areKnobs_2 rfl ?_
  refine w_op (K := K_L_areKnobs) (pc' := 4) (ll' := [some (.ref ax), some (.int 1), some (.int (nI 0)), none, none]) (st' := []) dL_areKnobs_3 rfl ?_
  refine ak_n 9 0 e c none none (by omega) (by omega) h (fun e2 c2 x3 x4 he2 h2 => ?_)
  refine w_op (K := K_L_areKnobs) (pc' := 5) (ll' := [some (.ref ax), some (.int 1), some (.int (nI 9)), x3, x4]) (st' := [.int (nI 9)]) dL_areKnobs_4 rfl ?_
  refine w_bipush (K := K_L_areKnobs) (v := (nI 9)) dL_areKnobs_5 rfl ?_
  refine w_icmpge (K := K_L_areKnobs) (t := 68) dL_areKnobs_7 (by decide) (fun c7 => ?_) (fun c7 => ?_)
  · refine w_op (K := K_L_areKnobs) (pc' := 69) (ll' := [some (.ref ax), some (.int 1), some (.int (nI 9)), x3, x4]) (st' := [.int 1]) dL_areKnobs_68 rfl ?_
    refine w_ifeq (K := K_L_areKnobs) (t := 87) dL_areKnobs_69 (by decide) (fun c69 => ?_) (fun c69 => ?_)
    · exact absurd c69 (by decide)
    · refine w_op (K := K_L_areKnobs) (pc' := 73) (ll' := [some (.ref ax), some (.int 1), some (.int (nI 9)), x3, x4]) (st' := [.ref ax]) dL_areKnobs_72 rfl ?_
      refine w_bipush (K := K_L_areKnobs) (v := 9) dL_areKnobs_73 rfl ?_
      refine t_callS (K := K_L_areKnobs) (As := [.ref ax, .int 9]) (rest := []) dL_areKnobs_75 rfl rM_L_isDrawn (by decide) rfl rfl (by decide) (Nat.le_of_ble_eq_true rfl) (qx_isDrawn h2 (by omega) (fun h3 => ?_))
      show s_w _ _ _ 78 _ _ _ _
      refine w_bipush (K := K_L_areKnobs) (v := (-77)) dL_areKnobs_78 rfl ?_
      refine w_icmpne (K := K_L_areKnobs) (t := 87) dL_areKnobs_80 (by decide) (fun c80 => ?_) (fun c80 => ?_)
      · exact absurd rfl c80
      · refine w_iconst (K := K_L_areKnobs) (v := 1) dL_areKnobs_83 rfl ?_
        refine w_goto (K := K_L_areKnobs) (t := 88) dL_areKnobs_84 (by decide) ?_
        refine w_ireturn (K := K_L_areKnobs) dL_areKnobs_88 ?_
        exact ⟨rfl, kk _ _ (by omega) h3⟩
  · exact absurd (Int32.le_refl _) c7

