/-! 9999999999999997b: the law's acts (printed by wip/p61/mkg.py) -/
set_option maxRecDepth 100000 in
theorem g_key {X : e_XT} {d T e ax : Nat} {p : e_Sp} {I : e_I} {J : e_Jt} {c : Nat × Nat} {w : e_Rw1} {Q : e_Rt → e_SS → Prop} {x y z : Int32} (hT : T < 500) (he : e ≤ 390) (h : z_O T e ax (p, I, J, c, w)) (hk : s_isk x y) (hz : z = 0 ∨ z = 1) (k : ∀ p' c', z_O (T + 1) 0 ax (p', (s_stl p 9 3 (s_prk I x y z, J)).1, (s_stl p 9 3 (s_prk I x y z, J)).2, c', w) → Q (.inl (some (.int (if bI (s_dn I x y) = 0 then 0 else 1)))) (p', (s_stl p 9 3 (s_prk I x y z, J)).1, (s_stl p 9 3 (s_prk I x y z, J)).2, c', w)) : s_c X (d + 11) 406 [.ref ax, .int x, .int y, .int z] (p, I, J, c, w) Q := by
  obtain ⟨⟨np, hD, hW, ⟨a, b, hTp, ha, hb⟩, hnp, n, t, s, m, I', J', hS, hR, hn, hm⟩, hF, hV, hax⟩ := h
  dsimp only at hD hW hTp hS hF hV hax
  have hKn := hS.1.1.1.2.1
  have h5 := hS.2.2.2.2.2.1
  have hc : c.1 < e_xb := z_room hTp ha ⟨by omega, by omega⟩
  rw [← hax]
  refine c_L_key (d := d + 10) hD.1.1 (c_X11_key (d := d + 3) hD hTp hz (fun _ p1 c1 hD1 x1 hT1 => ?_) (fun z => absurd hk z))
  obtain ⟨⟨n', t', hn', -, hS1⟩, -⟩ := a_key hS hk hz (by omega) (by omega)
  exact k p1 c1 (z_mk (TC := s_tPK ++ s_tST) (by omega) (by omega) (by omega) hnp hF ((hV.N (s_eqN.prk (x := x) (y := y) (b := z)) (by decide)).N (s_eqN.stl (p := p) (nk := 9) (nr := 3) (a := (_, J))) (by decide)) hax x1.HALL x1.PARR x1.2.2.1 hD1 v_Wd.stl hT1 (((s_eqN.prk (x := x) (y := y) (b := z)).mono (by decide)).trans (s_eqN.stl.mono (by decide))) (by decide) ((hR.N q_mdv_e.1 (by decide)).st) hS1 (by omega) (by omega) (by omega))

set_option maxRecDepth 100000 in
theorem g_draw {X : e_XT} {d T e ax : Nat} {p : e_Sp} {I : e_I} {J : e_Jt} {c : Nat × Nat} {w : e_Rw1} {Q : e_Rt → e_SS → Prop} {j : Nat} {y : Int32} (hT : T < 500) (he : e ≤ 390) (h : z_O T e ax (p, I, J, c, w)) (hj : j < 9) (hy : y = 0 ∨ y = 1) (k : ∀ p' c', z_O (T + 1) 0 ax (p', (s_stl p 9 3 (s_up I f_k_isOut j y, J)).1, (s_stl p 9 3 (s_up I f_k_isOut j y, J)).2, c', w) → Q (.inl (some (.int (if I f_k_isOut j = 0 then 0 else 1)))) (p', (s_stl p 9 3 (s_up I f_k_isOut j y, J)).1, (s_stl p 9 3 (s_up I f_k_isOut j y, J)).2, c', w)) : s_c X (d + 11) 408 [.ref ax, .int nI j, .int y] (p, I, J, c, w) Q := by
  obtain ⟨⟨np, hD, hW, ⟨a, b, hTp, ha, hb⟩, hnp, n, t, s, m, I', J', hS, hR, hn, hm⟩, hF, hV, hax⟩ := h
  dsimp only at hD hW hTp hS hF hV hax
  have hKn := hS.1.1.1.2.1
  have h5 := hS.2.2.2.2.2.1
  have hc : c.1 < e_xb := z_room hTp ha ⟨by omega, by omega⟩
  rw [← hax]
  refine c_L_draw (d := d + 10) hD.1.1 (c_X11_draw (d := d + 3) hD hTp hy (fun j _ => h5.1 f_k_isOut rfl j) (fun jj hjj hxx p1 c1 hD1 x1 hT1 => ?_) (fun z => absurd (h_kj hj (by omega)) (h_kx z)))
  obtain rfl := h_kE hjj hj (by omega) hxx
  obtain ⟨n', t', hn', -, hS1⟩ := a_draw hy hS (by omega) (by omega)
  exact k p1 c1 (z_mk (TC := f_k_isOut :: s_tST) (by omega) (by omega) (by omega) hnp hF ((hV.N (s_eqN.up (T := [f_k_isOut]) (by decide)) (by decide)).N (s_eqN.stl (p := p) (nk := 9) (nr := 3) (a := (_, J))) (by decide)) hax x1.HALL x1.PARR x1.2.2.1 hD1 v_Wd.stl hT1 ((s_eqN.up (T := [f_k_isOut]) (by decide)).mono (by decide) |>.trans (s_eqN.stl.mono (by decide))) (by decide) ((hR.N (s_eqN.up (T := [f_mk_isDrawn]) (by decide)) (by decide)).st) hS1 (by omega) (by omega) (by omega))

set_option maxRecDepth 100000 in
theorem g_drive {X : e_XT} {d T e ax : Nat} {p : e_Sp} {I : e_I} {J : e_Jt} {c : Nat × Nat} {w : e_Rw1} {Q : e_Rt → e_SS → Prop} {j : Nat} {y : Int32} (hT : T < 500) (he : e ≤ 390) (h : z_O T e ax (p, I, J, c, w)) (hj : j < 9) (hy : y = -1 ∨ ∃ r, r < 16 ∧ y = nI r) (k : ∀ p' c', z_O (T + 1) 0 ax (p', (s_stl p 9 3 (s_up I f_k_relay j y, J)).1, (s_stl p 9 3 (s_up I f_k_relay j y, J)).2, c', w) → Q (.inl (some (.int (I f_k_relay j)))) (p', (s_stl p 9 3 (s_up I f_k_relay j y, J)).1, (s_stl p 9 3 (s_up I f_k_relay j y, J)).2, c', w)) : s_c X (d + 11) 418 [.ref ax, .int nI j, .int y] (p, I, J, c, w) Q := by
  obtain ⟨⟨np, hD, hW, ⟨a, b, hTp, ha, hb⟩, hnp, n, t, s, m, I', J', hS, hR, hn, hm⟩, hF, hV, hax⟩ := h
  dsimp only at hD hW hTp hS hF hV hax
  have hKn := hS.1.1.1.2.1
  have h5 := hS.2.2.2.2.2.1
  have hc : c.1 < e_xb := z_room hTp ha ⟨by omega, by omega⟩
  rw [← hax]
  refine c_L_drive (d := d + 10) hD.1.1 (c_X11_drive (d := d + 3) hD hTp (fun jj hjj hxx _ p1 c1 hD1 x1 hT1 => ?_) (fun z => absurd (h_kj hj (by omega)) (h_kx z)) (fun _ _ _ h1 h2 => absurd h2 (hy.elim (fun z => absurd z h1) (fun ⟨r, hr, e⟩ => not_not_intro (e ▸ h_kj hr (by omega))))))
  obtain rfl := h_kE hjj hj (by omega) hxx
  obtain ⟨n', t', hn', -, hS1⟩ := a_drive hy hS (by omega) (by omega)
  exact k p1 c1 (z_mk (TC := f_k_relay :: s_tST) (by omega) (by omega) (by omega) hnp hF ((hV.N (s_eqN.up (T := [f_k_relay]) (by decide)) (by decide)).N (s_eqN.stl (p := p) (nk := 9) (nr := 3) (a := (_, J))) (by decide)) hax x1.HALL x1.PARR x1.2.2.1 hD1 v_Wd.stl hT1 ((s_eqN.up (T := [f_k_relay]) (by decide)).mono (by decide) |>.trans (s_eqN.stl.mono (by decide))) (by decide) ((hR.N (s_eqN.up (T := [f_mk_relay]) (by decide)) (by decide)).st) hS1 (by omega) (by omega) (by omega))

set_option maxRecDepth 100000 in
theorem g_crescendo {X : e_XT} {d T e ax : Nat} {p : e_Sp} {I : e_I} {J : e_Jt} {c : Nat × Nat} {w : e_Rw1} {Q : e_Rt → e_SS → Prop} {y : Nat} (hT : T < 500) (he : e ≤ 390) (h : z_O T e ax (p, I, J, c, w)) (hy : y ≤ 9) (k : ∀ p' c', z_O (T + 1) 0 ax (p', (s_stl p 9 3 (s_up I f_crescendo 0 (nI y), J)).1, (s_stl p 9 3 (s_up I f_crescendo 0 (nI y), J)).2, c', w) → Q (.inl (some (.int (I f_crescendo 0)))) (p', (s_stl p 9 3 (s_up I f_crescendo 0 (nI y), J)).1, (s_stl p 9 3 (s_up I f_crescendo 0 (nI y), J)).2, c', w)) : s_c X (d + 11) 426 [.ref ax, .int nI y] (p, I, J, c, w) Q := by
  obtain ⟨⟨np, hD, hW, ⟨a, b, hTp, ha, hb⟩, hnp, n, t, s, m, I', J', hS, hR, hn, hm⟩, hF, hV, hax⟩ := h
  dsimp only at hD hW hTp hS hF hV hax
  have hKn := hS.1.1.1.2.1
  have h5 := hS.2.2.2.2.2.1
  have hc : c.1 < e_xb := z_room hTp ha ⟨by omega, by omega⟩
  rw [← hax]
  refine c_L_crescendo (d := d + 10) hD.1.1 (c_X11_crescendo (d := d + 3) hD hTp (fun _ p1 c1 hD1 x1 hT1 => ?_) (fun z => absurd ⟨nI_pos' (by omega), nI_le (b := 9) hy (by decide)⟩ z))
  obtain ⟨n', t', hn', -, hS1⟩ := a_crescendo hS (by omega) (by omega)
  exact k p1 c1 (z_mk (TC := f_crescendo :: s_tST) (by omega) (by omega) (by omega) hnp hF (z_V.N (T := s_tST) (I := s_up I f_crescendo 0 (nI y)) ⟨fun q => hV.1 q, ⟨y, hy, s_up_s⟩, fun k hk => hV.2.2 k hk⟩ (s_eqN.stl (p := p) (nk := 9) (nr := 3) (a := (_, J))) (by decide)) hax x1.HALL x1.PARR x1.2.2.1 hD1 v_Wd.stl hT1 ((s_eqN.up (T := [f_crescendo]) (by decide)).mono (by decide) |>.trans (s_eqN.stl.mono (by decide))) (by decide) ((hR.N (s_eqN.up (T := [f_m_crescendo]) (by decide)) (by decide)).st) hS1 (by omega) (by omega) (by omega))

set_option maxRecDepth 100000 in
theorem g_stage {X : e_XT} {d T e ax : Nat} {p : e_Sp} {I : e_I} {J : e_Jt} {c : Nat × Nat} {w : e_Rw1} {Q : e_Rt → e_SS → Prop} {j y : Nat} (hT : T < 500) (he : e ≤ 390) (h : z_O T e ax (p, I, J, c, w)) (hj : 3 ≤ j ∧ j < 6) (hy : y ≤ 9) (k : ∀ p' c', z_O (T + 1) 0 ax (p', (s_stl p 9 3 (s_up I f_s_stage j (nI y), J)).1, (s_stl p 9 3 (s_up I f_s_stage j (nI y), J)).2, c', w) → Q (.inl (some (.int (I f_s_stage j)))) (p', (s_stl p 9 3 (s_up I f_s_stage j (nI y), J)).1, (s_stl p 9 3 (s_up I f_s_stage j (nI y), J)).2, c', w)) : s_c X (d + 11) 427 [.ref ax, .int nI j, .int nI y] (p, I, J, c, w) Q := by
  obtain ⟨⟨np, hD, hW, ⟨a, b, hTp, ha, hb⟩, hnp, n, t, s, m, I', J', hS, hR, hn, hm⟩, hF, hV, hax⟩ := h
  dsimp only at hD hW hTp hS hF hV hax
  have hKn := hS.1.1.1.2.1
  have h5 := hS.2.2.2.2.2.1
  have hc : c.1 < e_xb := z_room hTp ha ⟨by omega, by omega⟩
  rw [← hax]
  refine c_L_stage (d := d + 10) hD.1.1 (c_X11_stage (d := d + 3) hD hTp (fun jj hjj hxx _ _ p1 c1 hD1 x1 hT1 => ?_) (fun z => absurd (h_kj (show j < 9 by omega) (by omega)) (h_kx z)) (fun _ _ _ z => absurd ⟨nI_pos' (by omega), nI_le (b := 9) hy (by decide)⟩ z) (fun jj hjj hxx _ z => absurd ((hF.2.1 jj hjj).mpr (h_kE hjj (show j < 9 by omega) (by omega) hxx ▸ hj)) z))
  obtain rfl := h_kE hjj (show j < 9 by omega) (by omega) hxx
  obtain ⟨n', t', hn', -, hS1⟩ := a_stage hS (by omega) (by omega)
  exact k p1 c1 (z_mk (TC := f_s_stage :: s_tST) (by omega) (by omega) (by omega) hnp hF (z_V.N (T := s_tST) (I := s_up I f_s_stage jj (nI y)) ⟨fun q => hV.1 q, hV.2.1, fun k hk => by
    by_cases e : k = jj
    · subst e; exact ⟨y, hy, s_up_s⟩
    · rw [s_up_i e]; exact hV.2.2 k hk⟩ (s_eqN.stl (p := p) (nk := 9) (nr := 3) (a := (_, J))) (by decide)) hax x1.HALL x1.PARR x1.2.2.1 hD1 v_Wd.stl hT1 ((s_eqN.up (T := [f_s_stage]) (by decide)).mono (by decide) |>.trans (s_eqN.stl.mono (by decide))) (by decide) ((hR.N (s_eqN.up (T := [f_mk_stage]) (by decide)) (by decide)).st) hS1 (by omega) (by omega) (by omega))

set_option maxRecDepth 100000 in
theorem g_supply {X : e_XT} {d T e ax : Nat} {p : e_Sp} {I : e_I} {J : e_Jt} {c : Nat × Nat} {w : e_Rw1} {Q : e_Rt → e_SS → Prop} {j y : Nat} (hT : T < 500) (he : e ≤ 390) (h : z_O T e ax (p, I, J, c, w)) (hj : j < 3) (hy : y ≤ 999) (k : ∀ p' c', z_O (T + 1) 0 ax (p', (s_stl p 9 3 (s_up I f_a_supplies j (nI y), J)).1, (s_stl p 9 3 (s_up I f_a_supplies j (nI y), J)).2, c', w) → Q (.inl (some (.int (I f_a_supplies j)))) (p', (s_stl p 9 3 (s_up I f_a_supplies j (nI y), J)).1, (s_stl p 9 3 (s_up I f_a_supplies j (nI y), J)).2, c', w)) : s_c X (d + 11) 430 [.ref ax, .int nI j, .int nI y] (p, I, J, c, w) Q := by
  obtain ⟨⟨np, hD, hW, ⟨a, b, hTp, ha, hb⟩, hnp, n, t, s, m, I', J', hS, hR, hn, hm⟩, hF, hV, hax⟩ := h
  dsimp only at hD hW hTp hS hF hV hax
  have hKn := hS.1.1.1.2.1
  have h5 := hS.2.2.2.2.2.1
  have hc : c.1 < e_xb := z_room hTp ha ⟨by omega, by omega⟩
  rw [← hax]
  refine c_L_supply (d := d + 10) hD.1.1 (c_X11_supply (d := d + 3) hD hTp (fun _ _ p1 c1 hD1 x1 hT1 => ?_) (fun z => absurd (z_dv hj) (by rw [z]; decide)) (fun _ z => absurd ⟨nI_pos' (by omega), nI_le (b := 999) hy (by decide)⟩ z))
  rw [nI_clamp (show j < 2 ^ 31 by omega)] at hD1 hT1 ⊢
  obtain ⟨n', t', hn', -, hS1⟩ := a_supply (j := j) (y := nI y) hS (by omega) (by omega)
  exact k p1 c1 (z_mk (TC := f_a_supplies :: s_tST) (by omega) (by omega) (by omega) hnp hF ((hV.N (s_eqN.up (T := [f_a_supplies]) (by decide)) (by decide)).N (s_eqN.stl (p := p) (nk := 9) (nr := 3) (a := (_, J))) (by decide)) hax x1.HALL x1.PARR x1.2.2.1 hD1 v_Wd.stl hT1 ((s_eqN.up (T := [f_a_supplies]) (by decide)).mono (by decide) |>.trans (s_eqN.stl.mono (by decide))) (by decide) (v_Rg.st (I := s_up I' f_m_supply j (nI y)) ⟨hR.1, hR.2.1, hR.2.2.1, hR.2.2.2.1, fun d hd => by
    by_cases e : d = j
    · subst e; rw [s_up_s]; exact v_in.mono (v_in.nI (by omega)) (by omega) (by omega)
    · rw [s_up_i e]; exact hR.2.2.2.2 d hd⟩) hS1 (by omega) (by omega) (by omega))

set_option maxRecDepth 100000 in
theorem g_tutti {X : e_XT} {d T e ax : Nat} {p : e_Sp} {I : e_I} {J : e_Jt} {c : Nat × Nat} {w : e_Rw1} {Q : e_Rt → e_SS → Prop} {y : Int32} (hT : T < 500) (he : e ≤ 390) (h : z_O T e ax (p, I, J, c, w)) (hy : y = 0 ∨ y = 1) (k : ∀ p' c', z_O (T + 1) 0 ax (p', (s_stl p 9 3 (s_up I f_isTutti 0 y, J)).1, (s_stl p 9 3 (s_up I f_isTutti 0 y, J)).2, c', w) → Q (.inl (some (.int (I f_isTutti 0)))) (p', (s_stl p 9 3 (s_up I f_isTutti 0 y, J)).1, (s_stl p 9 3 (s_up I f_isTutti 0 y, J)).2, c', w)) : s_c X (d + 11) 133 [.ref ax, .int y] (p, I, J, c, w) Q := by
  obtain ⟨⟨np, hD, hW, ⟨a, b, hTp, ha, hb⟩, hnp, n, t, s, m, I', J', hS, hR, hn, hm⟩, hF, hV, hax⟩ := h
  dsimp only at hD hW hTp hS hF hV hax
  have hKn := hS.1.1.1.2.1
  have h5 := hS.2.2.2.2.2.1
  have hc : c.1 < e_xb := z_room hTp ha ⟨by omega, by omega⟩
  rw [← hax]
  refine c_X11_tutti (d := d + 4) hD hTp hy (h5.1 f_isTutti rfl 0) (fun p1 c1 hD1 x1 hT1 => ?_)
  obtain ⟨n', t', hn', -, hS1⟩ := a_tutti hy hS (by omega) (by omega)
  exact k p1 c1 (z_mk (TC := f_isTutti :: s_tST) (by omega) (by omega) (by omega) hnp hF ((hV.N (s_eqN.up (T := [f_isTutti]) (by decide)) (by decide)).N (s_eqN.stl (p := p) (nk := 9) (nr := 3) (a := (_, J))) (by decide)) hax x1.HALL x1.PARR x1.2.2.1 hD1 v_Wd.stl hT1 ((s_eqN.up (T := [f_isTutti]) (by decide)).mono (by decide) |>.trans (s_eqN.stl.mono (by decide))) (by decide) ((hR.N (s_eqN.up (T := [f_m_isTutti]) (by decide)) (by decide)).st) hS1 (by omega) (by omega) (by omega))

set_option maxRecDepth 100000 in
theorem g_fault {X : e_XT} {d T e ax : Nat} {p : e_Sp} {I : e_I} {J : e_Jt} {c : Nat × Nat} {w : e_Rw1} {Q : e_Rt → e_SS → Prop} {x y z : Int32} (hT : T < 500) (he : e ≤ 390) (h : z_O T e ax (p, I, J, c, w)) (j : Nat) (hj : s_pat p I 3 x y = some j) (hz : z = 99 ∨ z = 100 ∨ z = 45) (k : ∀ p' c', z_O (T + 1) 0 ax (p', (s_stl p 9 3 (s_up I f_p_fault j z, J)).1, (s_stl p 9 3 (s_up I f_p_fault j z, J)).2, c', w) → Q (.inl (some (.int (I f_p_fault j)))) (p', (s_stl p 9 3 (s_up I f_p_fault j z, J)).1, (s_stl p 9 3 (s_up I f_p_fault j z, J)).2, c', w)) : s_c X (d + 11) 424 [.ref ax, .int x, .int y, .int z] (p, I, J, c, w) Q := by
  obtain ⟨⟨np, hD, hW, ⟨a, b, hTp, ha, hb⟩, hnp, n, t, s, m, I', J', hS, hR, hn, hm⟩, hF, hV, hax⟩ := h
  dsimp only at hD hW hTp hS hF hV hax
  have hKn := hS.1.1.1.2.1
  have h5 := hS.2.2.2.2.2.1
  have hc : c.1 < e_xb := z_room hTp ha ⟨by omega, by omega⟩
  rw [← hax]
  refine c_L_fault (d := d + 10) hD.1.1 (c_X11_fault (d := d + 3) hD hTp (fun j => (h5.2.2.1 j)) (fun jj hjj _ p1 c1 hD1 x1 hT1 => ?_) (fun z => absurd (hj.symm.trans z) (by simp)) (fun _ _ h => absurd hz h))
  obtain rfl := Option.some.inj (hj.symm.trans hjj)
  obtain ⟨n', t', hn', -, hS1⟩ := a_fault (j := jj) (y := z) (by rcases hz with rfl | rfl | rfl <;> decide) hS (by omega) (by omega)
  exact k p1 c1 (z_mk (TC := f_p_fault :: s_tST) (by omega) (by omega) (by omega) hnp hF (z_V.N (T := s_tST) (I := s_up I f_p_fault j z) ⟨fun q => by
    by_cases e : q = j
    · subst e; rw [s_up_s]; rcases hz with rfl | rfl | rfl
      · exact .inr (.inr (.inl rfl))
      · exact .inr (.inr (.inr rfl))
      · exact .inr (.inl rfl)
    · rw [s_up_i e]; exact hV.1 q, hV.2.1, hV.2.2⟩ (s_eqN.stl (p := p) (nk := 9) (nr := 3) (a := (_, J))) (by decide)) hax x1.HALL x1.PARR x1.2.2.1 hD1 v_Wd.stl hT1 ((s_eqN.up (T := [f_p_fault]) (by decide)).mono (by decide) |>.trans (s_eqN.stl.mono (by decide))) (by decide) ((hR.N (s_eqN.up (T := [f_m_fault]) (by decide)) (by decide)).st) hS1 (by omega) (by omega) (by omega))

set_option maxRecDepth 100000 in
theorem g_lift {X : e_XT} {d T e ax : Nat} {p : e_Sp} {I : e_I} {J : e_Jt} {c : Nat × Nat} {w : e_Rw1} {Q : e_Rt → e_SS → Prop} (hT : T < 500) (he : e ≤ 390) (h : z_O T e ax (p, I, J, c, w))  (k : ∀ p' c', z_O (T + 1) 0 ax (p', (s_stl p 9 3 ((s_rla I).1, J)).1, (s_stl p 9 3 ((s_rla I).1, J)).2, c', w) → Q (.inl (some (.int (s_rla I).2))) (p', (s_stl p 9 3 ((s_rla I).1, J)).1, (s_stl p 9 3 ((s_rla I).1, J)).2, c', w)) : s_c X (d + 11) 134 [.ref ax] (p, I, J, c, w) Q := by
  obtain ⟨⟨np, hD, hW, ⟨a, b, hTp, ha, hb⟩, hnp, n, t, s, m, I', J', hS, hR, hn, hm⟩, hF, hV, hax⟩ := h
  dsimp only at hD hW hTp hS hF hV hax
  have hKn := hS.1.1.1.2.1
  have h5 := hS.2.2.2.2.2.1
  have hc : c.1 < e_xb := z_room hTp ha ⟨by omega, by omega⟩
  rw [← hax]
  refine c_X11_lift (d := d + 3) hD hTp (fun p1 c1 hD1 x1 hT1 => ?_)
  have hl := a_lift hS (by omega) (by omega)
  obtain ⟨n1, t9, r1, r2, r3, r4, r5, r6, r7⟩ := hl.1
  obtain ⟨n', t', q1, -, q3⟩ := v_keyS hS hl.1 (by omega) (by omega)
  exact k p1 c1 (z_mk (TC := s_tPK ++ s_tST) (by omega) (by omega) (by omega) hnp hF ((hV.N (s_eqN.rla) (by decide)).N (s_eqN.stl (p := p) (nk := 9) (nr := 3) (a := (_, J))) (by decide)) hax x1.HALL x1.PARR x1.2.2.1 hD1 v_Wd.stl hT1 ((s_eqN.rla.mono (by decide)).trans (s_eqN.stl.mono (by decide))) (by decide) ((hR.N r6.1 (by decide)).st) q3 (by omega) (by omega) (by omega))

set_option maxRecDepth 100000 in
theorem g_pass {X : e_XT} {d T e ax : Nat} {p : e_Sp} {I : e_I} {J : e_Jt} {c : Nat × Nat} {w : e_Rw1} {Q : e_Rt → e_SS → Prop} {v : Nat} (hT : T < 500) (he : e ≤ 390) (h : z_O T e ax (p, I, J, c, w)) (hv : 1 ≤ v ∧ v ≤ 3) (k : ∀ p' c' x, 0 < x → z_O (T + 1) 0 ax (p', (s_run (s_tick p 9 3) 0 v (I, J)).1, (s_run (s_tick p 9 3) 0 v (I, J)).2, c', w) → Q (.inl (some (.int x))) (p', (s_run (s_tick p 9 3) 0 v (I, J)).1, (s_run (s_tick p 9 3) 0 v (I, J)).2, c', w)) : s_c X (d + 11) 404 [.ref ax, .int nI v] (p, I, J, c, w) Q := by
  obtain ⟨⟨np, hD, hW, ⟨a, b, hTp, ha, hb⟩, hnp, n, t, s, m, I', J', hS, hR, hn, hm⟩, hF, hV, hax⟩ := h
  dsimp only at hD hW hTp hS hF hV hax
  have hKn := hS.1.1.1.2.1
  have h5 := hS.2.2.2.2.2.1
  have hc : c.1 < e_xb := z_room hTp ha ⟨by omega, by omega⟩
  rw [← hax]
  refine c_L_pass (d := d + 10) hD.1.1 (c_X11_pass (d := d + 2) hD hTp (fun _ p1 c1 hD1 x1 hT1 => ?_) (fun z => absurd ⟨nI_le (a := 1) hv.1 (by omega), nI_le (b := 40) (by omega) (by decide)⟩ z))
  rw [nI_clamp (show v < 2 ^ 31 by omega)] at hD1 hT1 ⊢
  have hnp2 : v * np ≤ 378 := Nat.le_trans (Nat.mul_le_mul (by omega : v ≤ 3) (by omega : np ≤ 126)) (by decide)
  obtain ⟨⟨n', t', hn', -, hS1⟩, -⟩ := a_pass (k := v) hS (by omega) (by omega) (by omega) (by omega)
  have hm9 := hS1.1.1.2.2.1.2.1.1
  have hnow : (s_run (s_tick p 9 3) 0 v (I, J)).1 f_now 0 = nI (m + v) := (hS1.1.1.1.2.2.2.2.1).trans hm9.2.2.2.1
  refine k p1 c1 _ ?_ (z_mk (TC := f_now :: s_tST) (by omega) (by omega) (by omega) hnp hF (hV.N (s_eqN.runP s_eqN.tick v 0 (I, J)) (by decide)) hax x1.HALL x1.PARR x1.2.2.1 hD1 (v_Wd.ticks (a := (I, J)) hW v 0) hT1 (s_eqN.runP s_eqN.tick v 0 (I, J)) (by decide) (hR.tcs (a := (I', J'))) hS1 (by omega) (by omega) (by omega))
  rw [hnow]
  exact (nI_ltI (a := 0) (by omega) (by omega)).mpr (by omega)

set_option maxRecDepth 100000 in
theorem g_lock {X : e_XT} {d T e ax : Nat} {p : e_Sp} {I : e_I} {J : e_Jt} {c : Nat × Nat} {w : e_Rw1} {Q : e_Rt → e_SS → Prop} {j : Nat} {y : Int32} (hT : T < 500) (he : e ≤ 390) (h : z_O T e ax (p, I, J, c, w)) (hj : j < 9) (hy : y = 0 ∨ y = 1) (k : z_O (T + 1) 0 ax (p, (s_up I f_k_isLocked j y), J, c, w) → Q (.inl (some (.int (if I f_k_isLocked j = 0 then 0 else 1)))) (p, (s_up I f_k_isLocked j y), J, c, w)) : s_c X (d + 11) 412 [.ref ax, .int nI j, .int y] (p, I, J, c, w) Q := by
  obtain ⟨⟨np, hD, hW, ⟨a, b, hTp, ha, hb⟩, hnp, n, t, s, m, I', J', hS, hR, hn, hm⟩, hF, hV, hax⟩ := h
  dsimp only at hD hW hTp hS hF hV hax
  have hKn := hS.1.1.1.2.1
  have h5 := hS.2.2.2.2.2.1
  have hc : c.1 < e_xb := z_room hTp ha ⟨by omega, by omega⟩
  rw [← hax]
  refine c_L_lock (d := d + 10) hD.1.1 (c_X11_lock (d := d + 5) hD.1 hy (fun j _ => h5.1 f_k_isLocked rfl j) (fun jj hjj hxx => ?_) (fun z => absurd (h_kj hj (by omega)) (h_kx z)))
  obtain rfl := h_kE hjj hj (by omega) hxx
  have eC : s_eqN [f_k_isLocked] I ((s_up I f_k_isLocked j y)) := s_eqN.up (by decide)
  have hS1 := a_lock (j := j) hy hS
  exact k (z_mk (p' := p) (TC := [f_k_isLocked]) (by omega) (by omega) (by omega) hnp hF (hV.N eC (by decide)) hax rfl rfl rfl (hD.eq (s_eqC.up (by decide))) (hW.N eC (by decide)) (hTp.eq (s_eqT.up (by decide))) eC (by decide) ((hR.N (s_eqN.up (T := [f_mk_isLocked]) (by decide)) (by decide)).st) hS1 (by omega) (by omega) (by omega))

set_option maxRecDepth 100000 in
theorem g_scope {X : e_XT} {d T e ax : Nat} {p : e_Sp} {I : e_I} {J : e_Jt} {c : Nat × Nat} {w : e_Rw1} {Q : e_Rt → e_SS → Prop} {j : Nat} {y : Int32} (hT : T < 500) (he : e ≤ 390) (h : z_O T e ax (p, I, J, c, w)) (hj : j < 9) (hy : y = 0 ∨ y = 1) (k : z_O (T + 1) 0 ax (p, (s_up I f_k_isInScope j y), J, c, w) → Q (.inl (some (.int (if I f_k_isInScope j = 0 then 0 else 1)))) (p, (s_up I f_k_isInScope j y), J, c, w)) : s_c X (d + 11) 413 [.ref ax, .int nI j, .int y] (p, I, J, c, w) Q := by
  obtain ⟨⟨np, hD, hW, ⟨a, b, hTp, ha, hb⟩, hnp, n, t, s, m, I', J', hS, hR, hn, hm⟩, hF, hV, hax⟩ := h
  dsimp only at hD hW hTp hS hF hV hax
  have hKn := hS.1.1.1.2.1
  have h5 := hS.2.2.2.2.2.1
  have hc : c.1 < e_xb := z_room hTp ha ⟨by omega, by omega⟩
  rw [← hax]
  refine c_L_scope (d := d + 10) hD.1.1 (c_X11_scope (d := d + 5) hD.1 hy (fun j _ => h5.1 f_k_isInScope rfl j) (fun jj hjj hxx => ?_) (fun z => absurd (h_kj hj (by omega)) (h_kx z)))
  obtain rfl := h_kE hjj hj (by omega) hxx
  have eC : s_eqN [f_k_isInScope] I ((s_up I f_k_isInScope j y)) := s_eqN.up (by decide)
  have hS1 := a_scope (j := j) hy hS
  exact k (z_mk (p' := p) (TC := [f_k_isInScope]) (by omega) (by omega) (by omega) hnp hF (hV.N eC (by decide)) hax rfl rfl rfl (hD.eq (s_eqC.up (by decide))) (hW.N eC (by decide)) (hTp.eq (s_eqT.up (by decide))) eC (by decide) ((hR.N (s_eqN.up (T := [f_mk_isIn]) (by decide)) (by decide)).st) hS1 (by omega) (by omega) (by omega))

set_option maxRecDepth 100000 in
theorem g_set {X : e_XT} {d T e ax : Nat} {p : e_Sp} {I : e_I} {J : e_Jt} {c : Nat × Nat} {w : e_Rw1} {Q : e_Rt → e_SS → Prop} {y : Nat} (hT : T < 500) (he : e ≤ 390) (h : z_O T e ax (p, I, J, c, w)) (hy : y < 8) (k : z_O (T + 1) 0 ax (p, (s_kpI I (nI y)), (s_kpJ I J (nI y) (s_kset I 9 (-1)) (s_da I 9 (s_kset I 9 (-1)))), c, w) → Q (.inl (some (.int (s_bc (s_da I 9 (s_kset I 9 (-1))))))) (p, (s_kpI I (nI y)), (s_kpJ I J (nI y) (s_kset I 9 (-1)) (s_da I 9 (s_kset I 9 (-1)))), c, w)) : s_c X (d + 11) 410 [.ref ax, .int -1, .int nI y] (p, I, J, c, w) Q := by
  obtain ⟨⟨np, hD, hW, ⟨a, b, hTp, ha, hb⟩, hnp, n, t, s, m, I', J', hS, hR, hn, hm⟩, hF, hV, hax⟩ := h
  dsimp only at hD hW hTp hS hF hV hax
  have hKn := hS.1.1.1.2.1
  have h5 := hS.2.2.2.2.2.1
  have hc : c.1 < e_xb := z_room hTp ha ⟨by omega, by omega⟩
  rw [← hax]
  refine c_L_set (d := d + 10) hD.1.1 (c_X11_set (d := d + 6) hD.1 (z_me hS) (fun _ _ => ?_) (fun z => absurd z (by rw [z_plo hy]; exact nI_pos (by omega))) (fun _ z => absurd z (by rw [z_clo hS hF]; decide)))
  rw [z_plo hy]
  have eC : s_eqN [f_a_isSet] I ((s_kpI I (nI y))) := z_kpI
  have hS1 := a_set (x := -1) (y := nI y) hS (z_ps hy)
  exact k (z_mk (p' := p) (TC := [f_a_isSet]) (by omega) (by omega) (by omega) hnp hF (hV.N eC (by decide)) hax rfl rfl rfl (hD.eq (z_kpI.C (by decide))) (hW.N eC (by decide)) (hTp.eq (z_kpI.T (by decide))) eC (by decide) ((hR.N (s_eqN.up (T := [f_mg_isSet]) (by decide)) (by decide)).st) hS1 (by omega) (by omega) (by omega))

set_option maxRecDepth 100000 in
theorem g_push {X : e_XT} {d T e ax : Nat} {p : e_Sp} {I : e_I} {J : e_Jt} {c : Nat × Nat} {w : e_Rw1} {Q : e_Rt → e_SS → Prop} {y : Nat} (hT : T < 500) (he : e ≤ 390) (h : z_O T e ax (p, I, J, c, w)) (hy : y < 8) (hs : s_isk5 I (nI y) = true) (k : ∀ p' c', z_O (T + 1) 0 ax (p', (s_stl p 9 3 ((s_mt 9 (s_kby j_a_kept I J (nI y)) (s_kby j_a_drawn I J (nI y)) I).1, J)).1, (s_stl p 9 3 ((s_mt 9 (s_kby j_a_kept I J (nI y)) (s_kby j_a_drawn I J (nI y)) I).1, J)).2, c', w) → Q (.inl (some (.int (s_mt 9 (s_kby j_a_kept I J (nI y)) (s_kby j_a_drawn I J (nI y)) I).2))) (p', (s_stl p 9 3 ((s_mt 9 (s_kby j_a_kept I J (nI y)) (s_kby j_a_drawn I J (nI y)) I).1, J)).1, (s_stl p 9 3 ((s_mt 9 (s_kby j_a_kept I J (nI y)) (s_kby j_a_drawn I J (nI y)) I).1, J)).2, c', w)) : s_c X (d + 11) 411 [.ref ax, .int -1, .int nI y] (p, I, J, c, w) Q := by
  obtain ⟨⟨np, hD, hW, ⟨a, b, hTp, ha, hb⟩, hnp, n, t, s, m, I', J', hS, hR, hn, hm⟩, hF, hV, hax⟩ := h
  dsimp only at hD hW hTp hS hF hV hax
  have hKn := hS.1.1.1.2.1
  have h5 := hS.2.2.2.2.2.1
  have hc : c.1 < e_xb := z_room hTp ha ⟨by omega, by omega⟩
  rw [← hax]
  refine c_L_push (d := d + 10) hD.1.1 (c_X11_push (d := d + 2) hD hTp (z_me hS) (fun _ _ p1 c1 hD1 x1 hT1 => ?_) (fun z => absurd z (by rw [z_plo hy]; exact nI_pos (by omega))) (fun _ z => absurd z (by rw [z_plo hy, hs]; decide)))
  rw [z_plo hy] at hD1 hT1 ⊢
  obtain ⟨⟨n', t', hn', -, hS1⟩, -⟩ := a_moves (y := s_kby j_a_kept I J (nI y)) (z := s_kby j_a_drawn I J (nI y)) hS (by omega) (by omega)
  exact k p1 c1 (z_mk (TC := f_k_isOut :: s_tST) (by omega) (by omega) (by omega) hnp hF ((hV.N (s_eqN.mt) (by decide)).N (s_eqN.stl (p := p) (nk := 9) (nr := 3) (a := (_, J))) (by decide)) hax x1.HALL x1.PARR x1.2.2.1 hD1 v_Wd.stl hT1 ((s_eqN.mt.mono (by decide)).trans (s_eqN.stl.mono (by decide))) (by decide) ((hR.N s_eqN.qmt (by decide)).st) hS1 (by omega) (by omega) (by omega))

set_option maxRecDepth 100000 in
theorem g_turnTo {X : e_XT} {d T e ax : Nat} {p : e_Sp} {I : e_I} {J : e_Jt} {c : Nat × Nat} {w : e_Rw1} {Q : e_Rt → e_SS → Prop} (hT : T < 500) (he : e ≤ 390) (h : z_O T e ax (p, I, J, c, w)) (hs : 0 < s_frs I) (k : ∀ p' c', z_O (T + 1) 0 ax (p', (s_stl p 9 3 ((s_mt 9 (s_kbf j_a_frameKept I J 0) (s_kbf j_a_frameDrawn I J 0) I).1, J)).1, (s_stl p 9 3 ((s_mt 9 (s_kbf j_a_frameKept I J 0) (s_kbf j_a_frameDrawn I J 0) I).1, J)).2, c', w) → Q (.inl (some (.int (s_mt 9 (s_kbf j_a_frameKept I J 0) (s_kbf j_a_frameDrawn I J 0) I).2))) (p', (s_stl p 9 3 ((s_mt 9 (s_kbf j_a_frameKept I J 0) (s_kbf j_a_frameDrawn I J 0) I).1, J)).1, (s_stl p 9 3 ((s_mt 9 (s_kbf j_a_frameKept I J 0) (s_kbf j_a_frameDrawn I J 0) I).1, J)).2, c', w)) : s_c X (d + 11) 415 [.ref ax, .int 0] (p, I, J, c, w) Q := by
  obtain ⟨⟨np, hD, hW, ⟨a, b, hTp, ha, hb⟩, hnp, n, t, s, m, I', J', hS, hR, hn, hm⟩, hF, hV, hax⟩ := h
  dsimp only at hD hW hTp hS hF hV hax
  have hKn := hS.1.1.1.2.1
  have h5 := hS.2.2.2.2.2.1
  have hc : c.1 < e_xb := z_room hTp ha ⟨by omega, by omega⟩
  rw [← hax]
  refine c_L_turnTo (d := d + 10) hD.1.1 (c_X11_turnTo (d := d + 2) hD hTp (z_me hS) (fun _ p1 c1 hD1 x1 hT1 => ?_) (fun z => absurd ⟨by decide, hs⟩ z))
  obtain ⟨⟨n', t', hn', -, hS1⟩, -⟩ := a_moves (y := s_kbf j_a_frameKept I J 0) (z := s_kbf j_a_frameDrawn I J 0) hS (by omega) (by omega)
  exact k p1 c1 (z_mk (TC := f_k_isOut :: s_tST) (by omega) (by omega) (by omega) hnp hF ((hV.N (s_eqN.mt) (by decide)).N (s_eqN.stl (p := p) (nk := 9) (nr := 3) (a := (_, J))) (by decide)) hax x1.HALL x1.PARR x1.2.2.1 hD1 v_Wd.stl hT1 ((s_eqN.mt.mono (by decide)).trans (s_eqN.stl.mono (by decide))) (by decide) ((hR.N s_eqN.qmt (by decide)).st) hS1 (by omega) (by omega) (by omega))

set_option maxRecDepth 100000 in
theorem g_pushReversible {X : e_XT} {d T e ax : Nat} {p : e_Sp} {I : e_I} {J : e_Jt} {c : Nat × Nat} {w : e_Rw1} {Q : e_Rt → e_SS → Prop} {r j : Nat} (hT : T < 500) (he : e ≤ 390) (h : z_O T e ax (p, I, J, c, w)) (hr : r < 4) (hj : j < 9) (hs : s_rvk I (nI r) = nI j) (k : ∀ p' c', z_O (T + 1) 0 ax (p', (s_stl p 9 3 ((s_mt 9 (s_b1 j) (s_rvZ I j) I).1, J)).1, (s_stl p 9 3 ((s_mt 9 (s_b1 j) (s_rvZ I j) I).1, J)).2, c', w) → Q (.inl (some (.int (if bI (decide (0 < (s_mt 9 (s_b1 j) (s_rvZ I j) I).2)) = 0 then 0 else 1)))) (p', (s_stl p 9 3 ((s_mt 9 (s_b1 j) (s_rvZ I j) I).1, J)).1, (s_stl p 9 3 ((s_mt 9 (s_b1 j) (s_rvZ I j) I).1, J)).2, c', w)) : s_c X (d + 11) 420 [.ref ax, .int nI r] (p, I, J, c, w) Q := by
  obtain ⟨⟨np, hD, hW, ⟨a, b, hTp, ha, hb⟩, hnp, n, t, s, m, I', J', hS, hR, hn, hm⟩, hF, hV, hax⟩ := h
  dsimp only at hD hW hTp hS hF hV hax
  have hKn := hS.1.1.1.2.1
  have h5 := hS.2.2.2.2.2.1
  have hc : c.1 < e_xb := z_room hTp ha ⟨by omega, by omega⟩
  rw [← hax]
  refine c_L_pushReversible (d := d + 10) hD.1.1 (c_X11_pushReversible (d := d + 2) hD hTp (z_me hS) (fun _ jj hjj hxx p1 c1 hD1 x1 hT1 => ?_) (fun z => absurd (h_kj hr (by omega)) z) (fun _ z => absurd (h_kj hj (by omega)) (h_kx (hs ▸ z))))
  obtain rfl := h_kE hjj hj (by omega) (hs.symm.trans hxx)
  obtain ⟨⟨n', t', hn', -, hS1⟩, -⟩ := a_moves (y := s_b1 j) (z := s_rvZ I j) hS (by omega) (by omega)
  exact k p1 c1 (z_mk (TC := f_k_isOut :: s_tST) (by omega) (by omega) (by omega) hnp hF ((hV.N (s_eqN.mt) (by decide)).N (s_eqN.stl (p := p) (nk := 9) (nr := 3) (a := (_, J))) (by decide)) hax x1.HALL x1.PARR x1.2.2.1 hD1 v_Wd.stl hT1 ((s_eqN.mt.mono (by decide)).trans (s_eqN.stl.mono (by decide))) (by decide) ((hR.N s_eqN.qmt (by decide)).st) hS1 (by omega) (by omega) (by omega))

set_option maxRecDepth 100000 in
theorem g_setReversible {X : e_XT} {d T e ax : Nat} {p : e_Sp} {I : e_I} {J : e_Jt} {c : Nat × Nat} {w : e_Rw1} {Q : e_Rt → e_SS → Prop} {r j : Nat} (hT : T < 500) (he : e ≤ 390) (h : z_O T e ax (p, I, J, c, w)) (hr : r < 4) (hj : j < 9) (k : z_O (T + 1) 0 ax (p, (s_krv I (nI r) (nI j)), J, c, w) → Q (.inl (some (.int (s_rvk I (nI r))))) (p, (s_krv I (nI r) (nI j)), J, c, w)) : s_c X (d + 11) 419 [.ref ax, .int nI r, .int nI j] (p, I, J, c, w) Q := by
  obtain ⟨⟨np, hD, hW, ⟨a, b, hTp, ha, hb⟩, hnp, n, t, s, m, I', J', hS, hR, hn, hm⟩, hF, hV, hax⟩ := h
  dsimp only at hD hW hTp hS hF hV hax
  have hKn := hS.1.1.1.2.1
  have h5 := hS.2.2.2.2.2.1
  have hc : c.1 < e_xb := z_room hTp ha ⟨by omega, by omega⟩
  rw [← hax]
  refine c_L_setReversible (d := d + 10) hD.1.1 (c_X11_setReversible (d := d + 5) hD.1 (z_me hS) (fun _ jj hjj hxx _ => ?_) (fun z => absurd (h_kj hr (by omega)) z) (fun _ z => absurd (h_kj hj (by omega)) (h_kx z)) (fun _ _ _ _ z => absurd z (by rw [z_clo hS hF]; decide)))
  have eC : s_eqN [f_a_reversibles] I ((s_krv I (nI r) (nI j))) := z_krv
  have hS1 := z_srv hr hj hS
  exact k (z_mk (p' := p) (TC := [f_a_reversibles]) (by omega) (by omega) (by omega) hnp hF (hV.N eC (by decide)) hax rfl rfl rfl (hD.eq (z_krv.C (by decide))) (hW.N eC (by decide)) (hTp.eq (z_krv.T (by decide))) eC (by decide) ((hR.N (s_eqN.up (T := [f_m_reversible]) (by decide)) (by decide)).st) hS1 (by omega) (by omega) (by omega))

set_option maxRecDepth 100000 in
theorem g_tune {X : e_XT} {d T e ax : Nat} {p : e_Sp} {I : e_I} {J : e_Jt} {c : Nat × Nat} {w : e_Rw1} {Q : e_Rt → e_SS → Prop} {x y z : Int32} (hT : T < 500) (he : e ≤ 390) (h : z_O T e ax (p, I, J, c, w)) (j : Nat) (hj : s_pat p I 3 x y = some j) (hz : -50 ≤ z ∧ z ≤ 50) (k : z_O (T + 1) 0 ax (p, (s_up I f_p_tuning j z), J, c, w) → Q (.inl (some (.int (I f_p_tuning j)))) (p, (s_up I f_p_tuning j z), J, c, w)) : s_c X (d + 11) 428 [.ref ax, .int x, .int y, .int z] (p, I, J, c, w) Q := by
  obtain ⟨⟨np, hD, hW, ⟨a, b, hTp, ha, hb⟩, hnp, n, t, s, m, I', J', hS, hR, hn, hm⟩, hF, hV, hax⟩ := h
  dsimp only at hD hW hTp hS hF hV hax
  have hKn := hS.1.1.1.2.1
  have h5 := hS.2.2.2.2.2.1
  have hc : c.1 < e_xb := z_room hTp ha ⟨by omega, by omega⟩
  rw [← hax]
  refine c_L_tune (d := d + 10) hD.1.1 (c_X11_tune (d := d + 5) hD (fun jj hjj _ => ?_) (fun z => absurd (hj.symm.trans z) (by simp)) (fun _ _ h => absurd hz h))
  obtain rfl := Option.some.inj (hj.symm.trans hjj)
  have eC : s_eqN [f_p_tuning] I ((s_up I f_p_tuning j z)) := s_eqN.up (by decide)
  have hS1 := a_tune (j := j) (y := z) hS
  exact k (z_mk (p' := p) (TC := [f_p_tuning]) (by omega) (by omega) (by omega) hnp hF (hV.N eC (by decide)) hax rfl rfl rfl (hD.eq (s_eqC.up (by decide))) (hW.N eC (by decide)) (hTp.eq (s_eqT.up (by decide))) eC (by decide) (v_Rg.st (I := s_up I' f_m_tuning j z) (hR.tun (z_in hz))) hS1 (by omega) (by omega) (by omega))

