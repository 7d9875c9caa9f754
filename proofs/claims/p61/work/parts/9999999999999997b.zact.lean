/-! 9999999999999997b: the law's acts (printed by wip/p61/mkg.py) -/
set_option maxRecDepth 100000 in
theorem g_key {X : e_XT} {d T ax : Nat} {p : e_Sp} {I : e_I} {J : e_Jt} {c : Nat × Nat} {w : e_Rw1} {Q : e_Rt → e_SS → Prop} {x y z : Int32} (hT : T < 500) (h : z_O T ax (p, I, J, c, w)) (hk : s_isk x y) (hz : z = 0 ∨ z = 1) (k : ∀ p' c', z_O (T + 1) ax (p', (s_stl p 9 3 (s_prk I x y z, J)).1, (s_stl p 9 3 (s_prk I x y z, J)).2, c', w) → Q (.inl (some (.int (if bI (s_dn I x y) = 0 then 0 else 1)))) (p', (s_stl p 9 3 (s_prk I x y z, J)).1, (s_stl p 9 3 (s_prk I x y z, J)).2, c', w)) : s_c X (d + 11) 406 [.ref ax, .int x, .int y, .int z] (p, I, J, c, w) Q := by
  obtain ⟨⟨np, hD, hW, ⟨a, b, hTp, ha, hb⟩, hnp, n, t, s, m, I', J', hS, hR, hn, hm⟩, hF, hV, hax⟩ := h
  dsimp only at hD hW hTp hS hF hV hax
  have hKn := hS.1.1.1.2.1
  have h5 := hS.2.2.2.2.2.1
  have hc : c.1 < e_xb := z_room hTp ha (by omega)
  rw [← hax]
  refine c_L_key (d := d + 10) hD.1.1 (c_X11_key (d := d + 3) hD hTp hz (fun _ p1 c1 hD1 x1 hT1 => ?_) (fun z => absurd hk z))
  obtain ⟨⟨n', t', hn', -, hS1⟩, -⟩ := a_key hS hk hz (by omega) (by omega)
  exact k p1 c1 (z_mk (TC := s_tPK ++ s_tST) (by omega) (by omega) (by omega) hnp hF ((hV.N (s_eqN.prk (x := x) (y := y) (b := z)) (by decide)).N (s_eqN.stl (p := p) (nk := 9) (nr := 3) (a := (_, J))) (by decide)) hax x1.HALL x1.PARR x1.2.2.1 hD1 v_Wd.stl hT1 (((s_eqN.prk (x := x) (y := y) (b := z)).mono (by decide)).trans (s_eqN.stl.mono (by decide))) (by decide) ((hR.N q_mdv_e.1 (by decide)).st) hS1 (by omega) (by omega) (by omega))

set_option maxRecDepth 100000 in
theorem g_draw {X : e_XT} {d T ax : Nat} {p : e_Sp} {I : e_I} {J : e_Jt} {c : Nat × Nat} {w : e_Rw1} {Q : e_Rt → e_SS → Prop} {j : Nat} {y : Int32} (hT : T < 500) (h : z_O T ax (p, I, J, c, w)) (hj : j < 9) (hy : y = 0 ∨ y = 1) (k : ∀ p' c', z_O (T + 1) ax (p', (s_stl p 9 3 (s_up I f_k_isOut j y, J)).1, (s_stl p 9 3 (s_up I f_k_isOut j y, J)).2, c', w) → Q (.inl (some (.int (if I f_k_isOut j = 0 then 0 else 1)))) (p', (s_stl p 9 3 (s_up I f_k_isOut j y, J)).1, (s_stl p 9 3 (s_up I f_k_isOut j y, J)).2, c', w)) : s_c X (d + 11) 408 [.ref ax, .int nI j, .int y] (p, I, J, c, w) Q := by
  obtain ⟨⟨np, hD, hW, ⟨a, b, hTp, ha, hb⟩, hnp, n, t, s, m, I', J', hS, hR, hn, hm⟩, hF, hV, hax⟩ := h
  dsimp only at hD hW hTp hS hF hV hax
  have hKn := hS.1.1.1.2.1
  have h5 := hS.2.2.2.2.2.1
  have hc : c.1 < e_xb := z_room hTp ha (by omega)
  rw [← hax]
  refine c_L_draw (d := d + 10) hD.1.1 (c_X11_draw (d := d + 3) hD hTp hy (fun j _ => h5.1 f_k_isOut rfl j) (fun jj hjj hxx p1 c1 hD1 x1 hT1 => ?_) (fun z => absurd (h_kj hj (by omega)) (h_kx z)))
  obtain rfl := h_kE hjj hj (by omega) hxx
  obtain ⟨n', t', hn', -, hS1⟩ := a_draw hy hS (by omega) (by omega)
  exact k p1 c1 (z_mk (TC := f_k_isOut :: s_tST) (by omega) (by omega) (by omega) hnp hF ((hV.N (s_eqN.up (T := [f_k_isOut]) (by decide)) (by decide)).N (s_eqN.stl (p := p) (nk := 9) (nr := 3) (a := (_, J))) (by decide)) hax x1.HALL x1.PARR x1.2.2.1 hD1 v_Wd.stl hT1 ((s_eqN.up (T := [f_k_isOut]) (by decide)).mono (by decide) |>.trans (s_eqN.stl.mono (by decide))) (by decide) ((hR.N (s_eqN.up (T := [f_mk_isDrawn]) (by decide)) (by decide)).st) hS1 (by omega) (by omega) (by omega))

set_option maxRecDepth 100000 in
theorem g_drive {X : e_XT} {d T ax : Nat} {p : e_Sp} {I : e_I} {J : e_Jt} {c : Nat × Nat} {w : e_Rw1} {Q : e_Rt → e_SS → Prop} {j : Nat} {y : Int32} (hT : T < 500) (h : z_O T ax (p, I, J, c, w)) (hj : j < 9) (hy : y = -1 ∨ ∃ r, r < 16 ∧ y = nI r) (k : ∀ p' c', z_O (T + 1) ax (p', (s_stl p 9 3 (s_up I f_k_relay j y, J)).1, (s_stl p 9 3 (s_up I f_k_relay j y, J)).2, c', w) → Q (.inl (some (.int (I f_k_relay j)))) (p', (s_stl p 9 3 (s_up I f_k_relay j y, J)).1, (s_stl p 9 3 (s_up I f_k_relay j y, J)).2, c', w)) : s_c X (d + 11) 418 [.ref ax, .int nI j, .int y] (p, I, J, c, w) Q := by
  obtain ⟨⟨np, hD, hW, ⟨a, b, hTp, ha, hb⟩, hnp, n, t, s, m, I', J', hS, hR, hn, hm⟩, hF, hV, hax⟩ := h
  dsimp only at hD hW hTp hS hF hV hax
  have hKn := hS.1.1.1.2.1
  have h5 := hS.2.2.2.2.2.1
  have hc : c.1 < e_xb := z_room hTp ha (by omega)
  rw [← hax]
  refine c_L_drive (d := d + 10) hD.1.1 (c_X11_drive (d := d + 3) hD hTp (fun jj hjj hxx _ p1 c1 hD1 x1 hT1 => ?_) (fun z => absurd (h_kj hj (by omega)) (h_kx z)) (fun _ _ _ h1 h2 => absurd h2 (hy.elim (fun z => absurd z h1) (fun ⟨r, hr, e⟩ => not_not_intro (e ▸ h_kj hr (by omega))))))
  obtain rfl := h_kE hjj hj (by omega) hxx
  obtain ⟨n', t', hn', -, hS1⟩ := a_drive hy hS (by omega) (by omega)
  exact k p1 c1 (z_mk (TC := f_k_relay :: s_tST) (by omega) (by omega) (by omega) hnp hF ((hV.N (s_eqN.up (T := [f_k_relay]) (by decide)) (by decide)).N (s_eqN.stl (p := p) (nk := 9) (nr := 3) (a := (_, J))) (by decide)) hax x1.HALL x1.PARR x1.2.2.1 hD1 v_Wd.stl hT1 ((s_eqN.up (T := [f_k_relay]) (by decide)).mono (by decide) |>.trans (s_eqN.stl.mono (by decide))) (by decide) ((hR.N (s_eqN.up (T := [f_mk_relay]) (by decide)) (by decide)).st) hS1 (by omega) (by omega) (by omega))

set_option maxRecDepth 100000 in
theorem g_crescendo {X : e_XT} {d T ax : Nat} {p : e_Sp} {I : e_I} {J : e_Jt} {c : Nat × Nat} {w : e_Rw1} {Q : e_Rt → e_SS → Prop} {y : Nat} (hT : T < 500) (h : z_O T ax (p, I, J, c, w)) (hy : y ≤ 9) (k : ∀ p' c', z_O (T + 1) ax (p', (s_stl p 9 3 (s_up I f_crescendo 0 (nI y), J)).1, (s_stl p 9 3 (s_up I f_crescendo 0 (nI y), J)).2, c', w) → Q (.inl (some (.int (I f_crescendo 0)))) (p', (s_stl p 9 3 (s_up I f_crescendo 0 (nI y), J)).1, (s_stl p 9 3 (s_up I f_crescendo 0 (nI y), J)).2, c', w)) : s_c X (d + 11) 426 [.ref ax, .int nI y] (p, I, J, c, w) Q := by
  obtain ⟨⟨np, hD, hW, ⟨a, b, hTp, ha, hb⟩, hnp, n, t, s, m, I', J', hS, hR, hn, hm⟩, hF, hV, hax⟩ := h
  dsimp only at hD hW hTp hS hF hV hax
  have hKn := hS.1.1.1.2.1
  have h5 := hS.2.2.2.2.2.1
  have hc : c.1 < e_xb := z_room hTp ha (by omega)
  rw [← hax]
  refine c_L_crescendo (d := d + 10) hD.1.1 (c_X11_crescendo (d := d + 3) hD hTp (fun _ p1 c1 hD1 x1 hT1 => ?_) (fun z => absurd ⟨nI_pos' (by omega), nI_le (b := 9) hy (by decide)⟩ z))
  obtain ⟨n', t', hn', -, hS1⟩ := a_crescendo hS (by omega) (by omega)
  exact k p1 c1 (z_mk (TC := f_crescendo :: s_tST) (by omega) (by omega) (by omega) hnp hF (z_V.N (T := s_tST) (I := s_up I f_crescendo 0 (nI y)) ⟨fun q => hV.1 q, ⟨y, hy, s_up_s⟩, fun k hk => hV.2.2 k hk⟩ (s_eqN.stl (p := p) (nk := 9) (nr := 3) (a := (_, J))) (by decide)) hax x1.HALL x1.PARR x1.2.2.1 hD1 v_Wd.stl hT1 ((s_eqN.up (T := [f_crescendo]) (by decide)).mono (by decide) |>.trans (s_eqN.stl.mono (by decide))) (by decide) ((hR.N (s_eqN.up (T := [f_m_crescendo]) (by decide)) (by decide)).st) hS1 (by omega) (by omega) (by omega))

set_option maxRecDepth 100000 in
theorem g_stage {X : e_XT} {d T ax : Nat} {p : e_Sp} {I : e_I} {J : e_Jt} {c : Nat × Nat} {w : e_Rw1} {Q : e_Rt → e_SS → Prop} {j y : Nat} (hT : T < 500) (h : z_O T ax (p, I, J, c, w)) (hj : 3 ≤ j ∧ j < 6) (hy : y ≤ 9) (k : ∀ p' c', z_O (T + 1) ax (p', (s_stl p 9 3 (s_up I f_s_stage j (nI y), J)).1, (s_stl p 9 3 (s_up I f_s_stage j (nI y), J)).2, c', w) → Q (.inl (some (.int (I f_s_stage j)))) (p', (s_stl p 9 3 (s_up I f_s_stage j (nI y), J)).1, (s_stl p 9 3 (s_up I f_s_stage j (nI y), J)).2, c', w)) : s_c X (d + 11) 427 [.ref ax, .int nI j, .int nI y] (p, I, J, c, w) Q := by
  obtain ⟨⟨np, hD, hW, ⟨a, b, hTp, ha, hb⟩, hnp, n, t, s, m, I', J', hS, hR, hn, hm⟩, hF, hV, hax⟩ := h
  dsimp only at hD hW hTp hS hF hV hax
  have hKn := hS.1.1.1.2.1
  have h5 := hS.2.2.2.2.2.1
  have hc : c.1 < e_xb := z_room hTp ha (by omega)
  rw [← hax]
  refine c_L_stage (d := d + 10) hD.1.1 (c_X11_stage (d := d + 3) hD hTp (fun jj hjj hxx _ _ p1 c1 hD1 x1 hT1 => ?_) (fun z => absurd (h_kj (show j < 9 by omega) (by omega)) (h_kx z)) (fun _ _ _ z => absurd ⟨nI_pos' (by omega), nI_le (b := 9) hy (by decide)⟩ z) (fun jj hjj hxx _ z => absurd ((hF.2.1 jj hjj).mpr (h_kE hjj (show j < 9 by omega) (by omega) hxx ▸ hj)) z))
  obtain rfl := h_kE hjj (show j < 9 by omega) (by omega) hxx
  obtain ⟨n', t', hn', -, hS1⟩ := a_stage hS (by omega) (by omega)
  exact k p1 c1 (z_mk (TC := f_s_stage :: s_tST) (by omega) (by omega) (by omega) hnp hF (z_V.N (T := s_tST) (I := s_up I f_s_stage jj (nI y)) ⟨fun q => hV.1 q, hV.2.1, fun k hk => by
    by_cases e : k = jj
    · subst e; exact ⟨y, hy, s_up_s⟩
    · rw [s_up_i e]; exact hV.2.2 k hk⟩ (s_eqN.stl (p := p) (nk := 9) (nr := 3) (a := (_, J))) (by decide)) hax x1.HALL x1.PARR x1.2.2.1 hD1 v_Wd.stl hT1 ((s_eqN.up (T := [f_s_stage]) (by decide)).mono (by decide) |>.trans (s_eqN.stl.mono (by decide))) (by decide) ((hR.N (s_eqN.up (T := [f_mk_stage]) (by decide)) (by decide)).st) hS1 (by omega) (by omega) (by omega))

set_option maxRecDepth 100000 in
theorem g_supply {X : e_XT} {d T ax : Nat} {p : e_Sp} {I : e_I} {J : e_Jt} {c : Nat × Nat} {w : e_Rw1} {Q : e_Rt → e_SS → Prop} {j y : Nat} (hT : T < 500) (h : z_O T ax (p, I, J, c, w)) (hj : j < 3) (hy : y ≤ 999) (k : ∀ p' c', z_O (T + 1) ax (p', (s_stl p 9 3 (s_up I f_a_supplies j (nI y), J)).1, (s_stl p 9 3 (s_up I f_a_supplies j (nI y), J)).2, c', w) → Q (.inl (some (.int (I f_a_supplies j)))) (p', (s_stl p 9 3 (s_up I f_a_supplies j (nI y), J)).1, (s_stl p 9 3 (s_up I f_a_supplies j (nI y), J)).2, c', w)) : s_c X (d + 11) 430 [.ref ax, .int nI j, .int nI y] (p, I, J, c, w) Q := by
  obtain ⟨⟨np, hD, hW, ⟨a, b, hTp, ha, hb⟩, hnp, n, t, s, m, I', J', hS, hR, hn, hm⟩, hF, hV, hax⟩ := h
  dsimp only at hD hW hTp hS hF hV hax
  have hKn := hS.1.1.1.2.1
  have h5 := hS.2.2.2.2.2.1
  have hc : c.1 < e_xb := z_room hTp ha (by omega)
  rw [← hax]
  refine c_L_supply (d := d + 10) hD.1.1 (c_X11_supply (d := d + 3) hD hTp (fun _ _ p1 c1 hD1 x1 hT1 => ?_) (fun z => absurd (z_dv hj) (by rw [z]; decide)) (fun _ z => absurd ⟨nI_pos' (by omega), nI_le (b := 999) hy (by decide)⟩ z))
  rw [nI_clamp (show j < 2 ^ 31 by omega)] at hD1 hT1 ⊢
  obtain ⟨n', t', hn', -, hS1⟩ := a_supply (j := j) (y := nI y) hS (by omega) (by omega)
  exact k p1 c1 (z_mk (TC := f_a_supplies :: s_tST) (by omega) (by omega) (by omega) hnp hF ((hV.N (s_eqN.up (T := [f_a_supplies]) (by decide)) (by decide)).N (s_eqN.stl (p := p) (nk := 9) (nr := 3) (a := (_, J))) (by decide)) hax x1.HALL x1.PARR x1.2.2.1 hD1 v_Wd.stl hT1 ((s_eqN.up (T := [f_a_supplies]) (by decide)).mono (by decide) |>.trans (s_eqN.stl.mono (by decide))) (by decide) (v_Rg.st (I := s_up I' f_m_supply j (nI y)) ⟨hR.1, hR.2.1, hR.2.2.1, hR.2.2.2.1, fun d hd => by
    by_cases e : d = j
    · subst e; rw [s_up_s]; exact v_in.mono (v_in.nI (by omega)) (by omega) (by omega)
    · rw [s_up_i e]; exact hR.2.2.2.2 d hd⟩) hS1 (by omega) (by omega) (by omega))


