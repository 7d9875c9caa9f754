/-! 9999999999999997b: the law's acts (printed by wip/p61/mkg.py) -/
set_option maxRecDepth 100000 in
set_option maxHeartbeats 200000 in
theorem g_key {X : e_XT} {d T e ax : Nat} {p : e_Sp} {I : e_I} {J : e_Jt} {c : Nat × Nat} {w : e_Rw1} {Q : e_Rt → e_SS → Prop} {x y z : Int32} (hT : T < 500) (he : e ≤ 390) (h : z_O T e ax (p, I, J, c, w)) (hk : s_isk x y) (hz : z = 0 ∨ z = 1) (k : ∀ p' c', z_O (T + 1) 0 ax (p', (s_stl p 9 3 (s_prk I x y z, J)).1, (s_stl p 9 3 (s_prk I x y z, J)).2, c', w) → Q (.inl (some (.int (if bI (s_dn I x y) = 0 then 0 else 1)))) (p', (s_stl p 9 3 (s_prk I x y z, J)).1, (s_stl p 9 3 (s_prk I x y z, J)).2, c', w)) : s_c X (d + 11) 406 [.ref ax, .int (x), .int (y), .int (z)] (p, I, J, c, w) Q := by
  obtain ⟨⟨np, hD, hW, ⟨a, b, hTp, ha, hb⟩, hnp, n, t, s, m, I', J', hS, hR, hn, hm⟩, hF, hV, hax⟩ := h
  dsimp only at hD hW hTp hS hF hV hax
  have hKn := hS.1.1.1.2.1
  have h5 := hS.2.2.2.2.2.1
  have hc : c.1 < e_xb := z_room hTp ha ⟨by omega, by omega⟩
  rw [← hax]
  refine c_L_key (d := d + 10) hD.1.1 (c_X11_key (d := d + 3) hD hTp hz (fun _ p1 c1 hD1 x1 hT1 => ?_) (fun z => absurd hk z))
  obtain ⟨⟨n', t', hn', -, hS1⟩, -⟩ := a_key hS hk hz (by omega) (by omega)
  exact k p1 c1 (z_mk (TC := s_tPK ++ s_tST) (by omega) (by omega) (by omega) hnp hF ((hV.N (s_eqN.prk (x := x) (y := y) (b := z)) (by decide)).N (s_eqN.stl (p := p) (nk := 9) (nr := 3) (a := (_, J))) (by decide)) hax x1.HALL x1.PARR x1.2.2.1 hD1 v_Wd.stl hT1 (((s_eqN.prk (x := x) (y := y) (b := z)).mono (by decide)).trans (s_eqN.stl.mono (by decide))) (by decide) ((hR.N q_mdv_e.1 (by decide)).st) hS1 (by omega) (by omega) (by omega))

set_option maxRecDepth 100000 in
set_option maxHeartbeats 200000 in
theorem g_draw {X : e_XT} {d T e ax : Nat} {p : e_Sp} {I : e_I} {J : e_Jt} {c : Nat × Nat} {w : e_Rw1} {Q : e_Rt → e_SS → Prop} {j : Nat} {y : Int32} (hT : T < 500) (he : e ≤ 390) (h : z_O T e ax (p, I, J, c, w)) (hj : j < 9) (hy : y = 0 ∨ y = 1) (k : ∀ p' c', z_O (T + 1) 0 ax (p', (s_stl p 9 3 (s_up I f_k_isOut j y, J)).1, (s_stl p 9 3 (s_up I f_k_isOut j y, J)).2, c', w) → Q (.inl (some (.int (if I f_k_isOut j = 0 then 0 else 1)))) (p', (s_stl p 9 3 (s_up I f_k_isOut j y, J)).1, (s_stl p 9 3 (s_up I f_k_isOut j y, J)).2, c', w)) : s_c X (d + 11) 408 [.ref ax, .int (nI j), .int (y)] (p, I, J, c, w) Q := by
  obtain ⟨⟨np, hD, hW, ⟨a, b, hTp, ha, hb⟩, hnp, n, t, s, m, I', J', hS, hR, hn, hm⟩, hF, hV, hax⟩ := h
  dsimp only at hD hW hTp hS hF hV hax
  have hKn := hS.1.1.1.2.1
  have h5 := hS.2.2.2.2.2.1
  have hc : c.1 < e_xb := z_room hTp ha ⟨by omega, by omega⟩
  rw [← hax]
  refine c_L_draw (d := d + 10) hD.1.1 (c_X11_draw (d := d + 3) hD hTp hy (fun j _ => h5.1 f_k_isOut rfl j) (fun jj hjj hxx p1 c1 hD1 x1 hT1 => ?_) (fun z => absurd (h_kj hj (by omega)) (h_kx z)))
  obtain rfl := h_kE hjj hj (by omega) hxx
  obtain ⟨n', t', hn', -, hS1⟩ := a_draw hy hS (by omega) (by omega)
  exact k p1 c1 (z_mk (TC := f_k_isOut :: s_tST) (by omega) (by omega) (by omega) hnp hF ((hV.N (s_eqN.up (T := [f_k_isOut]) (by decide)) (by decide)).N (s_eqN.stl (p := p) (nk := 9) (nr := 3) (a := (_, J))) (by decide)) hax x1.HALL x1.PARR x1.2.2.1 hD1 v_Wd.stl hT1 ((s_eqN.up (T := [f_k_isOut]) (by decide)).mono (by decide) |>.trans (s_eqN.stl.mono (by decide))) (by decide) ((hR.N (s_eqN.up (T := [f_mk_isDrawn]) (by decide)) (by decide)).st) hS1 (by omega) (by omega) (by omega))

set_option maxRecDepth 100000 in
set_option maxHeartbeats 200000 in
theorem g_tutti {X : e_XT} {d T e ax : Nat} {p : e_Sp} {I : e_I} {J : e_Jt} {c : Nat × Nat} {w : e_Rw1} {Q : e_Rt → e_SS → Prop} {y : Int32} (hT : T < 500) (he : e ≤ 390) (h : z_O T e ax (p, I, J, c, w)) (hy : y = 0 ∨ y = 1) (k : ∀ p' c', z_O (T + 1) 0 ax (p', (s_stl p 9 3 (s_up I f_isTutti 0 y, J)).1, (s_stl p 9 3 (s_up I f_isTutti 0 y, J)).2, c', w) → Q (.inl (some (.int (I f_isTutti 0)))) (p', (s_stl p 9 3 (s_up I f_isTutti 0 y, J)).1, (s_stl p 9 3 (s_up I f_isTutti 0 y, J)).2, c', w)) : s_c X (d + 11) 133 [.ref ax, .int (y)] (p, I, J, c, w) Q := by
  obtain ⟨⟨np, hD, hW, ⟨a, b, hTp, ha, hb⟩, hnp, n, t, s, m, I', J', hS, hR, hn, hm⟩, hF, hV, hax⟩ := h
  dsimp only at hD hW hTp hS hF hV hax
  have hKn := hS.1.1.1.2.1
  have h5 := hS.2.2.2.2.2.1
  have hc : c.1 < e_xb := z_room hTp ha ⟨by omega, by omega⟩
  rw [← hax]
  refine c_X11_tutti (d := d + 4) hD hTp hy (h5.1 f_isTutti rfl 0) (fun p1 c1 hD1 x1 hT1 => ?_)
  obtain ⟨n', t', hn', -, hS1⟩ := a_tutti hy hS (by omega) (by omega)
  exact k p1 c1 (z_mk (TC := f_isTutti :: s_tST) (by omega) (by omega) (by omega) hnp hF ((hV.N (s_eqN.up (T := [f_isTutti]) (by decide)) (by decide)).N (s_eqN.stl (p := p) (nk := 9) (nr := 3) (a := (_, J))) (by decide)) hax x1.HALL x1.PARR x1.2.2.1 hD1 v_Wd.stl hT1 ((s_eqN.up (T := [f_isTutti]) (by decide)).mono (by decide) |>.trans (s_eqN.stl.mono (by decide))) (by decide) ((hR.N (s_eqN.up (T := [f_m_isTutti]) (by decide)) (by decide)).st) hS1 (by omega) (by omega) (by omega))

