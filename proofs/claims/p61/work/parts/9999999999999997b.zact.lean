/-! 9999999999999997b: the law's acts (printed by wip/p61/mkg.py) -/
set_option maxRecDepth 100000 in
set_option maxHeartbeats 200000 in
theorem g_key {X : e_XT} {d T e ax : Nat} {p : e_Sp} {I : e_I} {J : e_Jt} {c : Nat × Nat} {w : e_Rw1} {Q : e_Rt → e_SS → Prop} {x y z : Int32} (hT : T < 500) (he : e ≤ 390) (h : z_O T e ax (p, I, J, c, w)) (hk : s_isk x y) (hz : z = 0 ∨ z = 1) (k : ∀ p' c', z_O (T + 1) 0 ax (p', (s_stl p 9 3 (s_prk I x y z, J)).1, (s_stl p 9 3 (s_prk I x y z, J)).2, c', w) → Q (.inl (some (.int (if bI (s_dn I x y) = 0 then 0 else 1)))) (p', (s_stl p 9 3 (s_prk I x y z, J)).1, (s_stl p 9 3 (s_prk I x y z, J)).2, c', w)) : s_c X (d + 11) 406 [.ref ax, .int (x), .int (y), .int (z)] (p, I, J, c, w) Q := by
  obtain ⟨⟨np, hD, hW, ⟨a, b, hTp, ha, hb⟩, hnp, n, t, s, m, I', J', hS, ⟨K, hK, hR⟩, hn, hm⟩, hF, hV, hax⟩ := h
  dsimp only at hD hW hTp hS hF hV hax
  have hKn := hS.1.1.1.2.1
  have h5 := hS.2.2.2.2.2.1
  have hc : c.1 < e_xb := z_room hTp ha ⟨by omega, by omega⟩
  rw [← hax]
  refine c_L_key (d := d + 10) hD.1.1 (c_X11_key (d := d + 3) hD hTp hz (fun _ p1 c1 hD1 x1 hT1 => ?_) (fun z => absurd hk z))
  obtain ⟨⟨n', t', hn', -, hS1⟩, -⟩ := a_key hS hk hz (by omega) (by omega)
  exact k p1 c1 (z_mk (TC := s_tPK ++ s_tST) (by omega) (by omega) (by omega) hnp hF ((hV.N (s_eqN.prk (x := x) (y := y) (b := z)) (by decide)).N (s_eqN.stl (p := p) (nk := 9) (nr := 3) (a := (_, J))) (by decide)) hax x1.HALL x1.PARR x1.2.2.1 hD1 v_Wd.stl hT1 (((s_eqN.prk (x := x) (y := y) (b := z)).mono (by decide)).trans (s_eqN.stl.mono (by decide))) (by decide) ((hR.N q_mdv_e.1 (by decide)).st) hS1 (by omega) (by omega) (by omega) (by omega))

set_option maxRecDepth 100000 in
set_option maxHeartbeats 200000 in
theorem g_draw {X : e_XT} {d T e ax : Nat} {p : e_Sp} {I : e_I} {J : e_Jt} {c : Nat × Nat} {w : e_Rw1} {Q : e_Rt → e_SS → Prop} {j : Nat} {y : Int32} (hT : T < 500) (he : e ≤ 390) (h : z_O T e ax (p, I, J, c, w)) (hj : j < 9) (hy : y = 0 ∨ y = 1) (k : ∀ p' c', z_O (T + 1) 0 ax (p', (s_stl p 9 3 (s_up I f_k_isOut j y, J)).1, (s_stl p 9 3 (s_up I f_k_isOut j y, J)).2, c', w) → Q (.inl (some (.int (if I f_k_isOut j = 0 then 0 else 1)))) (p', (s_stl p 9 3 (s_up I f_k_isOut j y, J)).1, (s_stl p 9 3 (s_up I f_k_isOut j y, J)).2, c', w)) : s_c X (d + 11) 408 [.ref ax, .int (nI j), .int (y)] (p, I, J, c, w) Q := by
  obtain ⟨⟨np, hD, hW, ⟨a, b, hTp, ha, hb⟩, hnp, n, t, s, m, I', J', hS, ⟨K, hK, hR⟩, hn, hm⟩, hF, hV, hax⟩ := h
  dsimp only at hD hW hTp hS hF hV hax
  have hKn := hS.1.1.1.2.1
  have h5 := hS.2.2.2.2.2.1
  have hc : c.1 < e_xb := z_room hTp ha ⟨by omega, by omega⟩
  rw [← hax]
  refine c_L_draw (d := d + 10) hD.1.1 (c_X11_draw (d := d + 3) hD hTp hy (fun j _ => h5.1 f_k_isOut rfl j) (fun jj hjj hxx p1 c1 hD1 x1 hT1 => ?_) (fun z => absurd (h_kj hj (by omega)) (h_kx z)))
  obtain rfl := h_kE hjj hj (by omega) hxx
  obtain ⟨n', t', hn', -, hS1⟩ := a_draw hy hS (by omega) (by omega)
  exact k p1 c1 (z_mk (TC := f_k_isOut :: s_tST) (by omega) (by omega) (by omega) hnp hF ((hV.N (s_eqN.up (T := [f_k_isOut]) (by decide)) (by decide)).N (s_eqN.stl (p := p) (nk := 9) (nr := 3) (a := (_, J))) (by decide)) hax x1.HALL x1.PARR x1.2.2.1 hD1 v_Wd.stl hT1 ((s_eqN.up (T := [f_k_isOut]) (by decide)).mono (by decide) |>.trans (s_eqN.stl.mono (by decide))) (by decide) ((hR.N (s_eqN.up (T := [f_mk_isDrawn]) (by decide)) (by decide)).st) hS1 (by omega) (by omega) (by omega) (by omega))

set_option maxRecDepth 100000 in
set_option maxHeartbeats 200000 in
theorem g_drive {X : e_XT} {d T e ax : Nat} {p : e_Sp} {I : e_I} {J : e_Jt} {c : Nat × Nat} {w : e_Rw1} {Q : e_Rt → e_SS → Prop} {j : Nat} {y : Int32} (hT : T < 500) (he : e ≤ 390) (h : z_O T e ax (p, I, J, c, w)) (hj : j < 9) (hy : y = -1 ∨ ∃ r, r < 16 ∧ y = nI r) (k : ∀ p' c', z_O (T + 1) 0 ax (p', (s_stl p 9 3 (s_up I f_k_relay j y, J)).1, (s_stl p 9 3 (s_up I f_k_relay j y, J)).2, c', w) → Q (.inl (some (.int (I f_k_relay j)))) (p', (s_stl p 9 3 (s_up I f_k_relay j y, J)).1, (s_stl p 9 3 (s_up I f_k_relay j y, J)).2, c', w)) : s_c X (d + 11) 418 [.ref ax, .int (nI j), .int (y)] (p, I, J, c, w) Q := by
  obtain ⟨⟨np, hD, hW, ⟨a, b, hTp, ha, hb⟩, hnp, n, t, s, m, I', J', hS, ⟨K, hK, hR⟩, hn, hm⟩, hF, hV, hax⟩ := h
  dsimp only at hD hW hTp hS hF hV hax
  have hKn := hS.1.1.1.2.1
  have h5 := hS.2.2.2.2.2.1
  have hc : c.1 < e_xb := z_room hTp ha ⟨by omega, by omega⟩
  rw [← hax]
  refine c_L_drive (d := d + 10) hD.1.1 (c_X11_drive (d := d + 3) hD hTp (fun jj hjj hxx _ p1 c1 hD1 x1 hT1 => ?_) (fun z => absurd (h_kj hj (by omega)) (h_kx z)) (fun _ _ _ h1 h2 => absurd h2 (hy.elim (fun z => absurd z h1) (fun ⟨r, hr, e⟩ => not_not_intro (e ▸ ⟨nI_pos' (by omega), (nI_ltI (b := 16) (by omega) (by decide)).mpr hr⟩)))))
  obtain rfl := h_kE hjj hj (by omega) hxx
  obtain ⟨n', t', hn', -, hS1⟩ := a_drive hy hS (by omega) (by omega)
  exact k p1 c1 (z_mk (TC := f_k_relay :: s_tST) (by omega) (by omega) (by omega) hnp hF ((hV.N (s_eqN.up (T := [f_k_relay]) (by decide)) (by decide)).N (s_eqN.stl (p := p) (nk := 9) (nr := 3) (a := (_, J))) (by decide)) hax x1.HALL x1.PARR x1.2.2.1 hD1 v_Wd.stl hT1 ((s_eqN.up (T := [f_k_relay]) (by decide)).mono (by decide) |>.trans (s_eqN.stl.mono (by decide))) (by decide) ((hR.N (s_eqN.up (T := [f_mk_relay]) (by decide)) (by decide)).st) hS1 (by omega) (by omega) (by omega) (by omega))

set_option maxRecDepth 100000 in
set_option maxHeartbeats 200000 in
theorem g_crescendo {X : e_XT} {d T e ax : Nat} {p : e_Sp} {I : e_I} {J : e_Jt} {c : Nat × Nat} {w : e_Rw1} {Q : e_Rt → e_SS → Prop} {y : Nat} (hT : T < 500) (he : e ≤ 390) (h : z_O T e ax (p, I, J, c, w)) (hy : y ≤ 9) (k : ∀ p' c', z_O (T + 1) 0 ax (p', (s_stl p 9 3 (s_up I f_crescendo 0 (nI y), J)).1, (s_stl p 9 3 (s_up I f_crescendo 0 (nI y), J)).2, c', w) → Q (.inl (some (.int (I f_crescendo 0)))) (p', (s_stl p 9 3 (s_up I f_crescendo 0 (nI y), J)).1, (s_stl p 9 3 (s_up I f_crescendo 0 (nI y), J)).2, c', w)) : s_c X (d + 11) 426 [.ref ax, .int (nI y)] (p, I, J, c, w) Q := by
  obtain ⟨⟨np, hD, hW, ⟨a, b, hTp, ha, hb⟩, hnp, n, t, s, m, I', J', hS, ⟨K, hK, hR⟩, hn, hm⟩, hF, hV, hax⟩ := h
  dsimp only at hD hW hTp hS hF hV hax
  have hKn := hS.1.1.1.2.1
  have h5 := hS.2.2.2.2.2.1
  have hc : c.1 < e_xb := z_room hTp ha ⟨by omega, by omega⟩
  rw [← hax]
  refine c_L_crescendo (d := d + 10) hD.1.1 (c_X11_crescendo (d := d + 3) hD hTp (fun _ p1 c1 hD1 x1 hT1 => ?_) (fun z => absurd ⟨nI_pos' (by omega), nI_le (b := 9) hy (by decide)⟩ z))
  obtain ⟨n', t', hn', -, hS1⟩ := a_crescendo hS (by omega) (by omega)
  exact k p1 c1 (z_mk (TC := f_crescendo :: s_tST) (by omega) (by omega) (by omega) hnp hF ((hV.cre hy).N (s_eqN.stl (p := p) (nk := 9) (nr := 3) (a := (_, J))) (by decide)) hax x1.HALL x1.PARR x1.2.2.1 hD1 v_Wd.stl hT1 ((s_eqN.up (T := [f_crescendo]) (by decide)).mono (by decide) |>.trans (s_eqN.stl.mono (by decide))) (by decide) ((hR.N (s_eqN.up (T := [f_m_crescendo]) (by decide)) (by decide)).st) hS1 (by omega) (by omega) (by omega) (by omega))

set_option maxRecDepth 100000 in
set_option maxHeartbeats 200000 in
theorem g_stage {X : e_XT} {d T e ax : Nat} {p : e_Sp} {I : e_I} {J : e_Jt} {c : Nat × Nat} {w : e_Rw1} {Q : e_Rt → e_SS → Prop} {j y : Nat} (hT : T < 500) (he : e ≤ 390) (h : z_O T e ax (p, I, J, c, w)) (hj : 3 ≤ j ∧ j < 6) (hy : y ≤ 9) (k : ∀ p' c', z_O (T + 1) 0 ax (p', (s_stl p 9 3 (s_up I f_s_stage j (nI y), J)).1, (s_stl p 9 3 (s_up I f_s_stage j (nI y), J)).2, c', w) → Q (.inl (some (.int (I f_s_stage j)))) (p', (s_stl p 9 3 (s_up I f_s_stage j (nI y), J)).1, (s_stl p 9 3 (s_up I f_s_stage j (nI y), J)).2, c', w)) : s_c X (d + 11) 427 [.ref ax, .int (nI j), .int (nI y)] (p, I, J, c, w) Q := by
  obtain ⟨⟨np, hD, hW, ⟨a, b, hTp, ha, hb⟩, hnp, n, t, s, m, I', J', hS, ⟨K, hK, hR⟩, hn, hm⟩, hF, hV, hax⟩ := h
  dsimp only at hD hW hTp hS hF hV hax
  have hKn := hS.1.1.1.2.1
  have h5 := hS.2.2.2.2.2.1
  have hc : c.1 < e_xb := z_room hTp ha ⟨by omega, by omega⟩
  rw [← hax]
  refine c_L_stage (d := d + 10) hD.1.1 (c_X11_stage (d := d + 3) hD hTp (fun jj hjj hxx _ _ p1 c1 hD1 x1 hT1 => ?_) (fun z => absurd (h_kj (show j < 9 by omega) (by omega)) (h_kx z)) (fun _ _ _ z => absurd ⟨nI_pos' (by omega), nI_le (b := 9) hy (by decide)⟩ z) (fun jj hjj hxx _ z => absurd ((hF.2.1 jj hjj).mpr (h_kE hjj (show j < 9 by omega) (by omega) hxx ▸ hj)) z))
  obtain rfl := h_kE hjj (show j < 9 by omega) (by omega) hxx
  obtain ⟨n', t', hn', -, hS1⟩ := a_stage hS (by omega) (by omega)
  exact k p1 c1 (z_mk (TC := f_s_stage :: s_tST) (by omega) (by omega) (by omega) hnp hF ((hV.stg hy).N (s_eqN.stl (p := p) (nk := 9) (nr := 3) (a := (_, J))) (by decide)) hax x1.HALL x1.PARR x1.2.2.1 hD1 v_Wd.stl hT1 ((s_eqN.up (T := [f_s_stage]) (by decide)).mono (by decide) |>.trans (s_eqN.stl.mono (by decide))) (by decide) ((hR.N (s_eqN.up (T := [f_mk_stage]) (by decide)) (by decide)).st) hS1 (by omega) (by omega) (by omega) (by omega))

set_option maxRecDepth 100000 in
set_option maxHeartbeats 200000 in
theorem g_supply {X : e_XT} {d T e ax : Nat} {p : e_Sp} {I : e_I} {J : e_Jt} {c : Nat × Nat} {w : e_Rw1} {Q : e_Rt → e_SS → Prop} {j y : Nat} (hT : T < 500) (he : e ≤ 390) (h : z_O T e ax (p, I, J, c, w)) (hj : j < 3) (hy : y ≤ 999) (k : ∀ p' c', z_O (T + 1) 0 ax (p', (s_stl p 9 3 (s_up I f_a_supplies j (nI y), J)).1, (s_stl p 9 3 (s_up I f_a_supplies j (nI y), J)).2, c', w) → Q (.inl (some (.int (I f_a_supplies j)))) (p', (s_stl p 9 3 (s_up I f_a_supplies j (nI y), J)).1, (s_stl p 9 3 (s_up I f_a_supplies j (nI y), J)).2, c', w)) : s_c X (d + 11) 430 [.ref ax, .int (nI j), .int (nI y)] (p, I, J, c, w) Q := by
  obtain ⟨⟨np, hD, hW, ⟨a, b, hTp, ha, hb⟩, hnp, n, t, s, m, I', J', hS, ⟨K, hK, hR⟩, hn, hm⟩, hF, hV, hax⟩ := h
  dsimp only at hD hW hTp hS hF hV hax
  have hKn := hS.1.1.1.2.1
  have h5 := hS.2.2.2.2.2.1
  have hc : c.1 < e_xb := z_room hTp ha ⟨by omega, by omega⟩
  rw [← hax]
  refine c_L_supply (d := d + 10) hD.1.1 (c_X11_supply (d := d + 3) hD hTp (fun _ _ p1 c1 hD1 x1 hT1 => ?_) (fun z => absurd (z_dv hj) (by rw [z]; decide)) (fun _ z => absurd ⟨nI_pos' (by omega), nI_le (b := 999) hy (by decide)⟩ z))
  rw [nI_clamp (show j < 2 ^ 31 by omega)] at hD1 hT1 ⊢
  obtain ⟨n', t', hn', -, hS1⟩ := a_supply (j := j) (y := nI y) hS (by omega) (by omega)
  exact k p1 c1 (z_mk (TC := f_a_supplies :: s_tST) (by omega) (by omega) (by omega) hnp hF ((hV.N (s_eqN.up (T := [f_a_supplies]) (by decide)) (by decide)).N (s_eqN.stl (p := p) (nk := 9) (nr := 3) (a := (_, J))) (by decide)) hax x1.HALL x1.PARR x1.2.2.1 hD1 v_Wd.stl hT1 ((s_eqN.up (T := [f_a_supplies]) (by decide)).mono (by decide) |>.trans (s_eqN.stl.mono (by decide))) (by decide) ((hR.sup hy).st) hS1 (by omega) (by omega) (by omega) (by omega))

set_option maxRecDepth 100000 in
set_option maxHeartbeats 200000 in
theorem g_tutti {X : e_XT} {d T e ax : Nat} {p : e_Sp} {I : e_I} {J : e_Jt} {c : Nat × Nat} {w : e_Rw1} {Q : e_Rt → e_SS → Prop} {y : Int32} (hT : T < 500) (he : e ≤ 390) (h : z_O T e ax (p, I, J, c, w)) (hy : y = 0 ∨ y = 1) (k : ∀ p' c', z_O (T + 1) 0 ax (p', (s_stl p 9 3 (s_up I f_isTutti 0 y, J)).1, (s_stl p 9 3 (s_up I f_isTutti 0 y, J)).2, c', w) → Q (.inl (some (.int (I f_isTutti 0)))) (p', (s_stl p 9 3 (s_up I f_isTutti 0 y, J)).1, (s_stl p 9 3 (s_up I f_isTutti 0 y, J)).2, c', w)) : s_c X (d + 11) 133 [.ref ax, .int (y)] (p, I, J, c, w) Q := by
  obtain ⟨⟨np, hD, hW, ⟨a, b, hTp, ha, hb⟩, hnp, n, t, s, m, I', J', hS, ⟨K, hK, hR⟩, hn, hm⟩, hF, hV, hax⟩ := h
  dsimp only at hD hW hTp hS hF hV hax
  have hKn := hS.1.1.1.2.1
  have h5 := hS.2.2.2.2.2.1
  have hc : c.1 < e_xb := z_room hTp ha ⟨by omega, by omega⟩
  rw [← hax]
  refine c_X11_tutti (d := d + 4) hD hTp hy (h5.1 f_isTutti rfl 0) (fun p1 c1 hD1 x1 hT1 => ?_)
  obtain ⟨n', t', hn', -, hS1⟩ := a_tutti hy hS (by omega) (by omega)
  exact k p1 c1 (z_mk (TC := f_isTutti :: s_tST) (by omega) (by omega) (by omega) hnp hF ((hV.N (s_eqN.up (T := [f_isTutti]) (by decide)) (by decide)).N (s_eqN.stl (p := p) (nk := 9) (nr := 3) (a := (_, J))) (by decide)) hax x1.HALL x1.PARR x1.2.2.1 hD1 v_Wd.stl hT1 ((s_eqN.up (T := [f_isTutti]) (by decide)).mono (by decide) |>.trans (s_eqN.stl.mono (by decide))) (by decide) ((hR.N (s_eqN.up (T := [f_m_isTutti]) (by decide)) (by decide)).st) hS1 (by omega) (by omega) (by omega) (by omega))

set_option maxRecDepth 100000 in
set_option maxHeartbeats 200000 in
theorem g_fault {X : e_XT} {d T e ax : Nat} {p : e_Sp} {I : e_I} {J : e_Jt} {c : Nat × Nat} {w : e_Rw1} {Q : e_Rt → e_SS → Prop} {x y z : Int32} (hT : T < 500) (he : e ≤ 390) (h : z_O T e ax (p, I, J, c, w)) (j : Nat) (hj : s_pat p I 3 x y = some j) (hz : z = 99 ∨ z = 100 ∨ z = 45) (k : ∀ p' c', z_O (T + 1) 0 ax (p', (s_stl p 9 3 (s_up I f_p_fault j z, J)).1, (s_stl p 9 3 (s_up I f_p_fault j z, J)).2, c', w) → Q (.inl (some (.int (I f_p_fault j)))) (p', (s_stl p 9 3 (s_up I f_p_fault j z, J)).1, (s_stl p 9 3 (s_up I f_p_fault j z, J)).2, c', w)) : s_c X (d + 11) 424 [.ref ax, .int (x), .int (y), .int (z)] (p, I, J, c, w) Q := by
  obtain ⟨⟨np, hD, hW, ⟨a, b, hTp, ha, hb⟩, hnp, n, t, s, m, I', J', hS, ⟨K, hK, hR⟩, hn, hm⟩, hF, hV, hax⟩ := h
  dsimp only at hD hW hTp hS hF hV hax
  have hKn := hS.1.1.1.2.1
  have h5 := hS.2.2.2.2.2.1
  have hc : c.1 < e_xb := z_room hTp ha ⟨by omega, by omega⟩
  rw [← hax]
  refine c_L_fault (d := d + 10) hD.1.1 (c_X11_fault (d := d + 3) hD hTp (fun j => (h5.2.2.1 j)) (fun jj hjj _ p1 c1 hD1 x1 hT1 => ?_) (fun z => absurd (hj.symm.trans z) (by simp)) (fun _ _ h => absurd hz h))
  obtain rfl := Option.some.inj (hj.symm.trans hjj)
  obtain ⟨n', t', hn', -, hS1⟩ := a_fault (j := j) (y := z) (by rcases hz with rfl | rfl | rfl <;> decide) hS (by omega) (by omega)
  exact k p1 c1 (z_mk (TC := f_p_fault :: s_tST) (by omega) (by omega) (by omega) hnp hF ((hV.flt hz).N (s_eqN.stl (p := p) (nk := 9) (nr := 3) (a := (_, J))) (by decide)) hax x1.HALL x1.PARR x1.2.2.1 hD1 v_Wd.stl hT1 ((s_eqN.up (T := [f_p_fault]) (by decide)).mono (by decide) |>.trans (s_eqN.stl.mono (by decide))) (by decide) ((hR.N (s_eqN.up (T := [f_m_fault]) (by decide)) (by decide)).st) hS1 (by omega) (by omega) (by omega) (by omega))

set_option maxRecDepth 100000 in
set_option maxHeartbeats 200000 in
theorem g_lift {X : e_XT} {d T e ax : Nat} {p : e_Sp} {I : e_I} {J : e_Jt} {c : Nat × Nat} {w : e_Rw1} {Q : e_Rt → e_SS → Prop} (hT : T < 500) (he : e ≤ 390) (h : z_O T e ax (p, I, J, c, w))  (k : ∀ p' c', z_O (T + 1) 0 ax (p', (s_stl p 9 3 ((s_rla I).1, J)).1, (s_stl p 9 3 ((s_rla I).1, J)).2, c', w) → Q (.inl (some (.int (s_rla I).2))) (p', (s_stl p 9 3 ((s_rla I).1, J)).1, (s_stl p 9 3 ((s_rla I).1, J)).2, c', w)) : s_c X (d + 11) 134 [.ref ax] (p, I, J, c, w) Q := by
  obtain ⟨⟨np, hD, hW, ⟨a, b, hTp, ha, hb⟩, hnp, n, t, s, m, I', J', hS, ⟨K, hK, hR⟩, hn, hm⟩, hF, hV, hax⟩ := h
  dsimp only at hD hW hTp hS hF hV hax
  have hKn := hS.1.1.1.2.1
  have h5 := hS.2.2.2.2.2.1
  have hc : c.1 < e_xb := z_room hTp ha ⟨by omega, by omega⟩
  rw [← hax]
  refine c_X11_lift (d := d + 3) hD hTp (fun p1 c1 hD1 x1 hT1 => ?_)
  have hl := (a_lift hS (by omega) (by omega)).1
  have eL : s_eqN s_tPK I (s_rla I).1 := s_eqN.rla
  generalize s_rla I = L9 at k hl eL hD1 hT1 ⊢
  generalize q_lf I' = M9 at hl
  have hl2 := hl
  obtain ⟨n1, t9, r1, r2, r3, r4, r5, r6, r7⟩ := hl2
  obtain ⟨n', t', q1, -, q3⟩ := v_keyS hS hl (by omega) (by omega)
  exact k p1 c1 (z_mk (TC := s_tPK ++ s_tST) (by omega) (by omega) (by omega) hnp hF ((hV.N (eL) (by decide)).N (s_eqN.stl (p := p) (nk := 9) (nr := 3) (a := (_, J))) (by decide)) hax x1.HALL x1.PARR x1.2.2.1 hD1 v_Wd.stl hT1 ((eL.mono (by decide)).trans (s_eqN.stl.mono (by decide))) (by decide) ((hR.N r6.1 (by decide)).st) q3 (by omega) (by omega) (by omega) (by omega))

set_option maxRecDepth 100000 in
set_option maxHeartbeats 200000 in
theorem g_pass {X : e_XT} {d T e ax : Nat} {p : e_Sp} {I : e_I} {J : e_Jt} {c : Nat × Nat} {w : e_Rw1} {Q : e_Rt → e_SS → Prop} {v : Nat} (hT : T < 500) (he : e ≤ 390) (h : z_O T e ax (p, I, J, c, w)) (hv : 1 ≤ v ∧ v ≤ 3) (k : ∀ p' c' x, 0 < x → z_O (T + 1) 0 ax (p', (s_run (s_tick p 9 3) 0 v (I, J)).1, (s_run (s_tick p 9 3) 0 v (I, J)).2, c', w) → Q (.inl (some (.int x))) (p', (s_run (s_tick p 9 3) 0 v (I, J)).1, (s_run (s_tick p 9 3) 0 v (I, J)).2, c', w)) : s_c X (d + 11) 404 [.ref ax, .int (nI v)] (p, I, J, c, w) Q := by
  obtain ⟨⟨np, hD, hW, ⟨a, b, hTp, ha, hb⟩, hnp, n, t, s, m, I', J', hS, ⟨K, hK, hR⟩, hn, hm⟩, hF, hV, hax⟩ := h
  dsimp only at hD hW hTp hS hF hV hax
  have hKn := hS.1.1.1.2.1
  have h5 := hS.2.2.2.2.2.1
  have hc : c.1 < e_xb := z_room hTp ha ⟨by omega, by omega⟩
  rw [← hax]
  refine c_L_pass (d := d + 10) hD.1.1 (c_X11_pass (d := d + 2) hD hTp (fun _ p1 c1 hD1 x1 hT1 => ?_) (fun z => absurd ⟨nI_le (a := 1) hv.1 (by omega), nI_le (b := 40) (by omega) (by decide)⟩ z))
  rw [nI_clamp (show v < 2 ^ 31 by omega)] at hD1 hT1 ⊢
  have hnp2 : v * np ≤ 378 := Nat.le_trans (Nat.mul_le_mul (by omega : v ≤ 3) (by omega : np ≤ 126)) (by decide)
  obtain ⟨⟨n', t', hn', -, hS1⟩, -⟩ := a_pass (k := v) hS (by omega) (by omega) (by omega) (by omega)
  have hm9 := hS1.1.1.2.2.1.2.1.1
  have hnow : (s_run (s_tick p 9 3) 0 v (I, J)).1 f_now 0 = nI (m + v) := (hS1.1.1.1.2.2.2.2.1).trans hm9.2.2.2.1
  refine k p1 c1 _ ?_ (z_mk (TC := f_now :: s_tST) (by omega) (by omega) (by omega) hnp hF (hV.N (s_eqN.runP s_eqN.tick v 0 (I, J)) (by decide)) hax x1.HALL x1.PARR x1.2.2.1 hD1 (v_Wd.ticks (a := (I, J)) hW v 0) hT1 (s_eqN.runP s_eqN.tick v 0 (I, J)) (by decide) (hR.tcs (k := v)) hS1 (by omega) (by omega) (by omega) (by omega))
  rw [hnow]
  exact (nI_ltI (a := 0) (by omega) (by omega)).mpr (by omega)

set_option maxRecDepth 100000 in
set_option maxHeartbeats 200000 in
theorem g_lock {X : e_XT} {d T e ax : Nat} {p : e_Sp} {I : e_I} {J : e_Jt} {c : Nat × Nat} {w : e_Rw1} {Q : e_Rt → e_SS → Prop} {j : Nat} {y : Int32} (hT : T < 500) (he : e ≤ 390) (h : z_O T e ax (p, I, J, c, w)) (hj : j < 9) (hy : y = 0 ∨ y = 1) (k : z_O (T + 1) 0 ax (p, (s_up I f_k_isLocked j y), J, c, w) → Q (.inl (some (.int (if I f_k_isLocked j = 0 then 0 else 1)))) (p, (s_up I f_k_isLocked j y), J, c, w)) : s_c X (d + 11) 412 [.ref ax, .int (nI j), .int (y)] (p, I, J, c, w) Q := by
  obtain ⟨⟨np, hD, hW, ⟨a, b, hTp, ha, hb⟩, hnp, n, t, s, m, I', J', hS, ⟨K, hK, hR⟩, hn, hm⟩, hF, hV, hax⟩ := h
  dsimp only at hD hW hTp hS hF hV hax
  have hKn := hS.1.1.1.2.1
  have h5 := hS.2.2.2.2.2.1
  have hc : c.1 < e_xb := z_room hTp ha ⟨by omega, by omega⟩
  rw [← hax]
  refine c_L_lock (d := d + 10) hD.1.1 (c_X11_lock (d := d + 5) hD.1 hy (fun j _ => h5.1 f_k_isLocked rfl j) (fun jj hjj hxx => ?_) (fun z => absurd (h_kj hj (by omega)) (h_kx z)))
  obtain rfl := (h_kE hjj hj (by omega) hxx).symm
  have eC : s_eqN [f_k_isLocked] I ((s_up I f_k_isLocked j y)) := s_eqN.up (by decide)
  have hS1 := a_lock (j := j) hy hS
  exact k (z_mk (p' := p) (A := ((s_up I f_k_isLocked j y), J)) (TC := [f_k_isLocked]) (by omega) (by omega) (by omega) hnp hF (hV.N eC (by decide)) hax rfl rfl rfl (hD.eq (s_eqC.up (by decide))) (hW.N eC (by decide)) (hTp.eq (s_eqT.up (by decide))) eC (by decide) ((hR.N (s_eqN.up (T := [f_mk_isLocked]) (by decide)) (by decide)).st) hS1 (by omega) (by omega) (by omega) (by omega))

set_option maxRecDepth 100000 in
set_option maxHeartbeats 200000 in
theorem g_scope {X : e_XT} {d T e ax : Nat} {p : e_Sp} {I : e_I} {J : e_Jt} {c : Nat × Nat} {w : e_Rw1} {Q : e_Rt → e_SS → Prop} {j : Nat} {y : Int32} (hT : T < 500) (he : e ≤ 390) (h : z_O T e ax (p, I, J, c, w)) (hj : j < 9) (hy : y = 0 ∨ y = 1) (k : z_O (T + 1) 0 ax (p, (s_up I f_k_isInScope j y), J, c, w) → Q (.inl (some (.int (if I f_k_isInScope j = 0 then 0 else 1)))) (p, (s_up I f_k_isInScope j y), J, c, w)) : s_c X (d + 11) 413 [.ref ax, .int (nI j), .int (y)] (p, I, J, c, w) Q := by
  obtain ⟨⟨np, hD, hW, ⟨a, b, hTp, ha, hb⟩, hnp, n, t, s, m, I', J', hS, ⟨K, hK, hR⟩, hn, hm⟩, hF, hV, hax⟩ := h
  dsimp only at hD hW hTp hS hF hV hax
  have hKn := hS.1.1.1.2.1
  have h5 := hS.2.2.2.2.2.1
  have hc : c.1 < e_xb := z_room hTp ha ⟨by omega, by omega⟩
  rw [← hax]
  refine c_L_scope (d := d + 10) hD.1.1 (c_X11_scope (d := d + 5) hD.1 hy (fun j _ => h5.1 f_k_isInScope rfl j) (fun jj hjj hxx => ?_) (fun z => absurd (h_kj hj (by omega)) (h_kx z)))
  obtain rfl := (h_kE hjj hj (by omega) hxx).symm
  have eC : s_eqN [f_k_isInScope] I ((s_up I f_k_isInScope j y)) := s_eqN.up (by decide)
  have hS1 := a_scope (j := j) hy hS
  exact k (z_mk (p' := p) (A := ((s_up I f_k_isInScope j y), J)) (TC := [f_k_isInScope]) (by omega) (by omega) (by omega) hnp hF (hV.N eC (by decide)) hax rfl rfl rfl (hD.eq (s_eqC.up (by decide))) (hW.N eC (by decide)) (hTp.eq (s_eqT.up (by decide))) eC (by decide) ((hR.N (s_eqN.up (T := [f_mk_isIn]) (by decide)) (by decide)).st) hS1 (by omega) (by omega) (by omega) (by omega))

set_option maxRecDepth 100000 in
set_option maxHeartbeats 200000 in
theorem g_set {X : e_XT} {d T e ax : Nat} {p : e_Sp} {I : e_I} {J : e_Jt} {c : Nat × Nat} {w : e_Rw1} {Q : e_Rt → e_SS → Prop} {y : Nat} (hT : T < 500) (he : e ≤ 390) (h : z_O T e ax (p, I, J, c, w)) (hy : y < 8) (k : z_O (T + 1) 0 ax (p, (s_kpI I (nI y)), (s_kpJ I J (nI y) (s_kset I 9 (-1)) (s_da I 9 (s_kset I 9 (-1)))), c, w) → Q (.inl (some (.int (s_bc (s_da I 9 (s_kset I 9 (-1))))))) (p, (s_kpI I (nI y)), (s_kpJ I J (nI y) (s_kset I 9 (-1)) (s_da I 9 (s_kset I 9 (-1)))), c, w)) : s_c X (d + 11) 410 [.ref ax, .int (-1), .int (nI y)] (p, I, J, c, w) Q := by
  obtain ⟨⟨np, hD, hW, ⟨a, b, hTp, ha, hb⟩, hnp, n, t, s, m, I', J', hS, ⟨K, hK, hR⟩, hn, hm⟩, hF, hV, hax⟩ := h
  dsimp only at hD hW hTp hS hF hV hax
  have hKn := hS.1.1.1.2.1
  have h5 := hS.2.2.2.2.2.1
  have hc : c.1 < e_xb := z_room hTp ha ⟨by omega, by omega⟩
  rw [← hax]
  refine c_L_set (d := d + 10) hD.1.1 (c_X11_set (d := d + 6) hD.1 (z_me hS) (fun _ _ => ?_) (fun z => absurd z (by rw [z_plo hy]; exact nI_pos (by omega))) (fun _ z => absurd z (by rw [z_clo hS hF]; decide)))
  rw [z_plo hy]
  have hS0 := (a_set (x := -1) (y := nI y) hS (z_ps hy)).1
  rw [z_plo hy] at hS0
  have eC : s_eqN [f_a_isSet] I ((s_kpI I (nI y))) := z_kpI
  have hS1 := hS0
  exact k (z_mk (p' := p) (A := ((s_kpI I (nI y)), (s_kpJ I J (nI y) (s_kset I 9 (-1)) (s_da I 9 (s_kset I 9 (-1)))))) (TC := [f_a_isSet]) (by omega) (by omega) (by omega) hnp hF (hV.N eC (by decide)) hax rfl rfl rfl (hD.eq (z_kpI.C (by decide))) (hW.N eC (by decide)) (hTp.eq (z_kpI.T (by decide))) eC (by decide) ((hR.NJ (s_eqN.up (T := [f_mg_isSet]) (by decide)) (by decide) (z_seJ (by decide) (by decide) 9) (z_seJ (by decide) (by decide) 9)).st) hS1 (by omega) (by omega) (by omega) (by omega))

set_option maxRecDepth 100000 in
set_option maxHeartbeats 200000 in
theorem g_push {X : e_XT} {d T e ax : Nat} {p : e_Sp} {I : e_I} {J : e_Jt} {c : Nat × Nat} {w : e_Rw1} {Q : e_Rt → e_SS → Prop} {y : Nat} (hT : T < 500) (he : e ≤ 390) (h : z_O T e ax (p, I, J, c, w)) (hy : y < 8) (hs : s_isk5 I (nI y) = true) (k : ∀ p' c', z_O (T + 1) 0 ax (p', (s_stl p 9 3 ((s_mt 9 (s_kby j_a_kept I J (nI y)) (s_kby j_a_drawn I J (nI y)) I).1, J)).1, (s_stl p 9 3 ((s_mt 9 (s_kby j_a_kept I J (nI y)) (s_kby j_a_drawn I J (nI y)) I).1, J)).2, c', w) → Q (.inl (some (.int (s_mt 9 (s_kby j_a_kept I J (nI y)) (s_kby j_a_drawn I J (nI y)) I).2))) (p', (s_stl p 9 3 ((s_mt 9 (s_kby j_a_kept I J (nI y)) (s_kby j_a_drawn I J (nI y)) I).1, J)).1, (s_stl p 9 3 ((s_mt 9 (s_kby j_a_kept I J (nI y)) (s_kby j_a_drawn I J (nI y)) I).1, J)).2, c', w)) : s_c X (d + 11) 411 [.ref ax, .int (-1), .int (nI y)] (p, I, J, c, w) Q := by
  obtain ⟨⟨np, hD, hW, ⟨a, b, hTp, ha, hb⟩, hnp, n, t, s, m, I', J', hS, ⟨K, hK, hR⟩, hn, hm⟩, hF, hV, hax⟩ := h
  dsimp only at hD hW hTp hS hF hV hax
  have hKn := hS.1.1.1.2.1
  have h5 := hS.2.2.2.2.2.1
  have hc : c.1 < e_xb := z_room hTp ha ⟨by omega, by omega⟩
  rw [← hax]
  refine c_L_push (d := d + 10) hD.1.1 (c_X11_push (d := d + 2) hD hTp (z_me hS) (fun _ _ p1 c1 hD1 x1 hT1 => ?_) (fun z => absurd z (by rw [z_plo hy]; exact nI_pos (by omega))) (fun _ z => absurd z (by rw [z_plo hy, hs]; decide)))
  rw [z_plo hy] at hD1 hT1 ⊢
  obtain ⟨⟨n', t', hn', -, hS1⟩, -⟩ := a_moves (y := s_kby j_a_kept I J (nI y)) (z := s_kby j_a_drawn I J (nI y)) hS (by omega) (by omega)
  exact k p1 c1 (z_mk (TC := f_k_isOut :: s_tST) (by omega) (by omega) (by omega) hnp hF ((hV.N (s_eqN.mt) (by decide)).N (s_eqN.stl (p := p) (nk := 9) (nr := 3) (a := (_, J))) (by decide)) hax x1.HALL x1.PARR x1.2.2.1 hD1 v_Wd.stl hT1 ((s_eqN.mt.mono (by decide)).trans (s_eqN.stl.mono (by decide))) (by decide) ((hR.N z_qmt (by decide)).st) hS1 (by omega) (by omega) (by omega) (by omega))

set_option maxRecDepth 100000 in
set_option maxHeartbeats 200000 in
theorem g_turnTo {X : e_XT} {d T e ax : Nat} {p : e_Sp} {I : e_I} {J : e_Jt} {c : Nat × Nat} {w : e_Rw1} {Q : e_Rt → e_SS → Prop} (hT : T < 500) (he : e ≤ 390) (h : z_O T e ax (p, I, J, c, w)) (hs : 0 < s_frs I) (k : ∀ p' c', z_O (T + 1) 0 ax (p', (s_stl p 9 3 ((s_mt 9 (s_kbf j_a_frameKept I J 0) (s_kbf j_a_frameDrawn I J 0) I).1, J)).1, (s_stl p 9 3 ((s_mt 9 (s_kbf j_a_frameKept I J 0) (s_kbf j_a_frameDrawn I J 0) I).1, J)).2, c', w) → Q (.inl (some (.int (s_mt 9 (s_kbf j_a_frameKept I J 0) (s_kbf j_a_frameDrawn I J 0) I).2))) (p', (s_stl p 9 3 ((s_mt 9 (s_kbf j_a_frameKept I J 0) (s_kbf j_a_frameDrawn I J 0) I).1, J)).1, (s_stl p 9 3 ((s_mt 9 (s_kbf j_a_frameKept I J 0) (s_kbf j_a_frameDrawn I J 0) I).1, J)).2, c', w)) : s_c X (d + 11) 415 [.ref ax, .int (0)] (p, I, J, c, w) Q := by
  obtain ⟨⟨np, hD, hW, ⟨a, b, hTp, ha, hb⟩, hnp, n, t, s, m, I', J', hS, ⟨K, hK, hR⟩, hn, hm⟩, hF, hV, hax⟩ := h
  dsimp only at hD hW hTp hS hF hV hax
  have hKn := hS.1.1.1.2.1
  have h5 := hS.2.2.2.2.2.1
  have hc : c.1 < e_xb := z_room hTp ha ⟨by omega, by omega⟩
  rw [← hax]
  refine c_L_turnTo (d := d + 10) hD.1.1 (c_X11_turnTo (d := d + 2) hD hTp (z_me hS) (fun _ p1 c1 hD1 x1 hT1 => ?_) (fun z => absurd ⟨by decide, hs⟩ z))
  obtain ⟨⟨n', t', hn', -, hS1⟩, -⟩ := a_moves (y := s_kbf j_a_frameKept I J 0) (z := s_kbf j_a_frameDrawn I J 0) hS (by omega) (by omega)
  exact k p1 c1 (z_mk (TC := f_k_isOut :: s_tST) (by omega) (by omega) (by omega) hnp hF ((hV.N (s_eqN.mt) (by decide)).N (s_eqN.stl (p := p) (nk := 9) (nr := 3) (a := (_, J))) (by decide)) hax x1.HALL x1.PARR x1.2.2.1 hD1 v_Wd.stl hT1 ((s_eqN.mt.mono (by decide)).trans (s_eqN.stl.mono (by decide))) (by decide) ((hR.N z_qmt (by decide)).st) hS1 (by omega) (by omega) (by omega) (by omega))

set_option maxRecDepth 100000 in
set_option maxHeartbeats 200000 in
theorem g_pushReversible {X : e_XT} {d T e ax : Nat} {p : e_Sp} {I : e_I} {J : e_Jt} {c : Nat × Nat} {w : e_Rw1} {Q : e_Rt → e_SS → Prop} {r j : Nat} (hT : T < 500) (he : e ≤ 390) (h : z_O T e ax (p, I, J, c, w)) (hr : r < 4) (hj : j < 9) (hs : s_rvk I (nI r) = nI j) (k : ∀ p' c', z_O (T + 1) 0 ax (p', (s_stl p 9 3 ((s_mt 9 (s_b1 j) (s_rvZ I j) I).1, J)).1, (s_stl p 9 3 ((s_mt 9 (s_b1 j) (s_rvZ I j) I).1, J)).2, c', w) → Q (.inl (some (.int (if bI (decide (0 < (s_mt 9 (s_b1 j) (s_rvZ I j) I).2)) = 0 then 0 else 1)))) (p', (s_stl p 9 3 ((s_mt 9 (s_b1 j) (s_rvZ I j) I).1, J)).1, (s_stl p 9 3 ((s_mt 9 (s_b1 j) (s_rvZ I j) I).1, J)).2, c', w)) : s_c X (d + 11) 420 [.ref ax, .int (nI r)] (p, I, J, c, w) Q := by
  obtain ⟨⟨np, hD, hW, ⟨a, b, hTp, ha, hb⟩, hnp, n, t, s, m, I', J', hS, ⟨K, hK, hR⟩, hn, hm⟩, hF, hV, hax⟩ := h
  dsimp only at hD hW hTp hS hF hV hax
  have hKn := hS.1.1.1.2.1
  have h5 := hS.2.2.2.2.2.1
  have hc : c.1 < e_xb := z_room hTp ha ⟨by omega, by omega⟩
  rw [← hax]
  refine c_L_pushReversible (d := d + 10) hD.1.1 (c_X11_pushReversible (d := d + 2) hD hTp (z_me hS) (fun _ jj hjj hxx p1 c1 hD1 x1 hT1 => ?_) (fun z => absurd (h_kj hr (by omega)) z) (fun _ z => absurd (h_kj hj (by omega)) (h_kx (hs ▸ z))))
  obtain rfl := (h_kE hjj hj (by omega) (hs.symm.trans hxx)).symm
  obtain ⟨⟨n', t', hn', -, hS1⟩, -⟩ := a_moves (y := s_b1 j) (z := s_rvZ I j) hS (by omega) (by omega)
  exact k p1 c1 (z_mk (TC := f_k_isOut :: s_tST) (by omega) (by omega) (by omega) hnp hF ((hV.N (s_eqN.mt) (by decide)).N (s_eqN.stl (p := p) (nk := 9) (nr := 3) (a := (_, J))) (by decide)) hax x1.HALL x1.PARR x1.2.2.1 hD1 v_Wd.stl hT1 ((s_eqN.mt.mono (by decide)).trans (s_eqN.stl.mono (by decide))) (by decide) ((hR.N z_qmt (by decide)).st) hS1 (by omega) (by omega) (by omega) (by omega))

set_option maxRecDepth 100000 in
set_option maxHeartbeats 200000 in
theorem g_setReversible {X : e_XT} {d T e ax : Nat} {p : e_Sp} {I : e_I} {J : e_Jt} {c : Nat × Nat} {w : e_Rw1} {Q : e_Rt → e_SS → Prop} {r j : Nat} (hT : T < 500) (he : e ≤ 390) (h : z_O T e ax (p, I, J, c, w)) (hr : r < 4) (hj : j < 9) (k : z_O (T + 1) 0 ax (p, (s_krv I (nI r) (nI j)), J, c, w) → Q (.inl (some (.int (s_rvk I (nI r))))) (p, (s_krv I (nI r) (nI j)), J, c, w)) : s_c X (d + 11) 419 [.ref ax, .int (nI r), .int (nI j)] (p, I, J, c, w) Q := by
  obtain ⟨⟨np, hD, hW, ⟨a, b, hTp, ha, hb⟩, hnp, n, t, s, m, I', J', hS, ⟨K, hK, hR⟩, hn, hm⟩, hF, hV, hax⟩ := h
  dsimp only at hD hW hTp hS hF hV hax
  have hKn := hS.1.1.1.2.1
  have h5 := hS.2.2.2.2.2.1
  have hc : c.1 < e_xb := z_room hTp ha ⟨by omega, by omega⟩
  rw [← hax]
  refine c_L_setReversible (d := d + 10) hD.1.1 (c_X11_setReversible (d := d + 5) hD.1 (z_me hS) (fun _ jj hjj hxx _ => ?_) (fun z => absurd (h_kj hr (by omega)) z) (fun _ z => absurd (h_kj hj (by omega)) (h_kx z)) (fun _ _ _ _ z => absurd z (by rw [z_clo hS hF]; decide)))
  have eC : s_eqN [f_a_reversibles] I ((s_krv I (nI r) (nI j))) := z_krv
  have hS1 := z_srv hr hj hS
  exact k (z_mk (p' := p) (A := ((s_krv I (nI r) (nI j)), J)) (TC := [f_a_reversibles]) (by omega) (by omega) (by omega) hnp hF (hV.N eC (by decide)) hax rfl rfl rfl (hD.eq (z_krv.C (by decide))) (hW.N eC (by decide)) (hTp.eq (z_krv.T (by decide))) eC (by decide) ((hR.N (s_eqN.up (T := [f_m_reversible]) (by decide)) (by decide)).st) hS1 (by omega) (by omega) (by omega) (by omega))

set_option maxRecDepth 100000 in
set_option maxHeartbeats 200000 in
theorem g_tune {X : e_XT} {d T e ax : Nat} {p : e_Sp} {I : e_I} {J : e_Jt} {c : Nat × Nat} {w : e_Rw1} {Q : e_Rt → e_SS → Prop} {x y z : Int32} (hT : T < 500) (he : e ≤ 390) (h : z_O T e ax (p, I, J, c, w)) (j : Nat) (hj : s_pat p I 3 x y = some j) (hz : -50 ≤ z ∧ z ≤ 50) (k : z_O (T + 1) 0 ax (p, (s_up I f_p_tuning j z), J, c, w) → Q (.inl (some (.int (I f_p_tuning j)))) (p, (s_up I f_p_tuning j z), J, c, w)) : s_c X (d + 11) 428 [.ref ax, .int (x), .int (y), .int (z)] (p, I, J, c, w) Q := by
  obtain ⟨⟨np, hD, hW, ⟨a, b, hTp, ha, hb⟩, hnp, n, t, s, m, I', J', hS, ⟨K, hK, hR⟩, hn, hm⟩, hF, hV, hax⟩ := h
  dsimp only at hD hW hTp hS hF hV hax
  have hKn := hS.1.1.1.2.1
  have h5 := hS.2.2.2.2.2.1
  have hc : c.1 < e_xb := z_room hTp ha ⟨by omega, by omega⟩
  rw [← hax]
  refine c_L_tune (d := d + 10) hD.1.1 (c_X11_tune (d := d + 5) hD (fun jj hjj _ => ?_) (fun z => absurd (hj.symm.trans z) (by simp)) (fun _ _ h => absurd hz h))
  obtain rfl := Option.some.inj (hj.symm.trans hjj)
  have eC : s_eqN [f_p_tuning] I ((s_up I f_p_tuning j z)) := s_eqN.up (by decide)
  have hS1 := a_tune (j := j) (y := z) hS
  exact k (z_mk (p' := p) (A := ((s_up I f_p_tuning j z), J)) (TC := [f_p_tuning]) (by omega) (by omega) (by omega) hnp hF (hV.N eC (by decide)) hax rfl rfl rfl (hD.eq (s_eqC.up (by decide))) (hW.N eC (by decide)) (hTp.eq (s_eqT.up (by decide))) eC (by decide) ((hR.tun (z_in hz)).st) hS1 (by omega) (by omega) (by omega) (by omega))

set_option maxRecDepth 100000 in
set_option maxHeartbeats 200000 in
theorem g_frame {X : e_XT} {d T e ax : Nat} {p : e_Sp} {I : e_I} {J : e_Jt} {c : Nat × Nat} {w : e_Rw1} {Q : e_Rt → e_SS → Prop} (hT : T < 500) (he : e ≤ 390) (h : z_O T e ax (p, I, J, c, w))  (k : ∀ g m9, g < 4 → I f_guest 0 = nI g → I f_a_frameCounts g = nI m9 → m9 < 20 → z_O (T + 1) 0 ax (p, (s_up I f_a_frameCounts g (nI (m9 + 1))), (s_up (s_up (s_cpJ (s_cpJ J j_a_frameKept (g * 20 + 0) (g * 20 + 0 + 1) (m9 - 0)) j_a_frameDrawn (g * 20 + 0) (g * 20 + 0 + 1) (m9 - 0)) j_a_frameKept (g * 20 + 0) (s_b1 9 - 1)) j_a_frameDrawn (g * 20 + 0) (s_da I 9 (s_b1 9 - 1))), c, w) → Q (.inl (some (.int (nI (m9 + 1))))) (p, (s_up I f_a_frameCounts g (nI (m9 + 1))), (s_up (s_up (s_cpJ (s_cpJ J j_a_frameKept (g * 20 + 0) (g * 20 + 0 + 1) (m9 - 0)) j_a_frameDrawn (g * 20 + 0) (g * 20 + 0 + 1) (m9 - 0)) j_a_frameKept (g * 20 + 0) (s_b1 9 - 1)) j_a_frameDrawn (g * 20 + 0) (s_da I 9 (s_b1 9 - 1))), c, w)) (kx : z_O T (e + 1) ax (p, I, J, (c.1 + 1, c.2 + 6), w) → Q (.inl (some (.int (-79)))) (p, I, J, (c.1 + 1, c.2 + 6), w)) : s_c X (d + 11) 414 [.ref ax, .int (0)] (p, I, J, c, w) Q := by
  obtain ⟨⟨np, hD, hW, ⟨a, b, hTp, ha, hb⟩, hnp, n, t, s, m, I', J', hS, ⟨K, hK, hR⟩, hn, hm⟩, hF, hV, hax⟩ := h
  dsimp only at hD hW hTp hS hF hV hax
  have hKn := hS.1.1.1.2.1
  have h5 := hS.2.2.2.2.2.1
  have hc : c.1 < e_xb := z_room hTp ha ⟨by omega, by omega⟩
  rw [← hax]
  refine c_L_frame (d := d + 10) hD.1.1 (c_X11_frame (d := d + 6) hD.1 (z_me hS) (fun _ _ g e9 m9 hg eg em hm20 he9 hx => ?_) (fun z => absurd ⟨by decide, z_frs hS⟩ z) (fun _ _ => ⟨_, by decide, kx ?_⟩))
  · have e90 : e9 = 0 := ((nI_eq (a := 0) (by decide) (by omega)).mp hx).symm
    subst e90
    have eC : s_eqN [f_a_frameCounts] I (s_up I f_a_frameCounts g (nI (m9 + 1))) := s_eqN.up (by decide)
    obtain ⟨-, -, ⟨⟨g1, hg1, eg1, eg2⟩, -⟩, -, -, -, h6⟩ := id hS
    have h61 := h6.2.2 g hg
    obtain ⟨m8, hm8, em8, el8, -⟩ := h61
    have egg : g1 = g := (nI_eq (by omega) (by omega)).mp (eg1.symm.trans eg)
    subst egg
    have emm : m8 = m9 := (nI_eq (by omega) (by omega)).mp (em8.symm.trans em)
    subst emm
    have hS1 := a_frame (e := 0) hS hg eg2 el8 hm20 he9
    exact k g1 m8 hg eg em hm20 (z_mk (p' := p) (A := ((s_up I f_a_frameCounts g1 (nI (m8 + 1))), (s_up (s_up (s_cpJ (s_cpJ J j_a_frameKept (g1 * 20 + 0) (g1 * 20 + 0 + 1) (m8 - 0)) j_a_frameDrawn (g1 * 20 + 0) (g1 * 20 + 0 + 1) (m8 - 0)) j_a_frameKept (g1 * 20 + 0) (s_b1 9 - 1)) j_a_frameDrawn (g1 * 20 + 0) (s_da I 9 (s_b1 9 - 1))))) (TC := [f_a_frameCounts]) (by omega) (by omega) (by omega) hnp hF (hV.N eC (by decide)) hax rfl rfl rfl (hD.eq (eC.C (by decide))) (hW.N eC (by decide)) (hTp.eq (eC.T (by decide))) eC (by decide) ((hR.NJ z_fmI (by decide) (z_fmJ (by decide) (by decide)) (z_fmJ (by decide) (by decide))).st) hS1 (by omega) (by omega) (by omega) (by omega))
  · exact z_O.ex ⟨⟨np, hD, hW, ⟨a, b, hTp, ha, hb⟩, hnp, n, t, s, m, I', J', hS, ⟨K, hK, hR⟩, hn, hm⟩, hF, hV, hax⟩ (by omega)

set_option maxRecDepth 100000 in
set_option maxHeartbeats 200000 in
theorem g_wire {X : e_XT} {d T e ax : Nat} {p : e_Sp} {I : e_I} {J : e_Jt} {c : Nat × Nat} {w : e_Rw1} {Q : e_Rt → e_SS → Prop} {r : Nat} {ch y z : Int32} (hT : T < 500) (he : e ≤ 390) (h : z_O T e ax (p, I, J, c, w)) (hr : r < 16) (hch : ch = 38 ∨ ch = 124 ∨ ch = 94 ∨ ch = 33) (hy : s_iss y (nI r) = true) (hz : s_iss z (nI r) = true) (k : ∀ p' c', z_O (T + 1) 0 ax (p', (s_stl p 9 3 (s_pw I (nI r) ch y z, J)).1, (s_stl p 9 3 (s_pw I (nI r) ch y z, J)).2, c', w) → Q (.inl (some (.int (if bI (s_ro (s_stl p 9 3 (s_pw I (nI r) ch y z, J)).1 (nI r)) = 0 then 0 else 1)))) (p', (s_stl p 9 3 (s_pw I (nI r) ch y z, J)).1, (s_stl p 9 3 (s_pw I (nI r) ch y z, J)).2, c', w)) : s_c X (d + 11) 416 [.ref ax, .int (nI r), .int (ch), .int (y), .int (z)] (p, I, J, c, w) Q := by
  obtain ⟨⟨np, hD, hW, ⟨a, b, hTp, ha, hb⟩, hnp, n, t, s, m, I', J', hS, ⟨K, hK, hR⟩, hn, hm⟩, hF, hV, hax⟩ := h
  dsimp only at hD hW hTp hS hF hV hax
  have hKn := hS.1.1.1.2.1
  have h5 := hS.2.2.2.2.2.1
  have hc : c.1 < e_xb := z_room hTp ha ⟨by omega, by omega⟩
  rw [← hax]
  refine c_L_wire (d := d + 10) hD.1.1 (c_X11_wire (d := d + 3) hD hTp (by rcases hch with rfl | rfl | rfl | rfl <;> decide) (fun _ _ _ _ p1 c1 hD1 x1 hT1 => ?_) (fun z => absurd ⟨nI_pos' (by omega), (nI_ltI (b := 16) (by omega) (by decide)).mpr hr⟩ z) (fun _ z => absurd ⟨hch, hy⟩ z) (fun _ _ _ _ z => absurd (hz.symm.trans z) (by decide)))
  obtain ⟨n', t', hn', -, hS1⟩ := a_wire hr hch hy (.inr hz) hS (by omega) (by omega)
  exact k p1 c1 (z_mk (TC := [f_a_operations, f_a_sources, f_a_others] ++ s_tST) (by omega) (by omega) (by omega) hnp hF ((hV.N (s_eqN.pw) (by decide)).N (s_eqN.stl (p := p) (nk := 9) (nr := 3) (a := (_, J))) (by decide)) hax x1.HALL x1.PARR x1.2.2.1 hD1 v_Wd.stl hT1 ((s_eqN.pw.mono (by decide)).trans (s_eqN.stl.mono (by decide))) (by decide) ((hR.N s_eqN.qwi (by decide)).st) hS1 (by omega) (by omega) (by omega) (by omega))

set_option maxRecDepth 100000 in
set_option maxHeartbeats 200000 in
theorem g_realise {X : e_XT} {d T e ax : Nat} {p : e_Sp} {I : e_I} {J : e_Jt} {c : Nat × Nat} {w : e_Rw1} {Q : e_Rt → e_SS → Prop} {b9 : Nat} {ch : Int32} (hT : T < 500) (he : e ≤ 390) (h : z_O T e ax (p, I, J, c, w)) (hX : v_X X) (hb9 : b9 < 32) (hch : ch = 53 ∨ ch = 54 ∨ ch = 52 ∨ ch = 55) (k : ¬ s_deg X I (nI b9) < 0 → ∀ p' c', z_O (T + 1) 0 ax (p', (s_stl p 9 3 (s_pch (s_cho X I (s_fig ch) (nI b9)), J)).1, (s_stl p 9 3 (s_pch (s_cho X I (s_fig ch) (nI b9)), J)).2, c', w) → Q (.inl (some (.int (s_ch1 X I (s_fig ch) (nI b9) f_bestBad 0)))) (p', (s_stl p 9 3 (s_pch (s_cho X I (s_fig ch) (nI b9)), J)).1, (s_stl p 9 3 (s_pch (s_cho X I (s_fig ch) (nI b9)), J)).2, c', w)) (kx : s_deg X I (nI b9) < 0 → z_O T (e + 1) ax (p, I, J, (c.1 + 1, c.2 + 6), w) → Q (.inl (some (.int (-76)))) (p, I, J, (c.1 + 1, c.2 + 6), w)) : s_c X (d + 11) 421 [.ref ax, .int (nI b9), .int (ch)] (p, I, J, c, w) Q := by
  obtain ⟨⟨np, hD, hW, ⟨a, b, hTp, ha, hb⟩, hnp, n, t, s, m, I', J', hS, ⟨K, hK, hR⟩, hn, hm⟩, hF, hV, hax⟩ := h
  dsimp only at hD hW hTp hS hF hV hax
  have hKn := hS.1.1.1.2.1
  have h5 := hS.2.2.2.2.2.1
  have hc : c.1 < e_xb := z_room hTp ha ⟨by omega, by omega⟩
  rw [← hax]
  have hfg := (v_fig hX ch).2 hch
  have hl9 : ∀ y, (X (s_fig y)).1 ≤ 100 := fun y => by
    rcases z_fig y with h | h | h | h | h
    · rw [h, (hX.1 1 (by decide) (by decide)).1]; decide
    · rw [h, (hX.1 2 (by decide) (by decide)).1]; decide
    · rw [h, (hX.1 3 (by decide) (by decide)).1]; decide
    · rw [h, (hX.1 4 (by decide) (by decide)).1]; decide
    · rw [h, hX.2.1]; decide
  refine c_L_realise (d := d + 10) hD.1.1 (c_X11_realise (d := d + 2) hD hTp hc hX.2.2.1 hl9 (fun _ _ hdg p1 c1 hD1 x1 hT1 => ?_) (fun z => absurd (z_isk (d := 0) (by decide) (by omega) (fun _ => hb9)).1 z) (fun _ z => absurd hch ((v_fig hX ch).1.mp z)) (fun _ _ hdg => ⟨_, by decide, kx hdg ?_⟩))
  · have hr0 := v_real0 (I := I) (I' := I') (b := b9) hX hS.2.2.2.2.1 (by omega)
    have hst : q_s7 I' (nI b9) 7 0 < 7 := by
      rcases Nat.lt_or_ge (q_s7 I' (nI b9) 7 0) 7 with h | h
      · exact h
      · exact absurd (hr0.2.1 (by have := hr0.1; omega)) hdg
    obtain ⟨⟨n', t', hn', -, hS1⟩, -⟩ := a_realise hX hS hb9 hch hst (by omega) (by omega)
    have eC : s_eqN (f_a_chord :: f_hasChord :: (s_tCH ++ s_tPK)) I (s_pch (s_cho X I (s_fig ch) (nI b9))) := (s_eqN.cho.mono (by decide)).trans (s_eqN.pch.mono (by decide))
    have eM : s_eqN (f_m_best :: f_l_size :: h_rzT) I' (q_rz (q_fi I' (nI b9) (nI (q_s7 I' (nI b9) 7 0)) ch).1 (nI b9)) := (s_eqN.qfi.mono (by decide)).trans (h_rz.2.1.1.mono (by decide))
    generalize s_pch (s_cho X I (s_fig ch) (nI b9)) = C9 at k eC hD1 hT1 hS1 ⊢
    generalize q_rz (q_fi I' (nI b9) (nI (q_s7 I' (nI b9) 7 0)) ch).1 (nI b9) = M9 at hS1 eM
    exact k hdg p1 c1 (z_mk (TC := f_a_chord :: f_hasChord :: (s_tCH ++ (s_tPK ++ s_tST))) (by omega) (by omega) (by omega) hnp hF ((hV.N (eC) (by decide)).N (s_eqN.stl (p := p) (nk := 9) (nr := 3) (a := (_, J))) (by decide)) hax x1.HALL x1.PARR x1.2.2.1 hD1 v_Wd.stl hT1 ((eC.mono (by decide)).trans (s_eqN.stl.mono (by decide))) (by decide) ((hR.N eM (by decide)).st) hS1 (by omega) (by omega) (by omega) (by omega))
  · exact z_O.ex ⟨⟨np, hD, hW, ⟨a, b, hTp, ha, hb⟩, hnp, n, t, s, m, I', J', hS, ⟨K, hK, hR⟩, hn, hm⟩, hF, hV, hax⟩ (by omega)

set_option maxRecDepth 100000 in
set_option maxHeartbeats 200000 in
theorem g_record {X : e_XT} {d T e ax : Nat} {p : e_Sp} {I : e_I} {J : e_Jt} {c : Nat × Nat} {w : e_Rw1} {Q : e_Rt → e_SS → Prop} {x : Int32} (hT : T < 500) (he : e ≤ 390) (h : z_O T e ax (p, I, J, c, w)) (hx : x = 107 ∨ x = 114 ∨ x = 45) (k : ∀ A, z_O (T + 1) 0 ax (p, A, J, c, w) → Q (.inl (some (.int (I f_recording 0)))) (p, A, J, c, w)) : s_c X (d + 11) 422 [.ref ax, .int (x)] (p, I, J, c, w) Q := by
  obtain ⟨⟨np, hD, hW, ⟨a, b, hTp, ha, hb⟩, hnp, n, t, s, m, I', J', hS, ⟨K, hK, hR⟩, hn, hm⟩, hF, hV, hax⟩ := h
  dsimp only at hD hW hTp hS hF hV hax
  have hKn := hS.1.1.1.2.1
  have h5 := hS.2.2.2.2.2.1
  have hc : c.1 < e_xb := z_room hTp ha ⟨by omega, by omega⟩
  rw [← hax]
  refine c_L_record (d := d + 10) hD.1.1 (c_X11_record (d := d + 9) hD.1.1 (h5.2.2.2.2.1 0) (fun e9 => ?_) (fun e9 => ?_) (fun z => absurd hx z))
  · have eC : s_eqN [f_recording] I (s_up I f_recording 0 45) := s_eqN.up (by decide)
    have hS1 := a_record0 hS
    exact k _ (z_mk (p' := p) (A := (s_up I f_recording 0 45, J)) (TC := [f_recording]) (by omega) (by omega) (by omega) hnp hF (hV.N eC (by decide)) hax rfl rfl rfl (hD.eq (eC.C (by decide))) (hW.N eC (by decide)) (hTp.eq (eC.T (by decide))) eC (by decide) ((hR.N z_re0 (by decide)).st) hS1 (by omega) (by omega) (by omega) (by omega))
  · have eC : s_eqN [f_recording, f_tkind, f_tsize, f_startedAt] I (s_up (s_up (s_up (s_up I f_recording 0 x) f_tkind 0 x) f_tsize 0 0) f_startedAt 0 (I f_now 0)) := (((s_eqN.up (by decide)).trans (s_eqN.up (by decide))).trans (s_eqN.up (by decide))).trans (s_eqN.up (by decide))
    have hS1 := a_recordK hS e9
    exact k _ (z_mk (p' := p) (A := (s_up (s_up (s_up (s_up I f_recording 0 x) f_tkind 0 x) f_tsize 0 0) f_startedAt 0 (I f_now 0), J)) (TC := [f_recording, f_tkind, f_tsize, f_startedAt]) (by omega) (by omega) (by omega) hnp hF (hV.N eC (by decide)) hax rfl rfl rfl (hD.eq (eC.C (by decide))) (hW.N eC (by decide)) (z_tp0 hTp eC) eC (by decide) ((hR.N z_reK (by decide)).st) hS1 (by omega) (by omega) (by omega) (by omega))

set_option maxRecDepth 100000 in
set_option maxHeartbeats 200000 in
theorem g_step {X : e_XT} {d T e ax : Nat} {p : e_Sp} {I : e_I} {J : e_Jt} {c : Nat × Nat} {w : e_Rw1} {Q : e_Rt → e_SS → Prop} (hT : T < 500) (he : e ≤ 390) (h : z_O T e ax (p, I, J, c, w))  (k : ∀ p' c' A JA v, v < 8 → A f_isTutti 0 = I f_isTutti 0 → z_O (T + 1) 0 ax (p', A, JA, c', w) → Q (.inl (some (.int (nI v)))) (p', A, JA, c', w)) : s_c X (d + 11) 138 [.ref ax] (p, I, J, c, w) Q := by
  obtain ⟨⟨np, hD, hW, ⟨a, b, hTp, ha, hb⟩, hnp, n, t, s, m, I', J', hS, ⟨K, hK, hR⟩, hn, hm⟩, hF, hV, hax⟩ := h
  dsimp only at hD hW hTp hS hF hV hax
  have hKn := hS.1.1.1.2.1
  have h5 := hS.2.2.2.2.2.1
  have hc : c.1 < e_xb := z_room hTp ha ⟨by omega, by omega⟩
  rw [← hax]
  obtain ⟨-, -, ⟨-, -, ⟨x9, hx9, ex9, -⟩, -⟩, -⟩ := id hS
  have ex9 : I f_next 0 = nI x9 := ex9
  have hnx : ∀ A : e_I, A f_next 0 = I f_next 0 → s_nxt A = nI ((x9 + 1) % 8) := fun A hA => by
    unfold s_nxt
    rw [hA, ex9]
    exact z_r8 x9 hx9
  have hv : (x9 + 1) % 8 < 8 := Nat.mod_lt _ (by decide)
  refine c_X11_step (d := d + 3) hD hTp (z_me hS) (fun _ p1 c1 hD1 x1 hT1 => ?_) (fun _ => ?_)
  · obtain ⟨⟨n', t', hn', -, hS1⟩, -⟩ := a_step1 (y := (s_kby j_a_kept I J (s_plo (-1) (I f_next 0)))) (z := (s_kby j_a_drawn I J (s_plo (-1) (I f_next 0)))) hS (by omega) (by omega)
    have eM : s_eqN (f_k_isOut :: s_tST) I (s_stl p 9 3 ((s_mt 9 (s_kby j_a_kept I J (s_plo (-1) (I f_next 0))) (s_kby j_a_drawn I J (s_plo (-1) (I f_next 0))) I).1, J)).1 := (s_eqN.mt.mono (by decide)).trans (s_eqN.stl.mono (by decide))
    have h0 : s_nxt (s_stl p 9 3 ((s_mt 9 (s_kby j_a_kept I J (s_plo (-1) (I f_next 0))) (s_kby j_a_drawn I J (s_plo (-1) (I f_next 0))) I).1, J)).1 = nI ((x9 + 1) % 8) := hnx _ (by rw [eM f_next (by decide)])
    have eU : s_eqN [f_next] (s_stl p 9 3 ((s_mt 9 (s_kby j_a_kept I J (s_plo (-1) (I f_next 0))) (s_kby j_a_drawn I J (s_plo (-1) (I f_next 0))) I).1, J)).1 (s_up (s_stl p 9 3 ((s_mt 9 (s_kby j_a_kept I J (s_plo (-1) (I f_next 0))) (s_kby j_a_drawn I J (s_plo (-1) (I f_next 0))) I).1, J)).1 f_next 0 (s_nxt (s_stl p 9 3 ((s_mt 9 (s_kby j_a_kept I J (s_plo (-1) (I f_next 0))) (s_kby j_a_drawn I J (s_plo (-1) (I f_next 0))) I).1, J)).1)) := s_eqN.up (by decide)
    have hq := k p1 c1 (s_up (s_stl p 9 3 ((s_mt 9 (s_kby j_a_kept I J (s_plo (-1) (I f_next 0))) (s_kby j_a_drawn I J (s_plo (-1) (I f_next 0))) I).1, J)).1 f_next 0 (s_nxt (s_stl p 9 3 ((s_mt 9 (s_kby j_a_kept I J (s_plo (-1) (I f_next 0))) (s_kby j_a_drawn I J (s_plo (-1) (I f_next 0))) I).1, J)).1)) (s_stl p 9 3 ((s_mt 9 (s_kby j_a_kept I J (s_plo (-1) (I f_next 0))) (s_kby j_a_drawn I J (s_plo (-1) (I f_next 0))) I).1, J)).2 _ hv (by rw [s_up_F (by decide), eM f_isTutti (by decide)]) (z_mk (A := ((s_up (s_stl p 9 3 ((s_mt 9 (s_kby j_a_kept I J (s_plo (-1) (I f_next 0))) (s_kby j_a_drawn I J (s_plo (-1) (I f_next 0))) I).1, J)).1 f_next 0 (s_nxt (s_stl p 9 3 ((s_mt 9 (s_kby j_a_kept I J (s_plo (-1) (I f_next 0))) (s_kby j_a_drawn I J (s_plo (-1) (I f_next 0))) I).1, J)).1)), (s_stl p 9 3 ((s_mt 9 (s_kby j_a_kept I J (s_plo (-1) (I f_next 0))) (s_kby j_a_drawn I J (s_plo (-1) (I f_next 0))) I).1, J)).2)) (TC := f_next :: f_k_isOut :: s_tST) (by omega) (by omega) (by omega) hnp hF ((hV.N eM (by decide)).N eU (by decide)) hax x1.HALL x1.PARR x1.2.2.1 (hD1.eq (eU.C (by decide))) (v_Wd.stl.N eU (by decide)) (hT1.eq (eU.T (by decide))) ((eM.mono (by decide)).trans (eU.mono (by decide))) (by decide) (((hR.N z_qmt (by decide)).N (s_eqN.up (T := [f_m_next]) (by decide)) (by decide)).st) hS1 (by omega) (by omega) (by omega) (by omega))
    rw [← h0] at hq
    exact hq
  · have eU : s_eqN [f_next] I (s_up I f_next 0 (s_nxt I)) := s_eqN.up (by decide)
    have h0 : s_nxt I = nI ((x9 + 1) % 8) := hnx I rfl
    have hS1 := a_next (g := (x9 + 1) % 8) hv hS
    rw [← h0] at hS1
    have hq := k p c (s_up I f_next 0 (s_nxt I)) J _ hv (by rw [s_up_F (by decide)]) (z_mk (p' := p) (A := (s_up I f_next 0 (s_nxt I), J)) (TC := [f_next]) (by omega) (by omega) (by omega) hnp hF (hV.N eU (by decide)) hax rfl rfl rfl (hD.eq (eU.C (by decide))) (hW.N eU (by decide)) (hTp.eq (eU.T (by decide))) eU (by decide) ((hR.N (s_eqN.up (T := [f_m_next]) (by decide)) (by decide)).st) hS1 (by omega) (by omega) (by omega) (by omega))
    rw [← h0] at hq
    exact hq

set_option maxRecDepth 100000 in
set_option maxHeartbeats 200000 in
theorem g_tuneTo {X : e_XT} {d T e ax : Nat} {p : e_Sp} {I : e_I} {J : e_Jt} {c : Nat × Nat} {w : e_Rw1} {Q : e_Rt → e_SS → Prop} {x y z u : Int32} (hT : T < 500) (he : e ≤ 390) (h : z_O T e ax (p, I, J, c, w)) (j : Nat) (hj : s_pat p I 3 x y = some j) (i : Nat) (hi : s_pat p I 3 z u = some i) (k : z_O (T + 1) 0 ax (p, (s_up I f_p_tuning j (s_max (-50) (s_min 50 (I f_p_tuning j + s_pit p I 3 z u - s_pit p I 3 x y)))), J, c, w) → Q (.inl (some (.int (s_pit p (s_up I f_p_tuning j (s_max (-50) (s_min 50 (I f_p_tuning j + s_pit p I 3 z u - s_pit p I 3 x y)))) 3 x y - s_pit p (s_up I f_p_tuning j (s_max (-50) (s_min 50 (I f_p_tuning j + s_pit p I 3 z u - s_pit p I 3 x y)))) 3 z u)))) (p, (s_up I f_p_tuning j (s_max (-50) (s_min 50 (I f_p_tuning j + s_pit p I 3 z u - s_pit p I 3 x y)))), J, c, w)) : s_c X (d + 11) 429 [.ref ax, .int (x), .int (y), .int (z), .int (u)] (p, I, J, c, w) Q := by
  obtain ⟨⟨np, hD, hW, ⟨a, b, hTp, ha, hb⟩, hnp, n, t, s, m, I', J', hS, ⟨K, hK, hR⟩, hn, hm⟩, hF, hV, hax⟩ := h
  dsimp only at hD hW hTp hS hF hV hax
  have hKn := hS.1.1.1.2.1
  have h5 := hS.2.2.2.2.2.1
  have hc : c.1 < e_xb := z_room hTp ha ⟨by omega, by omega⟩
  rw [← hax]
  refine c_L_tuneTo (d := d + 10) hD.1.1 (c_X11_tuneTo (d := d + 5) hD (fun jj hjj ii hii => ?_) (fun z => absurd (hj.symm.trans z) (by simp)) (fun _ _ z => absurd (hi.symm.trans z) (by simp)))
  obtain rfl := Option.some.inj (hj.symm.trans hjj)
  have hSh := hS.1.1.1.1
  obtain ⟨q1, q2⟩ := (v_patS hSh).mp hj
  obtain ⟨q3, q4⟩ := (v_patS hSh).mp hi
  obtain ⟨hS1, -⟩ := a_tuneTo hS q1 q3
  rw [q2, q4] at hS1
  have eC : s_eqN [f_p_tuning] I (s_up I f_p_tuning j (s_max (-50) (s_min 50 (I f_p_tuning j + s_pit p I 3 z u - s_pit p I 3 x y)))) := s_eqN.up (by decide)
  exact k (z_mk (p' := p) (A := ((s_up I f_p_tuning j (s_max (-50) (s_min 50 (I f_p_tuning j + s_pit p I 3 z u - s_pit p I 3 x y)))), J)) (TC := [f_p_tuning]) (by omega) (by omega) (by omega) hnp hF (hV.N eC (by decide)) hax rfl rfl rfl (hD.eq (eC.C (by decide))) (hW.N eC (by decide)) (hTp.eq (eC.T (by decide))) eC (by decide) (((hR.N (s_eqN.qbws (nk := 9) (np := np)) (by decide)).tun z_cl).st) hS1 (by omega) (by omega) (by omega) (by omega))

set_option maxRecDepth 100000 in
set_option maxHeartbeats 200000 in
theorem g_playBack {X : e_XT} {d T e ax : Nat} {p : e_Sp} {I : e_I} {J : e_Jt} {c : Nat × Nat} {w : e_Rw1} {Q : e_Rt → e_SS → Prop} (hT : T < 500) (he : e ≤ 390) (h : z_O T e ax (p, I, J, c, w))  (k : ∀ p' c' A JA v, v < 2147483648 → z_O (T + 1) 0 ax (p', A, JA, c', w) → Q (.inl (some (.int (nI v)))) (p', A, JA, c', w)) (kx : I f_tsize 0 = 0 → z_O T (e + 1) ax (p, I, J, (c.1 + 1, c.2 + 6), w) → Q (.inl (some (.int (-75)))) (p, I, J, (c.1 + 1, c.2 + 6), w)) : s_c X (d + 11) 423 [.ref ax] (p, I, J, c, w) Q := by
  obtain ⟨⟨np, hD, hW, ⟨a, b, hTp, ha, hb⟩, hnp, n, t, s, m, I', J', hS, ⟨K, hK, hR⟩, hn, hm⟩, hF, hV, hax⟩ := h
  dsimp only at hD hW hTp hS hF hV hax
  have hKn := hS.1.1.1.2.1
  have h5 := hS.2.2.2.2.2.1
  have hc : c.1 < e_xb := z_room hTp ha ⟨by omega, by omega⟩
  rw [← hax]
  have hTa := hS.1.1.2.2.1.2.1
  have hts : I f_tsize 0 = nI n := hTa.1.1
  refine c_L_playBack (d := d + 10) hD.1.1 (c_X11_playBack (d := d + 2) hD hTp (fun hnz z9 hz9 ez9 p1 c1 hD1 x1 hT1 => ?_) (fun hz => ⟨_, by decide, kx hz ?_⟩))
  · obtain rfl : z9 = n := (nI_eq (by omega) (by omega)).mp (ez9.symm.trans hts)
    have hn0 : 0 < z9 := Nat.pos_of_ne_zero (fun z => hnz (by rw [ez9, z]; rfl))
    obtain ⟨⟨m', hm', hS1⟩, hans⟩ := a_playBack hS hn0 (by omega) (by omega) (by omega)
    have hz := z_pb (nk := 9) (nr := 3) (np := np) (n := z9) (t := t) (I' := I') (J' := J') hTa.2.2.1
    have htn := (hTa.2.1 (z9 - 1) (by omega)).2.2.1
    have ht0 := (hTa.2.1 0 (by omega)).1
    have hpI := h_pbI.one (nk := 9) (nr := 3) (h_pbI.all (nk := 9) (nr := 3) (t := t) (h_pbI.zero (nk := 9) (nr := 3) (np := np) (I := I') (J := J')) (h_Kp hS.1.1.1.1 hTa).2 z9 (Nat.le_refl _))
    have hRg := (hR.1.N hpI.2.1 (by decide)).N (s_eqN.up (T := [f_m_thrown]) (F := f_m_thrown) (i := 0) (x := 0) (by decide)) (by decide)
    obtain ⟨dd, hdd, edd⟩ := hz.ans hR.2
    have hd9 : dd < 2147483648 := by
      have : np * (z9 + 2 * (t (z9 - 1) - t 0) + 2) ≤ 126 * 600000 := Nat.mul_le_mul (by omega) (by omega)
      omega
    have hans2 : (s_pb p 9 3 z9 (decide (I f_tkind 0 = 107)) I J).1 f_allBegins 0 - I f_allBegins 0 = nI dd := by
      rw [hans, edd, lN_i]
    have hq := k p1 c1 (s_pb p 9 3 z9 (decide (I f_tkind 0 = 107)) I J).1 (s_pb p 9 3 z9 (decide (I f_tkind 0 = 107)) I J).2 dd hd9 (z_mk (A := (s_pb p 9 3 z9 (decide (I f_tkind 0 = 107)) I J)) (B := (_, _)) (TC := h_pbCT) (K := K + (z9 + 2 * (t (z9 - 1) - t 0) + 2)) (by omega) (by omega) (by omega) hnp hF (hV.N (h_pbC.pb (I := I) (J := J)).1 (by decide)) hax x1.HALL x1.PARR x1.2.2.1 hD1 v_Wd.stl hT1 (h_pbC.pb (I := I) (J := J)).1 (by decide) ⟨hRg, hz.E hR.2⟩ hS1 (by omega) (by omega) (by omega) (by omega))
    rw [← hans2] at hq
    exact hq
  · exact z_O.ex ⟨⟨np, hD, hW, ⟨a, b, hTp, ha, hb⟩, hnp, n, t, s, m, I', J', hS, ⟨K, hK, hR⟩, hn, hm⟩, hF, hV, hax⟩ (by omega)

