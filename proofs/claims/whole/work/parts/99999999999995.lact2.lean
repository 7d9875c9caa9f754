/-! 99999999999995: calls on both sides: questions, pipes (printed by wip/whole/p99999999999995.py) -/
theorem h_ipN {T : List Nat} {I I1 : e_I} {nr : Nat} {x y : Int32} (e : s_eqN T I I1) (hT : v_dj [f_mr_lowest, f_mr_highest, f_mr_base] T = true) : q_ip I1 nr x y = q_ip I nr x y ∧ q_pi I1 x y = q_pi I x y := by
  unfold q_ip q_pi q_pp
  rw [e f_mr_lowest (v_dj.o hT (by decide)), e f_mr_highest (v_dj.o hT (by decide)), e f_mr_base (v_dj.o hT (by decide))]
  exact ⟨rfl, rfl⟩
theorem h_bb {v : Int32} (h : v = 0 ∨ v = 1) : bI (decide (¬ v = 0)) = v := by
  rcases h with rfl | rfl <;> decide
theorem h_SB.tun {p : e_Sp} {I : e_I} {nk nr np q : Nat} {x : Int32} (h : h_SB p I nk nr np) (hq : q < np) (hx : v_in x (-50) 50) : h_SB p (s_up I f_m_tuning q x) nk nr np := by
  obtain ⟨a, b, c, d, f⟩ := h
  have e : s_eqN [f_m_tuning] I (s_up I f_m_tuning q x) := s_eqN.up (by decide)
  refine ⟨a.w (fun _ _ _ => rfl) (fun F hF => e F (v_dj.o (L := q_ms2) (by decide) (List.contains_iff_mem.mpr hF))) (by rw [e _ (by decide)]) (by rw [e _ (by decide)]), b.of (fun F i _ hi => ?_), c.up (fun _ => hx) (fun z => absurd z (by decide)) (fun z => absurd z (by decide)) (fun z => absurd z (by decide)) (fun z => absurd z (by decide)) (fun z => absurd z (by decide)), d.N e (by decide), fun k hk => ?_⟩
  · exact if_neg (fun z => by have := z.2; omega)
  · rw [e f_mk_kind (by decide)]
    exact f k hk
theorem h_SB.fau {p : e_Sp} {I : e_I} {nk nr np q : Nat} {x : Int32} (h : h_SB p I nk nr np) (hq : q < np) : h_SB p (s_up I f_m_fault q x) nk nr np := by
  obtain ⟨a, b, c, d, f⟩ := h
  have e : s_eqN [f_m_fault] I (s_up I f_m_fault q x) := s_eqN.up (by decide)
  refine ⟨a.w (fun _ _ _ => rfl) (fun F hF => e F (v_dj.o (L := q_ms2) (by decide) (List.contains_iff_mem.mpr hF))) (by rw [e _ (by decide)]) (by rw [e _ (by decide)]), b.of (fun F i _ hi => ?_), c.N e (by decide), d.N e (by decide), fun k hk => ?_⟩
  · exact if_neg (fun z => by have := z.2; omega)
  · rw [e f_mk_kind (by decide)]
    exact f k hk

set_option maxRecDepth 100000 in
set_option maxHeartbeats 400000 in
theorem lp_isDrawn {X : e_XT} {d T ax am ao ad : Nat} {p : e_Sp} {I : e_I} {J : e_Jt} {c : Nat × Nat} {w : e_Rw1} {Q : e_Rt → e_SS → Prop} {x : Int32} (hX : (X 8).1 = 0) (hT : T < 512) (h : h_L T ax am ao ad (p, I, J, c, w)) (k : ∀ k' S1, l_BB X T ax am ao ad (d + 12) 251 [.ref am, .int x] k' S1 → Q (.inl (some (.int k'))) S1) : s_c X (d + 12) 330 [.ref ax, .int x, .ref ao] (p, I, J, c, w) Q := by
  obtain ⟨⟨nk, nr, np, n, t, s, m, od, ob, hQ⟩, ex, em, ⟨f, hf⟩, hd9, hne⟩ := h
  dsimp only at hQ ex em hf hd9
  have hN := hQ.nums (by omega)
  obtain ⟨a1, b1, hTp, ha1, hb1⟩ := hQ.2.2.2.2.2.1.tp (by omega)
  have hD := hQ.2.1
  have hC := hD.1
  have hp := hC.1
  have hKn := hQ.1.1.1.1.2.1
  have h5 := hQ.1.2.2.2.2.2.1
  rw [← ex]
  refine c_L_isDrawn (d := d + 11) hp (c_X11_isDrawn (d := d + 6) hC (fun j hj => (h5.1 f_k_isOut rfl) j) (fun j hj hx => l_Wb.ok hf (k 0 _ (fun Q2 k2 => ?_))) (fun hx => l_Wb.ex (n := 1) (by decide) (k 1 _ (fun Q2 k2 => ?_))))
  · subst hx
    rw [← em]
    obtain ⟨a2, b2, hG, ha2, hc2, hb2⟩ := hQ.G (by omega)
    refine ⟨l_fG hG rfl, ?_⟩
    have hM := hG.1
    refine c_X16_isDrawn (d := d + 9) hM (h5.2.1 f_mk_isDrawn rfl) (fun kk hkk hx2 => k2 _ _ ?_ l_th (fun _ => ⟨_, if_pos rfl, ?_⟩)) (fun z => absurd (h_kj hj (by omega)) z)
    · exact h_qryL hQ ex em ⟨_, if_pos rfl⟩ (l_wd hne hd9) hne
    · obtain rfl := h_kE hkk hj (by omega) hx2
      exact l_aB (hKn.2 kk hkk).1.2.2.1
  · obtain ⟨a2, b2, hG, ha2⟩ := hQ.Gx (by omega)
    have hM := hG.1
    refine ⟨l_fG hG em, ?_⟩
    rw [← em]
    refine c_X16_isDrawn (d := d + 9) hM (h5.2.1 f_mk_isDrawn rfl) (fun kk hkk hx2 => absurd (h_kj hkk (by omega)) (hx2 ▸ h_kx hx)) (fun z => k2 _ _ (h_refL hQ ex em ⟨f, hf⟩ hd9 hne) l_th (fun z => absurd z (by decide)))
set_option maxRecDepth 100000 in
set_option maxHeartbeats 400000 in
theorem lp_isOn {X : e_XT} {d T ax am ao ad : Nat} {p : e_Sp} {I : e_I} {J : e_Jt} {c : Nat × Nat} {w : e_Rw1} {Q : e_Rt → e_SS → Prop} {x : Int32} (hX : (X 8).1 = 0) (hT : T < 512) (h : h_L T ax am ao ad (p, I, J, c, w)) (k : ∀ k' S1, l_BB X T ax am ao ad (d + 12) 252 [.ref am, .int x] k' S1 → Q (.inl (some (.int k'))) S1) : s_c X (d + 12) 331 [.ref ax, .int x, .ref ao] (p, I, J, c, w) Q := by
  obtain ⟨⟨nk, nr, np, n, t, s, m, od, ob, hQ⟩, ex, em, ⟨f, hf⟩, hd9, hne⟩ := h
  dsimp only at hQ ex em hf hd9
  have hN := hQ.nums (by omega)
  obtain ⟨a1, b1, hTp, ha1, hb1⟩ := hQ.2.2.2.2.2.1.tp (by omega)
  have hD := hQ.2.1
  have hC := hD.1
  have hp := hC.1
  have hKn := hQ.1.1.1.1.2.1
  have h5 := hQ.1.2.2.2.2.2.1
  rw [← ex]
  refine c_L_isOn (d := d + 11) hp (c_X11_isOn (d := d + 6) hC (fun j hj hx hs => l_Wb.ok hf (k 0 _ (fun Q2 k2 => ?_))) (fun hx => l_Wb.ex (n := 1) (by decide) (k 1 _ (fun Q2 k2 => ?_))) (fun j hj hx hs => l_Wb.ex (n := 2) (by decide) (k 2 _ (fun Q2 k2 => ?_))))
  · subst hx
    rw [← em]
    obtain ⟨a2, b2, hG, ha2, hc2, hb2⟩ := hQ.G (by omega)
    refine ⟨l_fG hG rfl, ?_⟩
    have hM := hG.1
    refine c_X16_isOn (d := d + 7) hG hX (fun kk hkk hx2 hs2 => k2 _ _ ?_ l_th (fun _ => ⟨_, if_pos rfl, ?_⟩)) (fun z => absurd (h_kj hj (by omega)) z) (fun kk hkk hx2 z => absurd ((hKn.2 kk hkk).1.1.symm.trans (by obtain rfl := h_kE hkk hj (by omega) hx2; exact hs)) z)
    · exact (by rw [v_relid hQ.1.1.2.2.1]; exact h_qryL hQ ex em ⟨_, if_pos rfl⟩ (l_wd hne hd9) hne)
    · obtain rfl := h_kE hkk hj (by omega) hx2
      rw [v_relid hQ.1.1.2.2.1]
      exact l_aB (congrArg bI (v_so hKn hQ.1.1.1.2.1.1 hQ.1.1.1.1.2.2.2.2.2.2.1 hQ.1.1.1.1.2.2.2.2.2.2.2 hkk hs))
  · obtain ⟨a2, b2, hG, ha2⟩ := hQ.Gx (by omega)
    have hM := hG.1
    refine ⟨l_fG hG em, ?_⟩
    rw [← em]
    refine c_X16_isOn (d := d + 7) hG hX (fun kk hkk hx2 _ => absurd (h_kj hkk (by omega)) (hx2 ▸ h_kx hx)) (fun z => k2 _ _ (h_refL hQ ex em ⟨f, hf⟩ hd9 hne) l_th (fun z => absurd z (by decide))) (fun kk hkk hx2 _ => absurd (h_kj hkk (by omega)) (hx2 ▸ h_kx hx))
  · obtain ⟨a2, b2, hG, ha2⟩ := hQ.Gx (by omega)
    have hM := hG.1
    subst hx
    refine ⟨l_fG hG em, ?_⟩
    rw [← em]
    refine c_X16_isOn (d := d + 7) hG hX (fun kk hkk hx2 z => absurd ((hKn.2 kk hkk).1.1.trans z) (by obtain rfl := h_kE hkk hj (by omega) hx2; exact hs)) (fun z => absurd (h_kj hj (by omega)) z) (fun _ _ _ _ => k2 _ _ (h_refL hQ ex em ⟨f, hf⟩ hd9 hne) l_th (fun z => absurd z (by decide)))
set_option maxRecDepth 100000 in
set_option maxHeartbeats 400000 in
theorem lp_isDown {X : e_XT} {d T ax am ao ad : Nat} {p : e_Sp} {I : e_I} {J : e_Jt} {c : Nat × Nat} {w : e_Rw1} {Q : e_Rt → e_SS → Prop} {x y : Int32} (hX : (X 8).1 = 0) (hT : T < 512) (h : h_L T ax am ao ad (p, I, J, c, w)) (k : ∀ k' S1, l_BB X T ax am ao ad (d + 12) 259 [.ref am, .int x, .int y] k' S1 → Q (.inl (some (.int k'))) S1) : s_c X (d + 12) 336 [.ref ax, .int x, .int y, .ref ao] (p, I, J, c, w) Q := by
  obtain ⟨⟨nk, nr, np, n, t, s, m, od, ob, hQ⟩, ex, em, ⟨f, hf⟩, hd9, hne⟩ := h
  dsimp only at hQ ex em hf hd9
  have hN := hQ.nums (by omega)
  obtain ⟨a1, b1, hTp, ha1, hb1⟩ := hQ.2.2.2.2.2.1.tp (by omega)
  have hD := hQ.2.1
  have hC := hD.1
  have hp := hC.1
  have hKn := hQ.1.1.1.1.2.1
  have h5 := hQ.1.2.2.2.2.2.1
  rw [← ex]
  refine c_L_isDown (d := d + 11) hp (c_X11_isDown (d := d + 9) hp (fun hk => l_Wb.ok hf (k 0 _ (fun Q2 k2 => ?_))) (fun hk => l_Wb.ex (n := 1) (by decide) (k 1 _ (fun Q2 k2 => ?_))))
  · skip
    rw [← em]
    obtain ⟨a2, b2, hG, ha2, hc2, hb2⟩ := hQ.G (by omega)
    refine ⟨l_fG hG rfl, ?_⟩
    have hM := hG.1
    refine c_X16_isDown (d := d + 9) hp (h5.2.1 f_m_isDown rfl) (fun _ => k2 _ _ ?_ l_th (fun _ => ⟨_, if_pos rfl, ?_⟩)) (fun z => absurd hk z)
    · exact h_qryL hQ ex em ⟨_, if_pos rfl⟩ (l_wd hne hd9) hne
    · rw [v_dn hQ.1.1.1.1.2.2.1 hk]
      exact l_aB (h_bb (h5.2.1 f_m_isDown rfl _))
  · obtain ⟨a2, b2, hG, ha2⟩ := hQ.Gx (by omega)
    have hM := hG.1
    refine ⟨l_fG hG em, ?_⟩
    rw [← em]
    refine c_X16_isDown (d := d + 9) hp (h5.2.1 f_m_isDown rfl) (fun z => absurd z hk) (fun _ => k2 _ _ (h_refL hQ ex em ⟨f, hf⟩ hd9 hne) l_th (fun z => absurd z (by decide)))
set_option maxRecDepth 100000 in
set_option maxHeartbeats 400000 in
theorem lp_isOnRelay {X : e_XT} {d T ax am ao ad : Nat} {p : e_Sp} {I : e_I} {J : e_Jt} {c : Nat × Nat} {w : e_Rw1} {Q : e_Rt → e_SS → Prop} {x : Int32} (hX : (X 8).1 = 0) (hT : T < 512) (h : h_L T ax am ao ad (p, I, J, c, w)) (k : ∀ k' S1, l_BB X T ax am ao ad (d + 12) 305 [.ref am, .int x] k' S1 → Q (.inl (some (.int k'))) S1) : s_c X (d + 12) 365 [.ref ax, .int x, .ref ao] (p, I, J, c, w) Q := by
  obtain ⟨⟨nk, nr, np, n, t, s, m, od, ob, hQ⟩, ex, em, ⟨f, hf⟩, hd9, hne⟩ := h
  dsimp only at hQ ex em hf hd9
  have hN := hQ.nums (by omega)
  obtain ⟨a1, b1, hTp, ha1, hb1⟩ := hQ.2.2.2.2.2.1.tp (by omega)
  have hD := hQ.2.1
  have hC := hD.1
  have hp := hC.1
  have hKn := hQ.1.1.1.1.2.1
  have h5 := hQ.1.2.2.2.2.2.1
  rw [← ex]
  refine c_L_isOnRelay (d := d + 11) hp (c_X11_isOnRelay (d := d + 10) hp (fun h1 => l_Wb.ok hf (k 0 _ (fun Q2 k2 => ?_))) (fun h1 => l_Wb.ex (n := 1) (by decide) (k 1 _ (fun Q2 k2 => ?_))))
  · obtain ⟨g, hg, rfl⟩ := s_nat h1.1 (show x < nI 16 from h1.2) (by omega)
    have ec : (nI g).toNatClampNeg = g := nI_clamp (by omega)
    rw [← em]
    obtain ⟨a2, b2, hG, ha2, hc2, hb2⟩ := hQ.G (by omega)
    refine ⟨l_fG hG rfl, ?_⟩
    have hM := hG.1
    refine c_X16_isOnRelay (d := d + 7) hG hX (fun _ => k2 _ _ ?_ l_th (fun _ => ⟨_, if_pos rfl, ?_⟩)) (fun z => absurd ⟨h1.1, by have := h1.2; grind⟩ z)
    · exact (by rw [v_relid hQ.1.1.2.2.1]; exact h_qryL hQ ex em ⟨_, if_pos rfl⟩ (l_wd hne hd9) hne)
    · rw [ec]
      exact l_aB (v_ro hQ.1 hg)
  · obtain ⟨a2, b2, hG, ha2⟩ := hQ.Gx (by omega)
    have hM := hG.1
    refine ⟨l_fG hG em, ?_⟩
    rw [← em]
    refine c_X16_isOnRelay (d := d + 7) hG hX (fun z => absurd (show 0 ≤ x ∧ x < 16 from ⟨z.1, by have := z.2; grind⟩) h1) (fun _ => k2 _ _ (h_refL hQ ex em ⟨f, hf⟩ hd9 hne) l_th (fun z => absurd z (by decide)))
set_option maxRecDepth 100000 in
set_option maxHeartbeats 400000 in
theorem lp_wind {X : e_XT} {d T ax am ao ad : Nat} {p : e_Sp} {I : e_I} {J : e_Jt} {c : Nat × Nat} {w : e_Rw1} {Q : e_Rt → e_SS → Prop} {x : Int32} (hX : (X 8).1 = 0) (hT : T < 512) (h : h_L T ax am ao ad (p, I, J, c, w)) (k : ∀ k' S1, l_BI X T ax am ao ad (d + 12) 273 [.ref am, .int x] k' S1 → Q (.inl (some (.int k'))) S1) : s_c X (d + 12) 344 [.ref ax, .int x, .ref ao] (p, I, J, c, w) Q := by
  obtain ⟨⟨nk, nr, np, n, t, s, m, od, ob, hQ⟩, ex, em, ⟨f, hf⟩, hd9, hne⟩ := h
  dsimp only at hQ ex em hf hd9
  have hN := hQ.nums (by omega)
  obtain ⟨a1, b1, hTp, ha1, hb1⟩ := hQ.2.2.2.2.2.1.tp (by omega)
  have hD := hQ.2.1
  have hC := hD.1
  have hp := hC.1
  have hKn := hQ.1.1.1.1.2.1
  have h5 := hQ.1.2.2.2.2.2.1
  rw [← ex]
  refine c_L_wind (d := d + 11) hp (c_X11_wind (d := d + 9) hp (fun hv => l_Wi.ok hf (k 0 _ (fun Q2 k2 => ?_))) (fun hv => l_Wi.ex (n := 1) (by decide) (k 1 _ (fun Q2 k2 => ?_))))
  · have hv2 := h_dv.mp hv
    obtain ⟨g, hg, rfl⟩ := h_rg2 hv2
    have ec : (nI g).toNatClampNeg = g := nI_clamp (by omega)
    rw [← em]
    obtain ⟨a2, b2, hG, ha2, hc2, hb2⟩ := hQ.G (by omega)
    refine ⟨l_fG hG rfl, ?_⟩
    have hM := hG.1
    refine c_X16_wind (d := d + 7) hG hX (fun _ => k2 _ _ ?_ l_th (fun _ => ⟨_, if_pos rfl, ?_⟩)) (fun z => absurd hv2 z)
    · exact h_L.of (w := w) (h_sam hQ (s_eqN.qbws.mono (by decide)) hQ.1.bws 0 0 (by omega) (by omega)) ex em ⟨_, if_pos rfl⟩ (l_wd hne hd9) hne
    · rw [ec]
      exact l_aI (v_Wd.ask hQ.1 hQ.2.2.1 hg)
  · obtain ⟨a2, b2, hG, ha2⟩ := hQ.Gx (by omega)
    have hM := hG.1
    refine ⟨l_fG hG em, ?_⟩
    rw [← em]
    refine c_X16_wind (d := d + 7) hG hX (fun z => absurd z (h_dvN hv)) (fun _ => k2 _ _ (h_refL hQ ex em ⟨f, hf⟩ hd9 hne) l_th (fun z => absurd z (by decide)))
set_option maxRecDepth 100000 in
set_option maxHeartbeats 400000 in
theorem lp_reasons {X : e_XT} {d T ax am ao ad : Nat} {p : e_Sp} {I : e_I} {J : e_Jt} {c : Nat × Nat} {w : e_Rw1} {Q : e_Rt → e_SS → Prop} {x y : Int32} (hX : (X 8).1 = 0) (hT : T < 512) (h : h_L T ax am ao ad (p, I, J, c, w)) (k : ∀ k' S1, l_BI X T ax am ao ad (d + 12) 263 [.ref am, .int x, .int y] k' S1 → Q (.inl (some (.int k'))) S1) : s_c X (d + 12) 338 [.ref ax, .int x, .int y, .ref ao] (p, I, J, c, w) Q := by
  obtain ⟨⟨nk, nr, np, n, t, s, m, od, ob, hQ⟩, ex, em, ⟨f, hf⟩, hd9, hne⟩ := h
  dsimp only at hQ ex em hf hd9
  have hN := hQ.nums (by omega)
  obtain ⟨a1, b1, hTp, ha1, hb1⟩ := hQ.2.2.2.2.2.1.tp (by omega)
  have hD := hQ.2.1
  have hC := hD.1
  have hp := hC.1
  have hKn := hQ.1.1.1.1.2.1
  have h5 := hQ.1.2.2.2.2.2.1
  have hS := hQ.1.1.1.1.1
  rw [← ex]
  refine c_L_reasons (d := d + 11) hp (c_X11_reasons (d := d + 6) hD (fun j hj => l_Wi.ok hf (k 0 _ (fun Q2 k2 => ?_))) (fun hx => l_Wi.ex (n := 1) (by decide) (k 1 _ (fun Q2 k2 => ?_))))
  · obtain ⟨hi, rfl⟩ := (v_patS hS).mp hj
    have hlt := v_pat_lt hS hi
    rw [← em]
    obtain ⟨a2, b2, hG, ha2, hc2, hb2⟩ := hQ.G (by omega)
    refine ⟨l_fG hG rfl, ?_⟩
    have hM := hG.1
    refine c_X16_reasons (d := d + 8) hM (fun _ => k2 _ _ ?_ l_th (fun _ => ⟨_, if_pos rfl, ?_⟩)) (fun z => absurd (hi.symm.trans z) (by decide))
    · exact h_qryL hQ ex em ⟨_, if_pos rfl⟩ (l_wd hne hd9) hne
    · exact l_aI (v_ar hQ.1 hlt)
  · obtain ⟨a2, b2, hG, ha2⟩ := hQ.Gx (by omega)
    have hM := hG.1
    have hi := (v_patN hS).mp hx
    refine ⟨l_fG hG em, ?_⟩
    rw [← em]
    refine c_X16_reasons (d := d + 8) hM (fun z => absurd (z.symm.trans hi) (by decide)) (fun _ => k2 _ _ (h_refL hQ ex em ⟨f, hf⟩ hd9 hne) l_th (fun z => absurd z (by decide)))
set_option maxRecDepth 100000 in
set_option maxHeartbeats 400000 in
theorem lp_reasonsAnew {X : e_XT} {d T ax am ao ad : Nat} {p : e_Sp} {I : e_I} {J : e_Jt} {c : Nat × Nat} {w : e_Rw1} {Q : e_Rt → e_SS → Prop} {x y : Int32} (hX : (X 8).1 = 0) (hT : T < 512) (h : h_L T ax am ao ad (p, I, J, c, w)) (k : ∀ k' S1, l_BI X T ax am ao ad (d + 12) 265 [.ref am, .int x, .int y] k' S1 → Q (.inl (some (.int k'))) S1) : s_c X (d + 12) 339 [.ref ax, .int x, .int y, .ref ao] (p, I, J, c, w) Q := by
  obtain ⟨⟨nk, nr, np, n, t, s, m, od, ob, hQ⟩, ex, em, ⟨f, hf⟩, hd9, hne⟩ := h
  dsimp only at hQ ex em hf hd9
  have hN := hQ.nums (by omega)
  obtain ⟨a1, b1, hTp, ha1, hb1⟩ := hQ.2.2.2.2.2.1.tp (by omega)
  have hD := hQ.2.1
  have hC := hD.1
  have hp := hC.1
  have hKn := hQ.1.1.1.1.2.1
  have h5 := hQ.1.2.2.2.2.2.1
  have hS := hQ.1.1.1.1.1
  rw [← ex]
  refine c_L_reasonsAnew (d := d + 11) hp (c_X11_reasonsAnew (d := d + 6) hD (fun j hj => l_Wi.ok hf (k 0 _ (fun Q2 k2 => ?_))) (fun hx => l_Wi.ex (n := 1) (by decide) (k 1 _ (fun Q2 k2 => ?_))))
  · obtain ⟨hi, rfl⟩ := (v_patS hS).mp hj
    have hlt := v_pat_lt hS hi
    rw [← em]
    obtain ⟨a2, b2, hG, ha2, hc2, hb2⟩ := hQ.G (by omega)
    refine ⟨l_fG hG rfl, ?_⟩
    have hM := hG.1
    refine c_X16_reasonsAnew (d := d + 6) hG hX (fun _ => k2 _ _ ?_ l_th (fun _ => ⟨_, if_pos rfl, ?_⟩)) (fun z => absurd (hi.symm.trans z) (by decide))
    · exact h_L.of (w := w) (h_sam hQ ((v_rcfix hQ.1.1.2.2.1).1.mono (by decide)) (v_Sim.cnt hQ.1 (v_rcfix hQ.1.1.2.2.1).1 (v_rcfix hQ.1.1.2.2.1).2) 0 0 (by omega) (by omega)) ex em ⟨_, if_pos rfl⟩ (l_wd hne hd9) hne
    · refine l_aI ?_
      rw [v_ral hQ.1 hi, v_ar hQ.1 hlt]
      unfold q_ro
      rw [(v_rcfix hQ.1.1.2.2.1).2 _ hlt, (v_rcfix hQ.1.1.2.2.1).1 f_m_isHeld (by decide)]
  · obtain ⟨a2, b2, hG, ha2⟩ := hQ.Gx (by omega)
    have hM := hG.1
    have hi := (v_patN hS).mp hx
    refine ⟨l_fG hG em, ?_⟩
    rw [← em]
    refine c_X16_reasonsAnew (d := d + 6) hG hX (fun z => absurd (z.symm.trans hi) (by decide)) (fun _ => k2 _ _ (h_refL hQ ex em ⟨f, hf⟩ hd9 hne) l_th (fun z => absurd z (by decide)))
set_option maxRecDepth 100000 in
set_option maxHeartbeats 400000 in
theorem lp_isOpen {X : e_XT} {d T ax am ao ad : Nat} {p : e_Sp} {I : e_I} {J : e_Jt} {c : Nat × Nat} {w : e_Rw1} {Q : e_Rt → e_SS → Prop} {x y : Int32} (hX : (X 8).1 = 0) (hT : T < 512) (h : h_L T ax am ao ad (p, I, J, c, w)) (k : ∀ k' S1, l_BB X T ax am ao ad (d + 12) 266 [.ref am, .int x, .int y] k' S1 → Q (.inl (some (.int k'))) S1) : s_c X (d + 12) 340 [.ref ax, .int x, .int y, .ref ao] (p, I, J, c, w) Q := by
  obtain ⟨⟨nk, nr, np, n, t, s, m, od, ob, hQ⟩, ex, em, ⟨f, hf⟩, hd9, hne⟩ := h
  dsimp only at hQ ex em hf hd9
  have hN := hQ.nums (by omega)
  obtain ⟨a1, b1, hTp, ha1, hb1⟩ := hQ.2.2.2.2.2.1.tp (by omega)
  have hD := hQ.2.1
  have hC := hD.1
  have hp := hC.1
  have hKn := hQ.1.1.1.1.2.1
  have h5 := hQ.1.2.2.2.2.2.1
  have hS := hQ.1.1.1.1.1
  rw [← ex]
  refine c_L_isOpen (d := d + 11) hp (c_X11_isOpen (d := d + 6) hD (h5.1 f_p_isOpened rfl) (fun j hj => l_Wb.ok hf (k 0 _ (fun Q2 k2 => ?_))) (fun hx => l_Wb.ex (n := 1) (by decide) (k 1 _ (fun Q2 k2 => ?_))))
  · obtain ⟨hi, rfl⟩ := (v_patS hS).mp hj
    have hlt := v_pat_lt hS hi
    rw [← em]
    obtain ⟨a2, b2, hG, ha2, hc2, hb2⟩ := hQ.G (by omega)
    refine ⟨l_fG hG rfl, ?_⟩
    have hM := hG.1
    refine c_X16_isOpen (d := d + 8) hM (h5.2.1 f_m_isOpen rfl) (fun _ => k2 _ _ ?_ l_th (fun _ => ⟨_, if_pos rfl, ?_⟩)) (fun z => absurd (hi.symm.trans z) (by decide))
    · exact h_qryL hQ ex em ⟨_, if_pos rfl⟩ (l_wd hne hd9) hne
    · exact l_aB (hQ.1.1.1.2.2.1.1 _ hlt).2.2.2.1.1
  · obtain ⟨a2, b2, hG, ha2⟩ := hQ.Gx (by omega)
    have hM := hG.1
    have hi := (v_patN hS).mp hx
    refine ⟨l_fG hG em, ?_⟩
    rw [← em]
    refine c_X16_isOpen (d := d + 8) hM (h5.2.1 f_m_isOpen rfl) (fun z => absurd (z.symm.trans hi) (by decide)) (fun _ => k2 _ _ (h_refL hQ ex em ⟨f, hf⟩ hd9 hne) l_th (fun z => absurd z (by decide)))
set_option maxRecDepth 100000 in
set_option maxHeartbeats 400000 in
theorem lp_speaks {X : e_XT} {d T ax am ao ad : Nat} {p : e_Sp} {I : e_I} {J : e_Jt} {c : Nat × Nat} {w : e_Rw1} {Q : e_Rt → e_SS → Prop} {x y : Int32} (hX : (X 8).1 = 0) (hT : T < 512) (h : h_L T ax am ao ad (p, I, J, c, w)) (k : ∀ k' S1, l_BB X T ax am ao ad (d + 12) 267 [.ref am, .int x, .int y] k' S1 → Q (.inl (some (.int k'))) S1) : s_c X (d + 12) 341 [.ref ax, .int x, .int y, .ref ao] (p, I, J, c, w) Q := by
  obtain ⟨⟨nk, nr, np, n, t, s, m, od, ob, hQ⟩, ex, em, ⟨f, hf⟩, hd9, hne⟩ := h
  dsimp only at hQ ex em hf hd9
  have hN := hQ.nums (by omega)
  obtain ⟨a1, b1, hTp, ha1, hb1⟩ := hQ.2.2.2.2.2.1.tp (by omega)
  have hD := hQ.2.1
  have hC := hD.1
  have hp := hC.1
  have hKn := hQ.1.1.1.1.2.1
  have h5 := hQ.1.2.2.2.2.2.1
  have hS := hQ.1.1.1.1.1
  rw [← ex]
  refine c_L_speaks (d := d + 11) hp (c_X11_speaks (d := d + 6) hD (h5.1 f_p_isSpeaking rfl) (fun j hj => l_Wb.ok hf (k 0 _ (fun Q2 k2 => ?_))) (fun hx => l_Wb.ex (n := 1) (by decide) (k 1 _ (fun Q2 k2 => ?_))))
  · obtain ⟨hi, rfl⟩ := (v_patS hS).mp hj
    have hlt := v_pat_lt hS hi
    rw [← em]
    obtain ⟨a2, b2, hG, ha2, hc2, hb2⟩ := hQ.G (by omega)
    refine ⟨l_fG hG rfl, ?_⟩
    have hM := hG.1
    refine c_X16_speaks (d := d + 8) hM (h5.2.1 f_m_speaks rfl) (fun _ => k2 _ _ ?_ l_th (fun _ => ⟨_, if_pos rfl, ?_⟩)) (fun z => absurd (hi.symm.trans z) (by decide))
    · exact h_qryL hQ ex em ⟨_, if_pos rfl⟩ (l_wd hne hd9) hne
    · exact l_aB (hQ.1.1.1.2.2.2.1 _ hlt).1.1
  · obtain ⟨a2, b2, hG, ha2⟩ := hQ.Gx (by omega)
    have hM := hG.1
    have hi := (v_patN hS).mp hx
    refine ⟨l_fG hG em, ?_⟩
    rw [← em]
    refine c_X16_speaks (d := d + 8) hM (h5.2.1 f_m_speaks rfl) (fun z => absurd (z.symm.trans hi) (by decide)) (fun _ => k2 _ _ (h_refL hQ ex em ⟨f, hf⟩ hd9 hne) l_th (fun z => absurd z (by decide)))
set_option maxRecDepth 100000 in
set_option maxHeartbeats 400000 in
theorem lp_begun {X : e_XT} {d T ax am ao ad : Nat} {p : e_Sp} {I : e_I} {J : e_Jt} {c : Nat × Nat} {w : e_Rw1} {Q : e_Rt → e_SS → Prop} {x y : Int32} (hX : (X 8).1 = 0) (hT : T < 512) (h : h_L T ax am ao ad (p, I, J, c, w)) (k : ∀ k' S1, l_BI X T ax am ao ad (d + 12) 270 [.ref am, .int x, .int y] k' S1 → Q (.inl (some (.int k'))) S1) : s_c X (d + 12) 342 [.ref ax, .int x, .int y, .ref ao] (p, I, J, c, w) Q := by
  obtain ⟨⟨nk, nr, np, n, t, s, m, od, ob, hQ⟩, ex, em, ⟨f, hf⟩, hd9, hne⟩ := h
  dsimp only at hQ ex em hf hd9
  have hN := hQ.nums (by omega)
  obtain ⟨a1, b1, hTp, ha1, hb1⟩ := hQ.2.2.2.2.2.1.tp (by omega)
  have hD := hQ.2.1
  have hC := hD.1
  have hp := hC.1
  have hKn := hQ.1.1.1.1.2.1
  have h5 := hQ.1.2.2.2.2.2.1
  have hS := hQ.1.1.1.1.1
  rw [← ex]
  refine c_L_begun (d := d + 11) hp (c_X11_begun (d := d + 6) hD (fun j hj => l_Wi.ok hf (k 0 _ (fun Q2 k2 => ?_))) (fun hx => l_Wi.ex (n := 1) (by decide) (k 1 _ (fun Q2 k2 => ?_))))
  · obtain ⟨hi, rfl⟩ := (v_patS hS).mp hj
    have hlt := v_pat_lt hS hi
    rw [← em]
    obtain ⟨a2, b2, hG, ha2, hc2, hb2⟩ := hQ.G (by omega)
    refine ⟨l_fG hG rfl, ?_⟩
    have hM := hG.1
    refine c_X16_begun (d := d + 8) hM (fun _ => k2 _ _ ?_ l_th (fun _ => ⟨_, if_pos rfl, ?_⟩)) (fun z => absurd (hi.symm.trans z) (by decide))
    · exact h_qryL hQ ex em ⟨_, if_pos rfl⟩ (l_wd hne hd9) hne
    · exact l_aI (hQ.1.1.1.2.2.2.1 _ hlt).2.1
  · obtain ⟨a2, b2, hG, ha2⟩ := hQ.Gx (by omega)
    have hM := hG.1
    have hi := (v_patN hS).mp hx
    refine ⟨l_fG hG em, ?_⟩
    rw [← em]
    refine c_X16_begun (d := d + 8) hM (fun z => absurd (z.symm.trans hi) (by decide)) (fun _ => k2 _ _ (h_refL hQ ex em ⟨f, hf⟩ hd9 hne) l_th (fun z => absurd z (by decide)))
set_option maxRecDepth 100000 in
set_option maxHeartbeats 400000 in
theorem lp_pitch {X : e_XT} {d T ax am ao ad : Nat} {p : e_Sp} {I : e_I} {J : e_Jt} {c : Nat × Nat} {w : e_Rw1} {Q : e_Rt → e_SS → Prop} {x y : Int32} (hX : (X 8).1 = 0) (hT : T < 512) (h : h_L T ax am ao ad (p, I, J, c, w)) (k : ∀ k' S1, l_BI X T ax am ao ad (d + 12) 281 [.ref am, .int x, .int y] k' S1 → Q (.inl (some (.int k'))) S1) : s_c X (d + 12) 350 [.ref ax, .int x, .int y, .ref ao] (p, I, J, c, w) Q := by
  obtain ⟨⟨nk, nr, np, n, t, s, m, od, ob, hQ⟩, ex, em, ⟨f, hf⟩, hd9, hne⟩ := h
  dsimp only at hQ ex em hf hd9
  have hN := hQ.nums (by omega)
  obtain ⟨a1, b1, hTp, ha1, hb1⟩ := hQ.2.2.2.2.2.1.tp (by omega)
  have hD := hQ.2.1
  have hC := hD.1
  have hp := hC.1
  have hKn := hQ.1.1.1.1.2.1
  have h5 := hQ.1.2.2.2.2.2.1
  have hS := hQ.1.1.1.1.1
  rw [← ex]
  refine c_L_pitch (d := d + 11) hp (c_X11_pitch (d := d + 6) hD (fun j hj => l_Wi.ok hf (k 0 _ (fun Q2 k2 => ?_))) (fun hx => l_Wi.ex (n := 1) (by decide) (k 1 _ (fun Q2 k2 => ?_))))
  · obtain ⟨hi, rfl⟩ := (v_patS hS).mp hj
    have hlt := v_pat_lt hS hi
    rw [← em]
    obtain ⟨a2, b2, hG, ha2, hc2, hb2⟩ := hQ.G (by omega)
    refine ⟨l_fG hG rfl, ?_⟩
    have hM := hG.1
    refine c_X16_pitch (d := d + 7) hG hX (fun _ => k2 _ _ ?_ l_th (fun _ => ⟨_, if_pos rfl, ?_⟩)) (fun z => absurd (hi.symm.trans z) (by decide))
    · exact h_L.of (w := w) (h_sam hQ (s_eqN.qbws.mono (by decide)) hQ.1.bws 0 0 (by omega) (by omega)) ex em ⟨_, if_pos rfl⟩ (l_wd hne hd9) hne
    · rw [v_bwsid hQ.1.1.2.2.1 (by omega)]
      exact l_aI (v_pit hQ.1 hi)
  · obtain ⟨a2, b2, hG, ha2⟩ := hQ.Gx (by omega)
    have hM := hG.1
    have hi := (v_patN hS).mp hx
    refine ⟨l_fG hG em, ?_⟩
    rw [← em]
    refine c_X16_pitch (d := d + 7) hG hX (fun z => absurd (z.symm.trans hi) (by decide)) (fun _ => k2 _ _ (h_refL hQ ex em ⟨f, hf⟩ hd9 hne) l_th (fun z => absurd z (by decide)))
set_option maxRecDepth 100000 in
set_option maxHeartbeats 400000 in
theorem lp_tune {X : e_XT} {d T ax am ao ad : Nat} {p : e_Sp} {I : e_I} {J : e_Jt} {c : Nat × Nat} {w : e_Rw1} {Q : e_Rt → e_SS → Prop} {x y z : Int32} (hX : (X 8).1 = 0) (hT : T < 512) (h : h_L T ax am ao ad (p, I, J, c, w)) (k : ∀ k' S1, l_BI X T ax am ao ad (d + 12) 277 [.ref am, .int x, .int y, .int z] k' S1 → Q (.inl (some (.int k'))) S1) : s_c X (d + 12) 347 [.ref ax, .int x, .int y, .int z, .ref ao] (p, I, J, c, w) Q := by
  obtain ⟨⟨nk, nr, np, n, t, s, m, od, ob, hQ⟩, ex, em, ⟨f, hf⟩, hd9, hne⟩ := h
  dsimp only at hQ ex em hf hd9
  have hN := hQ.nums (by omega)
  obtain ⟨a1, b1, hTp, ha1, hb1⟩ := hQ.2.2.2.2.2.1.tp (by omega)
  have hD := hQ.2.1
  have hC := hD.1
  have hp := hC.1
  have hKn := hQ.1.1.1.1.2.1
  have h5 := hQ.1.2.2.2.2.2.1
  have hS := hQ.1.1.1.1.1
  rw [← ex]
  refine c_L_tune (d := d + 11) hp (c_X11_tune (d := d + 6) hD (fun j hj hz => l_Wi.ok hf (k 0 _ (fun Q2 k2 => ?_))) (fun hx => l_Wi.ex (n := 1) (by decide) (k 1 _ (fun Q2 k2 => ?_))) (fun j hj hz => l_Wi.ex (n := 2) (by decide) (k 2 _ (fun Q2 k2 => ?_))))
  · obtain ⟨hi, rfl⟩ := (v_patS hS).mp hj
    have hlt := v_pat_lt hS hi
    have hM := h_qt (A := s_up I f_p_tuning (q_pi I x y) z) (AJ := J) (TC := [f_p_tuning]) hQ (s_eqN.up (by decide)) (by decide) (fun _ _ => rfl)
    have x1 : s_xt p p := s_xt.rfl'
    have em1 := em
    have ex1 := ex
    obtain ⟨a2, b2, hG, ha2, hc2, hb2⟩ := hM.G (by omega)
    have h5' := hM.1.2.2.2.2.2.1
    have hK' := hM.1.1.1.1.2.1
    have hSM := hM.1.p x1.2.2.1.symm x1.hN.PARR.symm
    have hP := h_ipN (nr := nr) (x := x) (y := y) (show s_eqN [f_p_tuning] I (s_up I f_p_tuning (q_pi I x y) z) from s_eqN.up (by decide)) (by decide)
    have hi2 := hP.1.trans hi
    have hlt2 : q_pi (s_up I f_p_tuning (q_pi I x y) z) x y < np := by rw [hP.2]; exact hlt
    refine ⟨l_fG hG em1, ?_⟩
    rw [← em1]
    refine c_X16_tune (d := d + 2) hG hX (fun _ _ p2 c2 n2 x2 hL2 hn2 => k2 _ _ ?_ l_th (fun _ => ⟨_, if_pos rfl, ?_⟩)) (fun z => absurd (hi2.symm.trans z) (by decide)) (fun _ z => absurd hz z)
    · skip
      refine h_fin (p := p) (TB := [f_m_tuning]) hT hM x1 x2 (s_eqN.up (by decide)) (by decide) (fun _ _ => rfl) (hM.2.2.2.2.1.tun hlt2 (h_in50 hz)) ?_ hL2 hn2 hb2 ex1 em1 ⟨_, if_pos rfl⟩ (l_wd hne hd9) hne
      rw [hP.2]
      exact ⟨n, t, by omega, fun _ => rfl, a_tune hSM⟩
    · rw [hP.2]
      exact l_aI (hQ.1.2.1.1 _ hlt)
  · obtain ⟨a2, b2, hG, ha2⟩ := hQ.Gx (by omega)
    have hM := hG.1
    have hi := (v_patN hS).mp hx
    refine ⟨l_fG hG em, ?_⟩
    rw [← em]
    refine c_X16_tune (d := d + 2) hG hX (fun z _ _ _ _ _ _ _ => absurd (z.symm.trans hi) (by decide)) (fun _ => k2 _ _ (h_refL hQ ex em ⟨f, hf⟩ hd9 hne) l_th (fun z => absurd z (by decide))) (fun z _ => absurd (z.symm.trans hi) (by decide))
  · obtain ⟨a2, b2, hG, ha2⟩ := hQ.Gx (by omega)
    have hM := hG.1
    obtain ⟨hi, rfl⟩ := (v_patS hS).mp hj
    have hlt := v_pat_lt hS hi
    refine ⟨l_fG hG em, ?_⟩
    rw [← em]
    refine c_X16_tune (d := d + 2) hG hX (fun _ z _ _ _ _ _ _ => absurd z hz) (fun z => absurd (hi.symm.trans z) (by decide)) (fun _ _ => k2 _ _ (h_refL hQ ex em ⟨f, hf⟩ hd9 hne) l_th (fun z => absurd z (by decide)))
