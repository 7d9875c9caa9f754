/-! 99999999999996: calls on both sides: pipes, relays, reversibles (printed by wip/whole/p99999999999996.py) -/
theorem h_Me {nk : Nat} {I I' : e_I} {J J' : e_Jt} (h : v_Z2 nk I I') (h6 : v_Z6 I I' J J') : s_Me I := by
  obtain ⟨⟨g, hg, g1, -⟩, ⟨v, hv, l1, -⟩, -⟩ := h
  refine ⟨⟨g, hg, g1⟩, ⟨v, hv, l1⟩, fun g hg => ?_⟩
  obtain ⟨m, h1, h2, -⟩ := h6.2.2 g hg
  exact ⟨m, h1, h2⟩
theorem h_lv {nk : Nat} {I I' : e_I} (h : v_Z2 nk I I') : q_lv I' := by
  obtain ⟨-, ⟨v, hv, -, l2⟩, -⟩ := h
  unfold q_lv
  rw [l2, nI_clamp (by omega)]
  exact s_ix.nI hv (by omega)
theorem h_clo {nk : Nat} {I I' : e_I} (h : v_Z2 nk I I') : s_clo I = q_ot I' ∧ (s_clo I = false → s_clm I = decide (I' f_m_claimed (q_l I') = I' f_m_guest 0)) := by
  obtain ⟨⟨g, hg, g1, g2⟩, ⟨v, hv, l1, l2⟩, -, ho, -⟩ := h
  unfold s_clo s_clm q_ot q_l
  rw [l1, l2, g1, g2, nI_clamp (by omega), (ho v hv).1]
  rcases (ho v hv).2 with z | ⟨g', hg', z⟩
  · rw [z, show decide ((0 : Int32) ≤ -1) = false by decide, show decide ((-1 : Int32) ≠ -1) = false by decide]
    refine ⟨rfl, fun _ => (decide_eq_false (fun w => ?_)).symm⟩
    have := nI_pos' (n := g) (by omega)
    rw [← w] at this
    exact absurd this (by decide)
  · have h0 : decide (0 ≤ nI g') = true := decide_eq_true (nI_pos' (by omega))
    have h1 : decide (nI g' ≠ -1) = true := decide_eq_true (fun w => by
      have := nI_pos' (n := g') (by omega)
      rw [w] at this
      exact absurd this (by decide))
    rw [z, h0, h1]
    by_cases c : nI g' = nI g
    · rw [c]; simp
    · rw [decide_eq_false c, decide_eq_true c]; simp
theorem h_otN {T : List Nat} {I I1 : e_I} (e : s_eqN T I I1) (hT : v_dj [f_m_claimed, f_m_level, f_m_guest] T = true) : q_ot I1 = q_ot I := by
  unfold q_ot q_l
  rw [e f_m_claimed (v_dj.o hT (by decide)), e f_m_level (v_dj.o hT (by decide)), e f_m_guest (v_dj.o hT (by decide))]
theorem h_cl50 {x : Int32} : v_in (q_cl x) (-50) 50 := by
  unfold q_cl
  split
  · exact ⟨by decide, by decide⟩
  · rename_i h1
    split
    · exact ⟨by decide, by decide⟩
    · rename_i h2
      exact h_in50 ⟨Int32.not_lt.mp h2, Int32.not_lt.mp h1⟩

set_option maxRecDepth 100000 in
set_option maxHeartbeats 400000 in
theorem lp_tuneTo {X : e_XT} {d T ax am ao ad : Nat} {p : e_Sp} {I : e_I} {J : e_Jt} {c : Nat × Nat} {w : e_Rw1} {Q : e_Rt → e_SS → Prop} {x y z u : Int32} (hX : (X 8).1 = 0) (hT : T < 512) (h : h_L T ax am ao ad (p, I, J, c, w)) (k : ∀ k' S1, l_BI X T ax am ao ad (d + 12) 278 [.ref am, .int x, .int y, .int z, .int u] k' S1 → Q (.inl (some (.int k'))) S1) : s_c X (d + 12) 348 [.ref ax, .int x, .int y, .int z, .int u, .ref ao] (p, I, J, c, w) Q := by
  obtain ⟨⟨nk, nr, np, n, t, s, m, od, ob, hQ⟩, ex, em, ⟨f, hf⟩, hd9, hne⟩ := h
  dsimp only at hQ ex em hf hd9
  have hN := hQ.nums (by omega)
  obtain ⟨a1, b1, hTp, ha1, hb1⟩ := hQ.2.2.2.2.2.1.tp (by omega)
  have hD := hQ.2.1
  have hC := hD.1
  have hp := hC.1
  have hKn := hQ.1.1.1.1.2.1
  have h5 := hQ.1.2.2.2.2.2.1
  have hS := hQ.1.1.1.1.1
  rw [← ex]
  refine c_L_tuneTo (d := d + 11) hp (c_X11_tuneTo (d := d + 6) hD (fun j hj i hj2 => l_Wi.ok hf (k 0 _ (fun Q2 k2 => ?_))) (fun hx => l_Wi.ex (n := 1) (by decide) (k 1 _ (fun Q2 k2 => ?_))) (fun j hj hx => l_Wi.ex (n := 1) (by decide) (k 1 _ (fun Q2 k2 => ?_))))
  · obtain ⟨hi, rfl⟩ := (v_patS hS).mp hj
    have hlt := v_pat_lt hS hi
    obtain ⟨hi2, rfl⟩ := (v_patS hS).mp hj2
    have hM := h_qt (A := s_up I f_p_tuning (q_pi I x y) (s_max (-50) (s_min 50 (I f_p_tuning (q_pi I x y) + s_pit p I nr z u - s_pit p I nr x y)))) (AJ := J) (TC := [f_p_tuning]) hQ (s_eqN.up (by decide)) (by decide) (fun _ _ => rfl)
    have x1 : s_xt p p := s_xt.rfl'
    have em1 := em
    have ex1 := ex
    obtain ⟨a2, b2, hG, ha2, hc2, hb2⟩ := hM.G (by omega)
    have h5' := hM.1.2.2.2.2.2.1
    have hK' := hM.1.1.1.1.2.1
    have hSM := hM.1.p x1.2.2.1.symm x1.hN.PARR.symm
    have eA : s_eqN [f_p_tuning] I (s_up I f_p_tuning (q_pi I x y) (s_max (-50) (s_min 50 (I f_p_tuning (q_pi I x y) + s_pit p I nr z u - s_pit p I nr x y)))) := s_eqN.up (by decide)
    have hP1 := h_ipN (nr := nr) (x := x) (y := y) eA (by decide)
    have hP2 := h_ipN (nr := nr) (x := z) (y := u) eA (by decide)
    have hi3 := hP1.1.trans hi
    have hi4 := hP2.1.trans hi2
    have hlt2 : q_pi (s_up I f_p_tuning (q_pi I x y) (s_max (-50) (s_min 50 (I f_p_tuning (q_pi I x y) + s_pit p I nr z u - s_pit p I nr x y)))) x y < np := by rw [hP1.2]; exact hlt
    have h9 := a_tuneTo hSM hi3 hi4
    rw [hP1.2, hP2.2] at h9
    refine ⟨l_fG hG em1, ?_⟩
    rw [← em1]
    refine c_X16_tuneTo (d := d + 3) hG hX (by omega) (by omega) (fun _ _ p2 c2 n2 x2 hL2 hn2 => k2 _ _ ?_ l_th (fun _ => ⟨_, if_pos rfl, ?_⟩)) (fun w => absurd ⟨hi3, hi4⟩ w)
    · skip
      refine h_fin (p := p) (TB := [f_m_winds, f_m_tuning]) hT hM x1 x2 ((s_eqN.qbws.mono (by decide)).trans (s_eqN.up (by decide))) (by decide) (fun _ _ => rfl) ((hM.2.2.2.2.1.N s_xv.rfl' s_eqN.qbws (by decide) (by rw [s_eqN.qbws _ (by decide)]) (by rw [s_eqN.qbws _ (by decide)])).tun hlt2 h_cl50) ?_ hL2 hn2 hb2 ex1 em1 ⟨_, if_pos rfl⟩ (l_wd hne hd9) hne
      rw [hP1.2, hP2.2]
      exact ⟨n, t, by omega, fun _ => rfl, h9.1⟩
    · rw [hP1.2, hP2.2]
      exact l_aI h9.2
  · obtain ⟨a2, b2, hG, ha2⟩ := hQ.Gx (by omega)
    have hM := hG.1
    have hi := (v_patN hS).mp hx
    refine ⟨l_fG hG em, ?_⟩
    rw [← em]
    refine c_X16_tuneTo (d := d + 3) hG hX (by omega) (by omega) (fun w _ _ _ _ _ _ _ => absurd (w.symm.trans hi) (by decide)) (fun _ => k2 _ _ (h_refL hQ ex em ⟨f, hf⟩ hd9 hne) l_th (fun z => absurd z (by decide)))
  · obtain ⟨a2, b2, hG, ha2⟩ := hQ.Gx (by omega)
    have hM := hG.1
    have hi := (v_patN hS).mp hx
    refine ⟨l_fG hG em, ?_⟩
    rw [← em]
    refine c_X16_tuneTo (d := d + 3) hG hX (by omega) (by omega) (fun _ w _ _ _ _ _ _ => absurd (w.symm.trans hi) (by decide)) (fun _ => k2 _ _ (h_refL hQ ex em ⟨f, hf⟩ hd9 hne) l_th (fun z => absurd z (by decide)))
set_option maxRecDepth 100000 in
set_option maxHeartbeats 400000 in
theorem lp_pushReversible {X : e_XT} {d T ax am ao ad : Nat} {p : e_Sp} {I : e_I} {J : e_Jt} {c : Nat × Nat} {w : e_Rw1} {Q : e_Rt → e_SS → Prop} {x : Int32} (hX : (X 8).1 = 0) (hT : T < 512) (h : h_L T ax am ao ad (p, I, J, c, w)) (k : ∀ k' S1, l_BB X T ax am ao ad (d + 12) 298 [.ref am, .int x] k' S1 → Q (.inl (some (.int k'))) S1) : s_c X (d + 12) 360 [.ref ax, .int x, .ref ao] (p, I, J, c, w) Q := by
  obtain ⟨⟨nk, nr, np, n, t, s, m, od, ob, hQ⟩, ex, em, ⟨f, hf⟩, hd9, hne⟩ := h
  dsimp only at hQ ex em hf hd9
  have hN := hQ.nums (by omega)
  obtain ⟨a1, b1, hTp, ha1, hb1⟩ := hQ.2.2.2.2.2.1.tp (by omega)
  have hD := hQ.2.1
  have hC := hD.1
  have hp := hC.1
  have hKn := hQ.1.1.1.1.2.1
  have h5 := hQ.1.2.2.2.2.2.1
  have hMe := h_Me hQ.1.2.2.1 hQ.1.2.2.2.2.2.2
  rw [← ex]
  refine c_L_pushReversible (d := d + 11) hp (c_X11_pushReversible (d := d + 3) hD hTp hMe (fun h1 j hj hr p1 c1 hD1 x1 hT1 => l_Wb.ok hf (k 0 _ (fun Q2 k2 => ?_))) (fun h1 => l_Wb.ex (n := 1) (by decide) (k 1 _ (fun Q2 k2 => ?_))) (fun h1 hr => l_Wb.ex (n := 2) (by decide) (k 2 _ (fun Q2 k2 => ?_))))
  · obtain ⟨g, hg, rfl⟩ := s_nat h1.1 (show x < nI 4 from h1.2) (by omega)
    have hM := h_stl (TC := [f_k_isOut]) hQ s_eqN.mt (by decide) x1 hD1 hT1 hb1
    have em1 : p1.1 T_MODEL 0 = am := by rw [(x1.1 T_MODEL rfl).1]; exact em
    have ex1 : p1.1 T_HALL 0 = ax := by rw [(x1.1 T_HALL rfl).1]; exact ex
    obtain ⟨a2, b2, hG, ha2, hc2, hb2⟩ := hM.G (by omega)
    have h5' := hM.1.2.2.2.2.2.1
    have hK' := hM.1.1.1.1.2.1
    have hSM := hM.1.p x1.2.2.1.symm x1.hN.PARR.symm
    have hv := v_rvk hSM hg
    have e9 := hv.1.symm.trans hr
    refine ⟨l_fG hG em1, ?_⟩
    rw [← em1]
    refine c_X16_pushReversible (d := d + 2) hG hX (h_lv hM.1.2.2.1) (fun j hj => (hM.1.2.2.1.2.2.2.2 j hj).2) (fun _ kk hkk hr2 p2 c2 n2 x2 hL2 hn2 => k2 _ _ ?_ l_th (fun _ => ⟨_, if_pos rfl, ?_⟩)) (fun w => absurd ⟨h1.1, by have := h1.2; grind⟩ w) (fun _ w => absurd (e9.symm.trans w) (fun q => by have := nI_pos' (n := j) (by omega); rw [q] at this; exact absurd this (by decide)))
    · obtain rfl : kk = j := by have := hr2.symm.trans e9; exact (nI_eq (by omega) (by omega)).mp this
      refine h_fin (p := p) (TB := [f_mk_isDrawn]) hT hM x1 x2 (s_eqN.up (by decide)) (by decide) (fun _ _ => rfl) (hM.2.2.2.2.1.N s_xv.rfl' (show s_eqN [f_mk_isDrawn] _ _ from (s_eqN.up (by decide))) (by decide) (s_up_F (by decide)) (s_up_F (by decide))) ?_ hL2 hn2 hb2 ex1 em1 ⟨_, if_pos rfl⟩ (l_wd hne hd9) hne
      exact (a_pushReversible hj hSM (by omega) (by omega)).1
    · obtain rfl : kk = j := by have := hr2.symm.trans e9; exact (nI_eq (by omega) (by omega)).mp this
      exact l_aB (a_pushReversible hj hSM (by omega) (by omega)).2
  · obtain ⟨a2, b2, hG, ha2⟩ := hQ.Gx (by omega)
    have hM := hG.1
    refine ⟨l_fG hG em, ?_⟩
    rw [← em]
    refine c_X16_pushReversible (d := d + 2) hG hX (h_lv hQ.1.2.2.1) (fun j hj => (hQ.1.2.2.1.2.2.2.2 j hj).2) (fun w _ _ _ _ _ _ _ _ _ => absurd ⟨w.1, by have := w.2; grind⟩ h1) (fun _ => k2 _ _ (h_refL hQ ex em ⟨f, hf⟩ hd9 hne) l_th (fun z => absurd z (by decide))) (fun w _ => absurd ⟨w.1, by have := w.2; grind⟩ h1)
  · obtain ⟨a2, b2, hG, ha2⟩ := hQ.Gx (by omega)
    have hM := hG.1
    obtain ⟨g, hg, rfl⟩ := s_nat h1.1 (show x < nI 4 from h1.2) (by omega)
    have hv := v_rvk hQ.1 hg
    have hr2 : I f_m_reversible (q_ri I (nI g)) < 0 ∨ nI nk ≤ I f_m_reversible (q_ri I (nI g)) := by
      have q := hv.1
      dsimp only at q
      rw [← q]
      exact hr
    refine ⟨l_fG hG em, ?_⟩
    rw [← em]
    refine c_X16_pushReversible (d := d + 2) hG hX (h_lv hQ.1.2.2.1) (fun j hj => (hQ.1.2.2.1.2.2.2.2 j hj).2) (fun _ kk hkk w _ _ _ _ _ _ => absurd (h_kj hkk (by omega)) (w ▸ h_kx hr2)) (fun w => absurd ⟨h1.1, by have := h1.2; grind⟩ w) (fun _ _ => k2 _ _ (h_refL hQ ex em ⟨f, hf⟩ hd9 hne) l_th (fun z => absurd z (by decide)))
set_option maxRecDepth 100000 in
set_option maxHeartbeats 400000 in
theorem lp_fault {X : e_XT} {d T ax am ao ad : Nat} {p : e_Sp} {I : e_I} {J : e_Jt} {c : Nat × Nat} {w : e_Rw1} {Q : e_Rt → e_SS → Prop} {x y z : Int32} (hX : (X 8).1 = 0) (hz : vp_nar .char z = z) (hT : T < 512) (h : h_L T ax am ao ad (p, I, J, c, w)) (k : ∀ k' S1, l_BI X T ax am ao ad (d + 12) 282 [.ref am, .int x, .int y, .int z] k' S1 → Q (.inl (some (.int k'))) S1) : s_c X (d + 12) 351 [.ref ax, .int x, .int y, .int z, .ref ao] (p, I, J, c, w) Q := by
  obtain ⟨⟨nk, nr, np, n, t, s, m, od, ob, hQ⟩, ex, em, ⟨f, hf⟩, hd9, hne⟩ := h
  dsimp only at hQ ex em hf hd9
  have hN := hQ.nums (by omega)
  obtain ⟨a1, b1, hTp, ha1, hb1⟩ := hQ.2.2.2.2.2.1.tp (by omega)
  have hD := hQ.2.1
  have hC := hD.1
  have hp := hC.1
  have hKn := hQ.1.1.1.1.2.1
  have h5 := hQ.1.2.2.2.2.2.1
  have hS := hQ.1.1.1.1.1
  rw [← ex]
  refine c_L_fault (d := d + 11) hp (c_X11_fault (d := d + 4) hD hTp h5.2.2.1 (fun j hj hz3 p1 c1 hD1 x1 hT1 => l_Wi.ok hf (k 0 _ (fun Q2 k2 => ?_))) (fun hx => l_Wi.ex (n := 1) (by decide) (k 1 _ (fun Q2 k2 => ?_))) (fun j hj hz3 => l_Wi.ex (n := 2) (by decide) (k 2 _ (fun Q2 k2 => ?_))))
  · obtain ⟨hi, rfl⟩ := (v_patS hS).mp hj
    have hlt := v_pat_lt hS hi
    have hM := h_stl (TC := [f_p_fault]) hQ (s_eqN.up (by decide)) (by decide) x1 hD1 hT1 hb1
    have em1 : p1.1 T_MODEL 0 = am := by rw [(x1.1 T_MODEL rfl).1]; exact em
    have ex1 : p1.1 T_HALL 0 = ax := by rw [(x1.1 T_HALL rfl).1]; exact ex
    obtain ⟨a2, b2, hG, ha2, hc2, hb2⟩ := hM.G (by omega)
    have h5' := hM.1.2.2.2.2.2.1
    have hK' := hM.1.1.1.1.2.1
    have hSM := hM.1.p x1.2.2.1.symm x1.hN.PARR.symm
    have eA : s_eqN (f_p_fault :: s_tST) I (s_stl p nk nr (s_up I f_p_fault (q_pi I x y) z, J)).1 := (s_eqN.up (by decide)).trans (s_eqN.stl.mono (by decide))
    have hP1 := h_ipN (nr := nr) (x := x) (y := y) eA (by decide)
    have hi2 := hP1.1.trans hi
    have hlt2 : q_pi (s_stl p nk nr (s_up I f_p_fault (q_pi I x y) z, J)).1 x y < np := by rw [hP1.2]; exact hlt
    have eB : (q_st nk nr np (s_up (s_up (s_stl p nk nr (s_up I f_p_fault (q_pi I x y) z, J)).1 f_m_thrown 0 0) f_m_fault (q_pi (s_stl p nk nr (s_up I f_p_fault (q_pi I x y) z, J)).1 x y) z, (s_stl p nk nr (s_up I f_p_fault (q_pi I x y) z, J)).2)).1 f_m_thrown 0 = 0 := by
      rw [(q_st_e (nk := nk) (nr := nr) (np := np)).1 f_m_thrown (by decide)]
      show (s_up (s_up (s_stl p nk nr (s_up I f_p_fault (q_pi I x y) z, J)).1 f_m_thrown 0 0) f_m_fault (q_pi (s_stl p nk nr (s_up I f_p_fault (q_pi I x y) z, J)).1 x y) z) f_m_thrown 0 = 0
      rw [s_up_F (by decide)]
      exact s_up_s
    have hS9 : v_Sim p nk nr np n t s m T (I, J) (s_up (s_stl p nk nr (s_up I f_p_fault (q_pi I x y) z, J)).1 f_m_thrown 0 0, (s_stl p nk nr (s_up I f_p_fault (q_pi I x y) z, J)).2) := hSM.thrown
    have hs8 := a_fault (j := q_pi I x y) hz hS9 (by omega) (by omega)
    have key : (q_st nk nr np (s_up (s_up (s_stl p nk nr (s_up I f_p_fault (q_pi I x y) z, J)).1 f_m_thrown 0 0) f_m_fault (q_pi (s_stl p nk nr (s_up I f_p_fault (q_pi I x y) z, J)).1 x y) z, (s_stl p nk nr (s_up I f_p_fault (q_pi I x y) z, J)).2)).1 = s_up (q_st nk nr np (s_up (s_up (s_stl p nk nr (s_up I f_p_fault (q_pi I x y) z, J)).1 f_m_thrown 0 0) f_m_fault (q_pi (s_stl p nk nr (s_up I f_p_fault (q_pi I x y) z, J)).1 x y) z, (s_stl p nk nr (s_up I f_p_fault (q_pi I x y) z, J)).2)).1 f_m_thrown 0 0 := (v_upid eB).symm
    refine ⟨l_fG hG em1, ?_⟩
    rw [← em1]
    refine c_X16_fault (d := d + 3) hG hX hz h5'.2.2.2.1 (fun _ _ p2 c2 n2 x2 hL2 hn2 => k2 _ _ ?_ eB (fun _ => ⟨_, if_pos rfl, ?_⟩)) (fun w => absurd (hi2.symm.trans w) (by decide)) (fun _ w => absurd hz3 w)
    · rw [key]
      refine h_fin (p := p) (TB := [f_m_thrown, f_m_fault]) hT hM x1 x2 ((s_eqN.up (by decide)).trans (s_eqN.up (by decide))) (by decide) (fun _ _ => rfl) ((hM.2.2.2.2.1.N s_xv.rfl' (s_eqN.up (T := [f_m_thrown]) (by decide)) (by decide) (s_up_F (by decide)) (s_up_F (by decide))).fau hlt2) ?_ hL2 hn2 hb2 ex1 em1 ⟨_, if_pos rfl⟩ (l_wd hne hd9) hne
      rw [hP1.2]
      exact hs8
    · rw [hP1.2]
      exact l_aI (hM.1.1.1.2.2.1.1 _ hlt).2.2.2.2.2
  · obtain ⟨a2, b2, hG, ha2⟩ := hQ.Gx (by omega)
    have hM := hG.1
    have hi := (v_patN hS).mp hx
    refine ⟨l_fG hG em, ?_⟩
    rw [← em]
    refine c_X16_fault (d := d + 3) hG hX hz h5.2.2.2.1 (fun w _ _ _ _ _ _ _ => absurd (w.symm.trans hi) (by decide)) (fun _ => k2 _ _ (h_refL hQ ex em ⟨f, hf⟩ hd9 hne) l_th (fun z => absurd z (by decide))) (fun w _ => absurd (w.symm.trans hi) (by decide))
  · obtain ⟨a2, b2, hG, ha2⟩ := hQ.Gx (by omega)
    have hM := hG.1
    obtain ⟨hi, rfl⟩ := (v_patS hS).mp hj
    have hlt := v_pat_lt hS hi
    refine ⟨l_fG hG em, ?_⟩
    rw [← em]
    refine c_X16_fault (d := d + 3) hG hX hz h5.2.2.2.1 (fun _ w _ _ _ _ _ _ => absurd w hz3) (fun w => absurd (hi.symm.trans w) (by decide)) (fun _ _ => k2 _ _ (h_refL hQ ex em ⟨f, hf⟩ hd9 hne) l_th (fun z => absurd z (by decide)))
set_option maxRecDepth 100000 in
set_option maxHeartbeats 400000 in
theorem lp_wire {X : e_XT} {d T ax am ao ad : Nat} {p : e_Sp} {I : e_I} {J : e_Jt} {c : Nat × Nat} {w : e_Rw1} {Q : e_Rt → e_SS → Prop} {x ch y z : Int32} (hX : (X 8).1 = 0) (hch : vp_nar .char ch = ch) (hT : T < 512) (h : h_L T ax am ao ad (p, I, J, c, w)) (k : ∀ k' S1, l_BB X T ax am ao ad (d + 12) 303 [.ref am, .int x, .int ch, .int y, .int z] k' S1 → Q (.inl (some (.int k'))) S1) : s_c X (d + 12) 364 [.ref ax, .int x, .int ch, .int y, .int z, .ref ao] (p, I, J, c, w) Q := by
  obtain ⟨⟨nk, nr, np, n, t, s, m, od, ob, hQ⟩, ex, em, ⟨f, hf⟩, hd9, hne⟩ := h
  dsimp only at hQ ex em hf hd9
  have hN := hQ.nums (by omega)
  obtain ⟨a1, b1, hTp, ha1, hb1⟩ := hQ.2.2.2.2.2.1.tp (by omega)
  have hD := hQ.2.1
  have hC := hD.1
  have hp := hC.1
  have hKn := hQ.1.1.1.1.2.1
  have h5 := hQ.1.2.2.2.2.2.1
  rw [← ex]
  refine c_L_wire (d := d + 11) hp (c_X11_wire (d := d + 4) hD hTp hch (fun h1 h2 h3 h4 p1 c1 hD1 x1 hT1 => l_Wb.ok hf (k 0 _ (fun Q2 k2 => ?_))) (fun h1 => l_Wb.ex (n := 1) (by decide) (k 1 _ (fun Q2 k2 => ?_))) (fun h1 h2 => l_Wb.ex (n := 2) (by decide) (k 2 _ (fun Q2 k2 => ?_))) (fun h1 h2 h3 h4 h6 => l_Wb.ex (n := 2) (by decide) (k 2 _ (fun Q2 k2 => ?_))))
  · obtain ⟨g, hg, rfl⟩ := s_nat h1.1 (show x < nI 16 from h1.2) (by omega)
    have ec : (nI g).toNatClampNeg = g := nI_clamp (by omega)
    have hM := h_stl (TC := [f_a_operations, f_a_sources, f_a_others]) hQ s_eqN.pw (by decide) x1 hD1 hT1 hb1
    have em1 : p1.1 T_MODEL 0 = am := by rw [(x1.1 T_MODEL rfl).1]; exact em
    have ex1 : p1.1 T_HALL 0 = ax := by rw [(x1.1 T_HALL rfl).1]; exact ex
    obtain ⟨a2, b2, hG, ha2, hc2, hb2⟩ := hM.G (by omega)
    have h5' := hM.1.2.2.2.2.2.1
    have hK' := hM.1.1.1.1.2.1
    have hSM := hM.1.p x1.2.2.1.symm x1.hN.PARR.symm
    refine ⟨l_fG hG em1, ?_⟩
    rw [← em1]
    refine c_X16_wire (d := d + 3) hG hX hch (fun _ _ p2 c2 n2 x2 hL2 hn2 => k2 _ _ ?_ l_th (fun _ => ⟨_, if_pos rfl, ?_⟩)) (fun w => absurd ⟨h1.1, by have := h1.2; grind⟩ w) (fun _ w => absurd ⟨h2, (v_iS hg).symm.trans h3, h4.imp id (fun q => (v_iS hg).symm.trans q)⟩ w)
    · skip
      refine h_fin (p := p) (TB := [f_m_operation, f_m_first, f_m_second]) hT hM x1 x2 s_eqN.qwi (by decide) (fun _ _ => rfl) (hM.2.2.2.2.1.N s_xv.rfl' (show s_eqN [f_m_operation, f_m_first, f_m_second] _ _ from s_eqN.qwi) (by decide) (by rw [s_eqN.qwi _ (by decide)]) (by rw [s_eqN.qwi _ (by decide)])) ?_ hL2 hn2 hb2 ex1 em1 ⟨_, if_pos rfl⟩ (l_wd hne hd9) hne
      exact a_wire hg h2 h3 h4 hSM (by omega) (by omega)
    · obtain ⟨n', t', -, -, hs9⟩ := a_wire hg h2 h3 h4 hSM (by omega) (by omega)
      have h9 := v_ro hs9 hg
      rw [v_relid hs9.1.2.2.1] at h9
      rw [ec]
      exact l_aB h9
  · obtain ⟨a2, b2, hG, ha2⟩ := hQ.Gx (by omega)
    have hM := hG.1
    refine ⟨l_fG hG em, ?_⟩
    rw [← em]
    refine c_X16_wire (d := d + 3) hG hX hch (fun w _ _ _ _ _ _ _ => absurd ⟨w.1, by have := w.2; grind⟩ h1) (fun _ => k2 _ _ (h_refL hQ ex em ⟨f, hf⟩ hd9 hne) l_th (fun z => absurd z (by decide))) (fun w _ => absurd ⟨w.1, by have := w.2; grind⟩ h1)
  · obtain ⟨a2, b2, hG, ha2⟩ := hQ.Gx (by omega)
    have hM := hG.1
    obtain ⟨g, hg, rfl⟩ := s_nat h1.1 (show x < nI 16 from h1.2) (by omega)
    refine ⟨l_fG hG em, ?_⟩
    rw [← em]
    refine c_X16_wire (d := d + 3) hG hX hch (fun _ w _ _ _ _ _ _ => absurd ⟨w.1, (v_iS hg).trans w.2.1⟩ h2) (fun w => absurd ⟨h1.1, by have := h1.2; grind⟩ w) (fun _ _ => k2 _ _ (h_refL hQ ex em ⟨f, hf⟩ hd9 hne) l_th (fun z => absurd z (by decide)))
  · obtain ⟨a2, b2, hG, ha2⟩ := hQ.Gx (by omega)
    have hM := hG.1
    obtain ⟨g, hg, rfl⟩ := s_nat h1.1 (show x < nI 16 from h1.2) (by omega)
    refine ⟨l_fG hG em, ?_⟩
    rw [← em]
    refine c_X16_wire (d := d + 3) hG hX hch (fun _ w _ _ _ _ _ _ => absurd (h6.symm.trans ((v_iS hg).trans (w.2.2.resolve_left h4))) (by decide)) (fun w => absurd ⟨h1.1, by have := h1.2; grind⟩ w) (fun _ _ => k2 _ _ (h_refL hQ ex em ⟨f, hf⟩ hd9 hne) l_th (fun z => absurd z (by decide)))
set_option maxRecDepth 100000 in
set_option maxHeartbeats 400000 in
theorem lp_claim {X : e_XT} {d T ax am ao ad : Nat} {p : e_Sp} {I : e_I} {J : e_Jt} {c : Nat × Nat} {w : e_Rw1} {Q : e_Rt → e_SS → Prop} {x : Int32} (hX : (X 8).1 = 0) (hT : T < 512) (h : h_L T ax am ao ad (p, I, J, c, w)) (k : ∀ k' S1, l_BB X T ax am ao ad (d + 12) 287 [.ref am, .int x] k' S1 → Q (.inl (some (.int k'))) S1) : s_c X (d + 12) 354 [.ref ax, .int x, .ref ao] (p, I, J, c, w) Q := by
  obtain ⟨⟨nk, nr, np, n, t, s, m, od, ob, hQ⟩, ex, em, ⟨f, hf⟩, hd9, hne⟩ := h
  dsimp only at hQ ex em hf hd9
  have hN := hQ.nums (by omega)
  obtain ⟨a1, b1, hTp, ha1, hb1⟩ := hQ.2.2.2.2.2.1.tp (by omega)
  have hD := hQ.2.1
  have hC := hD.1
  have hp := hC.1
  have hKn := hQ.1.1.1.1.2.1
  have h5 := hQ.1.2.2.2.2.2.1
  have hMe := h_Me hQ.1.2.2.1 hQ.1.2.2.2.2.2.2
  rw [← ex]
  refine c_L_claim (d := d + 11) hp (c_X11_claim (d := d + 8) hp hMe (fun hc => l_Wb.ok hf (k 0 _ (fun Q2 k2 => ?_))) (fun hc => l_Wb.ex (n := 1) (by decide) (k 1 _ (fun Q2 k2 => ?_))))
  · skip
    have hM := h_qt (A := s_up I f_a_owners (I f_level 0).toNatClampNeg (if x = 0 then -1 else I f_guest 0)) (AJ := J) (TC := [f_a_owners]) hQ (s_eqN.up (by decide)) (by decide) (fun _ _ => rfl)
    have x1 : s_xt p p := s_xt.rfl'
    have em1 := em
    have ex1 := ex
    obtain ⟨a2, b2, hG, ha2, hc2, hb2⟩ := hM.G (by omega)
    have h5' := hM.1.2.2.2.2.2.1
    have hK' := hM.1.1.1.1.2.1
    have hSM := hM.1.p x1.2.2.1.symm x1.hN.PARR.symm
    have eA : s_eqN [f_a_owners] I (s_up I f_a_owners (I f_level 0).toNatClampNeg (if x = 0 then -1 else I f_guest 0)) := s_eqN.up (by decide)
    have ho := h_otN eA (by decide)
    have hz2 := hQ.1.2.2.1
    have hcl := h_clo hz2
    obtain ⟨⟨g, hg, g1, g2⟩, ⟨v, hv, l1, l2⟩, -⟩ := hz2
    dsimp only at g1 g2 l1 l2 hcl
    have e1 : (s_up I f_a_owners (I f_level 0).toNatClampNeg (if x = 0 then -1 else I f_guest 0)) f_m_level 0 = I f_level 0 := (congrFun (eA _ (by decide)) 0).trans (l2.trans l1.symm)
    have e2 : (s_up I f_a_owners (I f_level 0).toNatClampNeg (if x = 0 then -1 else I f_guest 0)) f_m_guest 0 = I f_guest 0 := (congrFun (eA _ (by decide)) 0).trans (g2.trans g1.symm)
    refine ⟨l_fG hG em1, ?_⟩
    rw [← em1]
    refine c_X16_claim (d := d + 2) hG hX (h_lv hM.1.2.2.1) (fun _ p2 c2 n2 x2 hL2 hn2 => k2 _ _ ?_ l_th (fun _ => ⟨_, if_pos rfl, ?_⟩)) (fun w => absurd ((hcl.1.symm.trans hc).symm.trans (ho.symm.trans w)) (by decide))
    · skip
      refine h_fin (p := p) (TB := [f_m_claimed]) hT hM x1 x2 (s_eqN.up (by decide)) (by decide) (fun _ _ => rfl) (hM.2.2.2.2.1.N s_xv.rfl' (show s_eqN [f_m_claimed] _ _ from (s_eqN.up (by decide))) (by decide) (s_up_F (by decide)) (s_up_F (by decide))) ?_ hL2 hn2 hb2 ex1 em1 ⟨_, if_pos rfl⟩ (l_wd hne hd9) hne
      unfold q_l
      rw [e1, e2]
      exact ⟨n, t, by omega, fun _ => rfl, a_claim (by split; exact .inl rfl; exact .inr ⟨g, hg, g1⟩) hSM⟩
    · refine l_aB ?_
      rw [hcl.2 hc]
      unfold q_l
      rw [eA f_m_level (by decide), eA f_m_guest (by decide), eA f_m_claimed (by decide)]
  · obtain ⟨a2, b2, hG, ha2⟩ := hQ.Gx (by omega)
    have hM := hG.1
    refine ⟨l_fG hG em, ?_⟩
    rw [← em]
    refine c_X16_claim (d := d + 2) hG hX (h_lv hQ.1.2.2.1) (fun w _ _ _ _ _ _ => absurd (((h_clo hQ.1.2.2.1).1.symm.trans hc).symm.trans w) (by decide)) (fun _ => k2 _ _ (h_refL hQ ex em ⟨f, hf⟩ hd9 hne) l_th (fun z => absurd z (by decide)))
set_option maxRecDepth 100000 in
set_option maxHeartbeats 400000 in
theorem lp_hunt {X : e_XT} {d T ax am ao ad : Nat} {p : e_Sp} {I : e_I} {J : e_Jt} {c : Nat × Nat} {w : e_Rw1} {Q : e_Rt → e_SS → Prop} {x : Int32} (hX : (X 8).1 = 0) (hT : T < 512) (h : h_L T ax am ao ad (p, I, J, c, w)) (k : ∀ k' S1, l_BI X T ax am ao ad (d + 12) 283 [.ref am, .int x] k' S1 → Q (.inl (some (.int k'))) S1) : s_c X (d + 12) 352 [.ref ax, .int x, .ref ao] (p, I, J, c, w) Q := by
  obtain ⟨⟨nk, nr, np, n, t, s, m, od, ob, hQ⟩, ex, em, ⟨f, hf⟩, hd9, hne⟩ := h
  dsimp only at hQ ex em hf hd9
  have hN := hQ.nums (by omega)
  obtain ⟨a1, b1, hTp, ha1, hb1⟩ := hQ.2.2.2.2.2.1.tp (by omega)
  have hD := hQ.2.1
  have hC := hD.1
  have hp := hC.1
  have hKn := hQ.1.1.1.1.2.1
  have h5 := hQ.1.2.2.2.2.2.1
  have hS := hQ.1.1.1.1.1
  rw [← ex]
  refine c_L_hunt (d := d + 11) hp (c_X11_hunt (d := d + 1) hD (fun r hr => by obtain ⟨lo, dv, h1, -⟩ := hS.2.2 r hr; exact h1) (fun r hr hx => l_Wi.ok hf (k 0 _ (fun Q2 k2 => ?_))) (fun hx => l_Wi.ex (n := 1) (by decide) (k 1 _ (fun Q2 k2 => ?_))))
  · subst hx
    obtain ⟨lo0, dv, q1, q2, -, -, q3, q4, q5, -⟩ := hS.2.2 r hr
    have hlp := hS.2.1
    rw [← em]
    obtain ⟨a2, b2, hG, ha2, hc2, hb2⟩ := hQ.G (by omega)
    refine ⟨l_fG hG rfl, ?_⟩
    have hM := hG.1
    refine c_X16_hunt (d := d + 3) hM (fun r2 lo m9 b9 hr2 hx2 z1 z2 z3 z4 z5 => k2 _ _ ?_ l_th (fun _ => ⟨_, if_pos rfl, ?_⟩)) (fun w => absurd (h_kj hr (by omega)) w)
    · exact h_qryL hQ ex em ⟨_, if_pos rfl⟩ (l_wd hne hd9) hne
    · obtain rfl : r2 = r := h_kE hr2 hr (by omega) hx2
      dsimp only at q3 q4 q5
      have hm : m9 + 1 = p.2.2.1 T_PARR r2 := by
        have a1 := q3.symm.trans z1
        have a2 := q4.symm.trans z2
        rw [← nI_add lo m9, ← a1, nI_add lo0 m9] at a2
        have b2 := (nI_eq (by omega) (by omega)).mp a2
        omega
      have hle := hS.le hr
      have hb : p.2.2.2.2 r2 = b9 := (nI_eq (by omega) (by omega)).mp (q5.symm.trans z3)
      rw [← hb]
      exact l_aI (v_hunt hS (fun q hq => (hQ.1.1.1.2.2.1.1 q hq).2.2.2.2.2) hr hm)
  · obtain ⟨a2, b2, hG, ha2⟩ := hQ.Gx (by omega)
    have hM := hG.1
    refine ⟨l_fG hG em, ?_⟩
    rw [← em]
    refine c_X16_hunt (d := d + 3) hM (fun r2 _ _ _ hr2 hx2 _ _ _ _ _ => absurd (h_kj hr2 (by omega)) (hx2 ▸ h_kx hx)) (fun _ => k2 _ _ (h_refL hQ ex em ⟨f, hf⟩ hd9 hne) l_th (fun z => absurd z (by decide)))
