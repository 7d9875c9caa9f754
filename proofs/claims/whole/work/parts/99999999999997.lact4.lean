/-! 99999999999997: calls on both sides: memory, wires (printed by wip/whole/p99999999999997.py) -/
theorem h_v4g : ∀ v, v < 4 → ∀ g, g < 4 → (nI v * 4 + nI g).toNatClampNeg = v * 4 + g := by decide
theorem h_ps {x y : Int32} (h : ¬ s_plo x y < 0) : q_ps x y = true := by
  cases hq : q_ps x y
  · exact absurd (v_ps0 hq) h
  · rfl
theorem h_psN {nk : Nat} {I I' : e_I} {x y : Int32} (h : v_Z2 nk I I') (hx : s_plo x y < 0) : q_ps x y = false := by
  obtain ⟨-, ⟨v, hv, l1, l2⟩, -⟩ := h
  cases hq : q_ps x y
  · rfl
  · exact absurd hx (v_place hv l1 l2 hq).1
theorem h_kpI {I : e_I} {x : Int32} : s_eqN [f_a_isSet] I (s_kpI I x) := by
  unfold s_kpI
  split
  · exact s_eqN.rfl'
  · exact s_eqN.up (by decide)
theorem h_kpJ {I : e_I} {J : e_Jt} {x : Int32} {y z : Int64} {F : Nat} (h : h_JM.contains F = true) : s_kpJ I J x y z F = J F := by
  unfold s_kpJ
  split
  · rfl
  · funext i
    rw [s_up_F (fun z => by rw [z] at h; exact absurd h (by decide)), s_up_F (fun z => by rw [z] at h; exact absurd h (by decide))]
theorem h_seJ {I : e_I} {x : Int32} {j : Nat} {F : Nat} (h : h_JC.contains F = true) : ∀ n i (J : e_Jt), s_run (q_seF I x j) i n J F = J F := by
  intro n i J
  refine s_run_ind (P := fun a b : e_Jt => b F = a F) (fun _ => rfl) (fun u v => v.trans u) (fun i a => ?_) n i J
  have key : q_keJ j_mg_knobs j_mg_drawn I j i a F = a F := by
    unfold q_keJ
    funext k
    rw [s_up_F (fun z => by rw [z] at h; exact absurd h (by decide)), s_up_F (fun z => by rw [z] at h; exact absurd h (by decide))]
  have this : ∀ (c : Prop) [Decidable c], (if c then q_keJ j_mg_knobs j_mg_drawn I j i a else a) F = a F := fun c _ => by
    split
    · exact key
    · rfl
  exact this _
theorem h_QM {T : Nat} {p : e_Sp} {a : e_I × e_Jt} {I : e_I} {J : e_Jt} {c : Nat × Nat} {nk nr np n : Nat} {t : Nat → Nat} {s m od ob : Nat} (h : h_Q T p a I J c nk nr np n t s m od ob) : q_M p I := ⟨h.2.2.2.1.2.1.1, h.2.2.2.1.2.1.2.1, h.2.2.2.1.2.1.2.2, h_lv h.1.2.2.1⟩

set_option maxRecDepth 100000 in
set_option maxHeartbeats 400000 in
theorem lp_setReversible {X : e_XT} {d T ax am ao ad : Nat} {p : e_Sp} {I : e_I} {J : e_Jt} {c : Nat × Nat} {w : e_Rw1} {Q : e_Rt → e_SS → Prop} {x y : Int32} (hX : (X 8).1 = 0) (hT : T < 512) (h : h_L T ax am ao ad (p, I, J, c, w)) (k : ∀ k' S1, l_BI X T ax am ao ad (d + 12) 297 [.ref am, .int x, .int y] k' S1 → Q (.inl (some (.int k'))) S1) : s_c X (d + 12) 359 [.ref ax, .int x, .int y, .ref ao] (p, I, J, c, w) Q := by
  obtain ⟨⟨nk, nr, np, n, t, s, m, od, ob, hQ⟩, ex, em, ⟨f, hf⟩, hd9, hne⟩ := h
  dsimp only at hQ ex em hf hd9
  have hN := hQ.nums (by omega)
  obtain ⟨a1, b1, hTp, ha1, hb1⟩ := hQ.2.2.2.2.2.1.tp (by omega)
  have hD := hQ.2.1
  have hC := hD.1
  have hp := hC.1
  have hKn := hQ.1.1.1.1.2.1
  have h5 := hQ.1.2.2.2.2.2.1
  have hMe := h_Me hQ.1.2.2.1 hQ.1.2.2.2.2.2.2
  rw [← ex]
  refine c_L_setReversible (d := d + 11) hp (c_X11_setReversible (d := d + 6) hC hMe (fun h1 j hj hy hc => l_Wi.ok hf (k 0 _ (fun Q2 k2 => ?_))) (fun h1 => l_Wi.ex (n := 1) (by decide) (k 1 _ (fun Q2 k2 => ?_))) (fun h1 hy => l_Wi.ex (n := 1) (by decide) (k 1 _ (fun Q2 k2 => ?_))) (fun h1 j hj hy hc => l_Wi.ex (n := 2) (by decide) (k 2 _ (fun Q2 k2 => ?_))))
  · obtain ⟨g, hg, rfl⟩ := s_nat h1.1 (show x < nI 4 from h1.2) (by omega)
    subst hy
    obtain ⟨v1, -, v, hv, v2, v3⟩ := v_rvk hQ.1 hg
    dsimp only at v1 v2 v3
    have ek : s_krv I (nI g) (nI j) = s_up I f_a_reversibles (v * 4 + g) (nI j) := by
      unfold s_krv
      rw [if_pos h1, v3, h_v4g v hv g hg]
    rw [ek]
    have hM := h_qt (A := s_up I f_a_reversibles (v * 4 + g) (nI j)) (AJ := J) (TC := [f_a_reversibles]) hQ (s_eqN.up (by decide)) (by decide) (fun _ _ => rfl)
    have x1 : s_xt p p := s_xt.rfl'
    have em1 := em
    have ex1 := ex
    obtain ⟨a2, b2, hG, ha2, hc2, hb2⟩ := hM.G (by omega)
    have h5' := hM.1.2.2.2.2.2.1
    have hK' := hM.1.1.1.1.2.1
    have hSM := hM.1.p x1.2.2.1.symm x1.hN.PARR.symm
    have eA : s_eqN [f_a_reversibles] I (s_up I f_a_reversibles (v * 4 + g) (nI j)) := s_eqN.up (by decide)
    have ho := h_otN eA (by decide)
    have hcl := (h_clo hQ.1.2.2.1).1
    have hri : q_ri (s_up I f_a_reversibles (v * 4 + g) (nI j)) (nI g) = v * 4 + g := by
      unfold q_ri
      rw [eA f_m_level (by decide)]
      exact v2
    refine ⟨l_fG hG em1, ?_⟩
    rw [← em1]
    refine c_X16_setReversible (d := d + 2) hG hX (h_lv hM.1.2.2.1) (fun _ _ _ p2 c2 n2 x2 hL2 hn2 => k2 _ _ ?_ l_th (fun _ => ⟨_, if_pos rfl, ?_⟩)) (fun w => absurd ⟨⟨h1.1, by have := h1.2; grind⟩, h_kj hj (by omega)⟩ w) (fun _ _ w => absurd ((hcl.symm.trans hc).symm.trans (ho.symm.trans w)) (by decide))
    · skip
      refine h_fin (p := p) (TB := [f_m_reversible]) hT hM x1 x2 (s_eqN.up (by decide)) (by decide) (fun _ _ => rfl) (hM.2.2.2.2.1.N s_xv.rfl' (show s_eqN [f_m_reversible] _ _ from (s_eqN.up (by decide))) (by decide) (s_up_F (by decide)) (s_up_F (by decide))) ?_ hL2 hn2 hb2 ex1 em1 ⟨_, if_pos rfl⟩ (l_wd hne hd9) hne
      rw [hri]
      exact ⟨n, t, by omega, fun _ => rfl, a_setReversible ⟨j, hj, rfl⟩ hSM⟩
    · rw [hri, eA f_m_reversible (by decide)]
      rw [v2] at v1
      exact l_aI v1
  · obtain ⟨a2, b2, hG, ha2⟩ := hQ.Gx (by omega)
    have hM := hG.1
    refine ⟨l_fG hG em, ?_⟩
    rw [← em]
    refine c_X16_setReversible (d := d + 2) hG hX (h_lv hQ.1.2.2.1) (fun w _ _ _ _ _ _ _ _ => absurd ⟨w.1, by have := w.2; grind⟩ h1) (fun _ => k2 _ _ (h_refL hQ ex em ⟨f, hf⟩ hd9 hne) l_th (fun z => absurd z (by decide))) (fun w _ _ => absurd ⟨w.1, by have := w.2; grind⟩ h1)
  · obtain ⟨a2, b2, hG, ha2⟩ := hQ.Gx (by omega)
    have hM := hG.1
    refine ⟨l_fG hG em, ?_⟩
    rw [← em]
    refine c_X16_setReversible (d := d + 2) hG hX (h_lv hQ.1.2.2.1) (fun _ w _ _ _ _ _ _ _ => absurd w (h_kx hy)) (fun _ => k2 _ _ (h_refL hQ ex em ⟨f, hf⟩ hd9 hne) l_th (fun z => absurd z (by decide))) (fun _ w _ => absurd w (h_kx hy))
  · obtain ⟨a2, b2, hG, ha2⟩ := hQ.Gx (by omega)
    have hM := hG.1
    subst hy
    refine ⟨l_fG hG em, ?_⟩
    rw [← em]
    refine c_X16_setReversible (d := d + 2) hG hX (h_lv hQ.1.2.2.1) (fun _ _ w _ _ _ _ _ _ => absurd ((((h_clo hQ.1.2.2.1).1.symm.trans hc).symm.trans w)) (by decide)) (fun w => absurd ⟨⟨h1.1, by have := h1.2; grind⟩, h_kj hj (by omega)⟩ w) (fun _ _ _ => k2 _ _ (h_refL hQ ex em ⟨f, hf⟩ hd9 hne) l_th (fun z => absurd z (by decide)))
set_option maxRecDepth 100000 in
set_option maxHeartbeats 400000 in
theorem lp_set {X : e_XT} {d T ax am ao ad : Nat} {p : e_Sp} {I : e_I} {J : e_Jt} {c : Nat × Nat} {w : e_Rw1} {Q : e_Rt → e_SS → Prop} {x y : Int32} (hX : (X 8).1 = 0) (hT : T < 512) (h : h_L T ax am ao ad (p, I, J, c, w)) (k : ∀ k' S1, l_BI X T ax am ao ad (d + 12) 291 [.ref am, .int x, .int y] k' S1 → Q (.inl (some (.int k'))) S1) : s_c X (d + 12) 357 [.ref ax, .int x, .int y, .ref ao] (p, I, J, c, w) Q := by
  obtain ⟨⟨nk, nr, np, n, t, s, m, od, ob, hQ⟩, ex, em, ⟨f, hf⟩, hd9, hne⟩ := h
  dsimp only at hQ ex em hf hd9
  have hN := hQ.nums (by omega)
  obtain ⟨a1, b1, hTp, ha1, hb1⟩ := hQ.2.2.2.2.2.1.tp (by omega)
  have hD := hQ.2.1
  have hC := hD.1
  have hp := hC.1
  have hKn := hQ.1.1.1.1.2.1
  have h5 := hQ.1.2.2.2.2.2.1
  have hMe := h_Me hQ.1.2.2.1 hQ.1.2.2.2.2.2.2
  rw [← ex]
  refine c_L_set (d := d + 11) hp (c_X11_set (d := d + 7) hC hMe (fun h1 hc => l_Wi.ok hf (k 0 _ (fun Q2 k2 => ?_))) (fun h1 => l_Wi.ex (n := 1) (by decide) (k 1 _ (fun Q2 k2 => ?_))) (fun h1 hc => l_Wi.ex (n := 2) (by decide) (k 2 _ (fun Q2 k2 => ?_))))
  · have hq := h_ps h1
    have hM := h_qt (A := s_kpI I (s_plo x y)) (AJ := s_kpJ I J (s_plo x y) (s_kset I nk x) (s_da I nk (s_kset I nk x))) (TC := [f_a_isSet]) hQ h_kpI (by decide) (fun F hF => h_kpJ hF)
    have x1 : s_xt p p := s_xt.rfl'
    have em1 := em
    have ex1 := ex
    obtain ⟨a2, b2, hG, ha2, hc2, hb2⟩ := hM.G (by omega)
    have h5' := hM.1.2.2.2.2.2.1
    have hK' := hM.1.1.1.1.2.1
    have hSM := hM.1.p x1.2.2.1.symm x1.hN.PARR.symm
    have ho := h_otN (h_kpI (I := I) (x := s_plo x y)) (by decide)
    have hcl := (h_clo hQ.1.2.2.1).1
    refine ⟨l_fG hG em1, ?_⟩
    rw [← em1]
    refine c_X16_set (d := d + 2) hG hX (h_QM hM) (fun _ _ p2 c2 n2 x2 hL2 hn2 => k2 _ _ ?_ l_th (fun _ => ⟨_, if_pos rfl, ?_⟩)) (fun w => absurd (hq.symm.trans w) (by decide)) (fun _ w => absurd ((hcl.symm.trans hc).symm.trans (ho.symm.trans w)) (by decide))
    · skip
      refine h_fin (p := p) (TB := [f_mg_isSet]) hT hM x1 x2 (s_eqN.up (by decide)) (by decide) (fun F hF => by rw [h_seJ hF]; funext i; rw [s_up_F (fun z => by rw [z] at hF; exact absurd hF (by decide)), s_up_F (fun z => by rw [z] at hF; exact absurd hF (by decide))]) (hM.2.2.2.2.1.N s_xv.rfl' (show s_eqN [f_mg_isSet] _ _ from (s_eqN.up (by decide))) (by decide) (s_up_F (by decide)) (s_up_F (by decide))) ?_ hL2 hn2 hb2 ex1 em1 ⟨_, if_pos rfl⟩ (l_wd hne hd9) hne
      exact ⟨n, t, by omega, fun _ => rfl, (a_set hSM hq).1⟩
    · exact l_aI (congrArg s_bc (a_set hSM hq).2)
  · obtain ⟨a2, b2, hG, ha2⟩ := hQ.Gx (by omega)
    have hM := hG.1
    have hq := h_psN hQ.1.2.2.1 h1
    refine ⟨l_fG hG em, ?_⟩
    rw [← em]
    refine c_X16_set (d := d + 2) hG hX (h_QM hQ) (fun w _ _ _ _ _ _ _ => absurd (w.symm.trans hq) (by decide)) (fun _ => k2 _ _ (h_refL hQ ex em ⟨f, hf⟩ hd9 hne) l_th (fun z => absurd z (by decide))) (fun w _ => absurd (w.symm.trans hq) (by decide))
  · obtain ⟨a2, b2, hG, ha2⟩ := hQ.Gx (by omega)
    have hM := hG.1
    have hq := h_ps h1
    refine ⟨l_fG hG em, ?_⟩
    rw [← em]
    refine c_X16_set (d := d + 2) hG hX (h_QM hQ) (fun _ w _ _ _ _ _ _ => absurd ((((h_clo hQ.1.2.2.1).1.symm.trans hc).symm.trans w)) (by decide)) (fun w => absurd (hq.symm.trans w) (by decide)) (fun _ _ => k2 _ _ (h_refL hQ ex em ⟨f, hf⟩ hd9 hne) l_th (fun z => absurd z (by decide)))
set_option maxRecDepth 100000 in
set_option maxHeartbeats 400000 in
theorem lp_push {X : e_XT} {d T ax am ao ad : Nat} {p : e_Sp} {I : e_I} {J : e_Jt} {c : Nat × Nat} {w : e_Rw1} {Q : e_Rt → e_SS → Prop} {x y : Int32} (hX : (X 8).1 = 0) (hT : T < 512) (h : h_L T ax am ao ad (p, I, J, c, w)) (k : ∀ k' S1, l_BI X T ax am ao ad (d + 12) 295 [.ref am, .int x, .int y] k' S1 → Q (.inl (some (.int k'))) S1) : s_c X (d + 12) 358 [.ref ax, .int x, .int y, .ref ao] (p, I, J, c, w) Q := by
  obtain ⟨⟨nk, nr, np, n, t, s, m, od, ob, hQ⟩, ex, em, ⟨f, hf⟩, hd9, hne⟩ := h
  dsimp only at hQ ex em hf hd9
  have hN := hQ.nums (by omega)
  obtain ⟨a1, b1, hTp, ha1, hb1⟩ := hQ.2.2.2.2.2.1.tp (by omega)
  have hD := hQ.2.1
  have hC := hD.1
  have hp := hC.1
  have hKn := hQ.1.1.1.1.2.1
  have h5 := hQ.1.2.2.2.2.2.1
  have hMe := h_Me hQ.1.2.2.1 hQ.1.2.2.2.2.2.2
  rw [← ex]
  refine c_L_push (d := d + 11) hp (c_X11_push (d := d + 3) hD hTp hMe (fun h1 h2 p1 c1 hD1 x1 hT1 => l_Wi.ok hf (k 0 _ (fun Q2 k2 => ?_))) (fun h1 => l_Wi.ex (n := 1) (by decide) (k 1 _ (fun Q2 k2 => ?_))) (fun h1 h2 => l_Wi.ex (n := 2) (by decide) (k 2 _ (fun Q2 k2 => ?_))))
  · have hq := h_ps h1
    have hM := h_stl (TC := [f_k_isOut]) hQ s_eqN.mt (by decide) x1 hD1 hT1 hb1
    have em1 : p1.1 T_MODEL 0 = am := by rw [(x1.1 T_MODEL rfl).1]; exact em
    have ex1 : p1.1 T_HALL 0 = ax := by rw [(x1.1 T_HALL rfl).1]; exact ex
    obtain ⟨a2, b2, hG, ha2, hc2, hb2⟩ := hM.G (by omega)
    have h5' := hM.1.2.2.2.2.2.1
    have hK' := hM.1.1.1.1.2.1
    have hSM := hM.1.p x1.2.2.1.symm x1.hN.PARR.symm
    have hv := v_pushed hM.1 hq
    dsimp only at hv
    refine ⟨l_fG hG em1, ?_⟩
    rw [← em1]
    refine c_X16_push (d := d + 2) hG hX (h_QM hM) (fun _ _ p2 c2 n2 x2 hL2 hn2 => k2 _ _ ?_ l_th (fun _ => ⟨_, if_pos rfl, ?_⟩)) (fun w => absurd (hq.symm.trans w) (by decide)) (fun _ w => absurd w (hv.1.mp h2))
    · skip
      refine h_fin (p := p) (TB := [f_mk_isDrawn]) hT hM x1 x2 s_eqN.qmt (by decide) (fun _ _ => rfl) (hM.2.2.2.2.1.N s_xv.rfl' (show s_eqN [f_mk_isDrawn] _ _ from s_eqN.qmt) (by decide) (by rw [s_eqN.qmt _ (by decide)]) (by rw [s_eqN.qmt _ (by decide)])) ?_ hL2 hn2 hb2 ex1 em1 ⟨_, if_pos rfl⟩ (l_wd hne hd9) hne
      rw [← hv.2.1, ← hv.2.2]
      exact (a_moves hSM (by omega) (by omega)).1
    · rw [← hv.2.1, ← hv.2.2]
      exact l_aI (a_moves hSM (by omega) (by omega)).2
  · obtain ⟨a2, b2, hG, ha2⟩ := hQ.Gx (by omega)
    have hM := hG.1
    have hq := h_psN hQ.1.2.2.1 h1
    refine ⟨l_fG hG em, ?_⟩
    rw [← em]
    refine c_X16_push (d := d + 2) hG hX (h_QM hQ) (fun w _ _ _ _ _ _ _ => absurd (w.symm.trans hq) (by decide)) (fun _ => k2 _ _ (h_refL hQ ex em ⟨f, hf⟩ hd9 hne) l_th (fun z => absurd z (by decide))) (fun w _ => absurd (w.symm.trans hq) (by decide))
  · obtain ⟨a2, b2, hG, ha2⟩ := hQ.Gx (by omega)
    have hM := hG.1
    have hq := h_ps h1
    have hv := v_pushed hQ.1 hq
    dsimp only at hv
    refine ⟨l_fG hG em, ?_⟩
    rw [← em]
    refine c_X16_push (d := d + 2) hG hX (h_QM hQ) (fun _ w _ _ _ _ _ _ => absurd ((hv.1.mpr w).symm.trans h2) (by decide)) (fun w => absurd (hq.symm.trans w) (by decide)) (fun _ _ => k2 _ _ (h_refL hQ ex em ⟨f, hf⟩ hd9 hne) l_th (fun z => absurd z (by decide)))
set_option maxRecDepth 100000 in
set_option maxHeartbeats 400000 in
theorem lp_turnTo {X : e_XT} {d T ax am ao ad : Nat} {p : e_Sp} {I : e_I} {J : e_Jt} {c : Nat × Nat} {w : e_Rw1} {Q : e_Rt → e_SS → Prop} {x : Int32} (hX : (X 8).1 = 0) (hT : T < 512) (h : h_L T ax am ao ad (p, I, J, c, w)) (k : ∀ k' S1, l_BI X T ax am ao ad (d + 12) 302 [.ref am, .int x] k' S1 → Q (.inl (some (.int k'))) S1) : s_c X (d + 12) 363 [.ref ax, .int x, .ref ao] (p, I, J, c, w) Q := by
  obtain ⟨⟨nk, nr, np, n, t, s, m, od, ob, hQ⟩, ex, em, ⟨f, hf⟩, hd9, hne⟩ := h
  dsimp only at hQ ex em hf hd9
  have hN := hQ.nums (by omega)
  obtain ⟨a1, b1, hTp, ha1, hb1⟩ := hQ.2.2.2.2.2.1.tp (by omega)
  have hD := hQ.2.1
  have hC := hD.1
  have hp := hC.1
  have hKn := hQ.1.1.1.1.2.1
  have h5 := hQ.1.2.2.2.2.2.1
  have hMe := h_Me hQ.1.2.2.1 hQ.1.2.2.2.2.2.2
  rw [← ex]
  refine c_L_turnTo (d := d + 11) hp (c_X11_turnTo (d := d + 3) hD hTp hMe (fun h1 p1 c1 hD1 x1 hT1 => l_Wi.ok hf (k 0 _ (fun Q2 k2 => ?_))) (fun h1 => l_Wi.ex (n := 1) (by decide) (k 1 _ (fun Q2 k2 => ?_))))
  · skip
    have hM := h_stl (TC := [f_k_isOut]) hQ s_eqN.mt (by decide) x1 hD1 hT1 hb1
    have em1 : p1.1 T_MODEL 0 = am := by rw [(x1.1 T_MODEL rfl).1]; exact em
    have ex1 : p1.1 T_HALL 0 = ax := by rw [(x1.1 T_HALL rfl).1]; exact ex
    obtain ⟨a2, b2, hG, ha2, hc2, hb2⟩ := hM.G (by omega)
    have h5' := hM.1.2.2.2.2.2.1
    have hK' := hM.1.1.1.1.2.1
    have hSM := hM.1.p x1.2.2.1.symm x1.hN.PARR.symm
    obtain ⟨g, hg, g1, g2⟩ := hM.1.2.2.1.1
    obtain ⟨m9, hm20, c9, c2, -⟩ := hM.1.2.2.2.2.2.2.2.2 g hg
    dsimp only at g1 g2 c9 c2
    have hfr : s_frs I = nI m9 := by
      unfold s_frs
      rw [g1, nI_clamp (by omega)]
      exact c9
    rw [hfr] at h1
    refine ⟨l_fG hG em1, ?_⟩
    rw [← em1]
    refine c_X16_turnTo (d := d + 2) hG hX hM.2.2.2.1.2.2.1 hM.2.2.2.1.2.2.2.1 hg g2 c2 hm20 (fun e9 he9 hx9 p2 c2 n2 x2 hL2 hn2 => k2 _ _ ?_ l_th (fun _ => ⟨_, if_pos rfl, ?_⟩)) (fun w => absurd h1 w)
    · subst hx9
      have hv := v_kbf hM.1 hg g2 c2 hm20 he9
      dsimp only at hv
      refine h_fin (p := p) (TB := [f_mk_isDrawn]) hT hM x1 x2 s_eqN.qmt (by decide) (fun _ _ => rfl) (hM.2.2.2.2.1.N s_xv.rfl' (show s_eqN [f_mk_isDrawn] _ _ from s_eqN.qmt) (by decide) (by rw [s_eqN.qmt _ (by decide)]) (by rw [s_eqN.qmt _ (by decide)])) ?_ hL2 hn2 hb2 ex1 em1 ⟨_, if_pos rfl⟩ (l_wd hne hd9) hne
      rw [← hv.2.1, ← hv.2.2]
      exact (a_moves hSM (by omega) (by omega)).1
    · subst hx9
      have hv := v_kbf hM.1 hg g2 c2 hm20 he9
      dsimp only at hv
      rw [← hv.2.1, ← hv.2.2]
      exact l_aI (a_moves hSM (by omega) (by omega)).2
  · obtain ⟨a2, b2, hG, ha2⟩ := hQ.Gx (by omega)
    have hM := hG.1
    obtain ⟨g, hg, g1, g2⟩ := hQ.1.2.2.1.1
    obtain ⟨m9, hm20, c1, c2, -⟩ := hQ.1.2.2.2.2.2.2.2.2 g hg
    dsimp only at g1 g2 c1 c2
    have hfr : s_frs I = nI m9 := by
      unfold s_frs
      rw [g1, nI_clamp (by omega)]
      exact c1
    rw [hfr] at h1
    refine ⟨l_fG hG em, ?_⟩
    rw [← em]
    refine c_X16_turnTo (d := d + 2) hG hX hQ.2.2.2.1.2.2.1 hQ.2.2.2.1.2.2.2.1 hg g2 c2 hm20 (fun e9 he9 hx9 _ _ _ _ _ _ => absurd (hx9 ▸ h_kj he9 (by omega)) h1) (fun _ => k2 _ _ (h_refL hQ ex em ⟨f, hf⟩ hd9 hne) l_th (fun z => absurd z (by decide)))
set_option maxRecDepth 100000 in
set_option maxHeartbeats 400000 in
theorem lp_cross {X : e_XT} {d T ax am ao ad : Nat} {p : e_Sp} {I : e_I} {J : e_Jt} {c : Nat × Nat} {w : e_Rw1} {Q : e_Rt → e_SS → Prop} {x y z : Int32} (hX : (X 8).1 = 0) (hT : T < 512) (h : h_L T ax am ao ad (p, I, J, c, w)) (k : ∀ k' S1, l_BI X T ax am ao ad (d + 12) 244 [.ref am, .int x, .int y, .int z] k' S1 → Q (.inl (some (.int k'))) S1) : s_c X (d + 12) 326 [.ref ax, .int x, .int y, .int z, .ref ao] (p, I, J, c, w) Q := by
  obtain ⟨⟨nk, nr, np, n, t, s, m, od, ob, hQ⟩, ex, em, ⟨f, hf⟩, hd9, hne⟩ := h
  dsimp only at hQ ex em hf hd9
  have hN := hQ.nums (by omega)
  obtain ⟨a1, b1, hTp, ha1, hb1⟩ := hQ.2.2.2.2.2.1.tp (by omega)
  have hD := hQ.2.1
  have hC := hD.1
  have hp := hC.1
  have hKn := hQ.1.1.1.1.2.1
  have h5 := hQ.1.2.2.2.2.2.1
  rw [← ex]
  refine c_L_cross (d := d + 11) hp (c_X11_cross (d := d + 4) hD hTp (fun j hj hx hy hz hyz hs p1 c1 hD1 x1 hT1 => l_Wi.ok hf (k 0 _ (fun Q2 k2 => ?_))) (fun hx => l_Wi.ex (n := 1) (by decide) (k 1 _ (fun Q2 k2 => ?_))) (fun j hj hx h9 => l_Wi.ex (n := 2) (by decide) (k 2 _ (fun Q2 k2 => ?_))) (fun j hj hx hy h9 => l_Wi.ex (n := 2) (by decide) (k 2 _ (fun Q2 k2 => ?_))) (fun j hj hx hy hz h9 => l_Wi.ex (n := 2) (by decide) (k 2 _ (fun Q2 k2 => ?_))) (fun j hj hx hy hz hyz hs => l_Wi.ex (n := 3) (by decide) (k 3 _ (fun Q2 k2 => ?_))))
  · subst hx
    obtain ⟨ya, hya, rfl⟩ := s_nat hy.1 (show y < nI 61 from Int32.lt_of_le_of_lt hy.2 (by decide)) (by omega)
    obtain ⟨za, hza, rfl⟩ := s_nat hz.1 (show z < nI 61 from Int32.lt_of_le_of_lt hz.2 (by decide)) (by omega)
    have hab : ya ≠ za := fun q => hyz (by rw [q])
    have hM := h_stl (TC := [f_s_places, f_s_keysAt]) hQ s_eqN.chp (by decide) x1 hD1 hT1 hb1
    have em1 : p1.1 T_MODEL 0 = am := by rw [(x1.1 T_MODEL rfl).1]; exact em
    have ex1 : p1.1 T_HALL 0 = ax := by rw [(x1.1 T_HALL rfl).1]; exact ex
    obtain ⟨a2, b2, hG, ha2, hc2, hb2⟩ := hM.G (by omega)
    have h5' := hM.1.2.2.2.2.2.1
    have hK' := hM.1.1.1.1.2.1
    have hSM := hM.1.p x1.2.2.1.symm x1.hN.PARR.symm
    refine ⟨l_fG hG em1, ?_⟩
    rw [← em1]
    refine c_X16_cross (d := d + 2) hG hX (fun kk hkk hx2 _ hs2 p2 c2 n2 x2 hL2 hn2 => k2 _ _ ?_ l_th (fun _ => ⟨_, if_pos rfl, ?_⟩)) (fun w => absurd (h_kj hj (by omega)) w) (fun _ w => absurd ⟨hy, hz, hyz⟩ w) (fun kk hkk hx2 _ w => absurd ((hK'.2 kk hkk).1.1.symm.trans (by obtain rfl := h_kE hkk hj (by omega) hx2; exact hs)) w)
    · obtain rfl := h_kE hkk hj (by omega) hx2
      refine h_fin (p := p) (TB := [f_mk_wires]) hT hM x1 x2 ((s_eqN.up (by decide)).trans (s_eqN.up (by decide))) (by decide) (fun _ _ => rfl) (hM.2.2.2.2.1.N s_xv.rfl' (show s_eqN [f_mk_wires] _ _ from ((s_eqN.up (by decide)).trans (s_eqN.up (by decide)))) (by decide) (by unfold q_cr; rw [s_up_F (by decide), s_up_F (by decide)]) (by unfold q_cr; rw [s_up_F (by decide), s_up_F (by decide)])) ?_ hL2 hn2 hb2 ex1 em1 ⟨_, if_pos rfl⟩ (l_wd hne hd9) hne
      exact a_cross hkk hs hya hza hab hSM (by omega) (by omega)
    · obtain rfl := h_kE hkk hj (by omega) hx2
      obtain ⟨n', t', -, -, hs9⟩ := a_cross hkk hs hya hza hab hSM (by omega) (by omega)
      have e8 : s_eqN ([f_s_places, f_s_keysAt] ++ s_tST) I (s_stl p nk nr (s_chp I kk (nI ya) (nI za), J)).1 := (s_eqN.chp.mono (by decide)).trans (s_eqN.stl.mono (by decide))
      have h8 := v_dsp (hs9.1.1.1.2.1.stop hkk ((congrFun (e8 f_k_kind (by decide)) kk).trans hs))
      refine l_aI (h8.trans ?_)
      unfold q_crn q_crf
      rw [(q_st_e (nk := nk) (nr := nr) (np := np)).1 f_mk_wires (by decide)]
  · obtain ⟨a2, b2, hG, ha2⟩ := hQ.Gx (by omega)
    have hM := hG.1
    refine ⟨l_fG hG em, ?_⟩
    rw [← em]
    refine c_X16_cross (d := d + 2) hG hX (fun kk hkk hx2 _ _ _ _ _ _ _ _ => absurd (h_kj hkk (by omega)) (hx2 ▸ h_kx hx)) (fun w => k2 _ _ (h_refL hQ ex em ⟨f, hf⟩ hd9 hne) l_th (fun z => absurd z (by decide))) (fun w _ => absurd w (h_kx hx)) (fun kk hkk hx2 _ _ => absurd (h_kj hkk (by omega)) (hx2 ▸ h_kx hx))
  · obtain ⟨a2, b2, hG, ha2⟩ := hQ.Gx (by omega)
    have hM := hG.1
    subst hx
    refine ⟨l_fG hG em, ?_⟩
    rw [← em]
    refine c_X16_cross (d := d + 2) hG hX (fun _ _ _ w _ _ _ _ _ _ _ => absurd w.1 h9) (fun w => absurd (h_kj hj (by omega)) w) (fun _ _ => k2 _ _ (h_refL hQ ex em ⟨f, hf⟩ hd9 hne) l_th (fun z => absurd z (by decide))) (fun _ _ _ w _ => absurd w.1 h9)
  · obtain ⟨a2, b2, hG, ha2⟩ := hQ.Gx (by omega)
    have hM := hG.1
    subst hx
    refine ⟨l_fG hG em, ?_⟩
    rw [← em]
    refine c_X16_cross (d := d + 2) hG hX (fun _ _ _ w _ _ _ _ _ _ _ => absurd w.2.1 h9) (fun w => absurd (h_kj hj (by omega)) w) (fun _ _ => k2 _ _ (h_refL hQ ex em ⟨f, hf⟩ hd9 hne) l_th (fun z => absurd z (by decide))) (fun _ _ _ w _ => absurd w.2.1 h9)
  · obtain ⟨a2, b2, hG, ha2⟩ := hQ.Gx (by omega)
    have hM := hG.1
    subst hx
    refine ⟨l_fG hG em, ?_⟩
    rw [← em]
    refine c_X16_cross (d := d + 2) hG hX (fun _ _ _ w _ _ _ _ _ _ _ => absurd h9 w.2.2) (fun w => absurd (h_kj hj (by omega)) w) (fun _ _ => k2 _ _ (h_refL hQ ex em ⟨f, hf⟩ hd9 hne) l_th (fun z => absurd z (by decide))) (fun _ _ _ w _ => absurd h9 w.2.2)
  · obtain ⟨a2, b2, hG, ha2⟩ := hQ.Gx (by omega)
    have hM := hG.1
    subst hx
    refine ⟨l_fG hG em, ?_⟩
    rw [← em]
    refine c_X16_cross (d := d + 2) hG hX (fun kk hkk hx2 _ w _ _ _ _ _ _ => absurd ((hKn.2 kk hkk).1.1.trans w) (by obtain rfl := h_kE hkk hj (by omega) hx2; exact hs)) (fun w => absurd (h_kj hj (by omega)) w) (fun _ w => absurd ⟨hy, hz, hyz⟩ w) (fun _ _ _ _ _ => k2 _ _ (h_refL hQ ex em ⟨f, hf⟩ hd9 hne) l_th (fun z => absurd z (by decide)))
