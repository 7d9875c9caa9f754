/-! 99999999999998: calls on both sides that throw nothing (printed by wip/whole/p99999999999998.py) -/
theorem l_ev {Q2 : e_Rt → e_SS → Prop} {v v' : Value} {S2 : e_SS} (e : v = v') (h : Q2 (.inl (some v)) S2) : Q2 (.inl (some v')) S2 := e ▸ h
set_option maxRecDepth 100000 in
set_option maxHeartbeats 400000 in
theorem lp_tutti {X : e_XT} {d T ax am ao ad : Nat} {p : e_Sp} {I : e_I} {J : e_Jt} {c : Nat × Nat} {w : e_Rw1} {Q : e_Rt → e_SS → Prop} {y : Int32} (hX : (X 8).1 = 0) (hy : y = 0 ∨ y = 1) (hT : T < 512) (h : h_L T ax am ao ad (p, I, J, c, w)) (k : ∀ v S1, l_BV X T ax am ao ad (d + 12) 256 [.ref am, .int y] (.int v) S1 → Q (.inl (some (.int v))) S1) : s_c X (d + 12) 133 [.ref ax, .int y] (p, I, J, c, w) Q := by
  obtain ⟨⟨nk, nr, np, n, t, s, m, od, ob, hQ⟩, ex, em, ⟨f, hf⟩, hd9, hne⟩ := h
  dsimp only at hQ ex em hf hd9
  have hN := hQ.nums (by omega)
  obtain ⟨a1, b1, hTp, ha1, hb1⟩ := hQ.2.2.2.2.2.1.tp (by omega)
  have hD := hQ.2.1
  have hC := hD.1
  have hp := hC.1
  have hKn := hQ.1.1.1.1.2.1
  have h5 := hQ.1.2.2.2.2.2.1
  rw [← ex]
  refine c_X11_tutti (d := d + 5) hD hTp hy (h5.1 f_isTutti rfl 0) (fun p1 c1 hD1 x1 hT1 => k _ _ (fun Q2 k2 => ?_))
  have hM := h_stl (TC := [f_isTutti]) hQ (s_eqN.up (by decide)) (by decide) x1 hD1 hT1 hb1
  have em1 : p1.1 T_MODEL 0 = am := by rw [(x1.1 T_MODEL rfl).1]; exact em
  have ex1 : p1.1 T_HALL 0 = ax := by rw [(x1.1 T_HALL rfl).1]; exact ex
  obtain ⟨a2, b2, hG, ha2, hc2, hb2⟩ := hM.G (by omega)
  have h5' := hM.1.2.2.2.2.2.1
  have hK' := hM.1.1.1.1.2.1
  have hSM := hM.1.p x1.2.2.1.symm x1.hN.PARR.symm
  refine ⟨l_fG hG em1, ?_⟩
  rw [← em1]
  refine c_X16_tutti (d := d + 2) hG hX hy (h5'.2.1 f_m_isTutti rfl) (fun  p2 c2 n2 x2 hL2 hn2 => l_ev (congrArg Value.int hM.1.1.1.1.2.2.2.2.2.2.1) (k2 _ ?_))
  refine h_fin (p := p) (TB := [f_m_isTutti]) hT hM x1 x2 (s_eqN.up (by decide)) (by decide) (fun _ _ => rfl) (hM.2.2.2.2.1.N s_xv.rfl' (show s_eqN [f_m_isTutti] _ _ from (s_eqN.up (by decide))) (by decide) (s_up_F (by decide)) (s_up_F (by decide))) ?_ hL2 hn2 hb2 ex1 em1 ⟨f, hf⟩ hd9 hne
  exact a_tutti hy hSM (by omega) (by omega)
set_option maxRecDepth 100000 in
set_option maxHeartbeats 400000 in
theorem lp_speaking {X : e_XT} {d T ax am ao ad : Nat} {p : e_Sp} {I : e_I} {J : e_Jt} {c : Nat × Nat} {w : e_Rw1} {Q : e_Rt → e_SS → Prop} (hX : (X 8).1 = 0) (hT : T < 512) (h : h_L T ax am ao ad (p, I, J, c, w)) (k : ∀ v S1, l_BV X T ax am ao ad (d + 12) 268 [.ref am] (.int v) S1 → Q (.inl (some (.int v))) S1) : s_c X (d + 12) 135 [.ref ax] (p, I, J, c, w) Q := by
  obtain ⟨⟨nk, nr, np, n, t, s, m, od, ob, hQ⟩, ex, em, ⟨f, hf⟩, hd9, hne⟩ := h
  dsimp only at hQ ex em hf hd9
  have hN := hQ.nums (by omega)
  obtain ⟨a1, b1, hTp, ha1, hb1⟩ := hQ.2.2.2.2.2.1.tp (by omega)
  have hD := hQ.2.1
  have hC := hD.1
  have hp := hC.1
  have hKn := hQ.1.1.1.1.2.1
  have h5 := hQ.1.2.2.2.2.2.1
  rw [← ex]
  refine c_X11_speaking (d := d + 12) hp (k _ _ (fun Q2 k2 => ?_))
  rw [← em]
  obtain ⟨a2, b2, hG, ha2, hc2, hb2⟩ := hQ.G (by omega)
  refine ⟨l_fG hG rfl, ?_⟩
  have hM := hG.1
  refine c_X16_speaking (d := d + 11) hM (l_ev (congrArg Value.int (v_spkA hQ.1)) (k2 _ ?_))
  exact h_qryL hQ ex em ⟨f, hf⟩ hd9 hne
set_option maxRecDepth 100000 in
set_option maxHeartbeats 400000 in
theorem lp_ended {X : e_XT} {d T ax am ao ad : Nat} {p : e_Sp} {I : e_I} {J : e_Jt} {c : Nat × Nat} {w : e_Rw1} {Q : e_Rt → e_SS → Prop} (hX : (X 8).1 = 0) (hT : T < 512) (h : h_L T ax am ao ad (p, I, J, c, w)) (k : ∀ v S1, l_BV X T ax am ao ad (d + 12) 271 [.ref am] (.long v) S1 → Q (.inl (some (.long v))) S1) : s_c X (d + 12) 136 [.ref ax] (p, I, J, c, w) Q := by
  obtain ⟨⟨nk, nr, np, n, t, s, m, od, ob, hQ⟩, ex, em, ⟨f, hf⟩, hd9, hne⟩ := h
  dsimp only at hQ ex em hf hd9
  have hN := hQ.nums (by omega)
  obtain ⟨a1, b1, hTp, ha1, hb1⟩ := hQ.2.2.2.2.2.1.tp (by omega)
  have hD := hQ.2.1
  have hC := hD.1
  have hp := hC.1
  have hKn := hQ.1.1.1.1.2.1
  have h5 := hQ.1.2.2.2.2.2.1
  rw [← ex]
  refine c_X11_ended (d := d + 12) hp (k _ _ (fun Q2 k2 => ?_))
  rw [← em]
  obtain ⟨a2, b2, hG, ha2, hc2, hb2⟩ := hQ.G (by omega)
  refine ⟨l_fG hG rfl, ?_⟩
  have hM := hG.1
  refine c_X16_ended (d := d + 12) hp (l_ev (congrArg Value.long hQ.1.1.1.2.2.2.2.2) (k2 _ ?_))
  exact h_qryL hQ ex em ⟨f, hf⟩ hd9 hne
set_option maxRecDepth 100000 in
set_option maxHeartbeats 400000 in
theorem lp_loudness {X : e_XT} {d T ax am ao ad : Nat} {p : e_Sp} {I : e_I} {J : e_Jt} {c : Nat × Nat} {w : e_Rw1} {Q : e_Rt → e_SS → Prop} (hX : (X 8).1 = 0) (hT : T < 512) (h : h_L T ax am ao ad (p, I, J, c, w)) (k : ∀ v S1, l_BV X T ax am ao ad (d + 12) 275 [.ref am] (.int v) S1 → Q (.inl (some (.int v))) S1) : s_c X (d + 12) 137 [.ref ax] (p, I, J, c, w) Q := by
  obtain ⟨⟨nk, nr, np, n, t, s, m, od, ob, hQ⟩, ex, em, ⟨f, hf⟩, hd9, hne⟩ := h
  dsimp only at hQ ex em hf hd9
  have hN := hQ.nums (by omega)
  obtain ⟨a1, b1, hTp, ha1, hb1⟩ := hQ.2.2.2.2.2.1.tp (by omega)
  have hD := hQ.2.1
  have hC := hD.1
  have hp := hC.1
  have hKn := hQ.1.1.1.1.2.1
  have h5 := hQ.1.2.2.2.2.2.1
  rw [← ex]
  refine c_X11_loudness (d := d + 8) hD (k _ _ (fun Q2 k2 => ?_))
  rw [← em]
  obtain ⟨a2, b2, hG, ha2, hc2, hb2⟩ := hQ.G (by omega)
  refine ⟨l_fG hG rfl, ?_⟩
  have hM := hG.1
  refine c_X16_loudness (d := d + 9) hM (l_ev (congrArg Value.int (v_loud hQ.1)) (k2 _ ?_))
  exact h_qryL hQ ex em ⟨f, hf⟩ hd9 hne
set_option maxRecDepth 100000 in
set_option maxHeartbeats 400000 in
theorem lp_recorded {X : e_XT} {d T ax am ao ad : Nat} {p : e_Sp} {I : e_I} {J : e_Jt} {c : Nat × Nat} {w : e_Rw1} {Q : e_Rt → e_SS → Prop} (hX : (X 8).1 = 0) (hT : T < 512) (h : h_L T ax am ao ad (p, I, J, c, w)) (k : ∀ v S1, l_BV X T ax am ao ad (d + 12) 308 [.ref am] (.int v) S1 → Q (.inl (some (.int v))) S1) : s_c X (d + 12) 141 [.ref ax] (p, I, J, c, w) Q := by
  obtain ⟨⟨nk, nr, np, n, t, s, m, od, ob, hQ⟩, ex, em, ⟨f, hf⟩, hd9, hne⟩ := h
  dsimp only at hQ ex em hf hd9
  have hN := hQ.nums (by omega)
  obtain ⟨a1, b1, hTp, ha1, hb1⟩ := hQ.2.2.2.2.2.1.tp (by omega)
  have hD := hQ.2.1
  have hC := hD.1
  have hp := hC.1
  have hKn := hQ.1.1.1.1.2.1
  have h5 := hQ.1.2.2.2.2.2.1
  rw [← ex]
  refine c_X11_recorded (d := d + 12) hp (k _ _ (fun Q2 k2 => ?_))
  rw [← em]
  obtain ⟨a2, b2, hG, ha2, hc2, hb2⟩ := hQ.G (by omega)
  refine ⟨l_fG hG rfl, ?_⟩
  have hM := hG.1
  refine c_X16_recorded (d := d + 10) hp (l_ev (congrArg Value.int (hQ.1.1.1.2.2.1.2.1.1.1.trans hQ.1.1.1.2.2.1.2.1.1.2.1.symm)) (k2 _ ?_))
  exact h_qryL hQ ex em ⟨f, hf⟩ hd9 hne
set_option maxRecDepth 100000 in
set_option maxHeartbeats 400000 in
theorem lp_isTrue {X : e_XT} {d T ax am ao ad : Nat} {p : e_Sp} {I : e_I} {J : e_Jt} {c : Nat × Nat} {w : e_Rw1} {Q : e_Rt → e_SS → Prop} (hX : (X 8).1 = 0) (hT : T < 512) (h : h_L T ax am ao ad (p, I, J, c, w)) (k : ∀ v S1, l_BV X T ax am ao ad (d + 12) 322 [.ref am] (.int v) S1 → Q (.inl (some (.int v))) S1) : s_c X (d + 12) 142 [.ref ax] (p, I, J, c, w) Q := by
  obtain ⟨⟨nk, nr, np, n, t, s, m, od, ob, hQ⟩, ex, em, ⟨f, hf⟩, hd9, hne⟩ := h
  dsimp only at hQ ex em hf hd9
  have hN := hQ.nums (by omega)
  obtain ⟨a1, b1, hTp, ha1, hb1⟩ := hQ.2.2.2.2.2.1.tp (by omega)
  have hD := hQ.2.1
  have hC := hD.1
  have hp := hC.1
  have hKn := hQ.1.1.1.1.2.1
  have h5 := hQ.1.2.2.2.2.2.1
  rw [← ex]
  refine c_X11_isTrue (d := d + 6) hD (k _ _ (fun Q2 k2 => ?_))
  rw [← em]
  obtain ⟨a2, b2, hG, ha2, hc2, hb2⟩ := hQ.G (by omega)
  refine ⟨l_fG hG rfl, ?_⟩
  have hM := hG.1
  refine c_X16_isTrue (d := d + 11) hp (l_ev (congrArg Value.int (by rw [v_true hQ.1]; rfl)) (k2 _ ?_))
  exact h_qryL hQ ex em ⟨f, hf⟩ hd9 hne
