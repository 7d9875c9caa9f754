/-! 999999999999994: calls on both sides: chords (printed by wip/whole/p999999999999994.py) -/
theorem h_figL {X : e_XT} (hX : v_X X) (y : Int32) : (X (s_fig y)).1 ≤ 100 := by
  by_cases c : y = 53 ∨ y = 54 ∨ y = 52 ∨ y = 55
  · obtain ⟨h1, h2⟩ := (v_fig hX y).2 c
    rw [(hX.1 _ h1 h2).1]
    omega
  · have e : s_fig y = 5 := by
      unfold s_fig
      rw [if_neg (fun z => c (.inl z)), if_neg (fun z => c (.inr (.inl z))), if_neg (fun z => c (.inr (.inr (.inl z)))), if_neg (fun z => c (.inr (.inr (.inr z))))]
    rw [e, hX.2.1]
    omega
theorem h_isk0 {x : Int32} (h : s_isk 0 x) : ∃ b, b < 32 ∧ x = nI b := s_nat h.2.2.1 (show x < nI 32 from h.2.2.2.2 rfl) (by omega)
theorem h_bk {I I' : e_I} (h : v_Z4 I I') : q_bk I' := fun n hn => by
  obtain ⟨c, hc, e⟩ := h.2.2.2 n hn
  rw [e]
  exact ⟨by decide, by decide, nI_pos' (by omega), (show nI c < nI 61 from (nI_ltI (by omega) (by omega)).mpr hc), fun z => absurd z (by decide)⟩

set_option maxRecDepth 100000 in
set_option maxHeartbeats 400000 in
theorem lp_realise {X : e_XT} {d T ax am ao ad : Nat} {p : e_Sp} {I : e_I} {J : e_Jt} {c : Nat × Nat} {w : e_Rw1} {Q : e_Rt → e_SS → Prop} {x y : Int32} (hX : (X 8).1 = 0) (hXX : v_X X) (hT : T < 512) (h : h_L T ax am ao ad (p, I, J, c, w)) (k : ∀ k' S1, l_BI X T ax am ao ad (d + 12) 311 [.ref am, .int x, .int y] k' S1 → Q (.inl (some (.int k'))) S1) : s_c X (d + 12) 370 [.ref ax, .int x, .int y, .ref ao] (p, I, J, c, w) Q := by
  obtain ⟨⟨nk, nr, np, n, t, s, m, od, ob, hQ⟩, ex, em, ⟨f, hf⟩, hd9, hne⟩ := h
  dsimp only at hQ ex em hf hd9
  have hN := hQ.nums (by omega)
  obtain ⟨a1, b1, hTp, ha1, hb1⟩ := hQ.2.2.2.2.2.1.tp (by omega)
  have hD := hQ.2.1
  have hC := hD.1
  have hp := hC.1
  have hKn := hQ.1.1.1.1.2.1
  have h5 := hQ.1.2.2.2.2.2.1
  rw [← ex]
  refine c_L_realise (d := d + 11) hp (c_X11_realise (d := d + 3) hD hTp (by unfold e_xb; omega) hXX.2.2.1 (h_figL hXX) (fun h1 h2 h3 p1 c1 hD1 x1 hT1 => l_Wi.ok hf (k 0 _ (fun Q2 k2 => ?_))) (fun h1 => l_Wi.ex (n := 1) (by decide) (k 1 _ (fun Q2 k2 => ?_))) (fun h1 h2 => l_Wi.ex (n := 2) (by decide) (k 2 _ (fun Q2 k2 => ?_))) (fun h1 h2 h3 => l_Wi.ex (n := 3) (by decide) (k 3 _ (fun Q2 k2 => ?_))))
  · obtain ⟨b9, hb9, rfl⟩ := h_isk0 h1
    have hch : y = 53 ∨ y = 54 ∨ y = 52 ∨ y = 55 := by
      by_cases c : y = 53 ∨ y = 54 ∨ y = 52 ∨ y = 55
      · exact c
      · exact absurd ((v_fig hXX y).1.mpr c) h2
    have hM := h_stl (TC := (f_a_chord :: f_hasChord :: (s_tCH ++ s_tPK))) hQ ((s_eqN.cho.mono (by decide)).trans (s_eqN.pch.mono (by decide))) (by decide) x1 hD1 hT1 hb1
    have em1 : p1.1 T_MODEL 0 = am := by rw [(x1.1 T_MODEL rfl).1]; exact em
    have ex1 : p1.1 T_HALL 0 = ax := by rw [(x1.1 T_HALL rfl).1]; exact ex
    obtain ⟨a2, b2, hG, ha2, hc2, hb2⟩ := hM.G (by omega)
    have h5' := hM.1.2.2.2.2.2.1
    have hK' := hM.1.1.1.1.2.1
    have hSM := hM.1.p x1.2.2.1.symm x1.hN.PARR.symm
    have hr9 := v_real0 hXX hM.1.2.2.2.2.1 (b := b9) (by omega)
    have hst : q_s7 (s_stl p nk nr (s_pch (s_cho X I (s_fig y) (nI b9)), J)).1 (nI b9) 7 0 < 7 := by
      have q := hr9.1
      have q2 := hr9.2.1
      dsimp only at q q2
      by_cases c : q_s7 (s_stl p nk nr (s_pch (s_cho X I (s_fig y) (nI b9)), J)).1 (nI b9) 7 0 = 7
      · exact absurd (q2 c) h3
      · omega
    have hA := a_realise hXX hSM hb9 hch hst (by omega) (by omega)
    refine ⟨l_fG hG em1, ?_⟩
    rw [← em1]
    refine c_X16_realise (d := d + 2) hG hX (by omega) (by omega) (h_bk hM.1.2.2.2.2.1) (fun _ _ _ p2 c2 n2 x2 hL2 hn2 => k2 _ _ ?_ l_th (fun _ => ⟨_, if_pos rfl, ?_⟩)) (fun w => absurd h1 w) (fun _ w => absurd hch w) (fun _ _ w => absurd w (by omega))
    · skip
      refine h_finK (p := p) (TB := (f_l_size :: h_rzT)) hT hM x1 x2 ((q_e.of s_eqN.qfi (by decide) (by decide)).trans h_rz.2.1).1 (by decide) (by decide) ((q_e.of s_eqN.qfi (by decide) (by decide)).trans h_rz.2.1).2 (fun w => (((h_off.N s_eqN.qfi (by decide)).trans h_rz.1) w).2) (by decide) ((h_rz.2.2 n (by omega) (h_sz.N (⟨n, Nat.le_refl _, hM.1.1.1.2.2.1.2.1.1.2.1⟩ : h_sz n _) s_eqN.qfi (by decide))).le (by omega)) ?_ hL2 (by omega) hb2 ex1 em1 ⟨_, if_pos rfl⟩ (l_wd hne hd9) hne
      obtain ⟨n', t', q1, -, q3⟩ := hA.1
      exact ⟨n', t', by omega, q3⟩
    · exact l_aI hA.2
  · obtain ⟨a2, b2, hG, ha2⟩ := hQ.Gx (by omega)
    have hM := hG.1
    refine ⟨l_fG hG em, ?_⟩
    rw [← em]
    refine c_X16_realise (d := d + 2) hG hX (by omega) (by omega) (h_bk hQ.1.2.2.2.2.1) (fun w _ _ _ _ _ _ _ _ => absurd w h1) (fun _ => k2 _ _ (h_refL hQ ex em ⟨f, hf⟩ hd9 hne) l_th (fun z => absurd z (by decide))) (fun w _ => absurd w h1) (fun w _ _ => absurd w h1)
  · obtain ⟨a2, b2, hG, ha2⟩ := hQ.Gx (by omega)
    have hM := hG.1
    have hch := (v_fig hXX y).1.mp h2
    refine ⟨l_fG hG em, ?_⟩
    rw [← em]
    refine c_X16_realise (d := d + 2) hG hX (by omega) (by omega) (h_bk hQ.1.2.2.2.2.1) (fun _ w _ _ _ _ _ _ _ => absurd w hch) (fun w => absurd h1 w) (fun _ _ => k2 _ _ (h_refL hQ ex em ⟨f, hf⟩ hd9 hne) l_th (fun z => absurd z (by decide))) (fun _ w _ => absurd w hch)
  · obtain ⟨a2, b2, hG, ha2⟩ := hQ.Gx (by omega)
    have hM := hG.1
    obtain ⟨b9, hb9, rfl⟩ := h_isk0 h1
    have hch : y = 53 ∨ y = 54 ∨ y = 52 ∨ y = 55 := by
      by_cases c : y = 53 ∨ y = 54 ∨ y = 52 ∨ y = 55
      · exact c
      · exact absurd ((v_fig hXX y).1.mpr c) h2
    have hr9 := v_real0 hXX hQ.1.2.2.2.2.1 (b := b9) (by omega)
    dsimp only at hr9
    have h7 : ¬ q_s7 I (nI b9) 7 0 < 7 := fun w => by
      have q := hr9.2.2 w
      rw [q] at h3
      exact absurd h3 (Int32.not_lt.mpr (nI_pos' (by omega)))
    refine ⟨l_fG hG em, ?_⟩
    rw [← em]
    refine c_X16_realise (d := d + 2) hG hX (by omega) (by omega) (h_bk hQ.1.2.2.2.2.1) (fun _ _ w _ _ _ _ _ _ => absurd w h7) (fun w => absurd h1 w) (fun _ w => absurd hch w) (fun _ _ _ => k2 _ _ (h_refL hQ ex em ⟨f, hf⟩ hd9 hne) l_th (fun z => absurd z (by decide)))
