/-! 9999999999999991: calls on both sides: frames are put in (printed by wip/whole/p9999999999999991.py) -/
theorem h_keR {I : e_I} {j F : Nat} (h : h_JC.contains F = true) (n : Nat) (J : e_Jt) : s_run (q_keJ j_mf_knobs j_mf_drawn I j) 0 n J F = J F := by
  refine s_run_ind (P := fun a b : e_Jt => b F = a F) (fun _ => rfl) (fun u v => v.trans u) (fun i a => ?_) n 0 J
  unfold q_keJ
  funext k
  rw [s_up_F (fun z => by rw [z] at h; exact absurd h (by decide)), s_up_F (fun z => by rw [z] at h; exact absurd h (by decide))]
theorem h_fmJ {I : e_I} {J : e_Jt} {nk g t m F : Nat} (h : h_JC.contains F = true) : q_fmJ I J nk g t m F = J F := by
  have e1 : q_fmJ I J nk g t m F = s_run (q_keJ j_mf_knobs j_mf_drawn (s_IMFRAME I (64 * g + m) 0) (64 * g + m)) 0 nk (s_JMFRAME J (64 * g + m) 0 0) F := by
    rcases h_JCc h with rfl | rfl | rfl | rfl | rfl <;> rfl
  rw [e1, h_keR h]
  unfold s_JMFRAME
  funext k
  rw [s_up_F (fun z => by rw [z] at h; exact absurd h (by decide)), s_up_F (fun z => by rw [z] at h; exact absurd h (by decide))]
theorem h_frJ {J : e_Jt} {a b m a' b' m' i i' F : Nat} {y z : Int64} (h : h_JM.contains F = true) : s_up (s_up (s_cpJ (s_cpJ J j_a_frameKept a b m) j_a_frameDrawn a' b' m') j_a_frameKept i y) j_a_frameDrawn i' z F = J F := by
  obtain ⟨h1, h2⟩ := h_JMc h
  rw [← h_cpJ (J := J) (a := a) (b := b) (m := m) (a' := a') (b' := b') (m' := m') h]
  funext k
  rw [s_up_F h2, s_up_F h1]

set_option maxRecDepth 100000 in
set_option maxHeartbeats 400000 in
theorem lp_frame {X : e_XT} {d T ax am ao ad : Nat} {p : e_Sp} {I : e_I} {J : e_Jt} {c : Nat × Nat} {w : e_Rw1} {Q : e_Rt → e_SS → Prop} {x : Int32} (hX : (X 8).1 = 0) (hT : T < 512) (h : h_L T ax am ao ad (p, I, J, c, w)) (k : ∀ k' S1, l_BI X T ax am ao ad (d + 12) 300 [.ref am, .int x] k' S1 → Q (.inl (some (.int k'))) S1) : s_c X (d + 12) 361 [.ref ax, .int x, .ref ao] (p, I, J, c, w) Q := by
  obtain ⟨⟨nk, nr, np, n, t, s, m, od, ob, hQ⟩, ex, em, ⟨f, hf⟩, hd9, hne⟩ := h
  dsimp only at hQ ex em hf hd9
  have hN := hQ.nums (by omega)
  obtain ⟨a1, b1, hTp, ha1, hb1⟩ := hQ.2.2.2.2.2.1.tp (by omega)
  have hD := hQ.2.1
  have hC := hD.1
  have hp := hC.1
  have hKn := hQ.1.1.1.1.2.1
  have h5 := hQ.1.2.2.2.2.2.1
  have hMe := h_Me hQ.1.2.2.1 hQ.1.2.2.2.2.2.2
  rw [← ex]
  refine c_L_frame (d := d + 11) hp (c_X11_frame (d := d + 7) hC hMe (fun h1 h2 g e9 m8 hg g1 c1 hm8 he9 hx => l_Wi.ok hf (k 0 _ (fun Q2 k2 => ?_))) (fun h1 => l_Wi.ex (n := 1) (by decide) (k 1 _ (fun Q2 k2 => ?_))) (fun h1 h2 => l_Wi.ex (n := 2) (by decide) (k 2 _ (fun Q2 k2 => ?_))))
  · have hM := h_qt (A := s_up I f_a_frameCounts g (nI (m8 + 1))) (AJ := s_up (s_up (s_cpJ (s_cpJ J j_a_frameKept (g * 20 + e9) (g * 20 + e9 + 1) (m8 - e9)) j_a_frameDrawn (g * 20 + e9) (g * 20 + e9 + 1) (m8 - e9)) j_a_frameKept (g * 20 + e9) (s_b1 nk - 1)) j_a_frameDrawn (g * 20 + e9) (s_da I nk (s_b1 nk - 1))) (TC := [f_a_frameCounts]) hQ (s_eqN.up (by decide)) (by decide) (fun F hF => h_frJ hF)
    obtain ⟨g9, hg9, gg1, gg2⟩ := hM.1.2.2.1.1
    obtain ⟨m7, hm7, cc1, cc2, -⟩ := hQ.1.2.2.2.2.2.2.2.2 g hg
    dsimp only at gg1 gg2 cc1 cc2
    obtain rfl : g9 = g := (nI_eq (by omega) (by omega)).mp (gg1.symm.trans g1)
    obtain rfl : m7 = m8 := (nI_eq (by omega) (by omega)).mp (cc1.symm.trans c1)
    have cc3 : (s_up I f_a_frameCounts g9 (nI (m7 + 1))) f_l_size (8 + g9) = nI m7 := (s_up_F (by decide)).trans cc2
    obtain ⟨a2, b2, hG, ha2, hc2, hb2⟩ := hM.G (by omega)
    refine ⟨l_fG hG em, ?_⟩
    rw [← em]
    refine c_X16_frame (d := d + 2) hG hX hM.2.2.2.1.2.2.1 hM.2.2.2.1.2.2.2.1 hg gg2 cc3 (by omega) (by unfold e_xb; omega) (by omega) (fun t9 ht9 hx9 hm9 p3 x9 y9 hx2 hy2 hxv hF9 p2 c2 n2 x2 hL2 hn2 => k2 _ _ ?_ l_th (fun _ => ⟨_, if_pos rfl, l_aI rfl⟩)) (fun w => absurd (show 0 ≤ x ∧ x ≤ nI m7 from ?_) w) (fun _ w => absurd w (by omega))
    · obtain rfl : t9 = e9 := (nI_eq (by omega) (by omega)).mp (hx9.symm.trans hx)
      have e0 := q_st_e (nk := nk) (nr := nr) (np := np) (a := (q_fmI (s_up I f_a_frameCounts g9 (nI (m7 + 1))) g9 t9 m7, q_fmJ (s_up I f_a_frameCounts g9 (nI (m7 + 1))) (s_up (s_up (s_cpJ (s_cpJ J j_a_frameKept (g9 * 20 + t9) (g9 * 20 + t9 + 1) (m7 - t9)) j_a_frameDrawn (g9 * 20 + t9) (g9 * 20 + t9 + 1) (m7 - t9)) j_a_frameKept (g9 * 20 + t9) (s_b1 nk - 1)) j_a_frameDrawn (g9 * 20 + t9) (s_da I nk (s_b1 nk - 1))) nk g9 t9 m7))
      exact h_finF (x := x9) (y := y9) hT hM (hxv.trans (x2.1.mono (fun _ _ h => h_NN2 h))) (hF9.hN x2.hN (fun l hl => (s_up_F (by decide)).trans (e0.2 l hl))) q_fmI_e (fun l hl => q_fmI_l (by omega)) (fun F hF => h_fmJ hF) (a_frame hM.1 hg gg2 cc3 (by omega) (by omega)) hL2 (by omega) hx2 hy2 hb2 ex em ⟨_, if_pos rfl⟩ (l_wd hne hd9) hne
    · rw [hx]; exact ⟨nI_pos' (by omega), (nI_leI (by omega) (by omega)).mpr he9⟩
  · obtain ⟨g, hg, g1, g2⟩ := hQ.1.2.2.1.1
    obtain ⟨m9, hm20, c1, c2, -⟩ := hQ.1.2.2.2.2.2.2.2.2 g hg
    dsimp only at g1 g2 c1 c2
    have hfr : s_frs I = nI m9 := by
      unfold s_frs
      rw [g1, nI_clamp (by omega)]
      exact c1
    rw [hfr] at h1
    obtain ⟨a2, b2, hG, ha2⟩ := hQ.Gx (by omega)
    refine ⟨l_fG hG em, ?_⟩
    rw [← em]
    exact c_X16_frame (d := d + 2) hG hX hQ.2.2.2.1.2.2.1 hQ.2.2.2.1.2.2.2.1 hg g2 c2 hm20 (by unfold e_xb; dsimp only; omega) (by omega) (fun t9 ht9 hx9 _ _ _ _ _ _ _ _ _ _ _ _ _ _ => absurd (show 0 ≤ x ∧ x ≤ nI m9 from (by rw [hx9]; exact ⟨nI_pos' (by omega), (nI_leI (by omega) (by omega)).mpr ht9⟩)) h1) (fun _ => k2 _ _ (h_refL hQ ex em ⟨f, hf⟩ hd9 hne) l_th (fun z => absurd z (by decide))) (fun w _ => absurd w h1)
  · obtain ⟨g, hg, g1, g2⟩ := hQ.1.2.2.1.1
    obtain ⟨m9, hm20, c1, c2, -⟩ := hQ.1.2.2.2.2.2.2.2.2 g hg
    dsimp only at g1 g2 c1 c2
    have hfr : s_frs I = nI m9 := by
      unfold s_frs
      rw [g1, nI_clamp (by omega)]
      exact c1
    rw [hfr] at h1 h2
    have h20 : m9 = 20 := by
      by_cases q : m9 < 20
      · exact absurd (show nI m9 < 20 from (by rw [show (20 : Int32) = nI 20 by decide]; exact (nI_ltI (by omega) (by omega)).mpr q)) h2
      · omega
    obtain ⟨a2, b2, hG, ha2⟩ := hQ.Gx (by omega)
    refine ⟨l_fG hG em, ?_⟩
    rw [← em]
    exact c_X16_frame (d := d + 2) hG hX hQ.2.2.2.1.2.2.1 hQ.2.2.2.1.2.2.2.1 hg g2 c2 hm20 (by unfold e_xb; dsimp only; omega) (by omega) (fun t9 ht9 hx9 w _ _ _ _ _ _ _ _ _ _ _ _ _ => absurd w (by omega)) (fun w => absurd h1 w) (fun _ _ => k2 _ _ (h_refL hQ ex em ⟨f, hf⟩ hd9 hne) l_th (fun z => absurd z (by decide)))
