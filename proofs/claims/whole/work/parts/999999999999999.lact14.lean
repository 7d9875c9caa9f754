/-! 999999999999999: calls on both sides: frames are cut (printed by wip/whole/p999999999999999.py) -/
theorem h_NN2 {t i : Nat} (h : q_N2 t i = false) : q_N t i = false := by
  unfold q_N2 at h
  unfold q_N
  by_cases c1 : t = T_MKEPT
  · rw [decide_eq_true c1] at h; cases h
  rw [decide_eq_false c1]
  by_cases c2 : t = T_LARR
  · rw [decide_eq_false c1, decide_eq_true c2] at h
    by_cases c3 : i = 4
    · rw [c3, decide_eq_true (show 4 ≤ 4 by omega)] at h; cases c4 : decide (t = T_MFRAME) <;> rw [c4] at h <;> cases h
    · rw [decide_eq_false c3, Bool.and_false]; rfl
  · rw [decide_eq_false c2]; rfl
theorem h_JCc {F : Nat} (h : h_JC.contains F = true) : F = j_allEnds ∨ F = j_a_kept ∨ F = j_a_drawn ∨ F = j_a_frameKept ∨ F = j_a_frameDrawn := by simpa [h_JC] using h
theorem h_JMc {F : Nat} (h : h_JM.contains F = true) : ¬ F = j_a_frameKept ∧ ¬ F = j_a_frameDrawn := ⟨fun z => by rw [z] at h; exact absurd h (by decide), fun z => by rw [z] at h; exact absurd h (by decide)⟩
theorem h_cpJ {J : e_Jt} {a b m a' b' m' F : Nat} (h : h_JM.contains F = true) : s_cpJ (s_cpJ J j_a_frameKept a b m) j_a_frameDrawn a' b' m' F = J F := by
  obtain ⟨h1, h2⟩ := h_JMc h
  funext i
  exact (if_neg (fun z => h2 z.1)).trans (if_neg (fun z => h1 z.1))

set_option maxRecDepth 100000 in
set_option maxHeartbeats 400000 in
theorem lp_cut {X : e_XT} {d T ax am ao ad : Nat} {p : e_Sp} {I : e_I} {J : e_Jt} {c : Nat × Nat} {w : e_Rw1} {Q : e_Rt → e_SS → Prop} {x : Int32} (hX : (X 8).1 = 0) (hT : T < 512) (h : h_L T ax am ao ad (p, I, J, c, w)) (k : ∀ k' S1, l_BI X T ax am ao ad (d + 12) 301 [.ref am, .int x] k' S1 → Q (.inl (some (.int k'))) S1) : s_c X (d + 12) 362 [.ref ax, .int x, .ref ao] (p, I, J, c, w) Q := by
  obtain ⟨⟨nk, nr, np, n, t, s, m, od, ob, hQ⟩, ex, em, ⟨f, hf⟩, hd9, hne⟩ := h
  dsimp only at hQ ex em hf hd9
  have hN := hQ.nums (by omega)
  obtain ⟨a1, b1, hTp, ha1, hb1⟩ := hQ.2.2.2.2.2.1.tp (by omega)
  have hD := hQ.2.1
  have hC := hD.1
  have hp := hC.1
  have hKn := hQ.1.1.1.1.2.1
  have h5 := hQ.1.2.2.2.2.2.1
  have hMe := h_Me hQ.1.2.2.1 hQ.1.2.2.2.2.2.2
  rw [← ex]
  refine c_L_cut (d := d + 11) hp (c_X11_cut (d := d + 9) hp hMe (fun h1 g e9 m8 hg g1 c1 hm8 he9 hx => l_Wi.ok hf (k 0 _ (fun Q2 k2 => ?_))) (fun h1 => l_Wi.ex (n := 1) (by decide) (k 1 _ (fun Q2 k2 => ?_))))
  · obtain ⟨m9, rfl⟩ : ∃ m9, m8 = m9 + 1 := ⟨m8 - 1, by omega⟩
    rw [show m9 + 1 - e9 - 1 = m9 - e9 by omega, show m9 + 1 - 1 = m9 by omega]
    have hM := h_qt (A := s_up I f_a_frameCounts g (nI m9)) (AJ := s_cpJ (s_cpJ J j_a_frameKept (g * 20 + e9 + 1) (g * 20 + e9) (m9 - e9)) j_a_frameDrawn (g * 20 + e9 + 1) (g * 20 + e9) (m9 - e9)) (TC := [f_a_frameCounts]) hQ (s_eqN.up (by decide)) (by decide) (fun F hF => h_cpJ hF)
    obtain ⟨g9, hg9, gg1, gg2⟩ := hM.1.2.2.1.1
    obtain ⟨m7, hm7, cc1, cc2, -⟩ := hM.1.2.2.2.2.2.2.2.2 g hg
    dsimp only at gg1 gg2 cc1 cc2
    obtain rfl : g9 = g := (nI_eq (by omega) (by omega)).mp (gg1.symm.trans g1)
    obtain rfl : m7 = m9 + 1 := (nI_eq (by omega) (by omega)).mp (cc1.symm.trans c1)
    obtain ⟨a2, b2, hG, ha2, hc2, hb2⟩ := hM.G (by omega)
    refine ⟨l_fG hG em, ?_⟩
    rw [← em]
    refine c_X16_cut (d := d + 2) hG hX hM.2.2.2.1.2.2.1 hM.2.2.2.1.2.2.2.1 hg gg2 cc2 (by omega) (fun t9 ht9 hx9 hF9 p2 c2 n2 x2 hL2 hn2 => k2 _ _ ?_ l_th (fun _ => ⟨_, if_pos rfl, l_aI rfl⟩)) (fun w => absurd (hx ▸ h_kj he9 (by omega)) w)
    obtain rfl : t9 = e9 := (nI_eq (by omega) (by omega)).mp (hx9.symm.trans hx)
    have e0 := q_st_e (nk := nk) (nr := nr) (np := np) (a := (q_cuI (s_up I f_a_frameCounts g9 (nI m9)) g9 t9 m9, q_cuJ (s_cpJ (s_cpJ J j_a_frameKept (g9 * 20 + t9 + 1) (g9 * 20 + t9) (m9 - t9)) j_a_frameDrawn (g9 * 20 + t9 + 1) (g9 * 20 + t9) (m9 - t9)) g9 t9 m9))
    have hL2 : q_L p2 _ c2 (a2 + 0) (b2 + 0) n2 := hL2
    refine h_finF (x := 0) (y := 0) hT hM ((s_xv.rn.trans s_xv.uvF).trans (x2.1.mono (fun _ _ h => h_NN2 h))) (hF9.hN x2.hN (fun l hl => (s_up_F (by decide)).trans (e0.2 l hl))) q_cuI_e (fun l hl => q_cuI_l (by omega)) (fun F hF => ?_) (a_cut hM.1 hg cc2 (by omega) (by omega)) hL2 (by omega) (by omega) (by omega) hb2 ex em ⟨_, if_pos rfl⟩ (l_wd hne hd9) hne
    rcases h_JCc hF with rfl | rfl | rfl | rfl | rfl <;> rfl
  · obtain ⟨g, hg, g1, g2⟩ := hQ.1.2.2.1.1
    obtain ⟨m9, hm20, c1, c2, -⟩ := hQ.1.2.2.2.2.2.2.2.2 g hg
    dsimp only at g1 g2 c1 c2
    have hfr : s_frs I = nI m9 := by
      unfold s_frs
      rw [g1, nI_clamp (by omega)]
      exact c1
    rw [hfr] at h1
    obtain ⟨a2, b2, hG, ha2⟩ := hQ.Gx (by omega)
    refine ⟨l_fG hG em, ?_⟩
    rw [← em]
    cases m9 with
    | zero => exact c_X16_cut0 (d := d + 2) hG hX hQ.2.2.2.1.2.2.2.1 hg g2 c2 (k2 _ _ (h_refL hQ ex em ⟨f, hf⟩ hd9 hne) l_th (fun z => absurd z (by decide)))
    | succ m9 => exact c_X16_cut (d := d + 2) hG hX hQ.2.2.2.1.2.2.1 hQ.2.2.2.1.2.2.2.1 hg g2 c2 (by omega) (fun t9 ht9 hx9 _ _ _ _ _ _ _ => absurd (hx9 ▸ h_kj ht9 (by omega)) h1) (fun _ => k2 _ _ (h_refL hQ ex em ⟨f, hf⟩ hd9 hne) l_th (fun z => absurd z (by decide)))
