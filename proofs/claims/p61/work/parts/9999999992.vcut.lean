/-! 9999999992: frames are cut -/
theorem a_cut {p : e_Sp} {nk nr np n s m L g e m9 : Nat} {t : Nat → Nat} {I I' : e_I} {J J' : e_Jt} (h : v_Sim p nk nr np n t s m L (I, J) (I', J')) (hg : g < 4) (hm : I' f_l_size (8 + g) = nI (m9 + 1)) (hm20 : m9 < 20) (he : e ≤ m9) : v_Sim p nk nr np n t s m L (s_up I f_a_frameCounts g (nI m9), s_cpJ (s_cpJ J j_a_frameKept (g * 20 + e + 1) (g * 20 + e) (m9 - e)) j_a_frameDrawn (g * 20 + e + 1) (g * 20 + e) (m9 - e)) (q_st nk nr np (q_cuI I' g e m9, q_cuJ J' g e m9)) := by
  obtain ⟨hB, z1, z2, z3, z4, z5, z6⟩ := h
  dsimp only at z1 z2 z3 z4 z5 z6
  have eC : s_eqN [f_a_frameCounts] I (s_up I f_a_frameCounts g (nI m9)) := s_eqN.up (by decide)
  have eM : s_eqN [f_mf_isSet, f_l_modCount, f_l_size] I' (q_cuI I' g e m9) := by
    intro F hF
    have h1 : F ≠ f_mf_isSet := fun z => by rw [z] at hF; exact absurd hF (by decide)
    have h2 : F ≠ f_l_modCount := fun z => by rw [z] at hF; exact absurd hF (by decide)
    have h3 : F ≠ f_l_size := fun z => by rw [z] at hF; exact absurd hF (by decide)
    funext i
    unfold q_cuI s_rnI
    rw [s_up_F h3, if_neg h1, s_up_F h2]
  have eL : ∀ l, q_cuI I' g e m9 f_l_size l = if l = 8 + g then nI m9 else I' f_l_size l := fun l => by
    unfold q_cuI s_rnI
    rw [v_upv]
    split
    · rfl
    · rw [if_neg (by decide), s_up_F (by decide)]
  have d6 : ∀ F, F ≠ j_mf_knobs → F ≠ j_mf_drawn → q_cuJ J' g e m9 F = J' F := fun F h1 h2 => by
    funext i
    unfold q_cuJ s_rnJ
    rw [if_neg (fun w => w.elim h1 h2)]
  have d7 : ∀ F, F = j_mf_knobs ∨ F = j_mf_drawn → ∀ i, q_cuJ J' g e m9 F i = J' F (s_rj (64 * g) e m9 i) := fun F hF i => if_pos hF
  have cj : ∀ F, F ≠ j_a_frameKept → F ≠ j_a_frameDrawn → s_cpJ (s_cpJ J j_a_frameKept (g * 20 + e + 1) (g * 20 + e) (m9 - e)) j_a_frameDrawn (g * 20 + e + 1) (g * 20 + e) (m9 - e) F = J F := fun F h1 h2 => by
    funext i
    unfold s_cpJ
    rw [if_neg (fun w => h2 w.1), if_neg (fun w => h1 w.1)]
  have ck : ∀ i, s_cpJ (s_cpJ J j_a_frameKept (g * 20 + e + 1) (g * 20 + e) (m9 - e)) j_a_frameDrawn (g * 20 + e + 1) (g * 20 + e) (m9 - e) j_a_frameKept i = if g * 20 + e ≤ i ∧ i < g * 20 + e + (m9 - e) then J j_a_frameKept (g * 20 + e + 1 + (i - (g * 20 + e))) else J j_a_frameKept i := fun i => by
    unfold s_cpJ
    rw [if_neg (fun w => absurd w.1 (by decide))]
    by_cases c2 : g * 20 + e ≤ i ∧ i < g * 20 + e + (m9 - e)
    · rw [if_pos c2, if_pos ⟨rfl, c2⟩]
    · rw [if_neg c2, if_neg (fun w => c2 w.2)]
  have cd : ∀ i, s_cpJ (s_cpJ J j_a_frameKept (g * 20 + e + 1) (g * 20 + e) (m9 - e)) j_a_frameDrawn (g * 20 + e + 1) (g * 20 + e) (m9 - e) j_a_frameDrawn i = if g * 20 + e ≤ i ∧ i < g * 20 + e + (m9 - e) then J j_a_frameDrawn (g * 20 + e + 1 + (i - (g * 20 + e))) else J j_a_frameDrawn i := fun i => by
    unfold s_cpJ
    by_cases c2 : g * 20 + e ≤ i ∧ i < g * 20 + e + (m9 - e)
    · rw [if_pos c2, if_pos ⟨rfl, c2⟩]
      exact if_neg (fun w => absurd w.1 (by decide))
    · rw [if_neg c2, if_neg (fun w => c2 w.2)]
      exact if_neg (fun w => c2 w.2)
  have hB1 : v_B p nk nr np n t s m (s_up I f_a_frameCounts g (nI m9), s_cpJ (s_cpJ J j_a_frameKept (g * 20 + e + 1) (g * 20 + e) (m9 - e)) j_a_frameDrawn (g * 20 + e + 1) (g * 20 + e) (m9 - e)) (q_cuI I' g e m9, q_cuJ J' g e m9) := hB.N4 eC eM (by decide) (by decide) (by rw [eL, if_neg (by omega)]) (cj _ (by decide) (by decide)) (d6 _ (by decide) (by decide)) (d6 _ (by decide) (by decide))
  refine ⟨hB1.settled, v_Zs.one ⟨z1.N eC eM (by decide) (by decide), z2.N eC eM (by decide) (by decide), z3.N eC eM (by decide) (by decide), z4.N eC eM (by decide) (by decide), z5.frame eC eM (by decide) (by decide), ?_⟩⟩
  obtain ⟨y1, y2, y3⟩ := z6
  have kk : ∀ c q, v_Kq c q I I' J J' → v_Kq c q (s_up I f_a_frameCounts g (nI m9)) (q_cuI I' g e m9) (s_cpJ (s_cpJ J j_a_frameKept (g * 20 + e + 1) (g * 20 + e) (m9 - e)) j_a_frameDrawn (g * 20 + e + 1) (g * 20 + e) (m9 - e)) (q_cuJ J' g e m9) := fun c q ⟨k1, k2, k3⟩ => ⟨by rw [eC _ (by decide), eM _ (by decide)]; exact k1, by rw [cj _ (by decide) (by decide), d6 _ (by decide) (by decide)]; exact k2, by rw [cj _ (by decide) (by decide), d6 _ (by decide) (by decide)]; exact k3⟩
  refine ⟨fun v y hv hy => kk _ _ (y1 v y hv hy), fun v x y hv hx hy => kk _ _ (y2 v x y hv hx hy), fun g' hg' => ?_⟩
  obtain ⟨m', k1, k2, k3, k4⟩ := y3 g' hg'
  dsimp only
  by_cases c : g' = g
  · subst c
    have : m' = m9 + 1 := (nI_eq (by omega) (by omega)).mp (k3.symm.trans hm)
    subst this
    refine ⟨m9, by omega, s_up_s, by rw [eL, if_pos rfl], fun j hj => ?_⟩
    rw [ck, cd, d7 _ (.inl rfl), d7 _ (.inr rfl)]
    unfold s_rj
    simp only [if_neg (show ¬ 64 * g' + j = 64 * g' + m9 by omega)]
    by_cases c2 : e ≤ j
    · simp only [if_pos (show g' * 20 + e ≤ g' * 20 + j ∧ g' * 20 + j < g' * 20 + e + (m9 - e) by omega), if_pos (show 64 * g' + e ≤ 64 * g' + j ∧ 64 * g' + j < 64 * g' + m9 by omega)]
      rw [show g' * 20 + e + 1 + (g' * 20 + j - (g' * 20 + e)) = g' * 20 + (j + 1) by omega, show 64 * g' + j + 1 = 64 * g' + (j + 1) by omega]
      exact k4 (j + 1) (by omega)
    · simp only [if_neg (show ¬ (g' * 20 + e ≤ g' * 20 + j ∧ g' * 20 + j < g' * 20 + e + (m9 - e)) by omega), if_neg (show ¬ (64 * g' + e ≤ 64 * g' + j ∧ 64 * g' + j < 64 * g' + m9) by omega)]
      exact k4 j (by omega)
  · refine ⟨m', k1, by rw [s_up_i c]; exact k2, by rw [eL, if_neg (by omega)]; exact k3, fun j hj => ?_⟩
    rw [ck, cd, d7 _ (.inl rfl), d7 _ (.inr rfl)]
    unfold s_rj
    simp only [if_neg (show ¬ 64 * g' + j = 64 * g + m9 by omega), if_neg (show ¬ (g * 20 + e ≤ g' * 20 + j ∧ g' * 20 + j < g * 20 + e + (m9 - e)) by omega), if_neg (show ¬ (64 * g + e ≤ 64 * g' + j ∧ 64 * g' + j < 64 * g + m9) by omega)]
    exact k4 j hj
