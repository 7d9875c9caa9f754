/-! 99999999991: stop, coupler, tremulant, both sides -/
def v_cs : List Nat := [f_c_from, f_c_to, f_c_shift, f_c_kind, f_s_stage, f_s_rows, f_s_ranks, f_s_offsets, f_s_firsts, f_s_lasts, f_s_places, f_s_keysAt]
theorem a_knob {p : e_Sp} {nk nr np n s m L : Nat} {t : Nat → Nat} {I I' C : e_I} {J J' : e_Jt} {kd x z s9 t9 : Int32} (h : v_Sim p nk nr np n t s m L (I, J) (I', J')) (h40 : nk < 40) (eC : s_eqN v_cs I C) (ag : ∀ k, k < nk → v_ag v_kF1 v_kF4 v_kF61 k I C) (hnew : v_K (s_adI (s_kI C nk kd x) 1 nk) (s_adI (q_nk I' nk kd x z s9 t9) 3 nk) nk) (hL : L ≤ 2000) (hn : n + np ≤ 1000000) : ∃ n' t', n' ≤ n + np ∧ (¬ I' f_m_recording 0 = 114 → n' = n) ∧ v_Sim p (nk + 1) nr np n' t' s m L (s_stl p (nk + 1) nr (s_adI (s_kI C nk kd x) 1 nk, J)) (q_st (nk + 1) nr np (s_adI (q_nk I' nk kd x z s9 t9) 3 nk, J')) := by
  have hK := h.1.1.1.2.1
  have z1 := h.2.1
  have z5 := h.2.2.2.2.2.1
  dsimp only at hK z1 z5
  have ea : s_eqN [f_l_modCount, f_l_size] (s_kI C nk kd x) (s_adI (s_kI C nk kd x) 1 nk) := v_adN
  have eb : s_eqN [f_l_modCount, f_l_size] (q_nk I' nk kd x z s9 t9) (s_adI (q_nk I' nk kd x z s9 t9) 3 nk) := v_adN
  have hA : ∀ F, F ≠ f_l_modCount → F ≠ f_l_size → ∀ i, s_adI (s_kI C nk kd x) 1 nk F i = s_kI C nk kd x F i := fun F h1 h2 i => by
    unfold s_adI; rw [s_up_F h2, s_up_F h1]
  have hB : ∀ F, F ≠ f_l_modCount → F ≠ f_l_size → ∀ i, s_adI (q_nk I' nk kd x z s9 t9) 3 nk F i = q_nk I' nk kd x z s9 t9 F i := fun F h1 h2 i => by
    unfold s_adI; rw [s_up_F h2, s_up_F h1]
  have kx : ∀ F i, i ≠ nk → s_kI C nk kd x F i = C F i := fun F i hi => by
    unfold s_kI
    rw [s_up_i hi, s_up_i hi, s_up_i hi, s_up_i hi, s_up_i hi, s_up_i hi]
  have qx : ∀ F, F ≠ f_mk_wires → F ≠ f_mk_ranks → F ≠ f_mk_offsets → F ≠ f_mk_froms → F ≠ f_mk_tos → ∀ i, i ≠ nk → q_nk I' nk kd x z s9 t9 F i = I' F i := fun F h1 h2 h3 h4 h5 i hi => by
    unfold q_nk s_IMKNOB
    rw [s_up_i hi, s_up_i hi, s_up_i hi, s_up_i hi, s_up_i hi, s_up_i hi, s_up_i hi, s_up_i hi, s_up_i hi, s_up_i hi, s_up_i hi]
    unfold q_mw
    rw [if_neg (fun w => h1 w.1), if_neg (fun w => w.1.elim h2 (fun w => w.elim h3 (fun w => w.elim h4 h5)))]
  obtain ⟨k1, k2, k3, k4, k5, k6⟩ := v_kIv (I := C) (j := nk) (x := kd) (y := x)
  obtain ⟨q1, q2, q3, q4, q5, q6, q7, q8, q9, q10, q11⟩ := v_nkv (I := I') (j := nk) (x := kd) (y := x) (z := z) (s := s9) (t := t9)
  refine a_grow h ((eC.mono (by decide)).trans (v_kIN.trans (ea.mono (by decide)))) (v_nkN.trans (eb.mono (by decide))) (hK.grow h40 (fun k hk => ((ag k hk).trans (v_kIag (by omega))).trans (v_ag.off ea (by decide) (by decide) (by decide))) (fun k hk => (v_nkag (by omega)).trans (v_ag.off eb (by decide) (by decide) (by decide))) hnew) (fun k hk => ?_) (fun k hk => ?_) (fun F hF => ?_) (fun F hF => ?_) (fun l hl => ?_) hL hn
  · rw [hA _ (by decide) (by decide), hB _ (by decide) (by decide)]
    by_cases c : k = nk
    · rw [c, k4, q7]
    · rw [kx _ _ c, qx _ (by decide) (by decide) (by decide) (by decide) (by decide) _ c, eC _ (by decide)]
      exact z1.2.2.2.2.2.1 k (by omega)
  · rw [hA _ (by decide) (by decide), hB _ (by decide) (by decide)]
    by_cases c : k = nk
    · rw [c, k5, q8]
    · rw [kx _ _ c, qx _ (by decide) (by decide) (by decide) (by decide) (by decide) _ c, eC _ (by decide)]
      exact z1.2.2.2.2.2.2 k (by omega)
  · intro i
    have hF' : F = f_p_isOpened ∨ F = f_p_isSpeaking ∨ F = f_isTutti ∨ F = f_k_isOut ∨ F = f_k_isLocked ∨ F = f_k_isInScope := by simpa [v_bC] using hF
    have h1 : F ≠ f_l_modCount := fun z => by rw [z] at hF; exact absurd hF (by decide)
    have h2 : F ≠ f_l_size := fun z => by rw [z] at hF; exact absurd hF (by decide)
    have h3 : C F = I F := eC F (by rcases hF' with w | w | w | w | w | w <;> rw [w] <;> decide)
    have hk9 : s_eqN [f_k_kind, f_k_division, f_k_isOut, f_k_isLocked, f_k_isInScope, f_k_relay] C (s_kI C nk kd x) := (((((s_eqN.up (by decide)).trans (s_eqN.up (by decide))).trans (s_eqN.up (by decide))).trans (s_eqN.up (by decide))).trans (s_eqN.up (by decide))).trans (s_eqN.up (by decide))
    rw [hA F h1 h2]
    by_cases c : i = nk
    · rcases hF' with w | w | w | w | w | w
      · rw [w, hk9 _ (by decide), ← w, h3]; exact z5.1 F hF i
      · rw [w, hk9 _ (by decide), ← w, h3]; exact z5.1 F hF i
      · rw [w, hk9 _ (by decide), ← w, h3]; exact z5.1 F hF i
      · rw [w, c, k3]; exact .inl rfl
      · rw [w, c, k4]; exact .inl rfl
      · rw [w, c, k5]; exact .inr rfl
    · rw [kx F i c, h3]; exact z5.1 F hF i
  · intro i
    have hF' : F = f_m_isDown ∨ F = f_m_isRelay ∨ F = f_m_isOpen ∨ F = f_m_speaks ∨ F = f_mk_isDrawn ∨ F = f_mk_isLocked ∨ F = f_mk_isIn ∨ F = f_m_isTutti := by simpa [v_bM] using hF
    have hn9 : ∀ G, v_bM.contains G = false → F ≠ G := fun G hG z => by rw [z, hG] at hF; exact absurd hF (by decide)
    have hq9 : s_eqN v_gM I' (q_nk I' nk kd x z s9 t9) := v_nkN
    rw [hB F (hn9 _ (by decide)) (hn9 _ (by decide))]
    by_cases c : i = nk
    · rcases hF' with w | w | w | w | w | w | w | w
      · rw [w, hq9 _ (by decide), ← w]; exact z5.2.1 F hF i
      · rw [w, hq9 _ (by decide), ← w]; exact z5.2.1 F hF i
      · rw [w, hq9 _ (by decide), ← w]; exact z5.2.1 F hF i
      · rw [w, hq9 _ (by decide), ← w]; exact z5.2.1 F hF i
      · rw [w, c, q6]; exact .inl rfl
      · rw [w, c, q7]; exact .inl rfl
      · rw [w, c, q8]; exact .inr rfl
      · rw [w, hq9 _ (by decide), ← w]; exact z5.2.1 F hF i
    · rw [qx F (hn9 _ (by decide)) (hn9 _ (by decide)) (hn9 _ (by decide)) (hn9 _ (by decide)) (hn9 _ (by decide)) i c]; exact z5.2.1 F hF i
  · have hq9 : s_eqN v_mF1 I' I' := s_eqN.rfl'
    unfold s_adI
    rw [s_up_i (by omega), s_up_F (by decide)]
    unfold q_nk s_IMKNOB
    rw [s_up_F (by decide), s_up_F (by decide), s_up_F (by decide), s_up_F (by decide), s_up_F (by decide), s_up_F (by decide), s_up_F (by decide), s_up_F (by decide), s_up_F (by decide), s_up_F (by decide), s_up_F (by decide)]
    unfold q_mw
    rw [if_neg (fun w => absurd w.1 (by decide)), if_neg (fun w => absurd w.1 (by decide))]
