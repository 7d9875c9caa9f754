/-! 9999999991: frames (printed by wip/whole/p9999999991.py) -/
def v_BMl : List Nat := [f_mr_lowest, f_mr_highest, f_mr_base, f_mr_division, f_mr_wind, f_mr_delay, f_mr_rest, f_mr_power, f_mr_heat, f_m_rankOf, f_mk_kind, f_mk_division, f_mk_isDrawn, f_mk_relay, f_mk_to, f_mk_shift, f_mk_letter, f_mk_stage, f_mk_rows, f_mk_ranks, f_mk_offsets, f_mk_froms, f_mk_tos, f_mk_wires, f_m_isRelay, f_m_first, f_m_second, f_m_operation, f_m_isHeld, f_m_isWanted, f_m_since, f_m_isOpen, f_m_closedSince, f_m_fault, f_m_recording, f_m_supply, f_m_speaks, f_m_begun, f_m_isDown, f_m_wentDown, f_m_tick, f_m_isTutti, f_m_crescendo, f_mt_division, f_mt_at, f_mt_tick, f_mt_is, f_m_kindKept, f_m_winds, f_m_counts, f_m_isCalled]
theorem v_Ta.N4 {T T' : List Nat} {I I' I1 I1' : e_I} {p : e_Sp} {nr n s m : Nat} {t : Nat → Nat} (h : v_Ta p nr n t s m I I') (e : s_eqN T I I1) (e' : s_eqN T' I' I1') (hT : v_dj v_TaC T = true) (hT' : v_dj [f_mt_division, f_mt_at, f_mt_tick, f_mt_is, f_m_tick, f_m_kindKept] T' = true) (h4 : I1' f_l_size 4 = I' f_l_size 4) : v_Ta p nr n t s m I1 I1' := by
  unfold v_Ta v_En at h ⊢
  simp only [h4, e f_tsize (v_dj.o hT (by decide)), e f_entries (v_dj.o hT (by decide)), e f_startedAt (v_dj.o hT (by decide)), e f_r_lowest (v_dj.o hT (by decide)), e' f_mt_division (v_dj.o hT' (by decide)), e' f_mt_at (v_dj.o hT' (by decide)), e' f_mt_tick (v_dj.o hT' (by decide)), e' f_mt_is (v_dj.o hT' (by decide)), e' f_m_tick (v_dj.o hT' (by decide)), e' f_m_kindKept (v_dj.o hT' (by decide))]
  exact h
/-- the same, a list's size changes, but not what is kept -/
theorem v_B.N4 {p : e_Sp} {nk nr np n s m : Nat} {t : Nat → Nat} {I I' I1 I1' : e_I} {J J' J1 J1' : e_Jt} {T T' : List Nat} (h : v_B p nk nr np n t s m (I, J) (I', J')) (e : s_eqN T I I1) (e' : s_eqN T' I' I1') (hT : v_dj v_BC T = true) (hT' : v_dj v_BMl T' = true) (h4 : I1' f_l_size 4 = I' f_l_size 4) (hj : J1 j_allEnds = J j_allEnds) (hj1 : J1' j_m_ended = J' j_m_ended) (hj2 : J1' j_m_allBegun = J' j_m_allBegun) : v_B p nk nr np n t s m (I1, J1) (I1', J1') := by
  obtain ⟨h1, h2, h3, h4'⟩ := h
  exact ⟨h1.re e e' (v_dj.sub hT (by decide)) (v_dj.sub hT' (by decide)) (h1.1.2.2.N e e' (v_dj.sub hT (by decide)) (v_dj.sub hT' (by decide))) (h1.2.2.1.2.1.N4 e e' (v_dj.sub hT (by decide)) (v_dj.sub hT' (by decide)) h4) hj hj1 hj2, h2.N e e' (v_dj.sub hT (by decide)) (v_dj.sub hT' (by decide)), h3.N e' (v_dj.sub hT' (by decide)), h4'.N e e' (v_dj.sub hT (by decide)) (v_dj.sub hT' (by decide))⟩
/-- turning to a frame: what is looked up -/
theorem v_kbf {p : e_Sp} {nk nr np n s m L g e m9 : Nat} {t : Nat → Nat} {a b : e_I × e_Jt} (h : v_Sim p nk nr np n t s m L a b) (hg : g < 4) (eg : b.1 f_m_guest 0 = nI g) (hm : b.1 f_l_size (8 + g) = nI m9) (hm20 : m9 ≤ 20) (he : e < m9) : s_frs a.1 = nI m9 ∧ s_kbf j_a_frameKept a.1 a.2 (nI e) = b.2 j_mf_knobs (64 * g + e) ∧ s_kbf j_a_frameDrawn a.1 a.2 (nI e) = b.2 j_mf_drawn (64 * g + e) := by
  obtain ⟨g', hg', x1, x2⟩ := h.2.2.1.1
  have : g' = g := (nI_eq (by omega) (by omega)).mp (x2.symm.trans eg)
  subst this
  obtain ⟨m', k1, k2, k3, k4⟩ := h.2.2.2.2.2.2.2.2 g' hg
  have : m' = m9 := (nI_eq (by omega) (by omega)).mp (k3.symm.trans hm)
  subst this
  have e1 : s_frs a.1 = nI m' := by
    unfold s_frs
    rw [x1, nI_clamp (by omega), k2]
  unfold s_kbf
  rw [e1, x1, if_pos ⟨nI_pos' (by omega), nI_lt he (by omega)⟩, if_pos ⟨nI_pos' (by omega), nI_lt he (by omega)⟩, show (20 : Int32) = nI 20 from rfl, pk_mul, nI_add, nI_clamp (by omega)]
  exact ⟨rfl, k4 e he⟩
theorem a_frame {p : e_Sp} {nk nr np n s m L g e m9 : Nat} {t : Nat → Nat} {I I' : e_I} {J J' : e_Jt} (h : v_Sim p nk nr np n t s m L (I, J) (I', J')) (hg : g < 4) (eg : I' f_m_guest 0 = nI g) (hm : I' f_l_size (8 + g) = nI m9) (hm20 : m9 < 20) (he : e ≤ m9) : v_Sim p nk nr np n t s m L (s_up I f_a_frameCounts g (nI (m9 + 1)), s_up (s_up (s_cpJ (s_cpJ J j_a_frameKept (g * 20 + e) (g * 20 + e + 1) (m9 - e)) j_a_frameDrawn (g * 20 + e) (g * 20 + e + 1) (m9 - e)) j_a_frameKept (g * 20 + e) (s_b1 nk - 1)) j_a_frameDrawn (g * 20 + e) (s_da I nk (s_b1 nk - 1))) (q_st nk nr np (q_fmI I' g e m9, q_fmJ I' J' nk g e m9)) := by
  obtain ⟨hB, z1, z2, z3, z4, z5, z6⟩ := h
  dsimp only at z1 z2 z3 z4 z5 z6
  have hK : v_Kn I I' nk := hB.1.1.2.1
  have eC : s_eqN [f_a_frameCounts] I (s_up I f_a_frameCounts g (nI (m9 + 1))) := s_eqN.up (by decide)
  have eM : s_eqN [f_mf_isSet, f_l_modCount, f_l_size] I' (q_fmI I' g e m9) := by
    intro F hF
    have h1 : F ≠ f_mf_isSet := fun z => by rw [z] at hF; exact absurd hF (by decide)
    have h2 : F ≠ f_l_modCount := fun z => by rw [z] at hF; exact absurd hF (by decide)
    have h3 : F ≠ f_l_size := fun z => by rw [z] at hF; exact absurd hF (by decide)
    funext i
    unfold q_fmI s_adF s_rnI s_IMFRAME
    rw [s_up_F h3, if_neg h1, s_up_F h2, s_up_F h1]
  have eL : ∀ l, q_fmI I' g e m9 f_l_size l = if l = 8 + g then nI (m9 + 1) else I' f_l_size l := fun l => by
    unfold q_fmI s_adF s_rnI s_IMFRAME
    rw [v_upv]
    split
    · rfl
    · rw [if_neg (by decide), s_up_F (by decide), s_up_F (by decide)]
  have hrun := v_keep9 (kn := j_mf_knobs) (dn := j_mf_drawn) (j := 64 * g + m9) (I := s_IMFRAME I' (64 * g + m9) 0) (c := fun _ => true) (f := q_keJ j_mf_knobs j_mf_drawn (s_IMFRAME I' (64 * g + m9) 0) (64 * g + m9)) (by decide) (fun i J => by rw [if_pos rfl]) (s_JMFRAME J' (64 * g + m9) 0 0) (by unfold s_JMFRAME; rw [s_up_F (by decide), s_up_s]) (by unfold s_JMFRAME; rw [s_up_s]) nk
  have eQ : q_fmJ I' J' nk g e m9 = s_rnJ (s_run (q_keJ j_mf_knobs j_mf_drawn (s_IMFRAME I' (64 * g + m9) 0) (64 * g + m9)) 0 nk (s_JMFRAME J' (64 * g + m9) 0 0)) (s_ri (64 * g) e m9) := rfl
  rw [eQ]
  generalize s_run (q_keJ j_mf_knobs j_mf_drawn (s_IMFRAME I' (64 * g + m9) 0) (64 * g + m9)) 0 nk (s_JMFRAME J' (64 * g + m9) 0 0) = D at *
  obtain ⟨d1, d2, d3⟩ := hrun
  have ed : s_IMFRAME I' (64 * g + m9) 0 f_mk_isDrawn = I' f_mk_isDrawn := by funext i; unfold s_IMFRAME; rw [s_up_F (by decide)]
  rw [ed] at d2
  have d4 : ∀ F i, i ≠ 64 * g + m9 → D F i = J' F i := fun F i hi => by
    rw [d3 F i (fun w => hi w.2) (fun w => hi w.2)]
    unfold s_JMFRAME
    rw [s_up_i hi, s_up_i hi]
  have d5 : ∀ F, F ≠ j_mf_knobs → F ≠ j_mf_drawn → D F = J' F := fun F h1 h2 => by
    funext i
    rw [d3 F i (fun w => h1 w.1) (fun w => h2 w.1)]
    unfold s_JMFRAME
    rw [s_up_F h2, s_up_F h1]
  have d6 : ∀ F, F ≠ j_mf_knobs → F ≠ j_mf_drawn → s_rnJ D (s_ri (64 * g) e m9) F = J' F := fun F h1 h2 => by
    funext i
    unfold s_rnJ
    rw [if_neg (fun w => w.elim h1 h2), d5 F h1 h2]
  have d7 : ∀ F, F = j_mf_knobs ∨ F = j_mf_drawn → ∀ i, s_rnJ D (s_ri (64 * g) e m9) F i = D F (s_ri (64 * g) e m9 i) := fun F hF i => if_pos hF
  rw [v_all hK.1.2, v_kda hK]
  have cj : ∀ F, F ≠ j_a_frameKept → F ≠ j_a_frameDrawn → ∀ (x y : Int64), s_up (s_up (s_cpJ (s_cpJ J j_a_frameKept (g * 20 + e) (g * 20 + e + 1) (m9 - e)) j_a_frameDrawn (g * 20 + e) (g * 20 + e + 1) (m9 - e)) j_a_frameKept (g * 20 + e) x) j_a_frameDrawn (g * 20 + e) y F = J F := fun F h1 h2 x y => by
    funext i
    rw [s_up_F h2, s_up_F h1]
    unfold s_cpJ
    rw [if_neg (fun w => h2 w.1), if_neg (fun w => h1 w.1)]
  have ck : ∀ i (x y : Int64), s_up (s_up (s_cpJ (s_cpJ J j_a_frameKept (g * 20 + e) (g * 20 + e + 1) (m9 - e)) j_a_frameDrawn (g * 20 + e) (g * 20 + e + 1) (m9 - e)) j_a_frameKept (g * 20 + e) x) j_a_frameDrawn (g * 20 + e) y j_a_frameKept i = if i = g * 20 + e then x else if g * 20 + e + 1 ≤ i ∧ i < g * 20 + e + 1 + (m9 - e) then J j_a_frameKept (g * 20 + e + (i - (g * 20 + e + 1))) else J j_a_frameKept i := fun i x y => by
    rw [s_up_F (by decide)]
    by_cases c : i = g * 20 + e
    · rw [if_pos c, c, s_up_s]
    · rw [if_neg c, s_up_i c]
      unfold s_cpJ
      rw [if_neg (fun w => absurd w.1 (by decide))]
      by_cases c2 : g * 20 + e + 1 ≤ i ∧ i < g * 20 + e + 1 + (m9 - e)
      · rw [if_pos c2, if_pos ⟨rfl, c2⟩]
      · rw [if_neg c2, if_neg (fun w => c2 w.2)]
  have cd : ∀ i (x y : Int64), s_up (s_up (s_cpJ (s_cpJ J j_a_frameKept (g * 20 + e) (g * 20 + e + 1) (m9 - e)) j_a_frameDrawn (g * 20 + e) (g * 20 + e + 1) (m9 - e)) j_a_frameKept (g * 20 + e) x) j_a_frameDrawn (g * 20 + e) y j_a_frameDrawn i = if i = g * 20 + e then y else if g * 20 + e + 1 ≤ i ∧ i < g * 20 + e + 1 + (m9 - e) then J j_a_frameDrawn (g * 20 + e + (i - (g * 20 + e + 1))) else J j_a_frameDrawn i := fun i x y => by
    by_cases c : i = g * 20 + e
    · rw [if_pos c, c, s_up_s]
    · rw [if_neg c, s_up_i c, s_up_F (by decide)]
      unfold s_cpJ
      by_cases c2 : g * 20 + e + 1 ≤ i ∧ i < g * 20 + e + 1 + (m9 - e)
      · rw [if_pos c2, if_pos ⟨rfl, c2⟩]
        exact if_neg (fun w => absurd w.1 (by decide))
      · rw [if_neg c2, if_neg (fun w => c2 w.2)]
        exact if_neg (fun w => c2 w.2)
  have hB1 : v_B p nk nr np n t s m (s_up I f_a_frameCounts g (nI (m9 + 1)), s_up (s_up (s_cpJ (s_cpJ J j_a_frameKept (g * 20 + e) (g * 20 + e + 1) (m9 - e)) j_a_frameDrawn (g * 20 + e) (g * 20 + e + 1) (m9 - e)) j_a_frameKept (g * 20 + e) (v_OR (fun _ => true) nk)) j_a_frameDrawn (g * 20 + e) (v_OR (fun i => true && !decide (I' f_mk_isDrawn i = 0)) nk)) (q_fmI I' g e m9, s_rnJ D (s_ri (64 * g) e m9)) := hB.N4 eC eM (by decide) (by decide) (by rw [eL, if_neg (by omega)]) (cj _ (by decide) (by decide) _ _) (d6 _ (by decide) (by decide)) (d6 _ (by decide) (by decide))
  refine ⟨hB1.settled, v_Zs.one ⟨z1.N eC eM (by decide) (by decide), z2.N eC eM (by decide) (by decide), z3.N eC eM (by decide) (by decide), z4.N eC eM (by decide) (by decide), z5.frame eC eM (by decide) (by decide), ?_⟩⟩
  obtain ⟨y1, y2, y3⟩ := z6
  have kk : ∀ c q, v_Kq c q I I' J J' → v_Kq c q (s_up I f_a_frameCounts g (nI (m9 + 1))) (q_fmI I' g e m9) (s_up (s_up (s_cpJ (s_cpJ J j_a_frameKept (g * 20 + e) (g * 20 + e + 1) (m9 - e)) j_a_frameDrawn (g * 20 + e) (g * 20 + e + 1) (m9 - e)) j_a_frameKept (g * 20 + e) (v_OR (fun _ => true) nk)) j_a_frameDrawn (g * 20 + e) (v_OR (fun i => true && !decide (I' f_mk_isDrawn i = 0)) nk)) (s_rnJ D (s_ri (64 * g) e m9)) := fun c q ⟨k1, k2, k3⟩ => ⟨by rw [eC _ (by decide), eM _ (by decide)]; exact k1, by rw [cj _ (by decide) (by decide), d6 _ (by decide) (by decide)]; exact k2, by rw [cj _ (by decide) (by decide), d6 _ (by decide) (by decide)]; exact k3⟩
  refine ⟨fun v y hv hy => kk _ _ (y1 v y hv hy), fun v x y hv hx hy => kk _ _ (y2 v x y hv hx hy), fun g' hg' => ?_⟩
  obtain ⟨m', k1, k2, k3, k4⟩ := y3 g' hg'
  dsimp only
  by_cases c : g' = g
  · subst c
    have : m' = m9 := (nI_eq (by omega) (by omega)).mp (k3.symm.trans hm)
    subst this
    refine ⟨m' + 1, by omega, s_up_s, by rw [eL, if_pos rfl], fun j hj => ?_⟩
    rw [ck, cd, d7 _ (.inl rfl), d7 _ (.inr rfl)]
    unfold s_ri
    by_cases c1 : j = e
    · subst c1
      simp only [if_true]
      rw [d1, d2]
      exact ⟨rfl, rfl⟩
    · simp only [if_neg (show ¬ g' * 20 + j = g' * 20 + e by omega), if_neg (show ¬ 64 * g' + j = 64 * g' + e by omega)]
      by_cases c2 : e < j
      · simp only [if_pos (show g' * 20 + e + 1 ≤ g' * 20 + j ∧ g' * 20 + j < g' * 20 + e + 1 + (m' - e) by omega), if_pos (show 64 * g' + e < 64 * g' + j ∧ 64 * g' + j ≤ 64 * g' + m' by omega)]
        rw [d4 _ _ (by omega), d4 _ _ (by omega), show g' * 20 + e + (g' * 20 + j - (g' * 20 + e + 1)) = g' * 20 + (j - 1) by omega, show 64 * g' + j - 1 = 64 * g' + (j - 1) by omega]
        exact k4 (j - 1) (by omega)
      · simp only [if_neg (show ¬ (g' * 20 + e + 1 ≤ g' * 20 + j ∧ g' * 20 + j < g' * 20 + e + 1 + (m' - e)) by omega), if_neg (show ¬ (64 * g' + e < 64 * g' + j ∧ 64 * g' + j ≤ 64 * g' + m') by omega)]
        rw [d4 _ _ (by omega), d4 _ _ (by omega)]
        exact k4 j (by omega)
  · refine ⟨m', k1, by rw [s_up_i c]; exact k2, by rw [eL, if_neg (by omega)]; exact k3, fun j hj => ?_⟩
    rw [ck, cd, d7 _ (.inl rfl), d7 _ (.inr rfl)]
    unfold s_ri
    simp only [if_neg (show ¬ g' * 20 + j = g * 20 + e by omega), if_neg (show ¬ 64 * g' + j = 64 * g + e by omega), if_neg (show ¬ (g * 20 + e + 1 ≤ g' * 20 + j ∧ g' * 20 + j < g * 20 + e + 1 + (m9 - e)) by omega), if_neg (show ¬ (64 * g + e < 64 * g' + j ∧ 64 * g' + j ≤ 64 * g + m9) by omega)]
    rw [d4 _ _ (by omega), d4 _ _ (by omega)]
    exact k4 j hj
