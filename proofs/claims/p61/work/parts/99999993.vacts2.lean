/-! 99999993: acts on both sides that settle (printed by wip/whole/p99999993.py) -/
theorem a_tutti {p : e_Sp} {nk nr np n s m L : Nat} {t : Nat → Nat} {I I' : e_I} {J J' : e_Jt} {y : Int32} (hb : y = 0 ∨ y = 1) (h : v_Sim p nk nr np n t s m L (I, J) (I', J')) (hL : L ≤ 2000) (hn : n + np ≤ 1000000) : ∃ n' t', n' ≤ n + np ∧ (¬ I' f_m_recording 0 = 114 → n' = n) ∧ v_Sim p nk nr np n' t' s m L (s_stl p nk nr (s_up I f_isTutti 0 y, J)) (q_st nk nr np (s_up I' f_m_isTutti 0 y, J')) := by
  obtain ⟨⟨hR, hF, hX, hK⟩, z1, z2, z3, z4, z5, z6⟩ := h
  have hC := v_Cw.of hX z1.2.1
  have e : s_eqN [f_isTutti] I (s_up I f_isTutti 0 y) := s_eqN.up (by decide)
  have e' : s_eqN [f_m_isTutti] I' (s_up I' f_m_isTutti 0 y) := s_eqN.up (by decide)
  have ht := hR.2.2.1.2.1.N e e' (by decide) (by decide)
  have hy := hR.1.2.2
  have er : (s_up I' f_m_isTutti 0 y) f_m_recording 0 = I' f_m_recording 0 := by rw [e' _ (by decide)]
  have hR1 : v_Rel p nk nr np n t s m (s_up I f_isTutti 0 y) (s_up I' f_m_isTutti 0 y) J J' := hR.re e e' (by decide) (by decide) hy.tutti ht rfl rfl rfl
  obtain ⟨n', t', k1, k2, k3⟩ := v_settleS (L := L) hR1 (hK.N e e' (by decide) (by decide)) ⟨z1.N e e' (by decide) (by decide), z2.N e e' (by decide) (by decide), z3.N e e' (by decide) (by decide), z4.N e e' (by decide) (by decide), z5.up hb (by decide) (by decide) (by decide) (by decide), z6.N e e' (by decide) (by decide) (fun l _ => by dsimp only; rw [e' _ (by decide)]) v_eqJ.rfl' v_eqJ.rfl'⟩ (hC.N e' (by decide)) hL hn
  exact ⟨n', t', k1, fun z => k2 (by rw [er]; exact z), k3⟩
theorem a_crescendo {p : e_Sp} {nk nr np n s m L : Nat} {t : Nat → Nat} {I I' : e_I} {J J' : e_Jt} {y : Int32} (h : v_Sim p nk nr np n t s m L (I, J) (I', J')) (hL : L ≤ 2000) (hn : n + np ≤ 1000000) : ∃ n' t', n' ≤ n + np ∧ (¬ I' f_m_recording 0 = 114 → n' = n) ∧ v_Sim p nk nr np n' t' s m L (s_stl p nk nr (s_up I f_crescendo 0 y, J)) (q_st nk nr np (s_up I' f_m_crescendo 0 y, J')) := by
  obtain ⟨⟨hR, hF, hX, hK⟩, z1, z2, z3, z4, z5, z6⟩ := h
  have hC := v_Cw.of hX z1.2.1
  have e : s_eqN [f_crescendo] I (s_up I f_crescendo 0 y) := s_eqN.up (by decide)
  have e' : s_eqN [f_m_crescendo] I' (s_up I' f_m_crescendo 0 y) := s_eqN.up (by decide)
  have ht := hR.2.2.1.2.1.N e e' (by decide) (by decide)
  have hy := hR.1.2.2
  have er : (s_up I' f_m_crescendo 0 y) f_m_recording 0 = I' f_m_recording 0 := by rw [e' _ (by decide)]
  have hR1 : v_Rel p nk nr np n t s m (s_up I f_crescendo 0 y) (s_up I' f_m_crescendo 0 y) J J' := hR.re e e' (by decide) (by decide) hy.crescendo ht rfl rfl rfl
  obtain ⟨n', t', k1, k2, k3⟩ := v_settleS (L := L) hR1 (hK.N e e' (by decide) (by decide)) ⟨z1.N e e' (by decide) (by decide), z2.N e e' (by decide) (by decide), z3.N e e' (by decide) (by decide), z4.N e e' (by decide) (by decide), z5.frame e e' (by decide) (by decide), z6.N e e' (by decide) (by decide) (fun l _ => by dsimp only; rw [e' _ (by decide)]) v_eqJ.rfl' v_eqJ.rfl'⟩ (hC.N e' (by decide)) hL hn
  exact ⟨n', t', k1, fun z => k2 (by rw [er]; exact z), k3⟩
theorem a_draw {p : e_Sp} {nk nr np n s m L : Nat} {t : Nat → Nat} {I I' : e_I} {J J' : e_Jt} {j : Nat} {y : Int32} (hb : y = 0 ∨ y = 1) (h : v_Sim p nk nr np n t s m L (I, J) (I', J')) (hL : L ≤ 2000) (hn : n + np ≤ 1000000) : ∃ n' t', n' ≤ n + np ∧ (¬ I' f_m_recording 0 = 114 → n' = n) ∧ v_Sim p nk nr np n' t' s m L (s_stl p nk nr (s_up I f_k_isOut j y, J)) (q_st nk nr np (s_up I' f_mk_isDrawn j y, J')) := by
  obtain ⟨⟨hR, hF, hX, hK⟩, z1, z2, z3, z4, z5, z6⟩ := h
  have hC := v_Cw.of hX z1.2.1
  have e : s_eqN [f_k_isOut] I (s_up I f_k_isOut j y) := s_eqN.up (by decide)
  have e' : s_eqN [f_mk_isDrawn] I' (s_up I' f_mk_isDrawn j y) := s_eqN.up (by decide)
  have ht := hR.2.2.1.2.1.N e e' (by decide) (by decide)
  have hy := hR.1.2.2
  have er : (s_up I' f_mk_isDrawn j y) f_m_recording 0 = I' f_m_recording 0 := by rw [e' _ (by decide)]
  have hR1 : v_Rel p nk nr np n t s m (s_up I f_k_isOut j y) (s_up I' f_mk_isDrawn j y) J J' := hR.rkn e e' (by decide) (by decide) hR.1.2.1.draw (hy.N e e' (by decide) (by decide)) ht
  obtain ⟨n', t', k1, k2, k3⟩ := v_settleS (L := L) hR1 (hK.N e e' (by decide) (by decide)) ⟨z1.N e e' (by decide) (by decide), z2.N e e' (by decide) (by decide), z3.N e e' (by decide) (by decide), z4.N e e' (by decide) (by decide), z5.up hb (by decide) (by decide) (by decide) (by decide), z6.N e e' (by decide) (by decide) (fun l _ => by dsimp only; rw [e' _ (by decide)]) v_eqJ.rfl' v_eqJ.rfl'⟩ (hC.N e' (by decide)) hL hn
  exact ⟨n', t', k1, fun z => k2 (by rw [er]; exact z), k3⟩
theorem a_drive {p : e_Sp} {nk nr np n s m L : Nat} {t : Nat → Nat} {I I' : e_I} {J J' : e_Jt} {j : Nat} {y : Int32} (hb : y = -1 ∨ ∃ r, r < 16 ∧ y = nI r) (h : v_Sim p nk nr np n t s m L (I, J) (I', J')) (hL : L ≤ 2000) (hn : n + np ≤ 1000000) : ∃ n' t', n' ≤ n + np ∧ (¬ I' f_m_recording 0 = 114 → n' = n) ∧ v_Sim p nk nr np n' t' s m L (s_stl p nk nr (s_up I f_k_relay j y, J)) (q_st nk nr np (s_up I' f_mk_relay j y, J')) := by
  obtain ⟨⟨hR, hF, hX, hK⟩, z1, z2, z3, z4, z5, z6⟩ := h
  have hC := v_Cw.of hX z1.2.1
  have e : s_eqN [f_k_relay] I (s_up I f_k_relay j y) := s_eqN.up (by decide)
  have e' : s_eqN [f_mk_relay] I' (s_up I' f_mk_relay j y) := s_eqN.up (by decide)
  have ht := hR.2.2.1.2.1.N e e' (by decide) (by decide)
  have hy := hR.1.2.2
  have er : (s_up I' f_mk_relay j y) f_m_recording 0 = I' f_m_recording 0 := by rw [e' _ (by decide)]
  have hR1 : v_Rel p nk nr np n t s m (s_up I f_k_relay j y) (s_up I' f_mk_relay j y) J J' := hR.rkn e e' (by decide) (by decide) (hR.1.2.1.drive hb) (hy.N e e' (by decide) (by decide)) ht
  obtain ⟨n', t', k1, k2, k3⟩ := v_settleS (L := L) hR1 (hK.N e e' (by decide) (by decide)) ⟨z1.N e e' (by decide) (by decide), z2.N e e' (by decide) (by decide), z3.N e e' (by decide) (by decide), z4.N e e' (by decide) (by decide), z5.frame e e' (by decide) (by decide), z6.N e e' (by decide) (by decide) (fun l _ => by dsimp only; rw [e' _ (by decide)]) v_eqJ.rfl' v_eqJ.rfl'⟩ (hC.N e' (by decide)) hL hn
  exact ⟨n', t', k1, fun z => k2 (by rw [er]; exact z), k3⟩
theorem a_stage {p : e_Sp} {nk nr np n s m L : Nat} {t : Nat → Nat} {I I' : e_I} {J J' : e_Jt} {j : Nat} {y : Int32} (h : v_Sim p nk nr np n t s m L (I, J) (I', J')) (hL : L ≤ 2000) (hn : n + np ≤ 1000000) : ∃ n' t', n' ≤ n + np ∧ (¬ I' f_m_recording 0 = 114 → n' = n) ∧ v_Sim p nk nr np n' t' s m L (s_stl p nk nr (s_up I f_s_stage j y, J)) (q_st nk nr np (s_up I' f_mk_stage j y, J')) := by
  obtain ⟨⟨hR, hF, hX, hK⟩, z1, z2, z3, z4, z5, z6⟩ := h
  have hC := v_Cw.of hX z1.2.1
  have e : s_eqN [f_s_stage] I (s_up I f_s_stage j y) := s_eqN.up (by decide)
  have e' : s_eqN [f_mk_stage] I' (s_up I' f_mk_stage j y) := s_eqN.up (by decide)
  have ht := hR.2.2.1.2.1.N e e' (by decide) (by decide)
  have hy := hR.1.2.2
  have er : (s_up I' f_mk_stage j y) f_m_recording 0 = I' f_m_recording 0 := by rw [e' _ (by decide)]
  have hR1 : v_Rel p nk nr np n t s m (s_up I f_s_stage j y) (s_up I' f_mk_stage j y) J J' := hR.rkn e e' (by decide) (by decide) hR.1.2.1.stage (hy.N e e' (by decide) (by decide)) ht
  obtain ⟨n', t', k1, k2, k3⟩ := v_settleS (L := L) hR1 (hK.N e e' (by decide) (by decide)) ⟨z1.N e e' (by decide) (by decide), z2.N e e' (by decide) (by decide), z3.N e e' (by decide) (by decide), z4.N e e' (by decide) (by decide), z5.frame e e' (by decide) (by decide), z6.N e e' (by decide) (by decide) (fun l _ => by dsimp only; rw [e' _ (by decide)]) v_eqJ.rfl' v_eqJ.rfl'⟩ (hC.N e' (by decide)) hL hn
  exact ⟨n', t', k1, fun z => k2 (by rw [er]; exact z), k3⟩
theorem a_supply {p : e_Sp} {nk nr np n s m L : Nat} {t : Nat → Nat} {I I' : e_I} {J J' : e_Jt} {j : Nat} {y : Int32} (h : v_Sim p nk nr np n t s m L (I, J) (I', J')) (hL : L ≤ 2000) (hn : n + np ≤ 1000000) : ∃ n' t', n' ≤ n + np ∧ (¬ I' f_m_recording 0 = 114 → n' = n) ∧ v_Sim p nk nr np n' t' s m L (s_stl p nk nr (s_up I f_a_supplies j y, J)) (q_st nk nr np (s_up I' f_m_supply j y, J')) := by
  obtain ⟨⟨hR, hF, hX, hK⟩, z1, z2, z3, z4, z5, z6⟩ := h
  have hC := v_Cw.of hX z1.2.1
  have e : s_eqN [f_a_supplies] I (s_up I f_a_supplies j y) := s_eqN.up (by decide)
  have e' : s_eqN [f_m_supply] I' (s_up I' f_m_supply j y) := s_eqN.up (by decide)
  have ht := hR.2.2.1.2.1.N e e' (by decide) (by decide)
  have hy := hR.1.2.2
  have er : (s_up I' f_m_supply j y) f_m_recording 0 = I' f_m_recording 0 := by rw [e' _ (by decide)]
  have hR1 : v_Rel p nk nr np n t s m (s_up I f_a_supplies j y) (s_up I' f_m_supply j y) J J' := hR.rsu e e' (by decide) (by decide) (v_eq_up hR.2.2.1.2.2.2) (hy.N e e' (by decide) (by decide)) ht
  obtain ⟨n', t', k1, k2, k3⟩ := v_settleS (L := L) hR1 (hK.N e e' (by decide) (by decide)) ⟨z1.N e e' (by decide) (by decide), z2.N e e' (by decide) (by decide), z3.N e e' (by decide) (by decide), z4.N e e' (by decide) (by decide), z5.frame e e' (by decide) (by decide), z6.N e e' (by decide) (by decide) (fun l _ => by dsimp only; rw [e' _ (by decide)]) v_eqJ.rfl' v_eqJ.rfl'⟩ (hC.N e' (by decide)) hL hn
  exact ⟨n', t', k1, fun z => k2 (by rw [er]; exact z), k3⟩
theorem v_Pp.fault {I I' : e_I} {np j : Nat} {y : Int32} (h : v_Pp np I I') : v_Pp np (s_up I f_p_fault j y) (s_up I' f_m_fault j y) := fun q hq => by
  obtain ⟨a1, a2, a3, a4, a5, a6⟩ := h q hq
  have e : s_eqN [f_p_fault] I (s_up I f_p_fault j y) := s_eqN.up (by decide)
  have e' : s_eqN [f_m_fault] I' (s_up I' f_m_fault j y) := s_eqN.up (by decide)
  unfold v_P1
  rw [e f_p_isHeld (by decide), e f_p_isWanted (by decide), e f_p_changedAt (by decide), e f_p_isOpened (by decide), e f_p_closedAt (by decide), e' f_m_isHeld (by decide), e' f_m_isWanted (by decide), e' f_m_since (by decide), e' f_m_isOpen (by decide), e' f_m_closedSince (by decide)]
  refine ⟨a1, a2, a3, a4, a5, ?_⟩
  by_cases c : q = j
  · rw [c, s_up_s, s_up_s]
  · rw [s_up_i c, s_up_i c]; exact a6
theorem v_Z5.fault {I I' : e_I} {j : Nat} {x : Int32} (h : v_Z5 I I') (hx : vp_nar .char x = x) : v_Z5 (s_up I f_p_fault j x) (s_up I' f_m_fault j x) := by
  obtain ⟨h1, h2, h3, h4, h5, h6⟩ := h
  have e : s_eqN [f_p_fault] I (s_up I f_p_fault j x) := s_eqN.up (by decide)
  have e' : s_eqN [f_m_fault] I' (s_up I' f_m_fault j x) := s_eqN.up (by decide)
  refine ⟨fun F hF => v_bo_eq (h1 F hF) (e F (v_dj.o (show v_dj v_bC [f_p_fault] = true by decide) hF)), fun F hF => v_bo_eq (h2 F hF) (e' F (v_dj.o (show v_dj v_bM [f_m_fault] = true by decide) hF)), fun i => ?_, fun i => ?_, ?_, ?_⟩
  · unfold s_up
    split
    · exact hx
    · exact h3 i
  · unfold s_up
    split
    · exact hx
    · exact h4 i
  · unfold v_ch; rw [e _ (by decide)]; exact h5
  · unfold v_ch; rw [e' _ (by decide)]; exact h6
theorem a_fault {p : e_Sp} {nk nr np n s m L : Nat} {t : Nat → Nat} {I I' : e_I} {J J' : e_Jt} {j : Nat} {y : Int32} (hb : vp_nar .char y = y) (h : v_Sim p nk nr np n t s m L (I, J) (I', J')) (hL : L ≤ 2000) (hn : n + np ≤ 1000000) : ∃ n' t', n' ≤ n + np ∧ (¬ I' f_m_recording 0 = 114 → n' = n) ∧ v_Sim p nk nr np n' t' s m L (s_stl p nk nr (s_up I f_p_fault j y, J)) (q_st nk nr np (s_up I' f_m_fault j y, J')) := by
  obtain ⟨⟨hR, hF, hX, hK⟩, z1, z2, z3, z4, z5, z6⟩ := h
  have hC := v_Cw.of hX z1.2.1
  have e : s_eqN [f_p_fault] I (s_up I f_p_fault j y) := s_eqN.up (by decide)
  have e' : s_eqN [f_m_fault] I' (s_up I' f_m_fault j y) := s_eqN.up (by decide)
  have ht := hR.2.2.1.2.1.N e e' (by decide) (by decide)
  have hy := hR.1.2.2
  have er : (s_up I' f_m_fault j y) f_m_recording 0 = I' f_m_recording 0 := by rw [e' _ (by decide)]
  have hR1 : v_Rel p nk nr np n t s m (s_up I f_p_fault j y) (s_up I' f_m_fault j y) J J' := hR.rpp e e' (by decide) (by decide) hR.2.2.1.1.fault (hy.N e e' (by decide) (by decide)) ht
  obtain ⟨n', t', k1, k2, k3⟩ := v_settleS (L := L) hR1 (hK.N e e' (by decide) (by decide)) ⟨z1.N e e' (by decide) (by decide), z2.N e e' (by decide) (by decide), z3.N e e' (by decide) (by decide), z4.N e e' (by decide) (by decide), z5.fault hb, z6.N e e' (by decide) (by decide) (fun l _ => by dsimp only; rw [e' _ (by decide)]) v_eqJ.rfl' v_eqJ.rfl'⟩ (hC.N e' (by decide)) hL hn
  exact ⟨n', t', k1, fun z => k2 (by rw [er]; exact z), k3⟩
