/-! 99999996: acts after which one side alone settles (printed by wip/whole/p99999996.py) -/
theorem a_lock {p : e_Sp} {nk nr np n s m L : Nat} {t : Nat → Nat} {I I' : e_I} {J J' : e_Jt} {j : Nat} {y : Int32} (hb : y = 0 ∨ y = 1) (h : v_Sim p nk nr np n t s m L (I, J) (I', J')) : v_Sim p nk nr np n t s m L (s_up I f_k_isLocked j y, J) (q_st nk nr np (s_up I' f_mk_isLocked j y, J')) := by
  obtain ⟨hB, z1, z2, z3, z4, z5, z6⟩ := h
  have e : s_eqN [f_k_isLocked] I (s_up I f_k_isLocked j y) := s_eqN.up (by decide)
  have e' : s_eqN [f_mk_isLocked] I' (s_up I' f_mk_isLocked j y) := s_eqN.up (by decide)
  exact v_quietS hB e e' (by decide) (by decide) rfl rfl rfl ⟨⟨(fun q hq => by dsimp only; rw [e _ (by decide), e' _ (by decide)]; exact z1.1 q hq), (fun q hq => by dsimp only; rw [e' _ (by decide)]; exact z1.2.1 q hq), (by dsimp only; rw [e _ (by decide), e' _ (by decide)]; exact z1.2.2.1), (z1.2.2.2.1.N e e' (by decide) (by decide)), (z1.2.2.2.2.1.N e e' (by decide) (by decide)), v_eq_up z1.2.2.2.2.2.1, (z1.2.2.2.2.2.2.N e e' (by decide) (by decide))⟩, z2.N e e' (by decide) (by decide), z3.N e e' (by decide) (by decide), z4.N e e' (by decide) (by decide), z5.up hb (by decide) (by decide) (by decide) (by decide), z6.N e e' (by decide) (by decide) (fun l _ => by dsimp only; rw [e' _ (by decide)]) v_eqJ.rfl' v_eqJ.rfl'⟩
theorem a_scope {p : e_Sp} {nk nr np n s m L : Nat} {t : Nat → Nat} {I I' : e_I} {J J' : e_Jt} {j : Nat} {y : Int32} (hb : y = 0 ∨ y = 1) (h : v_Sim p nk nr np n t s m L (I, J) (I', J')) : v_Sim p nk nr np n t s m L (s_up I f_k_isInScope j y, J) (q_st nk nr np (s_up I' f_mk_isIn j y, J')) := by
  obtain ⟨hB, z1, z2, z3, z4, z5, z6⟩ := h
  have e : s_eqN [f_k_isInScope] I (s_up I f_k_isInScope j y) := s_eqN.up (by decide)
  have e' : s_eqN [f_mk_isIn] I' (s_up I' f_mk_isIn j y) := s_eqN.up (by decide)
  exact v_quietS hB e e' (by decide) (by decide) rfl rfl rfl ⟨⟨(fun q hq => by dsimp only; rw [e _ (by decide), e' _ (by decide)]; exact z1.1 q hq), (fun q hq => by dsimp only; rw [e' _ (by decide)]; exact z1.2.1 q hq), (by dsimp only; rw [e _ (by decide), e' _ (by decide)]; exact z1.2.2.1), (z1.2.2.2.1.N e e' (by decide) (by decide)), (z1.2.2.2.2.1.N e e' (by decide) (by decide)), (z1.2.2.2.2.2.1.N e e' (by decide) (by decide)), v_eq_up z1.2.2.2.2.2.2⟩, z2.N e e' (by decide) (by decide), z3.N e e' (by decide) (by decide), z4.N e e' (by decide) (by decide), z5.up hb (by decide) (by decide) (by decide) (by decide), z6.N e e' (by decide) (by decide) (fun l _ => by dsimp only; rw [e' _ (by decide)]) v_eqJ.rfl' v_eqJ.rfl'⟩
theorem a_box {p : e_Sp} {nk nr np n s m L : Nat} {t : Nat → Nat} {I I' : e_I} {J J' : e_Jt} {j : Nat} {y : Int32} (h : v_Sim p nk nr np n t s m L (I, J) (I', J')) : v_Sim p nk nr np n t s m L (s_up I f_a_openings j y, J) (q_st nk nr np (s_up I' f_m_box j y, J')) := by
  obtain ⟨hB, z1, z2, z3, z4, z5, z6⟩ := h
  have e : s_eqN [f_a_openings] I (s_up I f_a_openings j y) := s_eqN.up (by decide)
  have e' : s_eqN [f_m_box] I' (s_up I' f_m_box j y) := s_eqN.up (by decide)
  exact v_quietS hB e e' (by decide) (by decide) rfl rfl rfl ⟨⟨(fun q hq => by dsimp only; rw [e _ (by decide), e' _ (by decide)]; exact z1.1 q hq), (fun q hq => by dsimp only; rw [e' _ (by decide)]; exact z1.2.1 q hq), (by dsimp only; rw [e _ (by decide), e' _ (by decide)]; exact z1.2.2.1), v_eq_up z1.2.2.2.1, (z1.2.2.2.2.1.N e e' (by decide) (by decide)), (z1.2.2.2.2.2.1.N e e' (by decide) (by decide)), (z1.2.2.2.2.2.2.N e e' (by decide) (by decide))⟩, z2.N e e' (by decide) (by decide), z3.N e e' (by decide) (by decide), z4.N e e' (by decide) (by decide), z5.frame e e' (by decide) (by decide), z6.N e e' (by decide) (by decide) (fun l _ => by dsimp only; rw [e' _ (by decide)]) v_eqJ.rfl' v_eqJ.rfl'⟩
theorem a_temper {p : e_Sp} {nk nr np n s m L : Nat} {t : Nat → Nat} {I I' : e_I} {J J' : e_Jt} {j : Nat} {y : Int32} (h : v_Sim p nk nr np n t s m L (I, J) (I', J')) : v_Sim p nk nr np n t s m L (s_up I f_a_temperings j y, J) (q_st nk nr np (s_up I' f_m_temper j y, J')) := by
  obtain ⟨hB, z1, z2, z3, z4, z5, z6⟩ := h
  have e : s_eqN [f_a_temperings] I (s_up I f_a_temperings j y) := s_eqN.up (by decide)
  have e' : s_eqN [f_m_temper] I' (s_up I' f_m_temper j y) := s_eqN.up (by decide)
  exact v_quietS hB e e' (by decide) (by decide) rfl rfl rfl ⟨⟨(fun q hq => by dsimp only; rw [e _ (by decide), e' _ (by decide)]; exact z1.1 q hq), (fun q hq => by dsimp only; rw [e' _ (by decide)]; exact z1.2.1 q hq), (by dsimp only; rw [e _ (by decide), e' _ (by decide)]; exact z1.2.2.1), (z1.2.2.2.1.N e e' (by decide) (by decide)), v_eq_up z1.2.2.2.2.1, (z1.2.2.2.2.2.1.N e e' (by decide) (by decide)), (z1.2.2.2.2.2.2.N e e' (by decide) (by decide))⟩, z2.N e e' (by decide) (by decide), z3.N e e' (by decide) (by decide), z4.N e e' (by decide) (by decide), z5.frame e e' (by decide) (by decide), z6.N e e' (by decide) (by decide) (fun l _ => by dsimp only; rw [e' _ (by decide)]) v_eqJ.rfl' v_eqJ.rfl'⟩
theorem a_tune {p : e_Sp} {nk nr np n s m L : Nat} {t : Nat → Nat} {I I' : e_I} {J J' : e_Jt} {j : Nat} {y : Int32} (h : v_Sim p nk nr np n t s m L (I, J) (I', J')) : v_Sim p nk nr np n t s m L (s_up I f_p_tuning j y, J) (q_st nk nr np (s_up I' f_m_tuning j y, J')) := by
  obtain ⟨hB, z1, z2, z3, z4, z5, z6⟩ := h
  have e : s_eqN [f_p_tuning] I (s_up I f_p_tuning j y) := s_eqN.up (by decide)
  have e' : s_eqN [f_m_tuning] I' (s_up I' f_m_tuning j y) := s_eqN.up (by decide)
  exact v_quietS hB e e' (by decide) (by decide) rfl rfl rfl ⟨⟨v_eq_up (F := f_p_tuning) (G := f_m_tuning) z1.1, (fun q hq => by dsimp only; rw [e' _ (by decide)]; exact z1.2.1 q hq), (by dsimp only; rw [e _ (by decide), e' _ (by decide)]; exact z1.2.2.1), (z1.2.2.2.1.N e e' (by decide) (by decide)), (z1.2.2.2.2.1.N e e' (by decide) (by decide)), (z1.2.2.2.2.2.1.N e e' (by decide) (by decide)), (z1.2.2.2.2.2.2.N e e' (by decide) (by decide))⟩, z2.N e e' (by decide) (by decide), z3.N e e' (by decide) (by decide), z4.N e e' (by decide) (by decide), z5.frame e e' (by decide) (by decide), z6.N e e' (by decide) (by decide) (fun l _ => by dsimp only; rw [e' _ (by decide)]) v_eqJ.rfl' v_eqJ.rfl'⟩
theorem a_guest {p : e_Sp} {nk nr np n s m L : Nat} {t : Nat → Nat} {I I' : e_I} {J J' : e_Jt} {g : Nat} (hg : g < 4) (h : v_Sim p nk nr np n t s m L (I, J) (I', J')) : v_Sim p nk nr np n t s m L (s_up I f_guest 0 (nI g), J) (q_st nk nr np (s_up I' f_m_guest 0 (nI g), J')) := by
  obtain ⟨hB, z1, z2, z3, z4, z5, z6⟩ := h
  have e : s_eqN [f_guest] I (s_up I f_guest 0 (nI g)) := s_eqN.up (by decide)
  have e' : s_eqN [f_m_guest] I' (s_up I' f_m_guest 0 (nI g)) := s_eqN.up (by decide)
  exact v_quietS hB e e' (by decide) (by decide) rfl rfl rfl ⟨z1.N e e' (by decide) (by decide), ⟨(by dsimp only; exact ⟨g, hg, s_up_s, s_up_s⟩), (by dsimp only; rw [e _ (by decide), e' _ (by decide)]; exact z2.2.1), (by dsimp only; rw [e _ (by decide), e' _ (by decide)]; exact z2.2.2.1), (by dsimp only; rw [e _ (by decide), e' _ (by decide)]; exact z2.2.2.2.1), (by dsimp only; rw [e _ (by decide), e' _ (by decide)]; exact z2.2.2.2.2)⟩, z3.N e e' (by decide) (by decide), z4.N e e' (by decide) (by decide), z5.frame e e' (by decide) (by decide), z6.N e e' (by decide) (by decide) (fun l _ => by dsimp only; rw [e' _ (by decide)]) v_eqJ.rfl' v_eqJ.rfl'⟩
theorem a_level {p : e_Sp} {nk nr np n s m L : Nat} {t : Nat → Nat} {I I' : e_I} {J J' : e_Jt} {g : Nat} (hg : g < 4) (h : v_Sim p nk nr np n t s m L (I, J) (I', J')) : v_Sim p nk nr np n t s m L (s_up I f_level 0 (nI g), J) (q_st nk nr np (s_up I' f_m_level 0 (nI g), J')) := by
  obtain ⟨hB, z1, z2, z3, z4, z5, z6⟩ := h
  have e : s_eqN [f_level] I (s_up I f_level 0 (nI g)) := s_eqN.up (by decide)
  have e' : s_eqN [f_m_level] I' (s_up I' f_m_level 0 (nI g)) := s_eqN.up (by decide)
  exact v_quietS hB e e' (by decide) (by decide) rfl rfl rfl ⟨z1.N e e' (by decide) (by decide), ⟨(by dsimp only; rw [e _ (by decide), e' _ (by decide)]; exact z2.1), (by dsimp only; exact ⟨g, hg, s_up_s, s_up_s⟩), (by dsimp only; rw [e _ (by decide), e' _ (by decide)]; exact z2.2.2.1), (by dsimp only; rw [e _ (by decide), e' _ (by decide)]; exact z2.2.2.2.1), (by dsimp only; rw [e _ (by decide), e' _ (by decide)]; exact z2.2.2.2.2)⟩, z3.N e e' (by decide) (by decide), z4.N e e' (by decide) (by decide), z5.frame e e' (by decide) (by decide), z6.N e e' (by decide) (by decide) (fun l _ => by dsimp only; rw [e' _ (by decide)]) v_eqJ.rfl' v_eqJ.rfl'⟩
theorem a_next {p : e_Sp} {nk nr np n s m L : Nat} {t : Nat → Nat} {I I' : e_I} {J J' : e_Jt} {g : Nat} (hg : g < 8) (h : v_Sim p nk nr np n t s m L (I, J) (I', J')) : v_Sim p nk nr np n t s m L (s_up I f_next 0 (nI g), J) (q_st nk nr np (s_up I' f_m_next 0 (nI g), J')) := by
  obtain ⟨hB, z1, z2, z3, z4, z5, z6⟩ := h
  have e : s_eqN [f_next] I (s_up I f_next 0 (nI g)) := s_eqN.up (by decide)
  have e' : s_eqN [f_m_next] I' (s_up I' f_m_next 0 (nI g)) := s_eqN.up (by decide)
  exact v_quietS hB e e' (by decide) (by decide) rfl rfl rfl ⟨z1.N e e' (by decide) (by decide), ⟨(by dsimp only; rw [e _ (by decide), e' _ (by decide)]; exact z2.1), (by dsimp only; rw [e _ (by decide), e' _ (by decide)]; exact z2.2.1), (by dsimp only; exact ⟨g, hg, s_up_s, s_up_s⟩), (by dsimp only; rw [e _ (by decide), e' _ (by decide)]; exact z2.2.2.2.1), (by dsimp only; rw [e _ (by decide), e' _ (by decide)]; exact z2.2.2.2.2)⟩, z3.N e e' (by decide) (by decide), z4.N e e' (by decide) (by decide), z5.frame e e' (by decide) (by decide), z6.N e e' (by decide) (by decide) (fun l _ => by dsimp only; rw [e' _ (by decide)]) v_eqJ.rfl' v_eqJ.rfl'⟩
theorem a_claim {p : e_Sp} {nk nr np n s m L : Nat} {t : Nat → Nat} {I I' : e_I} {J J' : e_Jt} {j : Nat} {y : Int32} (hy : y = -1 ∨ ∃ g, g < 4 ∧ y = nI g) (h : v_Sim p nk nr np n t s m L (I, J) (I', J')) : v_Sim p nk nr np n t s m L (s_up I f_a_owners j y, J) (q_st nk nr np (s_up I' f_m_claimed j y, J')) := by
  obtain ⟨hB, z1, z2, z3, z4, z5, z6⟩ := h
  have e : s_eqN [f_a_owners] I (s_up I f_a_owners j y) := s_eqN.up (by decide)
  have e' : s_eqN [f_m_claimed] I' (s_up I' f_m_claimed j y) := s_eqN.up (by decide)
  exact v_quietS hB e e' (by decide) (by decide) rfl rfl rfl ⟨z1.N e e' (by decide) (by decide), ⟨(by dsimp only; rw [e _ (by decide), e' _ (by decide)]; exact z2.1), (by dsimp only; rw [e _ (by decide), e' _ (by decide)]; exact z2.2.1), (by dsimp only; rw [e _ (by decide), e' _ (by decide)]; exact z2.2.2.1), (fun v hv => by
    dsimp only
    by_cases c : v = j
    · rw [c, s_up_s, s_up_s]; exact ⟨rfl, hy⟩
    · rw [s_up_i c, s_up_i c]; exact z2.2.2.2.1 v hv), (by dsimp only; rw [e _ (by decide), e' _ (by decide)]; exact z2.2.2.2.2)⟩, z3.N e e' (by decide) (by decide), z4.N e e' (by decide) (by decide), z5.frame e e' (by decide) (by decide), z6.N e e' (by decide) (by decide) (fun l _ => by dsimp only; rw [e' _ (by decide)]) v_eqJ.rfl' v_eqJ.rfl'⟩
theorem a_setReversible {p : e_Sp} {nk nr np n s m L : Nat} {t : Nat → Nat} {I I' : e_I} {J J' : e_Jt} {j : Nat} {y : Int32} (hy : ∃ k, k < nk ∧ y = nI k) (h : v_Sim p nk nr np n t s m L (I, J) (I', J')) : v_Sim p nk nr np n t s m L (s_up I f_a_reversibles j y, J) (q_st nk nr np (s_up I' f_m_reversible j y, J')) := by
  obtain ⟨hB, z1, z2, z3, z4, z5, z6⟩ := h
  have e : s_eqN [f_a_reversibles] I (s_up I f_a_reversibles j y) := s_eqN.up (by decide)
  have e' : s_eqN [f_m_reversible] I' (s_up I' f_m_reversible j y) := s_eqN.up (by decide)
  exact v_quietS hB e e' (by decide) (by decide) rfl rfl rfl ⟨z1.N e e' (by decide) (by decide), ⟨(by dsimp only; rw [e _ (by decide), e' _ (by decide)]; exact z2.1), (by dsimp only; rw [e _ (by decide), e' _ (by decide)]; exact z2.2.1), (by dsimp only; rw [e _ (by decide), e' _ (by decide)]; exact z2.2.2.1), (by dsimp only; rw [e _ (by decide), e' _ (by decide)]; exact z2.2.2.2.1), (fun v hv => by
    dsimp only
    by_cases c : v = j
    · rw [c, s_up_s, s_up_s]; exact ⟨rfl, .inr hy⟩
    · rw [s_up_i c, s_up_i c]; exact z2.2.2.2.2 v hv)⟩, z3.N e e' (by decide) (by decide), z4.N e e' (by decide) (by decide), z5.frame e e' (by decide) (by decide), z6.N e e' (by decide) (by decide) (fun l _ => by dsimp only; rw [e' _ (by decide)]) v_eqJ.rfl' v_eqJ.rfl'⟩
theorem a_scale {p : e_Sp} {nk nr np n s m L : Nat} {t : Nat → Nat} {I I' : e_I} {J J' : e_Jt} {g : Nat} {y : Int32} (hg : g < 12) (h : v_Sim p nk nr np n t s m L (I, J) (I', J')) : v_Sim p nk nr np n t s m L (s_up (s_up (s_up I f_tonic 0 (nI g)) f_isMajor 0 y) f_hasChord 0 0, J) (q_st nk nr np (s_up (s_up (s_up I' f_m_tonic 0 (nI g)) f_m_isMajor 0 y) f_m_hasChord 0 0, J')) := by
  obtain ⟨hB, z1, z2, z3, z4, z5, z6⟩ := h
  have e : s_eqN [f_tonic, f_isMajor, f_hasChord] I (s_up (s_up (s_up I f_tonic 0 (nI g)) f_isMajor 0 y) f_hasChord 0 0) := ((s_eqN.up (by decide)).trans (s_eqN.up (by decide))).trans (s_eqN.up (by decide))
  have e' : s_eqN [f_m_tonic, f_m_isMajor, f_m_hasChord] I' (s_up (s_up (s_up I' f_m_tonic 0 (nI g)) f_m_isMajor 0 y) f_m_hasChord 0 0) := ((s_eqN.up (by decide)).trans (s_eqN.up (by decide))).trans (s_eqN.up (by decide))
  exact v_quietS hB e e' (by decide) (by decide) rfl rfl rfl ⟨z1.N e e' (by decide) (by decide), z2.N e e' (by decide) (by decide), z3.N e e' (by decide) (by decide), by
    dsimp only
    refine ⟨⟨g, hg, ?_, ?_⟩, ⟨?_, ?_⟩, fun w => ?_, ?_⟩
    · rw [s_up_F (by decide), s_up_F (by decide), s_up_s]
    · rw [s_up_F (by decide), s_up_F (by decide), s_up_s]
    · rw [s_up_F (by decide), s_up_s, s_up_F (by decide), s_up_s]
    · rw [s_up_s, s_up_s]
    · exact absurd s_up_s w
    · rw [e' f_m_best (by decide)]; exact z4.2.2.2, z5.frame e e' (by decide) (by decide), z6.N e e' (by decide) (by decide) (fun l _ => by dsimp only; rw [e' _ (by decide)]) v_eqJ.rfl' v_eqJ.rfl'⟩
