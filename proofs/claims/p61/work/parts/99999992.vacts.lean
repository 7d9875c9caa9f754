/-! 99999992: acts that change a knob, a relay, a pipe or a division (printed by wip/whole/p99999992.py) -/
def v_rknC : List Nat := [f_r_lowest, f_r_division, f_r_use, f_r_delay, f_r_rest, f_r_power, f_r_heatNumber, f_a_relaysOn, f_a_sources, f_a_others, f_a_operations, f_p_isHeld, f_p_isWanted, f_p_changedAt, f_p_isOpened, f_p_closedAt, f_p_fault, f_recording, f_a_supplies, f_p_isSpeaking, f_p_begins, f_p_ends, f_allBegins]
def v_rknM : List Nat := [f_mr_lowest, f_mr_highest, f_mr_base, f_mr_division, f_mr_wind, f_mr_delay, f_mr_rest, f_mr_power, f_mr_heat, f_m_rankOf, f_m_isRelay, f_m_first, f_m_second, f_m_operation, f_m_isHeld, f_m_isWanted, f_m_since, f_m_isOpen, f_m_closedSince, f_m_fault, f_m_recording, f_m_supply, f_m_speaks, f_m_begun]
theorem v_Rel.rkn {p : e_Sp} {nk nr np n s m : Nat} {t : Nat → Nat} {I I' I1 I1' : e_I} {J J' : e_Jt} {T T' : List Nat} (h : v_Rel p nk nr np n t s m I I' J J') (e : s_eqN T I I1) (e' : s_eqN T' I' I1') (hT : v_dj v_rknC T = true) (hT' : v_dj v_rknM T' = true) (hk1 : v_Kn I1 I1' nk) (hy1 : v_Ky I1 I1') (ht1 : v_Ta p nr n t s m I1 I1') : v_Rel p nk nr np n t s m I1 I1' J J' := by
  obtain ⟨⟨hS, hK, hy⟩, ⟨hr, ho, hz, hq, hrs⟩, ⟨hp, hT0, hrec, hsu⟩, h1, hc⟩ := h
  exact ⟨⟨hS.N e e' (v_dj.sub hT (by decide)) (v_dj.sub hT' (by decide)), hk1, hy1⟩, ⟨hr.N e e' (v_dj.o hT (by decide)) (v_dj.o hT' (by decide)), ho.N e e' (v_dj.sub hT (by decide)) (v_dj.sub hT' (by decide)), (by unfold v_Rz; rw [e' _ (v_dj.o hT' (by decide)), e' _ (v_dj.o hT' (by decide))]; exact hz), (by unfold q_S; rw [e' f_m_operation (v_dj.o hT' (by decide)), e' f_m_first (v_dj.o hT' (by decide)), e' f_m_second (v_dj.o hT' (by decide))]; exact hq), (by unfold v_Rs; rw [e' f_m_operation (v_dj.o hT' (by decide)), e' f_m_first (v_dj.o hT' (by decide)), e' f_m_second (v_dj.o hT' (by decide))]; exact hrs)⟩, ⟨hp.N e e' (v_dj.sub hT (by decide)) (v_dj.sub hT' (by decide)), ht1, (by rw [e _ (v_dj.o hT (by decide)), e' _ (v_dj.o hT' (by decide))]; exact hrec), hsu.N e e' (v_dj.o hT (by decide)) (v_dj.o hT' (by decide))⟩, (fun q hq => (h1 q hq).N e e' (v_dj.sub hT (by decide)) (v_dj.sub hT' (by decide))), (by rw [e _ (v_dj.o hT (by decide))]; exact hc.1), hc.2⟩
def v_rsuC : List Nat := [f_r_lowest, f_r_division, f_r_use, f_r_delay, f_r_rest, f_r_power, f_r_heatNumber, f_k_kind, f_k_division, f_k_isOut, f_k_relay, f_c_from, f_c_to, f_c_shift, f_c_kind, f_s_stage, f_s_rows, f_s_ranks, f_s_offsets, f_s_firsts, f_s_lasts, f_s_places, f_s_keysAt, f_a_relaysOn, f_a_sources, f_a_others, f_a_operations, f_p_isHeld, f_p_isWanted, f_p_changedAt, f_p_isOpened, f_p_closedAt, f_p_fault, f_recording, f_p_isSpeaking, f_p_begins, f_p_ends, f_allBegins]
def v_rsuM : List Nat := [f_mr_lowest, f_mr_highest, f_mr_base, f_mr_division, f_mr_wind, f_mr_delay, f_mr_rest, f_mr_power, f_mr_heat, f_m_rankOf, f_mk_kind, f_mk_division, f_mk_isDrawn, f_mk_relay, f_mk_to, f_mk_shift, f_mk_letter, f_mk_stage, f_mk_rows, f_mk_ranks, f_mk_offsets, f_mk_froms, f_mk_tos, f_mk_wires, f_m_isRelay, f_m_first, f_m_second, f_m_operation, f_m_isHeld, f_m_isWanted, f_m_since, f_m_isOpen, f_m_closedSince, f_m_fault, f_m_recording, f_m_speaks, f_m_begun]
theorem v_Rel.rsu {p : e_Sp} {nk nr np n s m : Nat} {t : Nat → Nat} {I I' I1 I1' : e_I} {J J' : e_Jt} {T T' : List Nat} (h : v_Rel p nk nr np n t s m I I' J J') (e : s_eqN T I I1) (e' : s_eqN T' I' I1') (hT : v_dj v_rsuC T = true) (hT' : v_dj v_rsuM T' = true) (hs1 : v_eq 3 f_a_supplies f_m_supply I1 I1') (hy1 : v_Ky I1 I1') (ht1 : v_Ta p nr n t s m I1 I1') : v_Rel p nk nr np n t s m I1 I1' J J' := by
  obtain ⟨⟨hS, hK, hy⟩, ⟨hr, ho, hz, hq, hrs⟩, ⟨hp, hT0, hrec, hsu⟩, h1, hc⟩ := h
  exact ⟨⟨hS.N e e' (v_dj.sub hT (by decide)) (v_dj.sub hT' (by decide)), hK.N e e' (v_dj.sub hT (by decide)) (v_dj.sub hT' (by decide)), hy1⟩, ⟨hr.N e e' (v_dj.o hT (by decide)) (v_dj.o hT' (by decide)), ho.N e e' (v_dj.sub hT (by decide)) (v_dj.sub hT' (by decide)), (by unfold v_Rz; rw [e' _ (v_dj.o hT' (by decide)), e' _ (v_dj.o hT' (by decide))]; exact hz), (by unfold q_S; rw [e' f_m_operation (v_dj.o hT' (by decide)), e' f_m_first (v_dj.o hT' (by decide)), e' f_m_second (v_dj.o hT' (by decide))]; exact hq), (by unfold v_Rs; rw [e' f_m_operation (v_dj.o hT' (by decide)), e' f_m_first (v_dj.o hT' (by decide)), e' f_m_second (v_dj.o hT' (by decide))]; exact hrs)⟩, ⟨hp.N e e' (v_dj.sub hT (by decide)) (v_dj.sub hT' (by decide)), ht1, (by rw [e _ (v_dj.o hT (by decide)), e' _ (v_dj.o hT' (by decide))]; exact hrec), hs1⟩, (fun q hq => (h1 q hq).N e e' (v_dj.sub hT (by decide)) (v_dj.sub hT' (by decide))), (by rw [e _ (v_dj.o hT (by decide))]; exact hc.1), hc.2⟩
def v_rppC : List Nat := [f_r_lowest, f_r_division, f_r_use, f_r_delay, f_r_rest, f_r_power, f_r_heatNumber, f_k_kind, f_k_division, f_k_isOut, f_k_relay, f_c_from, f_c_to, f_c_shift, f_c_kind, f_s_stage, f_s_rows, f_s_ranks, f_s_offsets, f_s_firsts, f_s_lasts, f_s_places, f_s_keysAt, f_a_relaysOn, f_a_sources, f_a_others, f_a_operations, f_recording, f_a_supplies, f_p_isSpeaking, f_p_begins, f_p_ends, f_allBegins]
def v_rppM : List Nat := [f_mr_lowest, f_mr_highest, f_mr_base, f_mr_division, f_mr_wind, f_mr_delay, f_mr_rest, f_mr_power, f_mr_heat, f_m_rankOf, f_mk_kind, f_mk_division, f_mk_isDrawn, f_mk_relay, f_mk_to, f_mk_shift, f_mk_letter, f_mk_stage, f_mk_rows, f_mk_ranks, f_mk_offsets, f_mk_froms, f_mk_tos, f_mk_wires, f_m_isRelay, f_m_first, f_m_second, f_m_operation, f_m_recording, f_m_supply, f_m_speaks, f_m_begun]
theorem v_Rel.rpp {p : e_Sp} {nk nr np n s m : Nat} {t : Nat → Nat} {I I' I1 I1' : e_I} {J J' : e_Jt} {T T' : List Nat} (h : v_Rel p nk nr np n t s m I I' J J') (e : s_eqN T I I1) (e' : s_eqN T' I' I1') (hT : v_dj v_rppC T = true) (hT' : v_dj v_rppM T' = true) (hp1 : v_Pp np I1 I1') (hy1 : v_Ky I1 I1') (ht1 : v_Ta p nr n t s m I1 I1') : v_Rel p nk nr np n t s m I1 I1' J J' := by
  obtain ⟨⟨hS, hK, hy⟩, ⟨hr, ho, hz, hq, hrs⟩, ⟨hp, hT0, hrec, hsu⟩, h1, hc⟩ := h
  exact ⟨⟨hS.N e e' (v_dj.sub hT (by decide)) (v_dj.sub hT' (by decide)), hK.N e e' (v_dj.sub hT (by decide)) (v_dj.sub hT' (by decide)), hy1⟩, ⟨hr.N e e' (v_dj.o hT (by decide)) (v_dj.o hT' (by decide)), ho.N e e' (v_dj.sub hT (by decide)) (v_dj.sub hT' (by decide)), (by unfold v_Rz; rw [e' _ (v_dj.o hT' (by decide)), e' _ (v_dj.o hT' (by decide))]; exact hz), (by unfold q_S; rw [e' f_m_operation (v_dj.o hT' (by decide)), e' f_m_first (v_dj.o hT' (by decide)), e' f_m_second (v_dj.o hT' (by decide))]; exact hq), (by unfold v_Rs; rw [e' f_m_operation (v_dj.o hT' (by decide)), e' f_m_first (v_dj.o hT' (by decide)), e' f_m_second (v_dj.o hT' (by decide))]; exact hrs)⟩, ⟨hp1, ht1, (by rw [e _ (v_dj.o hT (by decide)), e' _ (v_dj.o hT' (by decide))]; exact hrec), hsu.N e e' (v_dj.o hT (by decide)) (v_dj.o hT' (by decide))⟩, (fun q hq => (h1 q hq).N e e' (v_dj.sub hT (by decide)) (v_dj.sub hT' (by decide))), (by rw [e _ (v_dj.o hT (by decide))]; exact hc.1), hc.2⟩
def v_rroC : List Nat := [f_r_lowest, f_r_division, f_r_use, f_r_delay, f_r_rest, f_r_power, f_r_heatNumber, f_k_kind, f_k_division, f_k_isOut, f_k_relay, f_c_from, f_c_to, f_c_shift, f_c_kind, f_s_stage, f_s_rows, f_s_ranks, f_s_offsets, f_s_firsts, f_s_lasts, f_s_places, f_s_keysAt, f_a_relaysOn, f_p_isHeld, f_p_isWanted, f_p_changedAt, f_p_isOpened, f_p_closedAt, f_p_fault, f_recording, f_a_supplies, f_p_isSpeaking, f_p_begins, f_p_ends, f_allBegins]
def v_rroM : List Nat := [f_mr_lowest, f_mr_highest, f_mr_base, f_mr_division, f_mr_wind, f_mr_delay, f_mr_rest, f_mr_power, f_mr_heat, f_m_rankOf, f_mk_kind, f_mk_division, f_mk_isDrawn, f_mk_relay, f_mk_to, f_mk_shift, f_mk_letter, f_mk_stage, f_mk_rows, f_mk_ranks, f_mk_offsets, f_mk_froms, f_mk_tos, f_mk_wires, f_m_isRelay, f_m_isHeld, f_m_isWanted, f_m_since, f_m_isOpen, f_m_closedSince, f_m_fault, f_m_recording, f_m_supply, f_m_speaks, f_m_begun]
theorem v_Rel.rro {p : e_Sp} {nk nr np n s m : Nat} {t : Nat → Nat} {I I' I1 I1' : e_I} {J J' : e_Jt} {T T' : List Nat} (h : v_Rel p nk nr np n t s m I I' J J') (e : s_eqN T I I1) (e' : s_eqN T' I' I1') (hT : v_dj v_rroC T = true) (hT' : v_dj v_rroM T' = true) (ho1 : v_Ro I1 I1') (hz1 : v_Rz I1') (hq1 : q_S I1') (hrs1 : v_Rs I1') (hy1 : v_Ky I1 I1') (ht1 : v_Ta p nr n t s m I1 I1') : v_Rel p nk nr np n t s m I1 I1' J J' := by
  obtain ⟨⟨hS, hK, hy⟩, ⟨hr, ho, hz, hq, hrs⟩, ⟨hp, hT0, hrec, hsu⟩, h1, hc⟩ := h
  exact ⟨⟨hS.N e e' (v_dj.sub hT (by decide)) (v_dj.sub hT' (by decide)), hK.N e e' (v_dj.sub hT (by decide)) (v_dj.sub hT' (by decide)), hy1⟩, ⟨hr.N e e' (v_dj.o hT (by decide)) (v_dj.o hT' (by decide)), ho1, hz1, hq1, hrs1⟩, ⟨hp.N e e' (v_dj.sub hT (by decide)) (v_dj.sub hT' (by decide)), ht1, (by rw [e _ (v_dj.o hT (by decide)), e' _ (v_dj.o hT' (by decide))]; exact hrec), hsu.N e e' (v_dj.o hT (by decide)) (v_dj.o hT' (by decide))⟩, (fun q hq => (h1 q hq).N e e' (v_dj.sub hT (by decide)) (v_dj.sub hT' (by decide))), (by rw [e _ (v_dj.o hT (by decide))]; exact hc.1), hc.2⟩
theorem v_eq_up {n F G i : Nat} {I I' : e_I} {x : Int32} (h : v_eq n F G I I') : v_eq n F G (s_up I F i x) (s_up I' G i x) := fun j hj => by
  by_cases c : j = i
  · rw [c, s_up_s, s_up_s]
  · rw [s_up_i c, s_up_i c]; exact h j hj
/-- a knob is drawn -/
theorem v_Kn.draw {I I' : e_I} {nk j : Nat} {y : Int32} (h : v_Kn I I' nk) : v_Kn (s_up I f_k_isOut j y) (s_up I' f_mk_isDrawn j y) nk := by
  refine ⟨h.1, fun k hk => ?_⟩
  obtain ⟨⟨a1, a2, a3, a4⟩, b, c, d⟩ := h.2 k hk
  have e : s_eqN [f_k_isOut] I (s_up I f_k_isOut j y) := s_eqN.up (by decide)
  have e' : s_eqN [f_mk_isDrawn] I' (s_up I' f_mk_isDrawn j y) := s_eqN.up (by decide)
  have hx : s_up I f_k_isOut j y f_k_isOut k = s_up I' f_mk_isDrawn j y f_mk_isDrawn k := by
    by_cases c : k = j
    · rw [c, s_up_s, s_up_s]
    · rw [s_up_i c, s_up_i c]; exact a3
  unfold v_K v_Stp at *
  rw [hx]
  simp only [e f_k_kind (by decide), e f_k_division (by decide), e f_k_relay (by decide), e f_c_from (by decide), e f_c_to (by decide), e f_c_shift (by decide), e f_c_kind (by decide), e f_s_stage (by decide), e f_s_rows (by decide), e f_s_ranks (by decide), e f_s_offsets (by decide), e f_s_firsts (by decide), e f_s_lasts (by decide), e f_s_places (by decide), e f_s_keysAt (by decide), e' f_mk_kind (by decide), e' f_mk_division (by decide), e' f_mk_relay (by decide), e' f_mk_to (by decide), e' f_mk_shift (by decide), e' f_mk_letter (by decide), e' f_mk_stage (by decide), e' f_mk_rows (by decide), e' f_mk_ranks (by decide), e' f_mk_offsets (by decide), e' f_mk_froms (by decide), e' f_mk_tos (by decide), e' f_mk_wires (by decide)]
  exact ⟨⟨a1, a2, trivial, a4⟩, b, c, d⟩
/-- a knob is driven -/
theorem v_Kn.drive {I I' : e_I} {nk j : Nat} {y : Int32} (h : v_Kn I I' nk) (hy : y = -1 ∨ ∃ r, r < 16 ∧ y = nI r) : v_Kn (s_up I f_k_relay j y) (s_up I' f_mk_relay j y) nk := by
  refine ⟨h.1, fun k hk => ?_⟩
  obtain ⟨⟨a1, a2, a3, a4⟩, b, c, d⟩ := h.2 k hk
  have e : s_eqN [f_k_relay] I (s_up I f_k_relay j y) := s_eqN.up (by decide)
  have e' : s_eqN [f_mk_relay] I' (s_up I' f_mk_relay j y) := s_eqN.up (by decide)
  have hx : s_up I f_k_relay j y f_k_relay k = s_up I' f_mk_relay j y f_mk_relay k ∧ (s_up I' f_mk_relay j y f_mk_relay k = -1 ∨ ∃ r, r < 16 ∧ s_up I' f_mk_relay j y f_mk_relay k = nI r) := by
    by_cases c1 : k = j
    · rw [c1, s_up_s, s_up_s]; exact ⟨rfl, hy⟩
    · rw [s_up_i c1, s_up_i c1]; exact ⟨a4, by rw [← a4]; exact c⟩
  unfold v_K v_Stp at *
  rw [hx.1]
  simp only [e f_k_kind (by decide), e f_k_division (by decide), e f_k_isOut (by decide), e f_c_from (by decide), e f_c_to (by decide), e f_c_shift (by decide), e f_c_kind (by decide), e f_s_stage (by decide), e f_s_rows (by decide), e f_s_ranks (by decide), e f_s_offsets (by decide), e f_s_firsts (by decide), e f_s_lasts (by decide), e f_s_places (by decide), e f_s_keysAt (by decide), e' f_mk_kind (by decide), e' f_mk_division (by decide), e' f_mk_isDrawn (by decide), e' f_mk_to (by decide), e' f_mk_shift (by decide), e' f_mk_letter (by decide), e' f_mk_stage (by decide), e' f_mk_rows (by decide), e' f_mk_ranks (by decide), e' f_mk_offsets (by decide), e' f_mk_froms (by decide), e' f_mk_tos (by decide), e' f_mk_wires (by decide)]
  exact ⟨⟨a1, a2, a3, trivial⟩, b, hx.2, d⟩
/-- a stop's stage -/
theorem v_Kn.stage {I I' : e_I} {nk j : Nat} {y : Int32} (h : v_Kn I I' nk) : v_Kn (s_up I f_s_stage j y) (s_up I' f_mk_stage j y) nk := by
  refine ⟨h.1, fun k hk => ?_⟩
  obtain ⟨a, b, c, d⟩ := h.2 k hk
  have e : s_eqN [f_s_stage] I (s_up I f_s_stage j y) := s_eqN.up (by decide)
  have e' : s_eqN [f_mk_stage] I' (s_up I' f_mk_stage j y) := s_eqN.up (by decide)
  have hx : v_Stp I I' k → v_Stp (s_up I f_s_stage j y) (s_up I' f_mk_stage j y) k := by
    intro ⟨g1, g2⟩
    have : s_up I f_s_stage j y f_s_stage k = s_up I' f_mk_stage j y f_mk_stage k := by
      by_cases c1 : k = j
      · rw [c1, s_up_s, s_up_s]
      · rw [s_up_i c1, s_up_i c1]; exact g1
    unfold v_Stp
    rw [this]
    simp only [e f_s_rows (by decide), e f_s_ranks (by decide), e f_s_offsets (by decide), e f_s_firsts (by decide), e f_s_lasts (by decide), e f_s_places (by decide), e f_s_keysAt (by decide), e' f_mk_rows (by decide), e' f_mk_ranks (by decide), e' f_mk_offsets (by decide), e' f_mk_froms (by decide), e' f_mk_tos (by decide), e' f_mk_wires (by decide)]
    exact ⟨trivial, g2⟩
  unfold v_K
  rw [e f_k_kind (by decide), e f_k_division (by decide), e f_k_isOut (by decide), e f_k_relay (by decide), e f_c_from (by decide), e f_c_to (by decide), e f_c_shift (by decide), e f_c_kind (by decide), e' f_mk_kind (by decide), e' f_mk_division (by decide), e' f_mk_isDrawn (by decide), e' f_mk_relay (by decide), e' f_mk_to (by decide), e' f_mk_shift (by decide), e' f_mk_letter (by decide)]
  exact ⟨a, b, c, d.imp id (fun d => d.imp id (fun d => d.imp (fun d => ⟨d.1, d.2.1, hx d.2.2⟩) id))⟩
theorem v_Ky.tutti {I I' : e_I} {y : Int32} (h : v_Ky I I') : v_Ky (s_up I f_isTutti 0 y) (s_up I' f_m_isTutti 0 y) := by
  obtain ⟨k1, k2, k3, k4, k5, k6⟩ := h
  have e : s_eqN [f_isTutti] I (s_up I f_isTutti 0 y) := s_eqN.up (by decide)
  have e' : s_eqN [f_m_isTutti] I' (s_up I' f_m_isTutti 0 y) := s_eqN.up (by decide)
  refine ⟨k1.N e e' (by decide) (by decide), k2.N e e' (by decide) (by decide), by rw [e _ (by decide), e' _ (by decide)]; exact k3, ?_, by rw [s_up_s, s_up_s], by rw [e _ (by decide), e' _ (by decide)]; exact k6⟩
  unfold q_eg q_egs
  rw [e f_a_lowest (by decide), e f_a_highest (by decide), e' f_m_isDown (by decide)]
  exact k4
theorem v_Ky.crescendo {I I' : e_I} {y : Int32} (h : v_Ky I I') : v_Ky (s_up I f_crescendo 0 y) (s_up I' f_m_crescendo 0 y) := by
  obtain ⟨k1, k2, k3, k4, k5, k6⟩ := h
  have e : s_eqN [f_crescendo] I (s_up I f_crescendo 0 y) := s_eqN.up (by decide)
  have e' : s_eqN [f_m_crescendo] I' (s_up I' f_m_crescendo 0 y) := s_eqN.up (by decide)
  refine ⟨k1.N e e' (by decide) (by decide), k2.N e e' (by decide) (by decide), by rw [e _ (by decide), e' _ (by decide)]; exact k3, ?_, by rw [e _ (by decide), e' _ (by decide)]; exact k5, by rw [s_up_s, s_up_s]⟩
  unfold q_eg q_egs
  rw [e f_a_lowest (by decide), e f_a_highest (by decide), e' f_m_isDown (by decide)]
  exact k4
theorem v_Z5.up {I I' : e_I} {F G i j : Nat} {x : Int32} (h : v_Z5 I I') (hx : x = 0 ∨ x = 1) (hF : F ≠ f_p_fault) (hF2 : F ≠ f_recording) (hG : G ≠ f_m_fault) (hG2 : G ≠ f_m_recording) : v_Z5 (s_up I F i x) (s_up I' G j x) := by
  obtain ⟨h1, h2, h3, h4, h5, h6⟩ := h
  refine ⟨fun F hF => v_bo_up (h1 F hF) hx, fun F hF => v_bo_up (h2 F hF) hx, ?_, ?_, ?_, ?_⟩
  · intro k; rw [s_up_F hF.symm]; exact h3 k
  · intro k; rw [s_up_F hG.symm]; exact h4 k
  · intro k; rw [s_up_F hF2.symm]; exact h5 k
  · intro k; rw [s_up_F hG2.symm]; exact h6 k
