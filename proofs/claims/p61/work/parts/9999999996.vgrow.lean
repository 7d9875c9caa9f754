/-! 9999999996: one more knob (printed by wip/whole/p9999999996.py) -/
def v_rkgC : List Nat := [f_r_lowest, f_r_division, f_r_use, f_r_delay, f_r_rest, f_r_power, f_r_heatNumber, f_a_relaysOn, f_a_sources, f_a_others, f_a_operations, f_p_isHeld, f_p_isWanted, f_p_changedAt, f_p_isOpened, f_p_closedAt, f_p_fault, f_recording, f_a_supplies, f_p_isSpeaking, f_p_begins, f_p_ends, f_allBegins]
def v_rkgM : List Nat := [f_mr_lowest, f_mr_highest, f_mr_base, f_mr_division, f_mr_wind, f_mr_delay, f_mr_rest, f_mr_power, f_mr_heat, f_m_rankOf, f_m_isRelay, f_m_first, f_m_second, f_m_operation, f_m_isHeld, f_m_isWanted, f_m_since, f_m_isOpen, f_m_closedSince, f_m_fault, f_m_recording, f_m_supply, f_m_speaks, f_m_begun]
theorem v_Rel.rkg {p : e_Sp} {nk nk1 nr np n s m : Nat} {t : Nat → Nat} {I I' I1 I1' : e_I} {J J' : e_Jt} {T T' : List Nat} (h : v_Rel p nk nr np n t s m I I' J J') (e : s_eqN T I I1) (e' : s_eqN T' I' I1') (hT : v_dj v_rkgC T = true) (hT' : v_dj v_rkgM T' = true) (hk1 : v_Kn I1 I1' nk1) (hy1 : v_Ky I1 I1') (ht1 : v_Ta p nr n t s m I1 I1') : v_Rel p nk1 nr np n t s m I1 I1' J J' := by
  obtain ⟨⟨hS, hK, hy⟩, ⟨hr, ho, hz, hq, hrs⟩, ⟨hp, hT0, hrec, hsu⟩, h1, hc⟩ := h
  exact ⟨⟨hS.N e e' (v_dj.sub hT (by decide)) (v_dj.sub hT' (by decide)), hk1, hy1⟩, ⟨hr.N e e' (v_dj.o hT (by decide)) (v_dj.o hT' (by decide)), ho.N e e' (v_dj.sub hT (by decide)) (v_dj.sub hT' (by decide)), (by unfold v_Rz; rw [e' _ (v_dj.o hT' (by decide)), e' _ (v_dj.o hT' (by decide))]; exact hz), (by unfold q_S; rw [e' f_m_operation (v_dj.o hT' (by decide)), e' f_m_first (v_dj.o hT' (by decide)), e' f_m_second (v_dj.o hT' (by decide))]; exact hq), (by unfold v_Rs; rw [e' f_m_operation (v_dj.o hT' (by decide)), e' f_m_first (v_dj.o hT' (by decide)), e' f_m_second (v_dj.o hT' (by decide))]; exact hrs)⟩, ⟨hp.N e e' (v_dj.sub hT (by decide)) (v_dj.sub hT' (by decide)), ht1, (by rw [e _ (v_dj.o hT (by decide)), e' _ (v_dj.o hT' (by decide))]; exact hrec), hsu.N e e' (v_dj.o hT (by decide)) (v_dj.o hT' (by decide))⟩, (fun q hq => (h1 q hq).N e e' (v_dj.sub hT (by decide)) (v_dj.sub hT' (by decide))), (by rw [e _ (v_dj.o hT (by decide))]; exact hc.1), hc.2⟩
def v_kF1 : List Nat := [f_k_kind, f_k_division, f_k_isOut, f_k_relay, f_c_from, f_c_to, f_c_shift, f_c_kind, f_s_stage, f_s_rows]
def v_kF4 : List Nat := [f_s_ranks, f_s_offsets, f_s_firsts, f_s_lasts]
def v_kF61 : List Nat := [f_s_places, f_s_keysAt]
def v_mF1 : List Nat := [f_mk_kind, f_mk_division, f_mk_isDrawn, f_mk_relay, f_mk_to, f_mk_shift, f_mk_letter, f_mk_stage, f_mk_rows]
def v_mF4 : List Nat := [f_mk_ranks, f_mk_offsets, f_mk_froms, f_mk_tos]
def v_mF61 : List Nat := [f_mk_wires]
/-- one knob's fields are as they were -/
def v_ag (F1 F4 F61 : List Nat) (k : Nat) (I A : e_I) : Prop := (∀ F, F1.contains F = true → A F k = I F k) ∧ (∀ F, F4.contains F = true → ∀ i, i < 4 → A F (k * 4 + i) = I F (k * 4 + i)) ∧ ∀ F, F61.contains F = true → ∀ i, i < 61 → A F (k * 61 + i) = I F (k * 61 + i)
theorem v_K.ag {I I' A B : e_I} {k : Nat} (h : v_K I I' k) (e : v_ag v_kF1 v_kF4 v_kF61 k I A) (e' : v_ag v_mF1 v_mF4 v_mF61 k I' B) : v_K A B k := by
  obtain ⟨e1, e4, e61⟩ := e
  obtain ⟨g1, g4, g61⟩ := e'
  have hx : v_Stp I I' k → v_Stp A B k := by
    intro ⟨a1, ⟨m, hm, a2, a3, a4⟩, a5, a6, a7⟩
    refine ⟨by rw [e1 f_s_stage (by decide), g1 f_mk_stage (by decide)]; exact a1, ⟨m, hm, by rw [e1 f_s_rows (by decide)]; exact a2, by rw [g1 f_mk_rows (by decide)]; exact a3, fun i hi => ?_⟩, fun y hy => ?_, fun y hy => ?_, fun z hz => ?_⟩
    · rw [e4 f_s_ranks (by decide) i (by omega), e4 f_s_offsets (by decide) i (by omega), e4 f_s_firsts (by decide) i (by omega), e4 f_s_lasts (by decide) i (by omega), g4 f_mk_ranks (by decide) i (by omega), g4 f_mk_offsets (by decide) i (by omega), g4 f_mk_froms (by decide) i (by omega), g4 f_mk_tos (by decide) i (by omega)]
      exact a4 i hi
    · rw [e61 f_s_places (by decide) y hy, g61 f_mk_wires (by decide) y hy]; exact a5 y hy
    · obtain ⟨z, hz, u1, u2⟩ := a6 y hy
      exact ⟨z, hz, by rw [e61 f_s_places (by decide) y hy]; exact u1, by rw [e61 f_s_keysAt (by decide) z hz]; exact u2⟩
    · obtain ⟨y, hy, u1, u2⟩ := a7 z hz
      exact ⟨y, hy, by rw [e61 f_s_places (by decide) y hy]; exact u1, by rw [e61 f_s_keysAt (by decide) z hz]; exact u2⟩
  unfold v_K at h ⊢
  rw [e1 f_k_kind (by decide), e1 f_k_division (by decide), e1 f_k_isOut (by decide), e1 f_k_relay (by decide), e1 f_c_from (by decide), e1 f_c_to (by decide), e1 f_c_shift (by decide), e1 f_c_kind (by decide), g1 f_mk_kind (by decide), g1 f_mk_division (by decide), g1 f_mk_isDrawn (by decide), g1 f_mk_relay (by decide), g1 f_mk_to (by decide), g1 f_mk_shift (by decide), g1 f_mk_letter (by decide)]
  obtain ⟨a, b, c, d⟩ := h
  exact ⟨a, b, c, d.imp id (fun d => d.imp id (fun d => d.imp (fun d => ⟨d.1, d.2.1, hx d.2.2⟩) id))⟩
theorem v_Kn.grow {I I' A B : e_I} {nk : Nat} (h : v_Kn I I' nk) (h40 : nk < 40) (e : ∀ k, k < nk → v_ag v_kF1 v_kF4 v_kF61 k I A) (e' : ∀ k, k < nk → v_ag v_mF1 v_mF4 v_mF61 k I' B) (hn : v_K A B nk) : v_Kn A B (nk + 1) := ⟨⟨by have := h.1.1; omega, by omega⟩, fun k hk => by
  by_cases c : k = nk
  · rw [c]; exact hn
  · exact (h.2 k (by omega)).ag (e k (by omega)) (e' k (by omega))⟩
/-- the other side's new knob -/
theorem v_nkv {I : e_I} {j : Nat} {x y z s t : Int32} : q_nk I j x y z s t f_mk_kind j = x ∧ q_nk I j x y z s t f_mk_division j = y ∧ q_nk I j x y z s t f_mk_to j = z ∧ q_nk I j x y z s t f_mk_shift j = s ∧ q_nk I j x y z s t f_mk_letter j = t ∧ q_nk I j x y z s t f_mk_isDrawn j = 0 ∧ q_nk I j x y z s t f_mk_isLocked j = 0 ∧ q_nk I j x y z s t f_mk_isIn j = 1 ∧ q_nk I j x y z s t f_mk_rows j = 0 ∧ q_nk I j x y z s t f_mk_stage j = 0 ∧ q_nk I j x y z s t f_mk_relay j = -1 := by
  unfold q_nk s_IMKNOB
  refine ⟨?_, ?_, ?_, ?_, ?_, ?_, ?_, ?_, ?_, ?_, ?_⟩
  · rw [s_up_F (by decide), s_up_F (by decide), s_up_F (by decide), s_up_F (by decide), s_up_F (by decide), s_up_F (by decide), s_up_F (by decide), s_up_F (by decide), s_up_F (by decide), s_up_F (by decide), s_up_s]
  · rw [s_up_F (by decide), s_up_F (by decide), s_up_F (by decide), s_up_F (by decide), s_up_F (by decide), s_up_F (by decide), s_up_F (by decide), s_up_F (by decide), s_up_F (by decide), s_up_s]
  · rw [s_up_F (by decide), s_up_F (by decide), s_up_F (by decide), s_up_F (by decide), s_up_F (by decide), s_up_F (by decide), s_up_F (by decide), s_up_F (by decide), s_up_s]
  · rw [s_up_F (by decide), s_up_F (by decide), s_up_F (by decide), s_up_F (by decide), s_up_F (by decide), s_up_F (by decide), s_up_F (by decide), s_up_s]
  · rw [s_up_F (by decide), s_up_F (by decide), s_up_F (by decide), s_up_F (by decide), s_up_F (by decide), s_up_F (by decide), s_up_s]
  · rw [s_up_F (by decide), s_up_F (by decide), s_up_F (by decide), s_up_F (by decide), s_up_F (by decide), s_up_s]
  · rw [s_up_F (by decide), s_up_F (by decide), s_up_F (by decide), s_up_F (by decide), s_up_s]
  · rw [s_up_F (by decide), s_up_F (by decide), s_up_F (by decide), s_up_s]
  · rw [s_up_F (by decide), s_up_F (by decide), s_up_s]
  · rw [s_up_F (by decide), s_up_s]
  · rw [s_up_s]
theorem v_nkw {I : e_I} {j i : Nat} {x y z s t : Int32} (hi : i < 61) : q_nk I j x y z s t f_mk_wires (j * 61 + i) = nI i := by
  unfold q_nk s_IMKNOB
  simp only [s_up_F (show f_mk_wires ≠ f_mk_kind by decide), s_up_F (show f_mk_wires ≠ f_mk_division by decide), s_up_F (show f_mk_wires ≠ f_mk_to by decide), s_up_F (show f_mk_wires ≠ f_mk_shift by decide), s_up_F (show f_mk_wires ≠ f_mk_letter by decide), s_up_F (show f_mk_wires ≠ f_mk_isDrawn by decide), s_up_F (show f_mk_wires ≠ f_mk_isLocked by decide), s_up_F (show f_mk_wires ≠ f_mk_isIn by decide), s_up_F (show f_mk_wires ≠ f_mk_rows by decide), s_up_F (show f_mk_wires ≠ f_mk_stage by decide), s_up_F (show f_mk_wires ≠ f_mk_relay by decide)]
  unfold q_mw
  rw [if_pos ⟨rfl, by omega⟩, if_pos (by omega)]
  congr 1
  omega
