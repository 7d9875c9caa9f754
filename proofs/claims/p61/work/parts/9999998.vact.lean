/-! 9999998: one side and the other, when little changes (printed by wip/whole/p9999998.py) -/
theorem v_dj.sub {L L' T : List Nat} (h : v_dj L T = true) (hs : s_sub L' L = true) : v_dj L' T = true := by
  refine List.all_eq_true.mpr (fun F hF => ?_)
  have h1 := List.all_eq_true.mp hs F hF
  rw [v_dj.o h h1]
  rfl
def v_RelC : List Nat := [f_r_lowest, f_r_division, f_r_use, f_r_delay, f_r_rest, f_r_power, f_r_heatNumber, f_k_kind, f_k_division, f_k_isOut, f_k_relay, f_c_from, f_c_to, f_c_shift, f_c_kind, f_s_stage, f_s_rows, f_s_ranks, f_s_offsets, f_s_firsts, f_s_lasts, f_s_places, f_s_keysAt, f_a_relaysOn, f_a_sources, f_a_others, f_a_operations, f_p_isHeld, f_p_isWanted, f_p_changedAt, f_p_isOpened, f_p_closedAt, f_p_fault, f_recording, f_a_supplies, f_p_isSpeaking, f_p_begins, f_p_ends, f_allBegins]
def v_RelM : List Nat := [f_mr_lowest, f_mr_highest, f_mr_base, f_mr_division, f_mr_wind, f_mr_delay, f_mr_rest, f_mr_power, f_mr_heat, f_m_rankOf, f_mk_kind, f_mk_division, f_mk_isDrawn, f_mk_relay, f_mk_to, f_mk_shift, f_mk_letter, f_mk_stage, f_mk_rows, f_mk_ranks, f_mk_offsets, f_mk_froms, f_mk_tos, f_mk_wires, f_m_isRelay, f_m_first, f_m_second, f_m_operation, f_m_isHeld, f_m_isWanted, f_m_since, f_m_isOpen, f_m_closedSince, f_m_fault, f_m_recording, f_m_supply, f_m_speaks, f_m_begun]
theorem v_Rel.re {p : e_Sp} {nk nr np n s m n1 s1 m1 : Nat} {t t1 : Nat → Nat} {I I' I1 I1' : e_I} {J J' J1 J1' : e_Jt} {T T' : List Nat} (h : v_Rel p nk nr np n t s m I I' J J') (e : s_eqN T I I1) (e' : s_eqN T' I' I1') (hT : v_dj v_RelC T = true) (hT' : v_dj v_RelM T' = true) (hy : v_Ky I1 I1') (ht : v_Ta p nr n1 t1 s1 m1 I1 I1') (hj : J1 j_allEnds = J j_allEnds) (hj1 : J1' j_m_ended = J' j_m_ended) (hj2 : J1' j_m_allBegun = J' j_m_allBegun) : v_Rel p nk nr np n1 t1 s1 m1 I1 I1' J1 J1' := by
  obtain ⟨⟨hS, hK, -⟩, ⟨hr, ho, hz, hq, hrs⟩, ⟨hp, -, hrec, hsu⟩, h1, hc⟩ := h
  refine ⟨⟨hS.N e e' (v_dj.sub hT (by decide)) (v_dj.sub hT' (by decide)), hK.N e e' (v_dj.sub hT (by decide)) (v_dj.sub hT' (by decide)), hy⟩, ⟨hr.N e e' (v_dj.o hT (by decide)) (v_dj.o hT' (by decide)), ho.N e e' (v_dj.sub hT (by decide)) (v_dj.sub hT' (by decide)), ?_, ?_, ?_⟩, ⟨hp.N e e' (v_dj.sub hT (by decide)) (v_dj.sub hT' (by decide)), ht, ?_, hsu.N e e' (v_dj.o hT (by decide)) (v_dj.o hT' (by decide))⟩, fun q hq => (h1 q hq).N e e' (v_dj.sub hT (by decide)) (v_dj.sub hT' (by decide)), ?_, ?_⟩
  · unfold v_Rz; rw [e' _ (v_dj.o hT' (by decide)), e' _ (v_dj.o hT' (by decide))]; exact hz
  · unfold q_S; rw [e' f_m_operation (v_dj.o hT' (by decide)), e' f_m_first (v_dj.o hT' (by decide)), e' f_m_second (v_dj.o hT' (by decide))]; exact hq
  · unfold v_Rs; rw [e' f_m_operation (v_dj.o hT' (by decide)), e' f_m_first (v_dj.o hT' (by decide)), e' f_m_second (v_dj.o hT' (by decide))]; exact hrs
  · rw [e _ (v_dj.o hT (by decide)), e' _ (v_dj.o hT' (by decide))]; exact hrec
  · rw [e _ (v_dj.o hT (by decide)), hj2]; exact hc.1
  · rw [hj, hj1]; exact hc.2
def v_FinC : List Nat := [f_a_winds, f_speakers, f_isWaiting, f_a_uses, f_p_found]
def v_FinM : List Nat := [f_m_winds, f_m_speaks, f_m_isOpen, f_m_isWanted, f_m_fault, f_m_rankOf, f_mr_division, f_mr_wind, f_m_counts]
theorem v_Fin.N {np : Nat} {I I' I1 I1' : e_I} {T T' : List Nat} (h : v_Fin np I I') (e : s_eqN T I I1) (e' : s_eqN T' I' I1') (hT : v_dj v_FinC T = true) (hT' : v_dj v_FinM T' = true) : v_Fin np I1 I1' := by
  unfold v_Fin v_eq q_us q_bl q_rk at h ⊢
  simp only [e f_a_winds (v_dj.o hT (by decide)), e f_speakers (v_dj.o hT (by decide)), e f_isWaiting (v_dj.o hT (by decide)), e f_a_uses (v_dj.o hT (by decide)), e f_p_found (v_dj.o hT (by decide)), e' f_m_winds (v_dj.o hT' (by decide)), e' f_m_speaks (v_dj.o hT' (by decide)), e' f_m_isOpen (v_dj.o hT' (by decide)), e' f_m_isWanted (v_dj.o hT' (by decide)), e' f_m_fault (v_dj.o hT' (by decide)), e' f_m_rankOf (v_dj.o hT' (by decide)), e' f_mr_division (v_dj.o hT' (by decide)), e' f_mr_wind (v_dj.o hT' (by decide)), e' f_m_counts (v_dj.o hT' (by decide))]
  exact h
def v_BC : List Nat := [f_r_lowest, f_r_division, f_r_use, f_r_delay, f_r_rest, f_r_power, f_r_heatNumber, f_k_kind, f_k_division, f_k_isOut, f_k_relay, f_c_from, f_c_to, f_c_shift, f_c_kind, f_s_stage, f_s_rows, f_s_ranks, f_s_offsets, f_s_firsts, f_s_lasts, f_s_places, f_s_keysAt, f_a_relaysOn, f_a_sources, f_a_others, f_a_operations, f_p_isHeld, f_p_isWanted, f_p_changedAt, f_p_isOpened, f_p_closedAt, f_p_fault, f_recording, f_a_supplies, f_p_isSpeaking, f_p_begins, f_p_ends, f_allBegins, f_a_pressed, f_a_pressedAt, f_now, f_a_lowest, f_a_highest, f_isTutti, f_crescendo, f_tsize, f_entries, f_startedAt, f_a_winds, f_speakers, f_isWaiting, f_a_uses, f_p_found, f_lastPressedAt]
def v_BM : List Nat := [f_mr_lowest, f_mr_highest, f_mr_base, f_mr_division, f_mr_wind, f_mr_delay, f_mr_rest, f_mr_power, f_mr_heat, f_m_rankOf, f_mk_kind, f_mk_division, f_mk_isDrawn, f_mk_relay, f_mk_to, f_mk_shift, f_mk_letter, f_mk_stage, f_mk_rows, f_mk_ranks, f_mk_offsets, f_mk_froms, f_mk_tos, f_mk_wires, f_m_isRelay, f_m_first, f_m_second, f_m_operation, f_m_isHeld, f_m_isWanted, f_m_since, f_m_isOpen, f_m_closedSince, f_m_fault, f_m_recording, f_m_supply, f_m_speaks, f_m_begun, f_m_isDown, f_m_wentDown, f_m_tick, f_m_isTutti, f_m_crescendo, f_l_size, f_mt_division, f_mt_at, f_mt_tick, f_mt_is, f_m_kindKept, f_m_winds, f_m_counts, f_m_isCalled]
/-- when nothing of all this changes -/
theorem v_B.N {p : e_Sp} {nk nr np n s m : Nat} {t : Nat → Nat} {I I' I1 I1' : e_I} {J J' J1 J1' : e_Jt} {T T' : List Nat} (h : v_B p nk nr np n t s m (I, J) (I', J')) (e : s_eqN T I I1) (e' : s_eqN T' I' I1') (hT : v_dj v_BC T = true) (hT' : v_dj v_BM T' = true) (hj : J1 j_allEnds = J j_allEnds) (hj1 : J1' j_m_ended = J' j_m_ended) (hj2 : J1' j_m_allBegun = J' j_m_allBegun) : v_B p nk nr np n t s m (I1, J1) (I1', J1') := by
  obtain ⟨h1, h2, h3, h4⟩ := h
  exact ⟨h1.re e e' (v_dj.sub hT (by decide)) (v_dj.sub hT' (by decide)) (h1.1.2.2.N e e' (v_dj.sub hT (by decide)) (v_dj.sub hT' (by decide))) (h1.2.2.1.2.1.N e e' (v_dj.sub hT (by decide)) (v_dj.sub hT' (by decide))) hj hj1 hj2, h2.N e e' (v_dj.sub hT (by decide)) (v_dj.sub hT' (by decide)), h3.N e' (v_dj.sub hT' (by decide)), h4.N e e' (v_dj.sub hT (by decide)) (v_dj.sub hT' (by decide))⟩
/-- settling what is settled, on one side alone -/
theorem v_B.settled {p : e_Sp} {nk nr np n s m : Nat} {t : Nat → Nat} {a b : e_I × e_Jt} (h : v_B p nk nr np n t s m a b) : v_B p nk nr np n t s m a (q_st nk nr np b) := by
  obtain ⟨h1, h2, h3, h4⟩ := h
  obtain ⟨f1, f2, f3, f4⟩ := v_fixA (J := b.2) h3
  have r0 : s_eqN [] a.1 a.1 := s_eqN.rfl'
  have hfix := v_fixB (nk := nk) (nr := nr) (np := np) (J := b.2) h1.2.1.2.2.2.2 h1.2.1.2.2.2.1
  refine ⟨h1.re r0 f1 (by decide) (by decide) (h1.1.2.2.N r0 f1 (by decide) (by decide)) (h1.2.2.1.2.1.N r0 f1 (by decide) (by decide)) rfl (by rw [f2]) (by rw [f2]), ?_, hfix, h4.N r0 f1 (by decide) (by decide)⟩
  obtain ⟨g1, g2, g3, g4, g5⟩ := h2
  have g1' : np = 0 ∨ v_eq 3 f_a_winds f_m_winds a.1 (q_st nk nr np b).1 := by
    rcases g1 with z | g1
    · exact .inl z
    · rcases f4 with z | f4
      · exact .inl z
      · exact .inr (fun d hd => (g1 d hd).trans (congrFun f4 d).symm)
  refine ⟨g1', ?_, ?_, ?_, fun q hq => ?_⟩
  · rw [f1 _ (by decide)]; exact g2
  · rw [f1 _ (by decide), f1 _ (by decide)]; exact g3
  · have : ∀ d, q_us (q_st nk nr np b).1 d = q_us b.1 d := fun d => by
      funext q u
      unfold q_us q_bl q_rk
      simp only [f1 f_m_fault (by decide), f1 f_m_isOpen (by decide), f1 f_m_rankOf (by decide), f1 f_mr_division (by decide), f1 f_mr_wind (by decide)]
    intro d hd
    rw [this]
    exact g4 d hd
  · rw [f3 q hq]; exact g5 q hq
/-- a key, both sides -/
theorem v_prk {p : e_Sp} {nk nr np n s m : Nat} {t : Nat → Nat} {I I' : e_I} {J J' : e_Jt} {x y z : Int32} (h : v_Rel p nk nr np n t s m I I' J J') (hK : v_Kt m I I') (hi : s_isk x y) (hz : z = 0 ∨ z = 1) (hb : I' f_m_recording 0 = 107 → I' f_m_kindKept 0 = 107 ∧ m - s ≤ 100000 ∧ n < 1000000) : ∃ n' t', n' ≤ n + 1 ∧ (¬ I' f_m_recording 0 = 107 → n' = n) ∧ v_Rel p nk nr np n' t' s m (s_prk I x y z) (q_mdv I' x y z) J J' ∧ v_Kt m (s_prk I x y z) (q_mdv I' x y z) := by
  have hT := h.2.2.1.2.1
  have hrec := h.2.2.1.2.2.1
  have hd := h.1.2.2.1 _ hi.lt
  unfold s_prk q_mdv
  by_cases c : I' f_m_isDown (s_kn x y) = z
  · rw [if_pos c, if_neg (fun w => w.2 (hd.trans c))]
    exact ⟨n, t, by omega, fun _ => rfl, h, hK⟩
  · rw [if_neg c, if_pos ⟨hi, fun w => c (hd.symm.trans w)⟩]
    obtain ⟨p1, p2⟩ := v_put h.1.2.2 hK hT.1.2.2.2.1 hi hz
    have hE : s_eqN [f_a_pressed, f_a_pressedAt, f_lastPressedAt, f_a_lowest, f_a_highest] I (s_put I x y z (I f_now 0)) := s_eqN.put
    have hE' : s_eqN [f_m_isDown, f_m_wentDown] I' (q_md1 I' x y z) := s_eqN.qmd1
    have hT1 := hT.N hE hE' (by decide) (by decide)
    have hR1 := h.re hE hE' (by decide) (by decide) p1 hT1 rfl rfl rfl
    have hsz : I' f_l_size 4 = q_md1 I' x y z f_l_size 4 := by rw [hE' _ (by decide)]
    have hr1 : s_put I x y z (I f_now 0) f_recording 0 = I' f_m_recording 0 := by rw [hE _ (by decide)]; exact hrec
    have hk1 : q_md1 I' x y z f_m_kindKept 0 = I' f_m_kindKept 0 := by rw [hE' _ (by decide)]
    have hn1 : s_put I x y z (I f_now 0) f_now 0 = q_md1 I' x y z f_m_tick 0 := p1.2.2.1
    rw [hsz]
    unfold s_kp
    rw [hr1, hn1]
    generalize s_put I x y z (I f_now 0) = A at *
    generalize q_md1 I' x y z = B at *
    by_cases c2 : I' f_m_recording 0 = 107
    · rw [if_pos c2, if_pos c2]
      obtain ⟨b1, b2, b3⟩ := hb c2
      have hT2 := hT1.add (cd := x * 128 + y) (x := x) (y := y) (on := z) b3 b2 hz (.inr ⟨by rw [hk1]; exact b1, hi, rfl⟩)
      have e : s_eqN [f_entries, f_tsize] A (s_ke A (x * 128 + y) z (B f_m_tick 0)) := s_eqN.ke
      have e' : s_eqN v_qA B (q_ka B (B f_l_size 4).toNatClampNeg x y z) := q_ka_e.1
      exact ⟨n + 1, _, by omega, fun w => absurd c2 w, hR1.re e e' (by decide) (by decide) (p1.N e e' (by decide) (by decide)) hT2 rfl rfl rfl, p2.N e e' (by decide) (by decide)⟩
    · rw [if_neg c2, if_neg c2]
      exact ⟨n, t, by omega, fun _ => rfl, hR1, p2⟩
