/-! 99999997: heat, recording, wires (printed by wip/whole/p99999997.py) -/
def v_rshC : List Nat := [f_k_kind, f_k_division, f_k_isOut, f_k_relay, f_c_from, f_c_to, f_c_shift, f_c_kind, f_s_stage, f_s_rows, f_s_ranks, f_s_offsets, f_s_firsts, f_s_lasts, f_s_places, f_s_keysAt, f_a_relaysOn, f_a_sources, f_a_others, f_a_operations, f_p_isHeld, f_p_isWanted, f_p_changedAt, f_p_isOpened, f_p_closedAt, f_p_fault, f_recording, f_a_supplies, f_p_isSpeaking, f_p_begins, f_p_ends, f_allBegins]
def v_rshM : List Nat := [f_mk_kind, f_mk_division, f_mk_isDrawn, f_mk_relay, f_mk_to, f_mk_shift, f_mk_letter, f_mk_stage, f_mk_rows, f_mk_ranks, f_mk_offsets, f_mk_froms, f_mk_tos, f_mk_wires, f_m_isRelay, f_m_first, f_m_second, f_m_operation, f_m_isHeld, f_m_isWanted, f_m_since, f_m_isOpen, f_m_closedSince, f_m_fault, f_m_recording, f_m_supply, f_m_speaks, f_m_begun]
theorem v_Rel.rsh {p : e_Sp} {nk nr np n s m : Nat} {t : Nat → Nat} {I I' I1 I1' : e_I} {J J' : e_Jt} {T T' : List Nat} (h : v_Rel p nk nr np n t s m I I' J J') (e : s_eqN T I I1) (e' : s_eqN T' I' I1') (hT : v_dj v_rshC T = true) (hT' : v_dj v_rshM T' = true) (hs1 : v_Sh p I1 I1' nr np) (hy1 : v_Ky I1 I1') (ht1 : v_Ta p nr n t s m I1 I1') : v_Rel p nk nr np n t s m I1 I1' J J' := by
  obtain ⟨⟨hS, hK, hy⟩, ⟨hr, ho, hz, hq, hrs⟩, ⟨hp, hT0, hrec, hsu⟩, h1, hc⟩ := h
  exact ⟨⟨hs1, hK.N e e' (v_dj.sub hT (by decide)) (v_dj.sub hT' (by decide)), hy1⟩, ⟨hr.N e e' (v_dj.o hT (by decide)) (v_dj.o hT' (by decide)), ho.N e e' (v_dj.sub hT (by decide)) (v_dj.sub hT' (by decide)), (by unfold v_Rz; rw [e' _ (v_dj.o hT' (by decide)), e' _ (v_dj.o hT' (by decide))]; exact hz), (by unfold q_S; rw [e' f_m_operation (v_dj.o hT' (by decide)), e' f_m_first (v_dj.o hT' (by decide)), e' f_m_second (v_dj.o hT' (by decide))]; exact hq), (by unfold v_Rs; rw [e' f_m_operation (v_dj.o hT' (by decide)), e' f_m_first (v_dj.o hT' (by decide)), e' f_m_second (v_dj.o hT' (by decide))]; exact hrs)⟩, ⟨hp.N e e' (v_dj.sub hT (by decide)) (v_dj.sub hT' (by decide)), ht1, (by rw [e _ (v_dj.o hT (by decide)), e' _ (v_dj.o hT' (by decide))]; exact hrec), hsu.N e e' (v_dj.o hT (by decide)) (v_dj.o hT' (by decide))⟩, (fun q hq => (h1 q hq).N e e' (v_dj.sub hT (by decide)) (v_dj.sub hT' (by decide))), (by rw [e _ (v_dj.o hT (by decide))]; exact hc.1), hc.2⟩
def v_rrecC : List Nat := [f_r_lowest, f_r_division, f_r_use, f_r_delay, f_r_rest, f_r_power, f_r_heatNumber, f_k_kind, f_k_division, f_k_isOut, f_k_relay, f_c_from, f_c_to, f_c_shift, f_c_kind, f_s_stage, f_s_rows, f_s_ranks, f_s_offsets, f_s_firsts, f_s_lasts, f_s_places, f_s_keysAt, f_a_relaysOn, f_a_sources, f_a_others, f_a_operations, f_p_isHeld, f_p_isWanted, f_p_changedAt, f_p_isOpened, f_p_closedAt, f_p_fault, f_a_supplies, f_p_isSpeaking, f_p_begins, f_p_ends, f_allBegins]
def v_rrecM : List Nat := [f_mr_lowest, f_mr_highest, f_mr_base, f_mr_division, f_mr_wind, f_mr_delay, f_mr_rest, f_mr_power, f_mr_heat, f_m_rankOf, f_mk_kind, f_mk_division, f_mk_isDrawn, f_mk_relay, f_mk_to, f_mk_shift, f_mk_letter, f_mk_stage, f_mk_rows, f_mk_ranks, f_mk_offsets, f_mk_froms, f_mk_tos, f_mk_wires, f_m_isRelay, f_m_first, f_m_second, f_m_operation, f_m_isHeld, f_m_isWanted, f_m_since, f_m_isOpen, f_m_closedSince, f_m_fault, f_m_supply, f_m_speaks, f_m_begun]
theorem v_Rel.rrec {p : e_Sp} {nk nr np n s m n1 s1 : Nat} {t t1 : Nat → Nat} {I I' I1 I1' : e_I} {J J' : e_Jt} {T T' : List Nat} (h : v_Rel p nk nr np n t s m I I' J J') (e : s_eqN T I I1) (e' : s_eqN T' I' I1') (hT : v_dj v_rrecC T = true) (hT' : v_dj v_rrecM T' = true) (hr1 : I1 f_recording 0 = I1' f_m_recording 0) (hy1 : v_Ky I1 I1') (ht1 : v_Ta p nr n1 t1 s1 m I1 I1') : v_Rel p nk nr np n1 t1 s1 m I1 I1' J J' := by
  obtain ⟨⟨hS, hK, hy⟩, ⟨hr, ho, hz, hq, hrs⟩, ⟨hp, hT0, hrec, hsu⟩, h1, hc⟩ := h
  exact ⟨⟨hS.N e e' (v_dj.sub hT (by decide)) (v_dj.sub hT' (by decide)), hK.N e e' (v_dj.sub hT (by decide)) (v_dj.sub hT' (by decide)), hy1⟩, ⟨hr.N e e' (v_dj.o hT (by decide)) (v_dj.o hT' (by decide)), ho.N e e' (v_dj.sub hT (by decide)) (v_dj.sub hT' (by decide)), (by unfold v_Rz; rw [e' _ (v_dj.o hT' (by decide)), e' _ (v_dj.o hT' (by decide))]; exact hz), (by unfold q_S; rw [e' f_m_operation (v_dj.o hT' (by decide)), e' f_m_first (v_dj.o hT' (by decide)), e' f_m_second (v_dj.o hT' (by decide))]; exact hq), (by unfold v_Rs; rw [e' f_m_operation (v_dj.o hT' (by decide)), e' f_m_first (v_dj.o hT' (by decide)), e' f_m_second (v_dj.o hT' (by decide))]; exact hrs)⟩, ⟨hp.N e e' (v_dj.sub hT (by decide)) (v_dj.sub hT' (by decide)), ht1, hr1, hsu.N e e' (v_dj.o hT (by decide)) (v_dj.o hT' (by decide))⟩, (fun q hq => (h1 q hq).N e e' (v_dj.sub hT (by decide)) (v_dj.sub hT' (by decide))), (by rw [e _ (v_dj.o hT (by decide))]; exact hc.1), hc.2⟩
theorem v_Sh.heat {p : e_Sp} {I I' : e_I} {nr np r : Nat} {z : Int32} (h : v_Sh p I I' nr np) : v_Sh p (s_up I f_r_heatNumber r z) (s_up I' f_mr_heat r z) nr np := by
  refine ⟨h.1, h.2.1, fun k hk => ?_⟩
  obtain ⟨lo, dv, a1, a2, a3, a4, a5, a6, a7, a8, a9, ⟨b1, b2, b3, b4, b5, b6⟩, c⟩ := h.2.2 k hk
  have e : s_eqN [f_r_heatNumber] I (s_up I f_r_heatNumber r z) := s_eqN.up (by decide)
  have e' : s_eqN [f_mr_heat] I' (s_up I' f_mr_heat r z) := s_eqN.up (by decide)
  refine ⟨lo, dv, a1, a2, a3, ?_⟩
  rw [e f_r_lowest (by decide), e f_r_division (by decide), e f_r_use (by decide), e f_r_delay (by decide), e f_r_rest (by decide), e f_r_power (by decide), e' f_mr_lowest (by decide), e' f_mr_highest (by decide), e' f_mr_base (by decide), e' f_mr_division (by decide), e' f_mr_wind (by decide), e' f_mr_delay (by decide), e' f_mr_rest (by decide), e' f_mr_power (by decide), e' f_m_rankOf (by decide)]
  refine ⟨a4, a5, a6, a7, a8, a9, ⟨b1, b2, b3, b4, ?_, b6⟩, c⟩
  by_cases c1 : k = r
  · rw [c1, s_up_s, s_up_s]
  · rw [s_up_i c1, s_up_i c1]; exact b5
theorem a_heat {p : e_Sp} {nk nr np n s m L r : Nat} {t : Nat → Nat} {I I' : e_I} {J J' : e_Jt} {x z : Int32} (h : v_Sim p nk nr np n t s m L (I, J) (I', J')) : v_Sim p nk nr np n t s m L (s_up (s_up I f_heat 0 x) f_r_heatNumber r z, J) (q_st nk nr np (s_up (s_up I' f_m_heat 0 x) f_mr_heat r z, J')) := by
  obtain ⟨⟨hR, hF, hX, hK⟩, z1, z2, z3, z4, z5, z6⟩ := h
  have e : s_eqN [f_heat, f_r_heatNumber] I (s_up (s_up I f_heat 0 x) f_r_heatNumber r z) := (s_eqN.up (by decide)).trans (s_eqN.up (by decide))
  have e' : s_eqN [f_m_heat, f_mr_heat] I' (s_up (s_up I' f_m_heat 0 x) f_mr_heat r z) := (s_eqN.up (by decide)).trans (s_eqN.up (by decide))
  have e1 : s_eqN [f_heat] I (s_up I f_heat 0 x) := s_eqN.up (by decide)
  have e1' : s_eqN [f_m_heat] I' (s_up I' f_m_heat 0 x) := s_eqN.up (by decide)
  have hB : v_B p nk nr np n t s m (s_up (s_up I f_heat 0 x) f_r_heatNumber r z, J) (s_up (s_up I' f_m_heat 0 x) f_mr_heat r z, J') := ⟨hR.rsh e e' (by decide) (by decide) (hR.1.1.N e1 e1' (by decide) (by decide)).heat (hR.1.2.2.N e e' (by decide) (by decide)) (hR.2.2.1.2.1.N e e' (by decide) (by decide)), hF.N e e' (by decide) (by decide), hX.N e' (by decide), hK.N e e' (by decide) (by decide)⟩
  have hZ : v_Zs nk np s m n L (s_up (s_up I f_heat 0 x) f_r_heatNumber r z, J) (s_up (s_up I' f_m_heat 0 x) f_mr_heat r z, J') := ⟨⟨(fun q hq => by dsimp only; rw [e _ (by decide), e' _ (by decide)]; exact z1.1 q hq), (fun q hq => by dsimp only; rw [e' _ (by decide)]; exact z1.2.1 q hq), (by dsimp only; rw [s_up_F (by decide), s_up_s, s_up_F (by decide), s_up_s]), z1.2.2.2.1.N e e' (by decide) (by decide), z1.2.2.2.2.1.N e e' (by decide) (by decide), z1.2.2.2.2.2.1.N e e' (by decide) (by decide), z1.2.2.2.2.2.2.N e e' (by decide) (by decide)⟩, z2.N e e' (by decide) (by decide), z3.N e e' (by decide) (by decide), z4.N e e' (by decide) (by decide), z5.frame e e' (by decide) (by decide), z6.N e e' (by decide) (by decide) (fun l _ => by dsimp only; rw [e' _ (by decide)]) v_eqJ.rfl' v_eqJ.rfl'⟩
  exact ⟨hB.settled, hZ.one⟩
/-- recording ends -/
theorem v_Z5.rec {I I' : e_I} {T T' : List Nat} {I1 I1' : e_I} {x : Int32} (h : v_Z5 I I') (e : s_eqN T I I1) (e' : s_eqN T' I' I1') (hT : v_dj (f_p_fault :: v_bC) T = true) (hT' : v_dj (f_m_fault :: v_bM) T' = true) (hx : vp_nar .char x = x) (h1 : ∀ i, I1 f_recording i = if i = 0 then x else I f_recording i) (h2 : ∀ i, I1' f_m_recording i = if i = 0 then x else I' f_m_recording i) : v_Z5 I1 I1' := by
  obtain ⟨g1, g2, g3, g4, g5, g6⟩ := h
  refine ⟨fun F hF => v_bo_eq (g1 F hF) (e F (v_dj.o hT (by rw [List.contains_cons, hF, Bool.or_true]))), fun F hF => v_bo_eq (g2 F hF) (e' F (v_dj.o hT' (by rw [List.contains_cons, hF, Bool.or_true]))), ?_, ?_, fun i => ?_, fun i => ?_⟩
  · unfold v_ch; rw [e _ (v_dj.o hT (by decide))]; exact g3
  · unfold v_ch; rw [e' _ (v_dj.o hT' (by decide))]; exact g4
  · rw [h1]
    split
    · exact hx
    · exact g5 i
  · rw [h2]
    split
    · exact hx
    · exact g6 i
theorem v_up0 {I : e_I} {F : Nat} {x : Int32} (i : Nat) : s_up I F 0 x F i = if i = 0 then x else I F i := by
  by_cases c : i = 0
  · rw [if_pos c, c, s_up_s]
  · rw [if_neg c, s_up_i c]
theorem a_record0 {p : e_Sp} {nk nr np n s m L : Nat} {t : Nat → Nat} {I I' : e_I} {J J' : e_Jt} (h : v_Sim p nk nr np n t s m L (I, J) (I', J')) : v_Sim p nk nr np n t s m L (s_up I f_recording 0 45, J) (q_st nk nr np (q_re0 I' 45, J')) := by
  obtain ⟨⟨hR, hF, hX, hK⟩, z1, z2, z3, z4, z5, z6⟩ := h
  have e : s_eqN [f_recording] I (s_up I f_recording 0 45) := s_eqN.up (by decide)
  have e' : s_eqN [f_m_thrown, f_m_recording] I' (q_re0 I' 45) := (s_eqN.up (by decide)).trans (s_eqN.up (by decide))
  have hr : q_re0 I' 45 f_m_recording 0 = 45 := s_up_s
  have hB : v_B p nk nr np n t s m (s_up I f_recording 0 45, J) (q_re0 I' 45, J') := ⟨hR.rrec e e' (by decide) (by decide) (by dsimp only; rw [s_up_s, hr]) (hR.1.2.2.N e e' (by decide) (by decide)) (hR.2.2.1.2.1.N e e' (by decide) (by decide)), hF.N e e' (by decide) (by decide), hX.N e' (by decide), hK.N e e' (by decide) (by decide)⟩
  have hZ : v_Zs nk np s m n L (s_up I f_recording 0 45, J) (q_re0 I' 45, J') := ⟨z1.N e e' (by decide) (by decide), z2.N e e' (by decide) (by decide), ⟨.inl hr, by dsimp only; rw [e _ (by decide), e' _ (by decide)]; exact z3.2⟩, z4.N e e' (by decide) (by decide), z5.rec e e' (by decide) (by decide) (show vp_nar .char 45 = 45 by decide) v_up0 (fun i => by
    dsimp only
    unfold q_re0
    rw [v_up0]
    split
    · rfl
    · exact s_up_F (by decide)), z6.N e e' (by decide) (by decide) (fun l _ => by dsimp only; rw [e' _ (by decide)]) v_eqJ.rfl' v_eqJ.rfl'⟩
  exact ⟨hB.settled, hZ.one⟩
theorem a_recordK {p : e_Sp} {nk nr np n s m L : Nat} {t : Nat → Nat} {I I' : e_I} {J J' : e_Jt} {x : Int32} (h : v_Sim p nk nr np n t s m L (I, J) (I', J')) (hx : x = 107 ∨ x = 114) : v_Sim p nk nr np 0 t m m L (s_up (s_up (s_up (s_up I f_recording 0 x) f_tkind 0 x) f_tsize 0 0) f_startedAt 0 (I f_now 0), J) (q_st nk nr np (q_reK I' x, J')) := by
  obtain ⟨⟨hR, hF, hX, hK⟩, z1, z2, z3, z4, z5, z6⟩ := h
  have e : s_eqN [f_recording, f_tkind, f_tsize, f_startedAt] I (s_up (s_up (s_up (s_up I f_recording 0 x) f_tkind 0 x) f_tsize 0 0) f_startedAt 0 (I f_now 0)) := (((s_eqN.up (by decide)).trans (s_eqN.up (by decide))).trans (s_eqN.up (by decide))).trans (s_eqN.up (by decide))
  have e' : s_eqN [f_m_thrown, f_m_recording, f_l_modCount, f_l_size, f_m_kindKept] I' (q_reK I' x) := ((((s_eqN.up (by decide)).trans (s_eqN.up (by decide))).trans (s_eqN.up (by decide))).trans (s_eqN.up (by decide))).trans (s_eqN.up (by decide))
  have r1 : s_up (s_up (s_up (s_up I f_recording 0 x) f_tkind 0 x) f_tsize 0 0) f_startedAt 0 (I f_now 0) f_recording 0 = x := by rw [s_up_F (by decide), s_up_F (by decide), s_up_F (by decide), s_up_s]
  have r2 : q_reK I' x f_m_recording 0 = x := by unfold q_reK q_re0; rw [s_up_F (by decide), s_up_F (by decide), s_up_F (by decide), s_up_s]
  have r3 : q_reK I' x f_m_kindKept 0 = x := by unfold q_reK; rw [s_up_s]
  have r4 : s_up (s_up (s_up (s_up I f_recording 0 x) f_tkind 0 x) f_tsize 0 0) f_startedAt 0 (I f_now 0) f_tkind 0 = x := by rw [s_up_F (by decide), s_up_F (by decide), s_up_s]
  have hl : ∀ l, l ≠ 4 → q_reK I' x f_l_size l = I' f_l_size l := fun l hl => by
    unfold q_reK q_re0
    rw [s_up_F (by decide), s_up_i hl, s_up_F (by decide), s_up_F (by decide), s_up_F (by decide)]
  have htk := hR.2.2.1.2.1.1.2.2.2.1
  have hnow : I f_now 0 = nI m := hR.1.2.2.2.2.1.trans htk
  have ht : v_Ta p nr 0 t m m (s_up (s_up (s_up (s_up I f_recording 0 x) f_tkind 0 x) f_tsize 0 0) f_startedAt 0 (I f_now 0)) (q_reK I' x) := ⟨⟨by rw [s_up_F (by decide), s_up_s]; rfl, by unfold q_reK; rw [s_up_F (by decide), s_up_s]; rfl, by rw [s_up_s]; exact hnow, by rw [e' _ (by decide)]; exact htk, Nat.le_refl _, hR.2.2.1.2.1.1.2.2.2.2.2⟩, fun j hj => absurd hj (Nat.not_lt_zero _), fun j hj => absurd hj (by omega), fun j hj => absurd hj (Nat.not_lt_zero _), fun j hj => absurd hj (Nat.not_lt_zero _)⟩
  have hB : v_B p nk nr np 0 t m m (s_up (s_up (s_up (s_up I f_recording 0 x) f_tkind 0 x) f_tsize 0 0) f_startedAt 0 (I f_now 0), J) (q_reK I' x, J') := ⟨hR.rrec e e' (by decide) (by decide) (by dsimp only; rw [r1, r2]) (hR.1.2.2.N e e' (by decide) (by decide)) ht, hF.N e e' (by decide) (by decide), hX.N e' (by decide), hK.N e e' (by decide) (by decide)⟩
  have hZ : v_Zs nk np m m 0 L (s_up (s_up (s_up (s_up I f_recording 0 x) f_tkind 0 x) f_tsize 0 0) f_startedAt 0 (I f_now 0), J) (q_reK I' x, J') := ⟨z1.N e e' (by decide) (by decide), z2.N e e' (by decide) (by decide), ⟨.inr ⟨by dsimp only; rw [r2]; exact hx, by dsimp only; rw [r3, r2], by dsimp only; rw [r4, r2], by omega⟩, .inl rfl⟩, z4.N e e' (by decide) (by decide), z5.rec (x := x) e e' (by decide) (by decide) (by rcases hx with w | w <;> rw [w] <;> decide) (fun i => by
    dsimp only
    rw [s_up_F (by decide), s_up_F (by decide), s_up_F (by decide), v_up0]) (fun i => by
    dsimp only
    unfold q_reK q_re0
    rw [s_up_F (by decide), s_up_F (by decide), s_up_F (by decide), v_up0]
    split
    · rfl
    · exact s_up_F (by decide)), z6.N e e' (by decide) (by decide) (fun l hl8 => hl l (by omega)) v_eqJ.rfl' v_eqJ.rfl'⟩
  exact ⟨hB.settled, hZ.one⟩
