/-! 99999999992: tremulant, coupler, stop -/
theorem v_knew {C I' : e_I} {nk dv : Nat} {kd z s9 t9 : Int32} (hdv : dv < 3) (hl : (3 ≤ nk ∧ kd = 99 ∧ C f_c_from nk = nI dv ∧ C f_c_to nk = z ∧ C f_c_shift nk = s9 ∧ C f_c_kind nk = t9) ∨ (3 ≤ nk ∧ kd = 115 ∧ C f_s_stage nk = 0 ∧ C f_s_rows nk = 0 ∧ ∀ y, y < 61 → C f_s_places (nk * 61 + y) = nI y ∧ C f_s_keysAt (nk * 61 + y) = nI y) ∨ (3 ≤ nk ∧ kd = 116)) : v_K (s_adI (s_kI C nk kd (nI dv)) 1 nk) (s_adI (q_nk I' nk kd (nI dv) z s9 t9) 3 nk) nk := by
  have hA : ∀ F, F ≠ f_l_modCount → F ≠ f_l_size → ∀ i, s_adI (s_kI C nk kd (nI dv)) 1 nk F i = s_kI C nk kd (nI dv) F i := fun F h1 h2 i => by
    unfold s_adI; rw [s_up_F h2, s_up_F h1]
  have hB : ∀ F, F ≠ f_l_modCount → F ≠ f_l_size → ∀ i, s_adI (q_nk I' nk kd (nI dv) z s9 t9) 3 nk F i = q_nk I' nk kd (nI dv) z s9 t9 F i := fun F h1 h2 i => by
    unfold s_adI; rw [s_up_F h2, s_up_F h1]
  have hk9 : s_eqN [f_k_kind, f_k_division, f_k_isOut, f_k_isLocked, f_k_isInScope, f_k_relay] C (s_kI C nk kd (nI dv)) := (((((s_eqN.up (by decide)).trans (s_eqN.up (by decide))).trans (s_eqN.up (by decide))).trans (s_eqN.up (by decide))).trans (s_eqN.up (by decide))).trans (s_eqN.up (by decide))
  obtain ⟨k1, k2, k3, k4, k5, k6⟩ := v_kIv (I := C) (j := nk) (x := kd) (y := nI dv)
  obtain ⟨q1, q2, q3, q4, q5, q6, q7, q8, q9, q10, q11⟩ := v_nkv (I := I') (j := nk) (x := kd) (y := nI dv) (z := z) (s := s9) (t := t9)
  unfold v_K v_Stp
  simp only [hA f_k_kind (by decide) (by decide), hA f_k_division (by decide) (by decide), hA f_k_isOut (by decide) (by decide), hA f_k_relay (by decide) (by decide), hA f_c_from (by decide) (by decide), hA f_c_to (by decide) (by decide), hA f_c_shift (by decide) (by decide), hA f_c_kind (by decide) (by decide), hA f_s_stage (by decide) (by decide), hA f_s_rows (by decide) (by decide), hA f_s_places (by decide) (by decide), hA f_s_keysAt (by decide) (by decide), hB f_mk_kind (by decide) (by decide), hB f_mk_division (by decide) (by decide), hB f_mk_isDrawn (by decide) (by decide), hB f_mk_relay (by decide) (by decide), hB f_mk_to (by decide) (by decide), hB f_mk_shift (by decide) (by decide), hB f_mk_letter (by decide) (by decide), hB f_mk_stage (by decide) (by decide), hB f_mk_rows (by decide) (by decide), hB f_mk_wires (by decide) (by decide), k1, k2, k3, k6, q1, q2, q3, q4, q5, q6, q9, q10, q11, hk9 f_c_from (by decide), hk9 f_c_to (by decide), hk9 f_c_shift (by decide), hk9 f_c_kind (by decide), hk9 f_s_stage (by decide), hk9 f_s_rows (by decide), hk9 f_s_places (by decide), hk9 f_s_keysAt (by decide)]
  refine ⟨⟨trivial, trivial, trivial, trivial⟩, ⟨dv, hdv, rfl⟩, .inl trivial, ?_⟩
  rcases hl with ⟨h3, h4, h5, h6, h7, h8⟩ | ⟨h3, h4, h5, h6, h7⟩ | ⟨h3, h4⟩
  · exact .inr (.inl ⟨h3, h4, h5, h6, h7, h8⟩)
  · refine .inr (.inr (.inl ⟨h3, h4, h5, ⟨0, by omega, h6, rfl, fun i hi => absurd hi (Nat.not_lt_zero _)⟩, fun y hy => ?_, fun y hy => ⟨y, hy, (h7 y hy).1, (h7 y hy).2⟩, fun y hy => ⟨y, hy, (h7 y hy).1, (h7 y hy).2⟩⟩))
    rw [(h7 y hy).1, v_nkw hy]
  · exact .inr (.inr (.inr ⟨h3, h4⟩))
theorem a_tremulant {p : e_Sp} {nk nr np n s m L dv : Nat} {t : Nat → Nat} {I I' : e_I} {J J' : e_Jt} (h : v_Sim p nk nr np n t s m L (I, J) (I', J')) (h40 : nk < 40) (hdv : dv < 3) (hL : L ≤ 2000) (hn : n + np ≤ 1000000) : ∃ n' t', n' ≤ n + np ∧ (¬ I' f_m_recording 0 = 114 → n' = n) ∧ v_Sim p (nk + 1) nr np n' t' s m L (s_stl p (nk + 1) nr (s_adI (s_kI I nk 116 (nI dv)) 1 nk, J)) (q_st (nk + 1) nr np (s_adI (q_nk I' nk 116 (nI dv) (nI dv) 0 45) 3 nk, J')) := a_knob h h40 s_eqN.rfl' (fun k _ => v_ag.rfl') (v_knew hdv (.inr (.inr ⟨h.1.1.1.2.1.1.1, rfl⟩))) hL hn
theorem a_coupler {p : e_Sp} {nk nr np n s m L dv : Nat} {t : Nat → Nat} {I I' : e_I} {J J' : e_Jt} {y z t9 : Int32} (h : v_Sim p nk nr np n t s m L (I, J) (I', J')) (h40 : nk < 40) (hdv : dv < 3) (hL : L ≤ 2000) (hn : n + np ≤ 1000000) : ∃ n' t', n' ≤ n + np ∧ (¬ I' f_m_recording 0 = 114 → n' = n) ∧ v_Sim p (nk + 1) nr np n' t' s m L (s_stl p (nk + 1) nr (s_adI (s_kI (s_cI I nk (nI dv) y z t9) nk 99 (nI dv)) 1 nk, J)) (q_st (nk + 1) nr np (s_adI (q_nk I' nk 99 (nI dv) y z t9) 3 nk, J')) := by
  refine a_knob h h40 ((((s_eqN.up (by decide)).trans (s_eqN.up (by decide))).trans (s_eqN.up (by decide))).trans (s_eqN.up (by decide))) (fun k hk => v_cIag (by omega)) (v_knew hdv (.inl ⟨h.1.1.1.2.1.1.1, rfl, ?_, ?_, ?_, ?_⟩)) hL hn
  · unfold s_cI; rw [s_up_F (by decide), s_up_F (by decide), s_up_F (by decide), s_up_s]
  · unfold s_cI; rw [s_up_F (by decide), s_up_F (by decide), s_up_s]
  · unfold s_cI; rw [s_up_F (by decide), s_up_s]
  · unfold s_cI; rw [s_up_s]
theorem a_stop {p : e_Sp} {nk nr np n s m L dv : Nat} {t : Nat → Nat} {I I' : e_I} {J J' : e_Jt} (h : v_Sim p nk nr np n t s m L (I, J) (I', J')) (h40 : nk < 40) (hdv : dv < 3) (hL : L ≤ 2000) (hn : n + np ≤ 1000000) : ∃ n' t', n' ≤ n + np ∧ (¬ I' f_m_recording 0 = 114 → n' = n) ∧ v_Sim p (nk + 1) nr np n' t' s m L (s_stl p (nk + 1) nr (s_adI (s_kI (s_sI (s_sti I nk 61) nk) nk 115 (nI dv)) 1 nk, J)) (q_st (nk + 1) nr np (s_adI (q_nk I' nk 115 (nI dv) (nI dv) 0 45) 3 nk, J')) := by
  have e1 : s_eqN v_cs I (s_sti I nk 61) := fun F hF => by
    have h1 : ∀ G, G ∈ [f_s_places, f_s_keysAt, f_s_ranks, f_s_offsets, f_s_firsts, f_s_lasts] → F ≠ G := fun G hG z => by
      rw [z] at hF
      have : ∀ G, G ∈ [f_s_places, f_s_keysAt, f_s_ranks, f_s_offsets, f_s_firsts, f_s_lasts] → v_cs.contains G = true := by decide
      rw [this G hG] at hF
      exact absurd hF (by decide)
    funext i
    unfold s_sti
    rw [if_neg (fun w => w.1.elim (h1 _ (by decide)) (h1 _ (by decide))), if_neg (fun w => w.1.elim (h1 _ (by decide)) (fun w => w.elim (h1 _ (by decide)) (fun w => w.elim (h1 _ (by decide)) (h1 _ (by decide)))))]
  refine a_knob h h40 (e1.trans ((s_eqN.up (by decide)).trans (s_eqN.up (by decide)))) (fun k hk => (v_stiag (by omega)).trans (v_sIag (by omega))) (v_knew hdv (.inr (.inl ⟨h.1.1.1.2.1.1.1, rfl, ?_, ?_, fun y hy => ⟨?_, ?_⟩⟩))) hL hn
  · unfold s_sI; rw [s_up_F (by decide), s_up_s]
  · unfold s_sI; rw [s_up_s]
  · unfold s_sI
    rw [s_up_F (by decide), s_up_F (by decide)]
    unfold s_sti
    rw [if_pos ⟨.inl rfl, by omega⟩, if_pos (by omega)]
    congr 1
    omega
  · unfold s_sI
    rw [s_up_F (by decide), s_up_F (by decide)]
    unfold s_sti
    rw [if_pos ⟨.inr rfl, by omega⟩, if_pos (by omega)]
    congr 1
    omega
