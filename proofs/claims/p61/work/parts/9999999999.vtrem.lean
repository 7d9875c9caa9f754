/-! 9999999999: a new knob's frames -/
theorem v_nkN {I : e_I} {j : Nat} {x y z s t : Int32} : s_eqN v_gM I (q_nk I j x y z s t) := by
  have h0 : s_eqN v_gM I (q_mw I j 61) := fun F hF => by
    have h1 : ∀ G, G ∈ [f_mk_wires, f_mk_ranks, f_mk_offsets, f_mk_froms, f_mk_tos] → F ≠ G := fun G hG z => by
      rw [z] at hF
      have : ∀ G, G ∈ [f_mk_wires, f_mk_ranks, f_mk_offsets, f_mk_froms, f_mk_tos] → v_gM.contains G = true := by decide
      rw [this G hG] at hF
      exact absurd hF (by decide)
    funext i
    unfold q_mw
    rw [if_neg (fun w => h1 _ (by decide) w.1), if_neg (fun w => w.1.elim (h1 _ (by decide)) (fun w => w.elim (h1 _ (by decide)) (fun w => w.elim (h1 _ (by decide)) (h1 _ (by decide)))))]
  refine h0.trans ?_
  unfold q_nk s_IMKNOB
  exact ((((((((((s_eqN.up (by decide)).trans (s_eqN.up (by decide))).trans (s_eqN.up (by decide))).trans (s_eqN.up (by decide))).trans (s_eqN.up (by decide))).trans (s_eqN.up (by decide))).trans (s_eqN.up (by decide))).trans (s_eqN.up (by decide))).trans (s_eqN.up (by decide))).trans (s_eqN.up (by decide))).trans (s_eqN.up (by decide))
theorem v_kIN {I : e_I} {j : Nat} {x y : Int32} : s_eqN v_gC I (s_kI I j x y) := (((((s_eqN.up (by decide)).trans (s_eqN.up (by decide))).trans (s_eqN.up (by decide))).trans (s_eqN.up (by decide))).trans (s_eqN.up (by decide))).trans (s_eqN.up (by decide))
theorem v_cIN {I : e_I} {j : Nat} {x y z t : Int32} : s_eqN v_gC I (s_cI I j x y z t) := (((s_eqN.up (by decide)).trans (s_eqN.up (by decide))).trans (s_eqN.up (by decide))).trans (s_eqN.up (by decide))
theorem v_sIN {I : e_I} {j : Nat} : s_eqN v_gC I (s_sI I j) := (s_eqN.up (by decide)).trans (s_eqN.up (by decide))
theorem v_stiN {I : e_I} {j : Nat} : s_eqN v_gC I (s_sti I j 61) := fun F hF => by
  have h1 : ∀ G, G ∈ [f_s_places, f_s_keysAt, f_s_ranks, f_s_offsets, f_s_firsts, f_s_lasts] → F ≠ G := fun G hG z => by
    rw [z] at hF
    have : ∀ G, G ∈ [f_s_places, f_s_keysAt, f_s_ranks, f_s_offsets, f_s_firsts, f_s_lasts] → v_gC.contains G = true := by decide
    rw [this G hG] at hF
    exact absurd hF (by decide)
  funext i
  unfold s_sti
  rw [if_neg (fun w => w.1.elim (h1 _ (by decide)) (h1 _ (by decide))), if_neg (fun w => w.1.elim (h1 _ (by decide)) (fun w => w.elim (h1 _ (by decide)) (fun w => w.elim (h1 _ (by decide)) (h1 _ (by decide)))))]
theorem v_kIv {I : e_I} {j : Nat} {x y : Int32} : s_kI I j x y f_k_kind j = x ∧ s_kI I j x y f_k_division j = y ∧ s_kI I j x y f_k_isOut j = 0 ∧ s_kI I j x y f_k_isLocked j = 0 ∧ s_kI I j x y f_k_isInScope j = 1 ∧ s_kI I j x y f_k_relay j = -1 := by
  unfold s_kI
  refine ⟨?_, ?_, ?_, ?_, ?_, ?_⟩
  · rw [s_up_F (by decide), s_up_F (by decide), s_up_F (by decide), s_up_F (by decide), s_up_F (by decide), s_up_s]
  · rw [s_up_F (by decide), s_up_F (by decide), s_up_F (by decide), s_up_F (by decide), s_up_s]
  · rw [s_up_F (by decide), s_up_F (by decide), s_up_F (by decide), s_up_s]
  · rw [s_up_F (by decide), s_up_F (by decide), s_up_s]
  · rw [s_up_F (by decide), s_up_s]
  · rw [s_up_s]
