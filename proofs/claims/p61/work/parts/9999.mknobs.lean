def q_kF : List Nat := [f_mk_kind, f_mk_division, f_mk_to, f_mk_shift, f_mk_letter, f_mk_isDrawn, f_mk_isLocked, f_mk_isIn, f_mk_rows, f_mk_stage, f_mk_relay, f_mk_wires, f_mk_ranks, f_mk_offsets, f_mk_froms, f_mk_tos]
/-- a knob that was made -/
def q_nk (I : e_I) (j : Nat) (x y z s t : Int32) : e_I := s_IMKNOB (q_mw I j 61) j x y z s t 0 0 1 0 0 (-1)
theorem q_nk_F {I : e_I} {j F : Nat} {x y z s t : Int32} (h : q_kF.contains F = false) : q_nk I j x y z s t F = I F := by
  have h1 : ∀ F', F' ∈ q_kF → F ≠ F' := fun F' hF' z => by rw [z, List.contains_iff_mem.mpr hF'] at h; cases h
  have e : q_mw I j 61 F = I F := q_mw_F (by
    cases e : [f_mk_wires, f_mk_ranks, f_mk_offsets, f_mk_froms, f_mk_tos].contains F
    · rfl
    · have h2 : ([f_mk_wires, f_mk_ranks, f_mk_offsets, f_mk_froms, f_mk_tos].all fun F => q_kF.contains F) = true := by decide
      exact absurd (List.all_eq_true.mp h2 F (List.contains_iff_mem.mp e)) (by rw [h]; decide))
  funext i
  unfold q_nk s_IMKNOB
  rw [s_up_F (h1 _ (by decide)), s_up_F (h1 _ (by decide)), s_up_F (h1 _ (by decide)), s_up_F (h1 _ (by decide)), s_up_F (h1 _ (by decide)), s_up_F (h1 _ (by decide)), s_up_F (h1 _ (by decide)), s_up_F (h1 _ (by decide)), s_up_F (h1 _ (by decide)), s_up_F (h1 _ (by decide)), s_up_F (h1 _ (by decide)), e]
