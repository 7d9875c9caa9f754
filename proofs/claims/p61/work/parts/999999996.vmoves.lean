/-! 999999996: knobs are moved, both sides -/
theorem v_and1 (u : Int64) : u &&& 1 = 0 ∨ u &&& 1 = 1 := by
  have h : u.toBitVec &&& 1#64 = 0#64 ∨ u.toBitVec &&& 1#64 = 1#64 := by
    rw [BitVec.and_one_eq_setWidth_ofBool_getLsbD]
    cases u.toBitVec.getLsbD 0
    · left; decide
    · right; decide
  rcases h with h | h
  · exact .inl (Int64.toBitVec_inj.1 h)
  · exact .inr (Int64.toBitVec_inj.1 h)
theorem v_cmp0 (x y : Int64) : lg_cmp x y = 0 ↔ x = y := by
  unfold lg_cmp
  by_cases c : x > y
  · rw [if_pos c]
    exact ⟨fun w => absurd w (by decide), fun w => absurd c (by rw [w]; exact Int64.lt_irrefl)⟩
  · rw [if_neg c]
    by_cases c2 : x = y
    · rw [if_pos c2]; exact ⟨fun _ => c2, fun _ => rfl⟩
    · rw [if_neg c2]; exact ⟨fun w => absurd w (by decide), fun w => absurd w c2⟩
theorem v_bt (y : Int64) (i : Nat) : q_b0 y i = false ↔ s_bt y i = true := by
  unfold q_b0 s_bt
  rw [decide_eq_false_iff_not, decide_eq_true_iff, v_cmp0, v_cmp0]
  rcases v_and1 (y >>> ((nI i).toInt64 &&& 63)) with h | h
  · rw [h]; exact ⟨fun w => absurd rfl w, fun w => absurd w (by decide)⟩
  · rw [h]; exact ⟨fun _ => rfl, fun _ => by decide⟩
theorem v_Kn.out' {I I' A B : e_I} {nk : Nat} (h : v_Kn I I' nk) (e : s_eqN [f_k_isOut] I A) (e' : s_eqN [f_mk_isDrawn] I' B) (hx : v_eq nk f_k_isOut f_mk_isDrawn A B) : v_Kn A B nk := by
  refine ⟨h.1, fun k hk => ?_⟩
  obtain ⟨⟨a1, a2, a3, a4⟩, b, c, d⟩ := h.2 k hk
  have hx := hx k hk
  unfold v_K v_Stp at *
  rw [hx]
  simp only [e f_k_kind (by decide), e f_k_division (by decide), e f_k_relay (by decide), e f_c_from (by decide), e f_c_to (by decide), e f_c_shift (by decide), e f_c_kind (by decide), e f_s_stage (by decide), e f_s_rows (by decide), e f_s_ranks (by decide), e f_s_offsets (by decide), e f_s_firsts (by decide), e f_s_lasts (by decide), e f_s_places (by decide), e f_s_keysAt (by decide), e' f_mk_kind (by decide), e' f_mk_division (by decide), e' f_mk_relay (by decide), e' f_mk_to (by decide), e' f_mk_shift (by decide), e' f_mk_letter (by decide), e' f_mk_stage (by decide), e' f_mk_rows (by decide), e' f_mk_ranks (by decide), e' f_mk_offsets (by decide), e' f_mk_froms (by decide), e' f_mk_tos (by decide), e' f_mk_wires (by decide)]
  exact ⟨⟨a1, a2, trivial, a4⟩, b, c, d⟩
theorem v_mt {I I' : e_I} {nk : Nat} {y z : Int64} (h : v_eq nk f_k_isOut f_mk_isDrawn I I') (hl : v_eq nk f_k_isLocked f_mk_isLocked I I') (hb : q_bo I f_k_isOut) (hb' : q_bo I' f_mk_isDrawn) : v_eq nk f_k_isOut f_mk_isDrawn (s_mt nk y z I).1 (q_mt nk y z I').1 ∧ s_eqN [f_k_isOut] I (s_mt nk y z I).1 ∧ s_eqN [f_mk_isDrawn] I' (q_mt nk y z I').1 ∧ (s_mt nk y z I).2 = (q_mt nk y z I').2 ∧ q_bo (s_mt nk y z I).1 f_k_isOut ∧ q_bo (q_mt nk y z I').1 f_mk_isDrawn := by
  refine v_run2 (f := s_mtK y z) (g := q_mvS y z) (m := nk) (R := fun i a b => v_eq nk f_k_isOut f_mk_isDrawn a.1 b.1 ∧ s_eqN [f_k_isOut] I a.1 ∧ s_eqN [f_mk_isDrawn] I' b.1 ∧ a.2 = b.2 ∧ q_bo a.1 f_k_isOut ∧ q_bo b.1 f_mk_isDrawn) (fun i a b hi hab => ?_) (a := (I, (0 : Int32))) (b := (I', (0 : Int32))) ⟨h, s_eqN.rfl', s_eqN.rfl', rfl, hb, hb'⟩ nk (Nat.le_refl _)
  obtain ⟨h1, h2, h3, h4, h5, h6⟩ := hab
  unfold s_mtK q_mvS
  have e1 : a.1 f_k_isLocked i = b.1 f_mk_isLocked i := by rw [h2 _ (by decide), h3 _ (by decide)]; exact hl i hi
  have ec : (s_bt y i = true ∧ a.1 f_k_isLocked i = 0 ∧ ¬ a.1 f_k_isOut i = bI (s_bt z i)) ↔ (q_b0 y i = false ∧ b.1 f_mk_isLocked i = 0 ∧ ¬ b.1 f_mk_isDrawn i = bI (s_bt z i)) := by
    rw [v_bt, e1, h1 i hi]
  by_cases c : s_bt y i = true ∧ a.1 f_k_isLocked i = 0 ∧ ¬ a.1 f_k_isOut i = bI (s_bt z i)
  · rw [if_pos c, if_pos (ec.mp c)]
    exact ⟨v_eq_up h1, h2.trans (s_eqN.up (by decide)), h3.trans (s_eqN.up (by decide)), by rw [h4], v_bo_up h5 (bI_or _), v_bo_up h6 (bI_or _)⟩
  · rw [if_neg c, if_neg (fun w => c (ec.mpr w))]
    exact ⟨h1, h2, h3, h4, h5, h6⟩
theorem v_Z5.out {I I' A B : e_I} (h : v_Z5 I I') (e : s_eqN [f_k_isOut] I A) (e' : s_eqN [f_mk_isDrawn] I' B) (hb : q_bo A f_k_isOut) (hb' : q_bo B f_mk_isDrawn) : v_Z5 A B := by
  obtain ⟨h1, h2, h3, h4, h5, h6⟩ := h
  refine ⟨fun F hF => ?_, fun F hF => ?_, ?_, ?_, ?_, ?_⟩
  · by_cases c : F = f_k_isOut
    · rw [c]; exact hb
    · exact v_bo_eq (h1 F hF) (e F (by simpa using c))
  · by_cases c : F = f_mk_isDrawn
    · rw [c]; exact hb'
    · exact v_bo_eq (h2 F hF) (e' F (by simpa using c))
  · unfold v_ch; rw [e _ (by decide)]; exact h3
  · unfold v_ch; rw [e' _ (by decide)]; exact h4
  · unfold v_ch; rw [e _ (by decide)]; exact h5
  · unfold v_ch; rw [e' _ (by decide)]; exact h6
/-- knobs are moved, and all settles -/
theorem a_moves {p : e_Sp} {nk nr np n s m L : Nat} {t : Nat → Nat} {I I' : e_I} {J J' : e_Jt} {y z : Int64} (h : v_Sim p nk nr np n t s m L (I, J) (I', J')) (hL : L ≤ 2000) (hn : n + np ≤ 1000000) : (∃ n' t', n' ≤ n + np ∧ (¬ I' f_m_recording 0 = 114 → n' = n) ∧ v_Sim p nk nr np n' t' s m L (s_stl p nk nr ((s_mt nk y z I).1, J)) (q_st nk nr np ((q_mt nk y z I').1, J'))) ∧ (s_mt nk y z I).2 = (q_mt nk y z I').2 := by
  obtain ⟨⟨hR, hF, hX, hK⟩, z1, z2, z3, z4, z5, z6⟩ := h
  have hC := v_Cw.of hX z1.2.1
  obtain ⟨m1, e, e', m4, m5, m6⟩ := v_mt (y := y) (z := z) hR.1.2.1.out z1.2.2.2.2.2.1 (z5.1 f_k_isOut (by decide)) (z5.2.1 f_mk_isDrawn (by decide))
  refine ⟨?_, m4⟩
  dsimp only at e e' m1 m5 m6
  have er : (q_mt nk y z I').1 f_m_recording 0 = I' f_m_recording 0 := by rw [e' _ (by decide)]
  generalize (s_mt nk y z I).1 = A at *
  generalize (q_mt nk y z I').1 = B at *
  have hR1 : v_Rel p nk nr np n t s m A B J J' := hR.rkn e e' (by decide) (by decide) (hR.1.2.1.out' e e' m1) (hR.1.2.2.N e e' (by decide) (by decide)) (hR.2.2.1.2.1.N e e' (by decide) (by decide))
  obtain ⟨n', t', k1, k2, k3⟩ := v_settleS (L := L) hR1 (hK.N e e' (by decide) (by decide)) ⟨z1.N e e' (by decide) (by decide), z2.N e e' (by decide) (by decide), z3.N e e' (by decide) (by decide), z4.N e e' (by decide) (by decide), z5.out e e' m5 m6, z6.N e e' (by decide) (by decide) (fun l _ => by dsimp only; rw [e' _ (by decide)]) v_eqJ.rfl' v_eqJ.rfl'⟩ (hC.N e' (by decide)) hL hn
  exact ⟨n', t', k1, fun z => k2 (by rw [er]; exact z), k3⟩
