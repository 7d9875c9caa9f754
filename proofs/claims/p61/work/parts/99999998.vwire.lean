/-! 99999998: wiring, crossing, rows -/
theorem v_iss {y : Int32} {r : Nat} (hr : r < 16) (h : s_iss y (nI r) = true) : q_sk y ∧ y < 400 + nI r := by
  have h16 : nI r < 16 := nI_lt (b := 16) hr (by decide)
  have h0 : 0 ≤ nI r := nI_pos' (by omega)
  unfold s_iss at h
  unfold q_sk
  by_cases c : (400 : Int32) ≤ y
  · rw [if_pos c, decide_eq_true_iff] at h
    generalize nI r = u at *
    exact ⟨.inr (.inl ⟨c, by grind⟩), by grind⟩
  · rw [if_neg c, Bool.and_eq_true, decide_eq_true_iff, Bool.or_eq_true, decide_eq_true_iff] at h
    have c' : y < 400 := Int32.not_le.mp c
    refine ⟨?_, ?_⟩
    · by_cases c2 : y < 100
      · exact .inl c2
      · rcases h.2 with w | w
        · exact absurd w c2
        · refine .inr (.inr ⟨c2, c', ?_⟩)
          apply s_isk_nn
          intro z
          rw [decide_eq_true z] at w
          exact absurd w (by decide)
    · generalize nI r = u at *
      grind
theorem a_wire {p : e_Sp} {nk nr np n s m L r : Nat} {t : Nat → Nat} {I I' : e_I} {J J' : e_Jt} {ch y z : Int32} (hr : r < 16) (hch : ch = 38 ∨ ch = 124 ∨ ch = 94 ∨ ch = 33) (hy : s_iss y (nI r) = true) (hz : ch = 33 ∨ s_iss z (nI r) = true) (h : v_Sim p nk nr np n t s m L (I, J) (I', J')) (hL : L ≤ 2000) (hn : n + np ≤ 1000000) : ∃ n' t', n' ≤ n + np ∧ (¬ I' f_m_recording 0 = 114 → n' = n) ∧ v_Sim p nk nr np n' t' s m L (s_stl p nk nr (s_pw I (nI r) ch y z, J)) (q_st nk nr np (q_wi I' (nI r) ch y z, J')) := by
  obtain ⟨⟨hR, hF, hX, hK⟩, z1, z2, z3, z4, z5, z6⟩ := h
  have hC := v_Cw.of hX z1.2.1
  have e : s_eqN [f_a_operations, f_a_sources, f_a_others] I (s_pw I (nI r) ch y z) := s_eqN.pw
  have e' : s_eqN [f_m_operation, f_m_first, f_m_second] I' (q_wi I' (nI r) ch y z) := s_eqN.qwi
  have hr45 : ¬ ch = 45 := fun w => by rcases hch with q | q | q | q <;> (rw [q] at w; exact absurd w (by decide))
  have ep : s_pw I (nI r) ch y z = s_up (s_up (s_up I f_a_operations r ch) f_a_sources r y) f_a_others r z := by
    unfold s_pw
    rw [if_pos ⟨nI_pos' (by omega), nI_lt (b := 16) hr (by decide)⟩, nI_clamp (by omega)]
  have ew : q_wi I' (nI r) ch y z = s_up (s_up (s_up I' f_m_operation r ch) f_m_first r y) f_m_second r z := by
    unfold q_wi
    rw [nI_clamp (by omega)]
  have o1 : ∀ i, s_pw I (nI r) ch y z f_a_operations i = if i = r then ch else I f_a_operations i := fun i => by
    rw [ep, s_up_F (by decide), s_up_F (by decide)]
    split
    · rename_i c; rw [c, s_up_s]
    · rename_i c; exact s_up_i c
  have o2 : ∀ i, s_pw I (nI r) ch y z f_a_sources i = if i = r then y else I f_a_sources i := fun i => by
    rw [ep, s_up_F (by decide)]
    split
    · rename_i c; rw [c, s_up_s]
    · rename_i c; rw [s_up_i c, s_up_F (by decide)]
  have o3 : ∀ i, s_pw I (nI r) ch y z f_a_others i = if i = r then z else I f_a_others i := fun i => by
    rw [ep]
    split
    · rename_i c; rw [c, s_up_s]
    · rename_i c; rw [s_up_i c, s_up_F (by decide), s_up_F (by decide)]
  have w1 : ∀ i, q_wi I' (nI r) ch y z f_m_operation i = if i = r then ch else I' f_m_operation i := fun i => by
    rw [ew, s_up_F (by decide), s_up_F (by decide)]
    split
    · rename_i c; rw [c, s_up_s]
    · rename_i c; exact s_up_i c
  have w2 : ∀ i, q_wi I' (nI r) ch y z f_m_first i = if i = r then y else I' f_m_first i := fun i => by
    rw [ew, s_up_F (by decide)]
    split
    · rename_i c; rw [c, s_up_s]
    · rename_i c; rw [s_up_i c, s_up_F (by decide)]
  have w3 : ∀ i, q_wi I' (nI r) ch y z f_m_second i = if i = r then z else I' f_m_second i := fun i => by
    rw [ew]
    split
    · rename_i c; rw [c, s_up_s]
    · rename_i c; rw [s_up_i c, s_up_F (by decide), s_up_F (by decide)]
  have hro := hR.2.1.2.1
  have ho1 : v_Ro (s_pw I (nI r) ch y z) (q_wi I' (nI r) ch y z) := by
    refine ⟨fun i hi => ?_, fun i hi => ?_, fun i hi => ?_⟩
    · rw [o2, w2]
      split
      · rfl
      · exact hro.1 i hi
    · rw [o3, w3]
      split
      · rfl
      · exact hro.2.1 i hi
    · rw [o1, w1]
      by_cases c : i = r
      · rw [if_pos c, if_pos c]
        refine ⟨?_, .inr hch⟩
        unfold v_op
        rw [if_neg hr45]
      · rw [if_neg c, if_neg c]; exact hro.2.2 i hi
  have hz1 : v_Rz (q_wi I' (nI r) ch y z) := fun i hi hh => by
    rw [w1] at hh
    rw [e' _ (by decide)]
    by_cases c : i = r
    · rw [if_pos c] at hh; exact absurd hh hr45
    · rw [if_neg c] at hh; exact hR.2.1.2.2.1 i hi hh
  have hq1 : q_S (q_wi I' (nI r) ch y z) := fun i hi hh => by
    rw [w1] at hh ⊢
    rw [w2, w3]
    by_cases c : i = r
    · rw [if_pos c, if_pos c, if_pos c]
      exact ⟨(v_iss hr hy).1, fun w => (v_iss hr (hz.resolve_left w)).1⟩
    · rw [if_neg c] at hh
      rw [if_neg c, if_neg c, if_neg c]; exact hR.2.1.2.2.2.1 i hi hh
  have hs1 : v_Rs (q_wi I' (nI r) ch y z) := fun i hi hh => by
    rw [w1] at hh ⊢
    rw [w2, w3]
    by_cases c : i = r
    · rw [if_pos c, if_pos c, if_pos c, c]
      exact ⟨(v_iss hr hy).2, fun w => (v_iss hr (hz.resolve_left w)).2⟩
    · rw [if_neg c] at hh
      rw [if_neg c, if_neg c, if_neg c]; exact hR.2.1.2.2.2.2 i hi hh
  have er : q_wi I' (nI r) ch y z f_m_recording 0 = I' f_m_recording 0 := by rw [e' _ (by decide)]
  have hR1 : v_Rel p nk nr np n t s m (s_pw I (nI r) ch y z) (q_wi I' (nI r) ch y z) J J' := hR.rro e e' (by decide) (by decide) ho1 hz1 hq1 hs1 (hR.1.2.2.N e e' (by decide) (by decide)) (hR.2.2.1.2.1.N e e' (by decide) (by decide))
  obtain ⟨n', t', k1, k2, k3⟩ := v_settleS (L := L) hR1 (hK.N e e' (by decide) (by decide)) ⟨z1.N e e' (by decide) (by decide), z2.N e e' (by decide) (by decide), z3.N e e' (by decide) (by decide), z4.N e e' (by decide) (by decide), z5.frame e e' (by decide) (by decide), z6.N e e' (by decide) (by decide) (fun l _ => by dsimp only; rw [e' _ (by decide)]) v_eqJ.rfl' v_eqJ.rfl'⟩ (hC.N e' (by decide)) hL hn
  exact ⟨n', t', k1, fun z => k2 (by rw [er]; exact z), k3⟩
/-- the answers: which numbers are sources -/
theorem v_iS {y : Int32} {r : Nat} (hr : r < 16) : s_iss y (nI r) = q_iS y (nI r) := by
  have h16 : nI r < 16 := nI_lt (b := 16) hr (by decide)
  have h0 : 0 ≤ nI r := nI_pos' (by omega)
  unfold s_iss q_iS
  by_cases c : (400 : Int32) ≤ y
  · rw [if_pos c]
    have e : decide (y - 400 < nI r) = decide (400 ≤ y ∧ y ≤ 399 + nI r) := decide_eq_decide.mpr ⟨fun w => ⟨c, by generalize nI r = u at *; grind⟩, fun w => by generalize nI r = u at *; grind⟩
    rw [e, decide_eq_false (show ¬ (0 ≤ y ∧ y ≤ 131) by grind), decide_eq_false (show ¬ (200 ≤ y ∧ y ≤ 260) by grind), decide_eq_false (show ¬ (300 ≤ y ∧ y ≤ 360) by grind)]
    rfl
  · rw [if_neg c, decide_eq_false (show ¬ (400 ≤ y ∧ y ≤ 399 + nI r) from fun w => c w.1), Bool.or_false]
    by_cases c0 : 0 ≤ y
    · obtain ⟨j, hj, rfl⟩ := s_nat (n := 400) c0 (Int32.not_le.mp c) (by decide)
      rw [decide_eq_true c0, Bool.true_and]
      have key : ∀ j : Fin 400, (decide (nI j.val < 100) || !decide (s_idx (nI j.val / 100 - 1) (nI j.val - nI j.val / 100 * 100) < 0)) = (decide (0 ≤ nI j.val ∧ nI j.val ≤ 131) || (decide (200 ≤ nI j.val ∧ nI j.val ≤ 260) || decide (300 ≤ nI j.val ∧ nI j.val ≤ 360))) := by decide +kernel
      exact key ⟨j, hj⟩
    · rw [decide_eq_false c0, Bool.false_and, decide_eq_false (show ¬ (0 ≤ y ∧ y ≤ 131) from fun w => c0 w.1), decide_eq_false (show ¬ (200 ≤ y ∧ y ≤ 260) by grind), decide_eq_false (show ¬ (300 ≤ y ∧ y ≤ 360) by grind)]
      rfl
