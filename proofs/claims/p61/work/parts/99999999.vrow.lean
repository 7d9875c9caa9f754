/-! 99999999: rows, crossing -/
theorem v_upv {I : e_I} {F i : Nat} {x : Int32} (j : Nat) : s_up I F i x F j = if j = i then x else I F j := by
  by_cases c : j = i
  · rw [if_pos c, c, s_up_s]
  · rw [if_neg c, s_up_i c]
theorem v_Kn.row {I I' : e_I} {nk k m : Nat} {y z f t : Int32} (h : v_Kn I I' nk) (hk : k < nk) (hm : m < 4) (hrow : I f_s_rows k = nI m) (hs : I f_k_kind k = 115) : v_Kn (s_addr I k y z f t) (q_ar I' k m y z f t) nk := by
  have hst := h.stop hk hs
  refine ⟨h.1, fun j hj => ?_⟩
  obtain ⟨a, b, c, d⟩ := h.2 j hj
  have eA : s_addr I k y z f t = s_up (s_up (s_up (s_up (s_up I f_s_ranks (k * 4 + m) y) f_s_offsets (k * 4 + m) z) f_s_firsts (k * 4 + m) f) f_s_lasts (k * 4 + m) t) f_s_rows k (nI (m + 1)) := by
    unfold s_addr
    rw [hrow, nI_clamp (by omega), nI_1]
  have e : s_eqN [f_s_ranks, f_s_offsets, f_s_firsts, f_s_lasts, f_s_rows] I (s_addr I k y z f t) := by
    rw [eA]
    exact ((((s_eqN.up (by decide)).trans (s_eqN.up (by decide))).trans (s_eqN.up (by decide))).trans (s_eqN.up (by decide))).trans (s_eqN.up (by decide))
  have e' : s_eqN [f_mk_ranks, f_mk_offsets, f_mk_froms, f_mk_tos, f_mk_rows] I' (q_ar I' k m y z f t) := ((((s_eqN.up (by decide)).trans (s_eqN.up (by decide))).trans (s_eqN.up (by decide))).trans (s_eqN.up (by decide))).trans (s_eqN.up (by decide))
  have r1 : ∀ i, s_addr I k y z f t f_s_ranks i = if i = k * 4 + m then y else I f_s_ranks i := fun i => by
    rw [eA, s_up_F (by decide), s_up_F (by decide), s_up_F (by decide), s_up_F (by decide)]; exact v_upv i
  have r2 : ∀ i, s_addr I k y z f t f_s_offsets i = if i = k * 4 + m then z else I f_s_offsets i := fun i => by
    rw [eA, s_up_F (by decide), s_up_F (by decide), s_up_F (by decide), v_upv, s_up_F (by decide)]
  have r3 : ∀ i, s_addr I k y z f t f_s_firsts i = if i = k * 4 + m then f else I f_s_firsts i := fun i => by
    rw [eA, s_up_F (by decide), s_up_F (by decide), v_upv, s_up_F (by decide), s_up_F (by decide)]
  have r4 : ∀ i, s_addr I k y z f t f_s_lasts i = if i = k * 4 + m then t else I f_s_lasts i := fun i => by
    rw [eA, s_up_F (by decide), v_upv, s_up_F (by decide), s_up_F (by decide), s_up_F (by decide)]
  have r5 : ∀ i, s_addr I k y z f t f_s_rows i = if i = k then nI (m + 1) else I f_s_rows i := fun i => by
    rw [eA, v_upv, s_up_F (by decide), s_up_F (by decide), s_up_F (by decide), s_up_F (by decide)]
  have q1 : ∀ i, q_ar I' k m y z f t f_mk_ranks i = if i = k * 4 + m then y else I' f_mk_ranks i := fun i => by
    unfold q_ar
    rw [s_up_F (by decide), s_up_F (by decide), s_up_F (by decide), s_up_F (by decide)]; exact v_upv i
  have q2 : ∀ i, q_ar I' k m y z f t f_mk_offsets i = if i = k * 4 + m then z else I' f_mk_offsets i := fun i => by
    unfold q_ar
    rw [s_up_F (by decide), s_up_F (by decide), s_up_F (by decide), v_upv, s_up_F (by decide)]
  have q3 : ∀ i, q_ar I' k m y z f t f_mk_froms i = if i = k * 4 + m then f else I' f_mk_froms i := fun i => by
    unfold q_ar
    rw [s_up_F (by decide), s_up_F (by decide), v_upv, s_up_F (by decide), s_up_F (by decide)]
  have q4 : ∀ i, q_ar I' k m y z f t f_mk_tos i = if i = k * 4 + m then t else I' f_mk_tos i := fun i => by
    unfold q_ar
    rw [s_up_F (by decide), v_upv, s_up_F (by decide), s_up_F (by decide), s_up_F (by decide)]
  have q5 : ∀ i, q_ar I' k m y z f t f_mk_rows i = if i = k then nI m + 1 else I' f_mk_rows i := fun i => by
    unfold q_ar
    rw [v_upv, s_up_F (by decide), s_up_F (by decide), s_up_F (by decide), s_up_F (by decide)]
  have hx : v_Stp I I' j → v_Stp (s_addr I k y z f t) (q_ar I' k m y z f t) j := by
    intro ⟨g1, ⟨m', hm', g2, g3, g4⟩, g5⟩
    unfold v_Stp
    simp only [r1, r2, r3, r4, r5, q1, q2, q3, q4, q5, e f_s_stage (by decide), e f_s_places (by decide), e f_s_keysAt (by decide), e' f_mk_stage (by decide), e' f_mk_wires (by decide)]
    refine ⟨g1, ?_, g5⟩
    by_cases c1 : j = k
    · have : m' = m := (nI_eq (by omega) (by omega)).mp (by rw [← g2, ← hrow, c1])
      subst this
      refine ⟨m' + 1, by omega, if_pos c1, by rw [if_pos c1, nI_1], fun i hi => ?_⟩
      by_cases c2 : i = m'
      · rw [c1, c2]
        simp only [if_pos]
        exact ⟨trivial, trivial, trivial, trivial⟩
      · have c3 : ¬ j * 4 + i = k * 4 + m' := by omega
        simp only [if_neg c3]
        exact g4 i (by omega)
    · refine ⟨m', hm', by rw [if_neg c1]; exact g2, by rw [if_neg c1]; exact g3, fun i hi => ?_⟩
      have c3 : ¬ j * 4 + i = k * 4 + m := by omega
      simp only [if_neg c3]
      exact g4 i hi
  unfold v_K
  rw [e f_k_kind (by decide), e f_k_division (by decide), e f_k_isOut (by decide), e f_k_relay (by decide), e f_c_from (by decide), e f_c_to (by decide), e f_c_shift (by decide), e f_c_kind (by decide), e' f_mk_kind (by decide), e' f_mk_division (by decide), e' f_mk_isDrawn (by decide), e' f_mk_relay (by decide), e' f_mk_to (by decide), e' f_mk_shift (by decide), e' f_mk_letter (by decide)]
  exact ⟨a, b, c, d.imp id (fun d => d.imp id (fun d => d.imp (fun d => ⟨d.1, d.2.1, hx d.2.2⟩) id))⟩
theorem v_Kn.cross {I I' : e_I} {nk k a b : Nat} (h : v_Kn I I' nk) (hk : k < nk) (hs : I f_k_kind k = 115) (ha : a < 61) (hb : b < 61) (hab : a ≠ b) : v_Kn (s_chp I k (nI a) (nI b)) (q_cr I' k (nI a) (nI b)) nk ∧ s_eqN [f_s_places, f_s_keysAt] I (s_chp I k (nI a) (nI b)) ∧ s_eqN [f_mk_wires] I' (q_cr I' k (nI a) (nI b)) := by
  obtain ⟨-, -, s1, s2, s3⟩ := h.stop hk hs
  obtain ⟨pa, hpa, ea, ka⟩ := s2 a ha
  obtain ⟨pb, hpb, eb, kb⟩ := s2 b hb
  have hne : pa ≠ pb := fun w => hab ((nI_eq (by omega) (by omega)).mp (by rw [← ka, ← kb, w]))
  have pla : s_pl I k (nI a) = nI pa := by
    unfold s_pl
    rw [if_neg (fun w => by
      rcases w with w | w
      · exact nI_pos (by omega) w
      · exact nI_ge (b := 61) ha (by decide) w), nI_clamp (by omega), ea]
  have plb : s_pl I k (nI b) = nI pb := by
    unfold s_pl
    rw [if_neg (fun w => by
      rcases w with w | w
      · exact nI_pos (by omega) w
      · exact nI_ge (b := 61) hb (by decide) w), nI_clamp (by omega), eb]
  have hpp : ∀ (B : e_I) (u v : Nat), u < 61 → v < 61 → s_pp B k (nI u) (nI v) = s_up (s_up B f_s_places (k * 61 + u) (nI v)) f_s_keysAt (k * 61 + v) (nI u) := fun B u v hu hv => by
    unfold s_pp
    rw [if_pos ⟨nI_pos' (by omega), nI_lt (b := 61) hu (by decide), nI_pos' (by omega), nI_lt (b := 61) hv (by decide)⟩, nI_clamp (by omega), nI_clamp (by omega)]
  have eC : s_chp I k (nI a) (nI b) = s_up (s_up (s_up (s_up I f_s_places (k * 61 + a) (nI pb)) f_s_keysAt (k * 61 + pb) (nI a)) f_s_places (k * 61 + b) (nI pa)) f_s_keysAt (k * 61 + pa) (nI b) := by
    unfold s_chp
    rw [pla, plb, hpp I a pb ha hpb, hpp _ b pa hb hpa]
  have eQ : q_cr I' k (nI a) (nI b) = s_up (s_up I' f_mk_wires (k * 61 + a) (nI pb)) f_mk_wires (k * 61 + b) (nI pa) := by
    unfold q_cr
    rw [nI_clamp (by omega), nI_clamp (by omega), ← s1 a ha, ← s1 b hb, ea, eb]
  have e : s_eqN [f_s_places, f_s_keysAt] I (s_chp I k (nI a) (nI b)) := by
    rw [eC]
    exact (((s_eqN.up (by decide)).trans (s_eqN.up (by decide))).trans (s_eqN.up (by decide))).trans (s_eqN.up (by decide))
  have e' : s_eqN [f_mk_wires] I' (q_cr I' k (nI a) (nI b)) := by
    rw [eQ]
    exact (s_eqN.up (by decide)).trans (s_eqN.up (by decide))
  have r1 : ∀ i, s_chp I k (nI a) (nI b) f_s_places i = if i = k * 61 + b then nI pa else if i = k * 61 + a then nI pb else I f_s_places i := fun i => by
    rw [eC, s_up_F (by decide), v_upv]
    split
    · rfl
    · rw [s_up_F (by decide), v_upv]
  have r2 : ∀ i, s_chp I k (nI a) (nI b) f_s_keysAt i = if i = k * 61 + pa then nI b else if i = k * 61 + pb then nI a else I f_s_keysAt i := fun i => by
    rw [eC, v_upv]
    split
    · rfl
    · rw [s_up_F (by decide), v_upv]
      split
      · rfl
      · rw [s_up_F (by decide)]
  have q1 : ∀ i, q_cr I' k (nI a) (nI b) f_mk_wires i = if i = k * 61 + b then nI pa else if i = k * 61 + a then nI pb else I' f_mk_wires i := fun i => by
    rw [eQ, v_upv]
    split
    · rfl
    · rw [v_upv]
  refine ⟨⟨h.1, fun j hj => ?_⟩, e, e'⟩
  obtain ⟨A, B, C, D⟩ := h.2 j hj
  have hx : v_Stp I I' j → v_Stp (s_chp I k (nI a) (nI b)) (q_cr I' k (nI a) (nI b)) j := by
    intro ⟨g1, g2, g3, g4, g5⟩
    unfold v_Stp
    simp only [r1, r2, q1, e f_s_stage (by decide), e f_s_rows (by decide), e f_s_ranks (by decide), e f_s_offsets (by decide), e f_s_firsts (by decide), e f_s_lasts (by decide), e' f_mk_stage (by decide), e' f_mk_rows (by decide), e' f_mk_ranks (by decide), e' f_mk_offsets (by decide), e' f_mk_froms (by decide), e' f_mk_tos (by decide)]
    refine ⟨g1, g2, fun y hy => ?_, fun y hy => ?_, fun z hz => ?_⟩
    · split
      · rfl
      · split
        · rfl
        · exact g3 y hy
    · by_cases c1 : j = k
      · subst c1
        by_cases c2 : y = b
        · refine ⟨pa, hpa, if_pos (by rw [c2]), ?_⟩
          rw [if_pos rfl, c2]
        · by_cases c3 : y = a
          · refine ⟨pb, hpb, by rw [if_neg (by omega), if_pos (by rw [c3])], ?_⟩
            rw [if_neg (by omega), if_pos rfl, c3]
          · obtain ⟨z, hz, u1, u2⟩ := g4 y hy
            have n1 : z ≠ pa := fun w => c3 ((nI_eq (by omega) (by omega)).mp (by rw [← u2, w, ka]))
            have n2 : z ≠ pb := fun w => c2 ((nI_eq (by omega) (by omega)).mp (by rw [← u2, w, kb]))
            exact ⟨z, hz, by rw [if_neg (by omega), if_neg (by omega)]; exact u1, by rw [if_neg (by omega), if_neg (by omega)]; exact u2⟩
      · obtain ⟨z, hz, u1, u2⟩ := g4 y hy
        exact ⟨z, hz, by rw [if_neg (by omega), if_neg (by omega)]; exact u1, by rw [if_neg (by omega), if_neg (by omega)]; exact u2⟩
    · by_cases c1 : j = k
      · subst c1
        by_cases c2 : z = pa
        · exact ⟨b, hb, by rw [if_pos rfl, c2], by rw [if_pos (by rw [c2])]⟩
        · by_cases c3 : z = pb
          · exact ⟨a, ha, by rw [if_neg (by omega), if_pos rfl, c3], by rw [if_neg (by omega), if_pos (by rw [c3])]⟩
          · obtain ⟨y, hy, u1, u2⟩ := g5 z hz
            have n1 : y ≠ a := fun w => c2 ((nI_eq (by omega) (by omega)).mp (by rw [← u1, w, ea]))
            have n2 : y ≠ b := fun w => c3 ((nI_eq (by omega) (by omega)).mp (by rw [← u1, w, eb]))
            exact ⟨y, hy, by rw [if_neg (by omega), if_neg (by omega)]; exact u1, by rw [if_neg (by omega), if_neg (by omega)]; exact u2⟩
      · obtain ⟨y, hy, u1, u2⟩ := g5 z hz
        exact ⟨y, hy, by rw [if_neg (by omega), if_neg (by omega)]; exact u1, by rw [if_neg (by omega), if_neg (by omega)]; exact u2⟩
  unfold v_K
  rw [e f_k_kind (by decide), e f_k_division (by decide), e f_k_isOut (by decide), e f_k_relay (by decide), e f_c_from (by decide), e f_c_to (by decide), e f_c_shift (by decide), e f_c_kind (by decide), e' f_mk_kind (by decide), e' f_mk_division (by decide), e' f_mk_isDrawn (by decide), e' f_mk_relay (by decide), e' f_mk_to (by decide), e' f_mk_shift (by decide), e' f_mk_letter (by decide)]
  exact ⟨A, B, C, D.imp id (fun d => d.imp id (fun d => d.imp (fun d => ⟨d.1, d.2.1, hx d.2.2⟩) id))⟩
