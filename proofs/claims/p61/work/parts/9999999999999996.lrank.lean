/-! 9999999999999996: a rank is made, both halves -/
theorem h_Nr0 {bs n nr t i : Nat} (h : h_G3 0 t i = false) : (s_Nr bs n nr t i || s_NL 0 t i) = false := by
  unfold h_G3 at h
  rw [Bool.or_eq_false_iff, Bool.or_eq_false_iff] at h
  obtain ⟨⟨h1, h2⟩, h3⟩ := h
  unfold s_Nr s_Np
  rw [h3, decide_eq_false (show ¬ t = T_PIPE from fun z => by rw [z] at h1; exact absurd h1 (by decide)), decide_eq_false (show ¬ t = T_RANK from fun z => by rw [z] at h1; exact absurd h1 (by decide)), decide_eq_false (show ¬ t = T_PARR from fun z => by rw [z] at h1; exact absurd h1 (by decide))]
  rfl
theorem h_Nrr {bs n nr t r : Nat} (hr : ¬ r = nr) (h1 : t ≠ T_PIPE) (h2 : t ≠ T_LARR) : (s_Nr bs n nr t r || s_NL 0 t r) = false := by
  unfold s_Nr s_Np s_NL
  rw [decide_eq_false hr, decide_eq_false h1, decide_eq_false h2, Bool.and_false]
  rfl
theorem h_rkX {p p1 p' : e_Sp} {nr bs n : Nat} (hxw : s_xw (fun t i => s_Nr bs n nr t i || s_NL 0 t i) nr p p1) (x1 : s_xt p1 p') : h_xG (h_G3 0) p p' ∧ (∀ r, r ≠ nr → p'.2.2.2.2 r = p.2.2.2.2 r ∧ p'.2.2.1 T_PARR r = p.2.2.1 T_PARR r) ∧ h_x4 p p' ∧ ∀ t i, t ≠ T_ENTR → (s_Nr bs n nr t i || s_NL 0 t i) = false → p'.2.1 t i = p.2.1 t i := by
  have hE : ∀ t, t ≠ T_ENTR → p'.1 t = p1.1 t ∧ p'.2.1 t = p1.2.1 t ∧ p'.2.2.1 t = p1.2.2.1 t := fun t ht => x1.1 t (decide_eq_false ht)
  refine ⟨fun t i h => ?_, fun r hr => ⟨?_, ?_⟩, ⟨?_, ⟨?_, ?_, ?_⟩, fun j => ?_, ?_⟩, fun t i ht h => ?_⟩
  · have ht : t ≠ T_ENTR := fun z => by
      rw [z] at h
      have q : h_G3 0 T_ENTR i = true := rfl
      rw [q] at h
      cases h
    obtain ⟨a, b, c⟩ := hE t ht
    obtain ⟨a', b', c'⟩ := hxw.1 t i (h_Nr0 h)
    exact ⟨by rw [a]; exact a', by rw [b]; exact b', by rw [c]; exact c'⟩
  · rw [x1.2.2.1]; exact hxw.2 r hr
  · rw [(hE T_PARR (by decide)).2.2]; exact (hxw.1 _ r (h_Nrr hr (by decide) (by decide))).2.2
  · rw [(hE T_LIST (by decide)).2.1]; exact (hxw.1 _ _ rfl).2.1
  · rw [(hE T_LARR (by decide)).1]; exact (hxw.1 _ _ rfl).1
  · rw [(hE T_LARR (by decide)).2.1]; exact (hxw.1 _ _ rfl).2.1
  · rw [(hE T_LARR (by decide)).2.2]; exact (hxw.1 _ _ rfl).2.2
  · rw [(hE T_MKEPT (by decide)).2.1]; exact (hxw.1 _ _ rfl).2.1
  · exact Nat.le_trans (Nat.le_of_eq (hxw.1 T_ENTR 0 rfl).2.2.symm) x1.2.2.2
  · rw [(hE t ht).2.1]; exact (hxw.1 t i h).2.1
