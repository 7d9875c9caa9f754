/-! 9999999999996: room between calls -/
/-- the list of what is recorded stays, the tape's row does not shrink -/
def h_x4 (p p' : e_Sp) : Prop := p'.2.1 T_LIST 4 = p.2.1 T_LIST 4 ∧ (p'.1 T_LARR 4 = p.1 T_LARR 4 ∧ p'.2.1 T_LARR 4 = p.2.1 T_LARR 4 ∧ p'.2.2.1 T_LARR 4 = p.2.2.1 T_LARR 4) ∧ (∀ j, p'.2.1 T_MKEPT j = p.2.1 T_MKEPT j) ∧ p.2.2.1 T_ENTR 0 ≤ p'.2.2.1 T_ENTR 0
theorem h_x4.xt {p p' : e_Sp} (x : s_xt p p') : h_x4 p p' := ⟨by rw [(x.1 T_LIST rfl).2.1], ⟨by rw [(x.1 T_LARR rfl).1], by rw [(x.1 T_LARR rfl).2.1], by rw [(x.1 T_LARR rfl).2.2]⟩, fun j => by rw [(x.1 T_MKEPT rfl).2.1], x.2.2.2⟩
theorem h_x4.trans {p p' p'' : e_Sp} (h : h_x4 p p') (h' : h_x4 p' p'') : h_x4 p p'' := ⟨h'.1.trans h.1, ⟨h'.2.1.1.trans h.2.1.1, h'.2.1.2.1.trans h.2.1.2.1, h'.2.1.2.2.trans h.2.1.2.2⟩, fun j => (h'.2.2.1 j).trans (h.2.2.1 j), Nat.le_trans h.2.2.2 h'.2.2.2⟩
