theorem q_Mk.xv {N : Nat → Nat → Bool} {D : List (Nat × Nat × Nat)} {p p' : e_Sp} {f : Nat → Value} (h : q_Mk D p f) (x : s_xv N p p') (hD : (D.all fun x => !N x.2.1 x.2.2) = true) : q_Mk D p' f := fun y hy => by
  have e := List.all_eq_true.mp hD y hy
  have e : N y.2.1 y.2.2 = false := by simpa using e
  obtain ⟨g1, g2⟩ := h y hy
  rw [(x.1 _ _ e).1, (x.1 _ _ e).2.1]
  exact ⟨g1, g2⟩
theorem s_La.xv {N : Nat → Nat → Bool} {p p' : e_Sp} {I I' : e_I} {l n : Nat} (h : s_La p I l n) (x : s_xv N p p') (h1 : N T_LIST l = false) (h2 : N T_LARR l = false) (e : I' f_l_size l = I f_l_size l) : s_La p' I' l n := by
  unfold s_La at h ⊢
  rw [e, (x.1 _ _ h1).2.1, (x.1 _ _ h2).1, (x.1 _ _ h2).2.1, (x.1 _ _ h2).2.2]
  exact h
/-- unisons -/
def q_ukS (i : Nat) (I : e_I) : e_I := s_adI (q_nk I i 117 (nI i) (nI i) 0 45) 3 i
def q_uk : Nat → e_I → e_I
  | 0, I => I
  | n + 1, I => q_ukS n (q_uk n I)
/-- lists of frames -/
def q_ulS (i : Nat) (I : e_I) : e_I := s_adI (s_ILIST I (8 + i) 0 0) 5 i
def q_ul : Nat → e_I → e_I
  | 0, I => I
  | n + 1, I => q_ulS n (q_ul n I)
/-- keepings of the list l -/
def q_ugS (l i : Nat) (I : e_I) : e_I := s_adI (s_IMKEEP I (e_elI l i) 0) l i
def q_ug (l : Nat) : Nat → e_I → e_I
  | 0, I => I
  | n + 1, I => q_ugS l n (q_ug l n I)
def q_ugJ (l : Nat) : Nat → e_Jt → e_Jt
  | 0, J => J
  | n + 1, J => s_JMKEEP (q_ugJ l n J) (e_elI l n) 0 0
