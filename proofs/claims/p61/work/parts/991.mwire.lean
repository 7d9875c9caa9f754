/-! 991: wires and rows of the second implementation (printed by wip/whole/p991.py) -/
theorem q_K.up {p : e_Sp} {I : e_I} {k F j : Nat} {x : Int32} (h : q_K p I k) (h1 : F = f_mk_rows → j = k → ∃ m, m ≤ 4 ∧ x = nI m) (h2 : F = f_mk_relay → j = k → (x = -1 ∨ ∃ r, r < 16 ∧ x = nI r)) (h3 : F ≠ f_mk_division) : q_K p (s_up I F j x) k := by
  obtain ⟨a, b, c, d, e⟩ := h
  refine ⟨a, b, by rw [s_up_n (Ne.symm h3)]; exact c, ?_, ?_⟩
  · by_cases z : f_mk_rows = F ∧ k = j
    · rw [show s_up I F j x f_mk_rows k = x from if_pos z]; exact h1 z.1.symm z.2.symm
    · rw [show s_up I F j x f_mk_rows k = I f_mk_rows k from if_neg z]; exact d
  · by_cases z : f_mk_relay = F ∧ k = j
    · rw [show s_up I F j x f_mk_relay k = x from if_pos z]; exact h2 z.1.symm z.2.symm
    · rw [show s_up I F j x f_mk_relay k = I f_mk_relay k from if_neg z]; exact e
def q_iS (y x : Int32) : Bool := decide (0 ≤ y ∧ y ≤ 131) || (decide (200 ≤ y ∧ y ≤ 260) || (decide (300 ≤ y ∧ y ≤ 360) || decide (400 ≤ y ∧ y ≤ 399 + x)))
def q_wi (I : e_I) (x ch y z : Int32) : e_I := s_up (s_up (s_up I f_m_operation x.toNatClampNeg ch) f_m_first x.toNatClampNeg y) f_m_second x.toNatClampNeg z
theorem s_eqN.qwi {I : e_I} {x ch y z : Int32} : s_eqN [f_m_operation, f_m_first, f_m_second] I (q_wi I x ch y z) := ((s_eqN.up (by decide)).trans (s_eqN.up (by decide))).trans (s_eqN.up (by decide))
def q_ar (I : e_I) (k m : Nat) (y z t v : Int32) : e_I := s_up (s_up (s_up (s_up (s_up I f_mk_ranks (k * 4 + m) y) f_mk_offsets (k * 4 + m) z) f_mk_froms (k * 4 + m) t) f_mk_tos (k * 4 + m) v) f_mk_rows k (nI m + 1)
