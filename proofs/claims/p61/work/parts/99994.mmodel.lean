/-! 99994: the second implementation is made, its rows and lists (printed by wip/whole/p99994.py) -/
/-- what is made stands where the words f say -/
def q_Mk (D : List (Nat × Nat × Nat)) (p : e_Sp) (f : Nat → Value) : Prop := ∀ x, x ∈ D → f x.1 = .ref (p.1 x.2.1 x.2.2) ∧ p.2.1 x.2.1 x.2.2 = true
def q_Nv (R : List (Nat × Nat)) (p : e_Sp) : Prop := ∀ x, x ∈ R → p.2.1 x.1 x.2 = false
def q_Ms : List Nat := [T_M_isDown, T_M_isHeld, T_M_isWanted, T_M_isCalled, T_M_isOpen, T_M_speaks, T_M_wentDown, T_M_counts, T_M_since, T_M_closedSince, T_M_begun, T_M_tuning, T_M_rankOf, T_M_fault, T_M_supply, T_M_box, T_M_temper, T_M_winds, T_M_claimed, T_M_reversible, T_M_operation, T_M_first, T_M_second, T_M_chord, T_M_degrees, T_M_best, T_M_isRelay]
def q_NI (t i : Nat) : Bool := (q_Ms.contains t && decide (i = 0)) || (decide (t = T_LIST) && (decide (2 ≤ i) && decide (i ≤ 7)))
def q_In (D : List (Nat × Nat × Nat)) (R : List (Nat × Nat)) (p0 p : e_Sp) (f0 f : Nat → Value) : Prop := q_Mk D p f ∧ q_Nv R p ∧ s_xv q_NI p0 p ∧ ∀ sl, 33 ≤ sl → f sl = f0 sl
theorem q_In.step {D : List (Nat × Nat × Nat)} {R : List (Nat × Nat)} {p0 p : e_Sp} {f0 f : Nat → Value} {sl t i a n : Nat} (h : q_In D ((t, i) :: R) p0 p f0 f) (h1 : (D.all fun x => !decide (x.1 = sl)) = true) (h2 : (R.all fun x => !(decide (x.1 = t) && decide (x.2 = i))) = true) (h3 : q_NI t i = true) (h4 : sl < 33) : q_In ((sl, t, i) :: D) R p0 (s_pv p t i a n) f0 (s_fu f sl (.ref a)) := by
  obtain ⟨a1, a2, a3, a4⟩ := h
  have hnv := a2 (t, i) List.mem_cons_self
  refine ⟨fun x hx => ?_, fun x hx => ?_, a3.trans (s_xv.pv h3), fun s hs => (if_neg (by omega) : (if s = sl then Value.ref a else f s) = f s).trans (a4 s hs)⟩
  · rcases List.mem_cons.mp hx with rfl | hx
    · exact ⟨(if_pos rfl : (if sl = sl then Value.ref a else f sl) = _).trans (by rw [s_pv_s]), s_pv_v⟩
    · obtain ⟨g1, g2⟩ := a1 x hx
      have e1 : ¬ (x.2.1 = t ∧ x.2.2 = i) := fun z => by rw [z.1, z.2] at g2; rw [g2] at hnv; cases hnv
      have e2 := List.all_eq_true.mp h1 x hx
      have e2 : ¬ x.1 = sl := by simpa using e2
      exact ⟨(if_neg e2 : (if x.1 = sl then Value.ref a else f x.1) = _).trans (by rw [s_pv_n e1]; exact g1), s_pv_k g2⟩
  · have e2 := List.all_eq_true.mp h2 x hx
    rw [s_pv_nv (fun z => by rw [z.1, z.2, decide_eq_true rfl, decide_eq_true rfl] at e2; cases e2)]
    exact a2 x (List.mem_cons_of_mem _ hx)
def q_iA (I : e_I) : e_I := (s_ILIST (s_ILIST (s_ILIST (s_ILIST (s_ILIST (s_ILIST I 2 0 0) 3 0 0) 4 0 0) 5 0 0) 6 0 0) 7 0 0)
def q_iB (I : e_I) : e_I := (s_z (s_z (s_z (s_z (s_z (s_z (s_z (s_z (s_z (s_z (s_z (s_z (s_z (s_z I f_m_isDown 0 183) f_m_isHeld 0 1280) f_m_isWanted 0 1280) f_m_isCalled 0 1280) f_m_isOpen 0 1280) f_m_speaks 0 1280) f_m_wentDown 0 183) f_m_counts 0 1280) f_m_since 0 1280) f_m_closedSince 0 1280) f_m_begun 0 1280) f_m_tuning 0 1280) f_m_rankOf 0 1280) f_m_fault 0 1280)
def q_iC (I : e_I) : e_I := (s_z (s_z (s_z (s_z (s_z (s_z (s_z (s_z (s_up (s_up (s_up (s_up (s_z (s_z (s_z (s_up (s_up (s_up (s_z (s_up (s_up (s_up (s_z I f_m_supply 0 3) f_m_supply 0 50) f_m_supply 1 50) f_m_supply 2 50) f_m_box 0 3) f_m_box 0 10) f_m_box 1 10) f_m_box 2 10) f_m_temper 0 12) f_m_winds 0 3) f_m_claimed 0 4) f_m_claimed 0 (-1)) f_m_claimed 1 (-1)) f_m_claimed 2 (-1)) f_m_claimed 3 (-1)) f_m_reversible 0 16) f_m_operation 0 16) f_m_first 0 16) f_m_second 0 16) f_m_chord 0 4) f_m_degrees 0 7) f_m_best 0 3) f_m_isRelay 0 16)
