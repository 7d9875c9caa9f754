theorem h_tp {p p' : e_Sp} {nr : Nat} (h1 : p'.2.2.2.2 = p.2.2.2.2) (h2 : p'.2.2.1 T_PARR = p.2.2.1 T_PARR) : s_tp p' nr = s_tp p nr := by unfold s_tp; rw [h1, h2]
def h_frF : List Nat := v_frZ ++ [f_m_closedSince, f_m_fault]
theorem v_Fr.of {np : Nat} {I I1 : e_I} (h : v_Fr np I) (e : ∀ F q, h_frF.contains F = true → np ≤ q → I1 F q = I F q) : v_Fr np I1 := fun q h1 h2 => by
  obtain ⟨g1, g2, g3⟩ := h q h1 h2
  refine ⟨fun F hF => ?_, ?_, ?_⟩
  · rw [e F q (by unfold h_frF; rw [List.contains_append, hF]; rfl) h1]; exact g1 F hF
  · rw [e _ q (by decide) h1]; exact g2
  · rw [e _ q (by decide) h1]; exact g3
theorem h_spr {b : e_I × e_Jt} : ∀ n F i, [f_m_speaks, f_m_begun].contains F = true → n ≤ i → (s_run q_sp 0 n b).1 F i = b.1 F i := by
  intro n
  induction n with
  | zero => intro F i _ _; rfl
  | succ n ih =>
    intro F i hF hi
    rw [s_run_l, Nat.zero_add]
    exact (v_qspa F i hF (by omega)).trans (ih F i hF (by omega))
theorem h_frst {nk nr np q F : Nat} {I : e_I} {J : e_Jt} (hF : h_frF.contains F = true) (hq : np ≤ q) : (q_st nk nr np (I, J)).1 F q = I F q := by
  have e1 : q_rc nk nr np I F q = I F q := by rw [s_eqN.qrc F (v_dj.o (L := h_frF) (by decide) hF)]
  have e2 : ∀ M : e_I, s_run q_stA 0 np M F q = M F q := fun M => by
    by_cases c : q_bT.contains F = true
    · rw [v_stAr np F q c, if_neg (by omega)]
    · rw [s_eqN.run v_stAN np 0 M F (by rw [List.contains_append, Bool.eq_false_iff.mpr c, v_dj.o (L := h_frF) (T := v_qA) (by decide) hF]; rfl)]
  have e3 : ∀ M : e_I, s_run q_mv 0 np M F q = M F q := fun M => by
    by_cases c : v_oT.contains F = true
    · rw [v_qmvr np F q c, if_neg (by omega)]
    · rw [s_eqN.run s_eqN.qmv np 0 M F (Bool.eq_false_iff.mpr c)]
  have e4 : ∀ M : e_I, q_bws nk np M F q = M F q := fun M => by rw [s_eqN.qbws F (v_dj.o (L := h_frF) (by decide) hF)]
  show (s_run q_sp 0 np (q_bws nk np (s_run q_mv 0 np (s_run q_stA 0 np (q_rc nk nr np I))), J)).1 F q = I F q
  have e5 : ∀ b : e_I × e_Jt, (s_run q_sp 0 np b).1 F q = b.1 F q := fun b => by
    by_cases c : [f_m_begun, f_m_speaks].contains F = true
    · refine h_spr np F q ?_ hq
      rw [← c]
      simp only [List.contains_cons, List.contains_nil, Bool.or_false]
      exact Bool.or_comm _ _
    · rw [s_eqN.runP s_eqN.qsp np 0 b F (Bool.eq_false_iff.mpr c)]
  rw [e5]
  dsimp only
  rw [e4, e3, e2, e1]
