/-! 999996: pallets move alike -/
theorem v_Gw {rk bs : Nat → Nat} {q : Nat} {I : e_I} (h : v_G rk bs q I f_isWaiting 0 = 0) : I f_isWaiting 0 = 0 ∧ v_G rk bs q I f_p_isOpened q = bI (v_pw I q) := by
  have hA : s_eqN [f_p_isWanted, f_p_changedAt, f_entries, f_tsize] I (s_mvA (rk q) q (q - bs (rk q)) (v_pw I q) I) := s_eqN.mvA
  have e0 : v_G rk bs q I = s_mv3 (rk q) q (v_pw I q) (s_mvA (rk q) q (q - bs (rk q)) (v_pw I q) I) := rfl
  rw [e0] at h ⊢
  generalize s_mvA (rk q) q (q - bs (rk q)) (v_pw I q) I = A at *
  unfold s_mv3 at h ⊢
  have hmp : s_eqN [f_p_isOpened, f_p_closedAt] A (s_mp A q (A f_now 0) (A f_r_delay (rk q)) (A f_r_rest (rk q))) := s_eqN.mp
  generalize s_mp A q (A f_now 0) (A f_r_delay (rk q)) (A f_r_rest (rk q)) = B at *
  have hU : s_eqN [f_a_uses] (s_mvW q (v_pw I q) B) (s_mvU (rk q) q (s_mvW q (v_pw I q) B)) := s_eqN.up (by decide)
  rw [hU _ (by decide)] at h ⊢
  unfold s_mvW at h ⊢
  rw [s_up_s, v_bI0, Bool.or_eq_false_iff, Bool.not_eq_false', Bool.not_eq_false', decide_eq_true_iff, decide_eq_true_iff] at h
  rw [s_up_F (by decide)]
  refine ⟨?_, h.2⟩
  have := h.1
  rw [hmp _ (by decide), hA _ (by decide)] at this
  exact this
theorem v_Gwait {rk bs : Nat → Nat} {I : e_I} : ∀ n, s_run (v_G rk bs) 0 n I f_isWaiting 0 = 0 → ∀ i, i < n → s_run (v_G rk bs) 0 n I f_p_isOpened i = s_run (v_G rk bs) 0 n I f_p_isWanted i := by
  intro n
  induction n with
  | zero => intro _ i hi; omega
  | succ n ih =>
    have hr := v_Gr (rk := rk) (bs := bs) (I := I) n
    have hE : s_eqN (v_pT ++ v_pA) I (s_run (v_G rk bs) 0 n I) := s_eqN.run v_GN _ _ _
    rw [s_run_l, Nat.zero_add]
    generalize s_run (v_G rk bs) 0 n I = B at *
    intro h i hi
    obtain ⟨h1, h2⟩ := v_Gw h
    by_cases e : i = n
    · subst e
      rw [h2, v_Gv f_p_isWanted (by decide)]
      rfl
    · have ha : v_at v_pT n B (v_G rk bs n B) := v_Ga
      rw [ha _ _ (by decide) e, ha _ _ (by decide) e]
      exact ih h1 i (by omega)
def v_bl (x o : Int32) : Bool := decide (x = 99) || (decide (x ≠ 100) && decide (o ≠ 0))
theorem v_GU {rk bs : Nat → Nat} {q d : Nat} {I : e_I} : v_G rk bs q I f_a_uses d = I f_a_uses d + (if (I f_r_division (rk q)).toNatClampNeg = d ∧ v_bl (I f_p_fault q) (v_pv rk I f_p_isOpened q) = true then I f_r_use (rk q) else 0) := by
  have hA : s_eqN [f_p_isWanted, f_p_changedAt, f_entries, f_tsize] I (s_mvA (rk q) q (q - bs (rk q)) (v_pw I q) I) := s_eqN.mvA
  have e0 : v_G rk bs q I = s_mv3 (rk q) q (v_pw I q) (s_mvA (rk q) q (q - bs (rk q)) (v_pw I q) I) := rfl
  have ev := v_Gv (rk := rk) (bs := bs) (q := q) (I := I) f_p_isOpened (by decide)
  rw [e0] at ev ⊢
  generalize s_mvA (rk q) q (q - bs (rk q)) (v_pw I q) I = A at *
  unfold s_mv3 at ev ⊢
  have hmp : s_eqN [f_p_isOpened, f_p_closedAt] A (s_mp A q (A f_now 0) (A f_r_delay (rk q)) (A f_r_rest (rk q))) := s_eqN.mp
  generalize s_mp A q (A f_now 0) (A f_r_delay (rk q)) (A f_r_rest (rk q)) = B at *
  have hW : s_eqN [f_isWaiting] B (s_mvW q (v_pw I q) B) := s_eqN.up (by decide)
  generalize s_mvW q (v_pw I q) B = C at *
  unfold s_mvU at ev ⊢
  rw [s_up_F (by decide)] at ev
  have ebl : s_bl C q = v_bl (I f_p_fault q) (v_pv rk I f_p_isOpened q) := by
    unfold s_bl v_bl
    rw [ev, hW _ (by decide), hmp _ (by decide), hA _ (by decide)]
  rw [ebl, hW f_r_division (by decide), hmp f_r_division (by decide), hA f_r_division (by decide), hW f_r_use (by decide), hmp f_r_use (by decide), hA f_r_use (by decide), hW f_a_uses (by decide), hmp f_a_uses (by decide), hA f_a_uses (by decide)]
  by_cases c : (I f_r_division (rk q)).toNatClampNeg = d
  · rw [c, s_up_s]
    by_cases c2 : v_bl (I f_p_fault q) (v_pv rk I f_p_isOpened q) = true
    · rw [if_pos c2, if_pos ⟨rfl, c2⟩]
    · rw [if_neg c2, if_neg (fun z => c2 z.2)]
  · rw [s_up_i (fun z => c z.symm), if_neg (fun z => c z.1), Int32.add_zero, hW f_a_uses (by decide), hmp f_a_uses (by decide), hA f_a_uses (by decide)]
theorem v_Guse {rk bs : Nat → Nat} {I : e_I} (n d : Nat) : s_run (v_G rk bs) 0 n I f_a_uses d = I f_a_uses d + v_S n (fun q => if (I f_r_division (rk q)).toNatClampNeg = d ∧ v_bl (I f_p_fault q) (v_pv rk I f_p_isOpened q) = true then I f_r_use (rk q) else 0) := v_locS (T := v_pT) (A := v_pA) (m := n) (F9 := f_a_uses) (k9 := d) (v := fun F q => v_pv rk I F q) (fun q I => v_GN q I) (fun q I F i hF hi => v_Ga F i hF hi) (fun q I1 _ h h2 F hF => by rw [v_Gv F hF, v_pvE h h2]) (fun q I1 _ h h2 => by
  rw [v_GU, v_pvE h h2, v_S_fix h (F := f_r_division) (by decide), v_S_fix h (F := f_p_fault) (by decide), v_S_fix h (F := f_r_use) (by decide)]) n (Nat.le_refl _)
/-! the other side -/
abbrev v_qA : List Nat := f_l_size :: q_kT9
def v_sw (I : e_I) (q : Nat) : Int32 := bI (decide (q_is I q ≠ 0) || decide (I f_m_isHeld q ≠ 0))
def v_sv (I : e_I) (F q : Nat) : Int32 := if F = f_m_isCalled then q_is I q else if F = f_m_since then (if v_sw I q = I f_m_isWanted q then I f_m_since q else I f_m_tick 0) else v_sw I q
theorem v_stKN {q : Nat} {I : e_I} : s_eqN v_qA I (q_stK q I) := by
  unfold q_stK
  split
  · exact q_ka_e.1
  · exact s_eqN.rfl'
theorem v_stAN (q : Nat) (I : e_I) : s_eqN (q_bT ++ v_qA) I (q_stA q I) := (v_stKN.mono (by decide)).trans (s_eqN.qstB.mono (by decide))
theorem v_stBa {q : Nat} {z : Int32} {I : e_I} : v_at q_bT q I (q_stB q z I) := by
  unfold q_stB q_stV
  refine v_at.trans (I' := s_up I f_m_isCalled q z) v_at.up (v_at.trans (I' := if bI (decide (z ≠ 0) || decide (s_up I f_m_isCalled q z f_m_isHeld q ≠ 0)) = s_up I f_m_isCalled q z f_m_isWanted q then s_up I f_m_isCalled q z else s_up (s_up I f_m_isCalled q z) f_m_since q (s_up I f_m_isCalled q z f_m_tick 0)) ?_ v_at.up)
  split
  · exact v_at.rfl'
  · exact v_at.up
theorem v_stAa {q : Nat} {I : e_I} : v_at q_bT q I (q_stA q I) := (v_at.N v_stKN (by decide)).trans v_stBa
theorem v_stAv {q : Nat} {I : e_I} : ∀ F, q_bT.contains F = true → q_stA q I F q = v_sv I F q := by
  intro F hF
  have hK : s_eqN v_qA I (q_stK q I) := v_stKN
  have eF : F = f_m_isCalled ∨ F = f_m_since ∨ F = f_m_isWanted := by simpa [q_bT] using hF
  unfold q_stA
  generalize q_stK q I = B at *
  have ew : bI (decide (q_is I q ≠ 0) || decide (s_up B f_m_isCalled q (q_is I q) f_m_isHeld q ≠ 0)) = v_sw I q := by
    unfold v_sw
    rw [s_up_F (by decide), hK _ (by decide)]
  unfold q_stB
  rw [ew]
  unfold q_stV v_sv
  rw [s_up_F (show f_m_isWanted ≠ f_m_isCalled by decide), hK f_m_isWanted (by decide)]
  by_cases c : v_sw I q = I f_m_isWanted q
  · simp only [if_pos c]
    rcases eF with e | e | e
    · rw [e, s_up_F (by decide), s_up_s, if_pos rfl]
    · rw [e, s_up_F (by decide), s_up_F (by decide), if_neg (show ¬ f_m_since = f_m_isCalled by decide), if_pos rfl, hK _ (by decide)]
    · rw [e, s_up_s, if_neg (show ¬ f_m_isWanted = f_m_isCalled by decide), if_neg (show ¬ f_m_isWanted = f_m_since by decide)]
  · simp only [if_neg c]
    rcases eF with e | e | e
    · rw [e, s_up_F (by decide), s_up_F (by decide), s_up_s, if_pos rfl]
    · rw [e, s_up_F (by decide), s_up_s, s_up_F (by decide), if_neg (show ¬ f_m_since = f_m_isCalled by decide), if_pos rfl, hK _ (by decide)]
    · rw [e, s_up_s, if_neg (show ¬ f_m_isWanted = f_m_isCalled by decide), if_neg (show ¬ f_m_isWanted = f_m_since by decide)]
theorem v_svE {I I' : e_I} {q : Nat} (h : s_eqN (q_bT ++ v_qA) I I') (h2 : ∀ F, q_bT.contains F = true → I' F q = I F q) (F : Nat) : v_sv I' F q = v_sv I F q := by
  unfold v_sv v_sw q_is
  rw [v_S_fix h (F := f_m_counts) (by decide), v_S_fix h (F := f_m_isHeld) (by decide), v_S_fix h (F := f_m_tick) (by decide), h2 f_m_isWanted (by decide), h2 f_m_since (by decide)]
theorem v_stAr {I : e_I} (n : Nat) (F i : Nat) (hF : q_bT.contains F = true) : s_run q_stA 0 n I F i = if i < n then v_sv I F i else I F i := v_loc (T := q_bT) (A := v_qA) (m := n) v_stAN (fun q I F i hF hi => v_stAa F i hF hi) (fun q I1 _ h h2 F hF => by rw [v_stAv F hF, v_svE h h2]) n (Nat.le_refl _) F i hF
abbrev v_oT : List Nat := [f_m_isOpen, f_m_closedSince]
def v_qc1 (I : e_I) (q : Nat) : Prop := I f_m_isWanted q ≠ 0 ∧ I f_m_isOpen q = 0 ∧ I f_mr_delay (q_rk I q) ≤ I f_m_tick 0 - I f_m_since q ∧ I f_mr_rest (q_rk I q) ≤ I f_m_tick 0 - I f_m_closedSince q
theorem v_qmva {q : Nat} {I : e_I} : v_at v_oT q I (q_mv q I) := by
  unfold q_mv
  split
  · exact v_at.up
  · split
    · exact v_at.up.trans v_at.up
    · exact v_at.rfl'
theorem v_qmvE {I I' : e_I} {q : Nat} (h : s_eqN v_oT I I') (h2 : ∀ F, v_oT.contains F = true → I' F q = I F q) : ∀ F, v_oT.contains F = true → q_mv q I' F q = q_mv q I F q := by
  intro F hF
  have hF' : F = f_m_isOpen ∨ F = f_m_closedSince := by simpa using hF
  unfold q_mv q_rk
  rw [h f_m_isWanted (by decide), h2 f_m_isOpen (by decide), h f_mr_delay (by decide), h f_m_rankOf (by decide), h f_m_tick (by decide), h f_m_since (by decide), h f_mr_rest (by decide), h2 f_m_closedSince (by decide)]
  split
  · rcases hF' with e | e
    · rw [e, s_up_s, s_up_s]
    · rw [e, s_up_F (by decide), s_up_F (by decide), h2 _ (by decide)]
  · split
    · rcases hF' with e | e
      · rw [e, s_up_F (by decide), s_up_s, s_up_F (by decide), s_up_s]
      · rw [e, s_up_s, s_up_s]
    · exact h2 F hF
theorem v_qmvr {I : e_I} (n : Nat) (F i : Nat) (hF : v_oT.contains F = true) : s_run q_mv 0 n I F i = if i < n then q_mv i I F i else I F i := v_loc (T := v_oT) (A := []) (m := n) (v := fun F i => q_mv i I F i) s_eqN.qmv (fun q I F i hF hi => v_qmva F i hF hi) (fun q I1 _ h h2 F hF => v_qmvE h h2 F hF) n (Nat.le_refl _) F i hF
