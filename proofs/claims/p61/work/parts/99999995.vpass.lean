/-! 99999995: passing -/
theorem v_boFsp {p : e_Sp} {nr : Nat} {a : e_I × e_Jt} (h : q_bo a.1 f_p_isSpeaking) : q_bo (s_fsp p nr a).1 f_p_isSpeaking := by
  unfold s_fsp s_fsR
  refine v_boR (g := fun a : e_I × e_Jt => a.1) (fun r b hb => v_boR (g := fun a : e_I × e_Jt => a.1) (fun n b hb => ?_) _ _ _ hb) _ _ _ ?_
  · unfold s_fsP s_fsE
    dsimp only
    refine v_bo_eq (I := s_up (s_fsB _ (p.2.2.2.2 r + n) b).1 f_p_isSpeaking (p.2.2.2.2 r + n) (bI _)) (v_bo_up (v_bo_eq hb ?_) (bI_or _)) (by funext j; exact s_up_F (by decide))
    unfold s_fsB
    split
    · funext j; dsimp only; rw [s_up_F (by decide), s_up_F (by decide)]
    · split
      · funext j; dsimp only; rw [s_up_F (by decide)]
      · rfl
  · refine v_bo_eq h ?_
    funext j
    dsimp only
    rw [s_up_F (by decide)]
theorem v_fspJ {p : e_Sp} {nr : Nat} {a : e_I × e_Jt} : v_eqJ [j_allEnds] a.2 (s_fsp p nr a).2 := by
  unfold s_fsp s_fsR
  refine v_eqJ.run (fun r b => v_eqJ.run (fun n b => ?_) _ _ _) _ _ (s_up a.1 f_speakers 0 0, a.2)
  unfold s_fsP s_fsE s_fsB
  split
  · exact v_eqJ.rfl'
  · split
    · exact v_eqJ.up (by decide)
    · exact v_eqJ.rfl'
theorem v_tickJ {p : e_Sp} {nk nr : Nat} (i : Nat) (a : e_I × e_Jt) : v_eqJ [j_allEnds] a.2 (s_tick p nk nr i a).2 := by
  unfold s_tick
  split
  · exact v_stlJ (a := (s_now1 a.1, a.2))
  · unfold s_idl
    split
    · exact v_eqJ.rfl'
    · exact v_fspJ (a := (s_wds nk (s_now1 a.1), a.2))
theorem v_bCs {F : Nat} (h : v_bC.contains F = true) : F = f_p_isOpened ∨ F = f_p_isSpeaking ∨ (v_dj [F] (f_now :: s_tST) = true ∧ True) := by
  have hF' : F = f_p_isOpened ∨ F = f_p_isSpeaking ∨ F = f_isTutti ∨ F = f_k_isOut ∨ F = f_k_isLocked ∨ F = f_k_isInScope := by simpa [v_bC] using h
  rcases hF' with e | e | e | e | e | e
  · exact .inl e
  · exact .inr (.inl e)
  all_goals (rw [e]; exact .inr (.inr ⟨by decide, trivial⟩))
theorem v_boTick {p : e_Sp} {nk nr : Nat} (i : Nat) (a : e_I × e_Jt) (h : ∀ F, v_bC.contains F = true → q_bo a.1 F) : ∀ F, v_bC.contains F = true → q_bo (s_tick p nk nr i a).1 F := by
  have e : s_eqN [f_now] a.1 (s_now1 a.1) := s_eqN.up (by decide)
  have h1 : ∀ F, v_bC.contains F = true → q_bo (s_now1 a.1) F := fun F hF => v_bo_eq (h F hF) (e F (v_dj.o (show v_dj v_bC [f_now] = true by decide) hF))
  unfold s_tick
  split
  · exact v_boStl (a := (s_now1 a.1, a.2)) h1
  · intro F hF
    have g : s_eqN (f_a_winds :: s_tFS) (s_now1 a.1) (s_idl p nk nr (s_now1 a.1, a.2)).1 := s_eqN.idl (a := (s_now1 a.1, a.2))
    by_cases c : F = f_p_isSpeaking
    · rw [c]
      have hw : s_eqN [f_a_winds] (s_now1 a.1) (s_wds nk (s_now1 a.1)) := s_eqN.wds
      have h2 : q_bo (s_wds nk (s_now1 a.1)) f_p_isSpeaking := v_bo_eq (h1 _ (by decide)) (hw _ (by decide))
      unfold s_idl
      split
      · exact h2
      · exact v_boFsp (a := (s_wds nk (s_now1 a.1), a.2)) h2
    · refine v_bo_eq (h1 F hF) (g F ?_)
      have hF' : F = f_p_isOpened ∨ F = f_p_isSpeaking ∨ F = f_isTutti ∨ F = f_k_isOut ∨ F = f_k_isLocked ∨ F = f_k_isInScope := by simpa [v_bC] using hF
      rcases hF' with z | z | z | z | z | z
      · rw [z]; decide
      · exact absurd z c
      all_goals rw [z]; decide
theorem v_boTc {nk nr np : Nat} (i : Nat) (b : e_I × e_Jt) (h : ∀ F, v_bM.contains F = true → q_bo b.1 F) : ∀ F, v_bM.contains F = true → q_bo (q_tc nk nr np i b).1 F := by
  have e : s_eqN [f_m_tick] b.1 (s_up b.1 f_m_tick 0 (b.1 f_m_tick 0 + 1)) := s_eqN.up (by decide)
  exact v_boSt (b := (s_up b.1 f_m_tick 0 (b.1 f_m_tick 0 + 1), b.2)) (fun F hF => v_bo_eq (h F hF) (e F (v_dj.o (show v_dj v_bM [f_m_tick] = true by decide) hF)))
theorem v_tcE {nk nr np : Nat} (i : Nat) (b : e_I × e_Jt) : q_e (f_m_tick :: q_sT) b.1 (q_tc nk nr np i b).1 := (q_e.up (by decide) (by decide) : q_e (f_m_tick :: q_sT) b.1 (s_up b.1 f_m_tick 0 (b.1 f_m_tick 0 + 1))).trans ((q_st_e (a := (s_up b.1 f_m_tick 0 (b.1 f_m_tick 0 + 1), b.2))).mono (by decide))
theorem v_tcsE {nk nr np : Nat} (n i : Nat) (b : e_I × e_Jt) : q_e (f_m_tick :: q_sT) b.1 (s_run (q_tc nk nr np) i n b).1 := s_run_ind (P := fun a b : e_I × e_Jt => q_e (f_m_tick :: q_sT) a.1 b.1) (fun _ => q_e.rfl') (fun {x y z} (u : q_e (f_m_tick :: q_sT) x.1 y.1) (v : q_e (f_m_tick :: q_sT) y.1 z.1) => u.trans v) v_tcE n i b
/-- the rest, behind ticks -/
theorem v_Zs.ticks {p : e_Sp} {nk nr np s m n n' L k : Nat} {a b : e_I × e_Jt} (h : v_Zs nk np s m n L a b) (hn : ¬ b.1 f_m_recording 0 = 114 → n' = n) (hk : k ≤ 40) : v_Zs nk np s (m + k) n' (L + 1) (s_run (s_tick p nk nr) 0 k a) (s_run (q_tc nk nr np) 0 k b) := by
  obtain ⟨h1, h2, h3, h4, h5, h6⟩ := h
  have e : s_eqN (f_now :: s_tST) a.1 (s_run (s_tick p nk nr) 0 k a).1 := s_eqN.runP s_eqN.tick _ _ _
  have e2 := v_tcsE (nk := nk) (nr := nr) (np := np) k 0 b
  have e' := e2.1
  have hj : v_eqJ [j_allEnds] a.2 (s_run (s_tick p nk nr) 0 k a).2 := v_eqJ.run v_tickJ _ _ _
  have hj' : v_eqJ [j_m_allBegun, j_m_ended] b.2 (s_run (q_tc nk nr np) 0 k b).2 := v_eqJ.run (fun i c => v_qstJ (b := (s_up c.1 f_m_tick 0 (c.1 f_m_tick 0 + 1), c.2))) _ _ _
  refine ⟨h1.N e e' (by decide) (by decide), h2.N e e' (by decide) (by decide), ?_, h4.N e e' (by decide) (by decide), ?_, h6.N e e' (by decide) (by decide) (fun l hl => e2.2 l (by omega)) hj hj'⟩
  · have h3' := (h3.n hn).N e e' (by decide) (by decide)
    refine ⟨?_, h3'.2⟩
    rcases h3'.1 with w | ⟨w, w1, w2, w3⟩
    · exact .inl w
    · exact .inr ⟨w, w1, w2, by omega⟩
  · obtain ⟨g1, g2, g3, g4, g5, g6⟩ := h5
    refine ⟨?_, ?_, ?_, ?_, ?_, ?_⟩
    · exact s_run_pr (P := fun a : e_I × e_Jt => ∀ F, v_bC.contains F = true → q_bo a.1 F) v_boTick k 0 a g1
    · exact s_run_pr (P := fun b : e_I × e_Jt => ∀ F, v_bM.contains F = true → q_bo b.1 F) v_boTc k 0 b g2
    · unfold v_ch; rw [e _ (by decide)]; exact g3
    · unfold v_ch; rw [e' _ (by decide)]; exact g4
    · unfold v_ch; rw [e _ (by decide)]; exact g5
    · unfold v_ch; rw [e' _ (by decide)]; exact g6
theorem v_Zs.rh0 {nk np s m n L : Nat} {a b : e_I × e_Jt} (h : v_Zs nk np s m n L a b) : v_Rh0 np b.1 := fun z => by
  rcases h.2.2.1.1 with w | ⟨w, w1, w2, w3⟩
  · rw [z] at w; exact absurd w (by decide)
  · exact ⟨w1.trans z, h.1.2.1⟩
theorem v_Zs.ms {nk np s m n L : Nat} {a b : e_I × e_Jt} (h : v_Zs nk np s m n L a b) : b.1 f_m_recording 0 = 114 → m - s ≤ 40 * L := fun z => by
  rcases h.2.2.1.1 with w | ⟨w, w1, w2, w3⟩
  · rw [z] at w; exact absurd w (by decide)
  · exact w3
theorem a_pass {p : e_Sp} {nk nr np n s m L k : Nat} {t : Nat → Nat} {a b : e_I × e_Jt} (h : v_Sim p nk nr np n t s m L a b) (hk : k ≤ 40) (hL : L ≤ 1500) (hn : n + 60000 ≤ 1000000) (hm : m + k < 1000000000) : (∃ n' t', n' ≤ n + k * np ∧ (¬ b.1 f_m_recording 0 = 114 → n' = n) ∧ v_Sim p nk nr np n' t' s (m + k) (L + 1) (s_run (s_tick p nk nr) 0 k a) (s_run (q_tc nk nr np) 0 k b)) ∧ (s_run (s_tick p nk nr) 0 k a).1 f_now 0 = (s_run (q_tc nk nr np) 0 k b).1 f_m_tick 0 := by
  have hnp : np ≤ 1280 := h.1.1.1.1.2.1.2
  have hkp : (k + 1) * np ≤ 41 * 1280 := Nat.mul_le_mul (by omega) hnp
  obtain ⟨n', t', k1, k2, k3⟩ := v_ticks k n t m a b 0 h.1 h.2.rh0 (fun z => ⟨by have := h.2.ms z; omega, by omega⟩) hm
  exact ⟨⟨n', t', k1, k2, k3, h.2.ticks k2 hk⟩, k3.1.1.2.2.2.2.1⟩
