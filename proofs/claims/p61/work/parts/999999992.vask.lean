/-! 999999992: what is asked -/
theorem v_relid {nk nr np : Nat} {I : e_I} (h : v_Fix nk nr np I) : q_rel nk I = I := v_runid 16 0 (fun r hr => by
  rw [Nat.zero_add]
  unfold q_rl
  by_cases c : I f_m_operation r = 45
  · rw [if_pos c]
  · rw [if_neg c]
    exact v_upid ((h.1 r hr).resolve_left c))
theorem v_bwsid {nk nr np : Nat} {I : e_I} (h : v_Fix nk nr np I) (h0 : 0 < np) : q_bws nk np I = I := v_runid 3 0 (fun d hd => by
  rw [Nat.zero_add]
  show s_up I f_m_winds d (v_qv I nk np d) = I
  exact v_upid (h.2.2.2.2.1.resolve_left (by omega) d hd))
theorem v_rcfix {nk nr np : Nat} {I : e_I} (h : v_Fix nk nr np I) : s_eqN [f_m_counts] I (q_rc nk nr np I) ∧ ∀ q, q < np → q_rc nk nr np I f_m_counts q = I f_m_counts q := by
  have h2 : s_eqN [f_m_counts] (q_rel nk I) (q_rc nk nr np I) := (s_eqN.fill (by decide)).trans (s_eqN.run s_eqN.qrcD _ _ _)
  rw [v_relid h] at h2
  exact ⟨h2, fun q hq => by rw [v_rcC0 hq, v_relid h, h.2.1 q hq]⟩
/-- counts of no pipe do not matter -/
theorem v_Sim.cnt {p : e_Sp} {nk nr np n s m L : Nat} {t : Nat → Nat} {I I' M : e_I} {J J' : e_Jt} (h : v_Sim p nk nr np n t s m L (I, J) (I', J')) (hM : s_eqN [f_m_counts] I' M) (hc : ∀ q, q < np → M f_m_counts q = I' f_m_counts q) : v_Sim p nk nr np n t s m L (I, J) (M, J') := by
  obtain ⟨⟨h1, h2, h3, h4⟩, z1, z2, z3, z4, z5, z6⟩ := h
  have r0 : s_eqN [] I I := s_eqN.rfl'
  refine ⟨⟨h1.re r0 hM (by decide) (by decide) (h1.1.2.2.N r0 hM (by decide) (by decide)) (h1.2.2.1.2.1.N r0 hM (by decide) (by decide)) rfl rfl rfl, ?_, ?_, h4.N r0 hM (by decide) (by decide)⟩, z1.N r0 hM (by decide) (by decide), z2.N r0 hM (by decide) (by decide), z3.N r0 hM (by decide) (by decide), z4.N r0 hM (by decide) (by decide), z5.frame r0 hM (by decide) (by decide), z6.N r0 hM (by decide) (by decide) (fun l _ => by dsimp only; rw [hM _ (by decide)]) v_eqJ.rfl' v_eqJ.rfl'⟩
  · obtain ⟨g1, g2, g3, g4, g5⟩ := h2
    dsimp only at g1 g2 g3 g4 g5 ⊢
    refine ⟨g1.imp id (fun g => g.N r0 hM (by decide) (by decide)), ?_, ?_, ?_, fun q hq => ?_⟩
    · rw [hM _ (by decide)]; exact g2
    · rw [hM _ (by decide), hM _ (by decide)]; exact g3
    · have : ∀ d, q_us M d = q_us I' d := fun d => by
        funext q u
        unfold q_us q_bl q_rk
        simp only [hM f_m_fault (by decide), hM f_m_isOpen (by decide), hM f_m_rankOf (by decide), hM f_mr_division (by decide), hM f_mr_wind (by decide)]
      intro d hd
      rw [this]
      exact g4 d hd
    · rw [hc q hq]; exact g5 q hq
  · obtain ⟨x1, x2, x3, x4, x5, x6⟩ := h3
    dsimp only at x1 x2 x3 x4 x5 x6 ⊢
    refine ⟨fun r hr => ?_, fun q hq => ?_, fun q hq => ?_, fun q hq => ?_, x5.imp id (fun x5 d hd => ?_), fun q hq => ?_⟩
    · rw [v_rv.N (nr := nr) (np := np) hM (by decide), hM f_m_operation (by decide), hM f_m_isRelay (by decide)]; exact x1 r hr
    · rw [v_C.N (np := np) hM (by decide), hc q hq]; exact x2 q hq
    · have a1 : q_is M q = q_is I' q := by unfold q_is; rw [hc q hq]
      have a2 : v_sw M q = v_sw I' q := by unfold v_sw; rw [a1, hM f_m_isHeld (by decide)]
      rw [a1, a2, hM f_m_isCalled (by decide), hM f_m_isWanted (by decide)]; exact x3 q hq
    · unfold v_c1 v_c2 q_rk
      rw [hM f_m_isWanted (by decide), hM f_m_isOpen (by decide), hM f_mr_delay (by decide), hM f_m_tick (by decide), hM f_m_since (by decide), hM f_mr_rest (by decide), hM f_m_closedSince (by decide), hM f_m_rankOf (by decide)]
      exact x4 q hq
    · rw [v_qv.N (nr := nr) hM (by decide), hM _ (by decide)]; exact x5 d hd
    · rw [v_sis.N (nk := 0) (nr := 0) (np := 0) hM (by decide), hM _ (by decide)]; exact x6 q hq
/-- which pipe -/
theorem v_patS {p : e_Sp} {I I' : e_I} {nr np j : Nat} {x y : Int32} (h : v_Sh p I I' nr np) : s_pat p I nr x y = some j ↔ q_ip I' nr x y = true ∧ q_pi I' x y = j := by
  rw [v_pat h]
  by_cases c : q_ip I' nr x y = true
  · rw [if_pos c]
    exact ⟨fun w => ⟨c, Option.some.inj w⟩, fun w => by rw [w.2]⟩
  · rw [if_neg c]
    exact ⟨fun w => absurd w (by simp), fun w => absurd w.1 c⟩
theorem v_patN {p : e_Sp} {I I' : e_I} {nr np : Nat} {x y : Int32} (h : v_Sh p I I' nr np) : s_pat p I nr x y = none ↔ q_ip I' nr x y = false := by
  rw [v_pat h]
  by_cases c : q_ip I' nr x y = true
  · rw [if_pos c, c]; exact ⟨fun w => absurd w (by simp), fun w => absurd w (by decide)⟩
  · rw [if_neg c]; exact ⟨fun _ => by simpa using c, fun _ => rfl⟩
theorem v_ar {p : e_Sp} {nk nr np n s m L q : Nat} {t : Nat → Nat} {a b : e_I × e_Jt} (h : v_Sim p nk nr np n t s m L a b) (hq : q < np) : s_ar a.1 q = q_ro b.1 q := by
  unfold s_ar q_ro
  rw [h.2.1.2.1 q hq, ((h.1.1.2.2.1.1 q hq).1.1).trans (h.2.1.2.1 q hq), if_pos rfl, h.1.2.1.2.2.2.2 q hq]
  exact (Int32.add_zero _).symm
theorem v_spkA {p : e_Sp} {nk nr np n s m L : Nat} {t : Nat → Nat} {a b : e_I × e_Jt} (h : v_Sim p nk nr np n t s m L a b) : a.1 f_speakers 0 = q_asp b.1 np := by
  unfold q_asp
  rw [v_sumI (f := q_asf b.1) (g := fun q => bI (decide (b.1 f_m_speaks q ≠ 0))) (fun q u => rfl), Int32.zero_add, h.1.2.1.2.1]
  refine v_S_congr (fun q hq => ?_)
  rcases (h.1.1.2.2.2.1 q hq).1.2 with w | w <;> rw [w] <;> decide
theorem v_ro {p : e_Sp} {nk nr np n s m L r : Nat} {t : Nat → Nat} {a b : e_I × e_Jt} (h : v_Sim p nk nr np n t s m L a b) (hr : r < 16) : bI (s_ro a.1 (nI r)) = q_rel nk b.1 f_m_isRelay r := by
  rw [v_relid h.1.2.2.1]
  unfold s_ro
  rw [decide_eq_true (nI_pos' (by omega)), decide_eq_true (show nI r < 16 from nI_lt (b := 16) hr (by decide)), nI_clamp (by omega), h.1.1.2.1.1 r hr]
  exact v_b01 (h.2.2.2.2.2.1.2.1 f_m_isRelay (by decide) r)
/-- the rank and the note of a pipe -/
theorem v_Sh.note {p : e_Sp} {I I' : e_I} {nr np : Nat} (h : v_Sh p I I' nr np) {x y : Int32} (hi : q_ip I' nr x y = true) : ∃ r j lo, r < nr ∧ j < p.2.2.1 T_PARR r ∧ lo + j < 128 ∧ x = nI r ∧ y = nI (lo + j) ∧ q_pi I' x y = p.2.2.2.2 r + j ∧ I f_r_lowest r = nI lo ∧ I' f_mr_lowest r = nI lo := by
  unfold q_ip at hi
  rw [Bool.and_eq_true, decide_eq_true_iff, decide_eq_true_iff] at hi
  obtain ⟨r, hr, rfl⟩ := s_nat hi.1.1 hi.1.2 (by have := h.2.1.1; omega)
  have h2 := hi.2
  rw [nI_clamp (by have := h.2.1.1; omega)] at h2
  obtain ⟨lo, dv, a1, a2, -, a3, a4, a5, a6, -⟩ := h.2.2 r hr
  rw [a4, a5] at h2
  obtain ⟨v, hv, rfl⟩ := nI_of (x := y) (fun z => nI_pos (n := lo) (by omega) (Int32.lt_of_le_of_lt h2.1 z))
  have b1 := (nI_leI (by omega) hv).mp h2.1
  have b2 := (nI_leI hv (by omega)).mp h2.2
  refine ⟨r, v - lo, lo, hr, by omega, by omega, rfl, by congr 1; omega, ?_, a3, a4⟩
  unfold q_pi q_pp
  have hle := h.le hr
  have := h.2.1
  rw [nI_clamp (by omega), a4, a6, nI_add, nI_sub (by omega), nI_clamp (by omega)]
  omega
/-- pitches -/
theorem v_pit {p : e_Sp} {nk nr np n s m L : Nat} {t : Nat → Nat} {a b : e_I × e_Jt} {x y : Int32} (h : v_Sim p nk nr np n t s m L a b) (hi : q_ip b.1 nr x y = true) : s_pit p a.1 nr x y = q_pt b.1 (q_pi b.1 x y) := by
  have hS := h.1.1.1.1
  obtain ⟨r, j, lo, hr, hj, hlj, rfl, rfl, e1, e2, e3⟩ := hS.note hi
  have hnp := hS.2.1
  have hq := hS.lt hr hj
  unfold s_pit
  rw [(v_patS hS).mpr ⟨hi, e1⟩]
  dsimp only
  obtain ⟨lo', dv, -, -, hdv, a3, a4, a5, a6, a7, a8, ⟨-, -, -, -, b5, -⟩, -⟩ := hS.2.2 r hr
  have elo : nI lo' = nI lo := a3.symm.trans e2
  rw [if_neg (nI_pos (by omega)), e1]
  unfold q_pt q_no
  have hle := hS.le hr
  rw [hS.rk hr hj, a4, elo, a6, nI_add, nI_sub (by omega), show lo + (p.2.2.2.2 r + j) - p.2.2.2.2 r = lo + j by omega, nI_clamp (n := r) (by omega), a7, a8, nI_clamp (n := dv) (by omega), b5, h.2.1.1 _ hq, h.2.1.2.2.1, h.1.2.1.1.resolve_left (by omega) dv hdv]
  have hmod : nI (lo + j) - nI (lo + j) / 12 * 12 = nI ((lo + j) % 12) := by
    have key : ∀ v : Fin 128, nI v.val - nI v.val / 12 * 12 = nI (v.val % 12) := by decide +kernel
    exact key ⟨lo + j, hlj⟩
  rw [hmod, nI_clamp (by omega), h.2.1.2.2.2.2.1 _ (show (lo + j) % 12 < 12 by omega)]
