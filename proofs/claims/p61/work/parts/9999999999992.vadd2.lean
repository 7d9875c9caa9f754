/-! 9999999999992: how much one settling adds, at most -/
def v_covM : List Nat := [f_mk_kind, f_mk_rows, f_mk_ranks, f_mk_offsets, f_mr_lowest, f_mr_highest, f_mr_base]
theorem v_cov.N {nk nr : Nat} {T : List Nat} {I I1 : e_I} (e : s_eqN T I I1) (hT : v_dj v_covM T = true) : v_cov I1 nk nr = v_cov I nk nr := by
  funext q
  unfold v_cov v_cvk v_ht q_nt q_ip q_pi q_pp
  simp only [e f_mk_kind (v_dj.o hT (by decide)), e f_mk_rows (v_dj.o hT (by decide)), e f_mk_ranks (v_dj.o hT (by decide)), e f_mk_offsets (v_dj.o hT (by decide)), e f_mr_lowest (v_dj.o hT (by decide)), e f_mr_highest (v_dj.o hT (by decide)), e f_mr_base (v_dj.o hT (by decide))]
theorem v_wr.N {nk : Nat} {T : List Nat} {I I1 : e_I} (h : v_wr I nk) (e : s_eqN T I I1) (hT : v_dj [f_mk_kind, f_mk_wires] T = true) : v_wr I1 nk := by
  unfold v_wr at h ⊢
  simp only [e f_mk_kind (v_dj.o hT (by decide)), e f_mk_wires (v_dj.o hT (by decide))]
  exact h
theorem v_Wn.N {nk : Nat} {T : List Nat} {I I1 : e_I} (e : s_eqN T I I1) (hT : v_dj [f_mk_kind, f_mk_rows] T = true) : v_Wn I1 nk = v_Wn I nk := by
  unfold v_Wn
  simp only [e f_mk_kind (v_dj.o hT (by decide)), e f_mk_rows (v_dj.o hT (by decide))]
theorem v_relN {nk : Nat} {I : e_I} : s_eqN [f_m_isRelay] I (q_rel nk I) := s_eqN.run (fun r I => by
  unfold q_rl
  split
  · exact s_eqN.rfl'
  · exact s_eqN.up (by decide)) _ _ _
theorem v_isz {I : e_I} {q : Nat} (h : I f_m_counts q = 0) : q_is I q = 0 := by
  unfold q_is
  rw [h]; rfl
/-- what settling turns -/
theorem v_tgB {p : e_Sp} {nk nr np n s m L : Nat} {t : Nat → Nat} {a : e_I × e_Jt} {I' M : e_I} {J' : e_Jt} {T : List Nat} (h : v_Sim p nk nr np n t s m L a (I', J')) (e : s_eqN T I' M) (hT : v_dj (f_m_isCalled :: v_covM) T = true) (hw : v_wr M nk) : s_sum np (v_tg (q_rc nk nr np M)) ≤ v_Bd nr (v_Wn I' nk) := by
  have hS := h.1.1.1.1
  obtain ⟨x1, x2, x3, -, -, -⟩ := h.1.2.2.1
  dsimp only at hS x1 x2 x3
  refine Nat.le_trans (n_le (fun q hq => ?_)) (n_cov (nk := nk) hS)
  by_cases c : v_cov I' nk nr q = true
  · rw [if_pos c]
    unfold v_tg
    split
    · exact Nat.le_refl _
    · exact Nat.zero_le _
  · have c : v_cov I' nk nr q = false := by simpa using c
    have hR : s_eqN [f_m_isRelay] M (q_rel nk M) := v_relN
    have k1 : v_cov (q_rel nk M) nk nr q = false := by rw [v_cov.N hR (by decide), v_cov.N e (v_dj.sub hT (by decide))]; exact c
    have k2 : q_rc nk nr np M f_m_counts q = 0 := by rw [v_rcC0 hq]; exact v_CZ k1 (hw.N hR (by decide))
    have k3 : I' f_m_counts q = 0 := by rw [x2 q hq]; exact v_CZ c h.1.1.1.2.1.wr
    have hE : s_eqN [f_m_isRelay, f_m_counts] M (q_rc nk nr np M) := s_eqN.qrc
    have k4 : q_rc nk nr np M f_m_isCalled q = 0 := by rw [hE _ (by decide), e _ (v_dj.o hT (by decide)), (x3 q hq).1]; exact v_isz k3
    have : v_tg (q_rc nk nr np M) q = 0 := by
      unfold v_tg
      rw [v_isz k2, k4]; rfl
    rw [this]
    exact Nat.zero_le _
/-- at most so many things are kept more -/
theorem v_Sim.nle {p : e_Sp} {nk nr np n n' s s' m m' L L' : Nat} {t t' : Nat → Nat} {a a' : e_I × e_Jt} {I' M : e_I} {J' J1 : e_Jt} {T : List Nat} (h : v_Sim p nk nr np n t s m L a (I', J')) (h' : v_Sim p nk nr np n' t' s' m' L' a' (q_st nk nr np (M, J1))) (e : s_eqN T I' M) (hT : v_dj (f_m_isCalled :: v_covM) T = true) (hsz : M f_l_size 4 = I' f_l_size 4) (hno : ¬ M f_m_recording 0 = 114 → n' = n) (hn : n + 1280 < 2147483648) (hn' : n' < 2147483648) : n' ≤ n + v_Bd nr (v_Wn I' nk) := by
  by_cases c : M f_m_recording 0 = 114
  · have hq := (q_st_e (nk := nk) (nr := nr) (np := np) (a := (M, J1))).1
    have hw : v_wr M nk := by
      have := h'.1.1.1.2.1.wr
      unfold v_wr at this ⊢
      rw [hq _ (by decide), hq _ (by decide)] at this
      exact this
    have b1 := v_tgB h e hT hw
    have h12 := h.1.1.1.1.2.1.2
    have e0 : I' f_l_size 4 = nI n := h.1.1.2.2.1.2.1.1.2.1
    have e1 := v_addsS (nk := nk) (nr := nr) (np := np) (n := n) (I := M) (J := J1) (hsz.trans e0) (by omega) c
    have e2 : (q_st nk nr np (M, J1)).1 f_l_size 4 = nI n' := h'.1.1.2.2.1.2.1.1.2.1
    have b2 : v_Bd nr (v_Wn I' nk) ≤ 1280 := Nat.min_le_left _ _
    have := (nI_eq (by omega) (by omega)).mp (e1.symm.trans e2)
    omega
  · rw [hno c]; omega
/-- nothing turns -/
theorem v_Sim.neq {p p' : e_Sp} {nk nk' nr nr' np np' n n' s s' m m' L L' : Nat} {t t' : Nat → Nat} {a a' : e_I × e_Jt} {I' M : e_I} {J' J1 : e_Jt} (h : v_Sim p nk nr np n t s m L a (I', J')) (h' : v_Sim p' nk' nr' np' n' t' s' m' L' a' (q_st nk' nr' np' (M, J1))) (hz : ∀ q, q < np' → v_tg (q_rc nk' nr' np' M) q = 0) (hsz : M f_l_size 4 = I' f_l_size 4) (hno : ¬ M f_m_recording 0 = 114 → n' = n) (hn : n + 1280 < 2147483648) (hn' : n' < 2147483648) : n' = n := by
  by_cases c : M f_m_recording 0 = 114
  · have h12 := h'.1.1.1.1.2.1.2
    have e0 : I' f_l_size 4 = nI n := h.1.1.2.2.1.2.1.1.2.1
    have e1 := v_addsS (nk := nk') (nr := nr') (np := np') (n := n) (I := M) (J := J1) (hsz.trans e0) (by omega) c
    have e2 : (q_st nk' nr' np' (M, J1)).1 f_l_size 4 = nI n' := h'.1.1.2.2.1.2.1.1.2.1
    rw [n_z hz, Nat.add_zero] at e1
    exact ((nI_eq (by omega) (by omega)).mp (e1.symm.trans e2)).symm
  · exact hno c
theorem v_relid2 {nk : Nat} {I : e_I} (h1 : ∀ r, r < 16 → I f_m_operation r = 45 ∨ I f_m_isRelay r = bI (q_rv I nk r)) : q_rel nk I = I := v_runid 16 0 (fun r hr => by
  rw [Nat.zero_add]
  unfold q_rl
  by_cases c : I f_m_operation r = 45
  · rw [if_pos c]
  · rw [if_neg c]
    exact v_upid ((h1 r hr).resolve_left c))
/-- who is turned when counts are as they were -/
theorem v_tg0 {nk nr np nk' nr' np' q : Nat} {I' M : e_I} (hX : v_Fix nk nr np I') (hq' : q < np') (h1 : ∀ r, r < 16 → M f_m_operation r = 45 ∨ M f_m_isRelay r = bI (q_rv M nk' r)) (hc : M f_m_isCalled q = bI (decide (0 < v_C M nk' nr' q))) : v_tg (q_rc nk' nr' np' M) q = 0 := by
  have hE : s_eqN [f_m_isRelay, f_m_counts] M (q_rc nk' nr' np' M) := s_eqN.qrc
  unfold v_tg q_is
  rw [v_rcC0 hq', v_relid2 h1, hE _ (by decide), hc, if_neg (fun z => z rfl)]
