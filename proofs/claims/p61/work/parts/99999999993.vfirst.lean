/-! 99999999993: a pass adds at its first tick alone -/
def v_Kw (m : Nat) (I' : e_I) : Prop := ∀ i, i < 183 → ∃ w, w < m ∧ I' f_m_wentDown i = nI w
theorem v_Kt.kq {m m' : Nat} {I I' : e_I} (h : v_Kt m I I') (hm : m < m') : v_Kw m' I' := fun i hi => by
  obtain ⟨w, h1, h2, -⟩ := h i hi
  exact ⟨w, by omega, h2⟩
theorem v_quiet2 {nk nr np : Nat} {I : e_I} {J : e_Jt} (h1 : ∀ r, r < 16 → I f_m_operation r = 45 ∨ I f_m_isRelay r = bI (q_rv I nk r)) (h2 : ∀ q, q < np → I f_m_counts q = v_C I nk nr q) (h3 : ∀ q, q < np → I f_m_isCalled q = q_is I q ∧ I f_m_isWanted q = v_sw I q) : (q_st nk nr np (I, J)).1 f_l_size = I f_l_size := by
  have e1 : q_rel nk I = I := v_runid 16 0 (fun r hr => by
    rw [Nat.zero_add]
    unfold q_rl
    by_cases c : I f_m_operation r = 45
    · rw [if_pos c]
    · rw [if_neg c]
      exact v_upid ((h1 r hr).resolve_left c))
  have hE : s_eqN [f_m_counts] I (q_rc nk nr np I) := by
    have h2 : s_eqN [f_m_counts] (q_rel nk I) (q_rc nk nr np I) := (s_eqN.fill (by decide)).trans (s_eqN.run s_eqN.qrcD _ _ _)
    rw [e1] at h2
    exact h2
  have hC : ∀ q, q < np → q_rc nk nr np I f_m_counts q = I f_m_counts q := fun q hq => by rw [v_rcC0 hq, e1, h2 q hq]
  have e0 : q_st nk nr np (I, J) = s_run q_sp 0 np (q_bws nk np (s_run q_mv 0 np (s_run q_stA 0 np (q_rc nk nr np I))), J) := rfl
  rw [e0]
  generalize q_rc nk nr np I = M at *
  have e2 : s_run q_stA 0 np M = M := v_runid np 0 (fun q hq => by
    rw [Nat.zero_add]
    have a1 : q_is M q = M f_m_isCalled q := by
      rw [hE f_m_isCalled (by decide), (h3 q hq).1]
      unfold q_is
      rw [hC q hq]
    have a2 : v_sw M q = M f_m_isWanted q := by
      rw [hE f_m_isWanted (by decide), (h3 q hq).2]
      unfold v_sw q_is
      rw [hC q hq, hE f_m_isHeld (by decide)]
    have ek : q_stK q M = M := by
      unfold q_stK
      exact if_neg (fun z => z.1 a1)
    unfold q_stA
    rw [ek]
    unfold q_stB q_stV
    rw [v_upid a1.symm]
    have a3 : bI (decide (q_is M q ≠ 0) || decide (M f_m_isHeld q ≠ 0)) = M f_m_isWanted q := a2
    rw [a3, if_pos rfl]
    exact v_upid rfl)
  rw [e2]
  have k1 : s_eqN v_oT M (s_run q_mv 0 np M) := s_eqN.run s_eqN.qmv _ _ _
  have k2 : s_eqN [f_m_winds] (s_run q_mv 0 np M) (q_bws nk np (s_run q_mv 0 np M)) := s_eqN.qbws
  have k3 : s_eqN [f_m_begun, f_m_speaks] (q_bws nk np (s_run q_mv 0 np M)) (s_run q_sp 0 np (q_bws nk np (s_run q_mv 0 np M), J)).1 := s_eqN.runP s_eqN.qsp _ _ (q_bws nk np (s_run q_mv 0 np M), J)
  rw [k3 _ (by decide), k2 _ (by decide), k1 _ (by decide), hE _ (by decide)]
theorem v_tickq {p : e_Sp} {nk nr np n n' s m : Nat} {t t' : Nat → Nat} {a b a' : e_I × e_Jt} (h : v_B p nk nr np n t s m a b) (hq : v_Kw m b.1) (hm : m + 1 < 1000000000) (hn : n < 2147483648) (hn' : n' < 2147483648) (i : Nat) (h' : v_B p nk nr np n' t' s (m + 1) a' (q_tc nk nr np i b)) : n' = n := by
  obtain ⟨hR, hF, ⟨x1, x2, x3, -, -, -⟩, hK⟩ := h
  have htk : b.1 f_m_tick 0 = nI m := hR.2.2.1.2.1.1.2.2.2.1
  have e' : s_eqN [f_m_tick] b.1 (s_up b.1 f_m_tick 0 (b.1 f_m_tick 0 + 1)) := s_eqN.up (by decide)
  have et : s_up b.1 f_m_tick 0 (b.1 f_m_tick 0 + 1) f_m_tick 0 = nI (m + 1) := by rw [s_up_s, htk, nI_1]
  have key := v_quiet2 (nk := nk) (nr := nr) (np := np) (I := s_up b.1 f_m_tick 0 (b.1 f_m_tick 0 + 1)) (J := b.2) (fun r hr => by
    rw [v_rv.N (nr := nr) (np := np) e' (by decide), e' f_m_operation (by decide), e' f_m_isRelay (by decide)]
    exact x1 r hr) (fun q hq9 => by
    rw [v_Ctk (m := m) e' (fun i hi hd => by
      obtain ⟨w, w1, w2⟩ := hq i hi
      rw [w2, et, htk]
      refine ⟨fun z => ?_, fun z => ?_⟩
      · have : w = m := (nI_eq (by omega) (by omega)).mp z
        omega
      · have : w = m + 1 := (nI_eq (by omega) (by omega)).mp z
        omega), e' f_m_counts (by decide)]
    exact x2 q hq9) (fun q hq9 => by
    have a1 : q_is (s_up b.1 f_m_tick 0 (b.1 f_m_tick 0 + 1)) q = q_is b.1 q := by unfold q_is; rw [e' f_m_counts (by decide)]
    have a2 : v_sw (s_up b.1 f_m_tick 0 (b.1 f_m_tick 0 + 1)) q = v_sw b.1 q := by unfold v_sw; rw [a1, e' f_m_isHeld (by decide)]
    rw [a1, a2, e' f_m_isCalled (by decide), e' f_m_isWanted (by decide)]
    exact x3 q hq9)
  have g1 : b.1 f_l_size 4 = nI n := hR.2.2.1.2.1.1.2.1
  have g2 : (q_tc nk nr np i b).1 f_l_size 4 = nI n' := h'.1.2.2.1.2.1.1.2.1
  have g3 : (q_tc nk nr np i b).1 f_l_size = b.1 f_l_size := by
    show (q_st nk nr np (s_up b.1 f_m_tick 0 (b.1 f_m_tick 0 + 1), b.2)).1 f_l_size = _
    rw [key, e' _ (by decide)]
  rw [g3, g1] at g2
  exact ((nI_eq (by omega) (by omega)).mp g2).symm
