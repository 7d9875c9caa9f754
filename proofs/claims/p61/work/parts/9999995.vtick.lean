/-! 9999995: a tick, both sides -/
/-- when keys went down -/
def v_Kt (m : Nat) (I I' : e_I) : Prop := ∀ i, i < 183 → ∃ w, w ≤ m ∧ I' f_m_wentDown i = nI w ∧ (¬ I' f_m_isDown i = 0 → w = m → I f_lastPressedAt 0 = nI m)
theorem v_Kt.N {T T' : List Nat} {I I' I1 I1' : e_I} {m : Nat} (h : v_Kt m I I') (e : s_eqN T I I1) (e' : s_eqN T' I' I1') (hT : v_dj [f_lastPressedAt] T = true) (hT' : v_dj [f_m_wentDown, f_m_isDown] T' = true) : v_Kt m I1 I1' := by
  unfold v_Kt at h ⊢
  simp only [e f_lastPressedAt (v_dj.o hT (by decide)), e' f_m_wentDown (v_dj.o hT' (by decide)), e' f_m_isDown (v_dj.o hT' (by decide))]
  exact h
theorem v_Kt.up {I I' : e_I} {m m' : Nat} (h : v_Kt m I I') (hm : m < m') : v_Kt m' I I' := fun i hi => by
  obtain ⟨w, h1, h2, h3⟩ := h i hi
  exact ⟨w, by omega, h2, fun _ z => absurd z (by omega)⟩
theorem v_max0 (x : Int32) : 0 < s_max 0 x ↔ ¬ s_max 0 x = 0 := by
  unfold s_max
  by_cases c : 0 < x
  · rw [if_pos c]
    exact ⟨fun _ z => by rw [z] at c; exact absurd c (by decide), fun _ => c⟩
  · rw [if_neg c]
    exact ⟨fun z => absurd z (by decide), fun z => absurd rfl z⟩
theorem v_wlE {I I1 : e_I} (h : s_wl I = s_wl I1) : ∀ d, d < 3 → (I f_a_winds d = 0 ↔ I1 f_a_winds d = 0) := by
  have e : ∀ I : e_I, s_wl I = s_wl1 I 2 (s_wl1 I 1 (s_wl1 I 0 0)) := fun I => rfl
  rw [e, e] at h
  unfold s_wl1 at h
  intro d hd
  by_cases a0 : I f_a_winds 0 = 0 <;> by_cases a1 : I f_a_winds 1 = 0 <;> by_cases a2 : I f_a_winds 2 = 0 <;> by_cases b0 : I1 f_a_winds 0 = 0 <;> by_cases b1 : I1 f_a_winds 1 = 0 <;> by_cases b2 : I1 f_a_winds 2 = 0 <;> simp only [a0, a1, a2, b0, b1, b2, if_true, if_false] at h <;> first
    | exact absurd h (by decide)
    | (rcases (by omega : d = 0 ∨ d = 1 ∨ d = 2) with z | z | z <;> rw [z] <;> simp [a0, a1, a2, b0, b1, b2])
/-- what is counted, when no key went down at the tick -/
theorem v_Ctk {I I1 : e_I} {nk nr q m : Nat} (e : s_eqN [f_m_tick] I I1) (h : ∀ i, i < 183 → ¬ I f_m_isDown i = 0 → ¬ I f_m_wentDown i = I f_m_tick 0 ∧ ¬ I f_m_wentDown i = I1 f_m_tick 0) : v_C I1 nk nr q = v_C I nk nr q := by
  have hP : v_P I1 nk nr = v_P I nk nr := by
    funext x y q
    unfold v_P v_Rw q_so q_pi q_nt q_ip q_pp q_ct
    simp only [e f_mk_kind (by decide), e f_mk_division (by decide), e f_mk_isDrawn (by decide), e f_mk_relay (by decide), e f_m_isRelay (by decide), e f_mk_rows (by decide), e f_mk_froms (by decide), e f_mk_wires (by decide), e f_mk_tos (by decide), e f_mk_ranks (by decide), e f_mk_offsets (by decide), e f_mr_lowest (by decide), e f_mr_highest (by decide), e f_mr_base (by decide), e f_m_isTutti (by decide), e f_mk_stage (by decide), e f_m_crescendo (by decide)]
  have hct : q_ct I1 = q_ct I := by
    funext k; unfold q_ct
    simp only [e f_mk_isDrawn (by decide), e f_mk_relay (by decide), e f_m_isRelay (by decide)]
  unfold v_C
  simp only [hP, hct, e f_m_isDown (by decide), e f_mk_to (by decide), e f_mk_shift (by decide)]
  refine v_S_congr (fun d hd => v_S_congr (fun n hn => ?_))
  by_cases c : I f_m_isDown (s_kn (nI d) (nI n)) = 0
  · rw [if_pos c, if_pos c]
  · rw [if_neg c, if_neg c]
    congr 1
    refine v_S_congr (fun k _ => ?_)
    have hk : v_Bc I1 d n k ↔ v_Bc I d n k := by
      unfold v_Bc
      rw [hct, e f_mk_kind (by decide), e f_mk_division (by decide), e f_mk_to (by decide), e f_mk_shift (by decide)]
      refine and_congr_right (fun _ => and_congr_right (fun hdv => and_congr_right (fun _ => and_congr_left (fun _ => ?_))))
      have hn61 : n < 61 := by have := v_kcn d; omega
      have hi := h (s_kn (nI d) (nI n)) (by rw [v_kn hd hn61]; omega) c
      unfold q_tk
      have heg : q_eg I1 = q_eg I := by
        funext x y
        unfold q_eg q_egs
        simp only [e f_m_isDown (by decide)]
      rw [heg, e f_mk_letter (by decide), e f_mk_division (by decide), e f_m_wentDown (by decide), hdv, decide_eq_false hi.1, decide_eq_false hi.2]
    by_cases c2 : v_Bc I d n k
    · rw [if_pos c2, if_pos (hk.mpr c2)]
    · rw [if_neg c2, if_neg (fun z => c2 (hk.mp z))]
/-- settling when only winds and speech can change -/
theorem v_quiet {nk nr np : Nat} {I : e_I} {J : e_Jt} (h1 : ∀ r, r < 16 → I f_m_operation r = 45 ∨ I f_m_isRelay r = bI (q_rv I nk r)) (h2 : ∀ q, q < np → I f_m_counts q = v_C I nk nr q) (h3 : ∀ q, q < np → I f_m_isCalled q = q_is I q ∧ I f_m_isWanted q = v_sw I q) (h4 : ∀ q, q < np → ¬ v_c1 I q ∧ ¬ v_c2 I q) : ∃ M, s_eqN [f_m_counts] I M ∧ (∀ q, q < np → M f_m_counts q = I f_m_counts q) ∧ q_st nk nr np (I, J) = s_run q_sp 0 np (q_bws nk np M, J) := by
  have e1 : q_rel nk I = I := v_runid 16 0 (fun r hr => by
    rw [Nat.zero_add]
    unfold q_rl
    by_cases c : I f_m_operation r = 45
    · rw [if_pos c]
    · rw [if_neg c]
      exact v_upid ((h1 r hr).resolve_left c))
  have hE : s_eqN [f_m_counts] I (q_rc nk nr np I) := by
    have h2 : s_eqN [f_m_counts] (q_rel nk I) (q_rc nk nr np I) := (s_eqN.fill (by decide)).trans (s_eqN.run s_eqN.qrcD _ _ _)
    rw [e1] at h2
    exact h2
  have hC : ∀ q, q < np → q_rc nk nr np I f_m_counts q = I f_m_counts q := fun q hq => by rw [v_rcC0 hq, e1, h2 q hq]
  have e0 : q_st nk nr np (I, J) = s_run q_sp 0 np (q_bws nk np (s_run q_mv 0 np (s_run q_stA 0 np (q_rc nk nr np I))), J) := rfl
  refine ⟨q_rc nk nr np I, hE, hC, ?_⟩
  rw [e0]
  generalize q_rc nk nr np I = M at *
  have e2 : s_run q_stA 0 np M = M := v_runid np 0 (fun q hq => by
    rw [Nat.zero_add]
    have a1 : q_is M q = M f_m_isCalled q := by
      rw [hE f_m_isCalled (by decide), (h3 q hq).1]
      unfold q_is
      rw [hC q hq]
    have a2 : v_sw M q = M f_m_isWanted q := by
      rw [hE f_m_isWanted (by decide), (h3 q hq).2]
      unfold v_sw q_is
      rw [hC q hq, hE f_m_isHeld (by decide)]
    have ek : q_stK q M = M := by
      unfold q_stK
      exact if_neg (fun z => z.1 a1)
    unfold q_stA
    rw [ek]
    unfold q_stB q_stV
    rw [v_upid a1.symm]
    have a3 : bI (decide (q_is M q ≠ 0) || decide (M f_m_isHeld q ≠ 0)) = M f_m_isWanted q := a2
    rw [a3, if_pos rfl]
    exact v_upid rfl)
  have e3 : s_run q_mv 0 np M = M := v_runid np 0 (fun q hq => by
    rw [Nat.zero_add]
    unfold q_mv q_rk
    rw [hE f_m_isWanted (by decide), hE f_m_isOpen (by decide), hE f_mr_delay (by decide), hE f_m_tick (by decide), hE f_m_since (by decide), hE f_mr_rest (by decide), hE f_m_closedSince (by decide), hE f_m_rankOf (by decide)]
    exact (if_neg (h4 q hq).1).trans (if_neg (h4 q hq).2))
  rw [e2, e3]
/-- speech when who speaks does not change -/
theorem v_mute {np : Nat} {M : e_I} {J : e_Jt} (h : ∀ q, q < np → M f_m_speaks q = bI (q_sis M q)) : s_run q_sp 0 np (M, J) = (M, J) := v_runid np 0 (fun q hq => by
  rw [Nat.zero_add]
  have a1 := h q hq
  have b1 : (q_sis M q && decide (M f_m_speaks q = 0)) = false := by rw [a1]; cases q_sis M q <;> decide
  have b2 : (!q_sis M q && decide (M f_m_speaks q ≠ 0)) = false := by rw [a1]; cases q_sis M q <;> decide
  unfold q_sp
  dsimp only
  rw [b1, b2]
  have c1 : M f_m_begun q = M f_m_begun q + bI false := (Int32.add_zero _).symm
  have c2 : J j_m_allBegun 0 = J j_m_allBegun 0 + (if false = true then 1 else 0) := (Int64.add_zero _).symm
  have c3 : J j_m_ended 0 = J j_m_ended 0 + (if false = true then 1 else 0) := (Int64.add_zero _).symm
  rw [v_upid c1, v_upid a1, v_upid c2, v_upid c3])
