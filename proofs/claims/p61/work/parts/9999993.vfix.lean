/-! 9999993: what is settled stays so (printed by wip/whole/p9999993.py) -/
abbrev v_c1 (I : e_I) (q : Nat) : Prop := I f_m_isWanted q ≠ 0 ∧ I f_m_isOpen q = 0 ∧ I f_mr_delay (q_rk I q) ≤ I f_m_tick 0 - I f_m_since q ∧ I f_mr_rest (q_rk I q) ≤ I f_m_tick 0 - I f_m_closedSince q
abbrev v_c2 (I : e_I) (q : Nat) : Prop := I f_m_isWanted q = 0 ∧ I f_m_isOpen q ≠ 0 ∧ I f_mr_delay (q_rk I q) ≤ I f_m_tick 0 - I f_m_since q
def v_Fix (nk nr np : Nat) (I : e_I) : Prop := (∀ r, r < 16 → I f_m_operation r = 45 ∨ I f_m_isRelay r = bI (q_rv I nk r)) ∧ (∀ q, q < np → I f_m_counts q = v_C I nk nr q) ∧ (∀ q, q < np → I f_m_isCalled q = q_is I q ∧ I f_m_isWanted q = v_sw I q) ∧ (∀ q, q < np → ¬ v_c1 I q ∧ ¬ v_c2 I q) ∧ (np = 0 ∨ ∀ d, d < 3 → I f_m_winds d = v_qv I nk np d) ∧ ∀ q, q < np → I f_m_speaks q = bI (q_sis I q)
def v_FixM : List Nat := [f_m_operation, f_m_first, f_m_second, f_m_isRelay, f_mk_isDrawn, f_m_isDown, f_mk_kind, f_mk_division, f_mk_relay, f_mk_letter, f_m_wentDown, f_m_tick, f_mk_to, f_mk_shift, f_mk_rows, f_mk_froms, f_mk_wires, f_mk_tos, f_mk_ranks, f_mk_offsets, f_mr_lowest, f_mr_highest, f_mr_base, f_m_isTutti, f_mk_stage, f_m_crescendo, f_m_counts, f_m_isCalled, f_m_isHeld, f_m_isWanted, f_m_isOpen, f_mr_delay, f_m_rankOf, f_m_since, f_mr_rest, f_m_closedSince, f_m_fault, f_mr_division, f_mr_wind, f_m_supply, f_m_winds, f_m_speaks]
theorem v_Fix.N {nk nr np : Nat} {T : List Nat} {I I1 : e_I} (h : v_Fix nk nr np I) (e : s_eqN T I I1) (hT : v_dj v_FixM T = true) : v_Fix nk nr np I1 := by
  unfold v_Fix v_c1 v_c2 q_rv q_src q_sis v_sw q_is v_C v_P v_Rw q_so q_pi q_nt q_ip q_pp v_Bc q_tk q_eg q_egs v_qv q_wd q_tr q_trf q_us q_bl q_rk q_ct at h ⊢
  simp only [e f_m_operation (v_dj.o hT (by decide)), e f_m_first (v_dj.o hT (by decide)), e f_m_second (v_dj.o hT (by decide)), e f_m_isRelay (v_dj.o hT (by decide)), e f_mk_isDrawn (v_dj.o hT (by decide)), e f_m_isDown (v_dj.o hT (by decide)), e f_mk_kind (v_dj.o hT (by decide)), e f_mk_division (v_dj.o hT (by decide)), e f_mk_relay (v_dj.o hT (by decide)), e f_mk_letter (v_dj.o hT (by decide)), e f_m_wentDown (v_dj.o hT (by decide)), e f_m_tick (v_dj.o hT (by decide)), e f_mk_to (v_dj.o hT (by decide)), e f_mk_shift (v_dj.o hT (by decide)), e f_mk_rows (v_dj.o hT (by decide)), e f_mk_froms (v_dj.o hT (by decide)), e f_mk_wires (v_dj.o hT (by decide)), e f_mk_tos (v_dj.o hT (by decide)), e f_mk_ranks (v_dj.o hT (by decide)), e f_mk_offsets (v_dj.o hT (by decide)), e f_mr_lowest (v_dj.o hT (by decide)), e f_mr_highest (v_dj.o hT (by decide)), e f_mr_base (v_dj.o hT (by decide)), e f_m_isTutti (v_dj.o hT (by decide)), e f_mk_stage (v_dj.o hT (by decide)), e f_m_crescendo (v_dj.o hT (by decide)), e f_m_counts (v_dj.o hT (by decide)), e f_m_isCalled (v_dj.o hT (by decide)), e f_m_isHeld (v_dj.o hT (by decide)), e f_m_isWanted (v_dj.o hT (by decide)), e f_m_isOpen (v_dj.o hT (by decide)), e f_mr_delay (v_dj.o hT (by decide)), e f_m_rankOf (v_dj.o hT (by decide)), e f_m_since (v_dj.o hT (by decide)), e f_mr_rest (v_dj.o hT (by decide)), e f_m_closedSince (v_dj.o hT (by decide)), e f_m_fault (v_dj.o hT (by decide)), e f_mr_division (v_dj.o hT (by decide)), e f_mr_wind (v_dj.o hT (by decide)), e f_m_supply (v_dj.o hT (by decide)), e f_m_winds (v_dj.o hT (by decide)), e f_m_speaks (v_dj.o hT (by decide))]
  exact h
theorem v_upid {α : Type} {I : Nat → Nat → α} {F i : Nat} {x : α} (h : I F i = x) : s_up I F i x = I := by
  funext F' i'
  unfold s_up
  by_cases c : F' = F ∧ i' = i
  · rw [if_pos c, c.1, c.2, h]
  · rw [if_neg c]
theorem v_runid {α : Type} {f : Nat → α → α} {a : α} : ∀ n i, (∀ j, j < n → f (i + j) a = a) → s_run f i n a = a := by
  intro n
  induction n with
  | zero => intro _ _; rfl
  | succ n ih =>
    intro i h
    show s_run f (i + 1) n (f i a) = a
    rw [show f i a = a from h 0 (by omega)]
    exact ih (i + 1) (fun j hj => by rw [show i + 1 + j = i + (j + 1) by omega]; exact h (j + 1) (by omega))
/-- settling what is settled -/
theorem v_fixA {nk nr np : Nat} {I : e_I} {J : e_Jt} (h : v_Fix nk nr np I) : s_eqN [f_m_counts, f_m_winds] I (q_st nk nr np (I, J)).1 ∧ (q_st nk nr np (I, J)).2 = J ∧ (∀ q, q < np → (q_st nk nr np (I, J)).1 f_m_counts q = I f_m_counts q) ∧ (np = 0 ∨ (q_st nk nr np (I, J)).1 f_m_winds = I f_m_winds) := by
  obtain ⟨h1, h2, h3, h4, h5, h6⟩ := h
  have e1 : q_rel nk I = I := v_runid 16 0 (fun r hr => by
    rw [Nat.zero_add]
    unfold q_rl
    by_cases c : I f_m_operation r = 45
    · rw [if_pos c]
    · rw [if_neg c]
      exact v_upid ((h1 r hr).resolve_left c))
  have hE : s_eqN [f_m_counts] I (q_rc nk nr np I) := by
    have h2 : s_eqN [f_m_counts] (q_rel nk I) (q_rc nk nr np I) := (s_eqN.fill (by decide)).trans (s_eqN.run s_eqN.qrcD _ _ _)
    rw [e1] at h2
    exact h2
  have hC : ∀ q, q < np → q_rc nk nr np I f_m_counts q = I f_m_counts q := fun q hq => by rw [v_rcC0 hq, e1, h2 q hq]
  have e0 : q_st nk nr np (I, J) = s_run q_sp 0 np (q_bws nk np (s_run q_mv 0 np (s_run q_stA 0 np (q_rc nk nr np I))), J) := rfl
  rw [e0]
  generalize q_rc nk nr np I = M at *
  have e2 : s_run q_stA 0 np M = M := v_runid np 0 (fun q hq => by
    rw [Nat.zero_add]
    have a1 : q_is M q = M f_m_isCalled q := by
      rw [hE f_m_isCalled (by decide), (h3 q hq).1]
      unfold q_is
      rw [hC q hq]
    have a2 : v_sw M q = M f_m_isWanted q := by
      rw [hE f_m_isWanted (by decide), (h3 q hq).2]
      unfold v_sw q_is
      rw [hC q hq, hE f_m_isHeld (by decide)]
    have ek : q_stK q M = M := by
      unfold q_stK
      exact if_neg (fun z => z.1 a1)
    unfold q_stA
    rw [ek]
    unfold q_stB q_stV
    rw [v_upid a1.symm]
    have a3 : bI (decide (q_is M q ≠ 0) || decide (M f_m_isHeld q ≠ 0)) = M f_m_isWanted q := a2
    rw [a3, if_pos rfl]
    exact v_upid rfl)
  have e3 : s_run q_mv 0 np M = M := v_runid np 0 (fun q hq => by
    rw [Nat.zero_add]
    unfold q_mv q_rk
    rw [hE f_m_isWanted (by decide), hE f_m_isOpen (by decide), hE f_mr_delay (by decide), hE f_m_tick (by decide), hE f_m_since (by decide), hE f_mr_rest (by decide), hE f_m_closedSince (by decide), hE f_m_rankOf (by decide)]
    exact (if_neg (h4 q hq).1).trans (if_neg (h4 q hq).2))
  have hv : v_qv M nk np = v_qv I nk np := by
    funext d
    have e : q_us M d = q_us I d := by
      funext q u
      unfold q_us q_bl q_rk
      simp only [hE f_m_fault (by decide), hE f_m_isOpen (by decide), hE f_m_rankOf (by decide), hE f_mr_division (by decide), hE f_mr_wind (by decide)]
    unfold v_qv q_wd q_tr q_trf q_ct
    simp only [e, hE f_m_tick (by decide), hE f_mk_kind (by decide), hE f_mk_division (by decide), hE f_mk_isDrawn (by decide), hE f_mk_relay (by decide), hE f_m_isRelay (by decide), hE f_m_supply (by decide)]
  rw [e2, e3]
  rcases h5 with z0 | h5
  · subst z0
    exact ⟨(hE.mono (by decide)).trans (s_eqN.qbws.mono (by decide)), rfl, fun q hq => absurd hq (Nat.not_lt_zero q), .inl rfl⟩
  have e4 : q_bws nk np M = M := v_runid 3 0 (fun d hd => by
    rw [Nat.zero_add]
    show s_up M f_m_winds d (v_qv M nk np d) = M
    refine v_upid ?_
    rw [hv, hE f_m_winds (by decide)]
    exact h5 d hd)
  have e5 : s_run q_sp 0 np (M, J) = (M, J) := v_runid np 0 (fun q hq => by
    rw [Nat.zero_add]
    have a1 : M f_m_speaks q = bI (q_sis M q) := by
      have : q_sis M q = q_sis I q := by
        unfold q_sis q_bl q_rk
        simp only [hE f_m_fault (by decide), hE f_m_isOpen (by decide), hE f_m_rankOf (by decide), hE f_mr_division (by decide), hE f_m_winds (by decide)]
      rw [this, hE f_m_speaks (by decide)]
      exact h6 q hq
    have b1 : (q_sis M q && decide (M f_m_speaks q = 0)) = false := by rw [a1]; cases q_sis M q <;> decide
    have b2 : (!q_sis M q && decide (M f_m_speaks q ≠ 0)) = false := by rw [a1]; cases q_sis M q <;> decide
    unfold q_sp
    dsimp only
    rw [b1, b2]
    have c1 : M f_m_begun q = M f_m_begun q + bI false := (Int32.add_zero _).symm
    have c2 : J j_m_allBegun 0 = J j_m_allBegun 0 + (if false = true then 1 else 0) := (Int64.add_zero _).symm
    have c3 : J j_m_ended 0 = J j_m_ended 0 + (if false = true then 1 else 0) := (Int64.add_zero _).symm
    rw [v_upid c1, v_upid a1, v_upid c2, v_upid c3])
  rw [e4, e5]
  exact ⟨hE.mono (by decide), rfl, hC, .inr (hE _ (by decide))⟩
/-- what is settled -/
theorem v_rlB {nk : Nat} {I : e_I} (hs : v_Rs I) (hq : q_S I) : ∀ r, r < 16 → q_rel nk I f_m_operation r = 45 ∨ q_rel nk I f_m_isRelay r = bI (q_rv (q_rel nk I) nk r) := by
  have hN : ∀ n, s_eqN [f_m_isRelay] I (s_run (q_rl nk) 0 n I) := fun n => s_eqN.run (fun i I => by
    unfold q_rl
    split
    · exact s_eqN.rfl'
    · exact s_eqN.up (by decide)) _ _ _
  have hi : ∀ n i, i ≠ n → ∀ B, q_rl nk n B f_m_isRelay i = B f_m_isRelay i := fun n i h B => by
    unfold q_rl
    split
    · rfl
    · exact s_up_i h
  have hlt : ∀ n i, i < n → ∀ k, s_run (q_rl nk) 0 (n + k) I f_m_isRelay i = s_run (q_rl nk) 0 n I f_m_isRelay i := by
    intro n i h k
    induction k with
    | zero => rfl
    | succ k ih =>
      rw [← Nat.add_assoc, s_run_l, Nat.zero_add, hi _ _ (by omega)]
      exact ih
  intro r hr
  by_cases c : I f_m_operation r = 45
  · left; rw [show q_rel nk I f_m_operation r = I f_m_operation r by rw [show q_rel nk I = s_run (q_rl nk) 0 16 I from rfl, hN 16 _ (by decide)]]; exact c
  · right
    have hR := hN 16
    have hB := hN r
    have e1 : ∀ i, i ≤ r → s_run (q_rl nk) 0 16 I f_m_isRelay i = s_run (q_rl nk) 0 (r + 1) I f_m_isRelay i := fun i h => by
      have := hlt (r + 1) i (by omega) (15 - r)
      rw [show r + 1 + (15 - r) = 16 by omega] at this
      exact this
    have e2 : ∀ i, i < r → s_run (q_rl nk) 0 16 I f_m_isRelay i = s_run (q_rl nk) 0 r I f_m_isRelay i := fun i h => by
      have := hlt r i h (16 - r)
      rw [show r + (16 - r) = 16 by omega] at this
      exact this
    have e3 := e1 r (Nat.le_refl _)
    have e4 : s_run (q_rl nk) 0 (r + 1) I f_m_isRelay r = q_rl nk r (s_run (q_rl nk) 0 r I) f_m_isRelay r := by rw [s_run_l, Nat.zero_add]
    rw [e4] at e3
    show s_run (q_rl nk) 0 16 I f_m_isRelay r = bI (q_rv (s_run (q_rl nk) 0 16 I) nk r)
    rw [e3]
    generalize s_run (q_rl nk) 0 16 I = R at *
    generalize s_run (q_rl nk) 0 r I = B at *
    have hsrc : ∀ x, q_sk x → x < 400 + nI r → q_src B nk x = q_src R nk x := by
      intro x hx h
      unfold q_src
      rw [hB f_mk_isDrawn (by decide), hR f_mk_isDrawn (by decide), hB f_m_isDown (by decide), hR f_m_isDown (by decide)]
      by_cases d1 : x < 100
      · rw [if_pos d1, if_pos d1]
      · rw [if_neg d1, if_neg d1]
        by_cases d2 : x < 400
        · rw [if_pos d2, if_pos d2]
        · rw [if_neg d2, if_neg d2]
          have d3 : x - 400 < nI r := by
            have : 400 ≤ x := Int32.not_lt.mp d2
            have h16 : nI r < 16 := nI_lt (b := 16) hr (by decide)
            have h0 : 0 ≤ nI r := nI_pos' (by omega)
            generalize nI r = u at *
            grind
          obtain ⟨j, hj, ej⟩ := s_nat (x := x - 400) (n := r) (by have : 400 ≤ x := Int32.not_lt.mp d2; have h16 : nI r < 16 := nI_lt (b := 16) hr (by decide); generalize nI r = u at *; grind) d3 (by omega)
          rw [ej, nI_clamp (by omega), e2 j hj]
    unfold q_rl
    rw [hB f_m_operation (by decide), if_neg c, s_up_s]
    congr 1
    unfold q_rv
    rw [hB f_m_operation (by decide), hR f_m_operation (by decide), hB f_m_first (by decide), hR f_m_first (by decide), hB f_m_second (by decide), hR f_m_second (by decide)]
    rw [hsrc _ (hq r hr c).1 (hs r hr c).1]
    by_cases d : I f_m_operation r = 33
    · rw [if_neg (by rw [d]; decide), if_neg (by rw [d]; decide), if_neg (by rw [d]; decide), if_neg (by rw [d]; decide), if_neg (by rw [d]; decide), if_neg (by rw [d]; decide)]
    · rw [hsrc _ ((hq r hr c).2 d) ((hs r hr c).2 d)]
