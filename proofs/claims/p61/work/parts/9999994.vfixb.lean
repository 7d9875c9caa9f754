/-! 9999994: behind settling all is settled (printed by wip/whole/p9999994.py) -/
def v_CM : List Nat := [f_mk_kind, f_mk_division, f_mk_isDrawn, f_mk_relay, f_m_isRelay, f_mk_letter, f_m_isDown, f_m_wentDown, f_m_tick, f_mk_to, f_mk_shift, f_mk_rows, f_mk_froms, f_mk_wires, f_mk_tos, f_mk_ranks, f_mk_offsets, f_mr_lowest, f_mr_highest, f_mr_base, f_m_isTutti, f_mk_stage, f_m_crescendo]
theorem v_C.N {nk nr np : Nat} {T : List Nat} {I I1 : e_I} (e : s_eqN T I I1) (hT : v_dj v_CM T = true) : v_C I1 nk nr = v_C I nk nr := by
  funext q; unfold v_C v_P v_Rw q_so q_pi q_nt q_ip q_pp v_Bc q_tk q_eg q_egs q_ct
  simp only [e f_mk_kind (v_dj.o hT (by decide)), e f_mk_division (v_dj.o hT (by decide)), e f_mk_isDrawn (v_dj.o hT (by decide)), e f_mk_relay (v_dj.o hT (by decide)), e f_m_isRelay (v_dj.o hT (by decide)), e f_mk_letter (v_dj.o hT (by decide)), e f_m_isDown (v_dj.o hT (by decide)), e f_m_wentDown (v_dj.o hT (by decide)), e f_m_tick (v_dj.o hT (by decide)), e f_mk_to (v_dj.o hT (by decide)), e f_mk_shift (v_dj.o hT (by decide)), e f_mk_rows (v_dj.o hT (by decide)), e f_mk_froms (v_dj.o hT (by decide)), e f_mk_wires (v_dj.o hT (by decide)), e f_mk_tos (v_dj.o hT (by decide)), e f_mk_ranks (v_dj.o hT (by decide)), e f_mk_offsets (v_dj.o hT (by decide)), e f_mr_lowest (v_dj.o hT (by decide)), e f_mr_highest (v_dj.o hT (by decide)), e f_mr_base (v_dj.o hT (by decide)), e f_m_isTutti (v_dj.o hT (by decide)), e f_mk_stage (v_dj.o hT (by decide)), e f_m_crescendo (v_dj.o hT (by decide))]
def v_qvM : List Nat := [f_m_tick, f_mk_kind, f_mk_division, f_mk_isDrawn, f_mk_relay, f_m_isRelay, f_m_supply, f_m_fault, f_m_isOpen, f_m_rankOf, f_mr_division, f_mr_wind]
theorem v_qv.N {nk nr np : Nat} {T : List Nat} {I I1 : e_I} (e : s_eqN T I I1) (hT : v_dj v_qvM T = true) : v_qv I1 nk np = v_qv I nk np := by
  have _h := nr; funext d; unfold v_qv q_wd q_tr q_trf q_us q_bl q_rk q_ct
  simp only [e f_m_tick (v_dj.o hT (by decide)), e f_mk_kind (v_dj.o hT (by decide)), e f_mk_division (v_dj.o hT (by decide)), e f_mk_isDrawn (v_dj.o hT (by decide)), e f_mk_relay (v_dj.o hT (by decide)), e f_m_isRelay (v_dj.o hT (by decide)), e f_m_supply (v_dj.o hT (by decide)), e f_m_fault (v_dj.o hT (by decide)), e f_m_isOpen (v_dj.o hT (by decide)), e f_m_rankOf (v_dj.o hT (by decide)), e f_mr_division (v_dj.o hT (by decide)), e f_mr_wind (v_dj.o hT (by decide))]
def v_rvM : List Nat := [f_m_operation, f_m_isRelay, f_m_first, f_m_second, f_mk_isDrawn, f_m_isDown]
theorem v_rv.N {nk nr np : Nat} {T : List Nat} {I I1 : e_I} (e : s_eqN T I I1) (hT : v_dj v_rvM T = true) : q_rv I1 nk = q_rv I nk := by
  have _h := (nr, np); funext r; unfold q_rv q_src
  simp only [e f_m_operation (v_dj.o hT (by decide)), e f_m_isRelay (v_dj.o hT (by decide)), e f_m_first (v_dj.o hT (by decide)), e f_m_second (v_dj.o hT (by decide)), e f_mk_isDrawn (v_dj.o hT (by decide)), e f_m_isDown (v_dj.o hT (by decide))]
def v_sisM : List Nat := [f_m_fault, f_m_isOpen, f_m_rankOf, f_mr_division, f_m_winds]
theorem v_sis.N {nk nr np : Nat} {T : List Nat} {I I1 : e_I} (e : s_eqN T I I1) (hT : v_dj v_sisM T = true) : q_sis I1 = q_sis I := by
  have _h := (nk, nr, np); funext q; unfold q_sis q_bl q_rk
  simp only [e f_m_fault (v_dj.o hT (by decide)), e f_m_isOpen (v_dj.o hT (by decide)), e f_m_rankOf (v_dj.o hT (by decide)), e f_mr_division (v_dj.o hT (by decide)), e f_m_winds (v_dj.o hT (by decide))]
theorem v_spk {b : e_I × e_Jt} : ∀ n q, q < n → (s_run q_sp 0 n b).1 f_m_speaks q = bI (q_sis b.1 q) := by
  intro n
  induction n with
  | zero => intro q hq; omega
  | succ n ih =>
    intro q hq
    have hE' : s_eqN [f_m_begun, f_m_speaks] b.1 (s_run q_sp 0 n b).1 := s_eqN.runP s_eqN.qsp _ _ _
    rw [s_run_l, Nat.zero_add]
    have ihn := ih q
    generalize s_run q_sp 0 n b = B at *
    by_cases e : q = n
    · rw [e]
      unfold q_sp
      dsimp only
      rw [s_up_s, v_sis.N (nk := 0) (nr := 0) (np := 0) hE' (by decide)]
    · have hb : v_at [f_m_speaks, f_m_begun] n B.1 (q_sp n B).1 := v_qspa
      rw [hb _ _ (by decide) e]
      exact ihn (by omega)
theorem v_fixB {nk nr np : Nat} {I : e_I} {J : e_Jt} (hs : v_Rs I) (hq : q_S I) : v_Fix nk nr np (q_st nk nr np (I, J)).1 := by
  have h1 := v_rlB (nk := nk) hs hq
  have e0 : q_st nk nr np (I, J) = s_run q_sp 0 np (q_bws nk np (s_run q_mv 0 np (s_run q_stA 0 np (q_rc nk nr np I))), J) := rfl
  have hR : s_eqN [f_m_counts] (q_rel nk I) (q_rc nk nr np I) := (s_eqN.fill (by decide)).trans (s_eqN.run s_eqN.qrcD _ _ _)
  have hC : ∀ q, q < np → q_rc nk nr np I f_m_counts q = v_C (q_rel nk I) nk nr q := fun q hq => v_rcC0 hq
  rw [e0]
  clear e0
  generalize q_rel nk I = R at *
  generalize q_rc nk nr np I = M at *
  have hA1 : s_eqN (q_bT ++ v_qA) M (s_run q_stA 0 np M) := s_eqN.run v_stAN _ _ _
  have hr2 := v_stAr (I := M) np
  generalize s_run q_stA 0 np M = M1 at *
  have hA2 : s_eqN v_oT M1 (s_run q_mv 0 np M1) := s_eqN.run s_eqN.qmv _ _ _
  have hr3 := v_qmvr (I := M1) np
  generalize s_run q_mv 0 np M1 = M2 at *
  have hA3 : s_eqN [f_m_winds] M2 (q_bws nk np M2) := s_eqN.qbws
  have hw := fun d (hd : d < 3) => v_bws (I := M2) (nk := nk) (np := np) hd
  generalize q_bws nk np M2 = M3 at *
  have hA4 : s_eqN [f_m_begun, f_m_speaks] M3 (s_run q_sp 0 np (M3, J)).1 := s_eqN.runP s_eqN.qsp _ _ (M3, J)
  have hsp := v_spk (b := (M3, J)) np
  generalize s_run q_sp 0 np (M3, J) = Y at *
  have hY2 : s_eqN [f_m_winds, f_m_begun, f_m_speaks] M2 Y.1 := (hA3.mono (by decide)).trans (hA4.mono (by decide))
  have hY1 : s_eqN (v_oT ++ [f_m_winds, f_m_begun, f_m_speaks]) M1 Y.1 := (hA2.mono (by decide)).trans (hY2.mono (by decide))
  have hY0 : s_eqN (q_bT ++ v_qA ++ (v_oT ++ [f_m_winds, f_m_begun, f_m_speaks])) M Y.1 := (hA1.mono (by decide)).trans (hY1.mono (by decide))
  have hYR : s_eqN (f_m_counts :: (q_bT ++ v_qA ++ (v_oT ++ [f_m_winds, f_m_begun, f_m_speaks]))) R Y.1 := (hR.mono (by decide)).trans (hY0.mono (by decide))
  refine ⟨fun r hr => ?_, fun q hq => ?_, fun q hq => ⟨?_, ?_⟩, fun q hq => ?_, .inr (fun d hd => ?_), fun q hq => ?_⟩
  · rw [v_rv.N (nr := nr) (np := np) hYR (by decide), hYR f_m_operation (by decide), hYR f_m_isRelay (by decide)]
    exact h1 r hr
  · rw [v_C.N (np := np) hYR (by decide), hY0 f_m_counts (by decide)]
    exact hC q hq
  · have : q_is Y.1 q = q_is M q := by unfold q_is; rw [hY0 f_m_counts (by decide)]
    rw [this, hY1 f_m_isCalled (by decide), hr2 _ _ (by decide), if_pos hq]
    rfl
  · have : v_sw Y.1 q = v_sw M q := by unfold v_sw q_is; rw [hY0 f_m_counts (by decide), hY0 f_m_isHeld (by decide)]
    rw [this, hY1 f_m_isWanted (by decide), hr2 _ _ (by decide), if_pos hq]
    rfl
  · have a1 := hr3 f_m_isOpen q (by decide)
    have a2 := hr3 f_m_closedSince q (by decide)
    rw [if_pos hq] at a1 a2
    unfold v_c1 v_c2 q_rk
    rw [hY2 f_m_isOpen (by decide), hY2 f_m_closedSince (by decide), a1, a2, hY1 f_m_isWanted (by decide), hY1 f_mr_delay (by decide), hY1 f_m_tick (by decide), hY1 f_m_since (by decide), hY1 f_mr_rest (by decide), hY1 f_m_rankOf (by decide)]
    unfold q_mv q_rk
    by_cases c1 : M1 f_m_isWanted q ≠ 0 ∧ M1 f_m_isOpen q = 0 ∧ M1 f_mr_delay (M1 f_m_rankOf q).toNatClampNeg ≤ M1 f_m_tick 0 - M1 f_m_since q ∧ M1 f_mr_rest (M1 f_m_rankOf q).toNatClampNeg ≤ M1 f_m_tick 0 - M1 f_m_closedSince q
    · rw [if_pos c1, s_up_s]
      exact ⟨fun z => absurd z.2.1 (by decide), fun z => c1.1 z.1⟩
    · rw [if_neg c1]
      by_cases c2 : M1 f_m_isWanted q = 0 ∧ M1 f_m_isOpen q ≠ 0 ∧ M1 f_mr_delay (M1 f_m_rankOf q).toNatClampNeg ≤ M1 f_m_tick 0 - M1 f_m_since q
      · rw [if_pos c2, s_up_F (show f_m_isOpen ≠ f_m_closedSince by decide), s_up_s]
        exact ⟨fun z => z.1 c2.1, fun z => z.2.1 rfl⟩
      · rw [if_neg c2]
        exact ⟨c1, c2⟩
  · rw [v_qv.N (nr := nr) hY2 (by decide), hA4 _ (by decide)]
    exact hw d hd
  · rw [hsp q hq, v_sis.N (nk := 0) (nr := 0) (np := 0) hA4 (by decide)]
