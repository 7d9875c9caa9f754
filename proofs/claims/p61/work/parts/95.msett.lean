/-! 95: the second implementation settles (printed by wip/whole/p95.py) -/
theorem q_cs_s (g : Nat) : q_cs g < q_cs (g + 1) ∧ 10 ≤ q_cs (g + 1) := by
  induction g with
  | zero => show 0 < s_cap 0 ∧ 10 ≤ s_cap 0; unfold s_cap; decide
  | succ g ih =>
    show q_cs (g + 1) < s_cap (q_cs (g + 1)) ∧ 10 ≤ s_cap (q_cs (g + 1))
    unfold s_cap
    split <;> omega
/-- is a pipe called, by the reckoning -/
def q_is (I : e_I) (q : Nat) : Int32 := bI (decide (0 < I f_m_counts q))
def q_stV (q : Nat) (v : Int32) (I : e_I) : e_I := s_up (if v = I f_m_isWanted q then I else s_up I f_m_since q (I f_m_tick 0)) f_m_isWanted q v
def q_stB (q : Nat) (z : Int32) (I : e_I) : e_I := q_stV q (bI (decide (z ≠ 0) || decide (s_up I f_m_isCalled q z f_m_isHeld q ≠ 0))) (s_up I f_m_isCalled q z)
def q_stK (q : Nat) (I : e_I) : e_I := if q_is I q ≠ I f_m_isCalled q ∧ I f_m_recording 0 = 114 then q_ka I (I f_l_size 4).toNatClampNeg (-1) (nI q) (q_is I q) else I
def q_stA (q : Nat) (I : e_I) : e_I := q_stB q (q_is I q) (q_stK q I)
def q_bT : List Nat := [f_m_isCalled, f_m_since, f_m_isWanted]
theorem s_eqN.qstB {q : Nat} {z : Int32} {I : e_I} : s_eqN q_bT I (q_stB q z I) := by
  unfold q_stB q_stV
  refine (s_eqN.up (by decide) : s_eqN q_bT I (s_up I f_m_isCalled q z)).trans (s_eqN.trans ?_ (s_eqN.up (by decide)))
  split
  · exact s_eqN.rfl'
  · exact s_eqN.up (by decide)
def q_aT : List Nat := q_bT ++ q_kT9
theorem q_stA_e (q : Nat) (I : e_I) : q_e q_aT I (q_stA q I) := by
  have h : q_e q_aT I (q_stK q I) := by
    unfold q_stK
    split
    · exact q_ka_e.mono (by decide)
    · exact q_e.rfl'
  exact h.trans (q_e.of s_eqN.qstB (by decide) (by decide))
def q_sis (I : e_I) (q : Nat) : Bool := q_bl I q && decide (0 < I f_m_winds (I f_mr_division (q_rk I q)).toNatClampNeg)
/-- a pipe speaks, or not -/
def q_sp (q : Nat) (a : e_I × e_Jt) : e_I × e_Jt := (s_up (s_up a.1 f_m_begun q (a.1 f_m_begun q + bI (q_sis a.1 q && decide (a.1 f_m_speaks q = 0)))) f_m_speaks q (bI (q_sis a.1 q)),
  s_up (s_up a.2 j_m_allBegun 0 (a.2 j_m_allBegun 0 + if (q_sis a.1 q && decide (a.1 f_m_speaks q = 0)) = true then 1 else 0)) j_m_ended 0 (s_up a.2 j_m_allBegun 0 (a.2 j_m_allBegun 0 + if (q_sis a.1 q && decide (a.1 f_m_speaks q = 0)) = true then 1 else 0) j_m_ended 0 + if (!q_sis a.1 q && decide (a.1 f_m_speaks q ≠ 0)) = true then 1 else 0))
theorem s_eqN.qsp (q : Nat) (a : e_I × e_Jt) : s_eqN [f_m_begun, f_m_speaks] a.1 (q_sp q a).1 := (s_eqN.up (by decide)).trans (s_eqN.up (by decide))
/-- what is done behind each act and at each tick -/
def q_st (nk nr np : Nat) (a : e_I × e_Jt) : e_I × e_Jt := s_run q_sp 0 np (q_bws nk np (s_run q_mv 0 np (s_run q_stA 0 np (q_rc nk nr np a.1))), a.2)
def q_sT : List Nat := [f_m_isRelay, f_m_counts, f_m_isOpen, f_m_closedSince, f_m_winds, f_m_begun, f_m_speaks] ++ q_aT
theorem q_e.run {T : List Nat} {f : Nat → e_I → e_I} (h : ∀ i I, q_e T I (f i I)) (n i : Nat) (I : e_I) : q_e T I (s_run f i n I) := s_run_ind (P := q_e T) (fun _ => q_e.rfl') (fun a b => a.trans b) h n i I
theorem q_st_e0 {nk nr np : Nat} {I : e_I} : q_e (q_sT.erase f_m_isRelay) (q_rc nk nr np I) (q_bws nk np (s_run q_mv 0 np (s_run q_stA 0 np (q_rc nk nr np I)))) := ((q_e.run (fun i I => (q_stA_e i I).mono (by decide)) _ _ _).trans (q_e.of (s_eqN.run s_eqN.qmv _ _ _) (by decide) (by decide))).trans (q_e.of s_eqN.qbws (by decide) (by decide))
theorem q_st_e {nk nr np : Nat} {a : e_I × e_Jt} : q_e q_sT a.1 (q_st nk nr np a).1 := ((q_e.of s_eqN.qrc (by decide) (by decide)).trans (q_st_e0.mono (by decide))).trans (q_e.of (s_eqN.runP s_eqN.qsp _ _ _) (by decide) (by decide))
theorem q_bo.st {nk nr np : Nat} {a : e_I × e_Jt} (h : q_bo a.1 f_m_isRelay) : q_bo (q_st nk nr np a).1 f_m_isRelay := by
  have h1 : q_bo (q_rc nk nr np a.1) f_m_isRelay := (h.rel.eqN (s_eqN.fill (T := [f_m_counts]) (by decide)) (by decide)).eqN (s_eqN.run s_eqN.qrcD _ _ _) (by decide)
  have h2 := h1.eqN (q_st_e0 (nk := nk) (nr := nr) (np := np) (I := a.1)).1 (by decide)
  exact h2.eqN (s_eqN.runP s_eqN.qsp _ _ _) (by decide)
