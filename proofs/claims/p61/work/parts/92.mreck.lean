/-! 92: reckoning, winds, pallets (printed by wip/whole/p92.py) -/
def q_rcC (nk nr d k c : Nat) (I : e_I) : e_I := if I f_mk_kind c = 99 ∧ I f_mk_division c = nI d ∧ q_ct I c = true ∧ q_tk I c (nI k) = true ∧ s_isk (I f_mk_to c) (nI k + I f_mk_shift c) then q_pl nk nr (I f_mk_to c) (nI k + I f_mk_shift c) I else I
def q_rcK (nk nr d k : Nat) (I : e_I) : e_I := if I f_m_isDown (s_kn (nI d) (nI k)) = 0 then I else s_run (q_rcC nk nr d k) 0 nk (if q_ct I d = true then I else q_pl nk nr (nI d) (nI k) I)
def q_rcD (nk nr d : Nat) (I : e_I) : e_I := s_run (q_rcK nk nr d) 0 (s_kcn (nI d)) I
/-- reckons -/
def q_rc (nk nr np : Nat) (I : e_I) : e_I := s_run (q_rcD nk nr) 0 3 (s_fill (q_rel nk I) f_m_counts np 0)
theorem s_eqN.qrcC {nk nr d k : Nat} (c : Nat) (I : e_I) : s_eqN [f_m_counts] I (q_rcC nk nr d k c I) := by
  unfold q_rcC
  split
  · exact s_eqN.qpl
  · exact s_eqN.rfl'
theorem s_eqN.qrcK {nk nr d : Nat} (k : Nat) (I : e_I) : s_eqN [f_m_counts] I (q_rcK nk nr d k I) := by
  unfold q_rcK
  split
  · exact s_eqN.rfl'
  · split
    · exact s_eqN.run s_eqN.qrcC _ _ _
    · exact s_eqN.qpl.trans (s_eqN.run s_eqN.qrcC _ _ _)
theorem s_eqN.qrcD {nk nr : Nat} (d : Nat) (I : e_I) : s_eqN [f_m_counts] I (q_rcD nk nr d I) := s_eqN.run s_eqN.qrcK _ _ _
theorem s_eqN.qrc {nk nr np : Nat} {I : e_I} : s_eqN [f_m_isRelay, f_m_counts] I (q_rc nk nr np I) := ((s_eqN.qrel.mono (by decide)).trans (s_eqN.fill (by decide))).trans ((s_eqN.run s_eqN.qrcD _ _ _).mono (by decide))
/-- what blows -/
def q_bl (I : e_I) (q : Nat) : Bool := decide (I f_m_fault q ≠ 100) && (decide (I f_m_isOpen q ≠ 0) || decide (I f_m_fault q = 99))
def q_rk (I : e_I) (q : Nat) : Nat := (I f_m_rankOf q).toNatClampNeg
def q_us (I : e_I) (d q : Nat) (u : Int32) : Int32 := u + (if q_bl I q = true ∧ I f_mr_division (q_rk I q) = nI d then I f_mr_wind (q_rk I q) else 0)
def q_trf (I : e_I) (x : Int32) (k : Nat) : Bool := decide (I f_mk_kind k = 116) && (decide (I f_mk_division k = x) && q_ct I k)
def q_tr (I : e_I) (nk : Nat) (x : Int32) : Bool := s_ex nk (q_trf I x) && decide (1 < I f_m_tick 0 - I f_m_tick 0 / 4 * 4)
def q_wd (I : e_I) (nk d : Nat) (u : Int32) : Int32 := s_max 0 (100 - (s_max 0 (u - I f_m_supply d) + 1) / 2 - (if q_tr I nk (nI d) = true then 10 else 0))
def q_bw (nk np d : Nat) (I : e_I) : e_I := s_up I f_m_winds d (q_wd I nk d (s_run (q_us I d) 0 np 0))
def q_bws (nk np : Nat) (I : e_I) : e_I := s_run (q_bw nk np) 0 3 I
theorem s_eqN.qbws {nk np : Nat} {I : e_I} : s_eqN [f_m_winds] I (q_bws nk np I) := s_eqN.run (fun _ _ => s_eqN.up (by decide)) _ _ _
/-- a pallet moves -/
def q_mv (q : Nat) (I : e_I) : e_I := if I f_m_isWanted q ≠ 0 ∧ I f_m_isOpen q = 0 ∧ I f_mr_delay (q_rk I q) ≤ I f_m_tick 0 - I f_m_since q ∧ I f_mr_rest (q_rk I q) ≤ I f_m_tick 0 - I f_m_closedSince q then s_up I f_m_isOpen q 1 else if I f_m_isWanted q = 0 ∧ I f_m_isOpen q ≠ 0 ∧ I f_mr_delay (q_rk I q) ≤ I f_m_tick 0 - I f_m_since q then s_up (s_up I f_m_isOpen q 0) f_m_closedSince q (I f_m_tick 0) else I
theorem s_eqN.qmv (q : Nat) (I : e_I) : s_eqN [f_m_isOpen, f_m_closedSince] I (q_mv q I) := by
  unfold q_mv
  split
  · exact s_eqN.up (by decide)
  · split
    · exact (s_eqN.up (by decide)).trans (s_eqN.up (by decide))
    · exact s_eqN.rfl'
