/-! 99999999997: playing back, both sides -/
def v_pbC : List Nat := f_now :: f_p_isHeld :: f_recording :: (s_tPK ++ s_tST)
def v_pbM : List Nat := f_m_thrown :: f_m_recording :: q_pT
/-- while playing back; A, B: what stood at first -/
def v_PB (p : e_Sp) (nk nr np n : Nat) (t : Nat → Nat) (s m : Nat) (A B a b : e_I × e_Jt) : Prop := v_B p nk nr np n t s m a b ∧ b.1 f_m_recording 0 = 45 ∧ v_Z5 a.1 b.1 ∧ (s_eqN v_pbC A.1 a.1 ∧ s_eqN v_pbM B.1 b.1) ∧ v_eqJ [j_allEnds] A.2 a.2 ∧ v_eqJ [j_m_allBegun, j_m_ended] B.2 b.2
theorem v_Z5.ticks {p : e_Sp} {nk nr np k : Nat} {a b : e_I × e_Jt} (h : v_Z5 a.1 b.1) : v_Z5 (s_run (s_tick p nk nr) 0 k a).1 (s_run (q_tc nk nr np) 0 k b).1 := by
  have e : s_eqN (f_now :: s_tST) a.1 (s_run (s_tick p nk nr) 0 k a).1 := s_eqN.runP s_eqN.tick _ _ _
  have e' := (v_tcsE (nk := nk) (nr := nr) (np := np) k 0 b).1
  obtain ⟨g1, g2, g3, g4, g5, g6⟩ := h
  refine ⟨?_, ?_, ?_, ?_, ?_, ?_⟩
  · exact s_run_pr (P := fun a : e_I × e_Jt => ∀ F, v_bC.contains F = true → q_bo a.1 F) v_boTick k 0 a g1
  · exact s_run_pr (P := fun b : e_I × e_Jt => ∀ F, v_bM.contains F = true → q_bo b.1 F) v_boTc k 0 b g2
  · unfold v_ch; rw [e _ (by decide)]; exact g3
  · unfold v_ch; rw [e' _ (by decide)]; exact g4
  · unfold v_ch; rw [e _ (by decide)]; exact g5
  · unfold v_ch; rw [e' _ (by decide)]; exact g6
theorem v_Pp.held {p : e_Sp} {I I' : e_I} {np q : Nat} {x : Int32} (h : v_Pp np I I') (hx : x = 0 ∨ x = 1) : v_Pp np (s_up I f_p_isHeld q x) (s_up I' f_m_isHeld q x) := fun i hi => by
  obtain ⟨a, b⟩ := h i hi
  have e : s_eqN [f_p_isHeld] I (s_up I f_p_isHeld q x) := s_eqN.up (by decide)
  have e' : s_eqN [f_m_isHeld] I' (s_up I' f_m_isHeld q x) := s_eqN.up (by decide)
  unfold v_P1
  rw [e f_p_isWanted (by decide), e' f_m_isWanted (by decide), e f_p_changedAt (by decide), e' f_m_since (by decide), e f_p_isOpened (by decide), e' f_m_isOpen (by decide), e f_p_closedAt (by decide), e' f_m_closedSince (by decide), e f_p_fault (by decide), e' f_m_fault (by decide)]
  refine ⟨?_, b⟩
  by_cases c : i = q
  · rw [c, s_up_s, s_up_s]; exact ⟨rfl, hx⟩
  · rw [s_up_i c, s_up_i c]; exact a
/-- none held any more -/
theorem v_hn0 {p : e_Sp} {I I' : e_I} {nr np : Nat} (hS : v_Sh p I I' nr np) {q : Nat} (hq : q < np) : s_hn p nr I f_p_isHeld q = 0 := by
  have e : s_hn p nr I = s_run (fun q I => s_up I f_p_isHeld q 0) 0 np I := v_flatP hS (P := fun _ => True) (gP := s_hnP p) (fun r n a _ _ _ => rfl) (fun _ _ _ => trivial) trivial
  rw [e]
  have key : ∀ n, q < n → s_run (fun q I => s_up I f_p_isHeld q 0) 0 n I f_p_isHeld q = 0 := by
    intro n
    induction n with
    | zero => intro z; omega
    | succ n ih =>
      intro hn
      rw [s_run_l, Nat.zero_add]
      by_cases c : q = n
      · rw [c, s_up_s]
      · rw [s_up_i c]; exact ih (by omega)
  exact key np hq
theorem v_Pp.none {p : e_Sp} {I I' : e_I} {nr np : Nat} (hS : v_Sh p I I' nr np) (h : v_Pp np I I') : v_Pp np (s_hn p nr I) (s_fill I' f_m_isHeld np 0) := fun i hi => by
  obtain ⟨a, b⟩ := h i hi
  have e : s_eqN [f_p_isHeld] I (s_hn p nr I) := s_eqN.hn
  have e' : s_eqN [f_m_isHeld] I' (s_fill I' f_m_isHeld np 0) := s_eqN.fill (by decide)
  unfold v_P1
  rw [e f_p_isWanted (by decide), e' f_m_isWanted (by decide), e f_p_changedAt (by decide), e' f_m_since (by decide), e f_p_isOpened (by decide), e' f_m_isOpen (by decide), e f_p_closedAt (by decide), e' f_m_closedSince (by decide), e f_p_fault (by decide), e' f_m_fault (by decide), v_hn0 hS hi, show s_fill I' f_m_isHeld np 0 f_m_isHeld i = 0 from if_pos ⟨rfl, hi⟩]
  exact ⟨⟨rfl, .inl rfl⟩, b⟩
theorem v_Rh.off {np s m n : Nat} {I' : e_I} (h : I' f_m_recording 0 = 45) : v_Rh np s m n I' := fun z => absurd (h.symm.trans z) (by decide)
theorem v_Rh0.off {np : Nat} {I' : e_I} (h : I' f_m_recording 0 = 45) : v_Rh0 np I' := fun z => absurd (h.symm.trans z) (by decide)
theorem v_n4 {x : Int32} (h : x = 45) : ¬ x = 114 ∧ ¬ x = 107 := by rw [h]; decide
/-- settling while playing back -/
theorem v_PB.st {p : e_Sp} {nk nr np n s m : Nat} {t : Nat → Nat} {A B : e_I × e_Jt} {I I' : e_I} {J J' : e_Jt} (hR : v_Rel p nk nr np n t s m I I' J J') (hK : v_Kt m I I') (h0 : I' f_m_recording 0 = 45) (h5 : v_Z5 I I') (e : s_eqN v_pbC A.1 I) (e' : s_eqN v_pbM B.1 I') (j : v_eqJ [j_allEnds] A.2 J) (j' : v_eqJ [j_m_allBegun, j_m_ended] B.2 J') : v_PB p nk nr np n t s m A B (s_stl p nk nr (I, J)) (q_st nk nr np (I', J')) := by
  obtain ⟨n', t', k1, k2, k3⟩ := v_settleB hR (v_Rh.off h0) hK
  have e1 := k2 (v_n4 h0).1
  subst e1
  have f := q_st_off (nk := nk) (nr := nr) (np := np) (a := (I', J')) (v_n4 h0).1
  refine ⟨k3.ret (fun q hq => ?_), ?_, h5.settle (a := (I, J)) (b := (I', J')), ⟨e.trans ((s_eqN.stl (a := (I, J))).mono (by decide)), e'.trans (f.mono (by decide))⟩, j.trans (v_stlJ (a := (I, J))), j'.trans (v_qstJ (b := (I', J')))⟩
  · rw [f _ (by decide)]
    have ha := hR.2.2.1.2.1
    obtain ⟨_, c2, _, c4⟩ := ha.2.1 q hq
    exact ⟨by have := ha.1.2.2.2.2.2; omega, c4⟩
  · rw [f _ (by decide)]; exact h0
/-- what was kept is played: one entry -/
theorem v_PB.ent {p : e_Sp} {nk nr np n s m i : Nat} {t : Nat → Nat} {A B a b : e_I × e_Jt} {isK : Bool} (h : v_PB p nk nr np n t s m A B a b) (hn : n < 1000000) (hi : i < n) (hk : isK = decide (b.1 f_m_kindKept 0 = 107)) (hm : m + (t i - t (i - 1)) < 1000000000) : v_PB p nk nr np n t s (m + (t i - t (i - 1))) A B (s_pbS p nk nr isK i a) (q_pbS t nk nr np i b) := by
  obtain ⟨hB, h0, h5, ⟨e, e'⟩, j, j'⟩ := h
  have hrd := hB.1.2.2.1.2.1.rd hB.1.1.1 (by omega) hi
  have etb : (s_tb0 a.1 (nI i)).toNatClampNeg = t i - t (i - 1) := by
    rw [hrd.1, nI_clamp (by omega)]
  have eT : s_pbT p nk nr i a = s_run (s_tick p nk nr) 0 (t i - t (i - 1)) a := by unfold s_pbT; rw [etb]
  obtain ⟨n', t', k1, k2, k3⟩ := v_ticks (t i - t (i - 1)) n t m a b 0 hB (v_Rh0.off h0) (fun z => absurd z (v_n4 h0).1) hm
  have e1 := k2 (v_n4 h0).1
  subst e1
  have f := q_tcs_off (nk := nk) (nr := nr) (np := np) (i := 0) (n := t i - t (i - 1)) (a := b) (v_n4 h0).1
  have k4 := k3.ret (t := t) (fun q hq => by
    rw [f _ (by decide)]
    have ha := hB.1.2.2.1.2.1
    obtain ⟨_, c2, _, c4⟩ := ha.2.1 q hq
    exact ⟨by have := ha.1.2.2.2.2.2; omega, c4⟩)
  have z5 := h5.ticks (p := p) (nk := nk) (nr := nr) (np := np) (k := t i - t (i - 1)) (a := a) (b := b)
  have f1 : s_eqN (f_now :: s_tST) a.1 (s_run (s_tick p nk nr) 0 (t i - t (i - 1)) a).1 := s_eqN.runP s_eqN.tick _ _ _
  have g : v_eqJ [j_allEnds] a.2 (s_run (s_tick p nk nr) 0 (t i - t (i - 1)) a).2 := v_eqJ.run v_tickJ _ _ _
  have g' : v_eqJ [j_m_allBegun, j_m_ended] b.2 (s_run (q_tc nk nr np) 0 (t i - t (i - 1)) b).2 := v_eqJ.run (fun i c => v_qstJ (b := (s_up c.1 f_m_tick 0 (c.1 f_m_tick 0 + 1), c.2))) _ _ _
  have e2 := e.trans (f1.mono (by decide))
  have e2' := e'.trans (f.mono (by decide))
  have j2 := j.trans g
  have j2' := j'.trans g'
  have h01 : (s_run (q_tc nk nr np) 0 (t i - t (i - 1)) b).1 f_m_recording 0 = 45 := by rw [f _ (by decide)]; exact h0
  have hk1 : isK = decide ((s_run (q_tc nk nr np) 0 (t i - t (i - 1)) b).1 f_m_kindKept 0 = 107) := by rw [f _ (by decide)]; exact hk
  unfold s_pbS q_pbS q_pbT
  rw [eT]
  clear hrd etb eT k3 f f1 g g' hk h0 h5 hB e e' j j' k2 k1
  generalize s_run (s_tick p nk nr) 0 (t i - t (i - 1)) a = X at *
  generalize s_run (q_tc nk nr np) 0 (t i - t (i - 1)) b = Y at *
  obtain ⟨-, r2, r3⟩ := k4.1.2.2.1.2.1.rd k4.1.1.1 (by omega) hi
  have hon := k4.1.2.2.1.2.1.2.2.2.1 i hi
  unfold s_pbE q_pbE
  rcases r3 with ⟨c, q, hq, eq, ep⟩ | ⟨c, e3, e4, hik⟩
  · have hf : isK = false := by rw [hk1, c]; decide
    rw [hf, if_neg (by decide), if_neg (by rw [c]; decide), ep, r2, eq, nI_clamp (by have := k4.1.1.1.2.1.2; omega)]
    dsimp only
    have eu : s_eqN [f_p_isHeld] X.1 (s_up X.1 f_p_isHeld q (Y.1 f_mt_is i)) := s_eqN.up (by decide)
    have eu' : s_eqN [f_m_isHeld] Y.1 (s_up Y.1 f_m_isHeld q (Y.1 f_mt_is i)) := s_eqN.up (by decide)
    exact v_PB.st (k4.1.rpp eu eu' (by decide) (by decide) (k4.1.2.2.1.1.held (p := p) hon) (k4.1.1.2.2.N eu eu' (by decide) (by decide)) (k4.1.2.2.1.2.1.N eu eu' (by decide) (by decide))) (k4.2.2.2.N eu eu' (by decide) (by decide)) (by rw [eu' _ (by decide)]; exact h01) (z5.frame eu eu' (by decide) (by decide)) (e2.trans (eu.mono (by decide))) (e2'.trans (eu'.mono (by decide))) j2 j2'
  · have hf : isK = true := by rw [hk1, c]; decide
    rw [hf, if_pos rfl, if_pos c, e3, e4, r2]
    obtain ⟨n2, t2, _, g2, g3, g4⟩ := v_prk k4.1 k4.2.2.2 hik hon (fun z => absurd z (v_n4 h01).2)
    have e5 := g2 (v_n4 h01).2
    subst e5
    have eo := q_mdv_off (x := Y.1 f_mt_division i) (y := Y.1 f_mt_at i) (z := Y.1 f_mt_is i) (v_n4 h01).2
    have g5 := g3.ta (g3.2.2.1.2.1.ret (t := t) (fun q hq => by
      rw [eo _ (by decide)]
      have ha := k4.1.2.2.1.2.1
      obtain ⟨_, c2, _, c4⟩ := ha.2.1 q hq
      exact ⟨by have := ha.1.2.2.2.2.2; omega, c4⟩))
    exact v_PB.st g5 g4 (by rw [eo _ (by decide)]; exact h01) (z5.keys s_eqN.prk q_mdv_e ((z5.2.1 f_m_isDown (by decide)).mdv hon)) (e2.trans (s_eqN.prk.mono (by decide))) (e2'.trans (eo.mono (by decide))) j2 j2'
/-- all of it -/
theorem v_PB.all {p : e_Sp} {nk nr np n s m : Nat} {t : Nat → Nat} {A B : e_I × e_Jt} {isK : Bool} (h : v_PB p nk nr np n t s m A B A B) (hn : n < 1000000) (hk : isK = decide (B.1 f_m_kindKept 0 = 107)) (hm : m + 100000 < 1000000000) : ∀ i, i ≤ n → v_PB p nk nr np n t s (m + (t (i - 1) - t 0)) A B (s_run (s_pbS p nk nr isK) 0 i A) (s_run (q_pbS t nk nr np) 0 i B) := by
  have hT := h.1.1.2.2.1.2.1
  have mono : ∀ i, i < n → t 0 ≤ t i := by
    intro i
    induction i with
    | zero => exact fun _ => Nat.le_refl _
    | succ i ih => exact fun hi => Nat.le_trans (ih (by omega)) (hT.2.2.1 i hi)
  intro i
  induction i with
  | zero =>
    intro _
    show v_PB p nk nr np n t s (m + (t (0 - 1) - t 0)) A B A B
    rw [Nat.zero_sub, Nat.sub_self, Nat.add_zero]
    exact h
  | succ i ih =>
    intro hi
    have ih := ih (by omega)
    rw [s_run_l, s_run_l, Nat.zero_add, Nat.add_sub_cancel]
    have hti := mono i (by omega)
    have hti1 := mono (i - 1) (by omega)
    have hst : t (i - 1) ≤ t i := by
      by_cases z : i = 0
      · rw [z]; exact Nat.le_refl _
      · have := hT.2.2.1 (i - 1) (by omega)
        rw [show i - 1 + 1 = i by omega] at this
        exact this
    have hb := (hT.2.1 i (by omega)).2.2.1
    have hs0 := (hT.2.1 0 (by omega)).1
    have key := ih.ent (i := i) (isK := isK) hn (by omega) (by rw [hk, ih.2.2.2.1.2 _ (by decide)]) (by omega)
    rw [show m + (t i - t 0) = m + (t (i - 1) - t 0) + (t i - t (i - 1)) by omega]
    exact key
/-- recording ends -/
theorem a_recOff {p : e_Sp} {nk nr np n s m L : Nat} {t : Nat → Nat} {I I' : e_I} {J J' : e_Jt} (h : v_Sim p nk nr np n t s m L (I, J) (I', J')) : v_Sim p nk nr np n t s m L (s_up I f_recording 0 45, J) (q_pbI I', J') := by
  obtain ⟨⟨hR, hF, hX, hK⟩, z1, z2, z3, z4, z5, z6⟩ := h
  have e : s_eqN [f_recording] I (s_up I f_recording 0 45) := s_eqN.up (by decide)
  have e' : s_eqN [f_m_recording] I' (q_pbI I') := s_eqN.up (by decide)
  have hr : q_pbI I' f_m_recording 0 = 45 := s_up_s
  exact ⟨⟨hR.rrec e e' (by decide) (by decide) (by dsimp only; rw [s_up_s, hr]) (hR.1.2.2.N e e' (by decide) (by decide)) (hR.2.2.1.2.1.N e e' (by decide) (by decide)), hF.N e e' (by decide) (by decide), hX.N e' (by decide), hK.N e e' (by decide) (by decide)⟩, z1.N e e' (by decide) (by decide), z2.N e e' (by decide) (by decide), ⟨.inl hr, by dsimp only; rw [e _ (by decide), e' _ (by decide)]; exact z3.2⟩, z4.N e e' (by decide) (by decide), z5.rec e e' (by decide) (by decide) (show vp_nar .char 45 = 45 by decide) v_up0 v_up0, z6.N e e' (by decide) (by decide) (fun l _ => by dsimp only; rw [e' _ (by decide)]) v_eqJ.rfl' v_eqJ.rfl'⟩
theorem v_Sim.ret {p : e_Sp} {nk nr np n s m L : Nat} {t t' : Nat → Nat} {a b : e_I × e_Jt} (h : v_Sim p nk nr np n t' s m L a b) (ht : ∀ j, j < n → t j < 2147483648 ∧ b.1 f_mt_tick j = nI (t j)) : v_Sim p nk nr np n t s m L a b := ⟨h.1.ret ht, h.2⟩
/-- the start -/
theorem v_pb0 {p : e_Sp} {nk nr np n s m L : Nat} {t : Nat → Nat} {I I' : e_I} {J J' : e_Jt} {isK : Bool} (h : v_Sim p nk nr np n t s m L (I, J) (I', J')) (h0 : 0 < n) (hn : n < 900000) (hL : L ≤ 2000) (hk : isK = decide (I f_tkind 0 = 107)) : v_Sim p nk nr np n t s m L (s_pb0 p nk nr isK I J) (q_pb0 nk nr np I' J') ∧ (q_pb0 nk nr np I' J').1 f_m_recording 0 = 45 ∧ isK = decide ((q_pb0 nk nr np I' J').1 f_m_kindKept 0 = 107) := by
  have hz3 : I f_tkind 0 = I' f_m_kindKept 0 := by
    rcases h.2.2.2.1.2 with z | z
    · omega
    · exact z.1
  have hnp := h.1.1.1.1.2.1.2
  have h1 := a_recOff h
  have r1 : q_pbI I' f_m_recording 0 = 45 := s_up_s
  have rk : q_pbI I' f_m_kindKept 0 = I' f_m_kindKept 0 := s_up_n (by decide)
  unfold s_pb0 q_pb0
  rw [hz3] at hk
  by_cases c : I' f_m_kindKept 0 = 107
  · have hf : isK = true := by rw [hk, c]; decide
    rw [hf, if_pos rfl, if_pos c]
    obtain ⟨n', t', _, k2, k3⟩ := v_keyS h1 (a_lift h1 hL (by omega)).1 hL (by omega)
    have e1 := k2 r1
    subst e1
    have eo : s_eqN [f_m_isDown, f_m_wentDown] (q_pbI I') (q_lf (q_pbI I')).1 := q_lf_off (by rw [r1]; decide)
    have er : (q_lf (q_pbI I')).1 f_m_recording 0 = 45 := by rw [eo _ (by decide)]; exact r1
    generalize (q_lf (q_pbI I')).1 = Z at k3 eo er ⊢
    have eq := q_st_off (nk := nk) (nr := nr) (np := np) (a := (Z, J')) (v_n4 er).1
    have k4 := k3.ret (t := t) (fun q hq => by
      rw [eq _ (by decide)]
      dsimp only
      rw [eo _ (by decide)]
      have ha := h1.1.1.2.2.1.2.1
      obtain ⟨_, c2, _, c4⟩ := ha.2.1 q hq
      exact ⟨by have := ha.1.2.2.2.2.2; omega, c4⟩)
    refine ⟨k4.thrown, ?_, ?_⟩
    · show s_up (q_st nk nr np (Z, J')).1 f_m_thrown 0 0 f_m_recording 0 = 45
      rw [s_up_F (by decide), eq _ (by decide)]
      exact er
    · refine (decide_eq_true (show s_up (q_st nk nr np (Z, J')).1 f_m_thrown 0 0 f_m_kindKept 0 = 107 from ?_)).symm
      rw [s_up_F (by decide), eq _ (by decide)]
      show Z f_m_kindKept 0 = 107
      rw [eo _ (by decide), rk, c]
  · have hf : isK = false := by rw [hk]; exact decide_eq_false c
    rw [hf, if_neg (by decide), if_neg c]
    exact ⟨h1, r1, (decide_eq_false (show ¬ q_pbI I' f_m_kindKept 0 = 107 from by rw [rk]; exact c)).symm⟩
/-- playing back -/
theorem a_playBack {p : e_Sp} {nk nr np n s m L : Nat} {t : Nat → Nat} {I I' : e_I} {J J' : e_Jt} (h : v_Sim p nk nr np n t s m L (I, J) (I', J')) (h0 : 0 < n) (hn : n < 900000) (hL : L ≤ 2000) (hm : m + 100000 < 1000000000) : (∃ m', m' ≤ m + 100000 ∧ v_Sim p nk nr np n t s m' L (s_pb p nk nr n (decide (I f_tkind 0 = 107)) I J) (q_an (q_pb1 nk nr np (s_run (q_pbS t nk nr np) 0 n (q_pb0 nk nr np I' J'))).1, (q_pb1 nk nr np (s_run (q_pbS t nk nr np) 0 n (q_pb0 nk nr np I' J'))).2)) ∧ (s_pb p nk nr n (decide (I f_tkind 0 = 107)) I J).1 f_allBegins 0 - I f_allBegins 0 = ((q_pb1 nk nr np (s_run (q_pbS t nk nr np) 0 n (q_pb0 nk nr np I' J'))).2 j_m_allBegun 0 - J' j_m_allBegun 0).toInt32 := by
  obtain ⟨h1, h2, h3⟩ := v_pb0 (isK := decide (I f_tkind 0 = 107)) h h0 hn hL rfl
  have hc : I f_allBegins 0 = (J' j_m_allBegun 0).toInt32 := h.1.1.2.2.2.2.1
  unfold s_pb s_pb1 q_pb1
  generalize decide (I f_tkind 0 = 107) = isK at *
  generalize s_pb0 p nk nr isK I J = A at *
  generalize q_pb0 nk nr np I' J' = B at *
  have g0 : v_PB p nk nr np n t s m A B A B := ⟨h1.1, h2, h1.2.2.2.2.2.1, ⟨s_eqN.rfl', s_eqN.rfl'⟩, v_eqJ.rfl', v_eqJ.rfl'⟩
  obtain ⟨hB, r, h5, ⟨e, e'⟩, j, j'⟩ := g0.all (by omega) h3 hm n (Nat.le_refl _)
  have hT := h1.1.1.2.2.1.2.1
  have hmm : t (n - 1) - t 0 ≤ 100000 := by
    have a1 := hT.2.1 (n - 1) (by omega)
    have a2 := hT.2.1 0 h0
    omega
  generalize s_run (s_pbS p nk nr isK) 0 n A = X at *
  generalize s_run (q_pbS t nk nr np) 0 n B = Y at *
  have eu : s_eqN [f_p_isHeld] X.1 (s_hn p nr X.1) := s_eqN.hn
  have eu' : s_eqN [f_m_isHeld] Y.1 (s_fill Y.1 f_m_isHeld np 0) := s_eqN.fill (by decide)
  have r1 : s_fill Y.1 f_m_isHeld np 0 f_m_recording 0 = 45 := by rw [eu' _ (by decide)]; exact r
  obtain ⟨f1, f2, f3, ⟨f4, f4'⟩, f5, f6⟩ := v_PB.st (hB.1.rpp eu eu' (by decide) (by decide) (hB.1.2.2.1.1.none hB.1.1.1) (hB.1.1.2.2.N eu eu' (by decide) (by decide)) (hB.1.2.2.1.2.1.N eu eu' (by decide) (by decide))) (hB.2.2.2.N eu eu' (by decide) (by decide)) r1 (h5.frame eu eu' (by decide) (by decide)) (e.trans (eu.mono (by decide))) (e'.trans (eu'.mono (by decide))) j j'
  have hh : ∀ q, q < np → (q_st nk nr np (s_fill Y.1 f_m_isHeld np 0, Y.2)).1 f_m_isHeld q = 0 := fun q hq => by
    rw [q_st_off (a := (s_fill Y.1 f_m_isHeld np 0, Y.2)) (v_n4 r1).1 _ (by decide)]
    exact if_pos ⟨rfl, hq⟩
  generalize s_stl p nk nr (s_hn p nr X.1, X.2) = U at *
  generalize q_st nk nr np (s_fill Y.1 f_m_isHeld np 0, Y.2) = V at *
  refine ⟨⟨m + (t (n - 1) - t 0), by omega, v_Sim.thrown ⟨f1, ?_⟩⟩, ?_⟩
  · obtain ⟨-, ⟨y1, y2, y3, y4, y5, y6, y7⟩, z2, z3, z4, z5, z6⟩ := h1
    exact ⟨⟨fun q hq => by rw [f4 _ (by decide), f4' _ (by decide)]; exact y1 q hq, hh, by rw [f4 _ (by decide), f4' _ (by decide)]; exact y3, y4.N f4 f4' (by decide) (by decide), y5.N f4 f4' (by decide) (by decide), y6.N f4 f4' (by decide) (by decide), y7.N f4 f4' (by decide) (by decide)⟩, z2.N f4 f4' (by decide) (by decide), ⟨.inl f2, by rw [f4 _ (by decide), f4' _ (by decide)]; exact z3.2⟩, z4.N f4 f4' (by decide) (by decide), f3, z6.N f4 f4' (by decide) (by decide) (fun l _ => by rw [f4' _ (by decide)]) f5 f6⟩
  · rw [f1.1.2.2.2.2.1, hc, Int64.toInt32_sub]
