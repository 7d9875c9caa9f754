/-! 999999999999995: calls on both sides: playing back (printed by wip/whole/p999999999999995.py) -/
def h_pbT : List Nat := [f_m_recording, f_m_isHeld, f_m_isDown, f_m_wentDown, f_m_tick, f_m_thrown] ++ q_sT0
/-- while it plays: nothing is recorded -/
def h_pbI (np : Nat) (a b : e_I × e_Jt) : Prop := b.1 f_m_recording 0 = 45 ∧ s_eqN h_pbT a.1 b.1 ∧ (∀ F q, h_frF.contains F = true → np ≤ q → b.1 F q = a.1 F q) ∧ v_eqJ [j_m_allBegun, j_m_ended] a.2 b.2
theorem h_pbI.st {nk nr np : Nat} {a : e_I × e_Jt} {B : e_I} {BJ : e_Jt} (h : h_pbI np a (B, BJ)) : h_pbI np a (q_st nk nr np (B, BJ)) := by
  obtain ⟨h1, h2, h3, h4⟩ := h
  dsimp only at h1 h2 h3 h4
  have e := q_st_off (nk := nk) (nr := nr) (np := np) (a := (B, BJ)) (show ¬ B f_m_recording 0 = 114 by rw [h1]; decide)
  refine ⟨by rw [e _ (by decide)]; exact h1, h2.trans (e.mono (by decide)), fun F q hF hq => ?_, h4.trans v_qstJ⟩
  rw [h_frst hF hq]
  exact h3 F q hF hq
theorem h_pbI.N {np : Nat} {a : e_I × e_Jt} {B B1 : e_I} {BJ : e_Jt} {T : List Nat} (h : h_pbI np a (B, BJ)) (e : s_eqN T B B1) (hT : s_sub T h_pbT = true) (hr : T.contains f_m_recording = false) (hf : v_dj h_frF T = true) : h_pbI np a (B1, BJ) := by
  obtain ⟨h1, h2, h3, h4⟩ := h
  dsimp only at h1 h2 h3 h4
  refine ⟨by show B1 f_m_recording 0 = 45; rw [e _ hr]; exact h1, h2.trans (e.mono hT), fun F q hF hq => ?_, h4⟩
  show B1 F q = _
  rw [e F (v_dj.o hf hF)]
  exact h3 F q hF hq
theorem h_pbI.tc {nk nr np : Nat} {a b : e_I × e_Jt} (i : Nat) (h : h_pbI np a b) : h_pbI np a (q_tc nk nr np i b) := h_pbI.st (h_pbI.N (B := b.1) (BJ := b.2) (T := [f_m_tick]) h (s_eqN.up (by decide)) (by decide) (by decide) (by decide))
theorem h_pbI.tcs {nk nr np : Nat} {a b : e_I × e_Jt} (h : h_pbI np a b) : ∀ k i, h_pbI np a (s_run (q_tc nk nr np) i k b)
  | 0, _ => h
  | k + 1, i => by
    rw [s_run_l]
    exact h_pbI.tc _ (h_pbI.tcs h k i)
theorem h_pbI.held {np q : Nat} {a : e_I × e_Jt} {B : e_I} {BJ : e_Jt} {x : Int32} (h : h_pbI np a (B, BJ)) (hq : q < np) : h_pbI np a (s_up B f_m_isHeld q x, BJ) := by
  obtain ⟨h1, h2, h3, h4⟩ := h
  dsimp only at h1 h2 h3 h4
  have e : s_eqN [f_m_isHeld] B (s_up B f_m_isHeld q x) := s_eqN.up (by decide)
  refine ⟨by show s_up B f_m_isHeld q x f_m_recording 0 = 45; rw [e _ (by decide)]; exact h1, h2.trans (e.mono (by decide)), fun F i hF hi => ?_, h4⟩
  show s_up B f_m_isHeld q x F i = _
  exact (if_neg (fun z => by have := z.2; omega)).trans (h3 F i hF hi)
theorem h_pbI.E {np j : Nat} {a : e_I × e_Jt} {B : e_I} {BJ : e_Jt} (h : h_pbI np a (B, BJ)) (hat : ¬ a.1 f_m_kindKept 0 = 107 → (a.1 f_mt_at j).toNatClampNeg < np) : h_pbI np a (q_pbE j B, BJ) := by
  have h2 := h.2.1
  have h1 := h.1
  dsimp only at h1 h2
  unfold q_pbE
  split
  · exact h.N (q_mdv_off (by rw [h1]; decide)) (by decide) (by decide) (by decide)
  · rename_i c
    refine h.held ?_
    rw [h2 f_m_kindKept (by decide)] at c
    rw [h2 f_mt_at (by decide)]
    exact hat c
theorem h_pbI.S {nk nr np j : Nat} {t : Nat → Nat} {a b : e_I × e_Jt} (h : h_pbI np a b) (hat : ¬ a.1 f_m_kindKept 0 = 107 → (a.1 f_mt_at j).toNatClampNeg < np) : h_pbI np a (q_pbS t nk nr np j b) := h_pbI.st (h_pbI.E (h_pbI.tcs h _ _) hat)
theorem h_pbI.all {nk nr np n : Nat} {t : Nat → Nat} {a b : e_I × e_Jt} (h : h_pbI np a b) (hat : ∀ j, j < n → ¬ a.1 f_m_kindKept 0 = 107 → (a.1 f_mt_at j).toNatClampNeg < np) : ∀ k, k ≤ n → h_pbI np a (s_run (q_pbS t nk nr np) 0 k b)
  | 0, _ => h
  | k + 1, hk => by
    rw [s_run_l, Nat.zero_add]
    exact h_pbI.S (h_pbI.all h hat k (by omega)) (hat k (by omega))
theorem h_pbI.one {nk nr np : Nat} {a b : e_I × e_Jt} (h : h_pbI np a b) : h_pbI np a (q_pb1 nk nr np b) := by
  refine h_pbI.st ?_
  obtain ⟨h1, h2, h3, h4⟩ := h
  have e : s_eqN [f_m_isHeld] b.1 (s_fill b.1 f_m_isHeld np 0) := s_eqN.fill (by decide)
  refine ⟨by show s_fill b.1 f_m_isHeld np 0 f_m_recording 0 = 45; rw [e _ (by decide)]; exact h1, h2.trans (e.mono (by decide)), fun F i hF hi => ?_, h4⟩
  show s_fill b.1 f_m_isHeld np 0 F i = _
  exact (if_neg (fun z => by have := z.2; omega)).trans (h3 F i hF hi)
theorem h_pbI.zero {nk nr np : Nat} {I : e_I} {J : e_Jt} : h_pbI np (I, J) (q_pb0 nk nr np I J) := by
  have h0 : h_pbI np (I, J) (q_pbI I, J) := by
    have e : s_eqN [f_m_recording] I (q_pbI I) := s_eqN.up (by decide)
    refine ⟨by show s_up I f_m_recording 0 45 f_m_recording 0 = 45; exact s_up_s, e.mono (by decide), fun F q hF _ => ?_, v_eqJ.rfl'⟩
    show q_pbI I F q = I F q
    rw [e F (v_dj.o (L := h_frF) (by decide) hF)]
  have h1 : q_pbI I f_m_recording 0 = 45 := s_up_s
  unfold q_pb0
  split
  · exact h_pbI.N (T := [f_m_thrown]) (h_pbI.st (h0.N (q_lf_off (by rw [h1]; decide)) (by decide) (by decide) (by decide))) (s_eqN.up (by decide)) (by decide) (by decide) (by decide)
  · exact h0
def h_pbCT : List Nat := f_p_isHeld :: f_recording :: f_now :: (s_tPK ++ s_tST)
def h_pbC (a b : e_I × e_Jt) : Prop := s_eqN h_pbCT a.1 b.1 ∧ v_eqJ [j_allEnds] a.2 b.2
theorem h_pbC.trans {a b c : e_I × e_Jt} (h : h_pbC a b) (h' : h_pbC b c) : h_pbC a c := ⟨h.1.trans h'.1, h.2.trans h'.2⟩
theorem h_pbC.stl {p : e_Sp} {nk nr : Nat} {a : e_I × e_Jt} : h_pbC a (s_stl p nk nr a) := ⟨s_eqN.stl.mono (by decide), v_stlJ⟩
theorem h_pbC.of {T : List Nat} {I A : e_I} {J : e_Jt} (e : s_eqN T I A) (hT : s_sub T h_pbCT = true) : h_pbC (I, J) (A, J) := ⟨e.mono hT, v_eqJ.rfl'⟩
theorem h_pbC.E {p : e_Sp} {nr i : Nat} {isK : Bool} {I : e_I} {J : e_Jt} : h_pbC (I, J) (s_pbE p nr isK i I, J) := by
  unfold s_pbE
  split
  · exact h_pbC.of s_eqN.prk (by decide)
  · split
    · exact h_pbC.of (T := [f_p_isHeld]) (s_eqN.up (by decide)) (by decide)
    · exact h_pbC.of (T := []) s_eqN.rfl' (by decide)
theorem h_pbC.S {p : e_Sp} {nk nr : Nat} {isK : Bool} (i : Nat) (a : e_I × e_Jt) : h_pbC a (s_pbS p nk nr isK i a) := by
  have h1 : h_pbC a (s_pbT p nk nr i a) := ⟨(s_eqN.runP s_eqN.tick _ _ _).mono (by decide), v_eqJ.run v_tickJ _ _ _⟩
  exact h1.trans ((h_pbC.E (J := (s_pbT p nk nr i a).2)).trans h_pbC.stl)
theorem h_pbC.pb {p : e_Sp} {nk nr z : Nat} {isK : Bool} {I : e_I} {J : e_Jt} : h_pbC (I, J) (s_pb p nk nr z isK I J) := by
  have h0 : h_pbC (I, J) (s_pb0 p nk nr isK I J) := by
    unfold s_pb0
    split
    · exact (h_pbC.of (T := f_recording :: s_tPK) ((s_eqN.up (by decide)).trans (s_eqN.rla.mono (by decide))) (by decide)).trans h_pbC.stl
    · exact h_pbC.of (T := [f_recording]) (s_eqN.up (by decide)) (by decide)
  have h1 : h_pbC (s_pb0 p nk nr isK I J) (s_run (s_pbS p nk nr isK) 0 z (s_pb0 p nk nr isK I J)) := s_run_ind (P := h_pbC) (fun a => ⟨s_eqN.rfl', v_eqJ.rfl'⟩) (fun u v => u.trans v) h_pbC.S z 0 _
  exact h0.trans (h1.trans ((h_pbC.of (J := (s_run (s_pbS p nk nr isK) 0 z (s_pb0 p nk nr isK I J)).2) s_eqN.hn (by decide)).trans h_pbC.stl))
theorem h_Kp {p : e_Sp} {I I' : e_I} {nr np n s m : Nat} {t : Nat → Nat} (hS : v_Sh p I I' nr np) (h : v_Ta p nr n t s m I I') : q_Kp I' t n ∧ ∀ j, j < n → ¬ I' f_m_kindKept 0 = 107 → (I' f_mt_at j).toNatClampNeg < np := by
  obtain ⟨⟨-, -, -, -, h1, h2⟩, h3, h4, h5, h6⟩ := h
  have key : ∀ j, j < n → ¬ I' f_m_kindKept 0 = 107 → ∃ q, q < np ∧ I' f_mt_at j = nI q := fun j hj w => by
    obtain ⟨cd, -, ⟨-, -, r, n', hr, hn', e, -⟩ | ⟨e, -⟩⟩ := h6 j hj
    · exact ⟨_, hS.lt hr hn', e⟩
    · exact absurd e w
  have hnp := hS.2.1.2
  refine ⟨⟨fun j hj => ⟨by have := (h3 j hj).2.1; omega, (h3 j hj).2.2.2⟩, h4, h5, fun w j hj => ?_, fun w j hj => ?_⟩, fun j hj w => ?_⟩
  · obtain ⟨cd, -, ⟨e, -⟩ | ⟨-, e, -⟩⟩ := h6 j hj
    · rw [w] at e; exact absurd e (by decide)
    · exact e
  · obtain ⟨q, hq, e⟩ := key j hj w
    rw [e, nI_clamp (by omega)]
    exact s_ix.nI (by omega) (by omega)
  · obtain ⟨q, hq, e⟩ := key j hj w
    rw [e, nI_clamp (by omega)]
    exact hq
