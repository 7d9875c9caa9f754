/-! 99999991: all that stands beside each other between calls -/
def v_Zs (nk np s m n L : Nat) (a b : e_I × e_Jt) : Prop := v_Z1 nk np a.1 b.1 ∧ v_Z2 nk a.1 b.1 ∧ v_Z3 s m n L a.1 b.1 ∧ v_Z4 a.1 b.1 ∧ v_Z5 a.1 b.1 ∧ v_Z6 a.1 b.1 a.2 b.2
def v_Sim (p : e_Sp) (nk nr np n : Nat) (t : Nat → Nat) (s m L : Nat) (a b : e_I × e_Jt) : Prop := v_B p nk nr np n t s m a b ∧ v_Zs nk np s m n L a b
theorem v_stlJ {p : e_Sp} {nk nr : Nat} {a : e_I × e_Jt} : v_eqJ [j_allEnds] a.2 (s_stl p nk nr a).2 := by
  show v_eqJ [j_allEnds] a.2 (s_fsp p nr (s_set2 p nk nr a.1, a.2)).2
  unfold s_fsp s_fsR
  refine v_eqJ.run (fun r b => v_eqJ.run (fun n b => ?_) _ _ _) _ _ (s_up (s_set2 p nk nr a.1) f_speakers 0 0, a.2)
  unfold s_fsP s_fsE s_fsB
  split
  · exact v_eqJ.rfl'
  · split
    · exact v_eqJ.up (by decide)
    · exact v_eqJ.rfl'
theorem v_qstJ {nk nr np : Nat} {b : e_I × e_Jt} : v_eqJ [j_m_allBegun, j_m_ended] b.2 (q_st nk nr np b).2 := v_eqJ.run v_qspJ _ _ (q_bws nk np (s_run q_mv 0 np (s_run q_stA 0 np (q_rc nk nr np b.1))), b.2)
theorem v_qsl {nk nr np : Nat} {b : e_I × e_Jt} : ∀ l, 8 ≤ l → (q_st nk nr np b).1 f_l_size l = b.1 f_l_size l := fun l hl => q_st_e.2 l (by omega)
theorem v_Z5.frame {T T' : List Nat} {I I' I1 I1' : e_I} (h : v_Z5 I I') (e : s_eqN T I I1) (e' : s_eqN T' I' I1') (hT : v_dj (f_p_fault :: f_recording :: v_bC) T = true) (hT' : v_dj (f_m_fault :: f_m_recording :: v_bM) T' = true) : v_Z5 I1 I1' := by
  obtain ⟨h1, h2, h3, h4, h5, h6⟩ := h
  refine ⟨fun F hF => v_bo_eq (h1 F hF) (e F (v_dj.o hT (by rw [List.contains_cons, List.contains_cons, hF, Bool.or_true, Bool.or_true]))), fun F hF => v_bo_eq (h2 F hF) (e' F (v_dj.o hT' (by rw [List.contains_cons, List.contains_cons, hF, Bool.or_true, Bool.or_true]))), ?_, ?_, ?_, ?_⟩
  · unfold v_ch; rw [e _ (v_dj.o hT (by decide))]; exact h3
  · unfold v_ch; rw [e' _ (v_dj.o hT' (by decide))]; exact h4
  · unfold v_ch; rw [e _ (v_dj.o hT (by decide))]; exact h5
  · unfold v_ch; rw [e' _ (v_dj.o hT' (by decide))]; exact h6
theorem v_Z5.settle {p : e_Sp} {nk nr nk' nr' np : Nat} {a b : e_I × e_Jt} (h : v_Z5 a.1 b.1) : v_Z5 (s_stl p nk nr a).1 (q_st nk' nr' np b).1 := by
  obtain ⟨h1, h2, h3, h4, h5, h6⟩ := h
  have e : s_eqN s_tST a.1 (s_stl p nk nr a).1 := s_eqN.stl
  have e' := (q_st_e (nk := nk') (nr := nr') (np := np) (a := b)).1
  refine ⟨v_boStl h1, v_boSt h2, ?_, ?_, ?_, ?_⟩
  · unfold v_ch; rw [e _ (by decide)]; exact h3
  · unfold v_ch; rw [e' _ (by decide)]; exact h4
  · unfold v_ch; rw [e _ (by decide)]; exact h5
  · unfold v_ch; rw [e' _ (by decide)]; exact h6
theorem v_Z5.one {nk nr np : Nat} {a b : e_I × e_Jt} (h : v_Z5 a.1 b.1) : v_Z5 a.1 (q_st nk nr np b).1 := by
  obtain ⟨h1, h2, h3, h4, h5, h6⟩ := h
  have e' := (q_st_e (nk := nk) (nr := nr) (np := np) (a := b)).1
  refine ⟨h1, v_boSt h2, h3, ?_, h5, ?_⟩
  · unfold v_ch; rw [e' _ (by decide)]; exact h4
  · unfold v_ch; rw [e' _ (by decide)]; exact h6
theorem v_Z3.n {s m n n' L : Nat} {I I' : e_I} (h : v_Z3 s m n L I I') (hn : ¬ I' f_m_recording 0 = 114 → n' = n) : v_Z3 s m n' L I I' := by
  refine ⟨h.1, ?_⟩
  by_cases c : I' f_m_recording 0 = 114
  · rcases h.1 with z | ⟨z, z1, z2, z3⟩
    · rw [c] at z; exact absurd z (by decide)
    · exact .inr ⟨by rw [z2, z1], by rw [z1]; exact z⟩
  · rw [hn c]; exact h.2
theorem v_Zs.settle {p : e_Sp} {nk nr nk' nr' np np' s m n n' L : Nat} {a b : e_I × e_Jt} (h : v_Zs nk np s m n L a b) (hn : ¬ b.1 f_m_recording 0 = 114 → n' = n) : v_Zs nk np s m n' L (s_stl p nk' nr a) (q_st nk' nr' np' b) := by
  obtain ⟨h1, h2, h3, h4, h5, h6⟩ := h
  have e : s_eqN s_tST a.1 (s_stl p nk' nr a).1 := s_eqN.stl
  have e' := (q_st_e (nk := nk') (nr := nr') (np := np') (a := b)).1
  exact ⟨h1.N e e' (by decide) (by decide), h2.N e e' (by decide) (by decide), (h3.n hn).N e e' (by decide) (by decide), h4.N e e' (by decide) (by decide), h5.settle, h6.N e e' (by decide) (by decide) v_qsl v_stlJ v_qstJ⟩
theorem v_Zs.one {nk nk' nr' np np' s m n L : Nat} {a b : e_I × e_Jt} (h : v_Zs nk np s m n L a b) : v_Zs nk np s m n L a (q_st nk' nr' np' b) := by
  obtain ⟨h1, h2, h3, h4, h5, h6⟩ := h
  have e : s_eqN [] a.1 a.1 := s_eqN.rfl'
  have e' := (q_st_e (nk := nk') (nr := nr') (np := np') (a := b)).1
  exact ⟨h1.N e e' (by decide) (by decide), h2.N e e' (by decide) (by decide), h3.N e e' (by decide) (by decide), h4.N e e' (by decide) (by decide), h5.one, h6.N e e' (by decide) (by decide) v_qsl v_eqJ.rfl' v_qstJ⟩
/-- what is called is wanted -/
def v_Cw (np : Nat) (I' : e_I) : Prop := ∀ q, q < np → I' f_m_isCalled q = I' f_m_isWanted q
theorem v_Cw.of {nk nr np : Nat} {I : e_I} (hX : v_Fix nk nr np I) (h0 : ∀ q, q < np → I f_m_isHeld q = 0) : v_Cw np I := fun q hq => by
  obtain ⟨a, b⟩ := hX.2.2.1 q hq
  rw [a, b]
  unfold v_sw q_is
  rw [h0 q hq]
  by_cases c : 0 < I f_m_counts q
  · simp [c, bI]
  · simp [c, bI]
theorem v_Cw.N {np : Nat} {T : List Nat} {I I1 : e_I} (h : v_Cw np I) (e : s_eqN T I I1) (hT : v_dj [f_m_isCalled, f_m_isWanted] T = true) : v_Cw np I1 := fun q hq => by
  rw [e _ (v_dj.o hT (by decide)), e _ (v_dj.o hT (by decide))]; exact h q hq
theorem v_Zs.rh {nk np s m n n1 L : Nat} {a b : e_I × e_Jt} (h : v_Zs nk np s m n L a b) (hc : v_Cw np b.1) (hL : L ≤ 2000) (hn : n1 + np ≤ 1000000) : v_Rh np s m n1 b.1 := fun z => by
  rcases h.2.2.1.1 with w | ⟨w, w1, w2, w3⟩
  · rw [z] at w; exact absurd w (by decide)
  · exact ⟨w1.trans z, by omega, hn, fun q hq => ⟨h.1.2.1 q hq, hc q hq⟩⟩
/-- an act on both sides that settles -/
theorem v_settleS {p : e_Sp} {nk nr np n s m L : Nat} {t : Nat → Nat} {I I' : e_I} {J J' : e_Jt} (h : v_Rel p nk nr np n t s m I I' J J') (hK : v_Kt m I I') (hZ : v_Zs nk np s m n L (I, J) (I', J')) (hc : v_Cw np I') (hL : L ≤ 2000) (hn : n + np ≤ 1000000) : ∃ n' t', n' ≤ n + np ∧ (¬ I' f_m_recording 0 = 114 → n' = n) ∧ v_Sim p nk nr np n' t' s m L (s_stl p nk nr (I, J)) (q_st nk nr np (I', J')) := by
  obtain ⟨n', t', k1, k2, k3⟩ := v_settleB h (hZ.rh hc hL hn) hK
  exact ⟨n', t', k1, k2, k3, hZ.settle k2⟩
/-- an act after which one side alone settles -/
theorem v_quietS {p : e_Sp} {nk nr np n s m L : Nat} {t : Nat → Nat} {I I' I1 I1' : e_I} {J J' J1 J1' : e_Jt} {T T' : List Nat} (h : v_B p nk nr np n t s m (I, J) (I', J')) (e : s_eqN T I I1) (e' : s_eqN T' I' I1') (hT : v_dj v_BC T = true) (hT' : v_dj v_BM T' = true) (hj : J1 j_allEnds = J j_allEnds) (hj1 : J1' j_m_ended = J' j_m_ended) (hj2 : J1' j_m_allBegun = J' j_m_allBegun) (hZ : v_Zs nk np s m n L (I1, J1) (I1', J1')) : v_Sim p nk nr np n t s m L (I1, J1) (q_st nk nr np (I1', J1')) := ⟨(h.N e e' hT hT' hj hj1 hj2).settled, hZ.one⟩
/-- thrown: a number nobody reads -/
theorem v_Sim.thrown {p : e_Sp} {nk nr np n s m L : Nat} {t : Nat → Nat} {a b : e_I × e_Jt} {x : Int32} (h : v_Sim p nk nr np n t s m L a b) : v_Sim p nk nr np n t s m L a (s_up b.1 f_m_thrown 0 x, b.2) := by
  obtain ⟨hB, h1, h2, h3, h4, h5, h6⟩ := h
  have e : s_eqN [] a.1 a.1 := s_eqN.rfl'
  have e' : s_eqN [f_m_thrown] b.1 (s_up b.1 f_m_thrown 0 x) := s_eqN.up (by decide)
  exact ⟨hB.N e e' (by decide) (by decide) rfl rfl rfl, h1.N e e' (by decide) (by decide), h2.N e e' (by decide) (by decide), h3.N e e' (by decide) (by decide), h4.N e e' (by decide) (by decide), h5.frame e e' (by decide) (by decide), h6.N e e' (by decide) (by decide) (fun l _ => by
    show s_up b.1 f_m_thrown 0 x f_l_size l = _
    exact s_up_F (by decide)) v_eqJ.rfl' v_eqJ.rfl'⟩
