/-! 9999999999995: the relation moved from shape to shape, winds of the class alone -/
theorem h_sub {L L' T : List Nat} (h : v_dj L T = true) (hs : (L'.all fun F => L.contains F) = true) : v_dj L' T = true := by
  unfold v_dj at h ⊢
  rw [List.all_eq_true] at h hs ⊢
  intro F hF
  have := hs F hF
  rw [List.contains_iff_mem] at this
  exact h F this
def h_C : List Nat := v_BC ++ (v_Z1C ++ (v_Z2C ++ (v_Z3C ++ (v_Z4C ++ ([f_a_isSet, f_a_frameCounts, f_p_fault, f_recording] ++ v_bC)))))
def h_M : List Nat := v_BMl ++ (v_Z1M ++ (v_Z2M ++ (v_Z3M ++ (v_Z4M ++ ([f_mg_isSet, f_m_fault, f_m_recording] ++ v_bM)))))
def h_JC : List Nat := [j_allEnds, j_a_kept, j_a_drawn, j_a_frameKept, j_a_frameDrawn]
def h_JM : List Nat := [j_m_ended, j_m_allBegun, j_mg_knobs, j_mg_drawn, j_mf_knobs, j_mf_drawn]
theorem v_Z6.mv {I I' I1 I1' : e_I} {J J' J1 J1' : e_Jt} (h : v_Z6 I I' J J') (h1 : I1 f_a_isSet = I f_a_isSet) (h2 : I1 f_a_frameCounts = I f_a_frameCounts) (h3 : I1' f_mg_isSet = I' f_mg_isSet) (hl : ∀ l, 4 ≤ l → I1' f_l_size l = I' f_l_size l) (hj : ∀ F, h_JC.contains F = true → J1 F = J F) (hj' : ∀ F, h_JM.contains F = true → J1' F = J' F) : v_Z6 I1 I1' J1 J1' := by
  obtain ⟨k1, k2, k3⟩ := h
  refine ⟨fun v y hv hy => ?_, fun v x y hv hx hy => ?_, fun g hg => ?_⟩
  · unfold v_Kq
    rw [h1, h3, hj j_a_kept rfl, hj j_a_drawn rfl, hj' j_mg_knobs rfl, hj' j_mg_drawn rfl]
    exact k1 v y hv hy
  · unfold v_Kq
    rw [h1, h3, hj j_a_kept rfl, hj j_a_drawn rfl, hj' j_mg_knobs rfl, hj' j_mg_drawn rfl]
    exact k2 v x y hv hx hy
  · rw [h2, hl (8 + g) (by omega), hj j_a_frameKept rfl, hj j_a_frameDrawn rfl, hj' j_mf_knobs rfl, hj' j_mf_drawn rfl]
    exact k3 g hg
theorem v_Sim.mv {p : e_Sp} {nk nr np n s m L : Nat} {t : Nat → Nat} {I I' I1 I1' : e_I} {J J' J1 J1' : e_Jt} {T T' : List Nat} (h : v_Sim p nk nr np n t s m L (I, J) (I', J')) (e : s_eqN T I I1) (e' : s_eqN T' I' I1') (hT : v_dj h_C T = true) (hT' : v_dj h_M T' = true) (hl : ∀ l, 4 ≤ l → I1' f_l_size l = I' f_l_size l) (hj : ∀ F, h_JC.contains F = true → J1 F = J F) (hj' : ∀ F, h_JM.contains F = true → J1' F = J' F) : v_Sim p nk nr np n t s m L (I1, J1) (I1', J1') := by
  obtain ⟨hB, z1, z2, z3, z4, z5, z6⟩ := h
  exact ⟨hB.N4 e e' (h_sub hT (by decide)) (h_sub hT' (by decide)) (hl 4 (by omega)) (hj _ rfl) (hj' _ rfl) (hj' _ rfl), z1.N e e' (h_sub hT (by decide)) (h_sub hT' (by decide)), z2.N e e' (h_sub hT (by decide)) (h_sub hT' (by decide)), z3.N e e' (h_sub hT (by decide)) (h_sub hT' (by decide)), z4.N e e' (h_sub hT (by decide)) (h_sub hT' (by decide)), z5.frame e e' (h_sub hT (by decide)) (h_sub hT' (by decide)), z6.mv (e _ (v_dj.o hT (by decide))) (e _ (v_dj.o hT (by decide))) (e' _ (v_dj.o hT' (by decide))) hl hj hj'⟩
theorem v_Sim.L {p : e_Sp} {nk nr np n s m L L' : Nat} {t : Nat → Nat} {a b : e_I × e_Jt} (h : v_Sim p nk nr np n t s m L a b) (hL : L ≤ L') : v_Sim p nk nr np n t s m L' a b := by
  obtain ⟨hB, z1, z2, z3, z4⟩ := h
  refine ⟨hB, z1, z2, ⟨z3.1.imp id (fun z => ⟨z.1, z.2.1, z.2.2.1, ?_⟩), z3.2⟩, z4⟩
  have := z.2.2.2
  omega
theorem v_Sim.p {p p' : e_Sp} {nk nr np n s m L : Nat} {t : Nat → Nat} {a b : e_I × e_Jt} (h : v_Sim p nk nr np n t s m L a b) (h1 : p'.2.2.2.2 = p.2.2.2.2) (h2 : p'.2.2.1 T_PARR = p.2.2.1 T_PARR) : v_Sim p' nk nr np n t s m L a b := by
  obtain ⟨⟨⟨⟨r1, r2⟩, r3, ⟨r4, r5, r6⟩, r7⟩, b1⟩, z⟩ := h
  have e1 : v_Sh p' a.1 b.1 nr np = v_Sh p a.1 b.1 nr np := by simp only [v_Sh, v_R, h1, h2]
  have e2 : v_Ta p' nr n t s m a.1 b.1 = v_Ta p nr n t s m a.1 b.1 := by simp only [v_Ta, v_En, h1, h2]
  exact ⟨⟨⟨⟨e1 ▸ r1, r2⟩, r3, ⟨r4, e2 ▸ r5, r6⟩, r7⟩, b1⟩, z⟩
/-- winds that nobody reads -/
theorem v_Sim.bws {p : e_Sp} {nk nr np n s m L : Nat} {t : Nat → Nat} {a : e_I × e_Jt} {I' : e_I} {J' : e_Jt} (h : v_Sim p nk nr np n t s m L a (I', J')) : v_Sim p nk nr np n t s m L a (q_bws nk np I', J') := by
  by_cases hp0 : 0 < np
  · rw [v_bwsid h.1.2.2.1 hp0]; exact h
  obtain rfl : np = 0 := by omega
  obtain ⟨⟨h1, h2, h3, h4⟩, z1, z2, z3, z4, z5, z6⟩ := h
  have hM : s_eqN [f_m_winds] I' (q_bws nk 0 I') := s_eqN.qbws
  have r0 : s_eqN [] a.1 a.1 := s_eqN.rfl'
  refine ⟨⟨h1.re r0 hM (by decide) (by decide) (h1.1.2.2.N r0 hM (by decide) (by decide)) (h1.2.2.1.2.1.N r0 hM (by decide) (by decide)) rfl rfl rfl, ?_, ?_, h4.N r0 hM (by decide) (by decide)⟩, z1.N r0 hM (by decide) (by decide), z2.N r0 hM (by decide) (by decide), z3.N r0 hM (by decide) (by decide), z4.N r0 hM (by decide) (by decide), z5.frame r0 hM (by decide) (by decide), z6.N r0 hM (by decide) (by decide) (fun l _ => by dsimp only; rw [hM _ (by decide)]) v_eqJ.rfl' v_eqJ.rfl'⟩
  · exact ⟨.inl rfl, h2.2.1, fun _ q hq => absurd hq (by omega), h2.2.2.2.1, fun q hq => absurd hq (by omega)⟩
  · refine ⟨fun r hr => ?_, fun q hq => absurd hq (by omega), fun q hq => absurd hq (by omega), fun q hq => absurd hq (by omega), .inl rfl, fun q hq => absurd hq (by omega)⟩
    have := h3.1 r hr
    dsimp only at this ⊢
    rw [v_rv.N (nr := nr) (np := 0) hM (by decide), hM f_m_operation (by decide), hM f_m_isRelay (by decide)]
    exact this
/-- the class' winds are as reckoned -/
def v_Wd (nk : Nat) (I : e_I) : Prop := ∀ d, d < 3 → I f_a_winds d = v_wv I nk d
def v_wdF : List Nat := [f_now, f_k_kind, f_k_division, f_k_isOut, f_k_relay, f_a_relaysOn, f_a_supplies, f_a_uses]
theorem v_wv.N {T : List Nat} {I I1 : e_I} {nk d : Nat} (e : s_eqN T I I1) (hT : v_dj v_wdF T = true) : v_wv I1 nk d = v_wv I nk d := by
  unfold v_wv s_wd0 s_trm s_dr s_ro
  rw [e f_now (v_dj.o hT (by decide)), e f_k_kind (v_dj.o hT (by decide)), e f_k_division (v_dj.o hT (by decide)), e f_k_isOut (v_dj.o hT (by decide)), e f_k_relay (v_dj.o hT (by decide)), e f_a_relaysOn (v_dj.o hT (by decide)), e f_a_supplies (v_dj.o hT (by decide)), e f_a_uses (v_dj.o hT (by decide))]
theorem v_Wd.N {T : List Nat} {I I1 : e_I} {nk : Nat} (h : v_Wd nk I) (e : s_eqN T I I1) (hT : v_dj (f_a_winds :: v_wdF) T = true) : v_Wd nk I1 := fun d hd => by
  rw [v_wv.N e (h_sub hT (by decide)), e f_a_winds (v_dj.o hT (by decide))]; exact h d hd
theorem v_Wd.wds {nk : Nat} {I : e_I} : v_Wd nk (s_wds nk I) := fun d hd => by
  rw [v_wds hd, v_wv.N (T := [f_a_winds]) s_eqN.wds (by decide)]
theorem v_Wd.stl {p : e_Sp} {nk nr : Nat} {a : e_I × e_Jt} : v_Wd nk (s_stl p nk nr a).1 := v_Wd.N (T := s_tFS) v_Wd.wds (s_eqN.fsp (a := (s_set2 p nk nr a.1, a.2))) (by decide)
theorem v_Wd.idl {p : e_Sp} {nk nr : Nat} {a : e_I × e_Jt} : v_Wd nk (s_idl p nk nr a).1 := by
  unfold s_idl
  split
  · exact v_Wd.wds
  · exact v_Wd.N (T := s_tFS) v_Wd.wds (s_eqN.fsp (a := (s_wds nk a.1, a.2))) (by decide)
theorem v_Wd.tick {p : e_Sp} {nk nr i : Nat} {a : e_I × e_Jt} : v_Wd nk (s_tick p nk nr i a).1 := by
  unfold s_tick
  split
  · exact v_Wd.stl
  · exact v_Wd.idl
theorem v_Wd.ticks {p : e_Sp} {nk nr : Nat} {a : e_I × e_Jt} (h : v_Wd nk a.1) : ∀ k i, v_Wd nk (s_run (s_tick p nk nr) i k a).1
  | 0, _ => h
  | k + 1, i => by
    rw [s_run_l]
    exact v_Wd.tick
/-- what 'wind' says -/
theorem v_Wd.ask {p : e_Sp} {nk nr np n s m L d : Nat} {t : Nat → Nat} {I I' : e_I} {J J' : e_Jt} (h : v_Sim p nk nr np n t s m L (I, J) (I', J')) (hW : v_Wd nk I) (hd : d < 3) : I f_a_winds d = q_bws nk np I' f_m_winds d := by
  obtain ⟨⟨⟨r1, r2, r3⟩, ⟨r4, _⟩, ⟨_, _, _, r5⟩, _⟩, f, _⟩ := h.1
  rw [hW d hd, v_bws hd]
  exact v_wd1 r2 r4 r3.2.2.1 (r5 d hd) (f.2.2.2.1 d hd)
