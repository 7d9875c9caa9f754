/-! 9999992: settling, both sides -/
/-- a relay hears earlier relays alone -/
def v_Rs (I : e_I) : Prop := ∀ r, r < 16 → ¬ I f_m_operation r = 45 → I f_m_first r < 400 + nI r ∧ (¬ I f_m_operation r = 33 → I f_m_second r < 400 + nI r)
def v_Rel (p : e_Sp) (nk nr np n : Nat) (t : Nat → Nat) (s m : Nat) (I I' : e_I) (J J' : e_Jt) : Prop :=
  (v_Sh p I I' nr np ∧ v_Kn I I' nk ∧ v_Ky I I') ∧ (v_eq 16 f_a_relaysOn f_m_isRelay I I' ∧ v_Ro I I' ∧ v_Rz I' ∧ q_S I' ∧ v_Rs I') ∧ (v_Pp np I I' ∧ v_Ta p nr n t s m I I' ∧ I f_recording 0 = I' f_m_recording 0 ∧ v_eq 3 f_a_supplies f_m_supply I I') ∧ (∀ q, q < np → v_S1 I I' q) ∧ v_Cn I J J'
/-- while pipes are recorded none is held -/
def v_Rh (np s m n : Nat) (I' : e_I) : Prop := I' f_m_recording 0 = 114 → I' f_m_kindKept 0 = 114 ∧ m - s ≤ 100000 ∧ n + np ≤ 1000000 ∧ ∀ q, q < np → I' f_m_isHeld q = 0 ∧ I' f_m_isCalled q = I' f_m_isWanted q
/-- what holds behind settling -/
def v_Fin (np : Nat) (I I' : e_I) : Prop := (np = 0 ∨ v_eq 3 f_a_winds f_m_winds I I') ∧ I f_speakers 0 = v_S np (fun q => I' f_m_speaks q) ∧ (I f_isWaiting 0 = 0 → ∀ q, q < np → I' f_m_isOpen q = I' f_m_isWanted q) ∧ (∀ d, d < 3 → I f_a_uses d = s_run (q_us I' d) 0 np 0) ∧ v_eq np f_p_found f_m_counts I I'
theorem v_S1.N {T T' : List Nat} {I I' I1 I1' : e_I} {q : Nat} (h : v_S1 I I' q) (e : s_eqN T I I1) (e' : s_eqN T' I' I1') (hT : v_dj [f_p_isSpeaking, f_p_begins, f_p_ends] T = true) (hT' : v_dj [f_m_speaks, f_m_begun] T' = true) : v_S1 I1 I1' q := by
  unfold v_S1 at h ⊢
  simp only [e f_p_isSpeaking (v_dj.o hT (by decide)), e f_p_begins (v_dj.o hT (by decide)), e f_p_ends (v_dj.o hT (by decide)), e' f_m_speaks (v_dj.o hT' (by decide)), e' f_m_begun (v_dj.o hT' (by decide))]
  exact h
def v_PpC : List Nat := [f_p_isHeld, f_p_isWanted, f_p_changedAt, f_p_isOpened, f_p_closedAt, f_p_fault]
def v_PpM : List Nat := [f_m_isHeld, f_m_isWanted, f_m_since, f_m_isOpen, f_m_closedSince, f_m_fault]
theorem v_Pp.N {T T' : List Nat} {I I' I1 I1' : e_I} {np : Nat} (h : v_Pp np I I') (e : s_eqN T I I1) (e' : s_eqN T' I' I1') (hT : v_dj v_PpC T = true) (hT' : v_dj v_PpM T' = true) : v_Pp np I1 I1' := by
  unfold v_Pp v_P1 at h ⊢
  simp only [e f_p_isHeld (v_dj.o hT (by decide)), e f_p_isWanted (v_dj.o hT (by decide)), e f_p_changedAt (v_dj.o hT (by decide)), e f_p_isOpened (v_dj.o hT (by decide)), e f_p_closedAt (v_dj.o hT (by decide)), e f_p_fault (v_dj.o hT (by decide)), e' f_m_isHeld (v_dj.o hT' (by decide)), e' f_m_isWanted (v_dj.o hT' (by decide)), e' f_m_since (v_dj.o hT' (by decide)), e' f_m_isOpen (v_dj.o hT' (by decide)), e' f_m_closedSince (v_dj.o hT' (by decide)), e' f_m_fault (v_dj.o hT' (by decide))]
  exact h
/-- winds and speech, from pallets on -/
theorem v_tail {p : e_Sp} {nk nr np : Nat} {I I' : e_I} {J J' : e_Jt} (hS : v_Sh p I I' nr np) (hK : v_Kn I I' nk) (hr : v_eq 16 f_a_relaysOn f_m_isRelay I I') (hp : v_Pp np I I') (hn : I f_now 0 = I' f_m_tick 0) (hs : v_eq 3 f_a_supplies f_m_supply I I') (hu : ∀ d, d < 3 → I f_a_uses d = s_run (q_us I' d) 0 np 0) (h1 : ∀ q, q < np → v_S1 I I' q) (hc : v_Cn I J J') : v_eq 3 f_a_winds f_m_winds (s_fsp p nr (s_wds nk I, J)).1 (s_run q_sp 0 np (q_bws nk np I', J')).1 ∧ (s_fsp p nr (s_wds nk I, J)).1 f_speakers 0 = v_S np (fun q => (s_run q_sp 0 np (q_bws nk np I', J')).1 f_m_speaks q) ∧ (∀ q, q < np → v_S1 (s_fsp p nr (s_wds nk I, J)).1 (s_run q_sp 0 np (q_bws nk np I', J')).1 q) ∧ v_Cn (s_fsp p nr (s_wds nk I, J)).1 (s_fsp p nr (s_wds nk I, J)).2 (s_run q_sp 0 np (q_bws nk np I', J')).2 ∧ ∀ q, q < np → (s_run q_sp 0 np (q_bws nk np I', J')).1 f_m_speaks q = bI (q_sis (q_bws nk np I') q) := by
  have hw := v_winds hK hr hn hs hu
  have hE : s_eqN [f_a_winds] I (s_wds nk I) := s_eqN.wds
  have hE' : s_eqN [f_m_winds] I' (q_bws nk np I') := s_eqN.qbws
  have hS1 := hS.N hE hE' (by decide) (by decide)
  have hp1 := hp.N hE hE' (by decide) (by decide)
  have h11 : ∀ q, q < np → v_S1 (s_wds nk I) (q_bws nk np I') q := fun q hq => (h1 q hq).N hE hE' (by decide) (by decide)
  have hc1 : v_Cn (s_wds nk I) J J' := ⟨by rw [hE _ (by decide)]; exact hc.1, hc.2⟩
  generalize s_wds nk I = A at *
  generalize q_bws nk np I' = B at *
  rw [v_fspF hS1]
  have hu : s_eqN [f_speakers] A (s_up A f_speakers 0 0) := s_eqN.up (by decide)
  have hF : s_eqN s_tFS (s_up A f_speakers 0 0) (s_run (v_Sg (q_rk B)) 0 np (s_up A f_speakers 0 0, J)).1 := s_eqN.runP v_SgN _ _ (s_up A f_speakers 0 0, J)
  have hF' : s_eqN [f_m_begun, f_m_speaks] B (s_run q_sp 0 np (B, J')).1 := s_eqN.runP s_eqN.qsp _ _ (B, J')
  obtain ⟨k1, k2, k3, k4⟩ := v_speak (a := (s_up A f_speakers 0 0, J)) (b := (B, J')) (hS1.N hu (s_eqN.rfl' (T := [])) (by decide) (by decide)) (hp1.N hu (s_eqN.rfl' (T := [])) (by decide) (by decide)) (hw.N hu (s_eqN.rfl' (T := [])) (by decide) (by decide)) (fun q hq => (h11 q hq).N hu (s_eqN.rfl' (T := [])) (by decide) (by decide)) ⟨by
    show s_up A f_speakers 0 0 f_allBegins 0 = _
    rw [s_up_F (by decide)]
    exact hc1.1, hc1.2⟩ (show s_up A f_speakers 0 0 f_speakers 0 = 0 from s_up_s) np (Nat.le_refl _)
  exact ⟨hw.N (hu.mono (by decide) |>.trans hF) hF' (by decide) (by decide), k3, k1, k2, k4⟩
/-- settling -/
theorem v_settle {p : e_Sp} {nk nr np n s m : Nat} {t : Nat → Nat} {I I' : e_I} {J J' : e_Jt} (h : v_Rel p nk nr np n t s m I I' J J') (hh : v_Rh np s m n I') : ∃ n' t', n' ≤ n + np ∧ (¬ I' f_m_recording 0 = 114 → n' = n) ∧ v_Rel p nk nr np n' t' s m (s_stl p nk nr (I, J)).1 (q_st nk nr np (I', J')).1 (s_stl p nk nr (I, J)).2 (q_st nk nr np (I', J')).2 ∧ v_Fin np (s_stl p nk nr (I, J)).1 (q_st nk nr np (I', J')).1 := by
  obtain ⟨⟨hS, hK, hy⟩, ⟨hr, ho, hz, hq, hrs⟩, ⟨hp, hT, hrec, hsu⟩, h1, hc⟩ := h
  obtain ⟨r1, r2⟩ := v_set1 hS hK hy hr ho hz hq
  have hE : s_eqN [f_a_relaysOn, f_p_found, f_a_ways] I (s_set1 p nk nr I) := s_eqN.set1
  have hE' : s_eqN [f_m_isRelay, f_m_counts] I' (q_rc nk nr np I') := s_eqN.qrc
  have hz1 : v_Rz (q_rc nk nr np I') := by
    have h2 : s_eqN [f_m_counts] (q_rel nk I') (q_rc nk nr np I') := (s_eqN.fill (by decide)).trans (s_eqN.run s_eqN.qrcD _ _ _)
    have := v_rlz (nk := nk) hz
    intro r hr hh
    rw [h2 _ (by decide)] at hh ⊢
    exact this r hr hh
  have hcnt : ∀ q, q < np → ∃ u, u ≤ 2000000 ∧ q_rc nk nr np I' f_m_counts q = nI u := fun q hq => by
    rw [v_rcC0 hq]
    exact v_cn (hK.N (s_eqN.rel 16) (v_rlN I') (by decide) (by decide) : v_Kn (s_rel I nk 16) (q_rel nk I') nk)
  have e0 : s_stl p nk nr (I, J) = s_fsp p nr (s_wds nk (s_mv p.2.2.2.2 (p.2.2.1 T_PARR) nr (s_set1 p nk nr I)), J) := rfl
  have e0' : q_st nk nr np (I', J') = s_run q_sp 0 np (q_bws nk np (s_run q_mv 0 np (s_run q_stA 0 np (q_rc nk nr np I'))), J') := rfl
  have hS1 := hS.N hE hE' (by decide) (by decide)
  have hK1 := hK.N hE hE' (by decide) (by decide)
  have hy1 := hy.N hE hE' (by decide) (by decide)
  have ho1 := ho.N hE hE' (by decide) (by decide)
  have hp1 := hp.N hE hE' (by decide) (by decide)
  have hT1 := hT.N hE hE' (by decide) (by decide)
  have hrec1 : s_set1 p nk nr I f_recording 0 = q_rc nk nr np I' f_m_recording 0 := by rw [hE _ (by decide), hE' _ (by decide)]; exact hrec
  have hsu1 := hsu.N hE hE' (by decide) (by decide)
  have h11 : ∀ q, q < np → v_S1 (s_set1 p nk nr I) (q_rc nk nr np I') q := fun q hq => (h1 q hq).N hE hE' (by decide) (by decide)
  have hc1 : v_Cn (s_set1 p nk nr I) J J' := ⟨by rw [hE _ (by decide)]; exact hc.1, hc.2⟩
  have hrr : I' f_m_recording 0 = q_rc nk nr np I' f_m_recording 0 := by rw [hE' _ (by decide)]
  have hq1 : q_S (q_rc nk nr np I') ∧ v_Rs (q_rc nk nr np I') := by
    unfold q_S v_Rs
    rw [hE' _ (by decide), hE' _ (by decide), hE' _ (by decide)]
    exact ⟨hq, hrs⟩
  have hh1 : v_Rh np s m n (q_rc nk nr np I') := by
    unfold v_Rh
    rw [hE' _ (by decide), hE' _ (by decide), hE' _ (by decide), hE' _ (by decide), hE' _ (by decide)]
    exact hh
  rw [e0, e0', hrr]
  clear hE hE' hS hK hy ho hp hT hrec hsu h1 hc hh hr hz hq hrs e0 e0' hrr
  generalize s_set1 p nk nr I = A at *
  generalize q_rc nk nr np I' = M at *
  obtain ⟨hq1, hrs1⟩ := hq1
  rw [v_mvF hS1]
  have hw : s_eqN [f_isWaiting, f_a_uses] A (s_fill (s_up A f_isWaiting 0 0) f_a_uses 3 0) := (s_eqN.up (by decide)).trans (s_eqN.fill (by decide))
  have hu0 : ∀ d, d < 3 → s_fill (s_up A f_isWaiting 0 0) f_a_uses 3 0 f_a_uses d = 0 := fun d hd => if_pos ⟨rfl, hd⟩
  have r0 : s_eqN [] M M := s_eqN.rfl'
  have hS2 := hS1.N hw r0 (by decide) (by decide)
  have hK2 := hK1.N hw r0 (by decide) (by decide)
  have hy2 := hy1.N hw r0 (by decide) (by decide)
  have ho2 := ho1.N hw r0 (by decide) (by decide)
  have hp2 := hp1.N hw r0 (by decide) (by decide)
  have hT2 := hT1.N hw r0 (by decide) (by decide)
  have hr2 := r1.N hw r0 (by decide) (by decide)
  have hf2 := r2.N hw r0 (by decide) (by decide)
  have hsu2 := hsu1.N hw r0 (by decide) (by decide)
  have hrec2 : s_fill (s_up A f_isWaiting 0 0) f_a_uses 3 0 f_recording 0 = M f_m_recording 0 := by rw [hw _ (by decide)]; exact hrec1
  have h12 : ∀ q, q < np → v_S1 (s_fill (s_up A f_isWaiting 0 0) f_a_uses 3 0) M q := fun q hq => (h11 q hq).N hw r0 (by decide) (by decide)
  have hc2 : v_Cn (s_fill (s_up A f_isWaiting 0 0) f_a_uses 3 0) J J' := ⟨by rw [hw _ (by decide)]; exact hc1.1, hc1.2⟩
  clear hS1 hK1 hy1 ho1 hp1 hT1 r1 r2 hsu1 hrec1 h11 hc1 hw r0
  generalize s_fill (s_up A f_isWaiting 0 0) f_a_uses 3 0 = S at *
  have hfc : ∀ q, q < np → ∃ u, u ≤ 2000000 ∧ S f_p_found q = nI u ∧ M f_m_counts q = nI u := fun q hq => by
    obtain ⟨u, hu, e⟩ := hcnt q hq
    exact ⟨u, hu, (hf2 q hq).trans e, e⟩
  have hnow := hy2.2.2.1
  have htm : v_Tm M := ⟨m, hT2.1.2.2.2.2.2, hT2.1.2.2.2.1⟩
  have hP := v_pal hS2 hp2 hfc hnow htm
  obtain ⟨n', t', hn', hn0, hTt⟩ := v_tape hS2 hp2 hfc hnow hT2 hrec2 hh1 np (Nat.le_refl _)
  have hG : s_eqN (v_pT ++ v_pA) S (s_run (v_G (q_rk M) p.2.2.2.2) 0 np S) := s_eqN.run v_GN _ _ _
  have hA1 : s_eqN (q_bT ++ v_qA) M (s_run q_stA 0 np M) := s_eqN.run v_stAN _ _ _
  have hA2 : s_eqN v_oT (s_run q_stA 0 np M) (s_run q_mv 0 np (s_run q_stA 0 np M)) := s_eqN.run s_eqN.qmv _ _ _
  have hM : s_eqN (q_bT ++ v_qA ++ v_oT) M (s_run q_mv 0 np (s_run q_stA 0 np M)) := (hA1.mono (by decide)).trans (hA2.mono (by decide))
  have hU : ∀ d, d < 3 → s_run (v_G (q_rk M) p.2.2.2.2) 0 np S f_a_uses d = s_run (q_us (s_run q_mv 0 np (s_run q_stA 0 np M)) d) 0 np 0 := fun d hd => v_use hS2 hd (hu0 d hd) rfl hP hM
  have hW := v_Gwait (rk := q_rk M) (bs := p.2.2.2.2) (I := S) np
  have hTt := hTt.N (s_eqN.rfl' (T := [])) hA2 (by decide) (by decide)
  generalize s_run (v_G (q_rk M) p.2.2.2.2) 0 np S = A2 at *
  generalize s_run q_mv 0 np (s_run q_stA 0 np M) = M2 at *
  have hS3 := hS2.N hG hM (by decide) (by decide)
  have hK3 := hK2.N hG hM (by decide) (by decide)
  have hr3 := hr2.N hG hM (by decide) (by decide)
  have hy3 := hy2.N hG hM (by decide) (by decide)
  have ho3 := ho2.N hG hM (by decide) (by decide)
  have hsu3 := hsu2.N hG hM (by decide) (by decide)
  have hf3 := hf2.N hG hM (by decide) (by decide)
  have hrec3 : A2 f_recording 0 = M2 f_m_recording 0 := by rw [hG _ (by decide), hM _ (by decide)]; exact hrec2
  obtain ⟨w1, w2, w3, w4, w5⟩ := v_tail hS3 hK3 hr3 hP hy3.2.2.1 hsu3 hU (fun q hq => (h12 q hq).N hG hM (by decide) (by decide)) ⟨by rw [hG _ (by decide)]; exact hc2.1, hc2.2⟩
  have hL : s_eqN (f_a_winds :: s_tFS) A2 (s_fsp p nr (s_wds nk A2, J)).1 := (s_eqN.wds.mono (by decide)).trans ((s_eqN.fsp (a := (s_wds nk A2, J))).mono (by decide))
  have hL' : s_eqN [f_m_winds, f_m_begun, f_m_speaks] M2 (s_run q_sp 0 np (q_bws nk np M2, J')).1 := (s_eqN.qbws.mono (by decide)).trans ((s_eqN.runP s_eqN.qsp _ _ (q_bws nk np M2, J')).mono (by decide))
  generalize s_fsp p nr (s_wds nk A2, J) = X at *
  generalize s_run q_sp 0 np (q_bws nk np M2, J') = Y at *
  have hY : s_eqN (q_bT ++ v_qA ++ v_oT ++ [f_m_winds, f_m_begun, f_m_speaks]) M Y.1 := (hM.mono (by decide)).trans (hL'.mono (by decide))
  refine ⟨n', t', hn', fun z => hn0 z, ⟨⟨hS3.N hL hL' (by decide) (by decide), hK3.N hL hL' (by decide) (by decide), hy3.N hL hL' (by decide) (by decide)⟩, ⟨hr3.N hL hL' (by decide) (by decide), ho3.N hL hL' (by decide) (by decide), ?_, ?_, ?_⟩, ⟨hP.N hL hL' (by decide) (by decide), hTt.N hL hL' (by decide) (by decide), ?_, hsu3.N hL hL' (by decide) (by decide)⟩, w3, w4⟩, .inr w1, w2, ?_, ?_, hf3.N hL hL' (by decide) (by decide)⟩
  · unfold v_Rz
    rw [hY _ (by decide), hY _ (by decide)]
    exact hz1
  · unfold q_S
    rw [hY _ (by decide), hY _ (by decide), hY _ (by decide)]
    exact hq1
  · unfold v_Rs
    rw [hY _ (by decide), hY _ (by decide), hY _ (by decide)]
    exact hrs1
  · rw [hL _ (by decide), hL' _ (by decide)]; exact hrec3
  · rw [hL _ (by decide), hL' _ (by decide), hL' _ (by decide)]
    intro z q hq
    rw [← (hP q hq).2.2.2.1.1, ← (hP q hq).2.1.1]
    exact hW z q hq
  · intro d hd
    rw [hL _ (by decide), hU d hd]
    have : q_us Y.1 d = q_us M2 d := by
      funext q u
      unfold q_us q_bl q_rk
      simp only [hL' f_m_fault (by decide), hL' f_m_isOpen (by decide), hL' f_m_rankOf (by decide), hL' f_mr_division (by decide), hL' f_mr_wind (by decide)]
    rw [this]
