/-! 9999996: a tick, both sides, the end -/
theorem v_Ta.tk {T T' : List Nat} {I I' I1 I1' : e_I} {p : e_Sp} {nr n s m m' : Nat} {t : Nat → Nat} (h : v_Ta p nr n t s m I I') (e : s_eqN T I I1) (e' : s_eqN T' I' I1') (hT : v_dj v_TaC T = true) (hT' : v_dj [f_l_size, f_mt_division, f_mt_at, f_mt_tick, f_mt_is, f_m_kindKept] T' = true) (h1 : I1' f_m_tick 0 = nI m') (h2 : m ≤ m') (h3 : m' < 1000000000) : v_Ta p nr n t s m' I1 I1' := by
  obtain ⟨⟨a1, a2, a3, a4, a5, a6⟩, b1, b2, b3, b4⟩ := h
  unfold v_Ta v_En at *
  simp only [e f_tsize (v_dj.o hT (by decide)), e f_entries (v_dj.o hT (by decide)), e f_startedAt (v_dj.o hT (by decide)), e f_r_lowest (v_dj.o hT (by decide)), e' f_l_size (v_dj.o hT' (by decide)), e' f_mt_division (v_dj.o hT' (by decide)), e' f_mt_at (v_dj.o hT' (by decide)), e' f_mt_tick (v_dj.o hT' (by decide)), e' f_mt_is (v_dj.o hT' (by decide)), e' f_m_kindKept (v_dj.o hT' (by decide)), h1]
  exact ⟨⟨a1, a2, a3, trivial, by omega, h3⟩, fun j hj => ⟨(b1 j hj).1, by have := (b1 j hj).2.1; omega, (b1 j hj).2.2.1, (b1 j hj).2.2.2⟩, b2, b3, b4⟩
/-- all that stands between calls, as far as playing goes -/
def v_B (p : e_Sp) (nk nr np n : Nat) (t : Nat → Nat) (s m : Nat) (a b : e_I × e_Jt) : Prop := v_Rel p nk nr np n t s m a.1 b.1 a.2 b.2 ∧ v_Fin np a.1 b.1 ∧ v_Fix nk nr np b.1 ∧ v_Kt m a.1 b.1
theorem v_now {p : e_Sp} {nk nr np n s m : Nat} {t : Nat → Nat} {I I' : e_I} {J J' : e_Jt} (h : v_Rel p nk nr np n t s m I I' J J') (hm : m + 1 < 1000000000) : v_Rel p nk nr np n t s (m + 1) (s_now1 I) (s_up I' f_m_tick 0 (I' f_m_tick 0 + 1)) J J' := by
  obtain ⟨⟨hS, hK, hy⟩, ⟨hr, ho, hz, hq, hrs⟩, ⟨hp, hT, hrec, hsu⟩, h1, hc⟩ := h
  have e : s_eqN [f_now] I (s_now1 I) := s_eqN.up (by decide)
  have e' : s_eqN [f_m_tick] I' (s_up I' f_m_tick 0 (I' f_m_tick 0 + 1)) := s_eqN.up (by decide)
  obtain ⟨k1, k2, k3, k4, k5, k6⟩ := hy
  refine ⟨⟨hS.N e e' (by decide) (by decide), hK.N e e' (by decide) (by decide), ⟨k1.N e e' (by decide) (by decide), k2.N e e' (by decide) (by decide), ?_, ?_, ?_, ?_⟩⟩, ⟨hr.N e e' (by decide) (by decide), ho.N e e' (by decide) (by decide), ?_, ?_, ?_⟩, ⟨hp.N e e' (by decide) (by decide), hT.tk e e' (by decide) (by decide) ?_ (Nat.le_succ m) hm, ?_, hsu.N e e' (by decide) (by decide)⟩, fun q hq => (h1 q hq).N e e' (by decide) (by decide), ?_, hc.2⟩
  · unfold s_now1; rw [s_up_s, s_up_s, k3]
  · unfold q_eg q_egs
    rw [e f_a_lowest (by decide), e f_a_highest (by decide), e' f_m_isDown (by decide)]
    exact k4
  · rw [e _ (by decide), e' _ (by decide)]; exact k5
  · rw [e _ (by decide), e' _ (by decide)]; exact k6
  · unfold v_Rz; rw [e' _ (by decide), e' _ (by decide)]; exact hz
  · unfold q_S; rw [e' _ (by decide), e' _ (by decide), e' _ (by decide)]; exact hq
  · unfold v_Rs; rw [e' _ (by decide), e' _ (by decide), e' _ (by decide)]; exact hrs
  · rw [s_up_s, hT.1.2.2.2.1, nI_1]
  · rw [e _ (by decide), e' _ (by decide)]; exact hrec
  · rw [e _ (by decide)]; exact hc.1
theorem v_Rh.N {np s m n : Nat} {T : List Nat} {I I1 : e_I} (h : v_Rh np s m n I) (e : s_eqN T I I1) (hT : v_dj [f_m_recording, f_m_kindKept, f_m_isHeld, f_m_isCalled, f_m_isWanted] T = true) : v_Rh np s m n I1 := by
  unfold v_Rh at h ⊢
  simp only [e f_m_recording (v_dj.o hT (by decide)), e f_m_kindKept (v_dj.o hT (by decide)), e f_m_isHeld (v_dj.o hT (by decide)), e f_m_isCalled (v_dj.o hT (by decide)), e f_m_isWanted (v_dj.o hT (by decide))]
  exact h
theorem v_idle {p : e_Sp} {nk nr np n s m : Nat} {t : Nat → Nat} {I I' : e_I} {J J' : e_Jt} (hR : v_Rel p nk nr np n t s (m + 1) (s_now1 I) (s_up I' f_m_tick 0 (I' f_m_tick 0 + 1)) J J') (hF : v_Fin np I I') (hX : v_Fix nk nr np I') (hK : v_Kt m I I') (htk : I f_now 0 = nI m ∧ I' f_m_tick 0 = nI m) (hm : m + 1 < 1000000000) (hw : I f_isWaiting 0 = 0) (hl : ¬ I f_lastPressedAt 0 = I f_now 0) : v_Rel p nk nr np n t s (m + 1) (s_idl p nk nr (s_now1 I, J)).1 (q_st nk nr np (s_up I' f_m_tick 0 (I' f_m_tick 0 + 1), J')).1 (s_idl p nk nr (s_now1 I, J)).2 (q_st nk nr np (s_up I' f_m_tick 0 (I' f_m_tick 0 + 1), J')).2 ∧ v_Fin np (s_idl p nk nr (s_now1 I, J)).1 (q_st nk nr np (s_up I' f_m_tick 0 (I' f_m_tick 0 + 1), J')).1 := by
  have e : s_eqN [f_now] I (s_now1 I) := s_eqN.up (by decide)
  have e' : s_eqN [f_m_tick] I' (s_up I' f_m_tick 0 (I' f_m_tick 0 + 1)) := s_eqN.up (by decide)
  have et : s_up I' f_m_tick 0 (I' f_m_tick 0 + 1) f_m_tick 0 = nI (m + 1) := by rw [s_up_s, htk.2, nI_1]
  obtain ⟨⟨hS, hKn, hy⟩, ⟨hr, ho, hz, hq, hrs⟩, ⟨hp, hT, hrec, hsu⟩, h1, hc⟩ := hR
  obtain ⟨f1, f2, f3, f4, f5⟩ := hF
  obtain ⟨x1, x2, x3, x4, x5, x6⟩ := hX
  generalize s_now1 I = A at *
  generalize s_up I' f_m_tick 0 (I' f_m_tick 0 + 1) = B at *
  have f3 := f3 hw
  have hoB : ∀ q, q < np → B f_m_isOpen q = B f_m_isWanted q := fun q hq => by rw [e' _ (by decide), e' _ (by decide)]; exact f3 q hq
  obtain ⟨M, hM, hMc, eM⟩ := v_quiet (nk := nk) (nr := nr) (np := np) (I := B) (J := J') (fun r hr => by
    rw [v_rv.N (nr := nr) (np := np) e' (by decide), e' f_m_operation (by decide), e' f_m_isRelay (by decide)]
    exact x1 r hr) (fun q hq => by
    rw [v_Ctk (m := m) e' (fun i hi hd => by
      obtain ⟨w, w1, w2, w3⟩ := hK i hi
      rw [w2, htk.2, et]
      refine ⟨fun z => hl ?_, fun z => ?_⟩
      · have : w = m := (nI_eq (by omega) (by omega)).mp z
        rw [w3 hd this, htk.1]
      · have : w = m + 1 := (nI_eq (by omega) (by omega)).mp z
        omega), e' f_m_counts (by decide)]
    exact x2 q hq) (fun q hq => by
    have a1 : q_is B q = q_is I' q := by unfold q_is; rw [e' f_m_counts (by decide)]
    have a2 : v_sw B q = v_sw I' q := by unfold v_sw; rw [a1, e' f_m_isHeld (by decide)]
    rw [a1, a2, e' f_m_isCalled (by decide), e' f_m_isWanted (by decide)]
    exact x3 q hq) (fun q hq => by
    have := hoB q hq
    exact ⟨fun z => z.1 (by rw [← this]; exact z.2.1), fun z => z.2.1 (by rw [this]; exact z.1)⟩)
  rw [eM]
  have r0 : s_eqN [] A A := s_eqN.rfl'
  have hS1 := hS.N r0 hM (by decide) (by decide)
  have hK1 := hKn.N r0 hM (by decide) (by decide)
  have hy1 := hy.N r0 hM (by decide) (by decide)
  have hr1 := hr.N r0 hM (by decide) (by decide)
  have hp1 := hp.N r0 hM (by decide) (by decide)
  have hsu1 := hsu.N r0 hM (by decide) (by decide)
  have hIM : s_eqN [f_m_tick, f_m_counts] I' M := (e'.mono (by decide)).trans (hM.mono (by decide))
  have hus : ∀ {Y : e_I} {T : List Nat}, s_eqN T I' Y → v_dj [f_m_fault, f_m_isOpen, f_m_rankOf, f_mr_division, f_mr_wind] T = true → ∀ d, q_us Y d = q_us I' d := fun {Y T} h hT d => by
    funext q u
    unfold q_us q_bl q_rk
    simp only [h f_m_fault (v_dj.o hT (by decide)), h f_m_isOpen (v_dj.o hT (by decide)), h f_m_rankOf (v_dj.o hT (by decide)), h f_mr_division (v_dj.o hT (by decide)), h f_mr_wind (v_dj.o hT (by decide))]
  have hu1 : ∀ d, d < 3 → A f_a_uses d = s_run (q_us M d) 0 np 0 := fun d hd => by
    rw [hus hIM (by decide), e f_a_uses (by decide)]; exact f4 d hd
  have h11 : ∀ q, q < np → v_S1 A M q := fun q hq => (h1 q hq).N r0 hM (by decide) (by decide)
  have hwn := v_winds hK1 hr1 hy1.2.2.1 hsu1 hu1
  obtain ⟨w1, w2, w3, w4, w5⟩ := v_tail hS1 hK1 hr1 hp1 hy1.2.2.1 hsu1 hu1 h11 hc
  have hWE : s_eqN [f_a_winds] A (s_wds nk A) := s_eqN.wds
  have hWM : s_eqN [f_m_winds] M (q_bws nk np M) := s_eqN.qbws
  have fin : ∀ (X Y : e_I × e_Jt), s_eqN (f_a_winds :: s_tFS) A X.1 → s_eqN [f_m_counts, f_m_winds, f_m_begun, f_m_speaks] B Y.1 → (∀ q, q < np → Y.1 f_m_counts q = B f_m_counts q) → v_eq 3 f_a_winds f_m_winds X.1 Y.1 → X.1 f_speakers 0 = v_S np (fun q => Y.1 f_m_speaks q) → (∀ q, q < np → v_S1 X.1 Y.1 q) → v_Cn X.1 X.2 Y.2 → v_Rel p nk nr np n t s (m + 1) X.1 Y.1 X.2 Y.2 ∧ v_Fin np X.1 Y.1 := by
    intro X Y g1 g2 g3 g4 g5 g6 g7
    have g8 : s_eqN [f_m_tick, f_m_counts, f_m_winds, f_m_begun, f_m_speaks] I' Y.1 := (e'.mono (by decide)).trans (g2.mono (by decide))
    refine ⟨⟨⟨hS.N g1 g2 (by decide) (by decide), hKn.N g1 g2 (by decide) (by decide), hy.N g1 g2 (by decide) (by decide)⟩, ⟨hr.N g1 g2 (by decide) (by decide), ho.N g1 g2 (by decide) (by decide), ?_, ?_, ?_⟩, ⟨hp.N g1 g2 (by decide) (by decide), hT.N g1 g2 (by decide) (by decide), ?_, hsu.N g1 g2 (by decide) (by decide)⟩, g6, g7⟩, .inr g4, g5, ?_, ?_, ?_⟩
    · unfold v_Rz; rw [g2 _ (by decide), g2 _ (by decide)]; exact hz
    · unfold q_S; rw [g2 _ (by decide), g2 _ (by decide), g2 _ (by decide)]; exact hq
    · unfold v_Rs; rw [g2 _ (by decide), g2 _ (by decide), g2 _ (by decide)]; exact hrs
    · rw [g1 _ (by decide), g2 _ (by decide)]; exact hrec
    · intro _ q hq
      rw [g2 _ (by decide), g2 _ (by decide)]; exact hoB q hq
    · intro d hd
      rw [hus g8 (by decide), g1 _ (by decide), e _ (by decide)]; exact f4 d hd
    · intro q hq
      rw [g3 q hq, g1 _ (by decide), e _ (by decide), e' _ (by decide)]; exact f5 q hq
  have hYc : ∀ (Y : e_I × e_Jt), s_eqN [f_m_begun, f_m_speaks] (q_bws nk np M) Y.1 → s_eqN [f_m_counts, f_m_winds, f_m_begun, f_m_speaks] B Y.1 ∧ ∀ q, q < np → Y.1 f_m_counts q = B f_m_counts q := fun Y h => ⟨(hM.mono (by decide)).trans ((hWM.mono (by decide)).trans (h.mono (by decide))), fun q hq => by rw [h _ (by decide), hWM _ (by decide)]; exact hMc q hq⟩
  unfold s_idl
  by_cases c : s_wl (s_wds nk A) = s_wl A
  · rw [if_pos c]
    have hwl := v_wlE c
    have hspk : ∀ q, q < np → q_bws nk np M f_m_speaks q = bI (q_sis (q_bws nk np M) q) := by
      intro q hq
      rw [hWM _ (by decide), hIM _ (by decide), x6 q hq]
      obtain ⟨r, j, hr, hj, ee, erk⟩ := hS1.ex hq
      obtain ⟨lo, dv, -, -, hdv, -, -, -, -, g1, g2, -⟩ := hS1.2.2 r hr
      have f1 := f1.resolve_left (by omega)
      have x5 := x5.resolve_left (by omega)
      congr 1
      have b1 : q_bl (q_bws nk np M) q = q_bl I' q := by unfold q_bl; rw [hWM _ (by decide), hWM _ (by decide), hIM _ (by decide), hIM _ (by decide)]
      have b2 : q_rk (q_bws nk np M) q = r := by rw [← erk]; unfold q_rk; rw [hWM _ (by decide)]
      have b3 : q_rk I' q = r := by rw [← erk]; unfold q_rk; rw [hIM _ (by decide)]
      have b4 : I' f_mr_division r = nI dv := by rw [← g2, hIM _ (by decide)]
      have b5 : q_bws nk np M f_mr_division r = nI dv := by rw [hWM _ (by decide)]; exact g2
      unfold q_sis
      rw [b1, b2, b3, b4, b5, nI_clamp (by omega), v_bws hdv, x5 dv hdv]
      have c1 : v_qv M nk np dv = 0 ↔ v_qv I' nk np dv = 0 := by
        rw [← v_bws hdv, ← hwn dv hdv, ← x5 dv hdv, ← f1 dv hdv]
        have := hwl dv hdv
        rw [e f_a_winds (by decide)] at this
        exact this
      have c2 : 0 < v_qv M nk np dv ↔ ¬ v_qv M nk np dv = 0 := v_max0 _
      have c3 : 0 < v_qv I' nk np dv ↔ ¬ v_qv I' nk np dv = 0 := v_max0 _
      rw [decide_eq_decide.mpr (c3.trans ((not_congr c1).symm.trans c2.symm))]
    rw [v_mute hspk]
    obtain ⟨y1, y2⟩ := hYc (q_bws nk np M, J') (s_eqN.rfl' (I := q_bws nk np M))
    refine fin (s_wds nk A, J) (q_bws nk np M, J') (hWE.mono (by decide)) y1 y2 hwn ?_ (fun q hq => (h11 q hq).N hWE hWM (by decide) (by decide)) ⟨by
      show s_wds nk A f_allBegins 0 = _
      rw [hWE _ (by decide)]
      exact hc.1, hc.2⟩
    show s_wds nk A f_speakers 0 = v_S np (fun q => q_bws nk np M f_m_speaks q)
    rw [hWE _ (by decide), e _ (by decide), f2, hWM _ (by decide), hIM _ (by decide)]
  · rw [if_neg c]
    obtain ⟨y1, y2⟩ := hYc (s_run q_sp 0 np (q_bws nk np M, J')) (s_eqN.runP s_eqN.qsp _ _ (q_bws nk np M, J'))
    exact fin (s_fsp p nr (s_wds nk A, J)) (s_run q_sp 0 np (q_bws nk np M, J')) ((hWE.mono (by decide)).trans ((s_eqN.fsp (a := (s_wds nk A, J))).mono (by decide))) y1 y2 w1 w2 w3 w4
/-- a tick -/
theorem v_tick {p : e_Sp} {nk nr np n s m : Nat} {t : Nat → Nat} {a b : e_I × e_Jt} (h : v_B p nk nr np n t s m a b) (hh : v_Rh np s (m + 1) n b.1) (hm : m + 1 < 1000000000) (i : Nat) : ∃ n' t', n' ≤ n + np ∧ (¬ b.1 f_m_recording 0 = 114 → n' = n) ∧ v_B p nk nr np n' t' s (m + 1) (s_tick p nk nr i a) (q_tc nk nr np i b) := by
  obtain ⟨hR, hF, hX, hK⟩ := h
  have hR1 := v_now hR hm
  have htk : a.1 f_now 0 = nI m ∧ b.1 f_m_tick 0 = nI m := ⟨hR.1.2.2.2.2.1.trans hR.2.2.1.2.1.1.2.2.2.1, hR.2.2.1.2.1.1.2.2.2.1⟩
  have e' : s_eqN [f_m_tick] b.1 (s_up b.1 f_m_tick 0 (b.1 f_m_tick 0 + 1)) := s_eqN.up (by decide)
  have hq : q_S (s_up b.1 f_m_tick 0 (b.1 f_m_tick 0 + 1)) := hR1.2.1.2.2.2.1
  have hrs : v_Rs (s_up b.1 f_m_tick 0 (b.1 f_m_tick 0 + 1)) := hR1.2.1.2.2.2.2
  have hFix : v_Fix nk nr np (q_tc nk nr np i b).1 := v_fixB hrs hq
  have hKt : v_Kt (m + 1) (s_tick p nk nr i a).1 (q_tc nk nr np i b).1 := by
    have g1 : s_eqN (f_now :: s_tST) a.1 (s_tick p nk nr i a).1 := s_eqN.tick i a
    have g2 : s_eqN (f_m_tick :: f_l_size :: q_sT) b.1 (q_tc nk nr np i b).1 := (e'.mono (by decide)).trans ((q_st_e (a := (s_up b.1 f_m_tick 0 (b.1 f_m_tick 0 + 1), b.2))).1.mono (by decide))
    exact (hK.N g1 g2 (by decide) (by decide)).up (Nat.lt_succ_self m)
  have hn1 : s_now1 a.1 f_now 0 - 1 = a.1 f_now 0 := by
    unfold s_now1
    rw [s_up_s]
    grind
  by_cases c : ¬ s_now1 a.1 f_isWaiting 0 = 0 ∨ s_now1 a.1 f_lastPressedAt 0 = s_now1 a.1 f_now 0 - 1
  · obtain ⟨n', t', k1, k2, k3, k4⟩ := v_settle hR1 (hh.N e' (by decide))
    have e1 : s_tick p nk nr i a = s_stl p nk nr (s_now1 a.1, a.2) := if_pos c
    refine ⟨n', t', k1, fun z => k2 (by rw [e' _ (by decide)]; exact z), ?_, ?_, hFix, hKt⟩
    · rw [e1]; exact k3
    · rw [e1]; exact k4
  · have e1 : s_tick p nk nr i a = s_idl p nk nr (s_now1 a.1, a.2) := if_neg c
    have c1 : a.1 f_isWaiting 0 = 0 := by
      apply Decidable.byContradiction
      intro z
      exact c (.inl (by unfold s_now1; rw [s_up_F (by decide)]; exact z))
    have c2 : ¬ a.1 f_lastPressedAt 0 = a.1 f_now 0 := by
      intro z
      refine c (.inr ?_)
      rw [hn1]
      unfold s_now1
      rw [s_up_F (by decide)]
      exact z
    obtain ⟨k3, k4⟩ := v_idle hR1 hF hX hK htk hm c1 c2
    refine ⟨n, t, by omega, fun _ => rfl, ?_, ?_, hFix, hKt⟩
    · rw [e1]; exact k3
    · rw [e1]; exact k4
