/-! 9999999999994: a knob adds nothing; ticks, keys -/
theorem v_rows4 {I I' : e_I} {nk c : Nat} (hKn : v_Kn I I' nk) (hc : c < nk) (hs : I' f_mk_kind c = 115) : (I' f_mk_rows c).toNatClampNeg ≤ 4 := by
  obtain ⟨⟨ek, -⟩, -, -, d⟩ := hKn.2 c hc
  rw [ek] at d
  rcases d with ⟨_, w, _⟩ | ⟨_, w, _⟩ | ⟨_, _, hst⟩ | ⟨_, w⟩
  · rw [hs] at w; exact absurd w (by decide)
  · rw [hs] at w; exact absurd w (by decide)
  · obtain ⟨_, ⟨m, hm, _, e2, _⟩, _⟩ := hst
    rw [e2, nI_clamp (by omega)]; exact hm
  · rw [hs] at w; exact absurd w (by decide)
theorem a_knob0 {p : e_Sp} {nk nr np n n' s s' m m' L L' : Nat} {t t' : Nat → Nat} {I : e_I} {J : e_Jt} {a' : e_I × e_Jt} {I' : e_I} {J' J1 : e_Jt} {kd x z s9 t9 : Int32} (h : v_Sim p nk nr np n t s m L (I, J) (I', J')) (h' : v_Sim p (nk + 1) nr np n' t' s' m' L' a' (q_st (nk + 1) nr np (s_adI (q_nk I' nk kd x z s9 t9) 3 nk, J1))) (hno : ¬ I' f_m_recording 0 = 114 → n' = n) (hn : n + 1280 < 2147483648) (hn' : n' < 2147483648) : n' = n := by
  have hX := h.1.2.2.1
  have hKn := h.1.1.1.2.1
  dsimp only at hX hKn
  have hk40 := hKn.1
  have e1 : s_eqN q_kF I' (q_nk I' nk kd x z s9 t9) := fun F hF => q_nk_F hF
  have e2 : s_eqN [f_l_modCount, f_l_size] (q_nk I' nk kd x z s9 t9) (s_adI (q_nk I' nk kd x z s9 t9) 3 nk) := v_adN
  have e : s_eqN (f_l_modCount :: f_l_size :: q_kF) I' (s_adI (q_nk I' nk kd x z s9 t9) 3 nk) := (e1.mono (by decide)).trans (e2.mono (by decide))
  have ag : ∀ c, c < nk → v_ag v_mF1 v_mF4 v_mF61 c I' (s_adI (q_nk I' nk kd x z s9 t9) 3 nk) := fun c hc => (v_nkag (by omega)).trans (v_ag.off e2 (by decide) (by decide) (by decide))
  obtain ⟨-, -, -, -, -, w6, w7, w8, w9, w10, w11⟩ := v_nkv (I := I') (j := nk) (x := kd) (y := x) (z := z) (s := s9) (t := t9)
  have d0 : s_adI (q_nk I' nk kd x z s9 t9) 3 nk f_mk_isDrawn nk = 0 := by rw [e2 _ (by decide)]; exact w6
  have d1 : s_adI (q_nk I' nk kd x z s9 t9) 3 nk f_mk_rows nk = 0 := by rw [e2 _ (by decide)]; exact w9
  have d2 : s_adI (q_nk I' nk kd x z s9 t9) 3 nk f_mk_relay nk = -1 := by rw [e2 _ (by decide)]; exact w11
  have hsz : s_adI (q_nk I' nk kd x z s9 t9) 3 nk f_l_size 4 = I' f_l_size 4 := by
    unfold s_adI
    rw [s_up_i (by decide), s_up_F (by decide), e1 _ (by decide)]
  generalize s_adI (q_nk I' nk kd x z s9 t9) 3 nk = M at *
  have hct : ∀ c, c < nk → q_ct M c = q_ct I' c := by
    intro c hc
    unfold q_ct
    rw [(ag c hc).1 f_mk_isDrawn (by decide), (ag c hc).1 f_mk_relay (by decide), e f_m_isRelay (by decide)]
  have hso : ∀ c, c < nk → q_so M c = q_so I' c := by
    intro c hc
    unfold q_so
    rw [hct c hc, (ag c hc).1 f_mk_stage (by decide), e f_m_isTutti (by decide), e f_m_crescendo (by decide)]
  have hctn : q_ct M nk = false := by
    unfold q_ct
    rw [d0, d2]; rfl
  have ipE : q_ip M nr = q_ip I' nr := by
    funext u v
    unfold q_ip
    rw [e f_mr_lowest (by decide), e f_mr_highest (by decide)]
  have piE : q_pi M = q_pi I' := by
    funext u v
    unfold q_pi q_pp
    rw [e f_mr_lowest (by decide), e f_mr_base (by decide)]
  have hRw : ∀ c, c < nk → I' f_mk_kind c = 115 → ∀ b, b < 61 → ∀ q, v_Rw M nr c (nI b) q = v_Rw I' nr c (nI b) q := by
    intro c hc hs b hb q
    have g4 := v_rows4 hKn hc hs
    have gb : (nI b).toNatClampNeg = b := nI_clamp (by omega)
    unfold v_Rw q_nt
    rw [(ag c hc).1 f_mk_rows (by decide), gb, (ag c hc).2.2 f_mk_wires (by decide) b hb, ipE, piE]
    refine v_S_congr (fun i hi => ?_)
    rw [(ag c hc).2.1 f_mk_froms (by decide) i (by omega), (ag c hc).2.1 f_mk_tos (by decide) i (by omega), (ag c hc).2.1 f_mk_ranks (by decide) i (by omega), (ag c hc).2.1 f_mk_offsets (by decide) i (by omega)]
  have hP : ∀ q y b, b < 61 → v_P M (nk + 1) nr y (nI b) q = v_P I' nk nr y (nI b) q := by
    intro q y b hb
    unfold v_P
    rw [v_S_last (n := nk) (by
      have z : v_Rw M nr nk (nI b) q = 0 := by
        unfold v_Rw
        rw [d1]; rfl
      rw [z]
      split <;> rfl)]
    refine v_S_congr (fun c hc => ?_)
    rw [(ag c hc).1 f_mk_kind (by decide), (ag c hc).1 f_mk_division (by decide), hso c hc]
    by_cases w : I' f_mk_kind c = 115 ∧ I' f_mk_division c = y ∧ q_so I' c = true
    · rw [if_pos w, if_pos w, hRw c hc w.1 b hb q]
    · rw [if_neg w, if_neg w]
  have hB : ∀ d n c, c < nk → (v_Bc M d n c ↔ v_Bc I' d n c) := by
    intro d n c hc
    have g1 : q_tk M c (nI n) = q_tk I' c (nI n) := by
      unfold q_tk q_eg q_egs
      rw [(ag c hc).1 f_mk_letter (by decide), (ag c hc).1 f_mk_division (by decide), e f_m_isDown (by decide), e f_m_wentDown (by decide), e f_m_tick (by decide)]
    unfold v_Bc
    rw [(ag c hc).1 f_mk_kind (by decide), (ag c hc).1 f_mk_division (by decide), hct c hc, g1, (ag c hc).1 f_mk_to (by decide), (ag c hc).1 f_mk_shift (by decide)]
  have hN : ∀ d n c, nk ≤ c → c < nk + 1 → ¬ v_Bc M d n c := by
    intro d n c h1 h2 w
    have : c = nk := by omega
    subst this
    rw [w.2.2.1] at hctn
    cases hctn
  have hC : ∀ q, v_C M (nk + 1) nr q = v_C I' nk nr q := fun q => v_C_of (Nat.le_succ _) (e _ (by decide)) (fun d hd => hct d (by omega)) (hP q) (fun c hc => ⟨(ag c hc).1 _ (by decide), (ag c hc).1 _ (by decide)⟩) hB hN
  have hsrc : ∀ y, q_src M (nk + 1) y = q_src I' nk y := by
    intro y
    unfold q_src
    rw [e f_m_isDown (by decide), e f_m_isRelay (by decide)]
    by_cases c : y < 100
    · rw [if_pos c, if_pos c]
      by_cases g : 0 ≤ y ∧ y < nI (nk + 1)
      · obtain ⟨j, hj, rfl⟩ := s_nat g.1 g.2 (by omega)
        rw [decide_eq_true g, nI_clamp (by omega)]
        by_cases g2 : j = nk
        · rw [g2, d0, decide_eq_false (show ¬ ((0 : Int32) ≤ nI nk ∧ nI nk < nI nk) from fun w => Int32.lt_irrefl w.2)]
          rfl
        · rw [decide_eq_true (show (0 : Int32) ≤ nI j ∧ nI j < nI nk from ⟨nI_pos' (by omega), nI_lt (by omega) (by omega)⟩), (ag j (by omega)).1 f_mk_isDrawn (by decide)]
      · rw [decide_eq_false g, decide_eq_false (show ¬ (0 ≤ y ∧ y < nI nk) from fun w => g ⟨w.1, Int32.lt_trans w.2 (nI_lt (by omega) (by omega))⟩), Bool.false_and, Bool.false_and]
    · rw [if_neg c, if_neg c]
  have hrv : ∀ r, q_rv M (nk + 1) r = q_rv I' nk r := by
    intro r
    unfold q_rv
    rw [hsrc, hsrc, e f_m_operation (by decide), e f_m_first (by decide), e f_m_second (by decide)]
  refine h.neq h' (fun q hq => v_tg0 hX hq (fun r hr => ?_) ?_) hsz (fun w => hno (by rw [e _ (by decide)] at w; exact w)) hn hn'
  · rw [hrv, e f_m_operation (by decide), e f_m_isRelay (by decide)]
    exact hX.1 r hr
  · rw [e _ (by decide), hC, (hX.2.2.1 q hq).1]
    unfold q_is
    rw [hX.2.1 q hq]
/-- a tick adds what settling adds -/
theorem v_tick1 {p : e_Sp} {nk nr np n n1 s m L : Nat} {t t1 : Nat → Nat} {a b a1 : e_I × e_Jt} (h : v_Sim p nk nr np n t s m L a b) (h1 : v_B p nk nr np n1 t1 s (m + 1) a1 (q_tc nk nr np 0 b)) (hno : ¬ b.1 f_m_recording 0 = 114 → n1 = n) (hn : n + 1280 < 2147483648) (hn' : n1 < 2147483648) : n1 ≤ n + v_Bd nr (v_Wn b.1 nk) := by
  have e : s_eqN [f_m_tick] b.1 (s_up b.1 f_m_tick 0 (b.1 f_m_tick 0 + 1)) := s_eqN.up (by decide)
  by_cases c : b.1 f_m_recording 0 = 114
  · have hw : v_wr (s_up b.1 f_m_tick 0 (b.1 f_m_tick 0 + 1)) nk := (v_Kn.wr h.1.1.1.2.1).N e (by decide)
    have b1 := v_tgB (I' := b.1) (J' := b.2) h e (by decide) hw
    have h12 := h.1.1.1.1.2.1.2
    have e0 : b.1 f_l_size 4 = nI n := h.1.1.2.2.1.2.1.1.2.1
    have e1 := v_addsS (nk := nk) (nr := nr) (np := np) (n := n) (I := s_up b.1 f_m_tick 0 (b.1 f_m_tick 0 + 1)) (J := b.2) (by rw [e _ (by decide)]; exact e0) (by omega) (by rw [e _ (by decide)]; exact c)
    have e2 : (q_tc nk nr np 0 b).1 f_l_size 4 = nI n1 := h1.1.2.2.1.2.1.1.2.1
    have b2 : v_Bd nr (v_Wn b.1 nk) ≤ 1280 := Nat.min_le_left _ _
    have := (nI_eq (by omega) (by omega)).mp (e1.symm.trans e2)
    omega
  · rw [hno c]; omega
/-- the whole room -/
theorem n_room : ∀ R, R ≤ 10 → ∀ W, W ≤ 148 → (512 - R - W - (W + 3) / 4) * max 183 (v_Bd R W) + 61 * W + 150 * R ≤ 597400 := by decide +kernel
