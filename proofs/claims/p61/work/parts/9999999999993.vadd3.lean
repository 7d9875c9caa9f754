/-! 9999999999993: ranks, rows and knobs turn little -/
theorem v_S_last {n : Nat} {f : Nat → Int32} (h : f n = 0) : v_S (n + 1) f = v_S n f := by
  show v_S n f + f n = v_S n f
  rw [h, Int32.add_zero]
theorem v_C_of {I M : e_I} {nk nk' nr nr' q : Nat} (hk : nk ≤ nk') (hd : M f_m_isDown = I f_m_isDown) (hct : ∀ d, d < 3 → q_ct M d = q_ct I d) (hP : ∀ x b, b < 61 → v_P M nk' nr' x (nI b) q = v_P I nk nr x (nI b) q) (hto : ∀ c, c < nk → M f_mk_to c = I f_mk_to c ∧ M f_mk_shift c = I f_mk_shift c) (hB : ∀ d n c, c < nk → (v_Bc M d n c ↔ v_Bc I d n c)) (hN : ∀ d n c, nk ≤ c → c < nk' → ¬ v_Bc M d n c) : v_C M nk' nr' q = v_C I nk nr q := by
  unfold v_C
  refine v_S_congr (fun d hd3 => v_S_congr (fun n hn => ?_))
  have hn61 : n < 61 := by have := v_kcn d; omega
  rw [hd, hct d hd3, hP _ n hn61]
  by_cases c : I f_m_isDown (s_kn (nI d) (nI n)) = 0
  · rw [if_pos c, if_pos c]
  · rw [if_neg c, if_neg c]
    congr 1
    rw [v_S_le hk (fun c h1 h2 => if_neg (hN d n c h1 h2))]
    refine v_S_congr (fun c hc => ?_)
    obtain ⟨t1, t2⟩ := hto c hc
    by_cases z : v_Bc I d n c
    · rw [if_pos z, if_pos ((hB d n c hc).mpr z), t1, t2]
      obtain ⟨_, b, _, hb, _, _, eb, _⟩ := z.2.2.2.2.nat
      rw [eb]
      exact hP _ b hb
    · rw [if_neg z, if_neg (fun y => z ((hB d n c hc).mp y))]
def v_bcM : List Nat := [f_mk_kind, f_mk_division, f_mk_isDrawn, f_mk_relay, f_m_isRelay, f_mk_letter, f_m_isDown, f_m_wentDown, f_m_tick, f_mk_to, f_mk_shift]
theorem v_Bc.N {T : List Nat} {I M : e_I} (e : s_eqN T I M) (hT : v_dj v_bcM T = true) (d n c : Nat) : v_Bc M d n c ↔ v_Bc I d n c := by
  unfold v_Bc q_ct q_tk q_eg q_egs
  simp only [e f_mk_kind (v_dj.o hT (by decide)), e f_mk_division (v_dj.o hT (by decide)), e f_mk_isDrawn (v_dj.o hT (by decide)), e f_mk_relay (v_dj.o hT (by decide)), e f_m_isRelay (v_dj.o hT (by decide)), e f_mk_letter (v_dj.o hT (by decide)), e f_m_isDown (v_dj.o hT (by decide)), e f_m_wentDown (v_dj.o hT (by decide)), e f_m_tick (v_dj.o hT (by decide)), e f_mk_to (v_dj.o hT (by decide)), e f_mk_shift (v_dj.o hT (by decide))]
def v_soM : List Nat := [f_mk_isDrawn, f_mk_relay, f_m_isRelay, f_m_isTutti, f_mk_stage, f_m_crescendo]
theorem v_so.N {T : List Nat} {I M : e_I} (e : s_eqN T I M) (hT : v_dj v_soM T = true) : q_so M = q_so I ∧ q_ct M = q_ct I := by
  refine ⟨?_, ?_⟩
  · funext k
    unfold q_so q_ct
    simp only [e f_mk_isDrawn (v_dj.o hT (by decide)), e f_mk_relay (v_dj.o hT (by decide)), e f_m_isRelay (v_dj.o hT (by decide)), e f_m_isTutti (v_dj.o hT (by decide)), e f_mk_stage (v_dj.o hT (by decide)), e f_m_crescendo (v_dj.o hT (by decide))]
  · funext k
    unfold q_ct
    simp only [e f_mk_isDrawn (v_dj.o hT (by decide)), e f_mk_relay (v_dj.o hT (by decide)), e f_m_isRelay (v_dj.o hT (by decide))]
/-- rows speak of ranks that there are -/
def v_rr (I : e_I) (nk nr : Nat) : Prop := ∀ k, k < nk → I f_mk_kind k = 115 → ∀ i, i < (I f_mk_rows k).toNatClampNeg → ∃ r, r < nr ∧ I f_mk_ranks (k * 4 + i) = nI r
theorem v_rr.N {nk nr : Nat} {T : List Nat} {I I1 : e_I} (h : v_rr I nk nr) (e : s_eqN T I I1) (hT : v_dj [f_mk_kind, f_mk_rows, f_mk_ranks] T = true) : v_rr I1 nk nr := by
  unfold v_rr at h ⊢
  simp only [e f_mk_kind (v_dj.o hT (by decide)), e f_mk_rows (v_dj.o hT (by decide)), e f_mk_ranks (v_dj.o hT (by decide))]
  exact h
theorem v_cov_np {p : e_Sp} {I I' : e_I} {nk nr np q : Nat} (h : v_Sh p I I' nr np) (hc : v_cov I' nk nr q = true) : q < np := by
  unfold v_cov v_cvk v_ht at hc
  rw [s_ex_iff] at hc
  obtain ⟨k, _, hc⟩ := hc
  rw [Bool.and_eq_true, s_ex_iff] at hc
  obtain ⟨_, i, _, hc⟩ := hc
  rw [s_ex_iff] at hc
  obtain ⟨pl, _, hc⟩ := hc
  rw [Bool.and_eq_true, decide_eq_true_iff] at hc
  obtain ⟨r, j, lo, hr, hj, _, _, _, e, _⟩ := h.note hc.1
  rw [← hc.2, e]
  exact h.lt hr hj
/-- a rank adds nothing -/
theorem a_rank0 {p p1 : e_Sp} {nk nr np n n' s s' m m' L L' lo k : Nat} {t t' : Nat → Nat} {a a' : e_I × e_Jt} {I' : e_I} {J' J1 : e_Jt} {x3 x4 x5 x6 x7 : Int32} (h : v_Sim p nk nr np n t s m L a (I', J')) (h' : v_Sim p1 nk (nr + 1) (np + (k + 1)) n' t' s' m' L' a' (q_st nk (nr + 1) (np + (k + 1)) (q_rkI I' nr np lo k x3 x4 x5 x6 x7, J1))) (hf : v_Fr np I') (hrr : v_rr I' nk nr) (hno : ¬ I' f_m_recording 0 = 114 → n' = n) (hn : n + 1280 < 2147483648) (hn' : n' < 2147483648) : n' = n := by
  have hS := h.1.1.1.1
  have hX := h.1.2.2.1
  dsimp only at hS hX
  have hr10 := hS.2.1.1
  have h12 := h'.1.1.1.1.2.1.2
  have e : s_eqN q_rF I' (q_rkI I' nr np lo k x3 x4 x5 x6 x7) := q_rkI_e
  have hRw : ∀ c, c < nk → I' f_mk_kind c = 115 → ∀ y q, v_Rw (q_rkI I' nr np lo k x3 x4 x5 x6 x7) (nr + 1) c y q = v_Rw I' nr c y q := by
    intro c hc hs y q
    unfold v_Rw q_nt
    rw [e f_mk_rows (by decide), e f_mk_froms (by decide), e f_mk_wires (by decide), e f_mk_tos (by decide), e f_mk_ranks (by decide), e f_mk_offsets (by decide)]
    refine v_S_congr (fun i hi => ?_)
    obtain ⟨r, hr, er⟩ := hrr c hc hs i hi
    rw [er]
    have i1 : ∀ z, q_ip (q_rkI I' nr np lo k x3 x4 x5 x6 x7) (nr + 1) (nI r) z = q_ip I' nr (nI r) z := by
      intro z
      unfold q_ip
      rw [nI_clamp (by omega), v_rkBr (by decide) (by omega), v_rkBr (by decide) (by omega), decide_eq_true (show (0 : Int32) ≤ nI r ∧ nI r < nI (nr + 1) from ⟨nI_pos' (by omega), nI_lt (by omega) (by omega)⟩), decide_eq_true (show (0 : Int32) ≤ nI r ∧ nI r < nI nr from ⟨nI_pos' (by omega), nI_lt (by omega) (by omega)⟩)]
    have i2 : ∀ z, q_pi (q_rkI I' nr np lo k x3 x4 x5 x6 x7) (nI r) z = q_pi I' (nI r) z := by
      intro z
      unfold q_pi q_pp
      rw [nI_clamp (by omega), v_rkBr (by decide) (by omega), v_rkBr (by decide) (by omega)]
    rw [i1, i2]
  have hP : ∀ x y q, v_P (q_rkI I' nr np lo k x3 x4 x5 x6 x7) nk (nr + 1) x y q = v_P I' nk nr x y q := by
    intro x y q
    unfold v_P
    refine v_S_congr (fun c hc => ?_)
    rw [e f_mk_kind (by decide), e f_mk_division (by decide), (v_so.N e (by decide)).1]
    by_cases z : I' f_mk_kind c = 115 ∧ I' f_mk_division c = x ∧ q_so I' c = true
    · rw [if_pos z, if_pos z, hRw c hc z.1]
    · rw [if_neg z, if_neg z]
  have hC : ∀ q, v_C (q_rkI I' nr np lo k x3 x4 x5 x6 x7) nk (nr + 1) q = v_C I' nk nr q := fun q => v_C_of (Nat.le_refl _) (e _ (by decide)) (fun d _ => by rw [(v_so.N e (by decide)).2]) (fun x b _ => hP x (nI b) q) (fun c _ => ⟨by rw [e _ (by decide)], by rw [e _ (by decide)]⟩) (fun d n c _ => v_Bc.N e (by decide) d n c) (fun d n c h1 h2 => absurd h2 (by omega))
  refine h.neq h' (fun q hq => v_tg0 hX hq (fun r hr => ?_) ?_) (q_rkI_l (by omega)) (fun z => hno (by rw [e _ (by decide)] at z; exact z)) hn hn'
  · rw [v_rv.N (nr := nr) (np := np) e (by decide), e f_m_operation (by decide), e f_m_isRelay (by decide)]
    exact hX.1 r hr
  · rw [e _ (by decide), hC]
    by_cases c : q < np
    · rw [(hX.2.2.1 q c).1]
      unfold q_is
      rw [hX.2.1 q c]
    · rw [(hf q (by omega) (by omega)).1 _ (by decide)]
      have z : v_cov I' nk nr q = false := by
        cases z : v_cov I' nk nr q with
        | false => rfl
        | true => exact absurd (v_cov_np hS z) c
      rw [v_CZ z h.1.1.1.2.1.wr]
      rfl
/-- a row turns at most its own pipes -/
theorem a_row0 {p : e_Sp} {nk nr np n n' s s' m m' L L' k m9 : Nat} {t t' : Nat → Nat} {I : e_I} {J : e_Jt} {a' : e_I × e_Jt} {I' : e_I} {J' J1 : e_Jt} {y z f tt : Int32} (h : v_Sim p nk nr np n t s m L (I, J) (I', J')) (h' : v_Sim p nk nr np n' t' s' m' L' a' (q_st nk nr np (q_ar I' k m9 y z f tt, J1))) (hk : k < nk) (hm : m9 < 4) (hrow : I' f_mk_rows k = nI m9) (hks : I' f_mk_kind k = 115) (hno : ¬ I' f_m_recording 0 = 114 → n' = n) (hn : n + 1280 < 2147483648) (hn' : n' < 2147483648) : n' ≤ n + 61 := by
  have hS := h.1.1.1.1
  have hX := h.1.2.2.1
  have hKn := h.1.1.1.2.1
  dsimp only at hS hX hKn
  have h12 := hS.2.1.2
  have e : s_eqN [f_mk_ranks, f_mk_offsets, f_mk_froms, f_mk_tos, f_mk_rows] I' (q_ar I' k m9 y z f tt) := ((((s_eqN.up (by decide)).trans (s_eqN.up (by decide))).trans (s_eqN.up (by decide))).trans (s_eqN.up (by decide))).trans (s_eqN.up (by decide))
  have hs' := h'.1.1.1.1
  have hrows : ∀ c, c < nk → I' f_mk_kind c = 115 → (I' f_mk_rows c).toNatClampNeg ≤ 4 := by
    intro c hc hs
    obtain ⟨⟨ek, -⟩, -, -, d⟩ := hKn.2 c hc
    rw [ek] at d
    rcases d with ⟨_, w, _⟩ | ⟨_, w, _⟩ | ⟨_, _, hst⟩ | ⟨_, w⟩
    · rw [hs] at w; exact absurd w (by decide)
    · rw [hs] at w; exact absurd w (by decide)
    · obtain ⟨_, ⟨m, hm, _, e2, _⟩, _⟩ := hst
      rw [e2, nI_clamp (by omega)]; exact hm
    · rw [hs] at w; exact absurd w (by decide)
  have o4 : ∀ F, (F = f_mk_ranks ∨ F = f_mk_offsets ∨ F = f_mk_froms ∨ F = f_mk_tos) → ∀ c i, i < 4 → (c = k → i < m9) → q_ar I' k m9 y z f tt F (c * 4 + i) = I' F (c * 4 + i) := by
    intro F hF c i hi hci
    have ne : c * 4 + i ≠ k * 4 + m9 := fun w => by
      by_cases ck : c = k
      · have := hci ck; rw [ck] at w; omega
      · omega
    have n5 : F ≠ f_mk_rows := by rcases hF with w | w | w | w <;> rw [w] <;> decide
    unfold q_ar
    rw [s_up_F n5, s_up_i ne, s_up_i ne, s_up_i ne, s_up_i ne]
  have r5 : ∀ c, q_ar I' k m9 y z f tt f_mk_rows c = if c = k then nI (m9 + 1) else I' f_mk_rows c := by
    intro c
    unfold q_ar
    by_cases ck : c = k
    · rw [if_pos ck, ck, s_up_s, nI_1]
    · rw [if_neg ck, s_up_i ck, s_up_F (by decide), s_up_F (by decide), s_up_F (by decide), s_up_F (by decide)]
  have ipE : ∀ x w, q_ip (q_ar I' k m9 y z f tt) nr x w = q_ip I' nr x w := fun x w => by
    unfold q_ip
    rw [e f_mr_lowest (by decide), e f_mr_highest (by decide)]
  have piE : ∀ x w, q_pi (q_ar I' k m9 y z f tt) x w = q_pi I' x w := fun x w => by
    unfold q_pi q_pp
    rw [e f_mr_lowest (by decide), e f_mr_base (by decide)]
  have hRw : ∀ q, v_ht (q_ar I' k m9 y z f tt) nr k m9 q = false → ∀ c, c < nk → I' f_mk_kind c = 115 → ∀ b, b < 61 → v_Rw (q_ar I' k m9 y z f tt) nr c (nI b) q = v_Rw I' nr c (nI b) q := by
    intro q hq c hc hs b hb
    have term : ∀ i, i < 4 → (c = k → i < m9) → (if ((q_ar I' k m9 y z f tt f_mk_froms (c * 4 + i) ≤ q_ar I' k m9 y z f tt f_mk_wires (c * 61 + (nI b).toNatClampNeg) ∧ q_ar I' k m9 y z f tt f_mk_wires (c * 61 + (nI b).toNatClampNeg) ≤ q_ar I' k m9 y z f tt f_mk_tos (c * 4 + i)) ∧ q_ip (q_ar I' k m9 y z f tt) nr (q_ar I' k m9 y z f tt f_mk_ranks (c * 4 + i)) (q_nt (q_ar I' k m9 y z f tt) c (q_ar I' k m9 y z f tt f_mk_wires (c * 61 + (nI b).toNatClampNeg)) i) = true) ∧ q_pi (q_ar I' k m9 y z f tt) (q_ar I' k m9 y z f tt f_mk_ranks (c * 4 + i)) (q_nt (q_ar I' k m9 y z f tt) c (q_ar I' k m9 y z f tt f_mk_wires (c * 61 + (nI b).toNatClampNeg)) i) = q then (1 : Int32) else 0) = (if ((I' f_mk_froms (c * 4 + i) ≤ I' f_mk_wires (c * 61 + (nI b).toNatClampNeg) ∧ I' f_mk_wires (c * 61 + (nI b).toNatClampNeg) ≤ I' f_mk_tos (c * 4 + i)) ∧ q_ip I' nr (I' f_mk_ranks (c * 4 + i)) (q_nt I' c (I' f_mk_wires (c * 61 + (nI b).toNatClampNeg)) i) = true) ∧ q_pi I' (I' f_mk_ranks (c * 4 + i)) (q_nt I' c (I' f_mk_wires (c * 61 + (nI b).toNatClampNeg)) i) = q then 1 else 0) := by
      intro i hi hci
      unfold q_nt
      rw [o4 _ (.inl rfl) c i hi hci, o4 _ (.inr (.inl rfl)) c i hi hci, o4 _ (.inr (.inr (.inl rfl))) c i hi hci, o4 _ (.inr (.inr (.inr rfl))) c i hi hci, e f_mk_wires (by decide), ipE, piE]
    unfold v_Rw
    rw [r5]
    by_cases ck : c = k
    · subst ck
      have g1 : (nI (m9 + 1)).toNatClampNeg = m9 + 1 := nI_clamp (by omega)
      have g2 : (nI m9).toNatClampNeg = m9 := nI_clamp (by omega)
      rw [if_pos rfl, hrow, g1, g2]
      obtain ⟨w, hw, ew⟩ := hKn.wr c hk hs b hb
      have last : (if ((q_ar I' c m9 y z f tt f_mk_froms (c * 4 + m9) ≤ q_ar I' c m9 y z f tt f_mk_wires (c * 61 + (nI b).toNatClampNeg) ∧ q_ar I' c m9 y z f tt f_mk_wires (c * 61 + (nI b).toNatClampNeg) ≤ q_ar I' c m9 y z f tt f_mk_tos (c * 4 + m9)) ∧ q_ip (q_ar I' c m9 y z f tt) nr (q_ar I' c m9 y z f tt f_mk_ranks (c * 4 + m9)) (q_nt (q_ar I' c m9 y z f tt) c (q_ar I' c m9 y z f tt f_mk_wires (c * 61 + (nI b).toNatClampNeg)) m9) = true) ∧ q_pi (q_ar I' c m9 y z f tt) (q_ar I' c m9 y z f tt f_mk_ranks (c * 4 + m9)) (q_nt (q_ar I' c m9 y z f tt) c (q_ar I' c m9 y z f tt f_mk_wires (c * 61 + (nI b).toNatClampNeg)) m9) = q then (1 : Int32) else 0) = 0 := by
        refine if_neg (fun g => ?_)
        have : v_ht (q_ar I' c m9 y z f tt) nr c m9 q = true := by
          unfold v_ht
          rw [s_ex_iff]
          refine ⟨w, hw, ?_⟩
          have ew' : q_ar I' c m9 y z f tt f_mk_wires (c * 61 + (nI b).toNatClampNeg) = nI w := by rw [nI_clamp (by omega), e _ (by decide)]; exact ew
          rw [ew'] at g
          rw [Bool.and_eq_true, decide_eq_true_iff]
          exact ⟨g.1.2, g.2⟩
        rw [hq] at this
        cases this
      rw [v_S_last (n := m9) last]
      exact v_S_congr (fun i hi => term i (by omega) (fun _ => hi))
    · rw [if_neg ck]
      exact v_S_congr (fun i hi => term i (by have := hrows c hc hs; omega) (fun z => absurd z ck))
  have hP : ∀ q, v_ht (q_ar I' k m9 y z f tt) nr k m9 q = false → ∀ x b, b < 61 → v_P (q_ar I' k m9 y z f tt) nk nr x (nI b) q = v_P I' nk nr x (nI b) q := by
    intro q hq x b hb
    unfold v_P
    refine v_S_congr (fun c hc => ?_)
    rw [e f_mk_kind (by decide), e f_mk_division (by decide), (v_so.N e (by decide)).1]
    by_cases w : I' f_mk_kind c = 115 ∧ I' f_mk_division c = x ∧ q_so I' c = true
    · rw [if_pos w, if_pos w, hRw q hq c hc w.1 b hb]
    · rw [if_neg w, if_neg w]
  have htg : ∀ q, q < np → v_tg (q_rc nk nr np (q_ar I' k m9 y z f tt)) q ≤ if v_ht (q_ar I' k m9 y z f tt) nr k m9 q = true then 1 else 0 := by
    intro q hq
    by_cases c : v_ht (q_ar I' k m9 y z f tt) nr k m9 q = true
    · rw [if_pos c]
      unfold v_tg
      split
      · exact Nat.le_refl _
      · exact Nat.zero_le _
    · have c : v_ht (q_ar I' k m9 y z f tt) nr k m9 q = false := by simpa using c
      have := v_tg0 (nk' := nk) (nr' := nr) (np' := np) (M := q_ar I' k m9 y z f tt) hX hq (fun r hr => by
        rw [v_rv.N (nr := nr) (np := np) e (by decide), e f_m_operation (by decide), e f_m_isRelay (by decide)]
        exact hX.1 r hr) (by
        rw [e _ (by decide), v_C_of (Nat.le_refl _) (e _ (by decide)) (fun d _ => by rw [(v_so.N e (by decide)).2]) (hP q c) (fun c _ => ⟨by rw [e _ (by decide)], by rw [e _ (by decide)]⟩) (fun d n c _ => v_Bc.N e (by decide) d n c) (fun d n c h1 h2 => absurd h2 (by omega)), (hX.2.2.1 q hq).1]
        unfold q_is
        rw [hX.2.1 q hq])
      rw [this]
      exact Nat.zero_le _
  have hSM : v_Sh p I (q_ar I' k m9 y z f tt) nr np := hS.N (s_eqN.rfl' (T := [])) e (by decide) (by decide)
  have hsum : s_sum np (v_tg (q_rc nk nr np (q_ar I' k m9 y z f tt))) ≤ 61 := by
    refine Nat.le_trans (n_le htg) ?_
    rw [n_flat hSM]
    refine Nat.le_trans (n_le (fun r hr => n_row hSM hr)) ?_
    have o1 := n_one (n := nr) (f := fun r => decide (q_ar I' k m9 y z f tt f_mk_ranks (k * 4 + m9) = nI r)) (fun x y hx hy h1 h2 => (nI_eq (by have := hS.2.1.1; omega) (by have := hS.2.1.1; omega)).mp ((of_decide_eq_true h1).symm.trans (of_decide_eq_true h2)))
    have o2 : s_sum nr (fun r => if q_ar I' k m9 y z f tt f_mk_ranks (k * 4 + m9) = nI r then 61 else 0) = 61 * s_sum nr (fun r => if decide (q_ar I' k m9 y z f tt f_mk_ranks (k * 4 + m9) = nI r) = true then 1 else 0) := by
      rw [← n_mul]
      refine n_congr (fun r _ => ?_)
      by_cases c : q_ar I' k m9 y z f tt f_mk_ranks (k * 4 + m9) = nI r
      · rw [if_pos c, if_pos (decide_eq_true c)]
      · rw [if_neg c, if_neg (by rw [decide_eq_true_iff]; exact c)]
    rw [o2]
    omega
  by_cases c : q_ar I' k m9 y z f tt f_m_recording 0 = 114
  · have e0 : I' f_l_size 4 = nI n := h.1.1.2.2.1.2.1.1.2.1
    have e1 := v_addsS (nk := nk) (nr := nr) (np := np) (n := n) (I := q_ar I' k m9 y z f tt) (J := J1) (by rw [e _ (by decide)]; exact e0) (by omega) c
    have e2 : (q_st nk nr np (q_ar I' k m9 y z f tt, J1)).1 f_l_size 4 = nI n' := h'.1.1.2.2.1.2.1.1.2.1
    have := (nI_eq (by omega) (by omega)).mp (e1.symm.trans e2)
    omega
  · rw [hno (fun w => c (by rw [e _ (by decide)]; exact w))]; omega
