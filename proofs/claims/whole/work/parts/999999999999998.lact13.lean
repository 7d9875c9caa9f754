/-! 999999999999998: calls on both sides: frames -/
theorem h_N2f {t i : Nat} (h1 : t ≠ T_MKEPT) (h2 : t ≠ T_MFRAME) (h3 : t ≠ T_LARR) : q_N2 t i = false := by
  unfold q_N2
  rw [decide_eq_false h1, decide_eq_false h2, decide_eq_false h3]
  rfl
theorem h_N2l {l : Nat} (h : l < 4) : q_N2 T_LARR l = false := by
  unfold q_N2
  rw [decide_eq_false (show ¬ 4 ≤ l by omega)]
  rfl
theorem s_D.v4 {p p' : e_Sp} {I : e_I} {nk nr : Nat} (h : s_D p I nk nr) (x : s_xv q_N2 p p') : s_D p' I nk nr := by
  have hx : ∀ t, t ≠ T_MKEPT → t ≠ T_MFRAME → t ≠ T_LARR → p'.2.1 t = p.2.1 t := fun t h1 h2 h3 => by
    funext i
    exact (x.1 t i (h_N2f h1 h2 h3)).2.1
  have hl : p'.2.2.1 T_PARR = p.2.2.1 T_PARR := by
    funext i
    exact (x.1 _ i (h_N2f (by decide) (by decide) (by decide))).2.2
  have hb := x.2
  obtain ⟨⟨⟨a1, a2⟩, b1, b2, b3, b4⟩, c1, c2, c3⟩ := h
  refine ⟨⟨⟨fun t ht => by rw [hx t (fun z => by rw [z] at ht; revert ht; decide) (fun z => by rw [z] at ht; revert ht; decide) (fun z => by rw [z] at ht; revert ht; decide)]; exact a1 t ht, fun l hl9 => by rw [hx _ (by decide) (by decide) (by decide)]; exact a2 l hl9⟩, b1, b2, fun k hk => ?_, fun r hr => by rw [hx _ (by decide) (by decide) (by decide)]; exact b4 r hr⟩, fun r hr => ?_, by rw [hb, hl]; exact c2, fun k hk hk9 => ?_⟩
  · rw [hx T_KNOB (by decide) (by decide) (by decide), hx T_STOP (by decide) (by decide) (by decide), hx T_COUP (by decide) (by decide) (by decide)]
    exact b3 k hk
  · have := c1 r hr
    unfold s_Rk at this ⊢
    rw [hx T_RANK (by decide) (by decide) (by decide), hx T_PARR (by decide) (by decide) (by decide), hx T_PIPE (by decide) (by decide) (by decide), hl, hb]
    exact this
  · obtain ⟨d1, d2⟩ := c3 k hk hk9
    refine ⟨fun t ht => ?_, d2⟩
    rw [hx t (fun z => by rw [z] at ht; revert ht; decide) (fun z => by rw [z] at ht; revert ht; decide) (fun z => by rw [z] at ht; revert ht; decide)]
    exact d1 t ht
theorem h_finF {T ax am ao ad : Nat} {p1 p2 : e_Sp} {R B : e_I} {RJ BJ : e_Jt} {a : e_I × e_Jt} {c1 c2 : Nat × Nat} {w1 : e_Rw1} {nk nr np n n2 a2 b2 x y : Nat} {t : Nat → Nat} {s m od ob : Nat} {v : Int32} (hT : T < 512) (h : h_Q T p1 a R RJ c1 nk nr np n t s m od ob) (hx : s_xv q_N2 p1 p2) (hF : q_F p2 (s_up (q_st nk nr np (B, BJ)).1 f_m_thrown 0 v)) (e : s_eqN q_fT R B) (el : ∀ l, l < 8 → B f_l_size l = R f_l_size l) (ej : ∀ F, h_JC.contains F = true → BJ F = RJ F) (hs : v_Sim p1 nk nr np n t s m T (R, RJ) (q_st nk nr np (B, BJ))) (hL : q_L p2 (q_st nk nr np (B, BJ)).1 c2 (a2 + x) (b2 + y) n2) (hn2 : n2 ≤ 1000000) (hx2 : x ≤ 2) (hy2 : y ≤ 40) (hb2 : ∀ p' I' c' n' x y, h_xT p1 p' → I' f_tsize = R f_tsize → I' f_entries = R f_entries → q_L p' I' c' (a2 + x) (b2 + y) n' → h_R p' I' c' (od + x) (ob + y) n') (ex : p1.1 T_HALL 0 = ax) (em : p1.1 T_MODEL 0 = am) (hw : ∃ f, w1 ao = some (103, 1, f)) (hd : ∃ f, w1 ad = some (104, 1, f)) (hne : ao ≠ ad) : h_L (T + 1) ax am ao ad (p2, s_up (q_st nk nr np (B, BJ)).1 f_m_thrown 0 v, (q_st nk nr np (B, BJ)).2, c2, w1) := by
  have hN := h.nums (by omega)
  have e0 := q_st_e (nk := nk) (nr := nr) (np := np) (a := (B, BJ))
  have eT : s_eqN (f_m_thrown :: f_l_size :: (q_fT ++ q_sT)) R (s_up (q_st nk nr np (B, BJ)).1 f_m_thrown 0 v) := ((e.mono (by decide)).trans (e0.1.mono (by decide))).trans (s_eqN.up (by decide))
  have ez : ∀ l, l < 8 → l ≠ 4 → s_up (q_st nk nr np (B, BJ)).1 f_m_thrown 0 v f_l_size l = R f_l_size l := fun l h8 hl => (s_up_F (by decide)).trans ((e0.2 l hl).trans (el l h8))
  have hnn : n2 = n := by
    have g := hs.1.1.2.2.1.2.1.1.2.1
    rw [hL.n] at g
    exact (nI_eq (by omega) (by omega)).mp g
  obtain ⟨h1, h2, h3, h4, h5, h6, h7⟩ := h
  obtain ⟨⟨l0, l1, l2, l3⟩, ⟨m1, m2, m3⟩, -, m5, ⟨u1, u2, u3⟩, ⟨w2, w3⟩⟩ := h4
  have hv : ∀ t i, t ≠ T_MKEPT → t ≠ T_MFRAME → t ≠ T_LARR → p2.2.1 t i = p1.2.1 t i := fun t i q1 q2 q3 => (hx.1 t i (h_N2f q1 q2 q3)).2.1
  have hpa : p2.2.2.1 T_PARR = p1.2.2.1 T_PARR := by
    funext i
    exact (hx.1 _ i (h_N2f (by decide) (by decide) (by decide))).2.2
  have la : ∀ l k, l < 4 → s_La p1 R l k → s_La p2 (s_up (q_st nk nr np (B, BJ)).1 f_m_thrown 0 v) l k := fun l k hl hla => hla.xv hx (h_N2f (by decide) (by decide) (by decide)) (h_N2l hl) (ez l (by omega) (by omega))
  have hSB1 : h_SB p1 (s_up (q_st nk nr np (B, BJ)).1 f_m_thrown 0 v) nk nr np := (h5.N s_xv.rfl' e (by decide) (el 3 (by omega)) (el 2 (by omega))).st s_xv.rfl'
  have hR := hb2 p2 _ c2 n2 x y (h_xT.xv hx (fun _ => h_N2f (by decide) (by decide) (by decide)) (h_N2f (by decide) (by decide) (by decide))) (eT _ (by decide)) (eT _ (by decide)) (hL.eq (s_up_F (by decide)))
  refine h_L.of (w := w1) (h_endG hs.thrown (Nat.le_succ T) eT (by decide) (fun F hF => ?_) hx.2 hpa hnn ((h2.v4 hx).eq ⟨fun l hl => ez l (by omega) (by omega), fun F hF i => by rw [eT F (v_dj.o (L := s_cs) (by decide) (List.contains_iff_mem.mpr hF))]⟩) (h3.N eT (by decide)) ⟨⟨la 0 _ (by omega) l0, la 1 _ (by omega) l1, la 2 _ (by omega) l2, la 3 _ (by omega) l3⟩, ⟨fun j hj => (hv _ j (by decide) (by decide) (by decide)).trans (m1 j hj), (ez 6 (by omega) (by omega)).trans m2, (ez 7 (by omega) (by omega)).trans m3⟩, hF, (ez 5 (by omega) (by omega)).trans m5, ⟨fun t ht k hk => ?_, fun r hr => ?_, fun i hi => ?_⟩, ⟨fun t ht k hk => ?_, fun r hr => ?_⟩⟩ ⟨hSB1.1.v hx (fun t ht => h_N2f (fun z => by rw [z] at ht; revert ht; decide) (fun z => by rw [z] at ht; revert ht; decide) (fun z => by rw [z] at ht; revert ht; decide)) (fun l _ => h_N2f (by decide) (by decide) (by decide)) (fun k _ => ⟨h_N2f (by decide) (by decide) (by decide), fun t ht => h_N2f (fun z => by rw [z] at ht; revert ht; decide) (fun z => by rw [z] at ht; revert ht; decide) (fun z => by rw [z] at ht; revert ht; decide)⟩) (fun r _ => h_N2f (by decide) (by decide) (by decide)), hSB1.2⟩ hR ?_) ?_ ?_ hw hd hne
  · exact (v_qstJ F (v_dj.o (L := h_JC) (T := [j_m_allBegun, j_m_ended]) (by decide) hF)).trans (ej F hF)
  · rw [hv t k (fun z => by rw [z] at ht; revert ht; decide) (fun z => by rw [z] at ht; revert ht; decide) (fun z => by rw [z] at ht; revert ht; decide)]
    exact u1 t ht k hk
  · rw [hv _ r (by decide) (by decide) (by decide), hv _ r (by decide) (by decide) (by decide)]
    exact u2 r hr
  · rw [hv _ i (by decide) (by decide) (by decide)]
    rw [h_tp hx.2 hpa] at hi
    exact u3 i hi
  · rw [hv t k (fun z => by rw [z] at ht; revert ht; decide) (fun z => by rw [z] at ht; revert ht; decide) (fun z => by rw [z] at ht; revert ht; decide)]
    exact w2 t ht k hk
  · rw [hv _ r (by decide) (by decide) (by decide)]
    exact w3 r hr
  · rw [h_Wn.N eT (by decide)]
    exact h7.q (by omega) (by omega) (by omega)
  · exact (hx.1 _ 0 (h_N2f (by decide) (by decide) (by decide))).1.trans ex
  · exact (hx.1 _ 0 (h_N2f (by decide) (by decide) (by decide))).1.trans em
