/-! 9999999999999996: a rank is made, both halves -/
theorem h_Nr0 {bs n nr t i : Nat} (h : h_G3 0 t i = false) : (s_Nr bs n nr t i || s_NL 0 t i) = false := by
  unfold h_G3 at h
  rw [Bool.or_eq_false_iff, Bool.or_eq_false_iff] at h
  obtain ⟨⟨h1, h2⟩, h3⟩ := h
  unfold s_Nr s_Np
  rw [h3, decide_eq_false (show ¬ t = T_PIPE from fun z => by rw [z] at h1; exact absurd h1 (by decide)), decide_eq_false (show ¬ t = T_RANK from fun z => by rw [z] at h1; exact absurd h1 (by decide)), decide_eq_false (show ¬ t = T_PARR from fun z => by rw [z] at h1; exact absurd h1 (by decide))]
  rfl
theorem h_Nrr {bs n nr t r : Nat} (hr : ¬ r = nr) (h1 : t ≠ T_PIPE) (h2 : t ≠ T_LARR) : (s_Nr bs n nr t r || s_NL 0 t r) = false := by
  unfold s_Nr s_Np s_NL
  rw [decide_eq_false hr, decide_eq_false h1, decide_eq_false h2, Bool.and_false]
  rfl
theorem h_rkX {p p1 p' : e_Sp} {nr bs n : Nat} (hxw : s_xw (fun t i => s_Nr bs n nr t i || s_NL 0 t i) nr p p1) (x1 : s_xt p1 p') : h_xG (h_G3 0) p p' ∧ (∀ r, r ≠ nr → p'.2.2.2.2 r = p.2.2.2.2 r ∧ p'.2.2.1 T_PARR r = p.2.2.1 T_PARR r) ∧ h_x4 p p' ∧ ∀ t i, t ≠ T_ENTR → (s_Nr bs n nr t i || s_NL 0 t i) = false → p'.2.1 t i = p.2.1 t i := by
  have hE : ∀ t, t ≠ T_ENTR → p'.1 t = p1.1 t ∧ p'.2.1 t = p1.2.1 t ∧ p'.2.2.1 t = p1.2.2.1 t := fun t ht => x1.1 t (decide_eq_false ht)
  refine ⟨fun t i h => ?_, fun r hr => ⟨?_, ?_⟩, ⟨?_, ⟨?_, ?_, ?_⟩, fun j => ?_, ?_⟩, fun t i ht h => ?_⟩
  · have ht : t ≠ T_ENTR := fun z => by
      rw [z] at h
      have q : h_G3 0 T_ENTR i = true := rfl
      rw [q] at h
      cases h
    obtain ⟨a, b, c⟩ := hE t ht
    obtain ⟨a', b', c'⟩ := hxw.1 t i (h_Nr0 h)
    exact ⟨by rw [a]; exact a', by rw [b]; exact b', by rw [c]; exact c'⟩
  · rw [x1.2.2.1]; exact hxw.2 r hr
  · rw [(hE T_PARR (by decide)).2.2]; exact (hxw.1 _ r (h_Nrr hr (by decide) (by decide))).2.2
  · rw [(hE T_LIST (by decide)).2.1]; exact (hxw.1 _ _ rfl).2.1
  · rw [(hE T_LARR (by decide)).1]; exact (hxw.1 _ _ rfl).1
  · rw [(hE T_LARR (by decide)).2.1]; exact (hxw.1 _ _ rfl).2.1
  · rw [(hE T_LARR (by decide)).2.2]; exact (hxw.1 _ _ rfl).2.2
  · rw [(hE T_MKEPT (by decide)).2.1]; exact (hxw.1 _ _ rfl).2.1
  · exact Nat.le_trans (Nat.le_of_eq (hxw.1 T_ENTR 0 rfl).2.2.symm) x1.2.2.2
  · rw [(hE t ht).2.1]; exact (hxw.1 t i h).2.1
theorem h_rank1 {T : Nat} {p p' : e_Sp} {I R : e_I} {J RJ : e_Jt} {c c' : Nat × Nat} {nk nr np n a b x9 y9 : Nat} {t : Nat → Nat} {s m od ob : Nat} {TC : List Nat} (hQ : h_Q T p (I, J) I J c nk nr np n t s m od ob) (xG : h_xG (h_G3 0) p p') (h4 : h_x4 p p') (e : s_eqN TC I R) (hTC : v_dj (h_M ++ (h_frF ++ h_sbF)) TC = true) (el : ∀ l, l ≠ 0 → R f_l_size l = I f_l_size l) (ej : ∀ F, h_JM.contains F = true → RJ F = J F) (hT1 : s_Tp p' R c' (a + x9) (b + y9)) (hb : ∀ p' I' c' x y, h_x4 p p' → I' f_l_size 4 = I f_l_size 4 → s_Tp p' I' c' (a + x) (b + y) → h_R p' I' c' (od + x) (ob + y) n) : v_Sim p nk nr np n t s m T (I, J) (R, RJ) ∧ h_SB p' R nk nr np ∧ h_R p' R c' (od + x9) (ob + y9) n := by
  obtain ⟨q1, q2, q3, q4, q5, q6, q7⟩ := hQ
  have h0 : v_dj q_ms2 TC = true := h_sub hTC (by decide)
  have hfr : v_dj h_frF TC = true := h_sub hTC (by decide)
  refine ⟨q1.mv (T := []) s_eqN.rfl' e (by decide) (h_sub hTC (by decide)) (fun l hl => el l (by omega)) (fun _ _ => rfl) ej, ⟨(q5.1.v3 xG).w (fun _ _ _ => rfl) (fun F hF => e F (v_dj.o h0 (List.contains_iff_mem.mpr hF))) (el 3 (by omega)) (el 2 (by omega)), q5.2.1.of (fun F q hF _ => by rw [e F (v_dj.o hfr hF)]), q5.2.2.1.N e (h_sub hTC (by decide)), q5.2.2.2.1.N e (h_sub hTC (by decide)), fun k hk => ?_⟩, hb p' R c' x9 y9 h4 (el 4 (by omega)) hT1⟩
  rw [e f_mk_kind (v_dj.o hTC (by decide))]
  exact q5.2.2.2.2 k hk
theorem h_NR2 {nr t i : Nat} (h : h_G2 2 t i = false) : (q_NR nr t i || q_N t i) = false := by
  unfold h_G2 at h
  rw [Bool.or_eq_false_iff, Bool.or_eq_false_iff] at h
  obtain ⟨⟨h1, h2⟩, h3⟩ := h
  have a1 : t ≠ T_MRANK := fun z => by rw [z] at h1; exact absurd h1 (by decide)
  have a2 : t ≠ T_MKEPT := fun z => by rw [z] at h1; exact absurd h1 (by decide)
  unfold q_NR q_N8 s_NL q_N
  rw [decide_eq_false a1, decide_eq_false a2]
  by_cases c : t = T_LARR
  · rw [decide_eq_true c] at h3 ⊢
    simp only [Bool.true_and, Bool.or_eq_false_iff] at h3
    rw [h3.1, h3.2]
    rfl
  · rw [decide_eq_false c]
    rfl
theorem h_rkSB {p' p2 : e_Sp} {R : e_I} {nk nr np lo m dv : Nat} {x3 x5 x6 x7 : Int32} (h : h_SB p' R nk nr np) (hx : s_xv (q_NR nr) p' p2) (hv : p2.2.1 T_MRANK nr = true) (h10 : nr < 10) (hm : lo + m ≤ 127) (hnp : np + m + 1 ≤ 1280) (hd : dv < 3) (h3 : v_in x3 0 9) : h_SB p2 (q_rkI R nr np lo m x3 (nI dv) x5 x6 x7) nk (nr + 1) (np + m + 1) := by
  obtain ⟨d1, d2, d3, d4, d5⟩ := h
  have e : s_eqN q_rF R (q_rkI R nr np lo m x3 (nI dv) x5 x6 x7) := q_rkI_e
  obtain ⟨-, -, v3, -, -, -, -, -, v9⟩ := v_rkBv (I := R) (nr := nr) (np := np) (lo := lo) (m := m) (x3 := x3) (x4 := nI dv) (x5 := x5) (x6 := x6) (x7 := x7)
  have f1 : v_Fr np (q_rkI R nr np lo m x3 (nI dv) x5 x6 x7) := d2.of (fun F q hF _ => by rw [e F (v_dj.o (L := h_frF) (by decide) hF)])
  obtain ⟨g1, g2, g3, g4, g5⟩ := d3
  refine ⟨d1.addR hx hv h10 hm hnp hd, fun q h1 h2 => f1 q (by omega) h2, ⟨fun q hq => ?_, fun i hi => by rw [e f_m_temper (by decide)]; exact g2 i hi, by rw [e f_m_heat (by decide)]; exact g3, fun r hr => ?_, fun d hd => by rw [e f_m_supply (by decide)]; exact g5 d hd⟩, fun k hk hs i hi => ?_, fun k hk => by rw [e f_mk_kind (by decide)]; exact d5 k hk⟩
  · by_cases c : q < np
    · rw [e f_m_tuning (by decide)]; exact g1 q c
    · rw [(f1 q (by omega) (by omega)).1 f_m_tuning (by decide)]
      exact ⟨by decide, by decide⟩
  · by_cases c : r = nr
    · rw [c, v3, v9]
      exact ⟨⟨by decide, by decide⟩, h3⟩
    · rw [v_rkBr (by decide) c, v_rkBr (by decide) c]
      exact g4 r (by omega)
  · rw [e f_mk_kind (by decide)] at hs
    rw [e f_mk_rows (by decide)] at hi
    obtain ⟨r, hr, er⟩ := d4 k hk hs i hi
    exact ⟨r, by omega, by rw [e f_mk_ranks (by decide)]; exact er⟩
theorem h_rank2 {T ax am ao ad : Nat} {p p1 p' p2 p4 : e_Sp} {I R : e_I} {J RJ : e_Jt} {c c' c4 : Nat × Nat} {w1 : e_Rw1} {nk nr np n n4 a2 b2 x9 y9 x8 y8 lo mm dv : Nat} {t : Nat → Nat} {s m od ob : Nat} {TC : List Nat} {x3 x5 x6 x7 v : Int32} (hQ : h_Q T p (I, J) I J c nk nr np n t s m od ob) (hT : T < 512) (h10 : nr < 10) (hdv : dv < 3) (hm : lo + mm ≤ 127) (h3 : v_in x3 0 9) (hxw : s_xw (fun t i => s_Nr np (mm + 1) nr t i || s_NL 0 t i) nr p p1) (hpr : p1.2.2.1 T_PARR nr = mm + 1) (hbr : p1.2.2.2.2 nr = np) (x1 : s_xt p1 p') (e : s_eqN TC I R) (hTC : v_dj (h_M ++ (h_frF ++ h_sbF)) TC = true) (el : ∀ l, l ≠ 0 → R f_l_size l = I f_l_size l) (hW : v_Wd nk R) (hD1 : s_D p' R nk (nr + 1)) (hLa0 : s_La p' R 0 (nr + 1)) (hx9 : x9 ≤ 140) (hy9 : y9 ≤ 2000) (hx8 : x8 ≤ 2) (hy8 : y8 ≤ 60) (hS1 : v_Sim p nk nr np n t s m T (I, J) (R, RJ)) (hSB1 : h_SB p' R nk nr np) (hsim : ∃ n' t', n' ≤ n + (np + (mm + 1)) ∧ (¬ R f_m_recording 0 = 114 → n' = n) ∧ v_Sim p1 nk (nr + 1) (np + (mm + 1)) n' t' s m T (R, RJ) (q_st nk (nr + 1) (np + (mm + 1)) (q_rkI R nr np lo mm x3 (nI dv) x5 x6 x7, RJ))) (hxv2 : s_xv (q_NR nr) p' p2) (hkt : p2.2.1 T_MRANK nr = true) (hLa2 : s_La p2 (q_rkI R nr np lo mm x3 (nI dv) x5 x6 x7) 2 (nr + 1)) (x4 : q_X p2 p4) (hL4 : q_L p4 (q_st nk (nr + 1) (np + mm + 1) (q_rkI R nr np lo mm x3 (nI dv) x5 x6 x7, RJ)).1 c4 (a2 + x8) (b2 + y8) n4) (hn4 : n4 ≤ n + (np + mm + 1)) (hb2 : ∀ p2 I' c2 n' x y, h_xT p' p2 → I' f_tsize = R f_tsize → I' f_entries = R f_entries → q_L p2 I' c2 (a2 + x) (b2 + y) n' → h_R p2 I' c2 (od + x9 + x) (ob + y9 + y) n') (ex : p'.1 T_HALL 0 = ax) (em : p'.1 T_MODEL 0 = am) (hw : ∃ f, w1 ao = some (103, 1, f)) (hd : ∃ f, w1 ad = some (104, 1, f)) (hne : ao ≠ ad) : h_L (T + 1) ax am ao ad (p4, s_up (q_st nk (nr + 1) (np + mm + 1) (q_rkI R nr np lo mm x3 (nI dv) x5 x6 x7, RJ)).1 f_m_thrown 0 v, (q_st nk (nr + 1) (np + mm + 1) (q_rkI R nr np lo mm x3 (nI dv) x5 x6 x7, RJ)).2, c4, w1) := by
  have hN := hQ.nums (by omega)
  have hnp : np + mm + 1 ≤ 1280 := by omega
  obtain ⟨n', t', q1, q2, hs9⟩ := hsim
  have hl9 := hs9.1.1.2.2.1.2.1.1.2.1
  rw [← Nat.add_assoc, hL4.n] at hl9
  have q3 := a_rank0 hS1 hs9 hSB1.2.1 hSB1.2.2.2.1 q2 (by omega) (by omega)
  have hn2e : n4 = n' := (nI_eq (by omega) (by omega)).mp hl9
  rw [← Nat.add_assoc] at hs9
  obtain ⟨xG1, hbp, -, hvC⟩ := h_rkX hxw x1
  have x24 : s_xv (fun t i => q_NR nr t i || q_N t i) p' p4 := (hxv2.mono (fun t i h => (Bool.or_eq_false_iff.mp h).1)).trans (x4.1.mono (fun t i h => (Bool.or_eq_false_iff.mp h).2))
  have xG2 : h_xG (h_G2 2) p' p4 := fun t i h => x24.1 t i (h_NR2 h)
  have hSB0 := h_rkSB (lo := lo) (m := mm) (dv := dv) (x3 := x3) (x5 := x5) (x6 := x6) (x7 := x7) hSB1 hxv2 hkt h10 hm hnp hdv h3
  have hSB := (h_SB.st (J := RJ) (x := v) hSB0 s_xv.rfl').N x4.hN (s_eqN.rfl' (T := [])) (by decide) rfl rfl
  have e2 : s_eqN q_rF R (q_rkI R nr np lo mm x3 (nI dv) x5 x6 x7) := q_rkI_e
  have hB : ∀ l, l ≠ 2 → q_rkI R nr np lo mm x3 (nI dv) x5 x6 x7 f_l_size l = R f_l_size l := fun l hl => q_rkI_l hl
  generalize q_rkI R nr np lo mm x3 (nI dv) x5 x6 x7 = B at *
  have e0 := q_st_e (nk := nk) (nr := nr + 1) (np := np + mm + 1) (a := (B, RJ))
  have e3 : s_eqN (f_m_thrown :: f_l_size :: q_sT) B (s_up (q_st nk (nr + 1) (np + mm + 1) (B, RJ)).1 f_m_thrown 0 v) := (e0.1.mono (by decide)).trans (s_eqN.up (by decide))
  have eT : s_eqN (q_rF ++ (f_m_thrown :: f_l_size :: q_sT)) R (s_up (q_st nk (nr + 1) (np + mm + 1) (B, RJ)).1 f_m_thrown 0 v) := (e2.mono (by decide)).trans (e3.mono (by decide))
  have ez3 : s_up (q_st nk (nr + 1) (np + mm + 1) (B, RJ)).1 f_m_thrown 0 v f_l_size 2 = B f_l_size 2 := (s_up_F (by decide)).trans (e0.2 2 (by decide))
  have ez : ∀ l, l ≠ 2 → l ≠ 4 → s_up (q_st nk (nr + 1) (np + mm + 1) (B, RJ)).1 f_m_thrown 0 v f_l_size l = R f_l_size l := fun l h3 h4 => (s_up_F (by decide)).trans ((e0.2 l h4).trans (hB l h3))
  have eJ : ∀ F, h_JC.contains F = true → (q_st nk (nr + 1) (np + mm + 1) (B, RJ)).2 F = RJ F := fun F hF => v_qstJ F (v_dj.o (L := h_JC) (T := [j_m_allBegun, j_m_ended]) (by decide) hF)
  have hR := hb2 p4 (s_up (q_st nk (nr + 1) (np + mm + 1) (B, RJ)).1 f_m_thrown 0 v) c4 n4 x8 y8 (h_xT.xv x24 (fun _ => rfl) rfl) (eT _ (by decide)) (eT _ (by decide)) (hL4.eq (s_up_F (by decide)))
  have hWn : v_Wn (s_up (q_st nk (nr + 1) (np + mm + 1) (B, RJ)).1 f_m_thrown 0 v) nk = v_Wn I nk := by
    rw [h_Wn.N eT (by decide), h_Wn.N e (h_sub hTC (by decide))]
  have hT1 := hs9.thrown (x := v)
  generalize s_up (q_st nk (nr + 1) (np + mm + 1) (B, RJ)).1 f_m_thrown 0 v = I2 at *
  generalize (q_st nk (nr + 1) (np + mm + 1) (B, RJ)).2 = J2 at *
  have hS0 := hQ.1.1.1.1.1.1.2.2
  obtain ⟨h1, h2, h3, h4, h5, h6, h7⟩ := hQ
  obtain ⟨⟨l0, l1, l2, l3⟩, ⟨m1, m2, m3⟩, hF, m5, ⟨u1, u2, u3⟩, ⟨w2, w3⟩⟩ := h4
  have hbs4 : p4.2.2.2.2 = p1.2.2.2.2 := x24.2.trans x1.2.2.1
  have hpa4 : p4.2.2.1 T_PARR = p1.2.2.1 T_PARR := by
    funext i
    exact (xG2 T_PARR i rfl).2.2.trans (congrFun (x1.1 T_PARR (by decide)).2.2 i)
  have hv4 : ∀ t i, t ≠ T_ENTR → (s_Nr np (mm + 1) nr t i || s_NL 0 t i) = false → h_G2 2 t i = false → p4.2.1 t i = p.2.1 t i := fun t i g1 g2 g3 => (xG2 t i g3).2.1.trans (hvC t i g1 g2)
  have hvM : ∀ t i, h_G3 0 t i = false → (q_NR nr t i || q_N t i) = false → p4.2.1 t i = p.2.1 t i := fun t i g1 g2 => (x24.1 t i g2).2.1.trans (xG1 t i g1).2.1
  have key : (s_kT.all fun t => !([T_MRANK, T_MKNOB, T_MKEPT].contains t || q_kT.contains t) && decide (t ≠ T_LARR)) = true := by decide
  have htp : s_tp p4 (nr + 1) = np + (mm + 1) := by
    unfold s_tp
    rw [if_neg (Nat.succ_ne_zero nr), Nat.add_sub_cancel, hbs4, hpa4, hpr, hbr]
  have htp0 : s_tp p nr = np := hS0.symm
  refine h_L.of (w := w1) (h_endG (p := p1) (R := R) (RJ := RJ) hT1 (Nat.le_succ T) eT (by decide) eJ hbs4 hpa4 hn2e ((hD1.v2 xG2 x24.2).eq ⟨fun l hl => ez l (by omega) (by omega), fun F hF i => by rw [eT F (v_dj.o (L := s_cs) (by decide) (List.contains_iff_mem.mpr hF))]⟩) (hW.N eT (by decide)) ⟨⟨hLa0.xG xG2 (by decide) (by decide) (ez 0 (by decide) (by decide)), (l1.xG xG1 (by decide) (by decide) (el 1 (by decide))).xG xG2 (by decide) (by decide) (ez 1 (by decide) (by decide)), hLa2.xv x4.1 (by decide) (by decide) ez3, (l3.xG xG1 (by decide) (by decide) (el 3 (by decide))).xG xG2 (by decide) (by decide) (ez 3 (by decide) (by decide))⟩, ⟨fun j hj => (hvM _ j rfl rfl).trans (m1 j hj), ((ez 6 (by omega) (by omega)).trans (el 6 (by omega))).trans m2, ((ez 7 (by omega) (by omega)).trans (el 7 (by omega))).trans m3⟩, (hF.xG xG1 (fun _ => rfl) (fun l hl => by unfold h_G3 s_NL; rw [decide_eq_false (show ¬ l = 0 by omega)]; rfl) (fun _ => rfl) (fun l hl => el l (by omega))).xG xG2 (fun _ => rfl) (fun l hl => by unfold h_G2; rw [decide_eq_false (show ¬ l = 4 by omega), decide_eq_false (show ¬ l = 2 by omega)]; rfl) (fun _ => rfl) (fun l hl => ez l (by omega) (by omega)), ((ez 5 (by omega) (by omega)).trans (el 5 (by omega))).trans m5, ⟨fun t ht k hk => ?_, fun r hr => ⟨(hv4 _ r (by decide) (h_Nrr (by omega) (by decide) (by decide)) rfl).trans (u2 r (by omega)).1, (hv4 _ r (by decide) (h_Nrr (by omega) (by decide) (by decide)) rfl).trans (u2 r (by omega)).2⟩, fun i hi => ?_⟩, ⟨fun t ht k hk => ?_, fun r hr => ?_⟩⟩ hSB hR ?_) ((x24.1 _ 0 rfl).1.trans ex) ((x24.1 _ 0 rfl).1.trans em) hw hd hne
  · have k2 := List.all_eq_true.mp key t ht
    rw [Bool.and_eq_true, Bool.not_eq_true'] at k2
    refine (hv4 t k (fun z => by rw [z] at ht; revert ht; decide) ?_ ?_).trans (u1 t ht k hk)
    · unfold s_Nr s_Np s_NL
      rw [decide_eq_false (show ¬ t = T_PIPE from fun z => by rw [z] at ht; revert ht; decide), decide_eq_false (show ¬ t = T_RANK from fun z => by rw [z] at ht; revert ht; decide), decide_eq_false (show ¬ t = T_PARR from fun z => by rw [z] at ht; revert ht; decide), decide_eq_false (of_decide_eq_true k2.2)]
      rfl
    · unfold h_G2
      rw [k2.1, decide_eq_false (of_decide_eq_true k2.2)]
      rfl
  · rw [htp] at hi
    refine (hv4 _ i (by decide) ?_ rfl).trans (u3 i (by omega))
    unfold s_Nr s_Np
    rw [decide_eq_false (show ¬ i < np + (mm + 1) by omega), Bool.and_false]
    rfl
  · have n1 : t ≠ T_LARR := fun z => by rw [z] at ht; revert ht; decide
    have n2 : t ≠ T_MKEPT := fun z => by rw [z] at ht; revert ht; decide
    have n3 : t ≠ T_MRANK := fun z => by rw [z] at ht; revert ht; decide
    refine (hvM t k (h_kT3 ht) ?_).trans (w2 t ht k hk)
    unfold q_NR q_N8 s_NL q_N
    rw [decide_eq_false n1, decide_eq_false n2, decide_eq_false n3]
    rfl
  · refine (hvM _ r rfl ?_).trans (w3 r (by omega))
    unfold q_NR q_N8 s_NL q_N
    rw [decide_eq_false (show ¬ r = nr by omega), Bool.and_false]
    rfl
  · rw [hWn, hn2e, q3]
    exact h7.gr ⟨Nat.le_refl _, Nat.le_succ _, Nat.le_refl _⟩ hN.2.1.1 (by omega) (by omega) (by omega)
