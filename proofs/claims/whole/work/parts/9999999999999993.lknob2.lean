/-! 9999999999999993: a knob is made: the reference's half -/
theorem h_NK2 {nk t i : Nat} (h : h_G2 3 t i = false) : (q_NK nk t i || q_N t i) = false := by
  unfold h_G2 at h
  rw [Bool.or_eq_false_iff, Bool.or_eq_false_iff] at h
  obtain ⟨⟨h1, h2⟩, h3⟩ := h
  have a1 : t ≠ T_MKNOB := fun z => by rw [z] at h1; exact absurd h1 (by decide)
  have a2 : t ≠ T_MKEPT := fun z => by rw [z] at h1; exact absurd h1 (by decide)
  unfold q_NK q_N6 s_NL q_N
  rw [decide_eq_false a1, h2, decide_eq_false a2]
  by_cases c : t = T_LARR
  · rw [decide_eq_true c] at h3 ⊢
    simp only [Bool.true_and, Bool.or_eq_false_iff] at h3
    rw [h3.1, h3.2]
    rfl
  · rw [decide_eq_false c]
    rfl
theorem h_sgk {t : Nat} (h : s_sg t = true) : t ≠ T_MKNOB ∧ q_kT.contains t = false ∧ t ≠ T_LARR ∧ t ≠ T_MKEPT := by
  refine ⟨fun z => ?_, ?_, fun z => ?_, fun z => ?_⟩
  · rw [z] at h; revert h; decide
  · cases e : q_kT.contains t
    · rfl
    · have h2 : (q_kT.all fun t => !s_sg t) = true := by decide
      have := List.all_eq_true.mp h2 t (List.contains_iff_mem.mp e)
      rw [h] at this
      cases this
  · rw [z] at h; revert h; decide
  · rw [z] at h; revert h; decide
theorem h_kSB {p' p4 : e_Sp} {R : e_I} {nk nr np dv : Nat} {kd z s9 t9 : Int32} (h : h_SB p' R nk nr np) (h40 : nk < 40) (h3 : 3 ≤ nk) (hdv : dv < 3) (x : s_xv (fun t i => q_NK nk t i || q_N t i) p' p4) (hk : ∀ t, t ∈ T_MKNOB :: q_kT → p4.2.1 t nk = true) : h_SB p4 (s_adI (q_nk R nk kd (nI dv) z s9 t9) 3 nk) (nk + 1) nr np := by
  obtain ⟨d1, d2, d3, d4, d5⟩ := h
  have hN0 : ∀ t i, t ≠ T_MKNOB → q_kT.contains t = false → t ≠ T_LARR → t ≠ T_MKEPT → (q_NK nk t i || q_N t i) = false := fun t i h1 h2 h3 h4 => by
    unfold q_NK q_N6 s_NL q_N
    rw [decide_eq_false h1, h2, decide_eq_false h3, decide_eq_false h4]
    rfl
  have hN1 : ∀ t k, k < nk → t ≠ T_LARR → t ≠ T_MKEPT → (q_NK nk t k || q_N t k) = false := fun t k hk h3 h4 => by
    unfold q_NK q_N6 s_NL q_N
    rw [decide_eq_false (show ¬ k = nk by omega), decide_eq_false h3, decide_eq_false h4, Bool.and_false]
    rfl
  have ea : s_eqN [f_l_modCount, f_l_size] (q_nk R nk kd (nI dv) z s9 t9) (s_adI (q_nk R nk kd (nI dv) z s9 t9) 3 nk) := v_adN
  have e1 : s_eqN v_gM R (q_nk R nk kd (nI dv) z s9 t9) := v_nkN
  have e2 : s_eqN v_gM R (s_adI (q_nk R nk kd (nI dv) z s9 t9) 3 nk) := e1.trans (ea.mono (by decide))
  obtain ⟨-, w2, -, -, -, -, -, -, w9, -, w11⟩ := v_nkv (I := R) (j := nk) (x := kd) (y := nI dv) (z := z) (s := s9) (t := t9)
  have ag : ∀ k, k < nk → v_ag v_mF1 v_mF4 v_mF61 k R (s_adI (q_nk R nk kd (nI dv) z s9 t9) 3 nk) := fun k hk => (v_nkag (by omega)).trans (v_ag.off ea (by decide) (by decide) (by decide))
  have q1 : q_D p4 R nk nr np := d1.v x (fun t ht => hN0 t 0 (h_sgk ht).1 (h_sgk ht).2.1 (h_sgk ht).2.2.1 (h_sgk ht).2.2.2) (fun l _ => hN0 _ _ (by decide) (by decide) (by decide) (by decide)) (fun k hk => ⟨hN1 _ _ hk (by decide) (by decide), fun t ht => hN1 _ _ hk (fun z => by rw [z] at ht; revert ht; decide) (fun z => by rw [z] at ht; revert ht; decide)⟩) (fun r _ => hN0 _ _ (by decide) (by decide) (by decide) (by decide))
  have q2 : q_D p4 (q_nk R nk kd (nI dv) z s9 t9) nk nr np := q1.nk s_xv.rfl'
  refine ⟨q2.addK h40 ⟨hk _ (List.mem_cons_self ..), fun t ht => hk t (List.mem_cons_of_mem _ ht), ⟨dv, hdv, w2⟩, ⟨0, by omega, w9⟩, .inl w11⟩, d2.of (fun F q hF _ => by rw [e2 F (v_dj.o (L := h_frF) (by decide) hF)]), d3.N e2 (by decide), fun k hk hs i hi => ?_, fun k hk => ?_⟩
  · by_cases c : k = nk
    · exfalso
      rw [ea _ (by decide), c, w9] at hi
      exact absurd hi (Nat.not_lt_zero i)
    · have hk' : k < nk := by omega
      rw [(ag k hk').1 f_mk_kind (by decide)] at hs
      rw [(ag k hk').1 f_mk_rows (by decide)] at hi
      obtain ⟨mm, hmm, hrow⟩ := (d1.2.2.2.2.1 k hk').2.2.2.1
      have hi4 : i < 4 := by
        rw [hrow, nI_clamp (by omega)] at hi
        omega
      rw [(ag k hk').2.1 f_mk_ranks (by decide) i hi4]
      exact d4 k hk' hs i hi
  · rw [(ag k (by omega)).1 f_mk_kind (by decide)]
    exact d5 k hk
theorem h_gG {T : Nat} {p p' : e_Sp} {a : e_I × e_Jt} {R : e_I} {RJ : e_Jt} {c' : Nat × Nat} {nk nr np n : Nat} {t : Nat → Nat} {s m od' ob' : Nat} (h1 : v_Sim p nk nr np n t s m T a (R, RJ)) (h5 : h_SB p' R nk nr np) (h6 : h_R p' R c' od' ob' n) (h3 : 3 ≤ nk) (hn : od' + n ≤ 700000) : ∃ a' b', q_G p' R c' nk nr np a' b' n ∧ a' ≤ 800000 ∧ c'.1 ≤ 800000 ∧ ∀ p2 I' c2 n' x y, h_xT p' p2 → I' f_tsize = R f_tsize → I' f_entries = R f_entries → q_L p2 I' c2 (a' + x) (b' + y) n' → h_R p2 I' c2 (od' + x) (ob' + y) n' := by
  obtain ⟨a', b', hL, ha, hc, hb⟩ := h6.ql hn
  exact ⟨a', b', ⟨h5.1, h3, h1.1.1.2.1.2.2.2.1, h1.2.2.2.2.2.1.2.1 _ (by decide), h1.2.2.2.2.2.1.2.1 _ (by decide), hL, by omega, by omega⟩, ha, hc, hb⟩
theorem h_WnK {R : e_I} {nk : Nat} {kd x z s9 t9 : Int32} : v_Wn (s_adI (q_nk R nk kd x z s9 t9) 3 nk) (nk + 1) = v_Wn R nk := by
  have ea : s_eqN [f_l_modCount, f_l_size] (q_nk R nk kd x z s9 t9) (s_adI (q_nk R nk kd x z s9 t9) 3 nk) := v_adN
  have ag : ∀ k, k < nk → v_ag v_mF1 v_mF4 v_mF61 k R (s_adI (q_nk R nk kd x z s9 t9) 3 nk) := fun k hk => (v_nkag (by omega)).trans (v_ag.off ea (by decide) (by decide) (by decide))
  obtain ⟨-, -, -, -, -, -, -, -, w9, -, -⟩ := v_nkv (I := R) (j := nk) (x := kd) (y := x) (z := z) (s := s9) (t := t9)
  have h0 : (if s_adI (q_nk R nk kd x z s9 t9) 3 nk f_mk_kind nk = 115 then (s_adI (q_nk R nk kd x z s9 t9) 3 nk f_mk_rows nk).toNatClampNeg else 0) = 0 := by
    rw [ea f_mk_rows (by decide), w9]
    split <;> rfl
  show s_sum nk _ + (if s_adI (q_nk R nk kd x z s9 t9) 3 nk f_mk_kind nk = 115 then (s_adI (q_nk R nk kd x z s9 t9) 3 nk f_mk_rows nk).toNatClampNeg else 0) = _
  rw [h0, Nat.add_zero]
  unfold v_Wn
  exact n_congr (fun k hk => by rw [(ag k hk).1 f_mk_kind (by decide), (ag k hk).1 f_mk_rows (by decide)])
theorem h_knob2 {T ax am ao ad : Nat} {p p1 p' p2 p4 : e_Sp} {I R : e_I} {J RJ : e_Jt} {c c' c4 : Nat × Nat} {w1 : e_Rw1} {nk nr np n n4 a2 b2 x9 y9 x8 y8 dv : Nat} {t : Nat → Nat} {s m od ob : Nat} {TC : List Nat} {kd z s9 t9 v : Int32} (hQ : h_Q T p (I, J) I J c nk nr np n t s m od ob) (hT : T < 512) (h40 : nk < 40) (hdv : dv < 3) (hxv : s_xv (s_NK nk) p p1) (x1 : s_xt p1 p') (e : s_eqN TC I R) (hTC : v_dj (h_M ++ (h_frF ++ h_sbF)) TC = true) (el : ∀ l, l ≠ 1 → R f_l_size l = I f_l_size l) (hW : v_Wd (nk + 1) R) (hD1 : s_D p' R (nk + 1) nr) (hLa1 : s_La p' R 1 (nk + 1)) (hx9 : x9 ≤ 20) (hy9 : y9 ≤ 400) (hx8 : x8 ≤ 20) (hy8 : y8 ≤ 400) (hS1 : v_Sim p nk nr np n t s m T (I, J) (R, RJ)) (hSB1 : h_SB p' R nk nr np) (hsim : ∃ n' t', n' ≤ n + np ∧ (¬ R f_m_recording 0 = 114 → n' = n) ∧ v_Sim p (nk + 1) nr np n' t' s m T (R, RJ) (q_st (nk + 1) nr np (s_adI (q_nk R nk kd (nI dv) z s9 t9) 3 nk, RJ))) (hxv2 : s_xv (q_NK nk) p' p2) (hkt : ∀ t, t ∈ T_MKNOB :: q_kT → p2.2.1 t nk = true) (hLa3 : s_La p2 (s_adI (q_nk R nk kd (nI dv) z s9 t9) 3 nk) 3 (nk + 1)) (x4 : q_X p2 p4) (hL4 : q_L p4 (q_st (nk + 1) nr np (s_adI (q_nk R nk kd (nI dv) z s9 t9) 3 nk, RJ)).1 c4 (a2 + x8) (b2 + y8) n4) (hn4 : n4 ≤ n + np) (hb2 : ∀ p2 I' c2 n' x y, h_xT p' p2 → I' f_tsize = R f_tsize → I' f_entries = R f_entries → q_L p2 I' c2 (a2 + x) (b2 + y) n' → h_R p2 I' c2 (od + x9 + x) (ob + y9 + y) n') (ex : p'.1 T_HALL 0 = ax) (em : p'.1 T_MODEL 0 = am) (hw : ∃ f, w1 ao = some (103, 1, f)) (hd : ∃ f, w1 ad = some (104, 1, f)) (hne : ao ≠ ad) : h_L (T + 1) ax am ao ad (p4, s_up (q_st (nk + 1) nr np (s_adI (q_nk R nk kd (nI dv) z s9 t9) 3 nk, RJ)).1 f_m_thrown 0 v, (q_st (nk + 1) nr np (s_adI (q_nk R nk kd (nI dv) z s9 t9) 3 nk, RJ)).2, c4, w1) := by
  have hN := hQ.nums (by omega)
  obtain ⟨n', t', q1, q2, hs9⟩ := hsim
  have q3 := a_knob0 hS1 hs9 q2 (by omega) (by omega)
  have hn2e : n4 = n' := by
    have w1 := hs9.1.1.2.2.1.2.1.1.2.1
    rw [hL4.n] at w1
    exact (nI_eq (by omega) (by omega)).mp w1
  obtain ⟨xG1, hbs, hpa, -⟩ := h_kC hxv x1
  have x24 : s_xv (fun t i => q_NK nk t i || q_N t i) p' p4 := (hxv2.mono (fun t i h => (Bool.or_eq_false_iff.mp h).1)).trans (x4.1.mono (fun t i h => (Bool.or_eq_false_iff.mp h).2))
  have xG2 : h_xG (h_G2 3) p' p4 := fun t i h => x24.1 t i (h_NK2 h)
  have hWnK : v_Wn (s_adI (q_nk R nk kd (nI dv) z s9 t9) 3 nk) (nk + 1) = v_Wn R nk := h_WnK
  have hk4 : ∀ t, t ∈ T_MKNOB :: q_kT → p4.2.1 t nk = true := fun t ht => ((x4.1.1 t nk (q_N_t (fun z => by rw [z] at ht; revert ht; decide) (fun z => by rw [z] at ht; revert ht; decide))).2.1).trans (hkt t ht)
  have hSB := (h_kSB (kd := kd) (z := z) (s9 := s9) (t9 := t9) hSB1 h40 hN.2.1.1 hdv x24 hk4).st (J := RJ) (x := v) s_xv.rfl'
  have ea : s_eqN [f_l_modCount, f_l_size] (q_nk R nk kd (nI dv) z s9 t9) (s_adI (q_nk R nk kd (nI dv) z s9 t9) 3 nk) := v_adN
  have e1 : s_eqN v_gM R (q_nk R nk kd (nI dv) z s9 t9) := v_nkN
  have e2 : s_eqN v_gM R (s_adI (q_nk R nk kd (nI dv) z s9 t9) 3 nk) := e1.trans (ea.mono (by decide))
  have hB : ∀ l, l ≠ 3 → s_adI (q_nk R nk kd (nI dv) z s9 t9) 3 nk f_l_size l = R f_l_size l := fun l hl => (s_adI_n hl).trans (congrFun (q_nk_F (by decide)) l)
  generalize s_adI (q_nk R nk kd (nI dv) z s9 t9) 3 nk = B at *
  have e0 := q_st_e (nk := nk + 1) (nr := nr) (np := np) (a := (B, RJ))
  have e3 : s_eqN (f_m_thrown :: f_l_size :: q_sT) B (s_up (q_st (nk + 1) nr np (B, RJ)).1 f_m_thrown 0 v) := (e0.1.mono (by decide)).trans (s_eqN.up (by decide))
  have eT : s_eqN (v_gM ++ (f_m_thrown :: f_l_size :: q_sT)) R (s_up (q_st (nk + 1) nr np (B, RJ)).1 f_m_thrown 0 v) := (e2.mono (by decide)).trans (e3.mono (by decide))
  have ez3 : s_up (q_st (nk + 1) nr np (B, RJ)).1 f_m_thrown 0 v f_l_size 3 = B f_l_size 3 := (s_up_F (by decide)).trans (e0.2 3 (by decide))
  have ez : ∀ l, l ≠ 3 → l ≠ 4 → s_up (q_st (nk + 1) nr np (B, RJ)).1 f_m_thrown 0 v f_l_size l = R f_l_size l := fun l h3 h4 => (s_up_F (by decide)).trans ((e0.2 l h4).trans (hB l h3))
  have eJ : ∀ F, h_JC.contains F = true → (q_st (nk + 1) nr np (B, RJ)).2 F = RJ F := fun F hF => v_qstJ F (v_dj.o (L := h_JC) (T := [j_m_allBegun, j_m_ended]) (by decide) hF)
  have hR := hb2 p4 (s_up (q_st (nk + 1) nr np (B, RJ)).1 f_m_thrown 0 v) c4 n4 x8 y8 (h_xT.xv x24 (fun _ => rfl) rfl) (eT _ (by decide)) (eT _ (by decide)) (hL4.eq (s_up_F (by decide)))
  have hWn : v_Wn (s_up (q_st (nk + 1) nr np (B, RJ)).1 f_m_thrown 0 v) (nk + 1) = v_Wn I nk := by
    rw [h_Wn.N e3 (by decide), hWnK, h_Wn.N e (h_sub hTC (by decide))]
  have hT1 := hs9.thrown (x := v)
  generalize s_up (q_st (nk + 1) nr np (B, RJ)).1 f_m_thrown 0 v = I2 at *
  generalize (q_st (nk + 1) nr np (B, RJ)).2 = J2 at *
  obtain ⟨h1, h2, h3, h4, h5, h6, h7⟩ := hQ
  obtain ⟨⟨l0, l1, l2, l3⟩, ⟨m1, m2, m3⟩, hF, m5, ⟨u1, u2, u3⟩, ⟨w2, w3⟩⟩ := h4
  have hbs4 : p4.2.2.2.2 = p.2.2.2.2 := x24.2.trans hbs
  have hpa4 : p4.2.2.1 T_PARR = p.2.2.1 T_PARR := by
    funext i
    exact (xG2 T_PARR i rfl).2.2.trans (congrFun hpa i)
  have hvC : ∀ t i, t ≠ T_ENTR → s_NK nk t i = false → h_G2 3 t i = false → p4.2.1 t i = p.2.1 t i := fun t i g1 g2 g3 => (xG2 t i g3).2.1.trans ((congrFun (x1.1 t (decide_eq_false g1)).2.1 i).trans (hxv.1 t i g2).2.1)
  have hvM : ∀ t i, h_G3 1 t i = false → (q_NK nk t i || q_N t i) = false → p4.2.1 t i = p.2.1 t i := fun t i g1 g2 => (x24.1 t i g2).2.1.trans (xG1 t i g1).2.1
  have key : (s_kT.all fun t => !([T_MRANK, T_MKNOB, T_MKEPT].contains t || q_kT.contains t) && decide (t ≠ T_LARR)) = true := by decide
  have key2 : (q_kT.all fun t => !([T_ENTR, T_RANK, T_PARR, T_PIPE].contains t || s_kT.contains t) && decide (t ≠ T_LARR)) = true := by decide
  refine h_L.of (w := w1) (h_endG (p := p) (R := R) (RJ := RJ) hT1 (Nat.le_succ T) eT (by decide) eJ hbs4 hpa4 hn2e ((hD1.v2 xG2 x24.2).eq ⟨fun l hl => ez l (by omega) (by omega), fun F hF i => by rw [eT F (v_dj.o (L := s_cs) (by decide) (List.contains_iff_mem.mpr hF))]⟩) (hW.N eT (by decide)) ⟨⟨(l0.xG xG1 (by decide) (by decide) (el 0 (by decide))).xG xG2 (by decide) (by decide) (ez 0 (by decide) (by decide)), hLa1.xG xG2 (by decide) (by decide) (ez 1 (by decide) (by decide)), (l2.xG xG1 (by decide) (by decide) (el 2 (by decide))).xG xG2 (by decide) (by decide) (ez 2 (by decide) (by decide)), hLa3.xv x4.1 (by decide) (by decide) ez3⟩, ⟨fun j hj => (hvM _ j rfl rfl).trans (m1 j hj), ((ez 6 (by omega) (by omega)).trans (el 6 (by omega))).trans m2, ((ez 7 (by omega) (by omega)).trans (el 7 (by omega))).trans m3⟩, (hF.xG xG1 (fun _ => rfl) (fun l hl => by unfold h_G3 s_NL; rw [decide_eq_false (show ¬ l = 1 by omega)]; rfl) (fun _ => rfl) (fun l hl => el l (by omega))).xG xG2 (fun _ => rfl) (fun l hl => by unfold h_G2; rw [decide_eq_false (show ¬ l = 4 by omega), decide_eq_false (show ¬ l = 3 by omega)]; rfl) (fun _ => rfl) (fun l hl => ez l (by omega) (by omega)), ((ez 5 (by omega) (by omega)).trans (el 5 (by omega))).trans m5, ⟨fun t ht k hk => ?_, fun r hr => ⟨(hvC _ r (by decide) rfl rfl).trans (u2 r hr).1, (hvC _ r (by decide) rfl rfl).trans (u2 r hr).2⟩, fun i hi => ?_⟩, ⟨fun t ht k hk => ?_, fun r hr => (hvM _ r rfl rfl).trans (w3 r hr)⟩⟩ hSB hR ?_) ((x24.1 _ 0 rfl).1.trans ex) ((x24.1 _ 0 rfl).1.trans em) hw hd hne
  · have k2 := List.all_eq_true.mp key t ht
    rw [Bool.and_eq_true, Bool.not_eq_true'] at k2
    refine (hvC t k (fun z => by rw [z] at ht; revert ht; decide) ?_ ?_).trans (u1 t ht k (by omega))
    · unfold s_NK s_Nk s_NL
      rw [decide_eq_false (show ¬ k = nk by omega), decide_eq_false (of_decide_eq_true k2.2), Bool.and_false]
      rfl
    · unfold h_G2
      rw [k2.1, decide_eq_false (of_decide_eq_true k2.2)]
      rfl
  · rw [h_tp hbs4 hpa4] at hi
    exact (hvC _ i (by decide) rfl rfl).trans (u3 i hi)
  · have n1 : t ≠ T_LARR := fun z => by rw [z] at ht; revert ht; decide
    have n2 : t ≠ T_MKEPT := fun z => by rw [z] at ht; revert ht; decide
    refine (hvM t k ?_ ?_).trans (w2 t ht k (by omega))
    · rcases List.mem_cons.mp ht with z | z
      · rw [z]; rfl
      · have k2 := List.all_eq_true.mp key2 t z
        rw [Bool.and_eq_true, Bool.not_eq_true'] at k2
        unfold h_G3 s_NL
        rw [k2.1, decide_eq_false (of_decide_eq_true k2.2)]
        rfl
    · unfold q_NK q_N6 s_NL q_N
      rw [decide_eq_false (show ¬ k = nk by omega), decide_eq_false n1, decide_eq_false n2, Bool.and_false]
      rfl
  · rw [hWn, hn2e, q3]
    exact h7.gr ⟨Nat.le_succ _, Nat.le_refl _, Nat.le_refl _⟩ hN.2.1.1 (by omega) (by omega) (by omega)
