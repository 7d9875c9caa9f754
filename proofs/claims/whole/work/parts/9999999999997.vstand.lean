/-! 9999999999997: what stands between calls -/
def h_N (t i : Nat) : Bool := q_N t i || decide (t = T_ENTR)
theorem h_Nf {t i : Nat} (h1 : t ≠ T_MKEPT) (h2 : t ≠ T_LARR) (h3 : t ≠ T_ENTR) : h_N t i = false := by unfold h_N; rw [q_N_t h1 h2, decide_eq_false h3]; rfl
theorem h_Nl {l : Nat} (h : l ≠ 4) : h_N T_LARR l = false := by unfold h_N q_N; rw [decide_eq_false h]; rfl
theorem s_xt.hN {p p' : e_Sp} (x : s_xt p p') : s_xv h_N p p' := x.xv.mono (fun _ _ h => (Bool.or_eq_false_iff.mp h).2)
theorem q_X.hN {p p' : e_Sp} (x : q_X p p') : s_xv h_N p p' := x.1.mono (fun _ _ h => (Bool.or_eq_false_iff.mp h).1)
theorem s_D.hN {p p' : e_Sp} {I : e_I} {nk nr : Nat} (h : s_D p I nk nr) (x : s_xv h_N p p') : s_D p' I nk nr := by
  have hx : ∀ t, t ≠ T_MKEPT → t ≠ T_LARR → t ≠ T_ENTR → p'.2.1 t = p.2.1 t := fun t h1 h2 h3 => by
    funext i
    exact (x.1 t i (h_Nf h1 h2 h3)).2.1
  have hl : p'.2.2.1 T_PARR = p.2.2.1 T_PARR := by
    funext i
    exact (x.1 _ i (h_Nf (by decide) (by decide) (by decide))).2.2
  have hb := x.2
  obtain ⟨⟨⟨a1, a2⟩, b1, b2, b3, b4⟩, c1, c2, c3⟩ := h
  refine ⟨⟨⟨fun t ht => by rw [hx t (fun z => by rw [z] at ht; revert ht; decide) (fun z => by rw [z] at ht; revert ht; decide) (fun z => by rw [z] at ht; revert ht; decide)]; exact a1 t ht, fun l hl9 => by rw [hx _ (by decide) (by decide) (by decide)]; exact a2 l hl9⟩, b1, b2, fun k hk => ?_, fun r hr => by rw [hx _ (by decide) (by decide) (by decide)]; exact b4 r hr⟩, fun r hr => ?_, by rw [hb, hl]; exact c2, fun k hk hk9 => ?_⟩
  · rw [hx T_KNOB (by decide) (by decide) (by decide), hx T_STOP (by decide) (by decide) (by decide), hx T_COUP (by decide) (by decide) (by decide)]
    exact b3 k hk
  · have := c1 r hr
    unfold s_Rk at this ⊢
    rw [hx T_RANK (by decide) (by decide) (by decide), hx T_PARR (by decide) (by decide) (by decide), hx T_PIPE (by decide) (by decide) (by decide), hl, hb]
    exact this
  · obtain ⟨d1, d2⟩ := c3 k hk hk9
    refine ⟨fun t ht => ?_, d2⟩
    rw [hx t (fun z => by rw [z] at ht; revert ht; decide) (fun z => by rw [z] at ht; revert ht; decide) (fun z => by rw [z] at ht; revert ht; decide)]
    exact d1 t ht
/-- places that are not used yet -/
def h_uC (p : e_Sp) (nk nr : Nat) : Prop := (∀ t, t ∈ s_kT → ∀ k, nk ≤ k → p.2.1 t k = false) ∧ (∀ r, nr ≤ r → p.2.1 T_RANK r = false ∧ p.2.1 T_PARR r = false) ∧ ∀ i, s_tp p nr ≤ i → p.2.1 T_PIPE i = false
def h_uM (p : e_Sp) (nk nr : Nat) : Prop := (∀ t, t ∈ T_MKNOB :: q_kT → ∀ k, nk ≤ k → p.2.1 t k = false) ∧ ∀ r, nr ≤ r → p.2.1 T_MRANK r = false
theorem h_tp {p p' : e_Sp} {nr : Nat} (h1 : p'.2.2.2.2 = p.2.2.2.2) (h2 : p'.2.2.1 T_PARR = p.2.2.1 T_PARR) : s_tp p' nr = s_tp p nr := by unfold s_tp; rw [h1, h2]
theorem s_xv.PARR {p p' : e_Sp} (x : s_xv h_N p p') : p'.2.2.1 T_PARR = p.2.2.1 T_PARR := by
  funext i
  exact (x.1 _ i (h_Nf (by decide) (by decide) (by decide))).2.2
theorem h_uC.x {p p' : e_Sp} {nk nr : Nat} (h : h_uC p nk nr) (x : s_xv h_N p p') : h_uC p' nk nr := by
  obtain ⟨h1, h2, h3⟩ := h
  refine ⟨fun t ht k hk => ?_, fun r hr => ?_, fun i hi => ?_⟩
  · rw [(x.1 t k (h_Nf (fun z => by rw [z] at ht; revert ht; decide) (fun z => by rw [z] at ht; revert ht; decide) (fun z => by rw [z] at ht; revert ht; decide))).2.1]
    exact h1 t ht k hk
  · rw [(x.1 T_RANK r (h_Nf (by decide) (by decide) (by decide))).2.1, (x.1 T_PARR r (h_Nf (by decide) (by decide) (by decide))).2.1]
    exact h2 r hr
  · rw [(x.1 T_PIPE i (h_Nf (by decide) (by decide) (by decide))).2.1]
    rw [h_tp x.2 x.PARR] at hi
    exact h3 i hi
theorem h_uM.x {p p' : e_Sp} {nk nr : Nat} (h : h_uM p nk nr) (x : s_xv h_N p p') : h_uM p' nk nr := by
  obtain ⟨h1, h2⟩ := h
  refine ⟨fun t ht k hk => ?_, fun r hr => ?_⟩
  · rw [(x.1 t k (h_Nf (fun z => by rw [z] at ht; revert ht; decide) (fun z => by rw [z] at ht; revert ht; decide) (fun z => by rw [z] at ht; revert ht; decide))).2.1]
    exact h1 t ht k hk
  · rw [(x.1 T_MRANK r (h_Nf (by decide) (by decide) (by decide))).2.1]
    exact h2 r hr
/-- the lists and the places -/
def h_SL (p : e_Sp) (I : e_I) (nk nr : Nat) : Prop := (s_La p I 0 nr ∧ s_La p I 1 nk ∧ s_La p I 2 nr ∧ s_La p I 3 nk) ∧ ((∀ j, j < 80 → p.2.1 T_MKEEP j = true) ∧ I f_l_size 6 = nI 32 ∧ I f_l_size 7 = nI 48) ∧ q_F p I ∧ I f_l_size 5 = nI 4 ∧ h_uC p nk nr ∧ h_uM p nk nr
theorem s_La.hN {p p' : e_Sp} {I I' : e_I} {l n : Nat} (h : s_La p I l n) (x : s_xv h_N p p') (hl : l ≠ 4) (e : I' f_l_size l = I f_l_size l) : s_La p' I' l n := h.xv x (h_Nf (by decide) (by decide) (by decide)) (h_Nl hl) e
theorem q_F.hN {p p' : e_Sp} {I I' : e_I} (h : q_F p I) (x : s_xv h_N p p') (hl : ∀ l, l ≠ 4 → I' f_l_size l = I f_l_size l) : q_F p' I' := by
  obtain ⟨h1, h2⟩ := h
  refine ⟨fun l hv => ?_, fun g hg => ?_⟩
  · rw [(x.1 T_LIST l (h_Nf (by decide) (by decide) (by decide))).2.1] at hv
    refine ⟨(h1 l hv).1, fun h8 => ?_⟩
    rw [hl l (by omega)]
    exact (h1 l hv).2 h8
  · obtain ⟨m, g1, g2, g3⟩ := h2 g hg
    exact ⟨m, g1, g2.hN x (by omega) (hl _ (by omega)), fun j hj => (x.1 T_MFRAME _ (h_Nf (by decide) (by decide) (by decide))).2.1.trans (g3 j hj)⟩
theorem h_SL.x {p p' : e_Sp} {I I' : e_I} {nk nr : Nat} (h : h_SL p I nk nr) (x : s_xv h_N p p') (hl : ∀ l, l ≠ 4 → I' f_l_size l = I f_l_size l) : h_SL p' I' nk nr := by
  obtain ⟨⟨a0, a1, a2, a3⟩, ⟨b1, b2, b3⟩, c1, c2, c3, c4⟩ := h
  exact ⟨⟨a0.hN x (by decide) (hl _ (by decide)), a1.hN x (by decide) (hl _ (by decide)), a2.hN x (by decide) (hl _ (by decide)), a3.hN x (by decide) (hl _ (by decide))⟩, ⟨fun j hj => (x.1 T_MKEEP j (h_Nf (by decide) (by decide) (by decide))).2.1.trans (b1 j hj), (hl 6 (by decide)).trans b2, (hl 7 (by decide)).trans b3⟩, c1.hN x hl, (hl 5 (by decide)).trans c2, c3.x x, c4.x x⟩
/-- the reference stands -/
def h_k3 (I : e_I) : Prop := ∀ k, k < 3 → ¬ I f_mk_kind k = 115
def h_SB (p : e_Sp) (I : e_I) (nk nr np : Nat) : Prop := q_D p I nk nr np ∧ v_Fr np I ∧ v_Rg nr np I ∧ v_rr I nk nr ∧ h_k3 I
theorem q_D.hN {p p' : e_Sp} {I : e_I} {nk nr np : Nat} (h : q_D p I nk nr np) (x : s_xv h_N p p') : q_D p' I nk nr np := h.v x (fun t ht => h_Nf (fun z => by rw [z] at ht; revert ht; decide) (fun z => by rw [z] at ht; revert ht; decide) (fun z => by rw [z] at ht; revert ht; decide)) (fun l _ => h_Nf (by decide) (by decide) (by decide)) (fun k _ => ⟨h_Nf (by decide) (by decide) (by decide), fun t ht => h_Nf (fun z => by rw [z] at ht; revert ht; decide) (fun z => by rw [z] at ht; revert ht; decide) (fun z => by rw [z] at ht; revert ht; decide)⟩) (fun r _ => h_Nf (by decide) (by decide) (by decide))
def h_frF : List Nat := v_frZ ++ [f_m_closedSince, f_m_fault]
def h_sbF : List Nat := q_ms2 ++ (v_RgM ++ [f_mk_kind, f_mk_rows, f_mk_ranks])
theorem v_Fr.of {np : Nat} {I I1 : e_I} (h : v_Fr np I) (e : ∀ F q, h_frF.contains F = true → np ≤ q → I1 F q = I F q) : v_Fr np I1 := fun q h1 h2 => by
  obtain ⟨g1, g2, g3⟩ := h q h1 h2
  refine ⟨fun F hF => ?_, ?_, ?_⟩
  · rw [e F q (by unfold h_frF; rw [List.contains_append, hF]; rfl) h1]; exact g1 F hF
  · rw [e _ q (by decide) h1]; exact g2
  · rw [e _ q (by decide) h1]; exact g3
/-- what little changes leave standing -/
theorem h_SB.of {p p' : e_Sp} {I I1 : e_I} {nk nr np : Nat} {T : List Nat} (h : h_SB p I nk nr np) (x : s_xv h_N p p') (e : s_eqN T I I1) (hT : v_dj h_sbF T = true) (h3 : I1 f_l_size 3 = I f_l_size 3) (h2 : I1 f_l_size 2 = I f_l_size 2) (hf : ∀ F q, h_frF.contains F = true → np ≤ q → I1 F q = I F q) : h_SB p' I1 nk nr np := by
  obtain ⟨a, b, c, d, f⟩ := h
  refine ⟨(a.hN x).w (fun _ _ _ => rfl) (fun F hF => e F (v_dj.o hT (List.contains_iff_mem.mpr (List.mem_append_left _ hF)))) h3 h2, b.of hf, c.N e (h_sub hT (by decide)), d.N e (h_sub hT (by decide)), fun k hk => ?_⟩
  rw [e f_mk_kind (v_dj.o hT (by decide))]
  exact f k hk
theorem h_SB.N {p p' : e_Sp} {I I1 : e_I} {nk nr np : Nat} {T : List Nat} (h : h_SB p I nk nr np) (x : s_xv h_N p p') (e : s_eqN T I I1) (hT : v_dj (h_frF ++ h_sbF) T = true) (h3 : I1 f_l_size 3 = I f_l_size 3) (h2 : I1 f_l_size 2 = I f_l_size 2) : h_SB p' I1 nk nr np := h.of x e (h_sub hT (by decide)) h3 h2 (fun F q hF _ => by
  rw [e F (v_dj.o hT (by rw [List.contains_append, hF]; rfl))])
theorem h_spr {b : e_I × e_Jt} : ∀ n F i, [f_m_speaks, f_m_begun].contains F = true → n ≤ i → (s_run q_sp 0 n b).1 F i = b.1 F i := by
  intro n
  induction n with
  | zero => intro F i _ _; rfl
  | succ n ih =>
    intro F i hF hi
    rw [s_run_l, Nat.zero_add]
    exact (v_qspa F i hF (by omega)).trans (ih F i hF (by omega))
theorem h_frst {nk nr np q F : Nat} {I : e_I} {J : e_Jt} (hF : h_frF.contains F = true) (hq : np ≤ q) : (q_st nk nr np (I, J)).1 F q = I F q := by
  have e1 : q_rc nk nr np I F q = I F q := by rw [s_eqN.qrc F (v_dj.o (L := h_frF) (by decide) hF)]
  have e2 : ∀ M : e_I, s_run q_stA 0 np M F q = M F q := fun M => by
    by_cases c : q_bT.contains F = true
    · rw [v_stAr np F q c, if_neg (by omega)]
    · rw [s_eqN.run v_stAN np 0 M F (by rw [List.contains_append, Bool.eq_false_iff.mpr c, v_dj.o (L := h_frF) (T := v_qA) (by decide) hF]; rfl)]
  have e3 : ∀ M : e_I, s_run q_mv 0 np M F q = M F q := fun M => by
    by_cases c : v_oT.contains F = true
    · rw [v_qmvr np F q c, if_neg (by omega)]
    · rw [s_eqN.run s_eqN.qmv np 0 M F (Bool.eq_false_iff.mpr c)]
  have e4 : ∀ M : e_I, q_bws nk np M F q = M F q := fun M => by rw [s_eqN.qbws F (v_dj.o (L := h_frF) (by decide) hF)]
  show (s_run q_sp 0 np (q_bws nk np (s_run q_mv 0 np (s_run q_stA 0 np (q_rc nk nr np I))), J)).1 F q = I F q
  have e5 : ∀ b : e_I × e_Jt, (s_run q_sp 0 np b).1 F q = b.1 F q := fun b => by
    by_cases c : [f_m_begun, f_m_speaks].contains F = true
    · refine h_spr np F q ?_ hq
      rw [← c]
      simp only [List.contains_cons, List.contains_nil, Bool.or_false]
      exact Bool.or_comm _ _
    · rw [s_eqN.runP s_eqN.qsp np 0 b F (Bool.eq_false_iff.mpr c)]
  rw [e5]
  dsimp only
  rw [e4, e3, e2, e1]
/-- behind settling -/
theorem h_SB.st {p p' : e_Sp} {I : e_I} {J : e_Jt} {nk nr np : Nat} {x : Int32} (h : h_SB p I nk nr np) (hx : s_xv h_N p p') : h_SB p' (s_up (q_st nk nr np (I, J)).1 f_m_thrown 0 x) nk nr np := by
  have e := q_st_e (nk := nk) (nr := nr) (np := np) (a := (I, J))
  have h1 : h_SB p' (q_st nk nr np (I, J)).1 nk nr np := h.of hx e.1 (by decide) (e.2 3 (by decide)) (e.2 2 (by decide)) (fun F q hF hq => h_frst hF hq)
  exact h1.N s_xv.rfl' (s_eqN.up (T := [f_m_thrown]) (by decide)) (by decide) (s_up_F (by decide)) (s_up_F (by decide))
