/-! 999999999999996: shapes that grow -/
/-- the places of the reference's growth, of the class' growth -/
def h_G2 (l t i : Nat) : Bool := [T_MRANK, T_MKNOB, T_MKEPT].contains t || q_kT.contains t || (decide (t = T_LARR) && (decide (i = 4) || decide (i = l)))
def h_G3 (l t i : Nat) : Bool := [T_ENTR, T_RANK, T_PARR, T_PIPE].contains t || s_kT.contains t || s_NL l t i
def h_xG (N : Nat → Nat → Bool) (p p' : e_Sp) : Prop := ∀ t i, N t i = false → p'.1 t i = p.1 t i ∧ p'.2.1 t i = p.2.1 t i ∧ p'.2.2.1 t i = p.2.2.1 t i
theorem h_xG.trans {N : Nat → Nat → Bool} {p p' p'' : e_Sp} (h : h_xG N p p') (h' : h_xG N p' p'') : h_xG N p p'' := fun t i hN => ⟨(h' t i hN).1.trans (h t i hN).1, (h' t i hN).2.1.trans (h t i hN).2.1, (h' t i hN).2.2.trans (h t i hN).2.2⟩
theorem h_xG.mono {N N' : Nat → Nat → Bool} {p p' : e_Sp} (h : h_xG N p p') (hN : ∀ t i, N' t i = false → N t i = false) : h_xG N' p p' := fun t i hi => h t i (hN t i hi)
theorem h_sg2 {t l i : Nat} (h : s_sg t = true) : h_G2 l t i = false := by
  have key : (e_SG.all fun t => !([T_MRANK, T_MKNOB, T_MKEPT].contains t || q_kT.contains t) && decide (t ≠ T_LARR)) = true := by decide
  have := List.all_eq_true.mp key t (List.contains_iff_mem.mp h)
  rw [Bool.and_eq_true, Bool.not_eq_true'] at this
  unfold h_G2
  rw [this.1, decide_eq_false (of_decide_eq_true this.2)]
  rfl
theorem h_sg3 {t l i : Nat} (h : s_sg t = true) : h_G3 l t i = false := by
  have key : (e_SG.all fun t => !([T_ENTR, T_RANK, T_PARR, T_PIPE].contains t || s_kT.contains t) && decide (t ≠ T_LARR)) = true := by decide
  have := List.all_eq_true.mp key t (List.contains_iff_mem.mp h)
  rw [Bool.and_eq_true, Bool.not_eq_true'] at this
  unfold h_G3 s_NL
  rw [this.1, decide_eq_false (of_decide_eq_true this.2)]
  rfl
theorem s_D.v2 {p p' : e_Sp} {I : e_I} {nk nr l : Nat} (h : s_D p I nk nr) (x : h_xG (h_G2 l) p p') (hb : p'.2.2.2.2 = p.2.2.2.2) : s_D p' I nk nr := by
  have hx : ∀ t, (∀ i, h_G2 l t i = false) → p'.2.1 t = p.2.1 t := fun t h1 => by
    funext i
    exact (x t i (h1 i)).2.1
  have hl : p'.2.2.1 T_PARR = p.2.2.1 T_PARR := by
    funext i
    exact (x _ i rfl).2.2
  obtain ⟨⟨⟨a1, a2⟩, b1, b2, b3, b4⟩, c1, c2, c3⟩ := h
  refine ⟨⟨⟨fun t ht => by rw [hx t (fun i => h_sg2 ht)]; exact a1 t ht, fun l hl9 => by rw [hx _ (fun _ => rfl)]; exact a2 l hl9⟩, b1, b2, fun k hk => ?_, fun r hr => by rw [hx _ (fun _ => rfl)]; exact b4 r hr⟩, fun r hr => ?_, by rw [hb, hl]; exact c2, fun k hk hk9 => ?_⟩
  · rw [hx T_KNOB (fun _ => rfl), hx T_STOP (fun _ => rfl), hx T_COUP (fun _ => rfl)]
    exact b3 k hk
  · have := c1 r hr
    unfold s_Rk at this ⊢
    rw [hx T_RANK (fun _ => rfl), hx T_PARR (fun _ => rfl), hx T_PIPE (fun _ => rfl), hl, hb]
    exact this
  · obtain ⟨d1, d2⟩ := c3 k hk hk9
    refine ⟨fun t ht => ?_, d2⟩
    have key : (s_sT.all fun t => !([T_MRANK, T_MKNOB, T_MKEPT].contains t || q_kT.contains t) && decide (t ≠ T_LARR)) = true := by decide
    have k2 := List.all_eq_true.mp key t ht
    rw [Bool.and_eq_true, Bool.not_eq_true'] at k2
    rw [hx t (fun i => by unfold h_G2; rw [k2.1, decide_eq_false (of_decide_eq_true k2.2)]; rfl)]
    exact d1 t ht
theorem q_D.v3 {p p' : e_Sp} {I : e_I} {nk nr np l : Nat} (h : q_D p I nk nr np) (x : h_xG (h_G3 l) p p') : q_D p' I nk nr np := by
  obtain ⟨⟨a1, a2⟩, b1, b2, b3, b4, b5, b6⟩ := h
  refine ⟨⟨fun t ht => ((x t 0 (h_sg3 ht)).2.1).trans (a1 t ht), fun l hl => ((x T_LIST l rfl).2.1).trans (a2 l hl)⟩, b1, b2, b3, fun k hk => ?_, fun r hr => ?_, b6⟩
  · obtain ⟨g1, g2, g3⟩ := b4 k hk
    refine ⟨(x T_MKNOB k rfl).2.1.trans g1, fun t ht => ?_, g3⟩
    have key : (q_kT.all fun t => !([T_ENTR, T_RANK, T_PARR, T_PIPE].contains t || s_kT.contains t) && decide (t ≠ T_LARR)) = true := by decide
    have k2 := List.all_eq_true.mp key t ht
    rw [Bool.and_eq_true, Bool.not_eq_true'] at k2
    exact (x t k (by unfold h_G3 s_NL; rw [k2.1, decide_eq_false (of_decide_eq_true k2.2)]; rfl)).2.1.trans (g2 t ht)
  · obtain ⟨g1, g2⟩ := b5 r hr
    exact ⟨(x T_MRANK r rfl).2.1.trans g1, g2⟩
theorem s_La.xG {N : Nat → Nat → Bool} {p p' : e_Sp} {I I' : e_I} {l n : Nat} (h : s_La p I l n) (x : h_xG N p p') (h1 : N T_LIST l = false) (h2 : N T_LARR l = false) (e : I' f_l_size l = I f_l_size l) : s_La p' I' l n := by
  unfold s_La at h ⊢
  rw [(x _ l h1).2.1, (x _ l h2).1, (x _ l h2).2.1, (x _ l h2).2.2, e]
  exact h
theorem q_F.xG {N : Nat → Nat → Bool} {p p' : e_Sp} {I I' : e_I} (h : q_F p I) (x : h_xG N p p') (h1 : ∀ l, N T_LIST l = false) (h2 : ∀ l, 8 ≤ l → N T_LARR l = false) (h3 : ∀ j, N T_MFRAME j = false) (hl : ∀ l, 8 ≤ l → I' f_l_size l = I f_l_size l) : q_F p' I' := by
  obtain ⟨g1, g2⟩ := h
  refine ⟨fun l hv => ?_, fun g hg => ?_⟩
  · rw [(x T_LIST l (h1 l)).2.1] at hv
    refine ⟨(g1 l hv).1, fun h8 => ?_⟩
    rw [hl l h8]
    exact (g1 l hv).2 h8
  · obtain ⟨m, q1, q2, q3⟩ := g2 g hg
    exact ⟨m, q1, q2.xG x (h1 _) (h2 _ (by omega)) (hl _ (by omega)), fun j hj => (x T_MFRAME _ (h3 _)).2.1.trans (q3 j hj)⟩
/-- the end of a call, all told -/
theorem h_endG {T' : Nat} {p p2 : e_Sp} {R I2 : e_I} {RJ J2 : e_Jt} {c2 : Nat × Nat} {nk nr np n2 n' : Nat} {t' : Nat → Nat} {s' m' od' ob' L : Nat} {TE : List Nat} (hs : v_Sim p nk nr np n' t' s' m' L (R, RJ) (I2, J2)) (hL : L ≤ T') (e : s_eqN TE R I2) (hTE : v_dj h_C TE = true) (ej : ∀ F, h_JC.contains F = true → J2 F = RJ F) (h1 : p2.2.2.2.2 = p.2.2.2.2) (h2 : p2.2.2.1 T_PARR = p.2.2.1 T_PARR) (hn : n2 = n') (hD : s_D p2 I2 nk nr) (hW : v_Wd nk I2) (hSL : h_SL p2 I2 nk nr) (hSB : h_SB p2 I2 nk nr np) (hR : h_R p2 I2 c2 od' ob' n2) (hB : h_B T' nk nr (v_Wn I2 nk) od' ob' n2 m') : h_Q T' p2 (I2, J2) I2 J2 c2 nk nr np n2 t' s' m' od' ob' := by
  subst hn
  exact ⟨((hs.L hL).mv (T' := []) e s_eqN.rfl' hTE (by decide) (fun _ _ => rfl) ej (fun _ _ => rfl)).p h1 h2, hD, hW, hSL, hSB, hR, hB⟩
