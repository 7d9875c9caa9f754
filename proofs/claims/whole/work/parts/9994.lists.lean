/-! 9994: lists are cleared, things join and leave in their midst -/
section s_lm
variable {p : e_Sp} {I : e_I} {J : e_Jt} {h h' : e_Hp} {l m n : Nat}
theorem e_rep.heq (hR : e_rep p I J h) (hn : e_n h' = e_n h) (hk : ∀ a, e_kd h' a = e_kd h a) (hl : ∀ a, e_ln h' a = e_ln h a) (hv : ∀ a s, e_v h' a s = e_v h a s) : e_rep p I J h' := by
  obtain ⟨r1, r2, r3, r4, r5, r6, r7⟩ := hR
  refine ⟨fun t i q => ?_, fun F i hF q => ?_, fun F i hF q => ?_, fun G i hG q => ?_, fun l j a b => ?_, fun r q => ?_, fun k q => ?_⟩
  · rw [hn, hk, hl]; exact r1 t i q
  · rw [hv]; exact r2 F i hF q
  · rw [hv]; exact r3 F i hF q
  · rw [hv]; exact r4 G i hG q
  · obtain ⟨q1, q2, q3, q4⟩ := r5 l j a b
    exact ⟨q1, q2, q3, by rw [hv]; exact q4⟩
  · obtain ⟨q1, q2⟩ := r6 r q
    exact ⟨q1, fun j hj => ⟨(q2 j hj).1, by rw [hv]; exact (q2 j hj).2⟩⟩
  · rw [hv, hv]; exact r7 k q
/-- a list's row is another behind its size -/
theorem e_rep.lar {f : Nat → Value} (hR : e_rep p I J h) (hA : p.2.1 T_LARR l = true) (hf : ∀ j, j < (I f_l_size l).toNatClampNeg → f j = e_v h (p.1 T_LARR l) j) : e_rep p I J (e_rowset h (p.1 T_LARR l) f) := by
  obtain ⟨r1, r2, r3, r4, r5, r6, r7⟩ := hR
  have key : ∀ t i s, p.2.1 t i = true → ¬ (t = T_LARR ∧ i = l) → e_v (e_rowset h (p.1 T_LARR l) f) (p.1 t i) s = e_v h (p.1 t i) s := fun t i s hv1 hn => by rw [e_rowset_ne (r1.apart hv1 hA hn)]
  refine ⟨r1, fun F i hF hv1 => ?_, fun F i hF hv1 => ?_, fun G i hG hv1 => ?_, fun l' j hl1 hj => ?_, fun r hr => ?_, fun k hk1 => ?_⟩
  · have c6 := e_all e_c6 hF
    rw [Bool.and_eq_true] at c6
    rw [key _ _ _ hv1 (fun z => of_decide_eq_true c6.1 z.1)]
    exact r2 F i hF hv1
  · have c7 := e_all e_c7 hF
    rw [Bool.and_eq_true] at c7
    rw [key _ _ _ hv1 (fun z => of_decide_eq_true c7.1 z.1)]
    exact r3 F i hF hv1
  · have c := e_all e_cL3 hG
    rw [Bool.and_eq_true] at c
    rw [key _ _ _ hv1 (fun z => of_decide_eq_true c.1 z.1)]
    exact r4 G i hG hv1
  · obtain ⟨q1, q2, q3, q4⟩ := r5 l' j hl1 hj
    refine ⟨q1, q2, q3, ?_⟩
    by_cases e : l' = l
    · subst e
      rw [e_rowset_v, hf j hj]
      exact q4
    · rw [key _ _ _ q1 (fun z => e z.2)]
      exact q4
  · obtain ⟨q1, q2⟩ := r6 r hr
    exact ⟨q1, fun j hj => ⟨(q2 j hj).1, by rw [key _ _ _ q1 (fun z => absurd z.1 (by decide))]; exact (q2 j hj).2⟩⟩
  · rw [key _ _ _ hk1 (fun z => absurd z.1 (by decide)), key _ _ _ hk1 (fun z => absurd z.1 (by decide))]
    exact r7 k hk1
set_option maxRecDepth 100000 in
/-- a list's size is another -/
theorem e_rep.szP (hR : e_rep p I J h) (hv : p.2.1 T_LIST l = true) (hm31 : m < 2147483648) (hg : ∀ j, j < m → p.2.1 T_LARR l = true ∧ m ≤ p.2.2.1 T_LARR l ∧ p.2.1 (e_elT l) (e_elI l j) = true ∧ e_toO (e_v h (p.1 T_LARR l) j) = some (p.1 (e_elT l) (e_elI l j))) : e_rep p (s_up I f_l_size l (nI m)) J (e_set h (p.1 T_LIST l) 2 (.int (nI m))) := by
  obtain ⟨r1, r2, r3, r4, r5, r6, r7⟩ := hR
  have key2 : ∀ t i s, p.2.1 t i = true → ¬ (t = T_LIST ∧ i = l ∧ s = 2) → e_v (e_set h (p.1 T_LIST l) 2 (.int (nI m))) (p.1 t i) s = e_v h (p.1 t i) s := fun t i s hv1 hn => by
    refine e_v_ne ?_
    by_cases e : t = T_LIST ∧ i = l
    · exact Or.inr (fun z => hn ⟨e.1, e.2, z⟩)
    · exact Or.inl (r1.apart hv1 hv e)
  refine ⟨r1, fun F i hF hv1 => ?_, fun F i hF hv1 => ?_, fun G i hG hv1 => ?_, fun l' j hl1 hj => ?_, fun r hr => ?_, fun k hk1 => ?_⟩
  · by_cases e : F = f_l_size ∧ i = l
    · obtain ⟨rfl, rfl⟩ := e
      rw [s_up_s]
      show e_toI (e_v _ (p.1 T_LIST (i / 1)) (2 + i % 1)) = _
      rw [Nat.div_one, Nat.mod_one, Nat.add_zero, e_v_eq]
      rfl
    · rw [show s_up I f_l_size l (nI m) F i = I F i from if_neg e]
      rw [key2 _ _ _ hv1 (fun z => ?_)]
      · exact r2 F i hF hv1
      · rcases (Bool.or_eq_true _ _).mp (e_all e_cL1 hF) with c2 | c2
        · exact of_decide_eq_true c2 z.1
        · have c2 := of_decide_eq_true c2
          have z3 := z.2.2
          have z2 := z.2.1
          rw [c2.1, Nat.mod_one, Nat.add_zero] at z3
          rw [c2.1, Nat.div_one] at z2
          refine e ⟨?_, z2⟩
          have c1 := e_all e_c1 hF
          rw [Bool.and_eq_true] at c1
          rcases (Bool.or_eq_true _ _).mp (e_all c1.2 (show f_l_size < e_NI by decide)) with c3 | c3
          · exact of_decide_eq_true c3
          · rcases (Bool.or_eq_true _ _).mp c3 with c4 | c4
            · exact absurd z.1 (of_decide_eq_true c4)
            · have c4 := of_decide_eq_true c4
              rw [c2.1, z3, show (e_FI f_l_size).2.1 = 2 from rfl, show (e_FI f_l_size).2.2 = 1 from rfl] at c4
              omega
  · rw [key2 _ _ _ hv1 (fun z => of_decide_eq_true (e_all e_cL2 hF) z.1)]
    exact r3 F i hF hv1
  · have c := e_all e_cL3 hG
    rw [Bool.and_eq_true] at c
    rw [key2 _ _ _ hv1 (fun z => ?_)]
    · exact r4 G i hG hv1
    · rcases (Bool.or_eq_true _ _).mp c.2 with c2 | c2
      · have c2 := of_decide_eq_true c2
        subst c2
        exact absurd z.2.2 (by decide)
      · rw [Bool.and_eq_true] at c2
        exact of_decide_eq_true c2.2 z.1
  · by_cases e : l' = l
    · subst e
      have hj : j < (s_up I f_l_size l' (nI m) f_l_size l').toNatClampNeg := hj
      rw [s_up_s, nI_clamp (by omega)] at hj
      have e1 : (s_up I f_l_size l' (nI m) f_l_size l').toNatClampNeg = m := by rw [s_up_s, nI_clamp (by omega)]
      obtain ⟨q1, q2, q3, q4⟩ := hg j hj
      rw [e1, key2 _ _ _ q1 (fun z => absurd z.1 (by decide))]
      exact ⟨q1, q2, q3, q4⟩
    · have e1 : s_up I f_l_size l (nI m) f_l_size l' = I f_l_size l' := s_up_i e
      rw [e1] at hj ⊢
      obtain ⟨q1, q2, q3, q4⟩ := r5 l' j hl1 hj
      rw [key2 _ _ _ q1 (fun z => absurd z.1 (by decide))]
      exact ⟨q1, q2, q3, q4⟩
  · obtain ⟨q1, q2⟩ := r6 r hr
    refine ⟨q1, fun j hj => ?_⟩
    rw [key2 _ _ _ q1 (fun z => absurd z.1 (by decide))]
    exact q2 j hj
  · rw [key2 _ _ _ hk1 (fun z => absurd z.1 (by decide)), key2 _ _ _ hk1 (fun z => absurd z.1 (by decide))]
    exact r7 k hk1
/-! the frames' things take other numbers -/
theorem e_cF1 : ((List.range e_NI).all fun F => decide ((e_FI F).1 ≠ T_MFRAME) || decide (F = f_mf_isSet)) = true := by decide +kernel
theorem e_cF2 : ((List.range e_NJ).all fun F => decide ((e_FJ F).1 ≠ T_MFRAME) || (decide (F = j_mf_knobs) || decide (F = j_mf_drawn))) = true := by decide +kernel
theorem e_cF3 : ((List.range e_NG).all fun G => decide ((e_FG G).1 ≠ T_MFRAME) && (decide ((e_FG G).2.2.1 ≠ T_MFRAME) && (decide ((e_FG G).1 ≠ T_MKEPT) && decide ((e_FG G).2.2.1 ≠ T_MKEPT)))) = true := by decide +kernel
def s_rn (p : e_Sp) (τ σ : Nat → Nat) : e_Sp := (fun t i => if t = T_MFRAME then p.1 T_MFRAME (τ i) else p.1 t i, fun t i => if t = T_MFRAME then p.2.1 T_MFRAME (τ i) else p.2.1 t i, p.2.2.1, fun a => if (p.2.2.2.1 a).1 = T_MFRAME then (T_MFRAME, σ (p.2.2.2.1 a).2) else p.2.2.2.1 a, p.2.2.2.2)
def s_rnI (I : e_I) (τ : Nat → Nat) : e_I := fun F i => if F = f_mf_isSet then I F (τ i) else I F i
def s_rnJ (J : e_Jt) (τ : Nat → Nat) : e_Jt := fun F i => if F = j_mf_knobs ∨ F = j_mf_drawn then J F (τ i) else J F i
theorem s_rn_n {τ σ : Nat → Nat} {t i : Nat} (ht : t ≠ T_MFRAME) : (s_rn p τ σ).1 t i = p.1 t i := if_neg ht
theorem s_rn_nv {τ σ : Nat → Nat} {t i : Nat} (ht : t ≠ T_MFRAME) : (s_rn p τ σ).2.1 t i = p.2.1 t i := if_neg ht
set_option maxRecDepth 100000 in
theorem e_rep.ren {τ σ : Nat → Nat} (hR : e_rep p I J h) (h1 : ∀ i, σ (τ i) = i) (h2 : ∀ l j, p.2.1 T_LIST l = true → j < (I f_l_size l).toNatClampNeg → e_elT l = T_MFRAME → τ (e_elI l j) = e_elI l j) : e_rep (s_rn p τ σ) (s_rnI I τ) (s_rnJ J τ) h := by
  obtain ⟨r1, r2, r3, r4, r5, r6, r7⟩ := hR
  refine ⟨fun t i hv => ?_, fun F i hF hv => ?_, fun F i hF hv => ?_, fun G i hG hv => ?_, fun l' j hl1 hj => ?_, fun r hr => ?_, fun k hk1 => ?_⟩
  · by_cases e : t = T_MFRAME
    · subst e
      obtain ⟨a1, a2, a3, a4, a5⟩ := r1 T_MFRAME (τ i) hv
      refine ⟨a1, a2, a3, ?_, a5⟩
      show (if (p.2.2.2.1 (p.1 T_MFRAME (τ i))).1 = T_MFRAME then (T_MFRAME, σ (p.2.2.2.1 (p.1 T_MFRAME (τ i))).2) else _) = _
      rw [a4, if_pos rfl, h1]
    · rw [s_rn_nv e] at hv
      obtain ⟨a1, a2, a3, a4, a5⟩ := r1 t i hv
      rw [s_rn_n e]
      refine ⟨a1, a2, a3, ?_, a5⟩
      show (if (p.2.2.2.1 (p.1 t i)).1 = T_MFRAME then (T_MFRAME, σ (p.2.2.2.1 (p.1 t i)).2) else p.2.2.2.1 (p.1 t i)) = _
      rw [a4, if_neg e]
  · rcases (Bool.or_eq_true _ _).mp (e_all e_cF1 hF) with c | c
    · have c := of_decide_eq_true c
      rw [s_rn_nv c] at hv
      rw [s_rn_n c, r2 F i hF hv]
      exact (if_neg (fun z => by rw [z] at c; exact c rfl)).symm
    · have c := of_decide_eq_true c
      subst c
      have hv : p.2.1 T_MFRAME (τ (i / 1)) = true := hv
      show e_toI (e_v h (p.1 T_MFRAME (τ (i / 1))) (2 + i % 1)) = I f_mf_isSet (τ i)
      have a := r2 f_mf_isSet (τ i) hF (by show p.2.1 T_MFRAME (τ i / 1) = true; rw [Nat.div_one] at hv ⊢; exact hv)
      have a : e_toI (e_v h (p.1 T_MFRAME (τ i / 1)) (2 + τ i % 1)) = I f_mf_isSet (τ i) := a
      rw [Nat.div_one, Nat.mod_one] at a ⊢
      exact a
  · rcases (Bool.or_eq_true _ _).mp (e_all e_cF2 hF) with c | c
    · have c := of_decide_eq_true c
      rw [s_rn_nv c] at hv
      rw [s_rn_n c, r3 F i hF hv]
      exact (if_neg (fun z => by rcases z with rfl | rfl <;> exact c rfl)).symm
    · have c : F = j_mf_knobs ∨ F = j_mf_drawn := by
        rcases (Bool.or_eq_true _ _).mp c with c | c
        · exact Or.inl (of_decide_eq_true c)
        · exact Or.inr (of_decide_eq_true c)
      have eJ : s_rnJ J τ F i = J F (τ i) := if_pos c
      rw [eJ]
      rcases c with rfl | rfl
      · have hv : p.2.1 T_MFRAME (τ (i / 1)) = true := hv
        show e_toJ (e_v h (p.1 T_MFRAME (τ (i / 1))) (0 + i % 1)) = J j_mf_knobs (τ i)
        have a := r3 j_mf_knobs (τ i) hF (by show p.2.1 T_MFRAME (τ i / 1) = true; rw [Nat.div_one] at hv ⊢; exact hv)
        have a : e_toJ (e_v h (p.1 T_MFRAME (τ i / 1)) (0 + τ i % 1)) = J j_mf_knobs (τ i) := a
        rw [Nat.div_one, Nat.mod_one] at a ⊢
        exact a
      · have hv : p.2.1 T_MFRAME (τ (i / 1)) = true := hv
        show e_toJ (e_v h (p.1 T_MFRAME (τ (i / 1))) (1 + i % 1)) = J j_mf_drawn (τ i)
        have a := r3 j_mf_drawn (τ i) hF (by show p.2.1 T_MFRAME (τ i / 1) = true; rw [Nat.div_one] at hv ⊢; exact hv)
        have a : e_toJ (e_v h (p.1 T_MFRAME (τ i / 1)) (1 + τ i % 1)) = J j_mf_drawn (τ i) := a
        rw [Nat.div_one, Nat.mod_one] at a ⊢
        exact a
  · have c := e_all e_cF3 hG
    rw [Bool.and_eq_true, Bool.and_eq_true] at c
    rw [s_rn_nv (of_decide_eq_true c.1)] at hv
    rw [s_rn_n (of_decide_eq_true c.1), s_rn_n (of_decide_eq_true c.2.1)]
    exact r4 G i hG hv
  · have e1 : s_rnI I τ f_l_size l' = I f_l_size l' := if_neg (by decide)
    rw [e1] at hj ⊢
    rw [s_rn_nv (by decide)] at hl1
    obtain ⟨q1, q2, q3, q4⟩ := r5 l' j hl1 hj
    rw [s_rn_nv (by decide), s_rn_n (t := T_LARR) (by decide)]
    refine ⟨q1, q2, ?_⟩
    by_cases e : e_elT l' = T_MFRAME
    · rw [e] at q3 q4 ⊢
      show p.2.1 T_MFRAME (τ (e_elI l' j)) = true ∧ e_toO (e_v h (p.1 T_LARR l') j) = some (p.1 T_MFRAME (τ (e_elI l' j)))
      rw [h2 l' j hl1 hj e]
      exact ⟨q3, q4⟩
    · rw [s_rn_nv e, s_rn_n e]
      exact ⟨q3, q4⟩
  · rw [s_rn_nv (by decide)] at hr
    obtain ⟨q1, q2⟩ := r6 r hr
    rw [s_rn_nv (by decide), s_rn_n (t := T_PARR) (by decide)]
    refine ⟨q1, fun j hj => ?_⟩
    have q3 := q2 j hj
    rw [s_rn_nv (t := T_PIPE) (by decide), s_rn_n (t := T_PIPE) (by decide)]
    exact q3
  · rw [s_rn_nv (by decide)] at hk1
    rw [s_rn_n (t := T_KNOB) (by decide), s_rn_nv (t := T_STOP) (by decide), s_rn_n (t := T_STOP) (by decide), s_rn_nv (t := T_COUP) (by decide), s_rn_n (t := T_COUP) (by decide)]
    exact r7 k hk1
/-! things that no list holds any more are forgotten -/
def s_uv (p : e_Sp) (t : Nat) (U : Nat → Bool) : e_Sp := (p.1, fun t' i => if t' = t ∧ U i = true then false else p.2.1 t' i, p.2.2.1, p.2.2.2.1, p.2.2.2.2)
theorem s_uv_n {t t' i : Nat} {U : Nat → Bool} (h : ¬ (t' = t ∧ U i = true)) : (s_uv p t U).2.1 t' i = p.2.1 t' i := if_neg h
theorem s_uv_v {t t' i : Nat} {U : Nat → Bool} (h : (s_uv p t U).2.1 t' i = true) : ¬ (t' = t ∧ U i = true) ∧ p.2.1 t' i = true := by
  by_cases e : t' = t ∧ U i = true
  · have h : (if t' = t ∧ U i = true then false else p.2.1 t' i) = true := h
    rw [if_pos e] at h; cases h
  · exact ⟨e, by rw [s_uv_n e] at h; exact h⟩
theorem e_rep.unv {t : Nat} {U : Nat → Bool} (hR : e_rep p I J h) (ht : [T_LARR, T_PARR, T_PIPE, T_STOP, T_COUP].contains t = false) (hU : ∀ l j, p.2.1 T_LIST l = true → j < (I f_l_size l).toNatClampNeg → e_elT l = t → ¬ U (e_elI l j) = true) : e_rep (s_uv p t U) I J h := by
  obtain ⟨r1, r2, r3, r4, r5, r6, r7⟩ := hR
  have hn : ∀ t', t' ∈ [T_LARR, T_PARR, T_PIPE, T_STOP, T_COUP] → ∀ i, (s_uv p t U).2.1 t' i = p.2.1 t' i := fun t' h' i => s_uv_n (fun z => by rw [z.1] at h'; rw [List.contains_iff_mem.mpr h'] at ht; cases ht)
  refine ⟨fun t i hv => r1 t i (s_uv_v hv).2, fun F i hF hv => r2 F i hF (s_uv_v hv).2, fun F i hF hv => r3 F i hF (s_uv_v hv).2, fun G i hG hv => r4 G i hG (s_uv_v hv).2, fun l' j hl1 hj => ?_, fun r hr => ?_, fun k hk1 => ?_⟩
  · have hl1 := (s_uv_v hl1).2
    obtain ⟨q1, q2, q3, q4⟩ := r5 l' j hl1 hj
    exact ⟨(hn _ (by decide) _).trans q1, q2, (s_uv_n (fun z => hU l' j hl1 hj z.1 z.2)).trans q3, q4⟩
  · obtain ⟨q1, q2⟩ := r6 r (s_uv_v hr).2
    exact ⟨(hn _ (by decide) _).trans q1, fun j hj => ⟨(hn _ (by decide) _).trans (q2 j hj).1, (q2 j hj).2⟩⟩
  · rw [hn T_STOP (by decide), hn T_COUP (by decide)]
    exact r7 k (s_uv_v hk1).2
end s_lm
section s_lw2
variable {X : e_XT} {d : Nat} {K : e_KT} {pc ix pl ho l m n : Nat} {ll : e_LL} {st rest : List Value} {p : e_Sp} {I : e_I} {J : e_Jt} {c : Nat × Nat} {w : e_Rw1} {Q : e_Rt → e_SS → Prop}
theorem s_raw.rn {h : e_Hp} {τ σ : Nat → Nat} (hr : s_raw p w h) : s_raw (s_rn p τ σ) w h := fun a o ho => by
  obtain ⟨g, g5⟩ := hr a o ho
  refine ⟨g, fun t i hv => ?_⟩
  by_cases e : t = T_MFRAME
  · subst e; exact g5 T_MFRAME (τ i) hv
  · rw [s_rn_nv e] at hv
    rw [s_rn_n e]; exact g5 t i hv
theorem s_raw.rowset {h : e_Hp} {f : Nat → Value} {t i : Nat} (hr : s_raw p w h) (hv : p.2.1 t i = true) : s_raw p w (e_rowset h (p.1 t i) f) := fun a o ho => by
  obtain ⟨⟨g1, g2, g3, g4⟩, g5⟩ := hr a o ho
  exact ⟨⟨g1, g2, g3, fun s => by rw [e_rowset_ne (fun z => g5 t i hv z.symm)]; exact g4 s⟩, g5⟩
/-- things are forgotten -/
theorem s_w.unv {t : Nat} {U : Nat → Bool} (ht : [T_LARR, T_PARR, T_PIPE, T_STOP, T_COUP].contains t = false) (hU : ∀ l j, p.2.1 T_LIST l = true → j < (I f_l_size l).toNatClampNeg → e_elT l = t → ¬ U (e_elI l j) = true) (k : s_w X d K pc ll st (s_uv p t U, I, J, c, w) Q) : s_w X d K pc ll st (p, I, J, c, w) Q := fun h hs => by
  obtain ⟨r, h', S', q, z, j⟩ := k h ⟨hs.1.unv ht hU, hs.2.1, fun a o ho => ⟨(hs.2.2 a o ho).1, fun t i hv => (hs.2.2 a o ho).2 t i (s_uv_v hv).2⟩⟩
  exact ⟨r, h', S', q, z, j⟩
/-- a list's size is put to 0 -/
theorem w_putSz0 (hd : decode K.2.2.1 pc = .ok (.putfield ix, 3)) (hfl : e_fl K.1 ix = some (ix, 3, 2, pl, ho)) (hv : p.2.1 T_LIST l = true) (k : s_w X d K (pc + 3) ll st (p, s_up I f_l_size l 0, J, c, w) Q) : s_w X d K pc ll (.int 0 :: .ref (p.1 T_LIST l) :: st) (p, I, J, c, w) Q := fun h hs => by
  obtain ⟨q1, q2, q3, -, -⟩ := hs.1.1 T_LIST l hv
  have h2 := hs.1.szP (m := 0) hv (by decide) (fun j hj => absurd hj (Nat.not_lt_zero j))
  obtain ⟨r, h', S', q, z, j⟩ := k _ ⟨h2, hs.2.1, hs.2.2.set hv⟩
  refine ⟨r, h', S', q, z, e_J.hop (e_hopA ?_) hd j⟩
  show (match e_fl K.1 ix with
    | some r => if p.1 T_LIST l < e_n h ∧ e_kd h (p.1 T_LIST l) = r.2.1 ∧ e_ck (e_cY r.2.1 r.2.2.1) (.int 0) = true ∧ ((e_cT r.2.1 r.2.2.1).2.2.2 = false ∨ (K.2.1 = true ∧ r.2.1 = K.1 ∧ r.2.2.2.2 = 0)) then some (st, e_set h (p.1 T_LIST l) r.2.2.1 (.int 0)) else none
    | none => none) = _
  rw [hfl]
  exact if_pos ⟨q2, q3, rfl, Or.inl rfl⟩
/-- nothing, behind a list's size -/
theorem w_aastN (hd : decode K.2.2.1 pc = .ok (.aastore, 1)) (hv : p.2.1 T_LIST l = true) (hA : p.2.1 T_LARR l = true) {x : Int32} (hx : s_ix x n (p.2.2.1 T_LARR l)) (hn : (I f_l_size l).toNatClampNeg ≤ n) (k : s_w X d K (pc + 1) ll st (p, I, J, c, w) Q) : s_w X d K pc ll (.null :: .int x :: .ref (p.1 T_LARR l) :: st) (p, I, J, c, w) Q := fun h hs => by
  obtain ⟨u1, u2, u3, -, u5⟩ := hs.1.1 T_LARR l hA
  have u6 : e_ln h (p.1 T_LARR l) = p.2.2.1 T_LARR l := u5
  have e9 : e_set h (p.1 T_LARR l) n .null = e_rowset h (p.1 T_LARR l) (fun j => if j = n then .null else e_v h (p.1 T_LARR l) j) := by
    unfold e_set e_rowset
    refine congrArg (fun z => (h.1, h.2.1, z)) (funext fun k => ?_)
    by_cases e : k = p.1 T_LARR l
    · subst e; simp only [if_true]; rfl
    · simp only [if_neg e]
  have h2 := hs.1.lar (f := fun j => if j = n then .null else e_v h (p.1 T_LARR l) j) hA (fun j hj => if_neg (by have : j < (I f_l_size l).toNatClampNeg := hj; omega))
  have h3 := hs.2.2.rowset (f := fun j => if j = n then .null else e_v h (p.1 T_LARR l) j) hA
  rw [← e9] at h2 h3
  obtain ⟨r, h', S', q, z, j⟩ := k _ ⟨h2, hs.2.1, h3⟩
  refine ⟨r, h', S', q, z, e_J.hop (e_hopC rfl rfl ?_) hd j⟩
  show (if p.1 T_LARR l < e_n h ∧ (e_kd h (p.1 T_LARR l) = 105 ∨ e_kd h (p.1 T_LARR l) = 106) ∧ e_in x (e_ln h (p.1 T_LARR l)) = true then some (st, e_set h (p.1 T_LARR l) x.toNatClampNeg .null) else none) = _
  rw [hx.2.1]
  exact if_pos ⟨u2, Or.inl u3, by rw [u6]; exact hx.ein⟩
end s_lw2
