/-! 78: stops are made (printed by wip/whole/p78.py) -/
/-- but for the places in N the shapes are the same -/
def s_xv (N : Nat → Nat → Bool) (p p' : e_Sp) : Prop := (∀ t i, N t i = false → p'.1 t i = p.1 t i ∧ p'.2.1 t i = p.2.1 t i ∧ p'.2.2.1 t i = p.2.2.1 t i) ∧ p'.2.2.2.2 = p.2.2.2.2
theorem s_xv.rfl' {N : Nat → Nat → Bool} {p : e_Sp} : s_xv N p p := ⟨fun _ _ _ => ⟨rfl, rfl, rfl⟩, rfl⟩
theorem s_xv.trans {N : Nat → Nat → Bool} {p p' p'' : e_Sp} (h : s_xv N p p') (h' : s_xv N p' p'') : s_xv N p p'' := ⟨fun t i hN => ⟨(h'.1 t i hN).1.trans (h.1 t i hN).1, (h'.1 t i hN).2.1.trans (h.1 t i hN).2.1, (h'.1 t i hN).2.2.trans (h.1 t i hN).2.2⟩, h'.2.trans h.2⟩
theorem s_xv.mono {N N' : Nat → Nat → Bool} {p p' : e_Sp} (h : s_xv N p p') (hN : ∀ t i, N' t i = false → N t i = false) : s_xv N' p p' := ⟨fun t i hi => h.1 t i (hN t i hi), h.2⟩
theorem s_xv.pv {N : Nat → Nat → Bool} {p : e_Sp} {t i a n : Nat} (h : N t i = true) : s_xv N p (s_pv p t i a n) := by
  refine ⟨fun t' i' hN => ?_, rfl⟩
  have e : ¬ (t' = t ∧ i' = i) := fun z => by rw [z.1, z.2, h] at hN; cases hN
  exact ⟨s_pv_n e, s_pv_nv e, s_pv_nl e⟩
theorem s_par1 {p : e_Sp} {tt j G : Nat} (hG : (e_FG G).1 = tt ∧ (e_FG G).2.2.2.1 = 1) (h : p.2.1 tt j = false) : ∀ i', p.2.1 (e_FG G).1 i' = true → (if (e_FG G).2.2.2.1 = 1 then i' else (e_FG G).2.2.2.2) ≠ j := fun i' h1 h2 => by
  rw [if_pos hG.2] at h2
  rw [hG.1, h2, h] at h1
  cases h1
theorem s_par0 {p : e_Sp} {tt j G : Nat} (hG : (e_FG G).1 = tt) (h : ∀ i, p.2.1 tt i = false) : ∀ i', p.2.1 (e_FG G).1 i' = true → (if (e_FG G).2.2.2.1 = 1 then i' else (e_FG G).2.2.2.2) ≠ j := fun i' h1 => by
  rw [hG, h] at h1
  cases h1
def s_N6 (j t i : Nat) : Bool := s_sT.contains t && decide (i = j)
/-- the rows of a stop: n keys are wired -/
def s_sti (I : e_I) (j n : Nat) : e_I := fun F m => if (F = f_s_places ∨ F = f_s_keysAt) ∧ m / 61 = j then (if m % 61 < n then nI (m % 61) else 0) else if (F = f_s_ranks ∨ F = f_s_offsets ∨ F = f_s_firsts ∨ F = f_s_lasts) ∧ m / 4 = j then 0 else I F m
theorem s_sti_0 {I : e_I} {j : Nat} : s_z (s_z (s_z (s_z (s_z (s_z I f_s_ranks j 4) f_s_offsets j 4) f_s_firsts j 4) f_s_lasts j 4) f_s_places j 61) f_s_keysAt j 61 = s_sti I j 0 := by
  funext F m
  unfold s_sti
  by_cases h1 : (F = f_s_places ∨ F = f_s_keysAt) ∧ m / 61 = j
  · rw [if_pos h1, if_neg (Nat.not_lt_zero _)]
    unfold s_z
    rcases h1 with ⟨rfl | rfl, h2⟩
    · rw [if_neg (fun z => absurd z.1 (by decide)), if_pos ⟨rfl, h2⟩]
    · rw [if_pos ⟨rfl, h2⟩]
  · rw [if_neg h1]
    unfold s_z
    rw [if_neg (fun z => h1 ⟨Or.inr z.1, z.2⟩), if_neg (fun z => h1 ⟨Or.inl z.1, z.2⟩)]
    by_cases h2 : (F = f_s_ranks ∨ F = f_s_offsets ∨ F = f_s_firsts ∨ F = f_s_lasts) ∧ m / 4 = j
    · rw [if_pos h2]
      obtain ⟨h3, h4⟩ := h2
      by_cases e1 : F = f_s_lasts
      · rw [if_pos ⟨e1, h4⟩]
      rw [if_neg (fun z => e1 z.1)]
      by_cases e2 : F = f_s_firsts
      · rw [if_pos ⟨e2, h4⟩]
      rw [if_neg (fun z => e2 z.1)]
      by_cases e3 : F = f_s_offsets
      · rw [if_pos ⟨e3, h4⟩]
      rw [if_neg (fun z => e3 z.1), if_pos ⟨h3.resolve_right (fun z => z.elim e3 (fun z => z.elim e2 e1)), h4⟩]
    · rw [if_neg h2, if_neg (fun z => h2 ⟨Or.inr (Or.inr (Or.inr z.1)), z.2⟩), if_neg (fun z => h2 ⟨Or.inr (Or.inr (Or.inl z.1)), z.2⟩), if_neg (fun z => h2 ⟨Or.inr (Or.inl z.1), z.2⟩), if_neg (fun z => h2 ⟨Or.inl z.1, z.2⟩)]
theorem s_sti_s {I : e_I} {j i : Nat} (hi : i < 61) : s_up (s_up (s_sti I j i) f_s_places (j * 61 + i) (nI i)) f_s_keysAt (j * 61 + i) (nI i) = s_sti I j (i + 1) := by
  funext F m
  unfold s_sti
  by_cases h1 : (F = f_s_places ∨ F = f_s_keysAt) ∧ m / 61 = j
  · rw [if_pos h1]
    by_cases em : m = j * 61 + i
    · rw [if_pos (show m % 61 < i + 1 by omega), show m % 61 = i by omega]
      rcases h1.1 with rfl | rfl
      · rw [s_up_F (by decide), em, s_up_s]
      · rw [em, s_up_s]
    · have e1 : ∀ (I : e_I) F', s_up I F' (j * 61 + i) (nI i) F m = I F m := fun I F' => s_up_i em
      rw [e1, e1, if_pos h1]
      by_cases e2 : m % 61 < i
      · rw [if_pos e2, if_pos (by omega)]
      · rw [if_neg e2, if_neg (by omega)]
  · rw [if_neg h1]
    have e1 : ∀ (I : e_I) F', (F' = f_s_places ∨ F' = f_s_keysAt) → s_up I F' (j * 61 + i) (nI i) F m = I F m := fun I F' hF' => if_neg (fun z => h1 ⟨by rw [z.1]; exact hF', by omega⟩)
    rw [e1 _ _ (Or.inr rfl), e1 _ _ (Or.inl rfl), if_neg h1]
def s_stf (p : e_Sp) (j : Nat) (f : Nat → Value) : Nat → Value := s_fu (s_fu (s_fu (s_fu (s_fu (s_fu f 2 (.ref (p.1 T_S_ranks j))) 3 (.ref (p.1 T_S_offsets j))) 4 (.ref (p.1 T_S_firsts j))) 5 (.ref (p.1 T_S_lasts j))) 6 (.ref (p.1 T_S_places j))) 7 (.ref (p.1 T_S_keysAt j))
set_option maxRecDepth 100000 in
set_option maxHeartbeats 4000000 in
theorem l_X8_init {X : e_XT} {d : Nat} {p : e_Sp} {I : e_I} {J : e_Jt} {c : Nat × Nat} {w : e_Rw1} {Q : e_Rt → e_SS → Prop} {b j : Nat} {f : Nat → Value} (hp1 : p.2.1 T_S_places j = true) (hp2 : p.2.1 T_S_keysAt j = true) (k : Q (.inl none) (p, s_sti I j 61, J, c, s_rw w b (12, 0, s_stf p j f))) : ∀ (n : Nat) (i : Nat), (h1 : i ≤ 61) → (hn : 61 - i < n) → s_w X (d + 0) K_X8_init 50 [some (.ref b), some (.int (nI i))] [] (p, s_sti I j i, J, c, s_rw w b (12, 0, s_stf p j f)) (fun r S' => e_rcr (none) r = true ∧ Q r S') := by
  intro n
  induction n with
  | zero =>
    intro i h1 hn
    exact absurd hn (Nat.not_lt_zero _)
  | succ n ih =>
    intro i h1 hn
    refine w_op (pc' := 51) dX8_init_50 rfl ?_
    refine w_bipush (v := 61) dX8_init_51 rfl ?_
    refine w_icmpge (t := 76) dX8_init_53 (by decide) (fun c53 => ?_) (fun c53 => ?_)
    · exact w_return dX8_init_76 ⟨rfl, by have hi : 61 ≤ i := (nI_leI (a := 61) (by omega) (by omega)).mp c53; obtain rfl : i = 61 := (by omega); exact k⟩
    · have hi : i < 61 := Nat.lt_of_not_le (fun z => c53 ((nI_leI (a := 61) (by omega) (by omega)).mpr z))
      refine w_op (pc' := 57) dX8_init_56 rfl ?_
      refine t_getR (v := .ref (p.1 T_S_places j)) dX8_init_57 rfl rfl ?_
      refine w_op (pc' := 61) dX8_init_60 rfl ?_
      refine w_op (pc' := 62) dX8_init_61 rfl ?_
      refine t_iast (F := f_s_places) dX8_init_62 rfl (by decide) (by decide) rfl hp1 (s_ix.nI (n := i) (N := 61) hi (by decide)) hi ?_
      refine w_op (pc' := 64) dX8_init_63 rfl ?_
      refine t_getR (v := .ref (p.1 T_S_keysAt j)) dX8_init_64 rfl rfl ?_
      refine w_op (pc' := 68) dX8_init_67 rfl ?_
      refine w_op (pc' := 69) dX8_init_68 rfl ?_
      refine t_iast (F := f_s_keysAt) dX8_init_69 rfl (by decide) (by decide) rfl hp2 (s_ix.nI (n := i) (N := 61) hi (by decide)) hi ?_
      refine w_op (pc' := 73) (ll' := [_, _]) dX8_init_70 rfl ?_
      refine w_goto (t := 50) dX8_init_73 (by decide) ?_
      rw [show nI i + Int32.ofInt 1 = nI (i + 1) from nI_1 i, s_sti_s hi]
      exact ih (i + 1) (by omega) (by omega)
set_option maxRecDepth 100000 in
set_option maxHeartbeats 4000000 in
theorem c_X8_init {X : e_XT} {d : Nat} {p : e_Sp} {I : e_I} {J : e_Jt} {c : Nat × Nat} {w : e_Rw1} {Q : e_Rt → e_SS → Prop} {b j : Nat} {f : Nat → Value} (hN : ∀ t, t ∈ s_sT → p.2.1 t j = false) (hS : p.2.1 T_STOP j = false) (hc : c.1 + 6 < e_xb) (k : ∀ p', s_xv (s_N6 j) p p' → (∀ t, t ∈ s_sT → p'.2.1 t j = true) → Q (.inl none) (p', s_sti I j 61, J, (c.1 + 6, c.2 + 138), s_rw w b (12, 0, s_stf p' j f))) : s_c X (d + 0) 92 [.ref b] (p, I, J, c, s_rw w b (12, 0, f)) Q := by
  refine m_X8_init (Nat.le_of_ble_eq_true rfl) ?_
  show s_w _ _ _ 0 _ _ _ _
  refine w_op (pc' := 1) dX8_init_0 rfl ?_
  refine w_objinit (by decide) rfl (Nat.le_of_ble_eq_true rfl) dX8_init_1 ?_
  refine w_op (pc' := 5) dX8_init_4 rfl ?_
  refine w_iconst (v := 4) dX8_init_5 rfl ?_
  refine t_newrow (t := T_S_ranks) (i := j) (F := f_s_ranks) (G := g_s_ranks) (W := 4) (W' := 4) dX8_init_6 ⟨by decide, by decide⟩ rfl (by decide) (Or.inl rfl) rfl (by decide) (by decide) (by decide +kernel) (by decide +kernel) (by decide +kernel) (by decide +kernel) (by decide) (by decide) (by decide) (hN T_S_ranks (by decide)) (s_par1 (tt := T_STOP) ⟨rfl, rfl⟩ hS) (show c.1 < e_xb by omega) (fun a6 ha6 => ?_)
  refine t_putR dX8_init_8 rfl rfl (Or.inr ⟨rfl, rfl, rfl⟩) ?_
  refine w_op (pc' := 12) dX8_init_11 rfl ?_
  refine w_iconst (v := 4) dX8_init_12 rfl ?_
  refine t_newrow (t := T_S_offsets) (i := j) (F := f_s_offsets) (G := g_s_offsets) (W := 4) (W' := 4) dX8_init_13 ⟨by decide, by decide⟩ rfl (by decide) (Or.inl rfl) rfl (by decide) (by decide) (by decide +kernel) (by decide +kernel) (by decide +kernel) (by decide +kernel) (by decide) (by decide) (by decide) ((s_pv_nv (fun z => absurd z.1 (by decide))).trans (hN T_S_offsets (by decide))) (s_par1 (tt := T_STOP) ⟨rfl, rfl⟩ ((s_pv_nv (fun z => absurd z.1 (by decide))).trans hS)) (show c.1 + 1 < e_xb by omega) (fun a13 ha13 => ?_)
  refine t_putR dX8_init_15 rfl rfl (Or.inr ⟨rfl, rfl, rfl⟩) ?_
  refine w_op (pc' := 19) dX8_init_18 rfl ?_
  refine w_iconst (v := 4) dX8_init_19 rfl ?_
  refine t_newrow (t := T_S_firsts) (i := j) (F := f_s_firsts) (G := g_s_firsts) (W := 4) (W' := 4) dX8_init_20 ⟨by decide, by decide⟩ rfl (by decide) (Or.inl rfl) rfl (by decide) (by decide) (by decide +kernel) (by decide +kernel) (by decide +kernel) (by decide +kernel) (by decide) (by decide) (by decide) ((s_pv_nv (fun z => absurd z.1 (by decide))).trans ((s_pv_nv (fun z => absurd z.1 (by decide))).trans (hN T_S_firsts (by decide)))) (s_par1 (tt := T_STOP) ⟨rfl, rfl⟩ ((s_pv_nv (fun z => absurd z.1 (by decide))).trans ((s_pv_nv (fun z => absurd z.1 (by decide))).trans hS))) (show c.1 + 1 + 1 < e_xb by omega) (fun a20 ha20 => ?_)
  refine t_putR dX8_init_22 rfl rfl (Or.inr ⟨rfl, rfl, rfl⟩) ?_
  refine w_op (pc' := 26) dX8_init_25 rfl ?_
  refine w_iconst (v := 4) dX8_init_26 rfl ?_
  refine t_newrow (t := T_S_lasts) (i := j) (F := f_s_lasts) (G := g_s_lasts) (W := 4) (W' := 4) dX8_init_27 ⟨by decide, by decide⟩ rfl (by decide) (Or.inl rfl) rfl (by decide) (by decide) (by decide +kernel) (by decide +kernel) (by decide +kernel) (by decide +kernel) (by decide) (by decide) (by decide) ((s_pv_nv (fun z => absurd z.1 (by decide))).trans ((s_pv_nv (fun z => absurd z.1 (by decide))).trans ((s_pv_nv (fun z => absurd z.1 (by decide))).trans (hN T_S_lasts (by decide))))) (s_par1 (tt := T_STOP) ⟨rfl, rfl⟩ ((s_pv_nv (fun z => absurd z.1 (by decide))).trans ((s_pv_nv (fun z => absurd z.1 (by decide))).trans ((s_pv_nv (fun z => absurd z.1 (by decide))).trans hS)))) (show c.1 + 1 + 1 + 1 < e_xb by omega) (fun a27 ha27 => ?_)
  refine t_putR dX8_init_29 rfl rfl (Or.inr ⟨rfl, rfl, rfl⟩) ?_
  refine w_op (pc' := 33) dX8_init_32 rfl ?_
  refine w_bipush (v := 61) dX8_init_33 rfl ?_
  refine t_newrow (t := T_S_places) (i := j) (F := f_s_places) (G := g_s_places) (W := 61) (W' := 61) dX8_init_35 ⟨by decide, by decide⟩ rfl (by decide) (Or.inl rfl) rfl (by decide) (by decide) (by decide +kernel) (by decide +kernel) (by decide +kernel) (by decide +kernel) (by decide) (by decide) (by decide) ((s_pv_nv (fun z => absurd z.1 (by decide))).trans ((s_pv_nv (fun z => absurd z.1 (by decide))).trans ((s_pv_nv (fun z => absurd z.1 (by decide))).trans ((s_pv_nv (fun z => absurd z.1 (by decide))).trans (hN T_S_places (by decide)))))) (s_par1 (tt := T_STOP) ⟨rfl, rfl⟩ ((s_pv_nv (fun z => absurd z.1 (by decide))).trans ((s_pv_nv (fun z => absurd z.1 (by decide))).trans ((s_pv_nv (fun z => absurd z.1 (by decide))).trans ((s_pv_nv (fun z => absurd z.1 (by decide))).trans hS))))) (show c.1 + 1 + 1 + 1 + 1 < e_xb by omega) (fun a35 ha35 => ?_)
  refine t_putR dX8_init_37 rfl rfl (Or.inr ⟨rfl, rfl, rfl⟩) ?_
  refine w_op (pc' := 41) dX8_init_40 rfl ?_
  refine w_bipush (v := 61) dX8_init_41 rfl ?_
  refine t_newrow (t := T_S_keysAt) (i := j) (F := f_s_keysAt) (G := g_s_keysAt) (W := 61) (W' := 61) dX8_init_43 ⟨by decide, by decide⟩ rfl (by decide) (Or.inl rfl) rfl (by decide) (by decide) (by decide +kernel) (by decide +kernel) (by decide +kernel) (by decide +kernel) (by decide) (by decide) (by decide) ((s_pv_nv (fun z => absurd z.1 (by decide))).trans ((s_pv_nv (fun z => absurd z.1 (by decide))).trans ((s_pv_nv (fun z => absurd z.1 (by decide))).trans ((s_pv_nv (fun z => absurd z.1 (by decide))).trans ((s_pv_nv (fun z => absurd z.1 (by decide))).trans (hN T_S_keysAt (by decide))))))) (s_par1 (tt := T_STOP) ⟨rfl, rfl⟩ ((s_pv_nv (fun z => absurd z.1 (by decide))).trans ((s_pv_nv (fun z => absurd z.1 (by decide))).trans ((s_pv_nv (fun z => absurd z.1 (by decide))).trans ((s_pv_nv (fun z => absurd z.1 (by decide))).trans ((s_pv_nv (fun z => absurd z.1 (by decide))).trans hS)))))) (show c.1 + 1 + 1 + 1 + 1 + 1 < e_xb by omega) (fun a43 ha43 => ?_)
  refine t_putR dX8_init_45 rfl rfl (Or.inr ⟨rfl, rfl, rfl⟩) ?_
  refine w_iconst (v := 0) dX8_init_48 rfl ?_
  refine w_op (pc' := 50) (ll' := [_, _]) dX8_init_49 rfl ?_
  rw [s_sti_0]
  have hx : s_xv (s_N6 j) p (s_pv (s_pv (s_pv (s_pv (s_pv (s_pv p T_S_ranks j a6 4) T_S_offsets j a13 4) T_S_firsts j a20 4) T_S_lasts j a27 4) T_S_places j a35 61) T_S_keysAt j a43 61) := ((((((s_xv.pv (by simp [s_N6, s_sT])).trans (s_xv.pv (by simp [s_N6, s_sT]))).trans (s_xv.pv (by simp [s_N6, s_sT]))).trans (s_xv.pv (by simp [s_N6, s_sT]))).trans (s_xv.pv (by simp [s_N6, s_sT]))).trans (s_xv.pv (by simp [s_N6, s_sT])))
  have e0 : (s_pv (s_pv (s_pv (s_pv (s_pv (s_pv p T_S_ranks j a6 4) T_S_offsets j a13 4) T_S_firsts j a20 4) T_S_lasts j a27 4) T_S_places j a35 61) T_S_keysAt j a43 61).1 T_S_ranks j = a6 := ((s_pv_n (fun z => absurd z.1 (by decide))).trans ((s_pv_n (fun z => absurd z.1 (by decide))).trans ((s_pv_n (fun z => absurd z.1 (by decide))).trans ((s_pv_n (fun z => absurd z.1 (by decide))).trans ((s_pv_n (fun z => absurd z.1 (by decide))).trans s_pv_s)))))
  have e1 : (s_pv (s_pv (s_pv (s_pv (s_pv (s_pv p T_S_ranks j a6 4) T_S_offsets j a13 4) T_S_firsts j a20 4) T_S_lasts j a27 4) T_S_places j a35 61) T_S_keysAt j a43 61).1 T_S_offsets j = a13 := ((s_pv_n (fun z => absurd z.1 (by decide))).trans ((s_pv_n (fun z => absurd z.1 (by decide))).trans ((s_pv_n (fun z => absurd z.1 (by decide))).trans ((s_pv_n (fun z => absurd z.1 (by decide))).trans s_pv_s))))
  have e2 : (s_pv (s_pv (s_pv (s_pv (s_pv (s_pv p T_S_ranks j a6 4) T_S_offsets j a13 4) T_S_firsts j a20 4) T_S_lasts j a27 4) T_S_places j a35 61) T_S_keysAt j a43 61).1 T_S_firsts j = a20 := ((s_pv_n (fun z => absurd z.1 (by decide))).trans ((s_pv_n (fun z => absurd z.1 (by decide))).trans ((s_pv_n (fun z => absurd z.1 (by decide))).trans s_pv_s)))
  have e3 : (s_pv (s_pv (s_pv (s_pv (s_pv (s_pv p T_S_ranks j a6 4) T_S_offsets j a13 4) T_S_firsts j a20 4) T_S_lasts j a27 4) T_S_places j a35 61) T_S_keysAt j a43 61).1 T_S_lasts j = a27 := ((s_pv_n (fun z => absurd z.1 (by decide))).trans ((s_pv_n (fun z => absurd z.1 (by decide))).trans s_pv_s))
  have e4 : (s_pv (s_pv (s_pv (s_pv (s_pv (s_pv p T_S_ranks j a6 4) T_S_offsets j a13 4) T_S_firsts j a20 4) T_S_lasts j a27 4) T_S_places j a35 61) T_S_keysAt j a43 61).1 T_S_places j = a35 := ((s_pv_n (fun z => absurd z.1 (by decide))).trans s_pv_s)
  have e5 : (s_pv (s_pv (s_pv (s_pv (s_pv (s_pv p T_S_ranks j a6 4) T_S_offsets j a13 4) T_S_firsts j a20 4) T_S_lasts j a27 4) T_S_places j a35 61) T_S_keysAt j a43 61).1 T_S_keysAt j = a43 := s_pv_s
  have v0 : (s_pv (s_pv (s_pv (s_pv (s_pv (s_pv p T_S_ranks j a6 4) T_S_offsets j a13 4) T_S_firsts j a20 4) T_S_lasts j a27 4) T_S_places j a35 61) T_S_keysAt j a43 61).2.1 T_S_ranks j = true := (s_pv_k (s_pv_k (s_pv_k (s_pv_k (s_pv_k s_pv_v)))))
  have v1 : (s_pv (s_pv (s_pv (s_pv (s_pv (s_pv p T_S_ranks j a6 4) T_S_offsets j a13 4) T_S_firsts j a20 4) T_S_lasts j a27 4) T_S_places j a35 61) T_S_keysAt j a43 61).2.1 T_S_offsets j = true := (s_pv_k (s_pv_k (s_pv_k (s_pv_k s_pv_v))))
  have v2 : (s_pv (s_pv (s_pv (s_pv (s_pv (s_pv p T_S_ranks j a6 4) T_S_offsets j a13 4) T_S_firsts j a20 4) T_S_lasts j a27 4) T_S_places j a35 61) T_S_keysAt j a43 61).2.1 T_S_firsts j = true := (s_pv_k (s_pv_k (s_pv_k s_pv_v)))
  have v3 : (s_pv (s_pv (s_pv (s_pv (s_pv (s_pv p T_S_ranks j a6 4) T_S_offsets j a13 4) T_S_firsts j a20 4) T_S_lasts j a27 4) T_S_places j a35 61) T_S_keysAt j a43 61).2.1 T_S_lasts j = true := (s_pv_k (s_pv_k s_pv_v))
  have v4 : (s_pv (s_pv (s_pv (s_pv (s_pv (s_pv p T_S_ranks j a6 4) T_S_offsets j a13 4) T_S_firsts j a20 4) T_S_lasts j a27 4) T_S_places j a35 61) T_S_keysAt j a43 61).2.1 T_S_places j = true := (s_pv_k s_pv_v)
  have v5 : (s_pv (s_pv (s_pv (s_pv (s_pv (s_pv p T_S_ranks j a6 4) T_S_offsets j a13 4) T_S_firsts j a20 4) T_S_lasts j a27 4) T_S_places j a35 61) T_S_keysAt j a43 61).2.1 T_S_keysAt j = true := s_pv_v
  generalize (s_pv (s_pv (s_pv (s_pv (s_pv (s_pv p T_S_ranks j a6 4) T_S_offsets j a13 4) T_S_firsts j a20 4) T_S_lasts j a27 4) T_S_places j a35 61) T_S_keysAt j a43 61) = p6 at hx e0 e1 e2 e3 e4 e5 v0 v1 v2 v3 v4 v5 ⊢
  subst e0
  subst e1
  subst e2
  subst e3
  subst e4
  subst e5
  refine w_show (S' := (p6, s_sti I j 0, J, (c.1 + 6, c.2 + 138), s_rw w b (12, 0, s_stf p6 j f))) rfl ?_
  exact l_X8_init (p := p6) (I := I) v4 v5 (k p6 hx (fun t ht => by rcases List.mem_cons.mp ht with rfl | ht; exact v0; rcases List.mem_cons.mp ht with rfl | ht; exact v1; rcases List.mem_cons.mp ht with rfl | ht; exact v2; rcases List.mem_cons.mp ht with rfl | ht; exact v3; rcases List.mem_cons.mp ht with rfl | ht; exact v4; obtain rfl := List.mem_singleton.mp ht; exact v5)) 62 0 (Nat.zero_le _) (by omega)
