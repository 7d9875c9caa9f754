/-! 86: keys, tape, continuo, memory are made (printed by wip/whole/p86.py) -/
/-- the types in L, the lists in l -/
def s_NT (L l : List Nat) (t i : Nat) : Bool := L.contains t || ((decide (t = T_LIST) || decide (t = T_LARR)) && l.contains i)
theorem s_NT.n {L l : List Nat} {t i : Nat} (h : (L.contains t || (decide (t = T_LIST) || decide (t = T_LARR))) = false) : s_NT L l t i = false := by
  unfold s_NT
  rw [Bool.or_eq_false_iff] at h
  rw [h.1, h.2]; rfl
theorem s_NT.mono {L l L' l' : List Nat} (h : (s_sub L L' && s_sub l l') = true) : ∀ t i, s_NT L' l' t i = false → s_NT L l t i = false := fun t i hti => by
  rw [Bool.and_eq_true] at h
  have aux : ∀ (A B : List Nat) x, s_sub A B = true → B.contains x = false → A.contains x = false := fun A B x hs hx => by
    cases e : A.contains x with
    | false => rfl
    | true =>
      have := List.all_eq_true.mp hs x (List.contains_iff_mem.mp e)
      rw [hx] at this
      cases this
  unfold s_NT at hti ⊢
  rw [Bool.or_eq_false_iff, Bool.and_eq_false_iff] at hti
  rw [aux _ _ _ h.1 hti.1]
  rcases hti.2 with e | e
  · rw [e]; rfl
  · rw [aux _ _ _ h.2 e, Bool.and_false]; rfl
theorem s_NT.y {L l : List Nat} {t i : Nat} (h : L.contains t = true) : s_NT L l t i = true := by
  unfold s_NT
  rw [h]; rfl
def s_zKEYS (I : e_I) : e_I := (s_z (s_z (s_z (s_z I f_a_pressed 0 183) f_a_pressedAt 0 183) f_a_lowest 0 3) f_a_highest 0 3)
def s_zJKEYS (J : e_Jt) : e_Jt := J
def s_fKEYS (p : e_Sp) (f : Nat → Value) : Nat → Value := (s_fu (s_fu (s_fu (s_fu f 0 (.ref (p.1 T_A_pressed 0))) 1 (.ref (p.1 T_A_pressedAt 0))) 2 (.ref (p.1 T_A_lowest 0))) 3 (.ref (p.1 T_A_highest 0)))
set_option maxRecDepth 100000 in
set_option maxHeartbeats 4000000 in
theorem l_X3_init {X : e_XT} {d : Nat} {p : e_Sp} {I : e_I} {J : e_Jt} {c : Nat × Nat} {w : e_Rw1} {Q : e_Rt → e_SS → Prop} {b : Nat} {f : Nat → Value} (ha_lowest : p.2.1 T_A_lowest 0 = true) (ha_highest : p.2.1 T_A_highest 0 = true) (k : Q (.inl none) (p, (s_fill (s_fill I f_a_lowest 3 (-1)) f_a_highest 3 (-1)), J, c, s_rw w b (7, 0, (s_fu (s_fKEYS p f) 4 (.int (-1)))))) : s_w X (d + 1) K_X3_init 36 [some (.ref b)] [] (p, I, J, c, s_rw w b (7, 0, s_fKEYS p f)) (fun r S' => e_rcr (none) r = true ∧ Q r S') := by
  refine w_op (pc' := 37) dX3_init_36 rfl ?_
  refine w_iconst (v := (-1)) dX3_init_37 rfl ?_
  refine t_putR dX3_init_38 rfl rfl (Or.inl rfl) ?_
  refine w_op (pc' := 42) dX3_init_41 rfl ?_
  refine t_getR (v := .ref (p.1 T_A_lowest 0)) dX3_init_42 rfl rfl ?_
  refine w_iconst (v := (-1)) dX3_init_45 rfl ?_
  refine t_callS (As := [_, _]) dX3_init_46 rfl rM_J7_fill_53178 (by decide) rfl rfl (by decide) (Nat.le_of_ble_eq_true rfl) (c_fill (F := f_a_lowest) rfl (by decide) (by decide) rfl ha_lowest (by decide) ?_)
  show s_w _ _ _ 49 _ _ _ _
  refine w_op (pc' := 50) dX3_init_49 rfl ?_
  refine t_getR (v := .ref (p.1 T_A_highest 0)) dX3_init_50 rfl rfl ?_
  refine w_iconst (v := (-1)) dX3_init_53 rfl ?_
  refine t_callS (As := [_, _]) dX3_init_54 rfl rM_J7_fill_53178 (by decide) rfl rfl (by decide) (Nat.le_of_ble_eq_true rfl) (c_fill (F := f_a_highest) rfl (by decide) (by decide) rfl ha_highest (by decide) ?_)
  show s_w _ _ _ 57 _ _ _ _
  exact w_return dX3_init_57 ⟨rfl, k⟩
set_option maxRecDepth 100000 in
set_option maxHeartbeats 4000000 in
theorem c_X3_init {X : e_XT} {d : Nat} {p : e_Sp} {I : e_I} {J : e_Jt} {c : Nat × Nat} {w : e_Rw1} {Q : e_Rt → e_SS → Prop} {b : Nat} {f : Nat → Value} (hN : ∀ t, t ∈ [T_KEYS, T_A_pressed, T_A_pressedAt, T_A_lowest, T_A_highest] → ∀ i, p.2.1 t i = false) (hc : c.1 + 4 < e_xb) (k : ∀ p', s_xv (s_NT [T_A_pressed, T_A_pressedAt, T_A_lowest, T_A_highest] []) p p' → (∀ t, t ∈ [T_A_pressed, T_A_pressedAt, T_A_lowest, T_A_highest] → p'.2.1 t 0 = true) → Q (.inl none) (p', (s_fill (s_fill (s_zKEYS I) f_a_lowest 3 (-1)) f_a_highest 3 (-1)), s_zJKEYS J, (c.1 + 4, c.2 + 372), s_rw w b (7, 0, (s_fu (s_fKEYS p' f) 4 (.int (-1)))))) : s_c X (d + 1) 48 [.ref b] (p, I, J, c, s_rw w b (7, 0, f)) Q := by
  refine m_X3_init (Nat.le_of_ble_eq_true rfl) ?_
  show s_w _ _ _ 0 _ _ _ _
  refine w_op (pc' := 1) dX3_init_0 rfl ?_
  refine w_objinit (by decide) rfl (Nat.le_of_ble_eq_true rfl) dX3_init_1 ?_
  refine w_op (pc' := 5) dX3_init_4 rfl ?_
  refine w_sipush (v := 183) dX3_init_5 rfl ?_
  refine t_newrow (t := T_A_pressed) (i := 0) (F := f_a_pressed) (G := g_y_pressed) (W := 183) (W' := 183) dX3_init_8 ⟨by decide, by decide⟩ rfl (by decide) (Or.inl rfl) rfl (by decide) (by decide) (by decide +kernel) (by decide +kernel) (by decide +kernel) (by decide +kernel) (by decide) (by decide) (by decide) (hN T_A_pressed (by decide) 0) (s_par0 (tt := T_KEYS) rfl (fun i9 => (hN T_KEYS (by decide) i9))) (show c.1 < e_xb by omega) (fun a8 ha8 => ?_)
  refine t_putR dX3_init_10 rfl rfl (Or.inr ⟨rfl, rfl, rfl⟩) ?_
  refine w_op (pc' := 14) dX3_init_13 rfl ?_
  refine w_sipush (v := 183) dX3_init_14 rfl ?_
  refine t_newrow (t := T_A_pressedAt) (i := 0) (F := f_a_pressedAt) (G := g_y_pressedAt) (W := 183) (W' := 183) dX3_init_17 ⟨by decide, by decide⟩ rfl (by decide) (Or.inl rfl) rfl (by decide) (by decide) (by decide +kernel) (by decide +kernel) (by decide +kernel) (by decide +kernel) (by decide) (by decide) (by decide) ((s_pv_nv (fun z => absurd z.1 (by decide))).trans (hN T_A_pressedAt (by decide) 0)) (s_par0 (tt := T_KEYS) rfl (fun i9 => ((s_pv_nv (fun z => absurd z.1 (by decide))).trans (hN T_KEYS (by decide) i9)))) (show c.1 + 1 < e_xb by omega) (fun a17 ha17 => ?_)
  refine t_putR dX3_init_19 rfl rfl (Or.inr ⟨rfl, rfl, rfl⟩) ?_
  refine w_op (pc' := 23) dX3_init_22 rfl ?_
  refine w_iconst (v := 3) dX3_init_23 rfl ?_
  refine t_newrow (t := T_A_lowest) (i := 0) (F := f_a_lowest) (G := g_y_lowest) (W := 3) (W' := 3) dX3_init_24 ⟨by decide, by decide⟩ rfl (by decide) (Or.inl rfl) rfl (by decide) (by decide) (by decide +kernel) (by decide +kernel) (by decide +kernel) (by decide +kernel) (by decide) (by decide) (by decide) ((s_pv_nv (fun z => absurd z.1 (by decide))).trans ((s_pv_nv (fun z => absurd z.1 (by decide))).trans (hN T_A_lowest (by decide) 0))) (s_par0 (tt := T_KEYS) rfl (fun i9 => ((s_pv_nv (fun z => absurd z.1 (by decide))).trans ((s_pv_nv (fun z => absurd z.1 (by decide))).trans (hN T_KEYS (by decide) i9))))) (show c.1 + 1 + 1 < e_xb by omega) (fun a24 ha24 => ?_)
  refine t_putR dX3_init_26 rfl rfl (Or.inr ⟨rfl, rfl, rfl⟩) ?_
  refine w_op (pc' := 30) dX3_init_29 rfl ?_
  refine w_iconst (v := 3) dX3_init_30 rfl ?_
  refine t_newrow (t := T_A_highest) (i := 0) (F := f_a_highest) (G := g_y_highest) (W := 3) (W' := 3) dX3_init_31 ⟨by decide, by decide⟩ rfl (by decide) (Or.inl rfl) rfl (by decide) (by decide) (by decide +kernel) (by decide +kernel) (by decide +kernel) (by decide +kernel) (by decide) (by decide) (by decide) ((s_pv_nv (fun z => absurd z.1 (by decide))).trans ((s_pv_nv (fun z => absurd z.1 (by decide))).trans ((s_pv_nv (fun z => absurd z.1 (by decide))).trans (hN T_A_highest (by decide) 0)))) (s_par0 (tt := T_KEYS) rfl (fun i9 => ((s_pv_nv (fun z => absurd z.1 (by decide))).trans ((s_pv_nv (fun z => absurd z.1 (by decide))).trans ((s_pv_nv (fun z => absurd z.1 (by decide))).trans (hN T_KEYS (by decide) i9)))))) (show c.1 + 1 + 1 + 1 < e_xb by omega) (fun a31 ha31 => ?_)
  refine t_putR dX3_init_33 rfl rfl (Or.inr ⟨rfl, rfl, rfl⟩) ?_
  have hx : s_xv (s_NT [T_A_pressed, T_A_pressedAt, T_A_lowest, T_A_highest] []) p (s_pv (s_pv (s_pv (s_pv p T_A_pressed 0 a8 183) T_A_pressedAt 0 a17 183) T_A_lowest 0 a24 3) T_A_highest 0 a31 3) := ((((s_xv.pv (s_NT.y (by decide))).trans (s_xv.pv (s_NT.y (by decide)))).trans (s_xv.pv (s_NT.y (by decide)))).trans (s_xv.pv (s_NT.y (by decide))))
  have e0 : (s_pv (s_pv (s_pv (s_pv p T_A_pressed 0 a8 183) T_A_pressedAt 0 a17 183) T_A_lowest 0 a24 3) T_A_highest 0 a31 3).1 T_A_pressed 0 = a8 := ((s_pv_n (fun z => absurd z.1 (by decide))).trans ((s_pv_n (fun z => absurd z.1 (by decide))).trans ((s_pv_n (fun z => absurd z.1 (by decide))).trans s_pv_s)))
  have e1 : (s_pv (s_pv (s_pv (s_pv p T_A_pressed 0 a8 183) T_A_pressedAt 0 a17 183) T_A_lowest 0 a24 3) T_A_highest 0 a31 3).1 T_A_pressedAt 0 = a17 := ((s_pv_n (fun z => absurd z.1 (by decide))).trans ((s_pv_n (fun z => absurd z.1 (by decide))).trans s_pv_s))
  have e2 : (s_pv (s_pv (s_pv (s_pv p T_A_pressed 0 a8 183) T_A_pressedAt 0 a17 183) T_A_lowest 0 a24 3) T_A_highest 0 a31 3).1 T_A_lowest 0 = a24 := ((s_pv_n (fun z => absurd z.1 (by decide))).trans s_pv_s)
  have e3 : (s_pv (s_pv (s_pv (s_pv p T_A_pressed 0 a8 183) T_A_pressedAt 0 a17 183) T_A_lowest 0 a24 3) T_A_highest 0 a31 3).1 T_A_highest 0 = a31 := s_pv_s
  have v0 : (s_pv (s_pv (s_pv (s_pv p T_A_pressed 0 a8 183) T_A_pressedAt 0 a17 183) T_A_lowest 0 a24 3) T_A_highest 0 a31 3).2.1 T_A_pressed 0 = true := (s_pv_k (s_pv_k (s_pv_k s_pv_v)))
  have v1 : (s_pv (s_pv (s_pv (s_pv p T_A_pressed 0 a8 183) T_A_pressedAt 0 a17 183) T_A_lowest 0 a24 3) T_A_highest 0 a31 3).2.1 T_A_pressedAt 0 = true := (s_pv_k (s_pv_k s_pv_v))
  have v2 : (s_pv (s_pv (s_pv (s_pv p T_A_pressed 0 a8 183) T_A_pressedAt 0 a17 183) T_A_lowest 0 a24 3) T_A_highest 0 a31 3).2.1 T_A_lowest 0 = true := (s_pv_k s_pv_v)
  have v3 : (s_pv (s_pv (s_pv (s_pv p T_A_pressed 0 a8 183) T_A_pressedAt 0 a17 183) T_A_lowest 0 a24 3) T_A_highest 0 a31 3).2.1 T_A_highest 0 = true := s_pv_v
  generalize (s_pv (s_pv (s_pv (s_pv p T_A_pressed 0 a8 183) T_A_pressedAt 0 a17 183) T_A_lowest 0 a24 3) T_A_highest 0 a31 3) = pp at hx e0 e1 e2 e3 v0 v1 v2 v3 ⊢
  subst e0
  subst e1
  subst e2
  subst e3
  refine w_show (S' := (pp, s_zKEYS I, s_zJKEYS J, (c.1 + 4, c.2 + 372), s_rw w b (7, 0, s_fKEYS pp f))) rfl ?_
  exact l_X3_init (p := pp) v2 v3 (k pp hx (fun t ht => by rcases List.mem_cons.mp ht with rfl | ht; exact v0; rcases List.mem_cons.mp ht with rfl | ht; exact v1; rcases List.mem_cons.mp ht with rfl | ht; exact v2; obtain rfl := List.mem_singleton.mp ht; exact v3))
def s_zTAPE (I : e_I) : e_I := (s_z I f_entries 0 1048576)
def s_zJTAPE (J : e_Jt) : e_Jt := J
def s_fTAPE (p : e_Sp) (f : Nat → Value) : Nat → Value := (s_fu (s_fu (s_fu f 0 (.int 45)) 1 (.int 45)) 4 (.ref (p.1 T_ENTR 0)))
set_option maxRecDepth 100000 in
set_option maxHeartbeats 4000000 in
theorem c_X9_init {X : e_XT} {d : Nat} {p : e_Sp} {I : e_I} {J : e_Jt} {c : Nat × Nat} {w : e_Rw1} {Q : e_Rt → e_SS → Prop} {b : Nat} {f : Nat → Value} (hN : ∀ t, t ∈ [T_TAPE, T_ENTR] → ∀ i, p.2.1 t i = false) (hc : c.1 + 1 < e_xb) (k : ∀ p', s_xv (s_NT [T_ENTR] []) p p' → (∀ t, t ∈ [T_ENTR] → p'.2.1 t 0 = true) → p'.2.2.1 T_ENTR 0 = 256 → Q (.inl none) (p', (s_zTAPE I), s_zJTAPE J, (c.1 + 1, c.2 + 256), s_rw w b (13, 0, (s_fTAPE p' f)))) : s_c X (d + 0) 97 [.ref b] (p, I, J, c, s_rw w b (13, 0, f)) Q := by
  refine m_X9_init (Nat.le_of_ble_eq_true rfl) ?_
  show s_w _ _ _ 0 _ _ _ _
  refine w_op (pc' := 1) dX9_init_0 rfl ?_
  refine w_objinit (by decide) rfl (Nat.le_of_ble_eq_true rfl) dX9_init_1 ?_
  refine w_op (pc' := 5) dX9_init_4 rfl ?_
  refine w_bipush (v := 45) dX9_init_5 rfl ?_
  refine t_putR dX9_init_7 rfl (s_ckc (by first | assumption | decide +kernel)) (Or.inl rfl) ?_
  refine w_op (pc' := 11) dX9_init_10 rfl ?_
  refine w_bipush (v := 45) dX9_init_11 rfl ?_
  refine t_putR dX9_init_13 rfl (s_ckc (by first | assumption | decide +kernel)) (Or.inl rfl) ?_
  refine w_op (pc' := 17) dX9_init_16 rfl ?_
  refine w_sipush (v := 256) dX9_init_17 rfl ?_
  refine t_newrow (t := T_ENTR) (i := 0) (F := f_entries) (G := g_t_entries) (W := 256) (W' := 1048576) dX9_init_20 ⟨by decide, by decide⟩ rfl (by decide) (Or.inr rfl) rfl (by decide) (by decide) (by decide +kernel) (by decide +kernel) (by decide +kernel) (by decide +kernel) (by decide) (by decide) (by decide) (hN T_ENTR (by decide) 0) (s_par0 (tt := T_TAPE) rfl (fun i9 => (hN T_TAPE (by decide) i9))) (show c.1 < e_xb by omega) (fun a20 ha20 => ?_)
  refine t_putR dX9_init_22 rfl rfl (Or.inl rfl) ?_
  have hx : s_xv (s_NT [T_ENTR] []) p (s_pv p T_ENTR 0 a20 256) := (s_xv.pv (s_NT.y (by decide)))
  have e0 : (s_pv p T_ENTR 0 a20 256).1 T_ENTR 0 = a20 := s_pv_s
  have v0 : (s_pv p T_ENTR 0 a20 256).2.1 T_ENTR 0 = true := s_pv_v
  have hlen : (s_pv p T_ENTR 0 a20 256).2.2.1 T_ENTR 0 = 256 := rfl
  generalize (s_pv p T_ENTR 0 a20 256) = pp at hx hlen e0 v0 ⊢
  subst e0
  refine w_show (S' := (pp, s_zTAPE I, s_zJTAPE J, (c.1 + 1, c.2 + 256), s_rw w b (13, 0, s_fTAPE pp f))) rfl ?_
  exact w_return dX9_init_25 ⟨rfl, k pp hx (fun t ht => by obtain rfl := List.mem_singleton.mp ht; exact v0) hlen⟩
def s_zCONT (I : e_I) : e_I := (s_z (s_z (s_z I f_a_chord 0 4) f_a_trial 0 4) f_a_best 0 4)
def s_zJCONT (J : e_Jt) : e_Jt := J
def s_fCONT (p : e_Sp) (f : Nat → Value) : Nat → Value := (s_fu (s_fu (s_fu (s_fu f 1 (.int 1)) 3 (.ref (p.1 T_A_chord 0))) 4 (.ref (p.1 T_A_trial 0))) 5 (.ref (p.1 T_A_best 0)))
set_option maxRecDepth 100000 in
set_option maxHeartbeats 4000000 in
theorem c_X1_init {X : e_XT} {d : Nat} {p : e_Sp} {I : e_I} {J : e_Jt} {c : Nat × Nat} {w : e_Rw1} {Q : e_Rt → e_SS → Prop} {b : Nat} {f : Nat → Value} (hN : ∀ t, t ∈ [T_CONT, T_A_chord, T_A_trial, T_A_best] → ∀ i, p.2.1 t i = false) (hc : c.1 + 3 < e_xb) (k : ∀ p', s_xv (s_NT [T_A_chord, T_A_trial, T_A_best] []) p p' → (∀ t, t ∈ [T_A_chord, T_A_trial, T_A_best] → p'.2.1 t 0 = true) → Q (.inl none) (p', (s_zCONT I), s_zJCONT J, (c.1 + 3, c.2 + 12), s_rw w b (5, 0, (s_fCONT p' f)))) : s_c X (d + 0) 33 [.ref b] (p, I, J, c, s_rw w b (5, 0, f)) Q := by
  refine m_X1_init (Nat.le_of_ble_eq_true rfl) ?_
  show s_w _ _ _ 0 _ _ _ _
  refine w_op (pc' := 1) dX1_init_0 rfl ?_
  refine w_objinit (by decide) rfl (Nat.le_of_ble_eq_true rfl) dX1_init_1 ?_
  refine w_op (pc' := 5) dX1_init_4 rfl ?_
  refine w_iconst (v := 1) dX1_init_5 rfl ?_
  refine t_putR dX1_init_6 rfl (s_ckb (by first | exact Or.inl rfl | exact Or.inr rfl | assumption)) (Or.inl rfl) ?_
  refine w_op (pc' := 10) dX1_init_9 rfl ?_
  refine w_iconst (v := 4) dX1_init_10 rfl ?_
  refine t_newrow (t := T_A_chord) (i := 0) (F := f_a_chord) (G := g_o_chord) (W := 4) (W' := 4) dX1_init_11 ⟨by decide, by decide⟩ rfl (by decide) (Or.inl rfl) rfl (by decide) (by decide) (by decide +kernel) (by decide +kernel) (by decide +kernel) (by decide +kernel) (by decide) (by decide) (by decide) (hN T_A_chord (by decide) 0) (s_par0 (tt := T_CONT) rfl (fun i9 => (hN T_CONT (by decide) i9))) (show c.1 < e_xb by omega) (fun a11 ha11 => ?_)
  refine t_putR dX1_init_13 rfl rfl (Or.inr ⟨rfl, rfl, rfl⟩) ?_
  refine w_op (pc' := 17) dX1_init_16 rfl ?_
  refine w_iconst (v := 4) dX1_init_17 rfl ?_
  refine t_newrow (t := T_A_trial) (i := 0) (F := f_a_trial) (G := g_o_trial) (W := 4) (W' := 4) dX1_init_18 ⟨by decide, by decide⟩ rfl (by decide) (Or.inl rfl) rfl (by decide) (by decide) (by decide +kernel) (by decide +kernel) (by decide +kernel) (by decide +kernel) (by decide) (by decide) (by decide) ((s_pv_nv (fun z => absurd z.1 (by decide))).trans (hN T_A_trial (by decide) 0)) (s_par0 (tt := T_CONT) rfl (fun i9 => ((s_pv_nv (fun z => absurd z.1 (by decide))).trans (hN T_CONT (by decide) i9)))) (show c.1 + 1 < e_xb by omega) (fun a18 ha18 => ?_)
  refine t_putR dX1_init_20 rfl rfl (Or.inr ⟨rfl, rfl, rfl⟩) ?_
  refine w_op (pc' := 24) dX1_init_23 rfl ?_
  refine w_iconst (v := 4) dX1_init_24 rfl ?_
  refine t_newrow (t := T_A_best) (i := 0) (F := f_a_best) (G := g_o_best) (W := 4) (W' := 4) dX1_init_25 ⟨by decide, by decide⟩ rfl (by decide) (Or.inl rfl) rfl (by decide) (by decide) (by decide +kernel) (by decide +kernel) (by decide +kernel) (by decide +kernel) (by decide) (by decide) (by decide) ((s_pv_nv (fun z => absurd z.1 (by decide))).trans ((s_pv_nv (fun z => absurd z.1 (by decide))).trans (hN T_A_best (by decide) 0))) (s_par0 (tt := T_CONT) rfl (fun i9 => ((s_pv_nv (fun z => absurd z.1 (by decide))).trans ((s_pv_nv (fun z => absurd z.1 (by decide))).trans (hN T_CONT (by decide) i9))))) (show c.1 + 1 + 1 < e_xb by omega) (fun a25 ha25 => ?_)
  refine t_putR dX1_init_27 rfl rfl (Or.inr ⟨rfl, rfl, rfl⟩) ?_
  have hx : s_xv (s_NT [T_A_chord, T_A_trial, T_A_best] []) p (s_pv (s_pv (s_pv p T_A_chord 0 a11 4) T_A_trial 0 a18 4) T_A_best 0 a25 4) := (((s_xv.pv (s_NT.y (by decide))).trans (s_xv.pv (s_NT.y (by decide)))).trans (s_xv.pv (s_NT.y (by decide))))
  have e0 : (s_pv (s_pv (s_pv p T_A_chord 0 a11 4) T_A_trial 0 a18 4) T_A_best 0 a25 4).1 T_A_chord 0 = a11 := ((s_pv_n (fun z => absurd z.1 (by decide))).trans ((s_pv_n (fun z => absurd z.1 (by decide))).trans s_pv_s))
  have e1 : (s_pv (s_pv (s_pv p T_A_chord 0 a11 4) T_A_trial 0 a18 4) T_A_best 0 a25 4).1 T_A_trial 0 = a18 := ((s_pv_n (fun z => absurd z.1 (by decide))).trans s_pv_s)
  have e2 : (s_pv (s_pv (s_pv p T_A_chord 0 a11 4) T_A_trial 0 a18 4) T_A_best 0 a25 4).1 T_A_best 0 = a25 := s_pv_s
  have v0 : (s_pv (s_pv (s_pv p T_A_chord 0 a11 4) T_A_trial 0 a18 4) T_A_best 0 a25 4).2.1 T_A_chord 0 = true := (s_pv_k (s_pv_k s_pv_v))
  have v1 : (s_pv (s_pv (s_pv p T_A_chord 0 a11 4) T_A_trial 0 a18 4) T_A_best 0 a25 4).2.1 T_A_trial 0 = true := (s_pv_k s_pv_v)
  have v2 : (s_pv (s_pv (s_pv p T_A_chord 0 a11 4) T_A_trial 0 a18 4) T_A_best 0 a25 4).2.1 T_A_best 0 = true := s_pv_v
  generalize (s_pv (s_pv (s_pv p T_A_chord 0 a11 4) T_A_trial 0 a18 4) T_A_best 0 a25 4) = pp at hx e0 e1 e2 v0 v1 v2 ⊢
  subst e0
  subst e1
  subst e2
  refine w_show (S' := (pp, s_zCONT I, s_zJCONT J, (c.1 + 3, c.2 + 12), s_rw w b (5, 0, s_fCONT pp f))) rfl ?_
  exact w_return dX1_init_30 ⟨rfl, k pp hx (fun t ht => by rcases List.mem_cons.mp ht with rfl | ht; exact v0; rcases List.mem_cons.mp ht with rfl | ht; exact v1; obtain rfl := List.mem_singleton.mp ht; exact v2)⟩
def s_zMEM (I : e_I) : e_I := (s_z (s_z (s_z (s_z I f_a_isSet 0 80) f_a_reversibles 0 16) f_a_owners 0 4) f_a_frameCounts 0 4)
def s_zJMEM (J : e_Jt) : e_Jt := (s_z (s_z (s_z (s_z J j_a_kept 0 80) j_a_drawn 0 80) j_a_frameKept 0 80) j_a_frameDrawn 0 80)
def s_fMEM (p : e_Sp) (f : Nat → Value) : Nat → Value := (s_fu (s_fu (s_fu (s_fu (s_fu (s_fu (s_fu (s_fu f 3 (.ref (p.1 T_A_isSet 0))) 4 (.ref (p.1 T_A_kept 0))) 5 (.ref (p.1 T_A_drawn 0))) 6 (.ref (p.1 T_A_reversibles 0))) 7 (.ref (p.1 T_A_owners 0))) 8 (.ref (p.1 T_A_frameCounts 0))) 9 (.ref (p.1 T_A_frameKept 0))) 10 (.ref (p.1 T_A_frameDrawn 0)))
set_option maxRecDepth 100000 in
set_option maxHeartbeats 4000000 in
theorem l_X5_init {X : e_XT} {d : Nat} {p : e_Sp} {I : e_I} {J : e_Jt} {c : Nat × Nat} {w : e_Rw1} {Q : e_Rt → e_SS → Prop} {b : Nat} {f : Nat → Value} (ha_reversibles : p.2.1 T_A_reversibles 0 = true) (ha_owners : p.2.1 T_A_owners 0 = true) (k : Q (.inl none) (p, (s_fill (s_fill I f_a_reversibles 16 (-1)) f_a_owners 4 (-1)), J, c, s_rw w b (9, 0, (s_fMEM p f)))) : s_w X (d + 1) K_X5_init 66 [some (.ref b)] [] (p, I, J, c, s_rw w b (9, 0, s_fMEM p f)) (fun r S' => e_rcr (none) r = true ∧ Q r S') := by
  refine w_op (pc' := 67) dX5_init_66 rfl ?_
  refine t_getR (v := .ref (p.1 T_A_reversibles 0)) dX5_init_67 rfl rfl ?_
  refine w_iconst (v := (-1)) dX5_init_70 rfl ?_
  refine t_callS (As := [_, _]) dX5_init_71 rfl rM_J7_fill_53178 (by decide) rfl rfl (by decide) (Nat.le_of_ble_eq_true rfl) (c_fill (F := f_a_reversibles) rfl (by decide) (by decide) rfl ha_reversibles (by decide) ?_)
  show s_w _ _ _ 74 _ _ _ _
  refine w_op (pc' := 75) dX5_init_74 rfl ?_
  refine t_getR (v := .ref (p.1 T_A_owners 0)) dX5_init_75 rfl rfl ?_
  refine w_iconst (v := (-1)) dX5_init_78 rfl ?_
  refine t_callS (As := [_, _]) dX5_init_79 rfl rM_J7_fill_53178 (by decide) rfl rfl (by decide) (Nat.le_of_ble_eq_true rfl) (c_fill (F := f_a_owners) rfl (by decide) (by decide) rfl ha_owners (by decide) ?_)
  show s_w _ _ _ 82 _ _ _ _
  exact w_return dX5_init_82 ⟨rfl, k⟩
set_option maxRecDepth 100000 in
set_option maxHeartbeats 4000000 in
theorem c_X5_init {X : e_XT} {d : Nat} {p : e_Sp} {I : e_I} {J : e_Jt} {c : Nat × Nat} {w : e_Rw1} {Q : e_Rt → e_SS → Prop} {b : Nat} {f : Nat → Value} (hN : ∀ t, t ∈ [T_MEM, T_A_isSet, T_A_kept, T_A_drawn, T_A_reversibles, T_A_owners, T_A_frameCounts, T_A_frameKept, T_A_frameDrawn] → ∀ i, p.2.1 t i = false) (hc : c.1 + 8 < e_xb) (k : ∀ p', s_xv (s_NT [T_A_isSet, T_A_kept, T_A_drawn, T_A_reversibles, T_A_owners, T_A_frameCounts, T_A_frameKept, T_A_frameDrawn] []) p p' → (∀ t, t ∈ [T_A_isSet, T_A_kept, T_A_drawn, T_A_reversibles, T_A_owners, T_A_frameCounts, T_A_frameKept, T_A_frameDrawn] → p'.2.1 t 0 = true) → Q (.inl none) (p', (s_fill (s_fill (s_zMEM I) f_a_reversibles 16 (-1)) f_a_owners 4 (-1)), s_zJMEM J, (c.1 + 8, c.2 + 424), s_rw w b (9, 0, (s_fMEM p' f)))) : s_c X (d + 1) 59 [.ref b] (p, I, J, c, s_rw w b (9, 0, f)) Q := by
  refine m_X5_init (Nat.le_of_ble_eq_true rfl) ?_
  show s_w _ _ _ 0 _ _ _ _
  refine w_op (pc' := 1) dX5_init_0 rfl ?_
  refine w_objinit (by decide) rfl (Nat.le_of_ble_eq_true rfl) dX5_init_1 ?_
  refine w_op (pc' := 5) dX5_init_4 rfl ?_
  refine w_bipush (v := 80) dX5_init_5 rfl ?_
  refine t_newrow (t := T_A_isSet) (i := 0) (F := f_a_isSet) (G := g_e_isSet) (W := 80) (W' := 80) dX5_init_7 ⟨by decide, by decide⟩ rfl (by decide) (Or.inl rfl) rfl (by decide) (by decide) (by decide +kernel) (by decide +kernel) (by decide +kernel) (by decide +kernel) (by decide) (by decide) (by decide) (hN T_A_isSet (by decide) 0) (s_par0 (tt := T_MEM) rfl (fun i9 => (hN T_MEM (by decide) i9))) (show c.1 < e_xb by omega) (fun a7 ha7 => ?_)
  refine t_putR dX5_init_9 rfl rfl (Or.inr ⟨rfl, rfl, rfl⟩) ?_
  refine w_op (pc' := 13) dX5_init_12 rfl ?_
  refine w_bipush (v := 80) dX5_init_13 rfl ?_
  refine t_newrowJ (t := T_A_kept) (i := 0) (F := j_a_kept) (G := g_e_kept) (W := 80) dX5_init_15 ⟨by decide, by decide⟩ rfl (by decide) rfl rfl (by decide) (by decide) (by decide +kernel) (by decide +kernel) (by decide +kernel) (by decide +kernel) (by decide) (by decide) ((s_pv_nv (fun z => absurd z.1 (by decide))).trans (hN T_A_kept (by decide) 0)) (s_par0 (tt := T_MEM) rfl (fun i9 => ((s_pv_nv (fun z => absurd z.1 (by decide))).trans (hN T_MEM (by decide) i9)))) (show c.1 + 1 < e_xb by omega) (fun a15 ha15 => ?_)
  refine t_putR dX5_init_17 rfl rfl (Or.inr ⟨rfl, rfl, rfl⟩) ?_
  refine w_op (pc' := 21) dX5_init_20 rfl ?_
  refine w_bipush (v := 80) dX5_init_21 rfl ?_
  refine t_newrowJ (t := T_A_drawn) (i := 0) (F := j_a_drawn) (G := g_e_drawn) (W := 80) dX5_init_23 ⟨by decide, by decide⟩ rfl (by decide) rfl rfl (by decide) (by decide) (by decide +kernel) (by decide +kernel) (by decide +kernel) (by decide +kernel) (by decide) (by decide) ((s_pv_nv (fun z => absurd z.1 (by decide))).trans ((s_pv_nv (fun z => absurd z.1 (by decide))).trans (hN T_A_drawn (by decide) 0))) (s_par0 (tt := T_MEM) rfl (fun i9 => ((s_pv_nv (fun z => absurd z.1 (by decide))).trans ((s_pv_nv (fun z => absurd z.1 (by decide))).trans (hN T_MEM (by decide) i9))))) (show c.1 + 1 + 1 < e_xb by omega) (fun a23 ha23 => ?_)
  refine t_putR dX5_init_25 rfl rfl (Or.inr ⟨rfl, rfl, rfl⟩) ?_
  refine w_op (pc' := 29) dX5_init_28 rfl ?_
  refine w_bipush (v := 16) dX5_init_29 rfl ?_
  refine t_newrow (t := T_A_reversibles) (i := 0) (F := f_a_reversibles) (G := g_e_reversibles) (W := 16) (W' := 16) dX5_init_31 ⟨by decide, by decide⟩ rfl (by decide) (Or.inl rfl) rfl (by decide) (by decide) (by decide +kernel) (by decide +kernel) (by decide +kernel) (by decide +kernel) (by decide) (by decide) (by decide) ((s_pv_nv (fun z => absurd z.1 (by decide))).trans ((s_pv_nv (fun z => absurd z.1 (by decide))).trans ((s_pv_nv (fun z => absurd z.1 (by decide))).trans (hN T_A_reversibles (by decide) 0)))) (s_par0 (tt := T_MEM) rfl (fun i9 => ((s_pv_nv (fun z => absurd z.1 (by decide))).trans ((s_pv_nv (fun z => absurd z.1 (by decide))).trans ((s_pv_nv (fun z => absurd z.1 (by decide))).trans (hN T_MEM (by decide) i9)))))) (show c.1 + 1 + 1 + 1 < e_xb by omega) (fun a31 ha31 => ?_)
  refine t_putR dX5_init_33 rfl rfl (Or.inr ⟨rfl, rfl, rfl⟩) ?_
  refine w_op (pc' := 37) dX5_init_36 rfl ?_
  refine w_iconst (v := 4) dX5_init_37 rfl ?_
  refine t_newrow (t := T_A_owners) (i := 0) (F := f_a_owners) (G := g_e_owners) (W := 4) (W' := 4) dX5_init_38 ⟨by decide, by decide⟩ rfl (by decide) (Or.inl rfl) rfl (by decide) (by decide) (by decide +kernel) (by decide +kernel) (by decide +kernel) (by decide +kernel) (by decide) (by decide) (by decide) ((s_pv_nv (fun z => absurd z.1 (by decide))).trans ((s_pv_nv (fun z => absurd z.1 (by decide))).trans ((s_pv_nv (fun z => absurd z.1 (by decide))).trans ((s_pv_nv (fun z => absurd z.1 (by decide))).trans (hN T_A_owners (by decide) 0))))) (s_par0 (tt := T_MEM) rfl (fun i9 => ((s_pv_nv (fun z => absurd z.1 (by decide))).trans ((s_pv_nv (fun z => absurd z.1 (by decide))).trans ((s_pv_nv (fun z => absurd z.1 (by decide))).trans ((s_pv_nv (fun z => absurd z.1 (by decide))).trans (hN T_MEM (by decide) i9))))))) (show c.1 + 1 + 1 + 1 + 1 < e_xb by omega) (fun a38 ha38 => ?_)
  refine t_putR dX5_init_40 rfl rfl (Or.inr ⟨rfl, rfl, rfl⟩) ?_
  refine w_op (pc' := 44) dX5_init_43 rfl ?_
  refine w_iconst (v := 4) dX5_init_44 rfl ?_
  refine t_newrow (t := T_A_frameCounts) (i := 0) (F := f_a_frameCounts) (G := g_e_frameCounts) (W := 4) (W' := 4) dX5_init_45 ⟨by decide, by decide⟩ rfl (by decide) (Or.inl rfl) rfl (by decide) (by decide) (by decide +kernel) (by decide +kernel) (by decide +kernel) (by decide +kernel) (by decide) (by decide) (by decide) ((s_pv_nv (fun z => absurd z.1 (by decide))).trans ((s_pv_nv (fun z => absurd z.1 (by decide))).trans ((s_pv_nv (fun z => absurd z.1 (by decide))).trans ((s_pv_nv (fun z => absurd z.1 (by decide))).trans ((s_pv_nv (fun z => absurd z.1 (by decide))).trans (hN T_A_frameCounts (by decide) 0)))))) (s_par0 (tt := T_MEM) rfl (fun i9 => ((s_pv_nv (fun z => absurd z.1 (by decide))).trans ((s_pv_nv (fun z => absurd z.1 (by decide))).trans ((s_pv_nv (fun z => absurd z.1 (by decide))).trans ((s_pv_nv (fun z => absurd z.1 (by decide))).trans ((s_pv_nv (fun z => absurd z.1 (by decide))).trans (hN T_MEM (by decide) i9)))))))) (show c.1 + 1 + 1 + 1 + 1 + 1 < e_xb by omega) (fun a45 ha45 => ?_)
  refine t_putR dX5_init_47 rfl rfl (Or.inr ⟨rfl, rfl, rfl⟩) ?_
  refine w_op (pc' := 51) dX5_init_50 rfl ?_
  refine w_bipush (v := 80) dX5_init_51 rfl ?_
  refine t_newrowJ (t := T_A_frameKept) (i := 0) (F := j_a_frameKept) (G := g_e_frameKept) (W := 80) dX5_init_53 ⟨by decide, by decide⟩ rfl (by decide) rfl rfl (by decide) (by decide) (by decide +kernel) (by decide +kernel) (by decide +kernel) (by decide +kernel) (by decide) (by decide) ((s_pv_nv (fun z => absurd z.1 (by decide))).trans ((s_pv_nv (fun z => absurd z.1 (by decide))).trans ((s_pv_nv (fun z => absurd z.1 (by decide))).trans ((s_pv_nv (fun z => absurd z.1 (by decide))).trans ((s_pv_nv (fun z => absurd z.1 (by decide))).trans ((s_pv_nv (fun z => absurd z.1 (by decide))).trans (hN T_A_frameKept (by decide) 0))))))) (s_par0 (tt := T_MEM) rfl (fun i9 => ((s_pv_nv (fun z => absurd z.1 (by decide))).trans ((s_pv_nv (fun z => absurd z.1 (by decide))).trans ((s_pv_nv (fun z => absurd z.1 (by decide))).trans ((s_pv_nv (fun z => absurd z.1 (by decide))).trans ((s_pv_nv (fun z => absurd z.1 (by decide))).trans ((s_pv_nv (fun z => absurd z.1 (by decide))).trans (hN T_MEM (by decide) i9))))))))) (show c.1 + 1 + 1 + 1 + 1 + 1 + 1 < e_xb by omega) (fun a53 ha53 => ?_)
  refine t_putR dX5_init_55 rfl rfl (Or.inr ⟨rfl, rfl, rfl⟩) ?_
  refine w_op (pc' := 59) dX5_init_58 rfl ?_
  refine w_bipush (v := 80) dX5_init_59 rfl ?_
  refine t_newrowJ (t := T_A_frameDrawn) (i := 0) (F := j_a_frameDrawn) (G := g_e_frameDrawn) (W := 80) dX5_init_61 ⟨by decide, by decide⟩ rfl (by decide) rfl rfl (by decide) (by decide) (by decide +kernel) (by decide +kernel) (by decide +kernel) (by decide +kernel) (by decide) (by decide) ((s_pv_nv (fun z => absurd z.1 (by decide))).trans ((s_pv_nv (fun z => absurd z.1 (by decide))).trans ((s_pv_nv (fun z => absurd z.1 (by decide))).trans ((s_pv_nv (fun z => absurd z.1 (by decide))).trans ((s_pv_nv (fun z => absurd z.1 (by decide))).trans ((s_pv_nv (fun z => absurd z.1 (by decide))).trans ((s_pv_nv (fun z => absurd z.1 (by decide))).trans (hN T_A_frameDrawn (by decide) 0)))))))) (s_par0 (tt := T_MEM) rfl (fun i9 => ((s_pv_nv (fun z => absurd z.1 (by decide))).trans ((s_pv_nv (fun z => absurd z.1 (by decide))).trans ((s_pv_nv (fun z => absurd z.1 (by decide))).trans ((s_pv_nv (fun z => absurd z.1 (by decide))).trans ((s_pv_nv (fun z => absurd z.1 (by decide))).trans ((s_pv_nv (fun z => absurd z.1 (by decide))).trans ((s_pv_nv (fun z => absurd z.1 (by decide))).trans (hN T_MEM (by decide) i9)))))))))) (show c.1 + 1 + 1 + 1 + 1 + 1 + 1 + 1 < e_xb by omega) (fun a61 ha61 => ?_)
  refine t_putR dX5_init_63 rfl rfl (Or.inr ⟨rfl, rfl, rfl⟩) ?_
  have hx : s_xv (s_NT [T_A_isSet, T_A_kept, T_A_drawn, T_A_reversibles, T_A_owners, T_A_frameCounts, T_A_frameKept, T_A_frameDrawn] []) p (s_pv (s_pv (s_pv (s_pv (s_pv (s_pv (s_pv (s_pv p T_A_isSet 0 a7 80) T_A_kept 0 a15 80) T_A_drawn 0 a23 80) T_A_reversibles 0 a31 16) T_A_owners 0 a38 4) T_A_frameCounts 0 a45 4) T_A_frameKept 0 a53 80) T_A_frameDrawn 0 a61 80) := ((((((((s_xv.pv (s_NT.y (by decide))).trans (s_xv.pv (s_NT.y (by decide)))).trans (s_xv.pv (s_NT.y (by decide)))).trans (s_xv.pv (s_NT.y (by decide)))).trans (s_xv.pv (s_NT.y (by decide)))).trans (s_xv.pv (s_NT.y (by decide)))).trans (s_xv.pv (s_NT.y (by decide)))).trans (s_xv.pv (s_NT.y (by decide))))
  have e0 : (s_pv (s_pv (s_pv (s_pv (s_pv (s_pv (s_pv (s_pv p T_A_isSet 0 a7 80) T_A_kept 0 a15 80) T_A_drawn 0 a23 80) T_A_reversibles 0 a31 16) T_A_owners 0 a38 4) T_A_frameCounts 0 a45 4) T_A_frameKept 0 a53 80) T_A_frameDrawn 0 a61 80).1 T_A_isSet 0 = a7 := ((s_pv_n (fun z => absurd z.1 (by decide))).trans ((s_pv_n (fun z => absurd z.1 (by decide))).trans ((s_pv_n (fun z => absurd z.1 (by decide))).trans ((s_pv_n (fun z => absurd z.1 (by decide))).trans ((s_pv_n (fun z => absurd z.1 (by decide))).trans ((s_pv_n (fun z => absurd z.1 (by decide))).trans ((s_pv_n (fun z => absurd z.1 (by decide))).trans s_pv_s)))))))
  have e1 : (s_pv (s_pv (s_pv (s_pv (s_pv (s_pv (s_pv (s_pv p T_A_isSet 0 a7 80) T_A_kept 0 a15 80) T_A_drawn 0 a23 80) T_A_reversibles 0 a31 16) T_A_owners 0 a38 4) T_A_frameCounts 0 a45 4) T_A_frameKept 0 a53 80) T_A_frameDrawn 0 a61 80).1 T_A_kept 0 = a15 := ((s_pv_n (fun z => absurd z.1 (by decide))).trans ((s_pv_n (fun z => absurd z.1 (by decide))).trans ((s_pv_n (fun z => absurd z.1 (by decide))).trans ((s_pv_n (fun z => absurd z.1 (by decide))).trans ((s_pv_n (fun z => absurd z.1 (by decide))).trans ((s_pv_n (fun z => absurd z.1 (by decide))).trans s_pv_s))))))
  have e2 : (s_pv (s_pv (s_pv (s_pv (s_pv (s_pv (s_pv (s_pv p T_A_isSet 0 a7 80) T_A_kept 0 a15 80) T_A_drawn 0 a23 80) T_A_reversibles 0 a31 16) T_A_owners 0 a38 4) T_A_frameCounts 0 a45 4) T_A_frameKept 0 a53 80) T_A_frameDrawn 0 a61 80).1 T_A_drawn 0 = a23 := ((s_pv_n (fun z => absurd z.1 (by decide))).trans ((s_pv_n (fun z => absurd z.1 (by decide))).trans ((s_pv_n (fun z => absurd z.1 (by decide))).trans ((s_pv_n (fun z => absurd z.1 (by decide))).trans ((s_pv_n (fun z => absurd z.1 (by decide))).trans s_pv_s)))))
  have e3 : (s_pv (s_pv (s_pv (s_pv (s_pv (s_pv (s_pv (s_pv p T_A_isSet 0 a7 80) T_A_kept 0 a15 80) T_A_drawn 0 a23 80) T_A_reversibles 0 a31 16) T_A_owners 0 a38 4) T_A_frameCounts 0 a45 4) T_A_frameKept 0 a53 80) T_A_frameDrawn 0 a61 80).1 T_A_reversibles 0 = a31 := ((s_pv_n (fun z => absurd z.1 (by decide))).trans ((s_pv_n (fun z => absurd z.1 (by decide))).trans ((s_pv_n (fun z => absurd z.1 (by decide))).trans ((s_pv_n (fun z => absurd z.1 (by decide))).trans s_pv_s))))
  have e4 : (s_pv (s_pv (s_pv (s_pv (s_pv (s_pv (s_pv (s_pv p T_A_isSet 0 a7 80) T_A_kept 0 a15 80) T_A_drawn 0 a23 80) T_A_reversibles 0 a31 16) T_A_owners 0 a38 4) T_A_frameCounts 0 a45 4) T_A_frameKept 0 a53 80) T_A_frameDrawn 0 a61 80).1 T_A_owners 0 = a38 := ((s_pv_n (fun z => absurd z.1 (by decide))).trans ((s_pv_n (fun z => absurd z.1 (by decide))).trans ((s_pv_n (fun z => absurd z.1 (by decide))).trans s_pv_s)))
  have e5 : (s_pv (s_pv (s_pv (s_pv (s_pv (s_pv (s_pv (s_pv p T_A_isSet 0 a7 80) T_A_kept 0 a15 80) T_A_drawn 0 a23 80) T_A_reversibles 0 a31 16) T_A_owners 0 a38 4) T_A_frameCounts 0 a45 4) T_A_frameKept 0 a53 80) T_A_frameDrawn 0 a61 80).1 T_A_frameCounts 0 = a45 := ((s_pv_n (fun z => absurd z.1 (by decide))).trans ((s_pv_n (fun z => absurd z.1 (by decide))).trans s_pv_s))
  have e6 : (s_pv (s_pv (s_pv (s_pv (s_pv (s_pv (s_pv (s_pv p T_A_isSet 0 a7 80) T_A_kept 0 a15 80) T_A_drawn 0 a23 80) T_A_reversibles 0 a31 16) T_A_owners 0 a38 4) T_A_frameCounts 0 a45 4) T_A_frameKept 0 a53 80) T_A_frameDrawn 0 a61 80).1 T_A_frameKept 0 = a53 := ((s_pv_n (fun z => absurd z.1 (by decide))).trans s_pv_s)
  have e7 : (s_pv (s_pv (s_pv (s_pv (s_pv (s_pv (s_pv (s_pv p T_A_isSet 0 a7 80) T_A_kept 0 a15 80) T_A_drawn 0 a23 80) T_A_reversibles 0 a31 16) T_A_owners 0 a38 4) T_A_frameCounts 0 a45 4) T_A_frameKept 0 a53 80) T_A_frameDrawn 0 a61 80).1 T_A_frameDrawn 0 = a61 := s_pv_s
  have v0 : (s_pv (s_pv (s_pv (s_pv (s_pv (s_pv (s_pv (s_pv p T_A_isSet 0 a7 80) T_A_kept 0 a15 80) T_A_drawn 0 a23 80) T_A_reversibles 0 a31 16) T_A_owners 0 a38 4) T_A_frameCounts 0 a45 4) T_A_frameKept 0 a53 80) T_A_frameDrawn 0 a61 80).2.1 T_A_isSet 0 = true := (s_pv_k (s_pv_k (s_pv_k (s_pv_k (s_pv_k (s_pv_k (s_pv_k s_pv_v)))))))
  have v1 : (s_pv (s_pv (s_pv (s_pv (s_pv (s_pv (s_pv (s_pv p T_A_isSet 0 a7 80) T_A_kept 0 a15 80) T_A_drawn 0 a23 80) T_A_reversibles 0 a31 16) T_A_owners 0 a38 4) T_A_frameCounts 0 a45 4) T_A_frameKept 0 a53 80) T_A_frameDrawn 0 a61 80).2.1 T_A_kept 0 = true := (s_pv_k (s_pv_k (s_pv_k (s_pv_k (s_pv_k (s_pv_k s_pv_v))))))
  have v2 : (s_pv (s_pv (s_pv (s_pv (s_pv (s_pv (s_pv (s_pv p T_A_isSet 0 a7 80) T_A_kept 0 a15 80) T_A_drawn 0 a23 80) T_A_reversibles 0 a31 16) T_A_owners 0 a38 4) T_A_frameCounts 0 a45 4) T_A_frameKept 0 a53 80) T_A_frameDrawn 0 a61 80).2.1 T_A_drawn 0 = true := (s_pv_k (s_pv_k (s_pv_k (s_pv_k (s_pv_k s_pv_v)))))
  have v3 : (s_pv (s_pv (s_pv (s_pv (s_pv (s_pv (s_pv (s_pv p T_A_isSet 0 a7 80) T_A_kept 0 a15 80) T_A_drawn 0 a23 80) T_A_reversibles 0 a31 16) T_A_owners 0 a38 4) T_A_frameCounts 0 a45 4) T_A_frameKept 0 a53 80) T_A_frameDrawn 0 a61 80).2.1 T_A_reversibles 0 = true := (s_pv_k (s_pv_k (s_pv_k (s_pv_k s_pv_v))))
  have v4 : (s_pv (s_pv (s_pv (s_pv (s_pv (s_pv (s_pv (s_pv p T_A_isSet 0 a7 80) T_A_kept 0 a15 80) T_A_drawn 0 a23 80) T_A_reversibles 0 a31 16) T_A_owners 0 a38 4) T_A_frameCounts 0 a45 4) T_A_frameKept 0 a53 80) T_A_frameDrawn 0 a61 80).2.1 T_A_owners 0 = true := (s_pv_k (s_pv_k (s_pv_k s_pv_v)))
  have v5 : (s_pv (s_pv (s_pv (s_pv (s_pv (s_pv (s_pv (s_pv p T_A_isSet 0 a7 80) T_A_kept 0 a15 80) T_A_drawn 0 a23 80) T_A_reversibles 0 a31 16) T_A_owners 0 a38 4) T_A_frameCounts 0 a45 4) T_A_frameKept 0 a53 80) T_A_frameDrawn 0 a61 80).2.1 T_A_frameCounts 0 = true := (s_pv_k (s_pv_k s_pv_v))
  have v6 : (s_pv (s_pv (s_pv (s_pv (s_pv (s_pv (s_pv (s_pv p T_A_isSet 0 a7 80) T_A_kept 0 a15 80) T_A_drawn 0 a23 80) T_A_reversibles 0 a31 16) T_A_owners 0 a38 4) T_A_frameCounts 0 a45 4) T_A_frameKept 0 a53 80) T_A_frameDrawn 0 a61 80).2.1 T_A_frameKept 0 = true := (s_pv_k s_pv_v)
  have v7 : (s_pv (s_pv (s_pv (s_pv (s_pv (s_pv (s_pv (s_pv p T_A_isSet 0 a7 80) T_A_kept 0 a15 80) T_A_drawn 0 a23 80) T_A_reversibles 0 a31 16) T_A_owners 0 a38 4) T_A_frameCounts 0 a45 4) T_A_frameKept 0 a53 80) T_A_frameDrawn 0 a61 80).2.1 T_A_frameDrawn 0 = true := s_pv_v
  generalize (s_pv (s_pv (s_pv (s_pv (s_pv (s_pv (s_pv (s_pv p T_A_isSet 0 a7 80) T_A_kept 0 a15 80) T_A_drawn 0 a23 80) T_A_reversibles 0 a31 16) T_A_owners 0 a38 4) T_A_frameCounts 0 a45 4) T_A_frameKept 0 a53 80) T_A_frameDrawn 0 a61 80) = pp at hx e0 e1 e2 e3 e4 e5 e6 e7 v0 v1 v2 v3 v4 v5 v6 v7 ⊢
  subst e0
  subst e1
  subst e2
  subst e3
  subst e4
  subst e5
  subst e6
  subst e7
  refine w_show (S' := (pp, s_zMEM I, s_zJMEM J, (c.1 + 8, c.2 + 424), s_rw w b (9, 0, s_fMEM pp f))) rfl ?_
  exact l_X5_init (p := pp) v3 v4 (k pp hx (fun t ht => by rcases List.mem_cons.mp ht with rfl | ht; exact v0; rcases List.mem_cons.mp ht with rfl | ht; exact v1; rcases List.mem_cons.mp ht with rfl | ht; exact v2; rcases List.mem_cons.mp ht with rfl | ht; exact v3; rcases List.mem_cons.mp ht with rfl | ht; exact v4; rcases List.mem_cons.mp ht with rfl | ht; exact v5; rcases List.mem_cons.mp ht with rfl | ht; exact v6; obtain rfl := List.mem_singleton.mp ht; exact v7))
