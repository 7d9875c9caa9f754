/-! 9998: knobs of the second implementation are made (printed by wip/whole/p9998.py) -/
/-- the rows of a knob: n keys are wired -/
def q_mw (I : e_I) (j n : Nat) : e_I := fun F m => if F = f_mk_wires ∧ m / 61 = j then (if m % 61 < n then nI (m % 61) else 0) else if (F = f_mk_ranks ∨ F = f_mk_offsets ∨ F = f_mk_froms ∨ F = f_mk_tos) ∧ m / 4 = j then 0 else I F m
theorem q_mw_0 {I : e_I} {j : Nat} : s_z (s_z (s_z (s_z (s_z I f_mk_wires j 61) f_mk_ranks j 4) f_mk_offsets j 4) f_mk_froms j 4) f_mk_tos j 4 = q_mw I j 0 := by
  funext F m
  unfold q_mw
  by_cases h1 : F = f_mk_wires ∧ m / 61 = j
  · obtain ⟨rfl, h2⟩ := h1
    rw [if_pos ⟨rfl, h2⟩, if_neg (Nat.not_lt_zero _)]
    unfold s_z
    rw [if_neg (fun z => absurd z.1 (by decide)), if_neg (fun z => absurd z.1 (by decide)), if_neg (fun z => absurd z.1 (by decide)), if_neg (fun z => absurd z.1 (by decide)), if_pos ⟨rfl, h2⟩]
  · rw [if_neg h1]
    unfold s_z
    by_cases h2 : (F = f_mk_ranks ∨ F = f_mk_offsets ∨ F = f_mk_froms ∨ F = f_mk_tos) ∧ m / 4 = j
    · rw [if_pos h2]
      obtain ⟨h3, h4⟩ := h2
      by_cases e1 : F = f_mk_tos
      · rw [if_pos ⟨e1, h4⟩]
      rw [if_neg (fun z => e1 z.1)]
      by_cases e2 : F = f_mk_froms
      · rw [if_pos ⟨e2, h4⟩]
      rw [if_neg (fun z => e2 z.1)]
      by_cases e3 : F = f_mk_offsets
      · rw [if_pos ⟨e3, h4⟩]
      rw [if_neg (fun z => e3 z.1), if_pos ⟨h3.resolve_right (fun z => z.elim e3 (fun z => z.elim e2 e1)), h4⟩]
    · rw [if_neg h2, if_neg (fun z => h2 ⟨Or.inr (Or.inr (Or.inr z.1)), z.2⟩), if_neg (fun z => h2 ⟨Or.inr (Or.inr (Or.inl z.1)), z.2⟩), if_neg (fun z => h2 ⟨Or.inr (Or.inl z.1), z.2⟩), if_neg (fun z => h2 ⟨Or.inl z.1, z.2⟩), if_neg h1]
theorem q_mw_s {I : e_I} {j i : Nat} (hi : i < 61) : s_up (q_mw I j i) f_mk_wires (j * 61 + i) (nI i) = q_mw I j (i + 1) := by
  funext F m
  unfold q_mw
  by_cases h1 : F = f_mk_wires ∧ m / 61 = j
  · rw [if_pos h1]
    by_cases em : m = j * 61 + i
    · rw [if_pos (show m % 61 < i + 1 by omega), show m % 61 = i by omega, h1.1, em, s_up_s]
    · rw [s_up_i em, if_pos h1]
      by_cases e2 : m % 61 < i
      · rw [if_pos e2, if_pos (by omega)]
      · rw [if_neg e2, if_neg (by omega)]
  · rw [if_neg h1, show s_up _ f_mk_wires (j * 61 + i) (nI i) F m = _ from if_neg (fun z => h1 ⟨z.1, by omega⟩), if_neg h1]
theorem q_mw_F {I : e_I} {j n F : Nat} (h : [f_mk_wires, f_mk_ranks, f_mk_offsets, f_mk_froms, f_mk_tos].contains F = false) : q_mw I j n F = I F := by
  funext i
  have h1 : ∀ F', F' ∈ [f_mk_wires, f_mk_ranks, f_mk_offsets, f_mk_froms, f_mk_tos] → F ≠ F' := fun F' hF' z => by rw [z, List.contains_iff_mem.mpr hF'] at h; cases h
  unfold q_mw
  rw [if_neg (fun z => h1 f_mk_wires (by decide) z.1), if_neg (fun z => z.1.elim (h1 f_mk_ranks (by decide)) (fun z => z.elim (h1 f_mk_offsets (by decide)) (fun z => z.elim (h1 f_mk_froms (by decide)) (h1 f_mk_tos (by decide)))))]
def q_mkf (p : e_Sp) (j : Nat) (f : Nat → Value) (x y z s t : Int32) : Nat → Value := s_fu (s_fu (s_fu (s_fu (s_fu (s_fu (s_fu (s_fu (s_fu (s_fu (s_fu (s_fu f 5 (.ref (p.1 T_K_wires j))) 6 (.ref (p.1 T_K_ranks j))) 7 (.ref (p.1 T_K_offsets j))) 8 (.ref (p.1 T_K_froms j))) 9 (.ref (p.1 T_K_tos j))) 12 (.int 1)) 15 (.int (-1))) 0 (.int x)) 1 (.int y)) 2 (.int z)) 3 (.int s)) 4 (.int t)
def q_N5 (j t i : Nat) : Bool := q_kT.contains t && decide (i = j)

set_option maxRecDepth 100000 in
set_option maxHeartbeats 4000000 in
theorem l_X14_init {X : e_XT} {d : Nat} {p : e_Sp} {I : e_I} {J : e_Jt} {c : Nat × Nat} {w : e_Rw1} {Q : e_Rt → e_SS → Prop} {b j : Nat} {f : Nat → Value} {x y z s t : Int32} (hp1 : p.2.1 T_K_wires j = true) (k : Q (.inl none) (p, q_mw I j 61, J, c, s_rw w b (18, 0, q_mkf p j f x y z s t))) : ∀ (n : Nat) (i : Nat), (h1 : i ≤ 61) → (hn : 61 - i < n) → s_w X (d + 0) K_X14_init 80 [some (.ref b), some (.int x), some (.int y), some (.int z), some (.int s), some (.int t), some (.int (nI i))] [] (p, q_mw I j i, J, c, s_rw w b (18, 0, q_mkf p j f x y z s t)) (fun r S' => e_rcr (none) r = true ∧ Q r S') := by
  intro n
  induction n with
  | zero =>
    intro i h1 hn
    exact absurd hn (Nat.not_lt_zero _)
  | succ n ih =>
    intro i h1 hn
    refine w_op (pc' := 82) dX14_init_80 rfl ?_
    refine w_bipush (v := 61) dX14_init_82 rfl ?_
    refine w_icmpge (t := 102) dX14_init_84 (by decide) (fun c84 => ?_) (fun c84 => ?_)
    · exact w_return dX14_init_102 ⟨rfl, by have hi : 61 ≤ i := (nI_leI (a := 61) (by omega) (by omega)).mp c84; obtain rfl : i = 61 := (by omega); exact k⟩
    · have hi : i < 61 := Nat.lt_of_not_le (fun z => c84 ((nI_leI (a := 61) (by omega) (by omega)).mpr z))
      refine w_op (pc' := 88) dX14_init_87 rfl ?_
      refine t_getR (v := .ref (p.1 T_K_wires j)) dX14_init_88 rfl rfl ?_
      refine w_op (pc' := 93) dX14_init_91 rfl ?_
      refine w_op (pc' := 95) dX14_init_93 rfl ?_
      refine t_iast (F := f_mk_wires) dX14_init_95 rfl (by decide) (by decide) rfl hp1 (s_ix.nI (n := i) (N := 61) hi (by decide)) hi ?_
      refine w_op (pc' := 99) (ll' := [_, _, _, _, _, _, _]) dX14_init_96 rfl ?_
      refine w_goto (t := 80) dX14_init_99 (by decide) ?_
      rw [show nI i + Int32.ofInt 1 = nI (i + 1) from nI_1 i, q_mw_s hi]
      exact ih (i + 1) (by omega) (by omega)
set_option maxRecDepth 100000 in
set_option maxHeartbeats 4000000 in
theorem c_X14_init {X : e_XT} {d : Nat} {p : e_Sp} {I : e_I} {J : e_Jt} {c : Nat × Nat} {w : e_Rw1} {Q : e_Rt → e_SS → Prop} {b j : Nat} {f : Nat → Value} {x y z s t : Int32} (hx0 : vp_nar .char x = x) (ht0 : vp_nar .char t = t) (hN : ∀ t, t ∈ q_kT → p.2.1 t j = false) (hS : p.2.1 T_MKNOB j = false) (hc : c.1 + 5 < e_xb) (k : ∀ p', s_xv (q_N5 j) p p' → (∀ t, t ∈ q_kT → p'.2.1 t j = true) → Q (.inl none) (p', q_mw I j 61, J, (c.1 + 5, c.2 + 77), s_rw w b (18, 0, q_mkf p' j f x y z s t))) : s_c X (d + 0) 209 [.ref b, .int x, .int y, .int z, .int s, .int t] (p, I, J, c, s_rw w b (18, 0, f)) Q := by
  refine m_X14_init (Nat.le_of_ble_eq_true rfl) ?_
  show s_w _ _ _ 0 _ _ _ _
  refine w_op (pc' := 1) dX14_init_0 rfl ?_
  refine w_objinit (by decide) rfl (Nat.le_of_ble_eq_true rfl) dX14_init_1 ?_
  refine w_op (pc' := 5) dX14_init_4 rfl ?_
  refine w_bipush (v := 61) dX14_init_5 rfl ?_
  refine t_newrow (t := T_K_wires) (i := j) (F := f_mk_wires) (G := g_mk_wires) (W := 61) (W' := 61) dX14_init_7 ⟨by decide, by decide⟩ rfl (by decide) (Or.inl rfl) rfl (by decide) (by decide) (by decide +kernel) (by decide +kernel) (by decide +kernel) (by decide +kernel) (by decide) (by decide) (by decide) (hN T_K_wires (by decide)) (s_par1 (tt := T_MKNOB) ⟨rfl, rfl⟩ hS) (show c.1 < e_xb by omega) (fun a7 ha7 => ?_)
  refine t_putR dX14_init_9 rfl rfl (Or.inr ⟨rfl, rfl, rfl⟩) ?_
  refine w_op (pc' := 13) dX14_init_12 rfl ?_
  refine w_iconst (v := 4) dX14_init_13 rfl ?_
  refine t_newrow (t := T_K_ranks) (i := j) (F := f_mk_ranks) (G := g_mk_ranks) (W := 4) (W' := 4) dX14_init_14 ⟨by decide, by decide⟩ rfl (by decide) (Or.inl rfl) rfl (by decide) (by decide) (by decide +kernel) (by decide +kernel) (by decide +kernel) (by decide +kernel) (by decide) (by decide) (by decide) ((s_pv_nv (fun z => absurd z.1 (by decide))).trans (hN T_K_ranks (by decide))) (s_par1 (tt := T_MKNOB) ⟨rfl, rfl⟩ ((s_pv_nv (fun z => absurd z.1 (by decide))).trans hS)) (show c.1 + 1 < e_xb by omega) (fun a14 ha14 => ?_)
  refine t_putR dX14_init_16 rfl rfl (Or.inr ⟨rfl, rfl, rfl⟩) ?_
  refine w_op (pc' := 20) dX14_init_19 rfl ?_
  refine w_iconst (v := 4) dX14_init_20 rfl ?_
  refine t_newrow (t := T_K_offsets) (i := j) (F := f_mk_offsets) (G := g_mk_offsets) (W := 4) (W' := 4) dX14_init_21 ⟨by decide, by decide⟩ rfl (by decide) (Or.inl rfl) rfl (by decide) (by decide) (by decide +kernel) (by decide +kernel) (by decide +kernel) (by decide +kernel) (by decide) (by decide) (by decide) ((s_pv_nv (fun z => absurd z.1 (by decide))).trans ((s_pv_nv (fun z => absurd z.1 (by decide))).trans (hN T_K_offsets (by decide)))) (s_par1 (tt := T_MKNOB) ⟨rfl, rfl⟩ ((s_pv_nv (fun z => absurd z.1 (by decide))).trans ((s_pv_nv (fun z => absurd z.1 (by decide))).trans hS))) (show c.1 + 1 + 1 < e_xb by omega) (fun a21 ha21 => ?_)
  refine t_putR dX14_init_23 rfl rfl (Or.inr ⟨rfl, rfl, rfl⟩) ?_
  refine w_op (pc' := 27) dX14_init_26 rfl ?_
  refine w_iconst (v := 4) dX14_init_27 rfl ?_
  refine t_newrow (t := T_K_froms) (i := j) (F := f_mk_froms) (G := g_mk_froms) (W := 4) (W' := 4) dX14_init_28 ⟨by decide, by decide⟩ rfl (by decide) (Or.inl rfl) rfl (by decide) (by decide) (by decide +kernel) (by decide +kernel) (by decide +kernel) (by decide +kernel) (by decide) (by decide) (by decide) ((s_pv_nv (fun z => absurd z.1 (by decide))).trans ((s_pv_nv (fun z => absurd z.1 (by decide))).trans ((s_pv_nv (fun z => absurd z.1 (by decide))).trans (hN T_K_froms (by decide))))) (s_par1 (tt := T_MKNOB) ⟨rfl, rfl⟩ ((s_pv_nv (fun z => absurd z.1 (by decide))).trans ((s_pv_nv (fun z => absurd z.1 (by decide))).trans ((s_pv_nv (fun z => absurd z.1 (by decide))).trans hS)))) (show c.1 + 1 + 1 + 1 < e_xb by omega) (fun a28 ha28 => ?_)
  refine t_putR dX14_init_30 rfl rfl (Or.inr ⟨rfl, rfl, rfl⟩) ?_
  refine w_op (pc' := 34) dX14_init_33 rfl ?_
  refine w_iconst (v := 4) dX14_init_34 rfl ?_
  refine t_newrow (t := T_K_tos) (i := j) (F := f_mk_tos) (G := g_mk_tos) (W := 4) (W' := 4) dX14_init_35 ⟨by decide, by decide⟩ rfl (by decide) (Or.inl rfl) rfl (by decide) (by decide) (by decide +kernel) (by decide +kernel) (by decide +kernel) (by decide +kernel) (by decide) (by decide) (by decide) ((s_pv_nv (fun z => absurd z.1 (by decide))).trans ((s_pv_nv (fun z => absurd z.1 (by decide))).trans ((s_pv_nv (fun z => absurd z.1 (by decide))).trans ((s_pv_nv (fun z => absurd z.1 (by decide))).trans (hN T_K_tos (by decide)))))) (s_par1 (tt := T_MKNOB) ⟨rfl, rfl⟩ ((s_pv_nv (fun z => absurd z.1 (by decide))).trans ((s_pv_nv (fun z => absurd z.1 (by decide))).trans ((s_pv_nv (fun z => absurd z.1 (by decide))).trans ((s_pv_nv (fun z => absurd z.1 (by decide))).trans hS))))) (show c.1 + 1 + 1 + 1 + 1 < e_xb by omega) (fun a35 ha35 => ?_)
  refine t_putR dX14_init_37 rfl rfl (Or.inr ⟨rfl, rfl, rfl⟩) ?_
  refine w_op (pc' := 41) dX14_init_40 rfl ?_
  refine w_iconst (v := 1) dX14_init_41 rfl ?_
  refine t_putR dX14_init_42 rfl (s_ckb (Or.inr rfl)) (Or.inl rfl) ?_
  refine w_op (pc' := 46) dX14_init_45 rfl ?_
  refine w_iconst (v := (-1)) dX14_init_46 rfl ?_
  refine t_putR dX14_init_47 rfl rfl (Or.inl rfl) ?_
  refine w_op (pc' := 51) dX14_init_50 rfl ?_
  refine w_op (pc' := 52) dX14_init_51 rfl ?_
  refine t_putR dX14_init_52 rfl (s_ckc hx0) (Or.inr ⟨rfl, rfl, rfl⟩) ?_
  refine w_op (pc' := 56) dX14_init_55 rfl ?_
  refine w_op (pc' := 57) dX14_init_56 rfl ?_
  refine t_putR dX14_init_57 rfl rfl (Or.inr ⟨rfl, rfl, rfl⟩) ?_
  refine w_op (pc' := 61) dX14_init_60 rfl ?_
  refine w_op (pc' := 62) dX14_init_61 rfl ?_
  refine t_putR dX14_init_62 rfl rfl (Or.inr ⟨rfl, rfl, rfl⟩) ?_
  refine w_op (pc' := 66) dX14_init_65 rfl ?_
  refine w_op (pc' := 68) dX14_init_66 rfl ?_
  refine t_putR dX14_init_68 rfl rfl (Or.inr ⟨rfl, rfl, rfl⟩) ?_
  refine w_op (pc' := 72) dX14_init_71 rfl ?_
  refine w_op (pc' := 74) dX14_init_72 rfl ?_
  refine t_putR dX14_init_74 rfl (s_ckc ht0) (Or.inr ⟨rfl, rfl, rfl⟩) ?_
  refine w_iconst (v := 0) dX14_init_77 rfl ?_
  refine w_op (pc' := 80) (ll' := [_, _, _, _, _, _, _]) dX14_init_78 rfl ?_
  rw [q_mw_0]
  have hx : s_xv (q_N5 j) p (s_pv (s_pv (s_pv (s_pv (s_pv p T_K_wires j a7 61) T_K_ranks j a14 4) T_K_offsets j a21 4) T_K_froms j a28 4) T_K_tos j a35 4) := (((((s_xv.pv (by simp [q_N5, q_kT])).trans (s_xv.pv (by simp [q_N5, q_kT]))).trans (s_xv.pv (by simp [q_N5, q_kT]))).trans (s_xv.pv (by simp [q_N5, q_kT]))).trans (s_xv.pv (by simp [q_N5, q_kT])))
  have e0 : (s_pv (s_pv (s_pv (s_pv (s_pv p T_K_wires j a7 61) T_K_ranks j a14 4) T_K_offsets j a21 4) T_K_froms j a28 4) T_K_tos j a35 4).1 T_K_wires j = a7 := ((s_pv_n (fun z => absurd z.1 (by decide))).trans ((s_pv_n (fun z => absurd z.1 (by decide))).trans ((s_pv_n (fun z => absurd z.1 (by decide))).trans ((s_pv_n (fun z => absurd z.1 (by decide))).trans s_pv_s))))
  have e1 : (s_pv (s_pv (s_pv (s_pv (s_pv p T_K_wires j a7 61) T_K_ranks j a14 4) T_K_offsets j a21 4) T_K_froms j a28 4) T_K_tos j a35 4).1 T_K_ranks j = a14 := ((s_pv_n (fun z => absurd z.1 (by decide))).trans ((s_pv_n (fun z => absurd z.1 (by decide))).trans ((s_pv_n (fun z => absurd z.1 (by decide))).trans s_pv_s)))
  have e2 : (s_pv (s_pv (s_pv (s_pv (s_pv p T_K_wires j a7 61) T_K_ranks j a14 4) T_K_offsets j a21 4) T_K_froms j a28 4) T_K_tos j a35 4).1 T_K_offsets j = a21 := ((s_pv_n (fun z => absurd z.1 (by decide))).trans ((s_pv_n (fun z => absurd z.1 (by decide))).trans s_pv_s))
  have e3 : (s_pv (s_pv (s_pv (s_pv (s_pv p T_K_wires j a7 61) T_K_ranks j a14 4) T_K_offsets j a21 4) T_K_froms j a28 4) T_K_tos j a35 4).1 T_K_froms j = a28 := ((s_pv_n (fun z => absurd z.1 (by decide))).trans s_pv_s)
  have e4 : (s_pv (s_pv (s_pv (s_pv (s_pv p T_K_wires j a7 61) T_K_ranks j a14 4) T_K_offsets j a21 4) T_K_froms j a28 4) T_K_tos j a35 4).1 T_K_tos j = a35 := s_pv_s
  have v0 : (s_pv (s_pv (s_pv (s_pv (s_pv p T_K_wires j a7 61) T_K_ranks j a14 4) T_K_offsets j a21 4) T_K_froms j a28 4) T_K_tos j a35 4).2.1 T_K_wires j = true := (s_pv_k (s_pv_k (s_pv_k (s_pv_k s_pv_v))))
  have v1 : (s_pv (s_pv (s_pv (s_pv (s_pv p T_K_wires j a7 61) T_K_ranks j a14 4) T_K_offsets j a21 4) T_K_froms j a28 4) T_K_tos j a35 4).2.1 T_K_ranks j = true := (s_pv_k (s_pv_k (s_pv_k s_pv_v)))
  have v2 : (s_pv (s_pv (s_pv (s_pv (s_pv p T_K_wires j a7 61) T_K_ranks j a14 4) T_K_offsets j a21 4) T_K_froms j a28 4) T_K_tos j a35 4).2.1 T_K_offsets j = true := (s_pv_k (s_pv_k s_pv_v))
  have v3 : (s_pv (s_pv (s_pv (s_pv (s_pv p T_K_wires j a7 61) T_K_ranks j a14 4) T_K_offsets j a21 4) T_K_froms j a28 4) T_K_tos j a35 4).2.1 T_K_froms j = true := (s_pv_k s_pv_v)
  have v4 : (s_pv (s_pv (s_pv (s_pv (s_pv p T_K_wires j a7 61) T_K_ranks j a14 4) T_K_offsets j a21 4) T_K_froms j a28 4) T_K_tos j a35 4).2.1 T_K_tos j = true := s_pv_v
  generalize (s_pv (s_pv (s_pv (s_pv (s_pv p T_K_wires j a7 61) T_K_ranks j a14 4) T_K_offsets j a21 4) T_K_froms j a28 4) T_K_tos j a35 4) = p6 at hx e0 e1 e2 e3 e4 v0 v1 v2 v3 v4 ⊢
  subst e0
  subst e1
  subst e2
  subst e3
  subst e4
  refine w_show (S' := (p6, q_mw I j 0, J, (c.1 + 5, c.2 + 77), s_rw w b (18, 0, q_mkf p6 j f x y z s t))) rfl ?_
  exact l_X14_init (p := p6) (I := I) v0 (k p6 hx (fun t ht => by rcases List.mem_cons.mp ht with rfl | ht; exact v0; rcases List.mem_cons.mp ht with rfl | ht; exact v1; rcases List.mem_cons.mp ht with rfl | ht; exact v2; rcases List.mem_cons.mp ht with rfl | ht; exact v3; obtain rfl := List.mem_singleton.mp ht; exact v4)) 62 0 (Nat.zero_le _) (by omega)

theorem q_L.v {p p' : e_Sp} {I I' : e_I} {c : Nat × Nat} {a b n x y : Nat} (h : q_L p I c a b n) (h1 : p'.2.1 T_MKEPT = p.2.1 T_MKEPT) (h2 : p'.2.1 T_LIST 4 = p.2.1 T_LIST 4) (h3 : p'.1 T_LARR 4 = p.1 T_LARR 4 ∧ p'.2.1 T_LARR 4 = p.2.1 T_LARR 4 ∧ p'.2.2.1 T_LARR 4 = p.2.2.1 T_LARR 4) (e : I' f_l_size 4 = I f_l_size 4) : q_L p' I' (c.1 + x, c.2 + y) (a + x) (b + y) n := by
  obtain ⟨g1, g2, g3, g, g4, g5, g6, g7⟩ := h
  have e9 : q_cp p' = q_cp p := by unfold q_cp; rw [h3.2.1, h3.2.2]
  exact ⟨g1.x4 h2 h3 e, by rw [h1]; exact g2, by rw [h3.1, e9]; exact g3, g, by rw [e9]; exact g4, by show c.1 + x = _; omega, by show c.2 + y = _; omega, by omega⟩
theorem q_D.addK {p : e_Sp} {I : e_I} {nk nr np : Nat} (h : q_D p I nk nr np) (h40 : nk < 40) (hK : q_K p I nk) : q_D p (s_adI I 3 nk) (nk + 1) nr np := by
  obtain ⟨a, ⟨b1, b2⟩, ⟨b3, b4⟩, b5, b6, b7, b8⟩ := h
  have e : ∀ F, F ≠ f_l_size → F ≠ f_l_modCount → s_adI I 3 nk F = I F := fun F h1 h2 => s_adI_F h1 h2
  refine ⟨a, ⟨by omega, s_adI_s⟩, ⟨b3, (s_adI_n (by decide)).trans b4⟩, by rw [e f_m_pipes (by decide) (by decide)]; exact b5, fun k hk => ?_, fun r hr => ?_, fun q hq => ?_⟩
  · have h9 : q_K p I k := by
      by_cases z : k = nk
      · subst z; exact hK
      · exact b6 k (by omega)
    unfold q_K at h9 ⊢
    rw [e f_mk_division (by decide) (by decide), e f_mk_rows (by decide) (by decide), e f_mk_relay (by decide) (by decide)]
    exact h9
  · have h9 := b7 r hr
    unfold q_R at h9 ⊢
    rw [e f_mr_lowest (by decide) (by decide), e f_mr_highest (by decide) (by decide), e f_mr_base (by decide) (by decide), e f_mr_division (by decide) (by decide)]
    exact h9
  · rw [e f_m_rankOf (by decide) (by decide), e f_mr_base (by decide) (by decide)]
    exact b8 q hq
theorem q_G.addK {p : e_Sp} {I : e_I} {c : Nat × Nat} {nk nr np a b n : Nat} (h : q_G p I c nk nr np a b n) (h40 : nk < 40) (hK : q_K p I nk) : q_G p (s_adI I 3 nk) c (nk + 1) nr np a b n := by
  have e : ∀ F, F ≠ f_l_size → F ≠ f_l_modCount → s_adI I 3 nk F = I F := fun F h1 h2 => s_adI_F h1 h2
  obtain ⟨h1, h2, h3, h4, h5, h6, h7⟩ := h
  refine ⟨h1.addK h40 hK, by omega, ?_, by unfold q_bo; rw [e f_m_isDown (by decide) (by decide)]; exact h4, by unfold q_bo; rw [e f_m_isRelay (by decide) (by decide)]; exact h5, h6.eq (s_adI_n (by decide)), h7⟩
  unfold q_S
  rw [e f_m_operation (by decide) (by decide), e f_m_first (by decide) (by decide), e f_m_second (by decide) (by decide)]
  exact h3
/-- a shape with other places N; what was recorded stays -/
theorem q_D.v {N : Nat → Nat → Bool} {p p' : e_Sp} {I : e_I} {nk nr np : Nat} (h : q_D p I nk nr np) (x : s_xv N p p') (h1 : ∀ t, s_sg t = true → N t 0 = false) (h2 : ∀ l, l < 12 → N T_LIST l = false) (h3 : ∀ k, k < nk → N T_MKNOB k = false ∧ ∀ t, t ∈ q_kT → N t k = false) (h4 : ∀ r, r < nr → N T_MRANK r = false) : q_D p' I nk nr np := by
  obtain ⟨⟨a1, a2⟩, b1, b2, b3, b4, b5, b6⟩ := h
  refine ⟨⟨fun t ht => (x.1 t 0 (h1 t ht)).2.1.trans (a1 t ht), fun l hl => (x.1 T_LIST l (h2 l hl)).2.1.trans (a2 l hl)⟩, b1, b2, b3, fun k hk => ?_, fun r hr => ?_, b6⟩
  · obtain ⟨g1, g2, g3⟩ := b4 k hk
    exact ⟨(x.1 _ _ (h3 k hk).1).2.1.trans g1, fun t ht => (x.1 t k ((h3 k hk).2 t ht)).2.1.trans (g2 t ht), g3⟩
  · obtain ⟨g1, g2⟩ := b5 r hr
    exact ⟨(x.1 _ _ (h4 r hr)).2.1.trans g1, g2⟩

set_option maxRecDepth 100000 in
set_option maxHeartbeats 4000000 in
theorem l2_X16_adds {X : e_XT} {d : Nat} {p : e_Sp} {I : e_I} {J : e_Jt} {c : Nat × Nat} {w : e_Rw1} {Q : e_Rt → e_SS → Prop} {nk nr np a b n : Nat} (hG : q_G p (s_adI I 3 nk) c (nk + 1) nr np a b n) (hX : (X 8).1 = 0) {l1 l2 : Option Value} {x : Int32} (k : ∀ p' c' n', q_X p p' → q_L p' (q_st (nk + 1) nr np (s_adI I 3 nk, J)).1 c' a b n' → n' ≤ n + np → Q (.inl (some (.int (nI nk)))) (p', q_an (q_st (nk + 1) nr np (s_adI I 3 nk, J)).1, (q_st (nk + 1) nr np (s_adI I 3 nk, J)).2, c', w)) : s_w X (d + 10) K_X16_adds 26 [some (.ref (p.1 T_MODEL 0)), l1, l2] [.int x] (p, s_adI I 3 nk, J, c, w) (fun r S' => e_rcr (some .int) r = true ∧ Q r S') := by
  have hp := hG.1.1
  refine w_op (pc' := 27) dX16_adds_26 rfl ?_
  refine w_op (pc' := 28) dX16_adds_27 rfl ?_
  refine w_op (pc' := 29) dX16_adds_28 rfl ?_
  refine t_getG0 (G := g_m_list1) dX16_adds_29 rfl rfl (by decide) rfl (fun _ => rfl) (hp.1 _ rfl) ?_
  refine t_callV (t := T_LIST) (As := []) dX16_adds_32 rfl rM_Jx4a65c_size_8abf5 (by decide) rfl rfl (by decide) (by decide) (Nat.le_of_ble_eq_true rfl) rfl (hp.2 _ (by decide)) (c_size (hp.2 _ (by decide)) ?_)
  show s_w _ _ _ 35 _ _ _ _
  rw [hG.1.2.1.2]
  refine w_iconst (v := 1) dX16_adds_35 rfl ?_
  refine w_op (pc' := 37) dX16_adds_36 rfl ?_
  rw [show nI (nk + 1) - 1 = nI nk from nI_pred nk]
  refine t_callV (t := T_MODEL) (As := [_]) dX16_adds_37 rfl rM_X16_settled (by decide) rfl rfl (by decide) (by decide) (Nat.le_of_ble_eq_true rfl) rfl (hp.1 _ rfl) (c_X16_settled hG hX (fun p1 c1 n1 x1 hL1 hn1 => ?_))
  show s_w _ _ _ 40 _ _ _ _
  exact w_ireturn dX16_adds_40 ⟨rfl, k p1 c1 n1 x1 hL1 hn1⟩

set_option maxRecDepth 100000 in
set_option maxHeartbeats 4000000 in
theorem c_X16_adds {X : e_XT} {d : Nat} {p : e_Sp} {I : e_I} {J : e_Jt} {c : Nat × Nat} {w : e_Rw1} {Q : e_Rt → e_SS → Prop} {nk nr np a b n : Nat} (hG : q_G p I c nk nr np a b n) (hX : (X 8).1 = 0) {x : Int32} (h40 : nk < 40) (hL : s_La p I 3 nk) (hK : q_K p I nk) (hc : c.1 < e_xb) (ha : a + 1 + n + 100000000 < 4294960000) (k : ∀ p1 x9 y9, x9 ≤ 1 → y9 ≤ 60 → s_xv (s_NL 3) p p1 → s_La p1 (s_adI I 3 nk) 3 (nk + 1) → ∀ p' c' n', q_X p1 p' → q_L p' (q_st (nk + 1) nr np (s_adI I 3 nk, J)).1 c' (a + x9) (b + y9) n' → n' ≤ n + np → Q (.inl (some (.int (nI nk)))) (p', q_an (q_st (nk + 1) nr np (s_adI I 3 nk, J)).1, (q_st (nk + 1) nr np (s_adI I 3 nk, J)).2, c', w)) : s_c X (d + 10) 241 [.ref (p.1 T_MODEL 0), .ref (p.1 T_MKNOB nk), .int x] (p, I, J, c, w) Q := by
  have hM := hG.1
  have hp := hM.1
  have hk40 := hM.2.1
  have hr10 := hM.2.2.1
  have hnp := hM.2.2.2.1
  refine m_X16_adds (Nat.le_of_ble_eq_true rfl) ?_
  show s_w _ _ _ 0 _ _ _ _
  refine w_op (pc' := 1) dX16_adds_0 rfl ?_
  refine t_getG0 (G := g_m_list1) dX16_adds_1 rfl rfl (by decide) rfl (fun _ => rfl) (hp.1 _ rfl) ?_
  refine t_callV (t := T_LIST) (As := []) dX16_adds_4 rfl rM_Jx4a65c_size_8abf5 (by decide) rfl rfl (by decide) (by decide) (Nat.le_of_ble_eq_true rfl) rfl (hp.2 _ (by decide)) (c_size (hp.2 _ (by decide)) ?_)
  show s_w _ _ _ 7 _ _ _ _
  rw [hk40.2]
  refine w_bipush (v := 40) dX16_adds_7 rfl ?_
  refine w_icmpne (t := 18) dX16_adds_9 (by decide) (fun c9 => ?_) (fun c9 => ?_)
  · refine w_op (pc' := 19) dX16_adds_18 rfl ?_
    refine t_getG0 (G := g_m_list1) dX16_adds_19 rfl rfl (by decide) rfl (fun _ => rfl) (hp.1 _ rfl) ?_
    refine w_op (pc' := 23) dX16_adds_22 rfl ?_
    refine t_callV (t := T_LIST) (As := [_]) dX16_adds_23 rfl rM_Jx4a65c_add_9ea2d (by decide) rfl rfl (by decide) (by decide) (Nat.le_of_ble_eq_true rfl) rfl (hp.2 _ (by decide)) (c_add hL hK.1 hX hc (fun hA hA10 hlt hle => ?_) (fun hAB b9 hb9 => ?_))
    · show s_w _ _ _ 26 _ _ _ _
      exact l2_X16_adds (hG.addK h40 hK) hX (fun p2 c2 n2 x2 hL2 hn2 => k p 0 0 (by omega) (by omega) s_xv.rfl' (hL.add0 hA hA10 hlt hle (by omega)) p2 c2 n2 x2 hL2 hn2)
    · show s_w _ _ _ 26 _ _ _ _
      have q3 : s_cap nk ≤ 60 := by (unfold s_cap; split <;> omega)
      have q4 : s_xv (s_NL 3) p (s_pv p T_LARR 3 b9 (s_cap nk)) := s_xv.pv (by simp [s_NL])
      have q5 : q_G (s_pv p T_LARR 3 b9 (s_cap nk)) (s_adI I 3 nk) (c.1 + 1, c.2 + s_cap nk) (nk + 1) nr np (a + 1) (b + s_cap nk) n := by
        obtain ⟨h1, h2, h3, h4, h5, h6, h7⟩ := hG.addK h40 hK
        refine ⟨h1.v q4 (fun t ht => ?_) (fun l _ => rfl) (fun k _ => ⟨rfl, fun t ht => ?_⟩) (fun r _ => rfl), h2, h3, h4, h5, h6.v (funext fun j => s_pv_nv (fun z => absurd z.1 (by decide))) (s_pv_nv (fun z => absurd z.1 (by decide))) ⟨s_pv_n (fun z => absurd z.2 (by decide)), s_pv_nv (fun z => absurd z.2 (by decide)), s_pv_nl (fun z => absurd z.2 (by decide))⟩ rfl, by omega, h7.2⟩
        · unfold s_NL; rw [decide_eq_false (fun z => by rw [z] at ht; exact absurd ht (by decide))]; rfl
        · unfold s_NL; rw [decide_eq_false (fun z => by rw [z] at ht; exact absurd ht (by decide))]; rfl
      have h2 := l2_X16_adds (X := X) (d := d) (p := (s_pv p T_LARR 3 b9 (s_cap nk))) (I := I) (J := J) (c := (c.1 + 1, c.2 + s_cap nk)) (w := w) (Q := Q) (x := 1) (l1 := some (.ref (p.1 T_MKNOB nk))) (l2 := some (.int x)) q5 hX (fun p2 c2 n2 x2 hL2 hn2 => k (s_pv p T_LARR 3 b9 (s_cap nk)) 1 (s_cap nk) (by omega) q3 q4 (hL.add1 hAB (by omega)) p2 c2 n2 x2 hL2 hn2)
      rw [s_pv_n (fun z => absurd z.1 (by decide))] at h2
      exact h2
  · exact absurd ((nI_eq (b := 40) (by omega) (by decide)).mp c9) (by omega)

set_option maxRecDepth 100000 in
set_option maxHeartbeats 4000000 in
theorem c_X16_addsF {X : e_XT} {d : Nat} {p : e_Sp} {I : e_I} {J : e_Jt} {c : Nat × Nat} {w : e_Rw1} {Q : e_Rt → e_SS → Prop} {nk nr np a b n : Nat} (hG : q_G p I c nk nr np a b n) (hX : (X 8).1 = 0) {x : Int32} {b9 : Nat} (h40 : nk = 40) (kx : Q (.inl (some (.int 0))) (p, q_fl I x, J, c, w)) : s_c X (d + 10) 241 [.ref (p.1 T_MODEL 0), .ref b9, .int x] (p, I, J, c, w) Q := by
  have hM := hG.1
  have hp := hM.1
  have hk40 := hM.2.1
  have hr10 := hM.2.2.1
  have hnp := hM.2.2.2.1
  refine m_X16_adds (Nat.le_of_ble_eq_true rfl) ?_
  show s_w _ _ _ 0 _ _ _ _
  refine w_op (pc' := 1) dX16_adds_0 rfl ?_
  refine t_getG0 (G := g_m_list1) dX16_adds_1 rfl rfl (by decide) rfl (fun _ => rfl) (hp.1 _ rfl) ?_
  refine t_callV (t := T_LIST) (As := []) dX16_adds_4 rfl rM_Jx4a65c_size_8abf5 (by decide) rfl rfl (by decide) (by decide) (Nat.le_of_ble_eq_true rfl) rfl (hp.2 _ (by decide)) (c_size (hp.2 _ (by decide)) ?_)
  show s_w _ _ _ 7 _ _ _ _
  rw [hk40.2]
  refine w_bipush (v := 40) dX16_adds_7 rfl ?_
  refine w_icmpne (t := 18) dX16_adds_9 (by decide) (fun c9 => ?_) (fun c9 => ?_)
  · exact absurd (by rw [h40]; rfl) c9
  · refine w_op (pc' := 13) dX16_adds_12 rfl ?_
    refine w_op (pc' := 14) dX16_adds_13 rfl ?_
    refine t_callV (t := T_MODEL) (As := [_]) dX16_adds_14 rfl rM_X16_fails (by decide) rfl rfl (by decide) (by decide) (Nat.le_of_ble_eq_true rfl) rfl (hp.1 _ rfl) (c_X16_fails hp ?_)
    show s_w _ _ _ 17 _ _ _ _
    exact w_ireturn dX16_adds_17 ⟨rfl, kx⟩

