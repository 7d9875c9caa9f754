/-! 9999: stops, couplers, tremulants of the second implementation (printed by wip/whole/p9999.py) -/
def q_N6 (k t i : Nat) : Bool := (decide (t = T_MKNOB) || q_kT.contains t) && decide (i = k)
def q_NK (k t i : Nat) : Bool := q_N6 k t i || s_NL 3 t i
def q_kF : List Nat := [f_mk_kind, f_mk_division, f_mk_to, f_mk_shift, f_mk_letter, f_mk_isDrawn, f_mk_isLocked, f_mk_isIn, f_mk_rows, f_mk_stage, f_mk_relay, f_mk_wires, f_mk_ranks, f_mk_offsets, f_mk_froms, f_mk_tos]
/-- a knob that was made -/
def q_nk (I : e_I) (j : Nat) (x y z s t : Int32) : e_I := s_IMKNOB (q_mw I j 61) j x y z s t 0 0 1 0 0 (-1)
theorem q_nk_F {I : e_I} {j F : Nat} {x y z s t : Int32} (h : q_kF.contains F = false) : q_nk I j x y z s t F = I F := by
  have h1 : ∀ F', F' ∈ q_kF → F ≠ F' := fun F' hF' z => by rw [z, List.contains_iff_mem.mpr hF'] at h; cases h
  have e : q_mw I j 61 F = I F := q_mw_F (by
    cases e : [f_mk_wires, f_mk_ranks, f_mk_offsets, f_mk_froms, f_mk_tos].contains F
    · rfl
    · have h2 : ([f_mk_wires, f_mk_ranks, f_mk_offsets, f_mk_froms, f_mk_tos].all fun F => q_kF.contains F) = true := by decide
      exact absurd (List.all_eq_true.mp h2 F (List.contains_iff_mem.mp e)) (by rw [h]; decide))
  funext i
  unfold q_nk s_IMKNOB
  rw [s_up_F (h1 _ (by decide)), s_up_F (h1 _ (by decide)), s_up_F (h1 _ (by decide)), s_up_F (h1 _ (by decide)), s_up_F (h1 _ (by decide)), s_up_F (h1 _ (by decide)), s_up_F (h1 _ (by decide)), s_up_F (h1 _ (by decide)), s_up_F (h1 _ (by decide)), s_up_F (h1 _ (by decide)), s_up_F (h1 _ (by decide)), e]
theorem q_nk_i {I : e_I} {j F i : Nat} {x y z s t : Int32} (h : i ≠ j) (h2 : [f_mk_wires, f_mk_ranks, f_mk_offsets, f_mk_froms, f_mk_tos].contains F = false) : q_nk I j x y z s t F i = I F i := by
  unfold q_nk s_IMKNOB
  rw [s_up_i h, s_up_i h, s_up_i h, s_up_i h, s_up_i h, s_up_i h, s_up_i h, s_up_i h, s_up_i h, s_up_i h, s_up_i h, q_mw_F h2]
theorem q_nk_v {I : e_I} {j : Nat} {x y z s t : Int32} : q_nk I j x y z s t f_mk_division j = y ∧ q_nk I j x y z s t f_mk_rows j = 0 ∧ q_nk I j x y z s t f_mk_relay j = -1 := by
  unfold q_nk s_IMKNOB
  refine ⟨?_, ?_, ?_⟩
  · repeat (first | rw [s_up_s] | rw [s_up_F (by decide)])
  · repeat (first | rw [s_up_s] | rw [s_up_F (by decide)])
  · repeat (first | rw [s_up_s] | rw [s_up_F (by decide)])
theorem q_D.nk {p p1 : e_Sp} {I : e_I} {nk nr np : Nat} {x y z s t : Int32} (h : q_D p I nk nr np) (hx : s_xv (q_N6 nk) p p1) : q_D p1 (q_nk I nk x y z s t) nk nr np := by
  have n0 : ∀ t i, (decide (t = T_MKNOB) || q_kT.contains t) = false → q_N6 nk t i = false := fun t i ht => by unfold q_N6; rw [ht]; rfl
  have n1 : ∀ t i, i < nk → q_N6 nk t i = false := fun t i hi => by unfold q_N6; rw [decide_eq_false (by omega : ¬ i = nk), Bool.and_false]
  obtain ⟨a, b1, b2, b3, b4, b5, b6⟩ := h.v hx (fun t ht => n0 t 0 (by
    cases e : (decide (t = T_MKNOB) || q_kT.contains t)
    · rfl
    · rcases (Bool.or_eq_true _ _).mp e with e | e
      · rw [of_decide_eq_true e] at ht; exact absurd ht (by decide)
      · have h2 : (q_kT.all fun t => !s_sg t) = true := by decide
        have := List.all_eq_true.mp h2 t (List.contains_iff_mem.mp e)
        rw [ht] at this; cases this)) (fun l _ => n0 _ _ (by decide)) (fun k hk => ⟨n1 _ _ hk, fun t _ => n1 _ _ hk⟩) (fun r _ => n0 _ _ (by decide))
  refine ⟨a, by rw [q_nk_F (by decide)]; exact b1, by rw [q_nk_F (by decide)]; exact b2, by rw [q_nk_F (by decide)]; exact b3, fun k hk => ?_, fun r hr => ?_, fun q hq => ?_⟩
  · have h9 := b4 k hk
    unfold q_K at h9 ⊢
    rw [q_nk_i (by omega) (by decide), q_nk_i (by omega) (by decide), q_nk_i (by omega) (by decide)]
    exact h9
  · have h9 := b5 r hr
    unfold q_R at h9 ⊢
    rw [q_nk_F (by decide), q_nk_F (by decide), q_nk_F (by decide), q_nk_F (by decide)]
    exact h9
  · rw [q_nk_F (by decide), q_nk_F (by decide)]
    exact b6 q hq
theorem q_G.nk {p p1 : e_Sp} {I : e_I} {c : Nat × Nat} {nk nr np a b n : Nat} {x y z s t : Int32} (h : q_G p I c nk nr np a b n) (hx : s_xv (q_N6 nk) p p1) (ha : a + 6 + n + 100000000 < 4294960000) : q_G p1 (q_nk I nk x y z s t) (c.1 + 6, c.2 + 93) nk nr np (a + 6) (b + 93) n := by
  have n0 : ∀ t i, (decide (t = T_MKNOB) || q_kT.contains t) = false → q_N6 nk t i = false := fun t i ht => by unfold q_N6; rw [ht]; rfl
  obtain ⟨h1, h2, h3, h4, h5, h6, h7, h8⟩ := h
  refine ⟨h1.nk hx, h2, ?_, by unfold q_bo; rw [q_nk_F (by decide)]; exact h4, by unfold q_bo; rw [q_nk_F (by decide)]; exact h5, h6.v (funext fun j => (hx.1 _ _ (n0 _ _ (by decide))).2.1) (hx.1 _ _ (n0 _ _ (by decide))).2.1 (hx.1 _ _ (n0 _ _ (by decide))) (by rw [q_nk_F (by decide)]), by omega, h8⟩
  unfold q_S
  rw [q_nk_F (by decide), q_nk_F (by decide), q_nk_F (by decide)]
  exact h3
theorem q_N5_6 {k : Nat} {p p' : e_Sp} (h : s_xv (q_N5 k) p p') : s_xv (q_N6 k) p p' := h.mono (fun t i hti => by
  unfold q_N6 at hti
  unfold q_N5
  cases e : q_kT.contains t
  · rfl
  · rw [e, Bool.or_true] at hti; exact hti)
/-- the rows of a knob that found no place are forgotten -/
def q_uvK (p : e_Sp) (k : Nat) : e_Sp := s_uv (s_uv (s_uv (s_uv (s_uv p T_K_wires (fun i => decide (i = k))) T_K_ranks (fun i => decide (i = k))) T_K_offsets (fun i => decide (i = k))) T_K_froms (fun i => decide (i = k))) T_K_tos (fun i => decide (i = k))
theorem e_elK {l : Nat} : ¬ (q_kT.contains (e_elT l) = true) := by
  unfold e_elT
  split <;> decide
theorem e_rep.uvK {p : e_Sp} {I : e_I} {J : e_Jt} {h : e_Hp} {k : Nat} (hR : e_rep p I J h) : e_rep (q_uvK p k) I J h := by
  have g : ∀ t, t ∈ q_kT → ∀ (l : Nat), e_elT l = t → False := fun t ht l z => e_elK (List.contains_iff_mem.mpr (z ▸ ht))
  exact ((((hR.unv (by decide) (fun l j _ _ z => (g _ (by decide) l z).elim)).unv (by decide) (fun l j _ _ z => (g _ (by decide) l z).elim)).unv (by decide) (fun l j _ _ z => (g _ (by decide) l z).elim)).unv (by decide) (fun l j _ _ z => (g _ (by decide) l z).elim)).unv (by decide) (fun l j _ _ z => (g _ (by decide) l z).elim)
theorem q_uvK_v {p : e_Sp} {k t i : Nat} : (q_uvK p k).2.1 t i = if q_kT.contains t = true ∧ i = k then false else p.2.1 t i := by
  by_cases e : i = k
  · subst e
    by_cases h : q_kT.contains t = true
    · rw [if_pos ⟨h, rfl⟩]
      have h2 := List.contains_iff_mem.mp h
      unfold q_uvK s_uv
      rcases List.mem_cons.mp h2 with rfl | h2
      · simp
      rcases List.mem_cons.mp h2 with rfl | h2
      · simp
      rcases List.mem_cons.mp h2 with rfl | h2
      · simp
      rcases List.mem_cons.mp h2 with rfl | h2
      · simp
      obtain rfl := List.mem_singleton.mp h2
      simp
    · rw [if_neg (fun z => h z.1)]
      have h1 : ∀ t', t' ∈ q_kT → t ≠ t' := fun t' ht' z => h (by rw [z]; exact List.contains_iff_mem.mpr ht')
      unfold q_uvK
      rw [s_uv_n (fun z => h1 _ (by decide) z.1), s_uv_n (fun z => h1 _ (by decide) z.1), s_uv_n (fun z => h1 _ (by decide) z.1), s_uv_n (fun z => h1 _ (by decide) z.1), s_uv_n (fun z => h1 _ (by decide) z.1)]
  · rw [if_neg (fun z => e z.2)]
    have h1 : ∀ t' (p : e_Sp), (s_uv p t' (fun i => decide (i = k))).2.1 t i = p.2.1 t i := fun t' p => s_uv_n (fun z => e (of_decide_eq_true z.2))
    unfold q_uvK
    rw [h1, h1, h1, h1, h1]
theorem s_is.uvK {p : e_Sp} {I : e_I} {J : e_Jt} {c : Nat × Nat} {w : e_Rw1} {h : e_Hp} {b k : Nat} {q : Nat × Nat × (Nat → Value)} (hs : s_is (p, I, J, c, s_rw w b q) h) (hb : w b = none) : s_is (q_uvK p k, I, J, c, w) h := by
  refine ⟨hs.1.uvK, hs.2.1, fun a o ho => ?_⟩
  have ho : w a = some o := ho
  have e : a ≠ b := fun z => by rw [z, hb] at ho; cases ho
  obtain ⟨g1, g2⟩ := hs.2.2 a o ((s_rw_n e).trans ho)
  refine ⟨g1, fun t i hv => g2 t i ?_⟩
  have hv : (q_uvK p k).2.1 t i = true := hv
  rw [q_uvK_v] at hv
  show p.2.1 t i = true
  split at hv
  · cases hv
  · exact hv
theorem q_uvK_e {p p1 : e_Sp} {k : Nat} (hx : s_xv (q_N5 k) p p1) (hN : ∀ t, t ∈ q_kT → p.2.1 t k = false) : (q_uvK p1 k).2.1 = p.2.1 := by
  funext t i
  rw [q_uvK_v]
  by_cases e : q_kT.contains t = true ∧ i = k
  · rw [if_pos e, e.2, hN t (List.contains_iff_mem.mp e.1)]
  · rw [if_neg e]
    refine (hx.1 t i ?_).2.1
    unfold q_N5
    cases e2 : q_kT.contains t
    · rfl
    · rw [e2] at e
      exact decide_eq_false (fun z => e ⟨rfl, z⟩)
theorem q_nat3 {x : Int32} (h : 0 ≤ x ∧ x ≤ 2) : ∃ dv, dv < 3 ∧ x = nI dv := by
  obtain ⟨j, hj, e⟩ := q_rg (m := 2) h.1 h.2 (by decide)
  exact ⟨j, by omega, e⟩

set_option maxRecDepth 100000 in
set_option maxHeartbeats 4000000 in
theorem l_X16_stop {X : e_XT} {d : Nat} {p : e_Sp} {I : e_I} {J : e_Jt} {c : Nat × Nat} {w : e_Rw1} {Q : e_Rt → e_SS → Prop} {l1 : Option Value} {nk nr np a b n : Nat} (hG : q_G p I c nk nr np a b n) (hX : (X 8).1 = 0) (h40 : nk < 40) (hL : s_La p I 3 nk) (hK : q_K p I nk) (hc : c.1 < e_xb) (ha : a + 1 + n + 100000000 < 4294960000) (k : ∀ p1 x9 y9, x9 ≤ 1 → y9 ≤ 60 → s_xv (s_NL 3) p p1 → s_La p1 (s_adI I 3 nk) 3 (nk + 1) → ∀ p' c' n', q_X p1 p' → q_L p' (q_st (nk + 1) nr np (s_adI I 3 nk, J)).1 c' (a + x9) (b + y9) n' → n' ≤ n + np → Q (.inl (some (.int (nI nk)))) (p', q_an (q_st (nk + 1) nr np (s_adI I 3 nk, J)).1, (q_st (nk + 1) nr np (s_adI I 3 nk, J)).2, c', w)) : s_w X (d + 11) K_X16_stop 22 [some (.ref (p.1 T_MODEL 0)), l1] [.ref (p.1 T_MKNOB nk), .ref (p.1 T_MODEL 0)] (p, I, J, c, w) (fun r S' => e_rcr (some .int) r = true ∧ Q r S') := by
  have hM := hG.1
  have hp := hM.1
  have hk40 := hM.2.1
  have hr10 := hM.2.2.1
  have hnp := hM.2.2.2.1
  refine w_iconst (v := 2) dX16_stop_22 rfl ?_
  refine t_callV (t := T_MODEL) (As := [_, _]) dX16_stop_23 rfl rM_X16_adds (by decide) rfl rfl (by decide) (by decide) (Nat.le_of_ble_eq_true rfl) rfl (hp.1 _ rfl) (c_X16_adds hG hX h40 hL hK hc ha (fun p1 x9 y9 hx9 hy9 hxv hL1 p2 c2 n2 x2 hL2 hn2 => ?_))
  show s_w _ _ _ 26 _ _ _ _
  refine w_goto (t := 34) dX16_stop_26 (by decide) ?_
  exact w_ireturn dX16_stop_34 ⟨rfl, k p1 x9 y9 hx9 hy9 hxv hL1 p2 c2 n2 x2 hL2 hn2⟩

set_option maxRecDepth 100000 in
set_option maxHeartbeats 4000000 in
theorem lF_X16_stop {X : e_XT} {d : Nat} {p : e_Sp} {I : e_I} {J : e_Jt} {c : Nat × Nat} {w : e_Rw1} {Q : e_Rt → e_SS → Prop} {l1 : Option Value} {b9 : Nat} {nk nr np a b n : Nat} (hG : q_G p I c nk nr np a b n) (hX : (X 8).1 = 0) (h40 : nk = 40) (kx : Q (.inl (some (.int 0))) (p, q_fl I 2, J, c, w)) : s_w X (d + 11) K_X16_stop 22 [some (.ref (p.1 T_MODEL 0)), l1] [.ref b9, .ref (p.1 T_MODEL 0)] (p, I, J, c, w) (fun r S' => e_rcr (some .int) r = true ∧ Q r S') := by
  have hM := hG.1
  have hp := hM.1
  have hk40 := hM.2.1
  have hr10 := hM.2.2.1
  have hnp := hM.2.2.2.1
  refine w_iconst (v := 2) dX16_stop_22 rfl ?_
  refine t_callV (t := T_MODEL) (As := [_, _]) dX16_stop_23 rfl rM_X16_adds (by decide) rfl rfl (by decide) (by decide) (Nat.le_of_ble_eq_true rfl) rfl (hp.1 _ rfl) (c_X16_addsF hG hX h40 ?_)
  show s_w _ _ _ 26 _ _ _ _
  refine w_goto (t := 34) dX16_stop_26 (by decide) ?_
  exact w_ireturn dX16_stop_34 ⟨rfl, kx⟩

set_option maxRecDepth 100000 in
set_option maxHeartbeats 4000000 in
theorem l_X16_tremulant {X : e_XT} {d : Nat} {p : e_Sp} {I : e_I} {J : e_Jt} {c : Nat × Nat} {w : e_Rw1} {Q : e_Rt → e_SS → Prop} {l1 : Option Value} {nk nr np a b n : Nat} (hG : q_G p I c nk nr np a b n) (hX : (X 8).1 = 0) (h40 : nk < 40) (hL : s_La p I 3 nk) (hK : q_K p I nk) (hc : c.1 < e_xb) (ha : a + 1 + n + 100000000 < 4294960000) (k : ∀ p1 x9 y9, x9 ≤ 1 → y9 ≤ 60 → s_xv (s_NL 3) p p1 → s_La p1 (s_adI I 3 nk) 3 (nk + 1) → ∀ p' c' n', q_X p1 p' → q_L p' (q_st (nk + 1) nr np (s_adI I 3 nk, J)).1 c' (a + x9) (b + y9) n' → n' ≤ n + np → Q (.inl (some (.int (nI nk)))) (p', q_an (q_st (nk + 1) nr np (s_adI I 3 nk, J)).1, (q_st (nk + 1) nr np (s_adI I 3 nk, J)).2, c', w)) : s_w X (d + 11) K_X16_tremulant 22 [some (.ref (p.1 T_MODEL 0)), l1] [.ref (p.1 T_MKNOB nk), .ref (p.1 T_MODEL 0)] (p, I, J, c, w) (fun r S' => e_rcr (some .int) r = true ∧ Q r S') := by
  have hM := hG.1
  have hp := hM.1
  have hk40 := hM.2.1
  have hr10 := hM.2.2.1
  have hnp := hM.2.2.2.1
  refine w_iconst (v := 2) dX16_tremulant_22 rfl ?_
  refine t_callV (t := T_MODEL) (As := [_, _]) dX16_tremulant_23 rfl rM_X16_adds (by decide) rfl rfl (by decide) (by decide) (Nat.le_of_ble_eq_true rfl) rfl (hp.1 _ rfl) (c_X16_adds hG hX h40 hL hK hc ha (fun p1 x9 y9 hx9 hy9 hxv hL1 p2 c2 n2 x2 hL2 hn2 => ?_))
  show s_w _ _ _ 26 _ _ _ _
  refine w_goto (t := 34) dX16_tremulant_26 (by decide) ?_
  exact w_ireturn dX16_tremulant_34 ⟨rfl, k p1 x9 y9 hx9 hy9 hxv hL1 p2 c2 n2 x2 hL2 hn2⟩

set_option maxRecDepth 100000 in
set_option maxHeartbeats 4000000 in
theorem lF_X16_tremulant {X : e_XT} {d : Nat} {p : e_Sp} {I : e_I} {J : e_Jt} {c : Nat × Nat} {w : e_Rw1} {Q : e_Rt → e_SS → Prop} {l1 : Option Value} {b9 : Nat} {nk nr np a b n : Nat} (hG : q_G p I c nk nr np a b n) (hX : (X 8).1 = 0) (h40 : nk = 40) (kx : Q (.inl (some (.int 0))) (p, q_fl I 2, J, c, w)) : s_w X (d + 11) K_X16_tremulant 22 [some (.ref (p.1 T_MODEL 0)), l1] [.ref b9, .ref (p.1 T_MODEL 0)] (p, I, J, c, w) (fun r S' => e_rcr (some .int) r = true ∧ Q r S') := by
  have hM := hG.1
  have hp := hM.1
  have hk40 := hM.2.1
  have hr10 := hM.2.2.1
  have hnp := hM.2.2.2.1
  refine w_iconst (v := 2) dX16_tremulant_22 rfl ?_
  refine t_callV (t := T_MODEL) (As := [_, _]) dX16_tremulant_23 rfl rM_X16_adds (by decide) rfl rfl (by decide) (by decide) (Nat.le_of_ble_eq_true rfl) rfl (hp.1 _ rfl) (c_X16_addsF hG hX h40 ?_)
  show s_w _ _ _ 26 _ _ _ _
  refine w_goto (t := 34) dX16_tremulant_26 (by decide) ?_
  exact w_ireturn dX16_tremulant_34 ⟨rfl, kx⟩

set_option maxRecDepth 100000 in
set_option maxHeartbeats 4000000 in
theorem l_X16_coupler {X : e_XT} {d : Nat} {p : e_Sp} {I : e_I} {J : e_Jt} {c : Nat × Nat} {w : e_Rw1} {Q : e_Rt → e_SS → Prop} {l1 l2 l3 l4 l5 l6 : Option Value} {nk nr np a b n : Nat} (hG : q_G p I c nk nr np a b n) (hX : (X 8).1 = 0) (h40 : nk < 40) (hL : s_La p I 3 nk) (hK : q_K p I nk) (hc : c.1 < e_xb) (ha : a + 1 + n + 100000000 < 4294960000) (k : ∀ p1 x9 y9, x9 ≤ 1 → y9 ≤ 60 → s_xv (s_NL 3) p p1 → s_La p1 (s_adI I 3 nk) 3 (nk + 1) → ∀ p' c' n', q_X p1 p' → q_L p' (q_st (nk + 1) nr np (s_adI I 3 nk, J)).1 c' (a + x9) (b + y9) n' → n' ≤ n + np → Q (.inl (some (.int (nI nk)))) (p', q_an (q_st (nk + 1) nr np (s_adI I 3 nk, J)).1, (q_st (nk + 1) nr np (s_adI I 3 nk, J)).2, c', w)) : s_w X (d + 11) K_X16_coupler 118 [some (.ref (p.1 T_MODEL 0)), l1, l2, l3, l4, l5, l6] [.ref (p.1 T_MKNOB nk), .ref (p.1 T_MODEL 0)] (p, I, J, c, w) (fun r S' => e_rcr (some .int) r = true ∧ Q r S') := by
  have hM := hG.1
  have hp := hM.1
  have hk40 := hM.2.1
  have hr10 := hM.2.2.1
  have hnp := hM.2.2.2.1
  refine w_iconst (v := 3) dX16_coupler_118 rfl ?_
  refine t_callV (t := T_MODEL) (As := [_, _]) dX16_coupler_119 rfl rM_X16_adds (by decide) rfl rfl (by decide) (by decide) (Nat.le_of_ble_eq_true rfl) rfl (hp.1 _ rfl) (c_X16_adds hG hX h40 hL hK hc ha (fun p1 x9 y9 hx9 hy9 hxv hL1 p2 c2 n2 x2 hL2 hn2 => ?_))
  show s_w _ _ _ 122 _ _ _ _
  exact w_ireturn dX16_coupler_122 ⟨rfl, k p1 x9 y9 hx9 hy9 hxv hL1 p2 c2 n2 x2 hL2 hn2⟩

set_option maxRecDepth 100000 in
set_option maxHeartbeats 4000000 in
theorem lF_X16_coupler {X : e_XT} {d : Nat} {p : e_Sp} {I : e_I} {J : e_Jt} {c : Nat × Nat} {w : e_Rw1} {Q : e_Rt → e_SS → Prop} {l1 l2 l3 l4 l5 l6 : Option Value} {b9 : Nat} {nk nr np a b n : Nat} (hG : q_G p I c nk nr np a b n) (hX : (X 8).1 = 0) (h40 : nk = 40) (kx : Q (.inl (some (.int 0))) (p, q_fl I 3, J, c, w)) : s_w X (d + 11) K_X16_coupler 118 [some (.ref (p.1 T_MODEL 0)), l1, l2, l3, l4, l5, l6] [.ref b9, .ref (p.1 T_MODEL 0)] (p, I, J, c, w) (fun r S' => e_rcr (some .int) r = true ∧ Q r S') := by
  have hM := hG.1
  have hp := hM.1
  have hk40 := hM.2.1
  have hr10 := hM.2.2.1
  have hnp := hM.2.2.2.1
  refine w_iconst (v := 3) dX16_coupler_118 rfl ?_
  refine t_callV (t := T_MODEL) (As := [_, _]) dX16_coupler_119 rfl rM_X16_adds (by decide) rfl rfl (by decide) (by decide) (Nat.le_of_ble_eq_true rfl) rfl (hp.1 _ rfl) (c_X16_addsF hG hX h40 ?_)
  show s_w _ _ _ 122 _ _ _ _
  exact w_ireturn dX16_coupler_122 ⟨rfl, kx⟩

set_option maxRecDepth 100000 in
set_option maxHeartbeats 4000000 in
theorem c_X16_stop {X : e_XT} {d : Nat} {p : e_Sp} {I : e_I} {J : e_Jt} {c : Nat × Nat} {w : e_Rw1} {Q : e_Rt → e_SS → Prop} {nk nr np a b n : Nat} (hG : q_G p I c nk nr np a b n) (hX : (X 8).1 = 0) {x : Int32} (hL : s_La p I 3 nk) (hc : c.1 + 20 < e_xb) (ha : a + 20 + n + 100000000 < 4294960000) (hN : ∀ t, t ∈ T_MKNOB :: q_kT → p.2.1 t nk = false) (k : (0 ≤ x ∧ x ≤ 2) → nk < 40 → ∀ p1 x9 y9, x9 ≤ 20 → y9 ≤ 400 → s_xv (q_NK nk) p p1 → (∀ t, t ∈ T_MKNOB :: q_kT → p1.2.1 t nk = true) → s_La p1 (s_adI (q_nk I nk 115 x x 0 45) 3 nk) 3 (nk + 1) → ∀ p' c' n', q_X p1 p' → q_L p' (q_st (nk + 1) nr np (s_adI (q_nk I nk 115 x x 0 45) 3 nk, J)).1 c' (a + x9) (b + y9) n' → n' ≤ n + np → Q (.inl (some (.int (nI nk)))) (p', q_an (q_st (nk + 1) nr np (s_adI (q_nk I nk 115 x x 0 45) 3 nk, J)).1, (q_st (nk + 1) nr np (s_adI (q_nk I nk 115 x x 0 45) 3 nk, J)).2, c', w)) (kx : ¬ (0 ≤ x ∧ x ≤ 2) → Q (.inl (some (.int 0))) (p, q_fl I 1, J, c, w)) (kx2 : (0 ≤ x ∧ x ≤ 2) → nk = 40 → ∀ p1, s_xv (q_N6 nk) p p1 → p1.2.1 = p.2.1 → Q (.inl (some (.int 0))) (p1, q_fl (q_mw I nk 61) 2, J, (c.1 + 6, c.2 + 93), w)) : s_c X (d + 11) 240 [.ref (p.1 T_MODEL 0), .int x] (p, I, J, c, w) Q := by
  have hM := hG.1
  have hp := hM.1
  have hk40 := hM.2.1
  have hr10 := hM.2.2.1
  have hnp := hM.2.2.2.1
  refine m_X16_stop (Nat.le_of_ble_eq_true rfl) ?_
  show s_w _ _ _ 0 _ _ _ _
  refine w_op (pc' := 1) dX16_stop_0 rfl ?_
  refine t_callS (As := [_]) dX16_stop_1 rfl rM_X16_isDivision (by decide) rfl rfl (by decide) (Nat.le_of_ble_eq_true rfl) (c_X16_isDivision ?_)
  show s_w _ _ _ 4 _ _ _ _
  refine w_ifeq (t := 29) dX16_stop_4 (by decide) (fun c4 => ?_) (fun c4 => ?_)
  · refine w_op (pc' := 30) dX16_stop_29 rfl ?_
    refine w_iconst (v := 1) dX16_stop_30 rfl ?_
    refine t_callV (t := T_MODEL) (As := [_]) dX16_stop_31 rfl rM_X16_fails (by decide) rfl rfl (by decide) (by decide) (Nat.le_of_ble_eq_true rfl) rfl (hp.1 _ rfl) (c_X16_fails hp ?_)
    show s_w _ _ _ 34 _ _ _ _
    exact w_ireturn dX16_stop_34 ⟨rfl, kx (of_decide_eq_false (bI_0.mp c4))⟩
  · have hd := of_decide_eq_true (bI_n0.mp c4)
    refine w_op (pc' := 8) dX16_stop_7 rfl ?_
    refine t_new dX16_stop_8 rfl (show c.1 < e_xb by omega) (fun a9 ha9 => ?_)
    refine w_op (pc' := 12) dX16_stop_11 rfl ?_
    refine w_bipush (v := 115) dX16_stop_12 rfl ?_
    refine w_op (pc' := 15) dX16_stop_14 rfl ?_
    refine w_op (pc' := 16) dX16_stop_15 rfl ?_
    refine w_iconst (v := 0) dX16_stop_16 rfl ?_
    refine w_bipush (v := 45) dX16_stop_17 rfl ?_
    refine t_callI (As := [_, _, _, _, _]) dX16_stop_19 rfl rM_X14_init (by decide) (by decide) rfl rfl rfl (Nat.le_of_ble_eq_true rfl) (c_X14_init (j := nk) (by decide) (by decide) (fun t ht => hN t (List.mem_cons_of_mem _ ht)) (hN _ (by decide)) (show c.1 + 1 + 5 < e_xb by omega) (fun p5 hx5 hv5 => ?_))
    refine ⟨rfl, ?_⟩
    have n0 : ∀ t i, (decide (t = T_MKNOB) || q_kT.contains t) = false → q_N6 nk t i = false := fun t i ht => by unfold q_N6; rw [ht]; rfl
    have n5 : ∀ t i, q_kT.contains t = false → q_N5 nk t i = false := fun t i ht => by unfold q_N5; rw [ht]; rfl
    by_cases h40 : nk < 40
    · refine w_ghost (S' := ((s_pv p5 T_MKNOB nk a9 0), (q_nk I nk 115 x x 0 45), J, (c.1 + 6, c.2 + 93), w)) (fun h hs => hs.pubMKNOB ((hx5.1 T_MKNOB nk (n5 _ _ (by decide))).2.1.trans (hN _ (by decide))) ha9.1 rfl rfl rfl rfl rfl rfl rfl rfl rfl rfl rfl rfl rfl rfl rfl rfl) ?_
      have hxk : s_xv (q_N6 nk) p (s_pv p5 T_MKNOB nk a9 0) := (q_N5_6 hx5).trans (s_xv.pv (by simp [q_N6]))
      have hK1 : q_K (s_pv p5 T_MKNOB nk a9 0) (q_nk I nk 115 x x 0 45) nk := ⟨s_pv_v, fun t ht => s_pv_k (hv5 t ht), by rw [q_nk_v.1]; exact q_nat3 hd, ⟨0, by omega, q_nk_v.2.1⟩, Or.inl q_nk_v.2.2⟩
      have hL1 : s_La (s_pv p5 T_MKNOB nk a9 0) (q_nk I nk 115 x x 0 45) 3 nk := by
        unfold s_La at hL ⊢
        rw [q_nk_F (by decide), (hxk.1 T_LIST 3 (n0 _ _ (by decide))).2.1, (hxk.1 T_LARR 3 (n0 _ _ (by decide))).1, (hxk.1 T_LARR 3 (n0 _ _ (by decide))).2.1, (hxk.1 T_LARR 3 (n0 _ _ (by decide))).2.2]
        exact hL
      have h2 := l_X16_stop (X := X) (d := d) (p := (s_pv p5 T_MKNOB nk a9 0)) (I := (q_nk I nk 115 x x 0 45)) (J := J) (c := (c.1 + 6, c.2 + 93)) (w := w) (Q := Q) (l1 := some (.int x)) (hG.nk hxk (by omega)) hX h40 hL1 hK1 (show c.1 + 6 < e_xb by omega) (by omega) (fun p1 x9 y9 hx9 hy9 hxv hL2 p2 c2 n2 x2 hL3 hn2 => k hd h40 p1 (6 + x9) (93 + y9) (by omega) (by omega) ((hxk.mono (fun t i hti => (Bool.or_eq_false_iff.mp hti).1)).trans (hxv.mono (fun t i hti => (Bool.or_eq_false_iff.mp hti).2))) (fun t ht => ?_) hL2 p2 c2 n2 x2 (by rw [← Nat.add_assoc, ← Nat.add_assoc]; exact hL3) hn2)
      · rw [s_pv_n (fun z => absurd z.1 (by decide)), (hx5.1 T_MODEL 0 (n5 _ _ (by decide))).1, s_pv_s] at h2
        exact h2
      · rw [(hxv.1 t nk (by unfold s_NL; rw [decide_eq_false (fun z => by rw [z] at ht; exact absurd ht (by decide))]; rfl)).2.1]
        rcases List.mem_cons.mp ht with rfl | ht
        · exact s_pv_v
        · exact s_pv_k (hv5 t ht)
    · have h40 : nk = 40 := by omega
      refine w_ghost (S' := ((q_uvK p5 nk), q_mw I nk 61, J, (c.1 + 6, c.2 + 93), w)) (fun h hs => hs.uvK ha9.1) ?_
      have e9 := q_uvK_e hx5 (fun t ht => hN t (List.mem_cons_of_mem _ ht))
      have hx9 : s_xv (q_N6 nk) p (q_uvK p5 nk) := ⟨fun t i hti => ⟨((q_N5_6 hx5).1 t i hti).1, by rw [e9], ((q_N5_6 hx5).1 t i hti).2.2⟩, hx5.2⟩
      have hG9 : q_G (q_uvK p5 nk) (q_mw I nk 61) (c.1 + 6, c.2 + 93) nk nr np (a + 6) (b + 93) n := by
        have hm : ∀ F, [f_mk_wires, f_mk_ranks, f_mk_offsets, f_mk_froms, f_mk_tos].contains F = false → q_mw I nk 61 F = I F := fun F hF => q_mw_F hF
        obtain ⟨h1, h2, h3, h4, h5, h6, h7, h8⟩ := hG
        refine ⟨(h1.w (p' := (q_uvK p5 nk)) (I' := q_mw I nk 61) (fun t i _ => by rw [e9]) (fun F hF => hm F ?_) (by rw [hm _ (by decide)]) (by rw [hm _ (by decide)])), h2, ?_, by unfold q_bo; rw [hm _ (by decide)]; exact h4, by unfold q_bo; rw [hm _ (by decide)]; exact h5, h6.v (funext fun j => by rw [e9]) (by rw [e9]) (hx9.1 _ _ (n0 _ _ (by decide))) (by rw [hm _ (by decide)]), by omega, h8⟩
        · have h9 : (q_ms2.all fun F => ![f_mk_wires, f_mk_ranks, f_mk_offsets, f_mk_froms, f_mk_tos].contains F) = true := by decide
          have := List.all_eq_true.mp h9 F hF
          simpa using this
        · unfold q_S
          rw [hm _ (by decide), hm _ (by decide), hm _ (by decide)]
          exact h3
      have h2 := lF_X16_stop (X := X) (d := d) (p := (q_uvK p5 nk)) (I := q_mw I nk 61) (J := J) (c := (c.1 + 6, c.2 + 93)) (w := w) (Q := Q) (b9 := a9) (l1 := some (.int x)) hG9 hX h40 (kx2 hd h40 _ hx9 e9)
      rw [show (q_uvK p5 nk).1 T_MODEL 0 = p.1 T_MODEL 0 from (hx9.1 T_MODEL 0 (n0 _ _ (by decide))).1] at h2
      exact h2

set_option maxRecDepth 100000 in
set_option maxHeartbeats 4000000 in
theorem c_X16_tremulant {X : e_XT} {d : Nat} {p : e_Sp} {I : e_I} {J : e_Jt} {c : Nat × Nat} {w : e_Rw1} {Q : e_Rt → e_SS → Prop} {nk nr np a b n : Nat} (hG : q_G p I c nk nr np a b n) (hX : (X 8).1 = 0) {x : Int32} (hL : s_La p I 3 nk) (hc : c.1 + 20 < e_xb) (ha : a + 20 + n + 100000000 < 4294960000) (hN : ∀ t, t ∈ T_MKNOB :: q_kT → p.2.1 t nk = false) (k : (0 ≤ x ∧ x ≤ 2) → nk < 40 → ∀ p1 x9 y9, x9 ≤ 20 → y9 ≤ 400 → s_xv (q_NK nk) p p1 → (∀ t, t ∈ T_MKNOB :: q_kT → p1.2.1 t nk = true) → s_La p1 (s_adI (q_nk I nk 116 x x 0 45) 3 nk) 3 (nk + 1) → ∀ p' c' n', q_X p1 p' → q_L p' (q_st (nk + 1) nr np (s_adI (q_nk I nk 116 x x 0 45) 3 nk, J)).1 c' (a + x9) (b + y9) n' → n' ≤ n + np → Q (.inl (some (.int (nI nk)))) (p', q_an (q_st (nk + 1) nr np (s_adI (q_nk I nk 116 x x 0 45) 3 nk, J)).1, (q_st (nk + 1) nr np (s_adI (q_nk I nk 116 x x 0 45) 3 nk, J)).2, c', w)) (kx : ¬ (0 ≤ x ∧ x ≤ 2) → Q (.inl (some (.int 0))) (p, q_fl I 1, J, c, w)) (kx2 : (0 ≤ x ∧ x ≤ 2) → nk = 40 → ∀ p1, s_xv (q_N6 nk) p p1 → p1.2.1 = p.2.1 → Q (.inl (some (.int 0))) (p1, q_fl (q_mw I nk 61) 2, J, (c.1 + 6, c.2 + 93), w)) : s_c X (d + 11) 246 [.ref (p.1 T_MODEL 0), .int x] (p, I, J, c, w) Q := by
  have hM := hG.1
  have hp := hM.1
  have hk40 := hM.2.1
  have hr10 := hM.2.2.1
  have hnp := hM.2.2.2.1
  refine m_X16_tremulant (Nat.le_of_ble_eq_true rfl) ?_
  show s_w _ _ _ 0 _ _ _ _
  refine w_op (pc' := 1) dX16_tremulant_0 rfl ?_
  refine t_callS (As := [_]) dX16_tremulant_1 rfl rM_X16_isDivision (by decide) rfl rfl (by decide) (Nat.le_of_ble_eq_true rfl) (c_X16_isDivision ?_)
  show s_w _ _ _ 4 _ _ _ _
  refine w_ifeq (t := 29) dX16_tremulant_4 (by decide) (fun c4 => ?_) (fun c4 => ?_)
  · refine w_op (pc' := 30) dX16_tremulant_29 rfl ?_
    refine w_iconst (v := 1) dX16_tremulant_30 rfl ?_
    refine t_callV (t := T_MODEL) (As := [_]) dX16_tremulant_31 rfl rM_X16_fails (by decide) rfl rfl (by decide) (by decide) (Nat.le_of_ble_eq_true rfl) rfl (hp.1 _ rfl) (c_X16_fails hp ?_)
    show s_w _ _ _ 34 _ _ _ _
    exact w_ireturn dX16_tremulant_34 ⟨rfl, kx (of_decide_eq_false (bI_0.mp c4))⟩
  · have hd := of_decide_eq_true (bI_n0.mp c4)
    refine w_op (pc' := 8) dX16_tremulant_7 rfl ?_
    refine t_new dX16_tremulant_8 rfl (show c.1 < e_xb by omega) (fun a9 ha9 => ?_)
    refine w_op (pc' := 12) dX16_tremulant_11 rfl ?_
    refine w_bipush (v := 116) dX16_tremulant_12 rfl ?_
    refine w_op (pc' := 15) dX16_tremulant_14 rfl ?_
    refine w_op (pc' := 16) dX16_tremulant_15 rfl ?_
    refine w_iconst (v := 0) dX16_tremulant_16 rfl ?_
    refine w_bipush (v := 45) dX16_tremulant_17 rfl ?_
    refine t_callI (As := [_, _, _, _, _]) dX16_tremulant_19 rfl rM_X14_init (by decide) (by decide) rfl rfl rfl (Nat.le_of_ble_eq_true rfl) (c_X14_init (j := nk) (by decide) (by decide) (fun t ht => hN t (List.mem_cons_of_mem _ ht)) (hN _ (by decide)) (show c.1 + 1 + 5 < e_xb by omega) (fun p5 hx5 hv5 => ?_))
    refine ⟨rfl, ?_⟩
    have n0 : ∀ t i, (decide (t = T_MKNOB) || q_kT.contains t) = false → q_N6 nk t i = false := fun t i ht => by unfold q_N6; rw [ht]; rfl
    have n5 : ∀ t i, q_kT.contains t = false → q_N5 nk t i = false := fun t i ht => by unfold q_N5; rw [ht]; rfl
    by_cases h40 : nk < 40
    · refine w_ghost (S' := ((s_pv p5 T_MKNOB nk a9 0), (q_nk I nk 116 x x 0 45), J, (c.1 + 6, c.2 + 93), w)) (fun h hs => hs.pubMKNOB ((hx5.1 T_MKNOB nk (n5 _ _ (by decide))).2.1.trans (hN _ (by decide))) ha9.1 rfl rfl rfl rfl rfl rfl rfl rfl rfl rfl rfl rfl rfl rfl rfl rfl) ?_
      have hxk : s_xv (q_N6 nk) p (s_pv p5 T_MKNOB nk a9 0) := (q_N5_6 hx5).trans (s_xv.pv (by simp [q_N6]))
      have hK1 : q_K (s_pv p5 T_MKNOB nk a9 0) (q_nk I nk 116 x x 0 45) nk := ⟨s_pv_v, fun t ht => s_pv_k (hv5 t ht), by rw [q_nk_v.1]; exact q_nat3 hd, ⟨0, by omega, q_nk_v.2.1⟩, Or.inl q_nk_v.2.2⟩
      have hL1 : s_La (s_pv p5 T_MKNOB nk a9 0) (q_nk I nk 116 x x 0 45) 3 nk := by
        unfold s_La at hL ⊢
        rw [q_nk_F (by decide), (hxk.1 T_LIST 3 (n0 _ _ (by decide))).2.1, (hxk.1 T_LARR 3 (n0 _ _ (by decide))).1, (hxk.1 T_LARR 3 (n0 _ _ (by decide))).2.1, (hxk.1 T_LARR 3 (n0 _ _ (by decide))).2.2]
        exact hL
      have h2 := l_X16_tremulant (X := X) (d := d) (p := (s_pv p5 T_MKNOB nk a9 0)) (I := (q_nk I nk 116 x x 0 45)) (J := J) (c := (c.1 + 6, c.2 + 93)) (w := w) (Q := Q) (l1 := some (.int x)) (hG.nk hxk (by omega)) hX h40 hL1 hK1 (show c.1 + 6 < e_xb by omega) (by omega) (fun p1 x9 y9 hx9 hy9 hxv hL2 p2 c2 n2 x2 hL3 hn2 => k hd h40 p1 (6 + x9) (93 + y9) (by omega) (by omega) ((hxk.mono (fun t i hti => (Bool.or_eq_false_iff.mp hti).1)).trans (hxv.mono (fun t i hti => (Bool.or_eq_false_iff.mp hti).2))) (fun t ht => ?_) hL2 p2 c2 n2 x2 (by rw [← Nat.add_assoc, ← Nat.add_assoc]; exact hL3) hn2)
      · rw [s_pv_n (fun z => absurd z.1 (by decide)), (hx5.1 T_MODEL 0 (n5 _ _ (by decide))).1, s_pv_s] at h2
        exact h2
      · rw [(hxv.1 t nk (by unfold s_NL; rw [decide_eq_false (fun z => by rw [z] at ht; exact absurd ht (by decide))]; rfl)).2.1]
        rcases List.mem_cons.mp ht with rfl | ht
        · exact s_pv_v
        · exact s_pv_k (hv5 t ht)
    · have h40 : nk = 40 := by omega
      refine w_ghost (S' := ((q_uvK p5 nk), q_mw I nk 61, J, (c.1 + 6, c.2 + 93), w)) (fun h hs => hs.uvK ha9.1) ?_
      have e9 := q_uvK_e hx5 (fun t ht => hN t (List.mem_cons_of_mem _ ht))
      have hx9 : s_xv (q_N6 nk) p (q_uvK p5 nk) := ⟨fun t i hti => ⟨((q_N5_6 hx5).1 t i hti).1, by rw [e9], ((q_N5_6 hx5).1 t i hti).2.2⟩, hx5.2⟩
      have hG9 : q_G (q_uvK p5 nk) (q_mw I nk 61) (c.1 + 6, c.2 + 93) nk nr np (a + 6) (b + 93) n := by
        have hm : ∀ F, [f_mk_wires, f_mk_ranks, f_mk_offsets, f_mk_froms, f_mk_tos].contains F = false → q_mw I nk 61 F = I F := fun F hF => q_mw_F hF
        obtain ⟨h1, h2, h3, h4, h5, h6, h7, h8⟩ := hG
        refine ⟨(h1.w (p' := (q_uvK p5 nk)) (I' := q_mw I nk 61) (fun t i _ => by rw [e9]) (fun F hF => hm F ?_) (by rw [hm _ (by decide)]) (by rw [hm _ (by decide)])), h2, ?_, by unfold q_bo; rw [hm _ (by decide)]; exact h4, by unfold q_bo; rw [hm _ (by decide)]; exact h5, h6.v (funext fun j => by rw [e9]) (by rw [e9]) (hx9.1 _ _ (n0 _ _ (by decide))) (by rw [hm _ (by decide)]), by omega, h8⟩
        · have h9 : (q_ms2.all fun F => ![f_mk_wires, f_mk_ranks, f_mk_offsets, f_mk_froms, f_mk_tos].contains F) = true := by decide
          have := List.all_eq_true.mp h9 F hF
          simpa using this
        · unfold q_S
          rw [hm _ (by decide), hm _ (by decide), hm _ (by decide)]
          exact h3
      have h2 := lF_X16_tremulant (X := X) (d := d) (p := (q_uvK p5 nk)) (I := q_mw I nk 61) (J := J) (c := (c.1 + 6, c.2 + 93)) (w := w) (Q := Q) (b9 := a9) (l1 := some (.int x)) hG9 hX h40 (kx2 hd h40 _ hx9 e9)
      rw [show (q_uvK p5 nk).1 T_MODEL 0 = p.1 T_MODEL 0 from (hx9.1 T_MODEL 0 (n0 _ _ (by decide))).1] at h2
      exact h2

set_option maxRecDepth 100000 in
set_option maxHeartbeats 4000000 in
theorem l3_X16_coupler {X : e_XT} {d : Nat} {p : e_Sp} {I : e_I} {J : e_Jt} {c : Nat × Nat} {w : e_Rw1} {Q : e_Rt → e_SS → Prop} {nk nr np a b n : Nat} (hG : q_G p I c nk nr np a b n) (hX : (X 8).1 = 0) {x y z t : Int32} {l5 l6 : Option Value} (hL : s_La p I 3 nk) (hc : c.1 + 20 < e_xb) (ha : a + 20 + n + 100000000 < 4294960000) (hN : ∀ t, t ∈ T_MKNOB :: q_kT → p.2.1 t nk = false) (ht : vp_nar .char t = t) (hd : (0 ≤ x ∧ x ≤ 2)) (hd2 : (0 ≤ y ∧ y ≤ 2)) (hsh : (z = -12 ∨ z = 0 ∨ z = 12)) (hkd : (t = 97 ∨ t = 109 ∨ t = 98 ∨ t = 112)) (hft : ¬ (x = y ∧ z = 0)) (k : (0 ≤ x ∧ x ≤ 2) → (0 ≤ y ∧ y ≤ 2) → (z = -12 ∨ z = 0 ∨ z = 12) → (t = 97 ∨ t = 109 ∨ t = 98 ∨ t = 112) → ¬ (x = y ∧ z = 0) → nk < 40 → ∀ p1 x9 y9, x9 ≤ 20 → y9 ≤ 400 → s_xv (q_NK nk) p p1 → (∀ t, t ∈ T_MKNOB :: q_kT → p1.2.1 t nk = true) → s_La p1 (s_adI (q_nk I nk 99 x y z t) 3 nk) 3 (nk + 1) → ∀ p' c' n', q_X p1 p' → q_L p' (q_st (nk + 1) nr np (s_adI (q_nk I nk 99 x y z t) 3 nk, J)).1 c' (a + x9) (b + y9) n' → n' ≤ n + np → Q (.inl (some (.int (nI nk)))) (p', q_an (q_st (nk + 1) nr np (s_adI (q_nk I nk 99 x y z t) 3 nk, J)).1, (q_st (nk + 1) nr np (s_adI (q_nk I nk 99 x y z t) 3 nk, J)).2, c', w)) (kx2 : (0 ≤ x ∧ x ≤ 2) → (0 ≤ y ∧ y ≤ 2) → (z = -12 ∨ z = 0 ∨ z = 12) → (t = 97 ∨ t = 109 ∨ t = 98 ∨ t = 112) → ¬ (x = y ∧ z = 0) → nk = 40 → ∀ p1, s_xv (q_N6 nk) p p1 → p1.2.1 = p.2.1 → Q (.inl (some (.int 0))) (p1, q_fl (q_mw I nk 61) 3, J, (c.1 + 6, c.2 + 93), w)) : s_w X (d + 11) K_X16_coupler 103 [some (.ref (p.1 T_MODEL 0)), some (.int x), some (.int y), some (.int z), some (.int t), l5, l6] [] (p, I, J, c, w) (fun r S' => e_rcr (some .int) r = true ∧ Q r S') := by
  have hM := hG.1
  have hp := hM.1
  have hk40 := hM.2.1
  have hr10 := hM.2.2.1
  have hnp := hM.2.2.2.1
  refine w_op (pc' := 104) dX16_coupler_103 rfl ?_
  refine t_new dX16_coupler_104 rfl (show c.1 < e_xb by omega) (fun a9 ha9 => ?_)
  refine w_op (pc' := 108) dX16_coupler_107 rfl ?_
  refine w_bipush (v := 99) dX16_coupler_108 rfl ?_
  refine w_op (pc' := 111) dX16_coupler_110 rfl ?_
  refine w_op (pc' := 112) dX16_coupler_111 rfl ?_
  refine w_op (pc' := 113) dX16_coupler_112 rfl ?_
  refine w_op (pc' := 115) dX16_coupler_113 rfl ?_
  refine t_callI (As := [_, _, _, _, _]) dX16_coupler_115 rfl rM_X14_init (by decide) (by decide) rfl rfl rfl (Nat.le_of_ble_eq_true rfl) (c_X14_init (j := nk) (by decide) ht (fun t ht => hN t (List.mem_cons_of_mem _ ht)) (hN _ (by decide)) (show c.1 + 1 + 5 < e_xb by omega) (fun p5 hx5 hv5 => ?_))
  refine ⟨rfl, ?_⟩
  have n0 : ∀ t i, (decide (t = T_MKNOB) || q_kT.contains t) = false → q_N6 nk t i = false := fun t i ht => by unfold q_N6; rw [ht]; rfl
  have n5 : ∀ t i, q_kT.contains t = false → q_N5 nk t i = false := fun t i ht => by unfold q_N5; rw [ht]; rfl
  by_cases h40 : nk < 40
  · refine w_ghost (S' := ((s_pv p5 T_MKNOB nk a9 0), (q_nk I nk 99 x y z t), J, (c.1 + 6, c.2 + 93), w)) (fun h hs => hs.pubMKNOB ((hx5.1 T_MKNOB nk (n5 _ _ (by decide))).2.1.trans (hN _ (by decide))) ha9.1 rfl rfl rfl rfl rfl rfl rfl rfl rfl rfl rfl rfl rfl rfl rfl rfl) ?_
    have hxk : s_xv (q_N6 nk) p (s_pv p5 T_MKNOB nk a9 0) := (q_N5_6 hx5).trans (s_xv.pv (by simp [q_N6]))
    have hK1 : q_K (s_pv p5 T_MKNOB nk a9 0) (q_nk I nk 99 x y z t) nk := ⟨s_pv_v, fun t ht => s_pv_k (hv5 t ht), by rw [q_nk_v.1]; exact q_nat3 hd, ⟨0, by omega, q_nk_v.2.1⟩, Or.inl q_nk_v.2.2⟩
    have hL1 : s_La (s_pv p5 T_MKNOB nk a9 0) (q_nk I nk 99 x y z t) 3 nk := by
      unfold s_La at hL ⊢
      rw [q_nk_F (by decide), (hxk.1 T_LIST 3 (n0 _ _ (by decide))).2.1, (hxk.1 T_LARR 3 (n0 _ _ (by decide))).1, (hxk.1 T_LARR 3 (n0 _ _ (by decide))).2.1, (hxk.1 T_LARR 3 (n0 _ _ (by decide))).2.2]
      exact hL
    have h2 := l_X16_coupler (X := X) (d := d) (p := (s_pv p5 T_MKNOB nk a9 0)) (I := (q_nk I nk 99 x y z t)) (J := J) (c := (c.1 + 6, c.2 + 93)) (w := w) (Q := Q) (l1 := some (.int x)) (l2 := some (.int y)) (l3 := some (.int z)) (l4 := some (.int t)) (l5 := l5) (l6 := l6) (hG.nk hxk (by omega)) hX h40 hL1 hK1 (show c.1 + 6 < e_xb by omega) (by omega) (fun p1 x9 y9 hx9 hy9 hxv hL2 p2 c2 n2 x2 hL3 hn2 => k hd hd2 hsh hkd hft h40 p1 (6 + x9) (93 + y9) (by omega) (by omega) ((hxk.mono (fun t i hti => (Bool.or_eq_false_iff.mp hti).1)).trans (hxv.mono (fun t i hti => (Bool.or_eq_false_iff.mp hti).2))) (fun t ht => ?_) hL2 p2 c2 n2 x2 (by rw [← Nat.add_assoc, ← Nat.add_assoc]; exact hL3) hn2)
    · rw [s_pv_n (fun z => absurd z.1 (by decide)), (hx5.1 T_MODEL 0 (n5 _ _ (by decide))).1, s_pv_s] at h2
      exact h2
    · rw [(hxv.1 t nk (by unfold s_NL; rw [decide_eq_false (fun z => by rw [z] at ht; exact absurd ht (by decide))]; rfl)).2.1]
      rcases List.mem_cons.mp ht with rfl | ht
      · exact s_pv_v
      · exact s_pv_k (hv5 t ht)
  · have h40 : nk = 40 := by omega
    refine w_ghost (S' := ((q_uvK p5 nk), q_mw I nk 61, J, (c.1 + 6, c.2 + 93), w)) (fun h hs => hs.uvK ha9.1) ?_
    have e9 := q_uvK_e hx5 (fun t ht => hN t (List.mem_cons_of_mem _ ht))
    have hx9 : s_xv (q_N6 nk) p (q_uvK p5 nk) := ⟨fun t i hti => ⟨((q_N5_6 hx5).1 t i hti).1, by rw [e9], ((q_N5_6 hx5).1 t i hti).2.2⟩, hx5.2⟩
    have hG9 : q_G (q_uvK p5 nk) (q_mw I nk 61) (c.1 + 6, c.2 + 93) nk nr np (a + 6) (b + 93) n := by
      have hm : ∀ F, [f_mk_wires, f_mk_ranks, f_mk_offsets, f_mk_froms, f_mk_tos].contains F = false → q_mw I nk 61 F = I F := fun F hF => q_mw_F hF
      obtain ⟨h1, h2, h3, h4, h5, h6, h7, h8⟩ := hG
      refine ⟨(h1.w (p' := (q_uvK p5 nk)) (I' := q_mw I nk 61) (fun t i _ => by rw [e9]) (fun F hF => hm F ?_) (by rw [hm _ (by decide)]) (by rw [hm _ (by decide)])), h2, ?_, by unfold q_bo; rw [hm _ (by decide)]; exact h4, by unfold q_bo; rw [hm _ (by decide)]; exact h5, h6.v (funext fun j => by rw [e9]) (by rw [e9]) (hx9.1 _ _ (n0 _ _ (by decide))) (by rw [hm _ (by decide)]), by omega, h8⟩
      · have h9 : (q_ms2.all fun F => ![f_mk_wires, f_mk_ranks, f_mk_offsets, f_mk_froms, f_mk_tos].contains F) = true := by decide
        have := List.all_eq_true.mp h9 F hF
        simpa using this
      · unfold q_S
        rw [hm _ (by decide), hm _ (by decide), hm _ (by decide)]
        exact h3
    have h2 := lF_X16_coupler (X := X) (d := d) (p := (q_uvK p5 nk)) (I := q_mw I nk 61) (J := J) (c := (c.1 + 6, c.2 + 93)) (w := w) (Q := Q) (b9 := a9) (l1 := some (.int x)) (l2 := some (.int y)) (l3 := some (.int z)) (l4 := some (.int t)) (l5 := l5) (l6 := l6) hG9 hX h40 (kx2 hd hd2 hsh hkd hft h40 _ hx9 e9)
    rw [show (q_uvK p5 nk).1 T_MODEL 0 = p.1 T_MODEL 0 from (hx9.1 T_MODEL 0 (n0 _ _ (by decide))).1] at h2
    exact h2

set_option maxRecDepth 100000 in
set_option maxHeartbeats 4000000 in
theorem c_X16_coupler {X : e_XT} {d : Nat} {p : e_Sp} {I : e_I} {J : e_Jt} {c : Nat × Nat} {w : e_Rw1} {Q : e_Rt → e_SS → Prop} {nk nr np a b n : Nat} (hG : q_G p I c nk nr np a b n) (hX : (X 8).1 = 0) {x y z t : Int32} (hL : s_La p I 3 nk) (hc : c.1 + 20 < e_xb) (ha : a + 20 + n + 100000000 < 4294960000) (hN : ∀ t, t ∈ T_MKNOB :: q_kT → p.2.1 t nk = false) (ht : vp_nar .char t = t) (k : (0 ≤ x ∧ x ≤ 2) → (0 ≤ y ∧ y ≤ 2) → (z = -12 ∨ z = 0 ∨ z = 12) → (t = 97 ∨ t = 109 ∨ t = 98 ∨ t = 112) → ¬ (x = y ∧ z = 0) → nk < 40 → ∀ p1 x9 y9, x9 ≤ 20 → y9 ≤ 400 → s_xv (q_NK nk) p p1 → (∀ t, t ∈ T_MKNOB :: q_kT → p1.2.1 t nk = true) → s_La p1 (s_adI (q_nk I nk 99 x y z t) 3 nk) 3 (nk + 1) → ∀ p' c' n', q_X p1 p' → q_L p' (q_st (nk + 1) nr np (s_adI (q_nk I nk 99 x y z t) 3 nk, J)).1 c' (a + x9) (b + y9) n' → n' ≤ n + np → Q (.inl (some (.int (nI nk)))) (p', q_an (q_st (nk + 1) nr np (s_adI (q_nk I nk 99 x y z t) 3 nk, J)).1, (q_st (nk + 1) nr np (s_adI (q_nk I nk 99 x y z t) 3 nk, J)).2, c', w)) (kx : ¬ ((0 ≤ x ∧ x ≤ 2) ∧ (0 ≤ y ∧ y ≤ 2)) → Q (.inl (some (.int 0))) (p, q_fl I 1, J, c, w)) (kx0 : (0 ≤ x ∧ x ≤ 2) → (0 ≤ y ∧ y ≤ 2) → ¬ ((z = -12 ∨ z = 0 ∨ z = 12) ∧ (t = 97 ∨ t = 109 ∨ t = 98 ∨ t = 112) ∧ ¬ (x = y ∧ z = 0)) → Q (.inl (some (.int 0))) (p, q_fl I 2, J, c, w)) (kx2 : (0 ≤ x ∧ x ≤ 2) → (0 ≤ y ∧ y ≤ 2) → (z = -12 ∨ z = 0 ∨ z = 12) → (t = 97 ∨ t = 109 ∨ t = 98 ∨ t = 112) → ¬ (x = y ∧ z = 0) → nk = 40 → ∀ p1, s_xv (q_N6 nk) p p1 → p1.2.1 = p.2.1 → Q (.inl (some (.int 0))) (p1, q_fl (q_mw I nk 61) 3, J, (c.1 + 6, c.2 + 93), w)) : s_c X (d + 11) 245 [.ref (p.1 T_MODEL 0), .int x, .int y, .int z, .int t] (p, I, J, c, w) Q := by
  have hM := hG.1
  have hp := hM.1
  have hk40 := hM.2.1
  have hr10 := hM.2.2.1
  have hnp := hM.2.2.2.1
  refine m_X16_coupler (Nat.le_of_ble_eq_true rfl) ?_
  show s_w _ _ _ 0 _ _ _ _
  refine w_op (pc' := 1) dX16_coupler_0 rfl ?_
  refine t_callS (As := [_]) dX16_coupler_1 rfl rM_X16_isDivision (by decide) rfl rfl (by decide) (Nat.le_of_ble_eq_true rfl) (c_X16_isDivision ?_)
  show s_w _ _ _ 4 _ _ _ _
  refine w_ifeq (t := 14) dX16_coupler_4 (by decide) (fun c4 => ?_) (fun c4 => ?_)
  · refine w_op (pc' := 15) dX16_coupler_14 rfl ?_
    refine w_iconst (v := 1) dX16_coupler_15 rfl ?_
    refine t_callV (t := T_MODEL) (As := [_]) dX16_coupler_16 rfl rM_X16_fails (by decide) rfl rfl (by decide) (by decide) (Nat.le_of_ble_eq_true rfl) rfl (hp.1 _ rfl) (c_X16_fails hp ?_)
    show s_w _ _ _ 19 _ _ _ _
    exact w_ireturn dX16_coupler_19 ⟨rfl, kx (fun u => (of_decide_eq_false (bI_0.mp c4)) u.1)⟩
  · have hd := of_decide_eq_true (bI_n0.mp c4)
    refine w_op (pc' := 8) dX16_coupler_7 rfl ?_
    refine t_callS (As := [_]) dX16_coupler_8 rfl rM_X16_isDivision (by decide) rfl rfl (by decide) (Nat.le_of_ble_eq_true rfl) (c_X16_isDivision ?_)
    show s_w _ _ _ 11 _ _ _ _
    refine w_ifne (t := 20) dX16_coupler_11 (by decide) (fun c11 => ?_) (fun c11 => ?_)
    · have hd2 := of_decide_eq_true (bI_n0.mp c11)
      refine w_op (pc' := 21) dX16_coupler_20 rfl ?_
      refine w_bipush (v := (-12)) dX16_coupler_21 rfl ?_
      refine w_icmpeq (t := 36) dX16_coupler_23 (by decide) (fun c23 => ?_) (fun c23 => ?_)
      · refine w_iconst (v := 1) dX16_coupler_36 rfl ?_
        refine w_goto (t := 41) dX16_coupler_37 (by decide) ?_
        refine w_op (pc' := 43) (ll' := [_, _, _, _, _, _, _]) dX16_coupler_41 rfl ?_
        refine w_op (pc' := 45) dX16_coupler_43 rfl ?_
        refine w_bipush (v := 97) dX16_coupler_45 rfl ?_
        refine w_icmpeq (t := 71) dX16_coupler_47 (by decide) (fun c47 => ?_) (fun c47 => ?_)
        · refine w_iconst (v := 1) dX16_coupler_71 rfl ?_
          refine w_goto (t := 76) dX16_coupler_72 (by decide) ?_
          refine w_op (pc' := 78) (ll' := [_, _, _, _, _, _, _]) dX16_coupler_76 rfl ?_
          refine w_op (pc' := 80) dX16_coupler_78 rfl ?_
          refine w_ifeq (t := 97) dX16_coupler_80 (by decide) (fun c80 => ?_) (fun c80 => ?_)
          · exact absurd c80 (by decide)
          · refine w_op (pc' := 85) dX16_coupler_83 rfl ?_
            refine w_ifeq (t := 97) dX16_coupler_85 (by decide) (fun c85 => ?_) (fun c85 => ?_)
            · exact absurd c85 (by decide)
            · refine w_op (pc' := 89) dX16_coupler_88 rfl ?_
              refine w_op (pc' := 90) dX16_coupler_89 rfl ?_
              refine w_icmpne (t := 103) dX16_coupler_90 (by decide) (fun c90 => ?_) (fun c90 => ?_)
              · exact l3_X16_coupler hG hX hL hc ha hN ht hd hd2 (Or.inl c23) (Or.inl c47) (fun u => c90 u.1) k kx2
              · refine w_op (pc' := 94) dX16_coupler_93 rfl ?_
                refine w_ifne (t := 103) dX16_coupler_94 (by decide) (fun c94 => ?_) (fun c94 => ?_)
                · exact l3_X16_coupler hG hX hL hc ha hN ht hd hd2 (Or.inl c23) (Or.inl c47) (fun u => c94 u.2) k kx2
                · refine w_op (pc' := 98) dX16_coupler_97 rfl ?_
                  refine w_iconst (v := 2) dX16_coupler_98 rfl ?_
                  refine t_callV (t := T_MODEL) (As := [_]) dX16_coupler_99 rfl rM_X16_fails (by decide) rfl rfl (by decide) (by decide) (Nat.le_of_ble_eq_true rfl) rfl (hp.1 _ rfl) (c_X16_fails hp ?_)
                  show s_w _ _ _ 102 _ _ _ _
                  exact w_ireturn dX16_coupler_102 ⟨rfl, kx0 hd hd2 (fun u => u.2.2 ⟨c90, c94⟩)⟩
        · refine w_op (pc' := 52) dX16_coupler_50 rfl ?_
          refine w_bipush (v := 109) dX16_coupler_52 rfl ?_
          refine w_icmpeq (t := 71) dX16_coupler_54 (by decide) (fun c54 => ?_) (fun c54 => ?_)
          · refine w_iconst (v := 1) dX16_coupler_71 rfl ?_
            refine w_goto (t := 76) dX16_coupler_72 (by decide) ?_
            refine w_op (pc' := 78) (ll' := [_, _, _, _, _, _, _]) dX16_coupler_76 rfl ?_
            refine w_op (pc' := 80) dX16_coupler_78 rfl ?_
            refine w_ifeq (t := 97) dX16_coupler_80 (by decide) (fun c80 => ?_) (fun c80 => ?_)
            · exact absurd c80 (by decide)
            · refine w_op (pc' := 85) dX16_coupler_83 rfl ?_
              refine w_ifeq (t := 97) dX16_coupler_85 (by decide) (fun c85 => ?_) (fun c85 => ?_)
              · exact absurd c85 (by decide)
              · refine w_op (pc' := 89) dX16_coupler_88 rfl ?_
                refine w_op (pc' := 90) dX16_coupler_89 rfl ?_
                refine w_icmpne (t := 103) dX16_coupler_90 (by decide) (fun c90 => ?_) (fun c90 => ?_)
                · exact l3_X16_coupler hG hX hL hc ha hN ht hd hd2 (Or.inl c23) (Or.inr (Or.inl c54)) (fun u => c90 u.1) k kx2
                · refine w_op (pc' := 94) dX16_coupler_93 rfl ?_
                  refine w_ifne (t := 103) dX16_coupler_94 (by decide) (fun c94 => ?_) (fun c94 => ?_)
                  · exact l3_X16_coupler hG hX hL hc ha hN ht hd hd2 (Or.inl c23) (Or.inr (Or.inl c54)) (fun u => c94 u.2) k kx2
                  · refine w_op (pc' := 98) dX16_coupler_97 rfl ?_
                    refine w_iconst (v := 2) dX16_coupler_98 rfl ?_
                    refine t_callV (t := T_MODEL) (As := [_]) dX16_coupler_99 rfl rM_X16_fails (by decide) rfl rfl (by decide) (by decide) (Nat.le_of_ble_eq_true rfl) rfl (hp.1 _ rfl) (c_X16_fails hp ?_)
                    show s_w _ _ _ 102 _ _ _ _
                    exact w_ireturn dX16_coupler_102 ⟨rfl, kx0 hd hd2 (fun u => u.2.2 ⟨c90, c94⟩)⟩
          · refine w_op (pc' := 59) dX16_coupler_57 rfl ?_
            refine w_bipush (v := 98) dX16_coupler_59 rfl ?_
            refine w_icmpeq (t := 71) dX16_coupler_61 (by decide) (fun c61 => ?_) (fun c61 => ?_)
            · refine w_iconst (v := 1) dX16_coupler_71 rfl ?_
              refine w_goto (t := 76) dX16_coupler_72 (by decide) ?_
              refine w_op (pc' := 78) (ll' := [_, _, _, _, _, _, _]) dX16_coupler_76 rfl ?_
              refine w_op (pc' := 80) dX16_coupler_78 rfl ?_
              refine w_ifeq (t := 97) dX16_coupler_80 (by decide) (fun c80 => ?_) (fun c80 => ?_)
              · exact absurd c80 (by decide)
              · refine w_op (pc' := 85) dX16_coupler_83 rfl ?_
                refine w_ifeq (t := 97) dX16_coupler_85 (by decide) (fun c85 => ?_) (fun c85 => ?_)
                · exact absurd c85 (by decide)
                · refine w_op (pc' := 89) dX16_coupler_88 rfl ?_
                  refine w_op (pc' := 90) dX16_coupler_89 rfl ?_
                  refine w_icmpne (t := 103) dX16_coupler_90 (by decide) (fun c90 => ?_) (fun c90 => ?_)
                  · exact l3_X16_coupler hG hX hL hc ha hN ht hd hd2 (Or.inl c23) (Or.inr (Or.inr (Or.inl c61))) (fun u => c90 u.1) k kx2
                  · refine w_op (pc' := 94) dX16_coupler_93 rfl ?_
                    refine w_ifne (t := 103) dX16_coupler_94 (by decide) (fun c94 => ?_) (fun c94 => ?_)
                    · exact l3_X16_coupler hG hX hL hc ha hN ht hd hd2 (Or.inl c23) (Or.inr (Or.inr (Or.inl c61))) (fun u => c94 u.2) k kx2
                    · refine w_op (pc' := 98) dX16_coupler_97 rfl ?_
                      refine w_iconst (v := 2) dX16_coupler_98 rfl ?_
                      refine t_callV (t := T_MODEL) (As := [_]) dX16_coupler_99 rfl rM_X16_fails (by decide) rfl rfl (by decide) (by decide) (Nat.le_of_ble_eq_true rfl) rfl (hp.1 _ rfl) (c_X16_fails hp ?_)
                      show s_w _ _ _ 102 _ _ _ _
                      exact w_ireturn dX16_coupler_102 ⟨rfl, kx0 hd hd2 (fun u => u.2.2 ⟨c90, c94⟩)⟩
            · refine w_op (pc' := 66) dX16_coupler_64 rfl ?_
              refine w_bipush (v := 112) dX16_coupler_66 rfl ?_
              refine w_icmpne (t := 75) dX16_coupler_68 (by decide) (fun c68 => ?_) (fun c68 => ?_)
              · refine w_iconst (v := 0) dX16_coupler_75 rfl ?_
                refine w_op (pc' := 78) (ll' := [_, _, _, _, _, _, _]) dX16_coupler_76 rfl ?_
                refine w_op (pc' := 80) dX16_coupler_78 rfl ?_
                refine w_ifeq (t := 97) dX16_coupler_80 (by decide) (fun c80 => ?_) (fun c80 => ?_)
                · exact absurd c80 (by decide)
                · refine w_op (pc' := 85) dX16_coupler_83 rfl ?_
                  refine w_ifeq (t := 97) dX16_coupler_85 (by decide) (fun c85 => ?_) (fun c85 => ?_)
                  · refine w_op (pc' := 98) dX16_coupler_97 rfl ?_
                    refine w_iconst (v := 2) dX16_coupler_98 rfl ?_
                    refine t_callV (t := T_MODEL) (As := [_]) dX16_coupler_99 rfl rM_X16_fails (by decide) rfl rfl (by decide) (by decide) (Nat.le_of_ble_eq_true rfl) rfl (hp.1 _ rfl) (c_X16_fails hp ?_)
                    show s_w _ _ _ 102 _ _ _ _
                    exact w_ireturn dX16_coupler_102 ⟨rfl, kx0 hd hd2 (fun u => u.2.1.elim c47 (fun u => u.elim c54 (fun u => u.elim c61 c68)))⟩
                  · exact absurd c85 (by decide)
              · refine w_iconst (v := 1) dX16_coupler_71 rfl ?_
                refine w_goto (t := 76) dX16_coupler_72 (by decide) ?_
                refine w_op (pc' := 78) (ll' := [_, _, _, _, _, _, _]) dX16_coupler_76 rfl ?_
                refine w_op (pc' := 80) dX16_coupler_78 rfl ?_
                refine w_ifeq (t := 97) dX16_coupler_80 (by decide) (fun c80 => ?_) (fun c80 => ?_)
                · exact absurd c80 (by decide)
                · refine w_op (pc' := 85) dX16_coupler_83 rfl ?_
                  refine w_ifeq (t := 97) dX16_coupler_85 (by decide) (fun c85 => ?_) (fun c85 => ?_)
                  · exact absurd c85 (by decide)
                  · refine w_op (pc' := 89) dX16_coupler_88 rfl ?_
                    refine w_op (pc' := 90) dX16_coupler_89 rfl ?_
                    refine w_icmpne (t := 103) dX16_coupler_90 (by decide) (fun c90 => ?_) (fun c90 => ?_)
                    · exact l3_X16_coupler hG hX hL hc ha hN ht hd hd2 (Or.inl c23) (Or.inr (Or.inr (Or.inr c68))) (fun u => c90 u.1) k kx2
                    · refine w_op (pc' := 94) dX16_coupler_93 rfl ?_
                      refine w_ifne (t := 103) dX16_coupler_94 (by decide) (fun c94 => ?_) (fun c94 => ?_)
                      · exact l3_X16_coupler hG hX hL hc ha hN ht hd hd2 (Or.inl c23) (Or.inr (Or.inr (Or.inr c68))) (fun u => c94 u.2) k kx2
                      · refine w_op (pc' := 98) dX16_coupler_97 rfl ?_
                        refine w_iconst (v := 2) dX16_coupler_98 rfl ?_
                        refine t_callV (t := T_MODEL) (As := [_]) dX16_coupler_99 rfl rM_X16_fails (by decide) rfl rfl (by decide) (by decide) (Nat.le_of_ble_eq_true rfl) rfl (hp.1 _ rfl) (c_X16_fails hp ?_)
                        show s_w _ _ _ 102 _ _ _ _
                        exact w_ireturn dX16_coupler_102 ⟨rfl, kx0 hd hd2 (fun u => u.2.2 ⟨c90, c94⟩)⟩
      · refine w_op (pc' := 27) dX16_coupler_26 rfl ?_
        refine w_ifeq (t := 36) dX16_coupler_27 (by decide) (fun c27 => ?_) (fun c27 => ?_)
        · refine w_iconst (v := 1) dX16_coupler_36 rfl ?_
          refine w_goto (t := 41) dX16_coupler_37 (by decide) ?_
          refine w_op (pc' := 43) (ll' := [_, _, _, _, _, _, _]) dX16_coupler_41 rfl ?_
          refine w_op (pc' := 45) dX16_coupler_43 rfl ?_
          refine w_bipush (v := 97) dX16_coupler_45 rfl ?_
          refine w_icmpeq (t := 71) dX16_coupler_47 (by decide) (fun c47 => ?_) (fun c47 => ?_)
          · refine w_iconst (v := 1) dX16_coupler_71 rfl ?_
            refine w_goto (t := 76) dX16_coupler_72 (by decide) ?_
            refine w_op (pc' := 78) (ll' := [_, _, _, _, _, _, _]) dX16_coupler_76 rfl ?_
            refine w_op (pc' := 80) dX16_coupler_78 rfl ?_
            refine w_ifeq (t := 97) dX16_coupler_80 (by decide) (fun c80 => ?_) (fun c80 => ?_)
            · exact absurd c80 (by decide)
            · refine w_op (pc' := 85) dX16_coupler_83 rfl ?_
              refine w_ifeq (t := 97) dX16_coupler_85 (by decide) (fun c85 => ?_) (fun c85 => ?_)
              · exact absurd c85 (by decide)
              · refine w_op (pc' := 89) dX16_coupler_88 rfl ?_
                refine w_op (pc' := 90) dX16_coupler_89 rfl ?_
                refine w_icmpne (t := 103) dX16_coupler_90 (by decide) (fun c90 => ?_) (fun c90 => ?_)
                · exact l3_X16_coupler hG hX hL hc ha hN ht hd hd2 (Or.inr (Or.inl c27)) (Or.inl c47) (fun u => c90 u.1) k kx2
                · refine w_op (pc' := 94) dX16_coupler_93 rfl ?_
                  refine w_ifne (t := 103) dX16_coupler_94 (by decide) (fun c94 => ?_) (fun c94 => ?_)
                  · exact l3_X16_coupler hG hX hL hc ha hN ht hd hd2 (Or.inr (Or.inl c27)) (Or.inl c47) (fun u => c94 u.2) k kx2
                  · refine w_op (pc' := 98) dX16_coupler_97 rfl ?_
                    refine w_iconst (v := 2) dX16_coupler_98 rfl ?_
                    refine t_callV (t := T_MODEL) (As := [_]) dX16_coupler_99 rfl rM_X16_fails (by decide) rfl rfl (by decide) (by decide) (Nat.le_of_ble_eq_true rfl) rfl (hp.1 _ rfl) (c_X16_fails hp ?_)
                    show s_w _ _ _ 102 _ _ _ _
                    exact w_ireturn dX16_coupler_102 ⟨rfl, kx0 hd hd2 (fun u => u.2.2 ⟨c90, c94⟩)⟩
          · refine w_op (pc' := 52) dX16_coupler_50 rfl ?_
            refine w_bipush (v := 109) dX16_coupler_52 rfl ?_
            refine w_icmpeq (t := 71) dX16_coupler_54 (by decide) (fun c54 => ?_) (fun c54 => ?_)
            · refine w_iconst (v := 1) dX16_coupler_71 rfl ?_
              refine w_goto (t := 76) dX16_coupler_72 (by decide) ?_
              refine w_op (pc' := 78) (ll' := [_, _, _, _, _, _, _]) dX16_coupler_76 rfl ?_
              refine w_op (pc' := 80) dX16_coupler_78 rfl ?_
              refine w_ifeq (t := 97) dX16_coupler_80 (by decide) (fun c80 => ?_) (fun c80 => ?_)
              · exact absurd c80 (by decide)
              · refine w_op (pc' := 85) dX16_coupler_83 rfl ?_
                refine w_ifeq (t := 97) dX16_coupler_85 (by decide) (fun c85 => ?_) (fun c85 => ?_)
                · exact absurd c85 (by decide)
                · refine w_op (pc' := 89) dX16_coupler_88 rfl ?_
                  refine w_op (pc' := 90) dX16_coupler_89 rfl ?_
                  refine w_icmpne (t := 103) dX16_coupler_90 (by decide) (fun c90 => ?_) (fun c90 => ?_)
                  · exact l3_X16_coupler hG hX hL hc ha hN ht hd hd2 (Or.inr (Or.inl c27)) (Or.inr (Or.inl c54)) (fun u => c90 u.1) k kx2
                  · refine w_op (pc' := 94) dX16_coupler_93 rfl ?_
                    refine w_ifne (t := 103) dX16_coupler_94 (by decide) (fun c94 => ?_) (fun c94 => ?_)
                    · exact l3_X16_coupler hG hX hL hc ha hN ht hd hd2 (Or.inr (Or.inl c27)) (Or.inr (Or.inl c54)) (fun u => c94 u.2) k kx2
                    · refine w_op (pc' := 98) dX16_coupler_97 rfl ?_
                      refine w_iconst (v := 2) dX16_coupler_98 rfl ?_
                      refine t_callV (t := T_MODEL) (As := [_]) dX16_coupler_99 rfl rM_X16_fails (by decide) rfl rfl (by decide) (by decide) (Nat.le_of_ble_eq_true rfl) rfl (hp.1 _ rfl) (c_X16_fails hp ?_)
                      show s_w _ _ _ 102 _ _ _ _
                      exact w_ireturn dX16_coupler_102 ⟨rfl, kx0 hd hd2 (fun u => u.2.2 ⟨c90, c94⟩)⟩
            · refine w_op (pc' := 59) dX16_coupler_57 rfl ?_
              refine w_bipush (v := 98) dX16_coupler_59 rfl ?_
              refine w_icmpeq (t := 71) dX16_coupler_61 (by decide) (fun c61 => ?_) (fun c61 => ?_)
              · refine w_iconst (v := 1) dX16_coupler_71 rfl ?_
                refine w_goto (t := 76) dX16_coupler_72 (by decide) ?_
                refine w_op (pc' := 78) (ll' := [_, _, _, _, _, _, _]) dX16_coupler_76 rfl ?_
                refine w_op (pc' := 80) dX16_coupler_78 rfl ?_
                refine w_ifeq (t := 97) dX16_coupler_80 (by decide) (fun c80 => ?_) (fun c80 => ?_)
                · exact absurd c80 (by decide)
                · refine w_op (pc' := 85) dX16_coupler_83 rfl ?_
                  refine w_ifeq (t := 97) dX16_coupler_85 (by decide) (fun c85 => ?_) (fun c85 => ?_)
                  · exact absurd c85 (by decide)
                  · refine w_op (pc' := 89) dX16_coupler_88 rfl ?_
                    refine w_op (pc' := 90) dX16_coupler_89 rfl ?_
                    refine w_icmpne (t := 103) dX16_coupler_90 (by decide) (fun c90 => ?_) (fun c90 => ?_)
                    · exact l3_X16_coupler hG hX hL hc ha hN ht hd hd2 (Or.inr (Or.inl c27)) (Or.inr (Or.inr (Or.inl c61))) (fun u => c90 u.1) k kx2
                    · refine w_op (pc' := 94) dX16_coupler_93 rfl ?_
                      refine w_ifne (t := 103) dX16_coupler_94 (by decide) (fun c94 => ?_) (fun c94 => ?_)
                      · exact l3_X16_coupler hG hX hL hc ha hN ht hd hd2 (Or.inr (Or.inl c27)) (Or.inr (Or.inr (Or.inl c61))) (fun u => c94 u.2) k kx2
                      · refine w_op (pc' := 98) dX16_coupler_97 rfl ?_
                        refine w_iconst (v := 2) dX16_coupler_98 rfl ?_
                        refine t_callV (t := T_MODEL) (As := [_]) dX16_coupler_99 rfl rM_X16_fails (by decide) rfl rfl (by decide) (by decide) (Nat.le_of_ble_eq_true rfl) rfl (hp.1 _ rfl) (c_X16_fails hp ?_)
                        show s_w _ _ _ 102 _ _ _ _
                        exact w_ireturn dX16_coupler_102 ⟨rfl, kx0 hd hd2 (fun u => u.2.2 ⟨c90, c94⟩)⟩
              · refine w_op (pc' := 66) dX16_coupler_64 rfl ?_
                refine w_bipush (v := 112) dX16_coupler_66 rfl ?_
                refine w_icmpne (t := 75) dX16_coupler_68 (by decide) (fun c68 => ?_) (fun c68 => ?_)
                · refine w_iconst (v := 0) dX16_coupler_75 rfl ?_
                  refine w_op (pc' := 78) (ll' := [_, _, _, _, _, _, _]) dX16_coupler_76 rfl ?_
                  refine w_op (pc' := 80) dX16_coupler_78 rfl ?_
                  refine w_ifeq (t := 97) dX16_coupler_80 (by decide) (fun c80 => ?_) (fun c80 => ?_)
                  · exact absurd c80 (by decide)
                  · refine w_op (pc' := 85) dX16_coupler_83 rfl ?_
                    refine w_ifeq (t := 97) dX16_coupler_85 (by decide) (fun c85 => ?_) (fun c85 => ?_)
                    · refine w_op (pc' := 98) dX16_coupler_97 rfl ?_
                      refine w_iconst (v := 2) dX16_coupler_98 rfl ?_
                      refine t_callV (t := T_MODEL) (As := [_]) dX16_coupler_99 rfl rM_X16_fails (by decide) rfl rfl (by decide) (by decide) (Nat.le_of_ble_eq_true rfl) rfl (hp.1 _ rfl) (c_X16_fails hp ?_)
                      show s_w _ _ _ 102 _ _ _ _
                      exact w_ireturn dX16_coupler_102 ⟨rfl, kx0 hd hd2 (fun u => u.2.1.elim c47 (fun u => u.elim c54 (fun u => u.elim c61 c68)))⟩
                    · exact absurd c85 (by decide)
                · refine w_iconst (v := 1) dX16_coupler_71 rfl ?_
                  refine w_goto (t := 76) dX16_coupler_72 (by decide) ?_
                  refine w_op (pc' := 78) (ll' := [_, _, _, _, _, _, _]) dX16_coupler_76 rfl ?_
                  refine w_op (pc' := 80) dX16_coupler_78 rfl ?_
                  refine w_ifeq (t := 97) dX16_coupler_80 (by decide) (fun c80 => ?_) (fun c80 => ?_)
                  · exact absurd c80 (by decide)
                  · refine w_op (pc' := 85) dX16_coupler_83 rfl ?_
                    refine w_ifeq (t := 97) dX16_coupler_85 (by decide) (fun c85 => ?_) (fun c85 => ?_)
                    · exact absurd c85 (by decide)
                    · refine w_op (pc' := 89) dX16_coupler_88 rfl ?_
                      refine w_op (pc' := 90) dX16_coupler_89 rfl ?_
                      refine w_icmpne (t := 103) dX16_coupler_90 (by decide) (fun c90 => ?_) (fun c90 => ?_)
                      · exact l3_X16_coupler hG hX hL hc ha hN ht hd hd2 (Or.inr (Or.inl c27)) (Or.inr (Or.inr (Or.inr c68))) (fun u => c90 u.1) k kx2
                      · refine w_op (pc' := 94) dX16_coupler_93 rfl ?_
                        refine w_ifne (t := 103) dX16_coupler_94 (by decide) (fun c94 => ?_) (fun c94 => ?_)
                        · exact l3_X16_coupler hG hX hL hc ha hN ht hd hd2 (Or.inr (Or.inl c27)) (Or.inr (Or.inr (Or.inr c68))) (fun u => c94 u.2) k kx2
                        · refine w_op (pc' := 98) dX16_coupler_97 rfl ?_
                          refine w_iconst (v := 2) dX16_coupler_98 rfl ?_
                          refine t_callV (t := T_MODEL) (As := [_]) dX16_coupler_99 rfl rM_X16_fails (by decide) rfl rfl (by decide) (by decide) (Nat.le_of_ble_eq_true rfl) rfl (hp.1 _ rfl) (c_X16_fails hp ?_)
                          show s_w _ _ _ 102 _ _ _ _
                          exact w_ireturn dX16_coupler_102 ⟨rfl, kx0 hd hd2 (fun u => u.2.2 ⟨c90, c94⟩)⟩
        · refine w_op (pc' := 31) dX16_coupler_30 rfl ?_
          refine w_bipush (v := 12) dX16_coupler_31 rfl ?_
          refine w_icmpne (t := 40) dX16_coupler_33 (by decide) (fun c33 => ?_) (fun c33 => ?_)
          · refine w_iconst (v := 0) dX16_coupler_40 rfl ?_
            refine w_op (pc' := 43) (ll' := [_, _, _, _, _, _, _]) dX16_coupler_41 rfl ?_
            refine w_op (pc' := 45) dX16_coupler_43 rfl ?_
            refine w_bipush (v := 97) dX16_coupler_45 rfl ?_
            refine w_icmpeq (t := 71) dX16_coupler_47 (by decide) (fun c47 => ?_) (fun c47 => ?_)
            · refine w_iconst (v := 1) dX16_coupler_71 rfl ?_
              refine w_goto (t := 76) dX16_coupler_72 (by decide) ?_
              refine w_op (pc' := 78) (ll' := [_, _, _, _, _, _, _]) dX16_coupler_76 rfl ?_
              refine w_op (pc' := 80) dX16_coupler_78 rfl ?_
              refine w_ifeq (t := 97) dX16_coupler_80 (by decide) (fun c80 => ?_) (fun c80 => ?_)
              · refine w_op (pc' := 98) dX16_coupler_97 rfl ?_
                refine w_iconst (v := 2) dX16_coupler_98 rfl ?_
                refine t_callV (t := T_MODEL) (As := [_]) dX16_coupler_99 rfl rM_X16_fails (by decide) rfl rfl (by decide) (by decide) (Nat.le_of_ble_eq_true rfl) rfl (hp.1 _ rfl) (c_X16_fails hp ?_)
                show s_w _ _ _ 102 _ _ _ _
                exact w_ireturn dX16_coupler_102 ⟨rfl, kx0 hd hd2 (fun u => u.1.elim c23 (fun u => u.elim c27 c33))⟩
              · exact absurd c80 (by decide)
            · refine w_op (pc' := 52) dX16_coupler_50 rfl ?_
              refine w_bipush (v := 109) dX16_coupler_52 rfl ?_
              refine w_icmpeq (t := 71) dX16_coupler_54 (by decide) (fun c54 => ?_) (fun c54 => ?_)
              · refine w_iconst (v := 1) dX16_coupler_71 rfl ?_
                refine w_goto (t := 76) dX16_coupler_72 (by decide) ?_
                refine w_op (pc' := 78) (ll' := [_, _, _, _, _, _, _]) dX16_coupler_76 rfl ?_
                refine w_op (pc' := 80) dX16_coupler_78 rfl ?_
                refine w_ifeq (t := 97) dX16_coupler_80 (by decide) (fun c80 => ?_) (fun c80 => ?_)
                · refine w_op (pc' := 98) dX16_coupler_97 rfl ?_
                  refine w_iconst (v := 2) dX16_coupler_98 rfl ?_
                  refine t_callV (t := T_MODEL) (As := [_]) dX16_coupler_99 rfl rM_X16_fails (by decide) rfl rfl (by decide) (by decide) (Nat.le_of_ble_eq_true rfl) rfl (hp.1 _ rfl) (c_X16_fails hp ?_)
                  show s_w _ _ _ 102 _ _ _ _
                  exact w_ireturn dX16_coupler_102 ⟨rfl, kx0 hd hd2 (fun u => u.1.elim c23 (fun u => u.elim c27 c33))⟩
                · exact absurd c80 (by decide)
              · refine w_op (pc' := 59) dX16_coupler_57 rfl ?_
                refine w_bipush (v := 98) dX16_coupler_59 rfl ?_
                refine w_icmpeq (t := 71) dX16_coupler_61 (by decide) (fun c61 => ?_) (fun c61 => ?_)
                · refine w_iconst (v := 1) dX16_coupler_71 rfl ?_
                  refine w_goto (t := 76) dX16_coupler_72 (by decide) ?_
                  refine w_op (pc' := 78) (ll' := [_, _, _, _, _, _, _]) dX16_coupler_76 rfl ?_
                  refine w_op (pc' := 80) dX16_coupler_78 rfl ?_
                  refine w_ifeq (t := 97) dX16_coupler_80 (by decide) (fun c80 => ?_) (fun c80 => ?_)
                  · refine w_op (pc' := 98) dX16_coupler_97 rfl ?_
                    refine w_iconst (v := 2) dX16_coupler_98 rfl ?_
                    refine t_callV (t := T_MODEL) (As := [_]) dX16_coupler_99 rfl rM_X16_fails (by decide) rfl rfl (by decide) (by decide) (Nat.le_of_ble_eq_true rfl) rfl (hp.1 _ rfl) (c_X16_fails hp ?_)
                    show s_w _ _ _ 102 _ _ _ _
                    exact w_ireturn dX16_coupler_102 ⟨rfl, kx0 hd hd2 (fun u => u.1.elim c23 (fun u => u.elim c27 c33))⟩
                  · exact absurd c80 (by decide)
                · refine w_op (pc' := 66) dX16_coupler_64 rfl ?_
                  refine w_bipush (v := 112) dX16_coupler_66 rfl ?_
                  refine w_icmpne (t := 75) dX16_coupler_68 (by decide) (fun c68 => ?_) (fun c68 => ?_)
                  · refine w_iconst (v := 0) dX16_coupler_75 rfl ?_
                    refine w_op (pc' := 78) (ll' := [_, _, _, _, _, _, _]) dX16_coupler_76 rfl ?_
                    refine w_op (pc' := 80) dX16_coupler_78 rfl ?_
                    refine w_ifeq (t := 97) dX16_coupler_80 (by decide) (fun c80 => ?_) (fun c80 => ?_)
                    · refine w_op (pc' := 98) dX16_coupler_97 rfl ?_
                      refine w_iconst (v := 2) dX16_coupler_98 rfl ?_
                      refine t_callV (t := T_MODEL) (As := [_]) dX16_coupler_99 rfl rM_X16_fails (by decide) rfl rfl (by decide) (by decide) (Nat.le_of_ble_eq_true rfl) rfl (hp.1 _ rfl) (c_X16_fails hp ?_)
                      show s_w _ _ _ 102 _ _ _ _
                      exact w_ireturn dX16_coupler_102 ⟨rfl, kx0 hd hd2 (fun u => u.1.elim c23 (fun u => u.elim c27 c33))⟩
                    · exact absurd c80 (by decide)
                  · refine w_iconst (v := 1) dX16_coupler_71 rfl ?_
                    refine w_goto (t := 76) dX16_coupler_72 (by decide) ?_
                    refine w_op (pc' := 78) (ll' := [_, _, _, _, _, _, _]) dX16_coupler_76 rfl ?_
                    refine w_op (pc' := 80) dX16_coupler_78 rfl ?_
                    refine w_ifeq (t := 97) dX16_coupler_80 (by decide) (fun c80 => ?_) (fun c80 => ?_)
                    · refine w_op (pc' := 98) dX16_coupler_97 rfl ?_
                      refine w_iconst (v := 2) dX16_coupler_98 rfl ?_
                      refine t_callV (t := T_MODEL) (As := [_]) dX16_coupler_99 rfl rM_X16_fails (by decide) rfl rfl (by decide) (by decide) (Nat.le_of_ble_eq_true rfl) rfl (hp.1 _ rfl) (c_X16_fails hp ?_)
                      show s_w _ _ _ 102 _ _ _ _
                      exact w_ireturn dX16_coupler_102 ⟨rfl, kx0 hd hd2 (fun u => u.1.elim c23 (fun u => u.elim c27 c33))⟩
                    · exact absurd c80 (by decide)
          · refine w_iconst (v := 1) dX16_coupler_36 rfl ?_
            refine w_goto (t := 41) dX16_coupler_37 (by decide) ?_
            refine w_op (pc' := 43) (ll' := [_, _, _, _, _, _, _]) dX16_coupler_41 rfl ?_
            refine w_op (pc' := 45) dX16_coupler_43 rfl ?_
            refine w_bipush (v := 97) dX16_coupler_45 rfl ?_
            refine w_icmpeq (t := 71) dX16_coupler_47 (by decide) (fun c47 => ?_) (fun c47 => ?_)
            · refine w_iconst (v := 1) dX16_coupler_71 rfl ?_
              refine w_goto (t := 76) dX16_coupler_72 (by decide) ?_
              refine w_op (pc' := 78) (ll' := [_, _, _, _, _, _, _]) dX16_coupler_76 rfl ?_
              refine w_op (pc' := 80) dX16_coupler_78 rfl ?_
              refine w_ifeq (t := 97) dX16_coupler_80 (by decide) (fun c80 => ?_) (fun c80 => ?_)
              · exact absurd c80 (by decide)
              · refine w_op (pc' := 85) dX16_coupler_83 rfl ?_
                refine w_ifeq (t := 97) dX16_coupler_85 (by decide) (fun c85 => ?_) (fun c85 => ?_)
                · exact absurd c85 (by decide)
                · refine w_op (pc' := 89) dX16_coupler_88 rfl ?_
                  refine w_op (pc' := 90) dX16_coupler_89 rfl ?_
                  refine w_icmpne (t := 103) dX16_coupler_90 (by decide) (fun c90 => ?_) (fun c90 => ?_)
                  · exact l3_X16_coupler hG hX hL hc ha hN ht hd hd2 (Or.inr (Or.inr c33)) (Or.inl c47) (fun u => c90 u.1) k kx2
                  · refine w_op (pc' := 94) dX16_coupler_93 rfl ?_
                    refine w_ifne (t := 103) dX16_coupler_94 (by decide) (fun c94 => ?_) (fun c94 => ?_)
                    · exact l3_X16_coupler hG hX hL hc ha hN ht hd hd2 (Or.inr (Or.inr c33)) (Or.inl c47) (fun u => c94 u.2) k kx2
                    · refine w_op (pc' := 98) dX16_coupler_97 rfl ?_
                      refine w_iconst (v := 2) dX16_coupler_98 rfl ?_
                      refine t_callV (t := T_MODEL) (As := [_]) dX16_coupler_99 rfl rM_X16_fails (by decide) rfl rfl (by decide) (by decide) (Nat.le_of_ble_eq_true rfl) rfl (hp.1 _ rfl) (c_X16_fails hp ?_)
                      show s_w _ _ _ 102 _ _ _ _
                      exact w_ireturn dX16_coupler_102 ⟨rfl, kx0 hd hd2 (fun u => u.2.2 ⟨c90, c94⟩)⟩
            · refine w_op (pc' := 52) dX16_coupler_50 rfl ?_
              refine w_bipush (v := 109) dX16_coupler_52 rfl ?_
              refine w_icmpeq (t := 71) dX16_coupler_54 (by decide) (fun c54 => ?_) (fun c54 => ?_)
              · refine w_iconst (v := 1) dX16_coupler_71 rfl ?_
                refine w_goto (t := 76) dX16_coupler_72 (by decide) ?_
                refine w_op (pc' := 78) (ll' := [_, _, _, _, _, _, _]) dX16_coupler_76 rfl ?_
                refine w_op (pc' := 80) dX16_coupler_78 rfl ?_
                refine w_ifeq (t := 97) dX16_coupler_80 (by decide) (fun c80 => ?_) (fun c80 => ?_)
                · exact absurd c80 (by decide)
                · refine w_op (pc' := 85) dX16_coupler_83 rfl ?_
                  refine w_ifeq (t := 97) dX16_coupler_85 (by decide) (fun c85 => ?_) (fun c85 => ?_)
                  · exact absurd c85 (by decide)
                  · refine w_op (pc' := 89) dX16_coupler_88 rfl ?_
                    refine w_op (pc' := 90) dX16_coupler_89 rfl ?_
                    refine w_icmpne (t := 103) dX16_coupler_90 (by decide) (fun c90 => ?_) (fun c90 => ?_)
                    · exact l3_X16_coupler hG hX hL hc ha hN ht hd hd2 (Or.inr (Or.inr c33)) (Or.inr (Or.inl c54)) (fun u => c90 u.1) k kx2
                    · refine w_op (pc' := 94) dX16_coupler_93 rfl ?_
                      refine w_ifne (t := 103) dX16_coupler_94 (by decide) (fun c94 => ?_) (fun c94 => ?_)
                      · exact l3_X16_coupler hG hX hL hc ha hN ht hd hd2 (Or.inr (Or.inr c33)) (Or.inr (Or.inl c54)) (fun u => c94 u.2) k kx2
                      · refine w_op (pc' := 98) dX16_coupler_97 rfl ?_
                        refine w_iconst (v := 2) dX16_coupler_98 rfl ?_
                        refine t_callV (t := T_MODEL) (As := [_]) dX16_coupler_99 rfl rM_X16_fails (by decide) rfl rfl (by decide) (by decide) (Nat.le_of_ble_eq_true rfl) rfl (hp.1 _ rfl) (c_X16_fails hp ?_)
                        show s_w _ _ _ 102 _ _ _ _
                        exact w_ireturn dX16_coupler_102 ⟨rfl, kx0 hd hd2 (fun u => u.2.2 ⟨c90, c94⟩)⟩
              · refine w_op (pc' := 59) dX16_coupler_57 rfl ?_
                refine w_bipush (v := 98) dX16_coupler_59 rfl ?_
                refine w_icmpeq (t := 71) dX16_coupler_61 (by decide) (fun c61 => ?_) (fun c61 => ?_)
                · refine w_iconst (v := 1) dX16_coupler_71 rfl ?_
                  refine w_goto (t := 76) dX16_coupler_72 (by decide) ?_
                  refine w_op (pc' := 78) (ll' := [_, _, _, _, _, _, _]) dX16_coupler_76 rfl ?_
                  refine w_op (pc' := 80) dX16_coupler_78 rfl ?_
                  refine w_ifeq (t := 97) dX16_coupler_80 (by decide) (fun c80 => ?_) (fun c80 => ?_)
                  · exact absurd c80 (by decide)
                  · refine w_op (pc' := 85) dX16_coupler_83 rfl ?_
                    refine w_ifeq (t := 97) dX16_coupler_85 (by decide) (fun c85 => ?_) (fun c85 => ?_)
                    · exact absurd c85 (by decide)
                    · refine w_op (pc' := 89) dX16_coupler_88 rfl ?_
                      refine w_op (pc' := 90) dX16_coupler_89 rfl ?_
                      refine w_icmpne (t := 103) dX16_coupler_90 (by decide) (fun c90 => ?_) (fun c90 => ?_)
                      · exact l3_X16_coupler hG hX hL hc ha hN ht hd hd2 (Or.inr (Or.inr c33)) (Or.inr (Or.inr (Or.inl c61))) (fun u => c90 u.1) k kx2
                      · refine w_op (pc' := 94) dX16_coupler_93 rfl ?_
                        refine w_ifne (t := 103) dX16_coupler_94 (by decide) (fun c94 => ?_) (fun c94 => ?_)
                        · exact l3_X16_coupler hG hX hL hc ha hN ht hd hd2 (Or.inr (Or.inr c33)) (Or.inr (Or.inr (Or.inl c61))) (fun u => c94 u.2) k kx2
                        · refine w_op (pc' := 98) dX16_coupler_97 rfl ?_
                          refine w_iconst (v := 2) dX16_coupler_98 rfl ?_
                          refine t_callV (t := T_MODEL) (As := [_]) dX16_coupler_99 rfl rM_X16_fails (by decide) rfl rfl (by decide) (by decide) (Nat.le_of_ble_eq_true rfl) rfl (hp.1 _ rfl) (c_X16_fails hp ?_)
                          show s_w _ _ _ 102 _ _ _ _
                          exact w_ireturn dX16_coupler_102 ⟨rfl, kx0 hd hd2 (fun u => u.2.2 ⟨c90, c94⟩)⟩
                · refine w_op (pc' := 66) dX16_coupler_64 rfl ?_
                  refine w_bipush (v := 112) dX16_coupler_66 rfl ?_
                  refine w_icmpne (t := 75) dX16_coupler_68 (by decide) (fun c68 => ?_) (fun c68 => ?_)
                  · refine w_iconst (v := 0) dX16_coupler_75 rfl ?_
                    refine w_op (pc' := 78) (ll' := [_, _, _, _, _, _, _]) dX16_coupler_76 rfl ?_
                    refine w_op (pc' := 80) dX16_coupler_78 rfl ?_
                    refine w_ifeq (t := 97) dX16_coupler_80 (by decide) (fun c80 => ?_) (fun c80 => ?_)
                    · exact absurd c80 (by decide)
                    · refine w_op (pc' := 85) dX16_coupler_83 rfl ?_
                      refine w_ifeq (t := 97) dX16_coupler_85 (by decide) (fun c85 => ?_) (fun c85 => ?_)
                      · refine w_op (pc' := 98) dX16_coupler_97 rfl ?_
                        refine w_iconst (v := 2) dX16_coupler_98 rfl ?_
                        refine t_callV (t := T_MODEL) (As := [_]) dX16_coupler_99 rfl rM_X16_fails (by decide) rfl rfl (by decide) (by decide) (Nat.le_of_ble_eq_true rfl) rfl (hp.1 _ rfl) (c_X16_fails hp ?_)
                        show s_w _ _ _ 102 _ _ _ _
                        exact w_ireturn dX16_coupler_102 ⟨rfl, kx0 hd hd2 (fun u => u.2.1.elim c47 (fun u => u.elim c54 (fun u => u.elim c61 c68)))⟩
                      · exact absurd c85 (by decide)
                  · refine w_iconst (v := 1) dX16_coupler_71 rfl ?_
                    refine w_goto (t := 76) dX16_coupler_72 (by decide) ?_
                    refine w_op (pc' := 78) (ll' := [_, _, _, _, _, _, _]) dX16_coupler_76 rfl ?_
                    refine w_op (pc' := 80) dX16_coupler_78 rfl ?_
                    refine w_ifeq (t := 97) dX16_coupler_80 (by decide) (fun c80 => ?_) (fun c80 => ?_)
                    · exact absurd c80 (by decide)
                    · refine w_op (pc' := 85) dX16_coupler_83 rfl ?_
                      refine w_ifeq (t := 97) dX16_coupler_85 (by decide) (fun c85 => ?_) (fun c85 => ?_)
                      · exact absurd c85 (by decide)
                      · refine w_op (pc' := 89) dX16_coupler_88 rfl ?_
                        refine w_op (pc' := 90) dX16_coupler_89 rfl ?_
                        refine w_icmpne (t := 103) dX16_coupler_90 (by decide) (fun c90 => ?_) (fun c90 => ?_)
                        · exact l3_X16_coupler hG hX hL hc ha hN ht hd hd2 (Or.inr (Or.inr c33)) (Or.inr (Or.inr (Or.inr c68))) (fun u => c90 u.1) k kx2
                        · refine w_op (pc' := 94) dX16_coupler_93 rfl ?_
                          refine w_ifne (t := 103) dX16_coupler_94 (by decide) (fun c94 => ?_) (fun c94 => ?_)
                          · exact l3_X16_coupler hG hX hL hc ha hN ht hd hd2 (Or.inr (Or.inr c33)) (Or.inr (Or.inr (Or.inr c68))) (fun u => c94 u.2) k kx2
                          · refine w_op (pc' := 98) dX16_coupler_97 rfl ?_
                            refine w_iconst (v := 2) dX16_coupler_98 rfl ?_
                            refine t_callV (t := T_MODEL) (As := [_]) dX16_coupler_99 rfl rM_X16_fails (by decide) rfl rfl (by decide) (by decide) (Nat.le_of_ble_eq_true rfl) rfl (hp.1 _ rfl) (c_X16_fails hp ?_)
                            show s_w _ _ _ 102 _ _ _ _
                            exact w_ireturn dX16_coupler_102 ⟨rfl, kx0 hd hd2 (fun u => u.2.2 ⟨c90, c94⟩)⟩
    · refine w_op (pc' := 15) dX16_coupler_14 rfl ?_
      refine w_iconst (v := 1) dX16_coupler_15 rfl ?_
      refine t_callV (t := T_MODEL) (As := [_]) dX16_coupler_16 rfl rM_X16_fails (by decide) rfl rfl (by decide) (by decide) (Nat.le_of_ble_eq_true rfl) rfl (hp.1 _ rfl) (c_X16_fails hp ?_)
      show s_w _ _ _ 19 _ _ _ _
      exact w_ireturn dX16_coupler_19 ⟨rfl, kx (fun u => (of_decide_eq_false (bI_0.mp c11)) u.2)⟩

