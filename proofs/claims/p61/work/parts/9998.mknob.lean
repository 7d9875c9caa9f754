/-! 9998: knobs of the second implementation are made (printed by wip/whole/p9998.py) -/
/-- the rows of a knob: n keys are wired -/
def q_mw (I : e_I) (j n : Nat) : e_I := fun F m => if F = f_mk_wires ∧ m / 61 = j then (if m % 61 < n then nI (m % 61) else 0) else if (F = f_mk_ranks ∨ F = f_mk_offsets ∨ F = f_mk_froms ∨ F = f_mk_tos) ∧ m / 4 = j then 0 else I F m
theorem q_mw_F {I : e_I} {j n F : Nat} (h : [f_mk_wires, f_mk_ranks, f_mk_offsets, f_mk_froms, f_mk_tos].contains F = false) : q_mw I j n F = I F := by
  funext i
  have h1 : ∀ F', F' ∈ [f_mk_wires, f_mk_ranks, f_mk_offsets, f_mk_froms, f_mk_tos] → F ≠ F' := fun F' hF' z => by rw [z, List.contains_iff_mem.mpr hF'] at h; cases h
  unfold q_mw
  rw [if_neg (fun z => h1 f_mk_wires (by decide) z.1), if_neg (fun z => z.1.elim (h1 f_mk_ranks (by decide)) (fun z => z.elim (h1 f_mk_offsets (by decide)) (fun z => z.elim (h1 f_mk_froms (by decide)) (h1 f_mk_tos (by decide)))))]
theorem q_L.v {p p' : e_Sp} {I I' : e_I} {c : Nat × Nat} {a b n x y : Nat} (h : q_L p I c a b n) (h1 : p'.2.1 T_MKEPT = p.2.1 T_MKEPT) (h2 : p'.2.1 T_LIST 4 = p.2.1 T_LIST 4) (h3 : p'.1 T_LARR 4 = p.1 T_LARR 4 ∧ p'.2.1 T_LARR 4 = p.2.1 T_LARR 4 ∧ p'.2.2.1 T_LARR 4 = p.2.2.1 T_LARR 4) (e : I' f_l_size 4 = I f_l_size 4) : q_L p' I' (c.1 + x, c.2 + y) (a + x) (b + y) n := by
  obtain ⟨g1, g2, g3, g, g4, g5, g6, g7⟩ := h
  have e9 : q_cp p' = q_cp p := by unfold q_cp; rw [h3.2.1, h3.2.2]
  exact ⟨g1.x4 h2 h3 e, by rw [h1]; exact g2, by rw [h3.1, e9]; exact g3, g, by rw [e9]; exact g4, by show c.1 + x = _; omega, by show c.2 + y = _; omega, by omega⟩
/-- a shape with other places N; what was recorded stays -/
theorem q_D.v {N : Nat → Nat → Bool} {p p' : e_Sp} {I : e_I} {nk nr np : Nat} (h : q_D p I nk nr np) (x : s_xv N p p') (h1 : ∀ t, s_sg t = true → N t 0 = false) (h2 : ∀ l, l < 12 → N T_LIST l = false) (h3 : ∀ k, k < nk → N T_MKNOB k = false ∧ ∀ t, t ∈ q_kT → N t k = false) (h4 : ∀ r, r < nr → N T_MRANK r = false) : q_D p' I nk nr np := by
  obtain ⟨⟨a1, a2⟩, b1, b2, b3, b4, b5, b6⟩ := h
  refine ⟨⟨fun t ht => (x.1 t 0 (h1 t ht)).2.1.trans (a1 t ht), fun l hl => (x.1 T_LIST l (h2 l hl)).2.1.trans (a2 l hl)⟩, b1, b2, b3, fun k hk => ?_, fun r hr => ?_, b6⟩
  · obtain ⟨g1, g2, g3⟩ := b4 k hk
    exact ⟨(x.1 _ _ (h3 k hk).1).2.1.trans g1, fun t ht => (x.1 t k ((h3 k hk).2 t ht)).2.1.trans (g2 t ht), g3⟩
  · obtain ⟨g1, g2⟩ := b5 r hr
    exact ⟨(x.1 _ _ (h4 r hr)).2.1.trans g1, g2⟩
