/-! 9998: knobs of the second implementation are made (printed by wip/whole/p9998.py) -/
/-- the rows of a knob: n keys are wired -/
def q_mw (I : e_I) (j n : Nat) : e_I := fun F m => if F = f_mk_wires ∧ m / 61 = j then (if m % 61 < n then nI (m % 61) else 0) else if (F = f_mk_ranks ∨ F = f_mk_offsets ∨ F = f_mk_froms ∨ F = f_mk_tos) ∧ m / 4 = j then 0 else I F m
theorem q_mw_F {I : e_I} {j n F : Nat} (h : [f_mk_wires, f_mk_ranks, f_mk_offsets, f_mk_froms, f_mk_tos].contains F = false) : q_mw I j n F = I F := by
  funext i
  have h1 : ∀ F', F' ∈ [f_mk_wires, f_mk_ranks, f_mk_offsets, f_mk_froms, f_mk_tos] → F ≠ F' := fun F' hF' z => by rw [z, List.contains_iff_mem.mpr hF'] at h; cases h
  unfold q_mw
  rw [if_neg (fun z => h1 f_mk_wires (by decide) z.1), if_neg (fun z => z.1.elim (h1 f_mk_ranks (by decide)) (fun z => z.elim (h1 f_mk_offsets (by decide)) (fun z => z.elim (h1 f_mk_froms (by decide)) (h1 f_mk_tos (by decide)))))]
