/-! 999999999999996: shapes that grow -/
/-- the places of the reference's growth, of the class' growth -/
def h_G2 (l t i : Nat) : Bool := [T_MRANK, T_MKNOB, T_MKEPT].contains t || q_kT.contains t || (decide (t = T_LARR) && (decide (i = 4) || decide (i = l)))
def h_G3 (l t i : Nat) : Bool := [T_ENTR, T_RANK, T_PARR, T_PIPE].contains t || s_kT.contains t || s_NL l t i
def h_xG (N : Nat → Nat → Bool) (p p' : e_Sp) : Prop := ∀ t i, N t i = false → p'.1 t i = p.1 t i ∧ p'.2.1 t i = p.2.1 t i ∧ p'.2.2.1 t i = p.2.2.1 t i
theorem h_xG.trans {N : Nat → Nat → Bool} {p p' p'' : e_Sp} (h : h_xG N p p') (h' : h_xG N p' p'') : h_xG N p p'' := fun t i hN => ⟨(h' t i hN).1.trans (h t i hN).1, (h' t i hN).2.1.trans (h t i hN).2.1, (h' t i hN).2.2.trans (h t i hN).2.2⟩
theorem h_xG.mono {N N' : Nat → Nat → Bool} {p p' : e_Sp} (h : h_xG N p p') (hN : ∀ t i, N' t i = false → N t i = false) : h_xG N' p p' := fun t i hi => h t i (hN t i hi)
