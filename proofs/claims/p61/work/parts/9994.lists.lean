/-! 9994: lists are cleared, things join and leave in their midst -/
section s_lm
variable {p : e_Sp} {I : e_I} {J : e_Jt} {h h' : e_Hp} {l m n : Nat}
def s_rnI (I : e_I) (τ : Nat → Nat) : e_I := fun F i => if F = f_mf_isSet then I F (τ i) else I F i
def s_rnJ (J : e_Jt) (τ : Nat → Nat) : e_Jt := fun F i => if F = j_mf_knobs ∨ F = j_mf_drawn then J F (τ i) else J F i
end s_lm
section s_lw2
variable {X : e_XT} {d : Nat} {K : e_KT} {pc ix pl ho l m n : Nat} {ll : e_LL} {st rest : List Value} {p : e_Sp} {I : e_I} {J : e_Jt} {c : Nat × Nat} {w : e_Rw1} {Q : e_Rt → e_SS → Prop}
end s_lw2
