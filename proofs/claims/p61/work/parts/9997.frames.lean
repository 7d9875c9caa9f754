section s_fr2
variable {X : e_XT} {d : Nat} {K : e_KT} {g t n : Nat} {ll : e_LL} {p : e_Sp} {I : e_I} {J : e_Jt} {c : Nat × Nat} {w : e_Rw1} {Q : e_Rt → e_SS → Prop}
/-- a frame's list in which one more stands at t -/
abbrev s_adF (I : e_I) (g t n : Nat) : e_I := s_up (s_rnI (s_up I f_l_modCount (8 + g) (I f_l_modCount (8 + g) + 1)) (s_ri (64 * g) t n)) f_l_size (8 + g) (nI (n + 1))
end s_fr2
