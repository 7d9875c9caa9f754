/-- the number that a thing had, and gets, as another joins (or, the other way round, leaves) -/
def s_ri (B t n i : Nat) : Nat := if i = B + t then B + n else if B + t < i ∧ i ≤ B + n then i - 1 else i
def s_rj (B t n i : Nat) : Nat := if i = B + n then B + t else if B + t ≤ i ∧ i < B + n then i + 1 else i
/-- the lists' numbers and sizes -/
def q_O (p : e_Sp) (I : e_I) : Prop := ∀ l, p.2.1 T_LIST l = true → l < 12 ∧ (8 ≤ l → (I f_l_size l).toNatClampNeg ≤ 60)
section s_fl
variable {X : e_XT} {d : Nat} {K : e_KT} {pc ix pl ho g t n : Nat} {ll : e_LL} {st rest : List Value} {p : e_Sp} {I : e_I} {J : e_Jt} {c : Nat × Nat} {w : e_Rw1} {Q : e_Rt → e_SS → Prop} {h : e_Hp}
end s_fl
