theorem h_kx {x : Int32} {nk : Nat} (h : x < 0 ∨ nI nk ≤ x) : ¬ (0 ≤ x ∧ x < nI nk) := fun z => by
  rcases h with h | h
  · exact Int32.not_lt.mpr z.1 h
  · exact Int32.not_le.mpr z.2 h
theorem h_kj {j nk : Nat} (h : j < nk) (hk : nk ≤ 2147483647) : 0 ≤ nI j ∧ nI j < nI nk := ⟨nI_pos' (by omega), (nI_ltI (by omega) (by omega)).mpr h⟩
theorem h_kE {kk j nk : Nat} (h1 : kk < nk) (h2 : j < nk) (hk : nk ≤ 40) (e : nI j = nI kk) : kk = j := ((nI_eq (by omega) (by omega)).mp e).symm
