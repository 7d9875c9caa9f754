/-! 9999999999996: room between calls -/
/-- the list of what is recorded stays, the tape's row does not shrink -/
def h_x4 (p p' : e_Sp) : Prop := p'.2.1 T_LIST 4 = p.2.1 T_LIST 4 ∧ (p'.1 T_LARR 4 = p.1 T_LARR 4 ∧ p'.2.1 T_LARR 4 = p.2.1 T_LARR 4 ∧ p'.2.2.1 T_LARR 4 = p.2.2.1 T_LARR 4) ∧ (∀ j, p'.2.1 T_MKEPT j = p.2.1 T_MKEPT j) ∧ p.2.2.1 T_ENTR 0 ≤ p'.2.2.1 T_ENTR 0
/-- the tape stays -/
def h_xT (p p' : e_Sp) : Prop := (∀ i, p'.2.1 T_TAPE i = p.2.1 T_TAPE i) ∧ p'.2.2.1 T_ENTR 0 = p.2.2.1 T_ENTR 0 ∧ p'.2.1 T_ENTR 0 = p.2.1 T_ENTR 0
def h_R (p : e_Sp) (I : e_I) (c : Nat × Nat) (od ob n : Nat) : Prop := ∃ k g, ((∀ i, p.2.1 T_TAPE i = true → i = 0) ∧ (p.2.2.1 T_ENTR 0 = 256 * 2 ^ k ∧ k ≤ 12) ∧ (∃ z, I f_tsize 0 = nI z ∧ z ≤ p.2.2.1 T_ENTR 0) ∧ (∀ i, p.2.2.1 T_ENTR 0 ≤ i → i < 1048576 → I f_entries i = 0) ∧ p.2.1 T_ENTR 0 = true) ∧ (s_La p I 4 n ∧ (∀ j, p.2.1 T_MKEPT j = decide (j < n)) ∧ (p.1 T_LARR 4 = e_xb + 8 → q_cp p = 0) ∧ q_cp p = q_cs g ∧ q_cs (g - 1) ≤ od + k + n) ∧ c.1 = od + k + n + g ∧ c.2 + 512 = ob + 2 * p.2.2.1 T_ENTR 0 + 4 * n + q_cq g
theorem h_x4.xt {p p' : e_Sp} (x : s_xt p p') : h_x4 p p' := ⟨by rw [(x.1 T_LIST rfl).2.1], ⟨by rw [(x.1 T_LARR rfl).1], by rw [(x.1 T_LARR rfl).2.1], by rw [(x.1 T_LARR rfl).2.2]⟩, fun j => by rw [(x.1 T_MKEPT rfl).2.1], x.2.2.2⟩
theorem h_x4.trans {p p' p'' : e_Sp} (h : h_x4 p p') (h' : h_x4 p' p'') : h_x4 p p'' := ⟨h'.1.trans h.1, ⟨h'.2.1.1.trans h.2.1.1, h'.2.1.2.1.trans h.2.1.2.1, h'.2.1.2.2.trans h.2.1.2.2⟩, fun j => (h'.2.2.1 j).trans (h.2.2.1 j), Nat.le_trans h.2.2.2 h'.2.2.2⟩
theorem h_xT.xv {N : Nat → Nat → Bool} {p p' : e_Sp} (x : s_xv N p p') (h1 : ∀ i, N T_TAPE i = false) (h2 : N T_ENTR 0 = false) : h_xT p p' := ⟨fun i => (x.1 _ i (h1 i)).2.1, (x.1 _ 0 h2).2.2, (x.1 _ 0 h2).2.1⟩
theorem h_xT.qX {p p' : e_Sp} (x : q_X p p') : h_xT p p' := h_xT.xv x.1 (fun i => q_N_t (by decide) (by decide)) (q_N_t (by decide) (by decide))
theorem q_cs_m {g h : Nat} (hl : g ≤ h) : q_cs g ≤ q_cs h := by
  induction h with
  | zero => obtain rfl : g = 0 := by omega
            exact Nat.le_refl _
  | succ h ih =>
    by_cases c : g = h + 1
    · rw [c]; exact Nat.le_refl _
    · have := ih (by omega); have := (q_cs_s h).1; omega
theorem q_cq_m {g h : Nat} (hl : g ≤ h) : q_cq g ≤ q_cq h := by
  induction h with
  | zero => obtain rfl : g = 0 := by omega
            exact Nat.le_refl _
  | succ h ih =>
    by_cases c : g = h + 1
    · rw [c]; exact Nat.le_refl _
    · have := ih (by omega)
      show q_cq g ≤ q_cq h + s_cap (q_cs h)
      omega
theorem h_R.g {p : e_Sp} {I : e_I} {c : Nat × Nat} {od ob n : Nat} (h : h_R p I c od ob n) (hB : od + n ≤ 700000) : ∃ k g, k ≤ 12 ∧ g ≤ 29 ∧ p.2.2.1 T_ENTR 0 = 256 * 2 ^ k ∧ c.1 = od + k + n + g ∧ c.2 + 512 = ob + 2 * p.2.2.1 T_ENTR 0 + 4 * n + q_cq g := by
  obtain ⟨k, g, ⟨-, ⟨e1, e2⟩, -⟩, ⟨-, -, -, -, e3⟩, e4, e5⟩ := h
  refine ⟨k, g, e2, ?_, e1, e4, e5⟩
  by_cases hg : g ≤ 29
  · exact hg
  exfalso
  have h1 : q_cs 29 ≤ q_cs (g - 1) := q_cs_m (by omega)
  have h2 : q_cs 29 = 810325 := by decide
  omega
theorem h_R.fin {p : e_Sp} {I : e_I} {c : Nat × Nat} {od ob n : Nat} (h : h_R p I c od ob n) (hB : od + n ≤ 603000) (hb : ob + 4 * n ≤ 2670000) : c.1 ≤ 603072 ∧ c.2 ≤ 7202922 := by
  obtain ⟨k, g, h1, h2, h3, h4, h5⟩ := h.g (by omega)
  have h6 : q_cq g ≤ q_cq 29 := q_cq_m h2
  have h7 : q_cq 29 = 2430972 := by decide
  have h8 : 2 ^ k ≤ 2 ^ 12 := Nat.pow_le_pow_right (by omega) h1
  have h9 : (2 : Nat) ^ 12 = 4096 := rfl
  constructor <;> omega
/-- the class may be called -/
theorem h_R.tp {p : e_Sp} {I : e_I} {c : Nat × Nat} {od ob n : Nat} (h : h_R p I c od ob n) (hB : od + n ≤ 700000) : ∃ a b, s_Tp p I c a b ∧ a ≤ 800000 ∧ ∀ p' I' c' x y, h_x4 p p' → I' f_l_size 4 = I f_l_size 4 → s_Tp p' I' c' (a + x) (b + y) → h_R p' I' c' (od + x) (ob + y) n := by
  obtain ⟨k9, g9, hk9, hg9, -, q4, q5⟩ := h.g hB
  obtain ⟨k, g, ⟨t1, ⟨t2, t3⟩, t4, t5, t6⟩, ⟨l1, l2, l3, l4, l5⟩, e1, e2⟩ := h
  have hg : g ≤ 29 := by
    by_cases hg : g ≤ 29
    · exact hg
    exfalso
    have h1 : q_cs 29 ≤ q_cs (g - 1) := q_cs_m (by omega)
    have h2 : q_cs 29 = 810325 := by decide
    omega
  have h2k := Nat.two_pow_pos k
  refine ⟨od + n + g, ob + 4 * n + q_cq g, ⟨t1, ⟨k, t2, t3, by omega, by omega, by omega, by omega⟩, t4, t5, by omega, t6⟩, by omega, fun p' I' c' x y hx hl hT => ?_⟩
  obtain ⟨s1, ⟨k', s2, s3, s4, s5, s6, s7⟩, s8, s9, s10, s11⟩ := hT
  have hkk : k ≤ k' := by
    by_cases hc : k ≤ k'
    · exact hc
    have h1 : 2 ^ k' < 2 ^ k := Nat.pow_lt_pow_right (by omega) (by omega)
    have h2 := hx.2.2.2
    omega
  have hcp : q_cp p' = q_cp p := by unfold q_cp; rw [hx.2.1.2.1, hx.2.1.2.2]
  exact ⟨k', g, ⟨s1, ⟨s2, s3⟩, s8, s9, s11⟩, ⟨l1.x4 hx.1 hx.2.1 hl, fun j => (hx.2.2.1 j).trans (l2 j), fun z => by rw [hcp]; exact l3 (by rw [← hx.2.1.1]; exact z), hcp.trans l4, by omega⟩, by omega, by omega⟩
/-- the reference may be called -/
theorem h_R.ql {p : e_Sp} {I : e_I} {c : Nat × Nat} {od ob n : Nat} (h : h_R p I c od ob n) (hB : od + n ≤ 700000) : ∃ a b, q_L p I c a b n ∧ a ≤ 800000 ∧ c.1 ≤ 800000 ∧ ∀ p' I' c' n' x y, h_xT p p' → I' f_tsize = I f_tsize → I' f_entries = I f_entries → q_L p' I' c' (a + x) (b + y) n' → h_R p' I' c' (od + x) (ob + y) n' := by
  obtain ⟨k9, g9, hk9, hg9, -, q4, q5⟩ := h.g hB
  obtain ⟨k, g, ⟨t1, ⟨t2, t3⟩, t4, t5, t6⟩, ⟨l1, l2, l3, l4, l5⟩, e1, e2⟩ := h
  have h2k := Nat.two_pow_pos k
  refine ⟨od + k, ob + 2 * p.2.2.1 T_ENTR 0 - 512, ⟨l1, l2, l3, g, l4, by omega, by omega, by omega⟩, by omega, by omega, fun p' I' c' n' x y hx h1 h2 hL => ?_⟩
  obtain ⟨s1, s2, s3, g', s4, s5, s6, s7⟩ := hL
  exact ⟨k, g', ⟨fun i hi => t1 i (by rw [← hx.1]; exact hi), ⟨by rw [hx.2.1]; exact t2, t3⟩, by rw [h1, hx.2.1]; exact t4, by rw [h2, hx.2.1]; exact t5, by rw [hx.2.2]; exact t6⟩, ⟨s1, s2, s3, s4, by omega⟩, by omega, by rw [hx.2.1]; omega⟩
theorem h_R.add {p : e_Sp} {I : e_I} {c : Nat × Nat} {od ob n : Nat} (h : h_R p I c od ob n) (x y : Nat) : h_R p I (c.1 + x, c.2 + y) (od + x) (ob + y) n := by
  obtain ⟨k, g, t, ⟨l1, l2, l3, l4, l5⟩, e1, e2⟩ := h
  exact ⟨k, g, t, ⟨l1, l2, l3, l4, by omega⟩, by show c.1 + x = _; omega, by show c.2 + y + 512 = _; omega⟩
theorem h_R.N {p : e_Sp} {I I' : e_I} {c : Nat × Nat} {od ob n : Nat} (h : h_R p I c od ob n) (h1 : I' f_tsize = I f_tsize) (h2 : I' f_entries = I f_entries) (h3 : I' f_l_size 4 = I f_l_size 4) : h_R p I' c od ob n := by
  obtain ⟨k, g, ⟨t1, t2, t4, t5, t6⟩, ⟨l1, l2⟩, e⟩ := h
  exact ⟨k, g, ⟨t1, t2, by rw [h1]; exact t4, by rw [h2]; exact t5, t6⟩, ⟨l1.x4 rfl ⟨rfl, rfl, rfl⟩ h3, l2⟩, e⟩
/-- what calls may cost -/
def h_B (T nk nr W od ob n m : Nat) : Prop := ∃ P, P + nr + (nk - 3) + W = T ∧ od + n ≤ 1000 + P * (max 183 (v_Bd nr W) + 2) + 61 * W + 150 * nr + 40 * (nk - 3) ∧ ob + 4 * n ≤ 40000 + P * (4 * max 183 (v_Bd nr W) + 40) + 244 * W + 2100 * nr + 900 * (nk - 3) ∧ m ≤ 100040 * T
theorem v_Bd_m {nr nr' W W' : Nat} (h1 : nr ≤ nr') (h2 : W ≤ W') : v_Bd nr W ≤ v_Bd nr' W' := by unfold v_Bd; omega
theorem h_B.q {T nk nr W od ob n m od' ob' n' m' : Nat} (h : h_B T nk nr W od ob n m) (h1 : od' + n' ≤ od + n + max 183 (v_Bd nr W) + 2) (h2 : ob' + 4 * n' ≤ ob + 4 * n + 4 * max 183 (v_Bd nr W) + 40) (h3 : m' ≤ m + 100040) : h_B (T + 1) nk nr W od' ob' n' m' := by
  obtain ⟨P, e1, e2, e3, e4⟩ := h
  refine ⟨P + 1, by omega, ?_, ?_, by omega⟩
  · rw [Nat.add_mul]; omega
  · rw [Nat.add_mul]; omega
theorem h_B.gr {T nk nr W nk' nr' W' od ob n m od' ob' n' : Nat} (h : h_B T nk nr W od ob n m) (h0 : nk ≤ nk' ∧ nr ≤ nr' ∧ W ≤ W') (h3 : 3 ≤ nk) (hs : nk' + nr' + W' = nk + nr + W + 1) (h1 : od' + n' + (61 * W + 150 * nr + 40 * (nk - 3)) ≤ od + n + (61 * W' + 150 * nr' + 40 * (nk' - 3))) (h2 : ob' + 4 * n' + (244 * W + 2100 * nr + 900 * (nk - 3)) ≤ ob + 4 * n + (244 * W' + 2100 * nr' + 900 * (nk' - 3))) : h_B (T + 1) nk' nr' W' od' ob' n' m := by
  obtain ⟨P, e1, e2, e3, e4⟩ := h
  have hb := v_Bd_m h0.2.1 h0.2.2
  have m1 : P * (max 183 (v_Bd nr W) + 2) ≤ P * (max 183 (v_Bd nr' W') + 2) := Nat.mul_le_mul_left _ (by omega)
  have m2 : P * (4 * max 183 (v_Bd nr W) + 40) ≤ P * (4 * max 183 (v_Bd nr' W') + 40) := Nat.mul_le_mul_left _ (by omega)
  exact ⟨P, by omega, by omega, by omega, by omega⟩
theorem h_B.fin {T nk nr W od ob n m : Nat} (h : h_B T nk nr W od ob n m) (hT : T ≤ 512) (hk : 3 ≤ nk ∧ nk ≤ 40) (hr : nr ≤ 10) (hW : W ≤ 4 * (nk - 3)) : od + n ≤ 603000 ∧ ob + 4 * n ≤ 2670000 ∧ m ≤ 60000000 := by
  obtain ⟨P, e1, e2, e3, e4⟩ := h
  have hR := n_room nr hr W (by omega)
  generalize hM : max 183 (v_Bd nr W) = M at hR e2 e3
  have m1 : P * M ≤ (512 - nr - W - (W + 3) / 4) * M := Nat.mul_le_mul_right _ (by omega)
  rw [Nat.mul_add] at e2 e3
  rw [show P * (4 * M) = 4 * (P * M) by rw [Nat.mul_left_comm]] at e3
  generalize P * M = U at m1 e2 e3
  refine ⟨by omega, by omega, by omega⟩
