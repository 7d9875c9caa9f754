/-! 999999995: it is true; masks -/
theorem v_Sh.ip {p : e_Sp} {I I' : e_I} {nr np r j : Nat} (h : v_Sh p I I' nr np) (hr : r < nr) (hj : j < p.2.2.1 T_PARR r) : q_ip I' nr (nI r) (I f_r_lowest r + nI j) = true ∧ q_pi I' (nI r) (I f_r_lowest r + nI j) = p.2.2.2.2 r + j := by
  obtain ⟨lo, dv, a1, a2, -, a3, a4, a5, a6, -⟩ := h.2.2 r hr
  have hn := h.2.1
  have hle := h.le hr
  unfold q_ip q_pi q_pp
  rw [nI_clamp (by omega), a3, a4, a5, a6, nI_add, nI_add, nI_sub (by omega), nI_clamp (by omega), Bool.and_eq_true, decide_eq_true_iff, decide_eq_true_iff]
  exact ⟨⟨⟨nI_pos' (by omega), nI_lt hr (by omega)⟩, nI_le (by omega) (by omega), nI_le (by omega) (by omega)⟩, by omega⟩
theorem v_true {p : e_Sp} {nk nr np n s m L : Nat} {t : Nat → Nat} {a b : e_I × e_Jt} (h : v_Sim p nk nr np n t s m L a b) : s_con p a.1 nk nr = true := by
  unfold s_con
  rw [Bool.not_eq_true', ← Bool.not_eq_true]
  intro w
  obtain ⟨r, hr, w⟩ := v_exT.mp w
  obtain ⟨j, hj, w⟩ := v_exT.mp w
  have hS := h.1.1.1.1
  obtain ⟨i1, i2⟩ := hS.ip hr hj
  have hq := hS.lt hr hj
  unfold s_bad at w
  rw [v_ral h i1, i2, decide_eq_true (rfl : s_ar a.1 (p.2.2.2.2 r + j) = _), Bool.not_true, Bool.or_false, Bool.not_eq_true', decide_eq_false_iff_not] at w
  apply w
  obtain ⟨⟨e1, e2⟩, e3, e4⟩ := h.1.1.2.2.2.1 _ hq
  rw [e1, e3, e4]
  rcases e2 with z | z
  · rw [z, if_pos rfl]; grind
  · rw [z, if_neg (by decide)]; grind
/-! masks -/
theorem v_b1b1 {i j : Nat} (hi : i < 41) (hj : j < 41) (h : i ≠ j) : s_b1 i &&& s_b1 j = 0 := by
  have key : ∀ i j : Fin 41, i ≠ j → s_b1 i.val &&& s_b1 j.val = 0 := by decide +kernel
  exact key ⟨i, hi⟩ ⟨j, hj⟩ (fun w => h (Fin.mk.inj w))
theorem v_ador {a b c : Int64} : (a ||| b) &&& c = (a &&& c) ||| (b &&& c) := Int64.toBitVec_inj.1 BitVec.and_or_distrib_right
theorem v_adol {a b c : Int64} : c &&& (a ||| b) = (c &&& a) ||| (c &&& b) := Int64.toBitVec_inj.1 BitVec.and_or_distrib_left
def v_OR (c : Nat → Bool) : Nat → Int64
  | 0 => 0
  | n + 1 => if c n = true then v_OR c n ||| s_b1 n else v_OR c n
theorem v_ORz {c : Nat → Bool} : ∀ n i, n ≤ i → i < 41 → v_OR c n &&& s_b1 i = 0 := by
  intro n
  induction n with
  | zero => intro i _ _; exact Int64.zero_and
  | succ n ih =>
    intro i h1 h2
    show (if c n = true then v_OR c n ||| s_b1 n else v_OR c n) &&& s_b1 i = 0
    split
    · rw [v_ador, ih i (by omega) h2, v_b1b1 (by omega) h2 (by omega)]
      exact Int64.or_zero
    · exact ih i (by omega) h2
theorem v_ORand {c d : Nat → Bool} : ∀ n, n ≤ 41 → v_OR c n &&& v_OR d n = v_OR (fun i => c i && d i) n := by
  intro n
  induction n with
  | zero => intro _; exact Int64.zero_and
  | succ n ih =>
    intro hn
    have z1 := v_ORz (c := c) n n (Nat.le_refl _) (by omega)
    have z2 := v_ORz (c := d) n n (Nat.le_refl _) (by omega)
    have ihn := ih (by omega)
    show (if c n = true then v_OR c n ||| s_b1 n else v_OR c n) &&& (if d n = true then v_OR d n ||| s_b1 n else v_OR d n) = if (c n && d n) = true then v_OR (fun i => c i && d i) n ||| s_b1 n else v_OR (fun i => c i && d i) n
    cases hc : c n <;> cases hd : d n
    · simp only [Bool.false_eq_true, if_false, Bool.and_self, ihn]
    · simp only [Bool.false_eq_true, if_false, if_true, Bool.false_and]
      rw [Int64.and_comm, v_ador, Int64.and_comm, ihn, Int64.and_comm, z1]; exact Int64.or_zero
    · simp only [Bool.false_eq_true, if_false, if_true, Bool.and_false]
      rw [v_ador, ihn, Int64.and_comm, z2]; exact Int64.or_zero
    · simp only [if_true, Bool.and_self]
      rw [v_ador, v_adol, v_adol, ihn, z1, Int64.and_comm (s_b1 n) (v_OR d n), z2, Int64.and_self, Int64.or_zero, Int64.zero_or]
theorem v_ORc {c d : Nat → Bool} {n : Nat} (h : ∀ i, i < n → c i = d i) : v_OR c n = v_OR d n := by
  induction n with
  | zero => rfl
  | succ n ih =>
    show (if c n = true then v_OR c n ||| s_b1 n else v_OR c n) = (if d n = true then v_OR d n ||| s_b1 n else v_OR d n)
    rw [ih (fun i hi => h i (by omega)), h n (by omega)]
theorem v_ORr {f : Nat → Int64 → Int64} {c : Nat → Bool} (h : ∀ i a, f i a = if c i = true then a ||| s_b1 i else a) : ∀ n, s_run f 0 n 0 = v_OR c n := by
  intro n
  induction n with
  | zero => rfl
  | succ n ih =>
    rw [s_run_l, Nat.zero_add, h, ih]
    rfl
theorem v_all {n : Nat} (h : n ≤ 40) : s_b1 n - 1 = v_OR (fun _ => true) n := by
  have key : ∀ n : Fin 41, s_b1 n.val - 1 = v_OR (fun _ => true) n.val := by decide +kernel
  exact key ⟨n, by omega⟩
theorem v_ks {I : e_I} {nk : Nat} : s_ks I nk = v_OR (fun i => !decide (I f_k_isInScope i = 0)) nk := v_ORr (fun i a => by
  unfold s_ksK
  by_cases c : I f_k_isInScope i = 0
  · rw [if_pos c, decide_eq_true c]; rfl
  · rw [if_neg c, decide_eq_false c]; rfl) nk
theorem v_sof {I : e_I} {nk : Nat} {x : Int32} : s_sof I nk x = v_OR (fun i => decide (I f_k_kind i = 115 ∧ I f_k_division i = x)) nk := v_ORr (fun i a => by
  unfold s_sfK
  by_cases c : I f_k_kind i = 115 ∧ I f_k_division i = x
  · rw [if_pos c, decide_eq_true c]; rfl
  · rw [if_neg c, decide_eq_false c]; rfl) nk
theorem v_da {I : e_I} {nk : Nat} {c : Nat → Bool} (hn : nk ≤ 40) : s_da I nk (v_OR c nk) = v_OR (fun i => !decide (I f_k_isOut i = 0) && c i) nk := by
  unfold s_da
  rw [v_ORr (f := s_daK I) (c := fun i => !decide (I f_k_isOut i = 0)) (fun i a => by
    unfold s_daK
    by_cases c : I f_k_isOut i = 0
    · rw [if_pos c, decide_eq_true c]; rfl
    · rw [if_neg c, decide_eq_false c]; rfl) nk]
  exact v_ORand nk (by omega)
