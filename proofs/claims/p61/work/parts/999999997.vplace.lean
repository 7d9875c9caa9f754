/-! 999999997: places of the memory -/
def v_Pc (v : Nat) (x : Int32) (c q : Nat) : Prop := (x = -1 ∧ ∃ y, y < 8 ∧ c = v * 20 + y ∧ q = 8 * v + y) ∨ ∃ u y, u < 3 ∧ y < 4 ∧ x = nI u ∧ c = v * 20 + (8 + u * 4 + y) ∧ q = 32 + (4 * (3 * v + u) + y)
theorem v_ps0 {x y : Int32} (h : q_ps x y = false) : s_plo x y < 0 := by
  unfold q_ps at h
  unfold s_plo s_isdv
  by_cases c : x = -1
  · rw [if_pos c] at h ⊢
    rw [decide_eq_false_iff_not] at h
    rw [if_neg (show ¬ (0 ≤ y ∧ y < 8) from fun w => h ⟨w.1, by have := w.2; grind⟩)]
    decide
  · rw [if_neg c] at h ⊢
    rw [if_neg (fun w => ?_)]
    · decide
    · rw [Bool.and_eq_true, decide_eq_true_iff, decide_eq_true_iff] at w
      rw [Bool.and_eq_false_iff, decide_eq_false_iff_not, decide_eq_false_iff_not] at h
      rcases h with h | h
      · exact h ⟨w.1.1, by have := w.1.2; grind⟩
      · exact h ⟨w.2.1, by have := w.2.2; grind⟩
theorem v_place {I I' : e_I} {x y : Int32} {v : Nat} (hv : v < 4) (e1 : I f_level 0 = nI v) (e2 : I' f_m_level 0 = nI v) (h : q_ps x y = true) : ¬ s_plo x y < 0 ∧ ∃ c, c < 80 ∧ s_mix I (s_plo x y) = nI c ∧ v_Pc v x c (q_kp I' x y) := by
  unfold q_ps at h
  unfold s_plo s_isdv q_kp
  by_cases cx : x = -1
  · rw [if_pos cx] at h ⊢
    rw [decide_eq_true_iff] at h
    have h8 : y < 8 := by have := h.2; grind
    obtain ⟨b, hb, rfl⟩ := s_nat (n := 8) h.1 h8 (by decide)
    rw [if_pos ⟨h.1, h8⟩, if_pos cx]
    refine ⟨nI_pos (by omega), v * 20 + b, by omega, ?_, .inl ⟨cx, b, hb, rfl, ?_⟩⟩
    · unfold s_mix
      rw [if_neg (fun w => w.elim (fun w => nI_pos (by omega) w) (fun w => nI_ge (b := 20) (show b < 20 by omega) (by decide) w)), e1, ← nI_add, ← pk_mul]
      rfl
    · rw [e2, show (8 : Int32) = nI 8 from rfl, pk_mul, nI_add, nI_clamp (by omega)]
  · rw [if_neg cx] at h ⊢
    rw [Bool.and_eq_true, decide_eq_true_iff, decide_eq_true_iff] at h
    have hx3 : x < 3 := by have := h.1.2; grind
    have hy4 : y < 4 := by have := h.2.2; grind
    obtain ⟨u, hu, rfl⟩ := s_nat (n := 3) h.1.1 hx3 (by decide)
    obtain ⟨b, hb, rfl⟩ := s_nat (n := 4) h.2.1 hy4 (by decide)
    have e8 : 8 + nI u * 4 + nI b = nI (8 + u * 4 + b) := by rw [← nI_add, ← nI_add, ← pk_mul]; rfl
    rw [if_pos ⟨by rw [Bool.and_eq_true, decide_eq_true_iff, decide_eq_true_iff]; exact ⟨h.1.1, hx3⟩, h.2.1, hy4⟩, if_neg cx, e8]
    refine ⟨nI_pos (by omega), v * 20 + (8 + u * 4 + b), by omega, ?_, .inr ⟨u, b, hu, hb, rfl, rfl, ?_⟩⟩
    · unfold s_mix
      rw [if_neg (fun w => w.elim (fun w => nI_pos (by omega) w) (fun w => nI_ge (b := 20) (show 8 + u * 4 + b < 20 by omega) (by decide) w)), e1, ← nI_add (v * 20), ← pk_mul]
      rfl
    · rw [e2, show (4 : Int32) = nI 4 from rfl, show (3 : Int32) = nI 3 from rfl, pk_mul, nI_add, pk_mul, nI_add, nI_clamp (by omega)]
theorem v_Pc.kq {v c q : Nat} {x : Int32} {I I' : e_I} {J J' : e_Jt} (hv : v < 4) (h : v_Pc v x c q) (hZ : v_Z6 I I' J J') : v_Kq c q I I' J J' := by
  rcases h with ⟨-, y, hy, rfl, rfl⟩ | ⟨u, y, hu, hy, -, rfl, rfl⟩
  · exact hZ.1 v y hv hy
  · exact hZ.2.1 v u y hv hu hy
/-- a place is set -/
theorem v_Z6.set {v c q : Nat} {x : Int32} {I I' A B : e_I} {J J' C D : e_Jt} (hv : v < 4) (hP : v_Pc v x c q) (h : v_Z6 I I' J J') (a1 : ∀ i, A f_a_isSet i = if i = c then 1 else I f_a_isSet i) (a2 : ∀ i, B f_mg_isSet i = if i = q then 1 else I' f_mg_isSet i) (a3 : A f_a_frameCounts = I f_a_frameCounts) (a4 : B f_l_size = I' f_l_size) (b1 : ∀ i, i ≠ c → C j_a_kept i = J j_a_kept i ∧ C j_a_drawn i = J j_a_drawn i) (b2 : ∀ i, i ≠ q → D j_mg_knobs i = J' j_mg_knobs i ∧ D j_mg_drawn i = J' j_mg_drawn i) (b3 : C j_a_kept c = D j_mg_knobs q ∧ C j_a_drawn c = D j_mg_drawn q) (b4 : C j_a_frameKept = J j_a_frameKept ∧ C j_a_frameDrawn = J j_a_frameDrawn) (b5 : D j_mf_knobs = J' j_mf_knobs ∧ D j_mf_drawn = J' j_mf_drawn) : v_Z6 A B C D := by
  obtain ⟨h1, h2, h3⟩ := h
  have kk : ∀ c' q', (c' = c ↔ q' = q) → v_Kq c' q' I I' J J' → v_Kq c' q' A B C D := by
    intro c' q' hi ⟨k1, k2, k3⟩
    unfold v_Kq
    rw [a1, a2]
    by_cases e : c' = c
    · rw [if_pos e, if_pos (hi.mp e), e, hi.mp e]
      exact ⟨rfl, b3.1, b3.2⟩
    · have e' : q' ≠ q := fun w => e (hi.mpr w)
      rw [if_neg e, if_neg e', (b1 c' e).1, (b1 c' e).2, (b2 q' e').1, (b2 q' e').2]
      exact ⟨k1, k2, k3⟩
  refine ⟨fun v' y' hv' hy' => kk _ _ ?_ (h1 v' y' hv' hy'), fun v' u' y' hv' hu' hy' => kk _ _ ?_ (h2 v' u' y' hv' hu' hy'), fun g hg => ?_⟩
  · rcases hP with ⟨-, y, hy, rfl, rfl⟩ | ⟨u, y, hu, hy, -, rfl, rfl⟩ <;> omega
  · rcases hP with ⟨-, y, hy, rfl, rfl⟩ | ⟨u, y, hu, hy, -, rfl, rfl⟩ <;> omega
  · obtain ⟨m, k1, k2, k3, k4⟩ := h3 g hg
    refine ⟨m, k1, by rw [a3]; exact k2, by rw [a4]; exact k3, fun j hj => ?_⟩
    rw [b4.1, b4.2, b5.1, b5.2]
    exact k4 j hj
/-- keeping knobs: the other side -/
theorem v_keep9 {kn dn j : Nat} {I : e_I} {c : Nat → Bool} {f : Nat → e_Jt → e_Jt} (hne : kn ≠ dn) (h : ∀ i J, f i J = if c i = true then q_keJ kn dn I j i J else J) (J : e_Jt) (hk : J kn j = 0) (hd : J dn j = 0) : ∀ n, s_run f 0 n J kn j = v_OR c n ∧ s_run f 0 n J dn j = v_OR (fun i => c i && !decide (I f_mk_isDrawn i = 0)) n ∧ (∀ F i, (F = kn ∧ i = j → False) → (F = dn ∧ i = j → False) → s_run f 0 n J F i = J F i) := by
  intro n
  induction n with
  | zero => exact ⟨hk, hd, fun _ _ _ _ => rfl⟩
  | succ n ih =>
    obtain ⟨h1, h2, h3⟩ := ih
    rw [s_run_l, Nat.zero_add, h]
    by_cases e : c n = true
    · rw [if_pos e]
      unfold q_keJ
      refine ⟨?_, ?_, fun F i g1 g2 => ?_⟩
      · rw [s_up_F hne, s_up_s, h1]
        show _ = if c n = true then v_OR c n ||| s_b1 n else v_OR c n
        rw [if_pos e]
      · rw [s_up_s, s_up_F (fun w => hne w.symm), h2]
        show _ = if (c n && !decide (I f_mk_isDrawn n = 0)) = true then v_OR (fun i => c i && !decide (I f_mk_isDrawn i = 0)) n ||| s_b1 n else v_OR (fun i => c i && !decide (I f_mk_isDrawn i = 0)) n
        by_cases e2 : I f_mk_isDrawn n = 0
        · rw [if_pos e2, decide_eq_true e2, if_neg (by simp), Int64.or_zero]
        · rw [if_neg e2, decide_eq_false e2, if_pos (by simp [e])]
      · unfold s_up
        rw [if_neg (fun w => g2 w), if_neg (fun w => g1 w)]
        exact h3 F i g1 g2
    · rw [if_neg e]
      refine ⟨?_, ?_, h3⟩
      · show _ = if c n = true then v_OR c n ||| s_b1 n else v_OR c n
        rw [if_neg e]; exact h1
      · show _ = if (c n && !decide (I f_mk_isDrawn n = 0)) = true then v_OR (fun i => c i && !decide (I f_mk_isDrawn i = 0)) n ||| s_b1 n else v_OR (fun i => c i && !decide (I f_mk_isDrawn i = 0)) n
        rw [if_neg (by simp [e])]; exact h2
