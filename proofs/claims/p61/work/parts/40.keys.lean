/-! 40: the keys (printed by wip/whole/p40.py) -/
abbrev bI (b : Bool) : Int32 := if b = true then 1 else 0
theorem bI_or (b : Bool) : bI b = 0 ∨ bI b = 1 := by cases b <;> simp [bI]
/-- there is such a key -/
abbrev s_isk (x y : Int32) : Prop := 0 ≤ x ∧ x < 3 ∧ 0 ≤ y ∧ y < 61 ∧ (x = 0 → y < 32)
def s_kn (x y : Int32) : Nat := x.toNatClampNeg * 61 + y.toNatClampNeg
def s_idx (x y : Int32) : Int32 := if s_isk x y then nI (s_kn x y) else -1
def s_kc (x : Int32) : Int32 := if x = 0 then 32 else 61
theorem s_nat {x : Int32} {n : Nat} (h0 : 0 ≤ x) (h : x < nI n) (hn : n < 2147483648) : ∃ j, j < n ∧ x = nI j := by
  obtain ⟨j, hj, rfl⟩ := nI_of (Int32.not_lt.mpr h0)
  exact ⟨j, (nI_ltI hj (by omega)).mp h, rfl⟩
theorem s_isk.nat {x y : Int32} (h : s_isk x y) : ∃ a b, a < 3 ∧ b < 61 ∧ (a = 0 → b < 32) ∧ x = nI a ∧ y = nI b ∧ s_kn x y = a * 61 + b := by
  obtain ⟨h1, h2, h3, h4, h5⟩ := h
  obtain ⟨a, ha, rfl⟩ := s_nat (n := 3) h1 h2 (by decide)
  obtain ⟨b, hb, rfl⟩ := s_nat (n := 61) h3 h4 (by decide)
  refine ⟨a, b, ha, hb, fun z => ?_, rfl, rfl, ?_⟩
  · subst z
    exact (nI_ltI (b := 32) (by omega) (by decide)).mp (h5 rfl)
  · unfold s_kn; rw [nI_clamp (by omega), nI_clamp (by omega)]
theorem s_isk.lt {x y : Int32} (h : s_isk x y) : s_kn x y < 183 := by
  obtain ⟨a, b, h1, h2, h3, -, -, h4⟩ := h.nat
  omega
theorem s_idx_mul {x y : Int32} (h : s_isk x y) : x * 61 + y = nI (s_kn x y) := by
  obtain ⟨a, b, h1, h2, h3, rfl, rfl, h4⟩ := h.nat
  rw [h4, ← nI_add, ← pk_mul]; rfl
theorem s_idx_neg {x y : Int32} : s_idx x y < 0 ↔ ¬ s_isk x y := by
  unfold s_idx
  by_cases h : s_isk x y
  · rw [if_pos h]
    exact ⟨fun z => absurd z (nI_pos (by have := h.lt; omega)), fun z => absurd h z⟩
  · rw [if_neg h]; exact ⟨fun _ => h, fun _ => by decide⟩
theorem s_idx_ix {x y : Int32} (h : s_isk x y) : s_ix (s_idx x y) (s_kn x y) 183 := by
  unfold s_idx; rw [if_pos h]; exact s_ix.nI h.lt (by decide)
theorem s_isk_nn {x y : Int32} (h : ¬ s_idx x y < 0) : s_isk x y := Decidable.not_not.mp (fun z => h (s_idx_neg.mpr z))
/-- the key is down -/
def s_dn (I : e_I) (x y : Int32) : Bool := !decide (s_idx x y < 0) && decide (I f_a_pressed (s_kn x y) ≠ 0)
set_option maxRecDepth 100000 in
set_option maxHeartbeats 4000000 in
theorem c_X3_countOf {X : e_XT} {d : Nat} {p : e_Sp} {I : e_I} {J : e_Jt} {c : Nat × Nat} {w : e_Rw1} {Q : e_Rt → e_SS → Prop}  (x : Int32) (k : Q (.inl (some (.int (s_kc x)))) (p, I, J, c, w)) : s_c X (d + 0) 55 [.int x] (p, I, J, c, w) Q := by
  refine m_X3_countOf (Nat.le_of_ble_eq_true rfl) ?_
  show s_w _ _ _ 0 _ _ _ _
  refine w_op (pc' := 1) dX3_countOf_0 rfl ?_
  refine w_ifne (t := 9) dX3_countOf_1 (by decide) (fun c1 => ?_) (fun c1 => ?_)
  · refine w_bipush (v := 61) dX3_countOf_9 rfl ?_
    exact w_ireturn dX3_countOf_11 ⟨rfl, s_eqi (by simp [s_kc, *]) k⟩
  · refine w_bipush (v := 32) dX3_countOf_4 rfl ?_
    refine w_goto (t := 11) dX3_countOf_6 (by decide) ?_
    exact w_ireturn dX3_countOf_11 ⟨rfl, s_eqi (by simp [s_kc, *]) k⟩
set_option maxRecDepth 100000 in
set_option maxHeartbeats 4000000 in
theorem c_X3_indexOf {X : e_XT} {d : Nat} {p : e_Sp} {I : e_I} {J : e_Jt} {c : Nat × Nat} {w : e_Rw1} {Q : e_Rt → e_SS → Prop}  {x y : Int32} (k : Q (.inl (some (.int (s_idx x y)))) (p, I, J, c, w)) : s_c X (d + 0) 50 [.int x, .int y] (p, I, J, c, w) Q := by
  refine m_X3_indexOf (Nat.le_of_ble_eq_true rfl) ?_
  show s_w _ _ _ 0 _ _ _ _
  refine w_op (pc' := 1) dX3_indexOf_0 rfl ?_
  refine w_iflt (t := 19) dX3_indexOf_1 (by decide) (fun c1 => ?_) (fun c1 => ?_)
  · refine w_iconst (v := (-1)) dX3_indexOf_19 rfl ?_
    exact w_ireturn dX3_indexOf_20 ⟨rfl, s_eqi (by rw [s_idx, if_neg (by grind)]) k⟩
  · refine w_op (pc' := 5) dX3_indexOf_4 rfl ?_
    refine w_iconst (v := 3) dX3_indexOf_5 rfl ?_
    refine w_icmpge (t := 19) dX3_indexOf_6 (by decide) (fun c6 => ?_) (fun c6 => ?_)
    · refine w_iconst (v := (-1)) dX3_indexOf_19 rfl ?_
      exact w_ireturn dX3_indexOf_20 ⟨rfl, s_eqi (by rw [s_idx, if_neg (by grind)]) k⟩
    · refine w_op (pc' := 10) dX3_indexOf_9 rfl ?_
      refine w_iflt (t := 19) dX3_indexOf_10 (by decide) (fun c10 => ?_) (fun c10 => ?_)
      · refine w_iconst (v := (-1)) dX3_indexOf_19 rfl ?_
        exact w_ireturn dX3_indexOf_20 ⟨rfl, s_eqi (by rw [s_idx, if_neg (by grind)]) k⟩
      · refine w_op (pc' := 14) dX3_indexOf_13 rfl ?_
        refine w_bipush (v := 61) dX3_indexOf_14 rfl ?_
        refine w_icmplt (t := 21) dX3_indexOf_16 (by decide) (fun c16 => ?_) (fun c16 => ?_)
        · refine w_op (pc' := 22) dX3_indexOf_21 rfl ?_
          refine w_ifne (t := 35) dX3_indexOf_22 (by decide) (fun c22 => ?_) (fun c22 => ?_)
          · refine w_op (pc' := 36) dX3_indexOf_35 rfl ?_
            refine w_bipush (v := 61) dX3_indexOf_36 rfl ?_
            refine w_op (pc' := 39) dX3_indexOf_38 rfl ?_
            refine w_op (pc' := 40) dX3_indexOf_39 rfl ?_
            refine w_op (pc' := 41) dX3_indexOf_40 rfl ?_
            exact w_ireturn dX3_indexOf_41 ⟨rfl, s_eqi (by have hk : s_isk x y := (by grind); rw [s_idx, if_pos hk]; exact (s_idx_mul hk).symm) k⟩
          · refine w_op (pc' := 26) dX3_indexOf_25 rfl ?_
            refine w_bipush (v := 32) dX3_indexOf_26 rfl ?_
            refine w_icmplt (t := 35) dX3_indexOf_28 (by decide) (fun c28 => ?_) (fun c28 => ?_)
            · refine w_op (pc' := 36) dX3_indexOf_35 rfl ?_
              refine w_bipush (v := 61) dX3_indexOf_36 rfl ?_
              refine w_op (pc' := 39) dX3_indexOf_38 rfl ?_
              refine w_op (pc' := 40) dX3_indexOf_39 rfl ?_
              refine w_op (pc' := 41) dX3_indexOf_40 rfl ?_
              exact w_ireturn dX3_indexOf_41 ⟨rfl, s_eqi (by have hk : s_isk x y := (by grind); rw [s_idx, if_pos hk]; exact (s_idx_mul hk).symm) k⟩
            · refine w_iconst (v := (-1)) dX3_indexOf_31 rfl ?_
              refine w_goto (t := 41) dX3_indexOf_32 (by decide) ?_
              exact w_ireturn dX3_indexOf_41 ⟨rfl, s_eqi (by rw [s_idx, if_neg (by grind)]) k⟩
        · refine w_iconst (v := (-1)) dX3_indexOf_19 rfl ?_
          exact w_ireturn dX3_indexOf_20 ⟨rfl, s_eqi (by rw [s_idx, if_neg (by grind)]) k⟩
set_option maxRecDepth 100000 in
set_option maxHeartbeats 4000000 in
theorem c_X3_isPressed {X : e_XT} {d : Nat} {p : e_Sp} {I : e_I} {J : e_Jt} {c : Nat × Nat} {w : e_Rw1} {Q : e_Rt → e_SS → Prop} (hp : s_ok p) {x y : Int32} (k : Q (.inl (some (.int (bI (s_dn I x y))))) (p, I, J, c, w)) : s_c X (d + 1) 49 [.ref (p.1 T_KEYS 0), .int x, .int y] (p, I, J, c, w) Q := by
  refine m_X3_isPressed (Nat.le_of_ble_eq_true rfl) ?_
  show s_w _ _ _ 0 _ _ _ _
  refine w_op (pc' := 1) dX3_isPressed_0 rfl ?_
  refine w_op (pc' := 2) dX3_isPressed_1 rfl ?_
  refine t_callS (As := [_, _]) dX3_isPressed_2 rfl rM_X3_indexOf (by decide) rfl rfl (by decide) (by simp) (c_X3_indexOf ?_)
  show s_w _ _ _ 5 _ _ _ _
  refine w_op (pc' := 6) (ll' := [_, _, _, _]) dX3_isPressed_5 rfl ?_
  refine w_op (pc' := 7) dX3_isPressed_6 rfl ?_
  refine w_iflt (t := 23) dX3_isPressed_7 (by decide) (fun c7 => ?_) (fun c7 => ?_)
  · refine w_iconst (v := 0) dX3_isPressed_23 rfl ?_
    exact w_ireturn dX3_isPressed_24 ⟨s_rcb (by first | exact Or.inl rfl | exact Or.inr rfl), s_eqi (by simp [s_dn, *]) k⟩
  · refine w_op (pc' := 11) dX3_isPressed_10 rfl ?_
    refine t_getG0 (G := g_y_pressed) dX3_isPressed_11 rfl rfl (by decide) rfl (fun _ => rfl) (hp.1 _ rfl) ?_
    refine w_op (pc' := 15) dX3_isPressed_14 rfl ?_
    refine t_bald0 (F := f_a_pressed) dX3_isPressed_15 rfl (by decide) rfl (hp.1 _ rfl) (s_idx_ix (s_isk_nn c7)) (s_isk.lt (s_isk_nn c7)) ?_
    refine w_ifeq (t := 23) dX3_isPressed_16 (by decide) (fun c16 => ?_) (fun c16 => ?_)
    · refine w_iconst (v := 0) dX3_isPressed_23 rfl ?_
      exact w_ireturn dX3_isPressed_24 ⟨s_rcb (by first | exact Or.inl rfl | exact Or.inr rfl), s_eqi (by simp [s_dn, *]) k⟩
    · refine w_iconst (v := 1) dX3_isPressed_19 rfl ?_
      refine w_goto (t := 24) dX3_isPressed_20 (by decide) ?_
      exact w_ireturn dX3_isPressed_24 ⟨s_rcb (by first | exact Or.inl rfl | exact Or.inr rfl), s_eqi (by simp [s_dn, *]) k⟩
