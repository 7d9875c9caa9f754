/-! 999: three keys of the classes asked (printed by wip/whole/p999.py) -/
def q_acS (I : e_I) (x y z u ch : Int32) (i : Nat) (a : Bool) : Bool := a && (decide (s_r12 (36 + x) = q_cla I (u + q_stp ch (nI i))) || (decide (s_r12 (36 + y) = q_cla I (u + q_stp ch (nI i))) || decide (s_r12 (36 + z) = q_cla I (u + q_stp ch (nI i)))))
def q_ac (I : e_I) (x y z u ch : Int32) : Bool := s_run (q_acS I x y z u ch) 0 3 true

set_option maxRecDepth 100000 in
set_option maxHeartbeats 400000 in
theorem l_X16_areClasses {X : e_XT} {d : Nat} {p : e_Sp} {I : e_I} {J : e_Jt} {c : Nat × Nat} {w : e_Rw1} {Q : e_Rt → e_SS → Prop} (hp : s_ok p) {x y z u ch : Int32} {r : Bool} (k : Q (.inl (some (.int (bI r)))) (p, I, J, c, w)) : ∀ (n : Nat) (i : Nat) (a : Bool) (o8 : Option Value), (h1 : i ≤ 3) → (hr : s_run (q_acS I x y z u ch) i (3 - i) a = r) → (hn : 3 - i < n) → s_w X (d + 1) K_X16_areClasses 6 [some (.ref (p.1 T_MODEL 0)), some (.int x), some (.int y), some (.int z), some (.int u), some (.int ch), some (.int (bI a)), some (.int (nI i)), o8] [] (p, I, J, c, w) (fun r S' => e_rcr (some FieldType.boolean) r = true ∧ Q r S') := by
  intro n
  induction n with
  | zero =>
    intro i a o8 h1 hr hn
    exact absurd hn (Nat.not_lt_zero _)
  | succ n ih =>
    intro i a o8 h1 hr hn
    refine w_op (pc' := 8) dX16_areClasses_6 rfl ?_
    refine w_iconst (v := 3) dX16_areClasses_8 rfl ?_
    refine w_icmpge (t := 83) dX16_areClasses_9 (by decide) (fun c9 => ?_) (fun c9 => ?_)
    · have hi : 3 ≤ i := (nI_leI (a := 3) (by omega) (by omega)).mp c9
      rw [s_run_z hi] at hr
      refine w_op (pc' := 85) dX16_areClasses_83 rfl ?_
      exact w_ireturn dX16_areClasses_85 ⟨s_rcb (bI_or _), by subst hr; exact k⟩
    · have hi : i < 3 := Nat.lt_of_not_le (fun t => c9 ((nI_leI (a := 3) (by omega) (by omega)).mpr t))
      refine w_op (pc' := 13) dX16_areClasses_12 rfl ?_
      refine w_op (pc' := 15) dX16_areClasses_13 rfl ?_
      refine w_op (pc' := 16) dX16_areClasses_15 rfl ?_
      refine w_op (pc' := 18) dX16_areClasses_16 rfl ?_
      refine w_op (pc' := 20) dX16_areClasses_18 rfl ?_
      refine t_callV (t := T_MODEL) (As := [_, _]) dX16_areClasses_20 rfl rM_X16_steps (by decide) rfl rfl (by decide) (by decide) (Nat.le_of_ble_eq_true rfl) rfl (hp.1 _ rfl) (c_X16_steps hp ?_)
      show s_w _ _ _ 23 _ _ _ _
      refine w_op (pc' := 24) dX16_areClasses_23 rfl ?_
      refine t_callV (t := T_MODEL) (As := [_]) dX16_areClasses_24 rfl rM_X16_classOf (by decide) rfl rfl (by decide) (by decide) (Nat.le_of_ble_eq_true rfl) rfl (hp.1 _ rfl) (c_X16_classOf hp ?_)
      show s_w _ _ _ 27 _ _ _ _
      refine w_op (pc' := 29) (ll' := [_, _, _, _, _, _, _, _, _]) dX16_areClasses_27 rfl ?_
      refine w_op (pc' := 31) dX16_areClasses_29 rfl ?_
      refine w_ifeq (t := 74) dX16_areClasses_31 (by decide) (fun c31 => ?_) (fun c31 => ?_)
      · refine w_iconst (v := 0) dX16_areClasses_74 rfl ?_
        refine w_op (pc' := 77) (ll' := [_, _, _, _, _, _, _, _, _]) dX16_areClasses_75 rfl ?_
        refine w_op (pc' := 80) (ll' := [_, _, _, _, _, _, _, _, _]) dX16_areClasses_77 rfl ?_
        refine w_goto (t := 6) dX16_areClasses_80 (by decide) ?_
        rw [show nI i + Int32.ofInt 1 = nI (i + 1) from nI_1 i]
        have ef : q_acS I x y z u ch i a = false := by unfold q_acS; rw [bI_0.mp c31]; rfl
        rw [s_run_s hi, ef] at hr
        exact ih (i + 1) false _ (by omega) hr (by omega)
      · refine w_bipush (v := 36) dX16_areClasses_34 rfl ?_
        refine w_op (pc' := 37) dX16_areClasses_36 rfl ?_
        refine w_op (pc' := 38) dX16_areClasses_37 rfl ?_
        refine w_bipush (v := 12) dX16_areClasses_38 rfl ?_
        refine w_op (pc' := 41) dX16_areClasses_40 (by rfl) ?_
        refine w_op (pc' := 43) dX16_areClasses_41 rfl ?_
        refine w_icmpeq (t := 70) dX16_areClasses_43 (by decide) (fun c43 => ?_) (fun c43 => ?_)
        · refine w_iconst (v := 1) dX16_areClasses_70 rfl ?_
          refine w_goto (t := 75) dX16_areClasses_71 (by decide) ?_
          refine w_op (pc' := 77) (ll' := [_, _, _, _, _, _, _, _, _]) dX16_areClasses_75 rfl ?_
          refine w_op (pc' := 80) (ll' := [_, _, _, _, _, _, _, _, _]) dX16_areClasses_77 rfl ?_
          refine w_goto (t := 6) dX16_areClasses_80 (by decide) ?_
          rw [show nI i + Int32.ofInt 1 = nI (i + 1) from nI_1 i]
          have ef : q_acS I x y z u ch i a = true := by unfold q_acS; rw [bI_n0.mp c31]; unfold s_r12; simp [c43]
          rw [s_run_s hi, ef] at hr
          exact ih (i + 1) true _ (by omega) hr (by omega)
        · refine w_bipush (v := 36) dX16_areClasses_46 rfl ?_
          refine w_op (pc' := 49) dX16_areClasses_48 rfl ?_
          refine w_op (pc' := 50) dX16_areClasses_49 rfl ?_
          refine w_bipush (v := 12) dX16_areClasses_50 rfl ?_
          refine w_op (pc' := 53) dX16_areClasses_52 (by rfl) ?_
          refine w_op (pc' := 55) dX16_areClasses_53 rfl ?_
          refine w_icmpeq (t := 70) dX16_areClasses_55 (by decide) (fun c55 => ?_) (fun c55 => ?_)
          · refine w_iconst (v := 1) dX16_areClasses_70 rfl ?_
            refine w_goto (t := 75) dX16_areClasses_71 (by decide) ?_
            refine w_op (pc' := 77) (ll' := [_, _, _, _, _, _, _, _, _]) dX16_areClasses_75 rfl ?_
            refine w_op (pc' := 80) (ll' := [_, _, _, _, _, _, _, _, _]) dX16_areClasses_77 rfl ?_
            refine w_goto (t := 6) dX16_areClasses_80 (by decide) ?_
            rw [show nI i + Int32.ofInt 1 = nI (i + 1) from nI_1 i]
            have ef : q_acS I x y z u ch i a = true := by unfold q_acS; rw [bI_n0.mp c31]; unfold s_r12; simp [c55]
            rw [s_run_s hi, ef] at hr
            exact ih (i + 1) true _ (by omega) hr (by omega)
          · refine w_bipush (v := 36) dX16_areClasses_58 rfl ?_
            refine w_op (pc' := 61) dX16_areClasses_60 rfl ?_
            refine w_op (pc' := 62) dX16_areClasses_61 rfl ?_
            refine w_bipush (v := 12) dX16_areClasses_62 rfl ?_
            refine w_op (pc' := 65) dX16_areClasses_64 (by rfl) ?_
            refine w_op (pc' := 67) dX16_areClasses_65 rfl ?_
            refine w_icmpne (t := 74) dX16_areClasses_67 (by decide) (fun c67 => ?_) (fun c67 => ?_)
            · refine w_iconst (v := 0) dX16_areClasses_74 rfl ?_
              refine w_op (pc' := 77) (ll' := [_, _, _, _, _, _, _, _, _]) dX16_areClasses_75 rfl ?_
              refine w_op (pc' := 80) (ll' := [_, _, _, _, _, _, _, _, _]) dX16_areClasses_77 rfl ?_
              refine w_goto (t := 6) dX16_areClasses_80 (by decide) ?_
              rw [show nI i + Int32.ofInt 1 = nI (i + 1) from nI_1 i]
              have ef : q_acS I x y z u ch i a = false := by unfold q_acS; rw [bI_n0.mp c31]; unfold s_r12; simp [c43, c55, c67]
              rw [s_run_s hi, ef] at hr
              exact ih (i + 1) false _ (by omega) hr (by omega)
            · refine w_iconst (v := 1) dX16_areClasses_70 rfl ?_
              refine w_goto (t := 75) dX16_areClasses_71 (by decide) ?_
              refine w_op (pc' := 77) (ll' := [_, _, _, _, _, _, _, _, _]) dX16_areClasses_75 rfl ?_
              refine w_op (pc' := 80) (ll' := [_, _, _, _, _, _, _, _, _]) dX16_areClasses_77 rfl ?_
              refine w_goto (t := 6) dX16_areClasses_80 (by decide) ?_
              rw [show nI i + Int32.ofInt 1 = nI (i + 1) from nI_1 i]
              have ef : q_acS I x y z u ch i a = true := by unfold q_acS; rw [bI_n0.mp c31]; unfold s_r12; simp [c67]
              rw [s_run_s hi, ef] at hr
              exact ih (i + 1) true _ (by omega) hr (by omega)
set_option maxRecDepth 100000 in
set_option maxHeartbeats 400000 in
theorem c_X16_areClasses {X : e_XT} {d : Nat} {p : e_Sp} {I : e_I} {J : e_Jt} {c : Nat × Nat} {w : e_Rw1} {Q : e_Rt → e_SS → Prop} (hp : s_ok p) {x y z u ch : Int32} (k : Q (.inl (some (.int (bI (q_ac I x y z u ch))))) (p, I, J, c, w)) : s_c X (d + 1) 314 [.ref (p.1 T_MODEL 0), .int x, .int y, .int z, .int u, .int ch] (p, I, J, c, w) Q := by
  refine m_X16_areClasses (Nat.le_of_ble_eq_true rfl) ?_
  show s_w _ _ _ 0 _ _ _ _
  refine w_iconst (v := 1) dX16_areClasses_0 rfl ?_
  refine w_op (pc' := 3) (ll' := [_, _, _, _, _, _, _, _, _]) dX16_areClasses_1 rfl ?_
  refine w_iconst (v := 0) dX16_areClasses_3 rfl ?_
  refine w_op (pc' := 6) (ll' := [_, _, _, _, _, _, _, _, _]) dX16_areClasses_4 rfl ?_
  exact l_X16_areClasses hp k 4 0 true _ (Nat.zero_le _) rfl (by omega)

