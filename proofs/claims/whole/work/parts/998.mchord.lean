/-! 998: chords of the second implementation, small things (printed by wip/whole/p998.py) -/
def q_cs1 (x : Int32) : Int32 := if x < 3 then 2 * x else 2 * x - 1
def q_cs2 (I : e_I) (x : Int32) : Int32 := if I f_m_isMajor 0 = 0 ∧ (x = 2 ∨ x = 5 ∨ x = 6) then q_cs1 x - 1 else q_cs1 x
/-- the class of a step of the scale -/
def q_cla (I : e_I) (x : Int32) : Int32 := s_r12 (I f_m_tonic 0 + q_cs2 I (x - x / 7 * 7))
def q_stp (ch x : Int32) : Int32 := if x = 0 then (if ch = 52 then 3 else 2) else if x = 1 then (if ch = 53 ∨ ch = 55 then 4 else 5) else if ch = 55 then 6 else 0
def q_vo (u x y z n : Int32) : Int32 := if n = 0 then u else if n = 1 then x else if n = 2 then y else z
def q_fa (I : e_I) (x y z : Int32) : Int32 := if I f_m_hasChord 0 = 0 then s_abs (x - 24) + s_abs (y - 28) + s_abs (z - 31) else s_abs (x - I f_m_chord 1) + s_abs (y - I f_m_chord 2) + s_abs (z - I f_m_chord 3)
theorem s_ixk {j N : Nat} {x : Int32} (h : x = nI j) (hj : j < N) (hN : N ≤ 2147483647) : s_ix x j N := by rw [h]; exact s_ix.nI hj hN

set_option maxRecDepth 100000 in
set_option maxHeartbeats 400000 in
theorem c_X16_classOf {X : e_XT} {d : Nat} {p : e_Sp} {I : e_I} {J : e_Jt} {c : Nat × Nat} {w : e_Rw1} {Q : e_Rt → e_SS → Prop} (hp : s_ok p) {x : Int32} (k : Q (.inl (some (.int (q_cla I x)))) (p, I, J, c, w)) : s_c X (d + 0) 312 [.ref (p.1 T_MODEL 0), .int x] (p, I, J, c, w) Q := by
  refine m_X16_classOf (Nat.le_of_ble_eq_true rfl) ?_
  show s_w _ _ _ 0 _ _ _ _
  refine w_op (pc' := 1) dX16_classOf_0 rfl ?_
  refine w_bipush (v := 7) dX16_classOf_1 rfl ?_
  refine w_op (pc' := 4) dX16_classOf_3 (by rfl) ?_
  refine w_op (pc' := 5) (ll' := [_, _, _, _, _]) dX16_classOf_4 rfl ?_
  refine w_op (pc' := 6) dX16_classOf_5 rfl ?_
  refine w_iconst (v := 3) dX16_classOf_6 rfl ?_
  refine w_icmpge (t := 16) dX16_classOf_7 (by decide) (fun c7 => ?_) (fun c7 => ?_)
  · refine w_iconst (v := 2) dX16_classOf_16 rfl ?_
    refine w_op (pc' := 18) dX16_classOf_17 rfl ?_
    refine w_op (pc' := 19) dX16_classOf_18 rfl ?_
    refine w_iconst (v := 1) dX16_classOf_19 rfl ?_
    refine w_op (pc' := 21) dX16_classOf_20 rfl ?_
    refine w_op (pc' := 22) (ll' := [_, _, _, _, _]) dX16_classOf_21 rfl ?_
    refine w_op (pc' := 23) dX16_classOf_22 rfl ?_
    refine t_getI (F := f_m_isMajor) dX16_classOf_23 rfl rfl (by decide) rfl ⟨rfl, fun _ => rfl⟩ (hp.1 _ rfl) ?_
    refine w_ifne (t := 45) dX16_classOf_26 (by decide) (fun c26 => ?_) (fun c26 => ?_)
    · refine w_op (pc' := 46) dX16_classOf_45 rfl ?_
      refine w_goto (t := 52) dX16_classOf_46 (by decide) ?_
      refine w_op (pc' := 54) (ll' := [_, _, _, _, _]) dX16_classOf_52 rfl ?_
      refine w_op (pc' := 55) dX16_classOf_54 rfl ?_
      refine t_getI (F := f_m_tonic) dX16_classOf_55 rfl rfl (by decide) rfl ⟨rfl, fun _ => rfl⟩ (hp.1 _ rfl) ?_
      refine w_op (pc' := 60) dX16_classOf_58 rfl ?_
      refine w_op (pc' := 61) dX16_classOf_60 rfl ?_
      refine w_bipush (v := 12) dX16_classOf_61 rfl ?_
      refine w_op (pc' := 64) dX16_classOf_63 (by rfl) ?_
      exact w_ireturn dX16_classOf_64 ⟨rfl, s_eqi (by unfold q_cla s_r12 q_cs2 q_cs1; grind) k⟩
    · refine w_op (pc' := 30) dX16_classOf_29 rfl ?_
      refine w_iconst (v := 2) dX16_classOf_30 rfl ?_
      refine w_icmpeq (t := 49) dX16_classOf_31 (by decide) (fun c31 => ?_) (fun c31 => ?_)
      · refine w_op (pc' := 50) dX16_classOf_49 rfl ?_
        refine w_iconst (v := 1) dX16_classOf_50 rfl ?_
        refine w_op (pc' := 52) dX16_classOf_51 rfl ?_
        refine w_op (pc' := 54) (ll' := [_, _, _, _, _]) dX16_classOf_52 rfl ?_
        refine w_op (pc' := 55) dX16_classOf_54 rfl ?_
        refine t_getI (F := f_m_tonic) dX16_classOf_55 rfl rfl (by decide) rfl ⟨rfl, fun _ => rfl⟩ (hp.1 _ rfl) ?_
        refine w_op (pc' := 60) dX16_classOf_58 rfl ?_
        refine w_op (pc' := 61) dX16_classOf_60 rfl ?_
        refine w_bipush (v := 12) dX16_classOf_61 rfl ?_
        refine w_op (pc' := 64) dX16_classOf_63 (by rfl) ?_
        exact w_ireturn dX16_classOf_64 ⟨rfl, s_eqi (by unfold q_cla s_r12 q_cs2 q_cs1; grind) k⟩
      · refine w_op (pc' := 35) dX16_classOf_34 rfl ?_
        refine w_iconst (v := 5) dX16_classOf_35 rfl ?_
        refine w_icmpeq (t := 49) dX16_classOf_36 (by decide) (fun c36 => ?_) (fun c36 => ?_)
        · refine w_op (pc' := 50) dX16_classOf_49 rfl ?_
          refine w_iconst (v := 1) dX16_classOf_50 rfl ?_
          refine w_op (pc' := 52) dX16_classOf_51 rfl ?_
          refine w_op (pc' := 54) (ll' := [_, _, _, _, _]) dX16_classOf_52 rfl ?_
          refine w_op (pc' := 55) dX16_classOf_54 rfl ?_
          refine t_getI (F := f_m_tonic) dX16_classOf_55 rfl rfl (by decide) rfl ⟨rfl, fun _ => rfl⟩ (hp.1 _ rfl) ?_
          refine w_op (pc' := 60) dX16_classOf_58 rfl ?_
          refine w_op (pc' := 61) dX16_classOf_60 rfl ?_
          refine w_bipush (v := 12) dX16_classOf_61 rfl ?_
          refine w_op (pc' := 64) dX16_classOf_63 (by rfl) ?_
          exact w_ireturn dX16_classOf_64 ⟨rfl, s_eqi (by unfold q_cla s_r12 q_cs2 q_cs1; grind) k⟩
        · refine w_op (pc' := 40) dX16_classOf_39 rfl ?_
          refine w_bipush (v := 6) dX16_classOf_40 rfl ?_
          refine w_icmpeq (t := 49) dX16_classOf_42 (by decide) (fun c42 => ?_) (fun c42 => ?_)
          · refine w_op (pc' := 50) dX16_classOf_49 rfl ?_
            refine w_iconst (v := 1) dX16_classOf_50 rfl ?_
            refine w_op (pc' := 52) dX16_classOf_51 rfl ?_
            refine w_op (pc' := 54) (ll' := [_, _, _, _, _]) dX16_classOf_52 rfl ?_
            refine w_op (pc' := 55) dX16_classOf_54 rfl ?_
            refine t_getI (F := f_m_tonic) dX16_classOf_55 rfl rfl (by decide) rfl ⟨rfl, fun _ => rfl⟩ (hp.1 _ rfl) ?_
            refine w_op (pc' := 60) dX16_classOf_58 rfl ?_
            refine w_op (pc' := 61) dX16_classOf_60 rfl ?_
            refine w_bipush (v := 12) dX16_classOf_61 rfl ?_
            refine w_op (pc' := 64) dX16_classOf_63 (by rfl) ?_
            exact w_ireturn dX16_classOf_64 ⟨rfl, s_eqi (by unfold q_cla s_r12 q_cs2 q_cs1; grind) k⟩
          · refine w_op (pc' := 46) dX16_classOf_45 rfl ?_
            refine w_goto (t := 52) dX16_classOf_46 (by decide) ?_
            refine w_op (pc' := 54) (ll' := [_, _, _, _, _]) dX16_classOf_52 rfl ?_
            refine w_op (pc' := 55) dX16_classOf_54 rfl ?_
            refine t_getI (F := f_m_tonic) dX16_classOf_55 rfl rfl (by decide) rfl ⟨rfl, fun _ => rfl⟩ (hp.1 _ rfl) ?_
            refine w_op (pc' := 60) dX16_classOf_58 rfl ?_
            refine w_op (pc' := 61) dX16_classOf_60 rfl ?_
            refine w_bipush (v := 12) dX16_classOf_61 rfl ?_
            refine w_op (pc' := 64) dX16_classOf_63 (by rfl) ?_
            exact w_ireturn dX16_classOf_64 ⟨rfl, s_eqi (by unfold q_cla s_r12 q_cs2 q_cs1; grind) k⟩
  · refine w_iconst (v := 2) dX16_classOf_10 rfl ?_
    refine w_op (pc' := 12) dX16_classOf_11 rfl ?_
    refine w_op (pc' := 13) dX16_classOf_12 rfl ?_
    refine w_goto (t := 21) dX16_classOf_13 (by decide) ?_
    refine w_op (pc' := 22) (ll' := [_, _, _, _, _]) dX16_classOf_21 rfl ?_
    refine w_op (pc' := 23) dX16_classOf_22 rfl ?_
    refine t_getI (F := f_m_isMajor) dX16_classOf_23 rfl rfl (by decide) rfl ⟨rfl, fun _ => rfl⟩ (hp.1 _ rfl) ?_
    refine w_ifne (t := 45) dX16_classOf_26 (by decide) (fun c26 => ?_) (fun c26 => ?_)
    · refine w_op (pc' := 46) dX16_classOf_45 rfl ?_
      refine w_goto (t := 52) dX16_classOf_46 (by decide) ?_
      refine w_op (pc' := 54) (ll' := [_, _, _, _, _]) dX16_classOf_52 rfl ?_
      refine w_op (pc' := 55) dX16_classOf_54 rfl ?_
      refine t_getI (F := f_m_tonic) dX16_classOf_55 rfl rfl (by decide) rfl ⟨rfl, fun _ => rfl⟩ (hp.1 _ rfl) ?_
      refine w_op (pc' := 60) dX16_classOf_58 rfl ?_
      refine w_op (pc' := 61) dX16_classOf_60 rfl ?_
      refine w_bipush (v := 12) dX16_classOf_61 rfl ?_
      refine w_op (pc' := 64) dX16_classOf_63 (by rfl) ?_
      exact w_ireturn dX16_classOf_64 ⟨rfl, s_eqi (by unfold q_cla s_r12 q_cs2 q_cs1; grind) k⟩
    · refine w_op (pc' := 30) dX16_classOf_29 rfl ?_
      refine w_iconst (v := 2) dX16_classOf_30 rfl ?_
      refine w_icmpeq (t := 49) dX16_classOf_31 (by decide) (fun c31 => ?_) (fun c31 => ?_)
      · refine w_op (pc' := 50) dX16_classOf_49 rfl ?_
        refine w_iconst (v := 1) dX16_classOf_50 rfl ?_
        refine w_op (pc' := 52) dX16_classOf_51 rfl ?_
        refine w_op (pc' := 54) (ll' := [_, _, _, _, _]) dX16_classOf_52 rfl ?_
        refine w_op (pc' := 55) dX16_classOf_54 rfl ?_
        refine t_getI (F := f_m_tonic) dX16_classOf_55 rfl rfl (by decide) rfl ⟨rfl, fun _ => rfl⟩ (hp.1 _ rfl) ?_
        refine w_op (pc' := 60) dX16_classOf_58 rfl ?_
        refine w_op (pc' := 61) dX16_classOf_60 rfl ?_
        refine w_bipush (v := 12) dX16_classOf_61 rfl ?_
        refine w_op (pc' := 64) dX16_classOf_63 (by rfl) ?_
        exact w_ireturn dX16_classOf_64 ⟨rfl, s_eqi (by unfold q_cla s_r12 q_cs2 q_cs1; grind) k⟩
      · refine w_op (pc' := 35) dX16_classOf_34 rfl ?_
        refine w_iconst (v := 5) dX16_classOf_35 rfl ?_
        refine w_icmpeq (t := 49) dX16_classOf_36 (by decide) (fun c36 => ?_) (fun c36 => ?_)
        · refine w_op (pc' := 50) dX16_classOf_49 rfl ?_
          refine w_iconst (v := 1) dX16_classOf_50 rfl ?_
          refine w_op (pc' := 52) dX16_classOf_51 rfl ?_
          refine w_op (pc' := 54) (ll' := [_, _, _, _, _]) dX16_classOf_52 rfl ?_
          refine w_op (pc' := 55) dX16_classOf_54 rfl ?_
          refine t_getI (F := f_m_tonic) dX16_classOf_55 rfl rfl (by decide) rfl ⟨rfl, fun _ => rfl⟩ (hp.1 _ rfl) ?_
          refine w_op (pc' := 60) dX16_classOf_58 rfl ?_
          refine w_op (pc' := 61) dX16_classOf_60 rfl ?_
          refine w_bipush (v := 12) dX16_classOf_61 rfl ?_
          refine w_op (pc' := 64) dX16_classOf_63 (by rfl) ?_
          exact w_ireturn dX16_classOf_64 ⟨rfl, s_eqi (by unfold q_cla s_r12 q_cs2 q_cs1; grind) k⟩
        · refine w_op (pc' := 40) dX16_classOf_39 rfl ?_
          refine w_bipush (v := 6) dX16_classOf_40 rfl ?_
          refine w_icmpeq (t := 49) dX16_classOf_42 (by decide) (fun c42 => ?_) (fun c42 => ?_)
          · refine w_op (pc' := 50) dX16_classOf_49 rfl ?_
            refine w_iconst (v := 1) dX16_classOf_50 rfl ?_
            refine w_op (pc' := 52) dX16_classOf_51 rfl ?_
            refine w_op (pc' := 54) (ll' := [_, _, _, _, _]) dX16_classOf_52 rfl ?_
            refine w_op (pc' := 55) dX16_classOf_54 rfl ?_
            refine t_getI (F := f_m_tonic) dX16_classOf_55 rfl rfl (by decide) rfl ⟨rfl, fun _ => rfl⟩ (hp.1 _ rfl) ?_
            refine w_op (pc' := 60) dX16_classOf_58 rfl ?_
            refine w_op (pc' := 61) dX16_classOf_60 rfl ?_
            refine w_bipush (v := 12) dX16_classOf_61 rfl ?_
            refine w_op (pc' := 64) dX16_classOf_63 (by rfl) ?_
            exact w_ireturn dX16_classOf_64 ⟨rfl, s_eqi (by unfold q_cla s_r12 q_cs2 q_cs1; grind) k⟩
          · refine w_op (pc' := 46) dX16_classOf_45 rfl ?_
            refine w_goto (t := 52) dX16_classOf_46 (by decide) ?_
            refine w_op (pc' := 54) (ll' := [_, _, _, _, _]) dX16_classOf_52 rfl ?_
            refine w_op (pc' := 55) dX16_classOf_54 rfl ?_
            refine t_getI (F := f_m_tonic) dX16_classOf_55 rfl rfl (by decide) rfl ⟨rfl, fun _ => rfl⟩ (hp.1 _ rfl) ?_
            refine w_op (pc' := 60) dX16_classOf_58 rfl ?_
            refine w_op (pc' := 61) dX16_classOf_60 rfl ?_
            refine w_bipush (v := 12) dX16_classOf_61 rfl ?_
            refine w_op (pc' := 64) dX16_classOf_63 (by rfl) ?_
            exact w_ireturn dX16_classOf_64 ⟨rfl, s_eqi (by unfold q_cla s_r12 q_cs2 q_cs1; grind) k⟩

set_option maxRecDepth 100000 in
set_option maxHeartbeats 400000 in
theorem c_X16_steps {X : e_XT} {d : Nat} {p : e_Sp} {I : e_I} {J : e_Jt} {c : Nat × Nat} {w : e_Rw1} {Q : e_Rt → e_SS → Prop} (hp : s_ok p) {ch x : Int32} (k : Q (.inl (some (.int (q_stp ch x)))) (p, I, J, c, w)) : s_c X (d + 0) 315 [.ref (p.1 T_MODEL 0), .int ch, .int x] (p, I, J, c, w) Q := by
  refine m_X16_steps (Nat.le_of_ble_eq_true rfl) ?_
  show s_w _ _ _ 0 _ _ _ _
  refine w_op (pc' := 1) dX16_steps_0 rfl ?_
  refine w_ifne (t := 16) dX16_steps_1 (by decide) (fun c1 => ?_) (fun c1 => ?_)
  · refine w_op (pc' := 17) dX16_steps_16 rfl ?_
    refine w_iconst (v := 1) dX16_steps_17 rfl ?_
    refine w_icmpne (t := 39) dX16_steps_18 (by decide) (fun c18 => ?_) (fun c18 => ?_)
    · refine w_op (pc' := 40) dX16_steps_39 rfl ?_
      refine w_bipush (v := 55) dX16_steps_40 rfl ?_
      refine w_icmpne (t := 50) dX16_steps_42 (by decide) (fun c42 => ?_) (fun c42 => ?_)
      · refine w_iconst (v := 0) dX16_steps_50 rfl ?_
        exact w_ireturn dX16_steps_51 ⟨rfl, s_eqi (by unfold q_stp; grind) k⟩
      · refine w_bipush (v := 6) dX16_steps_45 rfl ?_
        refine w_goto (t := 51) dX16_steps_47 (by decide) ?_
        exact w_ireturn dX16_steps_51 ⟨rfl, s_eqi (by unfold q_stp; grind) k⟩
    · refine w_op (pc' := 22) dX16_steps_21 rfl ?_
      refine w_bipush (v := 53) dX16_steps_22 rfl ?_
      refine w_icmpeq (t := 33) dX16_steps_24 (by decide) (fun c24 => ?_) (fun c24 => ?_)
      · refine w_iconst (v := 4) dX16_steps_33 rfl ?_
        refine w_goto (t := 38) dX16_steps_34 (by decide) ?_
        exact w_ireturn dX16_steps_38 ⟨rfl, s_eqi (by unfold q_stp; grind) k⟩
      · refine w_op (pc' := 28) dX16_steps_27 rfl ?_
        refine w_bipush (v := 55) dX16_steps_28 rfl ?_
        refine w_icmpne (t := 37) dX16_steps_30 (by decide) (fun c30 => ?_) (fun c30 => ?_)
        · refine w_iconst (v := 5) dX16_steps_37 rfl ?_
          exact w_ireturn dX16_steps_38 ⟨rfl, s_eqi (by unfold q_stp; grind) k⟩
        · refine w_iconst (v := 4) dX16_steps_33 rfl ?_
          refine w_goto (t := 38) dX16_steps_34 (by decide) ?_
          exact w_ireturn dX16_steps_38 ⟨rfl, s_eqi (by unfold q_stp; grind) k⟩
  · refine w_op (pc' := 5) dX16_steps_4 rfl ?_
    refine w_bipush (v := 52) dX16_steps_5 rfl ?_
    refine w_icmpne (t := 14) dX16_steps_7 (by decide) (fun c7 => ?_) (fun c7 => ?_)
    · refine w_iconst (v := 2) dX16_steps_14 rfl ?_
      exact w_ireturn dX16_steps_15 ⟨rfl, s_eqi (by unfold q_stp; grind) k⟩
    · refine w_iconst (v := 3) dX16_steps_10 rfl ?_
      refine w_goto (t := 15) dX16_steps_11 (by decide) ?_
      exact w_ireturn dX16_steps_15 ⟨rfl, s_eqi (by unfold q_stp; grind) k⟩

set_option maxRecDepth 100000 in
set_option maxHeartbeats 400000 in
theorem c_X16_isPerfect {X : e_XT} {d : Nat} {p : e_Sp} {I : e_I} {J : e_Jt} {c : Nat × Nat} {w : e_Rw1} {Q : e_Rt → e_SS → Prop} {x : Int32} (k : Q (.inl (some (.int (bI (s_pfc x))))) (p, I, J, c, w)) : s_c X (d + 0) 318 [.int x] (p, I, J, c, w) Q := by
  refine m_X16_isPerfect (Nat.le_of_ble_eq_true rfl) ?_
  show s_w _ _ _ 0 _ _ _ _
  refine w_op (pc' := 1) dX16_isPerfect_0 rfl ?_
  refine w_bipush (v := 12) dX16_isPerfect_1 rfl ?_
  refine w_op (pc' := 4) dX16_isPerfect_3 (by rfl) ?_
  refine w_bipush (v := 7) dX16_isPerfect_4 rfl ?_
  refine w_icmpeq (t := 20) dX16_isPerfect_6 (by decide) (fun c6 => ?_) (fun c6 => ?_)
  · refine w_iconst (v := 1) dX16_isPerfect_20 rfl ?_
    refine w_goto (t := 25) dX16_isPerfect_21 (by decide) ?_
    exact w_ireturn dX16_isPerfect_25 ⟨s_rcb (by first | exact Or.inl rfl | exact Or.inr rfl | exact bI_or _), s_eqi (by unfold s_pfc s_r12; grind) k⟩
  · refine w_op (pc' := 10) dX16_isPerfect_9 rfl ?_
    refine w_ifle (t := 24) dX16_isPerfect_10 (by decide) (fun c10 => ?_) (fun c10 => ?_)
    · refine w_iconst (v := 0) dX16_isPerfect_24 rfl ?_
      exact w_ireturn dX16_isPerfect_25 ⟨s_rcb (by first | exact Or.inl rfl | exact Or.inr rfl | exact bI_or _), s_eqi (by unfold s_pfc s_r12; grind) k⟩
    · refine w_op (pc' := 14) dX16_isPerfect_13 rfl ?_
      refine w_bipush (v := 12) dX16_isPerfect_14 rfl ?_
      refine w_op (pc' := 17) dX16_isPerfect_16 (by rfl) ?_
      refine w_ifne (t := 24) dX16_isPerfect_17 (by decide) (fun c17 => ?_) (fun c17 => ?_)
      · refine w_iconst (v := 0) dX16_isPerfect_24 rfl ?_
        exact w_ireturn dX16_isPerfect_25 ⟨s_rcb (by first | exact Or.inl rfl | exact Or.inr rfl | exact bI_or _), s_eqi (by unfold s_pfc s_r12; grind) k⟩
      · refine w_iconst (v := 1) dX16_isPerfect_20 rfl ?_
        refine w_goto (t := 25) dX16_isPerfect_21 (by decide) ?_
        exact w_ireturn dX16_isPerfect_25 ⟨s_rcb (by first | exact Or.inl rfl | exact Or.inr rfl | exact bI_or _), s_eqi (by unfold s_pfc s_r12; grind) k⟩

set_option maxRecDepth 100000 in
set_option maxHeartbeats 400000 in
theorem c_X16_voice {X : e_XT} {d : Nat} {p : e_Sp} {I : e_I} {J : e_Jt} {c : Nat × Nat} {w : e_Rw1} {Q : e_Rt → e_SS → Prop} (hp : s_ok p) {u x y z n : Int32} (k : Q (.inl (some (.int (q_vo u x y z n)))) (p, I, J, c, w)) : s_c X (d + 0) 317 [.ref (p.1 T_MODEL 0), .int u, .int x, .int y, .int z, .int n] (p, I, J, c, w) Q := by
  refine m_X16_voice (Nat.le_of_ble_eq_true rfl) ?_
  show s_w _ _ _ 0 _ _ _ _
  refine w_op (pc' := 2) dX16_voice_0 rfl ?_
  refine w_ifne (t := 9) dX16_voice_2 (by decide) (fun c2 => ?_) (fun c2 => ?_)
  · refine w_op (pc' := 11) dX16_voice_9 rfl ?_
    refine w_iconst (v := 1) dX16_voice_11 rfl ?_
    refine w_icmpne (t := 19) dX16_voice_12 (by decide) (fun c12 => ?_) (fun c12 => ?_)
    · refine w_op (pc' := 21) dX16_voice_19 rfl ?_
      refine w_iconst (v := 2) dX16_voice_21 rfl ?_
      refine w_icmpne (t := 29) dX16_voice_22 (by decide) (fun c22 => ?_) (fun c22 => ?_)
      · refine w_op (pc' := 31) dX16_voice_29 rfl ?_
        exact w_ireturn dX16_voice_31 ⟨rfl, s_eqi (by unfold q_vo; grind) k⟩
      · refine w_op (pc' := 26) dX16_voice_25 rfl ?_
        refine w_goto (t := 31) dX16_voice_26 (by decide) ?_
        exact w_ireturn dX16_voice_31 ⟨rfl, s_eqi (by unfold q_vo; grind) k⟩
    · refine w_op (pc' := 16) dX16_voice_15 rfl ?_
      refine w_goto (t := 31) dX16_voice_16 (by decide) ?_
      exact w_ireturn dX16_voice_31 ⟨rfl, s_eqi (by unfold q_vo; grind) k⟩
  · refine w_op (pc' := 6) dX16_voice_5 rfl ?_
    refine w_goto (t := 31) dX16_voice_6 (by decide) ?_
    exact w_ireturn dX16_voice_31 ⟨rfl, s_eqi (by unfold q_vo; grind) k⟩

set_option maxRecDepth 100000 in
set_option maxHeartbeats 400000 in
theorem c_X16_far {X : e_XT} {d : Nat} {p : e_Sp} {I : e_I} {J : e_Jt} {c : Nat × Nat} {w : e_Rw1} {Q : e_Rt → e_SS → Prop} (hp : s_ok p) {x y z : Int32} (k : Q (.inl (some (.int (q_fa I x y z)))) (p, I, J, c, w)) : s_c X (d + 1) 319 [.ref (p.1 T_MODEL 0), .int x, .int y, .int z] (p, I, J, c, w) Q := by
  refine m_X16_far (Nat.le_of_ble_eq_true rfl) ?_
  show s_w _ _ _ 0 _ _ _ _
  refine w_op (pc' := 1) dX16_far_0 rfl ?_
  refine t_getI (F := f_m_hasChord) dX16_far_1 rfl rfl (by decide) rfl ⟨rfl, fun _ => rfl⟩ (hp.1 _ rfl) ?_
  refine w_ifne (t := 31) dX16_far_4 (by decide) (fun c4 => ?_) (fun c4 => ?_)
  · refine w_op (pc' := 32) dX16_far_31 rfl ?_
    refine w_op (pc' := 33) dX16_far_32 rfl ?_
    refine t_getG0 (G := g_m_chord) dX16_far_33 rfl rfl (by decide) rfl (fun _ => rfl) (hp.1 _ rfl) ?_
    refine w_iconst (v := 1) dX16_far_36 rfl ?_
    refine t_iald0 (F := f_m_chord) dX16_far_37 rfl (by decide) rfl (hp.1 _ rfl) (s_ixk (j := 1) (N := 4) rfl (by decide) (by decide)) (by decide) ?_
    refine w_op (pc' := 39) dX16_far_38 rfl ?_
    refine t_callS (As := [_]) dX16_far_39 rfl rM_J9_abs_0f7a4 (by decide) rfl rfl (by decide) (Nat.le_of_ble_eq_true rfl) (c_abs ?_)
    show s_w _ _ _ 42 _ _ _ _
    refine w_op (pc' := 43) dX16_far_42 rfl ?_
    refine w_op (pc' := 44) dX16_far_43 rfl ?_
    refine t_getG0 (G := g_m_chord) dX16_far_44 rfl rfl (by decide) rfl (fun _ => rfl) (hp.1 _ rfl) ?_
    refine w_iconst (v := 2) dX16_far_47 rfl ?_
    refine t_iald0 (F := f_m_chord) dX16_far_48 rfl (by decide) rfl (hp.1 _ rfl) (s_ixk (j := 2) (N := 4) rfl (by decide) (by decide)) (by decide) ?_
    refine w_op (pc' := 50) dX16_far_49 rfl ?_
    refine t_callS (As := [_]) dX16_far_50 rfl rM_J9_abs_0f7a4 (by decide) rfl rfl (by decide) (Nat.le_of_ble_eq_true rfl) (c_abs ?_)
    show s_w _ _ _ 53 _ _ _ _
    refine w_op (pc' := 54) dX16_far_53 rfl ?_
    refine w_op (pc' := 55) dX16_far_54 rfl ?_
    refine w_op (pc' := 56) dX16_far_55 rfl ?_
    refine t_getG0 (G := g_m_chord) dX16_far_56 rfl rfl (by decide) rfl (fun _ => rfl) (hp.1 _ rfl) ?_
    refine w_iconst (v := 3) dX16_far_59 rfl ?_
    refine t_iald0 (F := f_m_chord) dX16_far_60 rfl (by decide) rfl (hp.1 _ rfl) (s_ixk (j := 3) (N := 4) rfl (by decide) (by decide)) (by decide) ?_
    refine w_op (pc' := 62) dX16_far_61 rfl ?_
    refine t_callS (As := [_]) dX16_far_62 rfl rM_J9_abs_0f7a4 (by decide) rfl rfl (by decide) (Nat.le_of_ble_eq_true rfl) (c_abs ?_)
    show s_w _ _ _ 65 _ _ _ _
    refine w_op (pc' := 66) dX16_far_65 rfl ?_
    exact w_ireturn dX16_far_66 ⟨rfl, s_eqi (by unfold q_fa; grind) k⟩
  · refine w_op (pc' := 8) dX16_far_7 rfl ?_
    refine w_bipush (v := 24) dX16_far_8 rfl ?_
    refine w_op (pc' := 11) dX16_far_10 rfl ?_
    refine t_callS (As := [_]) dX16_far_11 rfl rM_J9_abs_0f7a4 (by decide) rfl rfl (by decide) (Nat.le_of_ble_eq_true rfl) (c_abs ?_)
    show s_w _ _ _ 14 _ _ _ _
    refine w_op (pc' := 15) dX16_far_14 rfl ?_
    refine w_bipush (v := 28) dX16_far_15 rfl ?_
    refine w_op (pc' := 18) dX16_far_17 rfl ?_
    refine t_callS (As := [_]) dX16_far_18 rfl rM_J9_abs_0f7a4 (by decide) rfl rfl (by decide) (Nat.le_of_ble_eq_true rfl) (c_abs ?_)
    show s_w _ _ _ 21 _ _ _ _
    refine w_op (pc' := 22) dX16_far_21 rfl ?_
    refine w_op (pc' := 23) dX16_far_22 rfl ?_
    refine w_bipush (v := 31) dX16_far_23 rfl ?_
    refine w_op (pc' := 26) dX16_far_25 rfl ?_
    refine t_callS (As := [_]) dX16_far_26 rfl rM_J9_abs_0f7a4 (by decide) rfl rfl (by decide) (Nat.le_of_ble_eq_true rfl) (c_abs ?_)
    show s_w _ _ _ 29 _ _ _ _
    refine w_op (pc' := 30) dX16_far_29 rfl ?_
    exact w_ireturn dX16_far_30 ⟨rfl, s_eqi (by unfold q_fa; grind) k⟩

