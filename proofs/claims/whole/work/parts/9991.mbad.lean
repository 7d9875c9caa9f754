/-! 9991: bad steps (printed by wip/whole/p9991.py) -/
def q_bsC (I : e_I) (u x y z : Int32) (i j : Nat) : Bool := (!decide (q_vo u x y z (nI i) = I f_m_chord i) && !decide (q_vo u x y z (nI j) = I f_m_chord j)) && (s_pfc (s_abs (I f_m_chord j - I f_m_chord i)) && (s_pfc (s_abs (q_vo u x y z (nI j) - q_vo u x y z (nI i))) && decide (s_r12 (s_abs (I f_m_chord j - I f_m_chord i)) = s_r12 (s_abs (q_vo u x y z (nI j) - q_vo u x y z (nI i))))))
def q_bsJ (I : e_I) (u x y z : Int32) (i j : Nat) (n : Int32) : Int32 := n + bI (q_bsC I u x y z i j)
def q_bsI (I : e_I) (u x y z : Int32) (i : Nat) (n : Int32) : Int32 := s_run (q_bsJ I u x y z i) (i + 1) (4 - (i + 1)) n
def q_bs (I : e_I) (u x y z : Int32) : Int32 := if I f_m_hasChord 0 = 0 then 0 else s_run (q_bsI I u x y z) 0 4 0

set_option maxRecDepth 100000 in
set_option maxHeartbeats 400000 in
theorem l2_X16_badSteps {X : e_XT} {d : Nat} {p : e_Sp} {I : e_I} {J : e_Jt} {c : Nat × Nat} {w : e_Rw1} {Q : e_Rt → e_SS → Prop} (hp : s_ok p) {u x y z r : Int32} {i : Nat} (hi : i < 4) (hk : ∀ o7 o8 o9 o10, s_w X (d + 1) K_X16_badSteps 178 [some (.ref (p.1 T_MODEL 0)), some (.int u), some (.int x), some (.int y), some (.int z), some (.int r), some (.int (nI i)), o7, o8, o9, o10] [] (p, I, J, c, w) (fun r S' => e_rcr (some .int) r = true ∧ Q r S')) : ∀ (n : Nat) (j : Nat) (n9 : Int32) (o8 o9 o10 : Option Value), (h1 : j ≤ 4) → (hr : s_run (q_bsJ I u x y z i) j (4 - j) n9 = r) → (hn : 4 - j < n) → s_w X (d + 1) K_X16_badSteps 25 [some (.ref (p.1 T_MODEL 0)), some (.int u), some (.int x), some (.int y), some (.int z), some (.int n9), some (.int (nI i)), some (.int (nI j)), o8, o9, o10] [] (p, I, J, c, w) (fun r S' => e_rcr (some FieldType.int) r = true ∧ Q r S') := by
  intro n
  induction n with
  | zero =>
    intro j n9 o8 o9 o10 h1 hr hn
    exact absurd hn (Nat.not_lt_zero _)
  | succ n ih =>
    intro j n9 o8 o9 o10 h1 hr hn
    refine w_op (pc' := 27) dX16_badSteps_25 rfl ?_
    refine w_iconst (v := 4) dX16_badSteps_27 rfl ?_
    refine w_icmpge (t := 178) dX16_badSteps_28 (by decide) (fun c28 => ?_) (fun c28 => ?_)
    · have hj : 4 ≤ j := (nI_leI (a := 4) (by omega) (by omega)).mp c28
      rw [s_run_z hj] at hr; subst hr; exact hk _ _ _ _
    · have hj : j < 4 := Nat.lt_of_not_le (fun t => c28 ((nI_leI (a := 4) (by omega) (by omega)).mpr t))
      refine w_op (pc' := 32) dX16_badSteps_31 rfl ?_
      refine t_getG0 (G := g_m_chord) dX16_badSteps_32 rfl rfl (by decide) rfl (fun _ => rfl) (hp.1 _ rfl) ?_
      refine w_op (pc' := 37) dX16_badSteps_35 rfl ?_
      refine t_iald0 (F := f_m_chord) dX16_badSteps_37 rfl (by decide) rfl (hp.1 _ rfl) (s_ix.nI (N := 4) hj (by decide)) hj ?_
      refine w_op (pc' := 39) dX16_badSteps_38 rfl ?_
      refine t_getG0 (G := g_m_chord) dX16_badSteps_39 rfl rfl (by decide) rfl (fun _ => rfl) (hp.1 _ rfl) ?_
      refine w_op (pc' := 44) dX16_badSteps_42 rfl ?_
      refine t_iald0 (F := f_m_chord) dX16_badSteps_44 rfl (by decide) rfl (hp.1 _ rfl) (s_ix.nI (N := 4) hi (by decide)) hi ?_
      refine w_op (pc' := 46) dX16_badSteps_45 rfl ?_
      refine t_callS (As := [_]) dX16_badSteps_46 rfl rM_J9_abs_0f7a4 (by decide) rfl rfl (by decide) (Nat.le_of_ble_eq_true rfl) (c_abs ?_)
      show s_w _ _ _ 49 _ _ _ _
      refine w_op (pc' := 51) (ll' := [_, _, _, _, _, _, _, _, _, _, _]) dX16_badSteps_49 rfl ?_
      refine w_op (pc' := 52) dX16_badSteps_51 rfl ?_
      refine w_op (pc' := 53) dX16_badSteps_52 rfl ?_
      refine w_op (pc' := 54) dX16_badSteps_53 rfl ?_
      refine w_op (pc' := 55) dX16_badSteps_54 rfl ?_
      refine w_op (pc' := 57) dX16_badSteps_55 rfl ?_
      refine w_op (pc' := 59) dX16_badSteps_57 rfl ?_
      refine t_callV (t := T_MODEL) (As := [_, _, _, _, _]) dX16_badSteps_59 rfl rM_X16_voice (by decide) rfl rfl (by decide) (by decide) (Nat.le_of_ble_eq_true rfl) rfl (hp.1 _ rfl) (c_X16_voice hp ?_)
      show s_w _ _ _ 62 _ _ _ _
      refine w_op (pc' := 63) dX16_badSteps_62 rfl ?_
      refine w_op (pc' := 64) dX16_badSteps_63 rfl ?_
      refine w_op (pc' := 65) dX16_badSteps_64 rfl ?_
      refine w_op (pc' := 66) dX16_badSteps_65 rfl ?_
      refine w_op (pc' := 68) dX16_badSteps_66 rfl ?_
      refine w_op (pc' := 70) dX16_badSteps_68 rfl ?_
      refine t_callV (t := T_MODEL) (As := [_, _, _, _, _]) dX16_badSteps_70 rfl rM_X16_voice (by decide) rfl rfl (by decide) (by decide) (Nat.le_of_ble_eq_true rfl) rfl (hp.1 _ rfl) (c_X16_voice hp ?_)
      show s_w _ _ _ 73 _ _ _ _
      refine w_op (pc' := 74) dX16_badSteps_73 rfl ?_
      refine t_callS (As := [_]) dX16_badSteps_74 rfl rM_J9_abs_0f7a4 (by decide) rfl rfl (by decide) (Nat.le_of_ble_eq_true rfl) (c_abs ?_)
      show s_w _ _ _ 77 _ _ _ _
      refine w_op (pc' := 79) (ll' := [_, _, _, _, _, _, _, _, _, _, _]) dX16_badSteps_77 rfl ?_
      refine w_op (pc' := 80) dX16_badSteps_79 rfl ?_
      refine w_op (pc' := 81) dX16_badSteps_80 rfl ?_
      refine w_op (pc' := 82) dX16_badSteps_81 rfl ?_
      refine w_op (pc' := 83) dX16_badSteps_82 rfl ?_
      refine w_op (pc' := 85) dX16_badSteps_83 rfl ?_
      refine w_op (pc' := 87) dX16_badSteps_85 rfl ?_
      refine t_callV (t := T_MODEL) (As := [_, _, _, _, _]) dX16_badSteps_87 rfl rM_X16_voice (by decide) rfl rfl (by decide) (by decide) (Nat.le_of_ble_eq_true rfl) rfl (hp.1 _ rfl) (c_X16_voice hp ?_)
      show s_w _ _ _ 90 _ _ _ _
      refine w_op (pc' := 91) dX16_badSteps_90 rfl ?_
      refine t_getG0 (G := g_m_chord) dX16_badSteps_91 rfl rfl (by decide) rfl (fun _ => rfl) (hp.1 _ rfl) ?_
      refine w_op (pc' := 96) dX16_badSteps_94 rfl ?_
      refine t_iald0 (F := f_m_chord) dX16_badSteps_96 rfl (by decide) rfl (hp.1 _ rfl) (s_ix.nI (N := 4) hi (by decide)) hi ?_
      refine w_icmpeq (t := 125) dX16_badSteps_97 (by decide) (fun c97 => ?_) (fun c97 => ?_)
      · refine w_iconst (v := 0) dX16_badSteps_125 rfl ?_
        refine w_op (pc' := 128) (ll' := [_, _, _, _, _, _, _, _, _, _, _]) dX16_badSteps_126 rfl ?_
        refine w_op (pc' := 130) dX16_badSteps_128 rfl ?_
        refine w_op (pc' := 132) dX16_badSteps_130 rfl ?_
        refine w_ifeq (t := 168) dX16_badSteps_132 (by decide) (fun c132 => ?_) (fun c132 => ?_)
        · refine w_iconst (v := 0) dX16_badSteps_168 rfl ?_
          refine w_op (pc' := 170) dX16_badSteps_169 rfl ?_
          refine w_op (pc' := 172) (ll' := [_, _, _, _, _, _, _, _, _, _, _]) dX16_badSteps_170 rfl ?_
          refine w_op (pc' := 175) (ll' := [_, _, _, _, _, _, _, _, _, _, _]) dX16_badSteps_172 rfl ?_
          refine w_goto (t := 25) dX16_badSteps_175 (by decide) ?_
          rw [show nI j + Int32.ofInt 1 = nI (j + 1) from nI_1 j]
          have eb : q_bsC I u x y z i j = false := by unfold q_bsC s_r12; simp [c97]
          have ef : q_bsJ I u x y z i j n9 = n9 + 0 := by unfold q_bsJ; rw [eb]; rfl
          rw [s_run_s hj, ef] at hr
          exact ih (j + 1) _ _ _ _ (by omega) hr (by omega)
        · exact absurd c132 (by decide)
      · refine w_op (pc' := 101) dX16_badSteps_100 rfl ?_
        refine w_op (pc' := 102) dX16_badSteps_101 rfl ?_
        refine w_op (pc' := 103) dX16_badSteps_102 rfl ?_
        refine w_op (pc' := 104) dX16_badSteps_103 rfl ?_
        refine w_op (pc' := 106) dX16_badSteps_104 rfl ?_
        refine w_op (pc' := 108) dX16_badSteps_106 rfl ?_
        refine t_callV (t := T_MODEL) (As := [_, _, _, _, _]) dX16_badSteps_108 rfl rM_X16_voice (by decide) rfl rfl (by decide) (by decide) (Nat.le_of_ble_eq_true rfl) rfl (hp.1 _ rfl) (c_X16_voice hp ?_)
        show s_w _ _ _ 111 _ _ _ _
        refine w_op (pc' := 112) dX16_badSteps_111 rfl ?_
        refine t_getG0 (G := g_m_chord) dX16_badSteps_112 rfl rfl (by decide) rfl (fun _ => rfl) (hp.1 _ rfl) ?_
        refine w_op (pc' := 117) dX16_badSteps_115 rfl ?_
        refine t_iald0 (F := f_m_chord) dX16_badSteps_117 rfl (by decide) rfl (hp.1 _ rfl) (s_ix.nI (N := 4) hj (by decide)) hj ?_
        refine w_icmpeq (t := 125) dX16_badSteps_118 (by decide) (fun c118 => ?_) (fun c118 => ?_)
        · refine w_iconst (v := 0) dX16_badSteps_125 rfl ?_
          refine w_op (pc' := 128) (ll' := [_, _, _, _, _, _, _, _, _, _, _]) dX16_badSteps_126 rfl ?_
          refine w_op (pc' := 130) dX16_badSteps_128 rfl ?_
          refine w_op (pc' := 132) dX16_badSteps_130 rfl ?_
          refine w_ifeq (t := 168) dX16_badSteps_132 (by decide) (fun c132 => ?_) (fun c132 => ?_)
          · refine w_iconst (v := 0) dX16_badSteps_168 rfl ?_
            refine w_op (pc' := 170) dX16_badSteps_169 rfl ?_
            refine w_op (pc' := 172) (ll' := [_, _, _, _, _, _, _, _, _, _, _]) dX16_badSteps_170 rfl ?_
            refine w_op (pc' := 175) (ll' := [_, _, _, _, _, _, _, _, _, _, _]) dX16_badSteps_172 rfl ?_
            refine w_goto (t := 25) dX16_badSteps_175 (by decide) ?_
            rw [show nI j + Int32.ofInt 1 = nI (j + 1) from nI_1 j]
            have eb : q_bsC I u x y z i j = false := by unfold q_bsC s_r12; simp [c118]
            have ef : q_bsJ I u x y z i j n9 = n9 + 0 := by unfold q_bsJ; rw [eb]; rfl
            rw [s_run_s hj, ef] at hr
            exact ih (j + 1) _ _ _ _ (by omega) hr (by omega)
          · exact absurd c132 (by decide)
        · refine w_iconst (v := 1) dX16_badSteps_121 rfl ?_
          refine w_goto (t := 126) dX16_badSteps_122 (by decide) ?_
          refine w_op (pc' := 128) (ll' := [_, _, _, _, _, _, _, _, _, _, _]) dX16_badSteps_126 rfl ?_
          refine w_op (pc' := 130) dX16_badSteps_128 rfl ?_
          refine w_op (pc' := 132) dX16_badSteps_130 rfl ?_
          refine w_ifeq (t := 168) dX16_badSteps_132 (by decide) (fun c132 => ?_) (fun c132 => ?_)
          · exact absurd c132 (by decide)
          · refine w_op (pc' := 137) dX16_badSteps_135 rfl ?_
            refine t_callS (As := [_]) dX16_badSteps_137 rfl rM_X16_isPerfect (by decide) rfl rfl (by decide) (Nat.le_of_ble_eq_true rfl) (c_X16_isPerfect ?_)
            show s_w _ _ _ 140 _ _ _ _
            refine w_ifeq (t := 168) dX16_badSteps_140 (by decide) (fun c140 => ?_) (fun c140 => ?_)
            · refine w_iconst (v := 0) dX16_badSteps_168 rfl ?_
              refine w_op (pc' := 170) dX16_badSteps_169 rfl ?_
              refine w_op (pc' := 172) (ll' := [_, _, _, _, _, _, _, _, _, _, _]) dX16_badSteps_170 rfl ?_
              refine w_op (pc' := 175) (ll' := [_, _, _, _, _, _, _, _, _, _, _]) dX16_badSteps_172 rfl ?_
              refine w_goto (t := 25) dX16_badSteps_175 (by decide) ?_
              rw [show nI j + Int32.ofInt 1 = nI (j + 1) from nI_1 j]
              have eb : q_bsC I u x y z i j = false := by unfold q_bsC s_r12; rw [bI_0.mp c140]; simp
              have ef : q_bsJ I u x y z i j n9 = n9 + 0 := by unfold q_bsJ; rw [eb]; rfl
              rw [s_run_s hj, ef] at hr
              exact ih (j + 1) _ _ _ _ (by omega) hr (by omega)
            · refine w_op (pc' := 145) dX16_badSteps_143 rfl ?_
              refine t_callS (As := [_]) dX16_badSteps_145 rfl rM_X16_isPerfect (by decide) rfl rfl (by decide) (Nat.le_of_ble_eq_true rfl) (c_X16_isPerfect ?_)
              show s_w _ _ _ 148 _ _ _ _
              refine w_ifeq (t := 168) dX16_badSteps_148 (by decide) (fun c148 => ?_) (fun c148 => ?_)
              · refine w_iconst (v := 0) dX16_badSteps_168 rfl ?_
                refine w_op (pc' := 170) dX16_badSteps_169 rfl ?_
                refine w_op (pc' := 172) (ll' := [_, _, _, _, _, _, _, _, _, _, _]) dX16_badSteps_170 rfl ?_
                refine w_op (pc' := 175) (ll' := [_, _, _, _, _, _, _, _, _, _, _]) dX16_badSteps_172 rfl ?_
                refine w_goto (t := 25) dX16_badSteps_175 (by decide) ?_
                rw [show nI j + Int32.ofInt 1 = nI (j + 1) from nI_1 j]
                have eb : q_bsC I u x y z i j = false := by unfold q_bsC s_r12; rw [bI_0.mp c148]; simp
                have ef : q_bsJ I u x y z i j n9 = n9 + 0 := by unfold q_bsJ; rw [eb]; rfl
                rw [s_run_s hj, ef] at hr
                exact ih (j + 1) _ _ _ _ (by omega) hr (by omega)
              · refine w_op (pc' := 153) dX16_badSteps_151 rfl ?_
                refine w_bipush (v := 12) dX16_badSteps_153 rfl ?_
                refine w_op (pc' := 156) dX16_badSteps_155 (by rfl) ?_
                refine w_op (pc' := 158) dX16_badSteps_156 rfl ?_
                refine w_bipush (v := 12) dX16_badSteps_158 rfl ?_
                refine w_op (pc' := 161) dX16_badSteps_160 (by rfl) ?_
                refine w_icmpne (t := 168) dX16_badSteps_161 (by decide) (fun c161 => ?_) (fun c161 => ?_)
                · refine w_iconst (v := 0) dX16_badSteps_168 rfl ?_
                  refine w_op (pc' := 170) dX16_badSteps_169 rfl ?_
                  refine w_op (pc' := 172) (ll' := [_, _, _, _, _, _, _, _, _, _, _]) dX16_badSteps_170 rfl ?_
                  refine w_op (pc' := 175) (ll' := [_, _, _, _, _, _, _, _, _, _, _]) dX16_badSteps_172 rfl ?_
                  refine w_goto (t := 25) dX16_badSteps_175 (by decide) ?_
                  rw [show nI j + Int32.ofInt 1 = nI (j + 1) from nI_1 j]
                  have eb : q_bsC I u x y z i j = false := by unfold q_bsC s_r12; simp [c161]
                  have ef : q_bsJ I u x y z i j n9 = n9 + 0 := by unfold q_bsJ; rw [eb]; rfl
                  rw [s_run_s hj, ef] at hr
                  exact ih (j + 1) _ _ _ _ (by omega) hr (by omega)
                · refine w_iconst (v := 1) dX16_badSteps_164 rfl ?_
                  refine w_goto (t := 169) dX16_badSteps_165 (by decide) ?_
                  refine w_op (pc' := 170) dX16_badSteps_169 rfl ?_
                  refine w_op (pc' := 172) (ll' := [_, _, _, _, _, _, _, _, _, _, _]) dX16_badSteps_170 rfl ?_
                  refine w_op (pc' := 175) (ll' := [_, _, _, _, _, _, _, _, _, _, _]) dX16_badSteps_172 rfl ?_
                  refine w_goto (t := 25) dX16_badSteps_175 (by decide) ?_
                  rw [show nI j + Int32.ofInt 1 = nI (j + 1) from nI_1 j]
                  have eb : q_bsC I u x y z i j = true := by unfold q_bsC s_r12; rw [bI_n0.mp c140, bI_n0.mp c148]; simp [c97, c118, c161]
                  have ef : q_bsJ I u x y z i j n9 = n9 + 1 := by unfold q_bsJ; rw [eb]; rfl
                  rw [s_run_s hj, ef] at hr
                  exact ih (j + 1) _ _ _ _ (by omega) hr (by omega)
set_option maxRecDepth 100000 in
set_option maxHeartbeats 400000 in
theorem l_X16_badSteps {X : e_XT} {d : Nat} {p : e_Sp} {I : e_I} {J : e_Jt} {c : Nat × Nat} {w : e_Rw1} {Q : e_Rt → e_SS → Prop} (hp : s_ok p) {u x y z r : Int32} (hc : ¬ I f_m_hasChord 0 = 0) (k : Q (.inl (some (.int (r)))) (p, I, J, c, w)) : ∀ (n : Nat) (i : Nat) (n9 : Int32) (o7 o8 o9 o10 : Option Value), (h1 : i ≤ 4) → (hr : s_run (q_bsI I u x y z) i (4 - i) n9 = r) → (hn : 4 - i < n) → s_w X (d + 1) K_X16_badSteps 6 [some (.ref (p.1 T_MODEL 0)), some (.int u), some (.int x), some (.int y), some (.int z), some (.int n9), some (.int (nI i)), o7, o8, o9, o10] [] (p, I, J, c, w) (fun r S' => e_rcr (some FieldType.int) r = true ∧ Q r S') := by
  intro n
  induction n with
  | zero =>
    intro i n9 o7 o8 o9 o10 h1 hr hn
    exact absurd hn (Nat.not_lt_zero _)
  | succ n ih =>
    intro i n9 o7 o8 o9 o10 h1 hr hn
    refine w_op (pc' := 8) dX16_badSteps_6 rfl ?_
    refine w_iconst (v := 4) dX16_badSteps_8 rfl ?_
    refine w_icmpge (t := 184) dX16_badSteps_9 (by decide) (fun c9 => ?_) (fun c9 => ?_)
    · have hi : 4 ≤ i := (nI_leI (a := 4) (by omega) (by omega)).mp c9
      rw [s_run_z hi] at hr
      refine w_op (pc' := 186) dX16_badSteps_184 rfl ?_
      exact w_ireturn dX16_badSteps_186 ⟨rfl, by subst hr; exact k⟩
    · have hi : i < 4 := Nat.lt_of_not_le (fun t => c9 ((nI_leI (a := 4) (by omega) (by omega)).mpr t))
      refine w_op (pc' := 13) dX16_badSteps_12 rfl ?_
      refine t_getI (F := f_m_hasChord) dX16_badSteps_13 rfl rfl (by decide) rfl ⟨rfl, fun _ => rfl⟩ (hp.1 _ rfl) ?_
      refine w_ifeq (t := 184) dX16_badSteps_16 (by decide) (fun c16 => ?_) (fun c16 => ?_)
      · exact absurd c16 hc
      · refine w_op (pc' := 21) dX16_badSteps_19 rfl ?_
        refine w_iconst (v := 1) dX16_badSteps_21 rfl ?_
        refine w_op (pc' := 23) dX16_badSteps_22 rfl ?_
        refine w_op (pc' := 25) (ll' := [_, _, _, _, _, _, _, _, _, _, _]) dX16_badSteps_23 rfl ?_
        rw [nI_1 i]
        refine l2_X16_badSteps hp hi (r := q_bsI I u x y z i n9) (fun o7 o8 o9 o10 => ?_) 5 (i + 1) n9 _ _ _ (by omega) rfl (by omega)
        refine w_op (pc' := 181) (ll' := [_, _, _, _, _, _, _, _, _, _, _]) dX16_badSteps_178 rfl ?_
        refine w_goto (t := 6) dX16_badSteps_181 (by decide) ?_
        rw [show nI i + Int32.ofInt 1 = nI (i + 1) from nI_1 i]
        rw [s_run_s hi] at hr
        exact ih (i + 1) _ _ _ _ _ (by omega) hr (by omega)
set_option maxRecDepth 100000 in
set_option maxHeartbeats 400000 in
theorem c_X16_badSteps {X : e_XT} {d : Nat} {p : e_Sp} {I : e_I} {J : e_Jt} {c : Nat × Nat} {w : e_Rw1} {Q : e_Rt → e_SS → Prop} (hp : s_ok p) {u x y z : Int32} (k : Q (.inl (some (.int (q_bs I u x y z)))) (p, I, J, c, w)) : s_c X (d + 1) 316 [.ref (p.1 T_MODEL 0), .int u, .int x, .int y, .int z] (p, I, J, c, w) Q := by
  refine m_X16_badSteps (Nat.le_of_ble_eq_true rfl) ?_
  show s_w _ _ _ 0 _ _ _ _
  refine w_iconst (v := 0) dX16_badSteps_0 rfl ?_
  refine w_op (pc' := 3) (ll' := [_, _, _, _, _, _, _, _, _, _, _]) dX16_badSteps_1 rfl ?_
  refine w_iconst (v := 0) dX16_badSteps_3 rfl ?_
  refine w_op (pc' := 6) (ll' := [_, _, _, _, _, _, _, _, _, _, _]) dX16_badSteps_4 rfl ?_
  by_cases hc : I f_m_hasChord 0 = 0
  · rw [show q_bs I u x y z = 0 from if_pos hc] at k
    refine w_op (pc' := 8) dX16_badSteps_6 rfl ?_
    refine w_iconst (v := 4) dX16_badSteps_8 rfl ?_
    refine w_icmpge (t := 184) dX16_badSteps_9 (by decide) (fun c9 => absurd c9 (by decide)) (fun _ => ?_)
    refine w_op (pc' := 13) dX16_badSteps_12 rfl ?_
    refine t_getI (F := f_m_hasChord) dX16_badSteps_13 rfl rfl (by decide) rfl ⟨rfl, fun _ => rfl⟩ (hp.1 _ rfl) ?_
    refine w_ifeq (t := 184) dX16_badSteps_16 (by decide) (fun _ => ?_) (fun c16 => absurd hc c16)
    refine w_op (pc' := 186) dX16_badSteps_184 rfl ?_
    exact w_ireturn dX16_badSteps_186 ⟨rfl, k⟩
  · rw [show q_bs I u x y z = _ from if_neg hc] at k
    exact l_X16_badSteps hp hc k 5 0 0 _ _ _ _ (Nat.zero_le _) rfl (by omega)

