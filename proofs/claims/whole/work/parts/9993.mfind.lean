/-! 9993: the best three keys (printed by wip/whole/p9993.py) -/
def q_fiC (u st ch : Int32) (i j k : Nat) (a : e_I × Int32 × Int32) : e_I × Int32 × Int32 := if q_ac a.1 (nI i) (nI j) (nI k) st ch = true ∧ ¬ a.2.1 < q_bs a.1 u (nI i) (nI j) (nI k) ∧ (q_bs a.1 u (nI i) (nI j) (nI k) = a.2.1 → q_fa a.1 (nI i) (nI j) (nI k) < a.2.2) then (s_up (s_up (s_up a.1 f_m_best 0 (nI i)) f_m_best 1 (nI j)) f_m_best 2 (nI k), q_bs a.1 u (nI i) (nI j) (nI k), q_fa a.1 (nI i) (nI j) (nI k)) else a
def q_fiB (u st ch : Int32) (i j : Nat) (a : e_I × Int32 × Int32) : e_I × Int32 × Int32 := s_run (q_fiC u st ch i j) (j + 1) (min 48 (i + 12) + 1 - (j + 1)) a
def q_fiA (u st ch : Int32) (i : Nat) (a : e_I × Int32 × Int32) : e_I × Int32 × Int32 := s_run (q_fiB u st ch i) (i + 1) (min 48 (i + 12) + 1 - (i + 1)) a
/-- the best three keys: the state, how many bad steps, how far -/
def q_fi (I : e_I) (u st ch : Int32) : e_I × Int32 × Int32 := s_run (q_fiA u st ch) 12 37 (I, 99, 0)
theorem s_eqN.qfiC {u st ch : Int32} {i j : Nat} (k : Nat) (a : e_I × Int32 × Int32) : s_eqN [f_m_best] a.1 (q_fiC u st ch i j k a).1 := by
  unfold q_fiC
  split
  · exact ((s_eqN.up (by decide)).trans (s_eqN.up (by decide))).trans (s_eqN.up (by decide))
  · exact s_eqN.rfl'
theorem s_eqN.qfiB {u st ch : Int32} {i : Nat} (j : Nat) (a : e_I × Int32 × Int32) : s_eqN [f_m_best] a.1 (q_fiB u st ch i j a).1 := s_eqN.runP s_eqN.qfiC _ _ _
theorem s_eqN.qfiA {u st ch : Int32} (i : Nat) (a : e_I × Int32 × Int32) : s_eqN [f_m_best] a.1 (q_fiA u st ch i a).1 := s_eqN.runP s_eqN.qfiB _ _ _
theorem s_eqN.qfi {I : e_I} {u st ch : Int32} : s_eqN [f_m_best] I (q_fi I u st ch).1 := s_eqN.runP s_eqN.qfiA _ _ (I, 99, 0)

set_option maxRecDepth 100000 in
set_option maxHeartbeats 4000000 in
theorem l3_X16_finds {X : e_XT} {d : Nat} {p : e_Sp} {I : e_I} {J : e_Jt} {c : Nat × Nat} {w : e_Rw1} {Q : e_Rt → e_SS → Prop} (hp : s_ok p) {u st ch : Int32} {i j tp : Nat} (hi48 : i ≤ 48) (htp : min 48 (i + 12) = tp) {R : e_I × Int32 × Int32} (hk : ∀ o8 o9, s_w X (d + 2) K_X16_finds 173 [some (.ref (p.1 T_MODEL 0)), some (.int u), some (.int st), some (.int ch), some (.int R.2.1), some (.int R.2.2), some (.int (nI i)), some (.int (nI j)), o8, o9] [] (p, R.1, J, c, w) (fun r S' => e_rcr (some .int) r = true ∧ Q r S')) : ∀ (n : Nat) (k : Nat) (I1 : e_I) (le ne : Int32) (o9 : Option Value), (h1 : k ≤ tp + 1) → (hr : s_run (q_fiC u st ch i j) k (tp + 1 - k) (I1, le, ne) = R) → (hn : tp + 1 - k < n) → s_w X (d + 2) K_X16_finds 47 [some (.ref (p.1 T_MODEL 0)), some (.int u), some (.int st), some (.int ch), some (.int le), some (.int ne), some (.int (nI i)), some (.int (nI j)), some (.int (nI k)), o9] [] (p, I1, J, c, w) (fun r S' => e_rcr (some FieldType.int) r = true ∧ Q r S') := by
  intro n
  induction n with
  | zero =>
    intro k I1 le ne o9 h1 hr hn
    exact absurd hn (Nat.not_lt_zero _)
  | succ n ih =>
    intro k I1 le ne o9 h1 hr hn
    refine w_op (pc' := 49) dX16_finds_47 rfl ?_
    refine w_bipush (v := 48) dX16_finds_49 rfl ?_
    refine w_icmpgt (t := 173) dX16_finds_51 (by decide) (fun c51 => ?_) (fun c51 => ?_)
    · have hi : tp < k := by
        have := (nI_ltI (a := 48) (by omega) (by omega)).mp c51
        omega
      rw [s_run_z (show tp + 1 ≤ k by omega)] at hr; subst hr; exact hk _ _
    · refine w_op (pc' := 56) dX16_finds_54 rfl ?_
      refine w_op (pc' := 58) dX16_finds_56 rfl ?_
      refine w_bipush (v := 12) dX16_finds_58 rfl ?_
      refine w_op (pc' := 61) dX16_finds_60 rfl ?_
      refine w_icmpgt (t := 173) dX16_finds_61 (by decide) (fun c61 => ?_) (fun c61 => ?_)
      · have hi : tp < k := by
          rw [show nI i + 12 = nI (i + 12) from nI_add i 12] at c61
          have := (nI_ltI (by omega) (by omega)).mp c61
          omega
        rw [s_run_z (show tp + 1 ≤ k by omega)] at hr; subst hr; exact hk _ _
      · have hi : k ≤ tp := by
          have h1 : k ≤ 48 := Nat.le_of_not_lt (fun z => c51 ((nI_ltI (a := 48) (by omega) (by omega)).mpr z))
          have h2 : k ≤ i + 12 := Nat.le_of_not_lt (fun z => c61 (by rw [show nI i + 12 = nI (i + 12) from nI_add i 12]; exact (nI_ltI (by omega) (by omega)).mpr z))
          omega
        refine w_op (pc' := 65) dX16_finds_64 rfl ?_
        refine w_op (pc' := 67) dX16_finds_65 rfl ?_
        refine w_op (pc' := 69) dX16_finds_67 rfl ?_
        refine w_op (pc' := 71) dX16_finds_69 rfl ?_
        refine w_op (pc' := 72) dX16_finds_71 rfl ?_
        refine w_op (pc' := 73) dX16_finds_72 rfl ?_
        refine t_callV (t := T_MODEL) (As := [_, _, _, _, _]) dX16_finds_73 rfl rM_X16_areClasses (by decide) rfl rfl (by decide) (by decide) (Nat.le_of_ble_eq_true rfl) rfl (hp.1 _ rfl) (c_X16_areClasses hp ?_)
        show s_w _ _ _ 76 _ _ _ _
        refine w_ifne (t := 82) dX16_finds_76 (by decide) (fun c76 => ?_) (fun c76 => ?_)
        · refine w_op (pc' := 83) dX16_finds_82 rfl ?_
          refine w_op (pc' := 84) dX16_finds_83 rfl ?_
          refine w_op (pc' := 86) dX16_finds_84 rfl ?_
          refine w_op (pc' := 88) dX16_finds_86 rfl ?_
          refine w_op (pc' := 90) dX16_finds_88 rfl ?_
          refine t_callV (t := T_MODEL) (As := [_, _, _, _]) dX16_finds_90 rfl rM_X16_badSteps (by decide) rfl rfl (by decide) (by decide) (Nat.le_of_ble_eq_true rfl) rfl (hp.1 _ rfl) (c_X16_badSteps hp ?_)
          show s_w _ _ _ 93 _ _ _ _
          refine w_op (pc' := 95) (ll' := [_, _, _, _, _, _, _, _, _, _]) dX16_finds_93 rfl ?_
          refine w_op (pc' := 97) dX16_finds_95 rfl ?_
          refine w_op (pc' := 99) dX16_finds_97 rfl ?_
          refine w_icmpgt (t := 167) dX16_finds_99 (by decide) (fun c99 => ?_) (fun c99 => ?_)
          · refine w_op (pc' := 170) (ll' := [_, _, _, _, _, _, _, _, _, _]) dX16_finds_167 rfl ?_
            refine w_goto (t := 47) dX16_finds_170 (by decide) ?_
            rw [show nI k + Int32.ofInt 1 = nI (k + 1) from nI_1 k]
            have ef : q_fiC u st ch i j k (I1, le, ne) = (I1, le, ne) := if_neg (fun z => z.2.1 c99)
            rw [s_run_s (show k < tp + 1 by omega), ef] at hr
            exact ih (k + 1) _ _ _ _ (by omega) hr (by omega)
          · refine w_op (pc' := 104) dX16_finds_102 rfl ?_
            refine w_op (pc' := 106) dX16_finds_104 rfl ?_
            refine w_icmpne (t := 127) dX16_finds_106 (by decide) (fun c106 => ?_) (fun c106 => ?_)
            · refine w_op (pc' := 129) dX16_finds_127 rfl ?_
              refine w_op (pc' := 131) (ll' := [_, _, _, _, _, _, _, _, _, _]) dX16_finds_129 rfl ?_
              refine w_op (pc' := 132) dX16_finds_131 rfl ?_
              refine w_op (pc' := 134) dX16_finds_132 rfl ?_
              refine w_op (pc' := 136) dX16_finds_134 rfl ?_
              refine w_op (pc' := 138) dX16_finds_136 rfl ?_
              refine t_callV (t := T_MODEL) (As := [_, _, _]) dX16_finds_138 rfl rM_X16_far (by decide) rfl rfl (by decide) (by decide) (Nat.le_of_ble_eq_true rfl) rfl (hp.1 _ rfl) (c_X16_far hp ?_)
              show s_w _ _ _ 141 _ _ _ _
              refine w_op (pc' := 143) (ll' := [_, _, _, _, _, _, _, _, _, _]) dX16_finds_141 rfl ?_
              refine w_op (pc' := 144) dX16_finds_143 rfl ?_
              refine t_getG0 (G := g_m_best) dX16_finds_144 rfl rfl (by decide) rfl (fun _ => rfl) (hp.1 _ rfl) ?_
              refine w_iconst (v := 0) dX16_finds_147 rfl ?_
              refine w_op (pc' := 150) dX16_finds_148 rfl ?_
              refine t_iast0 (F := f_m_best) dX16_finds_150 rfl (by decide) (by decide) rfl (hp.1 _ rfl) (s_ix.nI (n := 0) (N := 3) (by decide) (by decide)) (by decide) ?_
              refine w_op (pc' := 152) dX16_finds_151 rfl ?_
              refine t_getG0 (G := g_m_best) dX16_finds_152 rfl rfl (by decide) rfl (fun _ => rfl) (hp.1 _ rfl) ?_
              refine w_iconst (v := 1) dX16_finds_155 rfl ?_
              refine w_op (pc' := 158) dX16_finds_156 rfl ?_
              refine t_iast0 (F := f_m_best) dX16_finds_158 rfl (by decide) (by decide) rfl (hp.1 _ rfl) (s_ix.nI (n := 1) (N := 3) (by decide) (by decide)) (by decide) ?_
              refine w_op (pc' := 160) dX16_finds_159 rfl ?_
              refine t_getG0 (G := g_m_best) dX16_finds_160 rfl rfl (by decide) rfl (fun _ => rfl) (hp.1 _ rfl) ?_
              refine w_iconst (v := 2) dX16_finds_163 rfl ?_
              refine w_op (pc' := 166) dX16_finds_164 rfl ?_
              refine t_iast0 (F := f_m_best) dX16_finds_166 rfl (by decide) (by decide) rfl (hp.1 _ rfl) (s_ix.nI (n := 2) (N := 3) (by decide) (by decide)) (by decide) ?_
              refine w_op (pc' := 170) (ll' := [_, _, _, _, _, _, _, _, _, _]) dX16_finds_167 rfl ?_
              refine w_goto (t := 47) dX16_finds_170 (by decide) ?_
              rw [show nI k + Int32.ofInt 1 = nI (k + 1) from nI_1 k]
              have ef : q_fiC u st ch i j k (I1, le, ne) = _ := if_pos ⟨bI_n0.mp c76, c99, fun z => absurd z c106⟩
              rw [s_run_s (show k < tp + 1 by omega), ef] at hr
              exact ih (k + 1) _ _ _ _ (by omega) hr (by omega)
            · refine w_op (pc' := 110) dX16_finds_109 rfl ?_
              refine w_op (pc' := 112) dX16_finds_110 rfl ?_
              refine w_op (pc' := 114) dX16_finds_112 rfl ?_
              refine w_op (pc' := 116) dX16_finds_114 rfl ?_
              refine t_callV (t := T_MODEL) (As := [_, _, _]) dX16_finds_116 rfl rM_X16_far (by decide) rfl rfl (by decide) (by decide) (Nat.le_of_ble_eq_true rfl) rfl (hp.1 _ rfl) (c_X16_far hp ?_)
              show s_w _ _ _ 119 _ _ _ _
              refine w_op (pc' := 121) dX16_finds_119 rfl ?_
              refine w_icmplt (t := 127) dX16_finds_121 (by decide) (fun c121 => ?_) (fun c121 => ?_)
              · refine w_op (pc' := 129) dX16_finds_127 rfl ?_
                refine w_op (pc' := 131) (ll' := [_, _, _, _, _, _, _, _, _, _]) dX16_finds_129 rfl ?_
                refine w_op (pc' := 132) dX16_finds_131 rfl ?_
                refine w_op (pc' := 134) dX16_finds_132 rfl ?_
                refine w_op (pc' := 136) dX16_finds_134 rfl ?_
                refine w_op (pc' := 138) dX16_finds_136 rfl ?_
                refine t_callV (t := T_MODEL) (As := [_, _, _]) dX16_finds_138 rfl rM_X16_far (by decide) rfl rfl (by decide) (by decide) (Nat.le_of_ble_eq_true rfl) rfl (hp.1 _ rfl) (c_X16_far hp ?_)
                show s_w _ _ _ 141 _ _ _ _
                refine w_op (pc' := 143) (ll' := [_, _, _, _, _, _, _, _, _, _]) dX16_finds_141 rfl ?_
                refine w_op (pc' := 144) dX16_finds_143 rfl ?_
                refine t_getG0 (G := g_m_best) dX16_finds_144 rfl rfl (by decide) rfl (fun _ => rfl) (hp.1 _ rfl) ?_
                refine w_iconst (v := 0) dX16_finds_147 rfl ?_
                refine w_op (pc' := 150) dX16_finds_148 rfl ?_
                refine t_iast0 (F := f_m_best) dX16_finds_150 rfl (by decide) (by decide) rfl (hp.1 _ rfl) (s_ix.nI (n := 0) (N := 3) (by decide) (by decide)) (by decide) ?_
                refine w_op (pc' := 152) dX16_finds_151 rfl ?_
                refine t_getG0 (G := g_m_best) dX16_finds_152 rfl rfl (by decide) rfl (fun _ => rfl) (hp.1 _ rfl) ?_
                refine w_iconst (v := 1) dX16_finds_155 rfl ?_
                refine w_op (pc' := 158) dX16_finds_156 rfl ?_
                refine t_iast0 (F := f_m_best) dX16_finds_158 rfl (by decide) (by decide) rfl (hp.1 _ rfl) (s_ix.nI (n := 1) (N := 3) (by decide) (by decide)) (by decide) ?_
                refine w_op (pc' := 160) dX16_finds_159 rfl ?_
                refine t_getG0 (G := g_m_best) dX16_finds_160 rfl rfl (by decide) rfl (fun _ => rfl) (hp.1 _ rfl) ?_
                refine w_iconst (v := 2) dX16_finds_163 rfl ?_
                refine w_op (pc' := 166) dX16_finds_164 rfl ?_
                refine t_iast0 (F := f_m_best) dX16_finds_166 rfl (by decide) (by decide) rfl (hp.1 _ rfl) (s_ix.nI (n := 2) (N := 3) (by decide) (by decide)) (by decide) ?_
                refine w_op (pc' := 170) (ll' := [_, _, _, _, _, _, _, _, _, _]) dX16_finds_167 rfl ?_
                refine w_goto (t := 47) dX16_finds_170 (by decide) ?_
                rw [show nI k + Int32.ofInt 1 = nI (k + 1) from nI_1 k]
                have ef : q_fiC u st ch i j k (I1, le, ne) = _ := if_pos ⟨bI_n0.mp c76, c99, fun _ => c121⟩
                rw [s_run_s (show k < tp + 1 by omega), ef] at hr
                exact ih (k + 1) _ _ _ _ (by omega) hr (by omega)
              · refine w_goto (t := 167) dX16_finds_124 (by decide) ?_
                refine w_op (pc' := 170) (ll' := [_, _, _, _, _, _, _, _, _, _]) dX16_finds_167 rfl ?_
                refine w_goto (t := 47) dX16_finds_170 (by decide) ?_
                rw [show nI k + Int32.ofInt 1 = nI (k + 1) from nI_1 k]
                have ef : q_fiC u st ch i j k (I1, le, ne) = (I1, le, ne) := if_neg (fun z => c121 (z.2.2 c106))
                rw [s_run_s (show k < tp + 1 by omega), ef] at hr
                exact ih (k + 1) _ _ _ _ (by omega) hr (by omega)
        · refine w_goto (t := 167) dX16_finds_79 (by decide) ?_
          refine w_op (pc' := 170) (ll' := [_, _, _, _, _, _, _, _, _, _]) dX16_finds_167 rfl ?_
          refine w_goto (t := 47) dX16_finds_170 (by decide) ?_
          rw [show nI k + Int32.ofInt 1 = nI (k + 1) from nI_1 k]
          have ef : q_fiC u st ch i j k (I1, le, ne) = (I1, le, ne) := if_neg (fun z => by rw [bI_0.mp c76] at z; cases z.1)
          rw [s_run_s (show k < tp + 1 by omega), ef] at hr
          exact ih (k + 1) _ _ _ _ (by omega) hr (by omega)
set_option maxRecDepth 100000 in
set_option maxHeartbeats 4000000 in
theorem l2_X16_finds {X : e_XT} {d : Nat} {p : e_Sp} {I : e_I} {J : e_Jt} {c : Nat × Nat} {w : e_Rw1} {Q : e_Rt → e_SS → Prop} (hp : s_ok p) {u st ch : Int32} {i tp : Nat} (hi48 : i ≤ 48) (htp : min 48 (i + 12) = tp) {R : e_I × Int32 × Int32} (hk : ∀ o7 o8 o9, s_w X (d + 2) K_X16_finds 179 [some (.ref (p.1 T_MODEL 0)), some (.int u), some (.int st), some (.int ch), some (.int R.2.1), some (.int R.2.2), some (.int (nI i)), o7, o8, o9] [] (p, R.1, J, c, w) (fun r S' => e_rcr (some .int) r = true ∧ Q r S')) : ∀ (n : Nat) (j : Nat) (I1 : e_I) (le ne : Int32) (o8 o9 : Option Value), (h1 : j ≤ tp + 1) → (hr : s_run (q_fiB u st ch i) j (tp + 1 - j) (I1, le, ne) = R) → (hn : tp + 1 - j < n) → s_w X (d + 2) K_X16_finds 24 [some (.ref (p.1 T_MODEL 0)), some (.int u), some (.int st), some (.int ch), some (.int le), some (.int ne), some (.int (nI i)), some (.int (nI j)), o8, o9] [] (p, I1, J, c, w) (fun r S' => e_rcr (some FieldType.int) r = true ∧ Q r S') := by
  intro n
  induction n with
  | zero =>
    intro j I1 le ne o8 o9 h1 hr hn
    exact absurd hn (Nat.not_lt_zero _)
  | succ n ih =>
    intro j I1 le ne o8 o9 h1 hr hn
    refine w_op (pc' := 26) dX16_finds_24 rfl ?_
    refine w_bipush (v := 48) dX16_finds_26 rfl ?_
    refine w_icmpgt (t := 179) dX16_finds_28 (by decide) (fun c28 => ?_) (fun c28 => ?_)
    · have hi : tp < j := by
        have := (nI_ltI (a := 48) (by omega) (by omega)).mp c28
        omega
      rw [s_run_z (show tp + 1 ≤ j by omega)] at hr; subst hr; exact hk _ _ _
    · refine w_op (pc' := 33) dX16_finds_31 rfl ?_
      refine w_op (pc' := 35) dX16_finds_33 rfl ?_
      refine w_bipush (v := 12) dX16_finds_35 rfl ?_
      refine w_op (pc' := 38) dX16_finds_37 rfl ?_
      refine w_icmpgt (t := 179) dX16_finds_38 (by decide) (fun c38 => ?_) (fun c38 => ?_)
      · have hi : tp < j := by
          rw [show nI i + 12 = nI (i + 12) from nI_add i 12] at c38
          have := (nI_ltI (by omega) (by omega)).mp c38
          omega
        rw [s_run_z (show tp + 1 ≤ j by omega)] at hr; subst hr; exact hk _ _ _
      · have hi : j ≤ tp := by
          have h1 : j ≤ 48 := Nat.le_of_not_lt (fun z => c28 ((nI_ltI (a := 48) (by omega) (by omega)).mpr z))
          have h2 : j ≤ i + 12 := Nat.le_of_not_lt (fun z => c38 (by rw [show nI i + 12 = nI (i + 12) from nI_add i 12]; exact (nI_ltI (by omega) (by omega)).mpr z))
          omega
        refine w_op (pc' := 43) dX16_finds_41 rfl ?_
        refine w_iconst (v := 1) dX16_finds_43 rfl ?_
        refine w_op (pc' := 45) dX16_finds_44 rfl ?_
        refine w_op (pc' := 47) (ll' := [_, _, _, _, _, _, _, _, _, _]) dX16_finds_45 rfl ?_
        rw [nI_1 j]
        rw [s_run_s (show j < tp + 1 by omega)] at hr
        refine l3_X16_finds (I := I) hp hi48 htp (R := q_fiB u st ch i j (I1, le, ne)) (fun o8 o9 => ?_) (tp + 2) (j + 1) I1 le ne _ (by omega) (by unfold q_fiB; rw [htp]) (by omega)
        refine w_op (pc' := 176) (ll' := [_, _, _, _, _, _, _, _, _, _]) dX16_finds_173 rfl ?_
        refine w_goto (t := 24) dX16_finds_176 (by decide) ?_
        rw [show nI j + Int32.ofInt 1 = nI (j + 1) from nI_1 j]
        exact ih (j + 1) _ _ _ _ _ (by omega) hr (by omega)
set_option maxRecDepth 100000 in
set_option maxHeartbeats 4000000 in
theorem l_X16_finds {X : e_XT} {d : Nat} {p : e_Sp} {I : e_I} {J : e_Jt} {c : Nat × Nat} {w : e_Rw1} {Q : e_Rt → e_SS → Prop} (hp : s_ok p) {u st ch : Int32} {R : e_I × Int32 × Int32} (k : Q (.inl (some (.int R.2.1))) (p, R.1, J, c, w)) : ∀ (n : Nat) (i : Nat) (I1 : e_I) (le ne : Int32) (o7 o8 o9 : Option Value), (h1 : i ≤ 49) → (hr : s_run (q_fiA u st ch) i (49 - i) (I1, le, ne) = R) → (hn : 49 - i < n) → s_w X (d + 2) K_X16_finds 11 [some (.ref (p.1 T_MODEL 0)), some (.int u), some (.int st), some (.int ch), some (.int le), some (.int ne), some (.int (nI i)), o7, o8, o9] [] (p, I1, J, c, w) (fun r S' => e_rcr (some FieldType.int) r = true ∧ Q r S') := by
  intro n
  induction n with
  | zero =>
    intro i I1 le ne o7 o8 o9 h1 hr hn
    exact absurd hn (Nat.not_lt_zero _)
  | succ n ih =>
    intro i I1 le ne o7 o8 o9 h1 hr hn
    refine w_op (pc' := 13) dX16_finds_11 rfl ?_
    refine w_bipush (v := 48) dX16_finds_13 rfl ?_
    refine w_icmpgt (t := 185) dX16_finds_15 (by decide) (fun c15 => ?_) (fun c15 => ?_)
    · have hi : 48 < i := (nI_ltI (a := 48) (by omega) (by omega)).mp c15
      rw [s_run_z (show 49 ≤ i by omega)] at hr; subst hr
      refine w_op (pc' := 187) dX16_finds_185 rfl ?_
      exact w_ireturn dX16_finds_187 ⟨rfl, k⟩
    · have hi : i ≤ 48 := Nat.le_of_not_lt (fun z => c15 ((nI_ltI (a := 48) (by omega) (by omega)).mpr z))
      refine w_op (pc' := 20) dX16_finds_18 rfl ?_
      refine w_iconst (v := 1) dX16_finds_20 rfl ?_
      refine w_op (pc' := 22) dX16_finds_21 rfl ?_
      refine w_op (pc' := 24) (ll' := [_, _, _, _, _, _, _, _, _, _]) dX16_finds_22 rfl ?_
      rw [nI_1 i]
      rw [s_run_s (show i < 49 by omega)] at hr
      refine l2_X16_finds (I := I) hp hi rfl (R := q_fiA u st ch i (I1, le, ne)) (fun o7 o8 o9 => ?_) (min 48 (i + 12) + 2) (i + 1) I1 le ne _ _ (by omega) rfl (by omega)
      refine w_op (pc' := 182) (ll' := [_, _, _, _, _, _, _, _, _, _]) dX16_finds_179 rfl ?_
      refine w_goto (t := 11) dX16_finds_182 (by decide) ?_
      rw [show nI i + Int32.ofInt 1 = nI (i + 1) from nI_1 i]
      exact ih (i + 1) _ _ _ _ _ _ (by omega) hr (by omega)
set_option maxRecDepth 100000 in
set_option maxHeartbeats 4000000 in
theorem c_X16_finds {X : e_XT} {d : Nat} {p : e_Sp} {I : e_I} {J : e_Jt} {c : Nat × Nat} {w : e_Rw1} {Q : e_Rt → e_SS → Prop} (hp : s_ok p) {u st ch : Int32} (k : Q (.inl (some (.int (q_fi I u st ch).2.1))) (p, (q_fi I u st ch).1, J, c, w)) : s_c X (d + 2) 313 [.ref (p.1 T_MODEL 0), .int u, .int st, .int ch] (p, I, J, c, w) Q := by
  refine m_X16_finds (Nat.le_of_ble_eq_true rfl) ?_
  show s_w _ _ _ 0 _ _ _ _
  refine w_bipush (v := 99) dX16_finds_0 rfl ?_
  refine w_op (pc' := 4) (ll' := [_, _, _, _, _, _, _, _, _, _]) dX16_finds_2 rfl ?_
  refine w_iconst (v := 0) dX16_finds_4 rfl ?_
  refine w_op (pc' := 7) (ll' := [_, _, _, _, _, _, _, _, _, _]) dX16_finds_5 rfl ?_
  refine w_bipush (v := 12) dX16_finds_7 rfl ?_
  refine w_op (pc' := 11) (ll' := [_, _, _, _, _, _, _, _, _, _]) dX16_finds_9 rfl ?_
  exact l_X16_finds (I := I) hp k 50 12 I 99 0 _ _ _ (by omega) rfl (by omega)

