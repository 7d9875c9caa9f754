/-! 99992: chords are realised by the second implementation (printed by wip/whole/p99992.py) -/
/-- the step of the scale that a key is of; 7 if of none -/
def q_s7 (I : e_I) (u : Int32) : Nat → Nat → Nat
  | 0, i => i
  | n + 1, i => if q_cla I (nI i) = s_r12 (36 + u) then i else q_s7 I u n (i + 1)
def q_bk (I : e_I) : Prop := ∀ n, n < 3 → s_isk 1 (I f_m_best n)
def q_rz0 (u : Int32) (i : Nat) (I : e_I) : e_I := if nI i = u then I else q_mdv I 0 (nI i) 0
def q_rz1 (i : Nat) (I : e_I) : e_I := if nI i = I f_m_best 0 ∨ nI i = I f_m_best 1 ∨ nI i = I f_m_best 2 then I else q_mdv I 1 (nI i) 0
def q_rz2 (i : Nat) (I : e_I) : e_I := s_up (q_mdv I 1 (I f_m_best i) 1) f_m_chord (i + 1) (q_mdv I 1 (I f_m_best i) 1 f_m_best i)
def q_rz (I : e_I) (u : Int32) : e_I := s_up (s_up (s_run q_rz2 0 3 (q_mdv (s_run q_rz1 0 61 (s_run (q_rz0 u) 0 32 I)) 0 u 1)) f_m_chord 0 u) f_m_hasChord 0 1
theorem q_i0 {i : Nat} (h : i < 32) : s_isk 0 (nI i) := by
  have := q_ki (dv := 0) (i := i) (by decide) (by show i < 32; exact h)
  rw [nI_0] at this
  exact this
theorem q_i1 {i : Nat} (h : i < 61) : s_isk 1 (nI i) := q_ki (dv := 1) (i := i) (by decide) (by show i < 61; exact h)
theorem q_bk.mdv {I : e_I} {x y z : Int32} (h : q_bk I) : q_bk (q_mdv I x y z) := by
  unfold q_bk
  rw [show q_mdv I x y z f_m_best = I f_m_best from q_mdv_e.F (by decide)]
  exact h
theorem q_bk.fiC {u st ch : Int32} {i j : Nat} (k : Nat) {a : e_I × Int32 × Int32} (hi : i < 61) (hj : j < 61) (hk : k < 61) (h : q_bk a.1) : q_bk (q_fiC u st ch i j k a).1 := by
  unfold q_fiC
  split
  · intro n hn
    have h3 : n = 0 ∨ n = 1 ∨ n = 2 := by omega
    show s_isk 1 (s_up (s_up (s_up a.1 f_m_best 0 (nI i)) f_m_best 1 (nI j)) f_m_best 2 (nI k) f_m_best n)
    rcases h3 with rfl | rfl | rfl
    · rw [s_up_i (by decide), s_up_i (by decide), s_up_s]; exact q_i1 hi
    · rw [s_up_i (by decide), s_up_s]; exact q_i1 hj
    · rw [s_up_s]; exact q_i1 hk
  · exact h
theorem s_run_pb {α : Type} {P : α → Prop} {f : Nat → α → α} {m : Nat} (h : ∀ i a, i < m → P a → P (f i a)) : ∀ n i a, i + n ≤ m → P a → P (s_run f i n a) := by
  intro n
  induction n with
  | zero => exact fun i a _ p => p
  | succ n ih => exact fun i a hi p => ih (i + 1) _ (by omega) (h i a (by omega) p)
theorem q_bk.fi {I : e_I} {u st ch : Int32} (h : q_bk I) : q_bk (q_fi I u st ch).1 := by
  refine s_run_pb (P := fun a : e_I × Int32 × Int32 => q_bk a.1) (m := 49) (fun i a hi p => ?_) 37 12 (I, 99, 0) (by decide) h
  refine s_run_pb (P := fun a : e_I × Int32 × Int32 => q_bk a.1) (m := max (i + 1) (min 48 (i + 12) + 1)) (fun j a hj p => ?_) _ _ a (by omega) p
  refine s_run_pb (P := fun a : e_I × Int32 × Int32 => q_bk a.1) (m := max (j + 1) (min 48 (i + 12) + 1)) (fun k a hk p => ?_) _ _ a (by omega) p
  exact p.fiC k (by omega) (by omega) (by omega)

set_option maxRecDepth 100000 in
set_option maxHeartbeats 4000000 in
theorem l0_X16_realise {X : e_XT} {d : Nat} {p : e_Sp} {I : e_I} {J : e_Jt} {c : Nat × Nat} {w : e_Rw1} {Q : e_Rt → e_SS → Prop} {nk nr np a b n0 B : Nat} (hX : (X 8).1 = 0) {u ch st bd : Int32} (ha9 : a + n0 + B + 100002000 < 4294960000) (hn9 : n0 + B + 2000 < 39999999) {R : e_I} (hk : ∀ p1 c1 n1 o5, q_X p p1 → q_G p1 R c1 nk nr np a b n1 → n1 ≤ n0 + B + 32 → q_bk R → s_w X (d + 9) K_X16_realise 125 [some (.ref (p1.1 T_MODEL 0)), some (.int u), some (.int ch), some (.int st), some (.int bd), o5] [] (p1, R, J, c1, w) (fun r S' => e_rcr (some .int) r = true ∧ Q r S')) : ∀ (n : Nat) (i : Nat) (p1 : e_Sp) (I1 : e_I) (c1 : Nat × Nat) (n1 : Nat), (h1 : i ≤ 32) → (x1 : q_X p p1) → (hG1 : q_G p1 I1 c1 nk nr np a b n1) → (hn1 : n1 ≤ n0 + B + i) → (hb1 : q_bk I1) → (hr : s_run (q_rz0 u) i (32 - i) I1 = R) → (hn : 32 - i < n) → s_w X (d + 9) K_X16_realise 97 [some (.ref (p1.1 T_MODEL 0)), some (.int u), some (.int ch), some (.int st), some (.int bd), some (.int (nI i))] [] (p1, I1, J, c1, w) (fun r S' => e_rcr (some FieldType.int) r = true ∧ Q r S') := by
  intro n
  induction n with
  | zero =>
    intro i p1 I1 c1 n1 h1 x1 hG1 hn1 hb1 hr hn
    exact absurd hn (Nat.not_lt_zero _)
  | succ n ih =>
    intro i p1 I1 c1 n1 h1 x1 hG1 hn1 hb1 hr hn
    have hp := hG1.1.1
    refine w_op (pc' := 99) dX16_realise_97 rfl ?_
    refine w_bipush (v := 32) dX16_realise_99 rfl ?_
    refine w_icmpge (t := 125) dX16_realise_101 (by decide) (fun c101 => ?_) (fun c101 => ?_)
    · have hi : 32 ≤ i := (nI_leI (a := 32) (by omega) (by omega)).mp c101
      rw [s_run_z hi] at hr; subst hr
      exact hk p1 c1 n1 _ x1 hG1 (by omega) hb1
    · have hi : i < 32 := Nat.lt_of_not_le (fun t => c101 ((nI_leI (a := 32) (by omega) (by omega)).mpr t))
      refine w_op (pc' := 106) dX16_realise_104 rfl ?_
      refine w_op (pc' := 107) dX16_realise_106 rfl ?_
      refine w_icmpeq (t := 119) dX16_realise_107 (by decide) (fun c107 => ?_) (fun c107 => ?_)
      · refine w_op (pc' := 122) (ll' := [_, _, _, _, _, _]) dX16_realise_119 rfl ?_
        refine w_goto (t := 97) dX16_realise_122 (by decide) ?_
        rw [show nI i + Int32.ofInt 1 = nI (i + 1) from nI_1 i]
        have ef : q_rz0 u i I1 = I1 := if_pos (c107)
        rw [s_run_s hi, ef] at hr
        exact ih (i + 1) p1 I1 c1 n1 (by omega) x1 hG1 (by omega) hb1 hr (by omega)
      · refine w_op (pc' := 111) dX16_realise_110 rfl ?_
        refine w_iconst (v := 0) dX16_realise_111 rfl ?_
        refine w_op (pc' := 114) dX16_realise_112 rfl ?_
        refine w_iconst (v := 0) dX16_realise_114 rfl ?_
        refine t_callV (t := T_MODEL) (As := [_, _, _]) dX16_realise_115 rfl rM_X16_moved (by decide) rfl rfl (by decide) (by decide) (Nat.le_of_ble_eq_true rfl) rfl (hp.1 _ rfl) (c_X16_moved hp (q_i0 hi) (Or.inl rfl) hG1.2.2.2.1 hG1.2.2.2.2.2.1 hX (by omega) (by omega) (fun p2 c2 n2 x2 hL2 hn2 => ?_))
        show s_w _ _ _ 118 _ _ _ _
        have hG2 := hG1.mdv (Or.inl rfl) x2 hL2 (by omega) (by omega)
        rw [← x2.a (t := T_MODEL) (i := 0) (by decide)]
        refine w_op (pc' := 119) dX16_realise_118 rfl ?_
        refine w_op (pc' := 122) (ll' := [_, _, _, _, _, _]) dX16_realise_119 rfl ?_
        refine w_goto (t := 97) dX16_realise_122 (by decide) ?_
        rw [show nI i + Int32.ofInt 1 = nI (i + 1) from nI_1 i]
        have ef : q_rz0 u i I1 = _ := if_neg c107
        rw [s_run_s hi, ef] at hr
        exact ih (i + 1) p2 _ c2 n2 (by omega) (x1.trans x2) hG2 (by omega) hb1.mdv hr (by omega)
set_option maxRecDepth 100000 in
set_option maxHeartbeats 4000000 in
theorem l1_X16_realise {X : e_XT} {d : Nat} {p : e_Sp} {I : e_I} {J : e_Jt} {c : Nat × Nat} {w : e_Rw1} {Q : e_Rt → e_SS → Prop} {nk nr np a b n0 B : Nat} (hX : (X 8).1 = 0) {u ch st bd : Int32} (ha9 : a + n0 + B + 100002000 < 4294960000) (hn9 : n0 + B + 2000 < 39999999) {R : e_I} (hk : ∀ p1 c1 n1 o5, q_X p p1 → q_G p1 R c1 nk nr np a b n1 → n1 ≤ n0 + B + 61 → q_bk R → s_w X (d + 9) K_X16_realise 183 [some (.ref (p1.1 T_MODEL 0)), some (.int u), some (.int ch), some (.int st), some (.int bd), o5] [] (p1, R, J, c1, w) (fun r S' => e_rcr (some .int) r = true ∧ Q r S')) : ∀ (n : Nat) (i : Nat) (p1 : e_Sp) (I1 : e_I) (c1 : Nat × Nat) (n1 : Nat), (h1 : i ≤ 61) → (x1 : q_X p p1) → (hG1 : q_G p1 I1 c1 nk nr np a b n1) → (hn1 : n1 ≤ n0 + B + i) → (hb1 : q_bk I1) → (hr : s_run q_rz1 i (61 - i) I1 = R) → (hn : 61 - i < n) → s_w X (d + 9) K_X16_realise 128 [some (.ref (p1.1 T_MODEL 0)), some (.int u), some (.int ch), some (.int st), some (.int bd), some (.int (nI i))] [] (p1, I1, J, c1, w) (fun r S' => e_rcr (some FieldType.int) r = true ∧ Q r S') := by
  intro n
  induction n with
  | zero =>
    intro i p1 I1 c1 n1 h1 x1 hG1 hn1 hb1 hr hn
    exact absurd hn (Nat.not_lt_zero _)
  | succ n ih =>
    intro i p1 I1 c1 n1 h1 x1 hG1 hn1 hb1 hr hn
    have hp := hG1.1.1
    refine w_op (pc' := 130) dX16_realise_128 rfl ?_
    refine w_bipush (v := 61) dX16_realise_130 rfl ?_
    refine w_icmpge (t := 183) dX16_realise_132 (by decide) (fun c132 => ?_) (fun c132 => ?_)
    · have hi : 61 ≤ i := (nI_leI (a := 61) (by omega) (by omega)).mp c132
      rw [s_run_z hi] at hr; subst hr
      exact hk p1 c1 n1 _ x1 hG1 (by omega) hb1
    · have hi : i < 61 := Nat.lt_of_not_le (fun t => c132 ((nI_leI (a := 61) (by omega) (by omega)).mpr t))
      refine w_op (pc' := 137) dX16_realise_135 rfl ?_
      refine w_op (pc' := 138) dX16_realise_137 rfl ?_
      refine t_getG0 (G := g_m_best) dX16_realise_138 rfl rfl (by decide) rfl (fun _ => rfl) (hp.1 _ rfl) ?_
      refine w_iconst (v := 0) dX16_realise_141 rfl ?_
      refine t_iald0 (F := f_m_best) dX16_realise_142 rfl (by decide) rfl (hp.1 _ rfl) (s_ix.nI (n := 0) (N := 3) (by decide) (by decide)) (by decide) ?_
      refine w_icmpeq (t := 177) dX16_realise_143 (by decide) (fun c143 => ?_) (fun c143 => ?_)
      · refine w_op (pc' := 180) (ll' := [_, _, _, _, _, _]) dX16_realise_177 rfl ?_
        refine w_goto (t := 128) dX16_realise_180 (by decide) ?_
        rw [show nI i + Int32.ofInt 1 = nI (i + 1) from nI_1 i]
        have ef : q_rz1 i I1 = I1 := if_pos (Or.inl c143)
        rw [s_run_s hi, ef] at hr
        exact ih (i + 1) p1 I1 c1 n1 (by omega) x1 hG1 (by omega) hb1 hr (by omega)
      · refine w_op (pc' := 148) dX16_realise_146 rfl ?_
        refine w_op (pc' := 149) dX16_realise_148 rfl ?_
        refine t_getG0 (G := g_m_best) dX16_realise_149 rfl rfl (by decide) rfl (fun _ => rfl) (hp.1 _ rfl) ?_
        refine w_iconst (v := 1) dX16_realise_152 rfl ?_
        refine t_iald0 (F := f_m_best) dX16_realise_153 rfl (by decide) rfl (hp.1 _ rfl) (s_ix.nI (n := 1) (N := 3) (by decide) (by decide)) (by decide) ?_
        refine w_icmpeq (t := 177) dX16_realise_154 (by decide) (fun c154 => ?_) (fun c154 => ?_)
        · refine w_op (pc' := 180) (ll' := [_, _, _, _, _, _]) dX16_realise_177 rfl ?_
          refine w_goto (t := 128) dX16_realise_180 (by decide) ?_
          rw [show nI i + Int32.ofInt 1 = nI (i + 1) from nI_1 i]
          have ef : q_rz1 i I1 = I1 := if_pos (Or.inr (Or.inl c154))
          rw [s_run_s hi, ef] at hr
          exact ih (i + 1) p1 I1 c1 n1 (by omega) x1 hG1 (by omega) hb1 hr (by omega)
        · refine w_op (pc' := 159) dX16_realise_157 rfl ?_
          refine w_op (pc' := 160) dX16_realise_159 rfl ?_
          refine t_getG0 (G := g_m_best) dX16_realise_160 rfl rfl (by decide) rfl (fun _ => rfl) (hp.1 _ rfl) ?_
          refine w_iconst (v := 2) dX16_realise_163 rfl ?_
          refine t_iald0 (F := f_m_best) dX16_realise_164 rfl (by decide) rfl (hp.1 _ rfl) (s_ix.nI (n := 2) (N := 3) (by decide) (by decide)) (by decide) ?_
          refine w_icmpeq (t := 177) dX16_realise_165 (by decide) (fun c165 => ?_) (fun c165 => ?_)
          · refine w_op (pc' := 180) (ll' := [_, _, _, _, _, _]) dX16_realise_177 rfl ?_
            refine w_goto (t := 128) dX16_realise_180 (by decide) ?_
            rw [show nI i + Int32.ofInt 1 = nI (i + 1) from nI_1 i]
            have ef : q_rz1 i I1 = I1 := if_pos (Or.inr (Or.inr c165))
            rw [s_run_s hi, ef] at hr
            exact ih (i + 1) p1 I1 c1 n1 (by omega) x1 hG1 (by omega) hb1 hr (by omega)
          · refine w_op (pc' := 169) dX16_realise_168 rfl ?_
            refine w_iconst (v := 1) dX16_realise_169 rfl ?_
            refine w_op (pc' := 172) dX16_realise_170 rfl ?_
            refine w_iconst (v := 0) dX16_realise_172 rfl ?_
            refine t_callV (t := T_MODEL) (As := [_, _, _]) dX16_realise_173 rfl rM_X16_moved (by decide) rfl rfl (by decide) (by decide) (Nat.le_of_ble_eq_true rfl) rfl (hp.1 _ rfl) (c_X16_moved hp (q_i1 hi) (Or.inl rfl) hG1.2.2.2.1 hG1.2.2.2.2.2.1 hX (by omega) (by omega) (fun p2 c2 n2 x2 hL2 hn2 => ?_))
            show s_w _ _ _ 176 _ _ _ _
            have hG2 := hG1.mdv (Or.inl rfl) x2 hL2 (by omega) (by omega)
            rw [← x2.a (t := T_MODEL) (i := 0) (by decide)]
            refine w_op (pc' := 177) dX16_realise_176 rfl ?_
            refine w_op (pc' := 180) (ll' := [_, _, _, _, _, _]) dX16_realise_177 rfl ?_
            refine w_goto (t := 128) dX16_realise_180 (by decide) ?_
            rw [show nI i + Int32.ofInt 1 = nI (i + 1) from nI_1 i]
            have ef : q_rz1 i I1 = _ := if_neg (fun z => z.elim c143 (fun z => z.elim c154 c165))
            rw [s_run_s hi, ef] at hr
            exact ih (i + 1) p2 _ c2 n2 (by omega) (x1.trans x2) hG2 (by omega) hb1.mdv hr (by omega)
set_option maxRecDepth 100000 in
set_option maxHeartbeats 4000000 in
theorem l2_X16_realise {X : e_XT} {d : Nat} {p : e_Sp} {I : e_I} {J : e_Jt} {c : Nat × Nat} {w : e_Rw1} {Q : e_Rt → e_SS → Prop} {nk nr np a b n0 B : Nat} (hX : (X 8).1 = 0) {u ch st bd : Int32} (ha9 : a + n0 + B + 100002000 < 4294960000) (hn9 : n0 + B + 2000 < 39999999) {R : e_I} (hk : ∀ p1 c1 n1 o5, q_X p p1 → q_G p1 R c1 nk nr np a b n1 → n1 ≤ n0 + B + 3 → q_bk R → s_w X (d + 9) K_X16_realise 236 [some (.ref (p1.1 T_MODEL 0)), some (.int u), some (.int ch), some (.int st), some (.int bd), o5] [] (p1, R, J, c1, w) (fun r S' => e_rcr (some .int) r = true ∧ Q r S')) : ∀ (n : Nat) (i : Nat) (p1 : e_Sp) (I1 : e_I) (c1 : Nat × Nat) (n1 : Nat), (h1 : i ≤ 3) → (x1 : q_X p p1) → (hG1 : q_G p1 I1 c1 nk nr np a b n1) → (hn1 : n1 ≤ n0 + B + i) → (hb1 : q_bk I1) → (hr : s_run q_rz2 i (3 - i) I1 = R) → (hn : 3 - i < n) → s_w X (d + 9) K_X16_realise 194 [some (.ref (p1.1 T_MODEL 0)), some (.int u), some (.int ch), some (.int st), some (.int bd), some (.int (nI i))] [] (p1, I1, J, c1, w) (fun r S' => e_rcr (some FieldType.int) r = true ∧ Q r S') := by
  intro n
  induction n with
  | zero =>
    intro i p1 I1 c1 n1 h1 x1 hG1 hn1 hb1 hr hn
    exact absurd hn (Nat.not_lt_zero _)
  | succ n ih =>
    intro i p1 I1 c1 n1 h1 x1 hG1 hn1 hb1 hr hn
    have hp := hG1.1.1
    refine w_op (pc' := 196) dX16_realise_194 rfl ?_
    refine w_iconst (v := 3) dX16_realise_196 rfl ?_
    refine w_icmpge (t := 236) dX16_realise_197 (by decide) (fun c197 => ?_) (fun c197 => ?_)
    · have hi : 3 ≤ i := (nI_leI (a := 3) (by omega) (by omega)).mp c197
      rw [s_run_z hi] at hr; subst hr
      exact hk p1 c1 n1 _ x1 hG1 (by omega) hb1
    · have hi : i < 3 := Nat.lt_of_not_le (fun t => c197 ((nI_leI (a := 3) (by omega) (by omega)).mpr t))
      refine w_op (pc' := 201) dX16_realise_200 rfl ?_
      refine w_iconst (v := 1) dX16_realise_201 rfl ?_
      refine w_op (pc' := 203) dX16_realise_202 rfl ?_
      refine t_getG0 (G := g_m_best) dX16_realise_203 rfl rfl (by decide) rfl (fun _ => rfl) (hp.1 _ rfl) ?_
      refine w_op (pc' := 208) dX16_realise_206 rfl ?_
      refine t_iald0 (F := f_m_best) dX16_realise_208 rfl (by decide) rfl (hp.1 _ rfl) (s_ix.nI (n := i) (N := 3) hi (by decide)) hi ?_
      refine w_iconst (v := 1) dX16_realise_209 rfl ?_
      refine t_callV (t := T_MODEL) (As := [_, _, _]) dX16_realise_210 rfl rM_X16_moved (by decide) rfl rfl (by decide) (by decide) (Nat.le_of_ble_eq_true rfl) rfl (hp.1 _ rfl) (c_X16_moved hp (hb1 i hi) (Or.inr rfl) hG1.2.2.2.1 hG1.2.2.2.2.2.1 hX (by omega) (by omega) (fun p2 c2 n2 x2 hL2 hn2 => ?_))
      show s_w _ _ _ 213 _ _ _ _
      have hG2 := hG1.mdv (Or.inr rfl) x2 hL2 (by omega) (by omega)
      rw [← x2.a (t := T_MODEL) (i := 0) (by decide)]
      have hp := hG2.1.1
      refine w_op (pc' := 214) dX16_realise_213 rfl ?_
      refine w_op (pc' := 215) dX16_realise_214 rfl ?_
      refine t_getG0 (G := g_m_chord) dX16_realise_215 rfl rfl (by decide) rfl (fun _ => rfl) (hp.1 _ rfl) ?_
      refine w_op (pc' := 220) dX16_realise_218 rfl ?_
      refine w_iconst (v := 1) dX16_realise_220 rfl ?_
      refine w_op (pc' := 222) dX16_realise_221 rfl ?_
      rw [show nI i + 1 = nI (i + 1) from nI_1 i]
      refine w_op (pc' := 223) dX16_realise_222 rfl ?_
      refine t_getG0 (G := g_m_best) dX16_realise_223 rfl rfl (by decide) rfl (fun _ => rfl) (hp.1 _ rfl) ?_
      refine w_op (pc' := 228) dX16_realise_226 rfl ?_
      refine t_iald0 (F := f_m_best) dX16_realise_228 rfl (by decide) rfl (hp.1 _ rfl) (s_ix.nI (n := i) (N := 3) hi (by decide)) hi ?_
      refine t_iast0 (F := f_m_chord) dX16_realise_229 rfl (by decide) (by decide) rfl (hp.1 _ rfl) (s_ix.nI (n := i + 1) (N := 4) (by omega) (by decide)) (by omega) ?_
      refine w_op (pc' := 233) (ll' := [_, _, _, _, _, _]) dX16_realise_230 rfl ?_
      refine w_goto (t := 194) dX16_realise_233 (by decide) ?_
      rw [show nI i + Int32.ofInt 1 = nI (i + 1) from nI_1 i]
      rw [s_run_s hi] at hr
      refine ih (i + 1) p2 (q_rz2 i I1) c2 n2 (by omega) (x1.trans x2) (hG2.up (by decide)) (by omega) ?_ hr (by omega)
      intro n hn
      show s_isk 1 (s_up _ f_m_chord (i + 1) _ f_m_best n)
      rw [s_up_F (by decide)]
      exact hb1.mdv n hn
set_option maxRecDepth 100000 in
set_option maxHeartbeats 4000000 in
theorem ls_X16_realise {X : e_XT} {d : Nat} {p : e_Sp} {I : e_I} {J : e_Jt} {c : Nat × Nat} {w : e_Rw1} {Q : e_Rt → e_SS → Prop} (hp : s_ok p) {u ch : Int32} {R : Nat} {o4 o5 : Option Value} (hk : R ≤ 7 → s_w X (d + 9) K_X16_realise 73 [some (.ref (p.1 T_MODEL 0)), some (.int u), some (.int ch), some (.int (nI R)), o4, o5] [] (p, I, J, c, w) (fun r S' => e_rcr (some .int) r = true ∧ Q r S')) : ∀ (n : Nat) (i : Nat), (h1 : i ≤ 7) → (hr : q_s7 I u (7 - i) i = R) → (hn : 7 - i < n) → s_w X (d + 9) K_X16_realise 46 [some (.ref (p.1 T_MODEL 0)), some (.int u), some (.int ch), some (.int (nI i)), o4, o5] [] (p, I, J, c, w) (fun r S' => e_rcr (some FieldType.int) r = true ∧ Q r S') := by
  intro n
  induction n with
  | zero =>
    intro i h1 hr hn
    exact absurd hn (Nat.not_lt_zero _)
  | succ n ih =>
    intro i h1 hr hn
    refine w_op (pc' := 47) dX16_realise_46 rfl ?_
    refine w_bipush (v := 7) dX16_realise_47 rfl ?_
    refine w_icmpge (t := 73) dX16_realise_49 (by decide) (fun c49 => ?_) (fun c49 => ?_)
    · have hi : 7 ≤ i := (nI_leI (a := 7) (by omega) (by omega)).mp c49
      rw [show 7 - i = 0 by omega] at hr
      have hr : i = R := hr
      subst hr
      exact hk h1
    · have hi : i < 7 := Nat.lt_of_not_le (fun t => c49 ((nI_leI (a := 7) (by omega) (by omega)).mpr t))
      refine w_op (pc' := 53) dX16_realise_52 rfl ?_
      refine w_op (pc' := 54) dX16_realise_53 rfl ?_
      refine t_callV (t := T_MODEL) (As := [_]) dX16_realise_54 rfl rM_X16_classOf (by decide) rfl rfl (by decide) (by decide) (Nat.le_of_ble_eq_true rfl) rfl (hp.1 _ rfl) (c_X16_classOf hp ?_)
      show s_w _ _ _ 57 _ _ _ _
      refine w_bipush (v := 36) dX16_realise_57 rfl ?_
      refine w_op (pc' := 60) dX16_realise_59 rfl ?_
      refine w_op (pc' := 61) dX16_realise_60 rfl ?_
      refine w_bipush (v := 12) dX16_realise_61 rfl ?_
      refine w_op (pc' := 64) dX16_realise_63 (by rfl) ?_
      refine w_icmpeq (t := 73) dX16_realise_64 (by decide) (fun c64 => ?_) (fun c64 => ?_)
      · rw [show 7 - i = (7 - (i + 1)) + 1 by omega] at hr
        have hr : (if q_cla I (nI i) = s_r12 (36 + u) then i else q_s7 I u (7 - (i + 1)) (i + 1)) = R := hr
        rw [if_pos (show q_cla I (nI i) = s_r12 (36 + u) from c64)] at hr
        subst hr
        exact hk h1
      · refine w_op (pc' := 70) (ll' := [_, _, _, _, _, _]) dX16_realise_67 rfl ?_
        refine w_goto (t := 46) dX16_realise_70 (by decide) ?_
        rw [show nI i + Int32.ofInt 1 = nI (i + 1) from nI_1 i]
        rw [show 7 - i = (7 - (i + 1)) + 1 by omega] at hr
        have hr : (if q_cla I (nI i) = s_r12 (36 + u) then i else q_s7 I u (7 - (i + 1)) (i + 1)) = R := hr
        rw [if_neg (show ¬ q_cla I (nI i) = s_r12 (36 + u) from c64)] at hr
        exact ih (i + 1) (by omega) hr (by omega)
set_option maxRecDepth 100000 in
set_option maxHeartbeats 4000000 in
theorem lz_X16_realise {X : e_XT} {d : Nat} {p : e_Sp} {I : e_I} {J : e_Jt} {c : Nat × Nat} {w : e_Rw1} {Q : e_Rt → e_SS → Prop} {nk nr np a b n : Nat} (hG : q_G p I c nk nr np a b n) (hX : (X 8).1 = 0) {u ch st bd : Int32} {o5 : Option Value} (k : ∀ p' c' n', q_X p p' → q_L p' (q_st nk nr np ((s_up (s_up I f_m_chord 0 u) f_m_hasChord 0 1), J)).1 c' a b n' → n' ≤ n + np → Q (.inl (some (.int bd))) (p', q_an (q_st nk nr np ((s_up (s_up I f_m_chord 0 u) f_m_hasChord 0 1), J)).1, (q_st nk nr np ((s_up (s_up I f_m_chord 0 u) f_m_hasChord 0 1), J)).2, c', w)) : s_w X (d + 10) K_X16_realise 236 [some (.ref (p.1 T_MODEL 0)), some (.int u), some (.int ch), some (.int st), some (.int bd), o5] [] (p, I, J, c, w) (fun r S' => e_rcr (some .int) r = true ∧ Q r S') := by
  have hp := hG.1.1
  refine w_op (pc' := 237) dX16_realise_236 rfl ?_
  refine t_getG0 (G := g_m_chord) dX16_realise_237 rfl rfl (by decide) rfl (fun _ => rfl) (hp.1 _ rfl) ?_
  refine w_iconst (v := 0) dX16_realise_240 rfl ?_
  refine w_op (pc' := 242) dX16_realise_241 rfl ?_
  refine t_iast0 (F := f_m_chord) dX16_realise_242 rfl (by decide) (by decide) rfl (hp.1 _ rfl) (s_ix.nI (n := 0) (N := 4) (by decide) (by decide)) (by decide) ?_
  refine w_op (pc' := 244) dX16_realise_243 rfl ?_
  refine w_iconst (v := 1) dX16_realise_244 rfl ?_
  refine t_putI (F := f_m_hasChord) dX16_realise_245 rfl rfl (by decide) (by decide) rfl (s_ckb (Or.inr rfl)) (Or.inl rfl) (hp.1 _ rfl) ?_
  refine w_op (pc' := 249) dX16_realise_248 rfl ?_
  refine w_op (pc' := 251) dX16_realise_249 rfl ?_
  refine t_callV (t := T_MODEL) (As := [_]) dX16_realise_251 rfl rM_X16_settled (by decide) rfl rfl (by decide) (by decide) (Nat.le_of_ble_eq_true rfl) rfl (hp.1 _ rfl) (c_X16_settled ((hG.up (F := f_m_chord) (by decide)).up (F := f_m_hasChord) (by decide)) hX (fun p1 c1 n1 x1 hL1 hn1 => ?_))
  show s_w _ _ _ 254 _ _ _ _
  exact w_ireturn dX16_realise_254 ⟨rfl, k p1 c1 n1 x1 hL1 hn1⟩

set_option maxRecDepth 100000 in
set_option maxHeartbeats 4000000 in
theorem lr_X16_realise {X : e_XT} {d : Nat} {p : e_Sp} {I : e_I} {J : e_Jt} {c : Nat × Nat} {w : e_Rw1} {Q : e_Rt → e_SS → Prop} {nk nr np a b n0 : Nat} (hG : q_G p I c nk nr np a b n0) (hX : (X 8).1 = 0)  (ha9 : a + n0 + 100003000 < 4294960000) (hn9 : n0 + 3000 < 39999999) (hb : q_bk I) {u ch st bd : Int32} (hu : s_isk 0 u) {o5 : Option Value} (k : ∀ p' c' n', q_X p p' → q_L p' (q_st nk nr np (q_rz I u, J)).1 c' a b n' → n' ≤ n0 + 97 + np → Q (.inl (some (.int bd))) (p', q_an (q_st nk nr np (q_rz I u, J)).1, (q_st nk nr np (q_rz I u, J)).2, c', w)) : s_w X (d + 10) K_X16_realise 94 [some (.ref (p.1 T_MODEL 0)), some (.int u), some (.int ch), some (.int st), some (.int bd), o5] [] (p, I, J, c, w) (fun r S' => e_rcr (some .int) r = true ∧ Q r S') := by
  have hp := hG.1.1
  refine w_iconst (v := 0) dX16_realise_94 rfl ?_
  refine w_op (pc' := 97) (ll' := [_, _, _, _, _, _]) dX16_realise_95 rfl ?_
  refine l0_X16_realise (I := I) (c := c) (n0 := n0) (a := a) (b := b) (B := 0) (d := d + 1) hX (by omega) (by omega) (R := s_run (q_rz0 u) 0 32 I) (fun p1 c1 n1 o5 x1 hG1 hn1 hb1 => ?_) 33 0 p I c n0 (Nat.zero_le _) q_X.rfl' hG (by omega) hb rfl (by omega)
  have hp1 := hG1.1.1
  refine w_iconst (v := 0) dX16_realise_125 rfl ?_
  refine w_op (pc' := 128) (ll' := [_, _, _, _, _, _]) dX16_realise_126 rfl ?_
  refine l1_X16_realise (p := p1) (I := I) (c := c) (n0 := n1) (a := a) (b := b) (B := 0) (d := d + 1) hX (by omega) (by omega) (R := s_run q_rz1 0 61 (s_run (q_rz0 u) 0 32 I)) (fun p2 c2 n2 o5 x2 hG2 hn2 hb2 => ?_) 62 0 p1 _ c1 n1 (Nat.zero_le _) q_X.rfl' hG1 (by omega) hb1 rfl (by omega)
  have hp2 := hG2.1.1
  refine w_op (pc' := 184) dX16_realise_183 rfl ?_
  refine w_iconst (v := 0) dX16_realise_184 rfl ?_
  refine w_op (pc' := 186) dX16_realise_185 rfl ?_
  refine w_iconst (v := 1) dX16_realise_186 rfl ?_
  refine t_callV (t := T_MODEL) (As := [_, _, _]) dX16_realise_187 rfl rM_X16_moved (by decide) rfl rfl (by decide) (by decide) (Nat.le_of_ble_eq_true rfl) rfl (hp2.1 _ rfl) (c_X16_moved hp2 hu (Or.inr rfl) hG2.2.2.2.1 hG2.2.2.2.2.2.1 hX (by omega) (by omega) (fun p3 c3 n3 x3 hL3 hn3 => ?_))
  show s_w _ _ _ 190 _ _ _ _
  have hG3 := hG2.mdv (Or.inr rfl) x3 hL3 (by omega) (by omega)
  rw [← x3.a (t := T_MODEL) (i := 0) (by decide)]
  refine w_op (pc' := 191) dX16_realise_190 rfl ?_
  refine w_iconst (v := 0) dX16_realise_191 rfl ?_
  refine w_op (pc' := 194) (ll' := [_, _, _, _, _, _]) dX16_realise_192 rfl ?_
  refine l2_X16_realise (p := p3) (I := I) (c := c) (n0 := n3) (a := a) (b := b) (B := 0) (d := d + 1) hX (by omega) (by omega) (R := s_run q_rz2 0 3 (q_mdv (s_run q_rz1 0 61 (s_run (q_rz0 u) 0 32 I)) 0 u 1)) (fun p4 c4 n4 o5 x4 hG4 hn4 hb4 => ?_) 4 0 p3 _ c3 n3 (Nat.zero_le _) q_X.rfl' hG3 (by omega) hb2.mdv rfl (by omega)
  exact lz_X16_realise hG4 hX (fun p5 c5 n5 x5 hL5 hn5 => k p5 c5 n5 ((((x1.trans x2).trans x3).trans x4).trans x5) hL5 (by omega))

set_option maxRecDepth 100000 in
set_option maxHeartbeats 4000000 in
theorem lq_X16_realise {X : e_XT} {d : Nat} {p : e_Sp} {I : e_I} {J : e_Jt} {c : Nat × Nat} {w : e_Rw1} {Q : e_Rt → e_SS → Prop} {nk nr np a b n0 : Nat} (hG : q_G p I c nk nr np a b n0) (hX : (X 8).1 = 0)  (ha9 : a + n0 + 100003000 < 4294960000) (hn9 : n0 + 3000 < 39999999) (hb : q_bk I) {u ch : Int32} (hu : s_isk 0 u) {st : Nat} (hst : st ≤ 7) {o4 o5 : Option Value} (k : st < 7 → ∀ p' c' n', q_X p p' → q_L p' (q_st nk nr np (q_rz (q_fi I u (nI st) ch).1 u, J)).1 c' a b n' → n' ≤ n0 + 97 + np → Q (.inl (some (.int (q_fi I u (nI st) ch).2.1))) (p', q_an (q_st nk nr np (q_rz (q_fi I u (nI st) ch).1 u, J)).1, (q_st nk nr np (q_rz (q_fi I u (nI st) ch).1 u, J)).2, c', w)) (kx3 : st = 7 → Q (.inl (some (.int 0))) (p, q_fl I 3, J, c, w)) : s_w X (d + 10) K_X16_realise 73 [some (.ref (p.1 T_MODEL 0)), some (.int u), some (.int ch), some (.int (nI st)), o4, o5] [] (p, I, J, c, w) (fun r S' => e_rcr (some .int) r = true ∧ Q r S') := by
  have hp := hG.1.1
  refine w_op (pc' := 74) dX16_realise_73 rfl ?_
  refine w_bipush (v := 7) dX16_realise_74 rfl ?_
  refine w_icmpne (t := 85) dX16_realise_76 (by decide) (fun c76 => ?_) (fun c76 => ?_)
  · have h7 : ¬ st = 7 := fun z => c76 (by rw [z]; rfl)
    refine w_op (pc' := 86) dX16_realise_85 rfl ?_
    refine w_op (pc' := 87) dX16_realise_86 rfl ?_
    refine w_op (pc' := 88) dX16_realise_87 rfl ?_
    refine w_op (pc' := 89) dX16_realise_88 rfl ?_
    refine t_callV (t := T_MODEL) (As := [_, _, _]) dX16_realise_89 rfl rM_X16_finds (by decide) rfl rfl (by decide) (by decide) (Nat.le_of_ble_eq_true rfl) rfl (hp.1 _ rfl) (c_X16_finds hp ?_)
    show s_w _ _ _ 92 _ _ _ _
    refine w_op (pc' := 94) (ll' := [_, _, _, _, _, _]) dX16_realise_92 rfl ?_
    exact lr_X16_realise (d := d) (hG.eqN s_eqN.qfi (by decide)) hX ha9 hn9 hb.fi hu (k (by omega))
  · refine w_op (pc' := 80) dX16_realise_79 rfl ?_
    refine w_iconst (v := 3) dX16_realise_80 rfl ?_
    refine t_callV (t := T_MODEL) (As := [_]) dX16_realise_81 rfl rM_X16_fails (by decide) rfl rfl (by decide) (by decide) (Nat.le_of_ble_eq_true rfl) rfl (hp.1 _ rfl) (c_X16_fails hp ?_)
    show s_w _ _ _ 84 _ _ _ _
    exact w_ireturn dX16_realise_84 ⟨rfl, kx3 ((nI_eq (b := 7) (by omega) (by decide)).mp c76)⟩

set_option maxRecDepth 100000 in
set_option maxHeartbeats 4000000 in
theorem c_X16_realise {X : e_XT} {d : Nat} {p : e_Sp} {I : e_I} {J : e_Jt} {c : Nat × Nat} {w : e_Rw1} {Q : e_Rt → e_SS → Prop} {nk nr np a b n0 : Nat} (hG : q_G p I c nk nr np a b n0) (hX : (X 8).1 = 0) (ha9 : a + n0 + 100003000 < 4294960000) (hn9 : n0 + 3000 < 39999999) (hb : q_bk I) {u ch : Int32} (k : s_isk 0 u → (ch = 53 ∨ ch = 54 ∨ ch = 52 ∨ ch = 55) → q_s7 I u 7 0 < 7 → ∀ p' c' n', q_X p p' → q_L p' (q_st nk nr np (q_rz (q_fi I u (nI (q_s7 I u 7 0)) ch).1 u, J)).1 c' a b n' → n' ≤ n0 + 97 + np → Q (.inl (some (.int (q_fi I u (nI (q_s7 I u 7 0)) ch).2.1))) (p', q_an (q_st nk nr np (q_rz (q_fi I u (nI (q_s7 I u 7 0)) ch).1 u, J)).1, (q_st nk nr np (q_rz (q_fi I u (nI (q_s7 I u 7 0)) ch).1 u, J)).2, c', w)) (kx : ¬ s_isk 0 u → Q (.inl (some (.int 0))) (p, q_fl I 1, J, c, w)) (kx2 : s_isk 0 u → ¬ (ch = 53 ∨ ch = 54 ∨ ch = 52 ∨ ch = 55) → Q (.inl (some (.int 0))) (p, q_fl I 2, J, c, w)) (kx3 : s_isk 0 u → (ch = 53 ∨ ch = 54 ∨ ch = 52 ∨ ch = 55) → q_s7 I u 7 0 = 7 → Q (.inl (some (.int 0))) (p, q_fl I 3, J, c, w)) : s_c X (d + 10) 311 [.ref (p.1 T_MODEL 0), .int u, .int ch] (p, I, J, c, w) Q := by
  have hp := hG.1.1
  refine m_X16_realise (Nat.le_of_ble_eq_true rfl) ?_
  show s_w _ _ _ 0 _ _ _ _
  refine w_iconst (v := 0) dX16_realise_0 rfl ?_
  refine w_op (pc' := 2) dX16_realise_1 rfl ?_
  refine t_callS (As := [_, _]) dX16_realise_2 rfl rM_X16_isKey (by decide) rfl rfl (by decide) (Nat.le_of_ble_eq_true rfl) (c_X16_isKey ?_)
  show s_w _ _ _ 5 _ _ _ _
  refine w_ifne (t := 14) dX16_realise_5 (by decide) (fun c5 => ?_) (fun c5 => ?_)
  · have hu := of_decide_eq_true (bI_n0.mp c5)
    refine w_op (pc' := 15) dX16_realise_14 rfl ?_
    refine w_bipush (v := 53) dX16_realise_15 rfl ?_
    refine w_icmpeq (t := 44) dX16_realise_17 (by decide) (fun c17 => ?_) (fun c17 => ?_)
    · refine w_iconst (v := 0) dX16_realise_44 rfl ?_
      refine w_op (pc' := 46) (ll' := [_, _, _, _, _, _]) dX16_realise_45 rfl ?_
      have hf : (ch = 53 ∨ ch = 54 ∨ ch = 52 ∨ ch = 55) := by grind
      exact ls_X16_realise (d := d + 1) hp (fun h7 => lq_X16_realise hG hX ha9 hn9 hb hu h7 (k hu hf) (kx3 hu hf)) 8 0 (Nat.zero_le _) rfl (by omega)
    · refine w_op (pc' := 21) dX16_realise_20 rfl ?_
      refine w_bipush (v := 54) dX16_realise_21 rfl ?_
      refine w_icmpeq (t := 44) dX16_realise_23 (by decide) (fun c23 => ?_) (fun c23 => ?_)
      · refine w_iconst (v := 0) dX16_realise_44 rfl ?_
        refine w_op (pc' := 46) (ll' := [_, _, _, _, _, _]) dX16_realise_45 rfl ?_
        have hf : (ch = 53 ∨ ch = 54 ∨ ch = 52 ∨ ch = 55) := by grind
        exact ls_X16_realise (d := d + 1) hp (fun h7 => lq_X16_realise hG hX ha9 hn9 hb hu h7 (k hu hf) (kx3 hu hf)) 8 0 (Nat.zero_le _) rfl (by omega)
      · refine w_op (pc' := 27) dX16_realise_26 rfl ?_
        refine w_bipush (v := 52) dX16_realise_27 rfl ?_
        refine w_icmpeq (t := 44) dX16_realise_29 (by decide) (fun c29 => ?_) (fun c29 => ?_)
        · refine w_iconst (v := 0) dX16_realise_44 rfl ?_
          refine w_op (pc' := 46) (ll' := [_, _, _, _, _, _]) dX16_realise_45 rfl ?_
          have hf : (ch = 53 ∨ ch = 54 ∨ ch = 52 ∨ ch = 55) := by grind
          exact ls_X16_realise (d := d + 1) hp (fun h7 => lq_X16_realise hG hX ha9 hn9 hb hu h7 (k hu hf) (kx3 hu hf)) 8 0 (Nat.zero_le _) rfl (by omega)
        · refine w_op (pc' := 33) dX16_realise_32 rfl ?_
          refine w_bipush (v := 55) dX16_realise_33 rfl ?_
          refine w_icmpeq (t := 44) dX16_realise_35 (by decide) (fun c35 => ?_) (fun c35 => ?_)
          · refine w_iconst (v := 0) dX16_realise_44 rfl ?_
            refine w_op (pc' := 46) (ll' := [_, _, _, _, _, _]) dX16_realise_45 rfl ?_
            have hf : (ch = 53 ∨ ch = 54 ∨ ch = 52 ∨ ch = 55) := by grind
            exact ls_X16_realise (d := d + 1) hp (fun h7 => lq_X16_realise hG hX ha9 hn9 hb hu h7 (k hu hf) (kx3 hu hf)) 8 0 (Nat.zero_le _) rfl (by omega)
          · refine w_op (pc' := 39) dX16_realise_38 rfl ?_
            refine w_iconst (v := 2) dX16_realise_39 rfl ?_
            refine t_callV (t := T_MODEL) (As := [_]) dX16_realise_40 rfl rM_X16_fails (by decide) rfl rfl (by decide) (by decide) (Nat.le_of_ble_eq_true rfl) rfl (hp.1 _ rfl) (c_X16_fails hp ?_)
            show s_w _ _ _ 43 _ _ _ _
            exact w_ireturn dX16_realise_43 ⟨rfl, kx2 hu (fun z => z.elim c17 (fun z => z.elim c23 (fun z => z.elim c29 c35)))⟩
  · refine w_op (pc' := 9) dX16_realise_8 rfl ?_
    refine w_iconst (v := 1) dX16_realise_9 rfl ?_
    refine t_callV (t := T_MODEL) (As := [_]) dX16_realise_10 rfl rM_X16_fails (by decide) rfl rfl (by decide) (by decide) (Nat.le_of_ble_eq_true rfl) rfl (hp.1 _ rfl) (c_X16_fails hp ?_)
    show s_w _ _ _ 13 _ _ _ _
    exact w_ireturn dX16_realise_13 ⟨rfl, kx (of_decide_eq_false (bI_0.mp c5))⟩

