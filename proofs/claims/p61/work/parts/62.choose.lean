/-! 62: the best chord (printed by wip/whole/p62.py) -/
def s_chW (X : e_XT) (dg : Int32) (g u v t : Nat) (I : e_I) : e_I := if s_ask X I dg g (nI t) = true ∧ s_apt (nI u) (nI v) (nI t) = true then s_wgB (s_wgT I (nI u) (nI v) (nI t)) (nI u) (nI v) (nI t) else I
def s_chV (X : e_XT) (dg : Int32) (g u n v : Nat) (I : e_I) : e_I := if s_ask X I dg g (nI v) = true then s_run (s_chW X dg g u v) (v + 1) (n + 1 - (v + 1)) I else I
def s_chU (X : e_XT) (dg : Int32) (g u : Nat) (I : e_I) : e_I := if s_ask X I dg g (nI u) = true then s_run (s_chV X dg g u (min 48 (u + 12))) (u + 1) (min 48 (u + 12) - (u + 1)) I else I
def s_ch0 (I : e_I) (b : Int32) : e_I := s_up (s_up (s_up I f_a_trial 0 (36 + b)) f_bestBad 0 1000000) f_bestWay 0 1000000
def s_ch1 (X : e_XT) (I : e_I) (g : Nat) (b : Int32) : e_I := s_run (s_chU X (s_deg X I b) g) 12 37 (s_ch0 I b)
def s_cho (X : e_XT) (I : e_I) (g : Nat) (b : Int32) : e_I := s_up (s_cpI (s_ch1 X I g b) f_a_best f_a_chord 4) f_hasChord 0 1
/-- what asks reads stays -/
def s_eqA (I I' : e_I) : Prop := I' f_isMajor 0 = I f_isMajor 0 ∧ I' f_tonic 0 = I f_tonic 0
theorem s_eqA.rfl' {I : e_I} : s_eqA I I := ⟨rfl, rfl⟩
theorem s_eqA.trans {I I' I'' : e_I} (h : s_eqA I I') (h' : s_eqA I' I'') : s_eqA I I'' := ⟨h'.1.trans h.1, h'.2.trans h.2⟩
theorem s_deg.eqA {X : e_XT} {I I' : e_I} (h : s_eqA I I') (x : Int32) : s_deg X I' x = s_deg X I x := by
  have e : ∀ g n i, s_dgf X I' g x n i = s_dgf X I g x n i := fun g n => by
    induction n with
    | zero => exact fun i => rfl
    | succ n ih => intro i; unfold s_dgf; rw [h.2, ih (i + 1)]
  unfold s_deg
  rw [h.1, e, e]
theorem s_ask.eqA {X : e_XT} {I I' : e_I} (h : s_eqA I I') (dg : Int32) (g : Nat) (x : Int32) : s_ask X I' dg g x = s_ask X I dg g x := by
  unfold s_ask
  rw [s_deg.eqA h]
theorem s_eqA.wgB (I : e_I) (x y z : Int32) : s_eqA I (s_wgB (s_wgT I x y z) x y z) := by
  have h : s_eqA I (s_wgT I x y z) := ⟨rfl, rfl⟩
  unfold s_wgB
  split
  · exact h.trans ⟨rfl, rfl⟩
  · exact h
theorem s_eqA.chW {X : e_XT} {dg : Int32} {g u v : Nat} (t : Nat) (I : e_I) : s_eqA I (s_chW X dg g u v t I) := by
  unfold s_chW
  split
  · exact s_eqA.wgB _ _ _ _
  · exact s_eqA.rfl'
theorem s_eqA.chV {X : e_XT} {dg : Int32} {g u n : Nat} (v : Nat) (I : e_I) : s_eqA I (s_chV X dg g u n v I) := by
  unfold s_chV
  split
  · exact s_run_ind (P := s_eqA) (fun _ => s_eqA.rfl') (fun a b => a.trans b) s_eqA.chW _ _ _
  · exact s_eqA.rfl'
theorem s_eqA.chU {X : e_XT} {dg : Int32} {g : Nat} (u : Nat) (I : e_I) : s_eqA I (s_chU X dg g u I) := by
  unfold s_chU
  split
  · exact s_run_ind (P := s_eqA) (fun _ => s_eqA.rfl') (fun a b => a.trans b) s_eqA.chV _ _ _
  · exact s_eqA.rfl'
theorem s_min_nI (a u b : Nat) (h : u < 10000) (ha : a < 10000 ∧ b < 10000) : s_min (nI a) (nI u + nI b) = nI (min a (u + b)) := by
  unfold s_min
  rw [nI_add]
  by_cases z : u + b < a
  · rw [if_pos ((nI_ltI (by omega) (by omega)).mpr z), Nat.min_eq_right (by omega)]
  · rw [if_neg (fun y => z ((nI_ltI (by omega) (by omega)).mp y)), Nat.min_eq_left (by omega)]
set_option maxRecDepth 100000 in
set_option maxHeartbeats 4000000 in
theorem l3_X1_choose {X : e_XT} {d : Nat} {p : e_Sp} {I : e_I} {J : e_Jt} {c : Nat × Nat} {w : e_Rw1} {Q : e_Rt → e_SS → Prop} (hp : s_ok p) (hc : c.1 < e_xb) (hl : (X 6).1 = 7 ∧ (X 7).1 = 7) {g : Nat} (hg : g < 6) (hgl : (X g).1 ≤ 100) {b dg : Int32} {u v tp : Nat} {R : e_I} (hu : u ≤ 48 ∧ v ≤ 48 ∧ tp ≤ 48) (hk : ∀ o7, s_w X (d + 4) K_X1_choose 138 [some (.ref (p.1 T_CONT 0)), some (.int b), some (.ref (e_xb + g)), some (.int dg), some (.int (nI u)), some (.int (nI tp)), some (.int (nI v)), o7] [] (p, R, J, c, w) (fun r S' => e_rcr (some .int) r = true ∧ Q r S')) : ∀ (n : Nat) (t : Nat) (I1 : e_I), (h1 : t ≤ tp + 1) → (ha : s_ask X I1 dg g (nI v) = true) → (hr2 : s_run (s_chW X dg g u v) t (tp + 1 - t) I1 = R) → (hn : tp + 1 - t < n) → s_w X (d + 4) K_X1_choose 81 [some (.ref (p.1 T_CONT 0)), some (.int b), some (.ref (e_xb + g)), some (.int dg), some (.int (nI u)), some (.int (nI tp)), some (.int (nI v)), some (.int (nI t))] [] (p, I1, J, c, w) (fun r S' => e_rcr (some FieldType.int) r = true ∧ Q r S') := by
  intro n
  induction n with
  | zero =>
    intro t I1 h1 ha hr2 hn
    exact absurd hn (Nat.not_lt_zero _)
  | succ n ih =>
    intro t I1 h1 ha hr2 hn
    refine w_op (pc' := 83) dX1_choose_81 rfl ?_
    refine w_op (pc' := 85) dX1_choose_83 rfl ?_
    refine w_icmpgt (t := 138) dX1_choose_85 (by decide) (fun c85 => ?_) (fun c85 => ?_)
    · have hi : tp < t := (nI_ltI (a := tp) (by omega) (by omega)).mp c85
      rw [s_run_z (show tp + 1 ≤ t by omega)] at hr2; subst hr2; exact hk _
    · have hi : t ≤ tp := Nat.le_of_not_lt (fun z => c85 ((nI_ltI (a := tp) (by omega) (by omega)).mpr z))
      refine w_op (pc' := 89) dX1_choose_88 rfl ?_
      refine w_op (pc' := 90) dX1_choose_89 rfl ?_
      refine w_op (pc' := 91) dX1_choose_90 rfl ?_
      refine w_op (pc' := 93) dX1_choose_91 rfl ?_
      refine t_callV (t := T_CONT) (As := [_, _, _]) dX1_choose_93 rfl rM_X1_asks (by decide) rfl rfl (by decide) (by decide) (Nat.le_of_ble_eq_true rfl) rfl (hp.1 _ rfl) (c_X1_asks hp hc hl hg hgl ?_)
      show s_w _ _ _ 96 _ _ _ _
      refine w_ifeq (t := 138) dX1_choose_96 (by decide) (fun c96 => ?_) (fun c96 => ?_)
      · exact absurd (bI_0.mp c96) (by rw [ha]; decide)
      · refine w_op (pc' := 100) dX1_choose_99 rfl ?_
        refine w_op (pc' := 101) dX1_choose_100 rfl ?_
        refine w_op (pc' := 102) dX1_choose_101 rfl ?_
        refine w_op (pc' := 104) dX1_choose_102 rfl ?_
        refine t_callV (t := T_CONT) (As := [_, _, _]) dX1_choose_104 rfl rM_X1_asks (by decide) rfl rfl (by decide) (by decide) (Nat.le_of_ble_eq_true rfl) rfl (hp.1 _ rfl) (c_X1_asks hp hc hl hg hgl ?_)
        show s_w _ _ _ 107 _ _ _ _
        refine w_ifeq (t := 132) dX1_choose_107 (by decide) (fun c107 => ?_) (fun c107 => ?_)
        · refine w_op (pc' := 135) (ll' := [_, _, _, _, _, _, _, _]) dX1_choose_132 rfl ?_
          refine w_goto (t := 81) dX1_choose_135 (by decide) ?_
          rw [show nI t + Int32.ofInt 1 = nI (t + 1) from nI_1 t]
          have ef : s_chW X dg g u v t I1 = I1 := if_neg (fun z => by have := z.1; rw [bI_0.mp c107] at this; cases this)
          have ea := s_eqA.chW (X := X) (dg := dg) (g := g) (u := u) (v := v) t I1
          rw [s_run_s (show t < tp + 1 by omega)] at hr2
          rw [ef] at hr2 ea
          exact ih (t + 1) _ (by omega) (by rw [s_ask.eqA ea]; exact ha) hr2 (by omega)
        · refine w_op (pc' := 112) dX1_choose_110 rfl ?_
          refine w_op (pc' := 114) dX1_choose_112 rfl ?_
          refine w_op (pc' := 116) dX1_choose_114 rfl ?_
          refine t_callS (As := [_, _, _]) dX1_choose_116 rfl rM_X1_areApart (by decide) rfl rfl (by decide) (Nat.le_of_ble_eq_true rfl) (c_X1_areApart ?_)
          show s_w _ _ _ 119 _ _ _ _
          refine w_ifeq (t := 132) dX1_choose_119 (by decide) (fun c119 => ?_) (fun c119 => ?_)
          · refine w_op (pc' := 135) (ll' := [_, _, _, _, _, _, _, _]) dX1_choose_132 rfl ?_
            refine w_goto (t := 81) dX1_choose_135 (by decide) ?_
            rw [show nI t + Int32.ofInt 1 = nI (t + 1) from nI_1 t]
            have ef : s_chW X dg g u v t I1 = I1 := if_neg (fun z => by have := z.2; rw [bI_0.mp c119] at this; cases this)
            have ea := s_eqA.chW (X := X) (dg := dg) (g := g) (u := u) (v := v) t I1
            rw [s_run_s (show t < tp + 1 by omega)] at hr2
            rw [ef] at hr2 ea
            exact ih (t + 1) _ (by omega) (by rw [s_ask.eqA ea]; exact ha) hr2 (by omega)
          · refine w_op (pc' := 123) dX1_choose_122 rfl ?_
            refine w_op (pc' := 125) dX1_choose_123 rfl ?_
            refine w_op (pc' := 127) dX1_choose_125 rfl ?_
            refine w_op (pc' := 129) dX1_choose_127 rfl ?_
            refine t_callV (t := T_CONT) (As := [_, _, _]) dX1_choose_129 rfl rM_X1_weigh (by decide) rfl rfl (by decide) (by decide) (Nat.le_of_ble_eq_true rfl) rfl (hp.1 _ rfl) (c_X1_weigh hp ?_)
            show s_w _ _ _ 132 _ _ _ _
            refine w_op (pc' := 135) (ll' := [_, _, _, _, _, _, _, _]) dX1_choose_132 rfl ?_
            refine w_goto (t := 81) dX1_choose_135 (by decide) ?_
            rw [show nI t + Int32.ofInt 1 = nI (t + 1) from nI_1 t]
            have ef : s_chW X dg g u v t I1 = _ := if_pos ⟨bI_n0.mp c107, bI_n0.mp c119⟩
            have ea := s_eqA.chW (X := X) (dg := dg) (g := g) (u := u) (v := v) t I1
            rw [s_run_s (show t < tp + 1 by omega)] at hr2
            rw [ef] at hr2 ea
            exact ih (t + 1) _ (by omega) (by rw [s_ask.eqA ea]; exact ha) hr2 (by omega)
set_option maxRecDepth 100000 in
set_option maxHeartbeats 4000000 in
theorem l2_X1_choose {X : e_XT} {d : Nat} {p : e_Sp} {I : e_I} {J : e_Jt} {c : Nat × Nat} {w : e_Rw1} {Q : e_Rt → e_SS → Prop} (hp : s_ok p) (hc : c.1 < e_xb) (hl : (X 6).1 = 7 ∧ (X 7).1 = 7) {g : Nat} (hg : g < 6) (hgl : (X g).1 ≤ 100) {b dg : Int32} {u tp : Nat} {R : e_I} (hu : u ≤ 48 ∧ tp ≤ 48) (hk : ∀ o6 o7, s_w X (d + 4) K_X1_choose 144 [some (.ref (p.1 T_CONT 0)), some (.int b), some (.ref (e_xb + g)), some (.int dg), some (.int (nI u)), some (.int (nI tp)), o6, o7] [] (p, R, J, c, w) (fun r S' => e_rcr (some .int) r = true ∧ Q r S')) : ∀ (n : Nat) (v : Nat) (I1 : e_I) (o7 : Option Value), (h1 : v ≤ 49) → (ha : s_ask X I1 dg g (nI u) = true) → (hr2 : s_run (s_chV X dg g u tp) v (tp - v) I1 = R) → (hn : tp + 1 - v < n) → s_w X (d + 4) K_X1_choose 57 [some (.ref (p.1 T_CONT 0)), some (.int b), some (.ref (e_xb + g)), some (.int dg), some (.int (nI u)), some (.int (nI tp)), some (.int (nI v)), o7] [] (p, I1, J, c, w) (fun r S' => e_rcr (some FieldType.int) r = true ∧ Q r S') := by
  intro n
  induction n with
  | zero =>
    intro v I1 o7 h1 ha hr2 hn
    exact absurd hn (Nat.not_lt_zero _)
  | succ n ih =>
    intro v I1 o7 h1 ha hr2 hn
    refine w_op (pc' := 59) dX1_choose_57 rfl ?_
    refine w_op (pc' := 61) dX1_choose_59 rfl ?_
    refine w_icmpge (t := 144) dX1_choose_61 (by decide) (fun c61 => ?_) (fun c61 => ?_)
    · have hi : tp ≤ v := (nI_leI (a := tp) (by omega) (by omega)).mp c61
      rw [s_run_z hi] at hr2; subst hr2; exact hk _ _
    · have hi : v < tp := Nat.lt_of_not_le (fun z => c61 ((nI_leI (a := tp) (by omega) (by omega)).mpr z))
      refine w_op (pc' := 65) dX1_choose_64 rfl ?_
      refine w_op (pc' := 66) dX1_choose_65 rfl ?_
      refine w_op (pc' := 67) dX1_choose_66 rfl ?_
      refine w_op (pc' := 69) dX1_choose_67 rfl ?_
      refine t_callV (t := T_CONT) (As := [_, _, _]) dX1_choose_69 rfl rM_X1_asks (by decide) rfl rfl (by decide) (by decide) (Nat.le_of_ble_eq_true rfl) rfl (hp.1 _ rfl) (c_X1_asks hp hc hl hg hgl ?_)
      show s_w _ _ _ 72 _ _ _ _
      refine w_ifeq (t := 144) dX1_choose_72 (by decide) (fun c72 => ?_) (fun c72 => ?_)
      · exact absurd (bI_0.mp c72) (by rw [ha]; decide)
      · refine w_op (pc' := 77) dX1_choose_75 rfl ?_
        refine w_iconst (v := 1) dX1_choose_77 rfl ?_
        refine w_op (pc' := 79) dX1_choose_78 rfl ?_
        refine w_op (pc' := 81) (ll' := [_, _, _, _, _, _, _, _]) dX1_choose_79 rfl ?_
        rw [nI_1 v]
        have ea := s_eqA.chV (X := X) (dg := dg) (g := g) (u := u) (n := tp) v I1
        by_cases hv : s_ask X I1 dg g (nI v) = true
        · have ef : s_chV X dg g u tp v I1 = _ := if_pos hv
          rw [s_run_s hi] at hr2
          refine l3_X1_choose (I := I1) (J := J) hp hc hl hg hgl (u := u) (v := v) (tp := tp) (R := s_chV X dg g u tp v I1) ⟨hu.1, by omega, hu.2⟩ (fun o9 => ?_) (tp + 2) (v + 1) I1 (by omega) hv ef.symm (by omega)
          refine w_op (pc' := 141) (ll' := [_, _, _, _, _, _, _, _]) dX1_choose_138 rfl ?_
          refine w_goto (t := 57) dX1_choose_141 (by decide) ?_
          rw [show nI v + Int32.ofInt 1 = nI (v + 1) from nI_1 v]
          exact ih (v + 1) _ _ (by omega) (by rw [s_ask.eqA ea]; exact ha) hr2 (by omega)
        · have ef : s_chV X dg g u tp v I1 = I1 := if_neg hv
          rw [s_run_s hi, ef] at hr2
          have hx : s_w X (d + 4) K_X1_choose 138 [some (.ref (p.1 T_CONT 0)), some (.int b), some (.ref (e_xb + g)), some (.int dg), some (.int (nI u)), some (.int (nI tp)), some (.int (nI v)), some (.int (nI (v + 1)))] [] (p, I1, J, c, w) (fun r S' => e_rcr (some .int) r = true ∧ Q r S') := by
            refine w_op (pc' := 141) (ll' := [_, _, _, _, _, _, _, _]) dX1_choose_138 rfl ?_
            refine w_goto (t := 57) dX1_choose_141 (by decide) ?_
            rw [show nI v + Int32.ofInt 1 = nI (v + 1) from nI_1 v]
            exact ih (v + 1) _ _ (by omega) ha hr2 (by omega)
          refine w_op (pc' := 83) dX1_choose_81 rfl ?_
          refine w_op (pc' := 85) dX1_choose_83 rfl ?_
          refine w_icmpgt (t := 138) dX1_choose_85 (by decide) (fun _ => hx) (fun _ => ?_)
          refine w_op (pc' := 89) dX1_choose_88 rfl ?_
          refine w_op (pc' := 90) dX1_choose_89 rfl ?_
          refine w_op (pc' := 91) dX1_choose_90 rfl ?_
          refine w_op (pc' := 93) dX1_choose_91 rfl ?_
          refine t_callV (t := T_CONT) (As := [_, _, _]) dX1_choose_93 rfl rM_X1_asks (by decide) rfl rfl (by decide) (by decide) (Nat.le_of_ble_eq_true rfl) rfl (hp.1 _ rfl) (c_X1_asks hp hc hl hg hgl ?_)
          show s_w _ _ _ 96 _ _ _ _
          exact w_ifeq (t := 138) dX1_choose_96 (by decide) (fun _ => hx) (fun c96 => absurd (bI_n0.mp c96) hv)
set_option maxRecDepth 100000 in
set_option maxHeartbeats 4000000 in
theorem l_X1_choose {X : e_XT} {d : Nat} {p : e_Sp} {I : e_I} {J : e_Jt} {c : Nat × Nat} {w : e_Rw1} {Q : e_Rt → e_SS → Prop} (hp : s_ok p) (hc : c.1 < e_xb) (hl : (X 6).1 = 7 ∧ (X 7).1 = 7) {g : Nat} (hg : g < 6) (hgl : (X g).1 ≤ 100) {b dg : Int32} {R : e_I} (k : Q (.inl (some (.int (R f_bestBad 0)))) (p, s_up (s_cpI R f_a_best f_a_chord 4) f_hasChord 0 1, J, c, w)) : ∀ (n : Nat) (u : Nat) (I1 : e_I) (o5 o6 o7 : Option Value), (h1 : u ≤ 49) → (hr2 : s_run (s_chU X dg g) u (49 - u) I1 = R) → (hn : 49 - u < n) → s_w X (d + 4) K_X1_choose 32 [some (.ref (p.1 T_CONT 0)), some (.int b), some (.ref (e_xb + g)), some (.int dg), some (.int (nI u)), o5, o6, o7] [] (p, I1, J, c, w) (fun r S' => e_rcr (some FieldType.int) r = true ∧ Q r S') := by
  intro n
  induction n with
  | zero =>
    intro u I1 o5 o6 o7 h1 hr2 hn
    exact absurd hn (Nat.not_lt_zero _)
  | succ n ih =>
    intro u I1 o5 o6 o7 h1 hr2 hn
    refine w_op (pc' := 34) dX1_choose_32 rfl ?_
    refine w_bipush (v := 48) dX1_choose_34 rfl ?_
    refine w_icmpgt (t := 150) dX1_choose_36 (by decide) (fun c36 => ?_) (fun c36 => ?_)
    · have hi : 48 < u := (nI_ltI (a := 48) (b := u) (by omega) (by omega)).mp c36
      rw [s_run_z (show 49 ≤ u by omega)] at hr2; subst hr2
      refine w_op (pc' := 151) dX1_choose_150 rfl ?_
      refine t_getG0 (G := g_o_best) dX1_choose_151 rfl rfl (by decide) rfl (fun _ => rfl) (hp.1 _ rfl) ?_
      refine w_iconst (v := 0) dX1_choose_154 rfl ?_
      refine w_op (pc' := 156) dX1_choose_155 rfl ?_
      refine t_getG0 (G := g_o_chord) dX1_choose_156 rfl rfl (by decide) rfl (fun _ => rfl) (hp.1 _ rfl) ?_
      refine w_iconst (v := 0) dX1_choose_159 rfl ?_
      refine w_iconst (v := 4) dX1_choose_160 rfl ?_
      refine w_copyII (by decide) rfl (by decide) dX1_choose_161 (F0 := f_a_best) (F1 := f_a_chord) (m := 4) rfl (by decide) rfl (by decide) rfl rfl (by decide) (hp.1 _ rfl) (hp.1 _ rfl) (by decide +kernel) (by decide +kernel) (by decide +kernel) (by decide) (by decide) (by decide) (by decide) rfl ?_
      refine w_op (pc' := 165) dX1_choose_164 rfl ?_
      refine w_iconst (v := 1) dX1_choose_165 rfl ?_
      refine t_putI (F := f_hasChord) dX1_choose_166 rfl rfl (by decide) (by decide) rfl (s_ckb (by first | exact Or.inl rfl | exact Or.inr rfl | assumption)) (Or.inl rfl) (hp.1 _ rfl) ?_
      refine w_op (pc' := 170) dX1_choose_169 rfl ?_
      refine t_getI (F := f_bestBad) dX1_choose_170 rfl rfl (by decide) rfl ⟨rfl, fun _ => rfl⟩ (hp.1 _ rfl) ?_
      exact w_ireturn dX1_choose_173 ⟨rfl, k⟩
    · have hi : u < 49 := by have := mt (nI_ltI (a := 48) (b := u) (by omega) (by omega)).mpr c36; omega
      refine w_bipush (v := 48) dX1_choose_39 rfl ?_
      refine w_op (pc' := 43) dX1_choose_41 rfl ?_
      refine w_bipush (v := 12) dX1_choose_43 rfl ?_
      refine w_op (pc' := 46) dX1_choose_45 rfl ?_
      refine t_callS (As := [_, _]) dX1_choose_46 rfl rM_J9_min_7cf53 (by decide) rfl rfl (by decide) (Nat.le_of_ble_eq_true rfl) (c_min ?_)
      show s_w _ _ _ 49 _ _ _ _
      refine w_op (pc' := 51) (ll' := [_, _, _, _, _, _, _, _]) dX1_choose_49 rfl ?_
      refine w_op (pc' := 53) dX1_choose_51 rfl ?_
      refine w_iconst (v := 1) dX1_choose_53 rfl ?_
      refine w_op (pc' := 55) dX1_choose_54 rfl ?_
      refine w_op (pc' := 57) (ll' := [_, _, _, _, _, _, _, _]) dX1_choose_55 rfl ?_
      rw [show s_min 48 (nI u + 12) = nI (min 48 (u + 12)) from s_min_nI 48 u 12 (by omega) (by omega), nI_1 u]
      generalize hn9 : min 48 (u + 12) = n9
      have hn48 : n9 ≤ 48 := by omega
      rw [s_run_s hi] at hr2
      by_cases hv : s_ask X I1 dg g (nI u) = true
      · have ef : s_chU X dg g u I1 = s_run (s_chV X dg g u n9) (u + 1) (n9 - (u + 1)) I1 := by subst hn9; exact if_pos hv
        refine l2_X1_choose (I := I1) (J := J) hp hc hl hg hgl (u := u) (tp := n9) (R := s_chU X dg g u I1) ⟨by omega, hn48⟩ (fun o8 o9 => ?_) (n9 + 2) (u + 1) I1 _ (by omega) hv ef.symm (by omega)
        refine w_op (pc' := 147) (ll' := [_, _, _, _, _, _, _, _]) dX1_choose_144 rfl ?_
        refine w_goto (t := 32) dX1_choose_147 (by decide) ?_
        rw [show nI u + Int32.ofInt 1 = nI (u + 1) from nI_1 u]
        exact ih (u + 1) _ _ _ _ (by omega) hr2 (by omega)
      · have ef : s_chU X dg g u I1 = I1 := if_neg hv
        rw [ef] at hr2
        have hx : ∀ o7, s_w X (d + 4) K_X1_choose 144 [some (.ref (p.1 T_CONT 0)), some (.int b), some (.ref (e_xb + g)), some (.int dg), some (.int (nI u)), some (.int (nI n9)), some (.int (nI (u + 1))), o7] [] (p, I1, J, c, w) (fun r S' => e_rcr (some .int) r = true ∧ Q r S') := by
          intro o7
          refine w_op (pc' := 147) (ll' := [_, _, _, _, _, _, _, _]) dX1_choose_144 rfl ?_
          refine w_goto (t := 32) dX1_choose_147 (by decide) ?_
          rw [show nI u + Int32.ofInt 1 = nI (u + 1) from nI_1 u]
          exact ih (u + 1) _ _ _ _ (by omega) hr2 (by omega)
        refine w_op (pc' := 59) dX1_choose_57 rfl ?_
        refine w_op (pc' := 61) dX1_choose_59 rfl ?_
        refine w_icmpge (t := 144) dX1_choose_61 (by decide) (fun _ => hx _) (fun _ => ?_)
        refine w_op (pc' := 65) dX1_choose_64 rfl ?_
        refine w_op (pc' := 66) dX1_choose_65 rfl ?_
        refine w_op (pc' := 67) dX1_choose_66 rfl ?_
        refine w_op (pc' := 69) dX1_choose_67 rfl ?_
        refine t_callV (t := T_CONT) (As := [_, _, _]) dX1_choose_69 rfl rM_X1_asks (by decide) rfl rfl (by decide) (by decide) (Nat.le_of_ble_eq_true rfl) rfl (hp.1 _ rfl) (c_X1_asks hp hc hl hg hgl ?_)
        show s_w _ _ _ 72 _ _ _ _
        exact w_ifeq (t := 144) dX1_choose_72 (by decide) (fun _ => hx _) (fun c72 => absurd (bI_n0.mp c72) hv)
set_option maxRecDepth 100000 in
set_option maxHeartbeats 4000000 in
theorem c_X1_choose {X : e_XT} {d : Nat} {p : e_Sp} {I : e_I} {J : e_Jt} {c : Nat × Nat} {w : e_Rw1} {Q : e_Rt → e_SS → Prop} (hp : s_ok p) (hc : c.1 < e_xb) (hl : (X 6).1 = 7 ∧ (X 7).1 = 7) {g : Nat} (hg : g < 6) (hgl : (X g).1 ≤ 100) {b : Int32} (k : Q (.inl (some (.int (s_ch1 X I g b f_bestBad 0)))) (p, s_cho X I g b, J, c, w)) : s_c X (d + 4) 37 [.ref (p.1 T_CONT 0), .int b, .ref (e_xb + g)] (p, I, J, c, w) Q := by
  refine m_X1_choose (Nat.le_of_ble_eq_true rfl) ?_
  show s_w _ _ _ 0 _ _ _ _
  refine w_op (pc' := 1) dX1_choose_0 rfl ?_
  refine w_op (pc' := 2) dX1_choose_1 rfl ?_
  refine t_callV (t := T_CONT) (As := [_]) dX1_choose_2 rfl rM_X1_degreeOf (by decide) rfl rfl (by decide) (by decide) (Nat.le_of_ble_eq_true rfl) rfl (hp.1 _ rfl) (c_X1_degreeOf hp hc ⟨by omega, by omega⟩ ?_)
  show s_w _ _ _ 5 _ _ _ _
  refine w_op (pc' := 6) (ll' := [_, _, _, _, _, _, _, _]) dX1_choose_5 rfl ?_
  refine w_op (pc' := 7) dX1_choose_6 rfl ?_
  refine t_getG0 (G := g_o_trial) dX1_choose_7 rfl rfl (by decide) rfl (fun _ => rfl) (hp.1 _ rfl) ?_
  refine w_iconst (v := 0) dX1_choose_10 rfl ?_
  refine w_bipush (v := 36) dX1_choose_11 rfl ?_
  refine w_op (pc' := 14) dX1_choose_13 rfl ?_
  refine w_op (pc' := 15) dX1_choose_14 rfl ?_
  refine t_iast0 (F := f_a_trial) dX1_choose_15 rfl (by decide) (by decide) rfl (hp.1 _ rfl) (s_ix.nI (n := 0) (N := 4) (by decide) (by decide)) (by decide) ?_
  refine w_op (pc' := 17) dX1_choose_16 rfl ?_
  refine w_ldci dX1_choose_17 rfl ?_
  refine t_putI (F := f_bestBad) dX1_choose_19 rfl rfl (by decide) (by decide) rfl rfl (Or.inl rfl) (hp.1 _ rfl) ?_
  refine w_op (pc' := 23) dX1_choose_22 rfl ?_
  refine w_ldci dX1_choose_23 rfl ?_
  refine t_putI (F := f_bestWay) dX1_choose_25 rfl rfl (by decide) (by decide) rfl rfl (Or.inl rfl) (hp.1 _ rfl) ?_
  refine w_bipush (v := 12) dX1_choose_28 rfl ?_
  refine w_op (pc' := 32) (ll' := [_, _, _, _, _, _, _, _]) dX1_choose_30 rfl ?_
  exact l_X1_choose (I := I) (J := J) hp hc hl hg hgl k 50 12 _ _ _ _ (by omega) rfl (by omega)
