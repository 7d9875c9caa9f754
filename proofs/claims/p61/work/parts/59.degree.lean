/-! 59: degrees of the scale, bad steps (printed by wip/whole/p59.py) -/
/-- the place in the row g of the scale, from i on, n places; -1 if there is none -/
def s_dgf (X : e_XT) (I : e_I) (g : Nat) (x : Int32) : Nat → Nat → Int32
  | 0, _ => -1
  | n + 1, i => if s_r12 (I f_tonic 0 + (X g).2 i) = s_r12 x then nI i else s_dgf X I g x n (i + 1)
def s_deg (X : e_XT) (I : e_I) (x : Int32) : Int32 := if I f_isMajor 0 = 0 then s_dgf X I 7 x (X 7).1 0 else s_dgf X I 6 x (X 6).1 0
def s_bdH (I : e_I) (u v : Nat) (a : Int32) : Int32 := a + (if s_bst I u v = true then 1 else 0)
def s_bdL (I : e_I) (u : Nat) (a : Int32) : Int32 := s_run (s_bdH I u) (u + 1) (4 - (u + 1)) a
def s_bds (I : e_I) : Int32 := if I f_hasChord 0 = 0 then 0 else s_run (s_bdL I) 0 4 0
set_option maxRecDepth 100000 in
set_option maxHeartbeats 4000000 in
theorem l6_X1_degreeOf {X : e_XT} {d : Nat} {p : e_Sp} {I : e_I} {J : e_Jt} {c : Nat × Nat} {w : e_Rw1} {Q : e_Rt → e_SS → Prop} (hp : s_ok p) (hc : c.1 < e_xb) (hl : (X 6).1 ≤ 100 ∧ (X 7).1 ≤ 100) {x R : Int32} (k : Q (.inl (some (.int (R)))) (p, I, J, c, w)) : ∀ (n : Nat) (i : Nat), (h1 : i ≤ (X 6).1) → (hr : s_dgf X I 6 x ((X 6).1 - i) i = R) → (hn : (X 6).1 - i < n) → s_w X (d + 0) K_X1_degreeOf 19 [some (.ref (p.1 T_CONT 0)), some (.int x), some (.ref (e_xb + 6)), some (.int (nI i))] [] (p, I, J, c, w) (fun r S' => e_rcr (some FieldType.int) r = true ∧ Q r S') := by
  intro n
  induction n with
  | zero =>
    intro i h1 hr hn
    exact absurd hn (Nat.not_lt_zero _)
  | succ n ih =>
    intro i h1 hr hn
    have hl9 := hl.1
    refine w_op (pc' := 20) dX1_degreeOf_19 rfl ?_
    refine w_op (pc' := 21) dX1_degreeOf_20 rfl ?_
    refine t_xlen dX1_degreeOf_21 (by decide) hc ?_
    refine w_icmpge (t := 51) dX1_degreeOf_22 (by decide) (fun c22 => ?_) (fun c22 => ?_)
    · refine w_iconst (v := (-1)) dX1_degreeOf_51 rfl ?_
      exact w_ireturn dX1_degreeOf_52 ⟨rfl, s_eqi (by rw [← hr, show (X 6).1 - i = 0 by (have := (nI_leI (a := (X 6).1) (by omega) (by omega)).mp c22; omega)]; rfl) k⟩
    · have hi : i < (X 6).1 := Nat.lt_of_not_le (fun z => c22 ((nI_leI (a := (X 6).1) (by omega) (by omega)).mpr z))
      rw [show (X 6).1 - i = ((X 6).1 - (i + 1)) + 1 by omega] at hr
      refine w_op (pc' := 26) dX1_degreeOf_25 rfl ?_
      refine t_getI (F := f_tonic) dX1_degreeOf_26 rfl rfl (by decide) rfl ⟨rfl, fun _ => rfl⟩ (hp.1 _ rfl) ?_
      refine w_op (pc' := 30) dX1_degreeOf_29 rfl ?_
      refine w_op (pc' := 31) dX1_degreeOf_30 rfl ?_
      refine t_xald dX1_degreeOf_31 (by decide) (s_ix.nI hi (by omega)) hc ?_
      refine w_op (pc' := 33) dX1_degreeOf_32 rfl ?_
      refine w_bipush (v := 12) dX1_degreeOf_33 rfl ?_
      refine w_op (pc' := 36) dX1_degreeOf_35 (by rfl) ?_
      refine w_op (pc' := 37) dX1_degreeOf_36 rfl ?_
      refine w_bipush (v := 12) dX1_degreeOf_37 rfl ?_
      refine w_op (pc' := 40) dX1_degreeOf_39 (by rfl) ?_
      refine w_icmpne (t := 45) dX1_degreeOf_40 (by decide) (fun c40 => ?_) (fun c40 => ?_)
      · refine w_op (pc' := 48) (ll' := [_, _, _, _]) dX1_degreeOf_45 rfl ?_
        refine w_goto (t := 19) dX1_degreeOf_48 (by decide) ?_
        rw [show nI i + Int32.ofInt 1 = nI (i + 1) from nI_1 i]
        refine ih (i + 1) (by omega) ?_ (by omega)
        rw [← hr]
        exact (if_neg c40).symm
      · refine w_op (pc' := 44) dX1_degreeOf_43 rfl ?_
        exact w_ireturn dX1_degreeOf_44 ⟨rfl, s_eqi (by rw [← hr]; exact if_pos c40) k⟩
set_option maxRecDepth 100000 in
set_option maxHeartbeats 4000000 in
theorem l7_X1_degreeOf {X : e_XT} {d : Nat} {p : e_Sp} {I : e_I} {J : e_Jt} {c : Nat × Nat} {w : e_Rw1} {Q : e_Rt → e_SS → Prop} (hp : s_ok p) (hc : c.1 < e_xb) (hl : (X 6).1 ≤ 100 ∧ (X 7).1 ≤ 100) {x R : Int32} (k : Q (.inl (some (.int (R)))) (p, I, J, c, w)) : ∀ (n : Nat) (i : Nat), (h1 : i ≤ (X 7).1) → (hr : s_dgf X I 7 x ((X 7).1 - i) i = R) → (hn : (X 7).1 - i < n) → s_w X (d + 0) K_X1_degreeOf 19 [some (.ref (p.1 T_CONT 0)), some (.int x), some (.ref (e_xb + 7)), some (.int (nI i))] [] (p, I, J, c, w) (fun r S' => e_rcr (some FieldType.int) r = true ∧ Q r S') := by
  intro n
  induction n with
  | zero =>
    intro i h1 hr hn
    exact absurd hn (Nat.not_lt_zero _)
  | succ n ih =>
    intro i h1 hr hn
    have hl9 := hl.2
    refine w_op (pc' := 20) dX1_degreeOf_19 rfl ?_
    refine w_op (pc' := 21) dX1_degreeOf_20 rfl ?_
    refine t_xlen dX1_degreeOf_21 (by decide) hc ?_
    refine w_icmpge (t := 51) dX1_degreeOf_22 (by decide) (fun c22 => ?_) (fun c22 => ?_)
    · refine w_iconst (v := (-1)) dX1_degreeOf_51 rfl ?_
      exact w_ireturn dX1_degreeOf_52 ⟨rfl, s_eqi (by rw [← hr, show (X 7).1 - i = 0 by (have := (nI_leI (a := (X 7).1) (by omega) (by omega)).mp c22; omega)]; rfl) k⟩
    · have hi : i < (X 7).1 := Nat.lt_of_not_le (fun z => c22 ((nI_leI (a := (X 7).1) (by omega) (by omega)).mpr z))
      rw [show (X 7).1 - i = ((X 7).1 - (i + 1)) + 1 by omega] at hr
      refine w_op (pc' := 26) dX1_degreeOf_25 rfl ?_
      refine t_getI (F := f_tonic) dX1_degreeOf_26 rfl rfl (by decide) rfl ⟨rfl, fun _ => rfl⟩ (hp.1 _ rfl) ?_
      refine w_op (pc' := 30) dX1_degreeOf_29 rfl ?_
      refine w_op (pc' := 31) dX1_degreeOf_30 rfl ?_
      refine t_xald dX1_degreeOf_31 (by decide) (s_ix.nI hi (by omega)) hc ?_
      refine w_op (pc' := 33) dX1_degreeOf_32 rfl ?_
      refine w_bipush (v := 12) dX1_degreeOf_33 rfl ?_
      refine w_op (pc' := 36) dX1_degreeOf_35 (by rfl) ?_
      refine w_op (pc' := 37) dX1_degreeOf_36 rfl ?_
      refine w_bipush (v := 12) dX1_degreeOf_37 rfl ?_
      refine w_op (pc' := 40) dX1_degreeOf_39 (by rfl) ?_
      refine w_icmpne (t := 45) dX1_degreeOf_40 (by decide) (fun c40 => ?_) (fun c40 => ?_)
      · refine w_op (pc' := 48) (ll' := [_, _, _, _]) dX1_degreeOf_45 rfl ?_
        refine w_goto (t := 19) dX1_degreeOf_48 (by decide) ?_
        rw [show nI i + Int32.ofInt 1 = nI (i + 1) from nI_1 i]
        refine ih (i + 1) (by omega) ?_ (by omega)
        rw [← hr]
        exact (if_neg c40).symm
      · refine w_op (pc' := 44) dX1_degreeOf_43 rfl ?_
        exact w_ireturn dX1_degreeOf_44 ⟨rfl, s_eqi (by rw [← hr]; exact if_pos c40) k⟩
set_option maxRecDepth 100000 in
set_option maxHeartbeats 4000000 in
theorem c_X1_degreeOf {X : e_XT} {d : Nat} {p : e_Sp} {I : e_I} {J : e_Jt} {c : Nat × Nat} {w : e_Rw1} {Q : e_Rt → e_SS → Prop} (hp : s_ok p) (hc : c.1 < e_xb) (hl : (X 6).1 ≤ 100 ∧ (X 7).1 ≤ 100) {x : Int32} (k : Q (.inl (some (.int (s_deg X I x)))) (p, I, J, c, w)) : s_c X (d + 0) 36 [.ref (p.1 T_CONT 0), .int x] (p, I, J, c, w) Q := by
  refine m_X1_degreeOf (Nat.le_of_ble_eq_true rfl) ?_
  show s_w _ _ _ 0 _ _ _ _
  refine w_op (pc' := 1) dX1_degreeOf_0 rfl ?_
  refine t_getI (F := f_isMajor) dX1_degreeOf_1 rfl rfl (by decide) rfl ⟨rfl, fun _ => rfl⟩ (hp.1 _ rfl) ?_
  refine w_ifeq (t := 13) dX1_degreeOf_4 (by decide) (fun c4 => ?_) (fun c4 => ?_)
  · refine w_gets dX1_degreeOf_13 rfl ?_
    refine w_op (pc' := 17) (ll' := [_, _, _, _]) dX1_degreeOf_16 rfl ?_
    refine w_iconst (v := 0) dX1_degreeOf_17 rfl ?_
    refine w_op (pc' := 19) (ll' := [_, _, _, _]) dX1_degreeOf_18 rfl ?_
    exact l7_X1_degreeOf hp hc hl k ((X 7).1 + 1) 0 (Nat.zero_le _) (if_pos c4).symm (by omega)
  · refine w_gets dX1_degreeOf_7 rfl ?_
    refine w_goto (t := 16) dX1_degreeOf_10 (by decide) ?_
    refine w_op (pc' := 17) (ll' := [_, _, _, _]) dX1_degreeOf_16 rfl ?_
    refine w_iconst (v := 0) dX1_degreeOf_17 rfl ?_
    refine w_op (pc' := 19) (ll' := [_, _, _, _]) dX1_degreeOf_18 rfl ?_
    exact l6_X1_degreeOf hp hc hl k ((X 6).1 + 1) 0 (Nat.zero_le _) (if_neg c4).symm (by omega)
set_option maxRecDepth 100000 in
set_option maxHeartbeats 4000000 in
theorem l2_X1_badSteps {X : e_XT} {d : Nat} {p : e_Sp} {I : e_I} {J : e_Jt} {c : Nat × Nat} {w : e_Rw1} {Q : e_Rt → e_SS → Prop} {u : Nat} {R : Int32} (hp : s_ok p) (hu : u < 4) (hk : ∀ o3, s_w X (d + 2) K_X1_badSteps 48 [some (.ref (p.1 T_CONT 0)), some (.int R), some (.int (nI u)), o3] [] (p, I, J, c, w) (fun r S' => e_rcr (some .int) r = true ∧ Q r S')) : ∀ (n : Nat) (i : Nat) (a : Int32), (h1 : i ≤ 4) → (hr : s_run (s_bdH I u) i (4 - i) a = R) → (hn : 4 - i < n) → s_w X (d + 2) K_X1_badSteps 20 [some (.ref (p.1 T_CONT 0)), some (.int a), some (.int (nI u)), some (.int (nI i))] [] (p, I, J, c, w) (fun r S' => e_rcr (some FieldType.int) r = true ∧ Q r S') := by
  intro n
  induction n with
  | zero =>
    intro i a h1 hr hn
    exact absurd hn (Nat.not_lt_zero _)
  | succ n ih =>
    intro i a h1 hr hn
    refine w_op (pc' := 21) dX1_badSteps_20 rfl ?_
    refine w_iconst (v := 4) dX1_badSteps_21 rfl ?_
    refine w_icmpge (t := 48) dX1_badSteps_22 (by decide) (fun c22 => ?_) (fun c22 => ?_)
    · have hi : 4 ≤ i := (nI_leI (a := 4) (by omega) (by omega)).mp c22
      rw [s_run_z hi] at hr; subst hr; exact hk _
    · have hi : i < 4 := Nat.lt_of_not_le (fun z => c22 ((nI_leI (a := 4) (by omega) (by omega)).mpr z))
      refine w_op (pc' := 26) dX1_badSteps_25 rfl ?_
      refine w_op (pc' := 27) dX1_badSteps_26 rfl ?_
      refine w_op (pc' := 28) dX1_badSteps_27 rfl ?_
      refine w_op (pc' := 29) dX1_badSteps_28 rfl ?_
      refine t_callV (t := T_CONT) (As := [_, _]) dX1_badSteps_29 rfl rM_X1_isBadStep (by decide) rfl rfl (by decide) (by decide) (Nat.le_of_ble_eq_true rfl) rfl (hp.1 _ rfl) (c_X1_isBadStep hp hu hi ?_)
      show s_w _ _ _ 32 _ _ _ _
      refine w_ifeq (t := 39) dX1_badSteps_32 (by decide) (fun c32 => ?_) (fun c32 => ?_)
      · refine w_iconst (v := 0) dX1_badSteps_39 rfl ?_
        refine w_op (pc' := 41) dX1_badSteps_40 rfl ?_
        refine w_op (pc' := 42) (ll' := [_, _, _, _]) dX1_badSteps_41 rfl ?_
        refine w_op (pc' := 45) (ll' := [_, _, _, _]) dX1_badSteps_42 rfl ?_
        refine w_goto (t := 20) dX1_badSteps_45 (by decide) ?_
        rw [show nI i + Int32.ofInt 1 = nI (i + 1) from nI_1 i]
        have ef : s_bdH I u i a = a + 0 := congrArg (a + ·) (if_neg (fun z => by rw [bI_0.mp c32] at z; cases z))
        rw [s_run_s hi, ef] at hr
        exact ih (i + 1) _ (by omega) hr (by omega)
      · refine w_iconst (v := 1) dX1_badSteps_35 rfl ?_
        refine w_goto (t := 40) dX1_badSteps_36 (by decide) ?_
        refine w_op (pc' := 41) dX1_badSteps_40 rfl ?_
        refine w_op (pc' := 42) (ll' := [_, _, _, _]) dX1_badSteps_41 rfl ?_
        refine w_op (pc' := 45) (ll' := [_, _, _, _]) dX1_badSteps_42 rfl ?_
        refine w_goto (t := 20) dX1_badSteps_45 (by decide) ?_
        rw [show nI i + Int32.ofInt 1 = nI (i + 1) from nI_1 i]
        have ef : s_bdH I u i a = a + 1 := congrArg (a + ·) (if_pos (bI_n0.mp c32))
        rw [s_run_s hi, ef] at hr
        exact ih (i + 1) _ (by omega) hr (by omega)
set_option maxRecDepth 100000 in
set_option maxHeartbeats 4000000 in
theorem l_X1_badSteps {X : e_XT} {d : Nat} {p : e_Sp} {I : e_I} {J : e_Jt} {c : Nat × Nat} {w : e_Rw1} {Q : e_Rt → e_SS → Prop} {R : Int32} (hp : s_ok p) (hh : ¬ I f_hasChord 0 = 0) (k : Q (.inl (some (.int (R)))) (p, I, J, c, w)) : ∀ (n : Nat) (i : Nat) (a : Int32) (o3 : Option Value), (h1 : i ≤ 4) → (hr : s_run (s_bdL I) i (4 - i) a = R) → (hn : 4 - i < n) → s_w X (d + 2) K_X1_badSteps 4 [some (.ref (p.1 T_CONT 0)), some (.int a), some (.int (nI i)), o3] [] (p, I, J, c, w) (fun r S' => e_rcr (some FieldType.int) r = true ∧ Q r S') := by
  intro n
  induction n with
  | zero =>
    intro i a o3 h1 hr hn
    exact absurd hn (Nat.not_lt_zero _)
  | succ n ih =>
    intro i a o3 h1 hr hn
    refine w_op (pc' := 5) dX1_badSteps_4 rfl ?_
    refine t_getI (F := f_hasChord) dX1_badSteps_5 rfl rfl (by decide) rfl ⟨rfl, fun _ => rfl⟩ (hp.1 _ rfl) ?_
    refine w_ifeq (t := 54) dX1_badSteps_8 (by decide) (fun c8 => ?_) (fun c8 => ?_)
    · exact absurd c8 hh
    · refine w_op (pc' := 12) dX1_badSteps_11 rfl ?_
      refine w_iconst (v := 4) dX1_badSteps_12 rfl ?_
      refine w_icmpge (t := 54) dX1_badSteps_13 (by decide) (fun c13 => ?_) (fun c13 => ?_)
      · refine w_op (pc' := 55) dX1_badSteps_54 rfl ?_
        exact w_ireturn dX1_badSteps_55 ⟨rfl, by have hi : 4 ≤ i := (nI_leI (a := 4) (by omega) (by omega)).mp c13; rw [s_run_z hi] at hr; subst hr; exact k⟩
      · have hi : i < 4 := Nat.lt_of_not_le (fun z => c13 ((nI_leI (a := 4) (by omega) (by omega)).mpr z))
        refine w_op (pc' := 17) dX1_badSteps_16 rfl ?_
        refine w_iconst (v := 1) dX1_badSteps_17 rfl ?_
        refine w_op (pc' := 19) dX1_badSteps_18 rfl ?_
        refine w_op (pc' := 20) (ll' := [_, _, _, _]) dX1_badSteps_19 rfl ?_
        rw [nI_1]
        refine l2_X1_badSteps hp hi (fun o3 => ?_) 5 (i + 1) _ (by omega) rfl (by omega)
        refine w_op (pc' := 51) (ll' := [_, _, _, _]) dX1_badSteps_48 rfl ?_
        refine w_goto (t := 4) dX1_badSteps_51 (by decide) ?_
        rw [show nI i + Int32.ofInt 1 = nI (i + 1) from nI_1 i]
        exact ih (i + 1) _ _ (by omega) ((s_run_s hi).symm.trans hr) (by omega)
set_option maxRecDepth 100000 in
set_option maxHeartbeats 4000000 in
theorem c_X1_badSteps {X : e_XT} {d : Nat} {p : e_Sp} {I : e_I} {J : e_Jt} {c : Nat × Nat} {w : e_Rw1} {Q : e_Rt → e_SS → Prop} (hp : s_ok p) (k : Q (.inl (some (.int (s_bds I)))) (p, I, J, c, w)) : s_c X (d + 2) 41 [.ref (p.1 T_CONT 0)] (p, I, J, c, w) Q := by
  refine m_X1_badSteps (Nat.le_of_ble_eq_true rfl) ?_
  show s_w _ _ _ 0 _ _ _ _
  refine w_iconst (v := 0) dX1_badSteps_0 rfl ?_
  refine w_op (pc' := 2) (ll' := [_, _, _, _]) dX1_badSteps_1 rfl ?_
  refine w_iconst (v := 0) dX1_badSteps_2 rfl ?_
  refine w_op (pc' := 4) (ll' := [_, _, _, _]) dX1_badSteps_3 rfl ?_
  by_cases hh : I f_hasChord 0 = 0
  · refine w_op (pc' := 5) dX1_badSteps_4 rfl ?_
    refine t_getI (F := f_hasChord) dX1_badSteps_5 rfl rfl (by decide) rfl ⟨rfl, fun _ => rfl⟩ (hp.1 _ rfl) ?_
    refine w_ifeq (t := 54) dX1_badSteps_8 (by decide) (fun c8 => ?_) (fun c8 => absurd hh c8)
    refine w_op (pc' := 55) dX1_badSteps_54 rfl ?_
    exact w_ireturn dX1_badSteps_55 ⟨rfl, s_eqi (if_pos hh) k⟩
  · exact l_X1_badSteps hp hh (s_eqi (if_neg hh) k) 5 0 0 _ (Nat.zero_le _) rfl (by omega)
