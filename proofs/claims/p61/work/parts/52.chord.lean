/-! 52: keys let go, chords (printed by wip/whole/p52.py) -/
theorem s_eqT.prk0 {I : e_I} : s_eqT I I := s_eqT.rfl'
def s_rlK (x : Int32) (n : Nat) (a : e_I × Int32) : e_I × Int32 := if s_dn a.1 x (nI n) = true then (s_prk a.1 x (nI n) 0, a.2 + 1) else a
def s_rlD (dv : Nat) (a : e_I × Int32) : e_I × Int32 := s_run (s_rlK (nI dv)) 0 (s_kcn (nI dv)) a
def s_rla (I : e_I) : e_I × Int32 := s_run s_rlD 0 3 (I, 0)
def s_hnP (p : e_Sp) (r n : Nat) (I : e_I) : e_I := s_up I f_p_isHeld (p.2.2.2.2 r + n) 0
def s_hnR (p : e_Sp) (r : Nat) (I : e_I) : e_I := s_run (s_hnP p r) 0 (p.2.2.1 T_PARR r) I
def s_hn (p : e_Sp) (nr : Nat) (I : e_I) : e_I := s_run (s_hnR p) 0 nr I
theorem s_eqC.hnR {p : e_Sp} (r : Nat) (I : e_I) : s_eqC I (s_hnR p r I) := s_eqC.run (fun _ _ => s_eqC.up (by decide)) _ _ _
theorem s_eqT.hnR {p : e_Sp} (r : Nat) (I : e_I) : s_eqT I (s_hnR p r I) := s_eqT.run (fun _ _ => s_eqT.up (by decide)) _ _ _
theorem s_eqC.hn {p : e_Sp} {nr : Nat} {I : e_I} : s_eqC I (s_hn p nr I) := s_eqC.run s_eqC.hnR _ _ _
theorem s_eqT.hn {p : e_Sp} {nr : Nat} {I : e_I} : s_eqT I (s_hn p nr I) := s_eqT.run s_eqT.hnR _ _ _
/-- the chord's keys -/
def s_cky (I : e_I) (x : Int32) : Int32 := if 0 ≤ x ∧ x < 4 then I f_a_chord x.toNatClampNeg - 36 else -1
def s_ofc (I : e_I) (x y : Int32) : Bool := if x = 0 then decide (y = s_cky I 0) else decide (y = s_cky I 1) || (decide (y = s_cky I 2) || decide (y = s_cky I 3))
def s_pcK (x : Int32) (n : Nat) (I : e_I) : e_I := if s_ofc I x (nI n) = true then I else s_prk I x (nI n) 0
def s_pcD (dv : Nat) (I : e_I) : e_I := s_run (s_pcK (nI dv)) 0 (s_kcn (nI dv)) I
def s_pcV (v : Nat) (I : e_I) : e_I := s_prk I (if v = 0 then 0 else 1) (s_cky I (nI v)) 1
def s_pch (I : e_I) : e_I := s_run s_pcV 0 4 (s_run s_pcD 0 2 I)
set_option maxRecDepth 100000 in
set_option maxHeartbeats 4000000 in
theorem l2_X10_releaseAll {X : e_XT} {d : Nat} {p : e_Sp} {I : e_I} {J : e_Jt} {c : Nat × Nat} {w : e_Rw1} {Q : e_Rt → e_SS → Prop} {nk nr a b dv : Nat} {R : e_I × Int32} {p0 : e_Sp} (hk : ∀ (p : e_Sp) (c : Nat × Nat) (o3 : Option Value), s_D p R.1 nk nr → s_Tp p R.1 c a b → s_xt p0 p → s_w X (d + 7) K_X10_releaseAll 47 [some (.ref (p.1 T_WORKS 0)), some (.int R.2), some (.int (nI dv)), o3] [] (p, R.1, J, c, w) (fun r S' => e_rcr (some .int) r = true ∧ Q r S')) : ∀ (n : Nat) (i : Nat) (p : e_Sp) (I1 : e_I) (c : Nat × Nat) (a2 : Int32), (h1 : i ≤ s_kcn (nI dv)) → (hD : s_D p I1 nk nr) → (hT : s_Tp p I1 c a b) → (x : s_xt p0 p) → (hr2 : s_run (s_rlK (nI dv)) i (s_kcn (nI dv) - i) (I1, a2) = R) → (hn : s_kcn (nI dv) - i < n) → s_w X (d + 7) K_X10_releaseAll 11 [some (.ref (p.1 T_WORKS 0)), some (.int a2), some (.int (nI dv)), some (.int (nI i))] [] (p, I1, J, c, w) (fun r S' => e_rcr (some FieldType.int) r = true ∧ Q r S') := by
  intro n
  induction n with
  | zero =>
    intro i p I1 c a2 h1 hD hT x hr2 hn
    exact absurd hn (Nat.not_lt_zero _)
  | succ n ih =>
    intro i p I1 c a2 h1 hD hT x hr2 hn
    have hC := hD.1
    have hp := hC.1
    have hn40 := hC.2.1.1
    have hk40 := hC.2.1.2
    have hn10 := hC.2.2.1.1
    have hr10 := hC.2.2.1.2
    have h61 := s_kcn_le (nI dv)
    refine w_op (pc' := 12) dX10_releaseAll_11 rfl ?_
    refine w_op (pc' := 13) dX10_releaseAll_12 rfl ?_
    refine t_callS (As := [_]) dX10_releaseAll_13 rfl rM_X3_countOf (by decide) rfl rfl (by decide) (Nat.le_of_ble_eq_true rfl) (c_X3_countOf _ ?_)
    show s_w _ _ _ 16 _ _ _ _
    rw [s_kc_nI]
    refine w_icmpge (t := 47) dX10_releaseAll_16 (by decide) (fun c16 => ?_) (fun c16 => ?_)
    · have hi : s_kcn (nI dv) ≤ i := (nI_leI (a := s_kcn (nI dv)) (by omega) (by omega)).mp c16
      rw [s_run_z hi] at hr2; subst hr2; exact hk _ _ _ hD hT x
    · have hi : i < s_kcn (nI dv) := Nat.lt_of_not_le (fun z => c16 ((nI_leI (a := s_kcn (nI dv)) (by omega) (by omega)).mpr z))
      refine w_op (pc' := 20) dX10_releaseAll_19 rfl ?_
      refine t_getG0 (G := g_w_KEYS) dX10_releaseAll_20 rfl rfl (by decide) rfl (fun _ => rfl) (hp.1 _ rfl) ?_
      refine w_op (pc' := 24) dX10_releaseAll_23 rfl ?_
      refine w_op (pc' := 25) dX10_releaseAll_24 rfl ?_
      refine t_callV (t := T_KEYS) (As := [_, _]) dX10_releaseAll_25 rfl rM_X3_isPressed (by decide) rfl rfl (by decide) (by decide) (Nat.le_of_ble_eq_true rfl) rfl (hp.1 _ rfl) (c_X3_isPressed hp ?_)
      show s_w _ _ _ 28 _ _ _ _
      refine w_ifeq (t := 41) dX10_releaseAll_28 (by decide) (fun c28 => ?_) (fun c28 => ?_)
      · refine w_op (pc' := 44) (ll' := [_, _, _, _]) dX10_releaseAll_41 rfl ?_
        refine w_goto (t := 11) dX10_releaseAll_44 (by decide) ?_
        rw [show nI i + Int32.ofInt 1 = nI (i + 1) from nI_1 i]
        have ef : s_rlK (nI dv) i (I1, a2) = (I1, a2) := if_neg (fun z => by rw [bI_0.mp c28] at z; cases z)
        rw [s_run_s hi, ef] at hr2
        exact ih (i + 1) p I1 c a2 (by omega) hD hT x hr2 (by omega)
      · refine w_op (pc' := 32) dX10_releaseAll_31 rfl ?_
        refine w_op (pc' := 33) dX10_releaseAll_32 rfl ?_
        refine w_op (pc' := 34) dX10_releaseAll_33 rfl ?_
        refine w_iconst (v := 0) dX10_releaseAll_34 rfl ?_
        refine t_callV (t := T_WORKS) (As := [_, _, _]) dX10_releaseAll_35 rfl rM_X10_pressKey (by decide) rfl rfl (by decide) (by decide) (Nat.le_of_ble_eq_true rfl) rfl (hp.1 _ rfl) (c_X10_pressKey hD hT (Or.inl rfl) (fun p1 c1 hD1 hx hT1 => ?_))
        show s_w _ _ _ 38 _ _ _ _
        rw [show p.1 T_WORKS = p1.1 T_WORKS from (hx.1 T_WORKS rfl).1.symm]
        refine w_op (pc' := 41) (ll' := [_, _, _, _]) dX10_releaseAll_38 rfl ?_
        refine w_op (pc' := 44) (ll' := [_, _, _, _]) dX10_releaseAll_41 rfl ?_
        refine w_goto (t := 11) dX10_releaseAll_44 (by decide) ?_
        rw [show nI i + Int32.ofInt 1 = nI (i + 1) from nI_1 i]
        have ef : s_rlK (nI dv) i (I1, a2) = (s_prk I1 (nI dv) (nI i) 0, a2 + 1) := if_pos (bI_n0.mp c28)
        rw [s_run_s hi, ef] at hr2
        exact ih (i + 1) p1 _ c1 _ (by omega) hD1 hT1 (x.trans hx) hr2 (by omega)
set_option maxRecDepth 100000 in
set_option maxHeartbeats 4000000 in
theorem l_X10_releaseAll {X : e_XT} {d : Nat} {p : e_Sp} {I : e_I} {J : e_Jt} {c : Nat × Nat} {w : e_Rw1} {Q : e_Rt → e_SS → Prop} {nk nr a b : Nat} {R : e_I × Int32} {p0 : e_Sp} (k : ∀ p' c', s_D p' (s_stl p0 nk nr (R.1, J)).1 nk nr → s_xt p0 p' → s_Tp p' (s_stl p0 nk nr (R.1, J)).1 c' a b → Q (.inl (some (.int R.2))) (p', (s_stl p0 nk nr (R.1, J)).1, (s_stl p0 nk nr (R.1, J)).2, c', w)) : ∀ (n : Nat) (i : Nat) (p : e_Sp) (I1 : e_I) (c : Nat × Nat) (a2 : Int32) (o3 : Option Value), (h1 : i ≤ 3) → (hD : s_D p I1 nk nr) → (hT : s_Tp p I1 c a b) → (x : s_xt p0 p) → (hr2 : s_run s_rlD i (3 - i) (I1, a2) = R) → (hn : 3 - i < n) → s_w X (d + 7) K_X10_releaseAll 4 [some (.ref (p.1 T_WORKS 0)), some (.int a2), some (.int (nI i)), o3] [] (p, I1, J, c, w) (fun r S' => e_rcr (some FieldType.int) r = true ∧ Q r S') := by
  intro n
  induction n with
  | zero =>
    intro i p I1 c a2 o3 h1 hD hT x hr2 hn
    exact absurd hn (Nat.not_lt_zero _)
  | succ n ih =>
    intro i p I1 c a2 o3 h1 hD hT x hr2 hn
    have hC := hD.1
    have hp := hC.1
    have hn40 := hC.2.1.1
    have hk40 := hC.2.1.2
    have hn10 := hC.2.2.1.1
    have hr10 := hC.2.2.1.2
    refine w_op (pc' := 5) dX10_releaseAll_4 rfl ?_
    refine w_iconst (v := 3) dX10_releaseAll_5 rfl ?_
    refine w_icmpge (t := 53) dX10_releaseAll_6 (by decide) (fun c6 => ?_) (fun c6 => ?_)
    · have hi : 3 ≤ i := (nI_leI (a := 3) (by omega) (by omega)).mp c6
      rw [s_run_z hi] at hr2; subst hr2
      refine w_op (pc' := 54) dX10_releaseAll_53 rfl ?_
      refine t_callV (t := T_WORKS) (As := []) dX10_releaseAll_54 rfl rM_X10_settle (by decide) rfl rfl (by decide) (by decide) (Nat.le_of_ble_eq_true rfl) rfl (hp.1 _ rfl) (c_X10_settle hD hT (fun p1 c1 hD1 hx hT1 => ?_))
      show s_w _ _ _ 57 _ _ _ _
      refine w_op (pc' := 58) dX10_releaseAll_57 rfl ?_
      exact w_ireturn dX10_releaseAll_58 ⟨rfl, (by rw [s_stl.xt x] at hD1 hT1 ⊢; exact k p1 c1 hD1 (x.trans hx) hT1)⟩
    · have hi : i < 3 := Nat.lt_of_not_le (fun z => c6 ((nI_leI (a := 3) (by omega) (by omega)).mpr z))
      refine w_iconst (v := 0) dX10_releaseAll_9 rfl ?_
      refine w_op (pc' := 11) (ll' := [_, _, _, _]) dX10_releaseAll_10 rfl ?_
      refine l2_X10_releaseAll (p := p) (I := I1) (c := c) (p0 := p) (a := a) (b := b) (nk := nk) (nr := nr) (dv := i) (fun p2 c2 o3 hD2 hT2 x2 => ?_) (s_kcn (nI i) + 1) 0 p I1 c a2 (Nat.zero_le _) hD hT s_xt.rfl' rfl (by omega)
      refine w_op (pc' := 50) (ll' := [_, _, _, _]) dX10_releaseAll_47 rfl ?_
      refine w_goto (t := 4) dX10_releaseAll_50 (by decide) ?_
      rw [show nI i + Int32.ofInt 1 = nI (i + 1) from nI_1 i]
      exact ih (i + 1) p2 _ c2 _ _ (by omega) hD2 hT2 (x.trans x2) ((s_run_s hi).symm.trans hr2) (by omega)
set_option maxRecDepth 100000 in
set_option maxHeartbeats 4000000 in
theorem c_X10_releaseAll {X : e_XT} {d : Nat} {p : e_Sp} {I : e_I} {J : e_Jt} {c : Nat × Nat} {w : e_Rw1} {Q : e_Rt → e_SS → Prop} {nk nr : Nat} (hD : s_D p I nk nr) {a b : Nat} (hT : s_Tp p I c a b) (k : ∀ p' c', s_D p' (s_stl p nk nr ((s_rla I).1, J)).1 nk nr → s_xt p p' → s_Tp p' (s_stl p nk nr ((s_rla I).1, J)).1 c' a b → Q (.inl (some (.int (s_rla I).2))) (p', (s_stl p nk nr ((s_rla I).1, J)).1, (s_stl p nk nr ((s_rla I).1, J)).2, c', w)) : s_c X (d + 7) 117 [.ref (p.1 T_WORKS 0)] (p, I, J, c, w) Q := by
  refine m_X10_releaseAll (Nat.le_of_ble_eq_true rfl) ?_
  show s_w _ _ _ 0 _ _ _ _
  refine w_iconst (v := 0) dX10_releaseAll_0 rfl ?_
  refine w_op (pc' := 2) (ll' := [_, _, _, _]) dX10_releaseAll_1 rfl ?_
  refine w_iconst (v := 0) dX10_releaseAll_2 rfl ?_
  refine w_op (pc' := 4) (ll' := [_, _, _, _]) dX10_releaseAll_3 rfl ?_
  exact l_X10_releaseAll (p := p) (I := I) (c := c) k 4 0 p I c 0 _ (Nat.zero_le _) hD hT s_xt.rfl' rfl (by omega)
set_option maxRecDepth 100000 in
set_option maxHeartbeats 4000000 in
theorem l2_X10_holdNone {X : e_XT} {d : Nat} {p : e_Sp} {I : e_I} {J : e_Jt} {c : Nat × Nat} {w : e_Rw1} {Q : e_Rt → e_SS → Prop} {r : Nat} {R : e_I} (hR : s_Rk p I r) (hk : ∀ o4 o5, s_w X (d + 7) K_X10_holdNone 58 [some (.ref (p.1 T_WORKS 0)), some (.int (nI r)), some (.ref (p.1 T_PARR r)), some (.int (nI (p.2.2.1 T_PARR r))), o4, o5] [] (p, R, J, c, w) (fun r S' => e_rcr (none) r = true ∧ Q r S')) : ∀ (n : Nat) (i : Nat) (I1 : e_I) (o5 : Option Value), (h1 : i ≤ p.2.2.1 T_PARR r) → (hr : s_run (s_hnP p r) i (p.2.2.1 T_PARR r - i) I1 = R) → (hn : p.2.2.1 T_PARR r - i < n) → s_w X (d + 7) K_X10_holdNone 34 [some (.ref (p.1 T_WORKS 0)), some (.int (nI r)), some (.ref (p.1 T_PARR r)), some (.int (nI (p.2.2.1 T_PARR r))), some (.int (nI i)), o5] [] (p, I1, J, c, w) (fun r S' => e_rcr (none) r = true ∧ Q r S') := by
  intro n
  induction n with
  | zero =>
    intro i I1 o5 h1 hr hn
    exact absurd hn (Nat.not_lt_zero _)
  | succ n ih =>
    intro i I1 o5 h1 hr hn
    obtain ⟨lo, elo, hlo⟩ := hR.2.2.2.1
    refine w_op (pc' := 36) dX10_holdNone_34 rfl ?_
    refine w_op (pc' := 37) dX10_holdNone_36 rfl ?_
    refine w_icmpge (t := 58) dX10_holdNone_37 (by decide) (fun c37 => ?_) (fun c37 => ?_)
    · have hi : p.2.2.1 T_PARR r ≤ i := (nI_leI (a := p.2.2.1 T_PARR r) (by omega) (by omega)).mp c37
      rw [s_run_z hi] at hr; subst hr; exact hk _ _
    · have hi : i < p.2.2.1 T_PARR r := Nat.lt_of_not_le (fun z => c37 ((nI_leI (a := p.2.2.1 T_PARR r) (by omega) (by omega)).mpr z))
      refine w_op (pc' := 41) dX10_holdNone_40 rfl ?_
      refine w_op (pc' := 43) dX10_holdNone_41 rfl ?_
      refine t_aaldP dX10_holdNone_43 hR.1 (s_ix.nI hi (by omega)) ?_
      refine w_op (pc' := 46) (ll' := [_, _, _, _, _, _]) dX10_holdNone_44 rfl ?_
      refine w_op (pc' := 48) dX10_holdNone_46 rfl ?_
      refine w_iconst (v := 0) dX10_holdNone_48 rfl ?_
      refine t_putI (F := f_p_isHeld) dX10_holdNone_49 rfl rfl (by decide) (by decide) rfl (s_ckb (by first | exact Or.inl rfl | exact Or.inr rfl | assumption)) (Or.inl rfl) (hR.2.2.1 i hi) ?_
      refine w_op (pc' := 55) (ll' := [_, _, _, _, _, _]) dX10_holdNone_52 rfl ?_
      refine w_goto (t := 34) dX10_holdNone_55 (by decide) ?_
      rw [show nI i + Int32.ofInt 1 = nI (i + 1) from nI_1 i]
      exact ih (i + 1) _ _ (by omega) ((s_run_s hi).symm.trans hr) (by omega)
set_option maxRecDepth 100000 in
set_option maxHeartbeats 4000000 in
theorem l_X10_holdNone {X : e_XT} {d : Nat} {p : e_Sp} {I : e_I} {J : e_Jt} {c : Nat × Nat} {w : e_Rw1} {Q : e_Rt → e_SS → Prop} {nk nr : Nat} (hD : s_D p I nk nr) {a b : Nat} (hT : s_Tp p I c a b) {R : e_I} (k : ∀ p' c', s_D p' (s_stl p nk nr (R, J)).1 nk nr → s_xt p p' → s_Tp p' (s_stl p nk nr (R, J)).1 c' a b → Q (.inl none) (p', (s_stl p nk nr (R, J)).1, (s_stl p nk nr (R, J)).2, c', w)) : ∀ (n : Nat) (i : Nat) (I1 : e_I) (o2 o3 o4 o5 : Option Value), (h1 : i ≤ nr) → (e : s_eqC I I1) → (et : s_eqT I I1) → (hr : s_run (s_hnR p) i (nr - i) I1 = R) → (hn : nr - i < n) → s_w X (d + 7) K_X10_holdNone 2 [some (.ref (p.1 T_WORKS 0)), some (.int (nI i)), o2, o3, o4, o5] [] (p, I1, J, c, w) (fun r S' => e_rcr (none) r = true ∧ Q r S') := by
  intro n
  induction n with
  | zero =>
    intro i I1 o2 o3 o4 o5 h1 e et hr hn
    exact absurd hn (Nat.not_lt_zero _)
  | succ n ih =>
    intro i I1 o2 o3 o4 o5 h1 e et hr hn
    have hD1 := hD.eq e
    have hC := hD1.1
    have hp := hC.1
    have hn40 := hC.2.1.1
    have hk40 := hC.2.1.2
    have hn10 := hC.2.2.1.1
    have hr10 := hC.2.2.1.2
    refine w_op (pc' := 3) dX10_holdNone_2 rfl ?_
    refine w_op (pc' := 4) dX10_holdNone_3 rfl ?_
    refine t_getG0 (G := g_w_ranks) dX10_holdNone_4 rfl rfl (by decide) rfl (fun _ => rfl) (hp.1 _ rfl) ?_
    refine t_callV (t := T_LIST) (As := []) dX10_holdNone_7 rfl rM_Jx4a65c_size_8abf5 (by decide) rfl rfl (by decide) (by decide) (Nat.le_of_ble_eq_true rfl) rfl (hp.2 _ (by decide)) (c_size (hp.2 _ (by decide)) ?_)
    show s_w _ _ _ 10 _ _ _ _
    rw [hr10]
    refine w_icmpge (t := 64) dX10_holdNone_10 (by decide) (fun c10 => ?_) (fun c10 => ?_)
    · have hi : nr ≤ i := (nI_leI (a := nr) (by omega) (by omega)).mp c10
      rw [s_run_z hi] at hr; subst hr
      refine w_op (pc' := 65) dX10_holdNone_64 rfl ?_
      refine t_callV (t := T_WORKS) (As := []) dX10_holdNone_65 rfl rM_X10_settle (by decide) rfl rfl (by decide) (by decide) (Nat.le_of_ble_eq_true rfl) rfl (hp.1 _ rfl) (c_X10_settle hD1 (hT.eq et) (fun p1 c1 hD2 hx hT2 => ?_))
      show s_w _ _ _ 68 _ _ _ _
      exact w_return dX10_holdNone_68 ⟨rfl, k p1 c1 hD2 hx hT2⟩
    · have hi : i < nr := Nat.lt_of_not_le (fun z => c10 ((nI_leI (a := nr) (by omega) (by omega)).mpr z))
      refine w_op (pc' := 14) dX10_holdNone_13 rfl ?_
      refine t_getG0 (G := g_w_ranks) dX10_holdNone_14 rfl rfl (by decide) rfl (fun _ => rfl) (hp.1 _ rfl) ?_
      refine w_op (pc' := 18) dX10_holdNone_17 rfl ?_
      refine t_callV (t := T_LIST) (As := [_]) dX10_holdNone_18 rfl rM_Jx4a65c_get_915e3 (by decide) rfl rfl (by decide) (by decide) (Nat.le_of_ble_eq_true rfl) rfl (hp.2 _ (by decide)) (c_get0 hp hr10 (by omega) hi ?_)
      show s_w _ _ _ 21 _ _ _ _
      refine t_chk dX10_holdNone_21 rfl rfl (by decide) (hD1.rk hi) ?_
      refine t_getG1 (G := g_r_pipes) dX10_holdNone_24 rfl rfl (by decide) rfl (fun _ => rfl) (hD1.rk hi) ?_
      refine w_op (pc' := 28) (ll' := [_, _, _, _, _, _]) dX10_holdNone_27 rfl ?_
      refine w_op (pc' := 29) dX10_holdNone_28 rfl ?_
      refine t_alen dX10_holdNone_29 (by decide) (hD1.2.1 i hi).2.1 ?_
      refine w_op (pc' := 31) (ll' := [_, _, _, _, _, _]) dX10_holdNone_30 rfl ?_
      refine w_iconst (v := 0) dX10_holdNone_31 rfl ?_
      refine w_op (pc' := 34) (ll' := [_, _, _, _, _, _]) dX10_holdNone_32 rfl ?_
      refine l2_X10_holdNone (hD1.2.1 i hi) (fun o4 o5 => ?_) (p.2.2.1 T_PARR i + 1) 0 _ _ (Nat.zero_le _) rfl (by omega)
      refine w_op (pc' := 61) (ll' := [_, _, _, _, _, _]) dX10_holdNone_58 rfl ?_
      refine w_goto (t := 2) dX10_holdNone_61 (by decide) ?_
      rw [show nI i + Int32.ofInt 1 = nI (i + 1) from nI_1 i]
      exact ih (i + 1) _ _ _ _ _ (by omega) (e.trans (s_eqC.hnR i I1)) (et.trans (s_eqT.hnR i I1)) ((s_run_s hi).symm.trans hr) (by omega)
set_option maxRecDepth 100000 in
set_option maxHeartbeats 4000000 in
theorem c_X10_holdNone {X : e_XT} {d : Nat} {p : e_Sp} {I : e_I} {J : e_Jt} {c : Nat × Nat} {w : e_Rw1} {Q : e_Rt → e_SS → Prop} {nk nr : Nat} (hD : s_D p I nk nr) {a b : Nat} (hT : s_Tp p I c a b) (k : ∀ p' c', s_D p' (s_stl p nk nr (s_hn p nr I, J)).1 nk nr → s_xt p p' → s_Tp p' (s_stl p nk nr (s_hn p nr I, J)).1 c' a b → Q (.inl none) (p', (s_stl p nk nr (s_hn p nr I, J)).1, (s_stl p nk nr (s_hn p nr I, J)).2, c', w)) : s_c X (d + 7) 128 [.ref (p.1 T_WORKS 0)] (p, I, J, c, w) Q := by
  have hC := hD.1
  have hp := hC.1
  have hn40 := hC.2.1.1
  have hk40 := hC.2.1.2
  have hn10 := hC.2.2.1.1
  have hr10 := hC.2.2.1.2
  refine m_X10_holdNone (Nat.le_of_ble_eq_true rfl) ?_
  show s_w _ _ _ 0 _ _ _ _
  refine w_iconst (v := 0) dX10_holdNone_0 rfl ?_
  refine w_op (pc' := 2) (ll' := [_, _, _, _, _, _]) dX10_holdNone_1 rfl ?_
  exact l_X10_holdNone hD hT k (nr + 1) 0 _ _ _ _ _ (Nat.zero_le _) s_eqC.rfl' s_eqT.rfl' rfl (by omega)
set_option maxRecDepth 100000 in
set_option maxHeartbeats 4000000 in
theorem c_X1_keyOf {X : e_XT} {d : Nat} {p : e_Sp} {I : e_I} {J : e_Jt} {c : Nat × Nat} {w : e_Rw1} {Q : e_Rt → e_SS → Prop} (hp : s_ok p) {x : Int32} (k : Q (.inl (some (.int (s_cky I x)))) (p, I, J, c, w)) : s_c X (d + 0) 44 [.ref (p.1 T_CONT 0), .int x] (p, I, J, c, w) Q := by
  refine m_X1_keyOf (Nat.le_of_ble_eq_true rfl) ?_
  show s_w _ _ _ 0 _ _ _ _
  refine w_op (pc' := 1) dX1_keyOf_0 rfl ?_
  refine w_iflt (t := 9) dX1_keyOf_1 (by decide) (fun c1 => ?_) (fun c1 => ?_)
  · refine w_iconst (v := (-1)) dX1_keyOf_9 rfl ?_
    refine w_goto (t := 22) dX1_keyOf_10 (by decide) ?_
    exact w_ireturn dX1_keyOf_22 ⟨rfl, s_eqi (by unfold s_cky; rw [if_neg (fun z => Int32.not_lt.mpr z.1 c1)]) k⟩
  · refine w_op (pc' := 5) dX1_keyOf_4 rfl ?_
    refine w_iconst (v := 4) dX1_keyOf_5 rfl ?_
    refine w_icmplt (t := 13) dX1_keyOf_6 (by decide) (fun c6 => ?_) (fun c6 => ?_)
    · refine w_op (pc' := 14) dX1_keyOf_13 rfl ?_
      refine t_getG0 (G := g_o_chord) dX1_keyOf_14 rfl rfl (by decide) rfl (fun _ => rfl) (hp.1 _ rfl) ?_
      refine w_op (pc' := 18) dX1_keyOf_17 rfl ?_
      refine t_iald0 (F := f_a_chord) dX1_keyOf_18 rfl (by decide) rfl (hp.1 _ rfl) (s_ixo (N := 4) (Int32.not_lt.mp c1) c6 (by decide)) (s_ixo (N := 4) (Int32.not_lt.mp c1) c6 (by decide)).2.2 ?_
      refine w_bipush (v := 36) dX1_keyOf_19 rfl ?_
      refine w_op (pc' := 22) dX1_keyOf_21 rfl ?_
      exact w_ireturn dX1_keyOf_22 ⟨rfl, s_eqi (by unfold s_cky; rw [if_pos ⟨Int32.not_lt.mp c1, c6⟩]) k⟩
    · refine w_iconst (v := (-1)) dX1_keyOf_9 rfl ?_
      refine w_goto (t := 22) dX1_keyOf_10 (by decide) ?_
      exact w_ireturn dX1_keyOf_22 ⟨rfl, s_eqi (by unfold s_cky; rw [if_neg (fun z => c6 z.2)]) k⟩
set_option maxRecDepth 100000 in
set_option maxHeartbeats 4000000 in
theorem c_X1_isOfChord {X : e_XT} {d : Nat} {p : e_Sp} {I : e_I} {J : e_Jt} {c : Nat × Nat} {w : e_Rw1} {Q : e_Rt → e_SS → Prop} (hp : s_ok p) {x y : Int32} (k : Q (.inl (some (.int (bI (s_ofc I x y))))) (p, I, J, c, w)) : s_c X (d + 1) 45 [.ref (p.1 T_CONT 0), .int x, .int y] (p, I, J, c, w) Q := by
  refine m_X1_isOfChord (Nat.le_of_ble_eq_true rfl) ?_
  show s_w _ _ _ 0 _ _ _ _
  refine w_op (pc' := 1) dX1_isOfChord_0 rfl ?_
  refine w_ifne (t := 19) dX1_isOfChord_1 (by decide) (fun c1 => ?_) (fun c1 => ?_)
  · refine w_op (pc' := 20) dX1_isOfChord_19 rfl ?_
    refine w_op (pc' := 21) dX1_isOfChord_20 rfl ?_
    refine w_iconst (v := 1) dX1_isOfChord_21 rfl ?_
    refine t_callV (t := T_CONT) (As := [_]) dX1_isOfChord_22 rfl rM_X1_keyOf (by decide) rfl rfl (by decide) (by decide) (Nat.le_of_ble_eq_true rfl) rfl (hp.1 _ rfl) (c_X1_keyOf hp ?_)
    show s_w _ _ _ 25 _ _ _ _
    refine w_icmpeq (t := 46) dX1_isOfChord_25 (by decide) (fun c25 => ?_) (fun c25 => ?_)
    · refine w_iconst (v := 1) dX1_isOfChord_46 rfl ?_
      refine w_goto (t := 51) dX1_isOfChord_47 (by decide) ?_
      exact w_ireturn dX1_isOfChord_51 ⟨s_rcb (by first | exact Or.inl rfl | exact Or.inr rfl | exact bI_or _), s_eqi (by unfold s_ofc; grind) k⟩
    · refine w_op (pc' := 29) dX1_isOfChord_28 rfl ?_
      refine w_op (pc' := 30) dX1_isOfChord_29 rfl ?_
      refine w_iconst (v := 2) dX1_isOfChord_30 rfl ?_
      refine t_callV (t := T_CONT) (As := [_]) dX1_isOfChord_31 rfl rM_X1_keyOf (by decide) rfl rfl (by decide) (by decide) (Nat.le_of_ble_eq_true rfl) rfl (hp.1 _ rfl) (c_X1_keyOf hp ?_)
      show s_w _ _ _ 34 _ _ _ _
      refine w_icmpeq (t := 46) dX1_isOfChord_34 (by decide) (fun c34 => ?_) (fun c34 => ?_)
      · refine w_iconst (v := 1) dX1_isOfChord_46 rfl ?_
        refine w_goto (t := 51) dX1_isOfChord_47 (by decide) ?_
        exact w_ireturn dX1_isOfChord_51 ⟨s_rcb (by first | exact Or.inl rfl | exact Or.inr rfl | exact bI_or _), s_eqi (by unfold s_ofc; grind) k⟩
      · refine w_op (pc' := 38) dX1_isOfChord_37 rfl ?_
        refine w_op (pc' := 39) dX1_isOfChord_38 rfl ?_
        refine w_iconst (v := 3) dX1_isOfChord_39 rfl ?_
        refine t_callV (t := T_CONT) (As := [_]) dX1_isOfChord_40 rfl rM_X1_keyOf (by decide) rfl rfl (by decide) (by decide) (Nat.le_of_ble_eq_true rfl) rfl (hp.1 _ rfl) (c_X1_keyOf hp ?_)
        show s_w _ _ _ 43 _ _ _ _
        refine w_icmpne (t := 50) dX1_isOfChord_43 (by decide) (fun c43 => ?_) (fun c43 => ?_)
        · refine w_iconst (v := 0) dX1_isOfChord_50 rfl ?_
          exact w_ireturn dX1_isOfChord_51 ⟨s_rcb (by first | exact Or.inl rfl | exact Or.inr rfl | exact bI_or _), s_eqi (by unfold s_ofc; grind) k⟩
        · refine w_iconst (v := 1) dX1_isOfChord_46 rfl ?_
          refine w_goto (t := 51) dX1_isOfChord_47 (by decide) ?_
          exact w_ireturn dX1_isOfChord_51 ⟨s_rcb (by first | exact Or.inl rfl | exact Or.inr rfl | exact bI_or _), s_eqi (by unfold s_ofc; grind) k⟩
  · refine w_op (pc' := 5) dX1_isOfChord_4 rfl ?_
    refine w_op (pc' := 6) dX1_isOfChord_5 rfl ?_
    refine w_iconst (v := 0) dX1_isOfChord_6 rfl ?_
    refine t_callV (t := T_CONT) (As := [_]) dX1_isOfChord_7 rfl rM_X1_keyOf (by decide) rfl rfl (by decide) (by decide) (Nat.le_of_ble_eq_true rfl) rfl (hp.1 _ rfl) (c_X1_keyOf hp ?_)
    show s_w _ _ _ 10 _ _ _ _
    refine w_icmpne (t := 17) dX1_isOfChord_10 (by decide) (fun c10 => ?_) (fun c10 => ?_)
    · refine w_iconst (v := 0) dX1_isOfChord_17 rfl ?_
      exact w_ireturn dX1_isOfChord_18 ⟨s_rcb (by first | exact Or.inl rfl | exact Or.inr rfl | exact bI_or _), s_eqi (by unfold s_ofc; grind) k⟩
    · refine w_iconst (v := 1) dX1_isOfChord_13 rfl ?_
      refine w_goto (t := 18) dX1_isOfChord_14 (by decide) ?_
      exact w_ireturn dX1_isOfChord_18 ⟨s_rcb (by first | exact Or.inl rfl | exact Or.inr rfl | exact bI_or _), s_eqi (by unfold s_ofc; grind) k⟩
set_option maxRecDepth 100000 in
set_option maxHeartbeats 4000000 in
theorem l3_X10_pressChord {X : e_XT} {d : Nat} {p : e_Sp} {I : e_I} {J : e_Jt} {c : Nat × Nat} {w : e_Rw1} {Q : e_Rt → e_SS → Prop} {nk nr a b : Nat} {R : e_I} {p0 : e_Sp} (k : ∀ p' c', s_D p' (s_stl p0 nk nr (R, J)).1 nk nr → s_xt p0 p' → s_Tp p' (s_stl p0 nk nr (R, J)).1 c' a b → Q (.inl none) (p', (s_stl p0 nk nr (R, J)).1, (s_stl p0 nk nr (R, J)).2, c', w)) : ∀ (n : Nat) (i : Nat) (p : e_Sp) (I1 : e_I) (c : Nat × Nat) (o3 : Option Value), (h1 : i ≤ 4) → (hD : s_D p I1 nk nr) → (hT : s_Tp p I1 c a b) → (x : s_xt p0 p) → (hr2 : s_run s_pcV i (4 - i) I1 = R) → (hn : 4 - i < n) → s_w X (d + 7) K_X10_pressChord 47 [some (.ref (p.1 T_WORKS 0)), some (.ref (p.1 T_CONT 0)), some (.int (nI i)), o3] [] (p, I1, J, c, w) (fun r S' => e_rcr (none) r = true ∧ Q r S') := by
  intro n
  induction n with
  | zero =>
    intro i p I1 c o3 h1 hD hT x hr2 hn
    exact absurd hn (Nat.not_lt_zero _)
  | succ n ih =>
    intro i p I1 c o3 h1 hD hT x hr2 hn
    have hC := hD.1
    have hp := hC.1
    have hn40 := hC.2.1.1
    have hk40 := hC.2.1.2
    have hn10 := hC.2.2.1.1
    have hr10 := hC.2.2.1.2
    refine w_op (pc' := 48) dX10_pressChord_47 rfl ?_
    refine w_iconst (v := 4) dX10_pressChord_48 rfl ?_
    refine w_icmpge (t := 77) dX10_pressChord_49 (by decide) (fun c49 => ?_) (fun c49 => ?_)
    · have hi : 4 ≤ i := (nI_leI (a := 4) (by omega) (by omega)).mp c49
      rw [s_run_z hi] at hr2; subst hr2
      refine w_op (pc' := 78) dX10_pressChord_77 rfl ?_
      refine t_callV (t := T_WORKS) (As := []) dX10_pressChord_78 rfl rM_X10_settle (by decide) rfl rfl (by decide) (by decide) (Nat.le_of_ble_eq_true rfl) rfl (hp.1 _ rfl) (c_X10_settle hD hT (fun p1 c1 hD1 hx hT1 => ?_))
      show s_w _ _ _ 81 _ _ _ _
      exact w_return dX10_pressChord_81 ⟨rfl, (by rw [s_stl.xt x] at hD1 hT1 ⊢; exact k p1 c1 hD1 (x.trans hx) hT1)⟩
    · have hi : i < 4 := Nat.lt_of_not_le (fun z => c49 ((nI_leI (a := 4) (by omega) (by omega)).mpr z))
      refine w_op (pc' := 53) dX10_pressChord_52 rfl ?_
      refine w_op (pc' := 54) dX10_pressChord_53 rfl ?_
      refine w_ifne (t := 61) dX10_pressChord_54 (by decide) (fun c54 => ?_) (fun c54 => ?_)
      · refine w_iconst (v := 1) dX10_pressChord_61 rfl ?_
        refine w_op (pc' := 63) dX10_pressChord_62 rfl ?_
        refine w_op (pc' := 64) dX10_pressChord_63 rfl ?_
        refine t_callV (t := T_CONT) (As := [_]) dX10_pressChord_64 rfl rM_X1_keyOf (by decide) rfl rfl (by decide) (by decide) (Nat.le_of_ble_eq_true rfl) rfl (hp.1 _ rfl) (c_X1_keyOf hp ?_)
        show s_w _ _ _ 67 _ _ _ _
        refine w_iconst (v := 1) dX10_pressChord_67 rfl ?_
        refine t_callV (t := T_WORKS) (As := [_, _, _]) dX10_pressChord_68 rfl rM_X10_pressKey (by decide) rfl rfl (by decide) (by decide) (Nat.le_of_ble_eq_true rfl) rfl (hp.1 _ rfl) (c_X10_pressKey hD hT (Or.inr rfl) (fun p1 c1 hD1 hx hT1 => ?_))
        show s_w _ _ _ 71 _ _ _ _
        rw [show p.1 T_WORKS = p1.1 T_WORKS from (hx.1 T_WORKS rfl).1.symm, show p.1 T_CONT = p1.1 T_CONT from (hx.1 T_CONT rfl).1.symm]
        refine w_op (pc' := 74) (ll' := [_, _, _, _]) dX10_pressChord_71 rfl ?_
        refine w_goto (t := 47) dX10_pressChord_74 (by decide) ?_
        rw [show nI i + Int32.ofInt 1 = nI (i + 1) from nI_1 i]
        have ef : s_pcV i I1 = s_prk I1 1 (s_cky I1 (nI i)) 1 := by unfold s_pcV; rw [if_neg (fun z => c54 (by subst z; rfl))]
        rw [s_run_s hi, ef] at hr2
        exact ih (i + 1) p1 _ c1 _ (by omega) hD1 hT1 (x.trans hx) hr2 (by omega)
      · refine w_iconst (v := 0) dX10_pressChord_57 rfl ?_
        refine w_goto (t := 62) dX10_pressChord_58 (by decide) ?_
        refine w_op (pc' := 63) dX10_pressChord_62 rfl ?_
        refine w_op (pc' := 64) dX10_pressChord_63 rfl ?_
        refine t_callV (t := T_CONT) (As := [_]) dX10_pressChord_64 rfl rM_X1_keyOf (by decide) rfl rfl (by decide) (by decide) (Nat.le_of_ble_eq_true rfl) rfl (hp.1 _ rfl) (c_X1_keyOf hp ?_)
        show s_w _ _ _ 67 _ _ _ _
        refine w_iconst (v := 1) dX10_pressChord_67 rfl ?_
        refine t_callV (t := T_WORKS) (As := [_, _, _]) dX10_pressChord_68 rfl rM_X10_pressKey (by decide) rfl rfl (by decide) (by decide) (Nat.le_of_ble_eq_true rfl) rfl (hp.1 _ rfl) (c_X10_pressKey hD hT (Or.inr rfl) (fun p1 c1 hD1 hx hT1 => ?_))
        show s_w _ _ _ 71 _ _ _ _
        rw [show p.1 T_WORKS = p1.1 T_WORKS from (hx.1 T_WORKS rfl).1.symm, show p.1 T_CONT = p1.1 T_CONT from (hx.1 T_CONT rfl).1.symm]
        refine w_op (pc' := 74) (ll' := [_, _, _, _]) dX10_pressChord_71 rfl ?_
        refine w_goto (t := 47) dX10_pressChord_74 (by decide) ?_
        rw [show nI i + Int32.ofInt 1 = nI (i + 1) from nI_1 i]
        have ef : s_pcV i I1 = s_prk I1 0 (s_cky I1 (nI i)) 1 := by unfold s_pcV; rw [if_pos (by have := (nI_eq (b := 0) (by omega) (by omega)).mp c54; exact this)]
        rw [s_run_s hi, ef] at hr2
        exact ih (i + 1) p1 _ c1 _ (by omega) hD1 hT1 (x.trans hx) hr2 (by omega)
set_option maxRecDepth 100000 in
set_option maxHeartbeats 4000000 in
theorem l2_X10_pressChord {X : e_XT} {d : Nat} {p : e_Sp} {I : e_I} {J : e_Jt} {c : Nat × Nat} {w : e_Rw1} {Q : e_Rt → e_SS → Prop} {nk nr a b dv : Nat} {R : e_I} {p0 : e_Sp} (hk : ∀ (p : e_Sp) (c : Nat × Nat) (o3 : Option Value), s_D p R nk nr → s_Tp p R c a b → s_xt p0 p → s_w X (d + 7) K_X10_pressChord 39 [some (.ref (p.1 T_WORKS 0)), some (.ref (p.1 T_CONT 0)), some (.int (nI dv)), o3] [] (p, R, J, c, w) (fun r S' => e_rcr (none) r = true ∧ Q r S')) : ∀ (n : Nat) (i : Nat) (p : e_Sp) (I1 : e_I) (c : Nat × Nat), (h1 : i ≤ s_kcn (nI dv)) → (hD : s_D p I1 nk nr) → (hT : s_Tp p I1 c a b) → (x : s_xt p0 p) → (hr2 : s_run (s_pcK (nI dv)) i (s_kcn (nI dv) - i) I1 = R) → (hn : s_kcn (nI dv) - i < n) → s_w X (d + 7) K_X10_pressChord 9 [some (.ref (p.1 T_WORKS 0)), some (.ref (p.1 T_CONT 0)), some (.int (nI dv)), some (.int (nI i))] [] (p, I1, J, c, w) (fun r S' => e_rcr (none) r = true ∧ Q r S') := by
  intro n
  induction n with
  | zero =>
    intro i p I1 c h1 hD hT x hr2 hn
    exact absurd hn (Nat.not_lt_zero _)
  | succ n ih =>
    intro i p I1 c h1 hD hT x hr2 hn
    have hC := hD.1
    have hp := hC.1
    have hn40 := hC.2.1.1
    have hk40 := hC.2.1.2
    have hn10 := hC.2.2.1.1
    have hr10 := hC.2.2.1.2
    have h61 := s_kcn_le (nI dv)
    refine w_op (pc' := 10) dX10_pressChord_9 rfl ?_
    refine w_op (pc' := 11) dX10_pressChord_10 rfl ?_
    refine t_callS (As := [_]) dX10_pressChord_11 rfl rM_X3_countOf (by decide) rfl rfl (by decide) (Nat.le_of_ble_eq_true rfl) (c_X3_countOf _ ?_)
    show s_w _ _ _ 14 _ _ _ _
    rw [s_kc_nI]
    refine w_icmpge (t := 39) dX10_pressChord_14 (by decide) (fun c14 => ?_) (fun c14 => ?_)
    · have hi : s_kcn (nI dv) ≤ i := (nI_leI (a := s_kcn (nI dv)) (by omega) (by omega)).mp c14
      rw [s_run_z hi] at hr2; subst hr2; exact hk _ _ _ hD hT x
    · have hi : i < s_kcn (nI dv) := Nat.lt_of_not_le (fun z => c14 ((nI_leI (a := s_kcn (nI dv)) (by omega) (by omega)).mpr z))
      refine w_op (pc' := 18) dX10_pressChord_17 rfl ?_
      refine w_op (pc' := 19) dX10_pressChord_18 rfl ?_
      refine w_op (pc' := 20) dX10_pressChord_19 rfl ?_
      refine t_callV (t := T_CONT) (As := [_, _]) dX10_pressChord_20 rfl rM_X1_isOfChord (by decide) rfl rfl (by decide) (by decide) (Nat.le_of_ble_eq_true rfl) rfl (hp.1 _ rfl) (c_X1_isOfChord hp ?_)
      show s_w _ _ _ 23 _ _ _ _
      refine w_ifne (t := 33) dX10_pressChord_23 (by decide) (fun c23 => ?_) (fun c23 => ?_)
      · refine w_op (pc' := 36) (ll' := [_, _, _, _]) dX10_pressChord_33 rfl ?_
        refine w_goto (t := 9) dX10_pressChord_36 (by decide) ?_
        rw [show nI i + Int32.ofInt 1 = nI (i + 1) from nI_1 i]
        have ef : s_pcK (nI dv) i I1 = I1 := if_pos (bI_n0.mp c23)
        rw [s_run_s hi, ef] at hr2
        exact ih (i + 1) p I1 c (by omega) hD hT x hr2 (by omega)
      · refine w_op (pc' := 27) dX10_pressChord_26 rfl ?_
        refine w_op (pc' := 28) dX10_pressChord_27 rfl ?_
        refine w_op (pc' := 29) dX10_pressChord_28 rfl ?_
        refine w_iconst (v := 0) dX10_pressChord_29 rfl ?_
        refine t_callV (t := T_WORKS) (As := [_, _, _]) dX10_pressChord_30 rfl rM_X10_pressKey (by decide) rfl rfl (by decide) (by decide) (Nat.le_of_ble_eq_true rfl) rfl (hp.1 _ rfl) (c_X10_pressKey hD hT (Or.inl rfl) (fun p1 c1 hD1 hx hT1 => ?_))
        show s_w _ _ _ 33 _ _ _ _
        rw [show p.1 T_WORKS = p1.1 T_WORKS from (hx.1 T_WORKS rfl).1.symm, show p.1 T_CONT = p1.1 T_CONT from (hx.1 T_CONT rfl).1.symm]
        refine w_op (pc' := 36) (ll' := [_, _, _, _]) dX10_pressChord_33 rfl ?_
        refine w_goto (t := 9) dX10_pressChord_36 (by decide) ?_
        rw [show nI i + Int32.ofInt 1 = nI (i + 1) from nI_1 i]
        have ef : s_pcK (nI dv) i I1 = s_prk I1 (nI dv) (nI i) 0 := if_neg (fun z => by rw [bI_0.mp c23] at z; cases z)
        rw [s_run_s hi, ef] at hr2
        exact ih (i + 1) p1 _ c1 (by omega) hD1 hT1 (x.trans hx) hr2 (by omega)
set_option maxRecDepth 100000 in
set_option maxHeartbeats 4000000 in
theorem l_X10_pressChord {X : e_XT} {d : Nat} {p : e_Sp} {I : e_I} {J : e_Jt} {c : Nat × Nat} {w : e_Rw1} {Q : e_Rt → e_SS → Prop} {nk nr a b : Nat} {R : e_I} {p0 : e_Sp} (k : ∀ p' c', s_D p' (s_stl p0 nk nr (R, J)).1 nk nr → s_xt p0 p' → s_Tp p' (s_stl p0 nk nr (R, J)).1 c' a b → Q (.inl none) (p', (s_stl p0 nk nr (R, J)).1, (s_stl p0 nk nr (R, J)).2, c', w)) : ∀ (n : Nat) (i : Nat) (p : e_Sp) (I1 : e_I) (c : Nat × Nat) (o3 : Option Value), (h1 : i ≤ 2) → (hD : s_D p I1 nk nr) → (hT : s_Tp p I1 c a b) → (x : s_xt p0 p) → (hr2 : s_run s_pcV 0 4 (s_run s_pcD i (2 - i) I1) = R) → (hn : 2 - i < n) → s_w X (d + 7) K_X10_pressChord 2 [some (.ref (p.1 T_WORKS 0)), some (.ref (p.1 T_CONT 0)), some (.int (nI i)), o3] [] (p, I1, J, c, w) (fun r S' => e_rcr (none) r = true ∧ Q r S') := by
  intro n
  induction n with
  | zero =>
    intro i p I1 c o3 h1 hD hT x hr2 hn
    exact absurd hn (Nat.not_lt_zero _)
  | succ n ih =>
    intro i p I1 c o3 h1 hD hT x hr2 hn
    have hC := hD.1
    have hp := hC.1
    have hn40 := hC.2.1.1
    have hk40 := hC.2.1.2
    have hn10 := hC.2.2.1.1
    have hr10 := hC.2.2.1.2
    refine w_op (pc' := 3) dX10_pressChord_2 rfl ?_
    refine w_iconst (v := 1) dX10_pressChord_3 rfl ?_
    refine w_icmpgt (t := 45) dX10_pressChord_4 (by decide) (fun c4 => ?_) (fun c4 => ?_)
    · have hi : 2 ≤ i := (nI_ltI (a := 1) (by omega) (by omega)).mp c4
      rw [s_run_z hi] at hr2
      refine w_iconst (v := 0) dX10_pressChord_45 rfl ?_
      refine w_op (pc' := 47) (ll' := [_, _, _, _]) dX10_pressChord_46 rfl ?_
      exact l3_X10_pressChord (p := p) (I := I1) (c := c) k 5 0 p I1 c _ (Nat.zero_le _) hD hT x hr2 (by omega)
    · have hi : i < 2 := Nat.lt_of_not_le (fun z => c4 ((nI_ltI (a := 1) (by omega) (by omega)).mpr z))
      refine w_iconst (v := 0) dX10_pressChord_7 rfl ?_
      refine w_op (pc' := 9) (ll' := [_, _, _, _]) dX10_pressChord_8 rfl ?_
      refine l2_X10_pressChord (p := p) (I := I1) (c := c) (p0 := p) (a := a) (b := b) (nk := nk) (nr := nr) (dv := i) (fun p2 c2 o3 hD2 hT2 x2 => ?_) (s_kcn (nI i) + 1) 0 p I1 c (Nat.zero_le _) hD hT s_xt.rfl' rfl (by omega)
      refine w_op (pc' := 42) (ll' := [_, _, _, _]) dX10_pressChord_39 rfl ?_
      refine w_goto (t := 2) dX10_pressChord_42 (by decide) ?_
      rw [show nI i + Int32.ofInt 1 = nI (i + 1) from nI_1 i]
      rw [s_run_s hi] at hr2
      exact ih (i + 1) p2 _ c2 _ (by omega) hD2 hT2 (x.trans x2) hr2 (by omega)
set_option maxRecDepth 100000 in
set_option maxHeartbeats 4000000 in
theorem c_X10_pressChord {X : e_XT} {d : Nat} {p : e_Sp} {I : e_I} {J : e_Jt} {c : Nat × Nat} {w : e_Rw1} {Q : e_Rt → e_SS → Prop} {nk nr : Nat} (hD : s_D p I nk nr) {a b : Nat} (hT : s_Tp p I c a b) (k : ∀ p' c', s_D p' (s_stl p nk nr (s_pch I, J)).1 nk nr → s_xt p p' → s_Tp p' (s_stl p nk nr (s_pch I, J)).1 c' a b → Q (.inl none) (p', (s_stl p nk nr (s_pch I, J)).1, (s_stl p nk nr (s_pch I, J)).2, c', w)) : s_c X (d + 7) 129 [.ref (p.1 T_WORKS 0), .ref (p.1 T_CONT 0)] (p, I, J, c, w) Q := by
  refine m_X10_pressChord (Nat.le_of_ble_eq_true rfl) ?_
  show s_w _ _ _ 0 _ _ _ _
  refine w_iconst (v := 0) dX10_pressChord_0 rfl ?_
  refine w_op (pc' := 2) (ll' := [_, _, _, _]) dX10_pressChord_1 rfl ?_
  exact l_X10_pressChord (p := p) (I := I) (c := c) k 3 0 p I c _ (Nat.zero_le _) hD hT s_xt.rfl' rfl (by omega)
