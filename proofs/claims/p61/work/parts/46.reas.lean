/-! 46: the reasons (printed by wip/whole/p46.py) -/
theorem s_run_id {α : Type} {f : Nat → α → α} {a : α} (h : ∀ i, f i a = a) : ∀ n i, s_run f i n a = a
  | 0, _ => rfl
  | n + 1, i => by show s_run f (i + 1) n (f i a) = a; rw [h i]; exact s_run_id h n (i + 1)
def s_fgP (p : e_Sp) (r n : Nat) (I : e_I) : e_I := s_up I f_p_found (p.2.2.2.2 r + n) 0
def s_fgR (p : e_Sp) (r : Nat) (I : e_I) : e_I := s_run (s_fgP p r) 0 (p.2.2.1 T_PARR r) I
def s_fg (p : e_Sp) (nr : Nat) (I : e_I) : e_I := s_run (s_fgR p) 0 nr I
theorem s_eqC.fgR {p : e_Sp} (r : Nat) (I : e_I) : s_eqC I (s_fgR p r I) := s_eqC.run (fun _ _ => s_eqC.up (by decide)) _ _ _
theorem s_eqC.fg {p : e_Sp} {nr : Nat} {I : e_I} : s_eqC I (s_fg p nr I) := s_eqC.run s_eqC.fgR _ _ _
/-- a coupler's ways, key by key -/
def s_fwK (k n : Nat) (I : e_I) : e_I := if s_wy I k = true ∧ s_isk (I f_c_to k) (nI n + I f_c_shift k) ∧ s_tks I k (nI n) (I f_now 0) = true then s_up I f_a_ways (s_kn (I f_c_to k) (nI n + I f_c_shift k)) (I f_a_ways (s_kn (I f_c_to k) (nI n + I f_c_shift k)) + 1) else I
def s_fwN (k : Nat) (I : e_I) : e_I := s_run (s_fwK k) 0 61 I
def s_fw (nk : Nat) (I : e_I) : e_I := s_run s_fwN 0 nk (s_fill I f_a_ways 183 0)
theorem s_eqC.fwK {k : Nat} (n : Nat) (I : e_I) : s_eqC I (s_fwK k n I) := by
  unfold s_fwK
  split
  · exact s_eqC.up (by decide)
  · exact s_eqC.rfl'
theorem s_eqC.fwN (k : Nat) (I : e_I) : s_eqC I (s_fwN k I) := s_eqC.run s_eqC.fwK _ _ _
theorem s_eqC.fw {nk : Nat} {I : e_I} : s_eqC I (s_fw nk I) := (s_eqC.fill (by decide)).trans (s_eqC.run s_eqC.fwN _ _ _)
theorem s_fwK_id {k : Nat} {I : e_I} (h : s_wy I k = false) (i : Nat) : s_fwK k i I = I := if_neg (fun z => by have z1 := z.1; rw [h] at z1; cases z1)
theorem s_fwN_id {k : Nat} {I : e_I} (h : s_wy I k = false) : s_fwN k I = I := s_run_id (f := s_fwK k) (s_fwK_id h) 61 0
/-- a stop's reasons: row by row, key by key -/
def s_arR (p : e_Sp) (nr k : Nat) (ct : Int32) (key n : Nat) (I : e_I) : e_I := match s_pat p I nr (s_rk I k (nI n)) (s_nt I k (nI n) (nI key)) with
  | some j => s_up I f_p_found j (I f_p_found j + ct)
  | none => I
def s_arC (I : e_I) (x : Int32) (key : Nat) : Int32 := if s_isk x (nI key) then I f_a_ways (s_kn x (nI key)) else 0
def s_arK (p : e_Sp) (nr k : Nat) (x : Int32) (key : Nat) (I : e_I) : e_I := if 0 < s_arC I x key then s_run (s_arR p nr k (s_arC I x key) key) 0 (I f_s_rows k).toNatClampNeg I else I
def s_arS (p : e_Sp) (nr k : Nat) (x : Int32) (I : e_I) : e_I := s_run (s_arK p nr k x) 0 (s_kcn x) I
theorem s_eqC.arR {p : e_Sp} {nr k : Nat} {ct : Int32} {key : Nat} (n : Nat) (I : e_I) : s_eqC I (s_arR p nr k ct key n I) := by
  unfold s_arR
  split
  · exact s_eqC.up (by decide)
  · exact s_eqC.rfl'
theorem s_eqC.arK {p : e_Sp} {nr k : Nat} {x : Int32} (n : Nat) (I : e_I) : s_eqC I (s_arK p nr k x n I) := by
  unfold s_arK
  split
  · exact s_eqC.run s_eqC.arR _ _ _
  · exact s_eqC.rfl'
theorem s_eqC.arS {p : e_Sp} {nr k : Nat} {x : Int32} {I : e_I} : s_eqC I (s_arS p nr k x I) := s_eqC.run s_eqC.arK _ _ _
def s_frK (p : e_Sp) (nr k : Nat) (I : e_I) : e_I := if s_so I k = true then s_arS p nr k (I f_k_division k) I else I
def s_fs (p : e_Sp) (nk nr : Nat) (I : e_I) : e_I := s_run (s_frK p nr) 0 nk I
theorem s_eqC.frK {p : e_Sp} {nr : Nat} (k : Nat) (I : e_I) : s_eqC I (s_frK p nr k I) := by
  unfold s_frK
  split
  · exact s_eqC.arS
  · exact s_eqC.rfl'
theorem s_eqC.fs {p : e_Sp} {nk nr : Nat} {I : e_I} : s_eqC I (s_fs p nk nr I) := s_eqC.run s_eqC.frK _ _ _
theorem s_so_k {I : e_I} {k : Nat} (h : s_so I k = true) : I f_k_kind k = 115 := by unfold s_so at h; rw [Bool.and_eq_true] at h; exact of_decide_eq_true h.1
set_option maxRecDepth 100000 in
set_option maxHeartbeats 4000000 in
theorem l2_X10_forgetReasons {X : e_XT} {d : Nat} {p : e_Sp} {I : e_I} {J : e_Jt} {c : Nat × Nat} {w : e_Rw1} {Q : e_Rt → e_SS → Prop} {r : Nat} {R : e_I} (hR : s_Rk p I r) (hk : ∀ o4 o5, s_w X (d + 3) K_X10_forgetReasons 58 [some (.ref (p.1 T_WORKS 0)), some (.int (nI r)), some (.ref (p.1 T_PARR r)), some (.int (nI (p.2.2.1 T_PARR r))), o4, o5] [] (p, R, J, c, w) (fun r S' => e_rcr (none) r = true ∧ Q r S')) : ∀ (n : Nat) (i : Nat) (I1 : e_I) (o5 : Option Value), (h1 : i ≤ p.2.2.1 T_PARR r) → (hr : s_run (s_fgP p r) i (p.2.2.1 T_PARR r - i) I1 = R) → (hn : p.2.2.1 T_PARR r - i < n) → s_w X (d + 3) K_X10_forgetReasons 34 [some (.ref (p.1 T_WORKS 0)), some (.int (nI r)), some (.ref (p.1 T_PARR r)), some (.int (nI (p.2.2.1 T_PARR r))), some (.int (nI i)), o5] [] (p, I1, J, c, w) (fun r S' => e_rcr (none) r = true ∧ Q r S') := by
  intro n
  induction n with
  | zero =>
    intro i I1 o5 h1 hr hn
    exact absurd hn (Nat.not_lt_zero _)
  | succ n ih =>
    intro i I1 o5 h1 hr hn
    obtain ⟨lo, elo, hlo⟩ := hR.2.2.2.1
    refine w_op (pc' := 36) dX10_forgetReasons_34 rfl ?_
    refine w_op (pc' := 37) dX10_forgetReasons_36 rfl ?_
    refine w_icmpge (t := 58) dX10_forgetReasons_37 (by decide) (fun c37 => ?_) (fun c37 => ?_)
    · have hi : p.2.2.1 T_PARR r ≤ i := (nI_leI (by omega) (by omega)).mp c37
      rw [s_run_z hi] at hr; subst hr; exact hk _ _
    · have hi : i < p.2.2.1 T_PARR r := Nat.lt_of_not_le (fun z => c37 ((nI_leI (by omega) (by omega)).mpr z))
      refine w_op (pc' := 41) dX10_forgetReasons_40 rfl ?_
      refine w_op (pc' := 43) dX10_forgetReasons_41 rfl ?_
      refine t_aaldP dX10_forgetReasons_43 hR.1 (s_ix.nI hi (by omega)) ?_
      refine w_op (pc' := 46) (ll' := [_, _, _, _, _, _]) dX10_forgetReasons_44 rfl ?_
      refine w_op (pc' := 48) dX10_forgetReasons_46 rfl ?_
      refine w_iconst (v := 0) dX10_forgetReasons_48 rfl ?_
      refine t_putI (F := f_p_found) dX10_forgetReasons_49 rfl rfl (by decide) (by decide) rfl rfl (Or.inl rfl) (hR.2.2.1 i hi) ?_
      refine w_op (pc' := 55) (ll' := [_, _, _, _, _, _]) dX10_forgetReasons_52 rfl ?_
      refine w_goto (t := 34) dX10_forgetReasons_55 (by decide) ?_
      rw [show nI i + Int32.ofInt 1 = nI (i + 1) from nI_1 i]
      exact ih (i + 1) _ _ (by omega) ((s_run_s hi).symm.trans hr) (by omega)
set_option maxRecDepth 100000 in
set_option maxHeartbeats 4000000 in
theorem l_X10_forgetReasons {X : e_XT} {d : Nat} {p : e_Sp} {I : e_I} {J : e_Jt} {c : Nat × Nat} {w : e_Rw1} {Q : e_Rt → e_SS → Prop} {nk nr : Nat} (hD : s_D p I nk nr) {R : e_I} (k : Q (.inl none) (p, R, J, c, w)) : ∀ (n : Nat) (i : Nat) (I1 : e_I) (o2 o3 o4 o5 : Option Value), (h1 : i ≤ nr) → (e : s_eqC I I1) → (hr : s_run (s_fgR p) i (nr - i) I1 = R) → (hn : nr - i < n) → s_w X (d + 3) K_X10_forgetReasons 2 [some (.ref (p.1 T_WORKS 0)), some (.int (nI i)), o2, o3, o4, o5] [] (p, I1, J, c, w) (fun r S' => e_rcr (none) r = true ∧ Q r S') := by
  intro n
  induction n with
  | zero =>
    intro i I1 o2 o3 o4 o5 h1 e hr hn
    exact absurd hn (Nat.not_lt_zero _)
  | succ n ih =>
    intro i I1 o2 o3 o4 o5 h1 e hr hn
    have hD1 := hD.eq e
    have hC := hD1.1
    have hp := hC.1
    have hn40 := hC.2.1.1
    have hk40 := hC.2.1.2
    have hn10 := hC.2.2.1.1
    have hr10 := hC.2.2.1.2
    refine w_op (pc' := 3) dX10_forgetReasons_2 rfl ?_
    refine w_op (pc' := 4) dX10_forgetReasons_3 rfl ?_
    refine t_getG0 (G := g_w_ranks) dX10_forgetReasons_4 rfl rfl (by decide) rfl (fun _ => rfl) (hp.1 _ rfl) ?_
    refine t_callV (t := T_LIST) (As := []) dX10_forgetReasons_7 rfl rM_Jx4a65c_size_8abf5 (by decide) rfl rfl (by decide) (by decide) (Nat.le_of_ble_eq_true rfl) rfl (hp.2 _ (by decide)) (c_size (hp.2 _ (by decide)) ?_)
    show s_w _ _ _ 10 _ _ _ _
    rw [hr10]
    refine w_icmpge (t := 64) dX10_forgetReasons_10 (by decide) (fun c10 => ?_) (fun c10 => ?_)
    · have hi : nr ≤ i := (nI_leI (by omega) (by omega)).mp c10
      exact w_return dX10_forgetReasons_64 ⟨rfl, by rw [s_run_z hi] at hr; subst hr; exact k⟩
    · have hi : i < nr := Nat.lt_of_not_le (fun z => c10 ((nI_leI (by omega) (by omega)).mpr z))
      refine w_op (pc' := 14) dX10_forgetReasons_13 rfl ?_
      refine t_getG0 (G := g_w_ranks) dX10_forgetReasons_14 rfl rfl (by decide) rfl (fun _ => rfl) (hp.1 _ rfl) ?_
      refine w_op (pc' := 18) dX10_forgetReasons_17 rfl ?_
      refine t_callV (t := T_LIST) (As := [_]) dX10_forgetReasons_18 rfl rM_Jx4a65c_get_915e3 (by decide) rfl rfl (by decide) (by decide) (Nat.le_of_ble_eq_true rfl) rfl (hp.2 _ (by decide)) (c_get0 hp hr10 (by omega) hi ?_)
      show s_w _ _ _ 21 _ _ _ _
      refine t_chk dX10_forgetReasons_21 rfl rfl (by decide) (hD1.rk hi) ?_
      refine t_getG1 (G := g_r_pipes) dX10_forgetReasons_24 rfl rfl (by decide) rfl (fun _ => rfl) (hD1.rk hi) ?_
      refine w_op (pc' := 28) (ll' := [_, _, _, _, _, _]) dX10_forgetReasons_27 rfl ?_
      refine w_op (pc' := 29) dX10_forgetReasons_28 rfl ?_
      refine t_alen dX10_forgetReasons_29 (by decide) (hD1.2.1 i hi).2.1 ?_
      refine w_op (pc' := 31) (ll' := [_, _, _, _, _, _]) dX10_forgetReasons_30 rfl ?_
      refine w_iconst (v := 0) dX10_forgetReasons_31 rfl ?_
      refine w_op (pc' := 34) (ll' := [_, _, _, _, _, _]) dX10_forgetReasons_32 rfl ?_
      refine l2_X10_forgetReasons (hD1.2.1 i hi) (fun o4 o5 => ?_) (p.2.2.1 T_PARR i + 1) 0 _ _ (Nat.zero_le _) rfl (by omega)
      refine w_op (pc' := 61) (ll' := [_, _, _, _, _, _]) dX10_forgetReasons_58 rfl ?_
      refine w_goto (t := 2) dX10_forgetReasons_61 (by decide) ?_
      rw [show nI i + Int32.ofInt 1 = nI (i + 1) from nI_1 i]
      exact ih (i + 1) _ _ _ _ _ (by omega) (e.trans (s_eqC.fgR i I1)) ((s_run_s hi).symm.trans hr) (by omega)
set_option maxRecDepth 100000 in
set_option maxHeartbeats 4000000 in
theorem c_X10_forgetReasons {X : e_XT} {d : Nat} {p : e_Sp} {I : e_I} {J : e_Jt} {c : Nat × Nat} {w : e_Rw1} {Q : e_Rt → e_SS → Prop} {nk nr : Nat} (hD : s_D p I nk nr) (k : Q (.inl none) (p, s_fg p nr I, J, c, w)) : s_c X (d + 3) 109 [.ref (p.1 T_WORKS 0)] (p, I, J, c, w) Q := by
  refine m_X10_forgetReasons (Nat.le_of_ble_eq_true rfl) ?_
  show s_w _ _ _ 0 _ _ _ _
  refine w_iconst (v := 0) dX10_forgetReasons_0 rfl ?_
  refine w_op (pc' := 2) (ll' := [_, _, _, _, _, _]) dX10_forgetReasons_1 rfl ?_
  exact l_X10_forgetReasons hD k (nr + 1) 0 _ _ _ _ _ (Nat.zero_le _) s_eqC.rfl' rfl (by omega)
set_option maxRecDepth 100000 in
set_option maxHeartbeats 4000000 in
theorem l2_X10_findWays {X : e_XT} {d : Nat} {p : e_Sp} {I : e_I} {J : e_Jt} {c : Nat × Nat} {w : e_Rw1} {Q : e_Rt → e_SS → Prop} {nk nr : Nat} (hD : s_D p I nk nr) {kk : Nat} {R : e_I} (hkk : kk < nk) (hv : p.2.1 T_COUP kk = true) (hk : ∀ o4 o5, s_w X (d + 3) K_X10_findWays 124 [some (.ref (p.1 T_WORKS 0)), some (.int (nI kk)), some (.ref (p.1 T_KNOB kk)), some (.ref (p.1 T_COUP kk)), o4, o5] [] (p, R, J, c, w) (fun r S' => e_rcr (none) r = true ∧ Q r S')) : ∀ (n : Nat) (i : Nat) (I1 : e_I) (o5 : Option Value), (h1 : i ≤ 61) → (e : s_eqC I I1) → (hr : s_run (s_fwK kk) i (61 - i) I1 = R) → (hn : 61 - i < n) → s_w X (d + 3) K_X10_findWays 47 [some (.ref (p.1 T_WORKS 0)), some (.int (nI kk)), some (.ref (p.1 T_KNOB kk)), some (.ref (p.1 T_COUP kk)), some (.int (nI i)), o5] [] (p, I1, J, c, w) (fun r S' => e_rcr (none) r = true ∧ Q r S') := by
  intro n
  induction n with
  | zero =>
    intro i I1 o5 h1 e hr hn
    exact absurd hn (Nat.not_lt_zero _)
  | succ n ih =>
    intro i I1 o5 h1 e hr hn
    have hD1 := hD.eq e
    have hC := hD1.1
    have hp := hC.1
    have hn40 := hC.2.1.1
    have hk40 := hC.2.1.2
    have hn10 := hC.2.2.1.1
    have hr10 := hC.2.2.1.2
    refine w_op (pc' := 48) dX10_findWays_47 rfl ?_
    refine w_ifnull_f dX10_findWays_48 ?_
    refine w_op (pc' := 52) dX10_findWays_51 rfl ?_
    refine t_getG0 (G := g_w_CONS) dX10_findWays_52 rfl rfl (by decide) rfl (fun _ => rfl) (hp.1 _ rfl) ?_
    refine w_op (pc' := 56) dX10_findWays_55 rfl ?_
    refine t_callV (t := T_CONS) (As := [_]) dX10_findWays_56 rfl rM_X0_isWay (by decide) rfl rfl (by decide) (by decide) (Nat.le_of_ble_eq_true rfl) rfl (hp.1 _ rfl) (c_X0_isWay hp (hC.kn hkk) (hC.co hkk) ?_)
    show s_w _ _ _ 59 _ _ _ _
    refine w_ifeq (t := 124) dX10_findWays_59 (by decide) (fun c59 => ?_) (fun c59 => ?_)
    · have hr2 : I1 = R := by
        rw [← hr]
        exact (s_run_id (s_fwK_id (bI_0.mp c59)) _ _).symm
      subst hr2; exact hk _ _
    · refine w_op (pc' := 64) dX10_findWays_62 rfl ?_
      refine w_bipush (v := 61) dX10_findWays_64 rfl ?_
      refine w_icmpge (t := 124) dX10_findWays_66 (by decide) (fun c66 => ?_) (fun c66 => ?_)
      · have hi : 61 ≤ i := (nI_leI (a := 61) (by omega) (by omega)).mp c66
        rw [s_run_z hi] at hr; subst hr; exact hk _ _
      · have hi : i < 61 := Nat.lt_of_not_le (fun z => c66 ((nI_leI (a := 61) (by omega) (by omega)).mpr z))
        refine w_op (pc' := 70) dX10_findWays_69 rfl ?_
        refine t_getI (F := f_c_to) dX10_findWays_70 rfl rfl (by decide) rfl ⟨rfl, fun _ => rfl⟩ hv ?_
        refine w_op (pc' := 75) dX10_findWays_73 rfl ?_
        refine w_op (pc' := 76) dX10_findWays_75 rfl ?_
        refine t_getI (F := f_c_shift) dX10_findWays_76 rfl rfl (by decide) rfl ⟨rfl, fun _ => rfl⟩ hv ?_
        refine w_op (pc' := 80) dX10_findWays_79 rfl ?_
        refine t_callS (As := [_, _]) dX10_findWays_80 rfl rM_X3_indexOf (by decide) rfl rfl (by decide) (Nat.le_of_ble_eq_true rfl) (c_X3_indexOf ?_)
        show s_w _ _ _ 83 _ _ _ _
        refine w_op (pc' := 85) (ll' := [_, _, _, _, _, _]) dX10_findWays_83 rfl ?_
        refine w_op (pc' := 87) dX10_findWays_85 rfl ?_
        refine w_iflt (t := 118) dX10_findWays_87 (by decide) (fun c87 => ?_) (fun c87 => ?_)
        · refine w_op (pc' := 121) (ll' := [_, _, _, _, _, _]) dX10_findWays_118 rfl ?_
          refine w_goto (t := 47) dX10_findWays_121 (by decide) ?_
          rw [show nI i + Int32.ofInt 1 = nI (i + 1) from nI_1 i]
          have ef : s_fwK kk i I1 = I1 := if_neg (fun z => s_idx_neg.mp c87 z.2.1)
          rw [s_run_s hi, ef] at hr
          exact ih (i + 1) _ _ (by omega) (e) hr (by omega)
        · refine w_op (pc' := 91) dX10_findWays_90 rfl ?_
          refine w_op (pc' := 93) dX10_findWays_91 rfl ?_
          refine w_op (pc' := 94) dX10_findWays_93 rfl ?_
          refine t_getG0 (G := g_w_KEYS) dX10_findWays_94 rfl rfl (by decide) rfl (fun _ => rfl) (hp.1 _ rfl) ?_
          refine w_op (pc' := 98) dX10_findWays_97 rfl ?_
          refine t_getI (F := f_now) dX10_findWays_98 rfl rfl (by decide) rfl ⟨rfl, fun _ => rfl⟩ (hp.1 _ rfl) ?_
          refine t_callV (t := T_COUP) (As := [_, _, _]) dX10_findWays_101 rfl rM_X2_takes (by decide) rfl rfl (by decide) (by decide) (Nat.le_of_ble_eq_true rfl) rfl hv (c_X2_takes hp hv ?_)
          show s_w _ _ _ 104 _ _ _ _
          refine w_ifeq (t := 118) dX10_findWays_104 (by decide) (fun c104 => ?_) (fun c104 => ?_)
          · refine w_op (pc' := 121) (ll' := [_, _, _, _, _, _]) dX10_findWays_118 rfl ?_
            refine w_goto (t := 47) dX10_findWays_121 (by decide) ?_
            rw [show nI i + Int32.ofInt 1 = nI (i + 1) from nI_1 i]
            have ef : s_fwK kk i I1 = I1 := if_neg (fun z => by have z2 := z.2.2; rw [bI_0.mp c104] at z2; cases z2)
            rw [s_run_s hi, ef] at hr
            exact ih (i + 1) _ _ (by omega) (e) hr (by omega)
          · have hq := s_isk_nn c87
            refine w_op (pc' := 108) dX10_findWays_107 rfl ?_
            refine t_getG0 (G := g_w_ways) dX10_findWays_108 rfl rfl (by decide) rfl (fun _ => rfl) (hp.1 _ rfl) ?_
            refine w_op (pc' := 113) dX10_findWays_111 rfl ?_
            refine w_op (pc' := 114) dX10_findWays_113 rfl ?_
            refine t_iald0 (F := f_a_ways) dX10_findWays_114 rfl (by decide) rfl (hp.1 _ rfl) (s_idx_ix hq) hq.lt ?_
            refine w_iconst (v := 1) dX10_findWays_115 rfl ?_
            refine w_op (pc' := 117) dX10_findWays_116 rfl ?_
            refine t_iast0 (F := f_a_ways) dX10_findWays_117 rfl (by decide) (by decide) rfl (hp.1 _ rfl) (s_idx_ix hq) hq.lt ?_
            refine w_op (pc' := 121) (ll' := [_, _, _, _, _, _]) dX10_findWays_118 rfl ?_
            refine w_goto (t := 47) dX10_findWays_121 (by decide) ?_
            rw [show nI i + Int32.ofInt 1 = nI (i + 1) from nI_1 i]
            have ef : s_fwK kk i I1 = _ := if_pos ⟨bI_n0.mp c59, hq, bI_n0.mp c104⟩
            rw [s_run_s hi, ef] at hr
            exact ih (i + 1) _ _ (by omega) (e.trans (s_eqC.up (by decide))) hr (by omega)
set_option maxRecDepth 100000 in
set_option maxHeartbeats 4000000 in
theorem l_X10_findWays {X : e_XT} {d : Nat} {p : e_Sp} {I : e_I} {J : e_Jt} {c : Nat × Nat} {w : e_Rw1} {Q : e_Rt → e_SS → Prop} {nk nr : Nat} (hD : s_D p I nk nr) {R : e_I} (k : Q (.inl none) (p, R, J, c, w)) : ∀ (n : Nat) (i : Nat) (I1 : e_I) (o2 o3 o4 o5 : Option Value), (h1 : i ≤ nk) → (e : s_eqC I I1) → (hr : s_run s_fwN i (nk - i) I1 = R) → (hn : nk - i < n) → s_w X (d + 3) K_X10_findWays 10 [some (.ref (p.1 T_WORKS 0)), some (.int (nI i)), o2, o3, o4, o5] [] (p, I1, J, c, w) (fun r S' => e_rcr (none) r = true ∧ Q r S') := by
  intro n
  induction n with
  | zero =>
    intro i I1 o2 o3 o4 o5 h1 e hr hn
    exact absurd hn (Nat.not_lt_zero _)
  | succ n ih =>
    intro i I1 o2 o3 o4 o5 h1 e hr hn
    have hD1 := hD.eq e
    have hC := hD1.1
    have hp := hC.1
    have hn40 := hC.2.1.1
    have hk40 := hC.2.1.2
    have hn10 := hC.2.2.1.1
    have hr10 := hC.2.2.1.2
    refine w_op (pc' := 11) dX10_findWays_10 rfl ?_
    refine w_op (pc' := 12) dX10_findWays_11 rfl ?_
    refine t_getG0 (G := g_w_CONS) dX10_findWays_12 rfl rfl (by decide) rfl (fun _ => rfl) (hp.1 _ rfl) ?_
    refine t_getG0 (G := g_n_knobs) dX10_findWays_15 rfl rfl (by decide) rfl (fun _ => rfl) (hp.1 _ rfl) ?_
    refine t_callV (t := T_LIST) (As := []) dX10_findWays_18 rfl rM_Jx4a65c_size_8abf5 (by decide) rfl rfl (by decide) (by decide) (Nat.le_of_ble_eq_true rfl) rfl (hp.2 _ (by decide)) (c_size (hp.2 _ (by decide)) ?_)
    show s_w _ _ _ 21 _ _ _ _
    rw [hk40]
    refine w_icmpge (t := 130) dX10_findWays_21 (by decide) (fun c21 => ?_) (fun c21 => ?_)
    · have hi : nk ≤ i := (nI_leI (by omega) (by omega)).mp c21
      exact w_return dX10_findWays_130 ⟨rfl, by rw [s_run_z hi] at hr; subst hr; exact k⟩
    · have hi : i < nk := Nat.lt_of_not_le (fun z => c21 ((nI_leI (by omega) (by omega)).mpr z))
      refine w_op (pc' := 25) dX10_findWays_24 rfl ?_
      refine t_getG0 (G := g_w_CONS) dX10_findWays_25 rfl rfl (by decide) rfl (fun _ => rfl) (hp.1 _ rfl) ?_
      refine t_getG0 (G := g_n_knobs) dX10_findWays_28 rfl rfl (by decide) rfl (fun _ => rfl) (hp.1 _ rfl) ?_
      refine w_op (pc' := 32) dX10_findWays_31 rfl ?_
      refine t_callV (t := T_LIST) (As := [_]) dX10_findWays_32 rfl rM_Jx4a65c_get_915e3 (by decide) rfl rfl (by decide) (by decide) (Nat.le_of_ble_eq_true rfl) rfl (hp.2 _ (by decide)) (c_get1 hp hk40 (by omega) hi ?_)
      show s_w _ _ _ 35 _ _ _ _
      refine t_chk dX10_findWays_35 rfl rfl (by decide) (hC.kn hi) ?_
      refine w_op (pc' := 39) (ll' := [_, _, _, _, _, _]) dX10_findWays_38 rfl ?_
      refine w_op (pc' := 40) dX10_findWays_39 rfl ?_
      refine t_getCoup dX10_findWays_40 rfl (hC.kn hi) ?_
      by_cases z40 : p.2.1 T_COUP (i) = true
      · rw [if_pos z40]
        refine w_op (pc' := 44) (ll' := [_, _, _, _, _, _]) dX10_findWays_43 rfl ?_
        refine w_iconst (v := 0) dX10_findWays_44 rfl ?_
        refine w_op (pc' := 47) (ll' := [_, _, _, _, _, _]) dX10_findWays_45 rfl ?_
        refine l2_X10_findWays hD1 hi z40 (fun o4 o5 => ?_) 62 0 _ _ (Nat.zero_le _) s_eqC.rfl' rfl (by omega)
        refine w_op (pc' := 127) (ll' := [_, _, _, _, _, _]) dX10_findWays_124 rfl ?_
        refine w_goto (t := 10) dX10_findWays_127 (by decide) ?_
        rw [show nI i + Int32.ofInt 1 = nI (i + 1) from nI_1 i]
        exact ih (i + 1) _ _ _ _ _ (by omega) (e.trans (s_eqC.fwN i I1)) ((s_run_s hi).symm.trans hr) (by omega)
      · rw [if_neg z40]
        refine w_op (pc' := 44) (ll' := [_, _, _, _, _, _]) dX10_findWays_43 rfl ?_
        refine w_iconst (v := 0) dX10_findWays_44 rfl ?_
        refine w_op (pc' := 47) (ll' := [_, _, _, _, _, _]) dX10_findWays_45 rfl ?_
        refine w_op (pc' := 48) dX10_findWays_47 rfl ?_
        refine w_ifnull_t (t := 124) dX10_findWays_48 (by decide) ?_
        refine w_op (pc' := 127) (ll' := [_, _, _, _, _, _]) dX10_findWays_124 rfl ?_
        refine w_goto (t := 10) dX10_findWays_127 (by decide) ?_
        rw [show nI i + Int32.ofInt 1 = nI (i + 1) from nI_1 i]
        have ef : s_fwN i I1 = I1 := s_fwN_id (by have h9 := hC.co hi; unfold s_wy s_isco; grind)
        rw [s_run_s hi, ef] at hr
        exact ih (i + 1) _ _ _ _ _ (by omega) e hr (by omega)
set_option maxRecDepth 100000 in
set_option maxHeartbeats 4000000 in
theorem c_X10_findWays {X : e_XT} {d : Nat} {p : e_Sp} {I : e_I} {J : e_Jt} {c : Nat × Nat} {w : e_Rw1} {Q : e_Rt → e_SS → Prop} {nk nr : Nat} (hD : s_D p I nk nr) (k : Q (.inl none) (p, s_fw nk I, J, c, w)) : s_c X (d + 3) 110 [.ref (p.1 T_WORKS 0)] (p, I, J, c, w) Q := by
  have hC := hD.1
  have hp := hC.1
  have hn40 := hC.2.1.1
  have hk40 := hC.2.1.2
  have hn10 := hC.2.2.1.1
  have hr10 := hC.2.2.1.2
  refine m_X10_findWays (Nat.le_of_ble_eq_true rfl) ?_
  show s_w _ _ _ 0 _ _ _ _
  refine w_op (pc' := 1) dX10_findWays_0 rfl ?_
  refine t_getG0 (G := g_w_ways) dX10_findWays_1 rfl rfl (by decide) rfl (fun _ => rfl) (hp.1 _ rfl) ?_
  refine w_iconst (v := 0) dX10_findWays_4 rfl ?_
  refine t_callS (As := [_, _]) dX10_findWays_5 rfl rM_J7_fill_53178 (by decide) rfl rfl (by decide) (Nat.le_of_ble_eq_true rfl) (c_fill (F := f_a_ways) rfl (by decide) (by decide) rfl (hp.1 _ rfl) (by decide) ?_)
  show s_w _ _ _ 8 _ _ _ _
  refine w_iconst (v := 0) dX10_findWays_8 rfl ?_
  refine w_op (pc' := 10) (ll' := [_, _, _, _, _, _]) dX10_findWays_9 rfl ?_
  exact l_X10_findWays (hD.eq (s_eqC.fill (by decide))) k (nk + 1) 0 _ _ _ _ _ (Nat.zero_le _) s_eqC.rfl' rfl (by omega)
set_option maxRecDepth 100000 in
set_option maxHeartbeats 4000000 in
theorem l2_X10_addReasons {X : e_XT} {d : Nat} {p : e_Sp} {I : e_I} {J : e_Jt} {c : Nat × Nat} {w : e_Rw1} {Q : e_Rt → e_SS → Prop} {nk nr : Nat} (hD : s_D p I nk nr) {kk : Nat} {x : Int32} {R : e_I} (hkk : kk < nk) (h115 : I f_k_kind kk = 115) (hv : p.2.1 T_STOP kk = true) {key : Nat} {ct : Int32} (hct : 0 < ct) (hk : ∀ o6 o7 o8, s_w X (d + 4) K_X10_addReasons 94 [some (.ref (p.1 T_WORKS 0)), some (.ref (p.1 T_STOP kk)), some (.int x), some (.int (nI key)), o6, some (.int ct), o7, o8] [] (p, R, J, c, w) (fun r S' => e_rcr (none) r = true ∧ Q r S')) : ∀ (n : Nat) (i : Nat) (I1 : e_I) (o4 o7 : Option Value), (h1 : i ≤ (I f_s_rows kk).toNatClampNeg) → (e : s_eqC I I1) → (hr : s_run (s_arR p nr kk ct key) i ((I f_s_rows kk).toNatClampNeg - i) I1 = R) → (hn : (I f_s_rows kk).toNatClampNeg - i < n) → s_w X (d + 4) K_X10_addReasons 38 [some (.ref (p.1 T_WORKS 0)), some (.ref (p.1 T_STOP kk)), some (.int x), some (.int (nI key)), o4, some (.int ct), some (.int (nI i)), o7] [] (p, I1, J, c, w) (fun r S' => e_rcr (none) r = true ∧ Q r S') := by
  intro n
  induction n with
  | zero =>
    intro i I1 o4 o7 h1 e hr hn
    exact absurd hn (Nat.not_lt_zero _)
  | succ n ih =>
    intro i I1 o4 o7 h1 e hr hn
    have hD1 := hD.eq e
    have hC := hD1.1
    have hp := hC.1
    have hn40 := hC.2.1.1
    have hk40 := hC.2.1.2
    have hn10 := hC.2.2.1.1
    have hr10 := hC.2.2.1.2
    have hS := hD1.2.2.2 kk hkk ((e.2 f_k_kind (by decide) kk).trans h115)
    obtain ⟨m4, hm4, hrows⟩ := hS.2
    have hmr : (I f_s_rows kk).toNatClampNeg = m4 := by rw [← e.2 f_s_rows (by decide), hrows, nI_clamp (by omega)]
    refine w_op (pc' := 40) dX10_addReasons_38 rfl ?_
    refine w_ifle (t := 94) dX10_addReasons_40 (by decide) (fun c40 => ?_) (fun c40 => ?_)
    · exact absurd hct (Int32.not_lt.mpr c40)
    · refine w_op (pc' := 45) dX10_addReasons_43 rfl ?_
      refine w_op (pc' := 46) dX10_addReasons_45 rfl ?_
      refine t_getI (F := f_s_rows) dX10_addReasons_46 rfl rfl (by decide) rfl ⟨rfl, fun _ => rfl⟩ hv ?_
      refine w_icmpge (t := 94) dX10_addReasons_49 (by decide) (fun c49 => ?_) (fun c49 => ?_)
      · rw [hrows] at c49
        have hi : m4 ≤ i := (nI_leI (by omega) (by omega)).mp c49
        rw [s_run_z (by omega)] at hr; subst hr; exact hk _ _ _
      · have hi : i < (I f_s_rows kk).toNatClampNeg := Nat.lt_of_not_le (fun z => c49 (by rw [hrows]; exact (nI_leI (by omega) (by omega)).mpr (by omega)))
        refine w_op (pc' := 53) dX10_addReasons_52 rfl ?_
        refine w_op (pc' := 54) dX10_addReasons_53 rfl ?_
        refine w_op (pc' := 56) dX10_addReasons_54 rfl ?_
        refine t_callV (t := T_STOP) (As := [_]) dX10_addReasons_56 rfl rM_X8_rankOf (by decide) rfl rfl (by decide) (by decide) (Nat.le_of_ble_eq_true rfl) rfl hv (c_X8_rankOf hv hS.1 ?_)
        show s_w _ _ _ 59 _ _ _ _
        refine w_op (pc' := 60) dX10_addReasons_59 rfl ?_
        refine w_op (pc' := 62) dX10_addReasons_60 rfl ?_
        refine w_op (pc' := 63) dX10_addReasons_62 rfl ?_
        refine t_callV (t := T_STOP) (As := [_, _]) dX10_addReasons_63 rfl rM_X8_noteOf (by decide) rfl rfl (by decide) (by decide) (Nat.le_of_ble_eq_true rfl) rfl hv (c_X8_noteOf hv hS.1 ?_)
        show s_w _ _ _ 66 _ _ _ _
        refine t_callV (t := T_WORKS) (As := [_, _]) dX10_addReasons_66 rfl rM_X10_pipeAt (by decide) rfl rfl (by decide) (by decide) (Nat.le_of_ble_eq_true rfl) rfl (hp.1 _ rfl) (c_X10_pipeAt hD1 (fun j hj hv9 => ?_) (fun hx => ?_))
        · show s_w _ _ _ 69 _ _ _ _
          refine w_op (pc' := 71) (ll' := [_, _, _, _, _, _, _, _]) dX10_addReasons_69 rfl ?_
          refine w_op (pc' := 73) dX10_addReasons_71 rfl ?_
          refine w_ifnull_f dX10_addReasons_73 ?_
          refine w_op (pc' := 78) dX10_addReasons_76 rfl ?_
          refine w_op (pc' := 79) dX10_addReasons_78 rfl ?_
          refine t_getI (F := f_p_found) dX10_addReasons_79 rfl rfl (by decide) rfl ⟨rfl, fun _ => rfl⟩ (by assumption) ?_
          refine w_op (pc' := 84) dX10_addReasons_82 rfl ?_
          refine w_op (pc' := 85) dX10_addReasons_84 rfl ?_
          refine t_putI (F := f_p_found) dX10_addReasons_85 rfl rfl (by decide) (by decide) rfl rfl (Or.inl rfl) (by assumption) ?_
          refine w_op (pc' := 91) (ll' := [_, _, _, _, _, _, _, _]) dX10_addReasons_88 rfl ?_
          refine w_goto (t := 38) dX10_addReasons_91 (by decide) ?_
          rw [show nI i + Int32.ofInt 1 = nI (i + 1) from nI_1 i]
          have ef : s_arR p nr kk ct key i I1 = s_up I1 f_p_found j (I1 f_p_found j + ct) := by unfold s_arR; rw [hj]
          rw [s_run_s hi, ef] at hr
          exact ih (i + 1) _ _ _ (by omega) (e.trans (s_eqC.up (by decide))) hr (by omega)
        · show s_w _ _ _ 69 _ _ _ _
          refine w_op (pc' := 71) (ll' := [_, _, _, _, _, _, _, _]) dX10_addReasons_69 rfl ?_
          refine w_op (pc' := 73) dX10_addReasons_71 rfl ?_
          refine w_ifnull_t (t := 88) dX10_addReasons_73 (by decide) ?_
          refine w_op (pc' := 91) (ll' := [_, _, _, _, _, _, _, _]) dX10_addReasons_88 rfl ?_
          refine w_goto (t := 38) dX10_addReasons_91 (by decide) ?_
          rw [show nI i + Int32.ofInt 1 = nI (i + 1) from nI_1 i]
          have ef : s_arR p nr kk ct key i I1 = I1 := by unfold s_arR; rw [hx]
          rw [s_run_s hi, ef] at hr
          exact ih (i + 1) _ _ _ (by omega) (e) hr (by omega)
set_option maxRecDepth 100000 in
set_option maxHeartbeats 4000000 in
theorem l_X10_addReasons {X : e_XT} {d : Nat} {p : e_Sp} {I : e_I} {J : e_Jt} {c : Nat × Nat} {w : e_Rw1} {Q : e_Rt → e_SS → Prop} {nk nr : Nat} (hD : s_D p I nk nr) {kk : Nat} {x : Int32} {R : e_I} (hkk : kk < nk) (h115 : I f_k_kind kk = 115) (hv : p.2.1 T_STOP kk = true) (k : Q (.inl none) (p, R, J, c, w)) : ∀ (n : Nat) (i : Nat) (I1 : e_I) (o4 o5 o6 o7 : Option Value), (h1 : i ≤ s_kcn x) → (e : s_eqC I I1) → (hr : s_run (s_arK p nr kk x) i (s_kcn x - i) I1 = R) → (hn : s_kcn x - i < n) → s_w X (d + 4) K_X10_addReasons 2 [some (.ref (p.1 T_WORKS 0)), some (.ref (p.1 T_STOP kk)), some (.int x), some (.int (nI i)), o4, o5, o6, o7] [] (p, I1, J, c, w) (fun r S' => e_rcr (none) r = true ∧ Q r S') := by
  intro n
  induction n with
  | zero =>
    intro i I1 o4 o5 o6 o7 h1 e hr hn
    exact absurd hn (Nat.not_lt_zero _)
  | succ n ih =>
    intro i I1 o4 o5 o6 o7 h1 e hr hn
    have hD1 := hD.eq e
    have hC := hD1.1
    have hp := hC.1
    have hn40 := hC.2.1.1
    have hk40 := hC.2.1.2
    have hn10 := hC.2.2.1.1
    have hr10 := hC.2.2.1.2
    have hS := hD1.2.2.2 kk hkk ((e.2 f_k_kind (by decide) kk).trans h115)
    obtain ⟨m4, hm4, hrows⟩ := hS.2
    refine w_op (pc' := 3) dX10_addReasons_2 rfl ?_
    refine w_op (pc' := 4) dX10_addReasons_3 rfl ?_
    refine t_callS (As := [_]) dX10_addReasons_4 rfl rM_X3_countOf (by decide) rfl rfl (by decide) (Nat.le_of_ble_eq_true rfl) (c_X3_countOf _ ?_)
    show s_w _ _ _ 7 _ _ _ _
    rw [s_kc_nI]
    refine w_icmpge (t := 100) dX10_addReasons_7 (by decide) (fun c7 => ?_) (fun c7 => ?_)
    · have h61 := s_kcn_le x
      have hi : s_kcn x ≤ i := (nI_leI (by omega) (by omega)).mp c7
      exact w_return dX10_addReasons_100 ⟨rfl, by rw [s_run_z hi] at hr; subst hr; exact k⟩
    · have h61 := s_kcn_le x
      have hi : i < s_kcn x := Nat.lt_of_not_le (fun z => c7 ((nI_leI (by omega) (by omega)).mpr z))
      refine w_op (pc' := 11) dX10_addReasons_10 rfl ?_
      refine w_op (pc' := 12) dX10_addReasons_11 rfl ?_
      refine t_callS (As := [_, _]) dX10_addReasons_12 rfl rM_X3_indexOf (by decide) rfl rfl (by decide) (Nat.le_of_ble_eq_true rfl) (c_X3_indexOf ?_)
      show s_w _ _ _ 15 _ _ _ _
      refine w_op (pc' := 17) (ll' := [_, _, _, _, _, _, _, _]) dX10_addReasons_15 rfl ?_
      refine w_op (pc' := 19) dX10_addReasons_17 rfl ?_
      refine w_ifge (t := 26) dX10_addReasons_19 (by decide) (fun c19 => ?_) (fun c19 => ?_)
      · have hq := s_isk_nn (Int32.not_lt.mpr c19)
        refine w_op (pc' := 27) dX10_addReasons_26 rfl ?_
        refine t_getG0 (G := g_w_ways) dX10_addReasons_27 rfl rfl (by decide) rfl (fun _ => rfl) (hp.1 _ rfl) ?_
        refine w_op (pc' := 32) dX10_addReasons_30 rfl ?_
        refine t_iald0 (F := f_a_ways) dX10_addReasons_32 rfl (by decide) rfl (hp.1 _ rfl) (s_idx_ix hq) hq.lt ?_
        refine w_op (pc' := 35) (ll' := [_, _, _, _, _, _, _, _]) dX10_addReasons_33 rfl ?_
        refine w_iconst (v := 0) dX10_addReasons_35 rfl ?_
        refine w_op (pc' := 38) (ll' := [_, _, _, _, _, _, _, _]) dX10_addReasons_36 rfl ?_
        have ec : s_arC I1 x i = _ := if_pos hq
        rw [← ec]
        by_cases hc : 0 < s_arC I1 x i
        · refine l2_X10_addReasons hD1 hkk ((e.2 f_k_kind (by decide) kk).trans h115) hv hc (fun o4 o5 o6 => ?_) ((I1 f_s_rows kk).toNatClampNeg + 1) 0 _ _ _ (Nat.zero_le _) s_eqC.rfl' rfl (by omega)
          refine w_op (pc' := 97) (ll' := [_, _, _, _, _, _, _, _]) dX10_addReasons_94 rfl ?_
          refine w_goto (t := 2) dX10_addReasons_97 (by decide) ?_
          rw [show nI i + Int32.ofInt 1 = nI (i + 1) from nI_1 i]
          have ef : s_arK p nr kk x i I1 = _ := if_pos hc
          rw [s_run_s hi, ef] at hr
          exact ih (i + 1) _ _ _ _ _ (by omega) (e.trans (s_eqC.run s_eqC.arR _ _ _)) hr (by omega)
        · have ef : s_arK p nr kk x i I1 = I1 := if_neg hc
          rw [s_run_s hi, ef] at hr
          refine w_op (pc' := 40) dX10_addReasons_38 rfl ?_
          refine w_ifle (t := 94) dX10_addReasons_40 (by decide) (fun c40 => ?_) (fun c40 => absurd (Int32.not_le.mp c40) hc)
          refine w_op (pc' := 97) (ll' := [_, _, _, _, _, _, _, _]) dX10_addReasons_94 rfl ?_
          refine w_goto (t := 2) dX10_addReasons_97 (by decide) ?_
          rw [show nI i + Int32.ofInt 1 = nI (i + 1) from nI_1 i]
          exact ih (i + 1) _ _ _ _ _ (by omega) e hr (by omega)
      · refine w_iconst (v := 0) dX10_addReasons_22 rfl ?_
        refine w_goto (t := 33) dX10_addReasons_23 (by decide) ?_
        refine w_op (pc' := 35) (ll' := [_, _, _, _, _, _, _, _]) dX10_addReasons_33 rfl ?_
        refine w_iconst (v := 0) dX10_addReasons_35 rfl ?_
        refine w_op (pc' := 38) (ll' := [_, _, _, _, _, _, _, _]) dX10_addReasons_36 rfl ?_
        have ef : s_arK p nr kk x i I1 = I1 := if_neg (by rw [show s_arC I1 x i = 0 from if_neg (s_idx_neg.mp (Int32.not_le.mp c19))]; decide)
        rw [s_run_s hi, ef] at hr
        refine w_op (pc' := 40) dX10_addReasons_38 rfl ?_
        refine w_ifle (t := 94) dX10_addReasons_40 (by decide) (fun c40 => ?_) (fun c40 => absurd (Int32.le_refl _) c40)
        refine w_op (pc' := 97) (ll' := [_, _, _, _, _, _, _, _]) dX10_addReasons_94 rfl ?_
        refine w_goto (t := 2) dX10_addReasons_97 (by decide) ?_
        rw [show nI i + Int32.ofInt 1 = nI (i + 1) from nI_1 i]
        exact ih (i + 1) _ _ _ _ _ (by omega) e hr (by omega)
set_option maxRecDepth 100000 in
set_option maxHeartbeats 4000000 in
theorem c_X10_addReasons {X : e_XT} {d : Nat} {p : e_Sp} {I : e_I} {J : e_Jt} {c : Nat × Nat} {w : e_Rw1} {Q : e_Rt → e_SS → Prop} {nk nr : Nat} (hD : s_D p I nk nr) {kk : Nat} {x : Int32} (hkk : kk < nk) (h115 : I f_k_kind kk = 115) (hv : p.2.1 T_STOP kk = true) (k : Q (.inl none) (p, s_arS p nr kk x I, J, c, w)) : s_c X (d + 4) 112 [.ref (p.1 T_WORKS 0), .ref (p.1 T_STOP kk), .int x] (p, I, J, c, w) Q := by
  refine m_X10_addReasons (Nat.le_of_ble_eq_true rfl) ?_
  show s_w _ _ _ 0 _ _ _ _
  refine w_iconst (v := 0) dX10_addReasons_0 rfl ?_
  refine w_op (pc' := 2) (ll' := [_, _, _, _, _, _, _, _]) dX10_addReasons_1 rfl ?_
  exact l_X10_addReasons hD hkk h115 hv k (s_kcn x + 1) 0 _ _ _ _ _ (Nat.zero_le _) s_eqC.rfl' rfl (by omega)
set_option maxRecDepth 100000 in
set_option maxHeartbeats 4000000 in
theorem l_X10_findReasons {X : e_XT} {d : Nat} {p : e_Sp} {I : e_I} {J : e_Jt} {c : Nat × Nat} {w : e_Rw1} {Q : e_Rt → e_SS → Prop} {nk nr : Nat} (hD : s_D p I nk nr) {R : e_I} (k : Q (.inl none) (p, R, J, c, w)) : ∀ (n : Nat) (i : Nat) (I1 : e_I) (o2 : Option Value), (h1 : i ≤ nk) → (e : s_eqC I I1) → (hr : s_run (s_frK p nr) i (nk - i) I1 = R) → (hn : nk - i < n) → s_w X (d + 5) K_X10_findReasons 2 [some (.ref (p.1 T_WORKS 0)), some (.int (nI i)), o2] [] (p, I1, J, c, w) (fun r S' => e_rcr (none) r = true ∧ Q r S') := by
  intro n
  induction n with
  | zero =>
    intro i I1 o2 h1 e hr hn
    exact absurd hn (Nat.not_lt_zero _)
  | succ n ih =>
    intro i I1 o2 h1 e hr hn
    have hD1 := hD.eq e
    have hC := hD1.1
    have hp := hC.1
    have hn40 := hC.2.1.1
    have hk40 := hC.2.1.2
    have hn10 := hC.2.2.1.1
    have hr10 := hC.2.2.1.2
    refine w_op (pc' := 3) dX10_findReasons_2 rfl ?_
    refine w_op (pc' := 4) dX10_findReasons_3 rfl ?_
    refine t_getG0 (G := g_w_CONS) dX10_findReasons_4 rfl rfl (by decide) rfl (fun _ => rfl) (hp.1 _ rfl) ?_
    refine t_getG0 (G := g_n_knobs) dX10_findReasons_7 rfl rfl (by decide) rfl (fun _ => rfl) (hp.1 _ rfl) ?_
    refine t_callV (t := T_LIST) (As := []) dX10_findReasons_10 rfl rM_Jx4a65c_size_8abf5 (by decide) rfl rfl (by decide) (by decide) (Nat.le_of_ble_eq_true rfl) rfl (hp.2 _ (by decide)) (c_size (hp.2 _ (by decide)) ?_)
    show s_w _ _ _ 13 _ _ _ _
    rw [hk40]
    refine w_icmpge (t := 67) dX10_findReasons_13 (by decide) (fun c13 => ?_) (fun c13 => ?_)
    · have hi : nk ≤ i := (nI_leI (by omega) (by omega)).mp c13
      exact w_return dX10_findReasons_67 ⟨rfl, by rw [s_run_z hi] at hr; subst hr; exact k⟩
    · have hi : i < nk := Nat.lt_of_not_le (fun z => c13 ((nI_leI (by omega) (by omega)).mpr z))
      refine w_op (pc' := 17) dX10_findReasons_16 rfl ?_
      refine t_getG0 (G := g_w_CONS) dX10_findReasons_17 rfl rfl (by decide) rfl (fun _ => rfl) (hp.1 _ rfl) ?_
      refine t_getG0 (G := g_n_knobs) dX10_findReasons_20 rfl rfl (by decide) rfl (fun _ => rfl) (hp.1 _ rfl) ?_
      refine w_op (pc' := 24) dX10_findReasons_23 rfl ?_
      refine t_callV (t := T_LIST) (As := [_]) dX10_findReasons_24 rfl rM_Jx4a65c_get_915e3 (by decide) rfl rfl (by decide) (by decide) (Nat.le_of_ble_eq_true rfl) rfl (hp.2 _ (by decide)) (c_get1 hp hk40 (by omega) hi ?_)
      show s_w _ _ _ 27 _ _ _ _
      refine t_chk dX10_findReasons_27 rfl rfl (by decide) (hC.kn hi) ?_
      refine w_op (pc' := 31) (ll' := [_, _, _]) dX10_findReasons_30 rfl ?_
      refine w_op (pc' := 32) dX10_findReasons_31 rfl ?_
      refine t_getStop dX10_findReasons_32 rfl (hC.kn hi) ?_
      by_cases z32 : p.2.1 T_STOP (i) = true
      · rw [if_pos z32]
        refine w_ifnull_f dX10_findReasons_35 ?_
        refine w_op (pc' := 39) dX10_findReasons_38 rfl ?_
        refine t_getG0 (G := g_w_CONS) dX10_findReasons_39 rfl rfl (by decide) rfl (fun _ => rfl) (hp.1 _ rfl) ?_
        refine w_op (pc' := 43) dX10_findReasons_42 rfl ?_
        refine t_callV (t := T_CONS) (As := [_]) dX10_findReasons_43 rfl rM_X0_isSounding (by decide) rfl rfl (by decide) (by decide) (Nat.le_of_ble_eq_true rfl) rfl (hp.1 _ rfl) (c_X0_isSounding hp (hC.kn hi) (hC.st hi) ?_)
        show s_w _ _ _ 46 _ _ _ _
        refine w_ifeq (t := 61) dX10_findReasons_46 (by decide) (fun c46 => ?_) (fun c46 => ?_)
        · refine w_op (pc' := 64) (ll' := [_, _, _]) dX10_findReasons_61 rfl ?_
          refine w_goto (t := 2) dX10_findReasons_64 (by decide) ?_
          rw [show nI i + Int32.ofInt 1 = nI (i + 1) from nI_1 i]
          have ef : s_frK p nr i I1 = I1 := if_neg (fun z => by rw [bI_0.mp c46] at z; cases z)
          rw [s_run_s hi, ef] at hr
          exact ih (i + 1) _ _ (by omega) (e) hr (by omega)
        · refine w_op (pc' := 50) dX10_findReasons_49 rfl ?_
          refine w_op (pc' := 51) dX10_findReasons_50 rfl ?_
          refine t_getStop dX10_findReasons_51 rfl (hC.kn hi) ?_
          rw [if_pos z32]
          refine w_op (pc' := 55) dX10_findReasons_54 rfl ?_
          refine t_getI (F := f_k_division) dX10_findReasons_55 rfl rfl (by decide) rfl ⟨rfl, fun _ => rfl⟩ (hC.kn hi) ?_
          refine t_callV (t := T_WORKS) (As := [_, _]) dX10_findReasons_58 rfl rM_X10_addReasons (by decide) rfl rfl (by decide) (by decide) (Nat.le_of_ble_eq_true rfl) rfl (hp.1 _ rfl) (c_X10_addReasons hD1 hi (s_so_k (bI_n0.mp c46)) z32 ?_)
          show s_w _ _ _ 61 _ _ _ _
          refine w_op (pc' := 64) (ll' := [_, _, _]) dX10_findReasons_61 rfl ?_
          refine w_goto (t := 2) dX10_findReasons_64 (by decide) ?_
          rw [show nI i + Int32.ofInt 1 = nI (i + 1) from nI_1 i]
          have ef : s_frK p nr i I1 = _ := if_pos (bI_n0.mp c46)
          rw [s_run_s hi, ef] at hr
          exact ih (i + 1) _ _ (by omega) (e.trans s_eqC.arS) hr (by omega)
      · rw [if_neg z32]
        refine w_ifnull_t (t := 61) dX10_findReasons_35 (by decide) ?_
        refine w_op (pc' := 64) (ll' := [_, _, _]) dX10_findReasons_61 rfl ?_
        refine w_goto (t := 2) dX10_findReasons_64 (by decide) ?_
        rw [show nI i + Int32.ofInt 1 = nI (i + 1) from nI_1 i]
        have ef : s_frK p nr i I1 = I1 := if_neg (fun z => z32 ((hC.st hi).mpr (s_so_k z)))
        rw [s_run_s hi, ef] at hr
        exact ih (i + 1) _ _ (by omega) (e) hr (by omega)
set_option maxRecDepth 100000 in
set_option maxHeartbeats 4000000 in
theorem c_X10_findReasons {X : e_XT} {d : Nat} {p : e_Sp} {I : e_I} {J : e_Jt} {c : Nat × Nat} {w : e_Rw1} {Q : e_Rt → e_SS → Prop} {nk nr : Nat} (hD : s_D p I nk nr) (k : Q (.inl none) (p, s_fs p nk nr I, J, c, w)) : s_c X (d + 5) 111 [.ref (p.1 T_WORKS 0)] (p, I, J, c, w) Q := by
  refine m_X10_findReasons (Nat.le_of_ble_eq_true rfl) ?_
  show s_w _ _ _ 0 _ _ _ _
  refine w_iconst (v := 0) dX10_findReasons_0 rfl ?_
  refine w_op (pc' := 2) (ll' := [_, _, _]) dX10_findReasons_1 rfl ?_
  exact l_X10_findReasons hD k (nk + 1) 0 _ _ (Nat.zero_le _) s_eqC.rfl' rfl (by omega)
